set_option maxHeartbeats 1000000 in
set_option maxRecDepth 100000 in
theorem m_X7_breaks (l : Launch) (g : Gm) (sz : Nat) (ws : va_W) (h0 : Nat) (x1 : Int32) (x2 : Int32) (hG : Good g ws) (o_h0 : gC ws h0 6) : Met l yX7_breaks (wt yX7_breaks cX7_breaks 3 (some .boolean)) ({ frames := 0, cells := 0, slots := 0, locals := 0 }) (va_Pc [.ref h0, .int x1, .int x2] (st_G g sz ws)) (va_Qi (fun (r : Int32) (u9 : va_W) => r = 0 ∨ r = 1) (gQ1 g [(6, 2), (6, 3)] [] none (va_A ws sz) ws) (va_A ws sz)) (0) (0) (va_A ws sz) := by
  refine Met.ofW (cc := cX7_breaks) (maxL := 3) (ret := (some .boolean)) (by decide) rfl ?_
  intro p e s m args below meth c s₁ B hml hv
  obtain ⟨rfl, hsz, hP, hK, hD0, hex, hE⟩ := hv
  have hx := B.exec
  have hb := B.bytes
  have hr := B.returns
  have hts0 := atoms_spec (ws := wt yX7_breaks cX7_breaks 3 (some .boolean)) B.pre
  have hts : ∀ w ∈ tb, w.before _ s = true := fun w h => hts0 w (List.mem_cons_of_mem _ h)
  have hown : s.vm.findClass RX7 = some m.cls := findClass_of_methodNamed B.named
  subst hsz
  have hD := hD0.self (sz := s.heap.size)
  generalize hAe : va_A ws s.heap.size = A at hD hE ⊢
  have hA : ∀ q : Nat, s.heap.size ≤ q → A q := fun q h => by rw [← hAe]; exact Or.inr h
  have hS : va_S A s.heap s.heap [] := va_S.rf
  have hl := lv_entry ([.ref h0, .int x1, .int x2]) (n := 3) (Nat.le_of_ble_eq_true rfl)
  rw [lg_entry_eq]
  generalize (lg_sl ([.ref h0, .int x1, .int x2]) ++ List.replicate (3 - (lg_sl ([.ref h0, .int x1, .int x2])).length) Slot.unset).toArray = ls at hl ⊢
  have hl : lv_has ls 3 [(0, .ref h0), (1, .int x1), (2, .int x2)] := hl
  refine lv_aload_n hx hb dX7_breaks_0 rfl (lv_at hl 0 rfl) ?_
  refine lv_iload_n hx hb dX7_breaks_1 rfl (lv_at hl 1 rfl) ?_
  obtain ⟨k_1, fs9, hk_1⟩ := gC_of o_h0
  obtain ⟨r0_1, n0_1, c1_1, c2_1, c3_1, r4_1, n4_1, c5_1, c6_1, c7_1, c8_1, r9_1, n9_1, r10_1, n10_1, r11_1, n11_1, c12_1, c13_1, c14_1, c15_1, c16_1, rfl, a_r0_1, f1_1, a_r4_1, f3_1, a_r9_1, f5_1, a_r10_1, f7_1, a_r11_1, f9_1, f10_1, f11_1, f12_1, f13_1, f14_1, -⟩ := (hG.1 _ _ _ _ hk_1).hX7 rfl
  have hV9 : okv ws 6 2 (.int x1) := okv_i
  refine va_put (D := gD g) (ci := 6) (v := .int x1) (ty := .int) (C := RX7) (T := TX7) (N := 17) hx hb hts inX7 tyX7 tyX7_ok nmX7 hown hK hP hD hS k_1 hk_1 rfl 2 (by decide) (hts _ kw_1280) (fun _ h9 => h9) rfl (by decide +kernel) rfl rfl (Nat.le_of_ble_eq_true rfl) dX7_breaks_2 (fun H locs hP hD hS => ?_)
  have hi_2 : invX7 g ws h0 [.ref r0_1, .int c1_1, .int x1, .int c3_1, .ref r4_1, .int c5_1, .int c6_1, .int c7_1, .int c8_1, .ref r9_1, .ref r10_1, .ref r11_1, .int c12_1, .int c13_1, .int c14_1, .int c15_1, .int c16_1] := ⟨r0_1, (n0_1), (c1_1), (x1), (c3_1), r4_1, (n4_1), (c5_1), (c6_1), (c7_1), (c8_1), r9_1, (n9_1), r10_1, (n10_1), r11_1, (n11_1), (c12_1), (c13_1), (c14_1), (c15_1), (c16_1), rfl, a_r0_1, f1_1, a_r4_1, f3_1, a_r9_1, f5_1, a_r10_1, f7_1, a_r11_1, f9_1, f10_1, f11_1, f12_1, f13_1, f14_1, trivial⟩
  obtain ⟨ws_3, e_ws_3⟩ : ∃ z, z = ws.set k_1 (h0, .inr (6, [.ref r0_1, .int c1_1, .int x1, .int c3_1, .ref r4_1, .int c5_1, .int c6_1, .int c7_1, .int c8_1, .ref r9_1, .ref r10_1, .ref r11_1, .int c12_1, .int c13_1, .int c14_1, .int c15_1, .int c16_1])) := ⟨_, rfl⟩
  have hP : va_P (gD g) cl0 ws_3 H := by rw [e_ws_3]; exact hP
  have hD : va_D A ws_3 := by rw [e_ws_3]; exact hD
  have E_4 : gE ws ws_3 := gE_set e_ws_3 hk_1 (cw_o (fi := 2) (v := .int x1) rfl (by decide))
  have hG : Good g ws_3 := Good_set (fi := 2) (v := .int x1) e_ws_3 hk_1 E_4 rfl hV9 hG (ivX7 hi_2)
  have Fr_5 : gF [(6, 2)] [] (some h0) ws ws_3 := gF_put (fi := 2) (v := .int x1) e_ws_3 hk_1 rfl (by decide)
  have hkN := gset_self e_ws_3 hk_1
  have hk_1 := hkN
  have o_h0 := E_4.1 _ _ o_h0
  have a_r0_1 := E_4.1 _ _ a_r0_1
  have a_r4_1 := E_4.1 _ _ a_r4_1
  have a_r9_1 := E_4.1 _ _ a_r9_1
  have a_r10_1 := E_4.1 _ _ a_r10_1
  have a_r11_1 := E_4.1 _ _ a_r11_1
  refine lv_aload_n hx hb dX7_breaks_5 rfl (lv_at hl 0 rfl) ?_
  refine lv_iload_n hx hb dX7_breaks_6 rfl (lv_at hl 2 rfl) ?_
  have hV9 : okv ws_3 6 3 (.int x2) := okv_i
  refine va_put (D := gD g) (ci := 6) (v := .int x2) (ty := .int) (C := RX7) (T := TX7) (N := 17) hx hb hts inX7 tyX7 tyX7_ok nmX7 hown hK hP hD hS k_1 hk_1 rfl 3 (by decide) (hts _ kw_1281) (fun _ h9 => h9) rfl (by decide +kernel) rfl rfl (Nat.le_of_ble_eq_true rfl) dX7_breaks_7 (fun H locs hP hD hS => ?_)
  have hi_6 : invX7 g ws_3 h0 [.ref r0_1, .int c1_1, .int x1, .int x2, .ref r4_1, .int c5_1, .int c6_1, .int c7_1, .int c8_1, .ref r9_1, .ref r10_1, .ref r11_1, .int c12_1, .int c13_1, .int c14_1, .int c15_1, .int c16_1] := ⟨r0_1, (n0_1), (c1_1), (x1), (x2), r4_1, (n4_1), (c5_1), (c6_1), (c7_1), (c8_1), r9_1, (n9_1), r10_1, (n10_1), r11_1, (n11_1), (c12_1), (c13_1), (c14_1), (c15_1), (c16_1), rfl, a_r0_1, f1_1, a_r4_1, f3_1, a_r9_1, f5_1, a_r10_1, f7_1, a_r11_1, f9_1, f10_1, f11_1, f12_1, f13_1, f14_1, trivial⟩
  obtain ⟨ws_7, e_ws_7⟩ : ∃ z, z = ws_3.set k_1 (h0, .inr (6, [.ref r0_1, .int c1_1, .int x1, .int x2, .ref r4_1, .int c5_1, .int c6_1, .int c7_1, .int c8_1, .ref r9_1, .ref r10_1, .ref r11_1, .int c12_1, .int c13_1, .int c14_1, .int c15_1, .int c16_1])) := ⟨_, rfl⟩
  have hP : va_P (gD g) cl0 ws_7 H := by rw [e_ws_7]; exact hP
  have hD : va_D A ws_7 := by rw [e_ws_7]; exact hD
  have E_8 : gE ws_3 ws_7 := gE_set e_ws_7 hk_1 (cw_o (fi := 3) (v := .int x2) rfl (by decide))
  have hG : Good g ws_7 := Good_set (fi := 3) (v := .int x2) e_ws_7 hk_1 E_8 rfl hV9 hG (ivX7 hi_6)
  have Fr_9 : gF [(6, 3)] [] (some h0) ws_3 ws_7 := gF_put (fi := 3) (v := .int x2) e_ws_7 hk_1 rfl (by decide)
  have hkN := gset_self e_ws_7 hk_1
  have hk_1 := hkN
  have o_h0 := E_8.1 _ _ o_h0
  have a_r0_1 := E_8.1 _ _ a_r0_1
  have a_r4_1 := E_8.1 _ _ a_r4_1
  have a_r9_1 := E_8.1 _ _ a_r9_1
  have a_r10_1 := E_8.1 _ _ a_r10_1
  have a_r11_1 := E_8.1 _ _ a_r11_1
  refine lv_iconst (v := 0) hx hb dX7_breaks_10 (by decide) ?_
  refine W.widen (k := 0) (n := 0) (Nat.le_of_ble_eq_true rfl) (Nat.le_of_ble_eq_true rfl) ?_
  exact W.zret (v := 0) hx hb hr (nz (Or.inl rfl)) (fun t9 ht9 hW9 => ⟨⟨_, ws_7, rfl, (Or.inl rfl), ⟨(E_4.tr E_8), (gF.tr (gF.mo (F' := [(6, 2), (6, 3)]) (C' := []) (S' := none) Fr_5 (by decide) (fun _ h => h) (Or.inl rfl)) (gF.mo (F' := [(6, 2), (6, 3)]) (C' := []) (S' := none) Fr_9 (by decide) (fun _ h => h) (Or.inl rfl))), hG, by rw [ht9]; exact hP, hD⟩⟩, hS.F ht9⟩) hS.2.2 dX7_breaks_11
set_option maxHeartbeats 1000000 in
set_option maxRecDepth 100000 in
theorem m_X7_u1 (l : Launch) (g : Gm) (sz : Nat) (ws : va_W) (h0 : Nat) (x1 : Int32) (hG : Good g ws) (o_h0 : gC ws h0 6) : Met l yX7_u1 (wt yX7_u1 cX7_u1 2 (some .int)) ({ frames := 0, cells := 0, slots := 0, locals := 0 }) (va_Pc [.ref h0, .int x1] (st_G g sz ws)) (va_Qi (fun (r : Int32) (u9 : Unit) => 0 ≤ r.toInt ∧ r.toInt ≤ 255) (gQ0 g (va_A ws sz) ws) (va_A ws sz)) (0) (0) (va_A ws sz) := by
  refine Met.ofW (cc := cX7_u1) (maxL := 2) (ret := (some .int)) (by decide) rfl ?_
  intro p e s m args below meth c s₁ B hml hv
  obtain ⟨rfl, hsz, hP, hK, hD0, hex, hE⟩ := hv
  have hx := B.exec
  have hb := B.bytes
  have hr := B.returns
  have hts0 := atoms_spec (ws := wt yX7_u1 cX7_u1 2 (some .int)) B.pre
  have hts : ∀ w ∈ tb, w.before _ s = true := fun w h => hts0 w (List.mem_cons_of_mem _ h)
  have hown : s.vm.findClass RX7 = some m.cls := findClass_of_methodNamed B.named
  subst hsz
  have hD := hD0.self (sz := s.heap.size)
  generalize hAe : va_A ws s.heap.size = A at hD hE ⊢
  have hA : ∀ q : Nat, s.heap.size ≤ q → A q := fun q h => by rw [← hAe]; exact Or.inr h
  have hS : va_S A s.heap s.heap [] := va_S.rf
  have hl := lv_entry ([.ref h0, .int x1]) (n := 2) (Nat.le_of_ble_eq_true rfl)
  rw [lg_entry_eq]
  generalize (lg_sl ([.ref h0, .int x1]) ++ List.replicate (2 - (lg_sl ([.ref h0, .int x1])).length) Slot.unset).toArray = ls at hl ⊢
  have hl : lv_has ls 2 [(0, .ref h0), (1, .int x1)] := hl
  refine lv_iload_n hx hb dX7_u1_0 rfl (lv_at hl 1 rfl) ?_
  have J_35 : ∀ (t_1 : Int32) (H : Heap) (locs : List Loc) (ls : Array Slot), 0 ≤ t_1.toInt ∧ t_1.toInt ≤ 255 → va_P (gD g) cl0 ws H → va_D A ws → va_S A s.heap H locs → lv_has ls 2 [] → W p l e (headSpec (wt yX7_u1 cX7_u1 2 (some .int)) ({ frames := 0, cells := 0, slots := 0, locals := 0 })).room s m ([.ref h0, .int x1] : List Value).toArray below meth c H locs (0) (0) (MQ below (va_Qi (fun (r : Int32) (u9 : Unit) => 0 ≤ r.toInt ∧ r.toInt ≤ 255) (gQ0 g A ws) A) ([.ref h0, .int x1] : List Value).toArray s (0) (0) A) (F0 m 35 ls [.int t_1]) := by
    intro t_1 H locs ls iv_2 hP hD hS hl
    refine W.widen (k := 0) (n := 0) (Nat.le_of_ble_eq_true rfl) (Nat.le_of_ble_eq_true rfl) ?_
    exact W.iret (v := t_1) hx hb hr (fun t9 ht9 hW9 => ⟨⟨_, (), rfl, (by have q_iv_2 := iv_2; have g_t_1 := i_rg t_1; have g_x1 := i_rg x1; omega), ⟨by rw [ht9]; exact hP, hD⟩⟩, hS.F ht9⟩) hS.2.2 dX7_u1_35
  have J_21 : ∀  (H : Heap) (locs : List Loc) (ls : Array Slot), va_P (gD g) cl0 ws H → va_D A ws → va_S A s.heap H locs → lv_has ls 2 [] → W p l e (headSpec (wt yX7_u1 cX7_u1 2 (some .int)) ({ frames := 0, cells := 0, slots := 0, locals := 0 })).room s m ([.ref h0, .int x1] : List Value).toArray below meth c H locs (0) (0) (MQ below (va_Qi (fun (r : Int32) (u9 : Unit) => 0 ≤ r.toInt ∧ r.toInt ≤ 255) (gQ0 g A ws) A) ([.ref h0, .int x1] : List Value).toArray s (0) (0) A) (F0 m 21 ls []) := by
    intro  H locs ls  hP hD hS hl
    refine lv_iconst (v := 0) hx hb dX7_u1_21 (by decide) ?_
    refine lv_goto (tgt := 35) hx hb dX7_u1_22 (by decide) ?_
    exact J_35 (0) H locs ls (by have e0 : (0 : Int32).toInt = 0 := (by decide); have g_x1 := i_rg x1; omega) hP hD hS (lv_sub hl [] rfl)
  refine lv_if_lt (tgt := 21) hx hb dX7_u1_1 (by decide) (fun c_7 => ?_) (fun c_7 => ?_)
  · exact J_21  _ _ ls  hP hD hS (lv_sub hl [] rfl)
  · refine lv_iload_n hx hb dX7_u1_4 rfl (lv_at hl 1 rfl) ?_
    refine lv_aload_n hx hb dX7_u1_5 rfl (lv_at hl 0 rfl) ?_
    obtain ⟨k_8, fs9, hk_8⟩ := gC_of o_h0
    obtain ⟨r0_8, n0_8, c1_8, c2_8, c3_8, r4_8, n4_8, c5_8, c6_8, c7_8, c8_8, r9_8, n9_8, r10_8, n10_8, r11_8, n11_8, c12_8, c13_8, c14_8, c15_8, c16_8, rfl, a_r0_8, f1_8, a_r4_8, f3_8, a_r9_8, f5_8, a_r10_8, f7_8, a_r11_8, f9_8, f10_8, f11_8, f12_8, f13_8, f14_8, -⟩ := (hG.1 _ _ _ _ hk_8).hX7 rfl
    refine va_get (D := gD g) (ci := 6) (v := .int c1_8) (C := RX7) (T := TX7) (N := 17) hx hb hts inX7 hown hK hP k_8 hk_8 rfl 1 (by decide) (hts _ kw_1275) (fun _ h9 => h9) rfl dX7_u1_6 ?_
    refine lv_icmp_ge (tgt := 21) hx hb dX7_u1_9 (by decide) (fun c_9 => ?_) (fun c_9 => ?_)
    · exact J_21  _ _ ls  hP hD hS (lv_sub hl [] rfl)
    · refine lv_iload_n hx hb dX7_u1_12 rfl (lv_at hl 1 rfl) ?_
      refine lv_aload_n hx hb dX7_u1_13 rfl (lv_at hl 0 rfl) ?_
      refine va_get (D := gD g) (ci := 6) (v := .ref r0_8) (C := RX7) (T := TX7) (N := 17) hx hb hts inX7 hown hK hP k_8 hk_8 rfl 0 (by decide) (hts _ kw_1341) (fun _ h9 => h9) rfl dX7_u1_14 ?_
      obtain ⟨k_10, f_10, hk_10⟩ := gI_of a_r0_8
      obtain ⟨z_11, ez_11⟩ : ∃ z : Int32, Int32.ofNat n0_8 = z := ⟨_, rfl⟩
      refine va_alen (v := z_11) hx hb hK hP k_10 0 hk_10 rfl ez_11 dX7_u1_17 ?_
      refine lv_icmp_lt (tgt := 25) hx hb dX7_u1_18 (by decide) (fun c_12 => ?_) (fun c_12 => ?_)
      · refine lv_aload_n hx hb dX7_u1_25 rfl (lv_at hl 0 rfl) ?_
        refine va_get (D := gD g) (ci := 6) (v := .ref r0_8) (C := RX7) (T := TX7) (N := 17) hx hb hts inX7 hown hK hP k_8 hk_8 rfl 0 (by decide) (hts _ kw_1341) (fun _ h9 => h9) rfl dX7_u1_26 ?_
        refine lv_iload_n hx hb dX7_u1_29 rfl (lv_at hl 1 rfl) ?_
        refine va_bald hx hb hK hP k_10 0 hk_10 rfl (i_in2 (by have e0 : (0 : Int32).toInt = 0 := (by decide); have q_c_7 := i_nlt c_7; have q_f1_8 := f1_8; have q_c_9 := i_nle c_9; have q_z_11 := i_len ez_11 f1_8; have q_c_12 := i_lt c_12; have q_f10_8 := f10_8; have g_c1_8 := i_rg c1_8; have g_x1 := i_rg x1; have g_z_11 := i_rg z_11; omega)) dX7_u1_30 ?_
        refine lv_topi (fun z_13 ez_13 => ?_)
        refine lv_sipush (v := 255) hx hb dX7_u1_31 (by decide) ?_
        refine lv_iand hx hb dX7_u1_34 ?_
        refine lv_topi (fun z_14 ez_14 => ?_)
        exact J_35 (z_14) _ _ ls (by have e0 : (0 : Int32).toInt = 0 := (by decide); have q_c_7 := i_nlt c_7; have q_c_9 := i_nle c_9; have q_c_12 := i_lt c_12; have q_z_14 := i_and (k := 8) (b := 256) ez_14 (by decide) (by decide) (by decide); have q_f10_8 := f10_8; have q_z_11 := i_len ez_11 f1_8; have g_c1_8 := i_rg c1_8; have g_x1 := i_rg x1; have g_z_11 := i_rg z_11; have g_z_13 := i_rg z_13; have g_z_14 := i_rg z_14; omega) hP hD hS (lv_sub hl [] rfl)
      · exact J_21  _ _ ls  hP hD hS (lv_sub hl [] rfl)
set_option maxHeartbeats 1000000 in
set_option maxRecDepth 100000 in
theorem m_X7_u2 (l : Launch) (g : Gm) (sz : Nat) (ws : va_W) (h0 : Nat) (x1 : Int32) (hG : Good g ws) (o_h0 : gC ws h0 6) : Met l yX7_u2 (wt yX7_u2 cX7_u2 2 (some .int)) ({ frames := 0, cells := 0, slots := 0, locals := 0 }) (va_Pc [.ref h0, .int x1] (st_G g sz ws)) (va_Qi (fun (r : Int32) (u9 : Unit) => 0 ≤ r.toInt ∧ r.toInt ≤ 65535) (gQ0 g (va_A ws sz) ws) (va_A ws sz)) (0) (0) (va_A ws sz) := by
  refine Met.ofW (cc := cX7_u2) (maxL := 2) (ret := (some .int)) (by decide) rfl ?_
  intro p e s m args below meth c s₁ B hml hv
  obtain ⟨rfl, hsz, hP, hK, hD0, hex, hE⟩ := hv
  have hx := B.exec
  have hb := B.bytes
  have hr := B.returns
  have hts0 := atoms_spec (ws := wt yX7_u2 cX7_u2 2 (some .int)) B.pre
  have hts : ∀ w ∈ tb, w.before _ s = true := fun w h => hts0 w (List.mem_cons_of_mem _ h)
  have hown : s.vm.findClass RX7 = some m.cls := findClass_of_methodNamed B.named
  subst hsz
  have hD := hD0.self (sz := s.heap.size)
  generalize hAe : va_A ws s.heap.size = A at hD hE ⊢
  have hA : ∀ q : Nat, s.heap.size ≤ q → A q := fun q h => by rw [← hAe]; exact Or.inr h
  have hS : va_S A s.heap s.heap [] := va_S.rf
  have hl := lv_entry ([.ref h0, .int x1]) (n := 2) (Nat.le_of_ble_eq_true rfl)
  rw [lg_entry_eq]
  generalize (lg_sl ([.ref h0, .int x1]) ++ List.replicate (2 - (lg_sl ([.ref h0, .int x1])).length) Slot.unset).toArray = ls at hl ⊢
  have hl : lv_has ls 2 [(0, .ref h0), (1, .int x1)] := hl
  refine lv_iload_n hx hb dX7_u2_0 rfl (lv_at hl 1 rfl) ?_
  have J_26 : ∀  (H : Heap) (locs : List Loc) (ls : Array Slot), va_P (gD g) cl0 ws H → va_D A ws → va_S A s.heap H locs → lv_has ls 2 [] → W p l e (headSpec (wt yX7_u2 cX7_u2 2 (some .int)) ({ frames := 0, cells := 0, slots := 0, locals := 0 })).room s m ([.ref h0, .int x1] : List Value).toArray below meth c H locs (0) (0) (MQ below (va_Qi (fun (r : Int32) (u9 : Unit) => 0 ≤ r.toInt ∧ r.toInt ≤ 65535) (gQ0 g A ws) A) ([.ref h0, .int x1] : List Value).toArray s (0) (0) A) (F0 m 26 ls []) := by
    intro  H locs ls  hP hD hS hl
    refine lv_iconst (v := 0) hx hb dX7_u2_26 (by decide) ?_
    refine W.widen (k := 0) (n := 0) (Nat.le_of_ble_eq_true rfl) (Nat.le_of_ble_eq_true rfl) ?_
    exact W.iret (v := 0) hx hb hr (fun t9 ht9 hW9 => ⟨⟨_, (), rfl, (by have e0 : (0 : Int32).toInt = 0 := (by decide); have g_x1 := i_rg x1; omega), ⟨by rw [ht9]; exact hP, hD⟩⟩, hS.F ht9⟩) hS.2.2 dX7_u2_27
  refine lv_if_lt (tgt := 26) hx hb dX7_u2_1 (by decide) (fun c_3 => ?_) (fun c_3 => ?_)
  · exact J_26  _ _ ls  hP hD hS (lv_sub hl [] rfl)
  · refine lv_iload_n hx hb dX7_u2_4 rfl (lv_at hl 1 rfl) ?_
    refine lv_aload_n hx hb dX7_u2_5 rfl (lv_at hl 0 rfl) ?_
    obtain ⟨k_4, fs9, hk_4⟩ := gC_of o_h0
    obtain ⟨r0_4, n0_4, c1_4, c2_4, c3_4, r4_4, n4_4, c5_4, c6_4, c7_4, c8_4, r9_4, n9_4, r10_4, n10_4, r11_4, n11_4, c12_4, c13_4, c14_4, c15_4, c16_4, rfl, a_r0_4, f1_4, a_r4_4, f3_4, a_r9_4, f5_4, a_r10_4, f7_4, a_r11_4, f9_4, f10_4, f11_4, f12_4, f13_4, f14_4, -⟩ := (hG.1 _ _ _ _ hk_4).hX7 rfl
    refine va_get (D := gD g) (ci := 6) (v := .int c1_4) (C := RX7) (T := TX7) (N := 17) hx hb hts inX7 hown hK hP k_4 hk_4 rfl 1 (by decide) (hts _ kw_1275) (fun _ h9 => h9) rfl dX7_u2_6 ?_
    refine lv_iconst (v := 2) hx hb dX7_u2_9 (by decide) ?_
    refine lv_isub hx hb dX7_u2_10 ?_
    refine lv_topi (fun z_5 ez_5 => ?_)
    refine lv_icmp_gt (tgt := 26) hx hb dX7_u2_11 (by decide) (fun c_6 => ?_) (fun c_6 => ?_)
    · exact J_26  _ _ ls  hP hD hS (lv_sub hl [] rfl)
    · refine lv_aload_n hx hb dX7_u2_14 rfl (lv_at hl 0 rfl) ?_
      refine va_get (D := gD g) (ci := 6) (v := .int c1_4) (C := RX7) (T := TX7) (N := 17) hx hb hts inX7 hown hK hP k_4 hk_4 rfl 1 (by decide) (hts _ kw_1275) (fun _ h9 => h9) rfl dX7_u2_15 ?_
      refine lv_aload_n hx hb dX7_u2_18 rfl (lv_at hl 0 rfl) ?_
      refine va_get (D := gD g) (ci := 6) (v := .ref r0_4) (C := RX7) (T := TX7) (N := 17) hx hb hts inX7 hown hK hP k_4 hk_4 rfl 0 (by decide) (hts _ kw_1341) (fun _ h9 => h9) rfl dX7_u2_19 ?_
      obtain ⟨k_7, f_7, hk_7⟩ := gI_of a_r0_4
      obtain ⟨z_8, ez_8⟩ : ∃ z : Int32, Int32.ofNat n0_4 = z := ⟨_, rfl⟩
      refine va_alen (v := z_8) hx hb hK hP k_7 0 hk_7 rfl ez_8 dX7_u2_22 ?_
      refine lv_icmp_le (tgt := 28) hx hb dX7_u2_23 (by decide) (fun c_9 => ?_) (fun c_9 => ?_)
      · refine lv_aload_n hx hb dX7_u2_28 rfl (lv_at hl 0 rfl) ?_
        refine va_get (D := gD g) (ci := 6) (v := .ref r0_4) (C := RX7) (T := TX7) (N := 17) hx hb hts inX7 hown hK hP k_4 hk_4 rfl 0 (by decide) (hts _ kw_1341) (fun _ h9 => h9) rfl dX7_u2_29 ?_
        refine lv_iload_n hx hb dX7_u2_32 rfl (lv_at hl 1 rfl) ?_
        refine va_bald hx hb hK hP k_7 0 hk_7 rfl (i_in2 (by have e0 : (0 : Int32).toInt = 0 := (by decide); have e2 : (2 : Int32).toInt = 2 := (by decide); have q_c_3 := i_nlt c_3; have q_f1_4 := f1_4; have q_c_6 := i_nlt c_6; have q_z_8 := i_len ez_8 f1_4; obtain ⟨u_z_5, q_z_5⟩ := i_sub ez_5; have q_c_9 := i_le c_9; have q_f10_4 := f10_4; have g_c1_4 := i_rg c1_4; have g_x1 := i_rg x1; have g_z_5 := i_rg z_5; have g_z_8 := i_rg z_8; omega)) dX7_u2_33 ?_
        refine lv_topi (fun z_10 ez_10 => ?_)
        refine lv_sipush (v := 255) hx hb dX7_u2_34 (by decide) ?_
        refine lv_iand hx hb dX7_u2_37 ?_
        refine lv_topi (fun z_11 ez_11 => ?_)
        refine lv_bipush (v := 8) hx hb dX7_u2_38 (by decide) ?_
        refine lv_ishl hx hb dX7_u2_40 ?_
        refine lv_topi (fun z_12 ez_12 => ?_)
        refine lv_aload_n hx hb dX7_u2_41 rfl (lv_at hl 0 rfl) ?_
        refine va_get (D := gD g) (ci := 6) (v := .ref r0_4) (C := RX7) (T := TX7) (N := 17) hx hb hts inX7 hown hK hP k_4 hk_4 rfl 0 (by decide) (hts _ kw_1341) (fun _ h9 => h9) rfl dX7_u2_42 ?_
        refine lv_iload_n hx hb dX7_u2_45 rfl (lv_at hl 1 rfl) ?_
        refine lv_iconst (v := 1) hx hb dX7_u2_46 (by decide) ?_
        refine lv_iadd hx hb dX7_u2_47 ?_
        refine lv_topi (fun z_13 ez_13 => ?_)
        refine va_bald hx hb hK hP k_7 0 hk_7 rfl (i_in2 (by have e0 : (0 : Int32).toInt = 0 := (by decide); have e1 : (1 : Int32).toInt = 1 := (by decide); have e2 : (2 : Int32).toInt = 2 := (by decide); have q_f1_4 := f1_4; have q_z_8 := i_len ez_8 f1_4; obtain ⟨u_z_13, q_z_13⟩ := i_add ez_13; have q_c_3 := i_nlt c_3; have q_c_6 := i_nlt c_6; have q_c_9 := i_le c_9; have q_f10_4 := f10_4; obtain ⟨u_z_5, q_z_5⟩ := i_sub ez_5; have g_c1_4 := i_rg c1_4; have g_x1 := i_rg x1; have g_z_13 := i_rg z_13; have g_z_5 := i_rg z_5; have g_z_8 := i_rg z_8; omega)) dX7_u2_48 ?_
        refine lv_topi (fun z_14 ez_14 => ?_)
        refine lv_sipush (v := 255) hx hb dX7_u2_49 (by decide) ?_
        refine lv_iand hx hb dX7_u2_52 ?_
        refine lv_topi (fun z_15 ez_15 => ?_)
        refine lv_ior hx hb dX7_u2_53 ?_
        refine lv_topi (fun z_16 ez_16 => ?_)
        refine W.widen (k := 0) (n := 0) (Nat.le_of_ble_eq_true rfl) (Nat.le_of_ble_eq_true rfl) ?_
        exact W.iret (v := z_16) hx hb hr (fun t9 ht9 hW9 => ⟨⟨_, (), rfl, (by have e0 : (0 : Int32).toInt = 0 := (by decide); have e1 : (1 : Int32).toInt = 1 := (by decide); have e2 : (2 : Int32).toInt = 2 := (by decide); have q_c_3 := i_nlt c_3; have q_c_6 := i_nlt c_6; obtain ⟨u_z_13, q_z_13⟩ := i_add ez_13; have q_z_16 := i_or (k := 16) (b := 65536) ez_16 (by decide) (by decide) (i_shl (k := 8) (j := 8) (b := 256) (c := 65536) ez_12 (by decide) (by decide) (by decide) (by decide) (i_and (k := 8) (b := 256) ez_11 (by decide) (by decide) (by decide))) (i_wid (i_and (k := 8) (b := 256) ez_15 (by decide) (by decide) (by decide)) (by decide)); obtain ⟨u_z_5, q_z_5⟩ := i_sub ez_5; have q_z_12 := i_shl (k := 8) (j := 8) (b := 256) (c := 65536) ez_12 (by decide) (by decide) (by decide) (by decide) (i_and (k := 8) (b := 256) ez_11 (by decide) (by decide) (by decide)); have q_z_15 := i_and (k := 8) (b := 256) ez_15 (by decide) (by decide) (by decide); have q_f10_4 := f10_4; have q_c_9 := i_le c_9; have q_z_11 := i_and (k := 8) (b := 256) ez_11 (by decide) (by decide) (by decide); have g_c1_4 := i_rg c1_4; have g_x1 := i_rg x1; have g_z_10 := i_rg z_10; have g_z_11 := i_rg z_11; have g_z_12 := i_rg z_12; have g_z_13 := i_rg z_13; have g_z_14 := i_rg z_14; have g_z_15 := i_rg z_15; have g_z_16 := i_rg z_16; have g_z_5 := i_rg z_5; have g_z_8 := i_rg z_8; omega), ⟨by rw [ht9]; exact hP, hD⟩⟩, hS.F ht9⟩) hS.2.2 dX7_u2_54
      · exact J_26  _ _ ls  hP hD hS (lv_sub hl [] rfl)
set_option maxHeartbeats 1000000 in
set_option maxRecDepth 100000 in
theorem m_X7_s4 (l : Launch) (g : Gm) (sz : Nat) (ws : va_W) (h0 : Nat) (x1 : Int32) (hG : Good g ws) (o_h0 : gC ws h0 6) : Met l yX7_s4 (wt yX7_s4 cX7_s4 2 (some .int)) ({ frames := 0, cells := 0, slots := 0, locals := 0 }) (va_Pc [.ref h0, .int x1] (st_G g sz ws)) (va_Qi (fun (r : Int32) (u9 : Unit) => True) (gQ0 g (va_A ws sz) ws) (va_A ws sz)) (0) (0) (va_A ws sz) := by
  refine Met.ofW (cc := cX7_s4) (maxL := 2) (ret := (some .int)) (by decide) rfl ?_
  intro p e s m args below meth c s₁ B hml hv
  obtain ⟨rfl, hsz, hP, hK, hD0, hex, hE⟩ := hv
  have hx := B.exec
  have hb := B.bytes
  have hr := B.returns
  have hts0 := atoms_spec (ws := wt yX7_s4 cX7_s4 2 (some .int)) B.pre
  have hts : ∀ w ∈ tb, w.before _ s = true := fun w h => hts0 w (List.mem_cons_of_mem _ h)
  have hown : s.vm.findClass RX7 = some m.cls := findClass_of_methodNamed B.named
  subst hsz
  have hD := hD0.self (sz := s.heap.size)
  generalize hAe : va_A ws s.heap.size = A at hD hE ⊢
  have hA : ∀ q : Nat, s.heap.size ≤ q → A q := fun q h => by rw [← hAe]; exact Or.inr h
  have hS : va_S A s.heap s.heap [] := va_S.rf
  have hl := lv_entry ([.ref h0, .int x1]) (n := 2) (Nat.le_of_ble_eq_true rfl)
  rw [lg_entry_eq]
  generalize (lg_sl ([.ref h0, .int x1]) ++ List.replicate (2 - (lg_sl ([.ref h0, .int x1])).length) Slot.unset).toArray = ls at hl ⊢
  have hl : lv_has ls 2 [(0, .ref h0), (1, .int x1)] := hl
  refine lv_iload_n hx hb dX7_s4_0 rfl (lv_at hl 1 rfl) ?_
  have J_26 : ∀  (H : Heap) (locs : List Loc) (ls : Array Slot), va_P (gD g) cl0 ws H → va_D A ws → va_S A s.heap H locs → lv_has ls 2 [] → W p l e (headSpec (wt yX7_s4 cX7_s4 2 (some .int)) ({ frames := 0, cells := 0, slots := 0, locals := 0 })).room s m ([.ref h0, .int x1] : List Value).toArray below meth c H locs (0) (0) (MQ below (va_Qi (fun (r : Int32) (u9 : Unit) => True) (gQ0 g A ws) A) ([.ref h0, .int x1] : List Value).toArray s (0) (0) A) (F0 m 26 ls []) := by
    intro  H locs ls  hP hD hS hl
    refine lv_iconst (v := 0) hx hb dX7_s4_26 (by decide) ?_
    refine W.widen (k := 0) (n := 0) (Nat.le_of_ble_eq_true rfl) (Nat.le_of_ble_eq_true rfl) ?_
    exact W.iret (v := 0) hx hb hr (fun t9 ht9 hW9 => ⟨⟨_, (), rfl, trivial, ⟨by rw [ht9]; exact hP, hD⟩⟩, hS.F ht9⟩) hS.2.2 dX7_s4_27
  refine lv_if_lt (tgt := 26) hx hb dX7_s4_1 (by decide) (fun c_3 => ?_) (fun c_3 => ?_)
  · exact J_26  _ _ ls  hP hD hS (lv_sub hl [] rfl)
  · refine lv_iload_n hx hb dX7_s4_4 rfl (lv_at hl 1 rfl) ?_
    refine lv_aload_n hx hb dX7_s4_5 rfl (lv_at hl 0 rfl) ?_
    obtain ⟨k_4, fs9, hk_4⟩ := gC_of o_h0
    obtain ⟨r0_4, n0_4, c1_4, c2_4, c3_4, r4_4, n4_4, c5_4, c6_4, c7_4, c8_4, r9_4, n9_4, r10_4, n10_4, r11_4, n11_4, c12_4, c13_4, c14_4, c15_4, c16_4, rfl, a_r0_4, f1_4, a_r4_4, f3_4, a_r9_4, f5_4, a_r10_4, f7_4, a_r11_4, f9_4, f10_4, f11_4, f12_4, f13_4, f14_4, -⟩ := (hG.1 _ _ _ _ hk_4).hX7 rfl
    refine va_get (D := gD g) (ci := 6) (v := .int c1_4) (C := RX7) (T := TX7) (N := 17) hx hb hts inX7 hown hK hP k_4 hk_4 rfl 1 (by decide) (hts _ kw_1275) (fun _ h9 => h9) rfl dX7_s4_6 ?_
    refine lv_iconst (v := 4) hx hb dX7_s4_9 (by decide) ?_
    refine lv_isub hx hb dX7_s4_10 ?_
    refine lv_topi (fun z_5 ez_5 => ?_)
    refine lv_icmp_gt (tgt := 26) hx hb dX7_s4_11 (by decide) (fun c_6 => ?_) (fun c_6 => ?_)
    · exact J_26  _ _ ls  hP hD hS (lv_sub hl [] rfl)
    · refine lv_aload_n hx hb dX7_s4_14 rfl (lv_at hl 0 rfl) ?_
      refine va_get (D := gD g) (ci := 6) (v := .int c1_4) (C := RX7) (T := TX7) (N := 17) hx hb hts inX7 hown hK hP k_4 hk_4 rfl 1 (by decide) (hts _ kw_1275) (fun _ h9 => h9) rfl dX7_s4_15 ?_
      refine lv_aload_n hx hb dX7_s4_18 rfl (lv_at hl 0 rfl) ?_
      refine va_get (D := gD g) (ci := 6) (v := .ref r0_4) (C := RX7) (T := TX7) (N := 17) hx hb hts inX7 hown hK hP k_4 hk_4 rfl 0 (by decide) (hts _ kw_1341) (fun _ h9 => h9) rfl dX7_s4_19 ?_
      obtain ⟨k_7, f_7, hk_7⟩ := gI_of a_r0_4
      obtain ⟨z_8, ez_8⟩ : ∃ z : Int32, Int32.ofNat n0_4 = z := ⟨_, rfl⟩
      refine va_alen (v := z_8) hx hb hK hP k_7 0 hk_7 rfl ez_8 dX7_s4_22 ?_
      refine lv_icmp_le (tgt := 28) hx hb dX7_s4_23 (by decide) (fun c_9 => ?_) (fun c_9 => ?_)
      · refine lv_aload_n hx hb dX7_s4_28 rfl (lv_at hl 0 rfl) ?_
        refine va_get (D := gD g) (ci := 6) (v := .ref r0_4) (C := RX7) (T := TX7) (N := 17) hx hb hts inX7 hown hK hP k_4 hk_4 rfl 0 (by decide) (hts _ kw_1341) (fun _ h9 => h9) rfl dX7_s4_29 ?_
        refine lv_iload_n hx hb dX7_s4_32 rfl (lv_at hl 1 rfl) ?_
        refine va_bald hx hb hK hP k_7 0 hk_7 rfl (i_in2 (by have e0 : (0 : Int32).toInt = 0 := (by decide); have e4 : (4 : Int32).toInt = 4 := (by decide); have q_c_3 := i_nlt c_3; have q_f1_4 := f1_4; have q_c_6 := i_nlt c_6; have q_z_8 := i_len ez_8 f1_4; obtain ⟨u_z_5, q_z_5⟩ := i_sub ez_5; have q_c_9 := i_le c_9; have q_f10_4 := f10_4; have g_c1_4 := i_rg c1_4; have g_x1 := i_rg x1; have g_z_5 := i_rg z_5; have g_z_8 := i_rg z_8; omega)) dX7_s4_33 ?_
        refine lv_topi (fun z_10 ez_10 => ?_)
        refine lv_bipush (v := 24) hx hb dX7_s4_34 (by decide) ?_
        refine lv_ishl hx hb dX7_s4_36 ?_
        refine lv_topi (fun z_11 ez_11 => ?_)
        refine lv_aload_n hx hb dX7_s4_37 rfl (lv_at hl 0 rfl) ?_
        refine va_get (D := gD g) (ci := 6) (v := .ref r0_4) (C := RX7) (T := TX7) (N := 17) hx hb hts inX7 hown hK hP k_4 hk_4 rfl 0 (by decide) (hts _ kw_1341) (fun _ h9 => h9) rfl dX7_s4_38 ?_
        refine lv_iload_n hx hb dX7_s4_41 rfl (lv_at hl 1 rfl) ?_
        refine lv_iconst (v := 1) hx hb dX7_s4_42 (by decide) ?_
        refine lv_iadd hx hb dX7_s4_43 ?_
        refine lv_topi (fun z_12 ez_12 => ?_)
        refine va_bald hx hb hK hP k_7 0 hk_7 rfl (i_in2 (by have e0 : (0 : Int32).toInt = 0 := (by decide); have e1 : (1 : Int32).toInt = 1 := (by decide); have e4 : (4 : Int32).toInt = 4 := (by decide); have q_f1_4 := f1_4; have q_z_8 := i_len ez_8 f1_4; obtain ⟨u_z_12, q_z_12⟩ := i_add ez_12; have q_c_3 := i_nlt c_3; have q_c_6 := i_nlt c_6; have q_c_9 := i_le c_9; have q_f10_4 := f10_4; obtain ⟨u_z_5, q_z_5⟩ := i_sub ez_5; have g_c1_4 := i_rg c1_4; have g_x1 := i_rg x1; have g_z_12 := i_rg z_12; have g_z_5 := i_rg z_5; have g_z_8 := i_rg z_8; omega)) dX7_s4_44 ?_
        refine lv_topi (fun z_13 ez_13 => ?_)
        refine lv_sipush (v := 255) hx hb dX7_s4_45 (by decide) ?_
        refine lv_iand hx hb dX7_s4_48 ?_
        refine lv_topi (fun z_14 ez_14 => ?_)
        refine lv_bipush (v := 16) hx hb dX7_s4_49 (by decide) ?_
        refine lv_ishl hx hb dX7_s4_51 ?_
        refine lv_topi (fun z_15 ez_15 => ?_)
        refine lv_ior hx hb dX7_s4_52 ?_
        refine lv_topi (fun z_16 ez_16 => ?_)
        refine lv_aload_n hx hb dX7_s4_53 rfl (lv_at hl 0 rfl) ?_
        refine va_get (D := gD g) (ci := 6) (v := .ref r0_4) (C := RX7) (T := TX7) (N := 17) hx hb hts inX7 hown hK hP k_4 hk_4 rfl 0 (by decide) (hts _ kw_1341) (fun _ h9 => h9) rfl dX7_s4_54 ?_
        refine lv_iload_n hx hb dX7_s4_57 rfl (lv_at hl 1 rfl) ?_
        refine lv_iconst (v := 2) hx hb dX7_s4_58 (by decide) ?_
        refine lv_iadd hx hb dX7_s4_59 ?_
        refine lv_topi (fun z_17 ez_17 => ?_)
        refine va_bald hx hb hK hP k_7 0 hk_7 rfl (i_in2 (by have e0 : (0 : Int32).toInt = 0 := (by decide); have e1 : (1 : Int32).toInt = 1 := (by decide); have e2 : (2 : Int32).toInt = 2 := (by decide); have e4 : (4 : Int32).toInt = 4 := (by decide); have q_f1_4 := f1_4; have q_z_8 := i_len ez_8 f1_4; obtain ⟨u_z_17, q_z_17⟩ := i_add ez_17; have q_c_3 := i_nlt c_3; have q_c_6 := i_nlt c_6; have q_c_9 := i_le c_9; obtain ⟨u_z_12, q_z_12⟩ := i_add ez_12; have q_f10_4 := f10_4; obtain ⟨u_z_5, q_z_5⟩ := i_sub ez_5; have g_c1_4 := i_rg c1_4; have g_x1 := i_rg x1; have g_z_12 := i_rg z_12; have g_z_17 := i_rg z_17; have g_z_5 := i_rg z_5; have g_z_8 := i_rg z_8; omega)) dX7_s4_60 ?_
        refine lv_topi (fun z_18 ez_18 => ?_)
        refine lv_sipush (v := 255) hx hb dX7_s4_61 (by decide) ?_
        refine lv_iand hx hb dX7_s4_64 ?_
        refine lv_topi (fun z_19 ez_19 => ?_)
        refine lv_bipush (v := 8) hx hb dX7_s4_65 (by decide) ?_
        refine lv_ishl hx hb dX7_s4_67 ?_
        refine lv_topi (fun z_20 ez_20 => ?_)
        refine lv_ior hx hb dX7_s4_68 ?_
        refine lv_topi (fun z_21 ez_21 => ?_)
        refine lv_aload_n hx hb dX7_s4_69 rfl (lv_at hl 0 rfl) ?_
        refine va_get (D := gD g) (ci := 6) (v := .ref r0_4) (C := RX7) (T := TX7) (N := 17) hx hb hts inX7 hown hK hP k_4 hk_4 rfl 0 (by decide) (hts _ kw_1341) (fun _ h9 => h9) rfl dX7_s4_70 ?_
        refine lv_iload_n hx hb dX7_s4_73 rfl (lv_at hl 1 rfl) ?_
        refine lv_iconst (v := 3) hx hb dX7_s4_74 (by decide) ?_
        refine lv_iadd hx hb dX7_s4_75 ?_
        refine lv_topi (fun z_22 ez_22 => ?_)
        refine va_bald hx hb hK hP k_7 0 hk_7 rfl (i_in2 (by have e0 : (0 : Int32).toInt = 0 := (by decide); have e1 : (1 : Int32).toInt = 1 := (by decide); have e2 : (2 : Int32).toInt = 2 := (by decide); have e3 : (3 : Int32).toInt = 3 := (by decide); have e4 : (4 : Int32).toInt = 4 := (by decide); have q_f1_4 := f1_4; have q_z_8 := i_len ez_8 f1_4; obtain ⟨u_z_22, q_z_22⟩ := i_add ez_22; have q_c_3 := i_nlt c_3; have q_c_6 := i_nlt c_6; have q_c_9 := i_le c_9; obtain ⟨u_z_12, q_z_12⟩ := i_add ez_12; obtain ⟨u_z_17, q_z_17⟩ := i_add ez_17; have q_f10_4 := f10_4; obtain ⟨u_z_5, q_z_5⟩ := i_sub ez_5; have g_c1_4 := i_rg c1_4; have g_x1 := i_rg x1; have g_z_12 := i_rg z_12; have g_z_17 := i_rg z_17; have g_z_22 := i_rg z_22; have g_z_5 := i_rg z_5; have g_z_8 := i_rg z_8; omega)) dX7_s4_76 ?_
        refine lv_topi (fun z_23 ez_23 => ?_)
        refine lv_sipush (v := 255) hx hb dX7_s4_77 (by decide) ?_
        refine lv_iand hx hb dX7_s4_80 ?_
        refine lv_topi (fun z_24 ez_24 => ?_)
        refine lv_ior hx hb dX7_s4_81 ?_
        refine lv_topi (fun z_25 ez_25 => ?_)
        refine W.widen (k := 0) (n := 0) (Nat.le_of_ble_eq_true rfl) (Nat.le_of_ble_eq_true rfl) ?_
        exact W.iret (v := z_25) hx hb hr (fun t9 ht9 hW9 => ⟨⟨_, (), rfl, trivial, ⟨by rw [ht9]; exact hP, hD⟩⟩, hS.F ht9⟩) hS.2.2 dX7_s4_82
      · exact J_26  _ _ ls  hP hD hS (lv_sub hl [] rfl)
set_option maxHeartbeats 1000000 in
set_option maxRecDepth 100000 in
theorem m_X7_u4 (l : Launch) (g : Gm) (sz : Nat) (ws : va_W) (h0 : Nat) (x1 : Int32) (hG : Good g ws) (o_h0 : gC ws h0 6) : Met l yX7_u4 (wt yX7_u4 cX7_u4 2 (some .long)) ({ frames := 1, cells := 0, slots := 0, locals := 21 }) (va_Pc [.ref h0, .int x1] (st_G g sz ws)) (va_Ql (fun (r : Int64) (u9 : Unit) => True) (gQ0 g (va_A ws sz) ws) (va_A ws sz)) (0) (0) (va_A ws sz) := by
  refine Met.ofW (cc := cX7_u4) (maxL := 2) (ret := (some .long)) (by decide) rfl ?_
  intro p e s m args below meth c s₁ B hml hv
  obtain ⟨rfl, hsz, hP, hK, hD0, hex, hE⟩ := hv
  have hx := B.exec
  have hb := B.bytes
  have hr := B.returns
  have hts0 := atoms_spec (ws := wt yX7_u4 cX7_u4 2 (some .long)) B.pre
  have hts : ∀ w ∈ tb, w.before _ s = true := fun w h => hts0 w (List.mem_cons_of_mem _ h)
  have hown : s.vm.findClass RX7 = some m.cls := findClass_of_methodNamed B.named
  subst hsz
  have hD := hD0.self (sz := s.heap.size)
  generalize hAe : va_A ws s.heap.size = A at hD hE ⊢
  have hA : ∀ q : Nat, s.heap.size ≤ q → A q := fun q h => by rw [← hAe]; exact Or.inr h
  have hS : va_S A s.heap s.heap [] := va_S.rf
  have hl := lv_entry ([.ref h0, .int x1]) (n := 2) (Nat.le_of_ble_eq_true rfl)
  rw [lg_entry_eq]
  generalize (lg_sl ([.ref h0, .int x1]) ++ List.replicate (2 - (lg_sl ([.ref h0, .int x1])).length) Slot.unset).toArray = ls at hl ⊢
  have hl : lv_has ls 2 [(0, .ref h0), (1, .int x1)] := hl
  refine lv_aload_n hx hb dX7_u4_0 rfl (lv_at hl 0 rfl) ?_
  refine lv_iload_n hx hb dX7_u4_1 rfl (lv_at hl 1 rfl) ?_
  have hFc := gfree hD hS hA
  obtain ⟨k_1, fs_1, hk_1⟩ := gC_of o_h0
  refine va_calli (va_runV (As := [.int x1]) (rest := []) ⟨hx, hb, hml, hown, hts⟩ (m_X7_s4 l g s.heap.size ws h0 (x1) hG o_h0) (cwV 1 hts (gd_V kw_1268 kw_1429 kw_1430 kw_710 kw_1428) rfl rfl rfl (by decide +kernel) ⟨Nat.le_of_ble_eq_true rfl, Nat.le_of_ble_eq_true rfl⟩) ⟨gblind, va_recv hK hP (ci := 6) (q0 := k_1) rfl hk_1, fun U hU hW9 => gmk hU hW9 hP hK hD hex hE hS hFc⟩ rfl rfl hl.1 rfl (lv_room (Nat.le_of_ble_eq_true rfl)) dX7_u4_2 ⟨Nat.le_of_ble_eq_true rfl, Nat.le_of_ble_eq_true rfl⟩) hS (fun q _ h => hFc q h) hFc (fun r_2 u9 t9 H1 locs ht9 hvm9 hw9 hB9 hz9 hk9 hS => ?_)
  have hP : va_P (gD g) cl0 ws H1 := by rw [← ht9]; exact hB9.1
  clear hB9 hz9 hk9 hvm9 ht9 hw9
  generalize H1 = H at hP hS ⊢
  obtain ⟨z_3, ez_3⟩ : ∃ y : Int64, (r_2 : Int32).toInt64 = y := ⟨_, rfl⟩
  refine lv_i2l (v := z_3) hx hb dX7_u4_5 ez_3 ?_
  refine lv_ldc2 hx hb hown (hts _ kw_1455) dX7_u4_6 ?_
  refine lv_land hx hb dX7_u4_9 ?_
  refine lv_topl (fun z_4 ez_4 => ?_)
  refine W.widen (k := 0) (n := 0) (Nat.le_of_ble_eq_true rfl) (Nat.le_of_ble_eq_true rfl) ?_
  exact W.lret (v := z_4) hx hb hr (fun t9 ht9 hW9 => ⟨⟨_, (), rfl, trivial, ⟨by rw [ht9]; exact hP, hD⟩⟩, hS.F ht9⟩) hS.2.2 dX7_u4_10
set_option maxHeartbeats 1000000 in
set_option maxRecDepth 100000 in
theorem m_X7_isThere (l : Launch) (g : Gm) (sz : Nat) (ws : va_W) (h0 : Nat) (x1 : Int32) (hG : Good g ws) (o_h0 : gC ws h0 6) : Met l yX7_isThere (wt yX7_isThere cX7_isThere 2 (some .boolean)) ({ frames := 1, cells := 0, slots := 0, locals := 22 }) (va_Pc [.ref h0, .int x1] (st_G g sz ws)) (va_Qi (fun (r : Int32) (u9 : va_W) => r = 0 ∨ r = 1) (gQ1 g [(6, 2), (6, 3)] [] none (va_A ws sz) ws) (va_A ws sz)) (0) (0) (va_A ws sz) := by
  refine Met.ofW (cc := cX7_isThere) (maxL := 2) (ret := (some .boolean)) (by decide) rfl ?_
  intro p e s m args below meth c s₁ B hml hv
  obtain ⟨rfl, hsz, hP, hK, hD0, hex, hE⟩ := hv
  have hx := B.exec
  have hb := B.bytes
  have hr := B.returns
  have hts0 := atoms_spec (ws := wt yX7_isThere cX7_isThere 2 (some .boolean)) B.pre
  have hts : ∀ w ∈ tb, w.before _ s = true := fun w h => hts0 w (List.mem_cons_of_mem _ h)
  have hown : s.vm.findClass RX7 = some m.cls := findClass_of_methodNamed B.named
  subst hsz
  have hD := hD0.self (sz := s.heap.size)
  generalize hAe : va_A ws s.heap.size = A at hD hE ⊢
  have hA : ∀ q : Nat, s.heap.size ≤ q → A q := fun q h => by rw [← hAe]; exact Or.inr h
  have hS : va_S A s.heap s.heap [] := va_S.rf
  have hl := lv_entry ([.ref h0, .int x1]) (n := 2) (Nat.le_of_ble_eq_true rfl)
  rw [lg_entry_eq]
  generalize (lg_sl ([.ref h0, .int x1]) ++ List.replicate (2 - (lg_sl ([.ref h0, .int x1])).length) Slot.unset).toArray = ls at hl ⊢
  have hl : lv_has ls 2 [(0, .ref h0), (1, .int x1)] := hl
  refine lv_iload_n hx hb dX7_isThere_0 rfl (lv_at hl 1 rfl) ?_
  refine lv_aload_n hx hb dX7_isThere_1 rfl (lv_at hl 0 rfl) ?_
  obtain ⟨k_1, fs9, hk_1⟩ := gC_of o_h0
  obtain ⟨r0_1, n0_1, c1_1, c2_1, c3_1, r4_1, n4_1, c5_1, c6_1, c7_1, c8_1, r9_1, n9_1, r10_1, n10_1, r11_1, n11_1, c12_1, c13_1, c14_1, c15_1, c16_1, rfl, a_r0_1, f1_1, a_r4_1, f3_1, a_r9_1, f5_1, a_r10_1, f7_1, a_r11_1, f9_1, f10_1, f11_1, f12_1, f13_1, f14_1, -⟩ := (hG.1 _ _ _ _ hk_1).hX7 rfl
  refine va_get (D := gD g) (ci := 6) (v := .int c1_1) (C := RX7) (T := TX7) (N := 17) hx hb hts inX7 hown hK hP k_1 hk_1 rfl 1 (by decide) (hts _ kw_1275) (fun _ h9 => h9) rfl dX7_isThere_2 ?_
  refine lv_aload_n hx hb dX7_isThere_5 rfl (lv_at hl 0 rfl) ?_
  refine va_get (D := gD g) (ci := 6) (v := .int c15_1) (C := RX7) (T := TX7) (N := 17) hx hb hts inX7 hown hK hP k_1 hk_1 rfl 15 (by decide) (hts _ kw_1273) (fun _ h9 => h9) rfl dX7_isThere_6 ?_
  refine lv_isub hx hb dX7_isThere_9 ?_
  refine lv_topi (fun z_2 ez_2 => ?_)
  have J_30 : ∀ (t_3 : Int32) (ws_5 : va_W) (H : Heap) (locs : List Loc) (ls : Array Slot), t_3 = 0 ∨ t_3 = 1 → gE ws ws_5 → gF [(6, 2), (6, 3)] [] none ws ws_5 → Good g ws_5 → va_P (gD g) cl0 ws_5 H → va_D A ws_5 → va_S A s.heap H locs → lv_has ls 2 [] → W p l e (headSpec (wt yX7_isThere cX7_isThere 2 (some .boolean)) ({ frames := 1, cells := 0, slots := 0, locals := 22 })).room s m ([.ref h0, .int x1] : List Value).toArray below meth c H locs (0) (0) (MQ below (va_Qi (fun (r : Int32) (u9 : va_W) => r = 0 ∨ r = 1) (gQ1 g [(6, 2), (6, 3)] [] none A ws) A) ([.ref h0, .int x1] : List Value).toArray s (0) (0) A) (F0 m 30 ls [.int t_3]) := by
    intro t_3 ws_5 H locs ls iv_4 E_6 Fr_7 hG hP hD hS hl
    have hz_t_3 := iv_4
    have aa_8 := a_r0_1
    have aa_9 := a_r4_1
    have aa_10 := a_r9_1
    have aa_11 := a_r10_1
    have aa_12 := a_r11_1
    have o_h0 := E_6.1 _ _ o_h0
    refine W.widen (k := 0) (n := 0) (Nat.le_of_ble_eq_true rfl) (Nat.le_of_ble_eq_true rfl) ?_
    exact W.zret (v := t_3) hx hb hr (nz hz_t_3) (fun t9 ht9 hW9 => ⟨⟨_, ws_5, rfl, hz_t_3, ⟨E_6, Fr_7, hG, by rw [ht9]; exact hP, hD⟩⟩, hS.F ht9⟩) hS.2.2 dX7_isThere_30
  have J_25 : ∀ (ws_13 : va_W) (H : Heap) (locs : List Loc) (ls : Array Slot), gE ws ws_13 → gF [(6, 2), (6, 3)] [] none ws ws_13 → Good g ws_13 → va_P (gD g) cl0 ws_13 H → va_D A ws_13 → va_S A s.heap H locs → lv_has ls 2 [] → W p l e (headSpec (wt yX7_isThere cX7_isThere 2 (some .boolean)) ({ frames := 1, cells := 0, slots := 0, locals := 22 })).room s m ([.ref h0, .int x1] : List Value).toArray below meth c H locs (0) (0) (MQ below (va_Qi (fun (r : Int32) (u9 : va_W) => r = 0 ∨ r = 1) (gQ1 g [(6, 2), (6, 3)] [] none A ws) A) ([.ref h0, .int x1] : List Value).toArray s (0) (0) A) (F0 m 25 ls []) := by
    intro ws_13 H locs ls  E_14 Fr_15 hG hP hD hS hl
    have aa_16 := a_r0_1
    have aa_17 := a_r4_1
    have aa_18 := a_r9_1
    have aa_19 := a_r10_1
    have aa_20 := a_r11_1
    have o_h0 := E_14.1 _ _ o_h0
    refine lv_iconst (v := 1) hx hb dX7_isThere_25 (by decide) ?_
    refine lv_goto (tgt := 30) hx hb dX7_isThere_26 (by decide) ?_
    exact J_30 (1) ws_13 H locs ls (Or.inr rfl) (E_14) (Fr_15) hG hP hD hS (lv_sub hl [] rfl)
  refine lv_icmp_le (tgt := 25) hx hb dX7_isThere_10 (by decide) (fun c_21 => ?_) (fun c_21 => ?_)
  · exact J_25 ws _ _ ls (gE.rf) (gF.rf) hG hP hD hS (lv_sub hl [] rfl)
  · refine lv_aload_n hx hb dX7_isThere_13 rfl (lv_at hl 0 rfl) ?_
    refine lv_iconst (v := 2) hx hb dX7_isThere_14 (by decide) ?_
    refine lv_aload_n hx hb dX7_isThere_15 rfl (lv_at hl 0 rfl) ?_
    refine va_get (D := gD g) (ci := 6) (v := .int c1_1) (C := RX7) (T := TX7) (N := 17) hx hb hts inX7 hown hK hP k_1 hk_1 rfl 1 (by decide) (hts _ kw_1275) (fun _ h9 => h9) rfl dX7_isThere_16 ?_
    have hFc := gfree hD hS hA
    refine va_calli (va_runV (As := [.int 2, .int c1_1]) (rest := []) ⟨hx, hb, hml, hown, hts⟩ (m_X7_breaks l g s.heap.size ws h0 (2) (c1_1) hG o_h0) (cwV 2 hts (gd_V kw_1276 kw_1278 kw_1279 kw_710 kw_1277) rfl rfl rfl (by decide +kernel) ⟨Nat.le_of_ble_eq_true rfl, Nat.le_of_ble_eq_true rfl⟩) ⟨gblind, va_recv hK hP (ci := 6) (q0 := k_1) rfl hk_1, fun U hU hW9 => gmk hU hW9 hP hK hD hex hE hS hFc⟩ rfl rfl hl.1 rfl (lv_room (Nat.le_of_ble_eq_true rfl)) dX7_isThere_19 ⟨Nat.le_of_ble_eq_true rfl, Nat.le_of_ble_eq_true rfl⟩) hS (fun q _ h => hFc q h) hFc (fun r_22 ws_23 t9 H1 locs ht9 hvm9 hw9 hB9 hz9 hk9 hS => ?_)
    obtain ⟨E_24, Fr_25, hG, hP1, hD1⟩ := hB9
    have hP : va_P (gD g) cl0 ws_23 H1 := by rw [← ht9]; exact hP1
    have hD : va_D A ws_23 := hD1.weaken (fun _ _ _ h => hFc _ h)
    have hz_r_22 : r_22 = 0 ∨ r_22 = 1 := hw9
    clear hP1 hD1 hz9 hk9 hvm9 ht9 hw9
    generalize H1 = H at hP hS ⊢
    have aa_28 := a_r0_1
    have aa_29 := a_r4_1
    have aa_30 := a_r9_1
    have aa_31 := a_r10_1
    have aa_32 := a_r11_1
    have o_h0 := E_24.1 _ _ o_h0
    refine lv_if_eq (tgt := 29) hx hb dX7_isThere_22 (by decide) (fun c_33 => ?_) (fun c_33 => ?_)
    · refine lv_iconst (v := 0) hx hb dX7_isThere_29 (by decide) ?_
      exact J_30 (0) ws_23 H locs ls (Or.inl rfl) (E_24) (Fr_25) hG hP hD hS (lv_sub hl [] rfl)
    · exact J_25 ws_23 H locs ls (E_24) (Fr_25) hG hP hD hS (lv_sub hl [] rfl)
set_option maxHeartbeats 1000000 in
set_option maxRecDepth 100000 in
theorem m_X7_magicHolds (l : Launch) (g : Gm) (sz : Nat) (ws : va_W) (h0 : Nat) (hG : Good g ws) (o_h0 : gC ws h0 6) : Met l yX7_magicHolds (wt yX7_magicHolds cX7_magicHolds 2 (some .boolean)) ({ frames := 1, cells := 0, slots := 0, locals := 22 }) (va_Pc [.ref h0] (st_G g sz ws)) (va_Qi (fun (r : Int32) (u9 : va_W) => r = 0 ∨ r = 1) (gQ1 g [(6, 2), (6, 3), (6, 15)] [] none (va_A ws sz) ws) (va_A ws sz)) (0) (0) (va_A ws sz) := by
  refine Met.ofW (cc := cX7_magicHolds) (maxL := 2) (ret := (some .boolean)) (by decide) rfl ?_
  intro p e s m args below meth c s₁ B hml hv
  obtain ⟨rfl, hsz, hP, hK, hD0, hex, hE⟩ := hv
  have hx := B.exec
  have hb := B.bytes
  have hr := B.returns
  have hts0 := atoms_spec (ws := wt yX7_magicHolds cX7_magicHolds 2 (some .boolean)) B.pre
  have hts : ∀ w ∈ tb, w.before _ s = true := fun w h => hts0 w (List.mem_cons_of_mem _ h)
  have hown : s.vm.findClass RX7 = some m.cls := findClass_of_methodNamed B.named
  subst hsz
  have hD := hD0.self (sz := s.heap.size)
  generalize hAe : va_A ws s.heap.size = A at hD hE ⊢
  have hA : ∀ q : Nat, s.heap.size ≤ q → A q := fun q h => by rw [← hAe]; exact Or.inr h
  have hS : va_S A s.heap s.heap [] := va_S.rf
  have hl := lv_entry ([.ref h0]) (n := 2) (Nat.le_of_ble_eq_true rfl)
  rw [lg_entry_eq]
  generalize (lg_sl ([.ref h0]) ++ List.replicate (2 - (lg_sl ([.ref h0])).length) Slot.unset).toArray = ls at hl ⊢
  have hl : lv_has ls 2 [(0, .ref h0)] := hl
  refine lv_iconst (v := 0) hx hb dX7_magicHolds_0 (by decide) ?_
  refine lv_istore_n (lv' := [(1, .int 0), (0, .ref h0)]) hx hb dX7_magicHolds_1 rfl hl (by decide) rfl (fun ls hl => ?_)
  have J_2 : ∀ (n9 : Nat) (v1_1 : Int32) (H : Heap) (locs : List Loc) (ls : Array Slot), (2147483647 - v1_1.toInt).toNat = n9 → 0 ≤ v1_1.toInt → va_P (gD g) cl0 ws H → va_D A ws → va_S A s.heap H locs → lv_has ls 2 [(0, .ref h0), (1, .int v1_1)] → W p l e (headSpec (wt yX7_magicHolds cX7_magicHolds 2 (some .boolean)) ({ frames := 1, cells := 0, slots := 0, locals := 22 })).room s m ([.ref h0] : List Value).toArray below meth c H locs (0) (0) (MQ below (va_Qi (fun (r : Int32) (u9 : va_W) => r = 0 ∨ r = 1) (gQ1 g [(6, 2), (6, 3), (6, 15)] [] none A ws) A) ([.ref h0] : List Value).toArray s (0) (0) A) (F0 m 2 ls []) := by
    intro n9
    induction n9 using Nat.strongRecOn with
    | ind n9 ih_2 =>
      intro v1_1 H locs ls hm9 iv_2 hP hD hS hl
      subst hm9
      refine lv_iload_n hx hb dX7_magicHolds_2 rfl (lv_at hl 1 rfl) ?_
      obtain ⟨t_5, hZ_5, hT_5, hB_5⟩ := hE.1
      refine va_getsN (C := "CodeFoundry") (n := "MAGIC") (d := "[I") hx hb hZ_5 hS hown (va_Nw.use rfl (nw_of nn_X7_97 hex)) (fun _ h9 => h9) dX7_magicHolds_3 ?_
      refine va_tlen (v := 8) hx hb hT_5 hS rfl dX7_magicHolds_6 ?_
      refine lv_icmp_ge (tgt := 54) hx hb dX7_magicHolds_7 (by decide) (fun c_6 => ?_) (fun c_6 => ?_)
      · refine lv_aload_n hx hb dX7_magicHolds_54 rfl (lv_at hl 0 rfl) ?_
        obtain ⟨t_7, hZ_7, hT_7, hB_7⟩ := hE.1
        refine va_getsN (C := "CodeFoundry") (n := "MAGIC") (d := "[I") hx hb hZ_7 hS hown (va_Nw.use rfl (nw_of nn_X7_97 hex)) (fun _ h9 => h9) dX7_magicHolds_55 ?_
        refine va_tlen (v := 8) hx hb hT_7 hS rfl dX7_magicHolds_58 ?_
        obtain ⟨k_8, fs9, hk_8⟩ := gC_of o_h0
        obtain ⟨r0_8, n0_8, c1_8, c2_8, c3_8, r4_8, n4_8, c5_8, c6_8, c7_8, c8_8, r9_8, n9_8, r10_8, n10_8, r11_8, n11_8, c12_8, c13_8, c14_8, c15_8, c16_8, rfl, a_r0_8, f1_8, a_r4_8, f3_8, a_r9_8, f5_8, a_r10_8, f7_8, a_r11_8, f9_8, f10_8, f11_8, f12_8, f13_8, f14_8, -⟩ := (hG.1 _ _ _ _ hk_8).hX7 rfl
        have hV9 : okv ws 6 15 (.int 8) := okv_i
        refine va_put (D := gD g) (ci := 6) (v := .int 8) (ty := .int) (C := RX7) (T := TX7) (N := 17) hx hb hts inX7 tyX7 tyX7_ok nmX7 hown hK hP hD hS k_8 hk_8 rfl 15 (by decide) (hts _ kw_1273) (fun _ h9 => h9) rfl (by decide +kernel) rfl rfl (Nat.le_of_ble_eq_true rfl) dX7_magicHolds_59 (fun H locs hP hD hS => ?_)
        have hi_9 : invX7 g ws h0 [.ref r0_8, .int c1_8, .int c2_8, .int c3_8, .ref r4_8, .int c5_8, .int c6_8, .int c7_8, .int c8_8, .ref r9_8, .ref r10_8, .ref r11_8, .int c12_8, .int c13_8, .int c14_8, .int 8, .int c16_8] := ⟨r0_8, (n0_8), (c1_8), (c2_8), (c3_8), r4_8, (n4_8), (c5_8), (c6_8), (c7_8), (c8_8), r9_8, (n9_8), r10_8, (n10_8), r11_8, (n11_8), (c12_8), (c13_8), (c14_8), (8), (c16_8), rfl, a_r0_8, f1_8, a_r4_8, f3_8, a_r9_8, f5_8, a_r10_8, f7_8, a_r11_8, f9_8, f10_8, f11_8, f12_8, f13_8, f14_8, trivial⟩
        obtain ⟨ws_10, e_ws_10⟩ : ∃ z, z = ws.set k_8 (h0, .inr (6, [.ref r0_8, .int c1_8, .int c2_8, .int c3_8, .ref r4_8, .int c5_8, .int c6_8, .int c7_8, .int c8_8, .ref r9_8, .ref r10_8, .ref r11_8, .int c12_8, .int c13_8, .int c14_8, .int 8, .int c16_8])) := ⟨_, rfl⟩
        have hP : va_P (gD g) cl0 ws_10 H := by rw [e_ws_10]; exact hP
        have hD : va_D A ws_10 := by rw [e_ws_10]; exact hD
        have E_11 : gE ws ws_10 := gE_set e_ws_10 hk_8 (cw_o (fi := 15) (v := .int 8) rfl (by decide))
        have hG : Good g ws_10 := Good_set (fi := 15) (v := .int 8) e_ws_10 hk_8 E_11 rfl hV9 hG (ivX7 hi_9)
        have Fr_12 : gF [(6, 15)] [] (some h0) ws ws_10 := gF_put (fi := 15) (v := .int 8) e_ws_10 hk_8 rfl (by decide)
        have hkN := gset_self e_ws_10 hk_8
        have hk_8 := hkN
        have o_h0 := E_11.1 _ _ o_h0
        have a_r0_8 := E_11.1 _ _ a_r0_8
        have a_r4_8 := E_11.1 _ _ a_r4_8
        have a_r9_8 := E_11.1 _ _ a_r9_8
        have a_r10_8 := E_11.1 _ _ a_r10_8
        have a_r11_8 := E_11.1 _ _ a_r11_8
        refine lv_iconst (v := 1) hx hb dX7_magicHolds_62 (by decide) ?_
        refine W.widen (k := 0) (n := 0) (Nat.le_of_ble_eq_true rfl) (Nat.le_of_ble_eq_true rfl) ?_
        exact W.zret (v := 1) hx hb hr (nz (Or.inr rfl)) (fun t9 ht9 hW9 => ⟨⟨_, ws_10, rfl, (Or.inr rfl), ⟨E_11, (gF.mo (F' := [(6, 2), (6, 3), (6, 15)]) (C' := []) (S' := none) Fr_12 (by decide) (fun _ h => h) (Or.inl rfl)), hG, by rw [ht9]; exact hP, hD⟩⟩, hS.F ht9⟩) hS.2.2 dX7_magicHolds_63
      · refine lv_iload_n hx hb dX7_magicHolds_10 rfl (lv_at hl 1 rfl) ?_
        refine lv_aload_n hx hb dX7_magicHolds_11 rfl (lv_at hl 0 rfl) ?_
        obtain ⟨k_13, fs9, hk_13⟩ := gC_of o_h0
        obtain ⟨r0_13, n0_13, c1_13, c2_13, c3_13, r4_13, n4_13, c5_13, c6_13, c7_13, c8_13, r9_13, n9_13, r10_13, n10_13, r11_13, n11_13, c12_13, c13_13, c14_13, c15_13, c16_13, rfl, a_r0_13, f1_13, a_r4_13, f3_13, a_r9_13, f5_13, a_r10_13, f7_13, a_r11_13, f9_13, f10_13, f11_13, f12_13, f13_13, f14_13, -⟩ := (hG.1 _ _ _ _ hk_13).hX7 rfl
        refine va_get (D := gD g) (ci := 6) (v := .int c1_13) (C := RX7) (T := TX7) (N := 17) hx hb hts inX7 hown hK hP k_13 hk_13 rfl 1 (by decide) (hts _ kw_1275) (fun _ h9 => h9) rfl dX7_magicHolds_12 ?_
        refine lv_icmp_lt (tgt := 28) hx hb dX7_magicHolds_15 (by decide) (fun c_14 => ?_) (fun c_14 => ?_)
        · refine lv_aload_n hx hb dX7_magicHolds_28 rfl (lv_at hl 0 rfl) ?_
          refine lv_iload_n hx hb dX7_magicHolds_29 rfl (lv_at hl 1 rfl) ?_
          have hFc := gfree hD hS hA
          refine va_calli (va_runV (As := [.int v1_1]) (rest := []) ⟨hx, hb, hml, hown, hts⟩ (m_X7_u1 l g H.size ws h0 (v1_1) hG o_h0) (cwV 1 hts (gd_V kw_1304 kw_1447 kw_1448 kw_710 kw_1446) rfl rfl rfl (by decide +kernel) ⟨Nat.le_of_ble_eq_true rfl, Nat.le_of_ble_eq_true rfl⟩) ⟨gblind, va_recv hK hP (ci := 6) (q0 := k_13) rfl hk_13, fun U hU hW9 => gmk hU hW9 hP hK hD hex hE hS hFc⟩ rfl rfl hl.1 rfl (lv_room (Nat.le_of_ble_eq_true rfl)) dX7_magicHolds_30 ⟨Nat.le_of_ble_eq_true rfl, Nat.le_of_ble_eq_true rfl⟩) hS (fun q _ h => hFc q h) hFc (fun r_15 u9 t9 H1 locs ht9 hvm9 hw9 hB9 hz9 hk9 hS => ?_)
          have hP : va_P (gD g) cl0 ws H1 := by rw [← ht9]; exact hB9.1
          have h_r_15 := hw9
          clear hB9 hz9 hk9 hvm9 ht9 hw9
          generalize H1 = H at hP hS ⊢
          obtain ⟨t_16, hZ_16, hT_16, hB_16⟩ := hE.1
          refine va_getsN (C := "CodeFoundry") (n := "MAGIC") (d := "[I") hx hb hZ_16 hS hown (va_Nw.use rfl (nw_of nn_X7_97 hex)) (fun _ h9 => h9) dX7_magicHolds_33 ?_
          refine lv_iload_n hx hb dX7_magicHolds_36 rfl (lv_at hl 1 rfl) ?_
          refine va_ti hx hb hT_16 hS (i_in2 (by have e8 : (8 : Int32).toInt = 8 := (by decide); have q_iv_2 := iv_2; have q_c_6 := i_nle c_6; have q_c_14 := i_lt c_14; have q_f10_13 := f10_13; have g_c1_13 := i_rg c1_13; have g_v1_1 := i_rg v1_1; omega)) rfl dX7_magicHolds_37 ?_
          refine lv_topi (fun z_17 ez_17 => ?_)
          have hb_z_17 := hB_16 (v1_1 : Int32).toNatClampNeg
          rw [← ez_17] at hb_z_17
          refine lv_icmp_eq (tgt := 48) hx hb dX7_magicHolds_38 (by decide) (fun c_18 => ?_) (fun c_18 => ?_)
          · obtain ⟨z_19, ez_19⟩ : ∃ z : Int32, v1_1 + Int32.ofInt 1 = z := ⟨_, rfl⟩
            refine lv_iinc (v := z_19) (lv' := [(1, .int z_19), (0, .ref h0)]) hx hb dX7_magicHolds_48 hl (k := 1) rfl ez_19 (by decide) rfl (fun ls hl => ?_)
            refine lv_goto (tgt := 2) hx hb dX7_magicHolds_51 (by decide) ?_
            exact ih_2 _ (by have e8 : (8 : Int32).toInt = 8 := (by decide); obtain ⟨u_z_19, q_z_19⟩ := i_iz ez_19 (by decide) (by decide); have q_iv_2 := iv_2; have q_c_6 := i_nle c_6; have q_c_14 := i_lt c_14; have g_c1_13 := i_rg c1_13; have g_v1_1 := i_rg v1_1; have g_z_19 := i_rg z_19; omega) (z_19) H locs ls rfl (by have e8 : (8 : Int32).toInt = 8 := (by decide); obtain ⟨u_z_19, q_z_19⟩ := i_iz ez_19 (by decide) (by decide); have q_iv_2 := iv_2; have q_c_6 := i_nle c_6; have q_c_14 := i_lt c_14; have g_c1_13 := i_rg c1_13; have g_v1_1 := i_rg v1_1; have g_z_19 := i_rg z_19; omega) hP hD hS (lv_sub hl [1, 0] rfl)
          · refine lv_aload_n hx hb dX7_magicHolds_41 rfl (lv_at hl 0 rfl) ?_
            refine lv_iconst (v := 1) hx hb dX7_magicHolds_42 (by decide) ?_
            refine lv_iload_n hx hb dX7_magicHolds_43 rfl (lv_at hl 1 rfl) ?_
            have hFc := gfree hD hS hA
            refine va_calli (va_runV (As := [.int 1, .int v1_1]) (rest := []) ⟨hx, hb, hml, hown, hts⟩ (m_X7_breaks l g H.size ws h0 (1) (v1_1) hG o_h0) (cwV 2 hts (gd_V kw_1276 kw_1278 kw_1279 kw_710 kw_1277) rfl rfl rfl (by decide +kernel) ⟨Nat.le_of_ble_eq_true rfl, Nat.le_of_ble_eq_true rfl⟩) ⟨gblind, va_recv hK hP (ci := 6) (q0 := k_13) rfl hk_13, fun U hU hW9 => gmk hU hW9 hP hK hD hex hE hS hFc⟩ rfl rfl hl.1 rfl (lv_room (Nat.le_of_ble_eq_true rfl)) dX7_magicHolds_44 ⟨Nat.le_of_ble_eq_true rfl, Nat.le_of_ble_eq_true rfl⟩) hS (fun q _ h => hFc q h) hFc (fun r_20 ws_21 t9 H1 locs ht9 hvm9 hw9 hB9 hz9 hk9 hS => ?_)
            obtain ⟨E_22, Fr_23, hG, hP1, hD1⟩ := hB9
            have hP : va_P (gD g) cl0 ws_21 H1 := by rw [← ht9]; exact hP1
            have hD : va_D A ws_21 := hD1.weaken (fun _ _ _ h => hFc _ h)
            have hz_r_20 : r_20 = 0 ∨ r_20 = 1 := hw9
            clear hP1 hD1 hz9 hk9 hvm9 ht9 hw9
            generalize H1 = H at hP hS ⊢
            have aa_26 := a_r0_13
            have aa_27 := a_r4_13
            have aa_28 := a_r9_13
            have aa_29 := a_r10_13
            have aa_30 := a_r11_13
            have o_h0 := E_22.1 _ _ o_h0
            refine W.widen (k := 0) (n := 0) (Nat.le_of_ble_eq_true rfl) (Nat.le_of_ble_eq_true rfl) ?_
            exact W.zret (v := r_20) hx hb hr (nz hz_r_20) (fun t9 ht9 hW9 => ⟨⟨_, ws_21, rfl, hz_r_20, ⟨E_22, (gF.mo (F' := [(6, 2), (6, 3), (6, 15)]) (C' := []) (S' := none) Fr_23 (by decide) (fun _ h => h) (Or.inr rfl)), hG, by rw [ht9]; exact hP, hD⟩⟩, hS.F ht9⟩) hS.2.2 dX7_magicHolds_47
        · refine lv_aload_n hx hb dX7_magicHolds_18 rfl (lv_at hl 0 rfl) ?_
          refine lv_iconst (v := 2) hx hb dX7_magicHolds_19 (by decide) ?_
          refine lv_aload_n hx hb dX7_magicHolds_20 rfl (lv_at hl 0 rfl) ?_
          refine va_get (D := gD g) (ci := 6) (v := .int c1_13) (C := RX7) (T := TX7) (N := 17) hx hb hts inX7 hown hK hP k_13 hk_13 rfl 1 (by decide) (hts _ kw_1275) (fun _ h9 => h9) rfl dX7_magicHolds_21 ?_
          have hFc := gfree hD hS hA
          refine va_calli (va_runV (As := [.int 2, .int c1_13]) (rest := []) ⟨hx, hb, hml, hown, hts⟩ (m_X7_breaks l g H.size ws h0 (2) (c1_13) hG o_h0) (cwV 2 hts (gd_V kw_1276 kw_1278 kw_1279 kw_710 kw_1277) rfl rfl rfl (by decide +kernel) ⟨Nat.le_of_ble_eq_true rfl, Nat.le_of_ble_eq_true rfl⟩) ⟨gblind, va_recv hK hP (ci := 6) (q0 := k_13) rfl hk_13, fun U hU hW9 => gmk hU hW9 hP hK hD hex hE hS hFc⟩ rfl rfl hl.1 rfl (lv_room (Nat.le_of_ble_eq_true rfl)) dX7_magicHolds_24 ⟨Nat.le_of_ble_eq_true rfl, Nat.le_of_ble_eq_true rfl⟩) hS (fun q _ h => hFc q h) hFc (fun r_31 ws_32 t9 H1 locs ht9 hvm9 hw9 hB9 hz9 hk9 hS => ?_)
          obtain ⟨E_33, Fr_34, hG, hP1, hD1⟩ := hB9
          have hP : va_P (gD g) cl0 ws_32 H1 := by rw [← ht9]; exact hP1
          have hD : va_D A ws_32 := hD1.weaken (fun _ _ _ h => hFc _ h)
          have hz_r_31 : r_31 = 0 ∨ r_31 = 1 := hw9
          clear hP1 hD1 hz9 hk9 hvm9 ht9 hw9
          generalize H1 = H at hP hS ⊢
          have aa_37 := a_r0_13
          have aa_38 := a_r4_13
          have aa_39 := a_r9_13
          have aa_40 := a_r10_13
          have aa_41 := a_r11_13
          have o_h0 := E_33.1 _ _ o_h0
          refine W.widen (k := 0) (n := 0) (Nat.le_of_ble_eq_true rfl) (Nat.le_of_ble_eq_true rfl) ?_
          exact W.zret (v := r_31) hx hb hr (nz hz_r_31) (fun t9 ht9 hW9 => ⟨⟨_, ws_32, rfl, hz_r_31, ⟨E_33, (gF.mo (F' := [(6, 2), (6, 3), (6, 15)]) (C' := []) (S' := none) Fr_34 (by decide) (fun _ h => h) (Or.inr rfl)), hG, by rw [ht9]; exact hP, hD⟩⟩, hS.F ht9⟩) hS.2.2 dX7_magicHolds_27
  exact J_2 _ (0) _ _ ls rfl (by have e0 : (0 : Int32).toInt = 0 := (by decide); omega) hP hD hS (lv_sub hl [1, 0] rfl)
set_option maxHeartbeats 1000000 in
set_option maxRecDepth 100000 in
theorem m_X7_entryLength (l : Launch) (g : Gm) (sz : Nat) (ws : va_W) (h0 : Nat) (x1 : Int32) (hG : Good g ws) (o_h0 : gC ws h0 6) : Met l yX7_entryLength (wt yX7_entryLength cX7_entryLength 2 (some .int)) ({ frames := 1, cells := 0, slots := 0, locals := 21 }) (va_Pc [.ref h0, .int x1] (st_G g sz ws)) (va_Qi (fun (r : Int32) (u9 : Unit) => True) (gQ0 g (va_A ws sz) ws) (va_A ws sz)) (0) (0) (va_A ws sz) := by
  refine Met.ofW (cc := cX7_entryLength) (maxL := 2) (ret := (some .int)) (by decide) rfl ?_
  intro p e s m args below meth c s₁ B hml hv
  obtain ⟨rfl, hsz, hP, hK, hD0, hex, hE⟩ := hv
  have hx := B.exec
  have hb := B.bytes
  have hr := B.returns
  have hts0 := atoms_spec (ws := wt yX7_entryLength cX7_entryLength 2 (some .int)) B.pre
  have hts : ∀ w ∈ tb, w.before _ s = true := fun w h => hts0 w (List.mem_cons_of_mem _ h)
  have hown : s.vm.findClass RX7 = some m.cls := findClass_of_methodNamed B.named
  subst hsz
  have hD := hD0.self (sz := s.heap.size)
  generalize hAe : va_A ws s.heap.size = A at hD hE ⊢
  have hA : ∀ q : Nat, s.heap.size ≤ q → A q := fun q h => by rw [← hAe]; exact Or.inr h
  have hS : va_S A s.heap s.heap [] := va_S.rf
  have hl := lv_entry ([.ref h0, .int x1]) (n := 2) (Nat.le_of_ble_eq_true rfl)
  rw [lg_entry_eq]
  generalize (lg_sl ([.ref h0, .int x1]) ++ List.replicate (2 - (lg_sl ([.ref h0, .int x1])).length) Slot.unset).toArray = ls at hl ⊢
  have hl : lv_has ls 2 [(0, .ref h0), (1, .int x1)] := hl
  refine lv_iload_n hx hb dX7_entryLength_0 rfl (lv_at hl 1 rfl) ?_
  have K_1_84 : W p l e (headSpec (wt yX7_entryLength cX7_entryLength 2 (some .int)) ({ frames := 1, cells := 0, slots := 0, locals := 21 })).room s m ([.ref h0, .int x1] : List Value).toArray below meth c s.heap [] (0) (0) (MQ below (va_Qi (fun (r : Int32) (u9 : Unit) => True) (gQ0 g A ws) A) ([.ref h0, .int x1] : List Value).toArray s (0) (0) A) (F0 m 84 ls []) := by
    refine lv_iconst (v := 0) hx hb dX7_entryLength_84 (by decide) ?_
    refine W.widen (k := 0) (n := 0) (Nat.le_of_ble_eq_true rfl) (Nat.le_of_ble_eq_true rfl) ?_
    exact W.iret (v := 0) hx hb hr (fun t9 ht9 hW9 => ⟨⟨_, (), rfl, trivial, ⟨by rw [ht9]; exact hP, hD⟩⟩, hS.F ht9⟩) hS.2.2 dX7_entryLength_85
  have K_1_64 : W p l e (headSpec (wt yX7_entryLength cX7_entryLength 2 (some .int)) ({ frames := 1, cells := 0, slots := 0, locals := 21 })).room s m ([.ref h0, .int x1] : List Value).toArray below meth c s.heap [] (0) (0) (MQ below (va_Qi (fun (r : Int32) (u9 : Unit) => True) (gQ0 g A ws) A) ([.ref h0, .int x1] : List Value).toArray s (0) (0) A) (F0 m 64 ls []) := by
    refine lv_iconst (v := 3) hx hb dX7_entryLength_64 (by decide) ?_
    refine lv_aload_n hx hb dX7_entryLength_65 rfl (lv_at hl 0 rfl) ?_
    refine lv_aload_n hx hb dX7_entryLength_66 rfl (lv_at hl 0 rfl) ?_
    obtain ⟨k_1, fs9, hk_1⟩ := gC_of o_h0
    obtain ⟨r0_1, n0_1, c1_1, c2_1, c3_1, r4_1, n4_1, c5_1, c6_1, c7_1, c8_1, r9_1, n9_1, r10_1, n10_1, r11_1, n11_1, c12_1, c13_1, c14_1, c15_1, c16_1, rfl, a_r0_1, f1_1, a_r4_1, f3_1, a_r9_1, f5_1, a_r10_1, f7_1, a_r11_1, f9_1, f10_1, f11_1, f12_1, f13_1, f14_1, -⟩ := (hG.1 _ _ _ _ hk_1).hX7 rfl
    refine va_get (D := gD g) (ci := 6) (v := .int c15_1) (C := RX7) (T := TX7) (N := 17) hx hb hts inX7 hown hK hP k_1 hk_1 rfl 15 (by decide) (hts _ kw_1273) (fun _ h9 => h9) rfl dX7_entryLength_67 ?_
    refine lv_iconst (v := 1) hx hb dX7_entryLength_70 (by decide) ?_
    refine lv_iadd hx hb dX7_entryLength_71 ?_
    refine lv_topi (fun z_2 ez_2 => ?_)
    have hFc := gfree hD hS hA
    refine va_calli (va_runV (As := [.int z_2]) (rest := [.int 3]) ⟨hx, hb, hml, hown, hts⟩ (m_X7_u2 l g s.heap.size ws h0 (z_2) hG o_h0) (cwV 1 hts (gd_V kw_1266 kw_1450 kw_1451 kw_710 kw_1449) rfl rfl rfl (by decide +kernel) ⟨Nat.le_of_ble_eq_true rfl, Nat.le_of_ble_eq_true rfl⟩) ⟨gblind, va_recv hK hP (ci := 6) (q0 := k_1) rfl hk_1, fun U hU hW9 => gmk hU hW9 hP hK hD hex hE hS hFc⟩ rfl rfl hl.1 rfl (lv_room (Nat.le_of_ble_eq_true rfl)) dX7_entryLength_72 ⟨Nat.le_of_ble_eq_true rfl, Nat.le_of_ble_eq_true rfl⟩) hS (fun q _ h => hFc q h) hFc (fun r_3 u9 t9 H1 locs ht9 hvm9 hw9 hB9 hz9 hk9 hS => ?_)
    have hP : va_P (gD g) cl0 ws H1 := by rw [← ht9]; exact hB9.1
    have h_r_3 := hw9
    clear hB9 hz9 hk9 hvm9 ht9 hw9
    generalize H1 = H at hP hS ⊢
    refine lv_iadd hx hb dX7_entryLength_75 ?_
    refine lv_topi (fun z_4 ez_4 => ?_)
    refine W.widen (k := 0) (n := 0) (Nat.le_of_ble_eq_true rfl) (Nat.le_of_ble_eq_true rfl) ?_
    exact W.iret (v := z_4) hx hb hr (fun t9 ht9 hW9 => ⟨⟨_, (), rfl, trivial, ⟨by rw [ht9]; exact hP, hD⟩⟩, hS.F ht9⟩) hS.2.2 dX7_entryLength_76
  have K_1_79 : W p l e (headSpec (wt yX7_entryLength cX7_entryLength 2 (some .int)) ({ frames := 1, cells := 0, slots := 0, locals := 21 })).room s m ([.ref h0, .int x1] : List Value).toArray below meth c s.heap [] (0) (0) (MQ below (va_Qi (fun (r : Int32) (u9 : Unit) => True) (gQ0 g A ws) A) ([.ref h0, .int x1] : List Value).toArray s (0) (0) A) (F0 m 79 ls []) := by
    refine lv_iconst (v := 5) hx hb dX7_entryLength_79 (by decide) ?_
    refine W.widen (k := 0) (n := 0) (Nat.le_of_ble_eq_true rfl) (Nat.le_of_ble_eq_true rfl) ?_
    exact W.iret (v := 5) hx hb hr (fun t9 ht9 hW9 => ⟨⟨_, (), rfl, trivial, ⟨by rw [ht9]; exact hP, hD⟩⟩, hS.F ht9⟩) hS.2.2 dX7_entryLength_80
  have K_1_81 : W p l e (headSpec (wt yX7_entryLength cX7_entryLength 2 (some .int)) ({ frames := 1, cells := 0, slots := 0, locals := 21 })).room s m ([.ref h0, .int x1] : List Value).toArray below meth c s.heap [] (0) (0) (MQ below (va_Qi (fun (r : Int32) (u9 : Unit) => True) (gQ0 g A ws) A) ([.ref h0, .int x1] : List Value).toArray s (0) (0) A) (F0 m 81 ls []) := by
    refine lv_bipush (v := 9) hx hb dX7_entryLength_81 (by decide) ?_
    refine W.widen (k := 0) (n := 0) (Nat.le_of_ble_eq_true rfl) (Nat.le_of_ble_eq_true rfl) ?_
    exact W.iret (v := 9) hx hb hr (fun t9 ht9 hW9 => ⟨⟨_, (), rfl, trivial, ⟨by rw [ht9]; exact hP, hD⟩⟩, hS.F ht9⟩) hS.2.2 dX7_entryLength_83
  have K_1_77 : W p l e (headSpec (wt yX7_entryLength cX7_entryLength 2 (some .int)) ({ frames := 1, cells := 0, slots := 0, locals := 21 })).room s m ([.ref h0, .int x1] : List Value).toArray below meth c s.heap [] (0) (0) (MQ below (va_Qi (fun (r : Int32) (u9 : Unit) => True) (gQ0 g A ws) A) ([.ref h0, .int x1] : List Value).toArray s (0) (0) A) (F0 m 77 ls []) := by
    refine lv_iconst (v := 3) hx hb dX7_entryLength_77 (by decide) ?_
    refine W.widen (k := 0) (n := 0) (Nat.le_of_ble_eq_true rfl) (Nat.le_of_ble_eq_true rfl) ?_
    exact W.iret (v := 3) hx hb hr (fun t9 ht9 hW9 => ⟨⟨_, (), rfl, trivial, ⟨by rw [ht9]; exact hP, hD⟩⟩, hS.F ht9⟩) hS.2.2 dX7_entryLength_78
  rcases Classical.em ((x1 : Int32).toInt < 1 ∨ 12 < (x1 : Int32).toInt) with c9 | c9
  · exact lv_tableOut (tgt := 84) hx hb dX7_entryLength_1 c9 (by decide) K_1_84
  · rcases (show (x1 : Int32).toInt = 1 ∨ (x1 : Int32).toInt = 2 ∨ (x1 : Int32).toInt = 3 ∨ (x1 : Int32).toInt = 4 ∨ (x1 : Int32).toInt = 5 ∨ (x1 : Int32).toInt = 6 ∨ (x1 : Int32).toInt = 7 ∨ (x1 : Int32).toInt = 8 ∨ (x1 : Int32).toInt = 9 ∨ (x1 : Int32).toInt = 10 ∨ (x1 : Int32).toInt = 11 ∨ (x1 : Int32).toInt = 12 by omega) with c9 | c9 | c9 | c9 | c9 | c9 | c9 | c9 | c9 | c9 | c9 | c9
    · exact lv_tableIn (off := 63) (tgt := 64) hx hb dX7_entryLength_1 (by rw [c9]; decide) (by rw [c9]; decide) (by rw [c9]; rfl) (by decide) K_1_64
    · exact lv_tableIn (off := 83) (tgt := 84) hx hb dX7_entryLength_1 (by rw [c9]; decide) (by rw [c9]; decide) (by rw [c9]; rfl) (by decide) K_1_84
    · exact lv_tableIn (off := 78) (tgt := 79) hx hb dX7_entryLength_1 (by rw [c9]; decide) (by rw [c9]; decide) (by rw [c9]; rfl) (by decide) K_1_79
    · exact lv_tableIn (off := 83) (tgt := 84) hx hb dX7_entryLength_1 (by rw [c9]; decide) (by rw [c9]; decide) (by rw [c9]; rfl) (by decide) K_1_84
    · exact lv_tableIn (off := 80) (tgt := 81) hx hb dX7_entryLength_1 (by rw [c9]; decide) (by rw [c9]; decide) (by rw [c9]; rfl) (by decide) K_1_81
    · exact lv_tableIn (off := 83) (tgt := 84) hx hb dX7_entryLength_1 (by rw [c9]; decide) (by rw [c9]; decide) (by rw [c9]; rfl) (by decide) K_1_84
    · exact lv_tableIn (off := 76) (tgt := 77) hx hb dX7_entryLength_1 (by rw [c9]; decide) (by rw [c9]; decide) (by rw [c9]; rfl) (by decide) K_1_77
    · exact lv_tableIn (off := 83) (tgt := 84) hx hb dX7_entryLength_1 (by rw [c9]; decide) (by rw [c9]; decide) (by rw [c9]; rfl) (by decide) K_1_84
    · exact lv_tableIn (off := 78) (tgt := 79) hx hb dX7_entryLength_1 (by rw [c9]; decide) (by rw [c9]; decide) (by rw [c9]; rfl) (by decide) K_1_79
    · exact lv_tableIn (off := 78) (tgt := 79) hx hb dX7_entryLength_1 (by rw [c9]; decide) (by rw [c9]; decide) (by rw [c9]; rfl) (by decide) K_1_79
    · exact lv_tableIn (off := 83) (tgt := 84) hx hb dX7_entryLength_1 (by rw [c9]; decide) (by rw [c9]; decide) (by rw [c9]; rfl) (by decide) K_1_84
    · exact lv_tableIn (off := 78) (tgt := 79) hx hb dX7_entryLength_1 (by rw [c9]; decide) (by rw [c9]; decide) (by rw [c9]; rfl) (by decide) K_1_79
set_option maxHeartbeats 1000000 in
set_option maxRecDepth 100000 in
theorem m_X7_nameFits (l : Launch) (g : Gm) (sz : Nat) (ws : va_W) (h0 : Nat) (hG : Good g ws) (o_h0 : gC ws h0 6) : Met l yX7_nameFits (wt yX7_nameFits cX7_nameFits 3 (some .boolean)) ({ frames := 2, cells := 0, slots := 0, locals := 43 }) (va_Pc [.ref h0] (st_G g sz ws)) (va_Qi (fun (r : Int32) (u9 : va_W) => r = 0 ∨ r = 1) (gQ1 g [(6, 2), (6, 3)] [] none (va_A ws sz) ws) (va_A ws sz)) (0) (0) (va_A ws sz) := by
  refine Met.ofW (cc := cX7_nameFits) (maxL := 3) (ret := (some .boolean)) (by decide) rfl ?_
  intro p e s m args below meth c s₁ B hml hv
  obtain ⟨rfl, hsz, hP, hK, hD0, hex, hE⟩ := hv
  have hx := B.exec
  have hb := B.bytes
  have hr := B.returns
  have hts0 := atoms_spec (ws := wt yX7_nameFits cX7_nameFits 3 (some .boolean)) B.pre
  have hts : ∀ w ∈ tb, w.before _ s = true := fun w h => hts0 w (List.mem_cons_of_mem _ h)
  have hown : s.vm.findClass RX7 = some m.cls := findClass_of_methodNamed B.named
  subst hsz
  have hD := hD0.self (sz := s.heap.size)
  generalize hAe : va_A ws s.heap.size = A at hD hE ⊢
  have hA : ∀ q : Nat, s.heap.size ≤ q → A q := fun q h => by rw [← hAe]; exact Or.inr h
  have hS : va_S A s.heap s.heap [] := va_S.rf
  have hl := lv_entry ([.ref h0]) (n := 3) (Nat.le_of_ble_eq_true rfl)
  rw [lg_entry_eq]
  generalize (lg_sl ([.ref h0]) ++ List.replicate (3 - (lg_sl ([.ref h0])).length) Slot.unset).toArray = ls at hl ⊢
  have hl : lv_has ls 3 [(0, .ref h0)] := hl
  refine lv_aload_n hx hb dX7_nameFits_0 rfl (lv_at hl 0 rfl) ?_
  refine lv_iconst (v := 3) hx hb dX7_nameFits_1 (by decide) ?_
  have hFc := gfree hD hS hA
  obtain ⟨k_1, fs_1, hk_1⟩ := gC_of o_h0
  refine va_calli (va_runV (As := [.int 3]) (rest := []) ⟨hx, hb, hml, hown, hts⟩ (m_X7_isThere l g s.heap.size ws h0 (3) hG o_h0) (cwV 1 hts (gd_V kw_1272 kw_1382 kw_1383 kw_710 kw_1381) rfl rfl rfl (by decide +kernel) ⟨Nat.le_of_ble_eq_true rfl, Nat.le_of_ble_eq_true rfl⟩) ⟨gblind, va_recv hK hP (ci := 6) (q0 := k_1) rfl hk_1, fun U hU hW9 => gmk hU hW9 hP hK hD hex hE hS hFc⟩ rfl rfl hl.1 rfl (lv_room (Nat.le_of_ble_eq_true rfl)) dX7_nameFits_2 ⟨Nat.le_of_ble_eq_true rfl, Nat.le_of_ble_eq_true rfl⟩) hS (fun q _ h => hFc q h) hFc (fun r_2 ws_3 t9 H1 locs ht9 hvm9 hw9 hB9 hz9 hk9 hS => ?_)
  obtain ⟨E_4, Fr_5, hG, hP1, hD1⟩ := hB9
  have hP : va_P (gD g) cl0 ws_3 H1 := by rw [← ht9]; exact hP1
  have hD : va_D A ws_3 := hD1.weaken (fun _ _ _ h => hFc _ h)
  have hz_r_2 : r_2 = 0 ∨ r_2 = 1 := hw9
  clear hP1 hD1 hz9 hk9 hvm9 ht9 hw9
  generalize H1 = H at hP hS ⊢
  have o_h0 := E_4.1 _ _ o_h0
  refine lv_if_ne (tgt := 10) hx hb dX7_nameFits_5 (by decide) (fun c_8 => ?_) (fun c_8 => ?_)
  · refine lv_aload_n hx hb dX7_nameFits_10 rfl (lv_at hl 0 rfl) ?_
    refine lv_aload_n hx hb dX7_nameFits_11 rfl (lv_at hl 0 rfl) ?_
    obtain ⟨k_9, fs9, hk_9⟩ := gC_of o_h0
    obtain ⟨r0_9, n0_9, c1_9, c2_9, c3_9, r4_9, n4_9, c5_9, c6_9, c7_9, c8_9, r9_9, n9_9, r10_9, n10_9, r11_9, n11_9, c12_9, c13_9, c14_9, c15_9, c16_9, rfl, a_r0_9, f1_9, a_r4_9, f3_9, a_r9_9, f5_9, a_r10_9, f7_9, a_r11_9, f9_9, f10_9, f11_9, f12_9, f13_9, f14_9, -⟩ := (hG.1 _ _ _ _ hk_9).hX7 rfl
    refine va_get (D := gD g) (ci := 6) (v := .int c15_9) (C := RX7) (T := TX7) (N := 17) hx hb hts inX7 hown hK hP k_9 hk_9 rfl 15 (by decide) (hts _ kw_1273) (fun _ h9 => h9) rfl dX7_nameFits_12 ?_
    refine lv_iconst (v := 1) hx hb dX7_nameFits_15 (by decide) ?_
    refine lv_iadd hx hb dX7_nameFits_16 ?_
    refine lv_topi (fun z_10 ez_10 => ?_)
    have hFc := gfree hD hS hA
    refine va_calli (va_runV (As := [.int z_10]) (rest := []) ⟨hx, hb, hml, hown, hts⟩ (m_X7_u2 l g H.size ws_3 h0 (z_10) hG o_h0) (cwV 1 hts (gd_V kw_1266 kw_1450 kw_1451 kw_710 kw_1449) rfl rfl rfl (by decide +kernel) ⟨Nat.le_of_ble_eq_true rfl, Nat.le_of_ble_eq_true rfl⟩) ⟨gblind, va_recv hK hP (ci := 6) (q0 := k_9) rfl hk_9, fun U hU hW9 => gmk hU hW9 hP hK hD hex hE hS hFc⟩ rfl rfl hl.1 rfl (lv_room (Nat.le_of_ble_eq_true rfl)) dX7_nameFits_17 ⟨Nat.le_of_ble_eq_true rfl, Nat.le_of_ble_eq_true rfl⟩) hS (fun q _ h => hFc q h) hFc (fun r_11 u9 t9 H1 locs ht9 hvm9 hw9 hB9 hz9 hk9 hS => ?_)
    have hP : va_P (gD g) cl0 ws_3 H1 := by rw [← ht9]; exact hB9.1
    have h_r_11 := hw9
    clear hB9 hz9 hk9 hvm9 ht9 hw9
    generalize H1 = H at hP hS ⊢
    refine lv_istore_n (lv' := [(1, .int r_11), (0, .ref h0)]) hx hb dX7_nameFits_20 rfl hl (by decide) rfl (fun ls hl => ?_)
    refine lv_iload_n hx hb dX7_nameFits_21 rfl (lv_at hl 0 rfl) ?_
    refine lv_iconst (v := 1) hx hb dX7_nameFits_22 (by decide) ?_
    have J_32 : ∀  (H : Heap) (locs : List Loc) (ls : Array Slot), va_P (gD g) cl0 ws_3 H → va_D A ws_3 → va_S A s.heap H locs → lv_has ls 3 [(0, .ref h0)] → W p l e (headSpec (wt yX7_nameFits cX7_nameFits 3 (some .boolean)) ({ frames := 2, cells := 0, slots := 0, locals := 43 })).room s m ([.ref h0] : List Value).toArray below meth c H locs (0) (0) (MQ below (va_Qi (fun (r : Int32) (u9 : va_W) => r = 0 ∨ r = 1) (gQ1 g [(6, 2), (6, 3)] [] none A ws) A) ([.ref h0] : List Value).toArray s (0) (0) A) (F0 m 32 ls []) := by
      intro  H locs ls  hP hD hS hl
      refine lv_aload_n hx hb dX7_nameFits_32 rfl (lv_at hl 0 rfl) ?_
      refine lv_iconst (v := 4) hx hb dX7_nameFits_33 (by decide) ?_
      refine lv_aload_n hx hb dX7_nameFits_34 rfl (lv_at hl 0 rfl) ?_
      refine va_get (D := gD g) (ci := 6) (v := .int c15_9) (C := RX7) (T := TX7) (N := 17) hx hb hts inX7 hown hK hP k_9 hk_9 rfl 15 (by decide) (hts _ kw_1273) (fun _ h9 => h9) rfl dX7_nameFits_35 ?_
      have hFc := gfree hD hS hA
      refine va_calli (va_runV (As := [.int 4, .int c15_9]) (rest := []) ⟨hx, hb, hml, hown, hts⟩ (m_X7_breaks l g H.size ws_3 h0 (4) (c15_9) hG o_h0) (cwV 2 hts (gd_V kw_1276 kw_1278 kw_1279 kw_710 kw_1277) rfl rfl rfl (by decide +kernel) ⟨Nat.le_of_ble_eq_true rfl, Nat.le_of_ble_eq_true rfl⟩) ⟨gblind, va_recv hK hP (ci := 6) (q0 := k_9) rfl hk_9, fun U hU hW9 => gmk hU hW9 hP hK hD hex hE hS hFc⟩ rfl rfl hl.1 rfl (lv_room (Nat.le_of_ble_eq_true rfl)) dX7_nameFits_38 ⟨Nat.le_of_ble_eq_true rfl, Nat.le_of_ble_eq_true rfl⟩) hS (fun q _ h => hFc q h) hFc (fun r_14 ws_15 t9 H1 locs ht9 hvm9 hw9 hB9 hz9 hk9 hS => ?_)
      obtain ⟨E_16, Fr_17, hG, hP1, hD1⟩ := hB9
      have hP : va_P (gD g) cl0 ws_15 H1 := by rw [← ht9]; exact hP1
      have hD : va_D A ws_15 := hD1.weaken (fun _ _ _ h => hFc _ h)
      have hz_r_14 : r_14 = 0 ∨ r_14 = 1 := hw9
      clear hP1 hD1 hz9 hk9 hvm9 ht9 hw9
      generalize H1 = H at hP hS ⊢
      have aa_20 := a_r0_9
      have aa_21 := a_r4_9
      have aa_22 := a_r9_9
      have aa_23 := a_r10_9
      have aa_24 := a_r11_9
      have o_h0 := E_16.1 _ _ o_h0
      refine W.widen (k := 0) (n := 0) (Nat.le_of_ble_eq_true rfl) (Nat.le_of_ble_eq_true rfl) ?_
      exact W.zret (v := r_14) hx hb hr (nz hz_r_14) (fun t9 ht9 hW9 => ⟨⟨_, ws_15, rfl, hz_r_14, ⟨(E_4.tr E_16), (gF.tr Fr_5 Fr_17), hG, by rw [ht9]; exact hP, hD⟩⟩, hS.F ht9⟩) hS.2.2 dX7_nameFits_41
    refine lv_icmp_lt (tgt := 32) hx hb dX7_nameFits_23 (by decide) (fun c_25 => ?_) (fun c_25 => ?_)
    · exact J_32  H locs ls  hP hD hS (lv_sub hl [1] rfl)
    · refine lv_iload_n hx hb dX7_nameFits_26 rfl (lv_at hl 0 rfl) ?_
      refine lv_bipush (v := 100) hx hb dX7_nameFits_27 (by decide) ?_
      refine lv_icmp_le (tgt := 42) hx hb dX7_nameFits_29 (by decide) (fun c_26 => ?_) (fun c_26 => ?_)
      · refine lv_aload_n hx hb dX7_nameFits_42 rfl (lv_at hl 1 rfl) ?_
        refine va_get (D := gD g) (ci := 6) (v := .int c15_9) (C := RX7) (T := TX7) (N := 17) hx hb hts inX7 hown hK hP k_9 hk_9 rfl 15 (by decide) (hts _ kw_1273) (fun _ h9 => h9) rfl dX7_nameFits_43 ?_
        refine lv_iconst (v := 3) hx hb dX7_nameFits_46 (by decide) ?_
        refine lv_iadd hx hb dX7_nameFits_47 ?_
        refine lv_topi (fun z_27 ez_27 => ?_)
        refine lv_istore_n (lv' := [(2, .int z_27), (1, .int r_11), (0, .ref h0)]) hx hb dX7_nameFits_48 rfl hl (by decide) rfl (fun ls hl => ?_)
        have J_49 : ∀ (n9 : Nat) (v2_28 : Int32) (H : Heap) (locs : List Loc) (ls : Array Slot), (2147483647 - v2_28.toInt).toNat = n9 → va_P (gD g) cl0 ws_3 H → va_D A ws_3 → va_S A s.heap H locs → lv_has ls 3 [(0, .ref h0), (1, .int r_11), (2, .int v2_28)] → W p l e (headSpec (wt yX7_nameFits cX7_nameFits 3 (some .boolean)) ({ frames := 2, cells := 0, slots := 0, locals := 43 })).room s m ([.ref h0] : List Value).toArray below meth c H locs (0) (0) (MQ below (va_Qi (fun (r : Int32) (u9 : va_W) => r = 0 ∨ r = 1) (gQ1 g [(6, 2), (6, 3)] [] none A ws) A) ([.ref h0] : List Value).toArray s (0) (0) A) (F0 m 49 ls []) := by
          intro n9
          induction n9 using Nat.strongRecOn with
          | ind n9 ih_49 =>
            intro v2_28 H locs ls hm9  hP hD hS hl
            subst hm9
            refine lv_iload_n hx hb dX7_nameFits_49 rfl (lv_at hl 2 rfl) ?_
            refine lv_aload_n hx hb dX7_nameFits_50 rfl (lv_at hl 0 rfl) ?_
            refine va_get (D := gD g) (ci := 6) (v := .int c15_9) (C := RX7) (T := TX7) (N := 17) hx hb hts inX7 hown hK hP k_9 hk_9 rfl 15 (by decide) (hts _ kw_1273) (fun _ h9 => h9) rfl dX7_nameFits_51 ?_
            refine lv_iconst (v := 3) hx hb dX7_nameFits_54 (by decide) ?_
            refine lv_iadd hx hb dX7_nameFits_55 ?_
            refine lv_topi (fun z_31 ez_31 => ?_)
            refine lv_iload_n hx hb dX7_nameFits_56 rfl (lv_at hl 1 rfl) ?_
            refine lv_iadd hx hb dX7_nameFits_57 ?_
            refine lv_topi (fun z_32 ez_32 => ?_)
            have J_105 : ∀  (H : Heap) (locs : List Loc) (ls : Array Slot), va_P (gD g) cl0 ws_3 H → va_D A ws_3 → va_S A s.heap H locs → lv_has ls 3 [(0, .ref h0), (1, .int r_11)] → W p l e (headSpec (wt yX7_nameFits cX7_nameFits 3 (some .boolean)) ({ frames := 2, cells := 0, slots := 0, locals := 43 })).room s m ([.ref h0] : List Value).toArray below meth c H locs (0) (0) (MQ below (va_Qi (fun (r : Int32) (u9 : va_W) => r = 0 ∨ r = 1) (gQ1 g [(6, 2), (6, 3)] [] none A ws) A) ([.ref h0] : List Value).toArray s (0) (0) A) (F0 m 105 ls []) := by
              intro  H locs ls  hP hD hS hl
              refine lv_aload_n hx hb dX7_nameFits_105 rfl (lv_at hl 0 rfl) ?_
              refine lv_iconst (v := 3) hx hb dX7_nameFits_106 (by decide) ?_
              refine lv_iload_n hx hb dX7_nameFits_107 rfl (lv_at hl 1 rfl) ?_
              refine lv_iadd hx hb dX7_nameFits_108 ?_
              refine lv_topi (fun z_35 ez_35 => ?_)
              have hFc := gfree hD hS hA
              refine va_calli (va_runV (As := [.int z_35]) (rest := []) ⟨hx, hb, hml, hown, hts⟩ (m_X7_isThere l g H.size ws_3 h0 (z_35) hG o_h0) (cwV 1 hts (gd_V kw_1272 kw_1382 kw_1383 kw_710 kw_1381) rfl rfl rfl (by decide +kernel) ⟨Nat.le_of_ble_eq_true rfl, Nat.le_of_ble_eq_true rfl⟩) ⟨gblind, va_recv hK hP (ci := 6) (q0 := k_9) rfl hk_9, fun U hU hW9 => gmk hU hW9 hP hK hD hex hE hS hFc⟩ rfl rfl hl.1 rfl (lv_room (Nat.le_of_ble_eq_true rfl)) dX7_nameFits_109 ⟨Nat.le_of_ble_eq_true rfl, Nat.le_of_ble_eq_true rfl⟩) hS (fun q _ h => hFc q h) hFc (fun r_36 ws_37 t9 H1 locs ht9 hvm9 hw9 hB9 hz9 hk9 hS => ?_)
              obtain ⟨E_38, Fr_39, hG, hP1, hD1⟩ := hB9
              have hP : va_P (gD g) cl0 ws_37 H1 := by rw [← ht9]; exact hP1
              have hD : va_D A ws_37 := hD1.weaken (fun _ _ _ h => hFc _ h)
              have hz_r_36 : r_36 = 0 ∨ r_36 = 1 := hw9
              clear hP1 hD1 hz9 hk9 hvm9 ht9 hw9
              generalize H1 = H at hP hS ⊢
              have aa_42 := a_r0_9
              have aa_43 := a_r4_9
              have aa_44 := a_r9_9
              have aa_45 := a_r10_9
              have aa_46 := a_r11_9
              have o_h0 := E_38.1 _ _ o_h0
              refine W.widen (k := 0) (n := 0) (Nat.le_of_ble_eq_true rfl) (Nat.le_of_ble_eq_true rfl) ?_
              exact W.zret (v := r_36) hx hb hr (nz hz_r_36) (fun t9 ht9 hW9 => ⟨⟨_, ws_37, rfl, hz_r_36, ⟨(E_4.tr E_38), (gF.tr Fr_5 Fr_39), hG, by rw [ht9]; exact hP, hD⟩⟩, hS.F ht9⟩) hS.2.2 dX7_nameFits_112
            refine lv_icmp_ge (tgt := 105) hx hb dX7_nameFits_58 (by decide) (fun c_47 => ?_) (fun c_47 => ?_)
            · exact J_105  H locs ls  hP hD hS (lv_sub hl [0, 1] rfl)
            · refine lv_iload_n hx hb dX7_nameFits_61 rfl (lv_at hl 2 rfl) ?_
              refine lv_aload_n hx hb dX7_nameFits_62 rfl (lv_at hl 0 rfl) ?_
              refine va_get (D := gD g) (ci := 6) (v := .int c1_9) (C := RX7) (T := TX7) (N := 17) hx hb hts inX7 hown hK hP k_9 hk_9 rfl 1 (by decide) (hts _ kw_1275) (fun _ h9 => h9) rfl dX7_nameFits_63 ?_
              refine lv_icmp_ge (tgt := 105) hx hb dX7_nameFits_66 (by decide) (fun c_48 => ?_) (fun c_48 => ?_)
              · exact J_105  H locs ls  hP hD hS (lv_sub hl [0, 1] rfl)
              · refine lv_aload_n hx hb dX7_nameFits_69 rfl (lv_at hl 0 rfl) ?_
                refine lv_iload_n hx hb dX7_nameFits_70 rfl (lv_at hl 2 rfl) ?_
                have hFc := gfree hD hS hA
                refine va_calli (va_runV (As := [.int v2_28]) (rest := []) ⟨hx, hb, hml, hown, hts⟩ (m_X7_u1 l g H.size ws_3 h0 (v2_28) hG o_h0) (cwV 1 hts (gd_V kw_1304 kw_1447 kw_1448 kw_710 kw_1446) rfl rfl rfl (by decide +kernel) ⟨Nat.le_of_ble_eq_true rfl, Nat.le_of_ble_eq_true rfl⟩) ⟨gblind, va_recv hK hP (ci := 6) (q0 := k_9) rfl hk_9, fun U hU hW9 => gmk hU hW9 hP hK hD hex hE hS hFc⟩ rfl rfl hl.1 rfl (lv_room (Nat.le_of_ble_eq_true rfl)) dX7_nameFits_71 ⟨Nat.le_of_ble_eq_true rfl, Nat.le_of_ble_eq_true rfl⟩) hS (fun q _ h => hFc q h) hFc (fun r_49 u9 t9 H1 locs ht9 hvm9 hw9 hB9 hz9 hk9 hS => ?_)
                have hP : va_P (gD g) cl0 ws_3 H1 := by rw [← ht9]; exact hB9.1
                have h_r_49 := hw9
                clear hB9 hz9 hk9 hvm9 ht9 hw9
                generalize H1 = H at hP hS ⊢
                refine lv_bipush (v := 33) hx hb dX7_nameFits_74 (by decide) ?_
                have J_89 : ∀  (H : Heap) (locs : List Loc) (ls : Array Slot), va_P (gD g) cl0 ws_3 H → va_D A ws_3 → va_S A s.heap H locs → lv_has ls 3 [(0, .ref h0)] → W p l e (headSpec (wt yX7_nameFits cX7_nameFits 3 (some .boolean)) ({ frames := 2, cells := 0, slots := 0, locals := 43 })).room s m ([.ref h0] : List Value).toArray below meth c H locs (0) (0) (MQ below (va_Qi (fun (r : Int32) (u9 : va_W) => r = 0 ∨ r = 1) (gQ1 g [(6, 2), (6, 3)] [] none A ws) A) ([.ref h0] : List Value).toArray s (0) (0) A) (F0 m 89 ls []) := by
                  intro  H locs ls  hP hD hS hl
                  refine lv_aload_n hx hb dX7_nameFits_89 rfl (lv_at hl 0 rfl) ?_
                  refine lv_iconst (v := 4) hx hb dX7_nameFits_90 (by decide) ?_
                  refine lv_aload_n hx hb dX7_nameFits_91 rfl (lv_at hl 0 rfl) ?_
                  refine va_get (D := gD g) (ci := 6) (v := .int c15_9) (C := RX7) (T := TX7) (N := 17) hx hb hts inX7 hown hK hP k_9 hk_9 rfl 15 (by decide) (hts _ kw_1273) (fun _ h9 => h9) rfl dX7_nameFits_92 ?_
                  have hFc := gfree hD hS hA
                  refine va_calli (va_runV (As := [.int 4, .int c15_9]) (rest := []) ⟨hx, hb, hml, hown, hts⟩ (m_X7_breaks l g H.size ws_3 h0 (4) (c15_9) hG o_h0) (cwV 2 hts (gd_V kw_1276 kw_1278 kw_1279 kw_710 kw_1277) rfl rfl rfl (by decide +kernel) ⟨Nat.le_of_ble_eq_true rfl, Nat.le_of_ble_eq_true rfl⟩) ⟨gblind, va_recv hK hP (ci := 6) (q0 := k_9) rfl hk_9, fun U hU hW9 => gmk hU hW9 hP hK hD hex hE hS hFc⟩ rfl rfl hl.1 rfl (lv_room (Nat.le_of_ble_eq_true rfl)) dX7_nameFits_95 ⟨Nat.le_of_ble_eq_true rfl, Nat.le_of_ble_eq_true rfl⟩) hS (fun q _ h => hFc q h) hFc (fun r_52 ws_53 t9 H1 locs ht9 hvm9 hw9 hB9 hz9 hk9 hS => ?_)
                  obtain ⟨E_54, Fr_55, hG, hP1, hD1⟩ := hB9
                  have hP : va_P (gD g) cl0 ws_53 H1 := by rw [← ht9]; exact hP1
                  have hD : va_D A ws_53 := hD1.weaken (fun _ _ _ h => hFc _ h)
                  have hz_r_52 : r_52 = 0 ∨ r_52 = 1 := hw9
                  clear hP1 hD1 hz9 hk9 hvm9 ht9 hw9
                  generalize H1 = H at hP hS ⊢
                  have aa_58 := a_r0_9
                  have aa_59 := a_r4_9
                  have aa_60 := a_r9_9
                  have aa_61 := a_r10_9
                  have aa_62 := a_r11_9
                  have o_h0 := E_54.1 _ _ o_h0
                  refine W.widen (k := 0) (n := 0) (Nat.le_of_ble_eq_true rfl) (Nat.le_of_ble_eq_true rfl) ?_
                  exact W.zret (v := r_52) hx hb hr (nz hz_r_52) (fun t9 ht9 hW9 => ⟨⟨_, ws_53, rfl, hz_r_52, ⟨(E_4.tr E_54), (gF.tr Fr_5 Fr_55), hG, by rw [ht9]; exact hP, hD⟩⟩, hS.F ht9⟩) hS.2.2 dX7_nameFits_98
                refine lv_icmp_lt (tgt := 89) hx hb dX7_nameFits_76 (by decide) (fun c_63 => ?_) (fun c_63 => ?_)
                · exact J_89  H locs ls  hP hD hS (lv_sub hl [0] rfl)
                · refine lv_aload_n hx hb dX7_nameFits_79 rfl (lv_at hl 0 rfl) ?_
                  refine lv_iload_n hx hb dX7_nameFits_80 rfl (lv_at hl 2 rfl) ?_
                  have hFc := gfree hD hS hA
                  refine va_calli (va_runV (As := [.int v2_28]) (rest := []) ⟨hx, hb, hml, hown, hts⟩ (m_X7_u1 l g H.size ws_3 h0 (v2_28) hG o_h0) (cwV 1 hts (gd_V kw_1304 kw_1447 kw_1448 kw_710 kw_1446) rfl rfl rfl (by decide +kernel) ⟨Nat.le_of_ble_eq_true rfl, Nat.le_of_ble_eq_true rfl⟩) ⟨gblind, va_recv hK hP (ci := 6) (q0 := k_9) rfl hk_9, fun U hU hW9 => gmk hU hW9 hP hK hD hex hE hS hFc⟩ rfl rfl hl.1 rfl (lv_room (Nat.le_of_ble_eq_true rfl)) dX7_nameFits_81 ⟨Nat.le_of_ble_eq_true rfl, Nat.le_of_ble_eq_true rfl⟩) hS (fun q _ h => hFc q h) hFc (fun r_64 u9 t9 H1 locs ht9 hvm9 hw9 hB9 hz9 hk9 hS => ?_)
                  have hP : va_P (gD g) cl0 ws_3 H1 := by rw [← ht9]; exact hB9.1
                  have h_r_64 := hw9
                  clear hB9 hz9 hk9 hvm9 ht9 hw9
                  generalize H1 = H at hP hS ⊢
                  refine lv_bipush (v := 126) hx hb dX7_nameFits_84 (by decide) ?_
                  refine lv_icmp_le (tgt := 99) hx hb dX7_nameFits_86 (by decide) (fun c_65 => ?_) (fun c_65 => ?_)
                  · obtain ⟨z_66, ez_66⟩ : ∃ z : Int32, v2_28 + Int32.ofInt 1 = z := ⟨_, rfl⟩
                    refine lv_iinc (v := z_66) (lv' := [(2, .int z_66), (0, .ref h0), (1, .int r_11)]) hx hb dX7_nameFits_99 hl (k := 2) rfl ez_66 (by decide) rfl (fun ls hl => ?_)
                    refine lv_goto (tgt := 49) hx hb dX7_nameFits_102 (by decide) ?_
                    exact ih_49 _ (by obtain ⟨u_z_66, q_z_66⟩ := i_iz ez_66 (by decide) (by decide); have q_c_47 := i_nle c_47; have q_c_48 := i_nle c_48; have g_c1_9 := i_rg c1_9; have g_v2_28 := i_rg v2_28; have g_z_32 := i_rg z_32; have g_z_66 := i_rg z_66; omega) (z_66) H locs ls rfl  hP hD hS (lv_sub hl [1, 2, 0] rfl)
                  · exact J_89  H locs ls  hP hD hS (lv_sub hl [0] rfl)
        exact J_49 _ (z_27) H locs ls rfl  hP hD hS (lv_sub hl [2, 1, 0] rfl)
      · exact J_32  H locs ls  hP hD hS (lv_sub hl [1] rfl)
  · refine lv_iconst (v := 0) hx hb dX7_nameFits_8 (by decide) ?_
    refine W.widen (k := 0) (n := 0) (Nat.le_of_ble_eq_true rfl) (Nat.le_of_ble_eq_true rfl) ?_
    exact W.zret (v := 0) hx hb hr (nz (Or.inl rfl)) (fun t9 ht9 hW9 => ⟨⟨_, ws_3, rfl, (Or.inl rfl), ⟨E_4, Fr_5, hG, by rw [ht9]; exact hP, hD⟩⟩, hS.F ht9⟩) hS.2.2 dX7_nameFits_9
set_option maxHeartbeats 1000000 in
set_option maxRecDepth 100000 in
theorem m_X7_headFits (l : Launch) (g : Gm) (sz : Nat) (ws : va_W) (h0 : Nat) (hG : Good g ws) (o_h0 : gC ws h0 6) : Met l yX7_headFits (wt yX7_headFits cX7_headFits 1 (some .boolean)) ({ frames := 2, cells := 0, slots := 0, locals := 43 }) (va_Pc [.ref h0] (st_G g sz ws)) (va_Qi (fun (r : Int32) (u9 : va_W) => r = 0 ∨ r = 1) (gQ1 g [(6, 2), (6, 3), (6, 6), (6, 15)] [] none (va_A ws sz) ws) (va_A ws sz)) (0) (0) (va_A ws sz) := by
  refine Met.ofW (cc := cX7_headFits) (maxL := 1) (ret := (some .boolean)) (by decide) rfl ?_
  intro p e s m args below meth c s₁ B hml hv
  obtain ⟨rfl, hsz, hP, hK, hD0, hex, hE⟩ := hv
  have hx := B.exec
  have hb := B.bytes
  have hr := B.returns
  have hts0 := atoms_spec (ws := wt yX7_headFits cX7_headFits 1 (some .boolean)) B.pre
  have hts : ∀ w ∈ tb, w.before _ s = true := fun w h => hts0 w (List.mem_cons_of_mem _ h)
  have hown : s.vm.findClass RX7 = some m.cls := findClass_of_methodNamed B.named
  subst hsz
  have hD := hD0.self (sz := s.heap.size)
  generalize hAe : va_A ws s.heap.size = A at hD hE ⊢
  have hA : ∀ q : Nat, s.heap.size ≤ q → A q := fun q h => by rw [← hAe]; exact Or.inr h
  have hS : va_S A s.heap s.heap [] := va_S.rf
  have hl := lv_entry ([.ref h0]) (n := 1) (Nat.le_of_ble_eq_true rfl)
  rw [lg_entry_eq]
  generalize (lg_sl ([.ref h0]) ++ List.replicate (1 - (lg_sl ([.ref h0])).length) Slot.unset).toArray = ls at hl ⊢
  have hl : lv_has ls 1 [(0, .ref h0)] := hl
  refine lv_aload_n hx hb dX7_headFits_0 rfl (lv_at hl 0 rfl) ?_
  refine lv_aload_n hx hb dX7_headFits_1 rfl (lv_at hl 0 rfl) ?_
  obtain ⟨k_1, fs9, hk_1⟩ := gC_of o_h0
  obtain ⟨r0_1, n0_1, c1_1, c2_1, c3_1, r4_1, n4_1, c5_1, c6_1, c7_1, c8_1, r9_1, n9_1, r10_1, n10_1, r11_1, n11_1, c12_1, c13_1, c14_1, c15_1, c16_1, rfl, a_r0_1, f1_1, a_r4_1, f3_1, a_r9_1, f5_1, a_r10_1, f7_1, a_r11_1, f9_1, f10_1, f11_1, f12_1, f13_1, f14_1, -⟩ := (hG.1 _ _ _ _ hk_1).hX7 rfl
  refine va_get (D := gD g) (ci := 6) (v := .int c15_1) (C := RX7) (T := TX7) (N := 17) hx hb hts inX7 hown hK hP k_1 hk_1 rfl 15 (by decide) (hts _ kw_1273) (fun _ h9 => h9) rfl dX7_headFits_2 ?_
  have hV9 : okv ws 6 6 (.int c15_1) := okv_i
  refine va_put (D := gD g) (ci := 6) (v := .int c15_1) (ty := .int) (C := RX7) (T := TX7) (N := 17) hx hb hts inX7 tyX7 tyX7_ok nmX7 hown hK hP hD hS k_1 hk_1 rfl 6 (by decide) (hts _ kw_1331) (fun _ h9 => h9) rfl (by decide +kernel) rfl rfl (Nat.le_of_ble_eq_true rfl) dX7_headFits_5 (fun H locs hP hD hS => ?_)
  have hi_2 : invX7 g ws h0 [.ref r0_1, .int c1_1, .int c2_1, .int c3_1, .ref r4_1, .int c5_1, .int c15_1, .int c7_1, .int c8_1, .ref r9_1, .ref r10_1, .ref r11_1, .int c12_1, .int c13_1, .int c14_1, .int c15_1, .int c16_1] := ⟨r0_1, (n0_1), (c1_1), (c2_1), (c3_1), r4_1, (n4_1), (c5_1), (c15_1), (c7_1), (c8_1), r9_1, (n9_1), r10_1, (n10_1), r11_1, (n11_1), (c12_1), (c13_1), (c14_1), (c15_1), (c16_1), rfl, a_r0_1, f1_1, a_r4_1, f3_1, a_r9_1, f5_1, a_r10_1, f7_1, a_r11_1, f9_1, f10_1, f11_1, f12_1, f13_1, f14_1, trivial⟩
  obtain ⟨ws_3, e_ws_3⟩ : ∃ z, z = ws.set k_1 (h0, .inr (6, [.ref r0_1, .int c1_1, .int c2_1, .int c3_1, .ref r4_1, .int c5_1, .int c15_1, .int c7_1, .int c8_1, .ref r9_1, .ref r10_1, .ref r11_1, .int c12_1, .int c13_1, .int c14_1, .int c15_1, .int c16_1])) := ⟨_, rfl⟩
  have hP : va_P (gD g) cl0 ws_3 H := by rw [e_ws_3]; exact hP
  have hD : va_D A ws_3 := by rw [e_ws_3]; exact hD
  have E_4 : gE ws ws_3 := gE_set e_ws_3 hk_1 (cw_o (fi := 6) (v := .int c15_1) rfl (by decide))
  have hG : Good g ws_3 := Good_set (fi := 6) (v := .int c15_1) e_ws_3 hk_1 E_4 rfl hV9 hG (ivX7 hi_2)
  have Fr_5 : gF [(6, 6)] [] (some h0) ws ws_3 := gF_put (fi := 6) (v := .int c15_1) e_ws_3 hk_1 rfl (by decide)
  have hkN := gset_self e_ws_3 hk_1
  have hk_1 := hkN
  have o_h0 := E_4.1 _ _ o_h0
  have a_r0_1 := E_4.1 _ _ a_r0_1
  have a_r4_1 := E_4.1 _ _ a_r4_1
  have a_r9_1 := E_4.1 _ _ a_r9_1
  have a_r10_1 := E_4.1 _ _ a_r10_1
  have a_r11_1 := E_4.1 _ _ a_r11_1
  refine lv_aload_n hx hb dX7_headFits_8 rfl (lv_at hl 0 rfl) ?_
  refine lv_bipush (v := 8) hx hb dX7_headFits_9 (by decide) ?_
  have hFc := gfree hD hS hA
  refine va_calli (va_runV (As := [.int 8]) (rest := []) ⟨hx, hb, hml, hown, hts⟩ (m_X7_isThere l g H.size ws_3 h0 (8) hG o_h0) (cwV 1 hts (gd_V kw_1272 kw_1382 kw_1383 kw_710 kw_1381) rfl rfl rfl (by decide +kernel) ⟨Nat.le_of_ble_eq_true rfl, Nat.le_of_ble_eq_true rfl⟩) ⟨gblind, va_recv hK hP (ci := 6) (q0 := k_1) rfl hk_1, fun U hU hW9 => gmk hU hW9 hP hK hD hex hE hS hFc⟩ rfl rfl hl.1 rfl (lv_room (Nat.le_of_ble_eq_true rfl)) dX7_headFits_11 ⟨Nat.le_of_ble_eq_true rfl, Nat.le_of_ble_eq_true rfl⟩) hS (fun q _ h => hFc q h) hFc (fun r_6 ws_7 t9 H1 locs ht9 hvm9 hw9 hB9 hz9 hk9 hS => ?_)
  obtain ⟨E_8, Fr_9, hG, hP1, hD1⟩ := hB9
  have hP : va_P (gD g) cl0 ws_7 H1 := by rw [← ht9]; exact hP1
  have hD : va_D A ws_7 := hD1.weaken (fun _ _ _ h => hFc _ h)
  have hz_r_6 : r_6 = 0 ∨ r_6 = 1 := hw9
  clear hP1 hD1 hz9 hk9 hvm9 ht9 hw9
  generalize H1 = H at hP hS ⊢
  have aa_12 := a_r0_1
  have aa_13 := a_r4_1
  have aa_14 := a_r9_1
  have aa_15 := a_r10_1
  have aa_16 := a_r11_1
  have o_h0 := E_8.1 _ _ o_h0
  refine lv_if_ne (tgt := 19) hx hb dX7_headFits_14 (by decide) (fun c_17 => ?_) (fun c_17 => ?_)
  · refine lv_aload_n hx hb dX7_headFits_19 rfl (lv_at hl 0 rfl) ?_
    refine lv_dup hx hb dX7_headFits_20 rfl ?_
    obtain ⟨fs9, hk_18, hq_18⟩ := ((gF.a (F' := [(6, 2), (6, 3)]) Fr_9 (fun _ h => h))) _ _ _ hk_1
    obtain ⟨r0_18, n0_18, c1_18, c2_18, c3_18, r4_18, n4_18, c5_18, c6_18, c7_18, c8_18, r9_18, n9_18, r10_18, n10_18, r11_18, n11_18, c12_18, c13_18, c14_18, c15_18, c16_18, rfl, a_r0_18, f1_18, a_r4_18, f3_18, a_r9_18, f5_18, a_r10_18, f7_18, a_r11_18, f9_18, f10_18, f11_18, f12_18, f13_18, f14_18, -⟩ := (hG.1 _ _ _ _ hk_18).hX7 rfl
    obtain rfl := fe_i (hq_18 15 (by decide))
    refine va_get (D := gD g) (ci := 6) (v := .int c15_1) (C := RX7) (T := TX7) (N := 17) hx hb hts inX7 hown hK hP k_1 hk_18 rfl 15 (by decide) (hts _ kw_1273) (fun _ h9 => h9) rfl dX7_headFits_21 ?_
    refine lv_bipush (v := 8) hx hb dX7_headFits_24 (by decide) ?_
    refine lv_iadd hx hb dX7_headFits_26 ?_
    refine lv_topi (fun z_19 ez_19 => ?_)
    have hV9 : okv ws_7 6 15 (.int z_19) := okv_i
    refine va_put (D := gD g) (ci := 6) (v := .int z_19) (ty := .int) (C := RX7) (T := TX7) (N := 17) hx hb hts inX7 tyX7 tyX7_ok nmX7 hown hK hP hD hS k_1 hk_18 rfl 15 (by decide) (hts _ kw_1273) (fun _ h9 => h9) rfl (by decide +kernel) rfl rfl (Nat.le_of_ble_eq_true rfl) dX7_headFits_27 (fun H locs hP hD hS => ?_)
    have hi_20 : invX7 g ws_7 h0 [.ref r0_18, .int c1_18, .int c2_18, .int c3_18, .ref r4_18, .int c5_18, .int c6_18, .int c7_18, .int c8_18, .ref r9_18, .ref r10_18, .ref r11_18, .int c12_18, .int c13_18, .int c14_18, .int z_19, .int c16_18] := ⟨r0_18, (n0_18), (c1_18), (c2_18), (c3_18), r4_18, (n4_18), (c5_18), (c6_18), (c7_18), (c8_18), r9_18, (n9_18), r10_18, (n10_18), r11_18, (n11_18), (c12_18), (c13_18), (c14_18), (z_19), (c16_18), rfl, a_r0_18, f1_18, a_r4_18, f3_18, a_r9_18, f5_18, a_r10_18, f7_18, a_r11_18, f9_18, f10_18, f11_18, f12_18, f13_18, f14_18, trivial⟩
    obtain ⟨ws_21, e_ws_21⟩ : ∃ z, z = ws_7.set k_1 (h0, .inr (6, [.ref r0_18, .int c1_18, .int c2_18, .int c3_18, .ref r4_18, .int c5_18, .int c6_18, .int c7_18, .int c8_18, .ref r9_18, .ref r10_18, .ref r11_18, .int c12_18, .int c13_18, .int c14_18, .int z_19, .int c16_18])) := ⟨_, rfl⟩
    have hP : va_P (gD g) cl0 ws_21 H := by rw [e_ws_21]; exact hP
    have hD : va_D A ws_21 := by rw [e_ws_21]; exact hD
    have E_22 : gE ws_7 ws_21 := gE_set e_ws_21 hk_18 (cw_o (fi := 15) (v := .int z_19) rfl (by decide))
    have hG : Good g ws_21 := Good_set (fi := 15) (v := .int z_19) e_ws_21 hk_18 E_22 rfl hV9 hG (ivX7 hi_20)
    have Fr_23 : gF [(6, 15)] [] (some h0) ws_7 ws_21 := gF_put (fi := 15) (v := .int z_19) e_ws_21 hk_18 rfl (by decide)
    have hkN := gset_self e_ws_21 hk_18
    have hk_18 := hkN
    have o_h0 := E_22.1 _ _ o_h0
    have a_r0_18 := E_22.1 _ _ a_r0_18
    have a_r4_18 := E_22.1 _ _ a_r4_18
    have a_r9_18 := E_22.1 _ _ a_r9_18
    have a_r10_18 := E_22.1 _ _ a_r10_18
    have a_r11_18 := E_22.1 _ _ a_r11_18
    refine lv_iconst (v := 1) hx hb dX7_headFits_30 (by decide) ?_
    refine W.widen (k := 0) (n := 0) (Nat.le_of_ble_eq_true rfl) (Nat.le_of_ble_eq_true rfl) ?_
    exact W.zret (v := 1) hx hb hr (nz (Or.inr rfl)) (fun t9 ht9 hW9 => ⟨⟨_, ws_21, rfl, (Or.inr rfl), ⟨(E_4.tr (E_8.tr E_22)), (gF.tr (gF.mo (F' := [(6, 2), (6, 3), (6, 6), (6, 15)]) (C' := []) (S' := none) Fr_5 (by decide) (fun _ h => h) (Or.inl rfl)) (gF.tr (gF.mo (F' := [(6, 2), (6, 3), (6, 6), (6, 15)]) (C' := []) (S' := none) Fr_9 (by decide) (fun _ h => h) (Or.inr rfl)) (gF.mo (F' := [(6, 2), (6, 3), (6, 6), (6, 15)]) (C' := []) (S' := none) Fr_23 (by decide) (fun _ h => h) (Or.inl rfl)))), hG, by rw [ht9]; exact hP, hD⟩⟩, hS.F ht9⟩) hS.2.2 dX7_headFits_31
  · refine lv_iconst (v := 0) hx hb dX7_headFits_17 (by decide) ?_
    refine W.widen (k := 0) (n := 0) (Nat.le_of_ble_eq_true rfl) (Nat.le_of_ble_eq_true rfl) ?_
    exact W.zret (v := 0) hx hb hr (nz (Or.inl rfl)) (fun t9 ht9 hW9 => ⟨⟨_, ws_7, rfl, (Or.inl rfl), ⟨(E_4.tr E_8), (gF.tr (gF.mo (F' := [(6, 2), (6, 3), (6, 6), (6, 15)]) (C' := []) (S' := none) Fr_5 (by decide) (fun _ h => h) (Or.inl rfl)) (gF.mo (F' := [(6, 2), (6, 3), (6, 6), (6, 15)]) (C' := []) (S' := none) Fr_9 (by decide) (fun _ h => h) (Or.inr rfl))), hG, by rw [ht9]; exact hP, hD⟩⟩, hS.F ht9⟩) hS.2.2 dX7_headFits_18
set_option maxHeartbeats 1000000 in
set_option maxRecDepth 100000 in
theorem m_X7_attributesFit (l : Launch) (g : Gm) (sz : Nat) (ws : va_W) (h0 : Nat) (hG : Good g ws) (o_h0 : gC ws h0 6) : Met l yX7_attributesFit (wt yX7_attributesFit cX7_attributesFit 5 (some .boolean)) ({ frames := 2, cells := 0, slots := 0, locals := 43 }) (va_Pc [.ref h0] (st_G g sz ws)) (va_Qi (fun (r : Int32) (u9 : va_W) => r = 0 ∨ r = 1) (gQ1 g [(6, 2), (6, 3), (6, 15)] [] none (va_A ws sz) ws) (va_A ws sz)) (0) (0) (va_A ws sz) := by
  refine Met.ofW (cc := cX7_attributesFit) (maxL := 5) (ret := (some .boolean)) (by decide) rfl ?_
  intro p e s m args below meth c s₁ B hml hv
  obtain ⟨rfl, hsz, hP, hK, hD0, hex, hE⟩ := hv
  have hx := B.exec
  have hb := B.bytes
  have hr := B.returns
  have hts0 := atoms_spec (ws := wt yX7_attributesFit cX7_attributesFit 5 (some .boolean)) B.pre
  have hts : ∀ w ∈ tb, w.before _ s = true := fun w h => hts0 w (List.mem_cons_of_mem _ h)
  have hown : s.vm.findClass RX7 = some m.cls := findClass_of_methodNamed B.named
  subst hsz
  have hD := hD0.self (sz := s.heap.size)
  generalize hAe : va_A ws s.heap.size = A at hD hE ⊢
  have hA : ∀ q : Nat, s.heap.size ≤ q → A q := fun q h => by rw [← hAe]; exact Or.inr h
  have hS : va_S A s.heap s.heap [] := va_S.rf
  have hl := lv_entry ([.ref h0]) (n := 5) (Nat.le_of_ble_eq_true rfl)
  rw [lg_entry_eq]
  generalize (lg_sl ([.ref h0]) ++ List.replicate (5 - (lg_sl ([.ref h0])).length) Slot.unset).toArray = ls at hl ⊢
  have hl : lv_has ls 5 [(0, .ref h0)] := hl
  refine lv_aload_n hx hb dX7_attributesFit_0 rfl (lv_at hl 0 rfl) ?_
  refine lv_iconst (v := 2) hx hb dX7_attributesFit_1 (by decide) ?_
  have hFc := gfree hD hS hA
  obtain ⟨k_1, fs_1, hk_1⟩ := gC_of o_h0
  refine va_calli (va_runV (As := [.int 2]) (rest := []) ⟨hx, hb, hml, hown, hts⟩ (m_X7_isThere l g s.heap.size ws h0 (2) hG o_h0) (cwV 1 hts (gd_V kw_1272 kw_1382 kw_1383 kw_710 kw_1381) rfl rfl rfl (by decide +kernel) ⟨Nat.le_of_ble_eq_true rfl, Nat.le_of_ble_eq_true rfl⟩) ⟨gblind, va_recv hK hP (ci := 6) (q0 := k_1) rfl hk_1, fun U hU hW9 => gmk hU hW9 hP hK hD hex hE hS hFc⟩ rfl rfl hl.1 rfl (lv_room (Nat.le_of_ble_eq_true rfl)) dX7_attributesFit_2 ⟨Nat.le_of_ble_eq_true rfl, Nat.le_of_ble_eq_true rfl⟩) hS (fun q _ h => hFc q h) hFc (fun r_2 ws_3 t9 H1 locs ht9 hvm9 hw9 hB9 hz9 hk9 hS => ?_)
  obtain ⟨E_4, Fr_5, hG, hP1, hD1⟩ := hB9
  have hP : va_P (gD g) cl0 ws_3 H1 := by rw [← ht9]; exact hP1
  have hD : va_D A ws_3 := hD1.weaken (fun _ _ _ h => hFc _ h)
  have hz_r_2 : r_2 = 0 ∨ r_2 = 1 := hw9
  clear hP1 hD1 hz9 hk9 hvm9 ht9 hw9
  generalize H1 = H at hP hS ⊢
  have o_h0 := E_4.1 _ _ o_h0
  refine lv_if_ne (tgt := 10) hx hb dX7_attributesFit_5 (by decide) (fun c_8 => ?_) (fun c_8 => ?_)
  · refine lv_aload_n hx hb dX7_attributesFit_10 rfl (lv_at hl 0 rfl) ?_
    refine lv_aload_n hx hb dX7_attributesFit_11 rfl (lv_at hl 0 rfl) ?_
    obtain ⟨k_9, fs9, hk_9⟩ := gC_of o_h0
    obtain ⟨r0_9, n0_9, c1_9, c2_9, c3_9, r4_9, n4_9, c5_9, c6_9, c7_9, c8_9, r9_9, n9_9, r10_9, n10_9, r11_9, n11_9, c12_9, c13_9, c14_9, c15_9, c16_9, rfl, a_r0_9, f1_9, a_r4_9, f3_9, a_r9_9, f5_9, a_r10_9, f7_9, a_r11_9, f9_9, f10_9, f11_9, f12_9, f13_9, f14_9, -⟩ := (hG.1 _ _ _ _ hk_9).hX7 rfl
    refine va_get (D := gD g) (ci := 6) (v := .int c15_9) (C := RX7) (T := TX7) (N := 17) hx hb hts inX7 hown hK hP k_9 hk_9 rfl 15 (by decide) (hts _ kw_1273) (fun _ h9 => h9) rfl dX7_attributesFit_12 ?_
    have hFc := gfree hD hS hA
    refine va_calli (va_runV (As := [.int c15_9]) (rest := []) ⟨hx, hb, hml, hown, hts⟩ (m_X7_u2 l g H.size ws_3 h0 (c15_9) hG o_h0) (cwV 1 hts (gd_V kw_1266 kw_1450 kw_1451 kw_710 kw_1449) rfl rfl rfl (by decide +kernel) ⟨Nat.le_of_ble_eq_true rfl, Nat.le_of_ble_eq_true rfl⟩) ⟨gblind, va_recv hK hP (ci := 6) (q0 := k_9) rfl hk_9, fun U hU hW9 => gmk hU hW9 hP hK hD hex hE hS hFc⟩ rfl rfl hl.1 rfl (lv_room (Nat.le_of_ble_eq_true rfl)) dX7_attributesFit_15 ⟨Nat.le_of_ble_eq_true rfl, Nat.le_of_ble_eq_true rfl⟩) hS (fun q _ h => hFc q h) hFc (fun r_10 u9 t9 H1 locs ht9 hvm9 hw9 hB9 hz9 hk9 hS => ?_)
    have hP : va_P (gD g) cl0 ws_3 H1 := by rw [← ht9]; exact hB9.1
    have h_r_10 := hw9
    clear hB9 hz9 hk9 hvm9 ht9 hw9
    generalize H1 = H at hP hS ⊢
    refine lv_istore_n (lv' := [(1, .int r_10), (0, .ref h0)]) hx hb dX7_attributesFit_18 rfl hl (by decide) rfl (fun ls hl => ?_)
    refine lv_aload_n hx hb dX7_attributesFit_19 rfl (lv_at hl 1 rfl) ?_
    refine lv_dup hx hb dX7_attributesFit_20 rfl ?_
    refine va_get (D := gD g) (ci := 6) (v := .int c15_9) (C := RX7) (T := TX7) (N := 17) hx hb hts inX7 hown hK hP k_9 hk_9 rfl 15 (by decide) (hts _ kw_1273) (fun _ h9 => h9) rfl dX7_attributesFit_21 ?_
    refine lv_iconst (v := 2) hx hb dX7_attributesFit_24 (by decide) ?_
    refine lv_iadd hx hb dX7_attributesFit_25 ?_
    refine lv_topi (fun z_11 ez_11 => ?_)
    have hV9 : okv ws_3 6 15 (.int z_11) := okv_i
    refine va_put (D := gD g) (ci := 6) (v := .int z_11) (ty := .int) (C := RX7) (T := TX7) (N := 17) hx hb hts inX7 tyX7 tyX7_ok nmX7 hown hK hP hD hS k_9 hk_9 rfl 15 (by decide) (hts _ kw_1273) (fun _ h9 => h9) rfl (by decide +kernel) rfl rfl (Nat.le_of_ble_eq_true rfl) dX7_attributesFit_26 (fun H locs hP hD hS => ?_)
    have hi_12 : invX7 g ws_3 h0 [.ref r0_9, .int c1_9, .int c2_9, .int c3_9, .ref r4_9, .int c5_9, .int c6_9, .int c7_9, .int c8_9, .ref r9_9, .ref r10_9, .ref r11_9, .int c12_9, .int c13_9, .int c14_9, .int z_11, .int c16_9] := ⟨r0_9, (n0_9), (c1_9), (c2_9), (c3_9), r4_9, (n4_9), (c5_9), (c6_9), (c7_9), (c8_9), r9_9, (n9_9), r10_9, (n10_9), r11_9, (n11_9), (c12_9), (c13_9), (c14_9), (z_11), (c16_9), rfl, a_r0_9, f1_9, a_r4_9, f3_9, a_r9_9, f5_9, a_r10_9, f7_9, a_r11_9, f9_9, f10_9, f11_9, f12_9, f13_9, f14_9, trivial⟩
    obtain ⟨ws_13, e_ws_13⟩ : ∃ z, z = ws_3.set k_9 (h0, .inr (6, [.ref r0_9, .int c1_9, .int c2_9, .int c3_9, .ref r4_9, .int c5_9, .int c6_9, .int c7_9, .int c8_9, .ref r9_9, .ref r10_9, .ref r11_9, .int c12_9, .int c13_9, .int c14_9, .int z_11, .int c16_9])) := ⟨_, rfl⟩
    have hP : va_P (gD g) cl0 ws_13 H := by rw [e_ws_13]; exact hP
    have hD : va_D A ws_13 := by rw [e_ws_13]; exact hD
    have E_14 : gE ws_3 ws_13 := gE_set e_ws_13 hk_9 (cw_o (fi := 15) (v := .int z_11) rfl (by decide))
    have hG : Good g ws_13 := Good_set (fi := 15) (v := .int z_11) e_ws_13 hk_9 E_14 rfl hV9 hG (ivX7 hi_12)
    have Fr_15 : gF [(6, 15)] [] (some h0) ws_3 ws_13 := gF_put (fi := 15) (v := .int z_11) e_ws_13 hk_9 rfl (by decide)
    have hkN := gset_self e_ws_13 hk_9
    have hk_9 := hkN
    have o_h0 := E_14.1 _ _ o_h0
    have a_r0_9 := E_14.1 _ _ a_r0_9
    have a_r4_9 := E_14.1 _ _ a_r4_9
    have a_r9_9 := E_14.1 _ _ a_r9_9
    have a_r10_9 := E_14.1 _ _ a_r10_9
    have a_r11_9 := E_14.1 _ _ a_r11_9
    refine lv_iconst (v := 0) hx hb dX7_attributesFit_29 (by decide) ?_
    refine lv_istore_n (lv' := [(2, .int 0), (1, .int r_10), (0, .ref h0)]) hx hb dX7_attributesFit_30 rfl hl (by decide) rfl (fun ls hl => ?_)
    have J_31 : ∀ (n9 : Nat) (v2_16 : Int32) (ws_18 : va_W) (H : Heap) (locs : List Loc) (ls : Array Slot), (2147483647 - v2_16.toInt).toNat = n9 → 0 ≤ v2_16.toInt → gE ws_13 ws_18 → gF [(6, 2), (6, 3), (6, 15)] [] none ws_13 ws_18 → Good g ws_18 → va_P (gD g) cl0 ws_18 H → va_D A ws_18 → va_S A s.heap H locs → lv_has ls 5 [(0, .ref h0), (1, .int r_10), (2, .int v2_16)] → W p l e (headSpec (wt yX7_attributesFit cX7_attributesFit 5 (some .boolean)) ({ frames := 2, cells := 0, slots := 0, locals := 43 })).room s m ([.ref h0] : List Value).toArray below meth c H locs (0) (0) (MQ below (va_Qi (fun (r : Int32) (u9 : va_W) => r = 0 ∨ r = 1) (gQ1 g [(6, 2), (6, 3), (6, 15)] [] none A ws) A) ([.ref h0] : List Value).toArray s (0) (0) A) (F0 m 31 ls []) := by
      intro n9
      induction n9 using Nat.strongRecOn with
      | ind n9 ih_31 =>
        intro v2_16 ws_18 H locs ls hm9 iv_17 E_19 Fr_20 hG hP hD hS hl
        subst hm9
        have aa_21 := a_r0_9
        have aa_22 := a_r4_9
        have aa_23 := a_r9_9
        have aa_24 := a_r10_9
        have aa_25 := a_r11_9
        have o_h0 := E_19.1 _ _ o_h0
        refine lv_iload_n hx hb dX7_attributesFit_31 rfl (lv_at hl 2 rfl) ?_
        refine lv_iload_n hx hb dX7_attributesFit_32 rfl (lv_at hl 1 rfl) ?_
        refine lv_icmp_ge (tgt := 111) hx hb dX7_attributesFit_33 (by decide) (fun c_26 => ?_) (fun c_26 => ?_)
        · refine lv_iconst (v := 1) hx hb dX7_attributesFit_111 (by decide) ?_
          refine W.widen (k := 0) (n := 0) (Nat.le_of_ble_eq_true rfl) (Nat.le_of_ble_eq_true rfl) ?_
          exact W.zret (v := 1) hx hb hr (nz (Or.inr rfl)) (fun t9 ht9 hW9 => ⟨⟨_, ws_18, rfl, (Or.inr rfl), ⟨(E_4.tr (E_14.tr E_19)), (gF.tr (gF.mo (F' := [(6, 2), (6, 3), (6, 15)]) (C' := []) (S' := none) Fr_5 (by decide) (fun _ h => h) (Or.inr rfl)) (gF.tr (gF.mo (F' := [(6, 2), (6, 3), (6, 15)]) (C' := []) (S' := none) Fr_15 (by decide) (fun _ h => h) (Or.inl rfl)) Fr_20)), hG, by rw [ht9]; exact hP, hD⟩⟩, hS.F ht9⟩) hS.2.2 dX7_attributesFit_112
        · refine lv_aload_n hx hb dX7_attributesFit_36 rfl (lv_at hl 0 rfl) ?_
          refine lv_bipush (v := 6) hx hb dX7_attributesFit_37 (by decide) ?_
          have hFc := gfree hD hS hA
          obtain ⟨k_27, fs_27, hk_27⟩ := gC_of o_h0
          refine va_calli (va_runV (As := [.int 6]) (rest := []) ⟨hx, hb, hml, hown, hts⟩ (m_X7_isThere l g H.size ws_18 h0 (6) hG o_h0) (cwV 1 hts (gd_V kw_1272 kw_1382 kw_1383 kw_710 kw_1381) rfl rfl rfl (by decide +kernel) ⟨Nat.le_of_ble_eq_true rfl, Nat.le_of_ble_eq_true rfl⟩) ⟨gblind, va_recv hK hP (ci := 6) (q0 := k_27) rfl hk_27, fun U hU hW9 => gmk hU hW9 hP hK hD hex hE hS hFc⟩ rfl rfl hl.1 rfl (lv_room (Nat.le_of_ble_eq_true rfl)) dX7_attributesFit_39 ⟨Nat.le_of_ble_eq_true rfl, Nat.le_of_ble_eq_true rfl⟩) hS (fun q _ h => hFc q h) hFc (fun r_28 ws_29 t9 H1 locs ht9 hvm9 hw9 hB9 hz9 hk9 hS => ?_)
          obtain ⟨E_30, Fr_31, hG, hP1, hD1⟩ := hB9
          have hP : va_P (gD g) cl0 ws_29 H1 := by rw [← ht9]; exact hP1
          have hD : va_D A ws_29 := hD1.weaken (fun _ _ _ h => hFc _ h)
          have hz_r_28 : r_28 = 0 ∨ r_28 = 1 := hw9
          clear hP1 hD1 hz9 hk9 hvm9 ht9 hw9
          generalize H1 = H at hP hS ⊢
          have o_h0 := E_30.1 _ _ o_h0
          refine lv_if_ne (tgt := 47) hx hb dX7_attributesFit_42 (by decide) (fun c_34 => ?_) (fun c_34 => ?_)
          · refine lv_aload_n hx hb dX7_attributesFit_47 rfl (lv_at hl 0 rfl) ?_
            refine lv_aload_n hx hb dX7_attributesFit_48 rfl (lv_at hl 0 rfl) ?_
            obtain ⟨fs9, hk_35, hq_35⟩ := ((gA.tr (gF.a (F' := [(6, 2), (6, 3), (6, 15)]) Fr_20 (fun _ h => h)) (gF.a (F' := [(6, 2), (6, 3), (6, 15)]) Fr_31 (by decide)))) _ _ _ hk_9
            obtain ⟨r0_35, n0_35, c1_35, c2_35, c3_35, r4_35, n4_35, c5_35, c6_35, c7_35, c8_35, r9_35, n9_35, r10_35, n10_35, r11_35, n11_35, c12_35, c13_35, c14_35, c15_35, c16_35, rfl, a_r0_35, f1_35, a_r4_35, f3_35, a_r9_35, f5_35, a_r10_35, f7_35, a_r11_35, f9_35, f10_35, f11_35, f12_35, f13_35, f14_35, -⟩ := (hG.1 _ _ _ _ hk_35).hX7 rfl
            obtain rfl := fe_i (hq_35 1 (by decide))
            refine va_get (D := gD g) (ci := 6) (v := .int c15_35) (C := RX7) (T := TX7) (N := 17) hx hb hts inX7 hown hK hP k_9 hk_35 rfl 15 (by decide) (hts _ kw_1273) (fun _ h9 => h9) rfl dX7_attributesFit_49 ?_
            refine lv_iconst (v := 2) hx hb dX7_attributesFit_52 (by decide) ?_
            refine lv_iadd hx hb dX7_attributesFit_53 ?_
            refine lv_topi (fun z_36 ez_36 => ?_)
            have hFc := gfree hD hS hA
            refine va_calll (va_runV (As := [.int z_36]) (rest := []) ⟨hx, hb, hml, hown, hts⟩ (m_X7_u4 l g H.size ws_29 h0 (z_36) hG o_h0) (cwV 1 hts (gd_V kw_1274 kw_1453 kw_1454 kw_710 kw_1452) rfl rfl rfl (by decide +kernel) ⟨Nat.le_of_ble_eq_true rfl, Nat.le_of_ble_eq_true rfl⟩) ⟨gblind, va_recv hK hP (ci := 6) (q0 := k_9) rfl hk_35, fun U hU hW9 => gmk hU hW9 hP hK hD hex hE hS hFc⟩ rfl rfl hl.1 rfl (lv_room (Nat.le_of_ble_eq_true rfl)) dX7_attributesFit_54 ⟨Nat.le_of_ble_eq_true rfl, Nat.le_of_ble_eq_true rfl⟩) hS (fun q _ h => hFc q h) hFc (fun r_37 u9 t9 H1 locs ht9 hvm9 hw9 hB9 hz9 hk9 hS => ?_)
            have hP : va_P (gD g) cl0 ws_29 H1 := by rw [← ht9]; exact hB9.1
            clear hB9 hz9 hk9 hvm9 ht9 hw9
            generalize H1 = H at hP hS ⊢
            refine lv_lstore_n (lv' := [(3, .long r_37), (0, .ref h0), (1, .int r_10), (2, .int v2_16)]) hx hb dX7_attributesFit_57 rfl hl (by decide) rfl (fun ls hl => ?_)
            refine lv_aload_n hx hb dX7_attributesFit_58 rfl (lv_at hl 1 rfl) ?_
            refine lv_dup hx hb dX7_attributesFit_59 rfl ?_
            refine va_get (D := gD g) (ci := 6) (v := .int c15_35) (C := RX7) (T := TX7) (N := 17) hx hb hts inX7 hown hK hP k_9 hk_35 rfl 15 (by decide) (hts _ kw_1273) (fun _ h9 => h9) rfl dX7_attributesFit_60 ?_
            refine lv_bipush (v := 6) hx hb dX7_attributesFit_63 (by decide) ?_
            refine lv_iadd hx hb dX7_attributesFit_65 ?_
            refine lv_topi (fun z_38 ez_38 => ?_)
            have hV9 : okv ws_29 6 15 (.int z_38) := okv_i
            refine va_put (D := gD g) (ci := 6) (v := .int z_38) (ty := .int) (C := RX7) (T := TX7) (N := 17) hx hb hts inX7 tyX7 tyX7_ok nmX7 hown hK hP hD hS k_9 hk_35 rfl 15 (by decide) (hts _ kw_1273) (fun _ h9 => h9) rfl (by decide +kernel) rfl rfl (Nat.le_of_ble_eq_true rfl) dX7_attributesFit_66 (fun H locs hP hD hS => ?_)
            have hi_39 : invX7 g ws_29 h0 [.ref r0_35, .int c1_9, .int c2_35, .int c3_35, .ref r4_35, .int c5_35, .int c6_35, .int c7_35, .int c8_35, .ref r9_35, .ref r10_35, .ref r11_35, .int c12_35, .int c13_35, .int c14_35, .int z_38, .int c16_35] := ⟨r0_35, (n0_35), (c1_9), (c2_35), (c3_35), r4_35, (n4_35), (c5_35), (c6_35), (c7_35), (c8_35), r9_35, (n9_35), r10_35, (n10_35), r11_35, (n11_35), (c12_35), (c13_35), (c14_35), (z_38), (c16_35), rfl, a_r0_35, f1_35, a_r4_35, f3_35, a_r9_35, f5_35, a_r10_35, f7_35, a_r11_35, f9_35, f10_35, f11_35, f12_35, f13_35, f14_35, trivial⟩
            obtain ⟨ws_40, e_ws_40⟩ : ∃ z, z = ws_29.set k_9 (h0, .inr (6, [.ref r0_35, .int c1_9, .int c2_35, .int c3_35, .ref r4_35, .int c5_35, .int c6_35, .int c7_35, .int c8_35, .ref r9_35, .ref r10_35, .ref r11_35, .int c12_35, .int c13_35, .int c14_35, .int z_38, .int c16_35])) := ⟨_, rfl⟩
            have hP : va_P (gD g) cl0 ws_40 H := by rw [e_ws_40]; exact hP
            have hD : va_D A ws_40 := by rw [e_ws_40]; exact hD
            have E_41 : gE ws_29 ws_40 := gE_set e_ws_40 hk_35 (cw_o (fi := 15) (v := .int z_38) rfl (by decide))
            have hG : Good g ws_40 := Good_set (fi := 15) (v := .int z_38) e_ws_40 hk_35 E_41 rfl hV9 hG (ivX7 hi_39)
            have Fr_42 : gF [(6, 15)] [] (some h0) ws_29 ws_40 := gF_put (fi := 15) (v := .int z_38) e_ws_40 hk_35 rfl (by decide)
            have hkN := gset_self e_ws_40 hk_35
            have hk_35 := hkN
            have o_h0 := E_41.1 _ _ o_h0
            have a_r0_35 := E_41.1 _ _ a_r0_35
            have a_r4_35 := E_41.1 _ _ a_r4_35
            have a_r9_35 := E_41.1 _ _ a_r9_35
            have a_r10_35 := E_41.1 _ _ a_r10_35
            have a_r11_35 := E_41.1 _ _ a_r11_35
            refine lv_lload_n hx hb dX7_attributesFit_69 rfl (lv_at hl 0 rfl) ?_
            refine lv_aload_n hx hb dX7_attributesFit_70 rfl (lv_at hl 1 rfl) ?_
            refine va_get (D := gD g) (ci := 6) (v := .int c1_9) (C := RX7) (T := TX7) (N := 17) hx hb hts inX7 hown hK hP k_9 hk_35 rfl 1 (by decide) (hts _ kw_1275) (fun _ h9 => h9) rfl dX7_attributesFit_71 ?_
            refine lv_aload_n hx hb dX7_attributesFit_74 rfl (lv_at hl 1 rfl) ?_
            refine va_get (D := gD g) (ci := 6) (v := .int z_38) (C := RX7) (T := TX7) (N := 17) hx hb hts inX7 hown hK hP k_9 hk_35 rfl 15 (by decide) (hts _ kw_1273) (fun _ h9 => h9) rfl dX7_attributesFit_75 ?_
            refine lv_isub hx hb dX7_attributesFit_78 ?_
            refine lv_topi (fun z_43 ez_43 => ?_)
            obtain ⟨z_44, ez_44⟩ : ∃ y : Int64, (z_43 : Int32).toInt64 = y := ⟨_, rfl⟩
            refine lv_i2l (v := z_44) hx hb dX7_attributesFit_79 ez_44 ?_
            refine W.lcmp hx hb dX7_attributesFit_80 ?_
            refine lv_topi (fun z_45 ez_45 => ?_)
            refine lv_if_le (tgt := 94) hx hb dX7_attributesFit_81 (by decide) (fun c_46 => ?_) (fun c_46 => ?_)
            · refine lv_aload_n hx hb dX7_attributesFit_94 rfl (lv_at hl 1 rfl) ?_
              refine lv_dup hx hb dX7_attributesFit_95 rfl ?_
              refine va_get (D := gD g) (ci := 6) (v := .int z_38) (C := RX7) (T := TX7) (N := 17) hx hb hts inX7 hown hK hP k_9 hk_35 rfl 15 (by decide) (hts _ kw_1273) (fun _ h9 => h9) rfl dX7_attributesFit_96 ?_
              refine lv_lload_n hx hb dX7_attributesFit_99 rfl (lv_at hl 0 rfl) ?_
              obtain ⟨z_47, ez_47⟩ : ∃ y : Int32, (r_37 : Int64).toInt32 = y := ⟨_, rfl⟩
              refine lv_l2i (v := z_47) hx hb dX7_attributesFit_100 ez_47 ?_
              refine lv_iadd hx hb dX7_attributesFit_101 ?_
              refine lv_topi (fun z_48 ez_48 => ?_)
              have hV9 : okv ws_40 6 15 (.int z_48) := okv_i
              refine va_put (D := gD g) (ci := 6) (v := .int z_48) (ty := .int) (C := RX7) (T := TX7) (N := 17) hx hb hts inX7 tyX7 tyX7_ok nmX7 hown hK hP hD hS k_9 hk_35 rfl 15 (by decide) (hts _ kw_1273) (fun _ h9 => h9) rfl (by decide +kernel) rfl rfl (Nat.le_of_ble_eq_true rfl) dX7_attributesFit_102 (fun H locs hP hD hS => ?_)
              have hi_49 : invX7 g ws_40 h0 [.ref r0_35, .int c1_9, .int c2_35, .int c3_35, .ref r4_35, .int c5_35, .int c6_35, .int c7_35, .int c8_35, .ref r9_35, .ref r10_35, .ref r11_35, .int c12_35, .int c13_35, .int c14_35, .int z_48, .int c16_35] := ⟨r0_35, (n0_35), (c1_9), (c2_35), (c3_35), r4_35, (n4_35), (c5_35), (c6_35), (c7_35), (c8_35), r9_35, (n9_35), r10_35, (n10_35), r11_35, (n11_35), (c12_35), (c13_35), (c14_35), (z_48), (c16_35), rfl, a_r0_35, f1_35, a_r4_35, f3_35, a_r9_35, f5_35, a_r10_35, f7_35, a_r11_35, f9_35, f10_35, f11_35, f12_35, f13_35, f14_35, trivial⟩
              obtain ⟨ws_50, e_ws_50⟩ : ∃ z, z = ws_40.set k_9 (h0, .inr (6, [.ref r0_35, .int c1_9, .int c2_35, .int c3_35, .ref r4_35, .int c5_35, .int c6_35, .int c7_35, .int c8_35, .ref r9_35, .ref r10_35, .ref r11_35, .int c12_35, .int c13_35, .int c14_35, .int z_48, .int c16_35])) := ⟨_, rfl⟩
              have hP : va_P (gD g) cl0 ws_50 H := by rw [e_ws_50]; exact hP
              have hD : va_D A ws_50 := by rw [e_ws_50]; exact hD
              have E_51 : gE ws_40 ws_50 := gE_set e_ws_50 hk_35 (cw_o (fi := 15) (v := .int z_48) rfl (by decide))
              have hG : Good g ws_50 := Good_set (fi := 15) (v := .int z_48) e_ws_50 hk_35 E_51 rfl hV9 hG (ivX7 hi_49)
              have Fr_52 : gF [(6, 15)] [] (some h0) ws_40 ws_50 := gF_put (fi := 15) (v := .int z_48) e_ws_50 hk_35 rfl (by decide)
              have hkN := gset_self e_ws_50 hk_35
              have hk_35 := hkN
              have o_h0 := E_51.1 _ _ o_h0
              have a_r0_35 := E_51.1 _ _ a_r0_35
              have a_r4_35 := E_51.1 _ _ a_r4_35
              have a_r9_35 := E_51.1 _ _ a_r9_35
              have a_r10_35 := E_51.1 _ _ a_r10_35
              have a_r11_35 := E_51.1 _ _ a_r11_35
              obtain ⟨z_53, ez_53⟩ : ∃ z : Int32, v2_16 + Int32.ofInt 1 = z := ⟨_, rfl⟩
              refine lv_iinc (v := z_53) (lv' := [(2, .int z_53), (3, .long r_37), (0, .ref h0), (1, .int r_10)]) hx hb dX7_attributesFit_105 hl (k := 3) rfl ez_53 (by decide) rfl (fun ls hl => ?_)
              refine lv_goto (tgt := 31) hx hb dX7_attributesFit_108 (by decide) ?_
              exact ih_31 _ (by obtain ⟨u_z_53, q_z_53⟩ := i_iz ez_53 (by decide) (by decide); have q_iv_17 := iv_17; have q_c_26 := i_nle c_26; have g_r_10 := i_rg r_10; have g_v2_16 := i_rg v2_16; have g_z_53 := i_rg z_53; omega) (z_53) ws_50 H locs ls rfl (by obtain ⟨u_z_53, q_z_53⟩ := i_iz ez_53 (by decide) (by decide); have q_iv_17 := iv_17; have q_c_26 := i_nle c_26; have g_r_10 := i_rg r_10; have g_v2_16 := i_rg v2_16; have g_z_53 := i_rg z_53; omega) ((E_19.tr (E_30.tr (E_41.tr E_51)))) ((gF.tr Fr_20 (gF.tr (gF.mo (F' := [(6, 2), (6, 3), (6, 15)]) (C' := []) (S' := none) Fr_31 (by decide) (fun _ h => h) (Or.inr rfl)) (gF.tr (gF.mo (F' := [(6, 2), (6, 3), (6, 15)]) (C' := []) (S' := none) Fr_42 (by decide) (fun _ h => h) (Or.inl rfl)) (gF.mo (F' := [(6, 2), (6, 3), (6, 15)]) (C' := []) (S' := none) Fr_52 (by decide) (fun _ h => h) (Or.inl rfl)))))) hG hP hD hS (lv_sub hl [2, 3, 0] rfl)
            · refine lv_aload_n hx hb dX7_attributesFit_84 rfl (lv_at hl 1 rfl) ?_
              refine lv_iconst (v := 2) hx hb dX7_attributesFit_85 (by decide) ?_
              refine lv_aload_n hx hb dX7_attributesFit_86 rfl (lv_at hl 1 rfl) ?_
              refine va_get (D := gD g) (ci := 6) (v := .int c1_9) (C := RX7) (T := TX7) (N := 17) hx hb hts inX7 hown hK hP k_9 hk_35 rfl 1 (by decide) (hts _ kw_1275) (fun _ h9 => h9) rfl dX7_attributesFit_87 ?_
              have hFc := gfree hD hS hA
              refine va_calli (va_runV (As := [.int 2, .int c1_9]) (rest := []) ⟨hx, hb, hml, hown, hts⟩ (m_X7_breaks l g H.size ws_40 h0 (2) (c1_9) hG o_h0) (cwV 2 hts (gd_V kw_1276 kw_1278 kw_1279 kw_710 kw_1277) rfl rfl rfl (by decide +kernel) ⟨Nat.le_of_ble_eq_true rfl, Nat.le_of_ble_eq_true rfl⟩) ⟨gblind, va_recv hK hP (ci := 6) (q0 := k_9) rfl hk_35, fun U hU hW9 => gmk hU hW9 hP hK hD hex hE hS hFc⟩ rfl rfl hl.1 rfl (lv_room (Nat.le_of_ble_eq_true rfl)) dX7_attributesFit_90 ⟨Nat.le_of_ble_eq_true rfl, Nat.le_of_ble_eq_true rfl⟩) hS (fun q _ h => hFc q h) hFc (fun r_54 ws_55 t9 H1 locs ht9 hvm9 hw9 hB9 hz9 hk9 hS => ?_)
              obtain ⟨E_56, Fr_57, hG, hP1, hD1⟩ := hB9
              have hP : va_P (gD g) cl0 ws_55 H1 := by rw [← ht9]; exact hP1
              have hD : va_D A ws_55 := hD1.weaken (fun _ _ _ h => hFc _ h)
              have hz_r_54 : r_54 = 0 ∨ r_54 = 1 := hw9
              clear hP1 hD1 hz9 hk9 hvm9 ht9 hw9
              generalize H1 = H at hP hS ⊢
              have aa_60 := a_r0_35
              have aa_61 := a_r4_35
              have aa_62 := a_r9_35
              have aa_63 := a_r10_35
              have aa_64 := a_r11_35
              have o_h0 := E_56.1 _ _ o_h0
              refine W.widen (k := 0) (n := 0) (Nat.le_of_ble_eq_true rfl) (Nat.le_of_ble_eq_true rfl) ?_
              exact W.zret (v := r_54) hx hb hr (nz hz_r_54) (fun t9 ht9 hW9 => ⟨⟨_, ws_55, rfl, hz_r_54, ⟨(E_4.tr (E_14.tr (E_19.tr (E_30.tr (E_41.tr E_56))))), (gF.tr (gF.mo (F' := [(6, 2), (6, 3), (6, 15)]) (C' := []) (S' := none) Fr_5 (by decide) (fun _ h => h) (Or.inr rfl)) (gF.tr (gF.mo (F' := [(6, 2), (6, 3), (6, 15)]) (C' := []) (S' := none) Fr_15 (by decide) (fun _ h => h) (Or.inl rfl)) (gF.tr Fr_20 (gF.tr (gF.mo (F' := [(6, 2), (6, 3), (6, 15)]) (C' := []) (S' := none) Fr_31 (by decide) (fun _ h => h) (Or.inr rfl)) (gF.tr (gF.mo (F' := [(6, 2), (6, 3), (6, 15)]) (C' := []) (S' := none) Fr_42 (by decide) (fun _ h => h) (Or.inl rfl)) (gF.mo (F' := [(6, 2), (6, 3), (6, 15)]) (C' := []) (S' := none) Fr_57 (by decide) (fun _ h => h) (Or.inr rfl))))))), hG, by rw [ht9]; exact hP, hD⟩⟩, hS.F ht9⟩) hS.2.2 dX7_attributesFit_93
          · refine lv_iconst (v := 0) hx hb dX7_attributesFit_45 (by decide) ?_
            refine W.widen (k := 0) (n := 0) (Nat.le_of_ble_eq_true rfl) (Nat.le_of_ble_eq_true rfl) ?_
            exact W.zret (v := 0) hx hb hr (nz (Or.inl rfl)) (fun t9 ht9 hW9 => ⟨⟨_, ws_29, rfl, (Or.inl rfl), ⟨(E_4.tr (E_14.tr (E_19.tr E_30))), (gF.tr (gF.mo (F' := [(6, 2), (6, 3), (6, 15)]) (C' := []) (S' := none) Fr_5 (by decide) (fun _ h => h) (Or.inr rfl)) (gF.tr (gF.mo (F' := [(6, 2), (6, 3), (6, 15)]) (C' := []) (S' := none) Fr_15 (by decide) (fun _ h => h) (Or.inl rfl)) (gF.tr Fr_20 (gF.mo (F' := [(6, 2), (6, 3), (6, 15)]) (C' := []) (S' := none) Fr_31 (by decide) (fun _ h => h) (Or.inr rfl))))), hG, by rw [ht9]; exact hP, hD⟩⟩, hS.F ht9⟩) hS.2.2 dX7_attributesFit_46
    exact J_31 _ (0) ws_13 H locs ls rfl (by have e0 : (0 : Int32).toInt = 0 := (by decide); omega) (gE.rf) (gF.rf) hG hP hD hS (lv_sub hl [2, 1, 0] rfl)
  · refine lv_iconst (v := 0) hx hb dX7_attributesFit_8 (by decide) ?_
    refine W.widen (k := 0) (n := 0) (Nat.le_of_ble_eq_true rfl) (Nat.le_of_ble_eq_true rfl) ?_
    exact W.zret (v := 0) hx hb hr (nz (Or.inl rfl)) (fun t9 ht9 hW9 => ⟨⟨_, ws_3, rfl, (Or.inl rfl), ⟨E_4, (gF.mo (F' := [(6, 2), (6, 3), (6, 15)]) (C' := []) (S' := none) Fr_5 (by decide) (fun _ h => h) (Or.inr rfl)), hG, by rw [ht9]; exact hP, hD⟩⟩, hS.F ht9⟩) hS.2.2 dX7_attributesFit_9
set_option maxHeartbeats 1000000 in
set_option maxRecDepth 100000 in
theorem m_X7_entryAt (l : Launch) (g : Gm) (sz : Nat) (ws : va_W) (h0 : Nat) (x1 : Int32) (hG : Good g ws) (o_h0 : gC ws h0 6) : Met l yX7_entryAt (wt yX7_entryAt cX7_entryAt 2 (some .int)) ({ frames := 0, cells := 0, slots := 0, locals := 0 }) (va_Pc [.ref h0, .int x1] (st_G g sz ws)) (va_Qi (fun (r : Int32) (u9 : Unit) => True) (gQ0 g (va_A ws sz) ws) (va_A ws sz)) (0) (0) (va_A ws sz) := by
  refine Met.ofW (cc := cX7_entryAt) (maxL := 2) (ret := (some .int)) (by decide) rfl ?_
  intro p e s m args below meth c s₁ B hml hv
  obtain ⟨rfl, hsz, hP, hK, hD0, hex, hE⟩ := hv
  have hx := B.exec
  have hb := B.bytes
  have hr := B.returns
  have hts0 := atoms_spec (ws := wt yX7_entryAt cX7_entryAt 2 (some .int)) B.pre
  have hts : ∀ w ∈ tb, w.before _ s = true := fun w h => hts0 w (List.mem_cons_of_mem _ h)
  have hown : s.vm.findClass RX7 = some m.cls := findClass_of_methodNamed B.named
  subst hsz
  have hD := hD0.self (sz := s.heap.size)
  generalize hAe : va_A ws s.heap.size = A at hD hE ⊢
  have hA : ∀ q : Nat, s.heap.size ≤ q → A q := fun q h => by rw [← hAe]; exact Or.inr h
  have hS : va_S A s.heap s.heap [] := va_S.rf
  have hl := lv_entry ([.ref h0, .int x1]) (n := 2) (Nat.le_of_ble_eq_true rfl)
  rw [lg_entry_eq]
  generalize (lg_sl ([.ref h0, .int x1]) ++ List.replicate (2 - (lg_sl ([.ref h0, .int x1])).length) Slot.unset).toArray = ls at hl ⊢
  have hl : lv_has ls 2 [(0, .ref h0), (1, .int x1)] := hl
  refine lv_iload_n hx hb dX7_entryAt_0 rfl (lv_at hl 1 rfl) ?_
  refine lv_iconst (v := 1) hx hb dX7_entryAt_1 (by decide) ?_
  have J_32 : ∀ (t_1 : Int32) (H : Heap) (locs : List Loc) (ls : Array Slot), va_P (gD g) cl0 ws H → va_D A ws → va_S A s.heap H locs → lv_has ls 2 [] → W p l e (headSpec (wt yX7_entryAt cX7_entryAt 2 (some .int)) ({ frames := 0, cells := 0, slots := 0, locals := 0 })).room s m ([.ref h0, .int x1] : List Value).toArray below meth c H locs (0) (0) (MQ below (va_Qi (fun (r : Int32) (u9 : Unit) => True) (gQ0 g A ws) A) ([.ref h0, .int x1] : List Value).toArray s (0) (0) A) (F0 m 32 ls [.int t_1]) := by
    intro t_1 H locs ls  hP hD hS hl
    refine W.widen (k := 0) (n := 0) (Nat.le_of_ble_eq_true rfl) (Nat.le_of_ble_eq_true rfl) ?_
    exact W.iret (v := t_1) hx hb hr (fun t9 ht9 hW9 => ⟨⟨_, (), rfl, trivial, ⟨by rw [ht9]; exact hP, hD⟩⟩, hS.F ht9⟩) hS.2.2 dX7_entryAt_32
  have J_22 : ∀  (H : Heap) (locs : List Loc) (ls : Array Slot), va_P (gD g) cl0 ws H → va_D A ws → va_S A s.heap H locs → lv_has ls 2 [] → W p l e (headSpec (wt yX7_entryAt cX7_entryAt 2 (some .int)) ({ frames := 0, cells := 0, slots := 0, locals := 0 })).room s m ([.ref h0, .int x1] : List Value).toArray below meth c H locs (0) (0) (MQ below (va_Qi (fun (r : Int32) (u9 : Unit) => True) (gQ0 g A ws) A) ([.ref h0, .int x1] : List Value).toArray s (0) (0) A) (F0 m 22 ls []) := by
    intro  H locs ls  hP hD hS hl
    refine lv_iconst (v := 0) hx hb dX7_entryAt_22 (by decide) ?_
    refine lv_goto (tgt := 32) hx hb dX7_entryAt_23 (by decide) ?_
    exact J_32 (0) H locs ls  hP hD hS (lv_sub hl [] rfl)
  refine lv_icmp_lt (tgt := 22) hx hb dX7_entryAt_2 (by decide) (fun c_6 => ?_) (fun c_6 => ?_)
  · exact J_22  _ _ ls  hP hD hS (lv_sub hl [] rfl)
  · refine lv_iload_n hx hb dX7_entryAt_5 rfl (lv_at hl 1 rfl) ?_
    refine lv_aload_n hx hb dX7_entryAt_6 rfl (lv_at hl 0 rfl) ?_
    obtain ⟨k_7, fs9, hk_7⟩ := gC_of o_h0
    obtain ⟨r0_7, n0_7, c1_7, c2_7, c3_7, r4_7, n4_7, c5_7, c6_7, c7_7, c8_7, r9_7, n9_7, r10_7, n10_7, r11_7, n11_7, c12_7, c13_7, c14_7, c15_7, c16_7, rfl, a_r0_7, f1_7, a_r4_7, f3_7, a_r9_7, f5_7, a_r10_7, f7_7, a_r11_7, f9_7, f10_7, f11_7, f12_7, f13_7, f14_7, -⟩ := (hG.1 _ _ _ _ hk_7).hX7 rfl
    refine va_get (D := gD g) (ci := 6) (v := .int c5_7) (C := RX7) (T := TX7) (N := 17) hx hb hts inX7 hown hK hP k_7 hk_7 rfl 5 (by decide) (hts _ kw_1294) (fun _ h9 => h9) rfl dX7_entryAt_7 ?_
    refine lv_icmp_ge (tgt := 22) hx hb dX7_entryAt_10 (by decide) (fun c_8 => ?_) (fun c_8 => ?_)
    · exact J_22  _ _ ls  hP hD hS (lv_sub hl [] rfl)
    · refine lv_iload_n hx hb dX7_entryAt_13 rfl (lv_at hl 1 rfl) ?_
      refine lv_aload_n hx hb dX7_entryAt_14 rfl (lv_at hl 0 rfl) ?_
      refine va_get (D := gD g) (ci := 6) (v := .ref r4_7) (C := RX7) (T := TX7) (N := 17) hx hb hts inX7 hown hK hP k_7 hk_7 rfl 4 (by decide) (hts _ kw_1300) (fun _ h9 => h9) rfl dX7_entryAt_15 ?_
      obtain ⟨k_9, f_9, hk_9⟩ := gI_of a_r4_7
      obtain ⟨z_10, ez_10⟩ : ∃ z : Int32, Int32.ofNat n4_7 = z := ⟨_, rfl⟩
      refine va_alen (v := z_10) hx hb hK hP k_9 1 hk_9 rfl ez_10 dX7_entryAt_18 ?_
      refine lv_icmp_lt (tgt := 26) hx hb dX7_entryAt_19 (by decide) (fun c_11 => ?_) (fun c_11 => ?_)
      · refine lv_aload_n hx hb dX7_entryAt_26 rfl (lv_at hl 0 rfl) ?_
        refine va_get (D := gD g) (ci := 6) (v := .ref r4_7) (C := RX7) (T := TX7) (N := 17) hx hb hts inX7 hown hK hP k_7 hk_7 rfl 4 (by decide) (hts _ kw_1300) (fun _ h9 => h9) rfl dX7_entryAt_27 ?_
        refine lv_iload_n hx hb dX7_entryAt_30 rfl (lv_at hl 1 rfl) ?_
        refine va_iald hx hb hK hP k_9 1 hk_9 rfl (i_in2 (by have e1 : (1 : Int32).toInt = 1 := (by decide); have q_c_6 := i_nlt c_6; have q_f3_7 := f3_7; have q_f11_7 := f11_7; have q_c_8 := i_nle c_8; have q_z_10 := i_len ez_10 f3_7; have q_c_11 := i_lt c_11; have g_c5_7 := i_rg c5_7; have g_x1 := i_rg x1; have g_z_10 := i_rg z_10; omega)) dX7_entryAt_31 ?_
        refine lv_topi (fun z_12 ez_12 => ?_)
        exact J_32 (z_12) _ _ ls  hP hD hS (lv_sub hl [] rfl)
      · exact J_22  _ _ ls  hP hD hS (lv_sub hl [] rfl)
set_option maxHeartbeats 1000000 in
set_option maxRecDepth 100000 in
theorem m_X7_tagOf (l : Launch) (g : Gm) (sz : Nat) (ws : va_W) (h0 : Nat) (x1 : Int32) (hG : Good g ws) (o_h0 : gC ws h0 6) : Met l yX7_tagOf (wt yX7_tagOf cX7_tagOf 2 (some .int)) ({ frames := 1, cells := 0, slots := 0, locals := 21 }) (va_Pc [.ref h0, .int x1] (st_G g sz ws)) (va_Qi (fun (r : Int32) (u9 : Unit) => True) (gQ0 g (va_A ws sz) ws) (va_A ws sz)) (0) (0) (va_A ws sz) := by
  refine Met.ofW (cc := cX7_tagOf) (maxL := 2) (ret := (some .int)) (by decide) rfl ?_
  intro p e s m args below meth c s₁ B hml hv
  obtain ⟨rfl, hsz, hP, hK, hD0, hex, hE⟩ := hv
  have hx := B.exec
  have hb := B.bytes
  have hr := B.returns
  have hts0 := atoms_spec (ws := wt yX7_tagOf cX7_tagOf 2 (some .int)) B.pre
  have hts : ∀ w ∈ tb, w.before _ s = true := fun w h => hts0 w (List.mem_cons_of_mem _ h)
  have hown : s.vm.findClass RX7 = some m.cls := findClass_of_methodNamed B.named
  subst hsz
  have hD := hD0.self (sz := s.heap.size)
  generalize hAe : va_A ws s.heap.size = A at hD hE ⊢
  have hA : ∀ q : Nat, s.heap.size ≤ q → A q := fun q h => by rw [← hAe]; exact Or.inr h
  have hS : va_S A s.heap s.heap [] := va_S.rf
  have hl := lv_entry ([.ref h0, .int x1]) (n := 2) (Nat.le_of_ble_eq_true rfl)
  rw [lg_entry_eq]
  generalize (lg_sl ([.ref h0, .int x1]) ++ List.replicate (2 - (lg_sl ([.ref h0, .int x1])).length) Slot.unset).toArray = ls at hl ⊢
  have hl : lv_has ls 2 [(0, .ref h0), (1, .int x1)] := hl
  refine lv_aload_n hx hb dX7_tagOf_0 rfl (lv_at hl 0 rfl) ?_
  refine lv_iload_n hx hb dX7_tagOf_1 rfl (lv_at hl 1 rfl) ?_
  have hFc := gfree hD hS hA
  obtain ⟨k_1, fs_1, hk_1⟩ := gC_of o_h0
  refine va_calli (va_runV (As := [.int x1]) (rest := []) ⟨hx, hb, hml, hown, hts⟩ (m_X7_entryAt l g s.heap.size ws h0 (x1) hG o_h0) (cwV 1 hts (gd_V kw_1296 kw_1298 kw_1299 kw_710 kw_1297) rfl rfl rfl (by decide +kernel) ⟨Nat.le_of_ble_eq_true rfl, Nat.le_of_ble_eq_true rfl⟩) ⟨gblind, va_recv hK hP (ci := 6) (q0 := k_1) rfl hk_1, fun U hU hW9 => gmk hU hW9 hP hK hD hex hE hS hFc⟩ rfl rfl hl.1 rfl (lv_room (Nat.le_of_ble_eq_true rfl)) dX7_tagOf_2 ⟨Nat.le_of_ble_eq_true rfl, Nat.le_of_ble_eq_true rfl⟩) hS (fun q _ h => hFc q h) hFc (fun r_2 u9 t9 H1 locs ht9 hvm9 hw9 hB9 hz9 hk9 hS => ?_)
  have hP : va_P (gD g) cl0 ws H1 := by rw [← ht9]; exact hB9.1
  clear hB9 hz9 hk9 hvm9 ht9 hw9
  generalize H1 = H at hP hS ⊢
  have J_21 : ∀ (t_3 : Int32) (H : Heap) (locs : List Loc) (ls : Array Slot), va_P (gD g) cl0 ws H → va_D A ws → va_S A s.heap H locs → lv_has ls 2 [] → W p l e (headSpec (wt yX7_tagOf cX7_tagOf 2 (some .int)) ({ frames := 1, cells := 0, slots := 0, locals := 21 })).room s m ([.ref h0, .int x1] : List Value).toArray below meth c H locs (0) (0) (MQ below (va_Qi (fun (r : Int32) (u9 : Unit) => True) (gQ0 g A ws) A) ([.ref h0, .int x1] : List Value).toArray s (0) (0) A) (F0 m 21 ls [.int t_3]) := by
    intro t_3 H locs ls  hP hD hS hl
    refine W.widen (k := 0) (n := 0) (Nat.le_of_ble_eq_true rfl) (Nat.le_of_ble_eq_true rfl) ?_
    exact W.iret (v := t_3) hx hb hr (fun t9 ht9 hW9 => ⟨⟨_, (), rfl, trivial, ⟨by rw [ht9]; exact hP, hD⟩⟩, hS.F ht9⟩) hS.2.2 dX7_tagOf_21
  refine lv_if_ne (tgt := 12) hx hb dX7_tagOf_5 (by decide) (fun c_6 => ?_) (fun c_6 => ?_)
  · refine lv_aload_n hx hb dX7_tagOf_12 rfl (lv_at hl 0 rfl) ?_
    refine lv_aload_n hx hb dX7_tagOf_13 rfl (lv_at hl 0 rfl) ?_
    refine lv_iload_n hx hb dX7_tagOf_14 rfl (lv_at hl 1 rfl) ?_
    have hFc := gfree hD hS hA
    obtain ⟨k_7, fs_7, hk_7⟩ := gC_of o_h0
    refine va_calli (va_runV (As := [.int x1]) (rest := [.ref h0]) ⟨hx, hb, hml, hown, hts⟩ (m_X7_entryAt l g H.size ws h0 (x1) hG o_h0) (cwV 1 hts (gd_V kw_1296 kw_1298 kw_1299 kw_710 kw_1297) rfl rfl rfl (by decide +kernel) ⟨Nat.le_of_ble_eq_true rfl, Nat.le_of_ble_eq_true rfl⟩) ⟨gblind, va_recv hK hP (ci := 6) (q0 := k_7) rfl hk_7, fun U hU hW9 => gmk hU hW9 hP hK hD hex hE hS hFc⟩ rfl rfl hl.1 rfl (lv_room (Nat.le_of_ble_eq_true rfl)) dX7_tagOf_15 ⟨Nat.le_of_ble_eq_true rfl, Nat.le_of_ble_eq_true rfl⟩) hS (fun q _ h => hFc q h) hFc (fun r_8 u9 t9 H1 locs ht9 hvm9 hw9 hB9 hz9 hk9 hS => ?_)
    have hP : va_P (gD g) cl0 ws H1 := by rw [← ht9]; exact hB9.1
    clear hB9 hz9 hk9 hvm9 ht9 hw9
    generalize H1 = H at hP hS ⊢
    have hFc := gfree hD hS hA
    obtain ⟨k_9, fs_9, hk_9⟩ := gC_of o_h0
    refine va_calli (va_runV (As := [.int r_8]) (rest := []) ⟨hx, hb, hml, hown, hts⟩ (m_X7_u1 l g H.size ws h0 (r_8) hG o_h0) (cwV 1 hts (gd_V kw_1304 kw_1447 kw_1448 kw_710 kw_1446) rfl rfl rfl (by decide +kernel) ⟨Nat.le_of_ble_eq_true rfl, Nat.le_of_ble_eq_true rfl⟩) ⟨gblind, va_recv hK hP (ci := 6) (q0 := k_9) rfl hk_9, fun U hU hW9 => gmk hU hW9 hP hK hD hex hE hS hFc⟩ rfl rfl hl.1 rfl (lv_room (Nat.le_of_ble_eq_true rfl)) dX7_tagOf_18 ⟨Nat.le_of_ble_eq_true rfl, Nat.le_of_ble_eq_true rfl⟩) hS (fun q _ h => hFc q h) hFc (fun r_10 u9 t9 H1 locs ht9 hvm9 hw9 hB9 hz9 hk9 hS => ?_)
    have hP : va_P (gD g) cl0 ws H1 := by rw [← ht9]; exact hB9.1
    have h_r_10 := hw9
    clear hB9 hz9 hk9 hvm9 ht9 hw9
    generalize H1 = H at hP hS ⊢
    exact J_21 (r_10) H locs ls  hP hD hS (lv_sub hl [] rfl)
  · refine lv_iconst (v := 0) hx hb dX7_tagOf_8 (by decide) ?_
    refine lv_goto (tgt := 21) hx hb dX7_tagOf_9 (by decide) ?_
    exact J_21 (0) H locs ls  hP hD hS (lv_sub hl [] rfl)
set_option maxHeartbeats 1000000 in
set_option maxRecDepth 100000 in
theorem m_X7_firstOf (l : Launch) (g : Gm) (sz : Nat) (ws : va_W) (h0 : Nat) (x1 : Int32) (hG : Good g ws) (o_h0 : gC ws h0 6) : Met l yX7_firstOf (wt yX7_firstOf cX7_firstOf 2 (some .int)) ({ frames := 1, cells := 0, slots := 0, locals := 21 }) (va_Pc [.ref h0, .int x1] (st_G g sz ws)) (va_Qi (fun (r : Int32) (u9 : Unit) => 0 ≤ r.toInt ∧ r.toInt ≤ 65535) (gQ0 g (va_A ws sz) ws) (va_A ws sz)) (0) (0) (va_A ws sz) := by
  refine Met.ofW (cc := cX7_firstOf) (maxL := 2) (ret := (some .int)) (by decide) rfl ?_
  intro p e s m args below meth c s₁ B hml hv
  obtain ⟨rfl, hsz, hP, hK, hD0, hex, hE⟩ := hv
  have hx := B.exec
  have hb := B.bytes
  have hr := B.returns
  have hts0 := atoms_spec (ws := wt yX7_firstOf cX7_firstOf 2 (some .int)) B.pre
  have hts : ∀ w ∈ tb, w.before _ s = true := fun w h => hts0 w (List.mem_cons_of_mem _ h)
  have hown : s.vm.findClass RX7 = some m.cls := findClass_of_methodNamed B.named
  subst hsz
  have hD := hD0.self (sz := s.heap.size)
  generalize hAe : va_A ws s.heap.size = A at hD hE ⊢
  have hA : ∀ q : Nat, s.heap.size ≤ q → A q := fun q h => by rw [← hAe]; exact Or.inr h
  have hS : va_S A s.heap s.heap [] := va_S.rf
  have hl := lv_entry ([.ref h0, .int x1]) (n := 2) (Nat.le_of_ble_eq_true rfl)
  rw [lg_entry_eq]
  generalize (lg_sl ([.ref h0, .int x1]) ++ List.replicate (2 - (lg_sl ([.ref h0, .int x1])).length) Slot.unset).toArray = ls at hl ⊢
  have hl : lv_has ls 2 [(0, .ref h0), (1, .int x1)] := hl
  refine lv_aload_n hx hb dX7_firstOf_0 rfl (lv_at hl 0 rfl) ?_
  refine lv_aload_n hx hb dX7_firstOf_1 rfl (lv_at hl 0 rfl) ?_
  refine lv_iload_n hx hb dX7_firstOf_2 rfl (lv_at hl 1 rfl) ?_
  have hFc := gfree hD hS hA
  obtain ⟨k_1, fs_1, hk_1⟩ := gC_of o_h0
  refine va_calli (va_runV (As := [.int x1]) (rest := [.ref h0]) ⟨hx, hb, hml, hown, hts⟩ (m_X7_entryAt l g s.heap.size ws h0 (x1) hG o_h0) (cwV 1 hts (gd_V kw_1296 kw_1298 kw_1299 kw_710 kw_1297) rfl rfl rfl (by decide +kernel) ⟨Nat.le_of_ble_eq_true rfl, Nat.le_of_ble_eq_true rfl⟩) ⟨gblind, va_recv hK hP (ci := 6) (q0 := k_1) rfl hk_1, fun U hU hW9 => gmk hU hW9 hP hK hD hex hE hS hFc⟩ rfl rfl hl.1 rfl (lv_room (Nat.le_of_ble_eq_true rfl)) dX7_firstOf_3 ⟨Nat.le_of_ble_eq_true rfl, Nat.le_of_ble_eq_true rfl⟩) hS (fun q _ h => hFc q h) hFc (fun r_2 u9 t9 H1 locs ht9 hvm9 hw9 hB9 hz9 hk9 hS => ?_)
  have hP : va_P (gD g) cl0 ws H1 := by rw [← ht9]; exact hB9.1
  clear hB9 hz9 hk9 hvm9 ht9 hw9
  generalize H1 = H at hP hS ⊢
  refine lv_iconst (v := 1) hx hb dX7_firstOf_6 (by decide) ?_
  refine lv_iadd hx hb dX7_firstOf_7 ?_
  refine lv_topi (fun z_3 ez_3 => ?_)
  have hFc := gfree hD hS hA
  obtain ⟨k_4, fs_4, hk_4⟩ := gC_of o_h0
  refine va_calli (va_runV (As := [.int z_3]) (rest := []) ⟨hx, hb, hml, hown, hts⟩ (m_X7_u2 l g H.size ws h0 (z_3) hG o_h0) (cwV 1 hts (gd_V kw_1266 kw_1450 kw_1451 kw_710 kw_1449) rfl rfl rfl (by decide +kernel) ⟨Nat.le_of_ble_eq_true rfl, Nat.le_of_ble_eq_true rfl⟩) ⟨gblind, va_recv hK hP (ci := 6) (q0 := k_4) rfl hk_4, fun U hU hW9 => gmk hU hW9 hP hK hD hex hE hS hFc⟩ rfl rfl hl.1 rfl (lv_room (Nat.le_of_ble_eq_true rfl)) dX7_firstOf_8 ⟨Nat.le_of_ble_eq_true rfl, Nat.le_of_ble_eq_true rfl⟩) hS (fun q _ h => hFc q h) hFc (fun r_5 u9 t9 H1 locs ht9 hvm9 hw9 hB9 hz9 hk9 hS => ?_)
  have hP : va_P (gD g) cl0 ws H1 := by rw [← ht9]; exact hB9.1
  have h_r_5 := hw9
  clear hB9 hz9 hk9 hvm9 ht9 hw9
  generalize H1 = H at hP hS ⊢
  refine W.widen (k := 0) (n := 0) (Nat.le_of_ble_eq_true rfl) (Nat.le_of_ble_eq_true rfl) ?_
  exact W.iret (v := r_5) hx hb hr (fun t9 ht9 hW9 => ⟨⟨_, (), rfl, (by have q_r_5 := h_r_5; have g_r_5 := i_rg r_5; have g_x1 := i_rg x1; omega), ⟨by rw [ht9]; exact hP, hD⟩⟩, hS.F ht9⟩) hS.2.2 dX7_firstOf_11
set_option maxHeartbeats 1000000 in
set_option maxRecDepth 100000 in
theorem m_X7_secondOf (l : Launch) (g : Gm) (sz : Nat) (ws : va_W) (h0 : Nat) (x1 : Int32) (hG : Good g ws) (o_h0 : gC ws h0 6) : Met l yX7_secondOf (wt yX7_secondOf cX7_secondOf 2 (some .int)) ({ frames := 1, cells := 0, slots := 0, locals := 21 }) (va_Pc [.ref h0, .int x1] (st_G g sz ws)) (va_Qi (fun (r : Int32) (u9 : Unit) => 0 ≤ r.toInt ∧ r.toInt ≤ 65535) (gQ0 g (va_A ws sz) ws) (va_A ws sz)) (0) (0) (va_A ws sz) := by
  refine Met.ofW (cc := cX7_secondOf) (maxL := 2) (ret := (some .int)) (by decide) rfl ?_
  intro p e s m args below meth c s₁ B hml hv
  obtain ⟨rfl, hsz, hP, hK, hD0, hex, hE⟩ := hv
  have hx := B.exec
  have hb := B.bytes
  have hr := B.returns
  have hts0 := atoms_spec (ws := wt yX7_secondOf cX7_secondOf 2 (some .int)) B.pre
  have hts : ∀ w ∈ tb, w.before _ s = true := fun w h => hts0 w (List.mem_cons_of_mem _ h)
  have hown : s.vm.findClass RX7 = some m.cls := findClass_of_methodNamed B.named
  subst hsz
  have hD := hD0.self (sz := s.heap.size)
  generalize hAe : va_A ws s.heap.size = A at hD hE ⊢
  have hA : ∀ q : Nat, s.heap.size ≤ q → A q := fun q h => by rw [← hAe]; exact Or.inr h
  have hS : va_S A s.heap s.heap [] := va_S.rf
  have hl := lv_entry ([.ref h0, .int x1]) (n := 2) (Nat.le_of_ble_eq_true rfl)
  rw [lg_entry_eq]
  generalize (lg_sl ([.ref h0, .int x1]) ++ List.replicate (2 - (lg_sl ([.ref h0, .int x1])).length) Slot.unset).toArray = ls at hl ⊢
  have hl : lv_has ls 2 [(0, .ref h0), (1, .int x1)] := hl
  refine lv_aload_n hx hb dX7_secondOf_0 rfl (lv_at hl 0 rfl) ?_
  refine lv_aload_n hx hb dX7_secondOf_1 rfl (lv_at hl 0 rfl) ?_
  refine lv_iload_n hx hb dX7_secondOf_2 rfl (lv_at hl 1 rfl) ?_
  have hFc := gfree hD hS hA
  obtain ⟨k_1, fs_1, hk_1⟩ := gC_of o_h0
  refine va_calli (va_runV (As := [.int x1]) (rest := [.ref h0]) ⟨hx, hb, hml, hown, hts⟩ (m_X7_entryAt l g s.heap.size ws h0 (x1) hG o_h0) (cwV 1 hts (gd_V kw_1296 kw_1298 kw_1299 kw_710 kw_1297) rfl rfl rfl (by decide +kernel) ⟨Nat.le_of_ble_eq_true rfl, Nat.le_of_ble_eq_true rfl⟩) ⟨gblind, va_recv hK hP (ci := 6) (q0 := k_1) rfl hk_1, fun U hU hW9 => gmk hU hW9 hP hK hD hex hE hS hFc⟩ rfl rfl hl.1 rfl (lv_room (Nat.le_of_ble_eq_true rfl)) dX7_secondOf_3 ⟨Nat.le_of_ble_eq_true rfl, Nat.le_of_ble_eq_true rfl⟩) hS (fun q _ h => hFc q h) hFc (fun r_2 u9 t9 H1 locs ht9 hvm9 hw9 hB9 hz9 hk9 hS => ?_)
  have hP : va_P (gD g) cl0 ws H1 := by rw [← ht9]; exact hB9.1
  clear hB9 hz9 hk9 hvm9 ht9 hw9
  generalize H1 = H at hP hS ⊢
  refine lv_iconst (v := 3) hx hb dX7_secondOf_6 (by decide) ?_
  refine lv_iadd hx hb dX7_secondOf_7 ?_
  refine lv_topi (fun z_3 ez_3 => ?_)
  have hFc := gfree hD hS hA
  obtain ⟨k_4, fs_4, hk_4⟩ := gC_of o_h0
  refine va_calli (va_runV (As := [.int z_3]) (rest := []) ⟨hx, hb, hml, hown, hts⟩ (m_X7_u2 l g H.size ws h0 (z_3) hG o_h0) (cwV 1 hts (gd_V kw_1266 kw_1450 kw_1451 kw_710 kw_1449) rfl rfl rfl (by decide +kernel) ⟨Nat.le_of_ble_eq_true rfl, Nat.le_of_ble_eq_true rfl⟩) ⟨gblind, va_recv hK hP (ci := 6) (q0 := k_4) rfl hk_4, fun U hU hW9 => gmk hU hW9 hP hK hD hex hE hS hFc⟩ rfl rfl hl.1 rfl (lv_room (Nat.le_of_ble_eq_true rfl)) dX7_secondOf_8 ⟨Nat.le_of_ble_eq_true rfl, Nat.le_of_ble_eq_true rfl⟩) hS (fun q _ h => hFc q h) hFc (fun r_5 u9 t9 H1 locs ht9 hvm9 hw9 hB9 hz9 hk9 hS => ?_)
  have hP : va_P (gD g) cl0 ws H1 := by rw [← ht9]; exact hB9.1
  have h_r_5 := hw9
  clear hB9 hz9 hk9 hvm9 ht9 hw9
  generalize H1 = H at hP hS ⊢
  refine W.widen (k := 0) (n := 0) (Nat.le_of_ble_eq_true rfl) (Nat.le_of_ble_eq_true rfl) ?_
  exact W.iret (v := r_5) hx hb hr (fun t9 ht9 hW9 => ⟨⟨_, (), rfl, (by have q_r_5 := h_r_5; have g_r_5 := i_rg r_5; have g_x1 := i_rg x1; omega), ⟨by rw [ht9]; exact hP, hD⟩⟩, hS.F ht9⟩) hS.2.2 dX7_secondOf_11
set_option maxHeartbeats 1000000 in
set_option maxRecDepth 100000 in
theorem m_X7_entryPoints (l : Launch) (g : Gm) (sz : Nat) (ws : va_W) (h0 : Nat) (x1 : Int32) (hG : Good g ws) (o_h0 : gC ws h0 6) : Met l yX7_entryPoints (wt yX7_entryPoints cX7_entryPoints 2 (some .boolean)) ({ frames := 2, cells := 0, slots := 0, locals := 42 }) (va_Pc [.ref h0, .int x1] (st_G g sz ws)) (va_Qi (fun (r : Int32) (u9 : Unit) => r = 0 ∨ r = 1) (gQ0 g (va_A ws sz) ws) (va_A ws sz)) (0) (0) (va_A ws sz) := by
  refine Met.ofW (cc := cX7_entryPoints) (maxL := 2) (ret := (some .boolean)) (by decide) rfl ?_
  intro p e s m args below meth c s₁ B hml hv
  obtain ⟨rfl, hsz, hP, hK, hD0, hex, hE⟩ := hv
  have hx := B.exec
  have hb := B.bytes
  have hr := B.returns
  have hts0 := atoms_spec (ws := wt yX7_entryPoints cX7_entryPoints 2 (some .boolean)) B.pre
  have hts : ∀ w ∈ tb, w.before _ s = true := fun w h => hts0 w (List.mem_cons_of_mem _ h)
  have hown : s.vm.findClass RX7 = some m.cls := findClass_of_methodNamed B.named
  subst hsz
  have hD := hD0.self (sz := s.heap.size)
  generalize hAe : va_A ws s.heap.size = A at hD hE ⊢
  have hA : ∀ q : Nat, s.heap.size ≤ q → A q := fun q h => by rw [← hAe]; exact Or.inr h
  have hS : va_S A s.heap s.heap [] := va_S.rf
  have hl := lv_entry ([.ref h0, .int x1]) (n := 2) (Nat.le_of_ble_eq_true rfl)
  rw [lg_entry_eq]
  generalize (lg_sl ([.ref h0, .int x1]) ++ List.replicate (2 - (lg_sl ([.ref h0, .int x1])).length) Slot.unset).toArray = ls at hl ⊢
  have hl : lv_has ls 2 [(0, .ref h0), (1, .int x1)] := hl
  refine lv_aload_n hx hb dX7_entryPoints_0 rfl (lv_at hl 0 rfl) ?_
  refine lv_iload_n hx hb dX7_entryPoints_1 rfl (lv_at hl 1 rfl) ?_
  have hFc := gfree hD hS hA
  obtain ⟨k_1, fs_1, hk_1⟩ := gC_of o_h0
  refine va_calli (va_runV (As := [.int x1]) (rest := []) ⟨hx, hb, hml, hown, hts⟩ (m_X7_tagOf l g s.heap.size ws h0 (x1) hG o_h0) (cwV 1 hts (gd_V kw_1313 kw_1435 kw_1436 kw_710 kw_1434) rfl rfl rfl (by decide +kernel) ⟨Nat.le_of_ble_eq_true rfl, Nat.le_of_ble_eq_true rfl⟩) ⟨gblind, va_recv hK hP (ci := 6) (q0 := k_1) rfl hk_1, fun U hU hW9 => gmk hU hW9 hP hK hD hex hE hS hFc⟩ rfl rfl hl.1 rfl (lv_room (Nat.le_of_ble_eq_true rfl)) dX7_entryPoints_2 ⟨Nat.le_of_ble_eq_true rfl, Nat.le_of_ble_eq_true rfl⟩) hS (fun q _ h => hFc q h) hFc (fun r_2 u9 t9 H1 locs ht9 hvm9 hw9 hB9 hz9 hk9 hS => ?_)
  have hP : va_P (gD g) cl0 ws H1 := by rw [← ht9]; exact hB9.1
  clear hB9 hz9 hk9 hvm9 ht9 hw9
  generalize H1 = H at hP hS ⊢
  have K_5_129 : W p l e (headSpec (wt yX7_entryPoints cX7_entryPoints 2 (some .boolean)) ({ frames := 2, cells := 0, slots := 0, locals := 42 })).room s m ([.ref h0, .int x1] : List Value).toArray below meth c H locs (0) (0) (MQ below (va_Qi (fun (r : Int32) (u9 : Unit) => r = 0 ∨ r = 1) (gQ0 g A ws) A) ([.ref h0, .int x1] : List Value).toArray s (0) (0) A) (F0 m 129 ls []) := by
    refine lv_iconst (v := 1) hx hb dX7_entryPoints_129 (by decide) ?_
    refine W.widen (k := 0) (n := 0) (Nat.le_of_ble_eq_true rfl) (Nat.le_of_ble_eq_true rfl) ?_
    exact W.zret (v := 1) hx hb hr (nz (Or.inr rfl)) (fun t9 ht9 hW9 => ⟨⟨_, (), rfl, (Or.inr rfl), ⟨by rw [ht9]; exact hP, hD⟩⟩, hS.F ht9⟩) hS.2.2 dX7_entryPoints_130
  have K_5_44 : W p l e (headSpec (wt yX7_entryPoints cX7_entryPoints 2 (some .boolean)) ({ frames := 2, cells := 0, slots := 0, locals := 42 })).room s m ([.ref h0, .int x1] : List Value).toArray below meth c H locs (0) (0) (MQ below (va_Qi (fun (r : Int32) (u9 : Unit) => r = 0 ∨ r = 1) (gQ0 g A ws) A) ([.ref h0, .int x1] : List Value).toArray s (0) (0) A) (F0 m 44 ls []) := by
    refine lv_aload_n hx hb dX7_entryPoints_44 rfl (lv_at hl 0 rfl) ?_
    refine lv_aload_n hx hb dX7_entryPoints_45 rfl (lv_at hl 0 rfl) ?_
    refine lv_iload_n hx hb dX7_entryPoints_46 rfl (lv_at hl 1 rfl) ?_
    have hFc := gfree hD hS hA
    obtain ⟨k_3, fs_3, hk_3⟩ := gC_of o_h0
    refine va_calli (va_runV (As := [.int x1]) (rest := [.ref h0]) ⟨hx, hb, hml, hown, hts⟩ (m_X7_firstOf l g H.size ws h0 (x1) hG o_h0) (cwV 1 hts (gd_V kw_1314 kw_1326 kw_1327 kw_710 kw_1325) rfl rfl rfl (by decide +kernel) ⟨Nat.le_of_ble_eq_true rfl, Nat.le_of_ble_eq_true rfl⟩) ⟨gblind, va_recv hK hP (ci := 6) (q0 := k_3) rfl hk_3, fun U hU hW9 => gmk hU hW9 hP hK hD hex hE hS hFc⟩ rfl rfl hl.1 rfl (lv_room (Nat.le_of_ble_eq_true rfl)) dX7_entryPoints_47 ⟨Nat.le_of_ble_eq_true rfl, Nat.le_of_ble_eq_true rfl⟩) hS (fun q _ h => hFc q h) hFc (fun r_4 u9 t9 H1 locs ht9 hvm9 hw9 hB9 hz9 hk9 hS => ?_)
    have hP : va_P (gD g) cl0 ws H1 := by rw [← ht9]; exact hB9.1
    have h_r_4 := hw9
    clear hB9 hz9 hk9 hvm9 ht9 hw9
    generalize H1 = H at hP hS ⊢
    have hFc := gfree hD hS hA
    obtain ⟨k_5, fs_5, hk_5⟩ := gC_of o_h0
    refine va_calli (va_runV (As := [.int r_4]) (rest := []) ⟨hx, hb, hml, hown, hts⟩ (m_X7_tagOf l g H.size ws h0 (r_4) hG o_h0) (cwV 1 hts (gd_V kw_1313 kw_1435 kw_1436 kw_710 kw_1434) rfl rfl rfl (by decide +kernel) ⟨Nat.le_of_ble_eq_true rfl, Nat.le_of_ble_eq_true rfl⟩) ⟨gblind, va_recv hK hP (ci := 6) (q0 := k_5) rfl hk_5, fun U hU hW9 => gmk hU hW9 hP hK hD hex hE hS hFc⟩ rfl rfl hl.1 rfl (lv_room (Nat.le_of_ble_eq_true rfl)) dX7_entryPoints_50 ⟨Nat.le_of_ble_eq_true rfl, Nat.le_of_ble_eq_true rfl⟩) hS (fun q _ h => hFc q h) hFc (fun r_6 u9 t9 H1 locs ht9 hvm9 hw9 hB9 hz9 hk9 hS => ?_)
    have hP : va_P (gD g) cl0 ws H1 := by rw [← ht9]; exact hB9.1
    clear hB9 hz9 hk9 hvm9 ht9 hw9
    generalize H1 = H at hP hS ⊢
    refine lv_iconst (v := 1) hx hb dX7_entryPoints_53 (by decide) ?_
    have J_62 : ∀ (t_7 : Int32) (H : Heap) (locs : List Loc) (ls : Array Slot), t_7 = 0 ∨ t_7 = 1 → va_P (gD g) cl0 ws H → va_D A ws → va_S A s.heap H locs → lv_has ls 2 [] → W p l e (headSpec (wt yX7_entryPoints cX7_entryPoints 2 (some .boolean)) ({ frames := 2, cells := 0, slots := 0, locals := 42 })).room s m ([.ref h0, .int x1] : List Value).toArray below meth c H locs (0) (0) (MQ below (va_Qi (fun (r : Int32) (u9 : Unit) => r = 0 ∨ r = 1) (gQ0 g A ws) A) ([.ref h0, .int x1] : List Value).toArray s (0) (0) A) (F0 m 62 ls [.int t_7]) := by
      intro t_7 H locs ls iv_8 hP hD hS hl
      have hz_t_7 := iv_8
      refine W.widen (k := 0) (n := 0) (Nat.le_of_ble_eq_true rfl) (Nat.le_of_ble_eq_true rfl) ?_
      exact W.zret (v := t_7) hx hb hr (nz hz_t_7) (fun t9 ht9 hW9 => ⟨⟨_, (), rfl, hz_t_7, ⟨by rw [ht9]; exact hP, hD⟩⟩, hS.F ht9⟩) hS.2.2 dX7_entryPoints_62
    refine lv_icmp_ne (tgt := 61) hx hb dX7_entryPoints_54 (by decide) (fun c_11 => ?_) (fun c_11 => ?_)
    · refine lv_iconst (v := 0) hx hb dX7_entryPoints_61 (by decide) ?_
      exact J_62 (0) H locs ls (Or.inl rfl) hP hD hS (lv_sub hl [] rfl)
    · refine lv_iconst (v := 1) hx hb dX7_entryPoints_57 (by decide) ?_
      refine lv_goto (tgt := 62) hx hb dX7_entryPoints_58 (by decide) ?_
      exact J_62 (1) H locs ls (Or.inr rfl) hP hD hS (lv_sub hl [] rfl)
  have K_5_95 : W p l e (headSpec (wt yX7_entryPoints cX7_entryPoints 2 (some .boolean)) ({ frames := 2, cells := 0, slots := 0, locals := 42 })).room s m ([.ref h0, .int x1] : List Value).toArray below meth c H locs (0) (0) (MQ below (va_Qi (fun (r : Int32) (u9 : Unit) => r = 0 ∨ r = 1) (gQ0 g A ws) A) ([.ref h0, .int x1] : List Value).toArray s (0) (0) A) (F0 m 95 ls []) := by
    refine lv_aload_n hx hb dX7_entryPoints_95 rfl (lv_at hl 0 rfl) ?_
    refine lv_aload_n hx hb dX7_entryPoints_96 rfl (lv_at hl 0 rfl) ?_
    refine lv_iload_n hx hb dX7_entryPoints_97 rfl (lv_at hl 1 rfl) ?_
    have hFc := gfree hD hS hA
    obtain ⟨k_12, fs_12, hk_12⟩ := gC_of o_h0
    refine va_calli (va_runV (As := [.int x1]) (rest := [.ref h0]) ⟨hx, hb, hml, hown, hts⟩ (m_X7_firstOf l g H.size ws h0 (x1) hG o_h0) (cwV 1 hts (gd_V kw_1314 kw_1326 kw_1327 kw_710 kw_1325) rfl rfl rfl (by decide +kernel) ⟨Nat.le_of_ble_eq_true rfl, Nat.le_of_ble_eq_true rfl⟩) ⟨gblind, va_recv hK hP (ci := 6) (q0 := k_12) rfl hk_12, fun U hU hW9 => gmk hU hW9 hP hK hD hex hE hS hFc⟩ rfl rfl hl.1 rfl (lv_room (Nat.le_of_ble_eq_true rfl)) dX7_entryPoints_98 ⟨Nat.le_of_ble_eq_true rfl, Nat.le_of_ble_eq_true rfl⟩) hS (fun q _ h => hFc q h) hFc (fun r_13 u9 t9 H1 locs ht9 hvm9 hw9 hB9 hz9 hk9 hS => ?_)
    have hP : va_P (gD g) cl0 ws H1 := by rw [← ht9]; exact hB9.1
    have h_r_13 := hw9
    clear hB9 hz9 hk9 hvm9 ht9 hw9
    generalize H1 = H at hP hS ⊢
    have hFc := gfree hD hS hA
    obtain ⟨k_14, fs_14, hk_14⟩ := gC_of o_h0
    refine va_calli (va_runV (As := [.int r_13]) (rest := []) ⟨hx, hb, hml, hown, hts⟩ (m_X7_tagOf l g H.size ws h0 (r_13) hG o_h0) (cwV 1 hts (gd_V kw_1313 kw_1435 kw_1436 kw_710 kw_1434) rfl rfl rfl (by decide +kernel) ⟨Nat.le_of_ble_eq_true rfl, Nat.le_of_ble_eq_true rfl⟩) ⟨gblind, va_recv hK hP (ci := 6) (q0 := k_14) rfl hk_14, fun U hU hW9 => gmk hU hW9 hP hK hD hex hE hS hFc⟩ rfl rfl hl.1 rfl (lv_room (Nat.le_of_ble_eq_true rfl)) dX7_entryPoints_101 ⟨Nat.le_of_ble_eq_true rfl, Nat.le_of_ble_eq_true rfl⟩) hS (fun q _ h => hFc q h) hFc (fun r_15 u9 t9 H1 locs ht9 hvm9 hw9 hB9 hz9 hk9 hS => ?_)
    have hP : va_P (gD g) cl0 ws H1 := by rw [← ht9]; exact hB9.1
    clear hB9 hz9 hk9 hvm9 ht9 hw9
    generalize H1 = H at hP hS ⊢
    refine lv_bipush (v := 7) hx hb dX7_entryPoints_104 (by decide) ?_
    have J_128 : ∀ (t_16 : Int32) (H : Heap) (locs : List Loc) (ls : Array Slot), t_16 = 0 ∨ t_16 = 1 → va_P (gD g) cl0 ws H → va_D A ws → va_S A s.heap H locs → lv_has ls 2 [] → W p l e (headSpec (wt yX7_entryPoints cX7_entryPoints 2 (some .boolean)) ({ frames := 2, cells := 0, slots := 0, locals := 42 })).room s m ([.ref h0, .int x1] : List Value).toArray below meth c H locs (0) (0) (MQ below (va_Qi (fun (r : Int32) (u9 : Unit) => r = 0 ∨ r = 1) (gQ0 g A ws) A) ([.ref h0, .int x1] : List Value).toArray s (0) (0) A) (F0 m 128 ls [.int t_16]) := by
      intro t_16 H locs ls iv_17 hP hD hS hl
      have hz_t_16 := iv_17
      refine W.widen (k := 0) (n := 0) (Nat.le_of_ble_eq_true rfl) (Nat.le_of_ble_eq_true rfl) ?_
      exact W.zret (v := t_16) hx hb hr (nz hz_t_16) (fun t9 ht9 hW9 => ⟨⟨_, (), rfl, hz_t_16, ⟨by rw [ht9]; exact hP, hD⟩⟩, hS.F ht9⟩) hS.2.2 dX7_entryPoints_128
    have J_127 : ∀  (H : Heap) (locs : List Loc) (ls : Array Slot), va_P (gD g) cl0 ws H → va_D A ws → va_S A s.heap H locs → lv_has ls 2 [] → W p l e (headSpec (wt yX7_entryPoints cX7_entryPoints 2 (some .boolean)) ({ frames := 2, cells := 0, slots := 0, locals := 42 })).room s m ([.ref h0, .int x1] : List Value).toArray below meth c H locs (0) (0) (MQ below (va_Qi (fun (r : Int32) (u9 : Unit) => r = 0 ∨ r = 1) (gQ0 g A ws) A) ([.ref h0, .int x1] : List Value).toArray s (0) (0) A) (F0 m 127 ls []) := by
      intro  H locs ls  hP hD hS hl
      refine lv_iconst (v := 0) hx hb dX7_entryPoints_127 (by decide) ?_
      exact J_128 (0) H locs ls (Or.inl rfl) hP hD hS (lv_sub hl [] rfl)
    refine lv_icmp_ne (tgt := 127) hx hb dX7_entryPoints_106 (by decide) (fun c_22 => ?_) (fun c_22 => ?_)
    · exact J_127  H locs ls  hP hD hS (lv_sub hl [] rfl)
    · refine lv_aload_n hx hb dX7_entryPoints_109 rfl (lv_at hl 0 rfl) ?_
      refine lv_aload_n hx hb dX7_entryPoints_110 rfl (lv_at hl 0 rfl) ?_
      refine lv_iload_n hx hb dX7_entryPoints_111 rfl (lv_at hl 1 rfl) ?_
      have hFc := gfree hD hS hA
      obtain ⟨k_23, fs_23, hk_23⟩ := gC_of o_h0
      refine va_calli (va_runV (As := [.int x1]) (rest := [.ref h0]) ⟨hx, hb, hml, hown, hts⟩ (m_X7_secondOf l g H.size ws h0 (x1) hG o_h0) (cwV 1 hts (gd_V kw_1315 kw_1432 kw_1433 kw_710 kw_1431) rfl rfl rfl (by decide +kernel) ⟨Nat.le_of_ble_eq_true rfl, Nat.le_of_ble_eq_true rfl⟩) ⟨gblind, va_recv hK hP (ci := 6) (q0 := k_23) rfl hk_23, fun U hU hW9 => gmk hU hW9 hP hK hD hex hE hS hFc⟩ rfl rfl hl.1 rfl (lv_room (Nat.le_of_ble_eq_true rfl)) dX7_entryPoints_112 ⟨Nat.le_of_ble_eq_true rfl, Nat.le_of_ble_eq_true rfl⟩) hS (fun q _ h => hFc q h) hFc (fun r_24 u9 t9 H1 locs ht9 hvm9 hw9 hB9 hz9 hk9 hS => ?_)
      have hP : va_P (gD g) cl0 ws H1 := by rw [← ht9]; exact hB9.1
      have h_r_24 := hw9
      clear hB9 hz9 hk9 hvm9 ht9 hw9
      generalize H1 = H at hP hS ⊢
      have hFc := gfree hD hS hA
      obtain ⟨k_25, fs_25, hk_25⟩ := gC_of o_h0
      refine va_calli (va_runV (As := [.int r_24]) (rest := []) ⟨hx, hb, hml, hown, hts⟩ (m_X7_tagOf l g H.size ws h0 (r_24) hG o_h0) (cwV 1 hts (gd_V kw_1313 kw_1435 kw_1436 kw_710 kw_1434) rfl rfl rfl (by decide +kernel) ⟨Nat.le_of_ble_eq_true rfl, Nat.le_of_ble_eq_true rfl⟩) ⟨gblind, va_recv hK hP (ci := 6) (q0 := k_25) rfl hk_25, fun U hU hW9 => gmk hU hW9 hP hK hD hex hE hS hFc⟩ rfl rfl hl.1 rfl (lv_room (Nat.le_of_ble_eq_true rfl)) dX7_entryPoints_115 ⟨Nat.le_of_ble_eq_true rfl, Nat.le_of_ble_eq_true rfl⟩) hS (fun q _ h => hFc q h) hFc (fun r_26 u9 t9 H1 locs ht9 hvm9 hw9 hB9 hz9 hk9 hS => ?_)
      have hP : va_P (gD g) cl0 ws H1 := by rw [← ht9]; exact hB9.1
      clear hB9 hz9 hk9 hvm9 ht9 hw9
      generalize H1 = H at hP hS ⊢
      refine lv_bipush (v := 12) hx hb dX7_entryPoints_118 (by decide) ?_
      refine lv_icmp_ne (tgt := 127) hx hb dX7_entryPoints_120 (by decide) (fun c_27 => ?_) (fun c_27 => ?_)
      · exact J_127  H locs ls  hP hD hS (lv_sub hl [] rfl)
      · refine lv_iconst (v := 1) hx hb dX7_entryPoints_123 (by decide) ?_
        refine lv_goto (tgt := 128) hx hb dX7_entryPoints_124 (by decide) ?_
        exact J_128 (1) H locs ls (Or.inr rfl) hP hD hS (lv_sub hl [] rfl)
  have K_5_63 : W p l e (headSpec (wt yX7_entryPoints cX7_entryPoints 2 (some .boolean)) ({ frames := 2, cells := 0, slots := 0, locals := 42 })).room s m ([.ref h0, .int x1] : List Value).toArray below meth c H locs (0) (0) (MQ below (va_Qi (fun (r : Int32) (u9 : Unit) => r = 0 ∨ r = 1) (gQ0 g A ws) A) ([.ref h0, .int x1] : List Value).toArray s (0) (0) A) (F0 m 63 ls []) := by
    refine lv_aload_n hx hb dX7_entryPoints_63 rfl (lv_at hl 0 rfl) ?_
    refine lv_aload_n hx hb dX7_entryPoints_64 rfl (lv_at hl 0 rfl) ?_
    refine lv_iload_n hx hb dX7_entryPoints_65 rfl (lv_at hl 1 rfl) ?_
    have hFc := gfree hD hS hA
    obtain ⟨k_28, fs_28, hk_28⟩ := gC_of o_h0
    refine va_calli (va_runV (As := [.int x1]) (rest := [.ref h0]) ⟨hx, hb, hml, hown, hts⟩ (m_X7_firstOf l g H.size ws h0 (x1) hG o_h0) (cwV 1 hts (gd_V kw_1314 kw_1326 kw_1327 kw_710 kw_1325) rfl rfl rfl (by decide +kernel) ⟨Nat.le_of_ble_eq_true rfl, Nat.le_of_ble_eq_true rfl⟩) ⟨gblind, va_recv hK hP (ci := 6) (q0 := k_28) rfl hk_28, fun U hU hW9 => gmk hU hW9 hP hK hD hex hE hS hFc⟩ rfl rfl hl.1 rfl (lv_room (Nat.le_of_ble_eq_true rfl)) dX7_entryPoints_66 ⟨Nat.le_of_ble_eq_true rfl, Nat.le_of_ble_eq_true rfl⟩) hS (fun q _ h => hFc q h) hFc (fun r_29 u9 t9 H1 locs ht9 hvm9 hw9 hB9 hz9 hk9 hS => ?_)
    have hP : va_P (gD g) cl0 ws H1 := by rw [← ht9]; exact hB9.1
    have h_r_29 := hw9
    clear hB9 hz9 hk9 hvm9 ht9 hw9
    generalize H1 = H at hP hS ⊢
    have hFc := gfree hD hS hA
    obtain ⟨k_30, fs_30, hk_30⟩ := gC_of o_h0
    refine va_calli (va_runV (As := [.int r_29]) (rest := []) ⟨hx, hb, hml, hown, hts⟩ (m_X7_tagOf l g H.size ws h0 (r_29) hG o_h0) (cwV 1 hts (gd_V kw_1313 kw_1435 kw_1436 kw_710 kw_1434) rfl rfl rfl (by decide +kernel) ⟨Nat.le_of_ble_eq_true rfl, Nat.le_of_ble_eq_true rfl⟩) ⟨gblind, va_recv hK hP (ci := 6) (q0 := k_30) rfl hk_30, fun U hU hW9 => gmk hU hW9 hP hK hD hex hE hS hFc⟩ rfl rfl hl.1 rfl (lv_room (Nat.le_of_ble_eq_true rfl)) dX7_entryPoints_69 ⟨Nat.le_of_ble_eq_true rfl, Nat.le_of_ble_eq_true rfl⟩) hS (fun q _ h => hFc q h) hFc (fun r_31 u9 t9 H1 locs ht9 hvm9 hw9 hB9 hz9 hk9 hS => ?_)
    have hP : va_P (gD g) cl0 ws H1 := by rw [← ht9]; exact hB9.1
    clear hB9 hz9 hk9 hvm9 ht9 hw9
    generalize H1 = H at hP hS ⊢
    refine lv_iconst (v := 1) hx hb dX7_entryPoints_72 (by decide) ?_
    have J_94 : ∀ (t_32 : Int32) (H : Heap) (locs : List Loc) (ls : Array Slot), t_32 = 0 ∨ t_32 = 1 → va_P (gD g) cl0 ws H → va_D A ws → va_S A s.heap H locs → lv_has ls 2 [] → W p l e (headSpec (wt yX7_entryPoints cX7_entryPoints 2 (some .boolean)) ({ frames := 2, cells := 0, slots := 0, locals := 42 })).room s m ([.ref h0, .int x1] : List Value).toArray below meth c H locs (0) (0) (MQ below (va_Qi (fun (r : Int32) (u9 : Unit) => r = 0 ∨ r = 1) (gQ0 g A ws) A) ([.ref h0, .int x1] : List Value).toArray s (0) (0) A) (F0 m 94 ls [.int t_32]) := by
      intro t_32 H locs ls iv_33 hP hD hS hl
      have hz_t_32 := iv_33
      refine W.widen (k := 0) (n := 0) (Nat.le_of_ble_eq_true rfl) (Nat.le_of_ble_eq_true rfl) ?_
      exact W.zret (v := t_32) hx hb hr (nz hz_t_32) (fun t9 ht9 hW9 => ⟨⟨_, (), rfl, hz_t_32, ⟨by rw [ht9]; exact hP, hD⟩⟩, hS.F ht9⟩) hS.2.2 dX7_entryPoints_94
    have J_93 : ∀  (H : Heap) (locs : List Loc) (ls : Array Slot), va_P (gD g) cl0 ws H → va_D A ws → va_S A s.heap H locs → lv_has ls 2 [] → W p l e (headSpec (wt yX7_entryPoints cX7_entryPoints 2 (some .boolean)) ({ frames := 2, cells := 0, slots := 0, locals := 42 })).room s m ([.ref h0, .int x1] : List Value).toArray below meth c H locs (0) (0) (MQ below (va_Qi (fun (r : Int32) (u9 : Unit) => r = 0 ∨ r = 1) (gQ0 g A ws) A) ([.ref h0, .int x1] : List Value).toArray s (0) (0) A) (F0 m 93 ls []) := by
      intro  H locs ls  hP hD hS hl
      refine lv_iconst (v := 0) hx hb dX7_entryPoints_93 (by decide) ?_
      exact J_94 (0) H locs ls (Or.inl rfl) hP hD hS (lv_sub hl [] rfl)
    refine lv_icmp_ne (tgt := 93) hx hb dX7_entryPoints_73 (by decide) (fun c_38 => ?_) (fun c_38 => ?_)
    · exact J_93  H locs ls  hP hD hS (lv_sub hl [] rfl)
    · refine lv_aload_n hx hb dX7_entryPoints_76 rfl (lv_at hl 0 rfl) ?_
      refine lv_aload_n hx hb dX7_entryPoints_77 rfl (lv_at hl 0 rfl) ?_
      refine lv_iload_n hx hb dX7_entryPoints_78 rfl (lv_at hl 1 rfl) ?_
      have hFc := gfree hD hS hA
      obtain ⟨k_39, fs_39, hk_39⟩ := gC_of o_h0
      refine va_calli (va_runV (As := [.int x1]) (rest := [.ref h0]) ⟨hx, hb, hml, hown, hts⟩ (m_X7_secondOf l g H.size ws h0 (x1) hG o_h0) (cwV 1 hts (gd_V kw_1315 kw_1432 kw_1433 kw_710 kw_1431) rfl rfl rfl (by decide +kernel) ⟨Nat.le_of_ble_eq_true rfl, Nat.le_of_ble_eq_true rfl⟩) ⟨gblind, va_recv hK hP (ci := 6) (q0 := k_39) rfl hk_39, fun U hU hW9 => gmk hU hW9 hP hK hD hex hE hS hFc⟩ rfl rfl hl.1 rfl (lv_room (Nat.le_of_ble_eq_true rfl)) dX7_entryPoints_79 ⟨Nat.le_of_ble_eq_true rfl, Nat.le_of_ble_eq_true rfl⟩) hS (fun q _ h => hFc q h) hFc (fun r_40 u9 t9 H1 locs ht9 hvm9 hw9 hB9 hz9 hk9 hS => ?_)
      have hP : va_P (gD g) cl0 ws H1 := by rw [← ht9]; exact hB9.1
      have h_r_40 := hw9
      clear hB9 hz9 hk9 hvm9 ht9 hw9
      generalize H1 = H at hP hS ⊢
      have hFc := gfree hD hS hA
      obtain ⟨k_41, fs_41, hk_41⟩ := gC_of o_h0
      refine va_calli (va_runV (As := [.int r_40]) (rest := []) ⟨hx, hb, hml, hown, hts⟩ (m_X7_tagOf l g H.size ws h0 (r_40) hG o_h0) (cwV 1 hts (gd_V kw_1313 kw_1435 kw_1436 kw_710 kw_1434) rfl rfl rfl (by decide +kernel) ⟨Nat.le_of_ble_eq_true rfl, Nat.le_of_ble_eq_true rfl⟩) ⟨gblind, va_recv hK hP (ci := 6) (q0 := k_41) rfl hk_41, fun U hU hW9 => gmk hU hW9 hP hK hD hex hE hS hFc⟩ rfl rfl hl.1 rfl (lv_room (Nat.le_of_ble_eq_true rfl)) dX7_entryPoints_82 ⟨Nat.le_of_ble_eq_true rfl, Nat.le_of_ble_eq_true rfl⟩) hS (fun q _ h => hFc q h) hFc (fun r_42 u9 t9 H1 locs ht9 hvm9 hw9 hB9 hz9 hk9 hS => ?_)
      have hP : va_P (gD g) cl0 ws H1 := by rw [← ht9]; exact hB9.1
      clear hB9 hz9 hk9 hvm9 ht9 hw9
      generalize H1 = H at hP hS ⊢
      refine lv_iconst (v := 1) hx hb dX7_entryPoints_85 (by decide) ?_
      refine lv_icmp_ne (tgt := 93) hx hb dX7_entryPoints_86 (by decide) (fun c_43 => ?_) (fun c_43 => ?_)
      · exact J_93  H locs ls  hP hD hS (lv_sub hl [] rfl)
      · refine lv_iconst (v := 1) hx hb dX7_entryPoints_89 (by decide) ?_
        refine lv_goto (tgt := 94) hx hb dX7_entryPoints_90 (by decide) ?_
        exact J_94 (1) H locs ls (Or.inr rfl) hP hD hS (lv_sub hl [] rfl)
  rcases Classical.em ((r_2 : Int32).toInt < 7 ∨ 12 < (r_2 : Int32).toInt) with c9 | c9
  · exact lv_tableOut (tgt := 129) hx hb dX7_entryPoints_5 c9 (by decide) K_5_129
  · rcases (show (r_2 : Int32).toInt = 7 ∨ (r_2 : Int32).toInt = 8 ∨ (r_2 : Int32).toInt = 9 ∨ (r_2 : Int32).toInt = 10 ∨ (r_2 : Int32).toInt = 11 ∨ (r_2 : Int32).toInt = 12 by omega) with c9 | c9 | c9 | c9 | c9 | c9
    · exact lv_tableIn (off := 39) (tgt := 44) hx hb dX7_entryPoints_5 (by rw [c9]; decide) (by rw [c9]; decide) (by rw [c9]; rfl) (by decide) K_5_44
    · exact lv_tableIn (off := 124) (tgt := 129) hx hb dX7_entryPoints_5 (by rw [c9]; decide) (by rw [c9]; decide) (by rw [c9]; rfl) (by decide) K_5_129
    · exact lv_tableIn (off := 90) (tgt := 95) hx hb dX7_entryPoints_5 (by rw [c9]; decide) (by rw [c9]; decide) (by rw [c9]; rfl) (by decide) K_5_95
    · exact lv_tableIn (off := 90) (tgt := 95) hx hb dX7_entryPoints_5 (by rw [c9]; decide) (by rw [c9]; decide) (by rw [c9]; rfl) (by decide) K_5_95
    · exact lv_tableIn (off := 124) (tgt := 129) hx hb dX7_entryPoints_5 (by rw [c9]; decide) (by rw [c9]; decide) (by rw [c9]; rfl) (by decide) K_5_129
    · exact lv_tableIn (off := 58) (tgt := 63) hx hb dX7_entryPoints_5 (by rw [c9]; decide) (by rw [c9]; decide) (by rw [c9]; rfl) (by decide) K_5_63
set_option maxHeartbeats 1000000 in
set_option maxRecDepth 100000 in
theorem m_X7_memberPlace (l : Launch) (g : Gm) (sz : Nat) (ws : va_W) (h0 : Nat) (x1 : Int32) (hG : Good g ws) (o_h0 : gC ws h0 6) : Met l yX7_memberPlace (wt yX7_memberPlace cX7_memberPlace 2 (some .int)) ({ frames := 0, cells := 0, slots := 0, locals := 0 }) (va_Pc [.ref h0, .int x1] (st_G g sz ws)) (va_Qi (fun (r : Int32) (u9 : Unit) => True) (gQ0 g (va_A ws sz) ws) (va_A ws sz)) (0) (0) (va_A ws sz) := by
  refine Met.ofW (cc := cX7_memberPlace) (maxL := 2) (ret := (some .int)) (by decide) rfl ?_
  intro p e s m args below meth c s₁ B hml hv
  obtain ⟨rfl, hsz, hP, hK, hD0, hex, hE⟩ := hv
  have hx := B.exec
  have hb := B.bytes
  have hr := B.returns
  have hts0 := atoms_spec (ws := wt yX7_memberPlace cX7_memberPlace 2 (some .int)) B.pre
  have hts : ∀ w ∈ tb, w.before _ s = true := fun w h => hts0 w (List.mem_cons_of_mem _ h)
  have hown : s.vm.findClass RX7 = some m.cls := findClass_of_methodNamed B.named
  subst hsz
  have hD := hD0.self (sz := s.heap.size)
  generalize hAe : va_A ws s.heap.size = A at hD hE ⊢
  have hA : ∀ q : Nat, s.heap.size ≤ q → A q := fun q h => by rw [← hAe]; exact Or.inr h
  have hS : va_S A s.heap s.heap [] := va_S.rf
  have hl := lv_entry ([.ref h0, .int x1]) (n := 2) (Nat.le_of_ble_eq_true rfl)
  rw [lg_entry_eq]
  generalize (lg_sl ([.ref h0, .int x1]) ++ List.replicate (2 - (lg_sl ([.ref h0, .int x1])).length) Slot.unset).toArray = ls at hl ⊢
  have hl : lv_has ls 2 [(0, .ref h0), (1, .int x1)] := hl
  refine lv_iload_n hx hb dX7_memberPlace_0 rfl (lv_at hl 1 rfl) ?_
  have J_23 : ∀ (t_1 : Int32) (H : Heap) (locs : List Loc) (ls : Array Slot), va_P (gD g) cl0 ws H → va_D A ws → va_S A s.heap H locs → lv_has ls 2 [] → W p l e (headSpec (wt yX7_memberPlace cX7_memberPlace 2 (some .int)) ({ frames := 0, cells := 0, slots := 0, locals := 0 })).room s m ([.ref h0, .int x1] : List Value).toArray below meth c H locs (0) (0) (MQ below (va_Qi (fun (r : Int32) (u9 : Unit) => True) (gQ0 g A ws) A) ([.ref h0, .int x1] : List Value).toArray s (0) (0) A) (F0 m 23 ls [.int t_1]) := by
    intro t_1 H locs ls  hP hD hS hl
    refine W.widen (k := 0) (n := 0) (Nat.le_of_ble_eq_true rfl) (Nat.le_of_ble_eq_true rfl) ?_
    exact W.iret (v := t_1) hx hb hr (fun t9 ht9 hW9 => ⟨⟨_, (), rfl, trivial, ⟨by rw [ht9]; exact hP, hD⟩⟩, hS.F ht9⟩) hS.2.2 dX7_memberPlace_23
  have J_13 : ∀  (H : Heap) (locs : List Loc) (ls : Array Slot), va_P (gD g) cl0 ws H → va_D A ws → va_S A s.heap H locs → lv_has ls 2 [] → W p l e (headSpec (wt yX7_memberPlace cX7_memberPlace 2 (some .int)) ({ frames := 0, cells := 0, slots := 0, locals := 0 })).room s m ([.ref h0, .int x1] : List Value).toArray below meth c H locs (0) (0) (MQ below (va_Qi (fun (r : Int32) (u9 : Unit) => True) (gQ0 g A ws) A) ([.ref h0, .int x1] : List Value).toArray s (0) (0) A) (F0 m 13 ls []) := by
    intro  H locs ls  hP hD hS hl
    refine lv_iconst (v := 0) hx hb dX7_memberPlace_13 (by decide) ?_
    refine lv_goto (tgt := 23) hx hb dX7_memberPlace_14 (by decide) ?_
    exact J_23 (0) H locs ls  hP hD hS (lv_sub hl [] rfl)
  refine lv_if_lt (tgt := 13) hx hb dX7_memberPlace_1 (by decide) (fun c_6 => ?_) (fun c_6 => ?_)
  · exact J_13  _ _ ls  hP hD hS (lv_sub hl [] rfl)
  · refine lv_iload_n hx hb dX7_memberPlace_4 rfl (lv_at hl 1 rfl) ?_
    refine lv_aload_n hx hb dX7_memberPlace_5 rfl (lv_at hl 0 rfl) ?_
    obtain ⟨k_7, fs9, hk_7⟩ := gC_of o_h0
    obtain ⟨r0_7, n0_7, c1_7, c2_7, c3_7, r4_7, n4_7, c5_7, c6_7, c7_7, c8_7, r9_7, n9_7, r10_7, n10_7, r11_7, n11_7, c12_7, c13_7, c14_7, c15_7, c16_7, rfl, a_r0_7, f1_7, a_r4_7, f3_7, a_r9_7, f5_7, a_r10_7, f7_7, a_r11_7, f9_7, f10_7, f11_7, f12_7, f13_7, f14_7, -⟩ := (hG.1 _ _ _ _ hk_7).hX7 rfl
    refine va_get (D := gD g) (ci := 6) (v := .ref r9_7) (C := RX7) (T := TX7) (N := 17) hx hb hts inX7 hown hK hP k_7 hk_7 rfl 9 (by decide) (hts _ kw_1342) (fun _ h9 => h9) rfl dX7_memberPlace_6 ?_
    obtain ⟨k_8, f_8, hk_8⟩ := gI_of a_r9_7
    obtain ⟨z_9, ez_9⟩ : ∃ z : Int32, Int32.ofNat n9_7 = z := ⟨_, rfl⟩
    refine va_alen (v := z_9) hx hb hK hP k_8 1 hk_8 rfl ez_9 dX7_memberPlace_9 ?_
    refine lv_icmp_lt (tgt := 17) hx hb dX7_memberPlace_10 (by decide) (fun c_10 => ?_) (fun c_10 => ?_)
    · refine lv_aload_n hx hb dX7_memberPlace_17 rfl (lv_at hl 0 rfl) ?_
      refine va_get (D := gD g) (ci := 6) (v := .ref r9_7) (C := RX7) (T := TX7) (N := 17) hx hb hts inX7 hown hK hP k_7 hk_7 rfl 9 (by decide) (hts _ kw_1342) (fun _ h9 => h9) rfl dX7_memberPlace_18 ?_
      refine lv_iload_n hx hb dX7_memberPlace_21 rfl (lv_at hl 1 rfl) ?_
      refine va_iald hx hb hK hP k_8 1 hk_8 rfl (i_in2 (by have e0 : (0 : Int32).toInt = 0 := (by decide); have q_c_6 := i_nlt c_6; have q_f5_7 := f5_7; have q_f12_7 := f12_7; have q_z_9 := i_len ez_9 f5_7; have q_c_10 := i_lt c_10; have g_x1 := i_rg x1; have g_z_9 := i_rg z_9; omega)) dX7_memberPlace_22 ?_
      refine lv_topi (fun z_11 ez_11 => ?_)
      exact J_23 (z_11) _ _ ls  hP hD hS (lv_sub hl [] rfl)
    · exact J_13  _ _ ls  hP hD hS (lv_sub hl [] rfl)
set_option maxHeartbeats 1000000 in
set_option maxRecDepth 100000 in
theorem m_X7_nameOf (l : Launch) (g : Gm) (sz : Nat) (ws : va_W) (h0 : Nat) (x1 : Int32) (hG : Good g ws) (o_h0 : gC ws h0 6) : Met l yX7_nameOf (wt yX7_nameOf cX7_nameOf 2 (some .int)) ({ frames := 1, cells := 0, slots := 0, locals := 21 }) (va_Pc [.ref h0, .int x1] (st_G g sz ws)) (va_Qi (fun (r : Int32) (u9 : Unit) => True) (gQ0 g (va_A ws sz) ws) (va_A ws sz)) (0) (0) (va_A ws sz) := by
  refine Met.ofW (cc := cX7_nameOf) (maxL := 2) (ret := (some .int)) (by decide) rfl ?_
  intro p e s m args below meth c s₁ B hml hv
  obtain ⟨rfl, hsz, hP, hK, hD0, hex, hE⟩ := hv
  have hx := B.exec
  have hb := B.bytes
  have hr := B.returns
  have hts0 := atoms_spec (ws := wt yX7_nameOf cX7_nameOf 2 (some .int)) B.pre
  have hts : ∀ w ∈ tb, w.before _ s = true := fun w h => hts0 w (List.mem_cons_of_mem _ h)
  have hown : s.vm.findClass RX7 = some m.cls := findClass_of_methodNamed B.named
  subst hsz
  have hD := hD0.self (sz := s.heap.size)
  generalize hAe : va_A ws s.heap.size = A at hD hE ⊢
  have hA : ∀ q : Nat, s.heap.size ≤ q → A q := fun q h => by rw [← hAe]; exact Or.inr h
  have hS : va_S A s.heap s.heap [] := va_S.rf
  have hl := lv_entry ([.ref h0, .int x1]) (n := 2) (Nat.le_of_ble_eq_true rfl)
  rw [lg_entry_eq]
  generalize (lg_sl ([.ref h0, .int x1]) ++ List.replicate (2 - (lg_sl ([.ref h0, .int x1])).length) Slot.unset).toArray = ls at hl ⊢
  have hl : lv_has ls 2 [(0, .ref h0), (1, .int x1)] := hl
  refine lv_aload_n hx hb dX7_nameOf_0 rfl (lv_at hl 0 rfl) ?_
  refine lv_aload_n hx hb dX7_nameOf_1 rfl (lv_at hl 0 rfl) ?_
  refine lv_iload_n hx hb dX7_nameOf_2 rfl (lv_at hl 1 rfl) ?_
  have hFc := gfree hD hS hA
  obtain ⟨k_1, fs_1, hk_1⟩ := gC_of o_h0
  refine va_calli (va_runV (As := [.int x1]) (rest := [.ref h0]) ⟨hx, hb, hml, hown, hts⟩ (m_X7_memberPlace l g s.heap.size ws h0 (x1) hG o_h0) (cwV 1 hts (gd_V kw_1288 kw_1394 kw_1395 kw_710 kw_1393) rfl rfl rfl (by decide +kernel) ⟨Nat.le_of_ble_eq_true rfl, Nat.le_of_ble_eq_true rfl⟩) ⟨gblind, va_recv hK hP (ci := 6) (q0 := k_1) rfl hk_1, fun U hU hW9 => gmk hU hW9 hP hK hD hex hE hS hFc⟩ rfl rfl hl.1 rfl (lv_room (Nat.le_of_ble_eq_true rfl)) dX7_nameOf_3 ⟨Nat.le_of_ble_eq_true rfl, Nat.le_of_ble_eq_true rfl⟩) hS (fun q _ h => hFc q h) hFc (fun r_2 u9 t9 H1 locs ht9 hvm9 hw9 hB9 hz9 hk9 hS => ?_)
  have hP : va_P (gD g) cl0 ws H1 := by rw [← ht9]; exact hB9.1
  clear hB9 hz9 hk9 hvm9 ht9 hw9
  generalize H1 = H at hP hS ⊢
  refine lv_iconst (v := 2) hx hb dX7_nameOf_6 (by decide) ?_
  refine lv_iadd hx hb dX7_nameOf_7 ?_
  refine lv_topi (fun z_3 ez_3 => ?_)
  have hFc := gfree hD hS hA
  obtain ⟨k_4, fs_4, hk_4⟩ := gC_of o_h0
  refine va_calli (va_runV (As := [.int z_3]) (rest := []) ⟨hx, hb, hml, hown, hts⟩ (m_X7_u2 l g H.size ws h0 (z_3) hG o_h0) (cwV 1 hts (gd_V kw_1266 kw_1450 kw_1451 kw_710 kw_1449) rfl rfl rfl (by decide +kernel) ⟨Nat.le_of_ble_eq_true rfl, Nat.le_of_ble_eq_true rfl⟩) ⟨gblind, va_recv hK hP (ci := 6) (q0 := k_4) rfl hk_4, fun U hU hW9 => gmk hU hW9 hP hK hD hex hE hS hFc⟩ rfl rfl hl.1 rfl (lv_room (Nat.le_of_ble_eq_true rfl)) dX7_nameOf_8 ⟨Nat.le_of_ble_eq_true rfl, Nat.le_of_ble_eq_true rfl⟩) hS (fun q _ h => hFc q h) hFc (fun r_5 u9 t9 H1 locs ht9 hvm9 hw9 hB9 hz9 hk9 hS => ?_)
  have hP : va_P (gD g) cl0 ws H1 := by rw [← ht9]; exact hB9.1
  have h_r_5 := hw9
  clear hB9 hz9 hk9 hvm9 ht9 hw9
  generalize H1 = H at hP hS ⊢
  refine W.widen (k := 0) (n := 0) (Nat.le_of_ble_eq_true rfl) (Nat.le_of_ble_eq_true rfl) ?_
  exact W.iret (v := r_5) hx hb hr (fun t9 ht9 hW9 => ⟨⟨_, (), rfl, trivial, ⟨by rw [ht9]; exact hP, hD⟩⟩, hS.F ht9⟩) hS.2.2 dX7_nameOf_11
set_option maxHeartbeats 1000000 in
set_option maxRecDepth 100000 in
theorem m_X7_typeOf (l : Launch) (g : Gm) (sz : Nat) (ws : va_W) (h0 : Nat) (x1 : Int32) (hG : Good g ws) (o_h0 : gC ws h0 6) : Met l yX7_typeOf (wt yX7_typeOf cX7_typeOf 2 (some .int)) ({ frames := 1, cells := 0, slots := 0, locals := 21 }) (va_Pc [.ref h0, .int x1] (st_G g sz ws)) (va_Qi (fun (r : Int32) (u9 : Unit) => True) (gQ0 g (va_A ws sz) ws) (va_A ws sz)) (0) (0) (va_A ws sz) := by
  refine Met.ofW (cc := cX7_typeOf) (maxL := 2) (ret := (some .int)) (by decide) rfl ?_
  intro p e s m args below meth c s₁ B hml hv
  obtain ⟨rfl, hsz, hP, hK, hD0, hex, hE⟩ := hv
  have hx := B.exec
  have hb := B.bytes
  have hr := B.returns
  have hts0 := atoms_spec (ws := wt yX7_typeOf cX7_typeOf 2 (some .int)) B.pre
  have hts : ∀ w ∈ tb, w.before _ s = true := fun w h => hts0 w (List.mem_cons_of_mem _ h)
  have hown : s.vm.findClass RX7 = some m.cls := findClass_of_methodNamed B.named
  subst hsz
  have hD := hD0.self (sz := s.heap.size)
  generalize hAe : va_A ws s.heap.size = A at hD hE ⊢
  have hA : ∀ q : Nat, s.heap.size ≤ q → A q := fun q h => by rw [← hAe]; exact Or.inr h
  have hS : va_S A s.heap s.heap [] := va_S.rf
  have hl := lv_entry ([.ref h0, .int x1]) (n := 2) (Nat.le_of_ble_eq_true rfl)
  rw [lg_entry_eq]
  generalize (lg_sl ([.ref h0, .int x1]) ++ List.replicate (2 - (lg_sl ([.ref h0, .int x1])).length) Slot.unset).toArray = ls at hl ⊢
  have hl : lv_has ls 2 [(0, .ref h0), (1, .int x1)] := hl
  refine lv_aload_n hx hb dX7_typeOf_0 rfl (lv_at hl 0 rfl) ?_
  refine lv_aload_n hx hb dX7_typeOf_1 rfl (lv_at hl 0 rfl) ?_
  refine lv_iload_n hx hb dX7_typeOf_2 rfl (lv_at hl 1 rfl) ?_
  have hFc := gfree hD hS hA
  obtain ⟨k_1, fs_1, hk_1⟩ := gC_of o_h0
  refine va_calli (va_runV (As := [.int x1]) (rest := [.ref h0]) ⟨hx, hb, hml, hown, hts⟩ (m_X7_memberPlace l g s.heap.size ws h0 (x1) hG o_h0) (cwV 1 hts (gd_V kw_1288 kw_1394 kw_1395 kw_710 kw_1393) rfl rfl rfl (by decide +kernel) ⟨Nat.le_of_ble_eq_true rfl, Nat.le_of_ble_eq_true rfl⟩) ⟨gblind, va_recv hK hP (ci := 6) (q0 := k_1) rfl hk_1, fun U hU hW9 => gmk hU hW9 hP hK hD hex hE hS hFc⟩ rfl rfl hl.1 rfl (lv_room (Nat.le_of_ble_eq_true rfl)) dX7_typeOf_3 ⟨Nat.le_of_ble_eq_true rfl, Nat.le_of_ble_eq_true rfl⟩) hS (fun q _ h => hFc q h) hFc (fun r_2 u9 t9 H1 locs ht9 hvm9 hw9 hB9 hz9 hk9 hS => ?_)
  have hP : va_P (gD g) cl0 ws H1 := by rw [← ht9]; exact hB9.1
  clear hB9 hz9 hk9 hvm9 ht9 hw9
  generalize H1 = H at hP hS ⊢
  refine lv_iconst (v := 4) hx hb dX7_typeOf_6 (by decide) ?_
  refine lv_iadd hx hb dX7_typeOf_7 ?_
  refine lv_topi (fun z_3 ez_3 => ?_)
  have hFc := gfree hD hS hA
  obtain ⟨k_4, fs_4, hk_4⟩ := gC_of o_h0
  refine va_calli (va_runV (As := [.int z_3]) (rest := []) ⟨hx, hb, hml, hown, hts⟩ (m_X7_u2 l g H.size ws h0 (z_3) hG o_h0) (cwV 1 hts (gd_V kw_1266 kw_1450 kw_1451 kw_710 kw_1449) rfl rfl rfl (by decide +kernel) ⟨Nat.le_of_ble_eq_true rfl, Nat.le_of_ble_eq_true rfl⟩) ⟨gblind, va_recv hK hP (ci := 6) (q0 := k_4) rfl hk_4, fun U hU hW9 => gmk hU hW9 hP hK hD hex hE hS hFc⟩ rfl rfl hl.1 rfl (lv_room (Nat.le_of_ble_eq_true rfl)) dX7_typeOf_8 ⟨Nat.le_of_ble_eq_true rfl, Nat.le_of_ble_eq_true rfl⟩) hS (fun q _ h => hFc q h) hFc (fun r_5 u9 t9 H1 locs ht9 hvm9 hw9 hB9 hz9 hk9 hS => ?_)
  have hP : va_P (gD g) cl0 ws H1 := by rw [← ht9]; exact hB9.1
  have h_r_5 := hw9
  clear hB9 hz9 hk9 hvm9 ht9 hw9
  generalize H1 = H at hP hS ⊢
  refine W.widen (k := 0) (n := 0) (Nat.le_of_ble_eq_true rfl) (Nat.le_of_ble_eq_true rfl) ?_
  exact W.iret (v := r_5) hx hb hr (fun t9 ht9 hW9 => ⟨⟨_, (), rfl, trivial, ⟨by rw [ht9]; exact hP, hD⟩⟩, hS.F ht9⟩) hS.2.2 dX7_typeOf_11
set_option maxHeartbeats 1000000 in
set_option maxRecDepth 100000 in
theorem m_X7_flagsHold (l : Launch) (g : Gm) (sz : Nat) (ws : va_W) (h0 : Nat) (hG : Good g ws) (o_h0 : gC ws h0 6) : Met l yX7_flagsHold (wt yX7_flagsHold cX7_flagsHold 2 (some .boolean)) ({ frames := 1, cells := 0, slots := 0, locals := 22 }) (va_Pc [.ref h0] (st_G g sz ws)) (va_Qi (fun (r : Int32) (u9 : va_W) => r = 0 ∨ r = 1) (gQ1 g [(6, 2), (6, 3)] [] none (va_A ws sz) ws) (va_A ws sz)) (0) (0) (va_A ws sz) := by
  refine Met.ofW (cc := cX7_flagsHold) (maxL := 2) (ret := (some .boolean)) (by decide) rfl ?_
  intro p e s m args below meth c s₁ B hml hv
  obtain ⟨rfl, hsz, hP, hK, hD0, hex, hE⟩ := hv
  have hx := B.exec
  have hb := B.bytes
  have hr := B.returns
  have hts0 := atoms_spec (ws := wt yX7_flagsHold cX7_flagsHold 2 (some .boolean)) B.pre
  have hts : ∀ w ∈ tb, w.before _ s = true := fun w h => hts0 w (List.mem_cons_of_mem _ h)
  have hown : s.vm.findClass RX7 = some m.cls := findClass_of_methodNamed B.named
  subst hsz
  have hD := hD0.self (sz := s.heap.size)
  generalize hAe : va_A ws s.heap.size = A at hD hE ⊢
  have hA : ∀ q : Nat, s.heap.size ≤ q → A q := fun q h => by rw [← hAe]; exact Or.inr h
  have hS : va_S A s.heap s.heap [] := va_S.rf
  have hl := lv_entry ([.ref h0]) (n := 2) (Nat.le_of_ble_eq_true rfl)
  rw [lg_entry_eq]
  generalize (lg_sl ([.ref h0]) ++ List.replicate (2 - (lg_sl ([.ref h0])).length) Slot.unset).toArray = ls at hl ⊢
  have hl : lv_has ls 2 [(0, .ref h0)] := hl
  refine lv_aload_n hx hb dX7_flagsHold_0 rfl (lv_at hl 0 rfl) ?_
  refine lv_aload_n hx hb dX7_flagsHold_1 rfl (lv_at hl 0 rfl) ?_
  obtain ⟨k_1, fs9, hk_1⟩ := gC_of o_h0
  obtain ⟨r0_1, n0_1, c1_1, c2_1, c3_1, r4_1, n4_1, c5_1, c6_1, c7_1, c8_1, r9_1, n9_1, r10_1, n10_1, r11_1, n11_1, c12_1, c13_1, c14_1, c15_1, c16_1, rfl, a_r0_1, f1_1, a_r4_1, f3_1, a_r9_1, f5_1, a_r10_1, f7_1, a_r11_1, f9_1, f10_1, f11_1, f12_1, f13_1, f14_1, -⟩ := (hG.1 _ _ _ _ hk_1).hX7 rfl
  refine va_get (D := gD g) (ci := 6) (v := .int c6_1) (C := RX7) (T := TX7) (N := 17) hx hb hts inX7 hown hK hP k_1 hk_1 rfl 6 (by decide) (hts _ kw_1331) (fun _ h9 => h9) rfl dX7_flagsHold_2 ?_
  have hFc := gfree hD hS hA
  refine va_calli (va_runV (As := [.int c6_1]) (rest := []) ⟨hx, hb, hml, hown, hts⟩ (m_X7_u2 l g s.heap.size ws h0 (c6_1) hG o_h0) (cwV 1 hts (gd_V kw_1266 kw_1450 kw_1451 kw_710 kw_1449) rfl rfl rfl (by decide +kernel) ⟨Nat.le_of_ble_eq_true rfl, Nat.le_of_ble_eq_true rfl⟩) ⟨gblind, va_recv hK hP (ci := 6) (q0 := k_1) rfl hk_1, fun U hU hW9 => gmk hU hW9 hP hK hD hex hE hS hFc⟩ rfl rfl hl.1 rfl (lv_room (Nat.le_of_ble_eq_true rfl)) dX7_flagsHold_5 ⟨Nat.le_of_ble_eq_true rfl, Nat.le_of_ble_eq_true rfl⟩) hS (fun q _ h => hFc q h) hFc (fun r_2 u9 t9 H1 locs ht9 hvm9 hw9 hB9 hz9 hk9 hS => ?_)
  have hP : va_P (gD g) cl0 ws H1 := by rw [← ht9]; exact hB9.1
  have h_r_2 := hw9
  clear hB9 hz9 hk9 hvm9 ht9 hw9
  generalize H1 = H at hP hS ⊢
  refine lv_bipush (v := 33) hx hb dX7_flagsHold_8 (by decide) ?_
  refine lv_icmp_eq (tgt := 24) hx hb dX7_flagsHold_10 (by decide) (fun c_3 => ?_) (fun c_3 => ?_)
  · refine lv_iconst (v := 0) hx hb dX7_flagsHold_24 (by decide) ?_
    refine lv_istore_n (lv' := [(1, .int 0), (0, .ref h0)]) hx hb dX7_flagsHold_25 rfl hl (by decide) rfl (fun ls hl => ?_)
    have J_26 : ∀ (n9 : Nat) (v1_4 : Int32) (H : Heap) (locs : List Loc) (ls : Array Slot), (2147483647 - v1_4.toInt).toNat = n9 → 0 ≤ v1_4.toInt → va_P (gD g) cl0 ws H → va_D A ws → va_S A s.heap H locs → lv_has ls 2 [(0, .ref h0), (1, .int v1_4)] → W p l e (headSpec (wt yX7_flagsHold cX7_flagsHold 2 (some .boolean)) ({ frames := 1, cells := 0, slots := 0, locals := 22 })).room s m ([.ref h0] : List Value).toArray below meth c H locs (0) (0) (MQ below (va_Qi (fun (r : Int32) (u9 : va_W) => r = 0 ∨ r = 1) (gQ1 g [(6, 2), (6, 3)] [] none A ws) A) ([.ref h0] : List Value).toArray s (0) (0) A) (F0 m 26 ls []) := by
      intro n9
      induction n9 using Nat.strongRecOn with
      | ind n9 ih_26 =>
        intro v1_4 H locs ls hm9 iv_5 hP hD hS hl
        subst hm9
        refine lv_iload_n hx hb dX7_flagsHold_26 rfl (lv_at hl 1 rfl) ?_
        refine lv_aload_n hx hb dX7_flagsHold_27 rfl (lv_at hl 0 rfl) ?_
        refine va_get (D := gD g) (ci := 6) (v := .int c7_1) (C := RX7) (T := TX7) (N := 17) hx hb hts inX7 hown hK hP k_1 hk_1 rfl 7 (by decide) (hts _ kw_1287) (fun _ h9 => h9) rfl dX7_flagsHold_28 ?_
        refine lv_aload_n hx hb dX7_flagsHold_31 rfl (lv_at hl 0 rfl) ?_
        refine va_get (D := gD g) (ci := 6) (v := .int c8_1) (C := RX7) (T := TX7) (N := 17) hx hb hts inX7 hown hK hP k_1 hk_1 rfl 8 (by decide) (hts _ kw_1285) (fun _ h9 => h9) rfl dX7_flagsHold_32 ?_
        refine lv_iadd hx hb dX7_flagsHold_35 ?_
        refine lv_topi (fun z_8 ez_8 => ?_)
        refine lv_icmp_ge (tgt := 71) hx hb dX7_flagsHold_36 (by decide) (fun c_9 => ?_) (fun c_9 => ?_)
        · refine lv_iconst (v := 1) hx hb dX7_flagsHold_71 (by decide) ?_
          refine W.widen (k := 0) (n := 0) (Nat.le_of_ble_eq_true rfl) (Nat.le_of_ble_eq_true rfl) ?_
          exact W.zret (v := 1) hx hb hr (nz (Or.inr rfl)) (fun t9 ht9 hW9 => ⟨⟨_, ws, rfl, (Or.inr rfl), ⟨gE.rf, gF.rf, hG, by rw [ht9]; exact hP, hD⟩⟩, hS.F ht9⟩) hS.2.2 dX7_flagsHold_72
        · refine lv_aload_n hx hb dX7_flagsHold_39 rfl (lv_at hl 0 rfl) ?_
          refine lv_aload_n hx hb dX7_flagsHold_40 rfl (lv_at hl 0 rfl) ?_
          refine lv_iload_n hx hb dX7_flagsHold_41 rfl (lv_at hl 1 rfl) ?_
          have hFc := gfree hD hS hA
          refine va_calli (va_runV (As := [.int v1_4]) (rest := [.ref h0]) ⟨hx, hb, hml, hown, hts⟩ (m_X7_memberPlace l g H.size ws h0 (v1_4) hG o_h0) (cwV 1 hts (gd_V kw_1288 kw_1394 kw_1395 kw_710 kw_1393) rfl rfl rfl (by decide +kernel) ⟨Nat.le_of_ble_eq_true rfl, Nat.le_of_ble_eq_true rfl⟩) ⟨gblind, va_recv hK hP (ci := 6) (q0 := k_1) rfl hk_1, fun U hU hW9 => gmk hU hW9 hP hK hD hex hE hS hFc⟩ rfl rfl hl.1 rfl (lv_room (Nat.le_of_ble_eq_true rfl)) dX7_flagsHold_42 ⟨Nat.le_of_ble_eq_true rfl, Nat.le_of_ble_eq_true rfl⟩) hS (fun q _ h => hFc q h) hFc (fun r_10 u9 t9 H1 locs ht9 hvm9 hw9 hB9 hz9 hk9 hS => ?_)
          have hP : va_P (gD g) cl0 ws H1 := by rw [← ht9]; exact hB9.1
          clear hB9 hz9 hk9 hvm9 ht9 hw9
          generalize H1 = H at hP hS ⊢
          have hFc := gfree hD hS hA
          refine va_calli (va_runV (As := [.int r_10]) (rest := []) ⟨hx, hb, hml, hown, hts⟩ (m_X7_u2 l g H.size ws h0 (r_10) hG o_h0) (cwV 1 hts (gd_V kw_1266 kw_1450 kw_1451 kw_710 kw_1449) rfl rfl rfl (by decide +kernel) ⟨Nat.le_of_ble_eq_true rfl, Nat.le_of_ble_eq_true rfl⟩) ⟨gblind, va_recv hK hP (ci := 6) (q0 := k_1) rfl hk_1, fun U hU hW9 => gmk hU hW9 hP hK hD hex hE hS hFc⟩ rfl rfl hl.1 rfl (lv_room (Nat.le_of_ble_eq_true rfl)) dX7_flagsHold_45 ⟨Nat.le_of_ble_eq_true rfl, Nat.le_of_ble_eq_true rfl⟩) hS (fun q _ h => hFc q h) hFc (fun r_11 u9 t9 H1 locs ht9 hvm9 hw9 hB9 hz9 hk9 hS => ?_)
          have hP : va_P (gD g) cl0 ws H1 := by rw [← ht9]; exact hB9.1
          have h_r_11 := hw9
          clear hB9 hz9 hk9 hvm9 ht9 hw9
          generalize H1 = H at hP hS ⊢
          refine lv_bipush (v := 9) hx hb dX7_flagsHold_48 (by decide) ?_
          refine lv_icmp_eq (tgt := 65) hx hb dX7_flagsHold_50 (by decide) (fun c_12 => ?_) (fun c_12 => ?_)
          · obtain ⟨z_13, ez_13⟩ : ∃ z : Int32, v1_4 + Int32.ofInt 1 = z := ⟨_, rfl⟩
            refine lv_iinc (v := z_13) (lv' := [(1, .int z_13), (0, .ref h0)]) hx hb dX7_flagsHold_65 hl (k := 1) rfl ez_13 (by decide) rfl (fun ls hl => ?_)
            refine lv_goto (tgt := 26) hx hb dX7_flagsHold_68 (by decide) ?_
            exact ih_26 _ (by obtain ⟨u_z_13, q_z_13⟩ := i_iz ez_13 (by decide) (by decide); have q_iv_5 := iv_5; have q_c_9 := i_nle c_9; have g_v1_4 := i_rg v1_4; have g_z_13 := i_rg z_13; have g_z_8 := i_rg z_8; omega) (z_13) H locs ls rfl (by obtain ⟨u_z_13, q_z_13⟩ := i_iz ez_13 (by decide) (by decide); have q_iv_5 := iv_5; have q_c_9 := i_nle c_9; have g_v1_4 := i_rg v1_4; have g_z_13 := i_rg z_13; have g_z_8 := i_rg z_8; omega) hP hD hS (lv_sub hl [1, 0] rfl)
          · refine lv_aload_n hx hb dX7_flagsHold_53 rfl (lv_at hl 0 rfl) ?_
            refine lv_bipush (v := 7) hx hb dX7_flagsHold_54 (by decide) ?_
            refine lv_aload_n hx hb dX7_flagsHold_56 rfl (lv_at hl 0 rfl) ?_
            refine lv_iload_n hx hb dX7_flagsHold_57 rfl (lv_at hl 1 rfl) ?_
            have hFc := gfree hD hS hA
            refine va_calli (va_runV (As := [.int v1_4]) (rest := [.int 7, .ref h0]) ⟨hx, hb, hml, hown, hts⟩ (m_X7_memberPlace l g H.size ws h0 (v1_4) hG o_h0) (cwV 1 hts (gd_V kw_1288 kw_1394 kw_1395 kw_710 kw_1393) rfl rfl rfl (by decide +kernel) ⟨Nat.le_of_ble_eq_true rfl, Nat.le_of_ble_eq_true rfl⟩) ⟨gblind, va_recv hK hP (ci := 6) (q0 := k_1) rfl hk_1, fun U hU hW9 => gmk hU hW9 hP hK hD hex hE hS hFc⟩ rfl rfl hl.1 rfl (lv_room (Nat.le_of_ble_eq_true rfl)) dX7_flagsHold_58 ⟨Nat.le_of_ble_eq_true rfl, Nat.le_of_ble_eq_true rfl⟩) hS (fun q _ h => hFc q h) hFc (fun r_14 u9 t9 H1 locs ht9 hvm9 hw9 hB9 hz9 hk9 hS => ?_)
            have hP : va_P (gD g) cl0 ws H1 := by rw [← ht9]; exact hB9.1
            clear hB9 hz9 hk9 hvm9 ht9 hw9
            generalize H1 = H at hP hS ⊢
            have hFc := gfree hD hS hA
            refine va_calli (va_runV (As := [.int 7, .int r_14]) (rest := []) ⟨hx, hb, hml, hown, hts⟩ (m_X7_breaks l g H.size ws h0 (7) (r_14) hG o_h0) (cwV 2 hts (gd_V kw_1276 kw_1278 kw_1279 kw_710 kw_1277) rfl rfl rfl (by decide +kernel) ⟨Nat.le_of_ble_eq_true rfl, Nat.le_of_ble_eq_true rfl⟩) ⟨gblind, va_recv hK hP (ci := 6) (q0 := k_1) rfl hk_1, fun U hU hW9 => gmk hU hW9 hP hK hD hex hE hS hFc⟩ rfl rfl hl.1 rfl (lv_room (Nat.le_of_ble_eq_true rfl)) dX7_flagsHold_61 ⟨Nat.le_of_ble_eq_true rfl, Nat.le_of_ble_eq_true rfl⟩) hS (fun q _ h => hFc q h) hFc (fun r_15 ws_16 t9 H1 locs ht9 hvm9 hw9 hB9 hz9 hk9 hS => ?_)
            obtain ⟨E_17, Fr_18, hG, hP1, hD1⟩ := hB9
            have hP : va_P (gD g) cl0 ws_16 H1 := by rw [← ht9]; exact hP1
            have hD : va_D A ws_16 := hD1.weaken (fun _ _ _ h => hFc _ h)
            have hz_r_15 : r_15 = 0 ∨ r_15 = 1 := hw9
            clear hP1 hD1 hz9 hk9 hvm9 ht9 hw9
            generalize H1 = H at hP hS ⊢
            have aa_21 := a_r0_1
            have aa_22 := a_r4_1
            have aa_23 := a_r9_1
            have aa_24 := a_r10_1
            have aa_25 := a_r11_1
            have o_h0 := E_17.1 _ _ o_h0
            refine W.widen (k := 0) (n := 0) (Nat.le_of_ble_eq_true rfl) (Nat.le_of_ble_eq_true rfl) ?_
            exact W.zret (v := r_15) hx hb hr (nz hz_r_15) (fun t9 ht9 hW9 => ⟨⟨_, ws_16, rfl, hz_r_15, ⟨E_17, Fr_18, hG, by rw [ht9]; exact hP, hD⟩⟩, hS.F ht9⟩) hS.2.2 dX7_flagsHold_64
    exact J_26 _ (0) H locs ls rfl (by have e0 : (0 : Int32).toInt = 0 := (by decide); omega) hP hD hS (lv_sub hl [1, 0] rfl)
  · refine lv_aload_n hx hb dX7_flagsHold_13 rfl (lv_at hl 0 rfl) ?_
    refine lv_bipush (v := 7) hx hb dX7_flagsHold_14 (by decide) ?_
    refine lv_aload_n hx hb dX7_flagsHold_16 rfl (lv_at hl 0 rfl) ?_
    refine va_get (D := gD g) (ci := 6) (v := .int c6_1) (C := RX7) (T := TX7) (N := 17) hx hb hts inX7 hown hK hP k_1 hk_1 rfl 6 (by decide) (hts _ kw_1331) (fun _ h9 => h9) rfl dX7_flagsHold_17 ?_
    have hFc := gfree hD hS hA
    refine va_calli (va_runV (As := [.int 7, .int c6_1]) (rest := []) ⟨hx, hb, hml, hown, hts⟩ (m_X7_breaks l g H.size ws h0 (7) (c6_1) hG o_h0) (cwV 2 hts (gd_V kw_1276 kw_1278 kw_1279 kw_710 kw_1277) rfl rfl rfl (by decide +kernel) ⟨Nat.le_of_ble_eq_true rfl, Nat.le_of_ble_eq_true rfl⟩) ⟨gblind, va_recv hK hP (ci := 6) (q0 := k_1) rfl hk_1, fun U hU hW9 => gmk hU hW9 hP hK hD hex hE hS hFc⟩ rfl rfl hl.1 rfl (lv_room (Nat.le_of_ble_eq_true rfl)) dX7_flagsHold_20 ⟨Nat.le_of_ble_eq_true rfl, Nat.le_of_ble_eq_true rfl⟩) hS (fun q _ h => hFc q h) hFc (fun r_26 ws_27 t9 H1 locs ht9 hvm9 hw9 hB9 hz9 hk9 hS => ?_)
    obtain ⟨E_28, Fr_29, hG, hP1, hD1⟩ := hB9
    have hP : va_P (gD g) cl0 ws_27 H1 := by rw [← ht9]; exact hP1
    have hD : va_D A ws_27 := hD1.weaken (fun _ _ _ h => hFc _ h)
    have hz_r_26 : r_26 = 0 ∨ r_26 = 1 := hw9
    clear hP1 hD1 hz9 hk9 hvm9 ht9 hw9
    generalize H1 = H at hP hS ⊢
    have aa_32 := a_r0_1
    have aa_33 := a_r4_1
    have aa_34 := a_r9_1
    have aa_35 := a_r10_1
    have aa_36 := a_r11_1
    have o_h0 := E_28.1 _ _ o_h0
    refine W.widen (k := 0) (n := 0) (Nat.le_of_ble_eq_true rfl) (Nat.le_of_ble_eq_true rfl) ?_
    exact W.zret (v := r_26) hx hb hr (nz hz_r_26) (fun t9 ht9 hW9 => ⟨⟨_, ws_27, rfl, hz_r_26, ⟨E_28, Fr_29, hG, by rw [ht9]; exact hP, hD⟩⟩, hS.F ht9⟩) hS.2.2 dX7_flagsHold_23
set_option maxHeartbeats 1000000 in
set_option maxRecDepth 100000 in
theorem m_X7_headHolds (l : Launch) (g : Gm) (sz : Nat) (ws : va_W) (h0 : Nat) (hG : Good g ws) (o_h0 : gC ws h0 6) : Met l yX7_headHolds (wt yX7_headHolds cX7_headHolds 1 (some .boolean)) ({ frames := 2, cells := 0, slots := 0, locals := 42 }) (va_Pc [.ref h0] (st_G g sz ws)) (va_Qi (fun (r : Int32) (u9 : va_W) => r = 0 ∨ r = 1) (gQ1 g [(6, 2), (6, 3)] [] none (va_A ws sz) ws) (va_A ws sz)) (0) (0) (va_A ws sz) := by
  refine Met.ofW (cc := cX7_headHolds) (maxL := 1) (ret := (some .boolean)) (by decide) rfl ?_
  intro p e s m args below meth c s₁ B hml hv
  obtain ⟨rfl, hsz, hP, hK, hD0, hex, hE⟩ := hv
  have hx := B.exec
  have hb := B.bytes
  have hr := B.returns
  have hts0 := atoms_spec (ws := wt yX7_headHolds cX7_headHolds 1 (some .boolean)) B.pre
  have hts : ∀ w ∈ tb, w.before _ s = true := fun w h => hts0 w (List.mem_cons_of_mem _ h)
  have hown : s.vm.findClass RX7 = some m.cls := findClass_of_methodNamed B.named
  subst hsz
  have hD := hD0.self (sz := s.heap.size)
  generalize hAe : va_A ws s.heap.size = A at hD hE ⊢
  have hA : ∀ q : Nat, s.heap.size ≤ q → A q := fun q h => by rw [← hAe]; exact Or.inr h
  have hS : va_S A s.heap s.heap [] := va_S.rf
  have hl := lv_entry ([.ref h0]) (n := 1) (Nat.le_of_ble_eq_true rfl)
  rw [lg_entry_eq]
  generalize (lg_sl ([.ref h0]) ++ List.replicate (1 - (lg_sl ([.ref h0])).length) Slot.unset).toArray = ls at hl ⊢
  have hl : lv_has ls 1 [(0, .ref h0)] := hl
  refine lv_aload_n hx hb dX7_headHolds_0 rfl (lv_at hl 0 rfl) ?_
  refine lv_aload_n hx hb dX7_headHolds_1 rfl (lv_at hl 0 rfl) ?_
  refine lv_aload_n hx hb dX7_headHolds_2 rfl (lv_at hl 0 rfl) ?_
  obtain ⟨k_1, fs9, hk_1⟩ := gC_of o_h0
  obtain ⟨r0_1, n0_1, c1_1, c2_1, c3_1, r4_1, n4_1, c5_1, c6_1, c7_1, c8_1, r9_1, n9_1, r10_1, n10_1, r11_1, n11_1, c12_1, c13_1, c14_1, c15_1, c16_1, rfl, a_r0_1, f1_1, a_r4_1, f3_1, a_r9_1, f5_1, a_r10_1, f7_1, a_r11_1, f9_1, f10_1, f11_1, f12_1, f13_1, f14_1, -⟩ := (hG.1 _ _ _ _ hk_1).hX7 rfl
  refine va_get (D := gD g) (ci := 6) (v := .int c6_1) (C := RX7) (T := TX7) (N := 17) hx hb hts inX7 hown hK hP k_1 hk_1 rfl 6 (by decide) (hts _ kw_1331) (fun _ h9 => h9) rfl dX7_headHolds_3 ?_
  refine lv_iconst (v := 2) hx hb dX7_headHolds_6 (by decide) ?_
  refine lv_iadd hx hb dX7_headHolds_7 ?_
  refine lv_topi (fun z_2 ez_2 => ?_)
  have hFc := gfree hD hS hA
  refine va_calli (va_runV (As := [.int z_2]) (rest := [.ref h0]) ⟨hx, hb, hml, hown, hts⟩ (m_X7_u2 l g s.heap.size ws h0 (z_2) hG o_h0) (cwV 1 hts (gd_V kw_1266 kw_1450 kw_1451 kw_710 kw_1449) rfl rfl rfl (by decide +kernel) ⟨Nat.le_of_ble_eq_true rfl, Nat.le_of_ble_eq_true rfl⟩) ⟨gblind, va_recv hK hP (ci := 6) (q0 := k_1) rfl hk_1, fun U hU hW9 => gmk hU hW9 hP hK hD hex hE hS hFc⟩ rfl rfl hl.1 rfl (lv_room (Nat.le_of_ble_eq_true rfl)) dX7_headHolds_8 ⟨Nat.le_of_ble_eq_true rfl, Nat.le_of_ble_eq_true rfl⟩) hS (fun q _ h => hFc q h) hFc (fun r_3 u9 t9 H1 locs ht9 hvm9 hw9 hB9 hz9 hk9 hS => ?_)
  have hP : va_P (gD g) cl0 ws H1 := by rw [← ht9]; exact hB9.1
  have h_r_3 := hw9
  clear hB9 hz9 hk9 hvm9 ht9 hw9
  generalize H1 = H at hP hS ⊢
  have hFc := gfree hD hS hA
  refine va_calli (va_runV (As := [.int r_3]) (rest := []) ⟨hx, hb, hml, hown, hts⟩ (m_X7_tagOf l g H.size ws h0 (r_3) hG o_h0) (cwV 1 hts (gd_V kw_1313 kw_1435 kw_1436 kw_710 kw_1434) rfl rfl rfl (by decide +kernel) ⟨Nat.le_of_ble_eq_true rfl, Nat.le_of_ble_eq_true rfl⟩) ⟨gblind, va_recv hK hP (ci := 6) (q0 := k_1) rfl hk_1, fun U hU hW9 => gmk hU hW9 hP hK hD hex hE hS hFc⟩ rfl rfl hl.1 rfl (lv_room (Nat.le_of_ble_eq_true rfl)) dX7_headHolds_11 ⟨Nat.le_of_ble_eq_true rfl, Nat.le_of_ble_eq_true rfl⟩) hS (fun q _ h => hFc q h) hFc (fun r_4 u9 t9 H1 locs ht9 hvm9 hw9 hB9 hz9 hk9 hS => ?_)
  have hP : va_P (gD g) cl0 ws H1 := by rw [← ht9]; exact hB9.1
  clear hB9 hz9 hk9 hvm9 ht9 hw9
  generalize H1 = H at hP hS ⊢
  refine lv_bipush (v := 7) hx hb dX7_headHolds_14 (by decide) ?_
  refine lv_icmp_eq (tgt := 32) hx hb dX7_headHolds_16 (by decide) (fun c_5 => ?_) (fun c_5 => ?_)
  · refine lv_aload_n hx hb dX7_headHolds_32 rfl (lv_at hl 0 rfl) ?_
    refine lv_aload_n hx hb dX7_headHolds_33 rfl (lv_at hl 0 rfl) ?_
    refine lv_aload_n hx hb dX7_headHolds_34 rfl (lv_at hl 0 rfl) ?_
    refine va_get (D := gD g) (ci := 6) (v := .int c6_1) (C := RX7) (T := TX7) (N := 17) hx hb hts inX7 hown hK hP k_1 hk_1 rfl 6 (by decide) (hts _ kw_1331) (fun _ h9 => h9) rfl dX7_headHolds_35 ?_
    refine lv_iconst (v := 4) hx hb dX7_headHolds_38 (by decide) ?_
    refine lv_iadd hx hb dX7_headHolds_39 ?_
    refine lv_topi (fun z_6 ez_6 => ?_)
    have hFc := gfree hD hS hA
    refine va_calli (va_runV (As := [.int z_6]) (rest := [.ref h0]) ⟨hx, hb, hml, hown, hts⟩ (m_X7_u2 l g H.size ws h0 (z_6) hG o_h0) (cwV 1 hts (gd_V kw_1266 kw_1450 kw_1451 kw_710 kw_1449) rfl rfl rfl (by decide +kernel) ⟨Nat.le_of_ble_eq_true rfl, Nat.le_of_ble_eq_true rfl⟩) ⟨gblind, va_recv hK hP (ci := 6) (q0 := k_1) rfl hk_1, fun U hU hW9 => gmk hU hW9 hP hK hD hex hE hS hFc⟩ rfl rfl hl.1 rfl (lv_room (Nat.le_of_ble_eq_true rfl)) dX7_headHolds_40 ⟨Nat.le_of_ble_eq_true rfl, Nat.le_of_ble_eq_true rfl⟩) hS (fun q _ h => hFc q h) hFc (fun r_7 u9 t9 H1 locs ht9 hvm9 hw9 hB9 hz9 hk9 hS => ?_)
    have hP : va_P (gD g) cl0 ws H1 := by rw [← ht9]; exact hB9.1
    have h_r_7 := hw9
    clear hB9 hz9 hk9 hvm9 ht9 hw9
    generalize H1 = H at hP hS ⊢
    have hFc := gfree hD hS hA
    refine va_calli (va_runV (As := [.int r_7]) (rest := []) ⟨hx, hb, hml, hown, hts⟩ (m_X7_tagOf l g H.size ws h0 (r_7) hG o_h0) (cwV 1 hts (gd_V kw_1313 kw_1435 kw_1436 kw_710 kw_1434) rfl rfl rfl (by decide +kernel) ⟨Nat.le_of_ble_eq_true rfl, Nat.le_of_ble_eq_true rfl⟩) ⟨gblind, va_recv hK hP (ci := 6) (q0 := k_1) rfl hk_1, fun U hU hW9 => gmk hU hW9 hP hK hD hex hE hS hFc⟩ rfl rfl hl.1 rfl (lv_room (Nat.le_of_ble_eq_true rfl)) dX7_headHolds_43 ⟨Nat.le_of_ble_eq_true rfl, Nat.le_of_ble_eq_true rfl⟩) hS (fun q _ h => hFc q h) hFc (fun r_8 u9 t9 H1 locs ht9 hvm9 hw9 hB9 hz9 hk9 hS => ?_)
    have hP : va_P (gD g) cl0 ws H1 := by rw [← ht9]; exact hB9.1
    clear hB9 hz9 hk9 hvm9 ht9 hw9
    generalize H1 = H at hP hS ⊢
    refine lv_bipush (v := 7) hx hb dX7_headHolds_46 (by decide) ?_
    refine lv_icmp_eq (tgt := 64) hx hb dX7_headHolds_48 (by decide) (fun c_9 => ?_) (fun c_9 => ?_)
    · refine lv_aload_n hx hb dX7_headHolds_64 rfl (lv_at hl 0 rfl) ?_
      refine lv_aload_n hx hb dX7_headHolds_65 rfl (lv_at hl 0 rfl) ?_
      refine va_get (D := gD g) (ci := 6) (v := .int c6_1) (C := RX7) (T := TX7) (N := 17) hx hb hts inX7 hown hK hP k_1 hk_1 rfl 6 (by decide) (hts _ kw_1331) (fun _ h9 => h9) rfl dX7_headHolds_66 ?_
      refine lv_bipush (v := 6) hx hb dX7_headHolds_69 (by decide) ?_
      refine lv_iadd hx hb dX7_headHolds_71 ?_
      refine lv_topi (fun z_10 ez_10 => ?_)
      have hFc := gfree hD hS hA
      refine va_calli (va_runV (As := [.int z_10]) (rest := []) ⟨hx, hb, hml, hown, hts⟩ (m_X7_u2 l g H.size ws h0 (z_10) hG o_h0) (cwV 1 hts (gd_V kw_1266 kw_1450 kw_1451 kw_710 kw_1449) rfl rfl rfl (by decide +kernel) ⟨Nat.le_of_ble_eq_true rfl, Nat.le_of_ble_eq_true rfl⟩) ⟨gblind, va_recv hK hP (ci := 6) (q0 := k_1) rfl hk_1, fun U hU hW9 => gmk hU hW9 hP hK hD hex hE hS hFc⟩ rfl rfl hl.1 rfl (lv_room (Nat.le_of_ble_eq_true rfl)) dX7_headHolds_72 ⟨Nat.le_of_ble_eq_true rfl, Nat.le_of_ble_eq_true rfl⟩) hS (fun q _ h => hFc q h) hFc (fun r_11 u9 t9 H1 locs ht9 hvm9 hw9 hB9 hz9 hk9 hS => ?_)
      have hP : va_P (gD g) cl0 ws H1 := by rw [← ht9]; exact hB9.1
      have h_r_11 := hw9
      clear hB9 hz9 hk9 hvm9 ht9 hw9
      generalize H1 = H at hP hS ⊢
      have J_99 : ∀ (t_12 : Int32) (ws_14 : va_W) (H : Heap) (locs : List Loc) (ls : Array Slot), t_12 = 0 ∨ t_12 = 1 → gE ws ws_14 → gF [(6, 2), (6, 3)] [] none ws ws_14 → Good g ws_14 → va_P (gD g) cl0 ws_14 H → va_D A ws_14 → va_S A s.heap H locs → lv_has ls 1 [] → W p l e (headSpec (wt yX7_headHolds cX7_headHolds 1 (some .boolean)) ({ frames := 2, cells := 0, slots := 0, locals := 42 })).room s m ([.ref h0] : List Value).toArray below meth c H locs (0) (0) (MQ below (va_Qi (fun (r : Int32) (u9 : va_W) => r = 0 ∨ r = 1) (gQ1 g [(6, 2), (6, 3)] [] none A ws) A) ([.ref h0] : List Value).toArray s (0) (0) A) (F0 m 99 ls [.int t_12]) := by
        intro t_12 ws_14 H locs ls iv_13 E_15 Fr_16 hG hP hD hS hl
        have hz_t_12 := iv_13
        have aa_17 := a_r0_1
        have aa_18 := a_r4_1
        have aa_19 := a_r9_1
        have aa_20 := a_r10_1
        have aa_21 := a_r11_1
        have o_h0 := E_15.1 _ _ o_h0
        refine W.widen (k := 0) (n := 0) (Nat.le_of_ble_eq_true rfl) (Nat.le_of_ble_eq_true rfl) ?_
        exact W.zret (v := t_12) hx hb hr (nz hz_t_12) (fun t9 ht9 hW9 => ⟨⟨_, ws_14, rfl, hz_t_12, ⟨E_15, Fr_16, hG, by rw [ht9]; exact hP, hD⟩⟩, hS.F ht9⟩) hS.2.2 dX7_headHolds_99
      have J_94 : ∀ (ws_22 : va_W) (H : Heap) (locs : List Loc) (ls : Array Slot), gE ws ws_22 → gF [(6, 2), (6, 3)] [] none ws ws_22 → Good g ws_22 → va_P (gD g) cl0 ws_22 H → va_D A ws_22 → va_S A s.heap H locs → lv_has ls 1 [] → W p l e (headSpec (wt yX7_headHolds cX7_headHolds 1 (some .boolean)) ({ frames := 2, cells := 0, slots := 0, locals := 42 })).room s m ([.ref h0] : List Value).toArray below meth c H locs (0) (0) (MQ below (va_Qi (fun (r : Int32) (u9 : va_W) => r = 0 ∨ r = 1) (gQ1 g [(6, 2), (6, 3)] [] none A ws) A) ([.ref h0] : List Value).toArray s (0) (0) A) (F0 m 94 ls []) := by
        intro ws_22 H locs ls  E_23 Fr_24 hG hP hD hS hl
        have aa_25 := a_r0_1
        have aa_26 := a_r4_1
        have aa_27 := a_r9_1
        have aa_28 := a_r10_1
        have aa_29 := a_r11_1
        have o_h0 := E_23.1 _ _ o_h0
        refine lv_iconst (v := 1) hx hb dX7_headHolds_94 (by decide) ?_
        refine lv_goto (tgt := 99) hx hb dX7_headHolds_95 (by decide) ?_
        exact J_99 (1) ws_22 H locs ls (Or.inr rfl) (E_23) (Fr_24) hG hP hD hS (lv_sub hl [] rfl)
      refine lv_if_eq (tgt := 94) hx hb dX7_headHolds_75 (by decide) (fun c_30 => ?_) (fun c_30 => ?_)
      · exact J_94 ws H locs ls (gE.rf) (gF.rf) hG hP hD hS (lv_sub hl [] rfl)
      · refine lv_aload_n hx hb dX7_headHolds_78 rfl (lv_at hl 0 rfl) ?_
        refine lv_bipush (v := 8) hx hb dX7_headHolds_79 (by decide) ?_
        refine lv_aload_n hx hb dX7_headHolds_81 rfl (lv_at hl 0 rfl) ?_
        refine va_get (D := gD g) (ci := 6) (v := .int c6_1) (C := RX7) (T := TX7) (N := 17) hx hb hts inX7 hown hK hP k_1 hk_1 rfl 6 (by decide) (hts _ kw_1331) (fun _ h9 => h9) rfl dX7_headHolds_82 ?_
        refine lv_bipush (v := 6) hx hb dX7_headHolds_85 (by decide) ?_
        refine lv_iadd hx hb dX7_headHolds_87 ?_
        refine lv_topi (fun z_31 ez_31 => ?_)
        have hFc := gfree hD hS hA
        refine va_calli (va_runV (As := [.int 8, .int z_31]) (rest := []) ⟨hx, hb, hml, hown, hts⟩ (m_X7_breaks l g H.size ws h0 (8) (z_31) hG o_h0) (cwV 2 hts (gd_V kw_1276 kw_1278 kw_1279 kw_710 kw_1277) rfl rfl rfl (by decide +kernel) ⟨Nat.le_of_ble_eq_true rfl, Nat.le_of_ble_eq_true rfl⟩) ⟨gblind, va_recv hK hP (ci := 6) (q0 := k_1) rfl hk_1, fun U hU hW9 => gmk hU hW9 hP hK hD hex hE hS hFc⟩ rfl rfl hl.1 rfl (lv_room (Nat.le_of_ble_eq_true rfl)) dX7_headHolds_88 ⟨Nat.le_of_ble_eq_true rfl, Nat.le_of_ble_eq_true rfl⟩) hS (fun q _ h => hFc q h) hFc (fun r_32 ws_33 t9 H1 locs ht9 hvm9 hw9 hB9 hz9 hk9 hS => ?_)
        obtain ⟨E_34, Fr_35, hG, hP1, hD1⟩ := hB9
        have hP : va_P (gD g) cl0 ws_33 H1 := by rw [← ht9]; exact hP1
        have hD : va_D A ws_33 := hD1.weaken (fun _ _ _ h => hFc _ h)
        have hz_r_32 : r_32 = 0 ∨ r_32 = 1 := hw9
        clear hP1 hD1 hz9 hk9 hvm9 ht9 hw9
        generalize H1 = H at hP hS ⊢
        have aa_38 := a_r0_1
        have aa_39 := a_r4_1
        have aa_40 := a_r9_1
        have aa_41 := a_r10_1
        have aa_42 := a_r11_1
        have o_h0 := E_34.1 _ _ o_h0
        refine lv_if_eq (tgt := 98) hx hb dX7_headHolds_91 (by decide) (fun c_43 => ?_) (fun c_43 => ?_)
        · refine lv_iconst (v := 0) hx hb dX7_headHolds_98 (by decide) ?_
          exact J_99 (0) ws_33 H locs ls (Or.inl rfl) (E_34) (Fr_35) hG hP hD hS (lv_sub hl [] rfl)
        · exact J_94 ws_33 H locs ls (E_34) (Fr_35) hG hP hD hS (lv_sub hl [] rfl)
    · refine lv_aload_n hx hb dX7_headHolds_51 rfl (lv_at hl 0 rfl) ?_
      refine lv_bipush (v := 8) hx hb dX7_headHolds_52 (by decide) ?_
      refine lv_aload_n hx hb dX7_headHolds_54 rfl (lv_at hl 0 rfl) ?_
      refine va_get (D := gD g) (ci := 6) (v := .int c6_1) (C := RX7) (T := TX7) (N := 17) hx hb hts inX7 hown hK hP k_1 hk_1 rfl 6 (by decide) (hts _ kw_1331) (fun _ h9 => h9) rfl dX7_headHolds_55 ?_
      refine lv_iconst (v := 4) hx hb dX7_headHolds_58 (by decide) ?_
      refine lv_iadd hx hb dX7_headHolds_59 ?_
      refine lv_topi (fun z_44 ez_44 => ?_)
      have hFc := gfree hD hS hA
      refine va_calli (va_runV (As := [.int 8, .int z_44]) (rest := []) ⟨hx, hb, hml, hown, hts⟩ (m_X7_breaks l g H.size ws h0 (8) (z_44) hG o_h0) (cwV 2 hts (gd_V kw_1276 kw_1278 kw_1279 kw_710 kw_1277) rfl rfl rfl (by decide +kernel) ⟨Nat.le_of_ble_eq_true rfl, Nat.le_of_ble_eq_true rfl⟩) ⟨gblind, va_recv hK hP (ci := 6) (q0 := k_1) rfl hk_1, fun U hU hW9 => gmk hU hW9 hP hK hD hex hE hS hFc⟩ rfl rfl hl.1 rfl (lv_room (Nat.le_of_ble_eq_true rfl)) dX7_headHolds_60 ⟨Nat.le_of_ble_eq_true rfl, Nat.le_of_ble_eq_true rfl⟩) hS (fun q _ h => hFc q h) hFc (fun r_45 ws_46 t9 H1 locs ht9 hvm9 hw9 hB9 hz9 hk9 hS => ?_)
      obtain ⟨E_47, Fr_48, hG, hP1, hD1⟩ := hB9
      have hP : va_P (gD g) cl0 ws_46 H1 := by rw [← ht9]; exact hP1
      have hD : va_D A ws_46 := hD1.weaken (fun _ _ _ h => hFc _ h)
      have hz_r_45 : r_45 = 0 ∨ r_45 = 1 := hw9
      clear hP1 hD1 hz9 hk9 hvm9 ht9 hw9
      generalize H1 = H at hP hS ⊢
      have aa_51 := a_r0_1
      have aa_52 := a_r4_1
      have aa_53 := a_r9_1
      have aa_54 := a_r10_1
      have aa_55 := a_r11_1
      have o_h0 := E_47.1 _ _ o_h0
      refine W.widen (k := 0) (n := 0) (Nat.le_of_ble_eq_true rfl) (Nat.le_of_ble_eq_true rfl) ?_
      exact W.zret (v := r_45) hx hb hr (nz hz_r_45) (fun t9 ht9 hW9 => ⟨⟨_, ws_46, rfl, hz_r_45, ⟨E_47, Fr_48, hG, by rw [ht9]; exact hP, hD⟩⟩, hS.F ht9⟩) hS.2.2 dX7_headHolds_63
  · refine lv_aload_n hx hb dX7_headHolds_19 rfl (lv_at hl 0 rfl) ?_
    refine lv_bipush (v := 8) hx hb dX7_headHolds_20 (by decide) ?_
    refine lv_aload_n hx hb dX7_headHolds_22 rfl (lv_at hl 0 rfl) ?_
    refine va_get (D := gD g) (ci := 6) (v := .int c6_1) (C := RX7) (T := TX7) (N := 17) hx hb hts inX7 hown hK hP k_1 hk_1 rfl 6 (by decide) (hts _ kw_1331) (fun _ h9 => h9) rfl dX7_headHolds_23 ?_
    refine lv_iconst (v := 2) hx hb dX7_headHolds_26 (by decide) ?_
    refine lv_iadd hx hb dX7_headHolds_27 ?_
    refine lv_topi (fun z_56 ez_56 => ?_)
    have hFc := gfree hD hS hA
    refine va_calli (va_runV (As := [.int 8, .int z_56]) (rest := []) ⟨hx, hb, hml, hown, hts⟩ (m_X7_breaks l g H.size ws h0 (8) (z_56) hG o_h0) (cwV 2 hts (gd_V kw_1276 kw_1278 kw_1279 kw_710 kw_1277) rfl rfl rfl (by decide +kernel) ⟨Nat.le_of_ble_eq_true rfl, Nat.le_of_ble_eq_true rfl⟩) ⟨gblind, va_recv hK hP (ci := 6) (q0 := k_1) rfl hk_1, fun U hU hW9 => gmk hU hW9 hP hK hD hex hE hS hFc⟩ rfl rfl hl.1 rfl (lv_room (Nat.le_of_ble_eq_true rfl)) dX7_headHolds_28 ⟨Nat.le_of_ble_eq_true rfl, Nat.le_of_ble_eq_true rfl⟩) hS (fun q _ h => hFc q h) hFc (fun r_57 ws_58 t9 H1 locs ht9 hvm9 hw9 hB9 hz9 hk9 hS => ?_)
    obtain ⟨E_59, Fr_60, hG, hP1, hD1⟩ := hB9
    have hP : va_P (gD g) cl0 ws_58 H1 := by rw [← ht9]; exact hP1
    have hD : va_D A ws_58 := hD1.weaken (fun _ _ _ h => hFc _ h)
    have hz_r_57 : r_57 = 0 ∨ r_57 = 1 := hw9
    clear hP1 hD1 hz9 hk9 hvm9 ht9 hw9
    generalize H1 = H at hP hS ⊢
    have aa_63 := a_r0_1
    have aa_64 := a_r4_1
    have aa_65 := a_r9_1
    have aa_66 := a_r10_1
    have aa_67 := a_r11_1
    have o_h0 := E_59.1 _ _ o_h0
    refine W.widen (k := 0) (n := 0) (Nat.le_of_ble_eq_true rfl) (Nat.le_of_ble_eq_true rfl) ?_
    exact W.zret (v := r_57) hx hb hr (nz hz_r_57) (fun t9 ht9 hW9 => ⟨⟨_, ws_58, rfl, hz_r_57, ⟨E_59, Fr_60, hG, by rw [ht9]; exact hP, hD⟩⟩, hS.F ht9⟩) hS.2.2 dX7_headHolds_31
set_option maxHeartbeats 1000000 in
set_option maxRecDepth 100000 in
theorem m_X7_isNameAt (l : Launch) (g : Gm) (sz : Nat) (ws : va_W) (h0 : Nat) (x1 : Int32) (hG : Good g ws) (o_h0 : gC ws h0 6) : Met l yX7_isNameAt (wt yX7_isNameAt cX7_isNameAt 2 (some .boolean)) ({ frames := 2, cells := 0, slots := 0, locals := 42 }) (va_Pc [.ref h0, .int x1] (st_G g sz ws)) (va_Qi (fun (r : Int32) (u9 : va_W) => r = 0 ∨ r = 1) (gQ1 g [(6, 2), (6, 3)] [] none (va_A ws sz) ws) (va_A ws sz)) (0) (0) (va_A ws sz) := by
  refine Met.ofW (cc := cX7_isNameAt) (maxL := 2) (ret := (some .boolean)) (by decide) rfl ?_
  intro p e s m args below meth c s₁ B hml hv
  obtain ⟨rfl, hsz, hP, hK, hD0, hex, hE⟩ := hv
  have hx := B.exec
  have hb := B.bytes
  have hr := B.returns
  have hts0 := atoms_spec (ws := wt yX7_isNameAt cX7_isNameAt 2 (some .boolean)) B.pre
  have hts : ∀ w ∈ tb, w.before _ s = true := fun w h => hts0 w (List.mem_cons_of_mem _ h)
  have hown : s.vm.findClass RX7 = some m.cls := findClass_of_methodNamed B.named
  subst hsz
  have hD := hD0.self (sz := s.heap.size)
  generalize hAe : va_A ws s.heap.size = A at hD hE ⊢
  have hA : ∀ q : Nat, s.heap.size ≤ q → A q := fun q h => by rw [← hAe]; exact Or.inr h
  have hS : va_S A s.heap s.heap [] := va_S.rf
  have hl := lv_entry ([.ref h0, .int x1]) (n := 2) (Nat.le_of_ble_eq_true rfl)
  rw [lg_entry_eq]
  generalize (lg_sl ([.ref h0, .int x1]) ++ List.replicate (2 - (lg_sl ([.ref h0, .int x1])).length) Slot.unset).toArray = ls at hl ⊢
  have hl : lv_has ls 2 [(0, .ref h0), (1, .int x1)] := hl
  refine lv_aload_n hx hb dX7_isNameAt_0 rfl (lv_at hl 0 rfl) ?_
  refine lv_aload_n hx hb dX7_isNameAt_1 rfl (lv_at hl 0 rfl) ?_
  refine lv_iload_n hx hb dX7_isNameAt_2 rfl (lv_at hl 1 rfl) ?_
  have hFc := gfree hD hS hA
  obtain ⟨k_1, fs_1, hk_1⟩ := gC_of o_h0
  refine va_calli (va_runV (As := [.int x1]) (rest := [.ref h0]) ⟨hx, hb, hml, hown, hts⟩ (m_X7_u2 l g s.heap.size ws h0 (x1) hG o_h0) (cwV 1 hts (gd_V kw_1266 kw_1450 kw_1451 kw_710 kw_1449) rfl rfl rfl (by decide +kernel) ⟨Nat.le_of_ble_eq_true rfl, Nat.le_of_ble_eq_true rfl⟩) ⟨gblind, va_recv hK hP (ci := 6) (q0 := k_1) rfl hk_1, fun U hU hW9 => gmk hU hW9 hP hK hD hex hE hS hFc⟩ rfl rfl hl.1 rfl (lv_room (Nat.le_of_ble_eq_true rfl)) dX7_isNameAt_3 ⟨Nat.le_of_ble_eq_true rfl, Nat.le_of_ble_eq_true rfl⟩) hS (fun q _ h => hFc q h) hFc (fun r_2 u9 t9 H1 locs ht9 hvm9 hw9 hB9 hz9 hk9 hS => ?_)
  have hP : va_P (gD g) cl0 ws H1 := by rw [← ht9]; exact hB9.1
  have h_r_2 := hw9
  clear hB9 hz9 hk9 hvm9 ht9 hw9
  generalize H1 = H at hP hS ⊢
  have hFc := gfree hD hS hA
  obtain ⟨k_3, fs_3, hk_3⟩ := gC_of o_h0
  refine va_calli (va_runV (As := [.int r_2]) (rest := []) ⟨hx, hb, hml, hown, hts⟩ (m_X7_tagOf l g H.size ws h0 (r_2) hG o_h0) (cwV 1 hts (gd_V kw_1313 kw_1435 kw_1436 kw_710 kw_1434) rfl rfl rfl (by decide +kernel) ⟨Nat.le_of_ble_eq_true rfl, Nat.le_of_ble_eq_true rfl⟩) ⟨gblind, va_recv hK hP (ci := 6) (q0 := k_3) rfl hk_3, fun U hU hW9 => gmk hU hW9 hP hK hD hex hE hS hFc⟩ rfl rfl hl.1 rfl (lv_room (Nat.le_of_ble_eq_true rfl)) dX7_isNameAt_6 ⟨Nat.le_of_ble_eq_true rfl, Nat.le_of_ble_eq_true rfl⟩) hS (fun q _ h => hFc q h) hFc (fun r_4 u9 t9 H1 locs ht9 hvm9 hw9 hB9 hz9 hk9 hS => ?_)
  have hP : va_P (gD g) cl0 ws H1 := by rw [← ht9]; exact hB9.1
  clear hB9 hz9 hk9 hvm9 ht9 hw9
  generalize H1 = H at hP hS ⊢
  refine lv_iconst (v := 1) hx hb dX7_isNameAt_9 (by decide) ?_
  have J_28 : ∀ (t_5 : Int32) (ws_7 : va_W) (H : Heap) (locs : List Loc) (ls : Array Slot), t_5 = 0 ∨ t_5 = 1 → gE ws ws_7 → gF [(6, 2), (6, 3)] [] none ws ws_7 → Good g ws_7 → va_P (gD g) cl0 ws_7 H → va_D A ws_7 → va_S A s.heap H locs → lv_has ls 2 [] → W p l e (headSpec (wt yX7_isNameAt cX7_isNameAt 2 (some .boolean)) ({ frames := 2, cells := 0, slots := 0, locals := 42 })).room s m ([.ref h0, .int x1] : List Value).toArray below meth c H locs (0) (0) (MQ below (va_Qi (fun (r : Int32) (u9 : va_W) => r = 0 ∨ r = 1) (gQ1 g [(6, 2), (6, 3)] [] none A ws) A) ([.ref h0, .int x1] : List Value).toArray s (0) (0) A) (F0 m 28 ls [.int t_5]) := by
    intro t_5 ws_7 H locs ls iv_6 E_8 Fr_9 hG hP hD hS hl
    have hz_t_5 := iv_6
    have o_h0 := E_8.1 _ _ o_h0
    refine W.widen (k := 0) (n := 0) (Nat.le_of_ble_eq_true rfl) (Nat.le_of_ble_eq_true rfl) ?_
    exact W.zret (v := t_5) hx hb hr (nz hz_t_5) (fun t9 ht9 hW9 => ⟨⟨_, ws_7, rfl, hz_t_5, ⟨E_8, Fr_9, hG, by rw [ht9]; exact hP, hD⟩⟩, hS.F ht9⟩) hS.2.2 dX7_isNameAt_28
  have J_23 : ∀ (ws_10 : va_W) (H : Heap) (locs : List Loc) (ls : Array Slot), gE ws ws_10 → gF [(6, 2), (6, 3)] [] none ws ws_10 → Good g ws_10 → va_P (gD g) cl0 ws_10 H → va_D A ws_10 → va_S A s.heap H locs → lv_has ls 2 [] → W p l e (headSpec (wt yX7_isNameAt cX7_isNameAt 2 (some .boolean)) ({ frames := 2, cells := 0, slots := 0, locals := 42 })).room s m ([.ref h0, .int x1] : List Value).toArray below meth c H locs (0) (0) (MQ below (va_Qi (fun (r : Int32) (u9 : va_W) => r = 0 ∨ r = 1) (gQ1 g [(6, 2), (6, 3)] [] none A ws) A) ([.ref h0, .int x1] : List Value).toArray s (0) (0) A) (F0 m 23 ls []) := by
    intro ws_10 H locs ls  E_11 Fr_12 hG hP hD hS hl
    have o_h0 := E_11.1 _ _ o_h0
    refine lv_iconst (v := 1) hx hb dX7_isNameAt_23 (by decide) ?_
    refine lv_goto (tgt := 28) hx hb dX7_isNameAt_24 (by decide) ?_
    exact J_28 (1) ws_10 H locs ls (Or.inr rfl) (E_11) (Fr_12) hG hP hD hS (lv_sub hl [] rfl)
  refine lv_icmp_eq (tgt := 23) hx hb dX7_isNameAt_10 (by decide) (fun c_13 => ?_) (fun c_13 => ?_)
  · exact J_23 ws H locs ls (gE.rf) (gF.rf) hG hP hD hS (lv_sub hl [] rfl)
  · refine lv_aload_n hx hb dX7_isNameAt_13 rfl (lv_at hl 0 rfl) ?_
    refine lv_bipush (v := 9) hx hb dX7_isNameAt_14 (by decide) ?_
    refine lv_iload_n hx hb dX7_isNameAt_16 rfl (lv_at hl 1 rfl) ?_
    have hFc := gfree hD hS hA
    obtain ⟨k_14, fs_14, hk_14⟩ := gC_of o_h0
    refine va_calli (va_runV (As := [.int 9, .int x1]) (rest := []) ⟨hx, hb, hml, hown, hts⟩ (m_X7_breaks l g H.size ws h0 (9) (x1) hG o_h0) (cwV 2 hts (gd_V kw_1276 kw_1278 kw_1279 kw_710 kw_1277) rfl rfl rfl (by decide +kernel) ⟨Nat.le_of_ble_eq_true rfl, Nat.le_of_ble_eq_true rfl⟩) ⟨gblind, va_recv hK hP (ci := 6) (q0 := k_14) rfl hk_14, fun U hU hW9 => gmk hU hW9 hP hK hD hex hE hS hFc⟩ rfl rfl hl.1 rfl (lv_room (Nat.le_of_ble_eq_true rfl)) dX7_isNameAt_17 ⟨Nat.le_of_ble_eq_true rfl, Nat.le_of_ble_eq_true rfl⟩) hS (fun q _ h => hFc q h) hFc (fun r_15 ws_16 t9 H1 locs ht9 hvm9 hw9 hB9 hz9 hk9 hS => ?_)
    obtain ⟨E_17, Fr_18, hG, hP1, hD1⟩ := hB9
    have hP : va_P (gD g) cl0 ws_16 H1 := by rw [← ht9]; exact hP1
    have hD : va_D A ws_16 := hD1.weaken (fun _ _ _ h => hFc _ h)
    have hz_r_15 : r_15 = 0 ∨ r_15 = 1 := hw9
    clear hP1 hD1 hz9 hk9 hvm9 ht9 hw9
    generalize H1 = H at hP hS ⊢
    have o_h0 := E_17.1 _ _ o_h0
    refine lv_if_eq (tgt := 27) hx hb dX7_isNameAt_20 (by decide) (fun c_21 => ?_) (fun c_21 => ?_)
    · refine lv_iconst (v := 0) hx hb dX7_isNameAt_27 (by decide) ?_
      exact J_28 (0) ws_16 H locs ls (Or.inl rfl) (E_17) (Fr_18) hG hP hD hS (lv_sub hl [] rfl)
    · exact J_23 ws_16 H locs ls (E_17) (Fr_18) hG hP hD hS (lv_sub hl [] rfl)
set_option maxHeartbeats 1000000 in
set_option maxRecDepth 100000 in
theorem m_X7_attributeNamesHold (l : Launch) (g : Gm) (sz : Nat) (ws : va_W) (h0 : Nat) (x1 : Int32) (hG : Good g ws) (o_h0 : gC ws h0 6) : Met l yX7_attributeNamesHold (wt yX7_attributeNamesHold cX7_attributeNamesHold 5 (some .boolean)) ({ frames := 3, cells := 0, slots := 0, locals := 63 }) (va_Pc [.ref h0, .int x1] (st_G g sz ws)) (va_Qi (fun (r : Int32) (u9 : va_W) => r = 0 ∨ r = 1) (gQ1 g [(6, 2), (6, 3)] [] none (va_A ws sz) ws) (va_A ws sz)) (0) (0) (va_A ws sz) := by
  refine Met.ofW (cc := cX7_attributeNamesHold) (maxL := 5) (ret := (some .boolean)) (by decide) rfl ?_
  intro p e s m args below meth c s₁ B hml hv
  obtain ⟨rfl, hsz, hP, hK, hD0, hex, hE⟩ := hv
  have hx := B.exec
  have hb := B.bytes
  have hr := B.returns
  have hts0 := atoms_spec (ws := wt yX7_attributeNamesHold cX7_attributeNamesHold 5 (some .boolean)) B.pre
  have hts : ∀ w ∈ tb, w.before _ s = true := fun w h => hts0 w (List.mem_cons_of_mem _ h)
  have hown : s.vm.findClass RX7 = some m.cls := findClass_of_methodNamed B.named
  subst hsz
  have hD := hD0.self (sz := s.heap.size)
  generalize hAe : va_A ws s.heap.size = A at hD hE ⊢
  have hA : ∀ q : Nat, s.heap.size ≤ q → A q := fun q h => by rw [← hAe]; exact Or.inr h
  have hS : va_S A s.heap s.heap [] := va_S.rf
  have hl := lv_entry ([.ref h0, .int x1]) (n := 5) (Nat.le_of_ble_eq_true rfl)
  rw [lg_entry_eq]
  generalize (lg_sl ([.ref h0, .int x1]) ++ List.replicate (5 - (lg_sl ([.ref h0, .int x1])).length) Slot.unset).toArray = ls at hl ⊢
  have hl : lv_has ls 5 [(0, .ref h0), (1, .int x1)] := hl
  refine lv_aload_n hx hb dX7_attributeNamesHold_0 rfl (lv_at hl 0 rfl) ?_
  refine lv_iload_n hx hb dX7_attributeNamesHold_1 rfl (lv_at hl 1 rfl) ?_
  have hFc := gfree hD hS hA
  obtain ⟨k_1, fs_1, hk_1⟩ := gC_of o_h0
  refine va_calli (va_runV (As := [.int x1]) (rest := []) ⟨hx, hb, hml, hown, hts⟩ (m_X7_u2 l g s.heap.size ws h0 (x1) hG o_h0) (cwV 1 hts (gd_V kw_1266 kw_1450 kw_1451 kw_710 kw_1449) rfl rfl rfl (by decide +kernel) ⟨Nat.le_of_ble_eq_true rfl, Nat.le_of_ble_eq_true rfl⟩) ⟨gblind, va_recv hK hP (ci := 6) (q0 := k_1) rfl hk_1, fun U hU hW9 => gmk hU hW9 hP hK hD hex hE hS hFc⟩ rfl rfl hl.1 rfl (lv_room (Nat.le_of_ble_eq_true rfl)) dX7_attributeNamesHold_2 ⟨Nat.le_of_ble_eq_true rfl, Nat.le_of_ble_eq_true rfl⟩) hS (fun q _ h => hFc q h) hFc (fun r_2 u9 t9 H1 locs ht9 hvm9 hw9 hB9 hz9 hk9 hS => ?_)
  have hP : va_P (gD g) cl0 ws H1 := by rw [← ht9]; exact hB9.1
  have h_r_2 := hw9
  clear hB9 hz9 hk9 hvm9 ht9 hw9
  generalize H1 = H at hP hS ⊢
  refine lv_istore_n (lv' := [(2, .int r_2), (0, .ref h0), (1, .int x1)]) hx hb dX7_attributeNamesHold_5 rfl hl (by decide) rfl (fun ls hl => ?_)
  refine lv_iload_n hx hb dX7_attributeNamesHold_6 rfl (lv_at hl 2 rfl) ?_
  refine lv_iconst (v := 2) hx hb dX7_attributeNamesHold_7 (by decide) ?_
  refine lv_iadd hx hb dX7_attributeNamesHold_8 ?_
  refine lv_topi (fun z_3 ez_3 => ?_)
  refine lv_istore_n (lv' := [(3, .int z_3), (2, .int r_2), (0, .ref h0), (1, .int x1)]) hx hb dX7_attributeNamesHold_9 rfl hl (by decide) rfl (fun ls hl => ?_)
  refine lv_iconst (v := 0) hx hb dX7_attributeNamesHold_10 (by decide) ?_
  refine lv_istore (lv' := [(4, .int 0), (3, .int z_3), (2, .int r_2), (0, .ref h0), (1, .int x1)]) hx hb dX7_attributeNamesHold_11 hl (by decide) rfl (fun ls hl => ?_)
  have J_13 : ∀ (n9 : Nat) (v3_4 : Int32) (v4_5 : Int32) (ws_7 : va_W) (H : Heap) (locs : List Loc) (ls : Array Slot), (2147483647 - v4_5.toInt).toNat = n9 → 0 ≤ v4_5.toInt → gE ws ws_7 → gF [(6, 2), (6, 3)] [] none ws ws_7 → Good g ws_7 → va_P (gD g) cl0 ws_7 H → va_D A ws_7 → va_S A s.heap H locs → lv_has ls 5 [(0, .ref h0), (2, .int r_2), (3, .int v3_4), (4, .int v4_5)] → W p l e (headSpec (wt yX7_attributeNamesHold cX7_attributeNamesHold 5 (some .boolean)) ({ frames := 3, cells := 0, slots := 0, locals := 63 })).room s m ([.ref h0, .int x1] : List Value).toArray below meth c H locs (0) (0) (MQ below (va_Qi (fun (r : Int32) (u9 : va_W) => r = 0 ∨ r = 1) (gQ1 g [(6, 2), (6, 3)] [] none A ws) A) ([.ref h0, .int x1] : List Value).toArray s (0) (0) A) (F0 m 13 ls []) := by
    intro n9
    induction n9 using Nat.strongRecOn with
    | ind n9 ih_13 =>
      intro v3_4 v4_5 ws_7 H locs ls hm9 iv_6 E_8 Fr_9 hG hP hD hS hl
      subst hm9
      have o_h0 := E_8.1 _ _ o_h0
      refine lv_iload hx hb dX7_attributeNamesHold_13 (lv_at hl 3 rfl) ?_
      refine lv_iload_n hx hb dX7_attributeNamesHold_15 rfl (lv_at hl 1 rfl) ?_
      refine lv_icmp_ge (tgt := 48) hx hb dX7_attributeNamesHold_16 (by decide) (fun c_10 => ?_) (fun c_10 => ?_)
      · refine lv_iconst (v := 1) hx hb dX7_attributeNamesHold_48 (by decide) ?_
        refine W.widen (k := 0) (n := 0) (Nat.le_of_ble_eq_true rfl) (Nat.le_of_ble_eq_true rfl) ?_
        exact W.zret (v := 1) hx hb hr (nz (Or.inr rfl)) (fun t9 ht9 hW9 => ⟨⟨_, ws_7, rfl, (Or.inr rfl), ⟨E_8, Fr_9, hG, by rw [ht9]; exact hP, hD⟩⟩, hS.F ht9⟩) hS.2.2 dX7_attributeNamesHold_49
      · refine lv_aload_n hx hb dX7_attributeNamesHold_19 rfl (lv_at hl 0 rfl) ?_
        refine lv_iload_n hx hb dX7_attributeNamesHold_20 rfl (lv_at hl 2 rfl) ?_
        have hFc := gfree hD hS hA
        obtain ⟨k_11, fs_11, hk_11⟩ := gC_of o_h0
        refine va_calli (va_runV (As := [.int v3_4]) (rest := []) ⟨hx, hb, hml, hown, hts⟩ (m_X7_isNameAt l g H.size ws_7 h0 (v3_4) hG o_h0) (cwV 1 hts (gd_V kw_1267 kw_1353 kw_1354 kw_710 kw_1352) rfl rfl rfl (by decide +kernel) ⟨Nat.le_of_ble_eq_true rfl, Nat.le_of_ble_eq_true rfl⟩) ⟨gblind, va_recv hK hP (ci := 6) (q0 := k_11) rfl hk_11, fun U hU hW9 => gmk hU hW9 hP hK hD hex hE hS hFc⟩ rfl rfl hl.1 rfl (lv_room (Nat.le_of_ble_eq_true rfl)) dX7_attributeNamesHold_21 ⟨Nat.le_of_ble_eq_true rfl, Nat.le_of_ble_eq_true rfl⟩) hS (fun q _ h => hFc q h) hFc (fun r_12 ws_13 t9 H1 locs ht9 hvm9 hw9 hB9 hz9 hk9 hS => ?_)
        obtain ⟨E_14, Fr_15, hG, hP1, hD1⟩ := hB9
        have hP : va_P (gD g) cl0 ws_13 H1 := by rw [← ht9]; exact hP1
        have hD : va_D A ws_13 := hD1.weaken (fun _ _ _ h => hFc _ h)
        have hz_r_12 : r_12 = 0 ∨ r_12 = 1 := hw9
        clear hP1 hD1 hz9 hk9 hvm9 ht9 hw9
        generalize H1 = H at hP hS ⊢
        have o_h0 := E_14.1 _ _ o_h0
        refine lv_if_ne (tgt := 29) hx hb dX7_attributeNamesHold_24 (by decide) (fun c_18 => ?_) (fun c_18 => ?_)
        · refine lv_iload_n hx hb dX7_attributeNamesHold_29 rfl (lv_at hl 2 rfl) ?_
          refine lv_bipush (v := 6) hx hb dX7_attributeNamesHold_30 (by decide) ?_
          refine lv_aload_n hx hb dX7_attributeNamesHold_32 rfl (lv_at hl 0 rfl) ?_
          refine lv_iload_n hx hb dX7_attributeNamesHold_33 rfl (lv_at hl 2 rfl) ?_
          refine lv_iconst (v := 2) hx hb dX7_attributeNamesHold_34 (by decide) ?_
          refine lv_iadd hx hb dX7_attributeNamesHold_35 ?_
          refine lv_topi (fun z_19 ez_19 => ?_)
          have hFc := gfree hD hS hA
          obtain ⟨k_20, fs_20, hk_20⟩ := gC_of o_h0
          refine va_calli (va_runV (As := [.int z_19]) (rest := [.int 6, .int v3_4]) ⟨hx, hb, hml, hown, hts⟩ (m_X7_s4 l g H.size ws_13 h0 (z_19) hG o_h0) (cwV 1 hts (gd_V kw_1268 kw_1429 kw_1430 kw_710 kw_1428) rfl rfl rfl (by decide +kernel) ⟨Nat.le_of_ble_eq_true rfl, Nat.le_of_ble_eq_true rfl⟩) ⟨gblind, va_recv hK hP (ci := 6) (q0 := k_20) rfl hk_20, fun U hU hW9 => gmk hU hW9 hP hK hD hex hE hS hFc⟩ rfl rfl hl.1 rfl (lv_room (Nat.le_of_ble_eq_true rfl)) dX7_attributeNamesHold_36 ⟨Nat.le_of_ble_eq_true rfl, Nat.le_of_ble_eq_true rfl⟩) hS (fun q _ h => hFc q h) hFc (fun r_21 u9 t9 H1 locs ht9 hvm9 hw9 hB9 hz9 hk9 hS => ?_)
          have hP : va_P (gD g) cl0 ws_13 H1 := by rw [← ht9]; exact hB9.1
          clear hB9 hz9 hk9 hvm9 ht9 hw9
          generalize H1 = H at hP hS ⊢
          refine lv_iadd hx hb dX7_attributeNamesHold_39 ?_
          refine lv_topi (fun z_22 ez_22 => ?_)
          refine lv_iadd hx hb dX7_attributeNamesHold_40 ?_
          refine lv_topi (fun z_23 ez_23 => ?_)
          refine lv_istore_n (lv' := [(3, .int z_23), (0, .ref h0), (2, .int r_2), (4, .int v4_5)]) hx hb dX7_attributeNamesHold_41 rfl hl (by decide) rfl (fun ls hl => ?_)
          obtain ⟨z_24, ez_24⟩ : ∃ z : Int32, v4_5 + Int32.ofInt 1 = z := ⟨_, rfl⟩
          refine lv_iinc (v := z_24) (lv' := [(4, .int z_24), (3, .int z_23), (0, .ref h0), (2, .int r_2)]) hx hb dX7_attributeNamesHold_42 hl (k := 3) rfl ez_24 (by decide) rfl (fun ls hl => ?_)
          refine lv_goto (tgt := 13) hx hb dX7_attributeNamesHold_45 (by decide) ?_
          exact ih_13 _ (by have e2 : (2 : Int32).toInt = 2 := (by decide); have e6 : (6 : Int32).toInt = 6 := (by decide); obtain ⟨u_z_23, q_z_23⟩ := i_add ez_23; obtain ⟨u_z_24, q_z_24⟩ := i_iz ez_24 (by decide) (by decide); have q_iv_6 := iv_6; have q_c_10 := i_nle c_10; obtain ⟨u_z_19, q_z_19⟩ := i_add ez_19; obtain ⟨u_z_22, q_z_22⟩ := i_add ez_22; have g_r_2 := i_rg r_2; have g_r_21 := i_rg r_21; have g_v3_4 := i_rg v3_4; have g_v4_5 := i_rg v4_5; have g_z_19 := i_rg z_19; have g_z_22 := i_rg z_22; have g_z_23 := i_rg z_23; have g_z_24 := i_rg z_24; omega) (z_23) (z_24) ws_13 H locs ls rfl (by obtain ⟨u_z_24, q_z_24⟩ := i_iz ez_24 (by decide) (by decide); have q_iv_6 := iv_6; have q_c_10 := i_nle c_10; have g_r_2 := i_rg r_2; have g_v4_5 := i_rg v4_5; have g_z_24 := i_rg z_24; omega) ((E_8.tr E_14)) ((gF.tr Fr_9 Fr_15)) hG hP hD hS (lv_sub hl [2, 3, 1, 0] rfl)
        · refine lv_iconst (v := 0) hx hb dX7_attributeNamesHold_27 (by decide) ?_
          refine W.widen (k := 0) (n := 0) (Nat.le_of_ble_eq_true rfl) (Nat.le_of_ble_eq_true rfl) ?_
          exact W.zret (v := 0) hx hb hr (nz (Or.inl rfl)) (fun t9 ht9 hW9 => ⟨⟨_, ws_13, rfl, (Or.inl rfl), ⟨(E_8.tr E_14), (gF.tr Fr_9 Fr_15), hG, by rw [ht9]; exact hP, hD⟩⟩, hS.F ht9⟩) hS.2.2 dX7_attributeNamesHold_28
  exact J_13 _ (z_3) (0) ws H locs ls rfl (by have e0 : (0 : Int32).toInt = 0 := (by decide); omega) (gE.rf) (gF.rf) hG hP hD hS (lv_sub hl [3, 2, 1, 0] rfl)
set_option maxHeartbeats 1000000 in
set_option maxRecDepth 100000 in
theorem m_X7_nameLength (l : Launch) (g : Gm) (sz : Nat) (ws : va_W) (h0 : Nat) (x1 : Int32) (hG : Good g ws) (o_h0 : gC ws h0 6) : Met l yX7_nameLength (wt yX7_nameLength cX7_nameLength 2 (some .int)) ({ frames := 1, cells := 0, slots := 0, locals := 21 }) (va_Pc [.ref h0, .int x1] (st_G g sz ws)) (va_Qi (fun (r : Int32) (u9 : Unit) => 0 ≤ r.toInt ∧ r.toInt ≤ 65535) (gQ0 g (va_A ws sz) ws) (va_A ws sz)) (0) (0) (va_A ws sz) := by
  refine Met.ofW (cc := cX7_nameLength) (maxL := 2) (ret := (some .int)) (by decide) rfl ?_
  intro p e s m args below meth c s₁ B hml hv
  obtain ⟨rfl, hsz, hP, hK, hD0, hex, hE⟩ := hv
  have hx := B.exec
  have hb := B.bytes
  have hr := B.returns
  have hts0 := atoms_spec (ws := wt yX7_nameLength cX7_nameLength 2 (some .int)) B.pre
  have hts : ∀ w ∈ tb, w.before _ s = true := fun w h => hts0 w (List.mem_cons_of_mem _ h)
  have hown : s.vm.findClass RX7 = some m.cls := findClass_of_methodNamed B.named
  subst hsz
  have hD := hD0.self (sz := s.heap.size)
  generalize hAe : va_A ws s.heap.size = A at hD hE ⊢
  have hA : ∀ q : Nat, s.heap.size ≤ q → A q := fun q h => by rw [← hAe]; exact Or.inr h
  have hS : va_S A s.heap s.heap [] := va_S.rf
  have hl := lv_entry ([.ref h0, .int x1]) (n := 2) (Nat.le_of_ble_eq_true rfl)
  rw [lg_entry_eq]
  generalize (lg_sl ([.ref h0, .int x1]) ++ List.replicate (2 - (lg_sl ([.ref h0, .int x1])).length) Slot.unset).toArray = ls at hl ⊢
  have hl : lv_has ls 2 [(0, .ref h0), (1, .int x1)] := hl
  refine lv_aload_n hx hb dX7_nameLength_0 rfl (lv_at hl 0 rfl) ?_
  refine lv_aload_n hx hb dX7_nameLength_1 rfl (lv_at hl 0 rfl) ?_
  refine lv_iload_n hx hb dX7_nameLength_2 rfl (lv_at hl 1 rfl) ?_
  have hFc := gfree hD hS hA
  obtain ⟨k_1, fs_1, hk_1⟩ := gC_of o_h0
  refine va_calli (va_runV (As := [.int x1]) (rest := [.ref h0]) ⟨hx, hb, hml, hown, hts⟩ (m_X7_entryAt l g s.heap.size ws h0 (x1) hG o_h0) (cwV 1 hts (gd_V kw_1296 kw_1298 kw_1299 kw_710 kw_1297) rfl rfl rfl (by decide +kernel) ⟨Nat.le_of_ble_eq_true rfl, Nat.le_of_ble_eq_true rfl⟩) ⟨gblind, va_recv hK hP (ci := 6) (q0 := k_1) rfl hk_1, fun U hU hW9 => gmk hU hW9 hP hK hD hex hE hS hFc⟩ rfl rfl hl.1 rfl (lv_room (Nat.le_of_ble_eq_true rfl)) dX7_nameLength_3 ⟨Nat.le_of_ble_eq_true rfl, Nat.le_of_ble_eq_true rfl⟩) hS (fun q _ h => hFc q h) hFc (fun r_2 u9 t9 H1 locs ht9 hvm9 hw9 hB9 hz9 hk9 hS => ?_)
  have hP : va_P (gD g) cl0 ws H1 := by rw [← ht9]; exact hB9.1
  clear hB9 hz9 hk9 hvm9 ht9 hw9
  generalize H1 = H at hP hS ⊢
  refine lv_iconst (v := 1) hx hb dX7_nameLength_6 (by decide) ?_
  refine lv_iadd hx hb dX7_nameLength_7 ?_
  refine lv_topi (fun z_3 ez_3 => ?_)
  have hFc := gfree hD hS hA
  obtain ⟨k_4, fs_4, hk_4⟩ := gC_of o_h0
  refine va_calli (va_runV (As := [.int z_3]) (rest := []) ⟨hx, hb, hml, hown, hts⟩ (m_X7_u2 l g H.size ws h0 (z_3) hG o_h0) (cwV 1 hts (gd_V kw_1266 kw_1450 kw_1451 kw_710 kw_1449) rfl rfl rfl (by decide +kernel) ⟨Nat.le_of_ble_eq_true rfl, Nat.le_of_ble_eq_true rfl⟩) ⟨gblind, va_recv hK hP (ci := 6) (q0 := k_4) rfl hk_4, fun U hU hW9 => gmk hU hW9 hP hK hD hex hE hS hFc⟩ rfl rfl hl.1 rfl (lv_room (Nat.le_of_ble_eq_true rfl)) dX7_nameLength_8 ⟨Nat.le_of_ble_eq_true rfl, Nat.le_of_ble_eq_true rfl⟩) hS (fun q _ h => hFc q h) hFc (fun r_5 u9 t9 H1 locs ht9 hvm9 hw9 hB9 hz9 hk9 hS => ?_)
  have hP : va_P (gD g) cl0 ws H1 := by rw [← ht9]; exact hB9.1
  have h_r_5 := hw9
  clear hB9 hz9 hk9 hvm9 ht9 hw9
  generalize H1 = H at hP hS ⊢
  refine W.widen (k := 0) (n := 0) (Nat.le_of_ble_eq_true rfl) (Nat.le_of_ble_eq_true rfl) ?_
  exact W.iret (v := r_5) hx hb hr (fun t9 ht9 hW9 => ⟨⟨_, (), rfl, (by have q_r_5 := h_r_5; have g_r_5 := i_rg r_5; have g_x1 := i_rg x1; omega), ⟨by rw [ht9]; exact hP, hD⟩⟩, hS.F ht9⟩) hS.2.2 dX7_nameLength_11
set_option maxHeartbeats 1000000 in
set_option maxRecDepth 100000 in
theorem m_X7_nameSign (l : Launch) (g : Gm) (sz : Nat) (ws : va_W) (h0 : Nat) (x1 : Int32) (x2 : Int32) (hG : Good g ws) (o_h0 : gC ws h0 6) : Met l yX7_nameSign (wt yX7_nameSign cX7_nameSign 3 (some .int)) ({ frames := 1, cells := 0, slots := 0, locals := 21 }) (va_Pc [.ref h0, .int x1, .int x2] (st_G g sz ws)) (va_Qi (fun (r : Int32) (u9 : Unit) => 0 ≤ r.toInt ∧ r.toInt ≤ 255) (gQ0 g (va_A ws sz) ws) (va_A ws sz)) (0) (0) (va_A ws sz) := by
  refine Met.ofW (cc := cX7_nameSign) (maxL := 3) (ret := (some .int)) (by decide) rfl ?_
  intro p e s m args below meth c s₁ B hml hv
  obtain ⟨rfl, hsz, hP, hK, hD0, hex, hE⟩ := hv
  have hx := B.exec
  have hb := B.bytes
  have hr := B.returns
  have hts0 := atoms_spec (ws := wt yX7_nameSign cX7_nameSign 3 (some .int)) B.pre
  have hts : ∀ w ∈ tb, w.before _ s = true := fun w h => hts0 w (List.mem_cons_of_mem _ h)
  have hown : s.vm.findClass RX7 = some m.cls := findClass_of_methodNamed B.named
  subst hsz
  have hD := hD0.self (sz := s.heap.size)
  generalize hAe : va_A ws s.heap.size = A at hD hE ⊢
  have hA : ∀ q : Nat, s.heap.size ≤ q → A q := fun q h => by rw [← hAe]; exact Or.inr h
  have hS : va_S A s.heap s.heap [] := va_S.rf
  have hl := lv_entry ([.ref h0, .int x1, .int x2]) (n := 3) (Nat.le_of_ble_eq_true rfl)
  rw [lg_entry_eq]
  generalize (lg_sl ([.ref h0, .int x1, .int x2]) ++ List.replicate (3 - (lg_sl ([.ref h0, .int x1, .int x2])).length) Slot.unset).toArray = ls at hl ⊢
  have hl : lv_has ls 3 [(0, .ref h0), (1, .int x1), (2, .int x2)] := hl
  refine lv_aload_n hx hb dX7_nameSign_0 rfl (lv_at hl 0 rfl) ?_
  refine lv_aload_n hx hb dX7_nameSign_1 rfl (lv_at hl 0 rfl) ?_
  refine lv_iload_n hx hb dX7_nameSign_2 rfl (lv_at hl 1 rfl) ?_
  have hFc := gfree hD hS hA
  obtain ⟨k_1, fs_1, hk_1⟩ := gC_of o_h0
  refine va_calli (va_runV (As := [.int x1]) (rest := [.ref h0]) ⟨hx, hb, hml, hown, hts⟩ (m_X7_entryAt l g s.heap.size ws h0 (x1) hG o_h0) (cwV 1 hts (gd_V kw_1296 kw_1298 kw_1299 kw_710 kw_1297) rfl rfl rfl (by decide +kernel) ⟨Nat.le_of_ble_eq_true rfl, Nat.le_of_ble_eq_true rfl⟩) ⟨gblind, va_recv hK hP (ci := 6) (q0 := k_1) rfl hk_1, fun U hU hW9 => gmk hU hW9 hP hK hD hex hE hS hFc⟩ rfl rfl hl.1 rfl (lv_room (Nat.le_of_ble_eq_true rfl)) dX7_nameSign_3 ⟨Nat.le_of_ble_eq_true rfl, Nat.le_of_ble_eq_true rfl⟩) hS (fun q _ h => hFc q h) hFc (fun r_2 u9 t9 H1 locs ht9 hvm9 hw9 hB9 hz9 hk9 hS => ?_)
  have hP : va_P (gD g) cl0 ws H1 := by rw [← ht9]; exact hB9.1
  clear hB9 hz9 hk9 hvm9 ht9 hw9
  generalize H1 = H at hP hS ⊢
  refine lv_iconst (v := 3) hx hb dX7_nameSign_6 (by decide) ?_
  refine lv_iadd hx hb dX7_nameSign_7 ?_
  refine lv_topi (fun z_3 ez_3 => ?_)
  refine lv_iload_n hx hb dX7_nameSign_8 rfl (lv_at hl 2 rfl) ?_
  refine lv_iadd hx hb dX7_nameSign_9 ?_
  refine lv_topi (fun z_4 ez_4 => ?_)
  have hFc := gfree hD hS hA
  obtain ⟨k_5, fs_5, hk_5⟩ := gC_of o_h0
  refine va_calli (va_runV (As := [.int z_4]) (rest := []) ⟨hx, hb, hml, hown, hts⟩ (m_X7_u1 l g H.size ws h0 (z_4) hG o_h0) (cwV 1 hts (gd_V kw_1304 kw_1447 kw_1448 kw_710 kw_1446) rfl rfl rfl (by decide +kernel) ⟨Nat.le_of_ble_eq_true rfl, Nat.le_of_ble_eq_true rfl⟩) ⟨gblind, va_recv hK hP (ci := 6) (q0 := k_5) rfl hk_5, fun U hU hW9 => gmk hU hW9 hP hK hD hex hE hS hFc⟩ rfl rfl hl.1 rfl (lv_room (Nat.le_of_ble_eq_true rfl)) dX7_nameSign_10 ⟨Nat.le_of_ble_eq_true rfl, Nat.le_of_ble_eq_true rfl⟩) hS (fun q _ h => hFc q h) hFc (fun r_6 u9 t9 H1 locs ht9 hvm9 hw9 hB9 hz9 hk9 hS => ?_)
  have hP : va_P (gD g) cl0 ws H1 := by rw [← ht9]; exact hB9.1
  have h_r_6 := hw9
  clear hB9 hz9 hk9 hvm9 ht9 hw9
  generalize H1 = H at hP hS ⊢
  refine W.widen (k := 0) (n := 0) (Nat.le_of_ble_eq_true rfl) (Nat.le_of_ble_eq_true rfl) ?_
  exact W.iret (v := r_6) hx hb hr (fun t9 ht9 hW9 => ⟨⟨_, (), rfl, (by have e3 : (3 : Int32).toInt = 3 := (by decide); obtain ⟨u_z_4, q_z_4⟩ := i_add ez_4; have q_r_6 := h_r_6; obtain ⟨u_z_3, q_z_3⟩ := i_add ez_3; have g_r_2 := i_rg r_2; have g_r_6 := i_rg r_6; have g_x1 := i_rg x1; have g_x2 := i_rg x2; have g_z_3 := i_rg z_3; have g_z_4 := i_rg z_4; omega), ⟨by rw [ht9]; exact hP, hD⟩⟩, hS.F ht9⟩) hS.2.2 dX7_nameSign_13
set_option maxHeartbeats 1000000 in
set_option maxRecDepth 100000 in
theorem m_X7_kindOfPart (l : Launch) (g : Gm) (sz : Nat) (ws : va_W) (h0 : Nat) (x1 : Int32) (x2 : Int32) (hG : Good g ws) (o_h0 : gC ws h0 6) : Met l yX7_kindOfPart (wt yX7_kindOfPart cX7_kindOfPart 3 (some .int)) ({ frames := 2, cells := 0, slots := 0, locals := 43 }) (va_Pc [.ref h0, .int x1, .int x2] (st_G g sz ws)) (va_Qi (fun (r : Int32) (u9 : Unit) => 0 ≤ r.toInt ∧ r.toInt ≤ 3) (gQ0 g (va_A ws sz) ws) (va_A ws sz)) (0) (0) (va_A ws sz) := by
  refine Met.ofW (cc := cX7_kindOfPart) (maxL := 3) (ret := (some .int)) (by decide) rfl ?_
  intro p e s m args below meth c s₁ B hml hv
  obtain ⟨rfl, hsz, hP, hK, hD0, hex, hE⟩ := hv
  have hx := B.exec
  have hb := B.bytes
  have hr := B.returns
  have hts0 := atoms_spec (ws := wt yX7_kindOfPart cX7_kindOfPart 3 (some .int)) B.pre
  have hts : ∀ w ∈ tb, w.before _ s = true := fun w h => hts0 w (List.mem_cons_of_mem _ h)
  have hown : s.vm.findClass RX7 = some m.cls := findClass_of_methodNamed B.named
  subst hsz
  have hD := hD0.self (sz := s.heap.size)
  generalize hAe : va_A ws s.heap.size = A at hD hE ⊢
  have hA : ∀ q : Nat, s.heap.size ≤ q → A q := fun q h => by rw [← hAe]; exact Or.inr h
  have hS : va_S A s.heap s.heap [] := va_S.rf
  have hl := lv_entry ([.ref h0, .int x1, .int x2]) (n := 3) (Nat.le_of_ble_eq_true rfl)
  rw [lg_entry_eq]
  generalize (lg_sl ([.ref h0, .int x1, .int x2]) ++ List.replicate (3 - (lg_sl ([.ref h0, .int x1, .int x2])).length) Slot.unset).toArray = ls at hl ⊢
  have hl : lv_has ls 3 [(0, .ref h0), (1, .int x1), (2, .int x2)] := hl
  refine lv_iload_n hx hb dX7_kindOfPart_0 rfl (lv_at hl 2 rfl) ?_
  refine lv_aload_n hx hb dX7_kindOfPart_1 rfl (lv_at hl 0 rfl) ?_
  refine lv_iload_n hx hb dX7_kindOfPart_2 rfl (lv_at hl 1 rfl) ?_
  have hFc := gfree hD hS hA
  obtain ⟨k_1, fs_1, hk_1⟩ := gC_of o_h0
  refine va_calli (va_runV (As := [.int x1]) (rest := [.int x2]) ⟨hx, hb, hml, hown, hts⟩ (m_X7_nameLength l g s.heap.size ws h0 (x1) hG o_h0) (cwV 1 hts (gd_V kw_1349 kw_1406 kw_1407 kw_710 kw_1405) rfl rfl rfl (by decide +kernel) ⟨Nat.le_of_ble_eq_true rfl, Nat.le_of_ble_eq_true rfl⟩) ⟨gblind, va_recv hK hP (ci := 6) (q0 := k_1) rfl hk_1, fun U hU hW9 => gmk hU hW9 hP hK hD hex hE hS hFc⟩ rfl rfl hl.1 rfl (lv_room (Nat.le_of_ble_eq_true rfl)) dX7_kindOfPart_3 ⟨Nat.le_of_ble_eq_true rfl, Nat.le_of_ble_eq_true rfl⟩) hS (fun q _ h => hFc q h) hFc (fun r_2 u9 t9 H1 locs ht9 hvm9 hw9 hB9 hz9 hk9 hS => ?_)
  have hP : va_P (gD g) cl0 ws H1 := by rw [← ht9]; exact hB9.1
  have h_r_2 := hw9
  clear hB9 hz9 hk9 hvm9 ht9 hw9
  generalize H1 = H at hP hS ⊢
  refine lv_icmp_lt (tgt := 11) hx hb dX7_kindOfPart_6 (by decide) (fun c_3 => ?_) (fun c_3 => ?_)
  · refine lv_aload_n hx hb dX7_kindOfPart_11 rfl (lv_at hl 0 rfl) ?_
    refine lv_iload_n hx hb dX7_kindOfPart_12 rfl (lv_at hl 1 rfl) ?_
    refine lv_iload_n hx hb dX7_kindOfPart_13 rfl (lv_at hl 2 rfl) ?_
    have hFc := gfree hD hS hA
    obtain ⟨k_4, fs_4, hk_4⟩ := gC_of o_h0
    refine va_calli (va_runV (As := [.int x1, .int x2]) (rest := []) ⟨hx, hb, hml, hown, hts⟩ (m_X7_nameSign l g H.size ws h0 (x1) (x2) hG o_h0) (cwV 2 hts (gd_V kw_1350 kw_1412 kw_1413 kw_710 kw_1411) rfl rfl rfl (by decide +kernel) ⟨Nat.le_of_ble_eq_true rfl, Nat.le_of_ble_eq_true rfl⟩) ⟨gblind, va_recv hK hP (ci := 6) (q0 := k_4) rfl hk_4, fun U hU hW9 => gmk hU hW9 hP hK hD hex hE hS hFc⟩ rfl rfl hl.1 rfl (lv_room (Nat.le_of_ble_eq_true rfl)) dX7_kindOfPart_14 ⟨Nat.le_of_ble_eq_true rfl, Nat.le_of_ble_eq_true rfl⟩) hS (fun q _ h => hFc q h) hFc (fun r_5 u9 t9 H1 locs ht9 hvm9 hw9 hB9 hz9 hk9 hS => ?_)
    have hP : va_P (gD g) cl0 ws H1 := by rw [← ht9]; exact hB9.1
    have h_r_5 := hw9
    clear hB9 hz9 hk9 hvm9 ht9 hw9
    generalize H1 = H at hP hS ⊢
    have K_17_86 : W p l e (headSpec (wt yX7_kindOfPart cX7_kindOfPart 3 (some .int)) ({ frames := 2, cells := 0, slots := 0, locals := 43 })).room s m ([.ref h0, .int x1, .int x2] : List Value).toArray below meth c H locs (0) (0) (MQ below (va_Qi (fun (r : Int32) (u9 : Unit) => 0 ≤ r.toInt ∧ r.toInt ≤ 3) (gQ0 g A ws) A) ([.ref h0, .int x1, .int x2] : List Value).toArray s (0) (0) A) (F0 m 86 ls []) := by
      refine lv_iconst (v := 0) hx hb dX7_kindOfPart_86 (by decide) ?_
      refine W.widen (k := 0) (n := 0) (Nat.le_of_ble_eq_true rfl) (Nat.le_of_ble_eq_true rfl) ?_
      exact W.iret (v := 0) hx hb hr (fun t9 ht9 hW9 => ⟨⟨_, (), rfl, (by have e0 : (0 : Int32).toInt = 0 := (by decide); have q_c_3 := i_lt c_3; have q_r_2 := h_r_2; have g_r_2 := i_rg r_2; have g_x1 := i_rg x1; have g_x2 := i_rg x2; omega), ⟨by rw [ht9]; exact hP, hD⟩⟩, hS.F ht9⟩) hS.2.2 dX7_kindOfPart_87
    have K_17_52 : W p l e (headSpec (wt yX7_kindOfPart cX7_kindOfPart 3 (some .int)) ({ frames := 2, cells := 0, slots := 0, locals := 43 })).room s m ([.ref h0, .int x1, .int x2] : List Value).toArray below meth c H locs (0) (0) (MQ below (va_Qi (fun (r : Int32) (u9 : Unit) => 0 ≤ r.toInt ∧ r.toInt ≤ 3) (gQ0 g A ws) A) ([.ref h0, .int x1, .int x2] : List Value).toArray s (0) (0) A) (F0 m 52 ls []) := by
      refine lv_iconst (v := 1) hx hb dX7_kindOfPart_52 (by decide) ?_
      refine W.widen (k := 0) (n := 0) (Nat.le_of_ble_eq_true rfl) (Nat.le_of_ble_eq_true rfl) ?_
      exact W.iret (v := 1) hx hb hr (fun t9 ht9 hW9 => ⟨⟨_, (), rfl, (by have e1 : (1 : Int32).toInt = 1 := (by decide); have q_c_3 := i_lt c_3; have q_r_2 := h_r_2; have g_r_2 := i_rg r_2; have g_x1 := i_rg x1; have g_x2 := i_rg x2; omega), ⟨by rw [ht9]; exact hP, hD⟩⟩, hS.F ht9⟩) hS.2.2 dX7_kindOfPart_53
    have K_17_54 : W p l e (headSpec (wt yX7_kindOfPart cX7_kindOfPart 3 (some .int)) ({ frames := 2, cells := 0, slots := 0, locals := 43 })).room s m ([.ref h0, .int x1, .int x2] : List Value).toArray below meth c H locs (0) (0) (MQ below (va_Qi (fun (r : Int32) (u9 : Unit) => 0 ≤ r.toInt ∧ r.toInt ≤ 3) (gQ0 g A ws) A) ([.ref h0, .int x1, .int x2] : List Value).toArray s (0) (0) A) (F0 m 54 ls []) := by
      refine lv_iconst (v := 2) hx hb dX7_kindOfPart_54 (by decide) ?_
      refine W.widen (k := 0) (n := 0) (Nat.le_of_ble_eq_true rfl) (Nat.le_of_ble_eq_true rfl) ?_
      exact W.iret (v := 2) hx hb hr (fun t9 ht9 hW9 => ⟨⟨_, (), rfl, (by have e2 : (2 : Int32).toInt = 2 := (by decide); have q_c_3 := i_lt c_3; have q_r_2 := h_r_2; have g_r_2 := i_rg r_2; have g_x1 := i_rg x1; have g_x2 := i_rg x2; omega), ⟨by rw [ht9]; exact hP, hD⟩⟩, hS.F ht9⟩) hS.2.2 dX7_kindOfPart_55
    have K_17_56 : W p l e (headSpec (wt yX7_kindOfPart cX7_kindOfPart 3 (some .int)) ({ frames := 2, cells := 0, slots := 0, locals := 43 })).room s m ([.ref h0, .int x1, .int x2] : List Value).toArray below meth c H locs (0) (0) (MQ below (va_Qi (fun (r : Int32) (u9 : Unit) => 0 ≤ r.toInt ∧ r.toInt ≤ 3) (gQ0 g A ws) A) ([.ref h0, .int x1, .int x2] : List Value).toArray s (0) (0) A) (F0 m 56 ls []) := by
      refine lv_iload_n hx hb dX7_kindOfPart_56 rfl (lv_at hl 2 rfl) ?_
      refine lv_iconst (v := 1) hx hb dX7_kindOfPart_57 (by decide) ?_
      refine lv_iadd hx hb dX7_kindOfPart_58 ?_
      refine lv_topi (fun z_6 ez_6 => ?_)
      refine lv_aload_n hx hb dX7_kindOfPart_59 rfl (lv_at hl 0 rfl) ?_
      refine lv_iload_n hx hb dX7_kindOfPart_60 rfl (lv_at hl 1 rfl) ?_
      have hFc := gfree hD hS hA
      obtain ⟨k_7, fs_7, hk_7⟩ := gC_of o_h0
      refine va_calli (va_runV (As := [.int x1]) (rest := [.int z_6]) ⟨hx, hb, hml, hown, hts⟩ (m_X7_nameLength l g H.size ws h0 (x1) hG o_h0) (cwV 1 hts (gd_V kw_1349 kw_1406 kw_1407 kw_710 kw_1405) rfl rfl rfl (by decide +kernel) ⟨Nat.le_of_ble_eq_true rfl, Nat.le_of_ble_eq_true rfl⟩) ⟨gblind, va_recv hK hP (ci := 6) (q0 := k_7) rfl hk_7, fun U hU hW9 => gmk hU hW9 hP hK hD hex hE hS hFc⟩ rfl rfl hl.1 rfl (lv_room (Nat.le_of_ble_eq_true rfl)) dX7_kindOfPart_61 ⟨Nat.le_of_ble_eq_true rfl, Nat.le_of_ble_eq_true rfl⟩) hS (fun q _ h => hFc q h) hFc (fun r_8 u9 t9 H1 locs ht9 hvm9 hw9 hB9 hz9 hk9 hS => ?_)
      have hP : va_P (gD g) cl0 ws H1 := by rw [← ht9]; exact hB9.1
      have h_r_8 := hw9
      clear hB9 hz9 hk9 hvm9 ht9 hw9
      generalize H1 = H at hP hS ⊢
      have J_85 : ∀ (t_9 : Int32) (H : Heap) (locs : List Loc) (ls : Array Slot), 0 ≤ t_9.toInt ∧ t_9.toInt ≤ 3 → 0 ≤ t_9.toInt ∧ t_9.toInt ≤ 3 → va_P (gD g) cl0 ws H → va_D A ws → va_S A s.heap H locs → lv_has ls 3 [] → W p l e (headSpec (wt yX7_kindOfPart cX7_kindOfPart 3 (some .int)) ({ frames := 2, cells := 0, slots := 0, locals := 43 })).room s m ([.ref h0, .int x1, .int x2] : List Value).toArray below meth c H locs (0) (0) (MQ below (va_Qi (fun (r : Int32) (u9 : Unit) => 0 ≤ r.toInt ∧ r.toInt ≤ 3) (gQ0 g A ws) A) ([.ref h0, .int x1, .int x2] : List Value).toArray s (0) (0) A) (F0 m 85 ls [.int t_9]) := by
        intro t_9 H locs ls iv_10 iv_11 hP hD hS hl
        refine W.widen (k := 0) (n := 0) (Nat.le_of_ble_eq_true rfl) (Nat.le_of_ble_eq_true rfl) ?_
        exact W.iret (v := t_9) hx hb hr (fun t9 ht9 hW9 => ⟨⟨_, (), rfl, (by have e1 : (1 : Int32).toInt = 1 := (by decide); have q_c_3 := i_lt c_3; obtain ⟨u_z_6, q_z_6⟩ := i_add ez_6; have q_iv_10 := iv_10; have q_iv_11 := iv_11; have q_r_2 := h_r_2; have g_r_2 := i_rg r_2; have g_t_9 := i_rg t_9; have g_x1 := i_rg x1; have g_x2 := i_rg x2; have g_z_6 := i_rg z_6; omega), ⟨by rw [ht9]; exact hP, hD⟩⟩, hS.F ht9⟩) hS.2.2 dX7_kindOfPart_85
      have J_84 : ∀  (H : Heap) (locs : List Loc) (ls : Array Slot), va_P (gD g) cl0 ws H → va_D A ws → va_S A s.heap H locs → lv_has ls 3 [] → W p l e (headSpec (wt yX7_kindOfPart cX7_kindOfPart 3 (some .int)) ({ frames := 2, cells := 0, slots := 0, locals := 43 })).room s m ([.ref h0, .int x1, .int x2] : List Value).toArray below meth c H locs (0) (0) (MQ below (va_Qi (fun (r : Int32) (u9 : Unit) => 0 ≤ r.toInt ∧ r.toInt ≤ 3) (gQ0 g A ws) A) ([.ref h0, .int x1, .int x2] : List Value).toArray s (0) (0) A) (F0 m 84 ls []) := by
        intro  H locs ls  hP hD hS hl
        refine lv_iconst (v := 0) hx hb dX7_kindOfPart_84 (by decide) ?_
        exact J_85 (0) H locs ls (by have e0 : (0 : Int32).toInt = 0 := (by decide); have e1 : (1 : Int32).toInt = 1 := (by decide); have q_c_3 := i_lt c_3; obtain ⟨u_z_6, q_z_6⟩ := i_add ez_6; have q_r_2 := h_r_2; have g_r_2 := i_rg r_2; have g_x1 := i_rg x1; have g_x2 := i_rg x2; have g_z_6 := i_rg z_6; omega) (by have e0 : (0 : Int32).toInt = 0 := (by decide); have e1 : (1 : Int32).toInt = 1 := (by decide); have q_c_3 := i_lt c_3; obtain ⟨u_z_6, q_z_6⟩ := i_add ez_6; have q_r_2 := h_r_2; have g_r_2 := i_rg r_2; have g_x1 := i_rg x1; have g_x2 := i_rg x2; have g_z_6 := i_rg z_6; omega) hP hD hS (lv_sub hl [] rfl)
      refine lv_icmp_ge (tgt := 84) hx hb dX7_kindOfPart_64 (by decide) (fun c_16 => ?_) (fun c_16 => ?_)
      · exact J_84  H locs ls  hP hD hS (lv_sub hl [] rfl)
      · refine lv_aload_n hx hb dX7_kindOfPart_67 rfl (lv_at hl 0 rfl) ?_
        refine lv_iload_n hx hb dX7_kindOfPart_68 rfl (lv_at hl 1 rfl) ?_
        refine lv_iload_n hx hb dX7_kindOfPart_69 rfl (lv_at hl 2 rfl) ?_
        refine lv_iconst (v := 1) hx hb dX7_kindOfPart_70 (by decide) ?_
        refine lv_iadd hx hb dX7_kindOfPart_71 ?_
        refine lv_topi (fun z_17 ez_17 => ?_)
        have hFc := gfree hD hS hA
        obtain ⟨k_18, fs_18, hk_18⟩ := gC_of o_h0
        refine va_calli (va_runV (As := [.int x1, .int z_17]) (rest := []) ⟨hx, hb, hml, hown, hts⟩ (m_X7_nameSign l g H.size ws h0 (x1) (z_17) hG o_h0) (cwV 2 hts (gd_V kw_1350 kw_1412 kw_1413 kw_710 kw_1411) rfl rfl rfl (by decide +kernel) ⟨Nat.le_of_ble_eq_true rfl, Nat.le_of_ble_eq_true rfl⟩) ⟨gblind, va_recv hK hP (ci := 6) (q0 := k_18) rfl hk_18, fun U hU hW9 => gmk hU hW9 hP hK hD hex hE hS hFc⟩ rfl rfl hl.1 rfl (lv_room (Nat.le_of_ble_eq_true rfl)) dX7_kindOfPart_72 ⟨Nat.le_of_ble_eq_true rfl, Nat.le_of_ble_eq_true rfl⟩) hS (fun q _ h => hFc q h) hFc (fun r_19 u9 t9 H1 locs ht9 hvm9 hw9 hB9 hz9 hk9 hS => ?_)
        have hP : va_P (gD g) cl0 ws H1 := by rw [← ht9]; exact hB9.1
        have h_r_19 := hw9
        clear hB9 hz9 hk9 hvm9 ht9 hw9
        generalize H1 = H at hP hS ⊢
        refine lv_bipush (v := 73) hx hb dX7_kindOfPart_75 (by decide) ?_
        refine lv_icmp_ne (tgt := 84) hx hb dX7_kindOfPart_77 (by decide) (fun c_20 => ?_) (fun c_20 => ?_)
        · exact J_84  H locs ls  hP hD hS (lv_sub hl [] rfl)
        · refine lv_iconst (v := 3) hx hb dX7_kindOfPart_80 (by decide) ?_
          refine lv_goto (tgt := 85) hx hb dX7_kindOfPart_81 (by decide) ?_
          exact J_85 (3) H locs ls (by have e1 : (1 : Int32).toInt = 1 := (by decide); have e3 : (3 : Int32).toInt = 3 := (by decide); have q_c_3 := i_lt c_3; obtain ⟨u_z_6, q_z_6⟩ := i_add ez_6; obtain ⟨u_z_17, q_z_17⟩ := i_add ez_17; have q_r_2 := h_r_2; have q_c_16 := i_nle c_16; have g_r_2 := i_rg r_2; have g_r_8 := i_rg r_8; have g_x1 := i_rg x1; have g_x2 := i_rg x2; have g_z_17 := i_rg z_17; have g_z_6 := i_rg z_6; omega) (by have e1 : (1 : Int32).toInt = 1 := (by decide); have e3 : (3 : Int32).toInt = 3 := (by decide); have q_c_3 := i_lt c_3; obtain ⟨u_z_6, q_z_6⟩ := i_add ez_6; obtain ⟨u_z_17, q_z_17⟩ := i_add ez_17; have q_r_2 := h_r_2; have q_c_16 := i_nle c_16; have g_r_2 := i_rg r_2; have g_r_8 := i_rg r_8; have g_x1 := i_rg x1; have g_x2 := i_rg x2; have g_z_17 := i_rg z_17; have g_z_6 := i_rg z_6; omega) hP hD hS (lv_sub hl [] rfl)
    by_cases c9_73 : (r_5 : Int32).toInt = 73
    · exact lv_lookup (off := 35) (tgt := 52) hx hb dX7_kindOfPart_17 (by decide) (by rw [c9_73]; decide) (by decide) K_17_52
    by_cases c9_74 : (r_5 : Int32).toInt = 74
    · exact lv_lookup (off := 37) (tgt := 54) hx hb dX7_kindOfPart_17 (by decide) (by rw [c9_74]; decide) (by decide) K_17_54
    by_cases c9_91 : (r_5 : Int32).toInt = 91
    · exact lv_lookup (off := 39) (tgt := 56) hx hb dX7_kindOfPart_17 (by decide) (by rw [c9_91]; decide) (by decide) K_17_56
    exact lv_lookup (off := 69) (tgt := 86) hx hb dX7_kindOfPart_17 (by decide) (lk_cons c9_73 (lk_cons c9_74 (lk_cons c9_91 lk_nil))) (by decide) K_17_86
  · refine lv_iconst (v := 0) hx hb dX7_kindOfPart_9 (by decide) ?_
    refine W.widen (k := 0) (n := 0) (Nat.le_of_ble_eq_true rfl) (Nat.le_of_ble_eq_true rfl) ?_
    exact W.iret (v := 0) hx hb hr (fun t9 ht9 hW9 => ⟨⟨_, (), rfl, (by have e0 : (0 : Int32).toInt = 0 := (by decide); have q_c_3 := i_nlt c_3; have q_r_2 := h_r_2; have g_r_2 := i_rg r_2; have g_x1 := i_rg x1; have g_x2 := i_rg x2; omega), ⟨by rw [ht9]; exact hP, hD⟩⟩, hS.F ht9⟩) hS.2.2 dX7_kindOfPart_10
set_option maxHeartbeats 1000000 in
set_option maxRecDepth 100000 in
theorem m_X7_isMethodType (l : Launch) (g : Gm) (sz : Nat) (ws : va_W) (h0 : Nat) (x1 : Int32) (hG : Good g ws) (o_h0 : gC ws h0 6) : Met l yX7_isMethodType (wt yX7_isMethodType cX7_isMethodType 5 (some .boolean)) ({ frames := 3, cells := 0, slots := 0, locals := 65 }) (va_Pc [.ref h0, .int x1] (st_G g sz ws)) (va_Qi (fun (r : Int32) (u9 : va_W) => r = 0 ∨ r = 1) (gQ1 g [(6, 12), (6, 13), (6, 14)] [] none (va_A ws sz) ws) (va_A ws sz)) (0) (0) (va_A ws sz) := by
  refine Met.ofW (cc := cX7_isMethodType) (maxL := 5) (ret := (some .boolean)) (by decide) rfl ?_
  intro p e s m args below meth c s₁ B hml hv
  obtain ⟨rfl, hsz, hP, hK, hD0, hex, hE⟩ := hv
  have hx := B.exec
  have hb := B.bytes
  have hr := B.returns
  have hts0 := atoms_spec (ws := wt yX7_isMethodType cX7_isMethodType 5 (some .boolean)) B.pre
  have hts : ∀ w ∈ tb, w.before _ s = true := fun w h => hts0 w (List.mem_cons_of_mem _ h)
  have hown : s.vm.findClass RX7 = some m.cls := findClass_of_methodNamed B.named
  subst hsz
  have hD := hD0.self (sz := s.heap.size)
  generalize hAe : va_A ws s.heap.size = A at hD hE ⊢
  have hA : ∀ q : Nat, s.heap.size ≤ q → A q := fun q h => by rw [← hAe]; exact Or.inr h
  have hS : va_S A s.heap s.heap [] := va_S.rf
  have hl := lv_entry ([.ref h0, .int x1]) (n := 5) (Nat.le_of_ble_eq_true rfl)
  rw [lg_entry_eq]
  generalize (lg_sl ([.ref h0, .int x1]) ++ List.replicate (5 - (lg_sl ([.ref h0, .int x1])).length) Slot.unset).toArray = ls at hl ⊢
  have hl : lv_has ls 5 [(0, .ref h0), (1, .int x1)] := hl
  refine lv_aload_n hx hb dX7_isMethodType_0 rfl (lv_at hl 0 rfl) ?_
  refine lv_iconst (v := 0) hx hb dX7_isMethodType_1 (by decide) ?_
  obtain ⟨k_1, fs9, hk_1⟩ := gC_of o_h0
  obtain ⟨r0_1, n0_1, c1_1, c2_1, c3_1, r4_1, n4_1, c5_1, c6_1, c7_1, c8_1, r9_1, n9_1, r10_1, n10_1, r11_1, n11_1, c12_1, c13_1, c14_1, c15_1, c16_1, rfl, a_r0_1, f1_1, a_r4_1, f3_1, a_r9_1, f5_1, a_r10_1, f7_1, a_r11_1, f9_1, f10_1, f11_1, f12_1, f13_1, f14_1, -⟩ := (hG.1 _ _ _ _ hk_1).hX7 rfl
  have hV9 : okv ws 6 12 (.int 0) := okv_i
  refine va_put (D := gD g) (ci := 6) (v := .int 0) (ty := .int) (C := RX7) (T := TX7) (N := 17) hx hb hts inX7 tyX7 tyX7_ok nmX7 hown hK hP hD hS k_1 hk_1 rfl 12 (by decide) (hts _ kw_1346) (fun _ h9 => h9) rfl (by decide +kernel) rfl rfl (Nat.le_of_ble_eq_true rfl) dX7_isMethodType_2 (fun H locs hP hD hS => ?_)
  have hi_2 : invX7 g ws h0 [.ref r0_1, .int c1_1, .int c2_1, .int c3_1, .ref r4_1, .int c5_1, .int c6_1, .int c7_1, .int c8_1, .ref r9_1, .ref r10_1, .ref r11_1, .int 0, .int c13_1, .int c14_1, .int c15_1, .int c16_1] := ⟨r0_1, (n0_1), (c1_1), (c2_1), (c3_1), r4_1, (n4_1), (c5_1), (c6_1), (c7_1), (c8_1), r9_1, (n9_1), r10_1, (n10_1), r11_1, (n11_1), (0), (c13_1), (c14_1), (c15_1), (c16_1), rfl, a_r0_1, f1_1, a_r4_1, f3_1, a_r9_1, f5_1, a_r10_1, f7_1, a_r11_1, f9_1, f10_1, f11_1, f12_1, f13_1, f14_1, trivial⟩
  obtain ⟨ws_3, e_ws_3⟩ : ∃ z, z = ws.set k_1 (h0, .inr (6, [.ref r0_1, .int c1_1, .int c2_1, .int c3_1, .ref r4_1, .int c5_1, .int c6_1, .int c7_1, .int c8_1, .ref r9_1, .ref r10_1, .ref r11_1, .int 0, .int c13_1, .int c14_1, .int c15_1, .int c16_1])) := ⟨_, rfl⟩
  have hP : va_P (gD g) cl0 ws_3 H := by rw [e_ws_3]; exact hP
  have hD : va_D A ws_3 := by rw [e_ws_3]; exact hD
  have E_4 : gE ws ws_3 := gE_set e_ws_3 hk_1 (cw_o (fi := 12) (v := .int 0) rfl (by decide))
  have hG : Good g ws_3 := Good_set (fi := 12) (v := .int 0) e_ws_3 hk_1 E_4 rfl hV9 hG (ivX7 hi_2)
  have Fr_5 : gF [(6, 12)] [] (some h0) ws ws_3 := gF_put (fi := 12) (v := .int 0) e_ws_3 hk_1 rfl (by decide)
  have hkN := gset_self e_ws_3 hk_1
  have hk_1 := hkN
  have o_h0 := E_4.1 _ _ o_h0
  have a_r0_1 := E_4.1 _ _ a_r0_1
  have a_r4_1 := E_4.1 _ _ a_r4_1
  have a_r9_1 := E_4.1 _ _ a_r9_1
  have a_r10_1 := E_4.1 _ _ a_r10_1
  have a_r11_1 := E_4.1 _ _ a_r11_1
  refine lv_aload_n hx hb dX7_isMethodType_5 rfl (lv_at hl 0 rfl) ?_
  refine lv_iconst (v := 0) hx hb dX7_isMethodType_6 (by decide) ?_
  have hV9 : okv ws_3 6 13 (.int 0) := okv_i
  refine va_put (D := gD g) (ci := 6) (v := .int 0) (ty := .int) (C := RX7) (T := TX7) (N := 17) hx hb hts inX7 tyX7 tyX7_ok nmX7 hown hK hP hD hS k_1 hk_1 rfl 13 (by decide) (hts _ kw_1347) (fun _ h9 => h9) rfl (by decide +kernel) rfl rfl (Nat.le_of_ble_eq_true rfl) dX7_isMethodType_7 (fun H locs hP hD hS => ?_)
  have hi_6 : invX7 g ws_3 h0 [.ref r0_1, .int c1_1, .int c2_1, .int c3_1, .ref r4_1, .int c5_1, .int c6_1, .int c7_1, .int c8_1, .ref r9_1, .ref r10_1, .ref r11_1, .int 0, .int 0, .int c14_1, .int c15_1, .int c16_1] := ⟨r0_1, (n0_1), (c1_1), (c2_1), (c3_1), r4_1, (n4_1), (c5_1), (c6_1), (c7_1), (c8_1), r9_1, (n9_1), r10_1, (n10_1), r11_1, (n11_1), (0), (0), (c14_1), (c15_1), (c16_1), rfl, a_r0_1, f1_1, a_r4_1, f3_1, a_r9_1, f5_1, a_r10_1, f7_1, a_r11_1, f9_1, f10_1, f11_1, f12_1, f13_1, f14_1, trivial⟩
  obtain ⟨ws_7, e_ws_7⟩ : ∃ z, z = ws_3.set k_1 (h0, .inr (6, [.ref r0_1, .int c1_1, .int c2_1, .int c3_1, .ref r4_1, .int c5_1, .int c6_1, .int c7_1, .int c8_1, .ref r9_1, .ref r10_1, .ref r11_1, .int 0, .int 0, .int c14_1, .int c15_1, .int c16_1])) := ⟨_, rfl⟩
  have hP : va_P (gD g) cl0 ws_7 H := by rw [e_ws_7]; exact hP
  have hD : va_D A ws_7 := by rw [e_ws_7]; exact hD
  have E_8 : gE ws_3 ws_7 := gE_set e_ws_7 hk_1 (cw_o (fi := 13) (v := .int 0) rfl (by decide))
  have hG : Good g ws_7 := Good_set (fi := 13) (v := .int 0) e_ws_7 hk_1 E_8 rfl hV9 hG (ivX7 hi_6)
  have Fr_9 : gF [(6, 13)] [] (some h0) ws_3 ws_7 := gF_put (fi := 13) (v := .int 0) e_ws_7 hk_1 rfl (by decide)
  have hkN := gset_self e_ws_7 hk_1
  have hk_1 := hkN
  have o_h0 := E_8.1 _ _ o_h0
  have a_r0_1 := E_8.1 _ _ a_r0_1
  have a_r4_1 := E_8.1 _ _ a_r4_1
  have a_r9_1 := E_8.1 _ _ a_r9_1
  have a_r10_1 := E_8.1 _ _ a_r10_1
  have a_r11_1 := E_8.1 _ _ a_r11_1
  refine lv_aload_n hx hb dX7_isMethodType_10 rfl (lv_at hl 0 rfl) ?_
  refine lv_iconst (v := 0) hx hb dX7_isMethodType_11 (by decide) ?_
  have hV9 : okv ws_7 6 14 (.int 0) := okv_i
  refine va_put (D := gD g) (ci := 6) (v := .int 0) (ty := .int) (C := RX7) (T := TX7) (N := 17) hx hb hts inX7 tyX7 tyX7_ok nmX7 hown hK hP hD hS k_1 hk_1 rfl 14 (by decide) (hts _ kw_1348) (fun _ h9 => h9) rfl (by decide +kernel) rfl rfl (Nat.le_of_ble_eq_true rfl) dX7_isMethodType_12 (fun H locs hP hD hS => ?_)
  have hi_10 : invX7 g ws_7 h0 [.ref r0_1, .int c1_1, .int c2_1, .int c3_1, .ref r4_1, .int c5_1, .int c6_1, .int c7_1, .int c8_1, .ref r9_1, .ref r10_1, .ref r11_1, .int 0, .int 0, .int 0, .int c15_1, .int c16_1] := ⟨r0_1, (n0_1), (c1_1), (c2_1), (c3_1), r4_1, (n4_1), (c5_1), (c6_1), (c7_1), (c8_1), r9_1, (n9_1), r10_1, (n10_1), r11_1, (n11_1), (0), (0), (0), (c15_1), (c16_1), rfl, a_r0_1, f1_1, a_r4_1, f3_1, a_r9_1, f5_1, a_r10_1, f7_1, a_r11_1, f9_1, f10_1, f11_1, f12_1, f13_1, f14_1, trivial⟩
  obtain ⟨ws_11, e_ws_11⟩ : ∃ z, z = ws_7.set k_1 (h0, .inr (6, [.ref r0_1, .int c1_1, .int c2_1, .int c3_1, .ref r4_1, .int c5_1, .int c6_1, .int c7_1, .int c8_1, .ref r9_1, .ref r10_1, .ref r11_1, .int 0, .int 0, .int 0, .int c15_1, .int c16_1])) := ⟨_, rfl⟩
  have hP : va_P (gD g) cl0 ws_11 H := by rw [e_ws_11]; exact hP
  have hD : va_D A ws_11 := by rw [e_ws_11]; exact hD
  have E_12 : gE ws_7 ws_11 := gE_set e_ws_11 hk_1 (cw_o (fi := 14) (v := .int 0) rfl (by decide))
  have hG : Good g ws_11 := Good_set (fi := 14) (v := .int 0) e_ws_11 hk_1 E_12 rfl hV9 hG (ivX7 hi_10)
  have Fr_13 : gF [(6, 14)] [] (some h0) ws_7 ws_11 := gF_put (fi := 14) (v := .int 0) e_ws_11 hk_1 rfl (by decide)
  have hkN := gset_self e_ws_11 hk_1
  have hk_1 := hkN
  have o_h0 := E_12.1 _ _ o_h0
  have a_r0_1 := E_12.1 _ _ a_r0_1
  have a_r4_1 := E_12.1 _ _ a_r4_1
  have a_r9_1 := E_12.1 _ _ a_r9_1
  have a_r10_1 := E_12.1 _ _ a_r10_1
  have a_r11_1 := E_12.1 _ _ a_r11_1
  refine lv_aload_n hx hb dX7_isMethodType_15 rfl (lv_at hl 0 rfl) ?_
  refine lv_iload_n hx hb dX7_isMethodType_16 rfl (lv_at hl 1 rfl) ?_
  have hFc := gfree hD hS hA
  refine va_calli (va_runV (As := [.int x1]) (rest := []) ⟨hx, hb, hml, hown, hts⟩ (m_X7_nameLength l g H.size ws_11 h0 (x1) hG o_h0) (cwV 1 hts (gd_V kw_1349 kw_1406 kw_1407 kw_710 kw_1405) rfl rfl rfl (by decide +kernel) ⟨Nat.le_of_ble_eq_true rfl, Nat.le_of_ble_eq_true rfl⟩) ⟨gblind, va_recv hK hP (ci := 6) (q0 := k_1) rfl hk_1, fun U hU hW9 => gmk hU hW9 hP hK hD hex hE hS hFc⟩ rfl rfl hl.1 rfl (lv_room (Nat.le_of_ble_eq_true rfl)) dX7_isMethodType_17 ⟨Nat.le_of_ble_eq_true rfl, Nat.le_of_ble_eq_true rfl⟩) hS (fun q _ h => hFc q h) hFc (fun r_14 u9 t9 H1 locs ht9 hvm9 hw9 hB9 hz9 hk9 hS => ?_)
  have hP : va_P (gD g) cl0 ws_11 H1 := by rw [← ht9]; exact hB9.1
  have h_r_14 := hw9
  clear hB9 hz9 hk9 hvm9 ht9 hw9
  generalize H1 = H at hP hS ⊢
  refine lv_istore_n (lv' := [(2, .int r_14), (0, .ref h0), (1, .int x1)]) hx hb dX7_isMethodType_20 rfl hl (by decide) rfl (fun ls hl => ?_)
  refine lv_aload_n hx hb dX7_isMethodType_21 rfl (lv_at hl 1 rfl) ?_
  refine lv_iload_n hx hb dX7_isMethodType_22 rfl (lv_at hl 2 rfl) ?_
  refine lv_iconst (v := 0) hx hb dX7_isMethodType_23 (by decide) ?_
  have hFc := gfree hD hS hA
  refine va_calli (va_runV (As := [.int x1, .int 0]) (rest := []) ⟨hx, hb, hml, hown, hts⟩ (m_X7_nameSign l g H.size ws_11 h0 (x1) (0) hG o_h0) (cwV 2 hts (gd_V kw_1350 kw_1412 kw_1413 kw_710 kw_1411) rfl rfl rfl (by decide +kernel) ⟨Nat.le_of_ble_eq_true rfl, Nat.le_of_ble_eq_true rfl⟩) ⟨gblind, va_recv hK hP (ci := 6) (q0 := k_1) rfl hk_1, fun U hU hW9 => gmk hU hW9 hP hK hD hex hE hS hFc⟩ rfl rfl hl.1 rfl (lv_room (Nat.le_of_ble_eq_true rfl)) dX7_isMethodType_24 ⟨Nat.le_of_ble_eq_true rfl, Nat.le_of_ble_eq_true rfl⟩) hS (fun q _ h => hFc q h) hFc (fun r_15 u9 t9 H1 locs ht9 hvm9 hw9 hB9 hz9 hk9 hS => ?_)
  have hP : va_P (gD g) cl0 ws_11 H1 := by rw [← ht9]; exact hB9.1
  have h_r_15 := hw9
  clear hB9 hz9 hk9 hvm9 ht9 hw9
  generalize H1 = H at hP hS ⊢
  refine lv_bipush (v := 40) hx hb dX7_isMethodType_27 (by decide) ?_
  refine lv_icmp_eq (tgt := 34) hx hb dX7_isMethodType_29 (by decide) (fun c_16 => ?_) (fun c_16 => ?_)
  · refine lv_iconst (v := 1) hx hb dX7_isMethodType_34 (by decide) ?_
    refine lv_istore_n (lv' := [(3, .int 1), (2, .int r_14), (0, .ref h0), (1, .int x1)]) hx hb dX7_isMethodType_35 rfl hl (by decide) rfl (fun ls hl => ?_)
    refine lv_aload_n hx hb dX7_isMethodType_36 rfl (lv_at hl 2 rfl) ?_
    refine lv_iload_n hx hb dX7_isMethodType_37 rfl (lv_at hl 3 rfl) ?_
    refine lv_iload_n hx hb dX7_isMethodType_38 rfl (lv_at hl 0 rfl) ?_
    have hFc := gfree hD hS hA
    refine va_calli (va_runV (As := [.int x1, .int 1]) (rest := []) ⟨hx, hb, hml, hown, hts⟩ (m_X7_kindOfPart l g H.size ws_11 h0 (x1) (1) hG o_h0) (cwV 2 hts (gd_V kw_1351 kw_1385 kw_1386 kw_710 kw_1384) rfl rfl rfl (by decide +kernel) ⟨Nat.le_of_ble_eq_true rfl, Nat.le_of_ble_eq_true rfl⟩) ⟨gblind, va_recv hK hP (ci := 6) (q0 := k_1) rfl hk_1, fun U hU hW9 => gmk hU hW9 hP hK hD hex hE hS hFc⟩ rfl rfl hl.1 rfl (lv_room (Nat.le_of_ble_eq_true rfl)) dX7_isMethodType_39 ⟨Nat.le_of_ble_eq_true rfl, Nat.le_of_ble_eq_true rfl⟩) hS (fun q _ h => hFc q h) hFc (fun r_17 u9 t9 H1 locs ht9 hvm9 hw9 hB9 hz9 hk9 hS => ?_)
    have hP : va_P (gD g) cl0 ws_11 H1 := by rw [← ht9]; exact hB9.1
    have h_r_17 := hw9
    clear hB9 hz9 hk9 hvm9 ht9 hw9
    generalize H1 = H at hP hS ⊢
    refine lv_istore (lv' := [(4, .int r_17), (3, .int 1), (2, .int r_14), (0, .ref h0), (1, .int x1)]) hx hb dX7_isMethodType_42 hl (by decide) rfl (fun ls hl => ?_)
    have J_44 : ∀ (n9 : Nat) (v3_18 : Int32) (v4_19 : Int32) (ws_21 : va_W) (H : Heap) (locs : List Loc) (ls : Array Slot), (2147483647 - v3_18.toInt).toNat = n9 → 0 ≤ v3_18.toInt → gE ws_11 ws_21 → gF [(6, 12), (6, 13)] [] none ws_11 ws_21 → Good g ws_21 → va_P (gD g) cl0 ws_21 H → va_D A ws_21 → va_S A s.heap H locs → lv_has ls 5 [(0, .ref h0), (1, .int x1), (2, .int r_14), (3, .int v3_18), (4, .int v4_19)] → W p l e (headSpec (wt yX7_isMethodType cX7_isMethodType 5 (some .boolean)) ({ frames := 3, cells := 0, slots := 0, locals := 65 })).room s m ([.ref h0, .int x1] : List Value).toArray below meth c H locs (0) (0) (MQ below (va_Qi (fun (r : Int32) (u9 : va_W) => r = 0 ∨ r = 1) (gQ1 g [(6, 12), (6, 13), (6, 14)] [] none A ws) A) ([.ref h0, .int x1] : List Value).toArray s (0) (0) A) (F0 m 44 ls []) := by
      intro n9
      induction n9 using Nat.strongRecOn with
      | ind n9 ih_44 =>
        intro v3_18 v4_19 ws_21 H locs ls hm9 iv_20 E_22 Fr_23 hG hP hD hS hl
        subst hm9
        have aa_24 := a_r0_1
        have aa_25 := a_r4_1
        have aa_26 := a_r9_1
        have aa_27 := a_r10_1
        have aa_28 := a_r11_1
        have o_h0 := E_22.1 _ _ o_h0
        refine lv_iload hx hb dX7_isMethodType_44 (lv_at hl 4 rfl) ?_
        have J_112 : ∀  (H : Heap) (locs : List Loc) (ls : Array Slot), va_P (gD g) cl0 ws_21 H → va_D A ws_21 → va_S A s.heap H locs → lv_has ls 5 [(0, .ref h0), (1, .int x1), (2, .int r_14), (3, .int v3_18)] → W p l e (headSpec (wt yX7_isMethodType cX7_isMethodType 5 (some .boolean)) ({ frames := 3, cells := 0, slots := 0, locals := 65 })).room s m ([.ref h0, .int x1] : List Value).toArray below meth c H locs (0) (0) (MQ below (va_Qi (fun (r : Int32) (u9 : va_W) => r = 0 ∨ r = 1) (gQ1 g [(6, 12), (6, 13), (6, 14)] [] none A ws) A) ([.ref h0, .int x1] : List Value).toArray s (0) (0) A) (F0 m 112 ls []) := by
          intro  H locs ls  hP hD hS hl
          refine lv_iload_n hx hb dX7_isMethodType_112 rfl (lv_at hl 3 rfl) ?_
          refine lv_iconst (v := 1) hx hb dX7_isMethodType_113 (by decide) ?_
          refine lv_iadd hx hb dX7_isMethodType_114 ?_
          refine lv_topi (fun z_31 ez_31 => ?_)
          refine lv_iload_n hx hb dX7_isMethodType_115 rfl (lv_at hl 2 rfl) ?_
          have J_130 : ∀  (H : Heap) (locs : List Loc) (ls : Array Slot), va_P (gD g) cl0 ws_21 H → va_D A ws_21 → va_S A s.heap H locs → lv_has ls 5 [] → W p l e (headSpec (wt yX7_isMethodType cX7_isMethodType 5 (some .boolean)) ({ frames := 3, cells := 0, slots := 0, locals := 65 })).room s m ([.ref h0, .int x1] : List Value).toArray below meth c H locs (0) (0) (MQ below (va_Qi (fun (r : Int32) (u9 : va_W) => r = 0 ∨ r = 1) (gQ1 g [(6, 12), (6, 13), (6, 14)] [] none A ws) A) ([.ref h0, .int x1] : List Value).toArray s (0) (0) A) (F0 m 130 ls []) := by
            intro  H locs ls  hP hD hS hl
            refine lv_iconst (v := 0) hx hb dX7_isMethodType_130 (by decide) ?_
            refine W.widen (k := 0) (n := 0) (Nat.le_of_ble_eq_true rfl) (Nat.le_of_ble_eq_true rfl) ?_
            exact W.zret (v := 0) hx hb hr (nz (Or.inl rfl)) (fun t9 ht9 hW9 => ⟨⟨_, ws_21, rfl, (Or.inl rfl), ⟨(E_4.tr (E_8.tr (E_12.tr E_22))), (gF.tr (gF.mo (F' := [(6, 12), (6, 13), (6, 14)]) (C' := []) (S' := none) Fr_5 (by decide) (fun _ h => h) (Or.inl rfl)) (gF.tr (gF.mo (F' := [(6, 12), (6, 13), (6, 14)]) (C' := []) (S' := none) Fr_9 (by decide) (fun _ h => h) (Or.inl rfl)) (gF.tr (gF.mo (F' := [(6, 12), (6, 13), (6, 14)]) (C' := []) (S' := none) Fr_13 (by decide) (fun _ h => h) (Or.inl rfl)) (gF.mo (F' := [(6, 12), (6, 13), (6, 14)]) (C' := []) (S' := none) Fr_23 (by decide) (fun _ h => h) (Or.inr rfl))))), hG, by rw [ht9]; exact hP, hD⟩⟩, hS.F ht9⟩) hS.2.2 dX7_isMethodType_131
          refine lv_icmp_ge (tgt := 130) hx hb dX7_isMethodType_116 (by decide) (fun c_34 => ?_) (fun c_34 => ?_)
          · exact J_130  H locs ls  hP hD hS (lv_sub hl [] rfl)
          · refine lv_aload_n hx hb dX7_isMethodType_119 rfl (lv_at hl 0 rfl) ?_
            refine lv_iload_n hx hb dX7_isMethodType_120 rfl (lv_at hl 1 rfl) ?_
            refine lv_iload_n hx hb dX7_isMethodType_121 rfl (lv_at hl 3 rfl) ?_
            have hFc := gfree hD hS hA
            obtain ⟨k_35, fs_35, hk_35⟩ := gC_of o_h0
            refine va_calli (va_runV (As := [.int x1, .int v3_18]) (rest := []) ⟨hx, hb, hml, hown, hts⟩ (m_X7_nameSign l g H.size ws_21 h0 (x1) (v3_18) hG o_h0) (cwV 2 hts (gd_V kw_1350 kw_1412 kw_1413 kw_710 kw_1411) rfl rfl rfl (by decide +kernel) ⟨Nat.le_of_ble_eq_true rfl, Nat.le_of_ble_eq_true rfl⟩) ⟨gblind, va_recv hK hP (ci := 6) (q0 := k_35) rfl hk_35, fun U hU hW9 => gmk hU hW9 hP hK hD hex hE hS hFc⟩ rfl rfl hl.1 rfl (lv_room (Nat.le_of_ble_eq_true rfl)) dX7_isMethodType_122 ⟨Nat.le_of_ble_eq_true rfl, Nat.le_of_ble_eq_true rfl⟩) hS (fun q _ h => hFc q h) hFc (fun r_36 u9 t9 H1 locs ht9 hvm9 hw9 hB9 hz9 hk9 hS => ?_)
            have hP : va_P (gD g) cl0 ws_21 H1 := by rw [← ht9]; exact hB9.1
            have h_r_36 := hw9
            clear hB9 hz9 hk9 hvm9 ht9 hw9
            generalize H1 = H at hP hS ⊢
            refine lv_bipush (v := 41) hx hb dX7_isMethodType_125 (by decide) ?_
            refine lv_icmp_eq (tgt := 132) hx hb dX7_isMethodType_127 (by decide) (fun c_37 => ?_) (fun c_37 => ?_)
            · obtain ⟨z_38, ez_38⟩ : ∃ z : Int32, v3_18 + Int32.ofInt 1 = z := ⟨_, rfl⟩
              refine lv_iinc (v := z_38) (lv' := [(3, .int z_38), (0, .ref h0), (1, .int x1), (2, .int r_14)]) hx hb dX7_isMethodType_132 hl (k := 3) rfl ez_38 (by decide) rfl (fun ls hl => ?_)
              refine lv_aload_n hx hb dX7_isMethodType_135 rfl (lv_at hl 1 rfl) ?_
              refine lv_aload_n hx hb dX7_isMethodType_136 rfl (lv_at hl 1 rfl) ?_
              refine lv_iload_n hx hb dX7_isMethodType_137 rfl (lv_at hl 2 rfl) ?_
              refine lv_iload_n hx hb dX7_isMethodType_138 rfl (lv_at hl 0 rfl) ?_
              have hFc := gfree hD hS hA
              obtain ⟨k_39, fs_39, hk_39⟩ := gC_of o_h0
              refine va_calli (va_runV (As := [.int x1, .int z_38]) (rest := [.ref h0]) ⟨hx, hb, hml, hown, hts⟩ (m_X7_kindOfPart l g H.size ws_21 h0 (x1) (z_38) hG o_h0) (cwV 2 hts (gd_V kw_1351 kw_1385 kw_1386 kw_710 kw_1384) rfl rfl rfl (by decide +kernel) ⟨Nat.le_of_ble_eq_true rfl, Nat.le_of_ble_eq_true rfl⟩) ⟨gblind, va_recv hK hP (ci := 6) (q0 := k_39) rfl hk_39, fun U hU hW9 => gmk hU hW9 hP hK hD hex hE hS hFc⟩ rfl rfl hl.1 rfl (lv_room (Nat.le_of_ble_eq_true rfl)) dX7_isMethodType_139 ⟨Nat.le_of_ble_eq_true rfl, Nat.le_of_ble_eq_true rfl⟩) hS (fun q _ h => hFc q h) hFc (fun r_40 u9 t9 H1 locs ht9 hvm9 hw9 hB9 hz9 hk9 hS => ?_)
              have hP : va_P (gD g) cl0 ws_21 H1 := by rw [← ht9]; exact hB9.1
              have h_r_40 := hw9
              clear hB9 hz9 hk9 hvm9 ht9 hw9
              generalize H1 = H at hP hS ⊢
              obtain ⟨fs9, hk_41, hq_41⟩ := ((gF.a (F' := [(6, 12), (6, 13)]) Fr_23 (fun _ h => h))) _ _ _ hk_1
              obtain ⟨r0_41, n0_41, c1_41, c2_41, c3_41, r4_41, n4_41, c5_41, c6_41, c7_41, c8_41, r9_41, n9_41, r10_41, n10_41, r11_41, n11_41, c12_41, c13_41, c14_41, c15_41, c16_41, rfl, a_r0_41, f1_41, a_r4_41, f3_41, a_r9_41, f5_41, a_r10_41, f7_41, a_r11_41, f9_41, f10_41, f11_41, f12_41, f13_41, f14_41, -⟩ := (hG.1 _ _ _ _ hk_41).hX7 rfl
              obtain rfl := fe_i (hq_41 14 (by decide))
              have hV9 : okv ws_21 6 14 (.int r_40) := okv_i
              refine va_put (D := gD g) (ci := 6) (v := .int r_40) (ty := .int) (C := RX7) (T := TX7) (N := 17) hx hb hts inX7 tyX7 tyX7_ok nmX7 hown hK hP hD hS k_1 hk_41 rfl 14 (by decide) (hts _ kw_1348) (fun _ h9 => h9) rfl (by decide +kernel) rfl rfl (Nat.le_of_ble_eq_true rfl) dX7_isMethodType_142 (fun H locs hP hD hS => ?_)
              have hi_42 : invX7 g ws_21 h0 [.ref r0_41, .int c1_41, .int c2_41, .int c3_41, .ref r4_41, .int c5_41, .int c6_41, .int c7_41, .int c8_41, .ref r9_41, .ref r10_41, .ref r11_41, .int c12_41, .int c13_41, .int r_40, .int c15_41, .int c16_41] := ⟨r0_41, (n0_41), (c1_41), (c2_41), (c3_41), r4_41, (n4_41), (c5_41), (c6_41), (c7_41), (c8_41), r9_41, (n9_41), r10_41, (n10_41), r11_41, (n11_41), (c12_41), (c13_41), (r_40), (c15_41), (c16_41), rfl, a_r0_41, f1_41, a_r4_41, f3_41, a_r9_41, f5_41, a_r10_41, f7_41, a_r11_41, f9_41, f10_41, f11_41, f12_41, f13_41, f14_41, trivial⟩
              obtain ⟨ws_43, e_ws_43⟩ : ∃ z, z = ws_21.set k_1 (h0, .inr (6, [.ref r0_41, .int c1_41, .int c2_41, .int c3_41, .ref r4_41, .int c5_41, .int c6_41, .int c7_41, .int c8_41, .ref r9_41, .ref r10_41, .ref r11_41, .int c12_41, .int c13_41, .int r_40, .int c15_41, .int c16_41])) := ⟨_, rfl⟩
              have hP : va_P (gD g) cl0 ws_43 H := by rw [e_ws_43]; exact hP
              have hD : va_D A ws_43 := by rw [e_ws_43]; exact hD
              have E_44 : gE ws_21 ws_43 := gE_set e_ws_43 hk_41 (cw_o (fi := 14) (v := .int r_40) rfl (by decide))
              have hG : Good g ws_43 := Good_set (fi := 14) (v := .int r_40) e_ws_43 hk_41 E_44 rfl hV9 hG (ivX7 hi_42)
              have Fr_45 : gF [(6, 14)] [] (some h0) ws_21 ws_43 := gF_put (fi := 14) (v := .int r_40) e_ws_43 hk_41 rfl (by decide)
              have hkN := gset_self e_ws_43 hk_41
              have hk_41 := hkN
              have o_h0 := E_44.1 _ _ o_h0
              have a_r0_41 := E_44.1 _ _ a_r0_41
              have a_r4_41 := E_44.1 _ _ a_r4_41
              have a_r9_41 := E_44.1 _ _ a_r9_41
              have a_r10_41 := E_44.1 _ _ a_r10_41
              have a_r11_41 := E_44.1 _ _ a_r11_41
              refine lv_aload_n hx hb dX7_isMethodType_145 rfl (lv_at hl 1 rfl) ?_
              refine va_get (D := gD g) (ci := 6) (v := .int r_40) (C := RX7) (T := TX7) (N := 17) hx hb hts inX7 hown hK hP k_1 hk_41 rfl 14 (by decide) (hts _ kw_1348) (fun _ h9 => h9) rfl dX7_isMethodType_146 ?_
              have J_165 : ∀  (H : Heap) (locs : List Loc) (ls : Array Slot), va_P (gD g) cl0 ws_43 H → va_D A ws_43 → va_S A s.heap H locs → lv_has ls 5 [(0, .ref h0), (2, .int r_14), (3, .int z_38)] → W p l e (headSpec (wt yX7_isMethodType cX7_isMethodType 5 (some .boolean)) ({ frames := 3, cells := 0, slots := 0, locals := 65 })).room s m ([.ref h0, .int x1] : List Value).toArray below meth c H locs (0) (0) (MQ below (va_Qi (fun (r : Int32) (u9 : va_W) => r = 0 ∨ r = 1) (gQ1 g [(6, 12), (6, 13), (6, 14)] [] none A ws) A) ([.ref h0, .int x1] : List Value).toArray s (0) (0) A) (F0 m 165 ls []) := by
                intro  H locs ls  hP hD hS hl
                refine lv_iload_n hx hb dX7_isMethodType_165 rfl (lv_at hl 2 rfl) ?_
                refine lv_aload_n hx hb dX7_isMethodType_166 rfl (lv_at hl 0 rfl) ?_
                refine va_get (D := gD g) (ci := 6) (v := .int r_40) (C := RX7) (T := TX7) (N := 17) hx hb hts inX7 hown hK hP k_1 hk_41 rfl 14 (by decide) (hts _ kw_1348) (fun _ h9 => h9) rfl dX7_isMethodType_167 ?_
                refine lv_iconst (v := 3) hx hb dX7_isMethodType_170 (by decide) ?_
                have J_179 : ∀ (t_48 : Int32) (H : Heap) (locs : List Loc) (ls : Array Slot), 1 ≤ t_48.toInt ∧ t_48.toInt ≤ 2 → va_P (gD g) cl0 ws_43 H → va_D A ws_43 → va_S A s.heap H locs → lv_has ls 5 [(2, .int r_14)] → W p l e (headSpec (wt yX7_isMethodType cX7_isMethodType 5 (some .boolean)) ({ frames := 3, cells := 0, slots := 0, locals := 65 })).room s m ([.ref h0, .int x1] : List Value).toArray below meth c H locs (0) (0) (MQ below (va_Qi (fun (r : Int32) (u9 : va_W) => r = 0 ∨ r = 1) (gQ1 g [(6, 12), (6, 13), (6, 14)] [] none A ws) A) ([.ref h0, .int x1] : List Value).toArray s (0) (0) A) (F0 m 179 ls [.int t_48, .int z_38]) := by
                  intro t_48 H locs ls iv_49 hP hD hS hl
                  refine lv_iadd hx hb dX7_isMethodType_179 ?_
                  refine lv_topi (fun z_52 ez_52 => ?_)
                  refine lv_iload_n hx hb dX7_isMethodType_180 rfl (lv_at hl 0 rfl) ?_
                  have J_189 : ∀ (t_53 : Int32) (H : Heap) (locs : List Loc) (ls : Array Slot), t_53 = 0 ∨ t_53 = 1 → va_P (gD g) cl0 ws_43 H → va_D A ws_43 → va_S A s.heap H locs → lv_has ls 5 [] → W p l e (headSpec (wt yX7_isMethodType cX7_isMethodType 5 (some .boolean)) ({ frames := 3, cells := 0, slots := 0, locals := 65 })).room s m ([.ref h0, .int x1] : List Value).toArray below meth c H locs (0) (0) (MQ below (va_Qi (fun (r : Int32) (u9 : va_W) => r = 0 ∨ r = 1) (gQ1 g [(6, 12), (6, 13), (6, 14)] [] none A ws) A) ([.ref h0, .int x1] : List Value).toArray s (0) (0) A) (F0 m 189 ls [.int t_53]) := by
                    intro t_53 H locs ls iv_54 hP hD hS hl
                    have hz_t_53 := iv_54
                    refine W.widen (k := 0) (n := 0) (Nat.le_of_ble_eq_true rfl) (Nat.le_of_ble_eq_true rfl) ?_
                    exact W.zret (v := t_53) hx hb hr (nz hz_t_53) (fun t9 ht9 hW9 => ⟨⟨_, ws_43, rfl, hz_t_53, ⟨(E_4.tr (E_8.tr (E_12.tr (E_22.tr E_44)))), (gF.tr (gF.mo (F' := [(6, 12), (6, 13), (6, 14)]) (C' := []) (S' := none) Fr_5 (by decide) (fun _ h => h) (Or.inl rfl)) (gF.tr (gF.mo (F' := [(6, 12), (6, 13), (6, 14)]) (C' := []) (S' := none) Fr_9 (by decide) (fun _ h => h) (Or.inl rfl)) (gF.tr (gF.mo (F' := [(6, 12), (6, 13), (6, 14)]) (C' := []) (S' := none) Fr_13 (by decide) (fun _ h => h) (Or.inl rfl)) (gF.tr (gF.mo (F' := [(6, 12), (6, 13), (6, 14)]) (C' := []) (S' := none) Fr_23 (by decide) (fun _ h => h) (Or.inr rfl)) (gF.mo (F' := [(6, 12), (6, 13), (6, 14)]) (C' := []) (S' := none) Fr_45 (by decide) (fun _ h => h) (Or.inl rfl)))))), hG, by rw [ht9]; exact hP, hD⟩⟩, hS.F ht9⟩) hS.2.2 dX7_isMethodType_189
                  refine lv_icmp_ne (tgt := 188) hx hb dX7_isMethodType_181 (by decide) (fun c_57 => ?_) (fun c_57 => ?_)
                  · refine lv_iconst (v := 0) hx hb dX7_isMethodType_188 (by decide) ?_
                    exact J_189 (0) H locs ls (Or.inl rfl) hP hD hS (lv_sub hl [] rfl)
                  · refine lv_iconst (v := 1) hx hb dX7_isMethodType_184 (by decide) ?_
                    refine lv_goto (tgt := 189) hx hb dX7_isMethodType_185 (by decide) ?_
                    exact J_189 (1) H locs ls (Or.inr rfl) hP hD hS (lv_sub hl [] rfl)
                refine lv_icmp_ne (tgt := 178) hx hb dX7_isMethodType_171 (by decide) (fun c_58 => ?_) (fun c_58 => ?_)
                · refine lv_iconst (v := 1) hx hb dX7_isMethodType_178 (by decide) ?_
                  exact J_179 (1) H locs ls (by have e1 : (1 : Int32).toInt = 1 := (by decide); have g_x1 := i_rg x1; omega) hP hD hS (lv_sub hl [1] rfl)
                · refine lv_iconst (v := 2) hx hb dX7_isMethodType_174 (by decide) ?_
                  refine lv_goto (tgt := 179) hx hb dX7_isMethodType_175 (by decide) ?_
                  exact J_179 (2) H locs ls (by have e2 : (2 : Int32).toInt = 2 := (by decide); have g_x1 := i_rg x1; omega) hP hD hS (lv_sub hl [1] rfl)
              refine lv_if_ne (tgt := 165) hx hb dX7_isMethodType_149 (by decide) (fun c_59 => ?_) (fun c_59 => ?_)
              · exact J_165  H locs ls  hP hD hS (lv_sub hl [1, 3, 0] rfl)
              · refine lv_aload_n hx hb dX7_isMethodType_152 rfl (lv_at hl 1 rfl) ?_
                refine lv_iload_n hx hb dX7_isMethodType_153 rfl (lv_at hl 2 rfl) ?_
                refine lv_iload_n hx hb dX7_isMethodType_154 rfl (lv_at hl 0 rfl) ?_
                have hFc := gfree hD hS hA
                refine va_calli (va_runV (As := [.int x1, .int z_38]) (rest := []) ⟨hx, hb, hml, hown, hts⟩ (m_X7_nameSign l g H.size ws_43 h0 (x1) (z_38) hG o_h0) (cwV 2 hts (gd_V kw_1350 kw_1412 kw_1413 kw_710 kw_1411) rfl rfl rfl (by decide +kernel) ⟨Nat.le_of_ble_eq_true rfl, Nat.le_of_ble_eq_true rfl⟩) ⟨gblind, va_recv hK hP (ci := 6) (q0 := k_1) rfl hk_41, fun U hU hW9 => gmk hU hW9 hP hK hD hex hE hS hFc⟩ rfl rfl hl.1 rfl (lv_room (Nat.le_of_ble_eq_true rfl)) dX7_isMethodType_155 ⟨Nat.le_of_ble_eq_true rfl, Nat.le_of_ble_eq_true rfl⟩) hS (fun q _ h => hFc q h) hFc (fun r_60 u9 t9 H1 locs ht9 hvm9 hw9 hB9 hz9 hk9 hS => ?_)
                have hP : va_P (gD g) cl0 ws_43 H1 := by rw [← ht9]; exact hB9.1
                have h_r_60 := hw9
                clear hB9 hz9 hk9 hvm9 ht9 hw9
                generalize H1 = H at hP hS ⊢
                refine lv_bipush (v := 86) hx hb dX7_isMethodType_158 (by decide) ?_
                refine lv_icmp_eq (tgt := 165) hx hb dX7_isMethodType_160 (by decide) (fun c_61 => ?_) (fun c_61 => ?_)
                · exact J_165  H locs ls  hP hD hS (lv_sub hl [1, 3, 0] rfl)
                · refine lv_iconst (v := 0) hx hb dX7_isMethodType_163 (by decide) ?_
                  refine W.widen (k := 0) (n := 0) (Nat.le_of_ble_eq_true rfl) (Nat.le_of_ble_eq_true rfl) ?_
                  exact W.zret (v := 0) hx hb hr (nz (Or.inl rfl)) (fun t9 ht9 hW9 => ⟨⟨_, ws_43, rfl, (Or.inl rfl), ⟨(E_4.tr (E_8.tr (E_12.tr (E_22.tr E_44)))), (gF.tr (gF.mo (F' := [(6, 12), (6, 13), (6, 14)]) (C' := []) (S' := none) Fr_5 (by decide) (fun _ h => h) (Or.inl rfl)) (gF.tr (gF.mo (F' := [(6, 12), (6, 13), (6, 14)]) (C' := []) (S' := none) Fr_9 (by decide) (fun _ h => h) (Or.inl rfl)) (gF.tr (gF.mo (F' := [(6, 12), (6, 13), (6, 14)]) (C' := []) (S' := none) Fr_13 (by decide) (fun _ h => h) (Or.inl rfl)) (gF.tr (gF.mo (F' := [(6, 12), (6, 13), (6, 14)]) (C' := []) (S' := none) Fr_23 (by decide) (fun _ h => h) (Or.inr rfl)) (gF.mo (F' := [(6, 12), (6, 13), (6, 14)]) (C' := []) (S' := none) Fr_45 (by decide) (fun _ h => h) (Or.inl rfl)))))), hG, by rw [ht9]; exact hP, hD⟩⟩, hS.F ht9⟩) hS.2.2 dX7_isMethodType_164
            · exact J_130  H locs ls  hP hD hS (lv_sub hl [] rfl)
        refine lv_if_eq (tgt := 112) hx hb dX7_isMethodType_46 (by decide) (fun c_62 => ?_) (fun c_62 => ?_)
        · exact J_112  H locs ls  hP hD hS (lv_sub hl [0, 1, 2, 3] rfl)
        · refine lv_iload_n hx hb dX7_isMethodType_49 rfl (lv_at hl 3 rfl) ?_
          refine lv_iload_n hx hb dX7_isMethodType_50 rfl (lv_at hl 2 rfl) ?_
          refine lv_icmp_ge (tgt := 112) hx hb dX7_isMethodType_51 (by decide) (fun c_63 => ?_) (fun c_63 => ?_)
          · exact J_112  H locs ls  hP hD hS (lv_sub hl [0, 1, 2, 3] rfl)
          · refine lv_aload_n hx hb dX7_isMethodType_54 rfl (lv_at hl 0 rfl) ?_
            refine lv_aload_n hx hb dX7_isMethodType_55 rfl (lv_at hl 0 rfl) ?_
            obtain ⟨fs9, hk_64, hq_64⟩ := ((gF.a (F' := [(6, 12), (6, 13)]) Fr_23 (fun _ h => h))) _ _ _ hk_1
            obtain ⟨r0_64, n0_64, c1_64, c2_64, c3_64, r4_64, n4_64, c5_64, c6_64, c7_64, c8_64, r9_64, n9_64, r10_64, n10_64, r11_64, n11_64, c12_64, c13_64, c14_64, c15_64, c16_64, rfl, a_r0_64, f1_64, a_r4_64, f3_64, a_r9_64, f5_64, a_r10_64, f7_64, a_r11_64, f9_64, f10_64, f11_64, f12_64, f13_64, f14_64, -⟩ := (hG.1 _ _ _ _ hk_64).hX7 rfl
            obtain rfl := fe_i (hq_64 14 (by decide))
            refine va_get (D := gD g) (ci := 6) (v := .int c12_64) (C := RX7) (T := TX7) (N := 17) hx hb hts inX7 hown hK hP k_1 hk_64 rfl 12 (by decide) (hts _ kw_1346) (fun _ h9 => h9) rfl dX7_isMethodType_56 ?_
            refine lv_iconst (v := 4) hx hb dX7_isMethodType_59 (by decide) ?_
            refine lv_ishl hx hb dX7_isMethodType_60 ?_
            refine lv_topi (fun z_65 ez_65 => ?_)
            refine lv_iload hx hb dX7_isMethodType_61 (lv_at hl 4 rfl) ?_
            refine lv_ior hx hb dX7_isMethodType_63 ?_
            refine lv_topi (fun z_66 ez_66 => ?_)
            have hV9 : okv ws_21 6 12 (.int z_66) := okv_i
            refine va_put (D := gD g) (ci := 6) (v := .int z_66) (ty := .int) (C := RX7) (T := TX7) (N := 17) hx hb hts inX7 tyX7 tyX7_ok nmX7 hown hK hP hD hS k_1 hk_64 rfl 12 (by decide) (hts _ kw_1346) (fun _ h9 => h9) rfl (by decide +kernel) rfl rfl (Nat.le_of_ble_eq_true rfl) dX7_isMethodType_64 (fun H locs hP hD hS => ?_)
            have hi_67 : invX7 g ws_21 h0 [.ref r0_64, .int c1_64, .int c2_64, .int c3_64, .ref r4_64, .int c5_64, .int c6_64, .int c7_64, .int c8_64, .ref r9_64, .ref r10_64, .ref r11_64, .int z_66, .int c13_64, .int 0, .int c15_64, .int c16_64] := ⟨r0_64, (n0_64), (c1_64), (c2_64), (c3_64), r4_64, (n4_64), (c5_64), (c6_64), (c7_64), (c8_64), r9_64, (n9_64), r10_64, (n10_64), r11_64, (n11_64), (z_66), (c13_64), (0), (c15_64), (c16_64), rfl, a_r0_64, f1_64, a_r4_64, f3_64, a_r9_64, f5_64, a_r10_64, f7_64, a_r11_64, f9_64, f10_64, f11_64, f12_64, f13_64, f14_64, trivial⟩
            obtain ⟨ws_68, e_ws_68⟩ : ∃ z, z = ws_21.set k_1 (h0, .inr (6, [.ref r0_64, .int c1_64, .int c2_64, .int c3_64, .ref r4_64, .int c5_64, .int c6_64, .int c7_64, .int c8_64, .ref r9_64, .ref r10_64, .ref r11_64, .int z_66, .int c13_64, .int 0, .int c15_64, .int c16_64])) := ⟨_, rfl⟩
            have hP : va_P (gD g) cl0 ws_68 H := by rw [e_ws_68]; exact hP
            have hD : va_D A ws_68 := by rw [e_ws_68]; exact hD
            have E_69 : gE ws_21 ws_68 := gE_set e_ws_68 hk_64 (cw_o (fi := 12) (v := .int z_66) rfl (by decide))
            have hG : Good g ws_68 := Good_set (fi := 12) (v := .int z_66) e_ws_68 hk_64 E_69 rfl hV9 hG (ivX7 hi_67)
            have Fr_70 : gF [(6, 12)] [] (some h0) ws_21 ws_68 := gF_put (fi := 12) (v := .int z_66) e_ws_68 hk_64 rfl (by decide)
            have hkN := gset_self e_ws_68 hk_64
            have hk_64 := hkN
            have o_h0 := E_69.1 _ _ o_h0
            have a_r0_64 := E_69.1 _ _ a_r0_64
            have a_r4_64 := E_69.1 _ _ a_r4_64
            have a_r9_64 := E_69.1 _ _ a_r9_64
            have a_r10_64 := E_69.1 _ _ a_r10_64
            have a_r11_64 := E_69.1 _ _ a_r11_64
            refine lv_aload_n hx hb dX7_isMethodType_67 rfl (lv_at hl 0 rfl) ?_
            refine lv_dup hx hb dX7_isMethodType_68 rfl ?_
            refine va_get (D := gD g) (ci := 6) (v := .int c13_64) (C := RX7) (T := TX7) (N := 17) hx hb hts inX7 hown hK hP k_1 hk_64 rfl 13 (by decide) (hts _ kw_1347) (fun _ h9 => h9) rfl dX7_isMethodType_69 ?_
            refine lv_iload hx hb dX7_isMethodType_72 (lv_at hl 4 rfl) ?_
            refine lv_iconst (v := 2) hx hb dX7_isMethodType_74 (by decide) ?_
            have J_83 : ∀ (t_71 : Int32) (H : Heap) (locs : List Loc) (ls : Array Slot), 1 ≤ t_71.toInt ∧ t_71.toInt ≤ 2 → va_P (gD g) cl0 ws_68 H → va_D A ws_68 → va_S A s.heap H locs → lv_has ls 5 [(0, .ref h0), (1, .int x1), (2, .int r_14), (3, .int v3_18), (4, .int v4_19)] → W p l e (headSpec (wt yX7_isMethodType cX7_isMethodType 5 (some .boolean)) ({ frames := 3, cells := 0, slots := 0, locals := 65 })).room s m ([.ref h0, .int x1] : List Value).toArray below meth c H locs (0) (0) (MQ below (va_Qi (fun (r : Int32) (u9 : va_W) => r = 0 ∨ r = 1) (gQ1 g [(6, 12), (6, 13), (6, 14)] [] none A ws) A) ([.ref h0, .int x1] : List Value).toArray s (0) (0) A) (F0 m 83 ls [.int t_71, .int c13_64, .ref h0]) := by
              intro t_71 H locs ls iv_72 hP hD hS hl
              refine lv_iadd hx hb dX7_isMethodType_83 ?_
              refine lv_topi (fun z_75 ez_75 => ?_)
              have hV9 : okv ws_68 6 13 (.int z_75) := okv_i
              refine va_put (D := gD g) (ci := 6) (v := .int z_75) (ty := .int) (C := RX7) (T := TX7) (N := 17) hx hb hts inX7 tyX7 tyX7_ok nmX7 hown hK hP hD hS k_1 hk_64 rfl 13 (by decide) (hts _ kw_1347) (fun _ h9 => h9) rfl (by decide +kernel) rfl rfl (Nat.le_of_ble_eq_true rfl) dX7_isMethodType_84 (fun H locs hP hD hS => ?_)
              have hi_76 : invX7 g ws_68 h0 [.ref r0_64, .int c1_64, .int c2_64, .int c3_64, .ref r4_64, .int c5_64, .int c6_64, .int c7_64, .int c8_64, .ref r9_64, .ref r10_64, .ref r11_64, .int z_66, .int z_75, .int 0, .int c15_64, .int c16_64] := ⟨r0_64, (n0_64), (c1_64), (c2_64), (c3_64), r4_64, (n4_64), (c5_64), (c6_64), (c7_64), (c8_64), r9_64, (n9_64), r10_64, (n10_64), r11_64, (n11_64), (z_66), (z_75), (0), (c15_64), (c16_64), rfl, a_r0_64, f1_64, a_r4_64, f3_64, a_r9_64, f5_64, a_r10_64, f7_64, a_r11_64, f9_64, f10_64, f11_64, f12_64, f13_64, f14_64, trivial⟩
              obtain ⟨ws_77, e_ws_77⟩ : ∃ z, z = ws_68.set k_1 (h0, .inr (6, [.ref r0_64, .int c1_64, .int c2_64, .int c3_64, .ref r4_64, .int c5_64, .int c6_64, .int c7_64, .int c8_64, .ref r9_64, .ref r10_64, .ref r11_64, .int z_66, .int z_75, .int 0, .int c15_64, .int c16_64])) := ⟨_, rfl⟩
              have hP : va_P (gD g) cl0 ws_77 H := by rw [e_ws_77]; exact hP
              have hD : va_D A ws_77 := by rw [e_ws_77]; exact hD
              have E_78 : gE ws_68 ws_77 := gE_set e_ws_77 hk_64 (cw_o (fi := 13) (v := .int z_75) rfl (by decide))
              have hG : Good g ws_77 := Good_set (fi := 13) (v := .int z_75) e_ws_77 hk_64 E_78 rfl hV9 hG (ivX7 hi_76)
              have Fr_79 : gF [(6, 13)] [] (some h0) ws_68 ws_77 := gF_put (fi := 13) (v := .int z_75) e_ws_77 hk_64 rfl (by decide)
              have hkN := gset_self e_ws_77 hk_64
              have hk_64 := hkN
              have o_h0 := E_78.1 _ _ o_h0
              have a_r0_64 := E_78.1 _ _ a_r0_64
              have a_r4_64 := E_78.1 _ _ a_r4_64
              have a_r9_64 := E_78.1 _ _ a_r9_64
              have a_r10_64 := E_78.1 _ _ a_r10_64
              have a_r11_64 := E_78.1 _ _ a_r11_64
              refine lv_iload_n hx hb dX7_isMethodType_87 rfl (lv_at hl 3 rfl) ?_
              refine lv_iload hx hb dX7_isMethodType_88 (lv_at hl 4 rfl) ?_
              refine lv_iconst (v := 3) hx hb dX7_isMethodType_90 (by decide) ?_
              have J_99 : ∀ (t_80 : Int32) (H : Heap) (locs : List Loc) (ls : Array Slot), 1 ≤ t_80.toInt ∧ t_80.toInt ≤ 2 → va_P (gD g) cl0 ws_77 H → va_D A ws_77 → va_S A s.heap H locs → lv_has ls 5 [(0, .ref h0), (1, .int x1), (2, .int r_14)] → W p l e (headSpec (wt yX7_isMethodType cX7_isMethodType 5 (some .boolean)) ({ frames := 3, cells := 0, slots := 0, locals := 65 })).room s m ([.ref h0, .int x1] : List Value).toArray below meth c H locs (0) (0) (MQ below (va_Qi (fun (r : Int32) (u9 : va_W) => r = 0 ∨ r = 1) (gQ1 g [(6, 12), (6, 13), (6, 14)] [] none A ws) A) ([.ref h0, .int x1] : List Value).toArray s (0) (0) A) (F0 m 99 ls [.int t_80, .int v3_18]) := by
                intro t_80 H locs ls iv_81 hP hD hS hl
                refine lv_iadd hx hb dX7_isMethodType_99 ?_
                refine lv_topi (fun z_84 ez_84 => ?_)
                refine lv_istore_n (lv' := [(3, .int z_84), (0, .ref h0), (1, .int x1), (2, .int r_14)]) hx hb dX7_isMethodType_100 rfl hl (by decide) rfl (fun ls hl => ?_)
                refine lv_aload_n hx hb dX7_isMethodType_101 rfl (lv_at hl 1 rfl) ?_
                refine lv_iload_n hx hb dX7_isMethodType_102 rfl (lv_at hl 2 rfl) ?_
                refine lv_iload_n hx hb dX7_isMethodType_103 rfl (lv_at hl 0 rfl) ?_
                have hFc := gfree hD hS hA
                refine va_calli (va_runV (As := [.int x1, .int z_84]) (rest := []) ⟨hx, hb, hml, hown, hts⟩ (m_X7_kindOfPart l g H.size ws_77 h0 (x1) (z_84) hG o_h0) (cwV 2 hts (gd_V kw_1351 kw_1385 kw_1386 kw_710 kw_1384) rfl rfl rfl (by decide +kernel) ⟨Nat.le_of_ble_eq_true rfl, Nat.le_of_ble_eq_true rfl⟩) ⟨gblind, va_recv hK hP (ci := 6) (q0 := k_1) rfl hk_64, fun U hU hW9 => gmk hU hW9 hP hK hD hex hE hS hFc⟩ rfl rfl hl.1 rfl (lv_room (Nat.le_of_ble_eq_true rfl)) dX7_isMethodType_104 ⟨Nat.le_of_ble_eq_true rfl, Nat.le_of_ble_eq_true rfl⟩) hS (fun q _ h => hFc q h) hFc (fun r_85 u9 t9 H1 locs ht9 hvm9 hw9 hB9 hz9 hk9 hS => ?_)
                have hP : va_P (gD g) cl0 ws_77 H1 := by rw [← ht9]; exact hB9.1
                have h_r_85 := hw9
                clear hB9 hz9 hk9 hvm9 ht9 hw9
                generalize H1 = H at hP hS ⊢
                refine lv_istore (lv' := [(4, .int r_85), (3, .int z_84), (0, .ref h0), (1, .int x1), (2, .int r_14)]) hx hb dX7_isMethodType_107 hl (by decide) rfl (fun ls hl => ?_)
                refine lv_goto (tgt := 44) hx hb dX7_isMethodType_109 (by decide) ?_
                exact ih_44 _ (by obtain ⟨u_z_84, q_z_84⟩ := i_add ez_84; have q_r_85 := h_r_85; have q_iv_20 := iv_20; have q_c_63 := i_nle c_63; have q_iv_81 := iv_81; have q_r_14 := h_r_14; have g_r_14 := i_rg r_14; have g_r_85 := i_rg r_85; have g_t_80 := i_rg t_80; have g_v3_18 := i_rg v3_18; have g_z_84 := i_rg z_84; omega) (z_84) (r_85) ws_77 H locs ls rfl (by have q_r_14 := h_r_14; have q_c_63 := i_nle c_63; obtain ⟨u_z_84, q_z_84⟩ := i_add ez_84; have q_r_85 := h_r_85; have q_iv_20 := iv_20; have q_iv_81 := iv_81; have g_r_14 := i_rg r_14; have g_r_85 := i_rg r_85; have g_t_80 := i_rg t_80; have g_v3_18 := i_rg v3_18; have g_x1 := i_rg x1; have g_z_84 := i_rg z_84; omega) ((E_22.tr (E_69.tr E_78))) ((gF.tr Fr_23 (gF.tr (gF.mo (F' := [(6, 12), (6, 13)]) (C' := []) (S' := none) Fr_70 (by decide) (fun _ h => h) (Or.inl rfl)) (gF.mo (F' := [(6, 12), (6, 13)]) (C' := []) (S' := none) Fr_79 (by decide) (fun _ h => h) (Or.inl rfl))))) hG hP hD hS (lv_sub hl [2, 3, 4, 1, 0] rfl)
              refine lv_icmp_ne (tgt := 98) hx hb dX7_isMethodType_91 (by decide) (fun c_86 => ?_) (fun c_86 => ?_)
              · refine lv_iconst (v := 1) hx hb dX7_isMethodType_98 (by decide) ?_
                exact J_99 (1) H locs ls (by have e1 : (1 : Int32).toInt = 1 := (by decide); have g_x1 := i_rg x1; omega) hP hD hS (lv_sub hl [0, 1, 2] rfl)
              · refine lv_iconst (v := 2) hx hb dX7_isMethodType_94 (by decide) ?_
                refine lv_goto (tgt := 99) hx hb dX7_isMethodType_95 (by decide) ?_
                exact J_99 (2) H locs ls (by have e2 : (2 : Int32).toInt = 2 := (by decide); have g_x1 := i_rg x1; omega) hP hD hS (lv_sub hl [0, 1, 2] rfl)
            refine lv_icmp_ne (tgt := 82) hx hb dX7_isMethodType_75 (by decide) (fun c_87 => ?_) (fun c_87 => ?_)
            · refine lv_iconst (v := 1) hx hb dX7_isMethodType_82 (by decide) ?_
              exact J_83 (1) H locs ls (by have e1 : (1 : Int32).toInt = 1 := (by decide); have g_x1 := i_rg x1; omega) hP hD hS (lv_sub hl [0, 1, 2, 3, 4] rfl)
            · refine lv_iconst (v := 2) hx hb dX7_isMethodType_78 (by decide) ?_
              refine lv_goto (tgt := 83) hx hb dX7_isMethodType_79 (by decide) ?_
              exact J_83 (2) H locs ls (by have e2 : (2 : Int32).toInt = 2 := (by decide); have g_x1 := i_rg x1; omega) hP hD hS (lv_sub hl [0, 1, 2, 3, 4] rfl)
    exact J_44 _ (1) (r_17) ws_11 H locs ls rfl (by have e1 : (1 : Int32).toInt = 1 := (by decide); have q_r_14 := h_r_14; have q_r_17 := h_r_17; have g_r_14 := i_rg r_14; have g_r_17 := i_rg r_17; have g_x1 := i_rg x1; omega) (gE.rf) (gF.rf) hG hP hD hS (lv_sub hl [3, 4, 2, 1, 0] rfl)
  · refine lv_iconst (v := 0) hx hb dX7_isMethodType_32 (by decide) ?_
    refine W.widen (k := 0) (n := 0) (Nat.le_of_ble_eq_true rfl) (Nat.le_of_ble_eq_true rfl) ?_
    exact W.zret (v := 0) hx hb hr (nz (Or.inl rfl)) (fun t9 ht9 hW9 => ⟨⟨_, ws_11, rfl, (Or.inl rfl), ⟨(E_4.tr (E_8.tr E_12)), (gF.tr (gF.mo (F' := [(6, 12), (6, 13), (6, 14)]) (C' := []) (S' := none) Fr_5 (by decide) (fun _ h => h) (Or.inl rfl)) (gF.tr (gF.mo (F' := [(6, 12), (6, 13), (6, 14)]) (C' := []) (S' := none) Fr_9 (by decide) (fun _ h => h) (Or.inl rfl)) (gF.mo (F' := [(6, 12), (6, 13), (6, 14)]) (C' := []) (S' := none) Fr_13 (by decide) (fun _ h => h) (Or.inl rfl)))), hG, by rw [ht9]; exact hP, hD⟩⟩, hS.F ht9⟩) hS.2.2 dX7_isMethodType_33
set_option maxHeartbeats 1000000 in
set_option maxRecDepth 100000 in
theorem m_X7_isSameName (l : Launch) (g : Gm) (sz : Nat) (ws : va_W) (h0 : Nat) (x1 : Int32) (x2 : Int32) (hG : Good g ws) (o_h0 : gC ws h0 6) : Met l yX7_isSameName (wt yX7_isSameName cX7_isSameName 7 (some .boolean)) ({ frames := 1, cells := 0, slots := 0, locals := 21 }) (va_Pc [.ref h0, .int x1, .int x2] (st_G g sz ws)) (va_Qi (fun (r : Int32) (u9 : Unit) => r = 0 ∨ r = 1) (gQ0 g (va_A ws sz) ws) (va_A ws sz)) (0) (0) (va_A ws sz) := by
  refine Met.ofW (cc := cX7_isSameName) (maxL := 7) (ret := (some .boolean)) (by decide) rfl ?_
  intro p e s m args below meth c s₁ B hml hv
  obtain ⟨rfl, hsz, hP, hK, hD0, hex, hE⟩ := hv
  have hx := B.exec
  have hb := B.bytes
  have hr := B.returns
  have hts0 := atoms_spec (ws := wt yX7_isSameName cX7_isSameName 7 (some .boolean)) B.pre
  have hts : ∀ w ∈ tb, w.before _ s = true := fun w h => hts0 w (List.mem_cons_of_mem _ h)
  have hown : s.vm.findClass RX7 = some m.cls := findClass_of_methodNamed B.named
  subst hsz
  have hD := hD0.self (sz := s.heap.size)
  generalize hAe : va_A ws s.heap.size = A at hD hE ⊢
  have hA : ∀ q : Nat, s.heap.size ≤ q → A q := fun q h => by rw [← hAe]; exact Or.inr h
  have hS : va_S A s.heap s.heap [] := va_S.rf
  have hl := lv_entry ([.ref h0, .int x1, .int x2]) (n := 7) (Nat.le_of_ble_eq_true rfl)
  rw [lg_entry_eq]
  generalize (lg_sl ([.ref h0, .int x1, .int x2]) ++ List.replicate (7 - (lg_sl ([.ref h0, .int x1, .int x2])).length) Slot.unset).toArray = ls at hl ⊢
  have hl : lv_has ls 7 [(0, .ref h0), (1, .int x1), (2, .int x2)] := hl
  refine lv_aload_n hx hb dX7_isSameName_0 rfl (lv_at hl 0 rfl) ?_
  refine lv_iload_n hx hb dX7_isSameName_1 rfl (lv_at hl 1 rfl) ?_
  have hFc := gfree hD hS hA
  obtain ⟨k_1, fs_1, hk_1⟩ := gC_of o_h0
  refine va_calli (va_runV (As := [.int x1]) (rest := []) ⟨hx, hb, hml, hown, hts⟩ (m_X7_entryAt l g s.heap.size ws h0 (x1) hG o_h0) (cwV 1 hts (gd_V kw_1296 kw_1298 kw_1299 kw_710 kw_1297) rfl rfl rfl (by decide +kernel) ⟨Nat.le_of_ble_eq_true rfl, Nat.le_of_ble_eq_true rfl⟩) ⟨gblind, va_recv hK hP (ci := 6) (q0 := k_1) rfl hk_1, fun U hU hW9 => gmk hU hW9 hP hK hD hex hE hS hFc⟩ rfl rfl hl.1 rfl (lv_room (Nat.le_of_ble_eq_true rfl)) dX7_isSameName_2 ⟨Nat.le_of_ble_eq_true rfl, Nat.le_of_ble_eq_true rfl⟩) hS (fun q _ h => hFc q h) hFc (fun r_2 u9 t9 H1 locs ht9 hvm9 hw9 hB9 hz9 hk9 hS => ?_)
  have hP : va_P (gD g) cl0 ws H1 := by rw [← ht9]; exact hB9.1
  clear hB9 hz9 hk9 hvm9 ht9 hw9
  generalize H1 = H at hP hS ⊢
  refine lv_istore_n (lv' := [(3, .int r_2), (0, .ref h0), (1, .int x1), (2, .int x2)]) hx hb dX7_isSameName_5 rfl hl (by decide) rfl (fun ls hl => ?_)
  refine lv_aload_n hx hb dX7_isSameName_6 rfl (lv_at hl 1 rfl) ?_
  refine lv_iload_n hx hb dX7_isSameName_7 rfl (lv_at hl 3 rfl) ?_
  have hFc := gfree hD hS hA
  obtain ⟨k_3, fs_3, hk_3⟩ := gC_of o_h0
  refine va_calli (va_runV (As := [.int x2]) (rest := []) ⟨hx, hb, hml, hown, hts⟩ (m_X7_entryAt l g H.size ws h0 (x2) hG o_h0) (cwV 1 hts (gd_V kw_1296 kw_1298 kw_1299 kw_710 kw_1297) rfl rfl rfl (by decide +kernel) ⟨Nat.le_of_ble_eq_true rfl, Nat.le_of_ble_eq_true rfl⟩) ⟨gblind, va_recv hK hP (ci := 6) (q0 := k_3) rfl hk_3, fun U hU hW9 => gmk hU hW9 hP hK hD hex hE hS hFc⟩ rfl rfl hl.1 rfl (lv_room (Nat.le_of_ble_eq_true rfl)) dX7_isSameName_8 ⟨Nat.le_of_ble_eq_true rfl, Nat.le_of_ble_eq_true rfl⟩) hS (fun q _ h => hFc q h) hFc (fun r_4 u9 t9 H1 locs ht9 hvm9 hw9 hB9 hz9 hk9 hS => ?_)
  have hP : va_P (gD g) cl0 ws H1 := by rw [← ht9]; exact hB9.1
  clear hB9 hz9 hk9 hvm9 ht9 hw9
  generalize H1 = H at hP hS ⊢
  refine lv_istore (lv' := [(4, .int r_4), (3, .int r_2), (0, .ref h0), (1, .int x1), (2, .int x2)]) hx hb dX7_isSameName_11 hl (by decide) rfl (fun ls hl => ?_)
  refine lv_aload_n hx hb dX7_isSameName_13 rfl (lv_at hl 2 rfl) ?_
  refine lv_iload_n hx hb dX7_isSameName_14 rfl (lv_at hl 1 rfl) ?_
  refine lv_iconst (v := 1) hx hb dX7_isSameName_15 (by decide) ?_
  refine lv_iadd hx hb dX7_isSameName_16 ?_
  refine lv_topi (fun z_5 ez_5 => ?_)
  have hFc := gfree hD hS hA
  obtain ⟨k_6, fs_6, hk_6⟩ := gC_of o_h0
  refine va_calli (va_runV (As := [.int z_5]) (rest := []) ⟨hx, hb, hml, hown, hts⟩ (m_X7_u2 l g H.size ws h0 (z_5) hG o_h0) (cwV 1 hts (gd_V kw_1266 kw_1450 kw_1451 kw_710 kw_1449) rfl rfl rfl (by decide +kernel) ⟨Nat.le_of_ble_eq_true rfl, Nat.le_of_ble_eq_true rfl⟩) ⟨gblind, va_recv hK hP (ci := 6) (q0 := k_6) rfl hk_6, fun U hU hW9 => gmk hU hW9 hP hK hD hex hE hS hFc⟩ rfl rfl hl.1 rfl (lv_room (Nat.le_of_ble_eq_true rfl)) dX7_isSameName_17 ⟨Nat.le_of_ble_eq_true rfl, Nat.le_of_ble_eq_true rfl⟩) hS (fun q _ h => hFc q h) hFc (fun r_7 u9 t9 H1 locs ht9 hvm9 hw9 hB9 hz9 hk9 hS => ?_)
  have hP : va_P (gD g) cl0 ws H1 := by rw [← ht9]; exact hB9.1
  have h_r_7 := hw9
  clear hB9 hz9 hk9 hvm9 ht9 hw9
  generalize H1 = H at hP hS ⊢
  refine lv_istore (lv' := [(5, .int r_7), (4, .int r_4), (3, .int r_2), (0, .ref h0), (1, .int x1), (2, .int x2)]) hx hb dX7_isSameName_20 hl (by decide) rfl (fun ls hl => ?_)
  refine lv_iconst (v := 1) hx hb dX7_isSameName_22 (by decide) ?_
  refine lv_istore (lv' := [(6, .int 1), (5, .int r_7), (4, .int r_4), (3, .int r_2), (0, .ref h0), (1, .int x1), (2, .int x2)]) hx hb dX7_isSameName_23 hl (by decide) rfl (fun ls hl => ?_)
  have J_25 : ∀ (n9 : Nat) (v6_8 : Int32) (H : Heap) (locs : List Loc) (ls : Array Slot), (2147483647 - v6_8.toInt).toNat = n9 → 0 ≤ v6_8.toInt → va_P (gD g) cl0 ws H → va_D A ws → va_S A s.heap H locs → lv_has ls 7 [(0, .ref h0), (3, .int r_2), (4, .int r_4), (5, .int r_7), (6, .int v6_8)] → W p l e (headSpec (wt yX7_isSameName cX7_isSameName 7 (some .boolean)) ({ frames := 1, cells := 0, slots := 0, locals := 21 })).room s m ([.ref h0, .int x1, .int x2] : List Value).toArray below meth c H locs (0) (0) (MQ below (va_Qi (fun (r : Int32) (u9 : Unit) => r = 0 ∨ r = 1) (gQ0 g A ws) A) ([.ref h0, .int x1, .int x2] : List Value).toArray s (0) (0) A) (F0 m 25 ls []) := by
    intro n9
    induction n9 using Nat.strongRecOn with
    | ind n9 ih_25 =>
      intro v6_8 H locs ls hm9 iv_9 hP hD hS hl
      subst hm9
      refine lv_iload hx hb dX7_isSameName_25 (lv_at hl 4 rfl) ?_
      refine lv_iconst (v := 3) hx hb dX7_isSameName_27 (by decide) ?_
      refine lv_iload hx hb dX7_isSameName_28 (lv_at hl 3 rfl) ?_
      refine lv_iadd hx hb dX7_isSameName_30 ?_
      refine lv_topi (fun z_12 ez_12 => ?_)
      refine lv_icmp_ge (tgt := 62) hx hb dX7_isSameName_31 (by decide) (fun c_13 => ?_) (fun c_13 => ?_)
      · refine lv_iconst (v := 1) hx hb dX7_isSameName_62 (by decide) ?_
        refine W.widen (k := 0) (n := 0) (Nat.le_of_ble_eq_true rfl) (Nat.le_of_ble_eq_true rfl) ?_
        exact W.zret (v := 1) hx hb hr (nz (Or.inr rfl)) (fun t9 ht9 hW9 => ⟨⟨_, (), rfl, (Or.inr rfl), ⟨by rw [ht9]; exact hP, hD⟩⟩, hS.F ht9⟩) hS.2.2 dX7_isSameName_63
      · refine lv_aload_n hx hb dX7_isSameName_34 rfl (lv_at hl 0 rfl) ?_
        refine lv_iload_n hx hb dX7_isSameName_35 rfl (lv_at hl 1 rfl) ?_
        refine lv_iload hx hb dX7_isSameName_36 (lv_at hl 4 rfl) ?_
        refine lv_iadd hx hb dX7_isSameName_38 ?_
        refine lv_topi (fun z_14 ez_14 => ?_)
        have hFc := gfree hD hS hA
        obtain ⟨k_15, fs_15, hk_15⟩ := gC_of o_h0
        refine va_calli (va_runV (As := [.int z_14]) (rest := []) ⟨hx, hb, hml, hown, hts⟩ (m_X7_u1 l g H.size ws h0 (z_14) hG o_h0) (cwV 1 hts (gd_V kw_1304 kw_1447 kw_1448 kw_710 kw_1446) rfl rfl rfl (by decide +kernel) ⟨Nat.le_of_ble_eq_true rfl, Nat.le_of_ble_eq_true rfl⟩) ⟨gblind, va_recv hK hP (ci := 6) (q0 := k_15) rfl hk_15, fun U hU hW9 => gmk hU hW9 hP hK hD hex hE hS hFc⟩ rfl rfl hl.1 rfl (lv_room (Nat.le_of_ble_eq_true rfl)) dX7_isSameName_39 ⟨Nat.le_of_ble_eq_true rfl, Nat.le_of_ble_eq_true rfl⟩) hS (fun q _ h => hFc q h) hFc (fun r_16 u9 t9 H1 locs ht9 hvm9 hw9 hB9 hz9 hk9 hS => ?_)
        have hP : va_P (gD g) cl0 ws H1 := by rw [← ht9]; exact hB9.1
        have h_r_16 := hw9
        clear hB9 hz9 hk9 hvm9 ht9 hw9
        generalize H1 = H at hP hS ⊢
        refine lv_aload_n hx hb dX7_isSameName_42 rfl (lv_at hl 0 rfl) ?_
        refine lv_iload hx hb dX7_isSameName_43 (lv_at hl 2 rfl) ?_
        refine lv_iload hx hb dX7_isSameName_45 (lv_at hl 4 rfl) ?_
        refine lv_iadd hx hb dX7_isSameName_47 ?_
        refine lv_topi (fun z_17 ez_17 => ?_)
        have hFc := gfree hD hS hA
        obtain ⟨k_18, fs_18, hk_18⟩ := gC_of o_h0
        refine va_calli (va_runV (As := [.int z_17]) (rest := [.int r_16]) ⟨hx, hb, hml, hown, hts⟩ (m_X7_u1 l g H.size ws h0 (z_17) hG o_h0) (cwV 1 hts (gd_V kw_1304 kw_1447 kw_1448 kw_710 kw_1446) rfl rfl rfl (by decide +kernel) ⟨Nat.le_of_ble_eq_true rfl, Nat.le_of_ble_eq_true rfl⟩) ⟨gblind, va_recv hK hP (ci := 6) (q0 := k_18) rfl hk_18, fun U hU hW9 => gmk hU hW9 hP hK hD hex hE hS hFc⟩ rfl rfl hl.1 rfl (lv_room (Nat.le_of_ble_eq_true rfl)) dX7_isSameName_48 ⟨Nat.le_of_ble_eq_true rfl, Nat.le_of_ble_eq_true rfl⟩) hS (fun q _ h => hFc q h) hFc (fun r_19 u9 t9 H1 locs ht9 hvm9 hw9 hB9 hz9 hk9 hS => ?_)
        have hP : va_P (gD g) cl0 ws H1 := by rw [← ht9]; exact hB9.1
        have h_r_19 := hw9
        clear hB9 hz9 hk9 hvm9 ht9 hw9
        generalize H1 = H at hP hS ⊢
        refine lv_icmp_eq (tgt := 56) hx hb dX7_isSameName_51 (by decide) (fun c_20 => ?_) (fun c_20 => ?_)
        · obtain ⟨z_21, ez_21⟩ : ∃ z : Int32, v6_8 + Int32.ofInt 1 = z := ⟨_, rfl⟩
          refine lv_iinc (v := z_21) (lv' := [(6, .int z_21), (0, .ref h0), (3, .int r_2), (4, .int r_4), (5, .int r_7)]) hx hb dX7_isSameName_56 hl (k := 4) rfl ez_21 (by decide) rfl (fun ls hl => ?_)
          refine lv_goto (tgt := 25) hx hb dX7_isSameName_59 (by decide) ?_
          exact ih_25 _ (by obtain ⟨u_z_21, q_z_21⟩ := i_iz ez_21 (by decide) (by decide); have q_iv_9 := iv_9; have q_c_13 := i_nle c_13; obtain ⟨u_z_14, q_z_14⟩ := i_add ez_14; obtain ⟨u_z_17, q_z_17⟩ := i_add ez_17; have g_r_2 := i_rg r_2; have g_r_4 := i_rg r_4; have g_v6_8 := i_rg v6_8; have g_z_12 := i_rg z_12; have g_z_14 := i_rg z_14; have g_z_17 := i_rg z_17; have g_z_21 := i_rg z_21; omega) (z_21) H locs ls rfl (by obtain ⟨u_z_21, q_z_21⟩ := i_iz ez_21 (by decide) (by decide); have q_iv_9 := iv_9; have q_c_13 := i_nle c_13; obtain ⟨u_z_14, q_z_14⟩ := i_add ez_14; obtain ⟨u_z_17, q_z_17⟩ := i_add ez_17; have g_r_2 := i_rg r_2; have g_r_4 := i_rg r_4; have g_v6_8 := i_rg v6_8; have g_z_12 := i_rg z_12; have g_z_14 := i_rg z_14; have g_z_17 := i_rg z_17; have g_z_21 := i_rg z_21; omega) hP hD hS (lv_sub hl [1, 2, 3, 4, 0] rfl)
        · refine lv_iconst (v := 0) hx hb dX7_isSameName_54 (by decide) ?_
          refine W.widen (k := 0) (n := 0) (Nat.le_of_ble_eq_true rfl) (Nat.le_of_ble_eq_true rfl) ?_
          exact W.zret (v := 0) hx hb hr (nz (Or.inl rfl)) (fun t9 ht9 hW9 => ⟨⟨_, (), rfl, (Or.inl rfl), ⟨by rw [ht9]; exact hP, hD⟩⟩, hS.F ht9⟩) hS.2.2 dX7_isSameName_55
  exact J_25 _ (1) H locs ls rfl (by have e1 : (1 : Int32).toInt = 1 := (by decide); omega) hP hD hS (lv_sub hl [4, 3, 2, 1, 0] rfl)
set_option maxHeartbeats 1000000 in
set_option maxRecDepth 100000 in
theorem m_X7_isText (l : Launch) (g : Gm) (H0 : Heap) (ws : va_W) (h0 : Nat) (x1 : Int32) (b2 : Nat) (n_b2 : Nat) (hG : Good g ws) (o_h0 : gC ws h0 6) (t_b2 : gT g b2 n_b2) : Met l yX7_isText (wt yX7_isText cX7_isText 4 (some .boolean)) ({ frames := 4, cells := PC ws + (0), slots := PS ws + (0), locals := 85 }) (va_Pc [.ref h0, .int x1, .ref b2] (st_H g H0 ws)) (va_Qi (fun (r : Int32) (u9 : va_W) => r = 0 ∨ r = 1) (gQ2 g [] [] none (va_A ws H0.size) ws H0 (0) (0)) (va_A ws H0.size)) (PC ws + (0)) (PS ws + (0)) (va_A ws H0.size) := by
  refine Met.ofW (cc := cX7_isText) (maxL := 4) (ret := (some .boolean)) (by decide) rfl ?_
  intro p e s m args below meth c s₁ B hml hv
  obtain ⟨rfl, hH0, hsz, hP, hK, hD0, hex, hE⟩ := hv
  have hx := B.exec
  have hb := B.bytes
  have hr := B.returns
  have hts0 := atoms_spec (ws := wt yX7_isText cX7_isText 4 (some .boolean)) B.pre
  have hts : ∀ w ∈ tb, w.before _ s = true := fun w h => hts0 w (List.mem_cons_of_mem _ h)
  have hown : s.vm.findClass RX7 = some m.cls := findClass_of_methodNamed B.named
  subst hH0
  have hD := hD0.self (sz := s.heap.size)
  generalize hAe : va_A ws s.heap.size = A at hD hE ⊢
  have hA : ∀ q : Nat, s.heap.size ≤ q → A q := fun q h => by rw [← hAe]; exact Or.inr h
  have hS : va_S A s.heap s.heap [] := va_S.rf
  have hl := lv_entry ([.ref h0, .int x1, .ref b2]) (n := 4) (Nat.le_of_ble_eq_true rfl)
  rw [lg_entry_eq]
  generalize (lg_sl ([.ref h0, .int x1, .ref b2]) ++ List.replicate (4 - (lg_sl ([.ref h0, .int x1, .ref b2])).length) Slot.unset).toArray = ls at hl ⊢
  have hl : lv_has ls 4 [(0, .ref h0), (1, .int x1), (2, .ref b2)] := hl
  refine lv_aload_n hx hb dX7_isText_0 rfl (lv_at hl 0 rfl) ?_
  refine lv_iload_n hx hb dX7_isText_1 rfl (lv_at hl 1 rfl) ?_
  have hFc := gfree hD hS hA
  obtain ⟨k_1, fs_1, hk_1⟩ := gC_of o_h0
  refine va_calli (va_runV (As := [.int x1]) (rest := []) ⟨hx, hb, hml, hown, hts⟩ (m_X7_nameLength l g s.heap.size ws h0 (x1) hG o_h0) (cwV 1 hts (gd_V kw_1349 kw_1406 kw_1407 kw_710 kw_1405) rfl rfl rfl (by decide +kernel) ⟨Nat.le_of_ble_eq_true rfl, Nat.le_of_ble_eq_true rfl⟩) ⟨gblind, va_recv hK hP (ci := 6) (q0 := k_1) rfl hk_1, fun U hU hW9 => gmk hU hW9 hP hK hD hex hE hS hFc⟩ rfl rfl hl.1 rfl (lv_room (Nat.le_of_ble_eq_true rfl)) dX7_isText_2 ⟨(show 0 + 0 ≤ PC ws + (0) from (by have e0 : (0 : Int32).toInt = 0 := (by decide); omega)), (show 0 + 0 ≤ PS ws + (0) from (by have e0 : (0 : Int32).toInt = 0 := (by decide); omega))⟩) hS (fun q _ h => hFc q h) hFc (fun r_2 u9 t9 H1 locs ht9 hvm9 hw9 hB9 hz9 hk9 hS => ?_)
  have hP : va_P (gD g) cl0 ws H1 := by rw [← ht9]; exact hB9.1
  have h_r_2 := hw9
  clear hB9 hz9 hk9 hvm9 ht9 hw9
  generalize H1 = H at hP hS ⊢
  refine lv_aload_n hx hb dX7_isText_5 rfl (lv_at hl 2 rfl) ?_
  have hFc := gfree hD hS hA
  obtain ⟨i_3, hi_3, e_3, en_3⟩ := id t_b2
  refine va_calli (va_runV (As := []) (rest := [.int r_2]) ⟨hx, hb, hml, hown, hts⟩ (m_J0_length_8abf5 l g H.size ws b2 (n_b2) hG t_b2) (cwV 0 hts (gd_V kw_1379 kw_1752 kw_1753 kw_1754 kw_1751) rfl rfl rfl (by decide +kernel) ⟨Nat.le_of_ble_eq_true rfl, Nat.le_of_ble_eq_true rfl⟩) ⟨gblind, (by rw [e_3]; exact vk_recv hE.2.2.2.2.2.2.1 hi_3 hS), fun U hU hW9 => gmk hU hW9 hP hK hD hex hE hS hFc⟩ rfl rfl hl.1 rfl (lv_room (Nat.le_of_ble_eq_true rfl)) dX7_isText_6 ⟨(show 0 + 0 ≤ PC ws + (0) from (by have e0 : (0 : Int32).toInt = 0 := (by decide); omega)), (show 0 + 0 ≤ PS ws + (0) from (by have e0 : (0 : Int32).toInt = 0 := (by decide); omega))⟩) hS (fun q _ h => hFc q h) hFc (fun r_4 u9 t9 H1 locs ht9 hvm9 hw9 hB9 hz9 hk9 hS => ?_)
  have hP : va_P (gD g) cl0 ws H1 := by rw [← ht9]; exact hB9.1
  have h_r_4 := hw9
  clear hB9 hz9 hk9 hvm9 ht9 hw9
  generalize H1 = H at hP hS ⊢
  refine lv_icmp_eq (tgt := 14) hx hb dX7_isText_9 (by decide) (fun c_5 => ?_) (fun c_5 => ?_)
  · refine lv_iconst (v := 0) hx hb dX7_isText_14 (by decide) ?_
    refine lv_istore_n (lv' := [(3, .int 0), (0, .ref h0), (1, .int x1), (2, .ref b2)]) hx hb dX7_isText_15 rfl hl (by decide) rfl (fun ls hl => ?_)
    have J_16 : ∀ (n9 : Nat) (v3_6 : Int32) (dc_16_1 : Nat) (ds_16_1 : Nat) (ws_8 : va_W) (H : Heap) (locs : List Loc) (ls : Array Slot), (2147483647 - v3_6.toInt).toNat = n9 → 0 ≤ v3_6.toInt → gE ws ws_8 → gF [] [] none ws ws_8 → Good g ws_8 → dc_16_1 + PC ws_8 ≤ PC ws + (0) → ds_16_1 + PS ws_8 ≤ PS ws + (0) → va_P (gD g) cl0 ws_8 H → va_D A ws_8 → va_S A s.heap H locs → lv_has ls 4 [(0, .ref h0), (1, .int x1), (2, .ref b2), (3, .int v3_6)] → W p l e (headSpec (wt yX7_isText cX7_isText 4 (some .boolean)) ({ frames := 4, cells := PC ws + (0), slots := PS ws + (0), locals := 85 })).room s m ([.ref h0, .int x1, .ref b2] : List Value).toArray below meth c H locs (dc_16_1) (ds_16_1) (MQ below (va_Qi (fun (r : Int32) (u9 : va_W) => r = 0 ∨ r = 1) (gQ2 g [] [] none A ws s.heap (0) (0)) A) ([.ref h0, .int x1, .ref b2] : List Value).toArray s (PC ws + (0)) (PS ws + (0)) A) (F0 m 16 ls []) := by
      intro n9
      induction n9 using Nat.strongRecOn with
      | ind n9 ih_16 =>
        intro v3_6 dc_16_1 ds_16_1 ws_8 H locs ls hm9 iv_7 E_9 Fr_10 hG hc9 hs9 hP hD hS hl
        subst hm9
        have o_h0 := E_9.1 _ _ o_h0
        refine lv_iload_n hx hb dX7_isText_16 rfl (lv_at hl 3 rfl) ?_
        refine lv_aload_n hx hb dX7_isText_17 rfl (lv_at hl 2 rfl) ?_
        have hFc := gfree hD hS hA
        obtain ⟨i_11, hi_11, e_11, en_11⟩ := id t_b2
        refine va_calli (va_runV (As := []) (rest := [.int v3_6]) ⟨hx, hb, hml, hown, hts⟩ (m_J0_length_8abf5 l g H.size ws_8 b2 (n_b2) hG t_b2) (cwV 0 hts (gd_V kw_1379 kw_1752 kw_1753 kw_1754 kw_1751) rfl rfl rfl (by decide +kernel) ⟨Nat.le_of_ble_eq_true rfl, Nat.le_of_ble_eq_true rfl⟩) ⟨gblind, (by rw [e_11]; exact vk_recv hE.2.2.2.2.2.2.1 hi_11 hS), fun U hU hW9 => gmk hU hW9 hP hK hD hex hE hS hFc⟩ rfl rfl hl.1 rfl (lv_room (Nat.le_of_ble_eq_true rfl)) dX7_isText_18 ⟨(show dc_16_1 + 0 ≤ PC ws + (0) from (by omega)), (show ds_16_1 + 0 ≤ PS ws + (0) from (by omega))⟩) hS (fun q _ h => hFc q h) hFc (fun r_12 u9 t9 H1 locs ht9 hvm9 hw9 hB9 hz9 hk9 hS => ?_)
        have hP : va_P (gD g) cl0 ws_8 H1 := by rw [← ht9]; exact hB9.1
        have h_r_12 := hw9
        clear hB9 hz9 hk9 hvm9 ht9 hw9
        generalize H1 = H at hP hS ⊢
        refine lv_icmp_ge (tgt := 46) hx hb dX7_isText_21 (by decide) (fun c_13 => ?_) (fun c_13 => ?_)
        · refine lv_iconst (v := 1) hx hb dX7_isText_46 (by decide) ?_
          refine W_led (fun hLd => ?_)
          have hcl : dc_16_1 + PC ws_8 ≤ PC ws + (0) := (by omega)
          have hsl : ds_16_1 + PS ws_8 ≤ PS ws + (0) := (by omega)
          refine W.widen (k := PC ws + (0)) (n := PS ws + (0)) (by omega) (by omega) ?_
          exact W.zret (v := 1) hx hb hr (nz (Or.inr rfl)) (fun t9 ht9 hW9 => ⟨⟨_, ws_8, rfl, (Or.inr rfl), ⟨E_9, Fr_10, hG, by rw [ht9]; exact hP, hD, _, _, by rw [ht9]; exact hLd, hcl, hsl⟩⟩, hS.F ht9⟩) hS.2.2 dX7_isText_47
        · refine lv_aload_n hx hb dX7_isText_24 rfl (lv_at hl 0 rfl) ?_
          refine lv_iload_n hx hb dX7_isText_25 rfl (lv_at hl 1 rfl) ?_
          refine lv_iload_n hx hb dX7_isText_26 rfl (lv_at hl 3 rfl) ?_
          have hFc := gfree hD hS hA
          obtain ⟨k_14, fs_14, hk_14⟩ := gC_of o_h0
          refine va_calli (va_runV (As := [.int x1, .int v3_6]) (rest := []) ⟨hx, hb, hml, hown, hts⟩ (m_X7_nameSign l g H.size ws_8 h0 (x1) (v3_6) hG o_h0) (cwV 2 hts (gd_V kw_1350 kw_1412 kw_1413 kw_710 kw_1411) rfl rfl rfl (by decide +kernel) ⟨Nat.le_of_ble_eq_true rfl, Nat.le_of_ble_eq_true rfl⟩) ⟨gblind, va_recv hK hP (ci := 6) (q0 := k_14) rfl hk_14, fun U hU hW9 => gmk hU hW9 hP hK hD hex hE hS hFc⟩ rfl rfl hl.1 rfl (lv_room (Nat.le_of_ble_eq_true rfl)) dX7_isText_27 ⟨(show dc_16_1 + 0 ≤ PC ws + (0) from (by omega)), (show ds_16_1 + 0 ≤ PS ws + (0) from (by omega))⟩) hS (fun q _ h => hFc q h) hFc (fun r_15 u9 t9 H1 locs ht9 hvm9 hw9 hB9 hz9 hk9 hS => ?_)
          have hP : va_P (gD g) cl0 ws_8 H1 := by rw [← ht9]; exact hB9.1
          have h_r_15 := hw9
          clear hB9 hz9 hk9 hvm9 ht9 hw9
          generalize H1 = H at hP hS ⊢
          refine lv_aload_n hx hb dX7_isText_30 rfl (lv_at hl 2 rfl) ?_
          refine lv_iload_n hx hb dX7_isText_31 rfl (lv_at hl 3 rfl) ?_
          have hFc := gfree hD hS hA
          refine W_led (fun hL0 => ?_)
          obtain ⟨i_16, hi_16, e_16, en_16⟩ := id t_b2
          refine va_calli (va_runV (As := [.int v3_6]) (rest := [.int r_15]) ⟨hx, hb, hml, hown, hts⟩ (m_J0_charAt_5068e l g H ws_8 b2 (n_b2) (v3_6) hG t_b2 (by have q_t_b2 := gT_le t_b2; have q_r_4 := h_r_4; have q_iv_7 := iv_7; have q_r_12 := h_r_12; have q_c_13 := i_nle c_13; have q_c_5 := i_eq c_5; have g_r_12 := i_rg r_12; have g_r_2 := i_rg r_2; have g_r_4 := i_rg r_4; have g_v3_6 := i_rg v3_6; omega)) (cwV 1 hts (gd_V kw_1380 kw_1758 kw_1759 kw_1754 kw_1757) rfl rfl rfl (by decide +kernel) ⟨Nat.le_of_ble_eq_true rfl, Nat.le_of_ble_eq_true rfl⟩) ⟨gblindH, (by rw [e_16]; exact vk_recv hE.2.2.2.2.2.2.1 hi_16 hS), fun U hU hW9 => gmkH hU hW9 hP hK hD hex hE hS hFc⟩ rfl rfl hl.1 rfl (lv_room (Nat.le_of_ble_eq_true rfl)) dX7_isText_32 ⟨(show dc_16_1 + (PC ws_8 + (0)) ≤ PC ws + (0) from (by have e0 : (0 : Int32).toInt = 0 := (by decide); omega)), (show ds_16_1 + (PS ws_8 + (0)) ≤ PS ws + (0) from (by have e0 : (0 : Int32).toInt = 0 := (by decide); omega))⟩) hS (fun q _ h => hFc q h) hFc (fun r_17 ws_18 t9 H1 locs ht9 hvm9 hw9 hB9 hz9 hk9 hS => ?_)
          obtain ⟨E_19, Fr_20, hG, hP1, hD1, dc_21, ds_22, hLd, hdc_21, hds_22⟩ := hB9
          rw [ht9] at hLd
          refine W_tight (hL0.tr hLd).1 (hL0.tr hLd).2.1 ?_
          clear hL0 hLd
          have hP : va_P (gD g) cl0 ws_18 H1 := by rw [← ht9]; exact hP1
          have hD : va_D A ws_18 := hD1.weaken (fun _ _ _ h => hFc _ h)
          have h_r_17 := hw9
          clear hP1 hD1 hz9 hk9 hvm9 ht9 hw9
          generalize H1 = H at hP hS ⊢
          have o_h0 := E_19.1 _ _ o_h0
          refine lv_icmp_eq (tgt := 40) hx hb dX7_isText_35 (by decide) (fun c_23 => ?_) (fun c_23 => ?_)
          · obtain ⟨z_24, ez_24⟩ : ∃ z : Int32, v3_6 + Int32.ofInt 1 = z := ⟨_, rfl⟩
            refine lv_iinc (v := z_24) (lv' := [(3, .int z_24), (0, .ref h0), (1, .int x1), (2, .ref b2)]) hx hb dX7_isText_40 hl (k := 3) rfl ez_24 (by decide) rfl (fun ls hl => ?_)
            refine lv_goto (tgt := 16) hx hb dX7_isText_43 (by decide) ?_
            exact ih_16 _ (by obtain ⟨u_z_24, q_z_24⟩ := i_iz ez_24 (by decide) (by decide); have q_iv_7 := iv_7; have q_c_13 := i_nle c_13; have g_r_12 := i_rg r_12; have g_v3_6 := i_rg v3_6; have g_z_24 := i_rg z_24; omega) (z_24) (dc_16_1 + dc_21) (ds_16_1 + ds_22) ws_18 H locs ls rfl (by obtain ⟨u_z_24, q_z_24⟩ := i_iz ez_24 (by decide) (by decide); have q_iv_7 := iv_7; have q_c_13 := i_nle c_13; have g_r_12 := i_rg r_12; have g_v3_6 := i_rg v3_6; have g_z_24 := i_rg z_24; omega) ((E_9.tr E_19)) ((gF.tr Fr_10 Fr_20)) hG (by omega) (by omega) hP hD hS (lv_sub hl [1, 2, 3, 0] rfl)
          · refine lv_iconst (v := 0) hx hb dX7_isText_38 (by decide) ?_
            refine W_led (fun hLd => ?_)
            have hcl : dc_16_1 + dc_21 + PC ws_18 ≤ PC ws + (0) := (by omega)
            have hsl : ds_16_1 + ds_22 + PS ws_18 ≤ PS ws + (0) := (by omega)
            refine W.widen (k := PC ws + (0)) (n := PS ws + (0)) (by omega) (by omega) ?_
            exact W.zret (v := 0) hx hb hr (nz (Or.inl rfl)) (fun t9 ht9 hW9 => ⟨⟨_, ws_18, rfl, (Or.inl rfl), ⟨(E_9.tr E_19), (gF.tr Fr_10 Fr_20), hG, by rw [ht9]; exact hP, hD, _, _, by rw [ht9]; exact hLd, hcl, hsl⟩⟩, hS.F ht9⟩) hS.2.2 dX7_isText_39
    exact J_16 _ (0) (0) (0) ws H locs ls rfl (by have e0 : (0 : Int32).toInt = 0 := (by decide); omega) (gE.rf) (gF.rf) hG (by have e0 : (0 : Int32).toInt = 0 := (by decide); omega) (by have e0 : (0 : Int32).toInt = 0 := (by decide); omega) hP hD hS (lv_sub hl [1, 2, 3, 0] rfl)
  · refine lv_iconst (v := 0) hx hb dX7_isText_12 (by decide) ?_
    refine W_led (fun hLd => ?_)
    have hcl : 0 + PC ws ≤ PC ws + (0) := (by have e0 : (0 : Int32).toInt = 0 := (by decide); omega)
    have hsl : 0 + PS ws ≤ PS ws + (0) := (by have e0 : (0 : Int32).toInt = 0 := (by decide); omega)
    refine W.widen (k := PC ws + (0)) (n := PS ws + (0)) (by omega) (by omega) ?_
    exact W.zret (v := 0) hx hb hr (nz (Or.inl rfl)) (fun t9 ht9 hW9 => ⟨⟨_, ws, rfl, (Or.inl rfl), ⟨gE.rf, gF.rf, hG, by rw [ht9]; exact hP, hD, _, _, by rw [ht9]; exact hLd, hcl, hsl⟩⟩, hS.F ht9⟩) hS.2.2 dX7_isText_13
set_option maxHeartbeats 1000000 in
set_option maxRecDepth 100000 in
theorem m_X7_noTwins (l : Launch) (g : Gm) (sz : Nat) (ws : va_W) (h0 : Nat) (hG : Good g ws) (o_h0 : gC ws h0 6) : Met l yX7_noTwins (wt yX7_noTwins cX7_noTwins 4 (some .boolean)) ({ frames := 2, cells := 0, slots := 0, locals := 47 }) (va_Pc [.ref h0] (st_G g sz ws)) (va_Qi (fun (r : Int32) (u9 : va_W) => r = 0 ∨ r = 1) (gQ1 g [(6, 2), (6, 3)] [] none (va_A ws sz) ws) (va_A ws sz)) (0) (0) (va_A ws sz) := by
  refine Met.ofW (cc := cX7_noTwins) (maxL := 4) (ret := (some .boolean)) (by decide) rfl ?_
  intro p e s m args below meth c s₁ B hml hv
  obtain ⟨rfl, hsz, hP, hK, hD0, hex, hE⟩ := hv
  have hx := B.exec
  have hb := B.bytes
  have hr := B.returns
  have hts0 := atoms_spec (ws := wt yX7_noTwins cX7_noTwins 4 (some .boolean)) B.pre
  have hts : ∀ w ∈ tb, w.before _ s = true := fun w h => hts0 w (List.mem_cons_of_mem _ h)
  have hown : s.vm.findClass RX7 = some m.cls := findClass_of_methodNamed B.named
  subst hsz
  have hD := hD0.self (sz := s.heap.size)
  generalize hAe : va_A ws s.heap.size = A at hD hE ⊢
  have hA : ∀ q : Nat, s.heap.size ≤ q → A q := fun q h => by rw [← hAe]; exact Or.inr h
  have hS : va_S A s.heap s.heap [] := va_S.rf
  have hl := lv_entry ([.ref h0]) (n := 4) (Nat.le_of_ble_eq_true rfl)
  rw [lg_entry_eq]
  generalize (lg_sl ([.ref h0]) ++ List.replicate (4 - (lg_sl ([.ref h0])).length) Slot.unset).toArray = ls at hl ⊢
  have hl : lv_has ls 4 [(0, .ref h0)] := hl
  refine lv_iconst (v := 0) hx hb dX7_noTwins_0 (by decide) ?_
  refine lv_istore_n (lv' := [(1, .int 0), (0, .ref h0)]) hx hb dX7_noTwins_1 rfl hl (by decide) rfl (fun ls hl => ?_)
  have J_2 : ∀ (n9 : Nat) (v1_1 : Int32) (H : Heap) (locs : List Loc) (ls : Array Slot), (2147483647 - v1_1.toInt).toNat = n9 → va_P (gD g) cl0 ws H → va_D A ws → va_S A s.heap H locs → lv_has ls 4 [(0, .ref h0), (1, .int v1_1)] → W p l e (headSpec (wt yX7_noTwins cX7_noTwins 4 (some .boolean)) ({ frames := 2, cells := 0, slots := 0, locals := 47 })).room s m ([.ref h0] : List Value).toArray below meth c H locs (0) (0) (MQ below (va_Qi (fun (r : Int32) (u9 : va_W) => r = 0 ∨ r = 1) (gQ1 g [(6, 2), (6, 3)] [] none A ws) A) ([.ref h0] : List Value).toArray s (0) (0) A) (F0 m 2 ls []) := by
    intro n9
    induction n9 using Nat.strongRecOn with
    | ind n9 ih_2 =>
      intro v1_1 H locs ls hm9  hP hD hS hl
      subst hm9
      refine lv_iload_n hx hb dX7_noTwins_2 rfl (lv_at hl 1 rfl) ?_
      refine lv_aload_n hx hb dX7_noTwins_3 rfl (lv_at hl 0 rfl) ?_
      obtain ⟨k_4, fs9, hk_4⟩ := gC_of o_h0
      obtain ⟨r0_4, n0_4, c1_4, c2_4, c3_4, r4_4, n4_4, c5_4, c6_4, c7_4, c8_4, r9_4, n9_4, r10_4, n10_4, r11_4, n11_4, c12_4, c13_4, c14_4, c15_4, c16_4, rfl, a_r0_4, f1_4, a_r4_4, f3_4, a_r9_4, f5_4, a_r10_4, f7_4, a_r11_4, f9_4, f10_4, f11_4, f12_4, f13_4, f14_4, -⟩ := (hG.1 _ _ _ _ hk_4).hX7 rfl
      refine va_get (D := gD g) (ci := 6) (v := .int c7_4) (C := RX7) (T := TX7) (N := 17) hx hb hts inX7 hown hK hP k_4 hk_4 rfl 7 (by decide) (hts _ kw_1287) (fun _ h9 => h9) rfl dX7_noTwins_4 ?_
      refine lv_aload_n hx hb dX7_noTwins_7 rfl (lv_at hl 0 rfl) ?_
      refine va_get (D := gD g) (ci := 6) (v := .int c8_4) (C := RX7) (T := TX7) (N := 17) hx hb hts inX7 hown hK hP k_4 hk_4 rfl 8 (by decide) (hts _ kw_1285) (fun _ h9 => h9) rfl dX7_noTwins_8 ?_
      refine lv_iadd hx hb dX7_noTwins_11 ?_
      refine lv_topi (fun z_5 ez_5 => ?_)
      refine lv_icmp_ge (tgt := 82) hx hb dX7_noTwins_12 (by decide) (fun c_6 => ?_) (fun c_6 => ?_)
      · refine lv_iconst (v := 1) hx hb dX7_noTwins_82 (by decide) ?_
        refine W.widen (k := 0) (n := 0) (Nat.le_of_ble_eq_true rfl) (Nat.le_of_ble_eq_true rfl) ?_
        exact W.zret (v := 1) hx hb hr (nz (Or.inr rfl)) (fun t9 ht9 hW9 => ⟨⟨_, ws, rfl, (Or.inr rfl), ⟨gE.rf, gF.rf, hG, by rw [ht9]; exact hP, hD⟩⟩, hS.F ht9⟩) hS.2.2 dX7_noTwins_83
      · refine lv_iload_n hx hb dX7_noTwins_15 rfl (lv_at hl 1 rfl) ?_
        refine lv_aload_n hx hb dX7_noTwins_16 rfl (lv_at hl 0 rfl) ?_
        refine va_get (D := gD g) (ci := 6) (v := .int c7_4) (C := RX7) (T := TX7) (N := 17) hx hb hts inX7 hown hK hP k_4 hk_4 rfl 7 (by decide) (hts _ kw_1287) (fun _ h9 => h9) rfl dX7_noTwins_17 ?_
        have J_31 : ∀ (t_7 : Int32) (H : Heap) (locs : List Loc) (ls : Array Slot), va_P (gD g) cl0 ws H → va_D A ws → va_S A s.heap H locs → lv_has ls 4 [(0, .ref h0), (1, .int v1_1)] → W p l e (headSpec (wt yX7_noTwins cX7_noTwins 4 (some .boolean)) ({ frames := 2, cells := 0, slots := 0, locals := 47 })).room s m ([.ref h0] : List Value).toArray below meth c H locs (0) (0) (MQ below (va_Qi (fun (r : Int32) (u9 : va_W) => r = 0 ∨ r = 1) (gQ1 g [(6, 2), (6, 3)] [] none A ws) A) ([.ref h0] : List Value).toArray s (0) (0) A) (F0 m 31 ls [.int t_7]) := by
          intro t_7 H locs ls  hP hD hS hl
          refine lv_istore_n (lv' := [(2, .int t_7), (0, .ref h0), (1, .int v1_1)]) hx hb dX7_noTwins_31 rfl hl (by decide) rfl (fun ls hl => ?_)
          refine lv_iload_n hx hb dX7_noTwins_32 rfl (lv_at hl 0 rfl) ?_
          refine lv_istore_n (lv' := [(3, .int t_7), (2, .int t_7), (0, .ref h0), (1, .int v1_1)]) hx hb dX7_noTwins_33 rfl hl (by decide) rfl (fun ls hl => ?_)
          have J_34 : ∀ (n9 : Nat) (v3_10 : Int32) (H : Heap) (locs : List Loc) (ls : Array Slot), (2147483647 - v3_10.toInt).toNat = n9 → va_P (gD g) cl0 ws H → va_D A ws → va_S A s.heap H locs → lv_has ls 4 [(0, .ref h0), (1, .int v1_1), (3, .int v3_10)] → W p l e (headSpec (wt yX7_noTwins cX7_noTwins 4 (some .boolean)) ({ frames := 2, cells := 0, slots := 0, locals := 47 })).room s m ([.ref h0] : List Value).toArray below meth c H locs (0) (0) (MQ below (va_Qi (fun (r : Int32) (u9 : va_W) => r = 0 ∨ r = 1) (gQ1 g [(6, 2), (6, 3)] [] none A ws) A) ([.ref h0] : List Value).toArray s (0) (0) A) (F0 m 34 ls []) := by
            intro n9
            induction n9 using Nat.strongRecOn with
            | ind n9 ih_34 =>
              intro v3_10 H locs ls hm9  hP hD hS hl
              subst hm9
              refine lv_iload_n hx hb dX7_noTwins_34 rfl (lv_at hl 2 rfl) ?_
              refine lv_iload_n hx hb dX7_noTwins_35 rfl (lv_at hl 1 rfl) ?_
              refine lv_icmp_ge (tgt := 76) hx hb dX7_noTwins_36 (by decide) (fun c_13 => ?_) (fun c_13 => ?_)
              · obtain ⟨z_14, ez_14⟩ : ∃ z : Int32, v1_1 + Int32.ofInt 1 = z := ⟨_, rfl⟩
                refine lv_iinc (v := z_14) (lv' := [(1, .int z_14), (0, .ref h0), (3, .int v3_10)]) hx hb dX7_noTwins_76 hl (k := 1) rfl ez_14 (by decide) rfl (fun ls hl => ?_)
                refine lv_goto (tgt := 2) hx hb dX7_noTwins_79 (by decide) ?_
                exact ih_2 _ (by obtain ⟨u_z_14, q_z_14⟩ := i_iz ez_14 (by decide) (by decide); have q_c_6 := i_nle c_6; have q_c_13 := i_le c_13; have g_v1_1 := i_rg v1_1; have g_v3_10 := i_rg v3_10; have g_z_14 := i_rg z_14; have g_z_5 := i_rg z_5; omega) (z_14) H locs ls rfl  hP hD hS (lv_sub hl [1, 0] rfl)
              · refine lv_aload_n hx hb dX7_noTwins_39 rfl (lv_at hl 0 rfl) ?_
                refine lv_aload_n hx hb dX7_noTwins_40 rfl (lv_at hl 0 rfl) ?_
                refine lv_iload_n hx hb dX7_noTwins_41 rfl (lv_at hl 2 rfl) ?_
                have hFc := gfree hD hS hA
                refine va_calli (va_runV (As := [.int v3_10]) (rest := [.ref h0]) ⟨hx, hb, hml, hown, hts⟩ (m_X7_nameOf l g H.size ws h0 (v3_10) hG o_h0) (cwV 1 hts (gd_V kw_1421 kw_1409 kw_1410 kw_710 kw_1408) rfl rfl rfl (by decide +kernel) ⟨Nat.le_of_ble_eq_true rfl, Nat.le_of_ble_eq_true rfl⟩) ⟨gblind, va_recv hK hP (ci := 6) (q0 := k_4) rfl hk_4, fun U hU hW9 => gmk hU hW9 hP hK hD hex hE hS hFc⟩ rfl rfl hl.1 rfl (lv_room (Nat.le_of_ble_eq_true rfl)) dX7_noTwins_42 ⟨Nat.le_of_ble_eq_true rfl, Nat.le_of_ble_eq_true rfl⟩) hS (fun q _ h => hFc q h) hFc (fun r_15 u9 t9 H1 locs ht9 hvm9 hw9 hB9 hz9 hk9 hS => ?_)
                have hP : va_P (gD g) cl0 ws H1 := by rw [← ht9]; exact hB9.1
                clear hB9 hz9 hk9 hvm9 ht9 hw9
                generalize H1 = H at hP hS ⊢
                refine lv_aload_n hx hb dX7_noTwins_45 rfl (lv_at hl 0 rfl) ?_
                refine lv_iload_n hx hb dX7_noTwins_46 rfl (lv_at hl 1 rfl) ?_
                have hFc := gfree hD hS hA
                refine va_calli (va_runV (As := [.int v1_1]) (rest := [.int r_15, .ref h0]) ⟨hx, hb, hml, hown, hts⟩ (m_X7_nameOf l g H.size ws h0 (v1_1) hG o_h0) (cwV 1 hts (gd_V kw_1421 kw_1409 kw_1410 kw_710 kw_1408) rfl rfl rfl (by decide +kernel) ⟨Nat.le_of_ble_eq_true rfl, Nat.le_of_ble_eq_true rfl⟩) ⟨gblind, va_recv hK hP (ci := 6) (q0 := k_4) rfl hk_4, fun U hU hW9 => gmk hU hW9 hP hK hD hex hE hS hFc⟩ rfl rfl hl.1 rfl (lv_room (Nat.le_of_ble_eq_true rfl)) dX7_noTwins_47 ⟨Nat.le_of_ble_eq_true rfl, Nat.le_of_ble_eq_true rfl⟩) hS (fun q _ h => hFc q h) hFc (fun r_16 u9 t9 H1 locs ht9 hvm9 hw9 hB9 hz9 hk9 hS => ?_)
                have hP : va_P (gD g) cl0 ws H1 := by rw [← ht9]; exact hB9.1
                clear hB9 hz9 hk9 hvm9 ht9 hw9
                generalize H1 = H at hP hS ⊢
                have hFc := gfree hD hS hA
                refine va_calli (va_runV (As := [.int r_15, .int r_16]) (rest := []) ⟨hx, hb, hml, hown, hts⟩ (m_X7_isSameName l g H.size ws h0 (r_15) (r_16) hG o_h0) (cwV 2 hts (gd_V kw_1422 kw_1356 kw_1357 kw_710 kw_1355) rfl rfl rfl (by decide +kernel) ⟨Nat.le_of_ble_eq_true rfl, Nat.le_of_ble_eq_true rfl⟩) ⟨gblind, va_recv hK hP (ci := 6) (q0 := k_4) rfl hk_4, fun U hU hW9 => gmk hU hW9 hP hK hD hex hE hS hFc⟩ rfl rfl hl.1 rfl (lv_room (Nat.le_of_ble_eq_true rfl)) dX7_noTwins_50 ⟨Nat.le_of_ble_eq_true rfl, Nat.le_of_ble_eq_true rfl⟩) hS (fun q _ h => hFc q h) hFc (fun r_17 u9 t9 H1 locs ht9 hvm9 hw9 hB9 hz9 hk9 hS => ?_)
                have hP : va_P (gD g) cl0 ws H1 := by rw [← ht9]; exact hB9.1
                have hz_r_17 : r_17 = 0 ∨ r_17 = 1 := hw9
                clear hB9 hz9 hk9 hvm9 ht9 hw9
                generalize H1 = H at hP hS ⊢
                refine lv_if_eq (tgt := 70) hx hb dX7_noTwins_53 (by decide) (fun c_18 => ?_) (fun c_18 => ?_)
                · obtain ⟨z_19, ez_19⟩ : ∃ z : Int32, v3_10 + Int32.ofInt 1 = z := ⟨_, rfl⟩
                  refine lv_iinc (v := z_19) (lv' := [(3, .int z_19), (0, .ref h0), (1, .int v1_1)]) hx hb dX7_noTwins_70 hl (k := 2) rfl ez_19 (by decide) rfl (fun ls hl => ?_)
                  refine lv_goto (tgt := 34) hx hb dX7_noTwins_73 (by decide) ?_
                  exact ih_34 _ (by obtain ⟨u_z_19, q_z_19⟩ := i_iz ez_19 (by decide) (by decide); have q_c_13 := i_nle c_13; have g_v1_1 := i_rg v1_1; have g_v3_10 := i_rg v3_10; have g_z_19 := i_rg z_19; omega) (z_19) H locs ls rfl  hP hD hS (lv_sub hl [1, 2, 0] rfl)
                · refine lv_aload_n hx hb dX7_noTwins_56 rfl (lv_at hl 0 rfl) ?_
                  refine lv_bipush (v := 11) hx hb dX7_noTwins_57 (by decide) ?_
                  refine lv_aload_n hx hb dX7_noTwins_59 rfl (lv_at hl 0 rfl) ?_
                  refine lv_iload_n hx hb dX7_noTwins_60 rfl (lv_at hl 1 rfl) ?_
                  have hFc := gfree hD hS hA
                  refine va_calli (va_runV (As := [.int v1_1]) (rest := [.int 11, .ref h0]) ⟨hx, hb, hml, hown, hts⟩ (m_X7_memberPlace l g H.size ws h0 (v1_1) hG o_h0) (cwV 1 hts (gd_V kw_1288 kw_1394 kw_1395 kw_710 kw_1393) rfl rfl rfl (by decide +kernel) ⟨Nat.le_of_ble_eq_true rfl, Nat.le_of_ble_eq_true rfl⟩) ⟨gblind, va_recv hK hP (ci := 6) (q0 := k_4) rfl hk_4, fun U hU hW9 => gmk hU hW9 hP hK hD hex hE hS hFc⟩ rfl rfl hl.1 rfl (lv_room (Nat.le_of_ble_eq_true rfl)) dX7_noTwins_61 ⟨Nat.le_of_ble_eq_true rfl, Nat.le_of_ble_eq_true rfl⟩) hS (fun q _ h => hFc q h) hFc (fun r_20 u9 t9 H1 locs ht9 hvm9 hw9 hB9 hz9 hk9 hS => ?_)
                  have hP : va_P (gD g) cl0 ws H1 := by rw [← ht9]; exact hB9.1
                  clear hB9 hz9 hk9 hvm9 ht9 hw9
                  generalize H1 = H at hP hS ⊢
                  refine lv_iconst (v := 2) hx hb dX7_noTwins_64 (by decide) ?_
                  refine lv_iadd hx hb dX7_noTwins_65 ?_
                  refine lv_topi (fun z_21 ez_21 => ?_)
                  have hFc := gfree hD hS hA
                  refine va_calli (va_runV (As := [.int 11, .int z_21]) (rest := []) ⟨hx, hb, hml, hown, hts⟩ (m_X7_breaks l g H.size ws h0 (11) (z_21) hG o_h0) (cwV 2 hts (gd_V kw_1276 kw_1278 kw_1279 kw_710 kw_1277) rfl rfl rfl (by decide +kernel) ⟨Nat.le_of_ble_eq_true rfl, Nat.le_of_ble_eq_true rfl⟩) ⟨gblind, va_recv hK hP (ci := 6) (q0 := k_4) rfl hk_4, fun U hU hW9 => gmk hU hW9 hP hK hD hex hE hS hFc⟩ rfl rfl hl.1 rfl (lv_room (Nat.le_of_ble_eq_true rfl)) dX7_noTwins_66 ⟨Nat.le_of_ble_eq_true rfl, Nat.le_of_ble_eq_true rfl⟩) hS (fun q _ h => hFc q h) hFc (fun r_22 ws_23 t9 H1 locs ht9 hvm9 hw9 hB9 hz9 hk9 hS => ?_)
                  obtain ⟨E_24, Fr_25, hG, hP1, hD1⟩ := hB9
                  have hP : va_P (gD g) cl0 ws_23 H1 := by rw [← ht9]; exact hP1
                  have hD : va_D A ws_23 := hD1.weaken (fun _ _ _ h => hFc _ h)
                  have hz_r_22 : r_22 = 0 ∨ r_22 = 1 := hw9
                  clear hP1 hD1 hz9 hk9 hvm9 ht9 hw9
                  generalize H1 = H at hP hS ⊢
                  have aa_28 := a_r0_4
                  have aa_29 := a_r4_4
                  have aa_30 := a_r9_4
                  have aa_31 := a_r10_4
                  have aa_32 := a_r11_4
                  have o_h0 := E_24.1 _ _ o_h0
                  refine W.widen (k := 0) (n := 0) (Nat.le_of_ble_eq_true rfl) (Nat.le_of_ble_eq_true rfl) ?_
                  exact W.zret (v := r_22) hx hb hr (nz hz_r_22) (fun t9 ht9 hW9 => ⟨⟨_, ws_23, rfl, hz_r_22, ⟨E_24, Fr_25, hG, by rw [ht9]; exact hP, hD⟩⟩, hS.F ht9⟩) hS.2.2 dX7_noTwins_69
          exact J_34 _ (t_7) H locs ls rfl  hP hD hS (lv_sub hl [2, 3, 0] rfl)
        refine lv_icmp_ge (tgt := 27) hx hb dX7_noTwins_20 (by decide) (fun c_33 => ?_) (fun c_33 => ?_)
        · refine lv_aload_n hx hb dX7_noTwins_27 rfl (lv_at hl 0 rfl) ?_
          refine va_get (D := gD g) (ci := 6) (v := .int c7_4) (C := RX7) (T := TX7) (N := 17) hx hb hts inX7 hown hK hP k_4 hk_4 rfl 7 (by decide) (hts _ kw_1287) (fun _ h9 => h9) rfl dX7_noTwins_28 ?_
          exact J_31 (c7_4) H locs ls  hP hD hS (lv_sub hl [0, 1] rfl)
        · refine lv_iconst (v := 0) hx hb dX7_noTwins_23 (by decide) ?_
          refine lv_goto (tgt := 31) hx hb dX7_noTwins_24 (by decide) ?_
          exact J_31 (0) H locs ls  hP hD hS (lv_sub hl [0, 1] rfl)
  exact J_2 _ (0) _ _ ls rfl  hP hD hS (lv_sub hl [1, 0] rfl)
set_option maxHeartbeats 1000000 in
set_option maxRecDepth 100000 in
theorem m_X7_codesHold (l : Launch) (g : Gm) (H0 : Heap) (ws : va_W) (h0 : Nat) (hG : Good g ws) (o_h0 : gC ws h0 6) : Met l yX7_codesHold (wt yX7_codesHold cX7_codesHold 8 (some .boolean)) ({ frames := 5, cells := PC ws + (0), slots := PS ws + (0), locals := 108 }) (va_Pc [.ref h0] (st_H g H0 ws)) (va_Qi (fun (r : Int32) (u9 : va_W) => r = 0 ∨ r = 1) (gQ2 g [(6, 2), (6, 3)] [(6, 10), (6, 11)] none (va_A ws H0.size) ws H0 (0) (0)) (va_A ws H0.size)) (PC ws + (0)) (PS ws + (0)) (va_A ws H0.size) := by
  refine Met.ofW (cc := cX7_codesHold) (maxL := 8) (ret := (some .boolean)) (by decide) rfl ?_
  intro p e s m args below meth c s₁ B hml hv
  obtain ⟨rfl, hH0, hsz, hP, hK, hD0, hex, hE⟩ := hv
  have hx := B.exec
  have hb := B.bytes
  have hr := B.returns
  have hts0 := atoms_spec (ws := wt yX7_codesHold cX7_codesHold 8 (some .boolean)) B.pre
  have hts : ∀ w ∈ tb, w.before _ s = true := fun w h => hts0 w (List.mem_cons_of_mem _ h)
  have hown : s.vm.findClass RX7 = some m.cls := findClass_of_methodNamed B.named
  subst hH0
  have hD := hD0.self (sz := s.heap.size)
  generalize hAe : va_A ws s.heap.size = A at hD hE ⊢
  have hA : ∀ q : Nat, s.heap.size ≤ q → A q := fun q h => by rw [← hAe]; exact Or.inr h
  have hS : va_S A s.heap s.heap [] := va_S.rf
  have hl := lv_entry ([.ref h0]) (n := 8) (Nat.le_of_ble_eq_true rfl)
  rw [lg_entry_eq]
  generalize (lg_sl ([.ref h0]) ++ List.replicate (8 - (lg_sl ([.ref h0])).length) Slot.unset).toArray = ls at hl ⊢
  have hl : lv_has ls 8 [(0, .ref h0)] := hl
  refine lv_iconst (v := 0) hx hb dX7_codesHold_0 (by decide) ?_
  refine lv_istore_n (lv' := [(1, .int 0), (0, .ref h0)]) hx hb dX7_codesHold_1 rfl hl (by decide) rfl (fun ls hl => ?_)
  have J_2 : ∀ (n9 : Nat) (v1_1 : Int32) (dc_2_1 : Nat) (ds_2_1 : Nat) (ws_3 : va_W) (H : Heap) (locs : List Loc) (ls : Array Slot), (2147483647 - v1_1.toInt).toNat = n9 → 0 ≤ v1_1.toInt → gE ws ws_3 → gF [] [(6, 10), (6, 11)] none ws ws_3 → Good g ws_3 → dc_2_1 + PC ws_3 ≤ PC ws + (0) → ds_2_1 + PS ws_3 ≤ PS ws + (0) → va_P (gD g) cl0 ws_3 H → va_D A ws_3 → va_S A s.heap H locs → lv_has ls 8 [(0, .ref h0), (1, .int v1_1)] → W p l e (headSpec (wt yX7_codesHold cX7_codesHold 8 (some .boolean)) ({ frames := 5, cells := PC ws + (0), slots := PS ws + (0), locals := 108 })).room s m ([.ref h0] : List Value).toArray below meth c H locs (dc_2_1) (ds_2_1) (MQ below (va_Qi (fun (r : Int32) (u9 : va_W) => r = 0 ∨ r = 1) (gQ2 g [(6, 2), (6, 3)] [(6, 10), (6, 11)] none A ws s.heap (0) (0)) A) ([.ref h0] : List Value).toArray s (PC ws + (0)) (PS ws + (0)) A) (F0 m 2 ls []) := by
    intro n9
    induction n9 using Nat.strongRecOn with
    | ind n9 ih_2 =>
      intro v1_1 dc_2_1 ds_2_1 ws_3 H locs ls hm9 iv_2 E_4 Fr_5 hG hc9 hs9 hP hD hS hl
      subst hm9
      have o_h0 := E_4.1 _ _ o_h0
      refine lv_iload_n hx hb dX7_codesHold_2 rfl (lv_at hl 1 rfl) ?_
      refine lv_aload_n hx hb dX7_codesHold_3 rfl (lv_at hl 0 rfl) ?_
      obtain ⟨k_6, fs9, hk_6⟩ := gC_of o_h0
      obtain ⟨r0_6, n0_6, c1_6, c2_6, c3_6, r4_6, n4_6, c5_6, c6_6, c7_6, c8_6, r9_6, n9_6, r10_6, n10_6, r11_6, n11_6, c12_6, c13_6, c14_6, c15_6, c16_6, rfl, a_r0_6, f1_6, a_r4_6, f3_6, a_r9_6, f5_6, a_r10_6, f7_6, a_r11_6, f9_6, f10_6, f11_6, f12_6, f13_6, f14_6, -⟩ := (hG.1 _ _ _ _ hk_6).hX7 rfl
      refine va_get (D := gD g) (ci := 6) (v := .int c8_6) (C := RX7) (T := TX7) (N := 17) hx hb hts inX7 hown hK hP k_6 hk_6 rfl 8 (by decide) (hts _ kw_1285) (fun _ h9 => h9) rfl dX7_codesHold_4 ?_
      have J_140 : ∀ (dc_140_2 : Nat) (ds_140_2 : Nat) (H : Heap) (locs : List Loc) (ls : Array Slot), dc_140_2 + PC ws_3 ≤ PC ws + (0) → ds_140_2 + PS ws_3 ≤ PS ws + (0) → va_P (gD g) cl0 ws_3 H → va_D A ws_3 → va_S A s.heap H locs → lv_has ls 8 [] → W p l e (headSpec (wt yX7_codesHold cX7_codesHold 8 (some .boolean)) ({ frames := 5, cells := PC ws + (0), slots := PS ws + (0), locals := 108 })).room s m ([.ref h0] : List Value).toArray below meth c H locs (dc_140_2) (ds_140_2) (MQ below (va_Qi (fun (r : Int32) (u9 : va_W) => r = 0 ∨ r = 1) (gQ2 g [(6, 2), (6, 3)] [(6, 10), (6, 11)] none A ws s.heap (0) (0)) A) ([.ref h0] : List Value).toArray s (PC ws + (0)) (PS ws + (0)) A) (F0 m 140 ls []) := by
        intro dc_140_2 ds_140_2 H locs ls  hc9 hs9 hP hD hS hl
        refine lv_iconst (v := 1) hx hb dX7_codesHold_140 (by decide) ?_
        refine W_led (fun hLd => ?_)
        have hcl : dc_140_2 + PC ws_3 ≤ PC ws + (0) := (by omega)
        have hsl : ds_140_2 + PS ws_3 ≤ PS ws + (0) := (by omega)
        refine W.widen (k := PC ws + (0)) (n := PS ws + (0)) (by omega) (by omega) ?_
        exact W.zret (v := 1) hx hb hr (nz (Or.inr rfl)) (fun t9 ht9 hW9 => ⟨⟨_, ws_3, rfl, (Or.inr rfl), ⟨E_4, (gF.mo (F' := [(6, 2), (6, 3)]) (C' := [(6, 10), (6, 11)]) (S' := none) Fr_5 (fun _ h => absurd h List.not_mem_nil) (fun _ h => h) (Or.inr rfl)), hG, by rw [ht9]; exact hP, hD, _, _, by rw [ht9]; exact hLd, hcl, hsl⟩⟩, hS.F ht9⟩) hS.2.2 dX7_codesHold_141
      refine lv_icmp_ge (tgt := 140) hx hb dX7_codesHold_7 (by decide) (fun c_9 => ?_) (fun c_9 => ?_)
      · exact J_140 (dc_2_1) (ds_2_1) H locs ls (by omega) (by omega) hP hD hS (lv_sub hl [] rfl)
      · refine lv_iload_n hx hb dX7_codesHold_10 rfl (lv_at hl 1 rfl) ?_
        refine lv_aload_n hx hb dX7_codesHold_11 rfl (lv_at hl 0 rfl) ?_
        refine va_get (D := gD g) (ci := 6) (v := .ref r10_6) (C := RX7) (T := TX7) (N := 17) hx hb hts inX7 hown hK hP k_6 hk_6 rfl 10 (by decide) (hts _ kw_1286) (fun _ h9 => h9) rfl dX7_codesHold_12 ?_
        obtain ⟨k_10, f_10, hk_10⟩ := gI_of a_r10_6
        obtain ⟨z_11, ez_11⟩ : ∃ z : Int32, Int32.ofNat n10_6 = z := ⟨_, rfl⟩
        refine va_alen (v := z_11) hx hb hK hP k_10 1 hk_10 rfl ez_11 dX7_codesHold_15 ?_
        refine lv_icmp_ge (tgt := 140) hx hb dX7_codesHold_16 (by decide) (fun c_12 => ?_) (fun c_12 => ?_)
        · exact J_140 (dc_2_1) (ds_2_1) H locs ls (by omega) (by omega) hP hD hS (lv_sub hl [] rfl)
        · refine lv_aload_n hx hb dX7_codesHold_19 rfl (lv_at hl 0 rfl) ?_
          refine lv_aload_n hx hb dX7_codesHold_20 rfl (lv_at hl 0 rfl) ?_
          refine va_get (D := gD g) (ci := 6) (v := .int c7_6) (C := RX7) (T := TX7) (N := 17) hx hb hts inX7 hown hK hP k_6 hk_6 rfl 7 (by decide) (hts _ kw_1287) (fun _ h9 => h9) rfl dX7_codesHold_21 ?_
          refine lv_iload_n hx hb dX7_codesHold_24 rfl (lv_at hl 1 rfl) ?_
          refine lv_iadd hx hb dX7_codesHold_25 ?_
          refine lv_topi (fun z_13 ez_13 => ?_)
          have hFc := gfree hD hS hA
          refine va_calli (va_runV (As := [.int z_13]) (rest := []) ⟨hx, hb, hml, hown, hts⟩ (m_X7_memberPlace l g H.size ws_3 h0 (z_13) hG o_h0) (cwV 1 hts (gd_V kw_1288 kw_1394 kw_1395 kw_710 kw_1393) rfl rfl rfl (by decide +kernel) ⟨Nat.le_of_ble_eq_true rfl, Nat.le_of_ble_eq_true rfl⟩) ⟨gblind, va_recv hK hP (ci := 6) (q0 := k_6) rfl hk_6, fun U hU hW9 => gmk hU hW9 hP hK hD hex hE hS hFc⟩ rfl rfl hl.1 rfl (lv_room (Nat.le_of_ble_eq_true rfl)) dX7_codesHold_26 ⟨(show dc_2_1 + 0 ≤ PC ws + (0) from (by omega)), (show ds_2_1 + 0 ≤ PS ws + (0) from (by omega))⟩) hS (fun q _ h => hFc q h) hFc (fun r_14 u9 t9 H1 locs ht9 hvm9 hw9 hB9 hz9 hk9 hS => ?_)
          have hP : va_P (gD g) cl0 ws_3 H1 := by rw [← ht9]; exact hB9.1
          clear hB9 hz9 hk9 hvm9 ht9 hw9
          generalize H1 = H at hP hS ⊢
          refine lv_istore_n (lv' := [(2, .int r_14), (0, .ref h0), (1, .int v1_1)]) hx hb dX7_codesHold_29 rfl hl (by decide) rfl (fun ls hl => ?_)
          refine lv_aload_n hx hb dX7_codesHold_30 rfl (lv_at hl 1 rfl) ?_
          refine lv_iload_n hx hb dX7_codesHold_31 rfl (lv_at hl 0 rfl) ?_
          refine lv_bipush (v := 6) hx hb dX7_codesHold_32 (by decide) ?_
          refine lv_iadd hx hb dX7_codesHold_34 ?_
          refine lv_topi (fun z_15 ez_15 => ?_)
          have hFc := gfree hD hS hA
          refine va_calli (va_runV (As := [.int z_15]) (rest := []) ⟨hx, hb, hml, hown, hts⟩ (m_X7_u2 l g H.size ws_3 h0 (z_15) hG o_h0) (cwV 1 hts (gd_V kw_1266 kw_1450 kw_1451 kw_710 kw_1449) rfl rfl rfl (by decide +kernel) ⟨Nat.le_of_ble_eq_true rfl, Nat.le_of_ble_eq_true rfl⟩) ⟨gblind, va_recv hK hP (ci := 6) (q0 := k_6) rfl hk_6, fun U hU hW9 => gmk hU hW9 hP hK hD hex hE hS hFc⟩ rfl rfl hl.1 rfl (lv_room (Nat.le_of_ble_eq_true rfl)) dX7_codesHold_35 ⟨(show dc_2_1 + 0 ≤ PC ws + (0) from (by omega)), (show ds_2_1 + 0 ≤ PS ws + (0) from (by omega))⟩) hS (fun q _ h => hFc q h) hFc (fun r_16 u9 t9 H1 locs ht9 hvm9 hw9 hB9 hz9 hk9 hS => ?_)
          have hP : va_P (gD g) cl0 ws_3 H1 := by rw [← ht9]; exact hB9.1
          have h_r_16 := hw9
          clear hB9 hz9 hk9 hvm9 ht9 hw9
          generalize H1 = H at hP hS ⊢
          refine lv_istore_n (lv' := [(3, .int r_16), (2, .int r_14), (0, .ref h0), (1, .int v1_1)]) hx hb dX7_codesHold_38 rfl hl (by decide) rfl (fun ls hl => ?_)
          refine lv_iload_n hx hb dX7_codesHold_39 rfl (lv_at hl 1 rfl) ?_
          refine lv_bipush (v := 8) hx hb dX7_codesHold_40 (by decide) ?_
          refine lv_iadd hx hb dX7_codesHold_42 ?_
          refine lv_topi (fun z_17 ez_17 => ?_)
          refine lv_istore (lv' := [(4, .int z_17), (3, .int r_16), (2, .int r_14), (0, .ref h0), (1, .int v1_1)]) hx hb dX7_codesHold_43 hl (by decide) rfl (fun ls hl => ?_)
          refine lv_iconst (v := 0) hx hb dX7_codesHold_45 (by decide) ?_
          refine lv_istore (lv' := [(5, .int 0), (4, .int z_17), (3, .int r_16), (2, .int r_14), (0, .ref h0), (1, .int v1_1)]) hx hb dX7_codesHold_46 hl (by decide) rfl (fun ls hl => ?_)
          refine lv_iconst (v := 0) hx hb dX7_codesHold_48 (by decide) ?_
          refine lv_istore (lv' := [(6, .int 0), (5, .int 0), (4, .int z_17), (3, .int r_16), (2, .int r_14), (0, .ref h0), (1, .int v1_1)]) hx hb dX7_codesHold_49 hl (by decide) rfl (fun ls hl => ?_)
          have J_51 : ∀ (n9 : Nat) (v4_18 : Int32) (v5_19 : Int32) (v6_20 : Int32) (dc_51_3 : Nat) (ds_51_3 : Nat) (ws_22 : va_W) (H : Heap) (locs : List Loc) (ls : Array Slot), (2147483647 - v6_20.toInt).toNat = n9 → 0 ≤ v6_20.toInt → gE ws_3 ws_22 → gF [] [(6, 10), (6, 11)] none ws_3 ws_22 → Good g ws_22 → dc_51_3 + PC ws_22 ≤ PC ws + (0) → ds_51_3 + PS ws_22 ≤ PS ws + (0) → va_P (gD g) cl0 ws_22 H → va_D A ws_22 → va_S A s.heap H locs → lv_has ls 8 [(0, .ref h0), (1, .int v1_1), (2, .int r_14), (3, .int r_16), (4, .int v4_18), (5, .int v5_19), (6, .int v6_20)] → W p l e (headSpec (wt yX7_codesHold cX7_codesHold 8 (some .boolean)) ({ frames := 5, cells := PC ws + (0), slots := PS ws + (0), locals := 108 })).room s m ([.ref h0] : List Value).toArray below meth c H locs (dc_51_3) (ds_51_3) (MQ below (va_Qi (fun (r : Int32) (u9 : va_W) => r = 0 ∨ r = 1) (gQ2 g [(6, 2), (6, 3)] [(6, 10), (6, 11)] none A ws s.heap (0) (0)) A) ([.ref h0] : List Value).toArray s (PC ws + (0)) (PS ws + (0)) A) (F0 m 51 ls []) := by
            intro n9
            induction n9 using Nat.strongRecOn with
            | ind n9 ih_51 =>
              intro v4_18 v5_19 v6_20 dc_51_3 ds_51_3 ws_22 H locs ls hm9 iv_21 E_23 Fr_24 hG hc9 hs9 hP hD hS hl
              subst hm9
              have aa_25 := a_r0_6
              have aa_26 := a_r4_6
              have aa_27 := a_r9_6
              have aa_28 := a_r10_6
              have aa_29 := a_r11_6
              have o_h0 := E_23.1 _ _ o_h0
              refine lv_iload hx hb dX7_codesHold_51 (lv_at hl 6 rfl) ?_
              refine lv_iload_n hx hb dX7_codesHold_53 rfl (lv_at hl 3 rfl) ?_
              refine lv_icmp_ge (tgt := 120) hx hb dX7_codesHold_54 (by decide) (fun c_30 => ?_) (fun c_30 => ?_)
              · refine lv_iload hx hb dX7_codesHold_120 (lv_at hl 5 rfl) ?_
                refine lv_iconst (v := 1) hx hb dX7_codesHold_122 (by decide) ?_
                refine lv_icmp_eq (tgt := 134) hx hb dX7_codesHold_123 (by decide) (fun c_31 => ?_) (fun c_31 => ?_)
                · obtain ⟨z_32, ez_32⟩ : ∃ z : Int32, v1_1 + Int32.ofInt 1 = z := ⟨_, rfl⟩
                  refine lv_iinc (v := z_32) (lv' := [(1, .int z_32), (0, .ref h0), (2, .int r_14), (3, .int r_16), (4, .int v4_18), (5, .int v5_19), (6, .int v6_20)]) hx hb dX7_codesHold_134 hl (k := 1) rfl ez_32 (by decide) rfl (fun ls hl => ?_)
                  refine lv_goto (tgt := 2) hx hb dX7_codesHold_137 (by decide) ?_
                  exact ih_2 _ (by obtain ⟨u_z_32, q_z_32⟩ := i_iz ez_32 (by decide) (by decide); have q_iv_2 := iv_2; have q_c_9 := i_nle c_9; have q_c_12 := i_nle c_12; obtain ⟨u_z_13, q_z_13⟩ := i_add ez_13; have g_c7_6 := i_rg c7_6; have g_c8_6 := i_rg c8_6; have g_v1_1 := i_rg v1_1; have g_z_11 := i_rg z_11; have g_z_13 := i_rg z_13; have g_z_32 := i_rg z_32; omega) (z_32) (dc_51_3) (ds_51_3) ws_22 H locs ls rfl (by obtain ⟨u_z_32, q_z_32⟩ := i_iz ez_32 (by decide) (by decide); have q_iv_2 := iv_2; have q_c_9 := i_nle c_9; have q_c_12 := i_nle c_12; obtain ⟨u_z_13, q_z_13⟩ := i_add ez_13; have g_c7_6 := i_rg c7_6; have g_c8_6 := i_rg c8_6; have g_v1_1 := i_rg v1_1; have g_z_11 := i_rg z_11; have g_z_13 := i_rg z_13; have g_z_32 := i_rg z_32; omega) ((E_4.tr E_23)) ((gF.tr Fr_5 Fr_24)) hG (by omega) (by omega) hP hD hS (lv_sub hl [1, 0] rfl)
                · refine lv_aload_n hx hb dX7_codesHold_126 rfl (lv_at hl 0 rfl) ?_
                  refine lv_bipush (v := 12) hx hb dX7_codesHold_127 (by decide) ?_
                  refine lv_iload_n hx hb dX7_codesHold_129 rfl (lv_at hl 2 rfl) ?_
                  have hFc := gfree hD hS hA
                  obtain ⟨k_33, fs_33, hk_33⟩ := gC_of o_h0
                  refine va_calli (va_runV (As := [.int 12, .int r_14]) (rest := []) ⟨hx, hb, hml, hown, hts⟩ (m_X7_breaks l g H.size ws_22 h0 (12) (r_14) hG o_h0) (cwV 2 hts (gd_V kw_1276 kw_1278 kw_1279 kw_710 kw_1277) rfl rfl rfl (by decide +kernel) ⟨Nat.le_of_ble_eq_true rfl, Nat.le_of_ble_eq_true rfl⟩) ⟨gblind, va_recv hK hP (ci := 6) (q0 := k_33) rfl hk_33, fun U hU hW9 => gmk hU hW9 hP hK hD hex hE hS hFc⟩ rfl rfl hl.1 rfl (lv_room (Nat.le_of_ble_eq_true rfl)) dX7_codesHold_130 ⟨(show dc_51_3 + 0 ≤ PC ws + (0) from (by omega)), (show ds_51_3 + 0 ≤ PS ws + (0) from (by omega))⟩) hS (fun q _ h => hFc q h) hFc (fun r_34 ws_35 t9 H1 locs ht9 hvm9 hw9 hB9 hz9 hk9 hS => ?_)
                  obtain ⟨E_36, Fr_37, hG, hP1, hD1⟩ := hB9
                  have hP : va_P (gD g) cl0 ws_35 H1 := by rw [← ht9]; exact hP1
                  have hD : va_D A ws_35 := hD1.weaken (fun _ _ _ h => hFc _ h)
                  have hz_r_34 : r_34 = 0 ∨ r_34 = 1 := hw9
                  clear hP1 hD1 hz9 hk9 hvm9 ht9 hw9
                  generalize H1 = H at hP hS ⊢
                  have o_h0 := E_36.1 _ _ o_h0
                  have pp_40 := Fr_37.pp
                  refine W_led (fun hLd => ?_)
                  have hcl : dc_51_3 + PC ws_35 ≤ PC ws + (0) := (by omega)
                  have hsl : ds_51_3 + PS ws_35 ≤ PS ws + (0) := (by omega)
                  refine W.widen (k := PC ws + (0)) (n := PS ws + (0)) (by omega) (by omega) ?_
                  exact W.zret (v := r_34) hx hb hr (nz hz_r_34) (fun t9 ht9 hW9 => ⟨⟨_, ws_35, rfl, hz_r_34, ⟨(E_4.tr (E_23.tr E_36)), (gF.tr (gF.mo (F' := [(6, 2), (6, 3)]) (C' := [(6, 10), (6, 11)]) (S' := none) Fr_5 (fun _ h => absurd h List.not_mem_nil) (fun _ h => h) (Or.inr rfl)) (gF.tr (gF.mo (F' := [(6, 2), (6, 3)]) (C' := [(6, 10), (6, 11)]) (S' := none) Fr_24 (fun _ h => absurd h List.not_mem_nil) (fun _ h => h) (Or.inr rfl)) (gF.mo (F' := [(6, 2), (6, 3)]) (C' := [(6, 10), (6, 11)]) (S' := none) Fr_37 (fun _ h => h) (fun _ h => absurd h List.not_mem_nil) (Or.inr rfl)))), hG, by rw [ht9]; exact hP, hD, _, _, by rw [ht9]; exact hLd, hcl, hsl⟩⟩, hS.F ht9⟩) hS.2.2 dX7_codesHold_133
              · refine lv_iload hx hb dX7_codesHold_57 (lv_at hl 4 rfl) ?_
                refine lv_bipush (v := 6) hx hb dX7_codesHold_59 (by decide) ?_
                refine lv_iadd hx hb dX7_codesHold_61 ?_
                refine lv_topi (fun z_41 ez_41 => ?_)
                refine lv_aload_n hx hb dX7_codesHold_62 rfl (lv_at hl 0 rfl) ?_
                refine lv_iload hx hb dX7_codesHold_63 (lv_at hl 4 rfl) ?_
                refine lv_iconst (v := 2) hx hb dX7_codesHold_65 (by decide) ?_
                refine lv_iadd hx hb dX7_codesHold_66 ?_
                refine lv_topi (fun z_42 ez_42 => ?_)
                have hFc := gfree hD hS hA
                obtain ⟨k_43, fs_43, hk_43⟩ := gC_of o_h0
                refine va_calli (va_runV (As := [.int z_42]) (rest := [.int z_41]) ⟨hx, hb, hml, hown, hts⟩ (m_X7_s4 l g H.size ws_22 h0 (z_42) hG o_h0) (cwV 1 hts (gd_V kw_1268 kw_1429 kw_1430 kw_710 kw_1428) rfl rfl rfl (by decide +kernel) ⟨Nat.le_of_ble_eq_true rfl, Nat.le_of_ble_eq_true rfl⟩) ⟨gblind, va_recv hK hP (ci := 6) (q0 := k_43) rfl hk_43, fun U hU hW9 => gmk hU hW9 hP hK hD hex hE hS hFc⟩ rfl rfl hl.1 rfl (lv_room (Nat.le_of_ble_eq_true rfl)) dX7_codesHold_67 ⟨(show dc_51_3 + 0 ≤ PC ws + (0) from (by omega)), (show ds_51_3 + 0 ≤ PS ws + (0) from (by omega))⟩) hS (fun q _ h => hFc q h) hFc (fun r_44 u9 t9 H1 locs ht9 hvm9 hw9 hB9 hz9 hk9 hS => ?_)
                have hP : va_P (gD g) cl0 ws_22 H1 := by rw [← ht9]; exact hB9.1
                clear hB9 hz9 hk9 hvm9 ht9 hw9
                generalize H1 = H at hP hS ⊢
                refine lv_iadd hx hb dX7_codesHold_70 ?_
                refine lv_topi (fun z_45 ez_45 => ?_)
                refine lv_istore (lv' := [(7, .int z_45), (0, .ref h0), (1, .int v1_1), (2, .int r_14), (3, .int r_16), (4, .int v4_18), (5, .int v5_19), (6, .int v6_20)]) hx hb dX7_codesHold_71 hl (by decide) rfl (fun ls hl => ?_)
                refine lv_aload_n hx hb dX7_codesHold_73 rfl (lv_at hl 1 rfl) ?_
                refine lv_aload_n hx hb dX7_codesHold_74 rfl (lv_at hl 1 rfl) ?_
                refine lv_iload hx hb dX7_codesHold_75 (lv_at hl 5 rfl) ?_
                have hFc := gfree hD hS hA
                obtain ⟨k_46, fs_46, hk_46⟩ := gC_of o_h0
                refine va_calli (va_runV (As := [.int v4_18]) (rest := [.ref h0]) ⟨hx, hb, hml, hown, hts⟩ (m_X7_u2 l g H.size ws_22 h0 (v4_18) hG o_h0) (cwV 1 hts (gd_V kw_1266 kw_1450 kw_1451 kw_710 kw_1449) rfl rfl rfl (by decide +kernel) ⟨Nat.le_of_ble_eq_true rfl, Nat.le_of_ble_eq_true rfl⟩) ⟨gblind, va_recv hK hP (ci := 6) (q0 := k_46) rfl hk_46, fun U hU hW9 => gmk hU hW9 hP hK hD hex hE hS hFc⟩ rfl rfl hl.1 rfl (lv_room (Nat.le_of_ble_eq_true rfl)) dX7_codesHold_77 ⟨(show dc_51_3 + 0 ≤ PC ws + (0) from (by omega)), (show ds_51_3 + 0 ≤ PS ws + (0) from (by omega))⟩) hS (fun q _ h => hFc q h) hFc (fun r_47 u9 t9 H1 locs ht9 hvm9 hw9 hB9 hz9 hk9 hS => ?_)
                have hP : va_P (gD g) cl0 ws_22 H1 := by rw [← ht9]; exact hB9.1
                have h_r_47 := hw9
                clear hB9 hz9 hk9 hvm9 ht9 hw9
                generalize H1 = H at hP hS ⊢
                obtain ⟨q_48, eq_48⟩ : ∃ z, z = g.aK 0 := ⟨_, rfl⟩
                obtain ⟨n_49, en_49⟩ : ∃ z, z = sL.getD 0 0 := ⟨_, rfl⟩
                have t_q_48 : gT g q_48 n_49 := ⟨0, by decide, eq_48, en_49⟩
                refine va_ldcS (tx := "Code") (q := q_48) hx hb hown (by rw [eq_48]; exact hE.2.2.2.2.2.2.2.1) dX7_codesHold_80 ?_
                have hFc := gfree hD hS hA
                refine W_led (fun hL0 => ?_)
                obtain ⟨k_50, fs_50, hk_50⟩ := gC_of o_h0
                refine va_calli (va_runV (As := [.int r_47, .ref q_48]) (rest := []) ⟨hx, hb, hml, hown, hts⟩ (m_X7_isText l g H ws_22 h0 (r_47) q_48 (n_49) hG o_h0 t_q_48) (cwV 2 hts (gd_V kw_1289 kw_1377 kw_1378 kw_710 kw_1376) rfl rfl rfl (by decide +kernel) ⟨Nat.le_of_ble_eq_true rfl, Nat.le_of_ble_eq_true rfl⟩) ⟨gblindH, va_recv hK hP (ci := 6) (q0 := k_50) rfl hk_50, fun U hU hW9 => gmkH hU hW9 hP hK hD hex hE hS hFc⟩ rfl rfl hl.1 rfl (lv_room (Nat.le_of_ble_eq_true rfl)) dX7_codesHold_82 ⟨(show dc_51_3 + (PC ws_22 + (0)) ≤ PC ws + (0) from (by have e0 : (0 : Int32).toInt = 0 := (by decide); omega)), (show ds_51_3 + (PS ws_22 + (0)) ≤ PS ws + (0) from (by have e0 : (0 : Int32).toInt = 0 := (by decide); omega))⟩) hS (fun q _ h => hFc q h) hFc (fun r_51 ws_52 t9 H1 locs ht9 hvm9 hw9 hB9 hz9 hk9 hS => ?_)
                obtain ⟨E_53, Fr_54, hG, hP1, hD1, dc_55, ds_56, hLd, hdc_55, hds_56⟩ := hB9
                rw [ht9] at hLd
                refine W_tight (hL0.tr hLd).1 (hL0.tr hLd).2.1 ?_
                clear hL0 hLd
                have hP : va_P (gD g) cl0 ws_52 H1 := by rw [← ht9]; exact hP1
                have hD : va_D A ws_52 := hD1.weaken (fun _ _ _ h => hFc _ h)
                have hz_r_51 : r_51 = 0 ∨ r_51 = 1 := hw9
                clear hP1 hD1 hz9 hk9 hvm9 ht9 hw9
                generalize H1 = H at hP hS ⊢
                have o_h0 := E_53.1 _ _ o_h0
                have J_110 : ∀ (v5_57 : Int32) (dc_110_4 : Nat) (ds_110_4 : Nat) (ws_58 : va_W) (H : Heap) (locs : List Loc) (ls : Array Slot), gE ws_52 ws_58 → gF [] [(6, 10), (6, 11)] none ws_52 ws_58 → Good g ws_58 → dc_110_4 + PC ws_58 ≤ PC ws + (0) → ds_110_4 + PS ws_58 ≤ PS ws + (0) → va_P (gD g) cl0 ws_58 H → va_D A ws_58 → va_S A s.heap H locs → lv_has ls 8 [(0, .ref h0), (1, .int v1_1), (2, .int r_14), (3, .int r_16), (5, .int v5_57), (6, .int v6_20), (7, .int z_45)] → W p l e (headSpec (wt yX7_codesHold cX7_codesHold 8 (some .boolean)) ({ frames := 5, cells := PC ws + (0), slots := PS ws + (0), locals := 108 })).room s m ([.ref h0] : List Value).toArray below meth c H locs (dc_110_4) (ds_110_4) (MQ below (va_Qi (fun (r : Int32) (u9 : va_W) => r = 0 ∨ r = 1) (gQ2 g [(6, 2), (6, 3)] [(6, 10), (6, 11)] none A ws s.heap (0) (0)) A) ([.ref h0] : List Value).toArray s (PC ws + (0)) (PS ws + (0)) A) (F0 m 110 ls []) := by
                  intro v5_57 dc_110_4 ds_110_4 ws_58 H locs ls  E_59 Fr_60 hG hc9 hs9 hP hD hS hl
                  have o_h0 := E_59.1 _ _ o_h0
                  refine lv_iload hx hb dX7_codesHold_110 (lv_at hl 6 rfl) ?_
                  refine lv_istore (lv' := [(4, .int z_45), (0, .ref h0), (1, .int v1_1), (2, .int r_14), (3, .int r_16), (5, .int v5_57), (6, .int v6_20), (7, .int z_45)]) hx hb dX7_codesHold_112 hl (by decide) rfl (fun ls hl => ?_)
                  obtain ⟨z_61, ez_61⟩ : ∃ z : Int32, v6_20 + Int32.ofInt 1 = z := ⟨_, rfl⟩
                  refine lv_iinc (v := z_61) (lv' := [(6, .int z_61), (4, .int z_45), (0, .ref h0), (1, .int v1_1), (2, .int r_14), (3, .int r_16), (5, .int v5_57), (7, .int z_45)]) hx hb dX7_codesHold_114 hl (k := 6) rfl ez_61 (by decide) rfl (fun ls hl => ?_)
                  refine lv_goto (tgt := 51) hx hb dX7_codesHold_117 (by decide) ?_
                  exact ih_51 _ (by have e6 : (6 : Int32).toInt = 6 := (by decide); obtain ⟨u_z_45, q_z_45⟩ := i_add ez_45; obtain ⟨u_z_61, q_z_61⟩ := i_iz ez_61 (by decide) (by decide); have q_iv_21 := iv_21; have q_c_30 := i_nle c_30; obtain ⟨u_z_41, q_z_41⟩ := i_add ez_41; have g_r_16 := i_rg r_16; have g_r_44 := i_rg r_44; have g_v4_18 := i_rg v4_18; have g_v5_57 := i_rg v5_57; have g_v6_20 := i_rg v6_20; have g_z_41 := i_rg z_41; have g_z_45 := i_rg z_45; have g_z_61 := i_rg z_61; omega) (z_45) (v5_57) (z_61) (dc_110_4) (ds_110_4) ws_58 H locs ls rfl (by obtain ⟨u_z_61, q_z_61⟩ := i_iz ez_61 (by decide) (by decide); have q_iv_21 := iv_21; have q_c_30 := i_nle c_30; have g_r_16 := i_rg r_16; have g_v6_20 := i_rg v6_20; have g_z_61 := i_rg z_61; omega) ((E_23.tr (E_53.tr E_59))) ((gF.tr Fr_24 (gF.tr (gF.mo (F' := []) (C' := [(6, 10), (6, 11)]) (S' := none) Fr_54 (fun _ h => h) (fun _ h => absurd h List.not_mem_nil) (Or.inr rfl)) Fr_60))) hG (by omega) (by omega) hP hD hS (lv_sub hl [2, 3, 4, 5, 1, 6, 0] rfl)
                refine lv_if_eq (tgt := 110) hx hb dX7_codesHold_85 (by decide) (fun c_62 => ?_) (fun c_62 => ?_)
                · exact J_110 (v5_19) (dc_51_3 + dc_55) (ds_51_3 + ds_56) ws_52 H locs ls (gE.rf) (gF.rf) hG (by omega) (by omega) hP hD hS (lv_sub hl [1, 2, 3, 4, 6, 7, 0] rfl)
                · obtain ⟨z_63, ez_63⟩ : ∃ z : Int32, v5_19 + Int32.ofInt 1 = z := ⟨_, rfl⟩
                  refine lv_iinc (v := z_63) (lv' := [(5, .int z_63), (7, .int z_45), (0, .ref h0), (1, .int v1_1), (2, .int r_14), (3, .int r_16), (4, .int v4_18), (6, .int v6_20)]) hx hb dX7_codesHold_88 hl (k := 6) rfl ez_63 (by decide) rfl (fun ls hl => ?_)
                  refine lv_aload_n hx hb dX7_codesHold_91 rfl (lv_at hl 2 rfl) ?_
                  obtain ⟨fs9, hk_64, hq_64⟩ := ((gA.tr (gF.a (F' := []) Fr_24 (fun _ h => h)) (gF.a (F' := []) Fr_54 (fun _ h => h)))) _ _ _ hk_6
                  obtain ⟨r0_64, n0_64, c1_64, c2_64, c3_64, r4_64, n4_64, c5_64, c6_64, c7_64, c8_64, r9_64, n9_64, r10_64, n10_64, r11_64, n11_64, c12_64, c13_64, c14_64, c15_64, c16_64, rfl, a_r0_64, f1_64, a_r4_64, f3_64, a_r9_64, f5_64, a_r10_64, f7_64, a_r11_64, f9_64, f10_64, f11_64, f12_64, f13_64, f14_64, -⟩ := (hG.1 _ _ _ _ hk_64).hX7 rfl
                  obtain rfl := fe_i (hq_64 7 (by decide))
                  obtain rfl := fe_i (hq_64 8 (by decide))
                  obtain rfl := fe_r (hq_64 10 (by decide))
                  have hn9 := gI_n hD (((E_23.tr E_53)).1 _ _ aa_28) a_r10_64
                  subst hn9
                  have a_r10_6 := a_r10_64
                  obtain rfl := fe_r (hq_64 11 (by decide))
                  have hn9 := gI_n hD (((E_23.tr E_53)).1 _ _ aa_29) a_r11_64
                  subst hn9
                  have a_r11_6 := a_r11_64
                  refine va_get (D := gD g) (ci := 6) (v := .ref r10_6) (C := RX7) (T := TX7) (N := 17) hx hb hts inX7 hown hK hP k_6 hk_64 rfl 10 (by decide) (hts _ kw_1286) (fun _ h9 => h9) rfl dX7_codesHold_92 ?_
                  refine lv_iload_n hx hb dX7_codesHold_95 rfl (lv_at hl 3 rfl) ?_
                  refine lv_iload hx hb dX7_codesHold_96 (lv_at hl 6 rfl) ?_
                  refine lv_bipush (v := 6) hx hb dX7_codesHold_98 (by decide) ?_
                  refine lv_iadd hx hb dX7_codesHold_100 ?_
                  refine lv_topi (fun z_65 ez_65 => ?_)
                  obtain ⟨k_66, f_66, hk_66⟩ := gI_of a_r10_6
                  have hC9 : hol ws_52 r10_6 [(6, 10)] := (hol_u hG.u hk_64 (j := 10) rfl a_r10_6 (by decide))
                  have hS9 : holS ws_52 r10_6 none := holS_n
                  refine va_iast hx hb hK hP hD hS k_66 1 hk_66 rfl (i_in2 (by have q_iv_2 := iv_2; have q_f7_6 := f7_6; have q_f13_6 := f13_6; have q_c_9 := i_nle c_9; have q_z_11 := i_len ez_11 f7_6; have q_c_12 := i_nle c_12; obtain ⟨u_z_13, q_z_13⟩ := i_add ez_13; have g_c7_6 := i_rg c7_6; have g_c8_6 := i_rg c8_6; have g_v1_1 := i_rg v1_1; have g_z_11 := i_rg z_11; have g_z_13 := i_rg z_13; omega)) dX7_codesHold_101 (fun H locs hP hD hS => ?_)
                  obtain ⟨ws_67, e_ws_67⟩ : ∃ z, z = ws_52.set k_66 (r10_6, .inl (g.cI, n10_6, .inl (upd f_66 (v1_1 : Int32).toNatClampNeg z_65))) := ⟨_, rfl⟩
                  have hP : va_P (gD g) cl0 ws_67 H := by rw [e_ws_67]; exact hP
                  have hD : va_D A ws_67 := by rw [e_ws_67]; exact hD
                  have E_68 : gE ws_52 ws_67 := gE_ari e_ws_67 hk_66
                  have hG : Good g ws_67 := Good_arI e_ws_67 hk_66 hG
                  have Fr_69 : gF [] [(6, 10)] none ws_52 ws_67 := gF_ar e_ws_67 hk_66 rfl hC9 hS9
                  have pp_70 := Fr_69.pp
                  have hk_64 := gset_arO e_ws_67 hk_66 hk_64
                  have o_h0 := E_68.1 _ _ o_h0
                  have a_r0_64 := E_68.1 _ _ a_r0_64
                  have a_r4_64 := E_68.1 _ _ a_r4_64
                  have a_r9_64 := E_68.1 _ _ a_r9_64
                  have a_r10_6 := E_68.1 _ _ a_r10_6
                  have a_r11_6 := E_68.1 _ _ a_r11_6
                  refine lv_aload_n hx hb dX7_codesHold_102 rfl (lv_at hl 2 rfl) ?_
                  refine va_get (D := gD g) (ci := 6) (v := .ref r11_6) (C := RX7) (T := TX7) (N := 17) hx hb hts inX7 hown hK hP k_6 hk_64 rfl 11 (by decide) (hts _ kw_1290) (fun _ h9 => h9) rfl dX7_codesHold_103 ?_
                  refine lv_iload_n hx hb dX7_codesHold_106 rfl (lv_at hl 3 rfl) ?_
                  refine lv_iload hx hb dX7_codesHold_107 (lv_at hl 1 rfl) ?_
                  obtain ⟨k_71, f_71, hk_71⟩ := gI_of a_r11_6
                  have hC9 : hol ws_67 r11_6 [(6, 11)] := (hol_u hG.u hk_64 (j := 11) rfl a_r11_6 (by decide))
                  have hS9 : holS ws_67 r11_6 none := holS_n
                  refine va_iast hx hb hK hP hD hS k_71 1 hk_71 rfl (i_in2 (by have q_iv_2 := iv_2; have q_f9_6 := f9_6; have q_f14_6 := f14_6; have q_c_9 := i_nle c_9; have q_c_12 := i_nle c_12; obtain ⟨u_z_13, q_z_13⟩ := i_add ez_13; have q_z_11 := i_len ez_11 f7_6; have g_c7_6 := i_rg c7_6; have g_c8_6 := i_rg c8_6; have g_v1_1 := i_rg v1_1; have g_z_11 := i_rg z_11; have g_z_13 := i_rg z_13; omega)) dX7_codesHold_109 (fun H locs hP hD hS => ?_)
                  obtain ⟨ws_72, e_ws_72⟩ : ∃ z, z = ws_67.set k_71 (r11_6, .inl (g.cI, n11_6, .inl (upd f_71 (v1_1 : Int32).toNatClampNeg z_45))) := ⟨_, rfl⟩
                  have hP : va_P (gD g) cl0 ws_72 H := by rw [e_ws_72]; exact hP
                  have hD : va_D A ws_72 := by rw [e_ws_72]; exact hD
                  have E_73 : gE ws_67 ws_72 := gE_ari e_ws_72 hk_71
                  have hG : Good g ws_72 := Good_arI e_ws_72 hk_71 hG
                  have Fr_74 : gF [] [(6, 11)] none ws_67 ws_72 := gF_ar e_ws_72 hk_71 rfl hC9 hS9
                  have pp_75 := Fr_74.pp
                  have hk_64 := gset_arO e_ws_72 hk_71 hk_64
                  have o_h0 := E_73.1 _ _ o_h0
                  have a_r0_64 := E_73.1 _ _ a_r0_64
                  have a_r4_64 := E_73.1 _ _ a_r4_64
                  have a_r9_64 := E_73.1 _ _ a_r9_64
                  have a_r10_6 := E_73.1 _ _ a_r10_6
                  have a_r11_6 := E_73.1 _ _ a_r11_6
                  exact J_110 (z_63) (dc_51_3 + dc_55) (ds_51_3 + ds_56) ws_72 H locs ls ((E_68.tr E_73)) ((gF.tr (gF.mo (F' := []) (C' := [(6, 10), (6, 11)]) (S' := none) Fr_69 (fun _ h => h) (by decide) (Or.inr rfl)) (gF.mo (F' := []) (C' := [(6, 10), (6, 11)]) (S' := none) Fr_74 (fun _ h => h) (by decide) (Or.inr rfl)))) hG (by omega) (by omega) hP hD hS (lv_sub hl [2, 3, 4, 5, 0, 7, 1] rfl)
          exact J_51 _ (z_17) (0) (0) (dc_2_1) (ds_2_1) ws_3 H locs ls rfl (by have e0 : (0 : Int32).toInt = 0 := (by decide); omega) (gE.rf) (gF.rf) hG (by omega) (by omega) hP hD hS (lv_sub hl [5, 6, 4, 3, 2, 1, 0] rfl)
  exact J_2 _ (0) (0) (0) ws _ _ ls rfl (by have e0 : (0 : Int32).toInt = 0 := (by decide); omega) (gE.rf) (gF.rf) hG (by have e0 : (0 : Int32).toInt = 0 := (by decide); omega) (by have e0 : (0 : Int32).toInt = 0 := (by decide); omega) hP hD hS (lv_sub hl [1, 0] rfl)
set_option maxHeartbeats 1000000 in
set_option maxRecDepth 100000 in
theorem m_X7_entryFits (l : Launch) (g : Gm) (sz : Nat) (ws : va_W) (h0 : Nat) (hG : Good g ws) (o_h0 : gC ws h0 6) : Met l yX7_entryFits (wt yX7_entryFits cX7_entryFits 2 (some .boolean)) ({ frames := 3, cells := 0, slots := 0, locals := 65 }) (va_Pc [.ref h0] (st_G g sz ws)) (va_Qi (fun (r : Int32) (u9 : va_W) => r = 0 ∨ r = 1) (gQ1 g [(6, 2), (6, 3)] [] none (va_A ws sz) ws) (va_A ws sz)) (0) (0) (va_A ws sz) := by
  refine Met.ofW (cc := cX7_entryFits) (maxL := 2) (ret := (some .boolean)) (by decide) rfl ?_
  intro p e s m args below meth c s₁ B hml hv
  obtain ⟨rfl, hsz, hP, hK, hD0, hex, hE⟩ := hv
  have hx := B.exec
  have hb := B.bytes
  have hr := B.returns
  have hts0 := atoms_spec (ws := wt yX7_entryFits cX7_entryFits 2 (some .boolean)) B.pre
  have hts : ∀ w ∈ tb, w.before _ s = true := fun w h => hts0 w (List.mem_cons_of_mem _ h)
  have hown : s.vm.findClass RX7 = some m.cls := findClass_of_methodNamed B.named
  subst hsz
  have hD := hD0.self (sz := s.heap.size)
  generalize hAe : va_A ws s.heap.size = A at hD hE ⊢
  have hA : ∀ q : Nat, s.heap.size ≤ q → A q := fun q h => by rw [← hAe]; exact Or.inr h
  have hS : va_S A s.heap s.heap [] := va_S.rf
  have hl := lv_entry ([.ref h0]) (n := 2) (Nat.le_of_ble_eq_true rfl)
  rw [lg_entry_eq]
  generalize (lg_sl ([.ref h0]) ++ List.replicate (2 - (lg_sl ([.ref h0])).length) Slot.unset).toArray = ls at hl ⊢
  have hl : lv_has ls 2 [(0, .ref h0)] := hl
  refine lv_aload_n hx hb dX7_entryFits_0 rfl (lv_at hl 0 rfl) ?_
  refine lv_iconst (v := 1) hx hb dX7_entryFits_1 (by decide) ?_
  have hFc := gfree hD hS hA
  obtain ⟨k_1, fs_1, hk_1⟩ := gC_of o_h0
  refine va_calli (va_runV (As := [.int 1]) (rest := []) ⟨hx, hb, hml, hown, hts⟩ (m_X7_isThere l g s.heap.size ws h0 (1) hG o_h0) (cwV 1 hts (gd_V kw_1272 kw_1382 kw_1383 kw_710 kw_1381) rfl rfl rfl (by decide +kernel) ⟨Nat.le_of_ble_eq_true rfl, Nat.le_of_ble_eq_true rfl⟩) ⟨gblind, va_recv hK hP (ci := 6) (q0 := k_1) rfl hk_1, fun U hU hW9 => gmk hU hW9 hP hK hD hex hE hS hFc⟩ rfl rfl hl.1 rfl (lv_room (Nat.le_of_ble_eq_true rfl)) dX7_entryFits_2 ⟨Nat.le_of_ble_eq_true rfl, Nat.le_of_ble_eq_true rfl⟩) hS (fun q _ h => hFc q h) hFc (fun r_2 ws_3 t9 H1 locs ht9 hvm9 hw9 hB9 hz9 hk9 hS => ?_)
  obtain ⟨E_4, Fr_5, hG, hP1, hD1⟩ := hB9
  have hP : va_P (gD g) cl0 ws_3 H1 := by rw [← ht9]; exact hP1
  have hD : va_D A ws_3 := hD1.weaken (fun _ _ _ h => hFc _ h)
  have hz_r_2 : r_2 = 0 ∨ r_2 = 1 := hw9
  clear hP1 hD1 hz9 hk9 hvm9 ht9 hw9
  generalize H1 = H at hP hS ⊢
  have o_h0 := E_4.1 _ _ o_h0
  refine lv_if_ne (tgt := 10) hx hb dX7_entryFits_5 (by decide) (fun c_8 => ?_) (fun c_8 => ?_)
  · refine lv_aload_n hx hb dX7_entryFits_10 rfl (lv_at hl 0 rfl) ?_
    refine lv_aload_n hx hb dX7_entryFits_11 rfl (lv_at hl 0 rfl) ?_
    obtain ⟨k_9, fs9, hk_9⟩ := gC_of o_h0
    obtain ⟨r0_9, n0_9, c1_9, c2_9, c3_9, r4_9, n4_9, c5_9, c6_9, c7_9, c8_9, r9_9, n9_9, r10_9, n10_9, r11_9, n11_9, c12_9, c13_9, c14_9, c15_9, c16_9, rfl, a_r0_9, f1_9, a_r4_9, f3_9, a_r9_9, f5_9, a_r10_9, f7_9, a_r11_9, f9_9, f10_9, f11_9, f12_9, f13_9, f14_9, -⟩ := (hG.1 _ _ _ _ hk_9).hX7 rfl
    refine va_get (D := gD g) (ci := 6) (v := .int c15_9) (C := RX7) (T := TX7) (N := 17) hx hb hts inX7 hown hK hP k_9 hk_9 rfl 15 (by decide) (hts _ kw_1273) (fun _ h9 => h9) rfl dX7_entryFits_12 ?_
    have hFc := gfree hD hS hA
    refine va_calli (va_runV (As := [.int c15_9]) (rest := []) ⟨hx, hb, hml, hown, hts⟩ (m_X7_u1 l g H.size ws_3 h0 (c15_9) hG o_h0) (cwV 1 hts (gd_V kw_1304 kw_1447 kw_1448 kw_710 kw_1446) rfl rfl rfl (by decide +kernel) ⟨Nat.le_of_ble_eq_true rfl, Nat.le_of_ble_eq_true rfl⟩) ⟨gblind, va_recv hK hP (ci := 6) (q0 := k_9) rfl hk_9, fun U hU hW9 => gmk hU hW9 hP hK hD hex hE hS hFc⟩ rfl rfl hl.1 rfl (lv_room (Nat.le_of_ble_eq_true rfl)) dX7_entryFits_15 ⟨Nat.le_of_ble_eq_true rfl, Nat.le_of_ble_eq_true rfl⟩) hS (fun q _ h => hFc q h) hFc (fun r_10 u9 t9 H1 locs ht9 hvm9 hw9 hB9 hz9 hk9 hS => ?_)
    have hP : va_P (gD g) cl0 ws_3 H1 := by rw [← ht9]; exact hB9.1
    have h_r_10 := hw9
    clear hB9 hz9 hk9 hvm9 ht9 hw9
    generalize H1 = H at hP hS ⊢
    refine lv_istore_n (lv' := [(1, .int r_10), (0, .ref h0)]) hx hb dX7_entryFits_18 rfl hl (by decide) rfl (fun ls hl => ?_)
    refine lv_iload_n hx hb dX7_entryFits_19 rfl (lv_at hl 0 rfl) ?_
    refine lv_iconst (v := 1) hx hb dX7_entryFits_20 (by decide) ?_
    refine lv_icmp_ne (tgt := 29) hx hb dX7_entryFits_21 (by decide) (fun c_11 => ?_) (fun c_11 => ?_)
    · refine lv_aload_n hx hb dX7_entryFits_29 rfl (lv_at hl 1 rfl) ?_
      refine lv_iload_n hx hb dX7_entryFits_30 rfl (lv_at hl 0 rfl) ?_
      have hFc := gfree hD hS hA
      refine va_calli (va_runV (As := [.int r_10]) (rest := []) ⟨hx, hb, hml, hown, hts⟩ (m_X7_entryLength l g H.size ws_3 h0 (r_10) hG o_h0) (cwV 1 hts (gd_V kw_1306 kw_1308 kw_1309 kw_710 kw_1307) rfl rfl rfl (by decide +kernel) ⟨Nat.le_of_ble_eq_true rfl, Nat.le_of_ble_eq_true rfl⟩) ⟨gblind, va_recv hK hP (ci := 6) (q0 := k_9) rfl hk_9, fun U hU hW9 => gmk hU hW9 hP hK hD hex hE hS hFc⟩ rfl rfl hl.1 rfl (lv_room (Nat.le_of_ble_eq_true rfl)) dX7_entryFits_31 ⟨Nat.le_of_ble_eq_true rfl, Nat.le_of_ble_eq_true rfl⟩) hS (fun q _ h => hFc q h) hFc (fun r_12 u9 t9 H1 locs ht9 hvm9 hw9 hB9 hz9 hk9 hS => ?_)
      have hP : va_P (gD g) cl0 ws_3 H1 := by rw [← ht9]; exact hB9.1
      clear hB9 hz9 hk9 hvm9 ht9 hw9
      generalize H1 = H at hP hS ⊢
      have J_58 : ∀ (t_13 : Int32) (ws_15 : va_W) (H : Heap) (locs : List Loc) (ls : Array Slot), t_13 = 0 ∨ t_13 = 1 → gE ws_3 ws_15 → gF [(6, 2), (6, 3)] [] none ws_3 ws_15 → Good g ws_15 → va_P (gD g) cl0 ws_15 H → va_D A ws_15 → va_S A s.heap H locs → lv_has ls 2 [] → W p l e (headSpec (wt yX7_entryFits cX7_entryFits 2 (some .boolean)) ({ frames := 3, cells := 0, slots := 0, locals := 65 })).room s m ([.ref h0] : List Value).toArray below meth c H locs (0) (0) (MQ below (va_Qi (fun (r : Int32) (u9 : va_W) => r = 0 ∨ r = 1) (gQ1 g [(6, 2), (6, 3)] [] none A ws) A) ([.ref h0] : List Value).toArray s (0) (0) A) (F0 m 58 ls [.int t_13]) := by
        intro t_13 ws_15 H locs ls iv_14 E_16 Fr_17 hG hP hD hS hl
        have hz_t_13 := iv_14
        have aa_18 := a_r0_9
        have aa_19 := a_r4_9
        have aa_20 := a_r9_9
        have aa_21 := a_r10_9
        have aa_22 := a_r11_9
        have o_h0 := E_16.1 _ _ o_h0
        refine W.widen (k := 0) (n := 0) (Nat.le_of_ble_eq_true rfl) (Nat.le_of_ble_eq_true rfl) ?_
        exact W.zret (v := t_13) hx hb hr (nz hz_t_13) (fun t9 ht9 hW9 => ⟨⟨_, ws_15, rfl, hz_t_13, ⟨(E_4.tr E_16), (gF.tr Fr_5 Fr_17), hG, by rw [ht9]; exact hP, hD⟩⟩, hS.F ht9⟩) hS.2.2 dX7_entryFits_58
      refine lv_if_ne (tgt := 49) hx hb dX7_entryFits_34 (by decide) (fun c_23 => ?_) (fun c_23 => ?_)
      · refine lv_aload_n hx hb dX7_entryFits_49 rfl (lv_at hl 1 rfl) ?_
        refine lv_aload_n hx hb dX7_entryFits_50 rfl (lv_at hl 1 rfl) ?_
        refine lv_iload_n hx hb dX7_entryFits_51 rfl (lv_at hl 0 rfl) ?_
        have hFc := gfree hD hS hA
        refine va_calli (va_runV (As := [.int r_10]) (rest := [.ref h0]) ⟨hx, hb, hml, hown, hts⟩ (m_X7_entryLength l g H.size ws_3 h0 (r_10) hG o_h0) (cwV 1 hts (gd_V kw_1306 kw_1308 kw_1309 kw_710 kw_1307) rfl rfl rfl (by decide +kernel) ⟨Nat.le_of_ble_eq_true rfl, Nat.le_of_ble_eq_true rfl⟩) ⟨gblind, va_recv hK hP (ci := 6) (q0 := k_9) rfl hk_9, fun U hU hW9 => gmk hU hW9 hP hK hD hex hE hS hFc⟩ rfl rfl hl.1 rfl (lv_room (Nat.le_of_ble_eq_true rfl)) dX7_entryFits_52 ⟨Nat.le_of_ble_eq_true rfl, Nat.le_of_ble_eq_true rfl⟩) hS (fun q _ h => hFc q h) hFc (fun r_24 u9 t9 H1 locs ht9 hvm9 hw9 hB9 hz9 hk9 hS => ?_)
        have hP : va_P (gD g) cl0 ws_3 H1 := by rw [← ht9]; exact hB9.1
        clear hB9 hz9 hk9 hvm9 ht9 hw9
        generalize H1 = H at hP hS ⊢
        have hFc := gfree hD hS hA
        refine va_calli (va_runV (As := [.int r_24]) (rest := []) ⟨hx, hb, hml, hown, hts⟩ (m_X7_isThere l g H.size ws_3 h0 (r_24) hG o_h0) (cwV 1 hts (gd_V kw_1272 kw_1382 kw_1383 kw_710 kw_1381) rfl rfl rfl (by decide +kernel) ⟨Nat.le_of_ble_eq_true rfl, Nat.le_of_ble_eq_true rfl⟩) ⟨gblind, va_recv hK hP (ci := 6) (q0 := k_9) rfl hk_9, fun U hU hW9 => gmk hU hW9 hP hK hD hex hE hS hFc⟩ rfl rfl hl.1 rfl (lv_room (Nat.le_of_ble_eq_true rfl)) dX7_entryFits_55 ⟨Nat.le_of_ble_eq_true rfl, Nat.le_of_ble_eq_true rfl⟩) hS (fun q _ h => hFc q h) hFc (fun r_25 ws_26 t9 H1 locs ht9 hvm9 hw9 hB9 hz9 hk9 hS => ?_)
        obtain ⟨E_27, Fr_28, hG, hP1, hD1⟩ := hB9
        have hP : va_P (gD g) cl0 ws_26 H1 := by rw [← ht9]; exact hP1
        have hD : va_D A ws_26 := hD1.weaken (fun _ _ _ h => hFc _ h)
        have hz_r_25 : r_25 = 0 ∨ r_25 = 1 := hw9
        clear hP1 hD1 hz9 hk9 hvm9 ht9 hw9
        generalize H1 = H at hP hS ⊢
        have aa_31 := a_r0_9
        have aa_32 := a_r4_9
        have aa_33 := a_r9_9
        have aa_34 := a_r10_9
        have aa_35 := a_r11_9
        have o_h0 := E_27.1 _ _ o_h0
        exact J_58 (r_25) ws_26 H locs ls hz_r_25 (E_27) (Fr_28) hG hP hD hS (lv_sub hl [] rfl)
      · refine lv_aload_n hx hb dX7_entryFits_37 rfl (lv_at hl 1 rfl) ?_
        refine lv_iconst (v := 3) hx hb dX7_entryFits_38 (by decide) ?_
        refine lv_aload_n hx hb dX7_entryFits_39 rfl (lv_at hl 1 rfl) ?_
        refine va_get (D := gD g) (ci := 6) (v := .int c15_9) (C := RX7) (T := TX7) (N := 17) hx hb hts inX7 hown hK hP k_9 hk_9 rfl 15 (by decide) (hts _ kw_1273) (fun _ h9 => h9) rfl dX7_entryFits_40 ?_
        have hFc := gfree hD hS hA
        refine va_calli (va_runV (As := [.int 3, .int c15_9]) (rest := []) ⟨hx, hb, hml, hown, hts⟩ (m_X7_breaks l g H.size ws_3 h0 (3) (c15_9) hG o_h0) (cwV 2 hts (gd_V kw_1276 kw_1278 kw_1279 kw_710 kw_1277) rfl rfl rfl (by decide +kernel) ⟨Nat.le_of_ble_eq_true rfl, Nat.le_of_ble_eq_true rfl⟩) ⟨gblind, va_recv hK hP (ci := 6) (q0 := k_9) rfl hk_9, fun U hU hW9 => gmk hU hW9 hP hK hD hex hE hS hFc⟩ rfl rfl hl.1 rfl (lv_room (Nat.le_of_ble_eq_true rfl)) dX7_entryFits_43 ⟨Nat.le_of_ble_eq_true rfl, Nat.le_of_ble_eq_true rfl⟩) hS (fun q _ h => hFc q h) hFc (fun r_36 ws_37 t9 H1 locs ht9 hvm9 hw9 hB9 hz9 hk9 hS => ?_)
        obtain ⟨E_38, Fr_39, hG, hP1, hD1⟩ := hB9
        have hP : va_P (gD g) cl0 ws_37 H1 := by rw [← ht9]; exact hP1
        have hD : va_D A ws_37 := hD1.weaken (fun _ _ _ h => hFc _ h)
        have hz_r_36 : r_36 = 0 ∨ r_36 = 1 := hw9
        clear hP1 hD1 hz9 hk9 hvm9 ht9 hw9
        generalize H1 = H at hP hS ⊢
        have aa_42 := a_r0_9
        have aa_43 := a_r4_9
        have aa_44 := a_r9_9
        have aa_45 := a_r10_9
        have aa_46 := a_r11_9
        have o_h0 := E_38.1 _ _ o_h0
        refine lv_goto (tgt := 58) hx hb dX7_entryFits_46 (by decide) ?_
        exact J_58 (r_36) ws_37 H locs ls hz_r_36 (E_38) (Fr_39) hG hP hD hS (lv_sub hl [] rfl)
    · refine lv_aload_n hx hb dX7_entryFits_24 rfl (lv_at hl 1 rfl) ?_
      have hFc := gfree hD hS hA
      refine va_calli (va_runV (As := []) (rest := []) ⟨hx, hb, hml, hown, hts⟩ (m_X7_nameFits l g H.size ws_3 h0 hG o_h0) (cwV 0 hts (gd_V kw_1305 kw_1403 kw_1404 kw_710 kw_1402) rfl rfl rfl (by decide +kernel) ⟨Nat.le_of_ble_eq_true rfl, Nat.le_of_ble_eq_true rfl⟩) ⟨gblind, va_recv hK hP (ci := 6) (q0 := k_9) rfl hk_9, fun U hU hW9 => gmk hU hW9 hP hK hD hex hE hS hFc⟩ rfl rfl hl.1 rfl (lv_room (Nat.le_of_ble_eq_true rfl)) dX7_entryFits_25 ⟨Nat.le_of_ble_eq_true rfl, Nat.le_of_ble_eq_true rfl⟩) hS (fun q _ h => hFc q h) hFc (fun r_47 ws_48 t9 H1 locs ht9 hvm9 hw9 hB9 hz9 hk9 hS => ?_)
      obtain ⟨E_49, Fr_50, hG, hP1, hD1⟩ := hB9
      have hP : va_P (gD g) cl0 ws_48 H1 := by rw [← ht9]; exact hP1
      have hD : va_D A ws_48 := hD1.weaken (fun _ _ _ h => hFc _ h)
      have hz_r_47 : r_47 = 0 ∨ r_47 = 1 := hw9
      clear hP1 hD1 hz9 hk9 hvm9 ht9 hw9
      generalize H1 = H at hP hS ⊢
      have aa_53 := a_r0_9
      have aa_54 := a_r4_9
      have aa_55 := a_r9_9
      have aa_56 := a_r10_9
      have aa_57 := a_r11_9
      have o_h0 := E_49.1 _ _ o_h0
      refine W.widen (k := 0) (n := 0) (Nat.le_of_ble_eq_true rfl) (Nat.le_of_ble_eq_true rfl) ?_
      exact W.zret (v := r_47) hx hb hr (nz hz_r_47) (fun t9 ht9 hW9 => ⟨⟨_, ws_48, rfl, hz_r_47, ⟨(E_4.tr E_49), (gF.tr Fr_5 Fr_50), hG, by rw [ht9]; exact hP, hD⟩⟩, hS.F ht9⟩) hS.2.2 dX7_entryFits_28
  · refine lv_iconst (v := 0) hx hb dX7_entryFits_8 (by decide) ?_
    refine W.widen (k := 0) (n := 0) (Nat.le_of_ble_eq_true rfl) (Nat.le_of_ble_eq_true rfl) ?_
    exact W.zret (v := 0) hx hb hr (nz (Or.inl rfl)) (fun t9 ht9 hW9 => ⟨⟨_, ws_3, rfl, (Or.inl rfl), ⟨E_4, Fr_5, hG, by rw [ht9]; exact hP, hD⟩⟩, hS.F ht9⟩) hS.2.2 dX7_entryFits_9
set_option maxHeartbeats 1000000 in
set_option maxRecDepth 100000 in
theorem m_X7_membersFit (l : Launch) (g : Gm) (sz : Nat) (ws : va_W) (h0 : Nat) (x1 : Int32) (hG : Good g ws) (o_h0 : gC ws h0 6) (pf : 0 ≤ x1.toInt) : Met l yX7_membersFit (wt yX7_membersFit cX7_membersFit 4 (some .int)) ({ frames := 3, cells := 0, slots := 0, locals := 67 }) (va_Pc [.ref h0, .int x1] (st_G g sz ws)) (va_Qi (fun (r : Int32) (u9 : va_W) => -1 ≤ r.toInt ∧ r.toInt ≤ 24) (gQ1 g [(6, 2), (6, 3), (6, 15)] [(6, 9)] none (va_A ws sz) ws) (va_A ws sz)) (0) (0) (va_A ws sz) := by
  refine Met.ofW (cc := cX7_membersFit) (maxL := 4) (ret := (some .int)) (by decide) rfl ?_
  intro p e s m args below meth c s₁ B hml hv
  obtain ⟨rfl, hsz, hP, hK, hD0, hex, hE⟩ := hv
  have hx := B.exec
  have hb := B.bytes
  have hr := B.returns
  have hts0 := atoms_spec (ws := wt yX7_membersFit cX7_membersFit 4 (some .int)) B.pre
  have hts : ∀ w ∈ tb, w.before _ s = true := fun w h => hts0 w (List.mem_cons_of_mem _ h)
  have hown : s.vm.findClass RX7 = some m.cls := findClass_of_methodNamed B.named
  subst hsz
  have hD := hD0.self (sz := s.heap.size)
  generalize hAe : va_A ws s.heap.size = A at hD hE ⊢
  have hA : ∀ q : Nat, s.heap.size ≤ q → A q := fun q h => by rw [← hAe]; exact Or.inr h
  have hS : va_S A s.heap s.heap [] := va_S.rf
  have hl := lv_entry ([.ref h0, .int x1]) (n := 4) (Nat.le_of_ble_eq_true rfl)
  rw [lg_entry_eq]
  generalize (lg_sl ([.ref h0, .int x1]) ++ List.replicate (4 - (lg_sl ([.ref h0, .int x1])).length) Slot.unset).toArray = ls at hl ⊢
  have hl : lv_has ls 4 [(0, .ref h0), (1, .int x1)] := hl
  refine lv_aload_n hx hb dX7_membersFit_0 rfl (lv_at hl 0 rfl) ?_
  refine lv_iconst (v := 2) hx hb dX7_membersFit_1 (by decide) ?_
  have hFc := gfree hD hS hA
  obtain ⟨k_1, fs_1, hk_1⟩ := gC_of o_h0
  refine va_calli (va_runV (As := [.int 2]) (rest := []) ⟨hx, hb, hml, hown, hts⟩ (m_X7_isThere l g s.heap.size ws h0 (2) hG o_h0) (cwV 1 hts (gd_V kw_1272 kw_1382 kw_1383 kw_710 kw_1381) rfl rfl rfl (by decide +kernel) ⟨Nat.le_of_ble_eq_true rfl, Nat.le_of_ble_eq_true rfl⟩) ⟨gblind, va_recv hK hP (ci := 6) (q0 := k_1) rfl hk_1, fun U hU hW9 => gmk hU hW9 hP hK hD hex hE hS hFc⟩ rfl rfl hl.1 rfl (lv_room (Nat.le_of_ble_eq_true rfl)) dX7_membersFit_2 ⟨Nat.le_of_ble_eq_true rfl, Nat.le_of_ble_eq_true rfl⟩) hS (fun q _ h => hFc q h) hFc (fun r_2 ws_3 t9 H1 locs ht9 hvm9 hw9 hB9 hz9 hk9 hS => ?_)
  obtain ⟨E_4, Fr_5, hG, hP1, hD1⟩ := hB9
  have hP : va_P (gD g) cl0 ws_3 H1 := by rw [← ht9]; exact hP1
  have hD : va_D A ws_3 := hD1.weaken (fun _ _ _ h => hFc _ h)
  have hz_r_2 : r_2 = 0 ∨ r_2 = 1 := hw9
  clear hP1 hD1 hz9 hk9 hvm9 ht9 hw9
  generalize H1 = H at hP hS ⊢
  have o_h0 := E_4.1 _ _ o_h0
  refine lv_if_ne (tgt := 10) hx hb dX7_membersFit_5 (by decide) (fun c_8 => ?_) (fun c_8 => ?_)
  · refine lv_aload_n hx hb dX7_membersFit_10 rfl (lv_at hl 0 rfl) ?_
    refine lv_aload_n hx hb dX7_membersFit_11 rfl (lv_at hl 0 rfl) ?_
    obtain ⟨k_9, fs9, hk_9⟩ := gC_of o_h0
    obtain ⟨r0_9, n0_9, c1_9, c2_9, c3_9, r4_9, n4_9, c5_9, c6_9, c7_9, c8_9, r9_9, n9_9, r10_9, n10_9, r11_9, n11_9, c12_9, c13_9, c14_9, c15_9, c16_9, rfl, a_r0_9, f1_9, a_r4_9, f3_9, a_r9_9, f5_9, a_r10_9, f7_9, a_r11_9, f9_9, f10_9, f11_9, f12_9, f13_9, f14_9, -⟩ := (hG.1 _ _ _ _ hk_9).hX7 rfl
    refine va_get (D := gD g) (ci := 6) (v := .int c15_9) (C := RX7) (T := TX7) (N := 17) hx hb hts inX7 hown hK hP k_9 hk_9 rfl 15 (by decide) (hts _ kw_1273) (fun _ h9 => h9) rfl dX7_membersFit_12 ?_
    have hFc := gfree hD hS hA
    refine va_calli (va_runV (As := [.int c15_9]) (rest := []) ⟨hx, hb, hml, hown, hts⟩ (m_X7_u2 l g H.size ws_3 h0 (c15_9) hG o_h0) (cwV 1 hts (gd_V kw_1266 kw_1450 kw_1451 kw_710 kw_1449) rfl rfl rfl (by decide +kernel) ⟨Nat.le_of_ble_eq_true rfl, Nat.le_of_ble_eq_true rfl⟩) ⟨gblind, va_recv hK hP (ci := 6) (q0 := k_9) rfl hk_9, fun U hU hW9 => gmk hU hW9 hP hK hD hex hE hS hFc⟩ rfl rfl hl.1 rfl (lv_room (Nat.le_of_ble_eq_true rfl)) dX7_membersFit_15 ⟨Nat.le_of_ble_eq_true rfl, Nat.le_of_ble_eq_true rfl⟩) hS (fun q _ h => hFc q h) hFc (fun r_10 u9 t9 H1 locs ht9 hvm9 hw9 hB9 hz9 hk9 hS => ?_)
    have hP : va_P (gD g) cl0 ws_3 H1 := by rw [← ht9]; exact hB9.1
    have h_r_10 := hw9
    clear hB9 hz9 hk9 hvm9 ht9 hw9
    generalize H1 = H at hP hS ⊢
    refine lv_istore_n (lv' := [(2, .int r_10), (0, .ref h0), (1, .int x1)]) hx hb dX7_membersFit_18 rfl hl (by decide) rfl (fun ls hl => ?_)
    refine lv_iload_n hx hb dX7_membersFit_19 rfl (lv_at hl 0 rfl) ?_
    refine lv_bipush (v := 24) hx hb dX7_membersFit_20 (by decide) ?_
    refine lv_icmp_le (tgt := 37) hx hb dX7_membersFit_22 (by decide) (fun c_11 => ?_) (fun c_11 => ?_)
    · refine lv_aload_n hx hb dX7_membersFit_37 rfl (lv_at hl 1 rfl) ?_
      refine lv_dup hx hb dX7_membersFit_38 rfl ?_
      refine va_get (D := gD g) (ci := 6) (v := .int c15_9) (C := RX7) (T := TX7) (N := 17) hx hb hts inX7 hown hK hP k_9 hk_9 rfl 15 (by decide) (hts _ kw_1273) (fun _ h9 => h9) rfl dX7_membersFit_39 ?_
      refine lv_iconst (v := 2) hx hb dX7_membersFit_42 (by decide) ?_
      refine lv_iadd hx hb dX7_membersFit_43 ?_
      refine lv_topi (fun z_12 ez_12 => ?_)
      have hV9 : okv ws_3 6 15 (.int z_12) := okv_i
      refine va_put (D := gD g) (ci := 6) (v := .int z_12) (ty := .int) (C := RX7) (T := TX7) (N := 17) hx hb hts inX7 tyX7 tyX7_ok nmX7 hown hK hP hD hS k_9 hk_9 rfl 15 (by decide) (hts _ kw_1273) (fun _ h9 => h9) rfl (by decide +kernel) rfl rfl (Nat.le_of_ble_eq_true rfl) dX7_membersFit_44 (fun H locs hP hD hS => ?_)
      have hi_13 : invX7 g ws_3 h0 [.ref r0_9, .int c1_9, .int c2_9, .int c3_9, .ref r4_9, .int c5_9, .int c6_9, .int c7_9, .int c8_9, .ref r9_9, .ref r10_9, .ref r11_9, .int c12_9, .int c13_9, .int c14_9, .int z_12, .int c16_9] := ⟨r0_9, (n0_9), (c1_9), (c2_9), (c3_9), r4_9, (n4_9), (c5_9), (c6_9), (c7_9), (c8_9), r9_9, (n9_9), r10_9, (n10_9), r11_9, (n11_9), (c12_9), (c13_9), (c14_9), (z_12), (c16_9), rfl, a_r0_9, f1_9, a_r4_9, f3_9, a_r9_9, f5_9, a_r10_9, f7_9, a_r11_9, f9_9, f10_9, f11_9, f12_9, f13_9, f14_9, trivial⟩
      obtain ⟨ws_14, e_ws_14⟩ : ∃ z, z = ws_3.set k_9 (h0, .inr (6, [.ref r0_9, .int c1_9, .int c2_9, .int c3_9, .ref r4_9, .int c5_9, .int c6_9, .int c7_9, .int c8_9, .ref r9_9, .ref r10_9, .ref r11_9, .int c12_9, .int c13_9, .int c14_9, .int z_12, .int c16_9])) := ⟨_, rfl⟩
      have hP : va_P (gD g) cl0 ws_14 H := by rw [e_ws_14]; exact hP
      have hD : va_D A ws_14 := by rw [e_ws_14]; exact hD
      have E_15 : gE ws_3 ws_14 := gE_set e_ws_14 hk_9 (cw_o (fi := 15) (v := .int z_12) rfl (by decide))
      have hG : Good g ws_14 := Good_set (fi := 15) (v := .int z_12) e_ws_14 hk_9 E_15 rfl hV9 hG (ivX7 hi_13)
      have Fr_16 : gF [(6, 15)] [] (some h0) ws_3 ws_14 := gF_put (fi := 15) (v := .int z_12) e_ws_14 hk_9 rfl (by decide)
      have hkN := gset_self e_ws_14 hk_9
      have hk_9 := hkN
      have o_h0 := E_15.1 _ _ o_h0
      have a_r0_9 := E_15.1 _ _ a_r0_9
      have a_r4_9 := E_15.1 _ _ a_r4_9
      have a_r9_9 := E_15.1 _ _ a_r9_9
      have a_r10_9 := E_15.1 _ _ a_r10_9
      have a_r11_9 := E_15.1 _ _ a_r11_9
      refine lv_iload_n hx hb dX7_membersFit_47 rfl (lv_at hl 2 rfl) ?_
      refine lv_istore_n (lv' := [(3, .int x1), (2, .int r_10), (0, .ref h0), (1, .int x1)]) hx hb dX7_membersFit_48 rfl hl (by decide) rfl (fun ls hl => ?_)
      have J_49 : ∀ (n9 : Nat) (v3_17 : Int32) (ws_19 : va_W) (H : Heap) (locs : List Loc) (ls : Array Slot), (2147483647 - v3_17.toInt).toNat = n9 → 0 ≤ v3_17.toInt → gE ws_14 ws_19 → gF [(6, 2), (6, 3), (6, 15)] [(6, 9)] none ws_14 ws_19 → Good g ws_19 → va_P (gD g) cl0 ws_19 H → va_D A ws_19 → va_S A s.heap H locs → lv_has ls 4 [(0, .ref h0), (1, .int x1), (2, .int r_10), (3, .int v3_17)] → W p l e (headSpec (wt yX7_membersFit cX7_membersFit 4 (some .int)) ({ frames := 3, cells := 0, slots := 0, locals := 67 })).room s m ([.ref h0, .int x1] : List Value).toArray below meth c H locs (0) (0) (MQ below (va_Qi (fun (r : Int32) (u9 : va_W) => -1 ≤ r.toInt ∧ r.toInt ≤ 24) (gQ1 g [(6, 2), (6, 3), (6, 15)] [(6, 9)] none A ws) A) ([.ref h0, .int x1] : List Value).toArray s (0) (0) A) (F0 m 49 ls []) := by
        intro n9
        induction n9 using Nat.strongRecOn with
        | ind n9 ih_49 =>
          intro v3_17 ws_19 H locs ls hm9 iv_18 E_20 Fr_21 hG hP hD hS hl
          subst hm9
          have aa_22 := a_r0_9
          have aa_23 := a_r4_9
          have aa_24 := a_r9_9
          have aa_25 := a_r10_9
          have aa_26 := a_r11_9
          have o_h0 := E_20.1 _ _ o_h0
          refine lv_iload_n hx hb dX7_membersFit_49 rfl (lv_at hl 3 rfl) ?_
          refine lv_iload_n hx hb dX7_membersFit_50 rfl (lv_at hl 1 rfl) ?_
          refine lv_iload_n hx hb dX7_membersFit_51 rfl (lv_at hl 2 rfl) ?_
          refine lv_iadd hx hb dX7_membersFit_52 ?_
          refine lv_topi (fun z_27 ez_27 => ?_)
          have J_112 : ∀  (H : Heap) (locs : List Loc) (ls : Array Slot), va_P (gD g) cl0 ws_19 H → va_D A ws_19 → va_S A s.heap H locs → lv_has ls 4 [(2, .int r_10)] → W p l e (headSpec (wt yX7_membersFit cX7_membersFit 4 (some .int)) ({ frames := 3, cells := 0, slots := 0, locals := 67 })).room s m ([.ref h0, .int x1] : List Value).toArray below meth c H locs (0) (0) (MQ below (va_Qi (fun (r : Int32) (u9 : va_W) => -1 ≤ r.toInt ∧ r.toInt ≤ 24) (gQ1 g [(6, 2), (6, 3), (6, 15)] [(6, 9)] none A ws) A) ([.ref h0, .int x1] : List Value).toArray s (0) (0) A) (F0 m 112 ls []) := by
            intro  H locs ls  hP hD hS hl
            refine lv_iload_n hx hb dX7_membersFit_112 rfl (lv_at hl 0 rfl) ?_
            refine W.widen (k := 0) (n := 0) (Nat.le_of_ble_eq_true rfl) (Nat.le_of_ble_eq_true rfl) ?_
            exact W.iret (v := r_10) hx hb hr (fun t9 ht9 hW9 => ⟨⟨_, ws_19, rfl, (by have e24 : (24 : Int32).toInt = 24 := (by decide); have q_pf := pf; have q_r_10 := h_r_10; have q_c_11 := i_le c_11; obtain ⟨u_z_27, q_z_27⟩ := i_add ez_27; have g_r_10 := i_rg r_10; have g_x1 := i_rg x1; have g_z_27 := i_rg z_27; omega), ⟨(E_4.tr (E_15.tr E_20)), (gF.tr (gF.mo (F' := [(6, 2), (6, 3), (6, 15)]) (C' := [(6, 9)]) (S' := none) Fr_5 (by decide) (fun _ h => absurd h List.not_mem_nil) (Or.inr rfl)) (gF.tr (gF.mo (F' := [(6, 2), (6, 3), (6, 15)]) (C' := [(6, 9)]) (S' := none) Fr_16 (by decide) (fun _ h => absurd h List.not_mem_nil) (Or.inl rfl)) Fr_21)), hG, by rw [ht9]; exact hP, hD⟩⟩, hS.F ht9⟩) hS.2.2 dX7_membersFit_113
          refine lv_icmp_ge (tgt := 112) hx hb dX7_membersFit_53 (by decide) (fun c_30 => ?_) (fun c_30 => ?_)
          · exact J_112  H locs ls  hP hD hS (lv_sub hl [2] rfl)
          · refine lv_iload_n hx hb dX7_membersFit_56 rfl (lv_at hl 3 rfl) ?_
            refine lv_aload_n hx hb dX7_membersFit_57 rfl (lv_at hl 0 rfl) ?_
            obtain ⟨fs9, hk_31, hq_31⟩ := ((gF.a (F' := [(6, 2), (6, 3), (6, 15)]) Fr_21 (fun _ h => h))) _ _ _ hk_9
            obtain ⟨r0_31, n0_31, c1_31, c2_31, c3_31, r4_31, n4_31, c5_31, c6_31, c7_31, c8_31, r9_31, n9_31, r10_31, n10_31, r11_31, n11_31, c12_31, c13_31, c14_31, c15_31, c16_31, rfl, a_r0_31, f1_31, a_r4_31, f3_31, a_r9_31, f5_31, a_r10_31, f7_31, a_r11_31, f9_31, f10_31, f11_31, f12_31, f13_31, f14_31, -⟩ := (hG.1 _ _ _ _ hk_31).hX7 rfl
            obtain rfl := fe_r (hq_31 9 (by decide))
            have hn9 := gI_n hD ((E_20).1 _ _ aa_24) a_r9_31
            subst hn9
            have a_r9_9 := a_r9_31
            refine va_get (D := gD g) (ci := 6) (v := .ref r9_9) (C := RX7) (T := TX7) (N := 17) hx hb hts inX7 hown hK hP k_9 hk_31 rfl 9 (by decide) (hts _ kw_1342) (fun _ h9 => h9) rfl dX7_membersFit_58 ?_
            obtain ⟨k_32, f_32, hk_32⟩ := gI_of a_r9_9
            obtain ⟨z_33, ez_33⟩ : ∃ z : Int32, Int32.ofNat n9_9 = z := ⟨_, rfl⟩
            refine va_alen (v := z_33) hx hb hK hP k_32 1 hk_32 rfl ez_33 dX7_membersFit_61 ?_
            refine lv_icmp_ge (tgt := 112) hx hb dX7_membersFit_62 (by decide) (fun c_34 => ?_) (fun c_34 => ?_)
            · exact J_112  H locs ls  hP hD hS (lv_sub hl [2] rfl)
            · refine lv_aload_n hx hb dX7_membersFit_65 rfl (lv_at hl 0 rfl) ?_
              refine va_get (D := gD g) (ci := 6) (v := .ref r9_9) (C := RX7) (T := TX7) (N := 17) hx hb hts inX7 hown hK hP k_9 hk_31 rfl 9 (by decide) (hts _ kw_1342) (fun _ h9 => h9) rfl dX7_membersFit_66 ?_
              refine lv_iload_n hx hb dX7_membersFit_69 rfl (lv_at hl 3 rfl) ?_
              refine lv_aload_n hx hb dX7_membersFit_70 rfl (lv_at hl 0 rfl) ?_
              refine va_get (D := gD g) (ci := 6) (v := .int c15_31) (C := RX7) (T := TX7) (N := 17) hx hb hts inX7 hown hK hP k_9 hk_31 rfl 15 (by decide) (hts _ kw_1273) (fun _ h9 => h9) rfl dX7_membersFit_71 ?_
              have hC9 : hol ws_19 r9_9 [(6, 9)] := (hol_u hG.u hk_31 (j := 9) rfl a_r9_9 (by decide))
              have hS9 : holS ws_19 r9_9 none := holS_n
              refine va_iast hx hb hK hP hD hS k_32 1 hk_32 rfl (i_in2 (by have q_f5_9 := f5_9; have q_f12_9 := f12_9; have q_iv_18 := iv_18; have q_c_30 := i_nle c_30; have q_z_33 := i_len ez_33 f5_31; have q_c_34 := i_nle c_34; obtain ⟨u_z_27, q_z_27⟩ := i_add ez_27; have g_r_10 := i_rg r_10; have g_v3_17 := i_rg v3_17; have g_x1 := i_rg x1; have g_z_27 := i_rg z_27; have g_z_33 := i_rg z_33; omega)) dX7_membersFit_74 (fun H locs hP hD hS => ?_)
              obtain ⟨ws_35, e_ws_35⟩ : ∃ z, z = ws_19.set k_32 (r9_9, .inl (g.cI, n9_9, .inl (upd f_32 (v3_17 : Int32).toNatClampNeg c15_31))) := ⟨_, rfl⟩
              have hP : va_P (gD g) cl0 ws_35 H := by rw [e_ws_35]; exact hP
              have hD : va_D A ws_35 := by rw [e_ws_35]; exact hD
              have E_36 : gE ws_19 ws_35 := gE_ari e_ws_35 hk_32
              have hG : Good g ws_35 := Good_arI e_ws_35 hk_32 hG
              have Fr_37 : gF [] [(6, 9)] none ws_19 ws_35 := gF_ar e_ws_35 hk_32 rfl hC9 hS9
              have hk_31 := gset_arO e_ws_35 hk_32 hk_31
              have o_h0 := E_36.1 _ _ o_h0
              have a_r0_31 := E_36.1 _ _ a_r0_31
              have a_r4_31 := E_36.1 _ _ a_r4_31
              have a_r10_31 := E_36.1 _ _ a_r10_31
              have a_r11_31 := E_36.1 _ _ a_r11_31
              have a_r9_9 := E_36.1 _ _ a_r9_9
              refine lv_aload_n hx hb dX7_membersFit_75 rfl (lv_at hl 0 rfl) ?_
              refine lv_bipush (v := 6) hx hb dX7_membersFit_76 (by decide) ?_
              have hFc := gfree hD hS hA
              refine va_calli (va_runV (As := [.int 6]) (rest := []) ⟨hx, hb, hml, hown, hts⟩ (m_X7_isThere l g H.size ws_35 h0 (6) hG o_h0) (cwV 1 hts (gd_V kw_1272 kw_1382 kw_1383 kw_710 kw_1381) rfl rfl rfl (by decide +kernel) ⟨Nat.le_of_ble_eq_true rfl, Nat.le_of_ble_eq_true rfl⟩) ⟨gblind, va_recv hK hP (ci := 6) (q0 := k_9) rfl hk_31, fun U hU hW9 => gmk hU hW9 hP hK hD hex hE hS hFc⟩ rfl rfl hl.1 rfl (lv_room (Nat.le_of_ble_eq_true rfl)) dX7_membersFit_78 ⟨Nat.le_of_ble_eq_true rfl, Nat.le_of_ble_eq_true rfl⟩) hS (fun q _ h => hFc q h) hFc (fun r_38 ws_39 t9 H1 locs ht9 hvm9 hw9 hB9 hz9 hk9 hS => ?_)
              obtain ⟨E_40, Fr_41, hG, hP1, hD1⟩ := hB9
              have hP : va_P (gD g) cl0 ws_39 H1 := by rw [← ht9]; exact hP1
              have hD : va_D A ws_39 := hD1.weaken (fun _ _ _ h => hFc _ h)
              have hz_r_38 : r_38 = 0 ∨ r_38 = 1 := hw9
              clear hP1 hD1 hz9 hk9 hvm9 ht9 hw9
              generalize H1 = H at hP hS ⊢
              have aa_44 := a_r0_31
              have aa_45 := a_r4_31
              have aa_46 := a_r9_9
              have aa_47 := a_r10_31
              have aa_48 := a_r11_31
              have o_h0 := E_40.1 _ _ o_h0
              refine lv_if_ne (tgt := 86) hx hb dX7_membersFit_81 (by decide) (fun c_49 => ?_) (fun c_49 => ?_)
              · refine lv_aload_n hx hb dX7_membersFit_86 rfl (lv_at hl 0 rfl) ?_
                refine lv_dup hx hb dX7_membersFit_87 rfl ?_
                obtain ⟨fs9, hk_50, hq_50⟩ := ((gF.a (F' := [(6, 2), (6, 3)]) Fr_41 (fun _ h => h))) _ _ _ hk_31
                obtain ⟨r0_50, n0_50, c1_50, c2_50, c3_50, r4_50, n4_50, c5_50, c6_50, c7_50, c8_50, r9_50, n9_50, r10_50, n10_50, r11_50, n11_50, c12_50, c13_50, c14_50, c15_50, c16_50, rfl, a_r0_50, f1_50, a_r4_50, f3_50, a_r9_50, f5_50, a_r10_50, f7_50, a_r11_50, f9_50, f10_50, f11_50, f12_50, f13_50, f14_50, -⟩ := (hG.1 _ _ _ _ hk_50).hX7 rfl
                obtain rfl := fe_r (hq_50 9 (by decide))
                have hn9 := gI_n hD ((E_40).1 _ _ aa_46) a_r9_50
                subst hn9
                have a_r9_9 := a_r9_50
                obtain rfl := fe_i (hq_50 15 (by decide))
                refine va_get (D := gD g) (ci := 6) (v := .int c15_31) (C := RX7) (T := TX7) (N := 17) hx hb hts inX7 hown hK hP k_9 hk_50 rfl 15 (by decide) (hts _ kw_1273) (fun _ h9 => h9) rfl dX7_membersFit_88 ?_
                refine lv_bipush (v := 6) hx hb dX7_membersFit_91 (by decide) ?_
                refine lv_iadd hx hb dX7_membersFit_93 ?_
                refine lv_topi (fun z_51 ez_51 => ?_)
                have hV9 : okv ws_39 6 15 (.int z_51) := okv_i
                refine va_put (D := gD g) (ci := 6) (v := .int z_51) (ty := .int) (C := RX7) (T := TX7) (N := 17) hx hb hts inX7 tyX7 tyX7_ok nmX7 hown hK hP hD hS k_9 hk_50 rfl 15 (by decide) (hts _ kw_1273) (fun _ h9 => h9) rfl (by decide +kernel) rfl rfl (Nat.le_of_ble_eq_true rfl) dX7_membersFit_94 (fun H locs hP hD hS => ?_)
                have hi_52 : invX7 g ws_39 h0 [.ref r0_50, .int c1_50, .int c2_50, .int c3_50, .ref r4_50, .int c5_50, .int c6_50, .int c7_50, .int c8_50, .ref r9_9, .ref r10_50, .ref r11_50, .int c12_50, .int c13_50, .int c14_50, .int z_51, .int c16_50] := ⟨r0_50, (n0_50), (c1_50), (c2_50), (c3_50), r4_50, (n4_50), (c5_50), (c6_50), (c7_50), (c8_50), r9_9, (n9_9), r10_50, (n10_50), r11_50, (n11_50), (c12_50), (c13_50), (c14_50), (z_51), (c16_50), rfl, a_r0_50, f1_50, a_r4_50, f3_50, a_r9_9, f5_50, a_r10_50, f7_50, a_r11_50, f9_50, f10_50, f11_50, f12_50, f13_50, f14_50, trivial⟩
                obtain ⟨ws_53, e_ws_53⟩ : ∃ z, z = ws_39.set k_9 (h0, .inr (6, [.ref r0_50, .int c1_50, .int c2_50, .int c3_50, .ref r4_50, .int c5_50, .int c6_50, .int c7_50, .int c8_50, .ref r9_9, .ref r10_50, .ref r11_50, .int c12_50, .int c13_50, .int c14_50, .int z_51, .int c16_50])) := ⟨_, rfl⟩
                have hP : va_P (gD g) cl0 ws_53 H := by rw [e_ws_53]; exact hP
                have hD : va_D A ws_53 := by rw [e_ws_53]; exact hD
                have E_54 : gE ws_39 ws_53 := gE_set e_ws_53 hk_50 (cw_o (fi := 15) (v := .int z_51) rfl (by decide))
                have hG : Good g ws_53 := Good_set (fi := 15) (v := .int z_51) e_ws_53 hk_50 E_54 rfl hV9 hG (ivX7 hi_52)
                have Fr_55 : gF [(6, 15)] [] (some h0) ws_39 ws_53 := gF_put (fi := 15) (v := .int z_51) e_ws_53 hk_50 rfl (by decide)
                have hkN := gset_self e_ws_53 hk_50
                have hk_50 := hkN
                have o_h0 := E_54.1 _ _ o_h0
                have a_r0_50 := E_54.1 _ _ a_r0_50
                have a_r4_50 := E_54.1 _ _ a_r4_50
                have a_r10_50 := E_54.1 _ _ a_r10_50
                have a_r11_50 := E_54.1 _ _ a_r11_50
                have a_r9_9 := E_54.1 _ _ a_r9_9
                refine lv_aload_n hx hb dX7_membersFit_97 rfl (lv_at hl 0 rfl) ?_
                have hFc := gfree hD hS hA
                refine va_calli (va_runV (As := []) (rest := []) ⟨hx, hb, hml, hown, hts⟩ (m_X7_attributesFit l g H.size ws_53 h0 hG o_h0) (cwV 0 hts (gd_V kw_1324 kw_1270 kw_1271 kw_710 kw_1269) rfl rfl rfl (by decide +kernel) ⟨Nat.le_of_ble_eq_true rfl, Nat.le_of_ble_eq_true rfl⟩) ⟨gblind, va_recv hK hP (ci := 6) (q0 := k_9) rfl hk_50, fun U hU hW9 => gmk hU hW9 hP hK hD hex hE hS hFc⟩ rfl rfl hl.1 rfl (lv_room (Nat.le_of_ble_eq_true rfl)) dX7_membersFit_98 ⟨Nat.le_of_ble_eq_true rfl, Nat.le_of_ble_eq_true rfl⟩) hS (fun q _ h => hFc q h) hFc (fun r_56 ws_57 t9 H1 locs ht9 hvm9 hw9 hB9 hz9 hk9 hS => ?_)
                obtain ⟨E_58, Fr_59, hG, hP1, hD1⟩ := hB9
                have hP : va_P (gD g) cl0 ws_57 H1 := by rw [← ht9]; exact hP1
                have hD : va_D A ws_57 := hD1.weaken (fun _ _ _ h => hFc _ h)
                have hz_r_56 : r_56 = 0 ∨ r_56 = 1 := hw9
                clear hP1 hD1 hz9 hk9 hvm9 ht9 hw9
                generalize H1 = H at hP hS ⊢
                have aa_62 := a_r0_50
                have aa_63 := a_r4_50
                have aa_64 := a_r9_9
                have aa_65 := a_r10_50
                have aa_66 := a_r11_50
                have o_h0 := E_58.1 _ _ o_h0
                refine lv_if_ne (tgt := 106) hx hb dX7_membersFit_101 (by decide) (fun c_67 => ?_) (fun c_67 => ?_)
                · obtain ⟨z_68, ez_68⟩ : ∃ z : Int32, v3_17 + Int32.ofInt 1 = z := ⟨_, rfl⟩
                  refine lv_iinc (v := z_68) (lv' := [(3, .int z_68), (0, .ref h0), (1, .int x1), (2, .int r_10)]) hx hb dX7_membersFit_106 hl (k := 3) rfl ez_68 (by decide) rfl (fun ls hl => ?_)
                  refine lv_goto (tgt := 49) hx hb dX7_membersFit_109 (by decide) ?_
                  exact ih_49 _ (by obtain ⟨u_z_68, q_z_68⟩ := i_iz ez_68 (by decide) (by decide); have q_iv_18 := iv_18; have q_c_30 := i_nle c_30; have q_c_34 := i_nle c_34; have g_v3_17 := i_rg v3_17; have g_z_27 := i_rg z_27; have g_z_33 := i_rg z_33; have g_z_68 := i_rg z_68; omega) (z_68) ws_57 H locs ls rfl (by obtain ⟨u_z_68, q_z_68⟩ := i_iz ez_68 (by decide) (by decide); have q_iv_18 := iv_18; have q_c_30 := i_nle c_30; have q_c_34 := i_nle c_34; have g_v3_17 := i_rg v3_17; have g_z_27 := i_rg z_27; have g_z_33 := i_rg z_33; have g_z_68 := i_rg z_68; omega) ((E_20.tr (E_36.tr (E_40.tr (E_54.tr E_58))))) ((gF.tr Fr_21 (gF.tr (gF.mo (F' := [(6, 2), (6, 3), (6, 15)]) (C' := [(6, 9)]) (S' := none) Fr_37 (fun _ h => absurd h List.not_mem_nil) (fun _ h => h) (Or.inr rfl)) (gF.tr (gF.mo (F' := [(6, 2), (6, 3), (6, 15)]) (C' := [(6, 9)]) (S' := none) Fr_41 (by decide) (fun _ h => absurd h List.not_mem_nil) (Or.inr rfl)) (gF.tr (gF.mo (F' := [(6, 2), (6, 3), (6, 15)]) (C' := [(6, 9)]) (S' := none) Fr_55 (by decide) (fun _ h => absurd h List.not_mem_nil) (Or.inl rfl)) (gF.mo (F' := [(6, 2), (6, 3), (6, 15)]) (C' := [(6, 9)]) (S' := none) Fr_59 (fun _ h => h) (fun _ h => absurd h List.not_mem_nil) (Or.inr rfl))))))) hG hP hD hS (lv_sub hl [1, 2, 3, 0] rfl)
                · refine lv_iconst (v := (-1)) hx hb dX7_membersFit_104 (by decide) ?_
                  refine W.widen (k := 0) (n := 0) (Nat.le_of_ble_eq_true rfl) (Nat.le_of_ble_eq_true rfl) ?_
                  exact W.iret (v := (-1)) hx hb hr (fun t9 ht9 hW9 => ⟨⟨_, ws_57, rfl, (by have em1 : ((-1) : Int32).toInt = -1 := (by decide); have e24 : (24 : Int32).toInt = 24 := (by decide); have q_pf := pf; obtain ⟨u_z_27, q_z_27⟩ := i_add ez_27; have q_r_10 := h_r_10; have q_c_11 := i_le c_11; have q_c_30 := i_nle c_30; have g_r_10 := i_rg r_10; have g_v3_17 := i_rg v3_17; have g_x1 := i_rg x1; have g_z_27 := i_rg z_27; omega), ⟨(E_4.tr (E_15.tr (E_20.tr (E_36.tr (E_40.tr (E_54.tr E_58)))))), (gF.tr (gF.mo (F' := [(6, 2), (6, 3), (6, 15)]) (C' := [(6, 9)]) (S' := none) Fr_5 (by decide) (fun _ h => absurd h List.not_mem_nil) (Or.inr rfl)) (gF.tr (gF.mo (F' := [(6, 2), (6, 3), (6, 15)]) (C' := [(6, 9)]) (S' := none) Fr_16 (by decide) (fun _ h => absurd h List.not_mem_nil) (Or.inl rfl)) (gF.tr Fr_21 (gF.tr (gF.mo (F' := [(6, 2), (6, 3), (6, 15)]) (C' := [(6, 9)]) (S' := none) Fr_37 (fun _ h => absurd h List.not_mem_nil) (fun _ h => h) (Or.inr rfl)) (gF.tr (gF.mo (F' := [(6, 2), (6, 3), (6, 15)]) (C' := [(6, 9)]) (S' := none) Fr_41 (by decide) (fun _ h => absurd h List.not_mem_nil) (Or.inr rfl)) (gF.tr (gF.mo (F' := [(6, 2), (6, 3), (6, 15)]) (C' := [(6, 9)]) (S' := none) Fr_55 (by decide) (fun _ h => absurd h List.not_mem_nil) (Or.inl rfl)) (gF.mo (F' := [(6, 2), (6, 3), (6, 15)]) (C' := [(6, 9)]) (S' := none) Fr_59 (fun _ h => h) (fun _ h => absurd h List.not_mem_nil) (Or.inr rfl)))))))), hG, by rw [ht9]; exact hP, hD⟩⟩, hS.F ht9⟩) hS.2.2 dX7_membersFit_105
              · refine lv_iconst (v := (-1)) hx hb dX7_membersFit_84 (by decide) ?_
                refine W.widen (k := 0) (n := 0) (Nat.le_of_ble_eq_true rfl) (Nat.le_of_ble_eq_true rfl) ?_
                exact W.iret (v := (-1)) hx hb hr (fun t9 ht9 hW9 => ⟨⟨_, ws_39, rfl, (by have em1 : ((-1) : Int32).toInt = -1 := (by decide); have e24 : (24 : Int32).toInt = 24 := (by decide); have q_pf := pf; obtain ⟨u_z_27, q_z_27⟩ := i_add ez_27; have q_r_10 := h_r_10; have q_c_11 := i_le c_11; have q_c_30 := i_nle c_30; have g_r_10 := i_rg r_10; have g_v3_17 := i_rg v3_17; have g_x1 := i_rg x1; have g_z_27 := i_rg z_27; omega), ⟨(E_4.tr (E_15.tr (E_20.tr (E_36.tr E_40)))), (gF.tr (gF.mo (F' := [(6, 2), (6, 3), (6, 15)]) (C' := [(6, 9)]) (S' := none) Fr_5 (by decide) (fun _ h => absurd h List.not_mem_nil) (Or.inr rfl)) (gF.tr (gF.mo (F' := [(6, 2), (6, 3), (6, 15)]) (C' := [(6, 9)]) (S' := none) Fr_16 (by decide) (fun _ h => absurd h List.not_mem_nil) (Or.inl rfl)) (gF.tr Fr_21 (gF.tr (gF.mo (F' := [(6, 2), (6, 3), (6, 15)]) (C' := [(6, 9)]) (S' := none) Fr_37 (fun _ h => absurd h List.not_mem_nil) (fun _ h => h) (Or.inr rfl)) (gF.mo (F' := [(6, 2), (6, 3), (6, 15)]) (C' := [(6, 9)]) (S' := none) Fr_41 (by decide) (fun _ h => absurd h List.not_mem_nil) (Or.inr rfl)))))), hG, by rw [ht9]; exact hP, hD⟩⟩, hS.F ht9⟩) hS.2.2 dX7_membersFit_85
      exact J_49 _ (x1) ws_14 H locs ls rfl (by have q_pf := pf; have g_x1 := i_rg x1; omega) (gE.rf) (gF.rf) hG hP hD hS (lv_sub hl [2, 3, 1, 0] rfl)
    · refine lv_aload_n hx hb dX7_membersFit_25 rfl (lv_at hl 1 rfl) ?_
      refine lv_iconst (v := 5) hx hb dX7_membersFit_26 (by decide) ?_
      refine lv_aload_n hx hb dX7_membersFit_27 rfl (lv_at hl 1 rfl) ?_
      refine va_get (D := gD g) (ci := 6) (v := .int c15_9) (C := RX7) (T := TX7) (N := 17) hx hb hts inX7 hown hK hP k_9 hk_9 rfl 15 (by decide) (hts _ kw_1273) (fun _ h9 => h9) rfl dX7_membersFit_28 ?_
      have hFc := gfree hD hS hA
      refine va_calli (va_runV (As := [.int 5, .int c15_9]) (rest := []) ⟨hx, hb, hml, hown, hts⟩ (m_X7_breaks l g H.size ws_3 h0 (5) (c15_9) hG o_h0) (cwV 2 hts (gd_V kw_1276 kw_1278 kw_1279 kw_710 kw_1277) rfl rfl rfl (by decide +kernel) ⟨Nat.le_of_ble_eq_true rfl, Nat.le_of_ble_eq_true rfl⟩) ⟨gblind, va_recv hK hP (ci := 6) (q0 := k_9) rfl hk_9, fun U hU hW9 => gmk hU hW9 hP hK hD hex hE hS hFc⟩ rfl rfl hl.1 rfl (lv_room (Nat.le_of_ble_eq_true rfl)) dX7_membersFit_31 ⟨Nat.le_of_ble_eq_true rfl, Nat.le_of_ble_eq_true rfl⟩) hS (fun q _ h => hFc q h) hFc (fun r_69 ws_70 t9 H1 locs ht9 hvm9 hw9 hB9 hz9 hk9 hS => ?_)
      obtain ⟨E_71, Fr_72, hG, hP1, hD1⟩ := hB9
      have hP : va_P (gD g) cl0 ws_70 H1 := by rw [← ht9]; exact hP1
      have hD : va_D A ws_70 := hD1.weaken (fun _ _ _ h => hFc _ h)
      have hz_r_69 : r_69 = 0 ∨ r_69 = 1 := hw9
      clear hP1 hD1 hz9 hk9 hvm9 ht9 hw9
      generalize H1 = H at hP hS ⊢
      have aa_75 := a_r0_9
      have aa_76 := a_r4_9
      have aa_77 := a_r9_9
      have aa_78 := a_r10_9
      have aa_79 := a_r11_9
      have o_h0 := E_71.1 _ _ o_h0
      refine lv_pop hx hb dX7_membersFit_34 rfl ?_
      refine lv_iconst (v := (-1)) hx hb dX7_membersFit_35 (by decide) ?_
      refine W.widen (k := 0) (n := 0) (Nat.le_of_ble_eq_true rfl) (Nat.le_of_ble_eq_true rfl) ?_
      exact W.iret (v := (-1)) hx hb hr (fun t9 ht9 hW9 => ⟨⟨_, ws_70, rfl, (by have em1 : ((-1) : Int32).toInt = -1 := (by decide); have q_pf := pf; have g_x1 := i_rg x1; omega), ⟨(E_4.tr E_71), (gF.tr (gF.mo (F' := [(6, 2), (6, 3), (6, 15)]) (C' := [(6, 9)]) (S' := none) Fr_5 (by decide) (fun _ h => absurd h List.not_mem_nil) (Or.inr rfl)) (gF.mo (F' := [(6, 2), (6, 3), (6, 15)]) (C' := [(6, 9)]) (S' := none) Fr_72 (by decide) (fun _ h => absurd h List.not_mem_nil) (Or.inr rfl))), hG, by rw [ht9]; exact hP, hD⟩⟩, hS.F ht9⟩) hS.2.2 dX7_membersFit_36
  · refine lv_iconst (v := (-1)) hx hb dX7_membersFit_8 (by decide) ?_
    refine W.widen (k := 0) (n := 0) (Nat.le_of_ble_eq_true rfl) (Nat.le_of_ble_eq_true rfl) ?_
    exact W.iret (v := (-1)) hx hb hr (fun t9 ht9 hW9 => ⟨⟨_, ws_3, rfl, (by have em1 : ((-1) : Int32).toInt = -1 := (by decide); have q_pf := pf; have g_x1 := i_rg x1; omega), ⟨E_4, (gF.mo (F' := [(6, 2), (6, 3), (6, 15)]) (C' := [(6, 9)]) (S' := none) Fr_5 (by decide) (fun _ h => absurd h List.not_mem_nil) (Or.inr rfl)), hG, by rw [ht9]; exact hP, hD⟩⟩, hS.F ht9⟩) hS.2.2 dX7_membersFit_9
set_option maxHeartbeats 1000000 in
set_option maxRecDepth 100000 in
theorem m_X7_fileAttributesFit (l : Launch) (g : Gm) (sz : Nat) (ws : va_W) (h0 : Nat) (hG : Good g ws) (o_h0 : gC ws h0 6) : Met l yX7_fileAttributesFit (wt yX7_fileAttributesFit cX7_fileAttributesFit 1 (some .boolean)) ({ frames := 3, cells := 0, slots := 0, locals := 67 }) (va_Pc [.ref h0] (st_G g sz ws)) (va_Qi (fun (r : Int32) (u9 : va_W) => r = 0 ∨ r = 1) (gQ1 g [(6, 2), (6, 3), (6, 15), (6, 16)] [] none (va_A ws sz) ws) (va_A ws sz)) (0) (0) (va_A ws sz) := by
  refine Met.ofW (cc := cX7_fileAttributesFit) (maxL := 1) (ret := (some .boolean)) (by decide) rfl ?_
  intro p e s m args below meth c s₁ B hml hv
  obtain ⟨rfl, hsz, hP, hK, hD0, hex, hE⟩ := hv
  have hx := B.exec
  have hb := B.bytes
  have hr := B.returns
  have hts0 := atoms_spec (ws := wt yX7_fileAttributesFit cX7_fileAttributesFit 1 (some .boolean)) B.pre
  have hts : ∀ w ∈ tb, w.before _ s = true := fun w h => hts0 w (List.mem_cons_of_mem _ h)
  have hown : s.vm.findClass RX7 = some m.cls := findClass_of_methodNamed B.named
  subst hsz
  have hD := hD0.self (sz := s.heap.size)
  generalize hAe : va_A ws s.heap.size = A at hD hE ⊢
  have hA : ∀ q : Nat, s.heap.size ≤ q → A q := fun q h => by rw [← hAe]; exact Or.inr h
  have hS : va_S A s.heap s.heap [] := va_S.rf
  have hl := lv_entry ([.ref h0]) (n := 1) (Nat.le_of_ble_eq_true rfl)
  rw [lg_entry_eq]
  generalize (lg_sl ([.ref h0]) ++ List.replicate (1 - (lg_sl ([.ref h0])).length) Slot.unset).toArray = ls at hl ⊢
  have hl : lv_has ls 1 [(0, .ref h0)] := hl
  refine lv_aload_n hx hb dX7_fileAttributesFit_0 rfl (lv_at hl 0 rfl) ?_
  refine lv_aload_n hx hb dX7_fileAttributesFit_1 rfl (lv_at hl 0 rfl) ?_
  obtain ⟨k_1, fs9, hk_1⟩ := gC_of o_h0
  obtain ⟨r0_1, n0_1, c1_1, c2_1, c3_1, r4_1, n4_1, c5_1, c6_1, c7_1, c8_1, r9_1, n9_1, r10_1, n10_1, r11_1, n11_1, c12_1, c13_1, c14_1, c15_1, c16_1, rfl, a_r0_1, f1_1, a_r4_1, f3_1, a_r9_1, f5_1, a_r10_1, f7_1, a_r11_1, f9_1, f10_1, f11_1, f12_1, f13_1, f14_1, -⟩ := (hG.1 _ _ _ _ hk_1).hX7 rfl
  refine va_get (D := gD g) (ci := 6) (v := .int c15_1) (C := RX7) (T := TX7) (N := 17) hx hb hts inX7 hown hK hP k_1 hk_1 rfl 15 (by decide) (hts _ kw_1273) (fun _ h9 => h9) rfl dX7_fileAttributesFit_2 ?_
  have hV9 : okv ws 6 16 (.int c15_1) := okv_i
  refine va_put (D := gD g) (ci := 6) (v := .int c15_1) (ty := .int) (C := RX7) (T := TX7) (N := 17) hx hb hts inX7 tyX7 tyX7_ok nmX7 hown hK hP hD hS k_1 hk_1 rfl 16 (by decide) (hts _ kw_1323) (fun _ h9 => h9) rfl (by decide +kernel) rfl rfl (Nat.le_of_ble_eq_true rfl) dX7_fileAttributesFit_5 (fun H locs hP hD hS => ?_)
  have hi_2 : invX7 g ws h0 [.ref r0_1, .int c1_1, .int c2_1, .int c3_1, .ref r4_1, .int c5_1, .int c6_1, .int c7_1, .int c8_1, .ref r9_1, .ref r10_1, .ref r11_1, .int c12_1, .int c13_1, .int c14_1, .int c15_1, .int c15_1] := ⟨r0_1, (n0_1), (c1_1), (c2_1), (c3_1), r4_1, (n4_1), (c5_1), (c6_1), (c7_1), (c8_1), r9_1, (n9_1), r10_1, (n10_1), r11_1, (n11_1), (c12_1), (c13_1), (c14_1), (c15_1), (c15_1), rfl, a_r0_1, f1_1, a_r4_1, f3_1, a_r9_1, f5_1, a_r10_1, f7_1, a_r11_1, f9_1, f10_1, f11_1, f12_1, f13_1, f14_1, trivial⟩
  obtain ⟨ws_3, e_ws_3⟩ : ∃ z, z = ws.set k_1 (h0, .inr (6, [.ref r0_1, .int c1_1, .int c2_1, .int c3_1, .ref r4_1, .int c5_1, .int c6_1, .int c7_1, .int c8_1, .ref r9_1, .ref r10_1, .ref r11_1, .int c12_1, .int c13_1, .int c14_1, .int c15_1, .int c15_1])) := ⟨_, rfl⟩
  have hP : va_P (gD g) cl0 ws_3 H := by rw [e_ws_3]; exact hP
  have hD : va_D A ws_3 := by rw [e_ws_3]; exact hD
  have E_4 : gE ws ws_3 := gE_set e_ws_3 hk_1 (cw_o (fi := 16) (v := .int c15_1) rfl (by decide))
  have hG : Good g ws_3 := Good_set (fi := 16) (v := .int c15_1) e_ws_3 hk_1 E_4 rfl hV9 hG (ivX7 hi_2)
  have Fr_5 : gF [(6, 16)] [] (some h0) ws ws_3 := gF_put (fi := 16) (v := .int c15_1) e_ws_3 hk_1 rfl (by decide)
  have hkN := gset_self e_ws_3 hk_1
  have hk_1 := hkN
  have o_h0 := E_4.1 _ _ o_h0
  have a_r0_1 := E_4.1 _ _ a_r0_1
  have a_r4_1 := E_4.1 _ _ a_r4_1
  have a_r9_1 := E_4.1 _ _ a_r9_1
  have a_r10_1 := E_4.1 _ _ a_r10_1
  have a_r11_1 := E_4.1 _ _ a_r11_1
  refine lv_aload_n hx hb dX7_fileAttributesFit_8 rfl (lv_at hl 0 rfl) ?_
  have hFc := gfree hD hS hA
  refine va_calli (va_runV (As := []) (rest := []) ⟨hx, hb, hml, hown, hts⟩ (m_X7_attributesFit l g H.size ws_3 h0 hG o_h0) (cwV 0 hts (gd_V kw_1324 kw_1270 kw_1271 kw_710 kw_1269) rfl rfl rfl (by decide +kernel) ⟨Nat.le_of_ble_eq_true rfl, Nat.le_of_ble_eq_true rfl⟩) ⟨gblind, va_recv hK hP (ci := 6) (q0 := k_1) rfl hk_1, fun U hU hW9 => gmk hU hW9 hP hK hD hex hE hS hFc⟩ rfl rfl hl.1 rfl (lv_room (Nat.le_of_ble_eq_true rfl)) dX7_fileAttributesFit_9 ⟨Nat.le_of_ble_eq_true rfl, Nat.le_of_ble_eq_true rfl⟩) hS (fun q _ h => hFc q h) hFc (fun r_6 ws_7 t9 H1 locs ht9 hvm9 hw9 hB9 hz9 hk9 hS => ?_)
  obtain ⟨E_8, Fr_9, hG, hP1, hD1⟩ := hB9
  have hP : va_P (gD g) cl0 ws_7 H1 := by rw [← ht9]; exact hP1
  have hD : va_D A ws_7 := hD1.weaken (fun _ _ _ h => hFc _ h)
  have hz_r_6 : r_6 = 0 ∨ r_6 = 1 := hw9
  clear hP1 hD1 hz9 hk9 hvm9 ht9 hw9
  generalize H1 = H at hP hS ⊢
  have aa_12 := a_r0_1
  have aa_13 := a_r4_1
  have aa_14 := a_r9_1
  have aa_15 := a_r10_1
  have aa_16 := a_r11_1
  have o_h0 := E_8.1 _ _ o_h0
  refine W.widen (k := 0) (n := 0) (Nat.le_of_ble_eq_true rfl) (Nat.le_of_ble_eq_true rfl) ?_
  exact W.zret (v := r_6) hx hb hr (nz hz_r_6) (fun t9 ht9 hW9 => ⟨⟨_, ws_7, rfl, hz_r_6, ⟨(E_4.tr E_8), (gF.tr (gF.mo (F' := [(6, 2), (6, 3), (6, 15), (6, 16)]) (C' := []) (S' := none) Fr_5 (by decide) (fun _ h => h) (Or.inl rfl)) (gF.mo (F' := [(6, 2), (6, 3), (6, 15), (6, 16)]) (C' := []) (S' := none) Fr_9 (by decide) (fun _ h => h) (Or.inr rfl))), hG, by rw [ht9]; exact hP, hD⟩⟩, hS.F ht9⟩) hS.2.2 dX7_fileAttributesFit_12
set_option maxHeartbeats 1000000 in
set_option maxRecDepth 100000 in
theorem m_X7_entriesPoint (l : Launch) (g : Gm) (sz : Nat) (ws : va_W) (h0 : Nat) (hG : Good g ws) (o_h0 : gC ws h0 6) : Met l yX7_entriesPoint (wt yX7_entriesPoint cX7_entriesPoint 2 (some .boolean)) ({ frames := 3, cells := 0, slots := 0, locals := 63 }) (va_Pc [.ref h0] (st_G g sz ws)) (va_Qi (fun (r : Int32) (u9 : va_W) => r = 0 ∨ r = 1) (gQ1 g [(6, 2), (6, 3)] [] none (va_A ws sz) ws) (va_A ws sz)) (0) (0) (va_A ws sz) := by
  refine Met.ofW (cc := cX7_entriesPoint) (maxL := 2) (ret := (some .boolean)) (by decide) rfl ?_
  intro p e s m args below meth c s₁ B hml hv
  obtain ⟨rfl, hsz, hP, hK, hD0, hex, hE⟩ := hv
  have hx := B.exec
  have hb := B.bytes
  have hr := B.returns
  have hts0 := atoms_spec (ws := wt yX7_entriesPoint cX7_entriesPoint 2 (some .boolean)) B.pre
  have hts : ∀ w ∈ tb, w.before _ s = true := fun w h => hts0 w (List.mem_cons_of_mem _ h)
  have hown : s.vm.findClass RX7 = some m.cls := findClass_of_methodNamed B.named
  subst hsz
  have hD := hD0.self (sz := s.heap.size)
  generalize hAe : va_A ws s.heap.size = A at hD hE ⊢
  have hA : ∀ q : Nat, s.heap.size ≤ q → A q := fun q h => by rw [← hAe]; exact Or.inr h
  have hS : va_S A s.heap s.heap [] := va_S.rf
  have hl := lv_entry ([.ref h0]) (n := 2) (Nat.le_of_ble_eq_true rfl)
  rw [lg_entry_eq]
  generalize (lg_sl ([.ref h0]) ++ List.replicate (2 - (lg_sl ([.ref h0])).length) Slot.unset).toArray = ls at hl ⊢
  have hl : lv_has ls 2 [(0, .ref h0)] := hl
  refine lv_iconst (v := 1) hx hb dX7_entriesPoint_0 (by decide) ?_
  refine lv_istore_n (lv' := [(1, .int 1), (0, .ref h0)]) hx hb dX7_entriesPoint_1 rfl hl (by decide) rfl (fun ls hl => ?_)
  have J_2 : ∀ (n9 : Nat) (v1_1 : Int32) (H : Heap) (locs : List Loc) (ls : Array Slot), (2147483647 - v1_1.toInt).toNat = n9 → 0 ≤ v1_1.toInt → va_P (gD g) cl0 ws H → va_D A ws → va_S A s.heap H locs → lv_has ls 2 [(0, .ref h0), (1, .int v1_1)] → W p l e (headSpec (wt yX7_entriesPoint cX7_entriesPoint 2 (some .boolean)) ({ frames := 3, cells := 0, slots := 0, locals := 63 })).room s m ([.ref h0] : List Value).toArray below meth c H locs (0) (0) (MQ below (va_Qi (fun (r : Int32) (u9 : va_W) => r = 0 ∨ r = 1) (gQ1 g [(6, 2), (6, 3)] [] none A ws) A) ([.ref h0] : List Value).toArray s (0) (0) A) (F0 m 2 ls []) := by
    intro n9
    induction n9 using Nat.strongRecOn with
    | ind n9 ih_2 =>
      intro v1_1 H locs ls hm9 iv_2 hP hD hS hl
      subst hm9
      refine lv_iload_n hx hb dX7_entriesPoint_2 rfl (lv_at hl 1 rfl) ?_
      refine lv_aload_n hx hb dX7_entriesPoint_3 rfl (lv_at hl 0 rfl) ?_
      obtain ⟨k_5, fs9, hk_5⟩ := gC_of o_h0
      obtain ⟨r0_5, n0_5, c1_5, c2_5, c3_5, r4_5, n4_5, c5_5, c6_5, c7_5, c8_5, r9_5, n9_5, r10_5, n10_5, r11_5, n11_5, c12_5, c13_5, c14_5, c15_5, c16_5, rfl, a_r0_5, f1_5, a_r4_5, f3_5, a_r9_5, f5_5, a_r10_5, f7_5, a_r11_5, f9_5, f10_5, f11_5, f12_5, f13_5, f14_5, -⟩ := (hG.1 _ _ _ _ hk_5).hX7 rfl
      refine va_get (D := gD g) (ci := 6) (v := .int c5_5) (C := RX7) (T := TX7) (N := 17) hx hb hts inX7 hown hK hP k_5 hk_5 rfl 5 (by decide) (hts _ kw_1294) (fun _ h9 => h9) rfl dX7_entriesPoint_4 ?_
      refine lv_icmp_ge (tgt := 36) hx hb dX7_entriesPoint_7 (by decide) (fun c_6 => ?_) (fun c_6 => ?_)
      · refine lv_iconst (v := 1) hx hb dX7_entriesPoint_36 (by decide) ?_
        refine W.widen (k := 0) (n := 0) (Nat.le_of_ble_eq_true rfl) (Nat.le_of_ble_eq_true rfl) ?_
        exact W.zret (v := 1) hx hb hr (nz (Or.inr rfl)) (fun t9 ht9 hW9 => ⟨⟨_, ws, rfl, (Or.inr rfl), ⟨gE.rf, gF.rf, hG, by rw [ht9]; exact hP, hD⟩⟩, hS.F ht9⟩) hS.2.2 dX7_entriesPoint_37
      · refine lv_aload_n hx hb dX7_entriesPoint_10 rfl (lv_at hl 0 rfl) ?_
        refine lv_iload_n hx hb dX7_entriesPoint_11 rfl (lv_at hl 1 rfl) ?_
        have hFc := gfree hD hS hA
        refine va_calli (va_runV (As := [.int v1_1]) (rest := []) ⟨hx, hb, hml, hown, hts⟩ (m_X7_entryPoints l g H.size ws h0 (v1_1) hG o_h0) (cwV 1 hts (gd_V kw_1295 kw_1311 kw_1312 kw_710 kw_1310) rfl rfl rfl (by decide +kernel) ⟨Nat.le_of_ble_eq_true rfl, Nat.le_of_ble_eq_true rfl⟩) ⟨gblind, va_recv hK hP (ci := 6) (q0 := k_5) rfl hk_5, fun U hU hW9 => gmk hU hW9 hP hK hD hex hE hS hFc⟩ rfl rfl hl.1 rfl (lv_room (Nat.le_of_ble_eq_true rfl)) dX7_entriesPoint_12 ⟨Nat.le_of_ble_eq_true rfl, Nat.le_of_ble_eq_true rfl⟩) hS (fun q _ h => hFc q h) hFc (fun r_7 u9 t9 H1 locs ht9 hvm9 hw9 hB9 hz9 hk9 hS => ?_)
        have hP : va_P (gD g) cl0 ws H1 := by rw [← ht9]; exact hB9.1
        have hz_r_7 : r_7 = 0 ∨ r_7 = 1 := hw9
        clear hB9 hz9 hk9 hvm9 ht9 hw9
        generalize H1 = H at hP hS ⊢
        refine lv_if_ne (tgt := 30) hx hb dX7_entriesPoint_15 (by decide) (fun c_8 => ?_) (fun c_8 => ?_)
        · obtain ⟨z_9, ez_9⟩ : ∃ z : Int32, v1_1 + Int32.ofInt 1 = z := ⟨_, rfl⟩
          refine lv_iinc (v := z_9) (lv' := [(1, .int z_9), (0, .ref h0)]) hx hb dX7_entriesPoint_30 hl (k := 1) rfl ez_9 (by decide) rfl (fun ls hl => ?_)
          refine lv_goto (tgt := 2) hx hb dX7_entriesPoint_33 (by decide) ?_
          exact ih_2 _ (by obtain ⟨u_z_9, q_z_9⟩ := i_iz ez_9 (by decide) (by decide); have q_iv_2 := iv_2; have q_c_6 := i_nle c_6; have g_c5_5 := i_rg c5_5; have g_v1_1 := i_rg v1_1; have g_z_9 := i_rg z_9; omega) (z_9) H locs ls rfl (by obtain ⟨u_z_9, q_z_9⟩ := i_iz ez_9 (by decide) (by decide); have q_iv_2 := iv_2; have q_c_6 := i_nle c_6; have g_c5_5 := i_rg c5_5; have g_v1_1 := i_rg v1_1; have g_z_9 := i_rg z_9; omega) hP hD hS (lv_sub hl [1, 0] rfl)
        · refine lv_aload_n hx hb dX7_entriesPoint_18 rfl (lv_at hl 0 rfl) ?_
          refine lv_bipush (v := 6) hx hb dX7_entriesPoint_19 (by decide) ?_
          refine lv_aload_n hx hb dX7_entriesPoint_21 rfl (lv_at hl 0 rfl) ?_
          refine lv_iload_n hx hb dX7_entriesPoint_22 rfl (lv_at hl 1 rfl) ?_
          have hFc := gfree hD hS hA
          refine va_calli (va_runV (As := [.int v1_1]) (rest := [.int 6, .ref h0]) ⟨hx, hb, hml, hown, hts⟩ (m_X7_entryAt l g H.size ws h0 (v1_1) hG o_h0) (cwV 1 hts (gd_V kw_1296 kw_1298 kw_1299 kw_710 kw_1297) rfl rfl rfl (by decide +kernel) ⟨Nat.le_of_ble_eq_true rfl, Nat.le_of_ble_eq_true rfl⟩) ⟨gblind, va_recv hK hP (ci := 6) (q0 := k_5) rfl hk_5, fun U hU hW9 => gmk hU hW9 hP hK hD hex hE hS hFc⟩ rfl rfl hl.1 rfl (lv_room (Nat.le_of_ble_eq_true rfl)) dX7_entriesPoint_23 ⟨Nat.le_of_ble_eq_true rfl, Nat.le_of_ble_eq_true rfl⟩) hS (fun q _ h => hFc q h) hFc (fun r_10 u9 t9 H1 locs ht9 hvm9 hw9 hB9 hz9 hk9 hS => ?_)
          have hP : va_P (gD g) cl0 ws H1 := by rw [← ht9]; exact hB9.1
          clear hB9 hz9 hk9 hvm9 ht9 hw9
          generalize H1 = H at hP hS ⊢
          have hFc := gfree hD hS hA
          refine va_calli (va_runV (As := [.int 6, .int r_10]) (rest := []) ⟨hx, hb, hml, hown, hts⟩ (m_X7_breaks l g H.size ws h0 (6) (r_10) hG o_h0) (cwV 2 hts (gd_V kw_1276 kw_1278 kw_1279 kw_710 kw_1277) rfl rfl rfl (by decide +kernel) ⟨Nat.le_of_ble_eq_true rfl, Nat.le_of_ble_eq_true rfl⟩) ⟨gblind, va_recv hK hP (ci := 6) (q0 := k_5) rfl hk_5, fun U hU hW9 => gmk hU hW9 hP hK hD hex hE hS hFc⟩ rfl rfl hl.1 rfl (lv_room (Nat.le_of_ble_eq_true rfl)) dX7_entriesPoint_26 ⟨Nat.le_of_ble_eq_true rfl, Nat.le_of_ble_eq_true rfl⟩) hS (fun q _ h => hFc q h) hFc (fun r_11 ws_12 t9 H1 locs ht9 hvm9 hw9 hB9 hz9 hk9 hS => ?_)
          obtain ⟨E_13, Fr_14, hG, hP1, hD1⟩ := hB9
          have hP : va_P (gD g) cl0 ws_12 H1 := by rw [← ht9]; exact hP1
          have hD : va_D A ws_12 := hD1.weaken (fun _ _ _ h => hFc _ h)
          have hz_r_11 : r_11 = 0 ∨ r_11 = 1 := hw9
          clear hP1 hD1 hz9 hk9 hvm9 ht9 hw9
          generalize H1 = H at hP hS ⊢
          have aa_17 := a_r0_5
          have aa_18 := a_r4_5
          have aa_19 := a_r9_5
          have aa_20 := a_r10_5
          have aa_21 := a_r11_5
          have o_h0 := E_13.1 _ _ o_h0
          refine W.widen (k := 0) (n := 0) (Nat.le_of_ble_eq_true rfl) (Nat.le_of_ble_eq_true rfl) ?_
          exact W.zret (v := r_11) hx hb hr (nz hz_r_11) (fun t9 ht9 hW9 => ⟨⟨_, ws_12, rfl, hz_r_11, ⟨E_13, Fr_14, hG, by rw [ht9]; exact hP, hD⟩⟩, hS.F ht9⟩) hS.2.2 dX7_entriesPoint_29
  exact J_2 _ (1) _ _ ls rfl (by have e1 : (1 : Int32).toInt = 1 := (by decide); omega) hP hD hS (lv_sub hl [1, 0] rfl)
set_option maxHeartbeats 1000000 in
set_option maxRecDepth 100000 in
theorem m_X7_namesHold (l : Launch) (g : Gm) (sz : Nat) (ws : va_W) (h0 : Nat) (hG : Good g ws) (o_h0 : gC ws h0 6) : Met l yX7_namesHold (wt yX7_namesHold cX7_namesHold 3 (some .boolean)) ({ frames := 4, cells := 0, slots := 0, locals := 87 }) (va_Pc [.ref h0] (st_G g sz ws)) (va_Qi (fun (r : Int32) (u9 : va_W) => r = 0 ∨ r = 1) (gQ1 g [(6, 2), (6, 3)] [] none (va_A ws sz) ws) (va_A ws sz)) (0) (0) (va_A ws sz) := by
  refine Met.ofW (cc := cX7_namesHold) (maxL := 3) (ret := (some .boolean)) (by decide) rfl ?_
  intro p e s m args below meth c s₁ B hml hv
  obtain ⟨rfl, hsz, hP, hK, hD0, hex, hE⟩ := hv
  have hx := B.exec
  have hb := B.bytes
  have hr := B.returns
  have hts0 := atoms_spec (ws := wt yX7_namesHold cX7_namesHold 3 (some .boolean)) B.pre
  have hts : ∀ w ∈ tb, w.before _ s = true := fun w h => hts0 w (List.mem_cons_of_mem _ h)
  have hown : s.vm.findClass RX7 = some m.cls := findClass_of_methodNamed B.named
  subst hsz
  have hD := hD0.self (sz := s.heap.size)
  generalize hAe : va_A ws s.heap.size = A at hD hE ⊢
  have hA : ∀ q : Nat, s.heap.size ≤ q → A q := fun q h => by rw [← hAe]; exact Or.inr h
  have hS : va_S A s.heap s.heap [] := va_S.rf
  have hl := lv_entry ([.ref h0]) (n := 3) (Nat.le_of_ble_eq_true rfl)
  rw [lg_entry_eq]
  generalize (lg_sl ([.ref h0]) ++ List.replicate (3 - (lg_sl ([.ref h0])).length) Slot.unset).toArray = ls at hl ⊢
  have hl : lv_has ls 3 [(0, .ref h0)] := hl
  refine lv_iconst (v := 0) hx hb dX7_namesHold_0 (by decide) ?_
  refine lv_istore_n (lv' := [(1, .int 0), (0, .ref h0)]) hx hb dX7_namesHold_1 rfl hl (by decide) rfl (fun ls hl => ?_)
  have J_2 : ∀ (n9 : Nat) (v1_1 : Int32) (ws_3 : va_W) (H : Heap) (locs : List Loc) (ls : Array Slot), (2147483647 - v1_1.toInt).toNat = n9 → 0 ≤ v1_1.toInt → gE ws ws_3 → gF [(6, 2), (6, 3)] [] none ws ws_3 → Good g ws_3 → va_P (gD g) cl0 ws_3 H → va_D A ws_3 → va_S A s.heap H locs → lv_has ls 3 [(0, .ref h0), (1, .int v1_1)] → W p l e (headSpec (wt yX7_namesHold cX7_namesHold 3 (some .boolean)) ({ frames := 4, cells := 0, slots := 0, locals := 87 })).room s m ([.ref h0] : List Value).toArray below meth c H locs (0) (0) (MQ below (va_Qi (fun (r : Int32) (u9 : va_W) => r = 0 ∨ r = 1) (gQ1 g [(6, 2), (6, 3)] [] none A ws) A) ([.ref h0] : List Value).toArray s (0) (0) A) (F0 m 2 ls []) := by
    intro n9
    induction n9 using Nat.strongRecOn with
    | ind n9 ih_2 =>
      intro v1_1 ws_3 H locs ls hm9 iv_2 E_4 Fr_5 hG hP hD hS hl
      subst hm9
      have o_h0 := E_4.1 _ _ o_h0
      refine lv_iload_n hx hb dX7_namesHold_2 rfl (lv_at hl 1 rfl) ?_
      refine lv_aload_n hx hb dX7_namesHold_3 rfl (lv_at hl 0 rfl) ?_
      obtain ⟨k_6, fs9, hk_6⟩ := gC_of o_h0
      obtain ⟨r0_6, n0_6, c1_6, c2_6, c3_6, r4_6, n4_6, c5_6, c6_6, c7_6, c8_6, r9_6, n9_6, r10_6, n10_6, r11_6, n11_6, c12_6, c13_6, c14_6, c15_6, c16_6, rfl, a_r0_6, f1_6, a_r4_6, f3_6, a_r9_6, f5_6, a_r10_6, f7_6, a_r11_6, f9_6, f10_6, f11_6, f12_6, f13_6, f14_6, -⟩ := (hG.1 _ _ _ _ hk_6).hX7 rfl
      refine va_get (D := gD g) (ci := 6) (v := .int c7_6) (C := RX7) (T := TX7) (N := 17) hx hb hts inX7 hown hK hP k_6 hk_6 rfl 7 (by decide) (hts _ kw_1287) (fun _ h9 => h9) rfl dX7_namesHold_4 ?_
      refine lv_aload_n hx hb dX7_namesHold_7 rfl (lv_at hl 0 rfl) ?_
      refine va_get (D := gD g) (ci := 6) (v := .int c8_6) (C := RX7) (T := TX7) (N := 17) hx hb hts inX7 hown hK hP k_6 hk_6 rfl 8 (by decide) (hts _ kw_1285) (fun _ h9 => h9) rfl dX7_namesHold_8 ?_
      refine lv_iadd hx hb dX7_namesHold_11 ?_
      refine lv_topi (fun z_7 ez_7 => ?_)
      refine lv_icmp_ge (tgt := 60) hx hb dX7_namesHold_12 (by decide) (fun c_8 => ?_) (fun c_8 => ?_)
      · refine lv_aload_n hx hb dX7_namesHold_60 rfl (lv_at hl 0 rfl) ?_
        refine lv_aload_n hx hb dX7_namesHold_61 rfl (lv_at hl 0 rfl) ?_
        refine va_get (D := gD g) (ci := 6) (v := .int c16_6) (C := RX7) (T := TX7) (N := 17) hx hb hts inX7 hown hK hP k_6 hk_6 rfl 16 (by decide) (hts _ kw_1323) (fun _ h9 => h9) rfl dX7_namesHold_62 ?_
        have hFc := gfree hD hS hA
        refine va_calli (va_runV (As := [.int c16_6]) (rest := []) ⟨hx, hb, hml, hown, hts⟩ (m_X7_attributeNamesHold l g H.size ws_3 h0 (c16_6) hG o_h0) (cwV 1 hts (gd_V kw_1417 kw_1264 kw_1265 kw_710 kw_1263) rfl rfl rfl (by decide +kernel) ⟨Nat.le_of_ble_eq_true rfl, Nat.le_of_ble_eq_true rfl⟩) ⟨gblind, va_recv hK hP (ci := 6) (q0 := k_6) rfl hk_6, fun U hU hW9 => gmk hU hW9 hP hK hD hex hE hS hFc⟩ rfl rfl hl.1 rfl (lv_room (Nat.le_of_ble_eq_true rfl)) dX7_namesHold_65 ⟨Nat.le_of_ble_eq_true rfl, Nat.le_of_ble_eq_true rfl⟩) hS (fun q _ h => hFc q h) hFc (fun r_9 ws_10 t9 H1 locs ht9 hvm9 hw9 hB9 hz9 hk9 hS => ?_)
        obtain ⟨E_11, Fr_12, hG, hP1, hD1⟩ := hB9
        have hP : va_P (gD g) cl0 ws_10 H1 := by rw [← ht9]; exact hP1
        have hD : va_D A ws_10 := hD1.weaken (fun _ _ _ h => hFc _ h)
        have hz_r_9 : r_9 = 0 ∨ r_9 = 1 := hw9
        clear hP1 hD1 hz9 hk9 hvm9 ht9 hw9
        generalize H1 = H at hP hS ⊢
        have aa_15 := a_r0_6
        have aa_16 := a_r4_6
        have aa_17 := a_r9_6
        have aa_18 := a_r10_6
        have aa_19 := a_r11_6
        have o_h0 := E_11.1 _ _ o_h0
        refine W.widen (k := 0) (n := 0) (Nat.le_of_ble_eq_true rfl) (Nat.le_of_ble_eq_true rfl) ?_
        exact W.zret (v := r_9) hx hb hr (nz hz_r_9) (fun t9 ht9 hW9 => ⟨⟨_, ws_10, rfl, hz_r_9, ⟨(E_4.tr E_11), (gF.tr Fr_5 Fr_12), hG, by rw [ht9]; exact hP, hD⟩⟩, hS.F ht9⟩) hS.2.2 dX7_namesHold_68
      · refine lv_aload_n hx hb dX7_namesHold_15 rfl (lv_at hl 0 rfl) ?_
        refine lv_iload_n hx hb dX7_namesHold_16 rfl (lv_at hl 1 rfl) ?_
        have hFc := gfree hD hS hA
        refine va_calli (va_runV (As := [.int v1_1]) (rest := []) ⟨hx, hb, hml, hown, hts⟩ (m_X7_memberPlace l g H.size ws_3 h0 (v1_1) hG o_h0) (cwV 1 hts (gd_V kw_1288 kw_1394 kw_1395 kw_710 kw_1393) rfl rfl rfl (by decide +kernel) ⟨Nat.le_of_ble_eq_true rfl, Nat.le_of_ble_eq_true rfl⟩) ⟨gblind, va_recv hK hP (ci := 6) (q0 := k_6) rfl hk_6, fun U hU hW9 => gmk hU hW9 hP hK hD hex hE hS hFc⟩ rfl rfl hl.1 rfl (lv_room (Nat.le_of_ble_eq_true rfl)) dX7_namesHold_17 ⟨Nat.le_of_ble_eq_true rfl, Nat.le_of_ble_eq_true rfl⟩) hS (fun q _ h => hFc q h) hFc (fun r_20 u9 t9 H1 locs ht9 hvm9 hw9 hB9 hz9 hk9 hS => ?_)
        have hP : va_P (gD g) cl0 ws_3 H1 := by rw [← ht9]; exact hB9.1
        clear hB9 hz9 hk9 hvm9 ht9 hw9
        generalize H1 = H at hP hS ⊢
        refine lv_istore_n (lv' := [(2, .int r_20), (0, .ref h0), (1, .int v1_1)]) hx hb dX7_namesHold_20 rfl hl (by decide) rfl (fun ls hl => ?_)
        refine lv_aload_n hx hb dX7_namesHold_21 rfl (lv_at hl 1 rfl) ?_
        refine lv_iload_n hx hb dX7_namesHold_22 rfl (lv_at hl 0 rfl) ?_
        refine lv_iconst (v := 2) hx hb dX7_namesHold_23 (by decide) ?_
        refine lv_iadd hx hb dX7_namesHold_24 ?_
        refine lv_topi (fun z_21 ez_21 => ?_)
        have hFc := gfree hD hS hA
        refine va_calli (va_runV (As := [.int z_21]) (rest := []) ⟨hx, hb, hml, hown, hts⟩ (m_X7_isNameAt l g H.size ws_3 h0 (z_21) hG o_h0) (cwV 1 hts (gd_V kw_1267 kw_1353 kw_1354 kw_710 kw_1352) rfl rfl rfl (by decide +kernel) ⟨Nat.le_of_ble_eq_true rfl, Nat.le_of_ble_eq_true rfl⟩) ⟨gblind, va_recv hK hP (ci := 6) (q0 := k_6) rfl hk_6, fun U hU hW9 => gmk hU hW9 hP hK hD hex hE hS hFc⟩ rfl rfl hl.1 rfl (lv_room (Nat.le_of_ble_eq_true rfl)) dX7_namesHold_25 ⟨Nat.le_of_ble_eq_true rfl, Nat.le_of_ble_eq_true rfl⟩) hS (fun q _ h => hFc q h) hFc (fun r_22 ws_23 t9 H1 locs ht9 hvm9 hw9 hB9 hz9 hk9 hS => ?_)
        obtain ⟨E_24, Fr_25, hG, hP1, hD1⟩ := hB9
        have hP : va_P (gD g) cl0 ws_23 H1 := by rw [← ht9]; exact hP1
        have hD : va_D A ws_23 := hD1.weaken (fun _ _ _ h => hFc _ h)
        have hz_r_22 : r_22 = 0 ∨ r_22 = 1 := hw9
        clear hP1 hD1 hz9 hk9 hvm9 ht9 hw9
        generalize H1 = H at hP hS ⊢
        have aa_28 := a_r0_6
        have aa_29 := a_r4_6
        have aa_30 := a_r9_6
        have aa_31 := a_r10_6
        have aa_32 := a_r11_6
        have o_h0 := E_24.1 _ _ o_h0
        have J_52 : ∀ (ws_33 : va_W) (H : Heap) (locs : List Loc) (ls : Array Slot), gE ws_23 ws_33 → gF [(6, 2), (6, 3)] [] none ws_23 ws_33 → Good g ws_33 → va_P (gD g) cl0 ws_33 H → va_D A ws_33 → va_S A s.heap H locs → lv_has ls 3 [] → W p l e (headSpec (wt yX7_namesHold cX7_namesHold 3 (some .boolean)) ({ frames := 4, cells := 0, slots := 0, locals := 87 })).room s m ([.ref h0] : List Value).toArray below meth c H locs (0) (0) (MQ below (va_Qi (fun (r : Int32) (u9 : va_W) => r = 0 ∨ r = 1) (gQ1 g [(6, 2), (6, 3)] [] none A ws) A) ([.ref h0] : List Value).toArray s (0) (0) A) (F0 m 52 ls []) := by
          intro ws_33 H locs ls  E_34 Fr_35 hG hP hD hS hl
          have o_h0 := E_34.1 _ _ o_h0
          refine lv_iconst (v := 0) hx hb dX7_namesHold_52 (by decide) ?_
          refine W.widen (k := 0) (n := 0) (Nat.le_of_ble_eq_true rfl) (Nat.le_of_ble_eq_true rfl) ?_
          exact W.zret (v := 0) hx hb hr (nz (Or.inl rfl)) (fun t9 ht9 hW9 => ⟨⟨_, ws_33, rfl, (Or.inl rfl), ⟨(E_4.tr (E_24.tr E_34)), (gF.tr Fr_5 (gF.tr Fr_25 Fr_35)), hG, by rw [ht9]; exact hP, hD⟩⟩, hS.F ht9⟩) hS.2.2 dX7_namesHold_53
        refine lv_if_eq (tgt := 52) hx hb dX7_namesHold_28 (by decide) (fun c_36 => ?_) (fun c_36 => ?_)
        · exact J_52 ws_23 H locs ls (gE.rf) (gF.rf) hG hP hD hS (lv_sub hl [] rfl)
        · refine lv_aload_n hx hb dX7_namesHold_31 rfl (lv_at hl 1 rfl) ?_
          refine lv_iload_n hx hb dX7_namesHold_32 rfl (lv_at hl 0 rfl) ?_
          refine lv_iconst (v := 4) hx hb dX7_namesHold_33 (by decide) ?_
          refine lv_iadd hx hb dX7_namesHold_34 ?_
          refine lv_topi (fun z_37 ez_37 => ?_)
          have hFc := gfree hD hS hA
          obtain ⟨k_38, fs_38, hk_38⟩ := gC_of o_h0
          refine va_calli (va_runV (As := [.int z_37]) (rest := []) ⟨hx, hb, hml, hown, hts⟩ (m_X7_isNameAt l g H.size ws_23 h0 (z_37) hG o_h0) (cwV 1 hts (gd_V kw_1267 kw_1353 kw_1354 kw_710 kw_1352) rfl rfl rfl (by decide +kernel) ⟨Nat.le_of_ble_eq_true rfl, Nat.le_of_ble_eq_true rfl⟩) ⟨gblind, va_recv hK hP (ci := 6) (q0 := k_38) rfl hk_38, fun U hU hW9 => gmk hU hW9 hP hK hD hex hE hS hFc⟩ rfl rfl hl.1 rfl (lv_room (Nat.le_of_ble_eq_true rfl)) dX7_namesHold_35 ⟨Nat.le_of_ble_eq_true rfl, Nat.le_of_ble_eq_true rfl⟩) hS (fun q _ h => hFc q h) hFc (fun r_39 ws_40 t9 H1 locs ht9 hvm9 hw9 hB9 hz9 hk9 hS => ?_)
          obtain ⟨E_41, Fr_42, hG, hP1, hD1⟩ := hB9
          have hP : va_P (gD g) cl0 ws_40 H1 := by rw [← ht9]; exact hP1
          have hD : va_D A ws_40 := hD1.weaken (fun _ _ _ h => hFc _ h)
          have hz_r_39 : r_39 = 0 ∨ r_39 = 1 := hw9
          clear hP1 hD1 hz9 hk9 hvm9 ht9 hw9
          generalize H1 = H at hP hS ⊢
          have o_h0 := E_41.1 _ _ o_h0
          refine lv_if_eq (tgt := 52) hx hb dX7_namesHold_38 (by decide) (fun c_45 => ?_) (fun c_45 => ?_)
          · exact J_52 ws_40 H locs ls (E_41) (Fr_42) hG hP hD hS (lv_sub hl [] rfl)
          · refine lv_aload_n hx hb dX7_namesHold_41 rfl (lv_at hl 1 rfl) ?_
            refine lv_iload_n hx hb dX7_namesHold_42 rfl (lv_at hl 0 rfl) ?_
            refine lv_bipush (v := 6) hx hb dX7_namesHold_43 (by decide) ?_
            refine lv_iadd hx hb dX7_namesHold_45 ?_
            refine lv_topi (fun z_46 ez_46 => ?_)
            have hFc := gfree hD hS hA
            obtain ⟨k_47, fs_47, hk_47⟩ := gC_of o_h0
            refine va_calli (va_runV (As := [.int z_46]) (rest := []) ⟨hx, hb, hml, hown, hts⟩ (m_X7_attributeNamesHold l g H.size ws_40 h0 (z_46) hG o_h0) (cwV 1 hts (gd_V kw_1417 kw_1264 kw_1265 kw_710 kw_1263) rfl rfl rfl (by decide +kernel) ⟨Nat.le_of_ble_eq_true rfl, Nat.le_of_ble_eq_true rfl⟩) ⟨gblind, va_recv hK hP (ci := 6) (q0 := k_47) rfl hk_47, fun U hU hW9 => gmk hU hW9 hP hK hD hex hE hS hFc⟩ rfl rfl hl.1 rfl (lv_room (Nat.le_of_ble_eq_true rfl)) dX7_namesHold_46 ⟨Nat.le_of_ble_eq_true rfl, Nat.le_of_ble_eq_true rfl⟩) hS (fun q _ h => hFc q h) hFc (fun r_48 ws_49 t9 H1 locs ht9 hvm9 hw9 hB9 hz9 hk9 hS => ?_)
            obtain ⟨E_50, Fr_51, hG, hP1, hD1⟩ := hB9
            have hP : va_P (gD g) cl0 ws_49 H1 := by rw [← ht9]; exact hP1
            have hD : va_D A ws_49 := hD1.weaken (fun _ _ _ h => hFc _ h)
            have hz_r_48 : r_48 = 0 ∨ r_48 = 1 := hw9
            clear hP1 hD1 hz9 hk9 hvm9 ht9 hw9
            generalize H1 = H at hP hS ⊢
            have o_h0 := E_50.1 _ _ o_h0
            refine lv_if_ne (tgt := 54) hx hb dX7_namesHold_49 (by decide) (fun c_54 => ?_) (fun c_54 => ?_)
            · obtain ⟨z_55, ez_55⟩ : ∃ z : Int32, v1_1 + Int32.ofInt 1 = z := ⟨_, rfl⟩
              refine lv_iinc (v := z_55) (lv' := [(1, .int z_55), (2, .int r_20), (0, .ref h0)]) hx hb dX7_namesHold_54 hl (k := 2) rfl ez_55 (by decide) rfl (fun ls hl => ?_)
              refine lv_goto (tgt := 2) hx hb dX7_namesHold_57 (by decide) ?_
              exact ih_2 _ (by obtain ⟨u_z_55, q_z_55⟩ := i_iz ez_55 (by decide) (by decide); have q_iv_2 := iv_2; have q_c_8 := i_nle c_8; have g_v1_1 := i_rg v1_1; have g_z_55 := i_rg z_55; have g_z_7 := i_rg z_7; omega) (z_55) ws_49 H locs ls rfl (by obtain ⟨u_z_55, q_z_55⟩ := i_iz ez_55 (by decide) (by decide); have q_iv_2 := iv_2; have q_c_8 := i_nle c_8; have g_v1_1 := i_rg v1_1; have g_z_55 := i_rg z_55; have g_z_7 := i_rg z_7; omega) ((E_4.tr (E_24.tr (E_41.tr E_50)))) ((gF.tr Fr_5 (gF.tr Fr_25 (gF.tr Fr_42 Fr_51)))) hG hP hD hS (lv_sub hl [2, 0] rfl)
            · exact J_52 ws_49 H locs ls ((E_41.tr E_50)) ((gF.tr Fr_42 Fr_51)) hG hP hD hS (lv_sub hl [] rfl)
  exact J_2 _ (0) ws _ _ ls rfl (by have e0 : (0 : Int32).toInt = 0 := (by decide); omega) (gE.rf) (gF.rf) hG hP hD hS (lv_sub hl [1, 0] rfl)
set_option maxHeartbeats 1000000 in
set_option maxRecDepth 100000 in
theorem m_X7_kindOfType (l : Launch) (g : Gm) (sz : Nat) (ws : va_W) (h0 : Nat) (x1 : Int32) (hG : Good g ws) (o_h0 : gC ws h0 6) : Met l yX7_kindOfType (wt yX7_kindOfType cX7_kindOfType 3 (some .int)) ({ frames := 3, cells := 0, slots := 0, locals := 65 }) (va_Pc [.ref h0, .int x1] (st_G g sz ws)) (va_Qi (fun (r : Int32) (u9 : Unit) => True) (gQ0 g (va_A ws sz) ws) (va_A ws sz)) (0) (0) (va_A ws sz) := by
  refine Met.ofW (cc := cX7_kindOfType) (maxL := 3) (ret := (some .int)) (by decide) rfl ?_
  intro p e s m args below meth c s₁ B hml hv
  obtain ⟨rfl, hsz, hP, hK, hD0, hex, hE⟩ := hv
  have hx := B.exec
  have hb := B.bytes
  have hr := B.returns
  have hts0 := atoms_spec (ws := wt yX7_kindOfType cX7_kindOfType 3 (some .int)) B.pre
  have hts : ∀ w ∈ tb, w.before _ s = true := fun w h => hts0 w (List.mem_cons_of_mem _ h)
  have hown : s.vm.findClass RX7 = some m.cls := findClass_of_methodNamed B.named
  subst hsz
  have hD := hD0.self (sz := s.heap.size)
  generalize hAe : va_A ws s.heap.size = A at hD hE ⊢
  have hA : ∀ q : Nat, s.heap.size ≤ q → A q := fun q h => by rw [← hAe]; exact Or.inr h
  have hS : va_S A s.heap s.heap [] := va_S.rf
  have hl := lv_entry ([.ref h0, .int x1]) (n := 3) (Nat.le_of_ble_eq_true rfl)
  rw [lg_entry_eq]
  generalize (lg_sl ([.ref h0, .int x1]) ++ List.replicate (3 - (lg_sl ([.ref h0, .int x1])).length) Slot.unset).toArray = ls at hl ⊢
  have hl : lv_has ls 3 [(0, .ref h0), (1, .int x1)] := hl
  refine lv_aload_n hx hb dX7_kindOfType_0 rfl (lv_at hl 0 rfl) ?_
  refine lv_iload_n hx hb dX7_kindOfType_1 rfl (lv_at hl 1 rfl) ?_
  refine lv_iconst (v := 0) hx hb dX7_kindOfType_2 (by decide) ?_
  have hFc := gfree hD hS hA
  obtain ⟨k_1, fs_1, hk_1⟩ := gC_of o_h0
  refine va_calli (va_runV (As := [.int x1, .int 0]) (rest := []) ⟨hx, hb, hml, hown, hts⟩ (m_X7_kindOfPart l g s.heap.size ws h0 (x1) (0) hG o_h0) (cwV 2 hts (gd_V kw_1351 kw_1385 kw_1386 kw_710 kw_1384) rfl rfl rfl (by decide +kernel) ⟨Nat.le_of_ble_eq_true rfl, Nat.le_of_ble_eq_true rfl⟩) ⟨gblind, va_recv hK hP (ci := 6) (q0 := k_1) rfl hk_1, fun U hU hW9 => gmk hU hW9 hP hK hD hex hE hS hFc⟩ rfl rfl hl.1 rfl (lv_room (Nat.le_of_ble_eq_true rfl)) dX7_kindOfType_3 ⟨Nat.le_of_ble_eq_true rfl, Nat.le_of_ble_eq_true rfl⟩) hS (fun q _ h => hFc q h) hFc (fun r_2 u9 t9 H1 locs ht9 hvm9 hw9 hB9 hz9 hk9 hS => ?_)
  have hP : va_P (gD g) cl0 ws H1 := by rw [← ht9]; exact hB9.1
  have h_r_2 := hw9
  clear hB9 hz9 hk9 hvm9 ht9 hw9
  generalize H1 = H at hP hS ⊢
  refine lv_istore_n (lv' := [(2, .int r_2), (0, .ref h0), (1, .int x1)]) hx hb dX7_kindOfType_6 rfl hl (by decide) rfl (fun ls hl => ?_)
  refine lv_aload_n hx hb dX7_kindOfType_7 rfl (lv_at hl 1 rfl) ?_
  refine lv_iload_n hx hb dX7_kindOfType_8 rfl (lv_at hl 2 rfl) ?_
  have hFc := gfree hD hS hA
  obtain ⟨k_3, fs_3, hk_3⟩ := gC_of o_h0
  refine va_calli (va_runV (As := [.int x1]) (rest := []) ⟨hx, hb, hml, hown, hts⟩ (m_X7_nameLength l g H.size ws h0 (x1) hG o_h0) (cwV 1 hts (gd_V kw_1349 kw_1406 kw_1407 kw_710 kw_1405) rfl rfl rfl (by decide +kernel) ⟨Nat.le_of_ble_eq_true rfl, Nat.le_of_ble_eq_true rfl⟩) ⟨gblind, va_recv hK hP (ci := 6) (q0 := k_3) rfl hk_3, fun U hU hW9 => gmk hU hW9 hP hK hD hex hE hS hFc⟩ rfl rfl hl.1 rfl (lv_room (Nat.le_of_ble_eq_true rfl)) dX7_kindOfType_9 ⟨Nat.le_of_ble_eq_true rfl, Nat.le_of_ble_eq_true rfl⟩) hS (fun q _ h => hFc q h) hFc (fun r_4 u9 t9 H1 locs ht9 hvm9 hw9 hB9 hz9 hk9 hS => ?_)
  have hP : va_P (gD g) cl0 ws H1 := by rw [← ht9]; exact hB9.1
  have h_r_4 := hw9
  clear hB9 hz9 hk9 hvm9 ht9 hw9
  generalize H1 = H at hP hS ⊢
  refine lv_iload_n hx hb dX7_kindOfType_12 rfl (lv_at hl 0 rfl) ?_
  refine lv_iconst (v := 3) hx hb dX7_kindOfType_13 (by decide) ?_
  have J_22 : ∀ (t_5 : Int32) (H : Heap) (locs : List Loc) (ls : Array Slot), 1 ≤ t_5.toInt ∧ t_5.toInt ≤ 2 → va_P (gD g) cl0 ws H → va_D A ws → va_S A s.heap H locs → lv_has ls 3 [(2, .int r_2)] → W p l e (headSpec (wt yX7_kindOfType cX7_kindOfType 3 (some .int)) ({ frames := 3, cells := 0, slots := 0, locals := 65 })).room s m ([.ref h0, .int x1] : List Value).toArray below meth c H locs (0) (0) (MQ below (va_Qi (fun (r : Int32) (u9 : Unit) => True) (gQ0 g A ws) A) ([.ref h0, .int x1] : List Value).toArray s (0) (0) A) (F0 m 22 ls [.int t_5, .int r_4]) := by
    intro t_5 H locs ls iv_6 hP hD hS hl
    have J_30 : ∀ (t_9 : Int32) (H : Heap) (locs : List Loc) (ls : Array Slot), va_P (gD g) cl0 ws H → va_D A ws → va_S A s.heap H locs → lv_has ls 3 [] → W p l e (headSpec (wt yX7_kindOfType cX7_kindOfType 3 (some .int)) ({ frames := 3, cells := 0, slots := 0, locals := 65 })).room s m ([.ref h0, .int x1] : List Value).toArray below meth c H locs (0) (0) (MQ below (va_Qi (fun (r : Int32) (u9 : Unit) => True) (gQ0 g A ws) A) ([.ref h0, .int x1] : List Value).toArray s (0) (0) A) (F0 m 30 ls [.int t_9]) := by
      intro t_9 H locs ls  hP hD hS hl
      refine W.widen (k := 0) (n := 0) (Nat.le_of_ble_eq_true rfl) (Nat.le_of_ble_eq_true rfl) ?_
      exact W.iret (v := t_9) hx hb hr (fun t9 ht9 hW9 => ⟨⟨_, (), rfl, trivial, ⟨by rw [ht9]; exact hP, hD⟩⟩, hS.F ht9⟩) hS.2.2 dX7_kindOfType_30
    refine lv_icmp_ne (tgt := 29) hx hb dX7_kindOfType_22 (by decide) (fun c_12 => ?_) (fun c_12 => ?_)
    · refine lv_iconst (v := 0) hx hb dX7_kindOfType_29 (by decide) ?_
      exact J_30 (0) H locs ls  hP hD hS (lv_sub hl [] rfl)
    · refine lv_iload_n hx hb dX7_kindOfType_25 rfl (lv_at hl 0 rfl) ?_
      refine lv_goto (tgt := 30) hx hb dX7_kindOfType_26 (by decide) ?_
      exact J_30 (r_2) H locs ls  hP hD hS (lv_sub hl [] rfl)
  refine lv_icmp_ne (tgt := 21) hx hb dX7_kindOfType_14 (by decide) (fun c_13 => ?_) (fun c_13 => ?_)
  · refine lv_iconst (v := 1) hx hb dX7_kindOfType_21 (by decide) ?_
    exact J_22 (1) H locs ls (by have e1 : (1 : Int32).toInt = 1 := (by decide); have g_x1 := i_rg x1; omega) hP hD hS (lv_sub hl [0] rfl)
  · refine lv_iconst (v := 2) hx hb dX7_kindOfType_17 (by decide) ?_
    refine lv_goto (tgt := 22) hx hb dX7_kindOfType_18 (by decide) ?_
    exact J_22 (2) H locs ls (by have e2 : (2 : Int32).toInt = 2 := (by decide); have g_x1 := i_rg x1; omega) hP hD hS (lv_sub hl [0] rfl)
set_option maxHeartbeats 1000000 in
set_option maxRecDepth 100000 in
theorem m_X7_poolFits (l : Launch) (g : Gm) (sz : Nat) (ws : va_W) (h0 : Nat) (hG : Good g ws) (o_h0 : gC ws h0 6) : Met l yX7_poolFits (wt yX7_poolFits cX7_poolFits 2 (some .boolean)) ({ frames := 4, cells := 0, slots := 0, locals := 86 }) (va_Pc [.ref h0] (st_G g sz ws)) (va_Qi (fun (r : Int32) (u9 : va_W) => r = 0 ∨ r = 1) (gQ1 g [(6, 2), (6, 3), (6, 5), (6, 15)] [(6, 4)] none (va_A ws sz) ws) (va_A ws sz)) (0) (0) (va_A ws sz) := by
  refine Met.ofW (cc := cX7_poolFits) (maxL := 2) (ret := (some .boolean)) (by decide) rfl ?_
  intro p e s m args below meth c s₁ B hml hv
  obtain ⟨rfl, hsz, hP, hK, hD0, hex, hE⟩ := hv
  have hx := B.exec
  have hb := B.bytes
  have hr := B.returns
  have hts0 := atoms_spec (ws := wt yX7_poolFits cX7_poolFits 2 (some .boolean)) B.pre
  have hts : ∀ w ∈ tb, w.before _ s = true := fun w h => hts0 w (List.mem_cons_of_mem _ h)
  have hown : s.vm.findClass RX7 = some m.cls := findClass_of_methodNamed B.named
  subst hsz
  have hD := hD0.self (sz := s.heap.size)
  generalize hAe : va_A ws s.heap.size = A at hD hE ⊢
  have hA : ∀ q : Nat, s.heap.size ≤ q → A q := fun q h => by rw [← hAe]; exact Or.inr h
  have hS : va_S A s.heap s.heap [] := va_S.rf
  have hl := lv_entry ([.ref h0]) (n := 2) (Nat.le_of_ble_eq_true rfl)
  rw [lg_entry_eq]
  generalize (lg_sl ([.ref h0]) ++ List.replicate (2 - (lg_sl ([.ref h0])).length) Slot.unset).toArray = ls at hl ⊢
  have hl : lv_has ls 2 [(0, .ref h0)] := hl
  refine lv_aload_n hx hb dX7_poolFits_0 rfl (lv_at hl 0 rfl) ?_
  refine lv_iconst (v := 2) hx hb dX7_poolFits_1 (by decide) ?_
  have hFc := gfree hD hS hA
  obtain ⟨k_1, fs_1, hk_1⟩ := gC_of o_h0
  refine va_calli (va_runV (As := [.int 2]) (rest := []) ⟨hx, hb, hml, hown, hts⟩ (m_X7_isThere l g s.heap.size ws h0 (2) hG o_h0) (cwV 1 hts (gd_V kw_1272 kw_1382 kw_1383 kw_710 kw_1381) rfl rfl rfl (by decide +kernel) ⟨Nat.le_of_ble_eq_true rfl, Nat.le_of_ble_eq_true rfl⟩) ⟨gblind, va_recv hK hP (ci := 6) (q0 := k_1) rfl hk_1, fun U hU hW9 => gmk hU hW9 hP hK hD hex hE hS hFc⟩ rfl rfl hl.1 rfl (lv_room (Nat.le_of_ble_eq_true rfl)) dX7_poolFits_2 ⟨Nat.le_of_ble_eq_true rfl, Nat.le_of_ble_eq_true rfl⟩) hS (fun q _ h => hFc q h) hFc (fun r_2 ws_3 t9 H1 locs ht9 hvm9 hw9 hB9 hz9 hk9 hS => ?_)
  obtain ⟨E_4, Fr_5, hG, hP1, hD1⟩ := hB9
  have hP : va_P (gD g) cl0 ws_3 H1 := by rw [← ht9]; exact hP1
  have hD : va_D A ws_3 := hD1.weaken (fun _ _ _ h => hFc _ h)
  have hz_r_2 : r_2 = 0 ∨ r_2 = 1 := hw9
  clear hP1 hD1 hz9 hk9 hvm9 ht9 hw9
  generalize H1 = H at hP hS ⊢
  have o_h0 := E_4.1 _ _ o_h0
  refine lv_if_ne (tgt := 10) hx hb dX7_poolFits_5 (by decide) (fun c_8 => ?_) (fun c_8 => ?_)
  · refine lv_aload_n hx hb dX7_poolFits_10 rfl (lv_at hl 0 rfl) ?_
    refine lv_aload_n hx hb dX7_poolFits_11 rfl (lv_at hl 0 rfl) ?_
    refine lv_aload_n hx hb dX7_poolFits_12 rfl (lv_at hl 0 rfl) ?_
    obtain ⟨k_9, fs9, hk_9⟩ := gC_of o_h0
    obtain ⟨r0_9, n0_9, c1_9, c2_9, c3_9, r4_9, n4_9, c5_9, c6_9, c7_9, c8_9, r9_9, n9_9, r10_9, n10_9, r11_9, n11_9, c12_9, c13_9, c14_9, c15_9, c16_9, rfl, a_r0_9, f1_9, a_r4_9, f3_9, a_r9_9, f5_9, a_r10_9, f7_9, a_r11_9, f9_9, f10_9, f11_9, f12_9, f13_9, f14_9, -⟩ := (hG.1 _ _ _ _ hk_9).hX7 rfl
    refine va_get (D := gD g) (ci := 6) (v := .int c15_9) (C := RX7) (T := TX7) (N := 17) hx hb hts inX7 hown hK hP k_9 hk_9 rfl 15 (by decide) (hts _ kw_1273) (fun _ h9 => h9) rfl dX7_poolFits_13 ?_
    have hFc := gfree hD hS hA
    refine va_calli (va_runV (As := [.int c15_9]) (rest := [.ref h0]) ⟨hx, hb, hml, hown, hts⟩ (m_X7_u2 l g H.size ws_3 h0 (c15_9) hG o_h0) (cwV 1 hts (gd_V kw_1266 kw_1450 kw_1451 kw_710 kw_1449) rfl rfl rfl (by decide +kernel) ⟨Nat.le_of_ble_eq_true rfl, Nat.le_of_ble_eq_true rfl⟩) ⟨gblind, va_recv hK hP (ci := 6) (q0 := k_9) rfl hk_9, fun U hU hW9 => gmk hU hW9 hP hK hD hex hE hS hFc⟩ rfl rfl hl.1 rfl (lv_room (Nat.le_of_ble_eq_true rfl)) dX7_poolFits_16 ⟨Nat.le_of_ble_eq_true rfl, Nat.le_of_ble_eq_true rfl⟩) hS (fun q _ h => hFc q h) hFc (fun r_10 u9 t9 H1 locs ht9 hvm9 hw9 hB9 hz9 hk9 hS => ?_)
    have hP : va_P (gD g) cl0 ws_3 H1 := by rw [← ht9]; exact hB9.1
    have h_r_10 := hw9
    clear hB9 hz9 hk9 hvm9 ht9 hw9
    generalize H1 = H at hP hS ⊢
    have hV9 : okv ws_3 6 5 (.int r_10) := okv_i
    refine va_put (D := gD g) (ci := 6) (v := .int r_10) (ty := .int) (C := RX7) (T := TX7) (N := 17) hx hb hts inX7 tyX7 tyX7_ok nmX7 hown hK hP hD hS k_9 hk_9 rfl 5 (by decide) (hts _ kw_1294) (fun _ h9 => h9) rfl (by decide +kernel) rfl rfl (Nat.le_of_ble_eq_true rfl) dX7_poolFits_19 (fun H locs hP hD hS => ?_)
    have hi_11 : invX7 g ws_3 h0 [.ref r0_9, .int c1_9, .int c2_9, .int c3_9, .ref r4_9, .int r_10, .int c6_9, .int c7_9, .int c8_9, .ref r9_9, .ref r10_9, .ref r11_9, .int c12_9, .int c13_9, .int c14_9, .int c15_9, .int c16_9] := ⟨r0_9, (n0_9), (c1_9), (c2_9), (c3_9), r4_9, (n4_9), (r_10), (c6_9), (c7_9), (c8_9), r9_9, (n9_9), r10_9, (n10_9), r11_9, (n11_9), (c12_9), (c13_9), (c14_9), (c15_9), (c16_9), rfl, a_r0_9, f1_9, a_r4_9, f3_9, a_r9_9, f5_9, a_r10_9, f7_9, a_r11_9, f9_9, f10_9, f11_9, f12_9, f13_9, f14_9, trivial⟩
    obtain ⟨ws_12, e_ws_12⟩ : ∃ z, z = ws_3.set k_9 (h0, .inr (6, [.ref r0_9, .int c1_9, .int c2_9, .int c3_9, .ref r4_9, .int r_10, .int c6_9, .int c7_9, .int c8_9, .ref r9_9, .ref r10_9, .ref r11_9, .int c12_9, .int c13_9, .int c14_9, .int c15_9, .int c16_9])) := ⟨_, rfl⟩
    have hP : va_P (gD g) cl0 ws_12 H := by rw [e_ws_12]; exact hP
    have hD : va_D A ws_12 := by rw [e_ws_12]; exact hD
    have E_13 : gE ws_3 ws_12 := gE_set e_ws_12 hk_9 (cw_o (fi := 5) (v := .int r_10) rfl (by decide))
    have hG : Good g ws_12 := Good_set (fi := 5) (v := .int r_10) e_ws_12 hk_9 E_13 rfl hV9 hG (ivX7 hi_11)
    have Fr_14 : gF [(6, 5)] [] (some h0) ws_3 ws_12 := gF_put (fi := 5) (v := .int r_10) e_ws_12 hk_9 rfl (by decide)
    have hkN := gset_self e_ws_12 hk_9
    have hk_9 := hkN
    have o_h0 := E_13.1 _ _ o_h0
    have a_r0_9 := E_13.1 _ _ a_r0_9
    have a_r4_9 := E_13.1 _ _ a_r4_9
    have a_r9_9 := E_13.1 _ _ a_r9_9
    have a_r10_9 := E_13.1 _ _ a_r10_9
    have a_r11_9 := E_13.1 _ _ a_r11_9
    refine lv_aload_n hx hb dX7_poolFits_22 rfl (lv_at hl 0 rfl) ?_
    refine va_get (D := gD g) (ci := 6) (v := .int r_10) (C := RX7) (T := TX7) (N := 17) hx hb hts inX7 hown hK hP k_9 hk_9 rfl 5 (by decide) (hts _ kw_1294) (fun _ h9 => h9) rfl dX7_poolFits_23 ?_
    refine lv_iconst (v := 1) hx hb dX7_poolFits_26 (by decide) ?_
    have J_40 : ∀  (H : Heap) (locs : List Loc) (ls : Array Slot), va_P (gD g) cl0 ws_12 H → va_D A ws_12 → va_S A s.heap H locs → lv_has ls 2 [(0, .ref h0)] → W p l e (headSpec (wt yX7_poolFits cX7_poolFits 2 (some .boolean)) ({ frames := 4, cells := 0, slots := 0, locals := 86 })).room s m ([.ref h0] : List Value).toArray below meth c H locs (0) (0) (MQ below (va_Qi (fun (r : Int32) (u9 : va_W) => r = 0 ∨ r = 1) (gQ1 g [(6, 2), (6, 3), (6, 5), (6, 15)] [(6, 4)] none A ws) A) ([.ref h0] : List Value).toArray s (0) (0) A) (F0 m 40 ls []) := by
      intro  H locs ls  hP hD hS hl
      refine lv_aload_n hx hb dX7_poolFits_40 rfl (lv_at hl 0 rfl) ?_
      refine lv_iconst (v := 5) hx hb dX7_poolFits_41 (by decide) ?_
      refine lv_aload_n hx hb dX7_poolFits_42 rfl (lv_at hl 0 rfl) ?_
      refine va_get (D := gD g) (ci := 6) (v := .int c15_9) (C := RX7) (T := TX7) (N := 17) hx hb hts inX7 hown hK hP k_9 hk_9 rfl 15 (by decide) (hts _ kw_1273) (fun _ h9 => h9) rfl dX7_poolFits_43 ?_
      have hFc := gfree hD hS hA
      refine va_calli (va_runV (As := [.int 5, .int c15_9]) (rest := []) ⟨hx, hb, hml, hown, hts⟩ (m_X7_breaks l g H.size ws_12 h0 (5) (c15_9) hG o_h0) (cwV 2 hts (gd_V kw_1276 kw_1278 kw_1279 kw_710 kw_1277) rfl rfl rfl (by decide +kernel) ⟨Nat.le_of_ble_eq_true rfl, Nat.le_of_ble_eq_true rfl⟩) ⟨gblind, va_recv hK hP (ci := 6) (q0 := k_9) rfl hk_9, fun U hU hW9 => gmk hU hW9 hP hK hD hex hE hS hFc⟩ rfl rfl hl.1 rfl (lv_room (Nat.le_of_ble_eq_true rfl)) dX7_poolFits_46 ⟨Nat.le_of_ble_eq_true rfl, Nat.le_of_ble_eq_true rfl⟩) hS (fun q _ h => hFc q h) hFc (fun r_17 ws_18 t9 H1 locs ht9 hvm9 hw9 hB9 hz9 hk9 hS => ?_)
      obtain ⟨E_19, Fr_20, hG, hP1, hD1⟩ := hB9
      have hP : va_P (gD g) cl0 ws_18 H1 := by rw [← ht9]; exact hP1
      have hD : va_D A ws_18 := hD1.weaken (fun _ _ _ h => hFc _ h)
      have hz_r_17 : r_17 = 0 ∨ r_17 = 1 := hw9
      clear hP1 hD1 hz9 hk9 hvm9 ht9 hw9
      generalize H1 = H at hP hS ⊢
      have aa_23 := a_r0_9
      have aa_24 := a_r4_9
      have aa_25 := a_r9_9
      have aa_26 := a_r10_9
      have aa_27 := a_r11_9
      have o_h0 := E_19.1 _ _ o_h0
      refine W.widen (k := 0) (n := 0) (Nat.le_of_ble_eq_true rfl) (Nat.le_of_ble_eq_true rfl) ?_
      exact W.zret (v := r_17) hx hb hr (nz hz_r_17) (fun t9 ht9 hW9 => ⟨⟨_, ws_18, rfl, hz_r_17, ⟨(E_4.tr (E_13.tr E_19)), (gF.tr (gF.mo (F' := [(6, 2), (6, 3), (6, 5), (6, 15)]) (C' := [(6, 4)]) (S' := none) Fr_5 (by decide) (fun _ h => absurd h List.not_mem_nil) (Or.inr rfl)) (gF.tr (gF.mo (F' := [(6, 2), (6, 3), (6, 5), (6, 15)]) (C' := [(6, 4)]) (S' := none) Fr_14 (by decide) (fun _ h => absurd h List.not_mem_nil) (Or.inl rfl)) (gF.mo (F' := [(6, 2), (6, 3), (6, 5), (6, 15)]) (C' := [(6, 4)]) (S' := none) Fr_20 (by decide) (fun _ h => absurd h List.not_mem_nil) (Or.inr rfl)))), hG, by rw [ht9]; exact hP, hD⟩⟩, hS.F ht9⟩) hS.2.2 dX7_poolFits_49
    refine lv_icmp_lt (tgt := 40) hx hb dX7_poolFits_27 (by decide) (fun c_28 => ?_) (fun c_28 => ?_)
    · exact J_40  H locs ls  hP hD hS (lv_sub hl [0] rfl)
    · refine lv_aload_n hx hb dX7_poolFits_30 rfl (lv_at hl 0 rfl) ?_
      refine va_get (D := gD g) (ci := 6) (v := .int r_10) (C := RX7) (T := TX7) (N := 17) hx hb hts inX7 hown hK hP k_9 hk_9 rfl 5 (by decide) (hts _ kw_1294) (fun _ h9 => h9) rfl dX7_poolFits_31 ?_
      refine lv_sipush (v := 500) hx hb dX7_poolFits_34 (by decide) ?_
      refine lv_icmp_le (tgt := 50) hx hb dX7_poolFits_37 (by decide) (fun c_29 => ?_) (fun c_29 => ?_)
      · refine lv_aload_n hx hb dX7_poolFits_50 rfl (lv_at hl 0 rfl) ?_
        refine lv_dup hx hb dX7_poolFits_51 rfl ?_
        refine va_get (D := gD g) (ci := 6) (v := .int c15_9) (C := RX7) (T := TX7) (N := 17) hx hb hts inX7 hown hK hP k_9 hk_9 rfl 15 (by decide) (hts _ kw_1273) (fun _ h9 => h9) rfl dX7_poolFits_52 ?_
        refine lv_iconst (v := 2) hx hb dX7_poolFits_55 (by decide) ?_
        refine lv_iadd hx hb dX7_poolFits_56 ?_
        refine lv_topi (fun z_30 ez_30 => ?_)
        have hV9 : okv ws_12 6 15 (.int z_30) := okv_i
        refine va_put (D := gD g) (ci := 6) (v := .int z_30) (ty := .int) (C := RX7) (T := TX7) (N := 17) hx hb hts inX7 tyX7 tyX7_ok nmX7 hown hK hP hD hS k_9 hk_9 rfl 15 (by decide) (hts _ kw_1273) (fun _ h9 => h9) rfl (by decide +kernel) rfl rfl (Nat.le_of_ble_eq_true rfl) dX7_poolFits_57 (fun H locs hP hD hS => ?_)
        have hi_31 : invX7 g ws_12 h0 [.ref r0_9, .int c1_9, .int c2_9, .int c3_9, .ref r4_9, .int r_10, .int c6_9, .int c7_9, .int c8_9, .ref r9_9, .ref r10_9, .ref r11_9, .int c12_9, .int c13_9, .int c14_9, .int z_30, .int c16_9] := ⟨r0_9, (n0_9), (c1_9), (c2_9), (c3_9), r4_9, (n4_9), (r_10), (c6_9), (c7_9), (c8_9), r9_9, (n9_9), r10_9, (n10_9), r11_9, (n11_9), (c12_9), (c13_9), (c14_9), (z_30), (c16_9), rfl, a_r0_9, f1_9, a_r4_9, f3_9, a_r9_9, f5_9, a_r10_9, f7_9, a_r11_9, f9_9, f10_9, f11_9, f12_9, f13_9, f14_9, trivial⟩
        obtain ⟨ws_32, e_ws_32⟩ : ∃ z, z = ws_12.set k_9 (h0, .inr (6, [.ref r0_9, .int c1_9, .int c2_9, .int c3_9, .ref r4_9, .int r_10, .int c6_9, .int c7_9, .int c8_9, .ref r9_9, .ref r10_9, .ref r11_9, .int c12_9, .int c13_9, .int c14_9, .int z_30, .int c16_9])) := ⟨_, rfl⟩
        have hP : va_P (gD g) cl0 ws_32 H := by rw [e_ws_32]; exact hP
        have hD : va_D A ws_32 := by rw [e_ws_32]; exact hD
        have E_33 : gE ws_12 ws_32 := gE_set e_ws_32 hk_9 (cw_o (fi := 15) (v := .int z_30) rfl (by decide))
        have hG : Good g ws_32 := Good_set (fi := 15) (v := .int z_30) e_ws_32 hk_9 E_33 rfl hV9 hG (ivX7 hi_31)
        have Fr_34 : gF [(6, 15)] [] (some h0) ws_12 ws_32 := gF_put (fi := 15) (v := .int z_30) e_ws_32 hk_9 rfl (by decide)
        have hkN := gset_self e_ws_32 hk_9
        have hk_9 := hkN
        have o_h0 := E_33.1 _ _ o_h0
        have a_r0_9 := E_33.1 _ _ a_r0_9
        have a_r4_9 := E_33.1 _ _ a_r4_9
        have a_r9_9 := E_33.1 _ _ a_r9_9
        have a_r10_9 := E_33.1 _ _ a_r10_9
        have a_r11_9 := E_33.1 _ _ a_r11_9
        refine lv_aload_n hx hb dX7_poolFits_60 rfl (lv_at hl 0 rfl) ?_
        refine va_get (D := gD g) (ci := 6) (v := .ref r4_9) (C := RX7) (T := TX7) (N := 17) hx hb hts inX7 hown hK hP k_9 hk_9 rfl 4 (by decide) (hts _ kw_1300) (fun _ h9 => h9) rfl dX7_poolFits_61 ?_
        refine lv_iconst (v := 0) hx hb dX7_poolFits_64 (by decide) ?_
        have hFc := gfree hD hS hA
        refine va_callv (va_runS (As := [.ref r4_9, .int 0]) (rest := []) ⟨hx, hb, hml, hown, hts⟩ (m_J7_fill_53178 l g H.size ws_32 r4_9 (n4_9) (0) [(6, 4)] hG a_r4_9 f3_9 (hol_u hG.u hk_9 (j := 4) rfl a_r4_9 (by decide))) (va_cwS 2 hts (gd_S kw_1426 kw_1722 kw_1723 kw_1721) rfl rfl rfl (by decide +kernel) ⟨Nat.le_of_ble_eq_true rfl, Nat.le_of_ble_eq_true rfl⟩) ⟨gblind, fun U hU hW9 => gmk hU hW9 hP hK hD hex hE hS hFc⟩ rfl rfl hl.1 rfl (lv_room (Nat.le_of_ble_eq_true rfl)) dX7_poolFits_65 ⟨Nat.le_of_ble_eq_true rfl, Nat.le_of_ble_eq_true rfl⟩) hS (fun q _ h => hFc q h) hFc (fun  ws_35 t9 H1 locs ht9 hvm9 hw9 hB9 hz9 hk9 hS => ?_)
        obtain ⟨E_36, Fr_37, hG, hP1, hD1⟩ := hB9
        have hP : va_P (gD g) cl0 ws_35 H1 := by rw [← ht9]; exact hP1
        have hD : va_D A ws_35 := hD1.weaken (fun _ _ _ h => hFc _ h)
        clear hP1 hD1 hz9 hk9 hvm9 ht9 hw9
        generalize H1 = H at hP hS ⊢
        have aa_40 := a_r0_9
        have aa_41 := a_r4_9
        have aa_42 := a_r9_9
        have aa_43 := a_r10_9
        have aa_44 := a_r11_9
        have o_h0 := E_36.1 _ _ o_h0
        refine lv_iconst (v := 1) hx hb dX7_poolFits_68 (by decide) ?_
        refine lv_istore_n (lv' := [(1, .int 1), (0, .ref h0)]) hx hb dX7_poolFits_69 rfl hl (by decide) rfl (fun ls hl => ?_)
        have J_70 : ∀ (n9 : Nat) (v1_45 : Int32) (ws_47 : va_W) (H : Heap) (locs : List Loc) (ls : Array Slot), (2147483647 - v1_45.toInt).toNat = n9 → 0 ≤ v1_45.toInt → gE ws_35 ws_47 → gF [(6, 2), (6, 3), (6, 15)] [(6, 4)] none ws_35 ws_47 → Good g ws_47 → va_P (gD g) cl0 ws_47 H → va_D A ws_47 → va_S A s.heap H locs → lv_has ls 2 [(0, .ref h0), (1, .int v1_45)] → W p l e (headSpec (wt yX7_poolFits cX7_poolFits 2 (some .boolean)) ({ frames := 4, cells := 0, slots := 0, locals := 86 })).room s m ([.ref h0] : List Value).toArray below meth c H locs (0) (0) (MQ below (va_Qi (fun (r : Int32) (u9 : va_W) => r = 0 ∨ r = 1) (gQ1 g [(6, 2), (6, 3), (6, 5), (6, 15)] [(6, 4)] none A ws) A) ([.ref h0] : List Value).toArray s (0) (0) A) (F0 m 70 ls []) := by
          intro n9
          induction n9 using Nat.strongRecOn with
          | ind n9 ih_70 =>
            intro v1_45 ws_47 H locs ls hm9 iv_46 E_48 Fr_49 hG hP hD hS hl
            subst hm9
            have o_h0 := E_48.1 _ _ o_h0
            refine lv_iload_n hx hb dX7_poolFits_70 rfl (lv_at hl 1 rfl) ?_
            refine lv_aload_n hx hb dX7_poolFits_71 rfl (lv_at hl 0 rfl) ?_
            obtain ⟨fs9, hk_50, hq_50⟩ := ((gA.tr (gF.a (F' := [(6, 2), (6, 3), (6, 15)]) Fr_37 (fun _ h => absurd h List.not_mem_nil)) (gF.a (F' := [(6, 2), (6, 3), (6, 15)]) Fr_49 (fun _ h => h)))) _ _ _ hk_9
            obtain ⟨r0_50, n0_50, c1_50, c2_50, c3_50, r4_50, n4_50, c5_50, c6_50, c7_50, c8_50, r9_50, n9_50, r10_50, n10_50, r11_50, n11_50, c12_50, c13_50, c14_50, c15_50, c16_50, rfl, a_r0_50, f1_50, a_r4_50, f3_50, a_r9_50, f5_50, a_r10_50, f7_50, a_r11_50, f9_50, f10_50, f11_50, f12_50, f13_50, f14_50, -⟩ := (hG.1 _ _ _ _ hk_50).hX7 rfl
            obtain rfl := fe_r (hq_50 4 (by decide))
            have hn9 := gI_n hD (((E_36.tr E_48)).1 _ _ aa_41) a_r4_50
            subst hn9
            have a_r4_9 := a_r4_50
            obtain rfl := fe_i (hq_50 5 (by decide))
            refine va_get (D := gD g) (ci := 6) (v := .int r_10) (C := RX7) (T := TX7) (N := 17) hx hb hts inX7 hown hK hP k_9 hk_50 rfl 5 (by decide) (hts _ kw_1294) (fun _ h9 => h9) rfl dX7_poolFits_72 ?_
            have J_153 : ∀  (H : Heap) (locs : List Loc) (ls : Array Slot), va_P (gD g) cl0 ws_47 H → va_D A ws_47 → va_S A s.heap H locs → lv_has ls 2 [] → W p l e (headSpec (wt yX7_poolFits cX7_poolFits 2 (some .boolean)) ({ frames := 4, cells := 0, slots := 0, locals := 86 })).room s m ([.ref h0] : List Value).toArray below meth c H locs (0) (0) (MQ below (va_Qi (fun (r : Int32) (u9 : va_W) => r = 0 ∨ r = 1) (gQ1 g [(6, 2), (6, 3), (6, 5), (6, 15)] [(6, 4)] none A ws) A) ([.ref h0] : List Value).toArray s (0) (0) A) (F0 m 153 ls []) := by
              intro  H locs ls  hP hD hS hl
              refine lv_iconst (v := 1) hx hb dX7_poolFits_153 (by decide) ?_
              refine W.widen (k := 0) (n := 0) (Nat.le_of_ble_eq_true rfl) (Nat.le_of_ble_eq_true rfl) ?_
              exact W.zret (v := 1) hx hb hr (nz (Or.inr rfl)) (fun t9 ht9 hW9 => ⟨⟨_, ws_47, rfl, (Or.inr rfl), ⟨(E_4.tr (E_13.tr (E_33.tr (E_36.tr E_48)))), (gF.tr (gF.mo (F' := [(6, 2), (6, 3), (6, 5), (6, 15)]) (C' := [(6, 4)]) (S' := none) Fr_5 (by decide) (fun _ h => absurd h List.not_mem_nil) (Or.inr rfl)) (gF.tr (gF.mo (F' := [(6, 2), (6, 3), (6, 5), (6, 15)]) (C' := [(6, 4)]) (S' := none) Fr_14 (by decide) (fun _ h => absurd h List.not_mem_nil) (Or.inl rfl)) (gF.tr (gF.mo (F' := [(6, 2), (6, 3), (6, 5), (6, 15)]) (C' := [(6, 4)]) (S' := none) Fr_34 (by decide) (fun _ h => absurd h List.not_mem_nil) (Or.inl rfl)) (gF.tr (gF.mo (F' := [(6, 2), (6, 3), (6, 5), (6, 15)]) (C' := [(6, 4)]) (S' := none) Fr_37 (fun _ h => absurd h List.not_mem_nil) (fun _ h => h) (Or.inr rfl)) (gF.mo (F' := [(6, 2), (6, 3), (6, 5), (6, 15)]) (C' := [(6, 4)]) (S' := none) Fr_49 (by decide) (fun _ h => h) (Or.inr rfl)))))), hG, by rw [ht9]; exact hP, hD⟩⟩, hS.F ht9⟩) hS.2.2 dX7_poolFits_154
            refine lv_icmp_ge (tgt := 153) hx hb dX7_poolFits_75 (by decide) (fun c_53 => ?_) (fun c_53 => ?_)
            · exact J_153  H locs ls  hP hD hS (lv_sub hl [] rfl)
            · refine lv_iload_n hx hb dX7_poolFits_78 rfl (lv_at hl 1 rfl) ?_
              refine lv_aload_n hx hb dX7_poolFits_79 rfl (lv_at hl 0 rfl) ?_
              refine va_get (D := gD g) (ci := 6) (v := .ref r4_9) (C := RX7) (T := TX7) (N := 17) hx hb hts inX7 hown hK hP k_9 hk_50 rfl 4 (by decide) (hts _ kw_1300) (fun _ h9 => h9) rfl dX7_poolFits_80 ?_
              obtain ⟨k_54, f_54, hk_54⟩ := gI_of a_r4_9
              obtain ⟨z_55, ez_55⟩ : ∃ z : Int32, Int32.ofNat n4_9 = z := ⟨_, rfl⟩
              refine va_alen (v := z_55) hx hb hK hP k_54 1 hk_54 rfl ez_55 dX7_poolFits_83 ?_
              refine lv_icmp_ge (tgt := 153) hx hb dX7_poolFits_84 (by decide) (fun c_56 => ?_) (fun c_56 => ?_)
              · exact J_153  H locs ls  hP hD hS (lv_sub hl [] rfl)
              · refine lv_aload_n hx hb dX7_poolFits_87 rfl (lv_at hl 0 rfl) ?_
                have hFc := gfree hD hS hA
                refine va_calli (va_runV (As := []) (rest := []) ⟨hx, hb, hml, hown, hts⟩ (m_X7_entryFits l g H.size ws_47 h0 hG o_h0) (cwV 0 hts (gd_V kw_1427 kw_1302 kw_1303 kw_710 kw_1301) rfl rfl rfl (by decide +kernel) ⟨Nat.le_of_ble_eq_true rfl, Nat.le_of_ble_eq_true rfl⟩) ⟨gblind, va_recv hK hP (ci := 6) (q0 := k_9) rfl hk_50, fun U hU hW9 => gmk hU hW9 hP hK hD hex hE hS hFc⟩ rfl rfl hl.1 rfl (lv_room (Nat.le_of_ble_eq_true rfl)) dX7_poolFits_88 ⟨Nat.le_of_ble_eq_true rfl, Nat.le_of_ble_eq_true rfl⟩) hS (fun q _ h => hFc q h) hFc (fun r_57 ws_58 t9 H1 locs ht9 hvm9 hw9 hB9 hz9 hk9 hS => ?_)
                obtain ⟨E_59, Fr_60, hG, hP1, hD1⟩ := hB9
                have hP : va_P (gD g) cl0 ws_58 H1 := by rw [← ht9]; exact hP1
                have hD : va_D A ws_58 := hD1.weaken (fun _ _ _ h => hFc _ h)
                have hz_r_57 : r_57 = 0 ∨ r_57 = 1 := hw9
                clear hP1 hD1 hz9 hk9 hvm9 ht9 hw9
                generalize H1 = H at hP hS ⊢
                have aa_63 := a_r0_50
                have aa_64 := a_r4_9
                have aa_65 := a_r9_50
                have aa_66 := a_r10_50
                have aa_67 := a_r11_50
                have o_h0 := E_59.1 _ _ o_h0
                refine lv_if_ne (tgt := 96) hx hb dX7_poolFits_91 (by decide) (fun c_68 => ?_) (fun c_68 => ?_)
                · refine lv_aload_n hx hb dX7_poolFits_96 rfl (lv_at hl 0 rfl) ?_
                  obtain ⟨fs9, hk_69, hq_69⟩ := ((gF.a (F' := [(6, 2), (6, 3)]) Fr_60 (fun _ h => h))) _ _ _ hk_50
                  obtain ⟨r0_69, n0_69, c1_69, c2_69, c3_69, r4_69, n4_69, c5_69, c6_69, c7_69, c8_69, r9_69, n9_69, r10_69, n10_69, r11_69, n11_69, c12_69, c13_69, c14_69, c15_69, c16_69, rfl, a_r0_69, f1_69, a_r4_69, f3_69, a_r9_69, f5_69, a_r10_69, f7_69, a_r11_69, f9_69, f10_69, f11_69, f12_69, f13_69, f14_69, -⟩ := (hG.1 _ _ _ _ hk_69).hX7 rfl
                  obtain rfl := fe_r (hq_69 4 (by decide))
                  have hn9 := gI_n hD ((E_59).1 _ _ aa_64) a_r4_69
                  subst hn9
                  have a_r4_9 := a_r4_69
                  obtain rfl := fe_i (hq_69 5 (by decide))
                  obtain rfl := fe_i (hq_69 15 (by decide))
                  refine va_get (D := gD g) (ci := 6) (v := .ref r4_9) (C := RX7) (T := TX7) (N := 17) hx hb hts inX7 hown hK hP k_9 hk_69 rfl 4 (by decide) (hts _ kw_1300) (fun _ h9 => h9) rfl dX7_poolFits_97 ?_
                  refine lv_iload_n hx hb dX7_poolFits_100 rfl (lv_at hl 1 rfl) ?_
                  refine lv_aload_n hx hb dX7_poolFits_101 rfl (lv_at hl 0 rfl) ?_
                  refine va_get (D := gD g) (ci := 6) (v := .int c15_50) (C := RX7) (T := TX7) (N := 17) hx hb hts inX7 hown hK hP k_9 hk_69 rfl 15 (by decide) (hts _ kw_1273) (fun _ h9 => h9) rfl dX7_poolFits_102 ?_
                  obtain ⟨k_70, f_70, hk_70⟩ := gI_of a_r4_9
                  have hC9 : hol ws_58 r4_9 [(6, 4)] := (hol_u hG.u hk_69 (j := 4) rfl a_r4_9 (by decide))
                  have hS9 : holS ws_58 r4_9 none := holS_n
                  refine va_iast hx hb hK hP hD hS k_70 1 hk_70 rfl (i_in2 (by have e1 : (1 : Int32).toInt = 1 := (by decide); have e500 : (500 : Int32).toInt = 500 := (by decide); have q_f3_9 := f3_9; have q_f11_9 := f11_9; have q_iv_46 := iv_46; have q_c_53 := i_nle c_53; have q_z_55 := i_len ez_55 f3_50; have q_c_56 := i_nle c_56; have q_r_10 := h_r_10; have q_c_28 := i_nlt c_28; have q_c_29 := i_le c_29; have g_r_10 := i_rg r_10; have g_v1_45 := i_rg v1_45; have g_z_55 := i_rg z_55; omega)) dX7_poolFits_105 (fun H locs hP hD hS => ?_)
                  obtain ⟨ws_71, e_ws_71⟩ : ∃ z, z = ws_58.set k_70 (r4_9, .inl (g.cI, n4_9, .inl (upd f_70 (v1_45 : Int32).toNatClampNeg c15_50))) := ⟨_, rfl⟩
                  have hP : va_P (gD g) cl0 ws_71 H := by rw [e_ws_71]; exact hP
                  have hD : va_D A ws_71 := by rw [e_ws_71]; exact hD
                  have E_72 : gE ws_58 ws_71 := gE_ari e_ws_71 hk_70
                  have hG : Good g ws_71 := Good_arI e_ws_71 hk_70 hG
                  have Fr_73 : gF [] [(6, 4)] none ws_58 ws_71 := gF_ar e_ws_71 hk_70 rfl hC9 hS9
                  have hk_69 := gset_arO e_ws_71 hk_70 hk_69
                  have o_h0 := E_72.1 _ _ o_h0
                  have a_r0_69 := E_72.1 _ _ a_r0_69
                  have a_r9_69 := E_72.1 _ _ a_r9_69
                  have a_r10_69 := E_72.1 _ _ a_r10_69
                  have a_r11_69 := E_72.1 _ _ a_r11_69
                  have a_r4_9 := E_72.1 _ _ a_r4_9
                  refine lv_iload_n hx hb dX7_poolFits_106 rfl (lv_at hl 1 rfl) ?_
                  refine lv_aload_n hx hb dX7_poolFits_107 rfl (lv_at hl 0 rfl) ?_
                  refine lv_aload_n hx hb dX7_poolFits_108 rfl (lv_at hl 0 rfl) ?_
                  refine va_get (D := gD g) (ci := 6) (v := .int c15_50) (C := RX7) (T := TX7) (N := 17) hx hb hts inX7 hown hK hP k_9 hk_69 rfl 15 (by decide) (hts _ kw_1273) (fun _ h9 => h9) rfl dX7_poolFits_109 ?_
                  have hFc := gfree hD hS hA
                  refine va_calli (va_runV (As := [.int c15_50]) (rest := [.int v1_45]) ⟨hx, hb, hml, hown, hts⟩ (m_X7_u1 l g H.size ws_71 h0 (c15_50) hG o_h0) (cwV 1 hts (gd_V kw_1304 kw_1447 kw_1448 kw_710 kw_1446) rfl rfl rfl (by decide +kernel) ⟨Nat.le_of_ble_eq_true rfl, Nat.le_of_ble_eq_true rfl⟩) ⟨gblind, va_recv hK hP (ci := 6) (q0 := k_9) rfl hk_69, fun U hU hW9 => gmk hU hW9 hP hK hD hex hE hS hFc⟩ rfl rfl hl.1 rfl (lv_room (Nat.le_of_ble_eq_true rfl)) dX7_poolFits_112 ⟨Nat.le_of_ble_eq_true rfl, Nat.le_of_ble_eq_true rfl⟩) hS (fun q _ h => hFc q h) hFc (fun r_74 u9 t9 H1 locs ht9 hvm9 hw9 hB9 hz9 hk9 hS => ?_)
                  have hP : va_P (gD g) cl0 ws_71 H1 := by rw [← ht9]; exact hB9.1
                  have h_r_74 := hw9
                  clear hB9 hz9 hk9 hvm9 ht9 hw9
                  generalize H1 = H at hP hS ⊢
                  refine lv_iconst (v := 5) hx hb dX7_poolFits_115 (by decide) ?_
                  have J_124 : ∀ (t_75 : Int32) (H : Heap) (locs : List Loc) (ls : Array Slot), t_75 = 0 ∨ t_75 = 1 → va_P (gD g) cl0 ws_71 H → va_D A ws_71 → va_S A s.heap H locs → lv_has ls 2 [(0, .ref h0)] → W p l e (headSpec (wt yX7_poolFits cX7_poolFits 2 (some .boolean)) ({ frames := 4, cells := 0, slots := 0, locals := 86 })).room s m ([.ref h0] : List Value).toArray below meth c H locs (0) (0) (MQ below (va_Qi (fun (r : Int32) (u9 : va_W) => r = 0 ∨ r = 1) (gQ1 g [(6, 2), (6, 3), (6, 5), (6, 15)] [(6, 4)] none A ws) A) ([.ref h0] : List Value).toArray s (0) (0) A) (F0 m 124 ls [.int t_75, .int v1_45]) := by
                    intro t_75 H locs ls iv_76 hP hD hS hl
                    have hz_t_75 := iv_76
                    refine lv_iadd hx hb dX7_poolFits_124 ?_
                    refine lv_topi (fun z_79 ez_79 => ?_)
                    refine lv_istore_n (lv' := [(1, .int z_79), (0, .ref h0)]) hx hb dX7_poolFits_125 rfl hl (by decide) rfl (fun ls hl => ?_)
                    refine lv_aload_n hx hb dX7_poolFits_126 rfl (lv_at hl 1 rfl) ?_
                    refine lv_dup hx hb dX7_poolFits_127 rfl ?_
                    refine va_get (D := gD g) (ci := 6) (v := .int c15_50) (C := RX7) (T := TX7) (N := 17) hx hb hts inX7 hown hK hP k_9 hk_69 rfl 15 (by decide) (hts _ kw_1273) (fun _ h9 => h9) rfl dX7_poolFits_128 ?_
                    refine lv_aload_n hx hb dX7_poolFits_131 rfl (lv_at hl 1 rfl) ?_
                    refine lv_aload_n hx hb dX7_poolFits_132 rfl (lv_at hl 1 rfl) ?_
                    refine lv_aload_n hx hb dX7_poolFits_133 rfl (lv_at hl 1 rfl) ?_
                    refine va_get (D := gD g) (ci := 6) (v := .int c15_50) (C := RX7) (T := TX7) (N := 17) hx hb hts inX7 hown hK hP k_9 hk_69 rfl 15 (by decide) (hts _ kw_1273) (fun _ h9 => h9) rfl dX7_poolFits_134 ?_
                    have hFc := gfree hD hS hA
                    refine va_calli (va_runV (As := [.int c15_50]) (rest := [.ref h0, .int c15_50, .ref h0]) ⟨hx, hb, hml, hown, hts⟩ (m_X7_u1 l g H.size ws_71 h0 (c15_50) hG o_h0) (cwV 1 hts (gd_V kw_1304 kw_1447 kw_1448 kw_710 kw_1446) rfl rfl rfl (by decide +kernel) ⟨Nat.le_of_ble_eq_true rfl, Nat.le_of_ble_eq_true rfl⟩) ⟨gblind, va_recv hK hP (ci := 6) (q0 := k_9) rfl hk_69, fun U hU hW9 => gmk hU hW9 hP hK hD hex hE hS hFc⟩ rfl rfl hl.1 rfl (lv_room (Nat.le_of_ble_eq_true rfl)) dX7_poolFits_137 ⟨Nat.le_of_ble_eq_true rfl, Nat.le_of_ble_eq_true rfl⟩) hS (fun q _ h => hFc q h) hFc (fun r_80 u9 t9 H1 locs ht9 hvm9 hw9 hB9 hz9 hk9 hS => ?_)
                    have hP : va_P (gD g) cl0 ws_71 H1 := by rw [← ht9]; exact hB9.1
                    have h_r_80 := hw9
                    clear hB9 hz9 hk9 hvm9 ht9 hw9
                    generalize H1 = H at hP hS ⊢
                    have hFc := gfree hD hS hA
                    refine va_calli (va_runV (As := [.int r_80]) (rest := [.int c15_50, .ref h0]) ⟨hx, hb, hml, hown, hts⟩ (m_X7_entryLength l g H.size ws_71 h0 (r_80) hG o_h0) (cwV 1 hts (gd_V kw_1306 kw_1308 kw_1309 kw_710 kw_1307) rfl rfl rfl (by decide +kernel) ⟨Nat.le_of_ble_eq_true rfl, Nat.le_of_ble_eq_true rfl⟩) ⟨gblind, va_recv hK hP (ci := 6) (q0 := k_9) rfl hk_69, fun U hU hW9 => gmk hU hW9 hP hK hD hex hE hS hFc⟩ rfl rfl hl.1 rfl (lv_room (Nat.le_of_ble_eq_true rfl)) dX7_poolFits_140 ⟨Nat.le_of_ble_eq_true rfl, Nat.le_of_ble_eq_true rfl⟩) hS (fun q _ h => hFc q h) hFc (fun r_81 u9 t9 H1 locs ht9 hvm9 hw9 hB9 hz9 hk9 hS => ?_)
                    have hP : va_P (gD g) cl0 ws_71 H1 := by rw [← ht9]; exact hB9.1
                    clear hB9 hz9 hk9 hvm9 ht9 hw9
                    generalize H1 = H at hP hS ⊢
                    refine lv_iadd hx hb dX7_poolFits_143 ?_
                    refine lv_topi (fun z_82 ez_82 => ?_)
                    have hV9 : okv ws_71 6 15 (.int z_82) := okv_i
                    refine va_put (D := gD g) (ci := 6) (v := .int z_82) (ty := .int) (C := RX7) (T := TX7) (N := 17) hx hb hts inX7 tyX7 tyX7_ok nmX7 hown hK hP hD hS k_9 hk_69 rfl 15 (by decide) (hts _ kw_1273) (fun _ h9 => h9) rfl (by decide +kernel) rfl rfl (Nat.le_of_ble_eq_true rfl) dX7_poolFits_144 (fun H locs hP hD hS => ?_)
                    have hi_83 : invX7 g ws_71 h0 [.ref r0_69, .int c1_69, .int c2_69, .int c3_69, .ref r4_9, .int r_10, .int c6_69, .int c7_69, .int c8_69, .ref r9_69, .ref r10_69, .ref r11_69, .int c12_69, .int c13_69, .int c14_69, .int z_82, .int c16_69] := ⟨r0_69, (n0_69), (c1_69), (c2_69), (c3_69), r4_9, (n4_9), (r_10), (c6_69), (c7_69), (c8_69), r9_69, (n9_69), r10_69, (n10_69), r11_69, (n11_69), (c12_69), (c13_69), (c14_69), (z_82), (c16_69), rfl, a_r0_69, f1_69, a_r4_9, f3_69, a_r9_69, f5_69, a_r10_69, f7_69, a_r11_69, f9_69, f10_69, f11_69, f12_69, f13_69, f14_69, trivial⟩
                    obtain ⟨ws_84, e_ws_84⟩ : ∃ z, z = ws_71.set k_9 (h0, .inr (6, [.ref r0_69, .int c1_69, .int c2_69, .int c3_69, .ref r4_9, .int r_10, .int c6_69, .int c7_69, .int c8_69, .ref r9_69, .ref r10_69, .ref r11_69, .int c12_69, .int c13_69, .int c14_69, .int z_82, .int c16_69])) := ⟨_, rfl⟩
                    have hP : va_P (gD g) cl0 ws_84 H := by rw [e_ws_84]; exact hP
                    have hD : va_D A ws_84 := by rw [e_ws_84]; exact hD
                    have E_85 : gE ws_71 ws_84 := gE_set e_ws_84 hk_69 (cw_o (fi := 15) (v := .int z_82) rfl (by decide))
                    have hG : Good g ws_84 := Good_set (fi := 15) (v := .int z_82) e_ws_84 hk_69 E_85 rfl hV9 hG (ivX7 hi_83)
                    have Fr_86 : gF [(6, 15)] [] (some h0) ws_71 ws_84 := gF_put (fi := 15) (v := .int z_82) e_ws_84 hk_69 rfl (by decide)
                    have hkN := gset_self e_ws_84 hk_69
                    have hk_69 := hkN
                    have o_h0 := E_85.1 _ _ o_h0
                    have a_r0_69 := E_85.1 _ _ a_r0_69
                    have a_r9_69 := E_85.1 _ _ a_r9_69
                    have a_r10_69 := E_85.1 _ _ a_r10_69
                    have a_r11_69 := E_85.1 _ _ a_r11_69
                    have a_r4_9 := E_85.1 _ _ a_r4_9
                    obtain ⟨z_87, ez_87⟩ : ∃ z : Int32, z_79 + Int32.ofInt 1 = z := ⟨_, rfl⟩
                    refine lv_iinc (v := z_87) (lv' := [(1, .int z_87), (0, .ref h0)]) hx hb dX7_poolFits_147 hl (k := 0) rfl ez_87 (by decide) rfl (fun ls hl => ?_)
                    refine lv_goto (tgt := 70) hx hb dX7_poolFits_150 (by decide) ?_
                    exact ih_70 _ (by obtain ⟨u_z_87, q_z_87⟩ := i_iz ez_87 (by decide) (by decide); obtain ⟨u_z_79, q_z_79⟩ := i_add ez_79; have q_iv_46 := iv_46; have q_c_53 := i_nle c_53; have q_c_56 := i_nle c_56; have g_r_10 := i_rg r_10; have g_t_75 := i_rg t_75; have g_v1_45 := i_rg v1_45; have g_z_55 := i_rg z_55; have g_z_79 := i_rg z_79; have g_z_87 := i_rg z_87; have b_t_75 := i_bit hz_t_75; omega) (z_87) ws_84 H locs ls rfl (by obtain ⟨u_z_87, q_z_87⟩ := i_iz ez_87 (by decide) (by decide); obtain ⟨u_z_79, q_z_79⟩ := i_add ez_79; have q_iv_46 := iv_46; have q_c_53 := i_nle c_53; have q_c_56 := i_nle c_56; have g_r_10 := i_rg r_10; have g_t_75 := i_rg t_75; have g_v1_45 := i_rg v1_45; have g_z_55 := i_rg z_55; have g_z_79 := i_rg z_79; have g_z_87 := i_rg z_87; have b_t_75 := i_bit hz_t_75; omega) ((E_48.tr (E_59.tr (E_72.tr E_85)))) ((gF.tr Fr_49 (gF.tr (gF.mo (F' := [(6, 2), (6, 3), (6, 15)]) (C' := [(6, 4)]) (S' := none) Fr_60 (by decide) (fun _ h => absurd h List.not_mem_nil) (Or.inr rfl)) (gF.tr (gF.mo (F' := [(6, 2), (6, 3), (6, 15)]) (C' := [(6, 4)]) (S' := none) Fr_73 (fun _ h => absurd h List.not_mem_nil) (fun _ h => h) (Or.inr rfl)) (gF.mo (F' := [(6, 2), (6, 3), (6, 15)]) (C' := [(6, 4)]) (S' := none) Fr_86 (by decide) (fun _ h => absurd h List.not_mem_nil) (Or.inl rfl)))))) hG hP hD hS (lv_sub hl [1, 0] rfl)
                  refine lv_icmp_ne (tgt := 123) hx hb dX7_poolFits_116 (by decide) (fun c_88 => ?_) (fun c_88 => ?_)
                  · refine lv_iconst (v := 0) hx hb dX7_poolFits_123 (by decide) ?_
                    exact J_124 (0) H locs ls (Or.inl rfl) hP hD hS (lv_sub hl [0] rfl)
                  · refine lv_iconst (v := 1) hx hb dX7_poolFits_119 (by decide) ?_
                    refine lv_goto (tgt := 124) hx hb dX7_poolFits_120 (by decide) ?_
                    exact J_124 (1) H locs ls (Or.inr rfl) hP hD hS (lv_sub hl [0] rfl)
                · refine lv_iconst (v := 0) hx hb dX7_poolFits_94 (by decide) ?_
                  refine W.widen (k := 0) (n := 0) (Nat.le_of_ble_eq_true rfl) (Nat.le_of_ble_eq_true rfl) ?_
                  exact W.zret (v := 0) hx hb hr (nz (Or.inl rfl)) (fun t9 ht9 hW9 => ⟨⟨_, ws_58, rfl, (Or.inl rfl), ⟨(E_4.tr (E_13.tr (E_33.tr (E_36.tr (E_48.tr E_59))))), (gF.tr (gF.mo (F' := [(6, 2), (6, 3), (6, 5), (6, 15)]) (C' := [(6, 4)]) (S' := none) Fr_5 (by decide) (fun _ h => absurd h List.not_mem_nil) (Or.inr rfl)) (gF.tr (gF.mo (F' := [(6, 2), (6, 3), (6, 5), (6, 15)]) (C' := [(6, 4)]) (S' := none) Fr_14 (by decide) (fun _ h => absurd h List.not_mem_nil) (Or.inl rfl)) (gF.tr (gF.mo (F' := [(6, 2), (6, 3), (6, 5), (6, 15)]) (C' := [(6, 4)]) (S' := none) Fr_34 (by decide) (fun _ h => absurd h List.not_mem_nil) (Or.inl rfl)) (gF.tr (gF.mo (F' := [(6, 2), (6, 3), (6, 5), (6, 15)]) (C' := [(6, 4)]) (S' := none) Fr_37 (fun _ h => absurd h List.not_mem_nil) (fun _ h => h) (Or.inr rfl)) (gF.tr (gF.mo (F' := [(6, 2), (6, 3), (6, 5), (6, 15)]) (C' := [(6, 4)]) (S' := none) Fr_49 (by decide) (fun _ h => h) (Or.inr rfl)) (gF.mo (F' := [(6, 2), (6, 3), (6, 5), (6, 15)]) (C' := [(6, 4)]) (S' := none) Fr_60 (by decide) (fun _ h => absurd h List.not_mem_nil) (Or.inr rfl))))))), hG, by rw [ht9]; exact hP, hD⟩⟩, hS.F ht9⟩) hS.2.2 dX7_poolFits_95
        exact J_70 _ (1) ws_35 H locs ls rfl (by have e1 : (1 : Int32).toInt = 1 := (by decide); omega) (gE.rf) (gF.rf) hG hP hD hS (lv_sub hl [1, 0] rfl)
      · exact J_40  H locs ls  hP hD hS (lv_sub hl [0] rfl)
  · refine lv_iconst (v := 0) hx hb dX7_poolFits_8 (by decide) ?_
    refine W.widen (k := 0) (n := 0) (Nat.le_of_ble_eq_true rfl) (Nat.le_of_ble_eq_true rfl) ?_
    exact W.zret (v := 0) hx hb hr (nz (Or.inl rfl)) (fun t9 ht9 hW9 => ⟨⟨_, ws_3, rfl, (Or.inl rfl), ⟨E_4, (gF.mo (F' := [(6, 2), (6, 3), (6, 5), (6, 15)]) (C' := [(6, 4)]) (S' := none) Fr_5 (by decide) (fun _ h => absurd h List.not_mem_nil) (Or.inr rfl)), hG, by rw [ht9]; exact hP, hD⟩⟩, hS.F ht9⟩) hS.2.2 dX7_poolFits_9
set_option maxHeartbeats 1000000 in
set_option maxRecDepth 100000 in
theorem m_X7_fieldsFit (l : Launch) (g : Gm) (sz : Nat) (ws : va_W) (h0 : Nat) (hG : Good g ws) (o_h0 : gC ws h0 6) : Met l yX7_fieldsFit (wt yX7_fieldsFit cX7_fieldsFit 1 (some .boolean)) ({ frames := 4, cells := 0, slots := 0, locals := 90 }) (va_Pc [.ref h0] (st_G g sz ws)) (va_Qi (fun (r : Int32) (u9 : va_W) => (r = 0 ∨ r = 1) ∧ gP u9 h0 (fun fs => ∀ c : Int32, fs[7]? = some (.int c) → r.toInt = 0 ∨ 0 ≤ c.toInt)) (gQ1 g [(6, 2), (6, 3), (6, 7), (6, 8), (6, 15)] [(6, 9)] none (va_A ws sz) ws) (va_A ws sz)) (0) (0) (va_A ws sz) := by
  refine Met.ofW (cc := cX7_fieldsFit) (maxL := 1) (ret := (some .boolean)) (by decide) rfl ?_
  intro p e s m args below meth c s₁ B hml hv
  obtain ⟨rfl, hsz, hP, hK, hD0, hex, hE⟩ := hv
  have hx := B.exec
  have hb := B.bytes
  have hr := B.returns
  have hts0 := atoms_spec (ws := wt yX7_fieldsFit cX7_fieldsFit 1 (some .boolean)) B.pre
  have hts : ∀ w ∈ tb, w.before _ s = true := fun w h => hts0 w (List.mem_cons_of_mem _ h)
  have hown : s.vm.findClass RX7 = some m.cls := findClass_of_methodNamed B.named
  subst hsz
  have hD := hD0.self (sz := s.heap.size)
  generalize hAe : va_A ws s.heap.size = A at hD hE ⊢
  have hA : ∀ q : Nat, s.heap.size ≤ q → A q := fun q h => by rw [← hAe]; exact Or.inr h
  have hS : va_S A s.heap s.heap [] := va_S.rf
  have hl := lv_entry ([.ref h0]) (n := 1) (Nat.le_of_ble_eq_true rfl)
  rw [lg_entry_eq]
  generalize (lg_sl ([.ref h0]) ++ List.replicate (1 - (lg_sl ([.ref h0])).length) Slot.unset).toArray = ls at hl ⊢
  have hl : lv_has ls 1 [(0, .ref h0)] := hl
  refine lv_aload_n hx hb dX7_fieldsFit_0 rfl (lv_at hl 0 rfl) ?_
  refine lv_iconst (v := 0) hx hb dX7_fieldsFit_1 (by decide) ?_
  obtain ⟨k_1, fs9, hk_1⟩ := gC_of o_h0
  obtain ⟨r0_1, n0_1, c1_1, c2_1, c3_1, r4_1, n4_1, c5_1, c6_1, c7_1, c8_1, r9_1, n9_1, r10_1, n10_1, r11_1, n11_1, c12_1, c13_1, c14_1, c15_1, c16_1, rfl, a_r0_1, f1_1, a_r4_1, f3_1, a_r9_1, f5_1, a_r10_1, f7_1, a_r11_1, f9_1, f10_1, f11_1, f12_1, f13_1, f14_1, -⟩ := (hG.1 _ _ _ _ hk_1).hX7 rfl
  have hV9 : okv ws 6 8 (.int 0) := okv_i
  refine va_put (D := gD g) (ci := 6) (v := .int 0) (ty := .int) (C := RX7) (T := TX7) (N := 17) hx hb hts inX7 tyX7 tyX7_ok nmX7 hown hK hP hD hS k_1 hk_1 rfl 8 (by decide) (hts _ kw_1285) (fun _ h9 => h9) rfl (by decide +kernel) rfl rfl (Nat.le_of_ble_eq_true rfl) dX7_fieldsFit_2 (fun H locs hP hD hS => ?_)
  have hi_2 : invX7 g ws h0 [.ref r0_1, .int c1_1, .int c2_1, .int c3_1, .ref r4_1, .int c5_1, .int c6_1, .int c7_1, .int 0, .ref r9_1, .ref r10_1, .ref r11_1, .int c12_1, .int c13_1, .int c14_1, .int c15_1, .int c16_1] := ⟨r0_1, (n0_1), (c1_1), (c2_1), (c3_1), r4_1, (n4_1), (c5_1), (c6_1), (c7_1), (0), r9_1, (n9_1), r10_1, (n10_1), r11_1, (n11_1), (c12_1), (c13_1), (c14_1), (c15_1), (c16_1), rfl, a_r0_1, f1_1, a_r4_1, f3_1, a_r9_1, f5_1, a_r10_1, f7_1, a_r11_1, f9_1, f10_1, f11_1, f12_1, f13_1, f14_1, trivial⟩
  obtain ⟨ws_3, e_ws_3⟩ : ∃ z, z = ws.set k_1 (h0, .inr (6, [.ref r0_1, .int c1_1, .int c2_1, .int c3_1, .ref r4_1, .int c5_1, .int c6_1, .int c7_1, .int 0, .ref r9_1, .ref r10_1, .ref r11_1, .int c12_1, .int c13_1, .int c14_1, .int c15_1, .int c16_1])) := ⟨_, rfl⟩
  have hP : va_P (gD g) cl0 ws_3 H := by rw [e_ws_3]; exact hP
  have hD : va_D A ws_3 := by rw [e_ws_3]; exact hD
  have E_4 : gE ws ws_3 := gE_set e_ws_3 hk_1 (cw_o (fi := 8) (v := .int 0) rfl (by decide))
  have hG : Good g ws_3 := Good_set (fi := 8) (v := .int 0) e_ws_3 hk_1 E_4 rfl hV9 hG (ivX7 hi_2)
  have Fr_5 : gF [(6, 8)] [] (some h0) ws ws_3 := gF_put (fi := 8) (v := .int 0) e_ws_3 hk_1 rfl (by decide)
  have hkN := gset_self e_ws_3 hk_1
  have hk_1 := hkN
  have o_h0 := E_4.1 _ _ o_h0
  have a_r0_1 := E_4.1 _ _ a_r0_1
  have a_r4_1 := E_4.1 _ _ a_r4_1
  have a_r9_1 := E_4.1 _ _ a_r9_1
  have a_r10_1 := E_4.1 _ _ a_r10_1
  have a_r11_1 := E_4.1 _ _ a_r11_1
  refine lv_aload_n hx hb dX7_fieldsFit_5 rfl (lv_at hl 0 rfl) ?_
  refine lv_iconst (v := 0) hx hb dX7_fieldsFit_6 (by decide) ?_
  have hV9 : okv ws_3 6 7 (.int 0) := okv_i
  refine va_put (D := gD g) (ci := 6) (v := .int 0) (ty := .int) (C := RX7) (T := TX7) (N := 17) hx hb hts inX7 tyX7 tyX7_ok nmX7 hown hK hP hD hS k_1 hk_1 rfl 7 (by decide) (hts _ kw_1287) (fun _ h9 => h9) rfl (by decide +kernel) rfl rfl (Nat.le_of_ble_eq_true rfl) dX7_fieldsFit_7 (fun H locs hP hD hS => ?_)
  have hi_6 : invX7 g ws_3 h0 [.ref r0_1, .int c1_1, .int c2_1, .int c3_1, .ref r4_1, .int c5_1, .int c6_1, .int 0, .int 0, .ref r9_1, .ref r10_1, .ref r11_1, .int c12_1, .int c13_1, .int c14_1, .int c15_1, .int c16_1] := ⟨r0_1, (n0_1), (c1_1), (c2_1), (c3_1), r4_1, (n4_1), (c5_1), (c6_1), (0), (0), r9_1, (n9_1), r10_1, (n10_1), r11_1, (n11_1), (c12_1), (c13_1), (c14_1), (c15_1), (c16_1), rfl, a_r0_1, f1_1, a_r4_1, f3_1, a_r9_1, f5_1, a_r10_1, f7_1, a_r11_1, f9_1, f10_1, f11_1, f12_1, f13_1, f14_1, trivial⟩
  obtain ⟨ws_7, e_ws_7⟩ : ∃ z, z = ws_3.set k_1 (h0, .inr (6, [.ref r0_1, .int c1_1, .int c2_1, .int c3_1, .ref r4_1, .int c5_1, .int c6_1, .int 0, .int 0, .ref r9_1, .ref r10_1, .ref r11_1, .int c12_1, .int c13_1, .int c14_1, .int c15_1, .int c16_1])) := ⟨_, rfl⟩
  have hP : va_P (gD g) cl0 ws_7 H := by rw [e_ws_7]; exact hP
  have hD : va_D A ws_7 := by rw [e_ws_7]; exact hD
  have E_8 : gE ws_3 ws_7 := gE_set e_ws_7 hk_1 (cw_o (fi := 7) (v := .int 0) rfl (by decide))
  have hG : Good g ws_7 := Good_set (fi := 7) (v := .int 0) e_ws_7 hk_1 E_8 rfl hV9 hG (ivX7 hi_6)
  have Fr_9 : gF [(6, 7)] [] (some h0) ws_3 ws_7 := gF_put (fi := 7) (v := .int 0) e_ws_7 hk_1 rfl (by decide)
  have hkN := gset_self e_ws_7 hk_1
  have hk_1 := hkN
  have o_h0 := E_8.1 _ _ o_h0
  have a_r0_1 := E_8.1 _ _ a_r0_1
  have a_r4_1 := E_8.1 _ _ a_r4_1
  have a_r9_1 := E_8.1 _ _ a_r9_1
  have a_r10_1 := E_8.1 _ _ a_r10_1
  have a_r11_1 := E_8.1 _ _ a_r11_1
  refine lv_aload_n hx hb dX7_fieldsFit_10 rfl (lv_at hl 0 rfl) ?_
  refine lv_aload_n hx hb dX7_fieldsFit_11 rfl (lv_at hl 0 rfl) ?_
  refine lv_iconst (v := 0) hx hb dX7_fieldsFit_12 (by decide) ?_
  have hFc := gfree hD hS hA
  refine va_calli (va_runV (As := [.int 0]) (rest := [.ref h0]) ⟨hx, hb, hml, hown, hts⟩ (m_X7_membersFit l g H.size ws_7 h0 (0) hG o_h0 (by have e0 : (0 : Int32).toInt = 0 := (by decide); omega)) (cwV 1 hts (gd_V kw_1319 kw_1397 kw_1398 kw_710 kw_1396) rfl rfl rfl (by decide +kernel) ⟨Nat.le_of_ble_eq_true rfl, Nat.le_of_ble_eq_true rfl⟩) ⟨gblind, va_recv hK hP (ci := 6) (q0 := k_1) rfl hk_1, fun U hU hW9 => gmk hU hW9 hP hK hD hex hE hS hFc⟩ rfl rfl hl.1 rfl (lv_room (Nat.le_of_ble_eq_true rfl)) dX7_fieldsFit_13 ⟨Nat.le_of_ble_eq_true rfl, Nat.le_of_ble_eq_true rfl⟩) hS (fun q _ h => hFc q h) hFc (fun r_10 ws_11 t9 H1 locs ht9 hvm9 hw9 hB9 hz9 hk9 hS => ?_)
  obtain ⟨E_12, Fr_13, hG, hP1, hD1⟩ := hB9
  have hP : va_P (gD g) cl0 ws_11 H1 := by rw [← ht9]; exact hP1
  have hD : va_D A ws_11 := hD1.weaken (fun _ _ _ h => hFc _ h)
  have h_r_10 := hw9
  clear hP1 hD1 hz9 hk9 hvm9 ht9 hw9
  generalize H1 = H at hP hS ⊢
  have aa_16 := a_r0_1
  have aa_17 := a_r4_1
  have aa_18 := a_r9_1
  have aa_19 := a_r10_1
  have aa_20 := a_r11_1
  have o_h0 := E_12.1 _ _ o_h0
  obtain ⟨fs9, hk_21, hq_21⟩ := ((gF.a (F' := [(6, 2), (6, 3), (6, 15)]) Fr_13 (fun _ h => h))) _ _ _ hk_1
  obtain ⟨r0_21, n0_21, c1_21, c2_21, c3_21, r4_21, n4_21, c5_21, c6_21, c7_21, c8_21, r9_21, n9_21, r10_21, n10_21, r11_21, n11_21, c12_21, c13_21, c14_21, c15_21, c16_21, rfl, a_r0_21, f1_21, a_r4_21, f3_21, a_r9_21, f5_21, a_r10_21, f7_21, a_r11_21, f9_21, f10_21, f11_21, f12_21, f13_21, f14_21, -⟩ := (hG.1 _ _ _ _ hk_21).hX7 rfl
  obtain rfl := fe_i (hq_21 7 (by decide))
  have hV9 : okv ws_11 6 7 (.int r_10) := okv_i
  refine va_put (D := gD g) (ci := 6) (v := .int r_10) (ty := .int) (C := RX7) (T := TX7) (N := 17) hx hb hts inX7 tyX7 tyX7_ok nmX7 hown hK hP hD hS k_1 hk_21 rfl 7 (by decide) (hts _ kw_1287) (fun _ h9 => h9) rfl (by decide +kernel) rfl rfl (Nat.le_of_ble_eq_true rfl) dX7_fieldsFit_16 (fun H locs hP hD hS => ?_)
  have hi_22 : invX7 g ws_11 h0 [.ref r0_21, .int c1_21, .int c2_21, .int c3_21, .ref r4_21, .int c5_21, .int c6_21, .int r_10, .int c8_21, .ref r9_21, .ref r10_21, .ref r11_21, .int c12_21, .int c13_21, .int c14_21, .int c15_21, .int c16_21] := ⟨r0_21, (n0_21), (c1_21), (c2_21), (c3_21), r4_21, (n4_21), (c5_21), (c6_21), (r_10), (c8_21), r9_21, (n9_21), r10_21, (n10_21), r11_21, (n11_21), (c12_21), (c13_21), (c14_21), (c15_21), (c16_21), rfl, a_r0_21, f1_21, a_r4_21, f3_21, a_r9_21, f5_21, a_r10_21, f7_21, a_r11_21, f9_21, f10_21, f11_21, f12_21, f13_21, f14_21, trivial⟩
  obtain ⟨ws_23, e_ws_23⟩ : ∃ z, z = ws_11.set k_1 (h0, .inr (6, [.ref r0_21, .int c1_21, .int c2_21, .int c3_21, .ref r4_21, .int c5_21, .int c6_21, .int r_10, .int c8_21, .ref r9_21, .ref r10_21, .ref r11_21, .int c12_21, .int c13_21, .int c14_21, .int c15_21, .int c16_21])) := ⟨_, rfl⟩
  have hP : va_P (gD g) cl0 ws_23 H := by rw [e_ws_23]; exact hP
  have hD : va_D A ws_23 := by rw [e_ws_23]; exact hD
  have E_24 : gE ws_11 ws_23 := gE_set e_ws_23 hk_21 (cw_o (fi := 7) (v := .int r_10) rfl (by decide))
  have hG : Good g ws_23 := Good_set (fi := 7) (v := .int r_10) e_ws_23 hk_21 E_24 rfl hV9 hG (ivX7 hi_22)
  have Fr_25 : gF [(6, 7)] [] (some h0) ws_11 ws_23 := gF_put (fi := 7) (v := .int r_10) e_ws_23 hk_21 rfl (by decide)
  have hkN := gset_self e_ws_23 hk_21
  have hk_21 := hkN
  have o_h0 := E_24.1 _ _ o_h0
  have a_r0_21 := E_24.1 _ _ a_r0_21
  have a_r4_21 := E_24.1 _ _ a_r4_21
  have a_r9_21 := E_24.1 _ _ a_r9_21
  have a_r10_21 := E_24.1 _ _ a_r10_21
  have a_r11_21 := E_24.1 _ _ a_r11_21
  refine lv_aload_n hx hb dX7_fieldsFit_19 rfl (lv_at hl 0 rfl) ?_
  refine va_get (D := gD g) (ci := 6) (v := .int r_10) (C := RX7) (T := TX7) (N := 17) hx hb hts inX7 hown hK hP k_1 hk_21 rfl 7 (by decide) (hts _ kw_1287) (fun _ h9 => h9) rfl dX7_fieldsFit_20 ?_
  have J_31 : ∀ (t_26 : Int32) (H : Heap) (locs : List Loc) (ls : Array Slot), t_26 = 0 ∨ t_26 = 1 → gP ws_23 h0 (fun fs => ∀ c : Int32, fs[7]? = some (.int c) → t_26.toInt = 0 ∨ 0 ≤ c.toInt) → va_P (gD g) cl0 ws_23 H → va_D A ws_23 → va_S A s.heap H locs → lv_has ls 1 [] → W p l e (headSpec (wt yX7_fieldsFit cX7_fieldsFit 1 (some .boolean)) ({ frames := 4, cells := 0, slots := 0, locals := 90 })).room s m ([.ref h0] : List Value).toArray below meth c H locs (0) (0) (MQ below (va_Qi (fun (r : Int32) (u9 : va_W) => (r = 0 ∨ r = 1) ∧ gP u9 h0 (fun fs => ∀ c : Int32, fs[7]? = some (.int c) → r.toInt = 0 ∨ 0 ≤ c.toInt)) (gQ1 g [(6, 2), (6, 3), (6, 7), (6, 8), (6, 15)] [(6, 9)] none A ws) A) ([.ref h0] : List Value).toArray s (0) (0) A) (F0 m 31 ls [.int t_26]) := by
    intro t_26 H locs ls iv_27 jf_31_f hP hD hS hl
    have hz_t_26 := iv_27
    refine W.widen (k := 0) (n := 0) (Nat.le_of_ble_eq_true rfl) (Nat.le_of_ble_eq_true rfl) ?_
    obtain ⟨k_30, fs9, hk_30⟩ := gC_of o_h0
    obtain ⟨r0_30, n0_30, c1_30, c2_30, c3_30, r4_30, n4_30, c5_30, c6_30, c7_30, c8_30, r9_30, n9_30, r10_30, n10_30, r11_30, n11_30, c12_30, c13_30, c14_30, c15_30, c16_30, rfl, a_r0_30, f1_30, a_r4_30, f3_30, a_r9_30, f5_30, a_r10_30, f7_30, a_r11_30, f9_30, f10_30, f11_30, f12_30, f13_30, f14_30, -⟩ := (hG.1 _ _ _ _ hk_30).hX7 rfl
    have kq_31 := jf_31_f _ _ _ hk_30 _ rfl
    exact W.zret (v := t_26) hx hb hr (nz hz_t_26) (fun t9 ht9 hW9 => ⟨⟨_, ws_23, rfl, ⟨hz_t_26, (gP_of hD hk_30 (fun q90 e90 => by cases e90; exact (by have q_kq_31 := kq_31; have g_c7_30 := i_rg c7_30; have g_t_26 := i_rg t_26; have b_t_26 := i_bit hz_t_26; omega)))⟩, ⟨(E_4.tr (E_8.tr (E_12.tr E_24))), (gF.tr (gF.mo (F' := [(6, 2), (6, 3), (6, 7), (6, 8), (6, 15)]) (C' := [(6, 9)]) (S' := none) Fr_5 (by decide) (fun _ h => absurd h List.not_mem_nil) (Or.inl rfl)) (gF.tr (gF.mo (F' := [(6, 2), (6, 3), (6, 7), (6, 8), (6, 15)]) (C' := [(6, 9)]) (S' := none) Fr_9 (by decide) (fun _ h => absurd h List.not_mem_nil) (Or.inl rfl)) (gF.tr (gF.mo (F' := [(6, 2), (6, 3), (6, 7), (6, 8), (6, 15)]) (C' := [(6, 9)]) (S' := none) Fr_13 (by decide) (fun _ h => h) (Or.inr rfl)) (gF.mo (F' := [(6, 2), (6, 3), (6, 7), (6, 8), (6, 15)]) (C' := [(6, 9)]) (S' := none) Fr_25 (by decide) (fun _ h => absurd h List.not_mem_nil) (Or.inl rfl))))), hG, by rw [ht9]; exact hP, hD⟩⟩, hS.F ht9⟩) hS.2.2 dX7_fieldsFit_31
  refine lv_if_lt (tgt := 30) hx hb dX7_fieldsFit_23 (by decide) (fun c_32 => ?_) (fun c_32 => ?_)
  · refine lv_iconst (v := 0) hx hb dX7_fieldsFit_30 (by decide) ?_
    exact J_31 (0) H locs ls (Or.inl rfl) (gP_of hD hk_21 (fun q90 e90 => by cases e90; exact (by have e0 : (0 : Int32).toInt = 0 := (by decide); have q_r_10 := h_r_10; have q_c_32 := i_lt c_32; have g_r_10 := i_rg r_10; omega))) hP hD hS (lv_sub hl [] rfl)
  · refine lv_iconst (v := 1) hx hb dX7_fieldsFit_26 (by decide) ?_
    refine lv_goto (tgt := 31) hx hb dX7_fieldsFit_27 (by decide) ?_
    exact J_31 (1) H locs ls (Or.inr rfl) (gP_of hD hk_21 (fun q90 e90 => by cases e90; exact (by have e0 : (0 : Int32).toInt = 0 := (by decide); have e1 : (1 : Int32).toInt = 1 := (by decide); have q_r_10 := h_r_10; have q_c_32 := i_nlt c_32; have g_r_10 := i_rg r_10; omega))) hP hD hS (lv_sub hl [] rfl)
set_option maxHeartbeats 1000000 in
set_option maxRecDepth 100000 in
theorem m_X7_methodsFit (l : Launch) (g : Gm) (sz : Nat) (ws : va_W) (h0 : Nat) (hG : Good g ws) (o_h0 : gC ws h0 6) (fp_c : gP ws h0 (fun fs => ∀ c : Int32, fs[7]? = some (.int c) → 0 ≤ c.toInt)) : Met l yX7_methodsFit (wt yX7_methodsFit cX7_methodsFit 1 (some .boolean)) ({ frames := 4, cells := 0, slots := 0, locals := 90 }) (va_Pc [.ref h0] (st_G g sz ws)) (va_Qi (fun (r : Int32) (u9 : va_W) => r = 0 ∨ r = 1) (gQ1 g [(6, 2), (6, 3), (6, 8), (6, 15)] [(6, 9)] none (va_A ws sz) ws) (va_A ws sz)) (0) (0) (va_A ws sz) := by
  refine Met.ofW (cc := cX7_methodsFit) (maxL := 1) (ret := (some .boolean)) (by decide) rfl ?_
  intro p e s m args below meth c s₁ B hml hv
  obtain ⟨rfl, hsz, hP, hK, hD0, hex, hE⟩ := hv
  have hx := B.exec
  have hb := B.bytes
  have hr := B.returns
  have hts0 := atoms_spec (ws := wt yX7_methodsFit cX7_methodsFit 1 (some .boolean)) B.pre
  have hts : ∀ w ∈ tb, w.before _ s = true := fun w h => hts0 w (List.mem_cons_of_mem _ h)
  have hown : s.vm.findClass RX7 = some m.cls := findClass_of_methodNamed B.named
  subst hsz
  have hD := hD0.self (sz := s.heap.size)
  generalize hAe : va_A ws s.heap.size = A at hD hE ⊢
  have hA : ∀ q : Nat, s.heap.size ≤ q → A q := fun q h => by rw [← hAe]; exact Or.inr h
  have hS : va_S A s.heap s.heap [] := va_S.rf
  have hl := lv_entry ([.ref h0]) (n := 1) (Nat.le_of_ble_eq_true rfl)
  rw [lg_entry_eq]
  generalize (lg_sl ([.ref h0]) ++ List.replicate (1 - (lg_sl ([.ref h0])).length) Slot.unset).toArray = ls at hl ⊢
  have hl : lv_has ls 1 [(0, .ref h0)] := hl
  obtain ⟨k_1, fs9, hk_1⟩ := gC_of o_h0
  obtain ⟨r0_1, n0_1, c1_1, c2_1, c3_1, r4_1, n4_1, c5_1, c6_1, c7_1, c8_1, r9_1, n9_1, r10_1, n10_1, r11_1, n11_1, c12_1, c13_1, c14_1, c15_1, c16_1, rfl, a_r0_1, f1_1, a_r4_1, f3_1, a_r9_1, f5_1, a_r10_1, f7_1, a_r11_1, f9_1, f10_1, f11_1, f12_1, f13_1, f14_1, -⟩ := (hG.1 _ _ _ _ hk_1).hX7 rfl
  have fq_c := fp_c _ _ _ hk_1 _ rfl
  refine lv_aload_n hx hb dX7_methodsFit_0 rfl (lv_at hl 0 rfl) ?_
  refine lv_aload_n hx hb dX7_methodsFit_1 rfl (lv_at hl 0 rfl) ?_
  refine lv_aload_n hx hb dX7_methodsFit_2 rfl (lv_at hl 0 rfl) ?_
  refine va_get (D := gD g) (ci := 6) (v := .int c7_1) (C := RX7) (T := TX7) (N := 17) hx hb hts inX7 hown hK hP k_1 hk_1 rfl 7 (by decide) (hts _ kw_1287) (fun _ h9 => h9) rfl dX7_methodsFit_3 ?_
  have hFc := gfree hD hS hA
  refine va_calli (va_runV (As := [.int c7_1]) (rest := [.ref h0]) ⟨hx, hb, hml, hown, hts⟩ (m_X7_membersFit l g s.heap.size ws h0 (c7_1) hG o_h0 (by have q_fq_c := fq_c; have g_c7_1 := i_rg c7_1; omega)) (cwV 1 hts (gd_V kw_1319 kw_1397 kw_1398 kw_710 kw_1396) rfl rfl rfl (by decide +kernel) ⟨Nat.le_of_ble_eq_true rfl, Nat.le_of_ble_eq_true rfl⟩) ⟨gblind, va_recv hK hP (ci := 6) (q0 := k_1) rfl hk_1, fun U hU hW9 => gmk hU hW9 hP hK hD hex hE hS hFc⟩ rfl rfl hl.1 rfl (lv_room (Nat.le_of_ble_eq_true rfl)) dX7_methodsFit_6 ⟨Nat.le_of_ble_eq_true rfl, Nat.le_of_ble_eq_true rfl⟩) hS (fun q _ h => hFc q h) hFc (fun r_2 ws_3 t9 H1 locs ht9 hvm9 hw9 hB9 hz9 hk9 hS => ?_)
  obtain ⟨E_4, Fr_5, hG, hP1, hD1⟩ := hB9
  have hP : va_P (gD g) cl0 ws_3 H1 := by rw [← ht9]; exact hP1
  have hD : va_D A ws_3 := hD1.weaken (fun _ _ _ h => hFc _ h)
  have h_r_2 := hw9
  clear hP1 hD1 hz9 hk9 hvm9 ht9 hw9
  generalize H1 = H at hP hS ⊢
  have aa_8 := a_r0_1
  have aa_9 := a_r4_1
  have aa_10 := a_r9_1
  have aa_11 := a_r10_1
  have aa_12 := a_r11_1
  have o_h0 := E_4.1 _ _ o_h0
  obtain ⟨fs9, hk_13, hq_13⟩ := ((gF.a (F' := [(6, 2), (6, 3), (6, 15)]) Fr_5 (fun _ h => h))) _ _ _ hk_1
  obtain ⟨r0_13, n0_13, c1_13, c2_13, c3_13, r4_13, n4_13, c5_13, c6_13, c7_13, c8_13, r9_13, n9_13, r10_13, n10_13, r11_13, n11_13, c12_13, c13_13, c14_13, c15_13, c16_13, rfl, a_r0_13, f1_13, a_r4_13, f3_13, a_r9_13, f5_13, a_r10_13, f7_13, a_r11_13, f9_13, f10_13, f11_13, f12_13, f13_13, f14_13, -⟩ := (hG.1 _ _ _ _ hk_13).hX7 rfl
  obtain rfl := fe_i (hq_13 7 (by decide))
  obtain rfl := fe_i (hq_13 8 (by decide))
  have hV9 : okv ws_3 6 8 (.int r_2) := okv_i
  refine va_put (D := gD g) (ci := 6) (v := .int r_2) (ty := .int) (C := RX7) (T := TX7) (N := 17) hx hb hts inX7 tyX7 tyX7_ok nmX7 hown hK hP hD hS k_1 hk_13 rfl 8 (by decide) (hts _ kw_1285) (fun _ h9 => h9) rfl (by decide +kernel) rfl rfl (Nat.le_of_ble_eq_true rfl) dX7_methodsFit_9 (fun H locs hP hD hS => ?_)
  have hi_14 : invX7 g ws_3 h0 [.ref r0_13, .int c1_13, .int c2_13, .int c3_13, .ref r4_13, .int c5_13, .int c6_13, .int c7_1, .int r_2, .ref r9_13, .ref r10_13, .ref r11_13, .int c12_13, .int c13_13, .int c14_13, .int c15_13, .int c16_13] := ⟨r0_13, (n0_13), (c1_13), (c2_13), (c3_13), r4_13, (n4_13), (c5_13), (c6_13), (c7_1), (r_2), r9_13, (n9_13), r10_13, (n10_13), r11_13, (n11_13), (c12_13), (c13_13), (c14_13), (c15_13), (c16_13), rfl, a_r0_13, f1_13, a_r4_13, f3_13, a_r9_13, f5_13, a_r10_13, f7_13, a_r11_13, f9_13, f10_13, f11_13, f12_13, f13_13, f14_13, trivial⟩
  obtain ⟨ws_15, e_ws_15⟩ : ∃ z, z = ws_3.set k_1 (h0, .inr (6, [.ref r0_13, .int c1_13, .int c2_13, .int c3_13, .ref r4_13, .int c5_13, .int c6_13, .int c7_1, .int r_2, .ref r9_13, .ref r10_13, .ref r11_13, .int c12_13, .int c13_13, .int c14_13, .int c15_13, .int c16_13])) := ⟨_, rfl⟩
  have hP : va_P (gD g) cl0 ws_15 H := by rw [e_ws_15]; exact hP
  have hD : va_D A ws_15 := by rw [e_ws_15]; exact hD
  have E_16 : gE ws_3 ws_15 := gE_set e_ws_15 hk_13 (cw_o (fi := 8) (v := .int r_2) rfl (by decide))
  have hG : Good g ws_15 := Good_set (fi := 8) (v := .int r_2) e_ws_15 hk_13 E_16 rfl hV9 hG (ivX7 hi_14)
  have Fr_17 : gF [(6, 8)] [] (some h0) ws_3 ws_15 := gF_put (fi := 8) (v := .int r_2) e_ws_15 hk_13 rfl (by decide)
  have hkN := gset_self e_ws_15 hk_13
  have hk_13 := hkN
  have o_h0 := E_16.1 _ _ o_h0
  have a_r0_13 := E_16.1 _ _ a_r0_13
  have a_r4_13 := E_16.1 _ _ a_r4_13
  have a_r9_13 := E_16.1 _ _ a_r9_13
  have a_r10_13 := E_16.1 _ _ a_r10_13
  have a_r11_13 := E_16.1 _ _ a_r11_13
  refine lv_aload_n hx hb dX7_methodsFit_12 rfl (lv_at hl 0 rfl) ?_
  refine va_get (D := gD g) (ci := 6) (v := .int r_2) (C := RX7) (T := TX7) (N := 17) hx hb hts inX7 hown hK hP k_1 hk_13 rfl 8 (by decide) (hts _ kw_1285) (fun _ h9 => h9) rfl dX7_methodsFit_13 ?_
  have J_24 : ∀ (t_18 : Int32) (H : Heap) (locs : List Loc) (ls : Array Slot), t_18 = 0 ∨ t_18 = 1 → va_P (gD g) cl0 ws_15 H → va_D A ws_15 → va_S A s.heap H locs → lv_has ls 1 [] → W p l e (headSpec (wt yX7_methodsFit cX7_methodsFit 1 (some .boolean)) ({ frames := 4, cells := 0, slots := 0, locals := 90 })).room s m ([.ref h0] : List Value).toArray below meth c H locs (0) (0) (MQ below (va_Qi (fun (r : Int32) (u9 : va_W) => r = 0 ∨ r = 1) (gQ1 g [(6, 2), (6, 3), (6, 8), (6, 15)] [(6, 9)] none A ws) A) ([.ref h0] : List Value).toArray s (0) (0) A) (F0 m 24 ls [.int t_18]) := by
    intro t_18 H locs ls iv_19 hP hD hS hl
    have hz_t_18 := iv_19
    refine W.widen (k := 0) (n := 0) (Nat.le_of_ble_eq_true rfl) (Nat.le_of_ble_eq_true rfl) ?_
    exact W.zret (v := t_18) hx hb hr (nz hz_t_18) (fun t9 ht9 hW9 => ⟨⟨_, ws_15, rfl, hz_t_18, ⟨(E_4.tr E_16), (gF.tr (gF.mo (F' := [(6, 2), (6, 3), (6, 8), (6, 15)]) (C' := [(6, 9)]) (S' := none) Fr_5 (by decide) (fun _ h => h) (Or.inr rfl)) (gF.mo (F' := [(6, 2), (6, 3), (6, 8), (6, 15)]) (C' := [(6, 9)]) (S' := none) Fr_17 (by decide) (fun _ h => absurd h List.not_mem_nil) (Or.inl rfl))), hG, by rw [ht9]; exact hP, hD⟩⟩, hS.F ht9⟩) hS.2.2 dX7_methodsFit_24
  refine lv_if_lt (tgt := 23) hx hb dX7_methodsFit_16 (by decide) (fun c_22 => ?_) (fun c_22 => ?_)
  · refine lv_iconst (v := 0) hx hb dX7_methodsFit_23 (by decide) ?_
    exact J_24 (0) H locs ls (Or.inl rfl) hP hD hS (lv_sub hl [] rfl)
  · refine lv_iconst (v := 1) hx hb dX7_methodsFit_19 (by decide) ?_
    refine lv_goto (tgt := 24) hx hb dX7_methodsFit_20 (by decide) ?_
    exact J_24 (1) H locs ls (Or.inr rfl) hP hD hS (lv_sub hl [] rfl)
set_option maxHeartbeats 1000000 in
set_option maxRecDepth 100000 in
theorem m_X7_typesHold (l : Launch) (g : Gm) (sz : Nat) (ws : va_W) (h0 : Nat) (hG : Good g ws) (o_h0 : gC ws h0 6) : Met l yX7_typesHold (wt yX7_typesHold cX7_typesHold 3 (some .boolean)) ({ frames := 4, cells := 0, slots := 0, locals := 89 }) (va_Pc [.ref h0] (st_G g sz ws)) (va_Qi (fun (r : Int32) (u9 : va_W) => r = 0 ∨ r = 1) (gQ1 g [(6, 2), (6, 3), (6, 12), (6, 13), (6, 14)] [] none (va_A ws sz) ws) (va_A ws sz)) (0) (0) (va_A ws sz) := by
  refine Met.ofW (cc := cX7_typesHold) (maxL := 3) (ret := (some .boolean)) (by decide) rfl ?_
  intro p e s m args below meth c s₁ B hml hv
  obtain ⟨rfl, hsz, hP, hK, hD0, hex, hE⟩ := hv
  have hx := B.exec
  have hb := B.bytes
  have hr := B.returns
  have hts0 := atoms_spec (ws := wt yX7_typesHold cX7_typesHold 3 (some .boolean)) B.pre
  have hts : ∀ w ∈ tb, w.before _ s = true := fun w h => hts0 w (List.mem_cons_of_mem _ h)
  have hown : s.vm.findClass RX7 = some m.cls := findClass_of_methodNamed B.named
  subst hsz
  have hD := hD0.self (sz := s.heap.size)
  generalize hAe : va_A ws s.heap.size = A at hD hE ⊢
  have hA : ∀ q : Nat, s.heap.size ≤ q → A q := fun q h => by rw [← hAe]; exact Or.inr h
  have hS : va_S A s.heap s.heap [] := va_S.rf
  have hl := lv_entry ([.ref h0]) (n := 3) (Nat.le_of_ble_eq_true rfl)
  rw [lg_entry_eq]
  generalize (lg_sl ([.ref h0]) ++ List.replicate (3 - (lg_sl ([.ref h0])).length) Slot.unset).toArray = ls at hl ⊢
  have hl : lv_has ls 3 [(0, .ref h0)] := hl
  refine lv_iconst (v := 1) hx hb dX7_typesHold_0 (by decide) ?_
  refine lv_istore_n (lv' := [(1, .int 1), (0, .ref h0)]) hx hb dX7_typesHold_1 rfl hl (by decide) rfl (fun ls hl => ?_)
  have J_2 : ∀ (n9 : Nat) (v1_1 : Int32) (ws_3 : va_W) (H : Heap) (locs : List Loc) (ls : Array Slot), (2147483647 - v1_1.toInt).toNat = n9 → 0 ≤ v1_1.toInt → gE ws ws_3 → gF [(6, 12), (6, 13), (6, 14)] [] none ws ws_3 → Good g ws_3 → va_P (gD g) cl0 ws_3 H → va_D A ws_3 → va_S A s.heap H locs → lv_has ls 3 [(0, .ref h0), (1, .int v1_1)] → W p l e (headSpec (wt yX7_typesHold cX7_typesHold 3 (some .boolean)) ({ frames := 4, cells := 0, slots := 0, locals := 89 })).room s m ([.ref h0] : List Value).toArray below meth c H locs (0) (0) (MQ below (va_Qi (fun (r : Int32) (u9 : va_W) => r = 0 ∨ r = 1) (gQ1 g [(6, 2), (6, 3), (6, 12), (6, 13), (6, 14)] [] none A ws) A) ([.ref h0] : List Value).toArray s (0) (0) A) (F0 m 2 ls []) := by
    intro n9
    induction n9 using Nat.strongRecOn with
    | ind n9 ih_2 =>
      intro v1_1 ws_3 H locs ls hm9 iv_2 E_4 Fr_5 hG hP hD hS hl
      subst hm9
      have o_h0 := E_4.1 _ _ o_h0
      refine lv_iload_n hx hb dX7_typesHold_2 rfl (lv_at hl 1 rfl) ?_
      refine lv_aload_n hx hb dX7_typesHold_3 rfl (lv_at hl 0 rfl) ?_
      obtain ⟨k_6, fs9, hk_6⟩ := gC_of o_h0
      obtain ⟨r0_6, n0_6, c1_6, c2_6, c3_6, r4_6, n4_6, c5_6, c6_6, c7_6, c8_6, r9_6, n9_6, r10_6, n10_6, r11_6, n11_6, c12_6, c13_6, c14_6, c15_6, c16_6, rfl, a_r0_6, f1_6, a_r4_6, f3_6, a_r9_6, f5_6, a_r10_6, f7_6, a_r11_6, f9_6, f10_6, f11_6, f12_6, f13_6, f14_6, -⟩ := (hG.1 _ _ _ _ hk_6).hX7 rfl
      refine va_get (D := gD g) (ci := 6) (v := .int c5_6) (C := RX7) (T := TX7) (N := 17) hx hb hts inX7 hown hK hP k_6 hk_6 rfl 5 (by decide) (hts _ kw_1294) (fun _ h9 => h9) rfl dX7_typesHold_4 ?_
      refine lv_icmp_ge (tgt := 78) hx hb dX7_typesHold_7 (by decide) (fun c_7 => ?_) (fun c_7 => ?_)
      · refine lv_iconst (v := 0) hx hb dX7_typesHold_78 (by decide) ?_
        refine lv_istore_n (lv' := [(1, .int 0), (0, .ref h0)]) hx hb dX7_typesHold_79 rfl hl (by decide) rfl (fun ls hl => ?_)
        have J_80 : ∀ (n9 : Nat) (v1_8 : Int32) (ws_10 : va_W) (H : Heap) (locs : List Loc) (ls : Array Slot), (2147483647 - v1_8.toInt).toNat = n9 → 0 ≤ v1_8.toInt → gE ws_3 ws_10 → gF [(6, 12), (6, 13), (6, 14)] [] none ws_3 ws_10 → Good g ws_10 → va_P (gD g) cl0 ws_10 H → va_D A ws_10 → va_S A s.heap H locs → lv_has ls 3 [(0, .ref h0), (1, .int v1_8)] → W p l e (headSpec (wt yX7_typesHold cX7_typesHold 3 (some .boolean)) ({ frames := 4, cells := 0, slots := 0, locals := 89 })).room s m ([.ref h0] : List Value).toArray below meth c H locs (0) (0) (MQ below (va_Qi (fun (r : Int32) (u9 : va_W) => r = 0 ∨ r = 1) (gQ1 g [(6, 2), (6, 3), (6, 12), (6, 13), (6, 14)] [] none A ws) A) ([.ref h0] : List Value).toArray s (0) (0) A) (F0 m 80 ls []) := by
          intro n9
          induction n9 using Nat.strongRecOn with
          | ind n9 ih_80 =>
            intro v1_8 ws_10 H locs ls hm9 iv_9 E_11 Fr_12 hG hP hD hS hl
            subst hm9
            have aa_13 := a_r0_6
            have aa_14 := a_r4_6
            have aa_15 := a_r9_6
            have aa_16 := a_r10_6
            have aa_17 := a_r11_6
            have o_h0 := E_11.1 _ _ o_h0
            refine lv_iload_n hx hb dX7_typesHold_80 rfl (lv_at hl 1 rfl) ?_
            refine lv_aload_n hx hb dX7_typesHold_81 rfl (lv_at hl 0 rfl) ?_
            obtain ⟨fs9, hk_18, hq_18⟩ := ((gF.a (F' := [(6, 12), (6, 13), (6, 14)]) Fr_12 (fun _ h => h))) _ _ _ hk_6
            obtain ⟨r0_18, n0_18, c1_18, c2_18, c3_18, r4_18, n4_18, c5_18, c6_18, c7_18, c8_18, r9_18, n9_18, r10_18, n10_18, r11_18, n11_18, c12_18, c13_18, c14_18, c15_18, c16_18, rfl, a_r0_18, f1_18, a_r4_18, f3_18, a_r9_18, f5_18, a_r10_18, f7_18, a_r11_18, f9_18, f10_18, f11_18, f12_18, f13_18, f14_18, -⟩ := (hG.1 _ _ _ _ hk_18).hX7 rfl
            obtain rfl := fe_i (hq_18 5 (by decide))
            obtain rfl := fe_i (hq_18 7 (by decide))
            obtain rfl := fe_i (hq_18 8 (by decide))
            refine va_get (D := gD g) (ci := 6) (v := .int c7_6) (C := RX7) (T := TX7) (N := 17) hx hb hts inX7 hown hK hP k_6 hk_18 rfl 7 (by decide) (hts _ kw_1287) (fun _ h9 => h9) rfl dX7_typesHold_82 ?_
            refine lv_aload_n hx hb dX7_typesHold_85 rfl (lv_at hl 0 rfl) ?_
            refine va_get (D := gD g) (ci := 6) (v := .int c8_6) (C := RX7) (T := TX7) (N := 17) hx hb hts inX7 hown hK hP k_6 hk_18 rfl 8 (by decide) (hts _ kw_1285) (fun _ h9 => h9) rfl dX7_typesHold_86 ?_
            refine lv_iadd hx hb dX7_typesHold_89 ?_
            refine lv_topi (fun z_19 ez_19 => ?_)
            refine lv_icmp_ge (tgt := 172) hx hb dX7_typesHold_90 (by decide) (fun c_20 => ?_) (fun c_20 => ?_)
            · refine lv_iconst (v := 1) hx hb dX7_typesHold_172 (by decide) ?_
              refine W.widen (k := 0) (n := 0) (Nat.le_of_ble_eq_true rfl) (Nat.le_of_ble_eq_true rfl) ?_
              exact W.zret (v := 1) hx hb hr (nz (Or.inr rfl)) (fun t9 ht9 hW9 => ⟨⟨_, ws_10, rfl, (Or.inr rfl), ⟨(E_4.tr E_11), (gF.tr (gF.mo (F' := [(6, 2), (6, 3), (6, 12), (6, 13), (6, 14)]) (C' := []) (S' := none) Fr_5 (by decide) (fun _ h => h) (Or.inr rfl)) (gF.mo (F' := [(6, 2), (6, 3), (6, 12), (6, 13), (6, 14)]) (C' := []) (S' := none) Fr_12 (by decide) (fun _ h => h) (Or.inr rfl))), hG, by rw [ht9]; exact hP, hD⟩⟩, hS.F ht9⟩) hS.2.2 dX7_typesHold_173
            · refine lv_iload_n hx hb dX7_typesHold_93 rfl (lv_at hl 1 rfl) ?_
              refine lv_aload_n hx hb dX7_typesHold_94 rfl (lv_at hl 0 rfl) ?_
              refine va_get (D := gD g) (ci := 6) (v := .int c7_6) (C := RX7) (T := TX7) (N := 17) hx hb hts inX7 hown hK hP k_6 hk_18 rfl 7 (by decide) (hts _ kw_1287) (fun _ h9 => h9) rfl dX7_typesHold_95 ?_
              have J_147 : ∀ (t_21 : Int32) (ws_23 : va_W) (H : Heap) (locs : List Loc) (ls : Array Slot), t_21 = 0 ∨ t_21 = 1 → gE ws_10 ws_23 → gF [(6, 12), (6, 13), (6, 14)] [] none ws_10 ws_23 → Good g ws_23 → va_P (gD g) cl0 ws_23 H → va_D A ws_23 → va_S A s.heap H locs → lv_has ls 3 [(0, .ref h0), (1, .int v1_8)] → W p l e (headSpec (wt yX7_typesHold cX7_typesHold 3 (some .boolean)) ({ frames := 4, cells := 0, slots := 0, locals := 89 })).room s m ([.ref h0] : List Value).toArray below meth c H locs (0) (0) (MQ below (va_Qi (fun (r : Int32) (u9 : va_W) => r = 0 ∨ r = 1) (gQ1 g [(6, 2), (6, 3), (6, 12), (6, 13), (6, 14)] [] none A ws) A) ([.ref h0] : List Value).toArray s (0) (0) A) (F0 m 147 ls [.int t_21]) := by
                intro t_21 ws_23 H locs ls iv_22 E_24 Fr_25 hG hP hD hS hl
                have hz_t_21 := iv_22
                have aa_26 := a_r0_18
                have aa_27 := a_r4_18
                have aa_28 := a_r9_18
                have aa_29 := a_r10_18
                have aa_30 := a_r11_18
                have o_h0 := E_24.1 _ _ o_h0
                refine lv_istore_n (lv' := [(2, .int t_21), (0, .ref h0), (1, .int v1_8)]) hx hb dX7_typesHold_147 rfl hl (by decide) rfl (fun ls hl => ?_)
                refine lv_iload_n hx hb dX7_typesHold_148 rfl (lv_at hl 0 rfl) ?_
                refine lv_if_ne (tgt := 166) hx hb dX7_typesHold_149 (by decide) (fun c_31 => ?_) (fun c_31 => ?_)
                · obtain ⟨z_32, ez_32⟩ : ∃ z : Int32, v1_8 + Int32.ofInt 1 = z := ⟨_, rfl⟩
                  refine lv_iinc (v := z_32) (lv' := [(1, .int z_32), (2, .int t_21), (0, .ref h0)]) hx hb dX7_typesHold_166 hl (k := 2) rfl ez_32 (by decide) rfl (fun ls hl => ?_)
                  refine lv_goto (tgt := 80) hx hb dX7_typesHold_169 (by decide) ?_
                  exact ih_80 _ (by obtain ⟨u_z_32, q_z_32⟩ := i_iz ez_32 (by decide) (by decide); have q_iv_9 := iv_9; have q_c_20 := i_nle c_20; have g_v1_8 := i_rg v1_8; have g_z_19 := i_rg z_19; have g_z_32 := i_rg z_32; omega) (z_32) ws_23 H locs ls rfl (by obtain ⟨u_z_32, q_z_32⟩ := i_iz ez_32 (by decide) (by decide); have q_iv_9 := iv_9; have q_c_20 := i_nle c_20; have g_v1_8 := i_rg v1_8; have g_z_19 := i_rg z_19; have g_z_32 := i_rg z_32; omega) ((E_11.tr E_24)) ((gF.tr Fr_12 Fr_25)) hG hP hD hS (lv_sub hl [2, 0] rfl)
                · refine lv_aload_n hx hb dX7_typesHold_152 rfl (lv_at hl 1 rfl) ?_
                  refine lv_bipush (v := 10) hx hb dX7_typesHold_153 (by decide) ?_
                  refine lv_aload_n hx hb dX7_typesHold_155 rfl (lv_at hl 1 rfl) ?_
                  refine lv_iload_n hx hb dX7_typesHold_156 rfl (lv_at hl 2 rfl) ?_
                  have hFc := gfree hD hS hA
                  obtain ⟨k_33, fs_33, hk_33⟩ := gC_of o_h0
                  refine va_calli (va_runV (As := [.int v1_8]) (rest := [.int 10, .ref h0]) ⟨hx, hb, hml, hown, hts⟩ (m_X7_memberPlace l g H.size ws_23 h0 (v1_8) hG o_h0) (cwV 1 hts (gd_V kw_1288 kw_1394 kw_1395 kw_710 kw_1393) rfl rfl rfl (by decide +kernel) ⟨Nat.le_of_ble_eq_true rfl, Nat.le_of_ble_eq_true rfl⟩) ⟨gblind, va_recv hK hP (ci := 6) (q0 := k_33) rfl hk_33, fun U hU hW9 => gmk hU hW9 hP hK hD hex hE hS hFc⟩ rfl rfl hl.1 rfl (lv_room (Nat.le_of_ble_eq_true rfl)) dX7_typesHold_157 ⟨Nat.le_of_ble_eq_true rfl, Nat.le_of_ble_eq_true rfl⟩) hS (fun q _ h => hFc q h) hFc (fun r_34 u9 t9 H1 locs ht9 hvm9 hw9 hB9 hz9 hk9 hS => ?_)
                  have hP : va_P (gD g) cl0 ws_23 H1 := by rw [← ht9]; exact hB9.1
                  clear hB9 hz9 hk9 hvm9 ht9 hw9
                  generalize H1 = H at hP hS ⊢
                  refine lv_iconst (v := 4) hx hb dX7_typesHold_160 (by decide) ?_
                  refine lv_iadd hx hb dX7_typesHold_161 ?_
                  refine lv_topi (fun z_35 ez_35 => ?_)
                  have hFc := gfree hD hS hA
                  obtain ⟨k_36, fs_36, hk_36⟩ := gC_of o_h0
                  refine va_calli (va_runV (As := [.int 10, .int z_35]) (rest := []) ⟨hx, hb, hml, hown, hts⟩ (m_X7_breaks l g H.size ws_23 h0 (10) (z_35) hG o_h0) (cwV 2 hts (gd_V kw_1276 kw_1278 kw_1279 kw_710 kw_1277) rfl rfl rfl (by decide +kernel) ⟨Nat.le_of_ble_eq_true rfl, Nat.le_of_ble_eq_true rfl⟩) ⟨gblind, va_recv hK hP (ci := 6) (q0 := k_36) rfl hk_36, fun U hU hW9 => gmk hU hW9 hP hK hD hex hE hS hFc⟩ rfl rfl hl.1 rfl (lv_room (Nat.le_of_ble_eq_true rfl)) dX7_typesHold_162 ⟨Nat.le_of_ble_eq_true rfl, Nat.le_of_ble_eq_true rfl⟩) hS (fun q _ h => hFc q h) hFc (fun r_37 ws_38 t9 H1 locs ht9 hvm9 hw9 hB9 hz9 hk9 hS => ?_)
                  obtain ⟨E_39, Fr_40, hG, hP1, hD1⟩ := hB9
                  have hP : va_P (gD g) cl0 ws_38 H1 := by rw [← ht9]; exact hP1
                  have hD : va_D A ws_38 := hD1.weaken (fun _ _ _ h => hFc _ h)
                  have hz_r_37 : r_37 = 0 ∨ r_37 = 1 := hw9
                  clear hP1 hD1 hz9 hk9 hvm9 ht9 hw9
                  generalize H1 = H at hP hS ⊢
                  have o_h0 := E_39.1 _ _ o_h0
                  refine W.widen (k := 0) (n := 0) (Nat.le_of_ble_eq_true rfl) (Nat.le_of_ble_eq_true rfl) ?_
                  exact W.zret (v := r_37) hx hb hr (nz hz_r_37) (fun t9 ht9 hW9 => ⟨⟨_, ws_38, rfl, hz_r_37, ⟨(E_4.tr (E_11.tr (E_24.tr E_39))), (gF.tr (gF.mo (F' := [(6, 2), (6, 3), (6, 12), (6, 13), (6, 14)]) (C' := []) (S' := none) Fr_5 (by decide) (fun _ h => h) (Or.inr rfl)) (gF.tr (gF.mo (F' := [(6, 2), (6, 3), (6, 12), (6, 13), (6, 14)]) (C' := []) (S' := none) Fr_12 (by decide) (fun _ h => h) (Or.inr rfl)) (gF.tr (gF.mo (F' := [(6, 2), (6, 3), (6, 12), (6, 13), (6, 14)]) (C' := []) (S' := none) Fr_25 (by decide) (fun _ h => h) (Or.inr rfl)) (gF.mo (F' := [(6, 2), (6, 3), (6, 12), (6, 13), (6, 14)]) (C' := []) (S' := none) Fr_40 (by decide) (fun _ h => h) (Or.inr rfl))))), hG, by rw [ht9]; exact hP, hD⟩⟩, hS.F ht9⟩) hS.2.2 dX7_typesHold_165
              refine lv_icmp_ge (tgt := 121) hx hb dX7_typesHold_98 (by decide) (fun c_43 => ?_) (fun c_43 => ?_)
              · refine lv_aload_n hx hb dX7_typesHold_121 rfl (lv_at hl 0 rfl) ?_
                refine lv_aload_n hx hb dX7_typesHold_122 rfl (lv_at hl 0 rfl) ?_
                refine lv_iload_n hx hb dX7_typesHold_123 rfl (lv_at hl 1 rfl) ?_
                have hFc := gfree hD hS hA
                refine va_calli (va_runV (As := [.int v1_8]) (rest := [.ref h0]) ⟨hx, hb, hml, hown, hts⟩ (m_X7_typeOf l g H.size ws_10 h0 (v1_8) hG o_h0) (cwV 1 hts (gd_V kw_1445 kw_1438 kw_1439 kw_710 kw_1437) rfl rfl rfl (by decide +kernel) ⟨Nat.le_of_ble_eq_true rfl, Nat.le_of_ble_eq_true rfl⟩) ⟨gblind, va_recv hK hP (ci := 6) (q0 := k_6) rfl hk_18, fun U hU hW9 => gmk hU hW9 hP hK hD hex hE hS hFc⟩ rfl rfl hl.1 rfl (lv_room (Nat.le_of_ble_eq_true rfl)) dX7_typesHold_124 ⟨Nat.le_of_ble_eq_true rfl, Nat.le_of_ble_eq_true rfl⟩) hS (fun q _ h => hFc q h) hFc (fun r_44 u9 t9 H1 locs ht9 hvm9 hw9 hB9 hz9 hk9 hS => ?_)
                have hP : va_P (gD g) cl0 ws_10 H1 := by rw [← ht9]; exact hB9.1
                clear hB9 hz9 hk9 hvm9 ht9 hw9
                generalize H1 = H at hP hS ⊢
                have hFc := gfree hD hS hA
                refine va_calli (va_runV (As := [.int r_44]) (rest := []) ⟨hx, hb, hml, hown, hts⟩ (m_X7_isMethodType l g H.size ws_10 h0 (r_44) hG o_h0) (cwV 1 hts (gd_V kw_1444 kw_1344 kw_1345 kw_710 kw_1343) rfl rfl rfl (by decide +kernel) ⟨Nat.le_of_ble_eq_true rfl, Nat.le_of_ble_eq_true rfl⟩) ⟨gblind, va_recv hK hP (ci := 6) (q0 := k_6) rfl hk_18, fun U hU hW9 => gmk hU hW9 hP hK hD hex hE hS hFc⟩ rfl rfl hl.1 rfl (lv_room (Nat.le_of_ble_eq_true rfl)) dX7_typesHold_127 ⟨Nat.le_of_ble_eq_true rfl, Nat.le_of_ble_eq_true rfl⟩) hS (fun q _ h => hFc q h) hFc (fun r_45 ws_46 t9 H1 locs ht9 hvm9 hw9 hB9 hz9 hk9 hS => ?_)
                obtain ⟨E_47, Fr_48, hG, hP1, hD1⟩ := hB9
                have hP : va_P (gD g) cl0 ws_46 H1 := by rw [← ht9]; exact hP1
                have hD : va_D A ws_46 := hD1.weaken (fun _ _ _ h => hFc _ h)
                have hz_r_45 : r_45 = 0 ∨ r_45 = 1 := hw9
                clear hP1 hD1 hz9 hk9 hvm9 ht9 hw9
                generalize H1 = H at hP hS ⊢
                have aa_51 := a_r0_18
                have aa_52 := a_r4_18
                have aa_53 := a_r9_18
                have aa_54 := a_r10_18
                have aa_55 := a_r11_18
                have o_h0 := E_47.1 _ _ o_h0
                have J_146 : ∀  (H : Heap) (locs : List Loc) (ls : Array Slot), va_P (gD g) cl0 ws_46 H → va_D A ws_46 → va_S A s.heap H locs → lv_has ls 3 [(0, .ref h0), (1, .int v1_8)] → W p l e (headSpec (wt yX7_typesHold cX7_typesHold 3 (some .boolean)) ({ frames := 4, cells := 0, slots := 0, locals := 89 })).room s m ([.ref h0] : List Value).toArray below meth c H locs (0) (0) (MQ below (va_Qi (fun (r : Int32) (u9 : va_W) => r = 0 ∨ r = 1) (gQ1 g [(6, 2), (6, 3), (6, 12), (6, 13), (6, 14)] [] none A ws) A) ([.ref h0] : List Value).toArray s (0) (0) A) (F0 m 146 ls []) := by
                  intro  H locs ls  hP hD hS hl
                  refine lv_iconst (v := 0) hx hb dX7_typesHold_146 (by decide) ?_
                  exact J_147 (0) ws_46 H locs ls (Or.inl rfl) (E_47) (Fr_48) hG hP hD hS (lv_sub hl [0, 1] rfl)
                refine lv_if_eq (tgt := 146) hx hb dX7_typesHold_130 (by decide) (fun c_58 => ?_) (fun c_58 => ?_)
                · exact J_146  H locs ls  hP hD hS (lv_sub hl [0, 1] rfl)
                · refine lv_aload_n hx hb dX7_typesHold_133 rfl (lv_at hl 0 rfl) ?_
                  obtain ⟨fs9, hk_59, hq_59⟩ := ((gF.a (F' := [(6, 12), (6, 13), (6, 14)]) Fr_48 (fun _ h => h))) _ _ _ hk_18
                  obtain ⟨r0_59, n0_59, c1_59, c2_59, c3_59, r4_59, n4_59, c5_59, c6_59, c7_59, c8_59, r9_59, n9_59, r10_59, n10_59, r11_59, n11_59, c12_59, c13_59, c14_59, c15_59, c16_59, rfl, a_r0_59, f1_59, a_r4_59, f3_59, a_r9_59, f5_59, a_r10_59, f7_59, a_r11_59, f9_59, f10_59, f11_59, f12_59, f13_59, f14_59, -⟩ := (hG.1 _ _ _ _ hk_59).hX7 rfl
                  obtain rfl := fe_i (hq_59 5 (by decide))
                  obtain rfl := fe_i (hq_59 7 (by decide))
                  obtain rfl := fe_i (hq_59 8 (by decide))
                  refine va_get (D := gD g) (ci := 6) (v := .int c13_59) (C := RX7) (T := TX7) (N := 17) hx hb hts inX7 hown hK hP k_6 hk_59 rfl 13 (by decide) (hts _ kw_1347) (fun _ h9 => h9) rfl dX7_typesHold_134 ?_
                  refine lv_bipush (v := 8) hx hb dX7_typesHold_137 (by decide) ?_
                  refine lv_icmp_gt (tgt := 146) hx hb dX7_typesHold_139 (by decide) (fun c_60 => ?_) (fun c_60 => ?_)
                  · exact J_146  H locs ls  hP hD hS (lv_sub hl [0, 1] rfl)
                  · refine lv_iconst (v := 1) hx hb dX7_typesHold_142 (by decide) ?_
                    refine lv_goto (tgt := 147) hx hb dX7_typesHold_143 (by decide) ?_
                    exact J_147 (1) ws_46 H locs ls (Or.inr rfl) (E_47) (Fr_48) hG hP hD hS (lv_sub hl [0, 1] rfl)
              · refine lv_aload_n hx hb dX7_typesHold_101 rfl (lv_at hl 0 rfl) ?_
                refine lv_aload_n hx hb dX7_typesHold_102 rfl (lv_at hl 0 rfl) ?_
                refine lv_iload_n hx hb dX7_typesHold_103 rfl (lv_at hl 1 rfl) ?_
                have hFc := gfree hD hS hA
                refine va_calli (va_runV (As := [.int v1_8]) (rest := [.ref h0]) ⟨hx, hb, hml, hown, hts⟩ (m_X7_typeOf l g H.size ws_10 h0 (v1_8) hG o_h0) (cwV 1 hts (gd_V kw_1445 kw_1438 kw_1439 kw_710 kw_1437) rfl rfl rfl (by decide +kernel) ⟨Nat.le_of_ble_eq_true rfl, Nat.le_of_ble_eq_true rfl⟩) ⟨gblind, va_recv hK hP (ci := 6) (q0 := k_6) rfl hk_18, fun U hU hW9 => gmk hU hW9 hP hK hD hex hE hS hFc⟩ rfl rfl hl.1 rfl (lv_room (Nat.le_of_ble_eq_true rfl)) dX7_typesHold_104 ⟨Nat.le_of_ble_eq_true rfl, Nat.le_of_ble_eq_true rfl⟩) hS (fun q _ h => hFc q h) hFc (fun r_61 u9 t9 H1 locs ht9 hvm9 hw9 hB9 hz9 hk9 hS => ?_)
                have hP : va_P (gD g) cl0 ws_10 H1 := by rw [← ht9]; exact hB9.1
                clear hB9 hz9 hk9 hvm9 ht9 hw9
                generalize H1 = H at hP hS ⊢
                have hFc := gfree hD hS hA
                refine va_calli (va_runV (As := [.int r_61]) (rest := []) ⟨hx, hb, hml, hown, hts⟩ (m_X7_kindOfType l g H.size ws_10 h0 (r_61) hG o_h0) (cwV 1 hts (gd_V kw_1443 kw_1388 kw_1389 kw_710 kw_1387) rfl rfl rfl (by decide +kernel) ⟨Nat.le_of_ble_eq_true rfl, Nat.le_of_ble_eq_true rfl⟩) ⟨gblind, va_recv hK hP (ci := 6) (q0 := k_6) rfl hk_18, fun U hU hW9 => gmk hU hW9 hP hK hD hex hE hS hFc⟩ rfl rfl hl.1 rfl (lv_room (Nat.le_of_ble_eq_true rfl)) dX7_typesHold_107 ⟨Nat.le_of_ble_eq_true rfl, Nat.le_of_ble_eq_true rfl⟩) hS (fun q _ h => hFc q h) hFc (fun r_62 u9 t9 H1 locs ht9 hvm9 hw9 hB9 hz9 hk9 hS => ?_)
                have hP : va_P (gD g) cl0 ws_10 H1 := by rw [← ht9]; exact hB9.1
                clear hB9 hz9 hk9 hvm9 ht9 hw9
                generalize H1 = H at hP hS ⊢
                refine lv_if_eq (tgt := 117) hx hb dX7_typesHold_110 (by decide) (fun c_63 => ?_) (fun c_63 => ?_)
                · refine lv_iconst (v := 0) hx hb dX7_typesHold_117 (by decide) ?_
                  refine lv_goto (tgt := 147) hx hb dX7_typesHold_118 (by decide) ?_
                  exact J_147 (0) ws_10 H locs ls (Or.inl rfl) (gE.rf) (gF.rf) hG hP hD hS (lv_sub hl [0, 1] rfl)
                · refine lv_iconst (v := 1) hx hb dX7_typesHold_113 (by decide) ?_
                  refine lv_goto (tgt := 147) hx hb dX7_typesHold_114 (by decide) ?_
                  exact J_147 (1) ws_10 H locs ls (Or.inr rfl) (gE.rf) (gF.rf) hG hP hD hS (lv_sub hl [0, 1] rfl)
        exact J_80 _ (0) ws_3 H locs ls rfl (by have e0 : (0 : Int32).toInt = 0 := (by decide); omega) (gE.rf) (gF.rf) hG hP hD hS (lv_sub hl [1, 0] rfl)
      · refine lv_aload_n hx hb dX7_typesHold_10 rfl (lv_at hl 0 rfl) ?_
        refine lv_iload_n hx hb dX7_typesHold_11 rfl (lv_at hl 1 rfl) ?_
        have hFc := gfree hD hS hA
        refine va_calli (va_runV (As := [.int v1_1]) (rest := []) ⟨hx, hb, hml, hown, hts⟩ (m_X7_tagOf l g H.size ws_3 h0 (v1_1) hG o_h0) (cwV 1 hts (gd_V kw_1313 kw_1435 kw_1436 kw_710 kw_1434) rfl rfl rfl (by decide +kernel) ⟨Nat.le_of_ble_eq_true rfl, Nat.le_of_ble_eq_true rfl⟩) ⟨gblind, va_recv hK hP (ci := 6) (q0 := k_6) rfl hk_6, fun U hU hW9 => gmk hU hW9 hP hK hD hex hE hS hFc⟩ rfl rfl hl.1 rfl (lv_room (Nat.le_of_ble_eq_true rfl)) dX7_typesHold_12 ⟨Nat.le_of_ble_eq_true rfl, Nat.le_of_ble_eq_true rfl⟩) hS (fun q _ h => hFc q h) hFc (fun r_64 u9 t9 H1 locs ht9 hvm9 hw9 hB9 hz9 hk9 hS => ?_)
        have hP : va_P (gD g) cl0 ws_3 H1 := by rw [← ht9]; exact hB9.1
        clear hB9 hz9 hk9 hvm9 ht9 hw9
        generalize H1 = H at hP hS ⊢
        refine lv_istore_n (lv' := [(2, .int r_64), (0, .ref h0), (1, .int v1_1)]) hx hb dX7_typesHold_15 rfl hl (by decide) rfl (fun ls hl => ?_)
        refine lv_iload_n hx hb dX7_typesHold_16 rfl (lv_at hl 0 rfl) ?_
        refine lv_bipush (v := 9) hx hb dX7_typesHold_17 (by decide) ?_
        have J_60 : ∀ (ws_65 : va_W) (H : Heap) (locs : List Loc) (ls : Array Slot), gE ws_3 ws_65 → gF [(6, 12), (6, 13), (6, 14)] [] none ws_3 ws_65 → Good g ws_65 → va_P (gD g) cl0 ws_65 H → va_D A ws_65 → va_S A s.heap H locs → lv_has ls 3 [(0, .ref h0), (1, .int v1_1)] → W p l e (headSpec (wt yX7_typesHold cX7_typesHold 3 (some .boolean)) ({ frames := 4, cells := 0, slots := 0, locals := 89 })).room s m ([.ref h0] : List Value).toArray below meth c H locs (0) (0) (MQ below (va_Qi (fun (r : Int32) (u9 : va_W) => r = 0 ∨ r = 1) (gQ1 g [(6, 2), (6, 3), (6, 12), (6, 13), (6, 14)] [] none A ws) A) ([.ref h0] : List Value).toArray s (0) (0) A) (F0 m 60 ls []) := by
          intro ws_65 H locs ls  E_66 Fr_67 hG hP hD hS hl
          have aa_68 := a_r0_6
          have aa_69 := a_r4_6
          have aa_70 := a_r9_6
          have aa_71 := a_r10_6
          have aa_72 := a_r11_6
          have o_h0 := E_66.1 _ _ o_h0
          refine lv_aload_n hx hb dX7_typesHold_60 rfl (lv_at hl 0 rfl) ?_
          refine lv_bipush (v := 10) hx hb dX7_typesHold_61 (by decide) ?_
          refine lv_aload_n hx hb dX7_typesHold_63 rfl (lv_at hl 0 rfl) ?_
          refine lv_iload_n hx hb dX7_typesHold_64 rfl (lv_at hl 1 rfl) ?_
          have hFc := gfree hD hS hA
          obtain ⟨k_73, fs_73, hk_73⟩ := gC_of o_h0
          refine va_calli (va_runV (As := [.int v1_1]) (rest := [.int 10, .ref h0]) ⟨hx, hb, hml, hown, hts⟩ (m_X7_entryAt l g H.size ws_65 h0 (v1_1) hG o_h0) (cwV 1 hts (gd_V kw_1296 kw_1298 kw_1299 kw_710 kw_1297) rfl rfl rfl (by decide +kernel) ⟨Nat.le_of_ble_eq_true rfl, Nat.le_of_ble_eq_true rfl⟩) ⟨gblind, va_recv hK hP (ci := 6) (q0 := k_73) rfl hk_73, fun U hU hW9 => gmk hU hW9 hP hK hD hex hE hS hFc⟩ rfl rfl hl.1 rfl (lv_room (Nat.le_of_ble_eq_true rfl)) dX7_typesHold_65 ⟨Nat.le_of_ble_eq_true rfl, Nat.le_of_ble_eq_true rfl⟩) hS (fun q _ h => hFc q h) hFc (fun r_74 u9 t9 H1 locs ht9 hvm9 hw9 hB9 hz9 hk9 hS => ?_)
          have hP : va_P (gD g) cl0 ws_65 H1 := by rw [← ht9]; exact hB9.1
          clear hB9 hz9 hk9 hvm9 ht9 hw9
          generalize H1 = H at hP hS ⊢
          have hFc := gfree hD hS hA
          obtain ⟨k_75, fs_75, hk_75⟩ := gC_of o_h0
          refine va_calli (va_runV (As := [.int 10, .int r_74]) (rest := []) ⟨hx, hb, hml, hown, hts⟩ (m_X7_breaks l g H.size ws_65 h0 (10) (r_74) hG o_h0) (cwV 2 hts (gd_V kw_1276 kw_1278 kw_1279 kw_710 kw_1277) rfl rfl rfl (by decide +kernel) ⟨Nat.le_of_ble_eq_true rfl, Nat.le_of_ble_eq_true rfl⟩) ⟨gblind, va_recv hK hP (ci := 6) (q0 := k_75) rfl hk_75, fun U hU hW9 => gmk hU hW9 hP hK hD hex hE hS hFc⟩ rfl rfl hl.1 rfl (lv_room (Nat.le_of_ble_eq_true rfl)) dX7_typesHold_68 ⟨Nat.le_of_ble_eq_true rfl, Nat.le_of_ble_eq_true rfl⟩) hS (fun q _ h => hFc q h) hFc (fun r_76 ws_77 t9 H1 locs ht9 hvm9 hw9 hB9 hz9 hk9 hS => ?_)
          obtain ⟨E_78, Fr_79, hG, hP1, hD1⟩ := hB9
          have hP : va_P (gD g) cl0 ws_77 H1 := by rw [← ht9]; exact hP1
          have hD : va_D A ws_77 := hD1.weaken (fun _ _ _ h => hFc _ h)
          have hz_r_76 : r_76 = 0 ∨ r_76 = 1 := hw9
          clear hP1 hD1 hz9 hk9 hvm9 ht9 hw9
          generalize H1 = H at hP hS ⊢
          have o_h0 := E_78.1 _ _ o_h0
          refine W.widen (k := 0) (n := 0) (Nat.le_of_ble_eq_true rfl) (Nat.le_of_ble_eq_true rfl) ?_
          exact W.zret (v := r_76) hx hb hr (nz hz_r_76) (fun t9 ht9 hW9 => ⟨⟨_, ws_77, rfl, hz_r_76, ⟨(E_4.tr (E_66.tr E_78)), (gF.tr (gF.mo (F' := [(6, 2), (6, 3), (6, 12), (6, 13), (6, 14)]) (C' := []) (S' := none) Fr_5 (by decide) (fun _ h => h) (Or.inr rfl)) (gF.tr (gF.mo (F' := [(6, 2), (6, 3), (6, 12), (6, 13), (6, 14)]) (C' := []) (S' := none) Fr_67 (by decide) (fun _ h => h) (Or.inr rfl)) (gF.mo (F' := [(6, 2), (6, 3), (6, 12), (6, 13), (6, 14)]) (C' := []) (S' := none) Fr_79 (by decide) (fun _ h => h) (Or.inr rfl)))), hG, by rw [ht9]; exact hP, hD⟩⟩, hS.F ht9⟩) hS.2.2 dX7_typesHold_71
        have J_38 : ∀  (H : Heap) (locs : List Loc) (ls : Array Slot), va_P (gD g) cl0 ws_3 H → va_D A ws_3 → va_S A s.heap H locs → lv_has ls 3 [(0, .ref h0), (1, .int v1_1), (2, .int r_64)] → W p l e (headSpec (wt yX7_typesHold cX7_typesHold 3 (some .boolean)) ({ frames := 4, cells := 0, slots := 0, locals := 89 })).room s m ([.ref h0] : List Value).toArray below meth c H locs (0) (0) (MQ below (va_Qi (fun (r : Int32) (u9 : va_W) => r = 0 ∨ r = 1) (gQ1 g [(6, 2), (6, 3), (6, 12), (6, 13), (6, 14)] [] none A ws) A) ([.ref h0] : List Value).toArray s (0) (0) A) (F0 m 38 ls []) := by
          intro  H locs ls  hP hD hS hl
          refine lv_iload_n hx hb dX7_typesHold_38 rfl (lv_at hl 2 rfl) ?_
          refine lv_bipush (v := 10) hx hb dX7_typesHold_39 (by decide) ?_
          have J_72 : ∀ (ws_84 : va_W) (H : Heap) (locs : List Loc) (ls : Array Slot), gE ws_3 ws_84 → gF [(6, 12), (6, 13), (6, 14)] [] none ws_3 ws_84 → Good g ws_84 → va_P (gD g) cl0 ws_84 H → va_D A ws_84 → va_S A s.heap H locs → lv_has ls 3 [(0, .ref h0), (1, .int v1_1)] → W p l e (headSpec (wt yX7_typesHold cX7_typesHold 3 (some .boolean)) ({ frames := 4, cells := 0, slots := 0, locals := 89 })).room s m ([.ref h0] : List Value).toArray below meth c H locs (0) (0) (MQ below (va_Qi (fun (r : Int32) (u9 : va_W) => r = 0 ∨ r = 1) (gQ1 g [(6, 2), (6, 3), (6, 12), (6, 13), (6, 14)] [] none A ws) A) ([.ref h0] : List Value).toArray s (0) (0) A) (F0 m 72 ls []) := by
            intro ws_84 H locs ls  E_85 Fr_86 hG hP hD hS hl
            have aa_87 := a_r0_6
            have aa_88 := a_r4_6
            have aa_89 := a_r9_6
            have aa_90 := a_r10_6
            have aa_91 := a_r11_6
            have o_h0 := E_85.1 _ _ o_h0
            obtain ⟨z_92, ez_92⟩ : ∃ z : Int32, v1_1 + Int32.ofInt 1 = z := ⟨_, rfl⟩
            refine lv_iinc (v := z_92) (lv' := [(1, .int z_92), (0, .ref h0)]) hx hb dX7_typesHold_72 hl (k := 1) rfl ez_92 (by decide) rfl (fun ls hl => ?_)
            refine lv_goto (tgt := 2) hx hb dX7_typesHold_75 (by decide) ?_
            exact ih_2 _ (by obtain ⟨u_z_92, q_z_92⟩ := i_iz ez_92 (by decide) (by decide); have q_iv_2 := iv_2; have q_c_7 := i_nle c_7; have g_c5_6 := i_rg c5_6; have g_v1_1 := i_rg v1_1; have g_z_92 := i_rg z_92; omega) (z_92) ws_84 H locs ls rfl (by obtain ⟨u_z_92, q_z_92⟩ := i_iz ez_92 (by decide) (by decide); have q_iv_2 := iv_2; have q_c_7 := i_nle c_7; have g_c5_6 := i_rg c5_6; have g_v1_1 := i_rg v1_1; have g_z_92 := i_rg z_92; omega) ((E_4.tr E_85)) ((gF.tr Fr_5 Fr_86)) hG hP hD hS (lv_sub hl [1, 0] rfl)
          refine lv_icmp_ne (tgt := 72) hx hb dX7_typesHold_41 (by decide) (fun c_93 => ?_) (fun c_93 => ?_)
          · exact J_72 ws_3 H locs ls (gE.rf) (gF.rf) hG hP hD hS (lv_sub hl [0, 1] rfl)
          · refine lv_aload_n hx hb dX7_typesHold_44 rfl (lv_at hl 0 rfl) ?_
            refine lv_aload_n hx hb dX7_typesHold_45 rfl (lv_at hl 0 rfl) ?_
            refine lv_aload_n hx hb dX7_typesHold_46 rfl (lv_at hl 0 rfl) ?_
            refine lv_iload_n hx hb dX7_typesHold_47 rfl (lv_at hl 1 rfl) ?_
            have hFc := gfree hD hS hA
            refine va_calli (va_runV (As := [.int v1_1]) (rest := [.ref h0, .ref h0]) ⟨hx, hb, hml, hown, hts⟩ (m_X7_secondOf l g H.size ws_3 h0 (v1_1) hG o_h0) (cwV 1 hts (gd_V kw_1315 kw_1432 kw_1433 kw_710 kw_1431) rfl rfl rfl (by decide +kernel) ⟨Nat.le_of_ble_eq_true rfl, Nat.le_of_ble_eq_true rfl⟩) ⟨gblind, va_recv hK hP (ci := 6) (q0 := k_6) rfl hk_6, fun U hU hW9 => gmk hU hW9 hP hK hD hex hE hS hFc⟩ rfl rfl hl.1 rfl (lv_room (Nat.le_of_ble_eq_true rfl)) dX7_typesHold_48 ⟨Nat.le_of_ble_eq_true rfl, Nat.le_of_ble_eq_true rfl⟩) hS (fun q _ h => hFc q h) hFc (fun r_94 u9 t9 H1 locs ht9 hvm9 hw9 hB9 hz9 hk9 hS => ?_)
            have hP : va_P (gD g) cl0 ws_3 H1 := by rw [← ht9]; exact hB9.1
            have h_r_94 := hw9
            clear hB9 hz9 hk9 hvm9 ht9 hw9
            generalize H1 = H at hP hS ⊢
            have hFc := gfree hD hS hA
            refine va_calli (va_runV (As := [.int r_94]) (rest := [.ref h0]) ⟨hx, hb, hml, hown, hts⟩ (m_X7_secondOf l g H.size ws_3 h0 (r_94) hG o_h0) (cwV 1 hts (gd_V kw_1315 kw_1432 kw_1433 kw_710 kw_1431) rfl rfl rfl (by decide +kernel) ⟨Nat.le_of_ble_eq_true rfl, Nat.le_of_ble_eq_true rfl⟩) ⟨gblind, va_recv hK hP (ci := 6) (q0 := k_6) rfl hk_6, fun U hU hW9 => gmk hU hW9 hP hK hD hex hE hS hFc⟩ rfl rfl hl.1 rfl (lv_room (Nat.le_of_ble_eq_true rfl)) dX7_typesHold_51 ⟨Nat.le_of_ble_eq_true rfl, Nat.le_of_ble_eq_true rfl⟩) hS (fun q _ h => hFc q h) hFc (fun r_95 u9 t9 H1 locs ht9 hvm9 hw9 hB9 hz9 hk9 hS => ?_)
            have hP : va_P (gD g) cl0 ws_3 H1 := by rw [← ht9]; exact hB9.1
            have h_r_95 := hw9
            clear hB9 hz9 hk9 hvm9 ht9 hw9
            generalize H1 = H at hP hS ⊢
            have hFc := gfree hD hS hA
            refine va_calli (va_runV (As := [.int r_95]) (rest := []) ⟨hx, hb, hml, hown, hts⟩ (m_X7_isMethodType l g H.size ws_3 h0 (r_95) hG o_h0) (cwV 1 hts (gd_V kw_1444 kw_1344 kw_1345 kw_710 kw_1343) rfl rfl rfl (by decide +kernel) ⟨Nat.le_of_ble_eq_true rfl, Nat.le_of_ble_eq_true rfl⟩) ⟨gblind, va_recv hK hP (ci := 6) (q0 := k_6) rfl hk_6, fun U hU hW9 => gmk hU hW9 hP hK hD hex hE hS hFc⟩ rfl rfl hl.1 rfl (lv_room (Nat.le_of_ble_eq_true rfl)) dX7_typesHold_54 ⟨Nat.le_of_ble_eq_true rfl, Nat.le_of_ble_eq_true rfl⟩) hS (fun q _ h => hFc q h) hFc (fun r_96 ws_97 t9 H1 locs ht9 hvm9 hw9 hB9 hz9 hk9 hS => ?_)
            obtain ⟨E_98, Fr_99, hG, hP1, hD1⟩ := hB9
            have hP : va_P (gD g) cl0 ws_97 H1 := by rw [← ht9]; exact hP1
            have hD : va_D A ws_97 := hD1.weaken (fun _ _ _ h => hFc _ h)
            have hz_r_96 : r_96 = 0 ∨ r_96 = 1 := hw9
            clear hP1 hD1 hz9 hk9 hvm9 ht9 hw9
            generalize H1 = H at hP hS ⊢
            have aa_102 := a_r0_6
            have aa_103 := a_r4_6
            have aa_104 := a_r9_6
            have aa_105 := a_r10_6
            have aa_106 := a_r11_6
            have o_h0 := E_98.1 _ _ o_h0
            refine lv_if_ne (tgt := 72) hx hb dX7_typesHold_57 (by decide) (fun c_107 => ?_) (fun c_107 => ?_)
            · exact J_72 ws_97 H locs ls (E_98) (Fr_99) hG hP hD hS (lv_sub hl [0, 1] rfl)
            · exact J_60 ws_97 H locs ls (E_98) (Fr_99) hG hP hD hS (lv_sub hl [0, 1] rfl)
        refine lv_icmp_ne (tgt := 38) hx hb dX7_typesHold_19 (by decide) (fun c_108 => ?_) (fun c_108 => ?_)
        · exact J_38  H locs ls  hP hD hS (lv_sub hl [1, 2, 0] rfl)
        · refine lv_aload_n hx hb dX7_typesHold_22 rfl (lv_at hl 1 rfl) ?_
          refine lv_aload_n hx hb dX7_typesHold_23 rfl (lv_at hl 1 rfl) ?_
          refine lv_aload_n hx hb dX7_typesHold_24 rfl (lv_at hl 1 rfl) ?_
          refine lv_iload_n hx hb dX7_typesHold_25 rfl (lv_at hl 2 rfl) ?_
          have hFc := gfree hD hS hA
          refine va_calli (va_runV (As := [.int v1_1]) (rest := [.ref h0, .ref h0]) ⟨hx, hb, hml, hown, hts⟩ (m_X7_secondOf l g H.size ws_3 h0 (v1_1) hG o_h0) (cwV 1 hts (gd_V kw_1315 kw_1432 kw_1433 kw_710 kw_1431) rfl rfl rfl (by decide +kernel) ⟨Nat.le_of_ble_eq_true rfl, Nat.le_of_ble_eq_true rfl⟩) ⟨gblind, va_recv hK hP (ci := 6) (q0 := k_6) rfl hk_6, fun U hU hW9 => gmk hU hW9 hP hK hD hex hE hS hFc⟩ rfl rfl hl.1 rfl (lv_room (Nat.le_of_ble_eq_true rfl)) dX7_typesHold_26 ⟨Nat.le_of_ble_eq_true rfl, Nat.le_of_ble_eq_true rfl⟩) hS (fun q _ h => hFc q h) hFc (fun r_109 u9 t9 H1 locs ht9 hvm9 hw9 hB9 hz9 hk9 hS => ?_)
          have hP : va_P (gD g) cl0 ws_3 H1 := by rw [← ht9]; exact hB9.1
          have h_r_109 := hw9
          clear hB9 hz9 hk9 hvm9 ht9 hw9
          generalize H1 = H at hP hS ⊢
          have hFc := gfree hD hS hA
          refine va_calli (va_runV (As := [.int r_109]) (rest := [.ref h0]) ⟨hx, hb, hml, hown, hts⟩ (m_X7_secondOf l g H.size ws_3 h0 (r_109) hG o_h0) (cwV 1 hts (gd_V kw_1315 kw_1432 kw_1433 kw_710 kw_1431) rfl rfl rfl (by decide +kernel) ⟨Nat.le_of_ble_eq_true rfl, Nat.le_of_ble_eq_true rfl⟩) ⟨gblind, va_recv hK hP (ci := 6) (q0 := k_6) rfl hk_6, fun U hU hW9 => gmk hU hW9 hP hK hD hex hE hS hFc⟩ rfl rfl hl.1 rfl (lv_room (Nat.le_of_ble_eq_true rfl)) dX7_typesHold_29 ⟨Nat.le_of_ble_eq_true rfl, Nat.le_of_ble_eq_true rfl⟩) hS (fun q _ h => hFc q h) hFc (fun r_110 u9 t9 H1 locs ht9 hvm9 hw9 hB9 hz9 hk9 hS => ?_)
          have hP : va_P (gD g) cl0 ws_3 H1 := by rw [← ht9]; exact hB9.1
          have h_r_110 := hw9
          clear hB9 hz9 hk9 hvm9 ht9 hw9
          generalize H1 = H at hP hS ⊢
          have hFc := gfree hD hS hA
          refine va_calli (va_runV (As := [.int r_110]) (rest := []) ⟨hx, hb, hml, hown, hts⟩ (m_X7_kindOfType l g H.size ws_3 h0 (r_110) hG o_h0) (cwV 1 hts (gd_V kw_1443 kw_1388 kw_1389 kw_710 kw_1387) rfl rfl rfl (by decide +kernel) ⟨Nat.le_of_ble_eq_true rfl, Nat.le_of_ble_eq_true rfl⟩) ⟨gblind, va_recv hK hP (ci := 6) (q0 := k_6) rfl hk_6, fun U hU hW9 => gmk hU hW9 hP hK hD hex hE hS hFc⟩ rfl rfl hl.1 rfl (lv_room (Nat.le_of_ble_eq_true rfl)) dX7_typesHold_32 ⟨Nat.le_of_ble_eq_true rfl, Nat.le_of_ble_eq_true rfl⟩) hS (fun q _ h => hFc q h) hFc (fun r_111 u9 t9 H1 locs ht9 hvm9 hw9 hB9 hz9 hk9 hS => ?_)
          have hP : va_P (gD g) cl0 ws_3 H1 := by rw [← ht9]; exact hB9.1
          clear hB9 hz9 hk9 hvm9 ht9 hw9
          generalize H1 = H at hP hS ⊢
          refine lv_if_eq (tgt := 60) hx hb dX7_typesHold_35 (by decide) (fun c_112 => ?_) (fun c_112 => ?_)
          · exact J_60 ws_3 H locs ls (gE.rf) (gF.rf) hG hP hD hS (lv_sub hl [1, 2] rfl)
          · exact J_38  H locs ls  hP hD hS (lv_sub hl [1, 2, 0] rfl)
  exact J_2 _ (1) ws _ _ ls rfl (by have e1 : (1 : Int32).toInt = 1 := (by decide); omega) (gE.rf) (gF.rf) hG hP hD hS (lv_sub hl [1, 0] rfl)
set_option maxHeartbeats 1000000 in
set_option maxRecDepth 100000 in
theorem m_X7_isSound (l : Launch) (g : Gm) (H0 : Heap) (ws : va_W) (h0 : Nat) (b1 : Nat) (hG : Good g ws) (o_h0 : gC ws h0 6) (o_b1 : gC ws b1 0) : Met l yX7_isSound (wt yX7_isSound cX7_isSound 2 (some .boolean)) ({ frames := 6, cells := PC ws + (0), slots := PS ws + (0), locals := 135 }) (va_Pc [.ref h0, .ref b1] (st_H g H0 ws)) (va_Qi (fun (r : Int32) (u9 : va_W) => r = 0 ∨ r = 1) (gQ2 g [(6, 0), (6, 1), (6, 2), (6, 3), (6, 5), (6, 6), (6, 7), (6, 8), (6, 12), (6, 13), (6, 14), (6, 15), (6, 16)] [(6, 4), (6, 9), (6, 10), (6, 11)] none (va_A ws H0.size) ws H0 (0) (0)) (va_A ws H0.size)) (PC ws + (0)) (PS ws + (0)) (va_A ws H0.size) := by
  refine Met.ofW (cc := cX7_isSound) (maxL := 2) (ret := (some .boolean)) (by decide) rfl ?_
  intro p e s m args below meth c s₁ B hml hv
  obtain ⟨rfl, hH0, hsz, hP, hK, hD0, hex, hE⟩ := hv
  have hx := B.exec
  have hb := B.bytes
  have hr := B.returns
  have hts0 := atoms_spec (ws := wt yX7_isSound cX7_isSound 2 (some .boolean)) B.pre
  have hts : ∀ w ∈ tb, w.before _ s = true := fun w h => hts0 w (List.mem_cons_of_mem _ h)
  have hown : s.vm.findClass RX7 = some m.cls := findClass_of_methodNamed B.named
  subst hH0
  have hD := hD0.self (sz := s.heap.size)
  generalize hAe : va_A ws s.heap.size = A at hD hE ⊢
  have hA : ∀ q : Nat, s.heap.size ≤ q → A q := fun q h => by rw [← hAe]; exact Or.inr h
  have hS : va_S A s.heap s.heap [] := va_S.rf
  have hl := lv_entry ([.ref h0, .ref b1]) (n := 2) (Nat.le_of_ble_eq_true rfl)
  rw [lg_entry_eq]
  generalize (lg_sl ([.ref h0, .ref b1]) ++ List.replicate (2 - (lg_sl ([.ref h0, .ref b1])).length) Slot.unset).toArray = ls at hl ⊢
  have hl : lv_has ls 2 [(0, .ref h0), (1, .ref b1)] := hl
  refine lv_aload_n hx hb dX7_isSound_0 rfl (lv_at hl 0 rfl) ?_
  refine lv_aload_n hx hb dX7_isSound_1 rfl (lv_at hl 1 rfl) ?_
  obtain ⟨k_1, fs9, hk_1⟩ := gC_of o_b1
  obtain ⟨r0_1, n0_1, c1_1, rfl, a_r0_1, f1_1, f2_1, f3_1, f4_1, f5_1, -⟩ := (hG.1 _ _ _ _ hk_1).hX0 rfl
  refine va_get (D := gD g) (ci := 0) (v := .ref r0_1) (C := RX0) (T := TX0) (N := 2) hx hb hts inX0 hown hK hP k_1 hk_1 rfl 0 (by decide) (hts _ kw_1361) (fun _ h9 => h9) rfl dX7_isSound_2 ?_
  obtain ⟨k_2, fs9, hk_2⟩ := gC_of o_h0
  obtain ⟨r0_2, n0_2, c1_2, c2_2, c3_2, r4_2, n4_2, c5_2, c6_2, c7_2, c8_2, r9_2, n9_2, r10_2, n10_2, r11_2, n11_2, c12_2, c13_2, c14_2, c15_2, c16_2, rfl, a_r0_2, f1_2, a_r4_2, f3_2, a_r9_2, f5_2, a_r10_2, f7_2, a_r11_2, f9_2, f10_2, f11_2, f12_2, f13_2, f14_2, -⟩ := (hG.1 _ _ _ _ hk_2).hX7 rfl
  have hV9 : okv ws 6 0 (.ref r0_1) := (okv_b a_r0_1 (by decide) hk_1 (j := 0) rfl (by decide))
  refine va_put (D := gD g) (ci := 6) (v := .ref r0_1) (ty := (.array .byte)) (C := RX7) (T := TX7) (N := 17) hx hb hts inX7 tyX7 tyX7_ok nmX7 hown hK hP hD hS k_2 hk_2 rfl 0 (by decide) (hts _ kw_1341) (fun _ h9 => h9) rfl (by decide +kernel) rfl rfl (Nat.le_of_ble_eq_true rfl) dX7_isSound_5 (fun H locs hP hD hS => ?_)
  have hi_3 : invX7 g ws h0 [.ref r0_1, .int c1_2, .int c2_2, .int c3_2, .ref r4_2, .int c5_2, .int c6_2, .int c7_2, .int c8_2, .ref r9_2, .ref r10_2, .ref r11_2, .int c12_2, .int c13_2, .int c14_2, .int c15_2, .int c16_2] := ⟨r0_1, (n0_1), (c1_2), (c2_2), (c3_2), r4_2, (n4_2), (c5_2), (c6_2), (c7_2), (c8_2), r9_2, (n9_2), r10_2, (n10_2), r11_2, (n11_2), (c12_2), (c13_2), (c14_2), (c15_2), (c16_2), rfl, a_r0_1, f1_1, a_r4_2, f3_2, a_r9_2, f5_2, a_r10_2, f7_2, a_r11_2, f9_2, f10_2, f11_2, f12_2, f13_2, f14_2, trivial⟩
  obtain ⟨ws_4, e_ws_4⟩ : ∃ z, z = ws.set k_2 (h0, .inr (6, [.ref r0_1, .int c1_2, .int c2_2, .int c3_2, .ref r4_2, .int c5_2, .int c6_2, .int c7_2, .int c8_2, .ref r9_2, .ref r10_2, .ref r11_2, .int c12_2, .int c13_2, .int c14_2, .int c15_2, .int c16_2])) := ⟨_, rfl⟩
  have hP : va_P (gD g) cl0 ws_4 H := by rw [e_ws_4]; exact hP
  have hD : va_D A ws_4 := by rw [e_ws_4]; exact hD
  have E_5 : gE ws ws_4 := gE_set e_ws_4 hk_2 (cw_o (fi := 0) (v := .ref r0_1) rfl (by decide))
  have hG : Good g ws_4 := Good_set (fi := 0) (v := .ref r0_1) e_ws_4 hk_2 E_5 rfl hV9 hG (ivX7 hi_3)
  have Fr_6 : gF [(6, 0)] [] (some h0) ws ws_4 := gF_put (fi := 0) (v := .ref r0_1) e_ws_4 hk_2 rfl (by decide)
  have pp_7 := Fr_6.pp
  have hkN := gset_self e_ws_4 hk_2
  have hk_1 := gset_ob e_ws_4 hk_2 hk_1 (by decide)
  have hk_2 := hkN
  have o_h0 := E_5.1 _ _ o_h0
  have o_b1 := E_5.1 _ _ o_b1
  have a_r0_1 := E_5.1 _ _ a_r0_1
  have a_r4_2 := E_5.1 _ _ a_r4_2
  have a_r9_2 := E_5.1 _ _ a_r9_2
  have a_r10_2 := E_5.1 _ _ a_r10_2
  have a_r11_2 := E_5.1 _ _ a_r11_2
  refine lv_aload_n hx hb dX7_isSound_8 rfl (lv_at hl 0 rfl) ?_
  refine lv_aload_n hx hb dX7_isSound_9 rfl (lv_at hl 1 rfl) ?_
  refine va_get (D := gD g) (ci := 0) (v := .int c1_1) (C := RX0) (T := TX0) (N := 2) hx hb hts inX0 hown hK hP k_1 hk_1 rfl 1 (by decide) (hts _ kw_1362) (fun _ h9 => h9) rfl dX7_isSound_10 ?_
  have hV9 : okv ws_4 6 1 (.int c1_1) := okv_i
  refine va_put (D := gD g) (ci := 6) (v := .int c1_1) (ty := .int) (C := RX7) (T := TX7) (N := 17) hx hb hts inX7 tyX7 tyX7_ok nmX7 hown hK hP hD hS k_2 hk_2 rfl 1 (by decide) (hts _ kw_1275) (fun _ h9 => h9) rfl (by decide +kernel) rfl rfl (Nat.le_of_ble_eq_true rfl) dX7_isSound_13 (fun H locs hP hD hS => ?_)
  have f_8 : 0 ≤ c1_1.toInt := (by have q_f2_1 := f2_1; have q_f3_1 := f3_1; have q_f1_1 := f1_1; have q_f4_1 := f4_1; have q_f5_1 := f5_1; have g_c1_1 := i_rg c1_1; omega)
  have hi_9 : invX7 g ws_4 h0 [.ref r0_1, .int c1_1, .int c2_2, .int c3_2, .ref r4_2, .int c5_2, .int c6_2, .int c7_2, .int c8_2, .ref r9_2, .ref r10_2, .ref r11_2, .int c12_2, .int c13_2, .int c14_2, .int c15_2, .int c16_2] := ⟨r0_1, (n0_1), (c1_1), (c2_2), (c3_2), r4_2, (n4_2), (c5_2), (c6_2), (c7_2), (c8_2), r9_2, (n9_2), r10_2, (n10_2), r11_2, (n11_2), (c12_2), (c13_2), (c14_2), (c15_2), (c16_2), rfl, a_r0_1, f1_1, a_r4_2, f3_2, a_r9_2, f5_2, a_r10_2, f7_2, a_r11_2, f9_2, f_8, f11_2, f12_2, f13_2, f14_2, trivial⟩
  obtain ⟨ws_10, e_ws_10⟩ : ∃ z, z = ws_4.set k_2 (h0, .inr (6, [.ref r0_1, .int c1_1, .int c2_2, .int c3_2, .ref r4_2, .int c5_2, .int c6_2, .int c7_2, .int c8_2, .ref r9_2, .ref r10_2, .ref r11_2, .int c12_2, .int c13_2, .int c14_2, .int c15_2, .int c16_2])) := ⟨_, rfl⟩
  have hP : va_P (gD g) cl0 ws_10 H := by rw [e_ws_10]; exact hP
  have hD : va_D A ws_10 := by rw [e_ws_10]; exact hD
  have E_11 : gE ws_4 ws_10 := gE_set e_ws_10 hk_2 (cw_o (fi := 1) (v := .int c1_1) rfl (by decide))
  have hG : Good g ws_10 := Good_set (fi := 1) (v := .int c1_1) e_ws_10 hk_2 E_11 rfl hV9 hG (ivX7 hi_9)
  have Fr_12 : gF [(6, 1)] [] (some h0) ws_4 ws_10 := gF_put (fi := 1) (v := .int c1_1) e_ws_10 hk_2 rfl (by decide)
  have pp_13 := Fr_12.pp
  have hkN := gset_self e_ws_10 hk_2
  have hk_1 := gset_ob e_ws_10 hk_2 hk_1 (by decide)
  have hk_2 := hkN
  have o_h0 := E_11.1 _ _ o_h0
  have o_b1 := E_11.1 _ _ o_b1
  have a_r0_1 := E_11.1 _ _ a_r0_1
  have a_r4_2 := E_11.1 _ _ a_r4_2
  have a_r9_2 := E_11.1 _ _ a_r9_2
  have a_r10_2 := E_11.1 _ _ a_r10_2
  have a_r11_2 := E_11.1 _ _ a_r11_2
  refine lv_aload_n hx hb dX7_isSound_16 rfl (lv_at hl 0 rfl) ?_
  refine lv_iconst (v := 0) hx hb dX7_isSound_17 (by decide) ?_
  have hV9 : okv ws_10 6 2 (.int 0) := okv_i
  refine va_put (D := gD g) (ci := 6) (v := .int 0) (ty := .int) (C := RX7) (T := TX7) (N := 17) hx hb hts inX7 tyX7 tyX7_ok nmX7 hown hK hP hD hS k_2 hk_2 rfl 2 (by decide) (hts _ kw_1280) (fun _ h9 => h9) rfl (by decide +kernel) rfl rfl (Nat.le_of_ble_eq_true rfl) dX7_isSound_18 (fun H locs hP hD hS => ?_)
  have hi_14 : invX7 g ws_10 h0 [.ref r0_1, .int c1_1, .int 0, .int c3_2, .ref r4_2, .int c5_2, .int c6_2, .int c7_2, .int c8_2, .ref r9_2, .ref r10_2, .ref r11_2, .int c12_2, .int c13_2, .int c14_2, .int c15_2, .int c16_2] := ⟨r0_1, (n0_1), (c1_1), (0), (c3_2), r4_2, (n4_2), (c5_2), (c6_2), (c7_2), (c8_2), r9_2, (n9_2), r10_2, (n10_2), r11_2, (n11_2), (c12_2), (c13_2), (c14_2), (c15_2), (c16_2), rfl, a_r0_1, f1_1, a_r4_2, f3_2, a_r9_2, f5_2, a_r10_2, f7_2, a_r11_2, f9_2, f_8, f11_2, f12_2, f13_2, f14_2, trivial⟩
  obtain ⟨ws_15, e_ws_15⟩ : ∃ z, z = ws_10.set k_2 (h0, .inr (6, [.ref r0_1, .int c1_1, .int 0, .int c3_2, .ref r4_2, .int c5_2, .int c6_2, .int c7_2, .int c8_2, .ref r9_2, .ref r10_2, .ref r11_2, .int c12_2, .int c13_2, .int c14_2, .int c15_2, .int c16_2])) := ⟨_, rfl⟩
  have hP : va_P (gD g) cl0 ws_15 H := by rw [e_ws_15]; exact hP
  have hD : va_D A ws_15 := by rw [e_ws_15]; exact hD
  have E_16 : gE ws_10 ws_15 := gE_set e_ws_15 hk_2 (cw_o (fi := 2) (v := .int 0) rfl (by decide))
  have hG : Good g ws_15 := Good_set (fi := 2) (v := .int 0) e_ws_15 hk_2 E_16 rfl hV9 hG (ivX7 hi_14)
  have Fr_17 : gF [(6, 2)] [] (some h0) ws_10 ws_15 := gF_put (fi := 2) (v := .int 0) e_ws_15 hk_2 rfl (by decide)
  have pp_18 := Fr_17.pp
  have hkN := gset_self e_ws_15 hk_2
  have hk_1 := gset_ob e_ws_15 hk_2 hk_1 (by decide)
  have hk_2 := hkN
  have o_h0 := E_16.1 _ _ o_h0
  have o_b1 := E_16.1 _ _ o_b1
  have a_r0_1 := E_16.1 _ _ a_r0_1
  have a_r4_2 := E_16.1 _ _ a_r4_2
  have a_r9_2 := E_16.1 _ _ a_r9_2
  have a_r10_2 := E_16.1 _ _ a_r10_2
  have a_r11_2 := E_16.1 _ _ a_r11_2
  refine lv_aload_n hx hb dX7_isSound_21 rfl (lv_at hl 0 rfl) ?_
  refine lv_iconst (v := (-1)) hx hb dX7_isSound_22 (by decide) ?_
  have hV9 : okv ws_15 6 3 (.int (-1)) := okv_i
  refine va_put (D := gD g) (ci := 6) (v := .int (-1)) (ty := .int) (C := RX7) (T := TX7) (N := 17) hx hb hts inX7 tyX7 tyX7_ok nmX7 hown hK hP hD hS k_2 hk_2 rfl 3 (by decide) (hts _ kw_1281) (fun _ h9 => h9) rfl (by decide +kernel) rfl rfl (Nat.le_of_ble_eq_true rfl) dX7_isSound_23 (fun H locs hP hD hS => ?_)
  have hi_19 : invX7 g ws_15 h0 [.ref r0_1, .int c1_1, .int 0, .int (-1), .ref r4_2, .int c5_2, .int c6_2, .int c7_2, .int c8_2, .ref r9_2, .ref r10_2, .ref r11_2, .int c12_2, .int c13_2, .int c14_2, .int c15_2, .int c16_2] := ⟨r0_1, (n0_1), (c1_1), (0), ((-1)), r4_2, (n4_2), (c5_2), (c6_2), (c7_2), (c8_2), r9_2, (n9_2), r10_2, (n10_2), r11_2, (n11_2), (c12_2), (c13_2), (c14_2), (c15_2), (c16_2), rfl, a_r0_1, f1_1, a_r4_2, f3_2, a_r9_2, f5_2, a_r10_2, f7_2, a_r11_2, f9_2, f_8, f11_2, f12_2, f13_2, f14_2, trivial⟩
  obtain ⟨ws_20, e_ws_20⟩ : ∃ z, z = ws_15.set k_2 (h0, .inr (6, [.ref r0_1, .int c1_1, .int 0, .int (-1), .ref r4_2, .int c5_2, .int c6_2, .int c7_2, .int c8_2, .ref r9_2, .ref r10_2, .ref r11_2, .int c12_2, .int c13_2, .int c14_2, .int c15_2, .int c16_2])) := ⟨_, rfl⟩
  have hP : va_P (gD g) cl0 ws_20 H := by rw [e_ws_20]; exact hP
  have hD : va_D A ws_20 := by rw [e_ws_20]; exact hD
  have E_21 : gE ws_15 ws_20 := gE_set e_ws_20 hk_2 (cw_o (fi := 3) (v := .int (-1)) rfl (by decide))
  have hG : Good g ws_20 := Good_set (fi := 3) (v := .int (-1)) e_ws_20 hk_2 E_21 rfl hV9 hG (ivX7 hi_19)
  have Fr_22 : gF [(6, 3)] [] (some h0) ws_15 ws_20 := gF_put (fi := 3) (v := .int (-1)) e_ws_20 hk_2 rfl (by decide)
  have pp_23 := Fr_22.pp
  have hkN := gset_self e_ws_20 hk_2
  have hk_1 := gset_ob e_ws_20 hk_2 hk_1 (by decide)
  have hk_2 := hkN
  have o_h0 := E_21.1 _ _ o_h0
  have o_b1 := E_21.1 _ _ o_b1
  have a_r0_1 := E_21.1 _ _ a_r0_1
  have a_r4_2 := E_21.1 _ _ a_r4_2
  have a_r9_2 := E_21.1 _ _ a_r9_2
  have a_r10_2 := E_21.1 _ _ a_r10_2
  have a_r11_2 := E_21.1 _ _ a_r11_2
  refine lv_aload_n hx hb dX7_isSound_26 rfl (lv_at hl 0 rfl) ?_
  refine lv_iconst (v := 0) hx hb dX7_isSound_27 (by decide) ?_
  have hV9 : okv ws_20 6 15 (.int 0) := okv_i
  refine va_put (D := gD g) (ci := 6) (v := .int 0) (ty := .int) (C := RX7) (T := TX7) (N := 17) hx hb hts inX7 tyX7 tyX7_ok nmX7 hown hK hP hD hS k_2 hk_2 rfl 15 (by decide) (hts _ kw_1273) (fun _ h9 => h9) rfl (by decide +kernel) rfl rfl (Nat.le_of_ble_eq_true rfl) dX7_isSound_28 (fun H locs hP hD hS => ?_)
  have hi_24 : invX7 g ws_20 h0 [.ref r0_1, .int c1_1, .int 0, .int (-1), .ref r4_2, .int c5_2, .int c6_2, .int c7_2, .int c8_2, .ref r9_2, .ref r10_2, .ref r11_2, .int c12_2, .int c13_2, .int c14_2, .int 0, .int c16_2] := ⟨r0_1, (n0_1), (c1_1), (0), ((-1)), r4_2, (n4_2), (c5_2), (c6_2), (c7_2), (c8_2), r9_2, (n9_2), r10_2, (n10_2), r11_2, (n11_2), (c12_2), (c13_2), (c14_2), (0), (c16_2), rfl, a_r0_1, f1_1, a_r4_2, f3_2, a_r9_2, f5_2, a_r10_2, f7_2, a_r11_2, f9_2, f_8, f11_2, f12_2, f13_2, f14_2, trivial⟩
  obtain ⟨ws_25, e_ws_25⟩ : ∃ z, z = ws_20.set k_2 (h0, .inr (6, [.ref r0_1, .int c1_1, .int 0, .int (-1), .ref r4_2, .int c5_2, .int c6_2, .int c7_2, .int c8_2, .ref r9_2, .ref r10_2, .ref r11_2, .int c12_2, .int c13_2, .int c14_2, .int 0, .int c16_2])) := ⟨_, rfl⟩
  have hP : va_P (gD g) cl0 ws_25 H := by rw [e_ws_25]; exact hP
  have hD : va_D A ws_25 := by rw [e_ws_25]; exact hD
  have E_26 : gE ws_20 ws_25 := gE_set e_ws_25 hk_2 (cw_o (fi := 15) (v := .int 0) rfl (by decide))
  have hG : Good g ws_25 := Good_set (fi := 15) (v := .int 0) e_ws_25 hk_2 E_26 rfl hV9 hG (ivX7 hi_24)
  have Fr_27 : gF [(6, 15)] [] (some h0) ws_20 ws_25 := gF_put (fi := 15) (v := .int 0) e_ws_25 hk_2 rfl (by decide)
  have pp_28 := Fr_27.pp
  have hkN := gset_self e_ws_25 hk_2
  have hk_1 := gset_ob e_ws_25 hk_2 hk_1 (by decide)
  have hk_2 := hkN
  have o_h0 := E_26.1 _ _ o_h0
  have o_b1 := E_26.1 _ _ o_b1
  have a_r0_1 := E_26.1 _ _ a_r0_1
  have a_r4_2 := E_26.1 _ _ a_r4_2
  have a_r9_2 := E_26.1 _ _ a_r9_2
  have a_r10_2 := E_26.1 _ _ a_r10_2
  have a_r11_2 := E_26.1 _ _ a_r11_2
  refine lv_aload_n hx hb dX7_isSound_31 rfl (lv_at hl 0 rfl) ?_
  have hFc := gfree hD hS hA
  refine va_calli (va_runV (As := []) (rest := []) ⟨hx, hb, hml, hown, hts⟩ (m_X7_magicHolds l g H.size ws_25 h0 hG o_h0) (cwV 0 hts (gd_V kw_1363 kw_1391 kw_1392 kw_710 kw_1390) rfl rfl rfl (by decide +kernel) ⟨Nat.le_of_ble_eq_true rfl, Nat.le_of_ble_eq_true rfl⟩) ⟨gblind, va_recv hK hP (ci := 6) (q0 := k_2) rfl hk_2, fun U hU hW9 => gmk hU hW9 hP hK hD hex hE hS hFc⟩ rfl rfl hl.1 rfl (lv_room (Nat.le_of_ble_eq_true rfl)) dX7_isSound_32 ⟨(show 0 + 0 ≤ PC ws + (0) from (by have e0 : (0 : Int32).toInt = 0 := (by decide); omega)), (show 0 + 0 ≤ PS ws + (0) from (by have e0 : (0 : Int32).toInt = 0 := (by decide); omega))⟩) hS (fun q _ h => hFc q h) hFc (fun r_29 ws_30 t9 H1 locs ht9 hvm9 hw9 hB9 hz9 hk9 hS => ?_)
  obtain ⟨E_31, Fr_32, hG, hP1, hD1⟩ := hB9
  have hP : va_P (gD g) cl0 ws_30 H1 := by rw [← ht9]; exact hP1
  have hD : va_D A ws_30 := hD1.weaken (fun _ _ _ h => hFc _ h)
  have hz_r_29 : r_29 = 0 ∨ r_29 = 1 := hw9
  clear hP1 hD1 hz9 hk9 hvm9 ht9 hw9
  generalize H1 = H at hP hS ⊢
  have aa_35 := a_r0_1
  have aa_36 := a_r0_1
  have aa_37 := a_r4_2
  have aa_38 := a_r9_2
  have aa_39 := a_r10_2
  have aa_40 := a_r11_2
  have o_h0 := E_31.1 _ _ o_h0
  have o_b1 := E_31.1 _ _ o_b1
  have pp_41 := Fr_32.pp
  have J_151 : ∀ (t_42 : Int32) (dc_151_1 : Nat) (ds_151_1 : Nat) (ws_44 : va_W) (H : Heap) (locs : List Loc) (ls : Array Slot), t_42 = 0 ∨ t_42 = 1 → gE ws_30 ws_44 → gF [(6, 2), (6, 3), (6, 5), (6, 6), (6, 7), (6, 8), (6, 12), (6, 13), (6, 14), (6, 15), (6, 16)] [(6, 4), (6, 9), (6, 10), (6, 11)] none ws_30 ws_44 → Good g ws_44 → dc_151_1 + PC ws_44 ≤ PC ws + (0) → ds_151_1 + PS ws_44 ≤ PS ws + (0) → va_P (gD g) cl0 ws_44 H → va_D A ws_44 → va_S A s.heap H locs → lv_has ls 2 [] → W p l e (headSpec (wt yX7_isSound cX7_isSound 2 (some .boolean)) ({ frames := 6, cells := PC ws + (0), slots := PS ws + (0), locals := 135 })).room s m ([.ref h0, .ref b1] : List Value).toArray below meth c H locs (dc_151_1) (ds_151_1) (MQ below (va_Qi (fun (r : Int32) (u9 : va_W) => r = 0 ∨ r = 1) (gQ2 g [(6, 0), (6, 1), (6, 2), (6, 3), (6, 5), (6, 6), (6, 7), (6, 8), (6, 12), (6, 13), (6, 14), (6, 15), (6, 16)] [(6, 4), (6, 9), (6, 10), (6, 11)] none A ws s.heap (0) (0)) A) ([.ref h0, .ref b1] : List Value).toArray s (PC ws + (0)) (PS ws + (0)) A) (F0 m 151 ls [.int t_42]) := by
    intro t_42 dc_151_1 ds_151_1 ws_44 H locs ls iv_43 E_45 Fr_46 hG hc9 hs9 hP hD hS hl
    have hz_t_42 := iv_43
    have o_h0 := E_45.1 _ _ o_h0
    refine W_led (fun hLd => ?_)
    have hcl : dc_151_1 + PC ws_44 ≤ PC ws + (0) := (by omega)
    have hsl : ds_151_1 + PS ws_44 ≤ PS ws + (0) := (by omega)
    refine W.widen (k := PC ws + (0)) (n := PS ws + (0)) (by omega) (by omega) ?_
    exact W.zret (v := t_42) hx hb hr (nz hz_t_42) (fun t9 ht9 hW9 => ⟨⟨_, ws_44, rfl, hz_t_42, ⟨(E_5.tr (E_11.tr (E_16.tr (E_21.tr (E_26.tr (E_31.tr E_45)))))), (gF.tr (gF.mo (F' := [(6, 0), (6, 1), (6, 2), (6, 3), (6, 5), (6, 6), (6, 7), (6, 8), (6, 12), (6, 13), (6, 14), (6, 15), (6, 16)]) (C' := [(6, 4), (6, 9), (6, 10), (6, 11)]) (S' := none) Fr_6 (by decide) (fun _ h => absurd h List.not_mem_nil) (Or.inl rfl)) (gF.tr (gF.mo (F' := [(6, 0), (6, 1), (6, 2), (6, 3), (6, 5), (6, 6), (6, 7), (6, 8), (6, 12), (6, 13), (6, 14), (6, 15), (6, 16)]) (C' := [(6, 4), (6, 9), (6, 10), (6, 11)]) (S' := none) Fr_12 (by decide) (fun _ h => absurd h List.not_mem_nil) (Or.inl rfl)) (gF.tr (gF.mo (F' := [(6, 0), (6, 1), (6, 2), (6, 3), (6, 5), (6, 6), (6, 7), (6, 8), (6, 12), (6, 13), (6, 14), (6, 15), (6, 16)]) (C' := [(6, 4), (6, 9), (6, 10), (6, 11)]) (S' := none) Fr_17 (by decide) (fun _ h => absurd h List.not_mem_nil) (Or.inl rfl)) (gF.tr (gF.mo (F' := [(6, 0), (6, 1), (6, 2), (6, 3), (6, 5), (6, 6), (6, 7), (6, 8), (6, 12), (6, 13), (6, 14), (6, 15), (6, 16)]) (C' := [(6, 4), (6, 9), (6, 10), (6, 11)]) (S' := none) Fr_22 (by decide) (fun _ h => absurd h List.not_mem_nil) (Or.inl rfl)) (gF.tr (gF.mo (F' := [(6, 0), (6, 1), (6, 2), (6, 3), (6, 5), (6, 6), (6, 7), (6, 8), (6, 12), (6, 13), (6, 14), (6, 15), (6, 16)]) (C' := [(6, 4), (6, 9), (6, 10), (6, 11)]) (S' := none) Fr_27 (by decide) (fun _ h => absurd h List.not_mem_nil) (Or.inl rfl)) (gF.tr (gF.mo (F' := [(6, 0), (6, 1), (6, 2), (6, 3), (6, 5), (6, 6), (6, 7), (6, 8), (6, 12), (6, 13), (6, 14), (6, 15), (6, 16)]) (C' := [(6, 4), (6, 9), (6, 10), (6, 11)]) (S' := none) Fr_32 (by decide) (fun _ h => absurd h List.not_mem_nil) (Or.inr rfl)) (gF.mo (F' := [(6, 0), (6, 1), (6, 2), (6, 3), (6, 5), (6, 6), (6, 7), (6, 8), (6, 12), (6, 13), (6, 14), (6, 15), (6, 16)]) (C' := [(6, 4), (6, 9), (6, 10), (6, 11)]) (S' := none) Fr_46 (by decide) (fun _ h => h) (Or.inr rfl)))))))), hG, by rw [ht9]; exact hP, hD, _, _, by rw [ht9]; exact hLd, hcl, hsl⟩⟩, hS.F ht9⟩) hS.2.2 dX7_isSound_151
  have J_150 : ∀ (dc_150_2 : Nat) (ds_150_2 : Nat) (ws_47 : va_W) (H : Heap) (locs : List Loc) (ls : Array Slot), gE ws_30 ws_47 → gF [(6, 2), (6, 3), (6, 5), (6, 6), (6, 7), (6, 8), (6, 12), (6, 13), (6, 14), (6, 15), (6, 16)] [(6, 4), (6, 9), (6, 10), (6, 11)] none ws_30 ws_47 → Good g ws_47 → dc_150_2 + PC ws_47 ≤ PC ws + (0) → ds_150_2 + PS ws_47 ≤ PS ws + (0) → va_P (gD g) cl0 ws_47 H → va_D A ws_47 → va_S A s.heap H locs → lv_has ls 2 [] → W p l e (headSpec (wt yX7_isSound cX7_isSound 2 (some .boolean)) ({ frames := 6, cells := PC ws + (0), slots := PS ws + (0), locals := 135 })).room s m ([.ref h0, .ref b1] : List Value).toArray below meth c H locs (dc_150_2) (ds_150_2) (MQ below (va_Qi (fun (r : Int32) (u9 : va_W) => r = 0 ∨ r = 1) (gQ2 g [(6, 0), (6, 1), (6, 2), (6, 3), (6, 5), (6, 6), (6, 7), (6, 8), (6, 12), (6, 13), (6, 14), (6, 15), (6, 16)] [(6, 4), (6, 9), (6, 10), (6, 11)] none A ws s.heap (0) (0)) A) ([.ref h0, .ref b1] : List Value).toArray s (PC ws + (0)) (PS ws + (0)) A) (F0 m 150 ls []) := by
    intro dc_150_2 ds_150_2 ws_47 H locs ls  E_48 Fr_49 hG hc9 hs9 hP hD hS hl
    have o_h0 := E_48.1 _ _ o_h0
    refine lv_iconst (v := 0) hx hb dX7_isSound_150 (by decide) ?_
    exact J_151 (0) (dc_150_2) (ds_150_2) ws_47 H locs ls (Or.inl rfl) (E_48) (Fr_49) hG (by omega) (by omega) hP hD hS (lv_sub hl [] rfl)
  refine lv_if_eq (tgt := 150) hx hb dX7_isSound_35 (by decide) (fun c_50 => ?_) (fun c_50 => ?_)
  · exact J_150 (0) (0) ws_30 H locs ls (gE.rf) (gF.rf) hG (by have e0 : (0 : Int32).toInt = 0 := (by decide); omega) (by have e0 : (0 : Int32).toInt = 0 := (by decide); omega) hP hD hS (lv_sub hl [] rfl)
  · refine lv_aload_n hx hb dX7_isSound_38 rfl (lv_at hl 0 rfl) ?_
    have hFc := gfree hD hS hA
    obtain ⟨k_51, fs_51, hk_51⟩ := gC_of o_h0
    refine va_calli (va_runV (As := []) (rest := []) ⟨hx, hb, hml, hown, hts⟩ (m_X7_poolFits l g H.size ws_30 h0 hG o_h0) (cwV 0 hts (gd_V kw_1364 kw_1424 kw_1425 kw_710 kw_1423) rfl rfl rfl (by decide +kernel) ⟨Nat.le_of_ble_eq_true rfl, Nat.le_of_ble_eq_true rfl⟩) ⟨gblind, va_recv hK hP (ci := 6) (q0 := k_51) rfl hk_51, fun U hU hW9 => gmk hU hW9 hP hK hD hex hE hS hFc⟩ rfl rfl hl.1 rfl (lv_room (Nat.le_of_ble_eq_true rfl)) dX7_isSound_39 ⟨(show 0 + 0 ≤ PC ws + (0) from (by have e0 : (0 : Int32).toInt = 0 := (by decide); omega)), (show 0 + 0 ≤ PS ws + (0) from (by have e0 : (0 : Int32).toInt = 0 := (by decide); omega))⟩) hS (fun q _ h => hFc q h) hFc (fun r_52 ws_53 t9 H1 locs ht9 hvm9 hw9 hB9 hz9 hk9 hS => ?_)
    obtain ⟨E_54, Fr_55, hG, hP1, hD1⟩ := hB9
    have hP : va_P (gD g) cl0 ws_53 H1 := by rw [← ht9]; exact hP1
    have hD : va_D A ws_53 := hD1.weaken (fun _ _ _ h => hFc _ h)
    have hz_r_52 : r_52 = 0 ∨ r_52 = 1 := hw9
    clear hP1 hD1 hz9 hk9 hvm9 ht9 hw9
    generalize H1 = H at hP hS ⊢
    have o_h0 := E_54.1 _ _ o_h0
    have o_b1 := E_54.1 _ _ o_b1
    have pp_58 := Fr_55.pp
    refine lv_if_eq (tgt := 150) hx hb dX7_isSound_42 (by decide) (fun c_59 => ?_) (fun c_59 => ?_)
    · exact J_150 (0) (0) ws_53 H locs ls (E_54) ((gF.mo (F' := [(6, 2), (6, 3), (6, 5), (6, 6), (6, 7), (6, 8), (6, 12), (6, 13), (6, 14), (6, 15), (6, 16)]) (C' := [(6, 4), (6, 9), (6, 10), (6, 11)]) (S' := none) Fr_55 (by decide) (by decide) (Or.inr rfl))) hG (by have e0 : (0 : Int32).toInt = 0 := (by decide); omega) (by have e0 : (0 : Int32).toInt = 0 := (by decide); omega) hP hD hS (lv_sub hl [] rfl)
    · refine lv_aload_n hx hb dX7_isSound_45 rfl (lv_at hl 0 rfl) ?_
      have hFc := gfree hD hS hA
      obtain ⟨k_60, fs_60, hk_60⟩ := gC_of o_h0
      refine va_calli (va_runV (As := []) (rest := []) ⟨hx, hb, hml, hown, hts⟩ (m_X7_headFits l g H.size ws_53 h0 hG o_h0) (cwV 0 hts (gd_V kw_1365 kw_1333 kw_1334 kw_710 kw_1332) rfl rfl rfl (by decide +kernel) ⟨Nat.le_of_ble_eq_true rfl, Nat.le_of_ble_eq_true rfl⟩) ⟨gblind, va_recv hK hP (ci := 6) (q0 := k_60) rfl hk_60, fun U hU hW9 => gmk hU hW9 hP hK hD hex hE hS hFc⟩ rfl rfl hl.1 rfl (lv_room (Nat.le_of_ble_eq_true rfl)) dX7_isSound_46 ⟨(show 0 + 0 ≤ PC ws + (0) from (by have e0 : (0 : Int32).toInt = 0 := (by decide); omega)), (show 0 + 0 ≤ PS ws + (0) from (by have e0 : (0 : Int32).toInt = 0 := (by decide); omega))⟩) hS (fun q _ h => hFc q h) hFc (fun r_61 ws_62 t9 H1 locs ht9 hvm9 hw9 hB9 hz9 hk9 hS => ?_)
      obtain ⟨E_63, Fr_64, hG, hP1, hD1⟩ := hB9
      have hP : va_P (gD g) cl0 ws_62 H1 := by rw [← ht9]; exact hP1
      have hD : va_D A ws_62 := hD1.weaken (fun _ _ _ h => hFc _ h)
      have hz_r_61 : r_61 = 0 ∨ r_61 = 1 := hw9
      clear hP1 hD1 hz9 hk9 hvm9 ht9 hw9
      generalize H1 = H at hP hS ⊢
      have o_h0 := E_63.1 _ _ o_h0
      have o_b1 := E_63.1 _ _ o_b1
      have pp_67 := Fr_64.pp
      refine lv_if_eq (tgt := 150) hx hb dX7_isSound_49 (by decide) (fun c_68 => ?_) (fun c_68 => ?_)
      · exact J_150 (0) (0) ws_62 H locs ls ((E_54.tr E_63)) ((gF.tr (gF.mo (F' := [(6, 2), (6, 3), (6, 5), (6, 6), (6, 7), (6, 8), (6, 12), (6, 13), (6, 14), (6, 15), (6, 16)]) (C' := [(6, 4), (6, 9), (6, 10), (6, 11)]) (S' := none) Fr_55 (by decide) (by decide) (Or.inr rfl)) (gF.mo (F' := [(6, 2), (6, 3), (6, 5), (6, 6), (6, 7), (6, 8), (6, 12), (6, 13), (6, 14), (6, 15), (6, 16)]) (C' := [(6, 4), (6, 9), (6, 10), (6, 11)]) (S' := none) Fr_64 (by decide) (fun _ h => absurd h List.not_mem_nil) (Or.inr rfl)))) hG (by have e0 : (0 : Int32).toInt = 0 := (by decide); omega) (by have e0 : (0 : Int32).toInt = 0 := (by decide); omega) hP hD hS (lv_sub hl [] rfl)
      · refine lv_aload_n hx hb dX7_isSound_52 rfl (lv_at hl 0 rfl) ?_
        have hFc := gfree hD hS hA
        obtain ⟨k_69, fs_69, hk_69⟩ := gC_of o_h0
        refine va_calli (va_runV (As := []) (rest := []) ⟨hx, hb, hml, hown, hts⟩ (m_X7_fieldsFit l g H.size ws_62 h0 hG o_h0) (cwV 0 hts (gd_V kw_1366 kw_1317 kw_1318 kw_710 kw_1316) rfl rfl rfl (by decide +kernel) ⟨Nat.le_of_ble_eq_true rfl, Nat.le_of_ble_eq_true rfl⟩) ⟨gblind, va_recv hK hP (ci := 6) (q0 := k_69) rfl hk_69, fun U hU hW9 => gmk hU hW9 hP hK hD hex hE hS hFc⟩ rfl rfl hl.1 rfl (lv_room (Nat.le_of_ble_eq_true rfl)) dX7_isSound_53 ⟨(show 0 + 0 ≤ PC ws + (0) from (by have e0 : (0 : Int32).toInt = 0 := (by decide); omega)), (show 0 + 0 ≤ PS ws + (0) from (by have e0 : (0 : Int32).toInt = 0 := (by decide); omega))⟩) hS (fun q _ h => hFc q h) hFc (fun r_70 ws_71 t9 H1 locs ht9 hvm9 hw9 hB9 hz9 hk9 hS => ?_)
        obtain ⟨E_72, Fr_73, hG, hP1, hD1⟩ := hB9
        have hP : va_P (gD g) cl0 ws_71 H1 := by rw [← ht9]; exact hP1
        have hD : va_D A ws_71 := hD1.weaken (fun _ _ _ h => hFc _ h)
        obtain ⟨h_r_70, kf_76⟩ := id hw9
        clear hP1 hD1 hz9 hk9 hvm9 ht9 hw9
        generalize H1 = H at hP hS ⊢
        have o_h0 := E_72.1 _ _ o_h0
        have o_b1 := E_72.1 _ _ o_b1
        have pp_77 := Fr_73.pp
        have hz_r_70 := h_r_70
        refine lv_if_eq (tgt := 150) hx hb dX7_isSound_56 (by decide) (fun c_78 => ?_) (fun c_78 => ?_)
        · exact J_150 (0) (0) ws_71 H locs ls ((E_54.tr (E_63.tr E_72))) ((gF.tr (gF.mo (F' := [(6, 2), (6, 3), (6, 5), (6, 6), (6, 7), (6, 8), (6, 12), (6, 13), (6, 14), (6, 15), (6, 16)]) (C' := [(6, 4), (6, 9), (6, 10), (6, 11)]) (S' := none) Fr_55 (by decide) (by decide) (Or.inr rfl)) (gF.tr (gF.mo (F' := [(6, 2), (6, 3), (6, 5), (6, 6), (6, 7), (6, 8), (6, 12), (6, 13), (6, 14), (6, 15), (6, 16)]) (C' := [(6, 4), (6, 9), (6, 10), (6, 11)]) (S' := none) Fr_64 (by decide) (fun _ h => absurd h List.not_mem_nil) (Or.inr rfl)) (gF.mo (F' := [(6, 2), (6, 3), (6, 5), (6, 6), (6, 7), (6, 8), (6, 12), (6, 13), (6, 14), (6, 15), (6, 16)]) (C' := [(6, 4), (6, 9), (6, 10), (6, 11)]) (S' := none) Fr_73 (by decide) (by decide) (Or.inr rfl))))) hG (by have e0 : (0 : Int32).toInt = 0 := (by decide); omega) (by have e0 : (0 : Int32).toInt = 0 := (by decide); omega) hP hD hS (lv_sub hl [] rfl)
        · refine lv_aload_n hx hb dX7_isSound_59 rfl (lv_at hl 0 rfl) ?_
          obtain ⟨fs9, hk_79, hq_79⟩ := ((gA.tr (gF.a (F' := [(6, 2), (6, 3), (6, 5), (6, 6), (6, 7), (6, 8), (6, 15)]) Fr_32 (by decide)) (gA.tr (gF.a (F' := [(6, 2), (6, 3), (6, 5), (6, 6), (6, 7), (6, 8), (6, 15)]) Fr_55 (by decide)) (gA.tr (gF.a (F' := [(6, 2), (6, 3), (6, 5), (6, 6), (6, 7), (6, 8), (6, 15)]) Fr_64 (by decide)) (gF.a (F' := [(6, 2), (6, 3), (6, 5), (6, 6), (6, 7), (6, 8), (6, 15)]) Fr_73 (by decide)))))) _ _ _ hk_2
          obtain ⟨r0_79, n0_79, c1_79, c2_79, c3_79, r4_79, n4_79, c5_79, c6_79, c7_79, c8_79, r9_79, n9_79, r10_79, n10_79, r11_79, n11_79, c12_79, c13_79, c14_79, c15_79, c16_79, rfl, a_r0_79, f1_79, a_r4_79, f3_79, a_r9_79, f5_79, a_r10_79, f7_79, a_r11_79, f9_79, f10_79, f11_79, f12_79, f13_79, f14_79, -⟩ := (hG.1 _ _ _ _ hk_79).hX7 rfl
          obtain rfl := fe_i (hq_79 1 (by decide))
          have kq_80 := kf_76 _ _ _ hk_79 _ rfl
          have hFc := gfree hD hS hA
          refine va_calli (va_runV (As := []) (rest := []) ⟨hx, hb, hml, hown, hts⟩ (m_X7_methodsFit l g H.size ws_71 h0 hG o_h0 (gP_of hD hk_79 (fun q90 e90 => by cases e90; exact (by have e0 : (0 : Int32).toInt = 0 := (by decide); have q_kq_80 := kq_80; have q_c_78 := i_ne c_78; have g_c7_79 := i_rg c7_79; have g_r_70 := i_rg r_70; have b_r_70 := i_bit hz_r_70; omega)))) (cwV 0 hts (gd_V kw_1367 kw_1400 kw_1401 kw_710 kw_1399) rfl rfl rfl (by decide +kernel) ⟨Nat.le_of_ble_eq_true rfl, Nat.le_of_ble_eq_true rfl⟩) ⟨gblind, va_recv hK hP (ci := 6) (q0 := k_2) rfl hk_79, fun U hU hW9 => gmk hU hW9 hP hK hD hex hE hS hFc⟩ rfl rfl hl.1 rfl (lv_room (Nat.le_of_ble_eq_true rfl)) dX7_isSound_60 ⟨(show 0 + 0 ≤ PC ws + (0) from (by have e0 : (0 : Int32).toInt = 0 := (by decide); omega)), (show 0 + 0 ≤ PS ws + (0) from (by have e0 : (0 : Int32).toInt = 0 := (by decide); omega))⟩) hS (fun q _ h => hFc q h) hFc (fun r_81 ws_82 t9 H1 locs ht9 hvm9 hw9 hB9 hz9 hk9 hS => ?_)
          obtain ⟨E_83, Fr_84, hG, hP1, hD1⟩ := hB9
          have hP : va_P (gD g) cl0 ws_82 H1 := by rw [← ht9]; exact hP1
          have hD : va_D A ws_82 := hD1.weaken (fun _ _ _ h => hFc _ h)
          have hz_r_81 : r_81 = 0 ∨ r_81 = 1 := hw9
          clear hP1 hD1 hz9 hk9 hvm9 ht9 hw9
          generalize H1 = H at hP hS ⊢
          have aa_87 := a_r0_79
          have aa_88 := a_r4_79
          have aa_89 := a_r9_79
          have aa_90 := a_r10_79
          have aa_91 := a_r11_79
          have o_h0 := E_83.1 _ _ o_h0
          have o_b1 := E_83.1 _ _ o_b1
          have pp_92 := Fr_84.pp
          refine lv_if_eq (tgt := 150) hx hb dX7_isSound_63 (by decide) (fun c_93 => ?_) (fun c_93 => ?_)
          · exact J_150 (0) (0) ws_82 H locs ls ((E_54.tr (E_63.tr (E_72.tr E_83)))) ((gF.tr (gF.mo (F' := [(6, 2), (6, 3), (6, 5), (6, 6), (6, 7), (6, 8), (6, 12), (6, 13), (6, 14), (6, 15), (6, 16)]) (C' := [(6, 4), (6, 9), (6, 10), (6, 11)]) (S' := none) Fr_55 (by decide) (by decide) (Or.inr rfl)) (gF.tr (gF.mo (F' := [(6, 2), (6, 3), (6, 5), (6, 6), (6, 7), (6, 8), (6, 12), (6, 13), (6, 14), (6, 15), (6, 16)]) (C' := [(6, 4), (6, 9), (6, 10), (6, 11)]) (S' := none) Fr_64 (by decide) (fun _ h => absurd h List.not_mem_nil) (Or.inr rfl)) (gF.tr (gF.mo (F' := [(6, 2), (6, 3), (6, 5), (6, 6), (6, 7), (6, 8), (6, 12), (6, 13), (6, 14), (6, 15), (6, 16)]) (C' := [(6, 4), (6, 9), (6, 10), (6, 11)]) (S' := none) Fr_73 (by decide) (by decide) (Or.inr rfl)) (gF.mo (F' := [(6, 2), (6, 3), (6, 5), (6, 6), (6, 7), (6, 8), (6, 12), (6, 13), (6, 14), (6, 15), (6, 16)]) (C' := [(6, 4), (6, 9), (6, 10), (6, 11)]) (S' := none) Fr_84 (by decide) (by decide) (Or.inr rfl)))))) hG (by have e0 : (0 : Int32).toInt = 0 := (by decide); omega) (by have e0 : (0 : Int32).toInt = 0 := (by decide); omega) hP hD hS (lv_sub hl [] rfl)
          · refine lv_aload_n hx hb dX7_isSound_66 rfl (lv_at hl 0 rfl) ?_
            have hFc := gfree hD hS hA
            obtain ⟨k_94, fs_94, hk_94⟩ := gC_of o_h0
            refine va_calli (va_runV (As := []) (rest := []) ⟨hx, hb, hml, hown, hts⟩ (m_X7_fileAttributesFit l g H.size ws_82 h0 hG o_h0) (cwV 0 hts (gd_V kw_1368 kw_1321 kw_1322 kw_710 kw_1320) rfl rfl rfl (by decide +kernel) ⟨Nat.le_of_ble_eq_true rfl, Nat.le_of_ble_eq_true rfl⟩) ⟨gblind, va_recv hK hP (ci := 6) (q0 := k_94) rfl hk_94, fun U hU hW9 => gmk hU hW9 hP hK hD hex hE hS hFc⟩ rfl rfl hl.1 rfl (lv_room (Nat.le_of_ble_eq_true rfl)) dX7_isSound_67 ⟨(show 0 + 0 ≤ PC ws + (0) from (by have e0 : (0 : Int32).toInt = 0 := (by decide); omega)), (show 0 + 0 ≤ PS ws + (0) from (by have e0 : (0 : Int32).toInt = 0 := (by decide); omega))⟩) hS (fun q _ h => hFc q h) hFc (fun r_95 ws_96 t9 H1 locs ht9 hvm9 hw9 hB9 hz9 hk9 hS => ?_)
            obtain ⟨E_97, Fr_98, hG, hP1, hD1⟩ := hB9
            have hP : va_P (gD g) cl0 ws_96 H1 := by rw [← ht9]; exact hP1
            have hD : va_D A ws_96 := hD1.weaken (fun _ _ _ h => hFc _ h)
            have hz_r_95 : r_95 = 0 ∨ r_95 = 1 := hw9
            clear hP1 hD1 hz9 hk9 hvm9 ht9 hw9
            generalize H1 = H at hP hS ⊢
            have o_h0 := E_97.1 _ _ o_h0
            have o_b1 := E_97.1 _ _ o_b1
            have pp_101 := Fr_98.pp
            refine lv_if_eq (tgt := 150) hx hb dX7_isSound_70 (by decide) (fun c_102 => ?_) (fun c_102 => ?_)
            · exact J_150 (0) (0) ws_96 H locs ls ((E_54.tr (E_63.tr (E_72.tr (E_83.tr E_97))))) ((gF.tr (gF.mo (F' := [(6, 2), (6, 3), (6, 5), (6, 6), (6, 7), (6, 8), (6, 12), (6, 13), (6, 14), (6, 15), (6, 16)]) (C' := [(6, 4), (6, 9), (6, 10), (6, 11)]) (S' := none) Fr_55 (by decide) (by decide) (Or.inr rfl)) (gF.tr (gF.mo (F' := [(6, 2), (6, 3), (6, 5), (6, 6), (6, 7), (6, 8), (6, 12), (6, 13), (6, 14), (6, 15), (6, 16)]) (C' := [(6, 4), (6, 9), (6, 10), (6, 11)]) (S' := none) Fr_64 (by decide) (fun _ h => absurd h List.not_mem_nil) (Or.inr rfl)) (gF.tr (gF.mo (F' := [(6, 2), (6, 3), (6, 5), (6, 6), (6, 7), (6, 8), (6, 12), (6, 13), (6, 14), (6, 15), (6, 16)]) (C' := [(6, 4), (6, 9), (6, 10), (6, 11)]) (S' := none) Fr_73 (by decide) (by decide) (Or.inr rfl)) (gF.tr (gF.mo (F' := [(6, 2), (6, 3), (6, 5), (6, 6), (6, 7), (6, 8), (6, 12), (6, 13), (6, 14), (6, 15), (6, 16)]) (C' := [(6, 4), (6, 9), (6, 10), (6, 11)]) (S' := none) Fr_84 (by decide) (by decide) (Or.inr rfl)) (gF.mo (F' := [(6, 2), (6, 3), (6, 5), (6, 6), (6, 7), (6, 8), (6, 12), (6, 13), (6, 14), (6, 15), (6, 16)]) (C' := [(6, 4), (6, 9), (6, 10), (6, 11)]) (S' := none) Fr_98 (by decide) (fun _ h => absurd h List.not_mem_nil) (Or.inr rfl))))))) hG (by have e0 : (0 : Int32).toInt = 0 := (by decide); omega) (by have e0 : (0 : Int32).toInt = 0 := (by decide); omega) hP hD hS (lv_sub hl [] rfl)
            · refine lv_aload_n hx hb dX7_isSound_73 rfl (lv_at hl 0 rfl) ?_
              have hFc := gfree hD hS hA
              obtain ⟨k_103, fs_103, hk_103⟩ := gC_of o_h0
              refine va_calli (va_runV (As := []) (rest := []) ⟨hx, hb, hml, hown, hts⟩ (m_X7_entriesPoint l g H.size ws_96 h0 hG o_h0) (cwV 0 hts (gd_V kw_1369 kw_1292 kw_1293 kw_710 kw_1291) rfl rfl rfl (by decide +kernel) ⟨Nat.le_of_ble_eq_true rfl, Nat.le_of_ble_eq_true rfl⟩) ⟨gblind, va_recv hK hP (ci := 6) (q0 := k_103) rfl hk_103, fun U hU hW9 => gmk hU hW9 hP hK hD hex hE hS hFc⟩ rfl rfl hl.1 rfl (lv_room (Nat.le_of_ble_eq_true rfl)) dX7_isSound_74 ⟨(show 0 + 0 ≤ PC ws + (0) from (by have e0 : (0 : Int32).toInt = 0 := (by decide); omega)), (show 0 + 0 ≤ PS ws + (0) from (by have e0 : (0 : Int32).toInt = 0 := (by decide); omega))⟩) hS (fun q _ h => hFc q h) hFc (fun r_104 ws_105 t9 H1 locs ht9 hvm9 hw9 hB9 hz9 hk9 hS => ?_)
              obtain ⟨E_106, Fr_107, hG, hP1, hD1⟩ := hB9
              have hP : va_P (gD g) cl0 ws_105 H1 := by rw [← ht9]; exact hP1
              have hD : va_D A ws_105 := hD1.weaken (fun _ _ _ h => hFc _ h)
              have hz_r_104 : r_104 = 0 ∨ r_104 = 1 := hw9
              clear hP1 hD1 hz9 hk9 hvm9 ht9 hw9
              generalize H1 = H at hP hS ⊢
              have o_h0 := E_106.1 _ _ o_h0
              have o_b1 := E_106.1 _ _ o_b1
              have pp_110 := Fr_107.pp
              refine lv_if_eq (tgt := 150) hx hb dX7_isSound_77 (by decide) (fun c_111 => ?_) (fun c_111 => ?_)
              · exact J_150 (0) (0) ws_105 H locs ls ((E_54.tr (E_63.tr (E_72.tr (E_83.tr (E_97.tr E_106)))))) ((gF.tr (gF.mo (F' := [(6, 2), (6, 3), (6, 5), (6, 6), (6, 7), (6, 8), (6, 12), (6, 13), (6, 14), (6, 15), (6, 16)]) (C' := [(6, 4), (6, 9), (6, 10), (6, 11)]) (S' := none) Fr_55 (by decide) (by decide) (Or.inr rfl)) (gF.tr (gF.mo (F' := [(6, 2), (6, 3), (6, 5), (6, 6), (6, 7), (6, 8), (6, 12), (6, 13), (6, 14), (6, 15), (6, 16)]) (C' := [(6, 4), (6, 9), (6, 10), (6, 11)]) (S' := none) Fr_64 (by decide) (fun _ h => absurd h List.not_mem_nil) (Or.inr rfl)) (gF.tr (gF.mo (F' := [(6, 2), (6, 3), (6, 5), (6, 6), (6, 7), (6, 8), (6, 12), (6, 13), (6, 14), (6, 15), (6, 16)]) (C' := [(6, 4), (6, 9), (6, 10), (6, 11)]) (S' := none) Fr_73 (by decide) (by decide) (Or.inr rfl)) (gF.tr (gF.mo (F' := [(6, 2), (6, 3), (6, 5), (6, 6), (6, 7), (6, 8), (6, 12), (6, 13), (6, 14), (6, 15), (6, 16)]) (C' := [(6, 4), (6, 9), (6, 10), (6, 11)]) (S' := none) Fr_84 (by decide) (by decide) (Or.inr rfl)) (gF.tr (gF.mo (F' := [(6, 2), (6, 3), (6, 5), (6, 6), (6, 7), (6, 8), (6, 12), (6, 13), (6, 14), (6, 15), (6, 16)]) (C' := [(6, 4), (6, 9), (6, 10), (6, 11)]) (S' := none) Fr_98 (by decide) (fun _ h => absurd h List.not_mem_nil) (Or.inr rfl)) (gF.mo (F' := [(6, 2), (6, 3), (6, 5), (6, 6), (6, 7), (6, 8), (6, 12), (6, 13), (6, 14), (6, 15), (6, 16)]) (C' := [(6, 4), (6, 9), (6, 10), (6, 11)]) (S' := none) Fr_107 (by decide) (fun _ h => absurd h List.not_mem_nil) (Or.inr rfl)))))))) hG (by have e0 : (0 : Int32).toInt = 0 := (by decide); omega) (by have e0 : (0 : Int32).toInt = 0 := (by decide); omega) hP hD hS (lv_sub hl [] rfl)
              · refine lv_aload_n hx hb dX7_isSound_80 rfl (lv_at hl 0 rfl) ?_
                have hFc := gfree hD hS hA
                obtain ⟨k_112, fs_112, hk_112⟩ := gC_of o_h0
                refine va_calli (va_runV (As := []) (rest := []) ⟨hx, hb, hml, hown, hts⟩ (m_X7_flagsHold l g H.size ws_105 h0 hG o_h0) (cwV 0 hts (gd_V kw_1370 kw_1329 kw_1330 kw_710 kw_1328) rfl rfl rfl (by decide +kernel) ⟨Nat.le_of_ble_eq_true rfl, Nat.le_of_ble_eq_true rfl⟩) ⟨gblind, va_recv hK hP (ci := 6) (q0 := k_112) rfl hk_112, fun U hU hW9 => gmk hU hW9 hP hK hD hex hE hS hFc⟩ rfl rfl hl.1 rfl (lv_room (Nat.le_of_ble_eq_true rfl)) dX7_isSound_81 ⟨(show 0 + 0 ≤ PC ws + (0) from (by have e0 : (0 : Int32).toInt = 0 := (by decide); omega)), (show 0 + 0 ≤ PS ws + (0) from (by have e0 : (0 : Int32).toInt = 0 := (by decide); omega))⟩) hS (fun q _ h => hFc q h) hFc (fun r_113 ws_114 t9 H1 locs ht9 hvm9 hw9 hB9 hz9 hk9 hS => ?_)
                obtain ⟨E_115, Fr_116, hG, hP1, hD1⟩ := hB9
                have hP : va_P (gD g) cl0 ws_114 H1 := by rw [← ht9]; exact hP1
                have hD : va_D A ws_114 := hD1.weaken (fun _ _ _ h => hFc _ h)
                have hz_r_113 : r_113 = 0 ∨ r_113 = 1 := hw9
                clear hP1 hD1 hz9 hk9 hvm9 ht9 hw9
                generalize H1 = H at hP hS ⊢
                have o_h0 := E_115.1 _ _ o_h0
                have o_b1 := E_115.1 _ _ o_b1
                have pp_119 := Fr_116.pp
                refine lv_if_eq (tgt := 150) hx hb dX7_isSound_84 (by decide) (fun c_120 => ?_) (fun c_120 => ?_)
                · exact J_150 (0) (0) ws_114 H locs ls ((E_54.tr (E_63.tr (E_72.tr (E_83.tr (E_97.tr (E_106.tr E_115))))))) ((gF.tr (gF.mo (F' := [(6, 2), (6, 3), (6, 5), (6, 6), (6, 7), (6, 8), (6, 12), (6, 13), (6, 14), (6, 15), (6, 16)]) (C' := [(6, 4), (6, 9), (6, 10), (6, 11)]) (S' := none) Fr_55 (by decide) (by decide) (Or.inr rfl)) (gF.tr (gF.mo (F' := [(6, 2), (6, 3), (6, 5), (6, 6), (6, 7), (6, 8), (6, 12), (6, 13), (6, 14), (6, 15), (6, 16)]) (C' := [(6, 4), (6, 9), (6, 10), (6, 11)]) (S' := none) Fr_64 (by decide) (fun _ h => absurd h List.not_mem_nil) (Or.inr rfl)) (gF.tr (gF.mo (F' := [(6, 2), (6, 3), (6, 5), (6, 6), (6, 7), (6, 8), (6, 12), (6, 13), (6, 14), (6, 15), (6, 16)]) (C' := [(6, 4), (6, 9), (6, 10), (6, 11)]) (S' := none) Fr_73 (by decide) (by decide) (Or.inr rfl)) (gF.tr (gF.mo (F' := [(6, 2), (6, 3), (6, 5), (6, 6), (6, 7), (6, 8), (6, 12), (6, 13), (6, 14), (6, 15), (6, 16)]) (C' := [(6, 4), (6, 9), (6, 10), (6, 11)]) (S' := none) Fr_84 (by decide) (by decide) (Or.inr rfl)) (gF.tr (gF.mo (F' := [(6, 2), (6, 3), (6, 5), (6, 6), (6, 7), (6, 8), (6, 12), (6, 13), (6, 14), (6, 15), (6, 16)]) (C' := [(6, 4), (6, 9), (6, 10), (6, 11)]) (S' := none) Fr_98 (by decide) (fun _ h => absurd h List.not_mem_nil) (Or.inr rfl)) (gF.tr (gF.mo (F' := [(6, 2), (6, 3), (6, 5), (6, 6), (6, 7), (6, 8), (6, 12), (6, 13), (6, 14), (6, 15), (6, 16)]) (C' := [(6, 4), (6, 9), (6, 10), (6, 11)]) (S' := none) Fr_107 (by decide) (fun _ h => absurd h List.not_mem_nil) (Or.inr rfl)) (gF.mo (F' := [(6, 2), (6, 3), (6, 5), (6, 6), (6, 7), (6, 8), (6, 12), (6, 13), (6, 14), (6, 15), (6, 16)]) (C' := [(6, 4), (6, 9), (6, 10), (6, 11)]) (S' := none) Fr_116 (by decide) (fun _ h => absurd h List.not_mem_nil) (Or.inr rfl))))))))) hG (by have e0 : (0 : Int32).toInt = 0 := (by decide); omega) (by have e0 : (0 : Int32).toInt = 0 := (by decide); omega) hP hD hS (lv_sub hl [] rfl)
                · refine lv_aload_n hx hb dX7_isSound_87 rfl (lv_at hl 0 rfl) ?_
                  have hFc := gfree hD hS hA
                  obtain ⟨k_121, fs_121, hk_121⟩ := gC_of o_h0
                  refine va_calli (va_runV (As := []) (rest := []) ⟨hx, hb, hml, hown, hts⟩ (m_X7_headHolds l g H.size ws_114 h0 hG o_h0) (cwV 0 hts (gd_V kw_1371 kw_1336 kw_1337 kw_710 kw_1335) rfl rfl rfl (by decide +kernel) ⟨Nat.le_of_ble_eq_true rfl, Nat.le_of_ble_eq_true rfl⟩) ⟨gblind, va_recv hK hP (ci := 6) (q0 := k_121) rfl hk_121, fun U hU hW9 => gmk hU hW9 hP hK hD hex hE hS hFc⟩ rfl rfl hl.1 rfl (lv_room (Nat.le_of_ble_eq_true rfl)) dX7_isSound_88 ⟨(show 0 + 0 ≤ PC ws + (0) from (by have e0 : (0 : Int32).toInt = 0 := (by decide); omega)), (show 0 + 0 ≤ PS ws + (0) from (by have e0 : (0 : Int32).toInt = 0 := (by decide); omega))⟩) hS (fun q _ h => hFc q h) hFc (fun r_122 ws_123 t9 H1 locs ht9 hvm9 hw9 hB9 hz9 hk9 hS => ?_)
                  obtain ⟨E_124, Fr_125, hG, hP1, hD1⟩ := hB9
                  have hP : va_P (gD g) cl0 ws_123 H1 := by rw [← ht9]; exact hP1
                  have hD : va_D A ws_123 := hD1.weaken (fun _ _ _ h => hFc _ h)
                  have hz_r_122 : r_122 = 0 ∨ r_122 = 1 := hw9
                  clear hP1 hD1 hz9 hk9 hvm9 ht9 hw9
                  generalize H1 = H at hP hS ⊢
                  have o_h0 := E_124.1 _ _ o_h0
                  have o_b1 := E_124.1 _ _ o_b1
                  have pp_128 := Fr_125.pp
                  refine lv_if_eq (tgt := 150) hx hb dX7_isSound_91 (by decide) (fun c_129 => ?_) (fun c_129 => ?_)
                  · exact J_150 (0) (0) ws_123 H locs ls ((E_54.tr (E_63.tr (E_72.tr (E_83.tr (E_97.tr (E_106.tr (E_115.tr E_124)))))))) ((gF.tr (gF.mo (F' := [(6, 2), (6, 3), (6, 5), (6, 6), (6, 7), (6, 8), (6, 12), (6, 13), (6, 14), (6, 15), (6, 16)]) (C' := [(6, 4), (6, 9), (6, 10), (6, 11)]) (S' := none) Fr_55 (by decide) (by decide) (Or.inr rfl)) (gF.tr (gF.mo (F' := [(6, 2), (6, 3), (6, 5), (6, 6), (6, 7), (6, 8), (6, 12), (6, 13), (6, 14), (6, 15), (6, 16)]) (C' := [(6, 4), (6, 9), (6, 10), (6, 11)]) (S' := none) Fr_64 (by decide) (fun _ h => absurd h List.not_mem_nil) (Or.inr rfl)) (gF.tr (gF.mo (F' := [(6, 2), (6, 3), (6, 5), (6, 6), (6, 7), (6, 8), (6, 12), (6, 13), (6, 14), (6, 15), (6, 16)]) (C' := [(6, 4), (6, 9), (6, 10), (6, 11)]) (S' := none) Fr_73 (by decide) (by decide) (Or.inr rfl)) (gF.tr (gF.mo (F' := [(6, 2), (6, 3), (6, 5), (6, 6), (6, 7), (6, 8), (6, 12), (6, 13), (6, 14), (6, 15), (6, 16)]) (C' := [(6, 4), (6, 9), (6, 10), (6, 11)]) (S' := none) Fr_84 (by decide) (by decide) (Or.inr rfl)) (gF.tr (gF.mo (F' := [(6, 2), (6, 3), (6, 5), (6, 6), (6, 7), (6, 8), (6, 12), (6, 13), (6, 14), (6, 15), (6, 16)]) (C' := [(6, 4), (6, 9), (6, 10), (6, 11)]) (S' := none) Fr_98 (by decide) (fun _ h => absurd h List.not_mem_nil) (Or.inr rfl)) (gF.tr (gF.mo (F' := [(6, 2), (6, 3), (6, 5), (6, 6), (6, 7), (6, 8), (6, 12), (6, 13), (6, 14), (6, 15), (6, 16)]) (C' := [(6, 4), (6, 9), (6, 10), (6, 11)]) (S' := none) Fr_107 (by decide) (fun _ h => absurd h List.not_mem_nil) (Or.inr rfl)) (gF.tr (gF.mo (F' := [(6, 2), (6, 3), (6, 5), (6, 6), (6, 7), (6, 8), (6, 12), (6, 13), (6, 14), (6, 15), (6, 16)]) (C' := [(6, 4), (6, 9), (6, 10), (6, 11)]) (S' := none) Fr_116 (by decide) (fun _ h => absurd h List.not_mem_nil) (Or.inr rfl)) (gF.mo (F' := [(6, 2), (6, 3), (6, 5), (6, 6), (6, 7), (6, 8), (6, 12), (6, 13), (6, 14), (6, 15), (6, 16)]) (C' := [(6, 4), (6, 9), (6, 10), (6, 11)]) (S' := none) Fr_125 (by decide) (fun _ h => absurd h List.not_mem_nil) (Or.inr rfl)))))))))) hG (by have e0 : (0 : Int32).toInt = 0 := (by decide); omega) (by have e0 : (0 : Int32).toInt = 0 := (by decide); omega) hP hD hS (lv_sub hl [] rfl)
                  · refine lv_aload_n hx hb dX7_isSound_94 rfl (lv_at hl 0 rfl) ?_
                    have hFc := gfree hD hS hA
                    obtain ⟨k_130, fs_130, hk_130⟩ := gC_of o_h0
                    refine va_calli (va_runV (As := []) (rest := []) ⟨hx, hb, hml, hown, hts⟩ (m_X7_namesHold l g H.size ws_123 h0 hG o_h0) (cwV 0 hts (gd_V kw_1372 kw_1415 kw_1416 kw_710 kw_1414) rfl rfl rfl (by decide +kernel) ⟨Nat.le_of_ble_eq_true rfl, Nat.le_of_ble_eq_true rfl⟩) ⟨gblind, va_recv hK hP (ci := 6) (q0 := k_130) rfl hk_130, fun U hU hW9 => gmk hU hW9 hP hK hD hex hE hS hFc⟩ rfl rfl hl.1 rfl (lv_room (Nat.le_of_ble_eq_true rfl)) dX7_isSound_95 ⟨(show 0 + 0 ≤ PC ws + (0) from (by have e0 : (0 : Int32).toInt = 0 := (by decide); omega)), (show 0 + 0 ≤ PS ws + (0) from (by have e0 : (0 : Int32).toInt = 0 := (by decide); omega))⟩) hS (fun q _ h => hFc q h) hFc (fun r_131 ws_132 t9 H1 locs ht9 hvm9 hw9 hB9 hz9 hk9 hS => ?_)
                    obtain ⟨E_133, Fr_134, hG, hP1, hD1⟩ := hB9
                    have hP : va_P (gD g) cl0 ws_132 H1 := by rw [← ht9]; exact hP1
                    have hD : va_D A ws_132 := hD1.weaken (fun _ _ _ h => hFc _ h)
                    have hz_r_131 : r_131 = 0 ∨ r_131 = 1 := hw9
                    clear hP1 hD1 hz9 hk9 hvm9 ht9 hw9
                    generalize H1 = H at hP hS ⊢
                    have o_h0 := E_133.1 _ _ o_h0
                    have o_b1 := E_133.1 _ _ o_b1
                    have pp_137 := Fr_134.pp
                    refine lv_if_eq (tgt := 150) hx hb dX7_isSound_98 (by decide) (fun c_138 => ?_) (fun c_138 => ?_)
                    · exact J_150 (0) (0) ws_132 H locs ls ((E_54.tr (E_63.tr (E_72.tr (E_83.tr (E_97.tr (E_106.tr (E_115.tr (E_124.tr E_133))))))))) ((gF.tr (gF.mo (F' := [(6, 2), (6, 3), (6, 5), (6, 6), (6, 7), (6, 8), (6, 12), (6, 13), (6, 14), (6, 15), (6, 16)]) (C' := [(6, 4), (6, 9), (6, 10), (6, 11)]) (S' := none) Fr_55 (by decide) (by decide) (Or.inr rfl)) (gF.tr (gF.mo (F' := [(6, 2), (6, 3), (6, 5), (6, 6), (6, 7), (6, 8), (6, 12), (6, 13), (6, 14), (6, 15), (6, 16)]) (C' := [(6, 4), (6, 9), (6, 10), (6, 11)]) (S' := none) Fr_64 (by decide) (fun _ h => absurd h List.not_mem_nil) (Or.inr rfl)) (gF.tr (gF.mo (F' := [(6, 2), (6, 3), (6, 5), (6, 6), (6, 7), (6, 8), (6, 12), (6, 13), (6, 14), (6, 15), (6, 16)]) (C' := [(6, 4), (6, 9), (6, 10), (6, 11)]) (S' := none) Fr_73 (by decide) (by decide) (Or.inr rfl)) (gF.tr (gF.mo (F' := [(6, 2), (6, 3), (6, 5), (6, 6), (6, 7), (6, 8), (6, 12), (6, 13), (6, 14), (6, 15), (6, 16)]) (C' := [(6, 4), (6, 9), (6, 10), (6, 11)]) (S' := none) Fr_84 (by decide) (by decide) (Or.inr rfl)) (gF.tr (gF.mo (F' := [(6, 2), (6, 3), (6, 5), (6, 6), (6, 7), (6, 8), (6, 12), (6, 13), (6, 14), (6, 15), (6, 16)]) (C' := [(6, 4), (6, 9), (6, 10), (6, 11)]) (S' := none) Fr_98 (by decide) (fun _ h => absurd h List.not_mem_nil) (Or.inr rfl)) (gF.tr (gF.mo (F' := [(6, 2), (6, 3), (6, 5), (6, 6), (6, 7), (6, 8), (6, 12), (6, 13), (6, 14), (6, 15), (6, 16)]) (C' := [(6, 4), (6, 9), (6, 10), (6, 11)]) (S' := none) Fr_107 (by decide) (fun _ h => absurd h List.not_mem_nil) (Or.inr rfl)) (gF.tr (gF.mo (F' := [(6, 2), (6, 3), (6, 5), (6, 6), (6, 7), (6, 8), (6, 12), (6, 13), (6, 14), (6, 15), (6, 16)]) (C' := [(6, 4), (6, 9), (6, 10), (6, 11)]) (S' := none) Fr_116 (by decide) (fun _ h => absurd h List.not_mem_nil) (Or.inr rfl)) (gF.tr (gF.mo (F' := [(6, 2), (6, 3), (6, 5), (6, 6), (6, 7), (6, 8), (6, 12), (6, 13), (6, 14), (6, 15), (6, 16)]) (C' := [(6, 4), (6, 9), (6, 10), (6, 11)]) (S' := none) Fr_125 (by decide) (fun _ h => absurd h List.not_mem_nil) (Or.inr rfl)) (gF.mo (F' := [(6, 2), (6, 3), (6, 5), (6, 6), (6, 7), (6, 8), (6, 12), (6, 13), (6, 14), (6, 15), (6, 16)]) (C' := [(6, 4), (6, 9), (6, 10), (6, 11)]) (S' := none) Fr_134 (by decide) (fun _ h => absurd h List.not_mem_nil) (Or.inr rfl))))))))))) hG (by have e0 : (0 : Int32).toInt = 0 := (by decide); omega) (by have e0 : (0 : Int32).toInt = 0 := (by decide); omega) hP hD hS (lv_sub hl [] rfl)
                    · refine lv_aload_n hx hb dX7_isSound_101 rfl (lv_at hl 0 rfl) ?_
                      have hFc := gfree hD hS hA
                      obtain ⟨k_139, fs_139, hk_139⟩ := gC_of o_h0
                      refine va_calli (va_runV (As := []) (rest := []) ⟨hx, hb, hml, hown, hts⟩ (m_X7_typesHold l g H.size ws_132 h0 hG o_h0) (cwV 0 hts (gd_V kw_1373 kw_1441 kw_1442 kw_710 kw_1440) rfl rfl rfl (by decide +kernel) ⟨Nat.le_of_ble_eq_true rfl, Nat.le_of_ble_eq_true rfl⟩) ⟨gblind, va_recv hK hP (ci := 6) (q0 := k_139) rfl hk_139, fun U hU hW9 => gmk hU hW9 hP hK hD hex hE hS hFc⟩ rfl rfl hl.1 rfl (lv_room (Nat.le_of_ble_eq_true rfl)) dX7_isSound_102 ⟨(show 0 + 0 ≤ PC ws + (0) from (by have e0 : (0 : Int32).toInt = 0 := (by decide); omega)), (show 0 + 0 ≤ PS ws + (0) from (by have e0 : (0 : Int32).toInt = 0 := (by decide); omega))⟩) hS (fun q _ h => hFc q h) hFc (fun r_140 ws_141 t9 H1 locs ht9 hvm9 hw9 hB9 hz9 hk9 hS => ?_)
                      obtain ⟨E_142, Fr_143, hG, hP1, hD1⟩ := hB9
                      have hP : va_P (gD g) cl0 ws_141 H1 := by rw [← ht9]; exact hP1
                      have hD : va_D A ws_141 := hD1.weaken (fun _ _ _ h => hFc _ h)
                      have hz_r_140 : r_140 = 0 ∨ r_140 = 1 := hw9
                      clear hP1 hD1 hz9 hk9 hvm9 ht9 hw9
                      generalize H1 = H at hP hS ⊢
                      have o_h0 := E_142.1 _ _ o_h0
                      have o_b1 := E_142.1 _ _ o_b1
                      have pp_146 := Fr_143.pp
                      refine lv_if_eq (tgt := 150) hx hb dX7_isSound_105 (by decide) (fun c_147 => ?_) (fun c_147 => ?_)
                      · exact J_150 (0) (0) ws_141 H locs ls ((E_54.tr (E_63.tr (E_72.tr (E_83.tr (E_97.tr (E_106.tr (E_115.tr (E_124.tr (E_133.tr E_142)))))))))) ((gF.tr (gF.mo (F' := [(6, 2), (6, 3), (6, 5), (6, 6), (6, 7), (6, 8), (6, 12), (6, 13), (6, 14), (6, 15), (6, 16)]) (C' := [(6, 4), (6, 9), (6, 10), (6, 11)]) (S' := none) Fr_55 (by decide) (by decide) (Or.inr rfl)) (gF.tr (gF.mo (F' := [(6, 2), (6, 3), (6, 5), (6, 6), (6, 7), (6, 8), (6, 12), (6, 13), (6, 14), (6, 15), (6, 16)]) (C' := [(6, 4), (6, 9), (6, 10), (6, 11)]) (S' := none) Fr_64 (by decide) (fun _ h => absurd h List.not_mem_nil) (Or.inr rfl)) (gF.tr (gF.mo (F' := [(6, 2), (6, 3), (6, 5), (6, 6), (6, 7), (6, 8), (6, 12), (6, 13), (6, 14), (6, 15), (6, 16)]) (C' := [(6, 4), (6, 9), (6, 10), (6, 11)]) (S' := none) Fr_73 (by decide) (by decide) (Or.inr rfl)) (gF.tr (gF.mo (F' := [(6, 2), (6, 3), (6, 5), (6, 6), (6, 7), (6, 8), (6, 12), (6, 13), (6, 14), (6, 15), (6, 16)]) (C' := [(6, 4), (6, 9), (6, 10), (6, 11)]) (S' := none) Fr_84 (by decide) (by decide) (Or.inr rfl)) (gF.tr (gF.mo (F' := [(6, 2), (6, 3), (6, 5), (6, 6), (6, 7), (6, 8), (6, 12), (6, 13), (6, 14), (6, 15), (6, 16)]) (C' := [(6, 4), (6, 9), (6, 10), (6, 11)]) (S' := none) Fr_98 (by decide) (fun _ h => absurd h List.not_mem_nil) (Or.inr rfl)) (gF.tr (gF.mo (F' := [(6, 2), (6, 3), (6, 5), (6, 6), (6, 7), (6, 8), (6, 12), (6, 13), (6, 14), (6, 15), (6, 16)]) (C' := [(6, 4), (6, 9), (6, 10), (6, 11)]) (S' := none) Fr_107 (by decide) (fun _ h => absurd h List.not_mem_nil) (Or.inr rfl)) (gF.tr (gF.mo (F' := [(6, 2), (6, 3), (6, 5), (6, 6), (6, 7), (6, 8), (6, 12), (6, 13), (6, 14), (6, 15), (6, 16)]) (C' := [(6, 4), (6, 9), (6, 10), (6, 11)]) (S' := none) Fr_116 (by decide) (fun _ h => absurd h List.not_mem_nil) (Or.inr rfl)) (gF.tr (gF.mo (F' := [(6, 2), (6, 3), (6, 5), (6, 6), (6, 7), (6, 8), (6, 12), (6, 13), (6, 14), (6, 15), (6, 16)]) (C' := [(6, 4), (6, 9), (6, 10), (6, 11)]) (S' := none) Fr_125 (by decide) (fun _ h => absurd h List.not_mem_nil) (Or.inr rfl)) (gF.tr (gF.mo (F' := [(6, 2), (6, 3), (6, 5), (6, 6), (6, 7), (6, 8), (6, 12), (6, 13), (6, 14), (6, 15), (6, 16)]) (C' := [(6, 4), (6, 9), (6, 10), (6, 11)]) (S' := none) Fr_134 (by decide) (fun _ h => absurd h List.not_mem_nil) (Or.inr rfl)) (gF.mo (F' := [(6, 2), (6, 3), (6, 5), (6, 6), (6, 7), (6, 8), (6, 12), (6, 13), (6, 14), (6, 15), (6, 16)]) (C' := [(6, 4), (6, 9), (6, 10), (6, 11)]) (S' := none) Fr_143 (by decide) (fun _ h => absurd h List.not_mem_nil) (Or.inr rfl)))))))))))) hG (by have e0 : (0 : Int32).toInt = 0 := (by decide); omega) (by have e0 : (0 : Int32).toInt = 0 := (by decide); omega) hP hD hS (lv_sub hl [] rfl)
                      · refine lv_aload_n hx hb dX7_isSound_108 rfl (lv_at hl 0 rfl) ?_
                        have hFc := gfree hD hS hA
                        obtain ⟨k_148, fs_148, hk_148⟩ := gC_of o_h0
                        refine va_calli (va_runV (As := []) (rest := []) ⟨hx, hb, hml, hown, hts⟩ (m_X7_noTwins l g H.size ws_141 h0 hG o_h0) (cwV 0 hts (gd_V kw_1374 kw_1419 kw_1420 kw_710 kw_1418) rfl rfl rfl (by decide +kernel) ⟨Nat.le_of_ble_eq_true rfl, Nat.le_of_ble_eq_true rfl⟩) ⟨gblind, va_recv hK hP (ci := 6) (q0 := k_148) rfl hk_148, fun U hU hW9 => gmk hU hW9 hP hK hD hex hE hS hFc⟩ rfl rfl hl.1 rfl (lv_room (Nat.le_of_ble_eq_true rfl)) dX7_isSound_109 ⟨(show 0 + 0 ≤ PC ws + (0) from (by have e0 : (0 : Int32).toInt = 0 := (by decide); omega)), (show 0 + 0 ≤ PS ws + (0) from (by have e0 : (0 : Int32).toInt = 0 := (by decide); omega))⟩) hS (fun q _ h => hFc q h) hFc (fun r_149 ws_150 t9 H1 locs ht9 hvm9 hw9 hB9 hz9 hk9 hS => ?_)
                        obtain ⟨E_151, Fr_152, hG, hP1, hD1⟩ := hB9
                        have hP : va_P (gD g) cl0 ws_150 H1 := by rw [← ht9]; exact hP1
                        have hD : va_D A ws_150 := hD1.weaken (fun _ _ _ h => hFc _ h)
                        have hz_r_149 : r_149 = 0 ∨ r_149 = 1 := hw9
                        clear hP1 hD1 hz9 hk9 hvm9 ht9 hw9
                        generalize H1 = H at hP hS ⊢
                        have o_h0 := E_151.1 _ _ o_h0
                        have o_b1 := E_151.1 _ _ o_b1
                        have pp_155 := Fr_152.pp
                        refine lv_if_eq (tgt := 150) hx hb dX7_isSound_112 (by decide) (fun c_156 => ?_) (fun c_156 => ?_)
                        · exact J_150 (0) (0) ws_150 H locs ls ((E_54.tr (E_63.tr (E_72.tr (E_83.tr (E_97.tr (E_106.tr (E_115.tr (E_124.tr (E_133.tr (E_142.tr E_151))))))))))) ((gF.tr (gF.mo (F' := [(6, 2), (6, 3), (6, 5), (6, 6), (6, 7), (6, 8), (6, 12), (6, 13), (6, 14), (6, 15), (6, 16)]) (C' := [(6, 4), (6, 9), (6, 10), (6, 11)]) (S' := none) Fr_55 (by decide) (by decide) (Or.inr rfl)) (gF.tr (gF.mo (F' := [(6, 2), (6, 3), (6, 5), (6, 6), (6, 7), (6, 8), (6, 12), (6, 13), (6, 14), (6, 15), (6, 16)]) (C' := [(6, 4), (6, 9), (6, 10), (6, 11)]) (S' := none) Fr_64 (by decide) (fun _ h => absurd h List.not_mem_nil) (Or.inr rfl)) (gF.tr (gF.mo (F' := [(6, 2), (6, 3), (6, 5), (6, 6), (6, 7), (6, 8), (6, 12), (6, 13), (6, 14), (6, 15), (6, 16)]) (C' := [(6, 4), (6, 9), (6, 10), (6, 11)]) (S' := none) Fr_73 (by decide) (by decide) (Or.inr rfl)) (gF.tr (gF.mo (F' := [(6, 2), (6, 3), (6, 5), (6, 6), (6, 7), (6, 8), (6, 12), (6, 13), (6, 14), (6, 15), (6, 16)]) (C' := [(6, 4), (6, 9), (6, 10), (6, 11)]) (S' := none) Fr_84 (by decide) (by decide) (Or.inr rfl)) (gF.tr (gF.mo (F' := [(6, 2), (6, 3), (6, 5), (6, 6), (6, 7), (6, 8), (6, 12), (6, 13), (6, 14), (6, 15), (6, 16)]) (C' := [(6, 4), (6, 9), (6, 10), (6, 11)]) (S' := none) Fr_98 (by decide) (fun _ h => absurd h List.not_mem_nil) (Or.inr rfl)) (gF.tr (gF.mo (F' := [(6, 2), (6, 3), (6, 5), (6, 6), (6, 7), (6, 8), (6, 12), (6, 13), (6, 14), (6, 15), (6, 16)]) (C' := [(6, 4), (6, 9), (6, 10), (6, 11)]) (S' := none) Fr_107 (by decide) (fun _ h => absurd h List.not_mem_nil) (Or.inr rfl)) (gF.tr (gF.mo (F' := [(6, 2), (6, 3), (6, 5), (6, 6), (6, 7), (6, 8), (6, 12), (6, 13), (6, 14), (6, 15), (6, 16)]) (C' := [(6, 4), (6, 9), (6, 10), (6, 11)]) (S' := none) Fr_116 (by decide) (fun _ h => absurd h List.not_mem_nil) (Or.inr rfl)) (gF.tr (gF.mo (F' := [(6, 2), (6, 3), (6, 5), (6, 6), (6, 7), (6, 8), (6, 12), (6, 13), (6, 14), (6, 15), (6, 16)]) (C' := [(6, 4), (6, 9), (6, 10), (6, 11)]) (S' := none) Fr_125 (by decide) (fun _ h => absurd h List.not_mem_nil) (Or.inr rfl)) (gF.tr (gF.mo (F' := [(6, 2), (6, 3), (6, 5), (6, 6), (6, 7), (6, 8), (6, 12), (6, 13), (6, 14), (6, 15), (6, 16)]) (C' := [(6, 4), (6, 9), (6, 10), (6, 11)]) (S' := none) Fr_134 (by decide) (fun _ h => absurd h List.not_mem_nil) (Or.inr rfl)) (gF.tr (gF.mo (F' := [(6, 2), (6, 3), (6, 5), (6, 6), (6, 7), (6, 8), (6, 12), (6, 13), (6, 14), (6, 15), (6, 16)]) (C' := [(6, 4), (6, 9), (6, 10), (6, 11)]) (S' := none) Fr_143 (by decide) (fun _ h => absurd h List.not_mem_nil) (Or.inr rfl)) (gF.mo (F' := [(6, 2), (6, 3), (6, 5), (6, 6), (6, 7), (6, 8), (6, 12), (6, 13), (6, 14), (6, 15), (6, 16)]) (C' := [(6, 4), (6, 9), (6, 10), (6, 11)]) (S' := none) Fr_152 (by decide) (fun _ h => absurd h List.not_mem_nil) (Or.inr rfl))))))))))))) hG (by have e0 : (0 : Int32).toInt = 0 := (by decide); omega) (by have e0 : (0 : Int32).toInt = 0 := (by decide); omega) hP hD hS (lv_sub hl [] rfl)
                        · refine lv_aload_n hx hb dX7_isSound_115 rfl (lv_at hl 0 rfl) ?_
                          have hFc := gfree hD hS hA
                          refine W_led (fun hL0 => ?_)
                          obtain ⟨k_157, fs_157, hk_157⟩ := gC_of o_h0
                          refine va_calli (va_runV (As := []) (rest := []) ⟨hx, hb, hml, hown, hts⟩ (m_X7_codesHold l g H ws_150 h0 hG o_h0) (cwV 0 hts (gd_V kw_1375 kw_1283 kw_1284 kw_710 kw_1282) rfl rfl rfl (by decide +kernel) ⟨Nat.le_of_ble_eq_true rfl, Nat.le_of_ble_eq_true rfl⟩) ⟨gblindH, va_recv hK hP (ci := 6) (q0 := k_157) rfl hk_157, fun U hU hW9 => gmkH hU hW9 hP hK hD hex hE hS hFc⟩ rfl rfl hl.1 rfl (lv_room (Nat.le_of_ble_eq_true rfl)) dX7_isSound_116 ⟨(show 0 + (PC ws_150 + (0)) ≤ PC ws + (0) from (by have e0 : (0 : Int32).toInt = 0 := (by decide); omega)), (show 0 + (PS ws_150 + (0)) ≤ PS ws + (0) from (by have e0 : (0 : Int32).toInt = 0 := (by decide); omega))⟩) hS (fun q _ h => hFc q h) hFc (fun r_158 ws_159 t9 H1 locs ht9 hvm9 hw9 hB9 hz9 hk9 hS => ?_)
                          obtain ⟨E_160, Fr_161, hG, hP1, hD1, dc_162, ds_163, hLd, hdc_162, hds_163⟩ := hB9
                          rw [ht9] at hLd
                          refine W_tight (hL0.tr hLd).1 (hL0.tr hLd).2.1 ?_
                          clear hL0 hLd
                          have hP : va_P (gD g) cl0 ws_159 H1 := by rw [← ht9]; exact hP1
                          have hD : va_D A ws_159 := hD1.weaken (fun _ _ _ h => hFc _ h)
                          have hz_r_158 : r_158 = 0 ∨ r_158 = 1 := hw9
                          clear hP1 hD1 hz9 hk9 hvm9 ht9 hw9
                          generalize H1 = H at hP hS ⊢
                          have o_h0 := E_160.1 _ _ o_h0
                          have o_b1 := E_160.1 _ _ o_b1
                          refine lv_if_eq (tgt := 150) hx hb dX7_isSound_119 (by decide) (fun c_164 => ?_) (fun c_164 => ?_)
                          · exact J_150 (0 + dc_162) (0 + ds_163) ws_159 H locs ls ((E_54.tr (E_63.tr (E_72.tr (E_83.tr (E_97.tr (E_106.tr (E_115.tr (E_124.tr (E_133.tr (E_142.tr (E_151.tr E_160)))))))))))) ((gF.tr (gF.mo (F' := [(6, 2), (6, 3), (6, 5), (6, 6), (6, 7), (6, 8), (6, 12), (6, 13), (6, 14), (6, 15), (6, 16)]) (C' := [(6, 4), (6, 9), (6, 10), (6, 11)]) (S' := none) Fr_55 (by decide) (by decide) (Or.inr rfl)) (gF.tr (gF.mo (F' := [(6, 2), (6, 3), (6, 5), (6, 6), (6, 7), (6, 8), (6, 12), (6, 13), (6, 14), (6, 15), (6, 16)]) (C' := [(6, 4), (6, 9), (6, 10), (6, 11)]) (S' := none) Fr_64 (by decide) (fun _ h => absurd h List.not_mem_nil) (Or.inr rfl)) (gF.tr (gF.mo (F' := [(6, 2), (6, 3), (6, 5), (6, 6), (6, 7), (6, 8), (6, 12), (6, 13), (6, 14), (6, 15), (6, 16)]) (C' := [(6, 4), (6, 9), (6, 10), (6, 11)]) (S' := none) Fr_73 (by decide) (by decide) (Or.inr rfl)) (gF.tr (gF.mo (F' := [(6, 2), (6, 3), (6, 5), (6, 6), (6, 7), (6, 8), (6, 12), (6, 13), (6, 14), (6, 15), (6, 16)]) (C' := [(6, 4), (6, 9), (6, 10), (6, 11)]) (S' := none) Fr_84 (by decide) (by decide) (Or.inr rfl)) (gF.tr (gF.mo (F' := [(6, 2), (6, 3), (6, 5), (6, 6), (6, 7), (6, 8), (6, 12), (6, 13), (6, 14), (6, 15), (6, 16)]) (C' := [(6, 4), (6, 9), (6, 10), (6, 11)]) (S' := none) Fr_98 (by decide) (fun _ h => absurd h List.not_mem_nil) (Or.inr rfl)) (gF.tr (gF.mo (F' := [(6, 2), (6, 3), (6, 5), (6, 6), (6, 7), (6, 8), (6, 12), (6, 13), (6, 14), (6, 15), (6, 16)]) (C' := [(6, 4), (6, 9), (6, 10), (6, 11)]) (S' := none) Fr_107 (by decide) (fun _ h => absurd h List.not_mem_nil) (Or.inr rfl)) (gF.tr (gF.mo (F' := [(6, 2), (6, 3), (6, 5), (6, 6), (6, 7), (6, 8), (6, 12), (6, 13), (6, 14), (6, 15), (6, 16)]) (C' := [(6, 4), (6, 9), (6, 10), (6, 11)]) (S' := none) Fr_116 (by decide) (fun _ h => absurd h List.not_mem_nil) (Or.inr rfl)) (gF.tr (gF.mo (F' := [(6, 2), (6, 3), (6, 5), (6, 6), (6, 7), (6, 8), (6, 12), (6, 13), (6, 14), (6, 15), (6, 16)]) (C' := [(6, 4), (6, 9), (6, 10), (6, 11)]) (S' := none) Fr_125 (by decide) (fun _ h => absurd h List.not_mem_nil) (Or.inr rfl)) (gF.tr (gF.mo (F' := [(6, 2), (6, 3), (6, 5), (6, 6), (6, 7), (6, 8), (6, 12), (6, 13), (6, 14), (6, 15), (6, 16)]) (C' := [(6, 4), (6, 9), (6, 10), (6, 11)]) (S' := none) Fr_134 (by decide) (fun _ h => absurd h List.not_mem_nil) (Or.inr rfl)) (gF.tr (gF.mo (F' := [(6, 2), (6, 3), (6, 5), (6, 6), (6, 7), (6, 8), (6, 12), (6, 13), (6, 14), (6, 15), (6, 16)]) (C' := [(6, 4), (6, 9), (6, 10), (6, 11)]) (S' := none) Fr_143 (by decide) (fun _ h => absurd h List.not_mem_nil) (Or.inr rfl)) (gF.tr (gF.mo (F' := [(6, 2), (6, 3), (6, 5), (6, 6), (6, 7), (6, 8), (6, 12), (6, 13), (6, 14), (6, 15), (6, 16)]) (C' := [(6, 4), (6, 9), (6, 10), (6, 11)]) (S' := none) Fr_152 (by decide) (fun _ h => absurd h List.not_mem_nil) (Or.inr rfl)) (gF.mo (F' := [(6, 2), (6, 3), (6, 5), (6, 6), (6, 7), (6, 8), (6, 12), (6, 13), (6, 14), (6, 15), (6, 16)]) (C' := [(6, 4), (6, 9), (6, 10), (6, 11)]) (S' := none) Fr_161 (by decide) (by decide) (Or.inr rfl)))))))))))))) hG (by omega) (by omega) hP hD hS (lv_sub hl [] rfl)
                          · refine lv_aload_n hx hb dX7_isSound_122 rfl (lv_at hl 0 rfl) ?_
                            obtain ⟨fs9, hk_165, hq_165⟩ := ((gA.tr (gF.a (F' := [(6, 2), (6, 3), (6, 8), (6, 12), (6, 13), (6, 14), (6, 15), (6, 16)]) Fr_84 (by decide)) (gA.tr (gF.a (F' := [(6, 2), (6, 3), (6, 8), (6, 12), (6, 13), (6, 14), (6, 15), (6, 16)]) Fr_98 (by decide)) (gA.tr (gF.a (F' := [(6, 2), (6, 3), (6, 8), (6, 12), (6, 13), (6, 14), (6, 15), (6, 16)]) Fr_107 (by decide)) (gA.tr (gF.a (F' := [(6, 2), (6, 3), (6, 8), (6, 12), (6, 13), (6, 14), (6, 15), (6, 16)]) Fr_116 (by decide)) (gA.tr (gF.a (F' := [(6, 2), (6, 3), (6, 8), (6, 12), (6, 13), (6, 14), (6, 15), (6, 16)]) Fr_125 (by decide)) (gA.tr (gF.a (F' := [(6, 2), (6, 3), (6, 8), (6, 12), (6, 13), (6, 14), (6, 15), (6, 16)]) Fr_134 (by decide)) (gA.tr (gF.a (F' := [(6, 2), (6, 3), (6, 8), (6, 12), (6, 13), (6, 14), (6, 15), (6, 16)]) Fr_143 (by decide)) (gA.tr (gF.a (F' := [(6, 2), (6, 3), (6, 8), (6, 12), (6, 13), (6, 14), (6, 15), (6, 16)]) Fr_152 (by decide)) (gF.a (F' := [(6, 2), (6, 3), (6, 8), (6, 12), (6, 13), (6, 14), (6, 15), (6, 16)]) Fr_161 (by decide))))))))))) _ _ _ hk_79
                            obtain ⟨r0_165, n0_165, c1_165, c2_165, c3_165, r4_165, n4_165, c5_165, c6_165, c7_165, c8_165, r9_165, n9_165, r10_165, n10_165, r11_165, n11_165, c12_165, c13_165, c14_165, c15_165, c16_165, rfl, a_r0_165, f1_165, a_r4_165, f3_165, a_r9_165, f5_165, a_r10_165, f7_165, a_r11_165, f9_165, f10_165, f11_165, f12_165, f13_165, f14_165, -⟩ := (hG.1 _ _ _ _ hk_165).hX7 rfl
                            obtain rfl := fe_i (hq_165 1 (by decide))
                            refine va_get (D := gD g) (ci := 6) (v := .int c15_165) (C := RX7) (T := TX7) (N := 17) hx hb hts inX7 hown hK hP k_2 hk_165 rfl 15 (by decide) (hts _ kw_1273) (fun _ h9 => h9) rfl dX7_isSound_123 ?_
                            refine lv_aload_n hx hb dX7_isSound_126 rfl (lv_at hl 0 rfl) ?_
                            refine va_get (D := gD g) (ci := 6) (v := .int c1_1) (C := RX7) (T := TX7) (N := 17) hx hb hts inX7 hown hK hP k_2 hk_165 rfl 1 (by decide) (hts _ kw_1275) (fun _ h9 => h9) rfl dX7_isSound_127 ?_
                            have J_146 : ∀ (dc_146_3 : Nat) (ds_146_3 : Nat) (ws_166 : va_W) (H : Heap) (locs : List Loc) (ls : Array Slot), gE ws_159 ws_166 → gF [(6, 2), (6, 3)] [] none ws_159 ws_166 → Good g ws_166 → dc_146_3 + PC ws_166 ≤ PC ws + (0) → ds_146_3 + PS ws_166 ≤ PS ws + (0) → va_P (gD g) cl0 ws_166 H → va_D A ws_166 → va_S A s.heap H locs → lv_has ls 2 [] → W p l e (headSpec (wt yX7_isSound cX7_isSound 2 (some .boolean)) ({ frames := 6, cells := PC ws + (0), slots := PS ws + (0), locals := 135 })).room s m ([.ref h0, .ref b1] : List Value).toArray below meth c H locs (dc_146_3) (ds_146_3) (MQ below (va_Qi (fun (r : Int32) (u9 : va_W) => r = 0 ∨ r = 1) (gQ2 g [(6, 0), (6, 1), (6, 2), (6, 3), (6, 5), (6, 6), (6, 7), (6, 8), (6, 12), (6, 13), (6, 14), (6, 15), (6, 16)] [(6, 4), (6, 9), (6, 10), (6, 11)] none A ws s.heap (0) (0)) A) ([.ref h0, .ref b1] : List Value).toArray s (PC ws + (0)) (PS ws + (0)) A) (F0 m 146 ls []) := by
                              intro dc_146_3 ds_146_3 ws_166 H locs ls  E_167 Fr_168 hG hc9 hs9 hP hD hS hl
                              have aa_169 := a_r0_165
                              have aa_170 := a_r4_165
                              have aa_171 := a_r9_165
                              have aa_172 := a_r10_165
                              have aa_173 := a_r11_165
                              have o_h0 := E_167.1 _ _ o_h0
                              refine lv_iconst (v := 1) hx hb dX7_isSound_146 (by decide) ?_
                              refine lv_goto (tgt := 151) hx hb dX7_isSound_147 (by decide) ?_
                              exact J_151 (1) (dc_146_3) (ds_146_3) ws_166 H locs ls (Or.inr rfl) ((E_54.tr (E_63.tr (E_72.tr (E_83.tr (E_97.tr (E_106.tr (E_115.tr (E_124.tr (E_133.tr (E_142.tr (E_151.tr (E_160.tr E_167))))))))))))) ((gF.tr (gF.mo (F' := [(6, 2), (6, 3), (6, 5), (6, 6), (6, 7), (6, 8), (6, 12), (6, 13), (6, 14), (6, 15), (6, 16)]) (C' := [(6, 4), (6, 9), (6, 10), (6, 11)]) (S' := none) Fr_55 (by decide) (by decide) (Or.inr rfl)) (gF.tr (gF.mo (F' := [(6, 2), (6, 3), (6, 5), (6, 6), (6, 7), (6, 8), (6, 12), (6, 13), (6, 14), (6, 15), (6, 16)]) (C' := [(6, 4), (6, 9), (6, 10), (6, 11)]) (S' := none) Fr_64 (by decide) (fun _ h => absurd h List.not_mem_nil) (Or.inr rfl)) (gF.tr (gF.mo (F' := [(6, 2), (6, 3), (6, 5), (6, 6), (6, 7), (6, 8), (6, 12), (6, 13), (6, 14), (6, 15), (6, 16)]) (C' := [(6, 4), (6, 9), (6, 10), (6, 11)]) (S' := none) Fr_73 (by decide) (by decide) (Or.inr rfl)) (gF.tr (gF.mo (F' := [(6, 2), (6, 3), (6, 5), (6, 6), (6, 7), (6, 8), (6, 12), (6, 13), (6, 14), (6, 15), (6, 16)]) (C' := [(6, 4), (6, 9), (6, 10), (6, 11)]) (S' := none) Fr_84 (by decide) (by decide) (Or.inr rfl)) (gF.tr (gF.mo (F' := [(6, 2), (6, 3), (6, 5), (6, 6), (6, 7), (6, 8), (6, 12), (6, 13), (6, 14), (6, 15), (6, 16)]) (C' := [(6, 4), (6, 9), (6, 10), (6, 11)]) (S' := none) Fr_98 (by decide) (fun _ h => absurd h List.not_mem_nil) (Or.inr rfl)) (gF.tr (gF.mo (F' := [(6, 2), (6, 3), (6, 5), (6, 6), (6, 7), (6, 8), (6, 12), (6, 13), (6, 14), (6, 15), (6, 16)]) (C' := [(6, 4), (6, 9), (6, 10), (6, 11)]) (S' := none) Fr_107 (by decide) (fun _ h => absurd h List.not_mem_nil) (Or.inr rfl)) (gF.tr (gF.mo (F' := [(6, 2), (6, 3), (6, 5), (6, 6), (6, 7), (6, 8), (6, 12), (6, 13), (6, 14), (6, 15), (6, 16)]) (C' := [(6, 4), (6, 9), (6, 10), (6, 11)]) (S' := none) Fr_116 (by decide) (fun _ h => absurd h List.not_mem_nil) (Or.inr rfl)) (gF.tr (gF.mo (F' := [(6, 2), (6, 3), (6, 5), (6, 6), (6, 7), (6, 8), (6, 12), (6, 13), (6, 14), (6, 15), (6, 16)]) (C' := [(6, 4), (6, 9), (6, 10), (6, 11)]) (S' := none) Fr_125 (by decide) (fun _ h => absurd h List.not_mem_nil) (Or.inr rfl)) (gF.tr (gF.mo (F' := [(6, 2), (6, 3), (6, 5), (6, 6), (6, 7), (6, 8), (6, 12), (6, 13), (6, 14), (6, 15), (6, 16)]) (C' := [(6, 4), (6, 9), (6, 10), (6, 11)]) (S' := none) Fr_134 (by decide) (fun _ h => absurd h List.not_mem_nil) (Or.inr rfl)) (gF.tr (gF.mo (F' := [(6, 2), (6, 3), (6, 5), (6, 6), (6, 7), (6, 8), (6, 12), (6, 13), (6, 14), (6, 15), (6, 16)]) (C' := [(6, 4), (6, 9), (6, 10), (6, 11)]) (S' := none) Fr_143 (by decide) (fun _ h => absurd h List.not_mem_nil) (Or.inr rfl)) (gF.tr (gF.mo (F' := [(6, 2), (6, 3), (6, 5), (6, 6), (6, 7), (6, 8), (6, 12), (6, 13), (6, 14), (6, 15), (6, 16)]) (C' := [(6, 4), (6, 9), (6, 10), (6, 11)]) (S' := none) Fr_152 (by decide) (fun _ h => absurd h List.not_mem_nil) (Or.inr rfl)) (gF.tr (gF.mo (F' := [(6, 2), (6, 3), (6, 5), (6, 6), (6, 7), (6, 8), (6, 12), (6, 13), (6, 14), (6, 15), (6, 16)]) (C' := [(6, 4), (6, 9), (6, 10), (6, 11)]) (S' := none) Fr_161 (by decide) (by decide) (Or.inr rfl)) (gF.mo (F' := [(6, 2), (6, 3), (6, 5), (6, 6), (6, 7), (6, 8), (6, 12), (6, 13), (6, 14), (6, 15), (6, 16)]) (C' := [(6, 4), (6, 9), (6, 10), (6, 11)]) (S' := none) Fr_168 (by decide) (fun _ h => absurd h List.not_mem_nil) (Or.inr rfl))))))))))))))) hG (by omega) (by omega) hP hD hS (lv_sub hl [] rfl)
                            refine lv_icmp_eq (tgt := 146) hx hb dX7_isSound_130 (by decide) (fun c_174 => ?_) (fun c_174 => ?_)
                            · exact J_146 (0 + dc_162) (0 + ds_163) ws_159 H locs ls (gE.rf) (gF.rf) hG (by omega) (by omega) hP hD hS (lv_sub hl [] rfl)
                            · refine lv_aload_n hx hb dX7_isSound_133 rfl (lv_at hl 0 rfl) ?_
                              refine lv_bipush (v := 17) hx hb dX7_isSound_134 (by decide) ?_
                              refine lv_aload_n hx hb dX7_isSound_136 rfl (lv_at hl 0 rfl) ?_
                              refine va_get (D := gD g) (ci := 6) (v := .int c15_165) (C := RX7) (T := TX7) (N := 17) hx hb hts inX7 hown hK hP k_2 hk_165 rfl 15 (by decide) (hts _ kw_1273) (fun _ h9 => h9) rfl dX7_isSound_137 ?_
                              have hFc := gfree hD hS hA
                              refine va_calli (va_runV (As := [.int 17, .int c15_165]) (rest := []) ⟨hx, hb, hml, hown, hts⟩ (m_X7_breaks l g H.size ws_159 h0 (17) (c15_165) hG o_h0) (cwV 2 hts (gd_V kw_1276 kw_1278 kw_1279 kw_710 kw_1277) rfl rfl rfl (by decide +kernel) ⟨Nat.le_of_ble_eq_true rfl, Nat.le_of_ble_eq_true rfl⟩) ⟨gblind, va_recv hK hP (ci := 6) (q0 := k_2) rfl hk_165, fun U hU hW9 => gmk hU hW9 hP hK hD hex hE hS hFc⟩ rfl rfl hl.1 rfl (lv_room (Nat.le_of_ble_eq_true rfl)) dX7_isSound_140 ⟨(show 0 + dc_162 + 0 ≤ PC ws + (0) from (by omega)), (show 0 + ds_163 + 0 ≤ PS ws + (0) from (by omega))⟩) hS (fun q _ h => hFc q h) hFc (fun r_175 ws_176 t9 H1 locs ht9 hvm9 hw9 hB9 hz9 hk9 hS => ?_)
                              obtain ⟨E_177, Fr_178, hG, hP1, hD1⟩ := hB9
                              have hP : va_P (gD g) cl0 ws_176 H1 := by rw [← ht9]; exact hP1
                              have hD : va_D A ws_176 := hD1.weaken (fun _ _ _ h => hFc _ h)
                              have hz_r_175 : r_175 = 0 ∨ r_175 = 1 := hw9
                              clear hP1 hD1 hz9 hk9 hvm9 ht9 hw9
                              generalize H1 = H at hP hS ⊢
                              have aa_181 := a_r0_165
                              have aa_182 := a_r4_165
                              have aa_183 := a_r9_165
                              have aa_184 := a_r10_165
                              have aa_185 := a_r11_165
                              have o_h0 := E_177.1 _ _ o_h0
                              have o_b1 := E_177.1 _ _ o_b1
                              have pp_186 := Fr_178.pp
                              refine lv_if_eq (tgt := 150) hx hb dX7_isSound_143 (by decide) (fun c_187 => ?_) (fun c_187 => ?_)
                              · exact J_150 (0 + dc_162) (0 + ds_163) ws_176 H locs ls ((E_54.tr (E_63.tr (E_72.tr (E_83.tr (E_97.tr (E_106.tr (E_115.tr (E_124.tr (E_133.tr (E_142.tr (E_151.tr (E_160.tr E_177))))))))))))) ((gF.tr (gF.mo (F' := [(6, 2), (6, 3), (6, 5), (6, 6), (6, 7), (6, 8), (6, 12), (6, 13), (6, 14), (6, 15), (6, 16)]) (C' := [(6, 4), (6, 9), (6, 10), (6, 11)]) (S' := none) Fr_55 (by decide) (by decide) (Or.inr rfl)) (gF.tr (gF.mo (F' := [(6, 2), (6, 3), (6, 5), (6, 6), (6, 7), (6, 8), (6, 12), (6, 13), (6, 14), (6, 15), (6, 16)]) (C' := [(6, 4), (6, 9), (6, 10), (6, 11)]) (S' := none) Fr_64 (by decide) (fun _ h => absurd h List.not_mem_nil) (Or.inr rfl)) (gF.tr (gF.mo (F' := [(6, 2), (6, 3), (6, 5), (6, 6), (6, 7), (6, 8), (6, 12), (6, 13), (6, 14), (6, 15), (6, 16)]) (C' := [(6, 4), (6, 9), (6, 10), (6, 11)]) (S' := none) Fr_73 (by decide) (by decide) (Or.inr rfl)) (gF.tr (gF.mo (F' := [(6, 2), (6, 3), (6, 5), (6, 6), (6, 7), (6, 8), (6, 12), (6, 13), (6, 14), (6, 15), (6, 16)]) (C' := [(6, 4), (6, 9), (6, 10), (6, 11)]) (S' := none) Fr_84 (by decide) (by decide) (Or.inr rfl)) (gF.tr (gF.mo (F' := [(6, 2), (6, 3), (6, 5), (6, 6), (6, 7), (6, 8), (6, 12), (6, 13), (6, 14), (6, 15), (6, 16)]) (C' := [(6, 4), (6, 9), (6, 10), (6, 11)]) (S' := none) Fr_98 (by decide) (fun _ h => absurd h List.not_mem_nil) (Or.inr rfl)) (gF.tr (gF.mo (F' := [(6, 2), (6, 3), (6, 5), (6, 6), (6, 7), (6, 8), (6, 12), (6, 13), (6, 14), (6, 15), (6, 16)]) (C' := [(6, 4), (6, 9), (6, 10), (6, 11)]) (S' := none) Fr_107 (by decide) (fun _ h => absurd h List.not_mem_nil) (Or.inr rfl)) (gF.tr (gF.mo (F' := [(6, 2), (6, 3), (6, 5), (6, 6), (6, 7), (6, 8), (6, 12), (6, 13), (6, 14), (6, 15), (6, 16)]) (C' := [(6, 4), (6, 9), (6, 10), (6, 11)]) (S' := none) Fr_116 (by decide) (fun _ h => absurd h List.not_mem_nil) (Or.inr rfl)) (gF.tr (gF.mo (F' := [(6, 2), (6, 3), (6, 5), (6, 6), (6, 7), (6, 8), (6, 12), (6, 13), (6, 14), (6, 15), (6, 16)]) (C' := [(6, 4), (6, 9), (6, 10), (6, 11)]) (S' := none) Fr_125 (by decide) (fun _ h => absurd h List.not_mem_nil) (Or.inr rfl)) (gF.tr (gF.mo (F' := [(6, 2), (6, 3), (6, 5), (6, 6), (6, 7), (6, 8), (6, 12), (6, 13), (6, 14), (6, 15), (6, 16)]) (C' := [(6, 4), (6, 9), (6, 10), (6, 11)]) (S' := none) Fr_134 (by decide) (fun _ h => absurd h List.not_mem_nil) (Or.inr rfl)) (gF.tr (gF.mo (F' := [(6, 2), (6, 3), (6, 5), (6, 6), (6, 7), (6, 8), (6, 12), (6, 13), (6, 14), (6, 15), (6, 16)]) (C' := [(6, 4), (6, 9), (6, 10), (6, 11)]) (S' := none) Fr_143 (by decide) (fun _ h => absurd h List.not_mem_nil) (Or.inr rfl)) (gF.tr (gF.mo (F' := [(6, 2), (6, 3), (6, 5), (6, 6), (6, 7), (6, 8), (6, 12), (6, 13), (6, 14), (6, 15), (6, 16)]) (C' := [(6, 4), (6, 9), (6, 10), (6, 11)]) (S' := none) Fr_152 (by decide) (fun _ h => absurd h List.not_mem_nil) (Or.inr rfl)) (gF.tr (gF.mo (F' := [(6, 2), (6, 3), (6, 5), (6, 6), (6, 7), (6, 8), (6, 12), (6, 13), (6, 14), (6, 15), (6, 16)]) (C' := [(6, 4), (6, 9), (6, 10), (6, 11)]) (S' := none) Fr_161 (by decide) (by decide) (Or.inr rfl)) (gF.mo (F' := [(6, 2), (6, 3), (6, 5), (6, 6), (6, 7), (6, 8), (6, 12), (6, 13), (6, 14), (6, 15), (6, 16)]) (C' := [(6, 4), (6, 9), (6, 10), (6, 11)]) (S' := none) Fr_178 (by decide) (fun _ h => absurd h List.not_mem_nil) (Or.inr rfl))))))))))))))) hG (by omega) (by omega) hP hD hS (lv_sub hl [] rfl)
                              · exact J_146 (0 + dc_162) (0 + ds_163) ws_176 H locs ls (E_177) (Fr_178) hG (by omega) (by omega) hP hD hS (lv_sub hl [] rfl)
