set_option maxHeartbeats 1000000 in
set_option maxRecDepth 100000 in
theorem m_X7_breaks (l : Launch) (g : Gm) (sz : Nat) (ws : va_W) (h0 : Nat) (x1 : Int32) (x2 : Int32) (hG : Good g ws) (o_h0 : gC ws h0 6) : Met l yX7_breaks (wt yX7_breaks cX7_breaks 3 (some .boolean)) ({ frames := 0, cells := 0, slots := 0, locals := 0 }) (va_Pc [.ref h0, .int x1, .int x2] (st_G g sz ws)) (va_Qi (fun (r : Int32) (u9 : va_W) => r = 0 ∨ r = 1) (gQ1 g [(6, 2), (6, 3)] (va_A ws sz) ws) (va_A ws sz)) 0 0 (va_A ws sz) := by
  refine Met.ofW (cc := cX7_breaks) (maxL := 3) (ret := (some .boolean)) (by decide) rfl ?_
  intro p e s m args below meth c s₁ B hml hv
  obtain ⟨rfl, hsz, hP, hK, hD0, hex, hE⟩ := hv
  have hx := B.exec
  have hb := B.bytes
  have hr := B.returns
  have hts0 := atoms_spec (ws := wt yX7_breaks cX7_breaks 3 (some .boolean)) B.pre
  have hts : ∀ w ∈ tb, w.before _ s = true := fun w h => hts0 w (List.mem_cons_of_mem _ h)
  have hown : s.vm.findClass RX7 = some m.cls := findClass_of_methodNamed B.named
  subst hsz
  have hD := hD0.self (sz := s.heap.size)
  generalize hAe : va_A ws s.heap.size = A at hD hE ⊢
  have hA : ∀ q : Nat, s.heap.size ≤ q → A q := fun q h => by rw [← hAe]; exact Or.inr h
  have hS : va_S A s.heap s.heap [] := va_S.rf
  have hl := lv_entry ([.ref h0, .int x1, .int x2]) (n := 3) (Nat.le_of_ble_eq_true rfl)
  rw [lg_entry_eq]
  generalize (lg_sl ([.ref h0, .int x1, .int x2]) ++ List.replicate (3 - (lg_sl ([.ref h0, .int x1, .int x2])).length) Slot.unset).toArray = ls at hl ⊢
  have hl : lv_has ls 3 [(0, .ref h0), (1, .int x1), (2, .int x2)] := hl
  refine lv_aload_n hx hb dX7_breaks_0 rfl (lv_at hl 0 rfl) ?_
  refine lv_iload_n hx hb dX7_breaks_1 rfl (lv_at hl 1 rfl) ?_
  obtain ⟨k_1, fs9, hk_1⟩ := gC_of o_h0
  obtain ⟨r0_1, n0_1, c1_1, c2_1, c3_1, r4_1, n4_1, c5_1, c6_1, c7_1, c8_1, r9_1, n9_1, r10_1, n10_1, r11_1, n11_1, c12_1, c13_1, c14_1, c15_1, c16_1, rfl, a_r0_1, f1_1, a_r4_1, f3_1, a_r9_1, f5_1, a_r10_1, f7_1, a_r11_1, f9_1, f10_1, f11_1, f12_1, f13_1, f14_1, -⟩ := (hG.1 _ _ _ _ hk_1).hX7 rfl
  refine va_put (D := gD g) (ci := 6) (v := .int x1) (ty := .int) (C := RX7) (T := TX7) (N := 17) hx hb hts inX7 tyX7 tyX7_ok nmX7 hown hK hP hD hS k_1 hk_1 rfl 2 (by decide) (hts _ kw_1280) (fun _ h9 => h9) rfl (by decide +kernel) rfl rfl (Nat.le_of_ble_eq_true rfl) dX7_breaks_2 (fun H locs hP hD hS => ?_)
  have hi_2 : invX7 g ws h0 [.ref r0_1, .int c1_1, .int x1, .int c3_1, .ref r4_1, .int c5_1, .int c6_1, .int c7_1, .int c8_1, .ref r9_1, .ref r10_1, .ref r11_1, .int c12_1, .int c13_1, .int c14_1, .int c15_1, .int c16_1] := ⟨r0_1, (n0_1), (c1_1), (x1), (c3_1), r4_1, (n4_1), (c5_1), (c6_1), (c7_1), (c8_1), r9_1, (n9_1), r10_1, (n10_1), r11_1, (n11_1), (c12_1), (c13_1), (c14_1), (c15_1), (c16_1), rfl, a_r0_1, f1_1, a_r4_1, f3_1, a_r9_1, f5_1, a_r10_1, f7_1, a_r11_1, f9_1, f10_1, f11_1, f12_1, f13_1, f14_1, trivial⟩
  obtain ⟨ws_3, e_ws_3⟩ : ∃ z, z = ws.set k_1 (h0, .inr (6, [.ref r0_1, .int c1_1, .int x1, .int c3_1, .ref r4_1, .int c5_1, .int c6_1, .int c7_1, .int c8_1, .ref r9_1, .ref r10_1, .ref r11_1, .int c12_1, .int c13_1, .int c14_1, .int c15_1, .int c16_1])) := ⟨_, rfl⟩
  have hP : va_P (gD g) cl0 ws_3 H := by rw [e_ws_3]; exact hP
  have hD : va_D A ws_3 := by rw [e_ws_3]; exact hD
  have E_4 : gE ws ws_3 := gE_set e_ws_3 hk_1 rfl
  have hG : Good g ws_3 := Good_set e_ws_3 hk_1 hG (ivX7 hi_2)
  have Fr_5 : gF [(6, 2)] ws ws_3 := gF_put (fi := 2) (v := .int x1) e_ws_3 hk_1 rfl
  have hkN := gset_self e_ws_3 hk_1
  have hk_1 := hkN
  have o_h0 := E_4 _ _ o_h0
  have a_r0_1 := E_4 _ _ a_r0_1
  have a_r4_1 := E_4 _ _ a_r4_1
  have a_r9_1 := E_4 _ _ a_r9_1
  have a_r10_1 := E_4 _ _ a_r10_1
  have a_r11_1 := E_4 _ _ a_r11_1
  refine lv_aload_n hx hb dX7_breaks_5 rfl (lv_at hl 0 rfl) ?_
  refine lv_iload_n hx hb dX7_breaks_6 rfl (lv_at hl 2 rfl) ?_
  refine va_put (D := gD g) (ci := 6) (v := .int x2) (ty := .int) (C := RX7) (T := TX7) (N := 17) hx hb hts inX7 tyX7 tyX7_ok nmX7 hown hK hP hD hS k_1 hk_1 rfl 3 (by decide) (hts _ kw_1281) (fun _ h9 => h9) rfl (by decide +kernel) rfl rfl (Nat.le_of_ble_eq_true rfl) dX7_breaks_7 (fun H locs hP hD hS => ?_)
  have hi_6 : invX7 g ws_3 h0 [.ref r0_1, .int c1_1, .int x1, .int x2, .ref r4_1, .int c5_1, .int c6_1, .int c7_1, .int c8_1, .ref r9_1, .ref r10_1, .ref r11_1, .int c12_1, .int c13_1, .int c14_1, .int c15_1, .int c16_1] := ⟨r0_1, (n0_1), (c1_1), (x1), (x2), r4_1, (n4_1), (c5_1), (c6_1), (c7_1), (c8_1), r9_1, (n9_1), r10_1, (n10_1), r11_1, (n11_1), (c12_1), (c13_1), (c14_1), (c15_1), (c16_1), rfl, a_r0_1, f1_1, a_r4_1, f3_1, a_r9_1, f5_1, a_r10_1, f7_1, a_r11_1, f9_1, f10_1, f11_1, f12_1, f13_1, f14_1, trivial⟩
  obtain ⟨ws_7, e_ws_7⟩ : ∃ z, z = ws_3.set k_1 (h0, .inr (6, [.ref r0_1, .int c1_1, .int x1, .int x2, .ref r4_1, .int c5_1, .int c6_1, .int c7_1, .int c8_1, .ref r9_1, .ref r10_1, .ref r11_1, .int c12_1, .int c13_1, .int c14_1, .int c15_1, .int c16_1])) := ⟨_, rfl⟩
  have hP : va_P (gD g) cl0 ws_7 H := by rw [e_ws_7]; exact hP
  have hD : va_D A ws_7 := by rw [e_ws_7]; exact hD
  have E_8 : gE ws_3 ws_7 := gE_set e_ws_7 hk_1 rfl
  have hG : Good g ws_7 := Good_set e_ws_7 hk_1 hG (ivX7 hi_6)
  have Fr_9 : gF [(6, 3)] ws_3 ws_7 := gF_put (fi := 3) (v := .int x2) e_ws_7 hk_1 rfl
  have hkN := gset_self e_ws_7 hk_1
  have hk_1 := hkN
  have o_h0 := E_8 _ _ o_h0
  have a_r0_1 := E_8 _ _ a_r0_1
  have a_r4_1 := E_8 _ _ a_r4_1
  have a_r9_1 := E_8 _ _ a_r9_1
  have a_r10_1 := E_8 _ _ a_r10_1
  have a_r11_1 := E_8 _ _ a_r11_1
  refine lv_iconst (v := 0) hx hb dX7_breaks_10 (by decide) ?_
  refine W.widen (k := 0) (n := 0) (Nat.le_of_ble_eq_true rfl) (Nat.le_of_ble_eq_true rfl) ?_
  exact W.zret (v := 0) hx hb hr (nz (Or.inl rfl)) (fun t9 ht9 hW9 => ⟨⟨_, ws_7, rfl, (Or.inl rfl), ⟨(E_4.tr E_8), (gF.tr (gF.mo (F' := [(6, 2), (6, 3)]) Fr_5 (by decide)) (gF.mo (F' := [(6, 2), (6, 3)]) Fr_9 (by decide))), hG, by rw [ht9]; exact hP, hD⟩⟩, hS.F ht9⟩) hS.2.2 dX7_breaks_11
set_option maxHeartbeats 1000000 in
set_option maxRecDepth 100000 in
theorem m_X7_u1 (l : Launch) (g : Gm) (sz : Nat) (ws : va_W) (h0 : Nat) (x1 : Int32) (hG : Good g ws) (o_h0 : gC ws h0 6) : Met l yX7_u1 (wt yX7_u1 cX7_u1 2 (some .int)) ({ frames := 0, cells := 0, slots := 0, locals := 0 }) (va_Pc [.ref h0, .int x1] (st_G g sz ws)) (va_Qi (fun (r : Int32) (u9 : Unit) => 0 ≤ r.toInt ∧ r.toInt ≤ 255) (gQ0 g (va_A ws sz) ws) (va_A ws sz)) 0 0 (va_A ws sz) := by
  refine Met.ofW (cc := cX7_u1) (maxL := 2) (ret := (some .int)) (by decide) rfl ?_
  intro p e s m args below meth c s₁ B hml hv
  obtain ⟨rfl, hsz, hP, hK, hD0, hex, hE⟩ := hv
  have hx := B.exec
  have hb := B.bytes
  have hr := B.returns
  have hts0 := atoms_spec (ws := wt yX7_u1 cX7_u1 2 (some .int)) B.pre
  have hts : ∀ w ∈ tb, w.before _ s = true := fun w h => hts0 w (List.mem_cons_of_mem _ h)
  have hown : s.vm.findClass RX7 = some m.cls := findClass_of_methodNamed B.named
  subst hsz
  have hD := hD0.self (sz := s.heap.size)
  generalize hAe : va_A ws s.heap.size = A at hD hE ⊢
  have hA : ∀ q : Nat, s.heap.size ≤ q → A q := fun q h => by rw [← hAe]; exact Or.inr h
  have hS : va_S A s.heap s.heap [] := va_S.rf
  have hl := lv_entry ([.ref h0, .int x1]) (n := 2) (Nat.le_of_ble_eq_true rfl)
  rw [lg_entry_eq]
  generalize (lg_sl ([.ref h0, .int x1]) ++ List.replicate (2 - (lg_sl ([.ref h0, .int x1])).length) Slot.unset).toArray = ls at hl ⊢
  have hl : lv_has ls 2 [(0, .ref h0), (1, .int x1)] := hl
  refine lv_iload_n hx hb dX7_u1_0 rfl (lv_at hl 1 rfl) ?_
  have J_35 : ∀ (t_1 : Int32) (H : Heap) (locs : List Loc) (ls : Array Slot), 0 ≤ t_1.toInt ∧ t_1.toInt ≤ 255 → va_P (gD g) cl0 ws H → va_D A ws → va_S A s.heap H locs → lv_has ls 2 [] → W p l e (headSpec (wt yX7_u1 cX7_u1 2 (some .int)) ({ frames := 0, cells := 0, slots := 0, locals := 0 })).room s m ([.ref h0, .int x1] : List Value).toArray below meth c H locs 0 0 (MQ below (va_Qi (fun (r : Int32) (u9 : Unit) => 0 ≤ r.toInt ∧ r.toInt ≤ 255) (gQ0 g A ws) A) ([.ref h0, .int x1] : List Value).toArray s 0 0 A) (F0 m 35 ls [.int t_1]) := by
    intro t_1 H locs ls iv_2 hP hD hS hl
    refine W.widen (k := 0) (n := 0) (Nat.le_of_ble_eq_true rfl) (Nat.le_of_ble_eq_true rfl) ?_
    exact W.iret (v := t_1) hx hb hr (fun t9 ht9 hW9 => ⟨⟨_, (), rfl, (by have q_iv_2 := iv_2; have g_t_1 := i_rg t_1; have g_x1 := i_rg x1; omega), ⟨by rw [ht9]; exact hP, hD⟩⟩, hS.F ht9⟩) hS.2.2 dX7_u1_35
  have J_21 : ∀  (H : Heap) (locs : List Loc) (ls : Array Slot), va_P (gD g) cl0 ws H → va_D A ws → va_S A s.heap H locs → lv_has ls 2 [] → W p l e (headSpec (wt yX7_u1 cX7_u1 2 (some .int)) ({ frames := 0, cells := 0, slots := 0, locals := 0 })).room s m ([.ref h0, .int x1] : List Value).toArray below meth c H locs 0 0 (MQ below (va_Qi (fun (r : Int32) (u9 : Unit) => 0 ≤ r.toInt ∧ r.toInt ≤ 255) (gQ0 g A ws) A) ([.ref h0, .int x1] : List Value).toArray s 0 0 A) (F0 m 21 ls []) := by
    intro  H locs ls  hP hD hS hl
    refine lv_iconst (v := 0) hx hb dX7_u1_21 (by decide) ?_
    refine lv_goto (tgt := 35) hx hb dX7_u1_22 (by decide) ?_
    exact J_35 (0) H locs ls (by have e0 : (0 : Int32).toInt = 0 := (by decide); have g_x1 := i_rg x1; omega) hP hD hS (lv_sub hl [] rfl)
  refine lv_if_lt (tgt := 21) hx hb dX7_u1_1 (by decide) (fun c_7 => ?_) (fun c_7 => ?_)
  · exact J_21  _ _ ls  hP hD hS (lv_sub hl [] rfl)
  · refine lv_iload_n hx hb dX7_u1_4 rfl (lv_at hl 1 rfl) ?_
    refine lv_aload_n hx hb dX7_u1_5 rfl (lv_at hl 0 rfl) ?_
    obtain ⟨k_8, fs9, hk_8⟩ := gC_of o_h0
    obtain ⟨r0_8, n0_8, c1_8, c2_8, c3_8, r4_8, n4_8, c5_8, c6_8, c7_8, c8_8, r9_8, n9_8, r10_8, n10_8, r11_8, n11_8, c12_8, c13_8, c14_8, c15_8, c16_8, rfl, a_r0_8, f1_8, a_r4_8, f3_8, a_r9_8, f5_8, a_r10_8, f7_8, a_r11_8, f9_8, f10_8, f11_8, f12_8, f13_8, f14_8, -⟩ := (hG.1 _ _ _ _ hk_8).hX7 rfl
    refine va_get (D := gD g) (ci := 6) (v := .int c1_8) (C := RX7) (T := TX7) (N := 17) hx hb hts inX7 hown hK hP k_8 hk_8 rfl 1 (by decide) (hts _ kw_1275) (fun _ h9 => h9) rfl dX7_u1_6 ?_
    refine lv_icmp_ge (tgt := 21) hx hb dX7_u1_9 (by decide) (fun c_9 => ?_) (fun c_9 => ?_)
    · exact J_21  _ _ ls  hP hD hS (lv_sub hl [] rfl)
    · refine lv_iload_n hx hb dX7_u1_12 rfl (lv_at hl 1 rfl) ?_
      refine lv_aload_n hx hb dX7_u1_13 rfl (lv_at hl 0 rfl) ?_
      refine va_get (D := gD g) (ci := 6) (v := .ref r0_8) (C := RX7) (T := TX7) (N := 17) hx hb hts inX7 hown hK hP k_8 hk_8 rfl 0 (by decide) (hts _ kw_1341) (fun _ h9 => h9) rfl dX7_u1_14 ?_
      obtain ⟨k_10, f_10, hk_10⟩ := gI_of a_r0_8
      obtain ⟨z_11, ez_11⟩ : ∃ z : Int32, Int32.ofNat n0_8 = z := ⟨_, rfl⟩
      refine va_alen (v := z_11) hx hb hK hP k_10 0 hk_10 rfl ez_11 dX7_u1_17 ?_
      refine lv_icmp_lt (tgt := 25) hx hb dX7_u1_18 (by decide) (fun c_12 => ?_) (fun c_12 => ?_)
      · refine lv_aload_n hx hb dX7_u1_25 rfl (lv_at hl 0 rfl) ?_
        refine va_get (D := gD g) (ci := 6) (v := .ref r0_8) (C := RX7) (T := TX7) (N := 17) hx hb hts inX7 hown hK hP k_8 hk_8 rfl 0 (by decide) (hts _ kw_1341) (fun _ h9 => h9) rfl dX7_u1_26 ?_
        refine lv_iload_n hx hb dX7_u1_29 rfl (lv_at hl 1 rfl) ?_
        refine va_bald hx hb hK hP k_10 0 hk_10 rfl (i_in2 (by have e0 : (0 : Int32).toInt = 0 := (by decide); have q_c_7 := i_nlt c_7; have q_f1_8 := f1_8; have q_c_9 := i_nle c_9; have q_z_11 := i_len ez_11 f1_8; have q_c_12 := i_lt c_12; have q_f10_8 := f10_8; have g_c1_8 := i_rg c1_8; have g_x1 := i_rg x1; have g_z_11 := i_rg z_11; omega)) dX7_u1_30 ?_
        refine lv_topi (fun z_13 ez_13 => ?_)
        refine lv_sipush (v := 255) hx hb dX7_u1_31 (by decide) ?_
        refine lv_iand hx hb dX7_u1_34 ?_
        refine lv_topi (fun z_14 ez_14 => ?_)
        exact J_35 (z_14) _ _ ls (by have e0 : (0 : Int32).toInt = 0 := (by decide); have q_c_7 := i_nlt c_7; have q_c_9 := i_nle c_9; have q_c_12 := i_lt c_12; have q_z_14 := i_and (k := 8) (b := 256) ez_14 (by decide) (by decide) (by decide); have q_f10_8 := f10_8; have q_z_11 := i_len ez_11 f1_8; have g_c1_8 := i_rg c1_8; have g_x1 := i_rg x1; have g_z_11 := i_rg z_11; have g_z_13 := i_rg z_13; have g_z_14 := i_rg z_14; omega) hP hD hS (lv_sub hl [] rfl)
      · exact J_21  _ _ ls  hP hD hS (lv_sub hl [] rfl)
set_option maxHeartbeats 1000000 in
set_option maxRecDepth 100000 in
theorem m_X7_u2 (l : Launch) (g : Gm) (sz : Nat) (ws : va_W) (h0 : Nat) (x1 : Int32) (hG : Good g ws) (o_h0 : gC ws h0 6) : Met l yX7_u2 (wt yX7_u2 cX7_u2 2 (some .int)) ({ frames := 0, cells := 0, slots := 0, locals := 0 }) (va_Pc [.ref h0, .int x1] (st_G g sz ws)) (va_Qi (fun (r : Int32) (u9 : Unit) => 0 ≤ r.toInt ∧ r.toInt ≤ 65535) (gQ0 g (va_A ws sz) ws) (va_A ws sz)) 0 0 (va_A ws sz) := by
  refine Met.ofW (cc := cX7_u2) (maxL := 2) (ret := (some .int)) (by decide) rfl ?_
  intro p e s m args below meth c s₁ B hml hv
  obtain ⟨rfl, hsz, hP, hK, hD0, hex, hE⟩ := hv
  have hx := B.exec
  have hb := B.bytes
  have hr := B.returns
  have hts0 := atoms_spec (ws := wt yX7_u2 cX7_u2 2 (some .int)) B.pre
  have hts : ∀ w ∈ tb, w.before _ s = true := fun w h => hts0 w (List.mem_cons_of_mem _ h)
  have hown : s.vm.findClass RX7 = some m.cls := findClass_of_methodNamed B.named
  subst hsz
  have hD := hD0.self (sz := s.heap.size)
  generalize hAe : va_A ws s.heap.size = A at hD hE ⊢
  have hA : ∀ q : Nat, s.heap.size ≤ q → A q := fun q h => by rw [← hAe]; exact Or.inr h
  have hS : va_S A s.heap s.heap [] := va_S.rf
  have hl := lv_entry ([.ref h0, .int x1]) (n := 2) (Nat.le_of_ble_eq_true rfl)
  rw [lg_entry_eq]
  generalize (lg_sl ([.ref h0, .int x1]) ++ List.replicate (2 - (lg_sl ([.ref h0, .int x1])).length) Slot.unset).toArray = ls at hl ⊢
  have hl : lv_has ls 2 [(0, .ref h0), (1, .int x1)] := hl
  refine lv_iload_n hx hb dX7_u2_0 rfl (lv_at hl 1 rfl) ?_
  have J_26 : ∀  (H : Heap) (locs : List Loc) (ls : Array Slot), va_P (gD g) cl0 ws H → va_D A ws → va_S A s.heap H locs → lv_has ls 2 [] → W p l e (headSpec (wt yX7_u2 cX7_u2 2 (some .int)) ({ frames := 0, cells := 0, slots := 0, locals := 0 })).room s m ([.ref h0, .int x1] : List Value).toArray below meth c H locs 0 0 (MQ below (va_Qi (fun (r : Int32) (u9 : Unit) => 0 ≤ r.toInt ∧ r.toInt ≤ 65535) (gQ0 g A ws) A) ([.ref h0, .int x1] : List Value).toArray s 0 0 A) (F0 m 26 ls []) := by
    intro  H locs ls  hP hD hS hl
    refine lv_iconst (v := 0) hx hb dX7_u2_26 (by decide) ?_
    refine W.widen (k := 0) (n := 0) (Nat.le_of_ble_eq_true rfl) (Nat.le_of_ble_eq_true rfl) ?_
    exact W.iret (v := 0) hx hb hr (fun t9 ht9 hW9 => ⟨⟨_, (), rfl, (by have e0 : (0 : Int32).toInt = 0 := (by decide); have g_x1 := i_rg x1; omega), ⟨by rw [ht9]; exact hP, hD⟩⟩, hS.F ht9⟩) hS.2.2 dX7_u2_27
  refine lv_if_lt (tgt := 26) hx hb dX7_u2_1 (by decide) (fun c_3 => ?_) (fun c_3 => ?_)
  · exact J_26  _ _ ls  hP hD hS (lv_sub hl [] rfl)
  · refine lv_iload_n hx hb dX7_u2_4 rfl (lv_at hl 1 rfl) ?_
    refine lv_aload_n hx hb dX7_u2_5 rfl (lv_at hl 0 rfl) ?_
    obtain ⟨k_4, fs9, hk_4⟩ := gC_of o_h0
    obtain ⟨r0_4, n0_4, c1_4, c2_4, c3_4, r4_4, n4_4, c5_4, c6_4, c7_4, c8_4, r9_4, n9_4, r10_4, n10_4, r11_4, n11_4, c12_4, c13_4, c14_4, c15_4, c16_4, rfl, a_r0_4, f1_4, a_r4_4, f3_4, a_r9_4, f5_4, a_r10_4, f7_4, a_r11_4, f9_4, f10_4, f11_4, f12_4, f13_4, f14_4, -⟩ := (hG.1 _ _ _ _ hk_4).hX7 rfl
    refine va_get (D := gD g) (ci := 6) (v := .int c1_4) (C := RX7) (T := TX7) (N := 17) hx hb hts inX7 hown hK hP k_4 hk_4 rfl 1 (by decide) (hts _ kw_1275) (fun _ h9 => h9) rfl dX7_u2_6 ?_
    refine lv_iconst (v := 2) hx hb dX7_u2_9 (by decide) ?_
    refine lv_isub hx hb dX7_u2_10 ?_
    refine lv_topi (fun z_5 ez_5 => ?_)
    refine lv_icmp_gt (tgt := 26) hx hb dX7_u2_11 (by decide) (fun c_6 => ?_) (fun c_6 => ?_)
    · exact J_26  _ _ ls  hP hD hS (lv_sub hl [] rfl)
    · refine lv_aload_n hx hb dX7_u2_14 rfl (lv_at hl 0 rfl) ?_
      refine va_get (D := gD g) (ci := 6) (v := .int c1_4) (C := RX7) (T := TX7) (N := 17) hx hb hts inX7 hown hK hP k_4 hk_4 rfl 1 (by decide) (hts _ kw_1275) (fun _ h9 => h9) rfl dX7_u2_15 ?_
      refine lv_aload_n hx hb dX7_u2_18 rfl (lv_at hl 0 rfl) ?_
      refine va_get (D := gD g) (ci := 6) (v := .ref r0_4) (C := RX7) (T := TX7) (N := 17) hx hb hts inX7 hown hK hP k_4 hk_4 rfl 0 (by decide) (hts _ kw_1341) (fun _ h9 => h9) rfl dX7_u2_19 ?_
      obtain ⟨k_7, f_7, hk_7⟩ := gI_of a_r0_4
      obtain ⟨z_8, ez_8⟩ : ∃ z : Int32, Int32.ofNat n0_4 = z := ⟨_, rfl⟩
      refine va_alen (v := z_8) hx hb hK hP k_7 0 hk_7 rfl ez_8 dX7_u2_22 ?_
      refine lv_icmp_le (tgt := 28) hx hb dX7_u2_23 (by decide) (fun c_9 => ?_) (fun c_9 => ?_)
      · refine lv_aload_n hx hb dX7_u2_28 rfl (lv_at hl 0 rfl) ?_
        refine va_get (D := gD g) (ci := 6) (v := .ref r0_4) (C := RX7) (T := TX7) (N := 17) hx hb hts inX7 hown hK hP k_4 hk_4 rfl 0 (by decide) (hts _ kw_1341) (fun _ h9 => h9) rfl dX7_u2_29 ?_
        refine lv_iload_n hx hb dX7_u2_32 rfl (lv_at hl 1 rfl) ?_
        refine va_bald hx hb hK hP k_7 0 hk_7 rfl (i_in2 (by have e0 : (0 : Int32).toInt = 0 := (by decide); have e2 : (2 : Int32).toInt = 2 := (by decide); have q_c_3 := i_nlt c_3; have q_f1_4 := f1_4; have q_c_6 := i_nlt c_6; have q_z_8 := i_len ez_8 f1_4; obtain ⟨u_z_5, q_z_5⟩ := i_sub ez_5; have q_c_9 := i_le c_9; have q_f10_4 := f10_4; have g_c1_4 := i_rg c1_4; have g_x1 := i_rg x1; have g_z_5 := i_rg z_5; have g_z_8 := i_rg z_8; omega)) dX7_u2_33 ?_
        refine lv_topi (fun z_10 ez_10 => ?_)
        refine lv_sipush (v := 255) hx hb dX7_u2_34 (by decide) ?_
        refine lv_iand hx hb dX7_u2_37 ?_
        refine lv_topi (fun z_11 ez_11 => ?_)
        refine lv_bipush (v := 8) hx hb dX7_u2_38 (by decide) ?_
        refine lv_ishl hx hb dX7_u2_40 ?_
        refine lv_topi (fun z_12 ez_12 => ?_)
        refine lv_aload_n hx hb dX7_u2_41 rfl (lv_at hl 0 rfl) ?_
        refine va_get (D := gD g) (ci := 6) (v := .ref r0_4) (C := RX7) (T := TX7) (N := 17) hx hb hts inX7 hown hK hP k_4 hk_4 rfl 0 (by decide) (hts _ kw_1341) (fun _ h9 => h9) rfl dX7_u2_42 ?_
        refine lv_iload_n hx hb dX7_u2_45 rfl (lv_at hl 1 rfl) ?_
        refine lv_iconst (v := 1) hx hb dX7_u2_46 (by decide) ?_
        refine lv_iadd hx hb dX7_u2_47 ?_
        refine lv_topi (fun z_13 ez_13 => ?_)
        refine va_bald hx hb hK hP k_7 0 hk_7 rfl (i_in2 (by have e0 : (0 : Int32).toInt = 0 := (by decide); have e1 : (1 : Int32).toInt = 1 := (by decide); have e2 : (2 : Int32).toInt = 2 := (by decide); have q_f1_4 := f1_4; have q_z_8 := i_len ez_8 f1_4; obtain ⟨u_z_13, q_z_13⟩ := i_add ez_13; have q_c_3 := i_nlt c_3; have q_c_6 := i_nlt c_6; have q_c_9 := i_le c_9; have q_f10_4 := f10_4; obtain ⟨u_z_5, q_z_5⟩ := i_sub ez_5; have g_c1_4 := i_rg c1_4; have g_x1 := i_rg x1; have g_z_13 := i_rg z_13; have g_z_5 := i_rg z_5; have g_z_8 := i_rg z_8; omega)) dX7_u2_48 ?_
        refine lv_topi (fun z_14 ez_14 => ?_)
        refine lv_sipush (v := 255) hx hb dX7_u2_49 (by decide) ?_
        refine lv_iand hx hb dX7_u2_52 ?_
        refine lv_topi (fun z_15 ez_15 => ?_)
        refine lv_ior hx hb dX7_u2_53 ?_
        refine lv_topi (fun z_16 ez_16 => ?_)
        refine W.widen (k := 0) (n := 0) (Nat.le_of_ble_eq_true rfl) (Nat.le_of_ble_eq_true rfl) ?_
        exact W.iret (v := z_16) hx hb hr (fun t9 ht9 hW9 => ⟨⟨_, (), rfl, (by have e0 : (0 : Int32).toInt = 0 := (by decide); have e1 : (1 : Int32).toInt = 1 := (by decide); have e2 : (2 : Int32).toInt = 2 := (by decide); have q_c_3 := i_nlt c_3; have q_c_6 := i_nlt c_6; obtain ⟨u_z_13, q_z_13⟩ := i_add ez_13; have q_z_16 := i_or (k := 16) (b := 65536) ez_16 (by decide) (by decide) (i_shl (k := 8) (j := 8) (b := 256) (c := 65536) ez_12 (by decide) (by decide) (by decide) (by decide) (i_and (k := 8) (b := 256) ez_11 (by decide) (by decide) (by decide))) (i_wid (i_and (k := 8) (b := 256) ez_15 (by decide) (by decide) (by decide)) (by decide)); obtain ⟨u_z_5, q_z_5⟩ := i_sub ez_5; have q_z_12 := i_shl (k := 8) (j := 8) (b := 256) (c := 65536) ez_12 (by decide) (by decide) (by decide) (by decide) (i_and (k := 8) (b := 256) ez_11 (by decide) (by decide) (by decide)); have q_z_15 := i_and (k := 8) (b := 256) ez_15 (by decide) (by decide) (by decide); have q_f10_4 := f10_4; have q_c_9 := i_le c_9; have q_z_11 := i_and (k := 8) (b := 256) ez_11 (by decide) (by decide) (by decide); have g_c1_4 := i_rg c1_4; have g_x1 := i_rg x1; have g_z_10 := i_rg z_10; have g_z_11 := i_rg z_11; have g_z_12 := i_rg z_12; have g_z_13 := i_rg z_13; have g_z_14 := i_rg z_14; have g_z_15 := i_rg z_15; have g_z_16 := i_rg z_16; have g_z_5 := i_rg z_5; have g_z_8 := i_rg z_8; omega), ⟨by rw [ht9]; exact hP, hD⟩⟩, hS.F ht9⟩) hS.2.2 dX7_u2_54
      · exact J_26  _ _ ls  hP hD hS (lv_sub hl [] rfl)
set_option maxHeartbeats 1000000 in
set_option maxRecDepth 100000 in
theorem m_X7_s4 (l : Launch) (g : Gm) (sz : Nat) (ws : va_W) (h0 : Nat) (x1 : Int32) (hG : Good g ws) (o_h0 : gC ws h0 6) : Met l yX7_s4 (wt yX7_s4 cX7_s4 2 (some .int)) ({ frames := 0, cells := 0, slots := 0, locals := 0 }) (va_Pc [.ref h0, .int x1] (st_G g sz ws)) (va_Qi (fun (r : Int32) (u9 : Unit) => True) (gQ0 g (va_A ws sz) ws) (va_A ws sz)) 0 0 (va_A ws sz) := by
  refine Met.ofW (cc := cX7_s4) (maxL := 2) (ret := (some .int)) (by decide) rfl ?_
  intro p e s m args below meth c s₁ B hml hv
  obtain ⟨rfl, hsz, hP, hK, hD0, hex, hE⟩ := hv
  have hx := B.exec
  have hb := B.bytes
  have hr := B.returns
  have hts0 := atoms_spec (ws := wt yX7_s4 cX7_s4 2 (some .int)) B.pre
  have hts : ∀ w ∈ tb, w.before _ s = true := fun w h => hts0 w (List.mem_cons_of_mem _ h)
  have hown : s.vm.findClass RX7 = some m.cls := findClass_of_methodNamed B.named
  subst hsz
  have hD := hD0.self (sz := s.heap.size)
  generalize hAe : va_A ws s.heap.size = A at hD hE ⊢
  have hA : ∀ q : Nat, s.heap.size ≤ q → A q := fun q h => by rw [← hAe]; exact Or.inr h
  have hS : va_S A s.heap s.heap [] := va_S.rf
  have hl := lv_entry ([.ref h0, .int x1]) (n := 2) (Nat.le_of_ble_eq_true rfl)
  rw [lg_entry_eq]
  generalize (lg_sl ([.ref h0, .int x1]) ++ List.replicate (2 - (lg_sl ([.ref h0, .int x1])).length) Slot.unset).toArray = ls at hl ⊢
  have hl : lv_has ls 2 [(0, .ref h0), (1, .int x1)] := hl
  refine lv_iload_n hx hb dX7_s4_0 rfl (lv_at hl 1 rfl) ?_
  have J_26 : ∀  (H : Heap) (locs : List Loc) (ls : Array Slot), va_P (gD g) cl0 ws H → va_D A ws → va_S A s.heap H locs → lv_has ls 2 [] → W p l e (headSpec (wt yX7_s4 cX7_s4 2 (some .int)) ({ frames := 0, cells := 0, slots := 0, locals := 0 })).room s m ([.ref h0, .int x1] : List Value).toArray below meth c H locs 0 0 (MQ below (va_Qi (fun (r : Int32) (u9 : Unit) => True) (gQ0 g A ws) A) ([.ref h0, .int x1] : List Value).toArray s 0 0 A) (F0 m 26 ls []) := by
    intro  H locs ls  hP hD hS hl
    refine lv_iconst (v := 0) hx hb dX7_s4_26 (by decide) ?_
    refine W.widen (k := 0) (n := 0) (Nat.le_of_ble_eq_true rfl) (Nat.le_of_ble_eq_true rfl) ?_
    exact W.iret (v := 0) hx hb hr (fun t9 ht9 hW9 => ⟨⟨_, (), rfl, trivial, ⟨by rw [ht9]; exact hP, hD⟩⟩, hS.F ht9⟩) hS.2.2 dX7_s4_27
  refine lv_if_lt (tgt := 26) hx hb dX7_s4_1 (by decide) (fun c_3 => ?_) (fun c_3 => ?_)
  · exact J_26  _ _ ls  hP hD hS (lv_sub hl [] rfl)
  · refine lv_iload_n hx hb dX7_s4_4 rfl (lv_at hl 1 rfl) ?_
    refine lv_aload_n hx hb dX7_s4_5 rfl (lv_at hl 0 rfl) ?_
    obtain ⟨k_4, fs9, hk_4⟩ := gC_of o_h0
    obtain ⟨r0_4, n0_4, c1_4, c2_4, c3_4, r4_4, n4_4, c5_4, c6_4, c7_4, c8_4, r9_4, n9_4, r10_4, n10_4, r11_4, n11_4, c12_4, c13_4, c14_4, c15_4, c16_4, rfl, a_r0_4, f1_4, a_r4_4, f3_4, a_r9_4, f5_4, a_r10_4, f7_4, a_r11_4, f9_4, f10_4, f11_4, f12_4, f13_4, f14_4, -⟩ := (hG.1 _ _ _ _ hk_4).hX7 rfl
    refine va_get (D := gD g) (ci := 6) (v := .int c1_4) (C := RX7) (T := TX7) (N := 17) hx hb hts inX7 hown hK hP k_4 hk_4 rfl 1 (by decide) (hts _ kw_1275) (fun _ h9 => h9) rfl dX7_s4_6 ?_
    refine lv_iconst (v := 4) hx hb dX7_s4_9 (by decide) ?_
    refine lv_isub hx hb dX7_s4_10 ?_
    refine lv_topi (fun z_5 ez_5 => ?_)
    refine lv_icmp_gt (tgt := 26) hx hb dX7_s4_11 (by decide) (fun c_6 => ?_) (fun c_6 => ?_)
    · exact J_26  _ _ ls  hP hD hS (lv_sub hl [] rfl)
    · refine lv_aload_n hx hb dX7_s4_14 rfl (lv_at hl 0 rfl) ?_
      refine va_get (D := gD g) (ci := 6) (v := .int c1_4) (C := RX7) (T := TX7) (N := 17) hx hb hts inX7 hown hK hP k_4 hk_4 rfl 1 (by decide) (hts _ kw_1275) (fun _ h9 => h9) rfl dX7_s4_15 ?_
      refine lv_aload_n hx hb dX7_s4_18 rfl (lv_at hl 0 rfl) ?_
      refine va_get (D := gD g) (ci := 6) (v := .ref r0_4) (C := RX7) (T := TX7) (N := 17) hx hb hts inX7 hown hK hP k_4 hk_4 rfl 0 (by decide) (hts _ kw_1341) (fun _ h9 => h9) rfl dX7_s4_19 ?_
      obtain ⟨k_7, f_7, hk_7⟩ := gI_of a_r0_4
      obtain ⟨z_8, ez_8⟩ : ∃ z : Int32, Int32.ofNat n0_4 = z := ⟨_, rfl⟩
      refine va_alen (v := z_8) hx hb hK hP k_7 0 hk_7 rfl ez_8 dX7_s4_22 ?_
      refine lv_icmp_le (tgt := 28) hx hb dX7_s4_23 (by decide) (fun c_9 => ?_) (fun c_9 => ?_)
      · refine lv_aload_n hx hb dX7_s4_28 rfl (lv_at hl 0 rfl) ?_
        refine va_get (D := gD g) (ci := 6) (v := .ref r0_4) (C := RX7) (T := TX7) (N := 17) hx hb hts inX7 hown hK hP k_4 hk_4 rfl 0 (by decide) (hts _ kw_1341) (fun _ h9 => h9) rfl dX7_s4_29 ?_
        refine lv_iload_n hx hb dX7_s4_32 rfl (lv_at hl 1 rfl) ?_
        refine va_bald hx hb hK hP k_7 0 hk_7 rfl (i_in2 (by have e0 : (0 : Int32).toInt = 0 := (by decide); have e4 : (4 : Int32).toInt = 4 := (by decide); have q_c_3 := i_nlt c_3; have q_f1_4 := f1_4; have q_c_6 := i_nlt c_6; have q_z_8 := i_len ez_8 f1_4; obtain ⟨u_z_5, q_z_5⟩ := i_sub ez_5; have q_c_9 := i_le c_9; have q_f10_4 := f10_4; have g_c1_4 := i_rg c1_4; have g_x1 := i_rg x1; have g_z_5 := i_rg z_5; have g_z_8 := i_rg z_8; omega)) dX7_s4_33 ?_
        refine lv_topi (fun z_10 ez_10 => ?_)
        refine lv_bipush (v := 24) hx hb dX7_s4_34 (by decide) ?_
        refine lv_ishl hx hb dX7_s4_36 ?_
        refine lv_topi (fun z_11 ez_11 => ?_)
        refine lv_aload_n hx hb dX7_s4_37 rfl (lv_at hl 0 rfl) ?_
        refine va_get (D := gD g) (ci := 6) (v := .ref r0_4) (C := RX7) (T := TX7) (N := 17) hx hb hts inX7 hown hK hP k_4 hk_4 rfl 0 (by decide) (hts _ kw_1341) (fun _ h9 => h9) rfl dX7_s4_38 ?_
        refine lv_iload_n hx hb dX7_s4_41 rfl (lv_at hl 1 rfl) ?_
        refine lv_iconst (v := 1) hx hb dX7_s4_42 (by decide) ?_
        refine lv_iadd hx hb dX7_s4_43 ?_
        refine lv_topi (fun z_12 ez_12 => ?_)
        refine va_bald hx hb hK hP k_7 0 hk_7 rfl (i_in2 (by have e0 : (0 : Int32).toInt = 0 := (by decide); have e1 : (1 : Int32).toInt = 1 := (by decide); have e4 : (4 : Int32).toInt = 4 := (by decide); have q_f1_4 := f1_4; have q_z_8 := i_len ez_8 f1_4; obtain ⟨u_z_12, q_z_12⟩ := i_add ez_12; have q_c_3 := i_nlt c_3; have q_c_6 := i_nlt c_6; have q_c_9 := i_le c_9; have q_f10_4 := f10_4; obtain ⟨u_z_5, q_z_5⟩ := i_sub ez_5; have g_c1_4 := i_rg c1_4; have g_x1 := i_rg x1; have g_z_12 := i_rg z_12; have g_z_5 := i_rg z_5; have g_z_8 := i_rg z_8; omega)) dX7_s4_44 ?_
        refine lv_topi (fun z_13 ez_13 => ?_)
        refine lv_sipush (v := 255) hx hb dX7_s4_45 (by decide) ?_
        refine lv_iand hx hb dX7_s4_48 ?_
        refine lv_topi (fun z_14 ez_14 => ?_)
        refine lv_bipush (v := 16) hx hb dX7_s4_49 (by decide) ?_
        refine lv_ishl hx hb dX7_s4_51 ?_
        refine lv_topi (fun z_15 ez_15 => ?_)
        refine lv_ior hx hb dX7_s4_52 ?_
        refine lv_topi (fun z_16 ez_16 => ?_)
        refine lv_aload_n hx hb dX7_s4_53 rfl (lv_at hl 0 rfl) ?_
        refine va_get (D := gD g) (ci := 6) (v := .ref r0_4) (C := RX7) (T := TX7) (N := 17) hx hb hts inX7 hown hK hP k_4 hk_4 rfl 0 (by decide) (hts _ kw_1341) (fun _ h9 => h9) rfl dX7_s4_54 ?_
        refine lv_iload_n hx hb dX7_s4_57 rfl (lv_at hl 1 rfl) ?_
        refine lv_iconst (v := 2) hx hb dX7_s4_58 (by decide) ?_
        refine lv_iadd hx hb dX7_s4_59 ?_
        refine lv_topi (fun z_17 ez_17 => ?_)
        refine va_bald hx hb hK hP k_7 0 hk_7 rfl (i_in2 (by have e0 : (0 : Int32).toInt = 0 := (by decide); have e1 : (1 : Int32).toInt = 1 := (by decide); have e2 : (2 : Int32).toInt = 2 := (by decide); have e4 : (4 : Int32).toInt = 4 := (by decide); have q_f1_4 := f1_4; have q_z_8 := i_len ez_8 f1_4; obtain ⟨u_z_17, q_z_17⟩ := i_add ez_17; have q_c_3 := i_nlt c_3; have q_c_6 := i_nlt c_6; have q_c_9 := i_le c_9; obtain ⟨u_z_12, q_z_12⟩ := i_add ez_12; have q_f10_4 := f10_4; obtain ⟨u_z_5, q_z_5⟩ := i_sub ez_5; have g_c1_4 := i_rg c1_4; have g_x1 := i_rg x1; have g_z_12 := i_rg z_12; have g_z_17 := i_rg z_17; have g_z_5 := i_rg z_5; have g_z_8 := i_rg z_8; omega)) dX7_s4_60 ?_
        refine lv_topi (fun z_18 ez_18 => ?_)
        refine lv_sipush (v := 255) hx hb dX7_s4_61 (by decide) ?_
        refine lv_iand hx hb dX7_s4_64 ?_
        refine lv_topi (fun z_19 ez_19 => ?_)
        refine lv_bipush (v := 8) hx hb dX7_s4_65 (by decide) ?_
        refine lv_ishl hx hb dX7_s4_67 ?_
        refine lv_topi (fun z_20 ez_20 => ?_)
        refine lv_ior hx hb dX7_s4_68 ?_
        refine lv_topi (fun z_21 ez_21 => ?_)
        refine lv_aload_n hx hb dX7_s4_69 rfl (lv_at hl 0 rfl) ?_
        refine va_get (D := gD g) (ci := 6) (v := .ref r0_4) (C := RX7) (T := TX7) (N := 17) hx hb hts inX7 hown hK hP k_4 hk_4 rfl 0 (by decide) (hts _ kw_1341) (fun _ h9 => h9) rfl dX7_s4_70 ?_
        refine lv_iload_n hx hb dX7_s4_73 rfl (lv_at hl 1 rfl) ?_
        refine lv_iconst (v := 3) hx hb dX7_s4_74 (by decide) ?_
        refine lv_iadd hx hb dX7_s4_75 ?_
        refine lv_topi (fun z_22 ez_22 => ?_)
        refine va_bald hx hb hK hP k_7 0 hk_7 rfl (i_in2 (by have e0 : (0 : Int32).toInt = 0 := (by decide); have e1 : (1 : Int32).toInt = 1 := (by decide); have e2 : (2 : Int32).toInt = 2 := (by decide); have e3 : (3 : Int32).toInt = 3 := (by decide); have e4 : (4 : Int32).toInt = 4 := (by decide); have q_f1_4 := f1_4; have q_z_8 := i_len ez_8 f1_4; obtain ⟨u_z_22, q_z_22⟩ := i_add ez_22; have q_c_3 := i_nlt c_3; have q_c_6 := i_nlt c_6; have q_c_9 := i_le c_9; obtain ⟨u_z_12, q_z_12⟩ := i_add ez_12; obtain ⟨u_z_17, q_z_17⟩ := i_add ez_17; have q_f10_4 := f10_4; obtain ⟨u_z_5, q_z_5⟩ := i_sub ez_5; have g_c1_4 := i_rg c1_4; have g_x1 := i_rg x1; have g_z_12 := i_rg z_12; have g_z_17 := i_rg z_17; have g_z_22 := i_rg z_22; have g_z_5 := i_rg z_5; have g_z_8 := i_rg z_8; omega)) dX7_s4_76 ?_
        refine lv_topi (fun z_23 ez_23 => ?_)
        refine lv_sipush (v := 255) hx hb dX7_s4_77 (by decide) ?_
        refine lv_iand hx hb dX7_s4_80 ?_
        refine lv_topi (fun z_24 ez_24 => ?_)
        refine lv_ior hx hb dX7_s4_81 ?_
        refine lv_topi (fun z_25 ez_25 => ?_)
        refine W.widen (k := 0) (n := 0) (Nat.le_of_ble_eq_true rfl) (Nat.le_of_ble_eq_true rfl) ?_
        exact W.iret (v := z_25) hx hb hr (fun t9 ht9 hW9 => ⟨⟨_, (), rfl, trivial, ⟨by rw [ht9]; exact hP, hD⟩⟩, hS.F ht9⟩) hS.2.2 dX7_s4_82
      · exact J_26  _ _ ls  hP hD hS (lv_sub hl [] rfl)
set_option maxHeartbeats 1000000 in
set_option maxRecDepth 100000 in
theorem m_X7_u4 (l : Launch) (g : Gm) (sz : Nat) (ws : va_W) (h0 : Nat) (x1 : Int32) (hG : Good g ws) (o_h0 : gC ws h0 6) : Met l yX7_u4 (wt yX7_u4 cX7_u4 2 (some .long)) ({ frames := 1, cells := 0, slots := 0, locals := 21 }) (va_Pc [.ref h0, .int x1] (st_G g sz ws)) (va_Ql (fun (r : Int64) (u9 : Unit) => True) (gQ0 g (va_A ws sz) ws) (va_A ws sz)) 0 0 (va_A ws sz) := by
  refine Met.ofW (cc := cX7_u4) (maxL := 2) (ret := (some .long)) (by decide) rfl ?_
  intro p e s m args below meth c s₁ B hml hv
  obtain ⟨rfl, hsz, hP, hK, hD0, hex, hE⟩ := hv
  have hx := B.exec
  have hb := B.bytes
  have hr := B.returns
  have hts0 := atoms_spec (ws := wt yX7_u4 cX7_u4 2 (some .long)) B.pre
  have hts : ∀ w ∈ tb, w.before _ s = true := fun w h => hts0 w (List.mem_cons_of_mem _ h)
  have hown : s.vm.findClass RX7 = some m.cls := findClass_of_methodNamed B.named
  subst hsz
  have hD := hD0.self (sz := s.heap.size)
  generalize hAe : va_A ws s.heap.size = A at hD hE ⊢
  have hA : ∀ q : Nat, s.heap.size ≤ q → A q := fun q h => by rw [← hAe]; exact Or.inr h
  have hS : va_S A s.heap s.heap [] := va_S.rf
  have hl := lv_entry ([.ref h0, .int x1]) (n := 2) (Nat.le_of_ble_eq_true rfl)
  rw [lg_entry_eq]
  generalize (lg_sl ([.ref h0, .int x1]) ++ List.replicate (2 - (lg_sl ([.ref h0, .int x1])).length) Slot.unset).toArray = ls at hl ⊢
  have hl : lv_has ls 2 [(0, .ref h0), (1, .int x1)] := hl
  refine lv_aload_n hx hb dX7_u4_0 rfl (lv_at hl 0 rfl) ?_
  refine lv_iload_n hx hb dX7_u4_1 rfl (lv_at hl 1 rfl) ?_
  have hFc := gfree hD hS hA
  obtain ⟨k_1, fs_1, hk_1⟩ := gC_of o_h0
  refine va_calli (va_runV (As := [.int x1]) (rest := []) ⟨hx, hb, hml, hown, hts⟩ (m_X7_s4 l g s.heap.size ws h0 (x1) hG o_h0) (cwV 1 hts (gd_V kw_1268 kw_1429 kw_1430 kw_710 kw_1428) rfl rfl rfl (by decide +kernel) ⟨Nat.le_of_ble_eq_true rfl, Nat.le_of_ble_eq_true rfl⟩) ⟨gblind, va_recv hK hP (ci := 6) (q0 := k_1) rfl hk_1, fun U hU hW9 => gmk hU hW9 hP hK hD hex hE hS hFc⟩ rfl rfl hl.1 rfl (lv_room (Nat.le_of_ble_eq_true rfl)) dX7_u4_2 ⟨Nat.le_of_ble_eq_true rfl, Nat.le_of_ble_eq_true rfl⟩) hS (fun q _ h => hFc q h) hFc (fun r_2 u9 t9 H1 locs ht9 hvm9 hw9 hB9 hz9 hk9 hS => ?_)
  have hP : va_P (gD g) cl0 ws H1 := by rw [← ht9]; exact hB9.1
  clear hB9 hz9 hk9 hvm9 ht9 hw9
  generalize H1 = H at hP hS ⊢
  obtain ⟨z_3, ez_3⟩ : ∃ y : Int64, (r_2 : Int32).toInt64 = y := ⟨_, rfl⟩
  refine lv_i2l (v := z_3) hx hb dX7_u4_5 ez_3 ?_
  refine lv_ldc2 hx hb hown (hts _ kw_1455) dX7_u4_6 ?_
  refine lv_land hx hb dX7_u4_9 ?_
  refine lv_topl (fun z_4 ez_4 => ?_)
  refine W.widen (k := 0) (n := 0) (Nat.le_of_ble_eq_true rfl) (Nat.le_of_ble_eq_true rfl) ?_
  exact W.lret (v := z_4) hx hb hr (fun t9 ht9 hW9 => ⟨⟨_, (), rfl, trivial, ⟨by rw [ht9]; exact hP, hD⟩⟩, hS.F ht9⟩) hS.2.2 dX7_u4_10
set_option maxHeartbeats 1000000 in
set_option maxRecDepth 100000 in
theorem m_X7_isThere (l : Launch) (g : Gm) (sz : Nat) (ws : va_W) (h0 : Nat) (x1 : Int32) (hG : Good g ws) (o_h0 : gC ws h0 6) : Met l yX7_isThere (wt yX7_isThere cX7_isThere 2 (some .boolean)) ({ frames := 1, cells := 0, slots := 0, locals := 22 }) (va_Pc [.ref h0, .int x1] (st_G g sz ws)) (va_Qi (fun (r : Int32) (u9 : va_W) => r = 0 ∨ r = 1) (gQ1 g [(6, 2), (6, 3)] (va_A ws sz) ws) (va_A ws sz)) 0 0 (va_A ws sz) := by
  refine Met.ofW (cc := cX7_isThere) (maxL := 2) (ret := (some .boolean)) (by decide) rfl ?_
  intro p e s m args below meth c s₁ B hml hv
  obtain ⟨rfl, hsz, hP, hK, hD0, hex, hE⟩ := hv
  have hx := B.exec
  have hb := B.bytes
  have hr := B.returns
  have hts0 := atoms_spec (ws := wt yX7_isThere cX7_isThere 2 (some .boolean)) B.pre
  have hts : ∀ w ∈ tb, w.before _ s = true := fun w h => hts0 w (List.mem_cons_of_mem _ h)
  have hown : s.vm.findClass RX7 = some m.cls := findClass_of_methodNamed B.named
  subst hsz
  have hD := hD0.self (sz := s.heap.size)
  generalize hAe : va_A ws s.heap.size = A at hD hE ⊢
  have hA : ∀ q : Nat, s.heap.size ≤ q → A q := fun q h => by rw [← hAe]; exact Or.inr h
  have hS : va_S A s.heap s.heap [] := va_S.rf
  have hl := lv_entry ([.ref h0, .int x1]) (n := 2) (Nat.le_of_ble_eq_true rfl)
  rw [lg_entry_eq]
  generalize (lg_sl ([.ref h0, .int x1]) ++ List.replicate (2 - (lg_sl ([.ref h0, .int x1])).length) Slot.unset).toArray = ls at hl ⊢
  have hl : lv_has ls 2 [(0, .ref h0), (1, .int x1)] := hl
  refine lv_iload_n hx hb dX7_isThere_0 rfl (lv_at hl 1 rfl) ?_
  refine lv_aload_n hx hb dX7_isThere_1 rfl (lv_at hl 0 rfl) ?_
  obtain ⟨k_1, fs9, hk_1⟩ := gC_of o_h0
  obtain ⟨r0_1, n0_1, c1_1, c2_1, c3_1, r4_1, n4_1, c5_1, c6_1, c7_1, c8_1, r9_1, n9_1, r10_1, n10_1, r11_1, n11_1, c12_1, c13_1, c14_1, c15_1, c16_1, rfl, a_r0_1, f1_1, a_r4_1, f3_1, a_r9_1, f5_1, a_r10_1, f7_1, a_r11_1, f9_1, f10_1, f11_1, f12_1, f13_1, f14_1, -⟩ := (hG.1 _ _ _ _ hk_1).hX7 rfl
  refine va_get (D := gD g) (ci := 6) (v := .int c1_1) (C := RX7) (T := TX7) (N := 17) hx hb hts inX7 hown hK hP k_1 hk_1 rfl 1 (by decide) (hts _ kw_1275) (fun _ h9 => h9) rfl dX7_isThere_2 ?_
  refine lv_aload_n hx hb dX7_isThere_5 rfl (lv_at hl 0 rfl) ?_
  refine va_get (D := gD g) (ci := 6) (v := .int c15_1) (C := RX7) (T := TX7) (N := 17) hx hb hts inX7 hown hK hP k_1 hk_1 rfl 15 (by decide) (hts _ kw_1273) (fun _ h9 => h9) rfl dX7_isThere_6 ?_
  refine lv_isub hx hb dX7_isThere_9 ?_
  refine lv_topi (fun z_2 ez_2 => ?_)
  have J_30 : ∀ (t_3 : Int32) (ws_5 : va_W) (H : Heap) (locs : List Loc) (ls : Array Slot), t_3 = 0 ∨ t_3 = 1 → gE ws ws_5 → gF [(6, 2), (6, 3)] ws ws_5 → Good g ws_5 → va_P (gD g) cl0 ws_5 H → va_D A ws_5 → va_S A s.heap H locs → lv_has ls 2 [] → W p l e (headSpec (wt yX7_isThere cX7_isThere 2 (some .boolean)) ({ frames := 1, cells := 0, slots := 0, locals := 22 })).room s m ([.ref h0, .int x1] : List Value).toArray below meth c H locs 0 0 (MQ below (va_Qi (fun (r : Int32) (u9 : va_W) => r = 0 ∨ r = 1) (gQ1 g [(6, 2), (6, 3)] A ws) A) ([.ref h0, .int x1] : List Value).toArray s 0 0 A) (F0 m 30 ls [.int t_3]) := by
    intro t_3 ws_5 H locs ls iv_4 E_6 Fr_7 hG hP hD hS hl
    have hz_t_3 := iv_4
    have aa_8 := a_r0_1
    have aa_9 := a_r4_1
    have aa_10 := a_r9_1
    have aa_11 := a_r10_1
    have aa_12 := a_r11_1
    have o_h0 := E_6 _ _ o_h0
    refine W.widen (k := 0) (n := 0) (Nat.le_of_ble_eq_true rfl) (Nat.le_of_ble_eq_true rfl) ?_
    exact W.zret (v := t_3) hx hb hr (nz hz_t_3) (fun t9 ht9 hW9 => ⟨⟨_, ws_5, rfl, hz_t_3, ⟨E_6, Fr_7, hG, by rw [ht9]; exact hP, hD⟩⟩, hS.F ht9⟩) hS.2.2 dX7_isThere_30
  have J_25 : ∀ (ws_13 : va_W) (H : Heap) (locs : List Loc) (ls : Array Slot), gE ws ws_13 → gF [(6, 2), (6, 3)] ws ws_13 → Good g ws_13 → va_P (gD g) cl0 ws_13 H → va_D A ws_13 → va_S A s.heap H locs → lv_has ls 2 [] → W p l e (headSpec (wt yX7_isThere cX7_isThere 2 (some .boolean)) ({ frames := 1, cells := 0, slots := 0, locals := 22 })).room s m ([.ref h0, .int x1] : List Value).toArray below meth c H locs 0 0 (MQ below (va_Qi (fun (r : Int32) (u9 : va_W) => r = 0 ∨ r = 1) (gQ1 g [(6, 2), (6, 3)] A ws) A) ([.ref h0, .int x1] : List Value).toArray s 0 0 A) (F0 m 25 ls []) := by
    intro ws_13 H locs ls  E_14 Fr_15 hG hP hD hS hl
    have aa_16 := a_r0_1
    have aa_17 := a_r4_1
    have aa_18 := a_r9_1
    have aa_19 := a_r10_1
    have aa_20 := a_r11_1
    have o_h0 := E_14 _ _ o_h0
    refine lv_iconst (v := 1) hx hb dX7_isThere_25 (by decide) ?_
    refine lv_goto (tgt := 30) hx hb dX7_isThere_26 (by decide) ?_
    exact J_30 (1) ws_13 H locs ls (Or.inr rfl) (E_14) (Fr_15) hG hP hD hS (lv_sub hl [] rfl)
  refine lv_icmp_le (tgt := 25) hx hb dX7_isThere_10 (by decide) (fun c_21 => ?_) (fun c_21 => ?_)
  · exact J_25 ws _ _ ls (gE.rf) (gF.rf) hG hP hD hS (lv_sub hl [] rfl)
  · refine lv_aload_n hx hb dX7_isThere_13 rfl (lv_at hl 0 rfl) ?_
    refine lv_iconst (v := 2) hx hb dX7_isThere_14 (by decide) ?_
    refine lv_aload_n hx hb dX7_isThere_15 rfl (lv_at hl 0 rfl) ?_
    refine va_get (D := gD g) (ci := 6) (v := .int c1_1) (C := RX7) (T := TX7) (N := 17) hx hb hts inX7 hown hK hP k_1 hk_1 rfl 1 (by decide) (hts _ kw_1275) (fun _ h9 => h9) rfl dX7_isThere_16 ?_
    have hFc := gfree hD hS hA
    refine va_calli (va_runV (As := [.int 2, .int c1_1]) (rest := []) ⟨hx, hb, hml, hown, hts⟩ (m_X7_breaks l g s.heap.size ws h0 (2) (c1_1) hG o_h0) (cwV 2 hts (gd_V kw_1276 kw_1278 kw_1279 kw_710 kw_1277) rfl rfl rfl (by decide +kernel) ⟨Nat.le_of_ble_eq_true rfl, Nat.le_of_ble_eq_true rfl⟩) ⟨gblind, va_recv hK hP (ci := 6) (q0 := k_1) rfl hk_1, fun U hU hW9 => gmk hU hW9 hP hK hD hex hE hS hFc⟩ rfl rfl hl.1 rfl (lv_room (Nat.le_of_ble_eq_true rfl)) dX7_isThere_19 ⟨Nat.le_of_ble_eq_true rfl, Nat.le_of_ble_eq_true rfl⟩) hS (fun q _ h => hFc q h) hFc (fun r_22 ws_23 t9 H1 locs ht9 hvm9 hw9 hB9 hz9 hk9 hS => ?_)
    obtain ⟨E_24, Fr_25, hG, hP1, hD1⟩ := hB9
    have hP : va_P (gD g) cl0 ws_23 H1 := by rw [← ht9]; exact hP1
    have hD : va_D A ws_23 := hD1.weaken (fun _ _ _ h => hFc _ h)
    have hz_r_22 : r_22 = 0 ∨ r_22 = 1 := hw9
    clear hP1 hD1 hz9 hk9 hvm9 ht9 hw9
    generalize H1 = H at hP hS ⊢
    have aa_26 := a_r0_1
    have aa_27 := a_r4_1
    have aa_28 := a_r9_1
    have aa_29 := a_r10_1
    have aa_30 := a_r11_1
    have o_h0 := E_24 _ _ o_h0
    refine lv_if_eq (tgt := 29) hx hb dX7_isThere_22 (by decide) (fun c_31 => ?_) (fun c_31 => ?_)
    · refine lv_iconst (v := 0) hx hb dX7_isThere_29 (by decide) ?_
      exact J_30 (0) ws_23 H locs ls (Or.inl rfl) (E_24) (Fr_25) hG hP hD hS (lv_sub hl [] rfl)
    · exact J_25 ws_23 H locs ls (E_24) (Fr_25) hG hP hD hS (lv_sub hl [] rfl)
set_option maxHeartbeats 1000000 in
set_option maxRecDepth 100000 in
theorem m_X7_magicHolds (l : Launch) (g : Gm) (sz : Nat) (ws : va_W) (h0 : Nat) (hG : Good g ws) (o_h0 : gC ws h0 6) : Met l yX7_magicHolds (wt yX7_magicHolds cX7_magicHolds 2 (some .boolean)) ({ frames := 1, cells := 0, slots := 0, locals := 22 }) (va_Pc [.ref h0] (st_G g sz ws)) (va_Qi (fun (r : Int32) (u9 : va_W) => r = 0 ∨ r = 1) (gQ1 g [(6, 2), (6, 3), (6, 15)] (va_A ws sz) ws) (va_A ws sz)) 0 0 (va_A ws sz) := by
  refine Met.ofW (cc := cX7_magicHolds) (maxL := 2) (ret := (some .boolean)) (by decide) rfl ?_
  intro p e s m args below meth c s₁ B hml hv
  obtain ⟨rfl, hsz, hP, hK, hD0, hex, hE⟩ := hv
  have hx := B.exec
  have hb := B.bytes
  have hr := B.returns
  have hts0 := atoms_spec (ws := wt yX7_magicHolds cX7_magicHolds 2 (some .boolean)) B.pre
  have hts : ∀ w ∈ tb, w.before _ s = true := fun w h => hts0 w (List.mem_cons_of_mem _ h)
  have hown : s.vm.findClass RX7 = some m.cls := findClass_of_methodNamed B.named
  subst hsz
  have hD := hD0.self (sz := s.heap.size)
  generalize hAe : va_A ws s.heap.size = A at hD hE ⊢
  have hA : ∀ q : Nat, s.heap.size ≤ q → A q := fun q h => by rw [← hAe]; exact Or.inr h
  have hS : va_S A s.heap s.heap [] := va_S.rf
  have hl := lv_entry ([.ref h0]) (n := 2) (Nat.le_of_ble_eq_true rfl)
  rw [lg_entry_eq]
  generalize (lg_sl ([.ref h0]) ++ List.replicate (2 - (lg_sl ([.ref h0])).length) Slot.unset).toArray = ls at hl ⊢
  have hl : lv_has ls 2 [(0, .ref h0)] := hl
  refine lv_iconst (v := 0) hx hb dX7_magicHolds_0 (by decide) ?_
  refine lv_istore_n (lv' := [(1, .int 0), (0, .ref h0)]) hx hb dX7_magicHolds_1 rfl hl (by decide) rfl (fun ls hl => ?_)
  have J_2 : ∀ (n9 : Nat) (v1_1 : Int32) (H : Heap) (locs : List Loc) (ls : Array Slot), (2147483647 - v1_1.toInt).toNat = n9 → 0 ≤ v1_1.toInt → va_P (gD g) cl0 ws H → va_D A ws → va_S A s.heap H locs → lv_has ls 2 [(0, .ref h0), (1, .int v1_1)] → W p l e (headSpec (wt yX7_magicHolds cX7_magicHolds 2 (some .boolean)) ({ frames := 1, cells := 0, slots := 0, locals := 22 })).room s m ([.ref h0] : List Value).toArray below meth c H locs 0 0 (MQ below (va_Qi (fun (r : Int32) (u9 : va_W) => r = 0 ∨ r = 1) (gQ1 g [(6, 2), (6, 3), (6, 15)] A ws) A) ([.ref h0] : List Value).toArray s 0 0 A) (F0 m 2 ls []) := by
    intro n9
    induction n9 using Nat.strongRecOn with
    | ind n9 ih_2 =>
      intro v1_1 H locs ls hm9 iv_2 hP hD hS hl
      subst hm9
      refine lv_iload_n hx hb dX7_magicHolds_2 rfl (lv_at hl 1 rfl) ?_
      obtain ⟨t_5, g_5, hZ_5, hT_5⟩ := hE.1
      refine va_getsN (C := "CodeFoundry") (n := "MAGIC") (d := "[I") hx hb hZ_5 hS hown (va_Nw.use rfl (nw_of nn_X7_97 hex)) (fun _ h9 => h9) dX7_magicHolds_3 ?_
      refine va_tlen (v := 8) hx hb hT_5 hS rfl dX7_magicHolds_6 ?_
      refine lv_icmp_ge (tgt := 54) hx hb dX7_magicHolds_7 (by decide) (fun c_6 => ?_) (fun c_6 => ?_)
      · refine lv_aload_n hx hb dX7_magicHolds_54 rfl (lv_at hl 0 rfl) ?_
        obtain ⟨t_7, g_7, hZ_7, hT_7⟩ := hE.1
        refine va_getsN (C := "CodeFoundry") (n := "MAGIC") (d := "[I") hx hb hZ_7 hS hown (va_Nw.use rfl (nw_of nn_X7_97 hex)) (fun _ h9 => h9) dX7_magicHolds_55 ?_
        refine va_tlen (v := 8) hx hb hT_7 hS rfl dX7_magicHolds_58 ?_
        obtain ⟨k_8, fs9, hk_8⟩ := gC_of o_h0
        obtain ⟨r0_8, n0_8, c1_8, c2_8, c3_8, r4_8, n4_8, c5_8, c6_8, c7_8, c8_8, r9_8, n9_8, r10_8, n10_8, r11_8, n11_8, c12_8, c13_8, c14_8, c15_8, c16_8, rfl, a_r0_8, f1_8, a_r4_8, f3_8, a_r9_8, f5_8, a_r10_8, f7_8, a_r11_8, f9_8, f10_8, f11_8, f12_8, f13_8, f14_8, -⟩ := (hG.1 _ _ _ _ hk_8).hX7 rfl
        refine va_put (D := gD g) (ci := 6) (v := .int 8) (ty := .int) (C := RX7) (T := TX7) (N := 17) hx hb hts inX7 tyX7 tyX7_ok nmX7 hown hK hP hD hS k_8 hk_8 rfl 15 (by decide) (hts _ kw_1273) (fun _ h9 => h9) rfl (by decide +kernel) rfl rfl (Nat.le_of_ble_eq_true rfl) dX7_magicHolds_59 (fun H locs hP hD hS => ?_)
        have hi_9 : invX7 g ws h0 [.ref r0_8, .int c1_8, .int c2_8, .int c3_8, .ref r4_8, .int c5_8, .int c6_8, .int c7_8, .int c8_8, .ref r9_8, .ref r10_8, .ref r11_8, .int c12_8, .int c13_8, .int c14_8, .int 8, .int c16_8] := ⟨r0_8, (n0_8), (c1_8), (c2_8), (c3_8), r4_8, (n4_8), (c5_8), (c6_8), (c7_8), (c8_8), r9_8, (n9_8), r10_8, (n10_8), r11_8, (n11_8), (c12_8), (c13_8), (c14_8), (8), (c16_8), rfl, a_r0_8, f1_8, a_r4_8, f3_8, a_r9_8, f5_8, a_r10_8, f7_8, a_r11_8, f9_8, f10_8, f11_8, f12_8, f13_8, f14_8, trivial⟩
        obtain ⟨ws_10, e_ws_10⟩ : ∃ z, z = ws.set k_8 (h0, .inr (6, [.ref r0_8, .int c1_8, .int c2_8, .int c3_8, .ref r4_8, .int c5_8, .int c6_8, .int c7_8, .int c8_8, .ref r9_8, .ref r10_8, .ref r11_8, .int c12_8, .int c13_8, .int c14_8, .int 8, .int c16_8])) := ⟨_, rfl⟩
        have hP : va_P (gD g) cl0 ws_10 H := by rw [e_ws_10]; exact hP
        have hD : va_D A ws_10 := by rw [e_ws_10]; exact hD
        have E_11 : gE ws ws_10 := gE_set e_ws_10 hk_8 rfl
        have hG : Good g ws_10 := Good_set e_ws_10 hk_8 hG (ivX7 hi_9)
        have Fr_12 : gF [(6, 15)] ws ws_10 := gF_put (fi := 15) (v := .int 8) e_ws_10 hk_8 rfl
        have hkN := gset_self e_ws_10 hk_8
        have hk_8 := hkN
        have o_h0 := E_11 _ _ o_h0
        have a_r0_8 := E_11 _ _ a_r0_8
        have a_r4_8 := E_11 _ _ a_r4_8
        have a_r9_8 := E_11 _ _ a_r9_8
        have a_r10_8 := E_11 _ _ a_r10_8
        have a_r11_8 := E_11 _ _ a_r11_8
        refine lv_iconst (v := 1) hx hb dX7_magicHolds_62 (by decide) ?_
        refine W.widen (k := 0) (n := 0) (Nat.le_of_ble_eq_true rfl) (Nat.le_of_ble_eq_true rfl) ?_
        exact W.zret (v := 1) hx hb hr (nz (Or.inr rfl)) (fun t9 ht9 hW9 => ⟨⟨_, ws_10, rfl, (Or.inr rfl), ⟨E_11, (gF.mo (F' := [(6, 2), (6, 3), (6, 15)]) Fr_12 (by decide)), hG, by rw [ht9]; exact hP, hD⟩⟩, hS.F ht9⟩) hS.2.2 dX7_magicHolds_63
      · refine lv_iload_n hx hb dX7_magicHolds_10 rfl (lv_at hl 1 rfl) ?_
        refine lv_aload_n hx hb dX7_magicHolds_11 rfl (lv_at hl 0 rfl) ?_
        obtain ⟨k_13, fs9, hk_13⟩ := gC_of o_h0
        obtain ⟨r0_13, n0_13, c1_13, c2_13, c3_13, r4_13, n4_13, c5_13, c6_13, c7_13, c8_13, r9_13, n9_13, r10_13, n10_13, r11_13, n11_13, c12_13, c13_13, c14_13, c15_13, c16_13, rfl, a_r0_13, f1_13, a_r4_13, f3_13, a_r9_13, f5_13, a_r10_13, f7_13, a_r11_13, f9_13, f10_13, f11_13, f12_13, f13_13, f14_13, -⟩ := (hG.1 _ _ _ _ hk_13).hX7 rfl
        refine va_get (D := gD g) (ci := 6) (v := .int c1_13) (C := RX7) (T := TX7) (N := 17) hx hb hts inX7 hown hK hP k_13 hk_13 rfl 1 (by decide) (hts _ kw_1275) (fun _ h9 => h9) rfl dX7_magicHolds_12 ?_
        refine lv_icmp_lt (tgt := 28) hx hb dX7_magicHolds_15 (by decide) (fun c_14 => ?_) (fun c_14 => ?_)
        · refine lv_aload_n hx hb dX7_magicHolds_28 rfl (lv_at hl 0 rfl) ?_
          refine lv_iload_n hx hb dX7_magicHolds_29 rfl (lv_at hl 1 rfl) ?_
          have hFc := gfree hD hS hA
          refine va_calli (va_runV (As := [.int v1_1]) (rest := []) ⟨hx, hb, hml, hown, hts⟩ (m_X7_u1 l g H.size ws h0 (v1_1) hG o_h0) (cwV 1 hts (gd_V kw_1304 kw_1447 kw_1448 kw_710 kw_1446) rfl rfl rfl (by decide +kernel) ⟨Nat.le_of_ble_eq_true rfl, Nat.le_of_ble_eq_true rfl⟩) ⟨gblind, va_recv hK hP (ci := 6) (q0 := k_13) rfl hk_13, fun U hU hW9 => gmk hU hW9 hP hK hD hex hE hS hFc⟩ rfl rfl hl.1 rfl (lv_room (Nat.le_of_ble_eq_true rfl)) dX7_magicHolds_30 ⟨Nat.le_of_ble_eq_true rfl, Nat.le_of_ble_eq_true rfl⟩) hS (fun q _ h => hFc q h) hFc (fun r_15 u9 t9 H1 locs ht9 hvm9 hw9 hB9 hz9 hk9 hS => ?_)
          have hP : va_P (gD g) cl0 ws H1 := by rw [← ht9]; exact hB9.1
          have h_r_15 := hw9
          clear hB9 hz9 hk9 hvm9 ht9 hw9
          generalize H1 = H at hP hS ⊢
          obtain ⟨t_16, g_16, hZ_16, hT_16⟩ := hE.1
          refine va_getsN (C := "CodeFoundry") (n := "MAGIC") (d := "[I") hx hb hZ_16 hS hown (va_Nw.use rfl (nw_of nn_X7_97 hex)) (fun _ h9 => h9) dX7_magicHolds_33 ?_
          refine lv_iload_n hx hb dX7_magicHolds_36 rfl (lv_at hl 1 rfl) ?_
          refine va_ti hx hb hT_16 hS (i_in2 (by have e8 : (8 : Int32).toInt = 8 := (by decide); have q_iv_2 := iv_2; have q_c_6 := i_nle c_6; have q_c_14 := i_lt c_14; have q_f10_13 := f10_13; have g_c1_13 := i_rg c1_13; have g_v1_1 := i_rg v1_1; omega)) rfl dX7_magicHolds_37 ?_
          refine lv_topi (fun z_17 ez_17 => ?_)
          refine lv_icmp_eq (tgt := 48) hx hb dX7_magicHolds_38 (by decide) (fun c_18 => ?_) (fun c_18 => ?_)
          · obtain ⟨z_19, ez_19⟩ : ∃ z : Int32, v1_1 + Int32.ofInt 1 = z := ⟨_, rfl⟩
            refine lv_iinc (v := z_19) (lv' := [(1, .int z_19), (0, .ref h0)]) hx hb dX7_magicHolds_48 hl (k := 1) rfl ez_19 (by decide) rfl (fun ls hl => ?_)
            refine lv_goto (tgt := 2) hx hb dX7_magicHolds_51 (by decide) ?_
            exact ih_2 _ (by have e8 : (8 : Int32).toInt = 8 := (by decide); obtain ⟨u_z_19, q_z_19⟩ := i_iz ez_19 (by decide) (by decide); have q_iv_2 := iv_2; have q_c_6 := i_nle c_6; have q_c_14 := i_lt c_14; have g_c1_13 := i_rg c1_13; have g_v1_1 := i_rg v1_1; have g_z_19 := i_rg z_19; omega) (z_19) H locs ls rfl (by have e8 : (8 : Int32).toInt = 8 := (by decide); obtain ⟨u_z_19, q_z_19⟩ := i_iz ez_19 (by decide) (by decide); have q_iv_2 := iv_2; have q_c_6 := i_nle c_6; have q_c_14 := i_lt c_14; have g_c1_13 := i_rg c1_13; have g_v1_1 := i_rg v1_1; have g_z_19 := i_rg z_19; omega) hP hD hS (lv_sub hl [1, 0] rfl)
          · refine lv_aload_n hx hb dX7_magicHolds_41 rfl (lv_at hl 0 rfl) ?_
            refine lv_iconst (v := 1) hx hb dX7_magicHolds_42 (by decide) ?_
            refine lv_iload_n hx hb dX7_magicHolds_43 rfl (lv_at hl 1 rfl) ?_
            have hFc := gfree hD hS hA
            refine va_calli (va_runV (As := [.int 1, .int v1_1]) (rest := []) ⟨hx, hb, hml, hown, hts⟩ (m_X7_breaks l g H.size ws h0 (1) (v1_1) hG o_h0) (cwV 2 hts (gd_V kw_1276 kw_1278 kw_1279 kw_710 kw_1277) rfl rfl rfl (by decide +kernel) ⟨Nat.le_of_ble_eq_true rfl, Nat.le_of_ble_eq_true rfl⟩) ⟨gblind, va_recv hK hP (ci := 6) (q0 := k_13) rfl hk_13, fun U hU hW9 => gmk hU hW9 hP hK hD hex hE hS hFc⟩ rfl rfl hl.1 rfl (lv_room (Nat.le_of_ble_eq_true rfl)) dX7_magicHolds_44 ⟨Nat.le_of_ble_eq_true rfl, Nat.le_of_ble_eq_true rfl⟩) hS (fun q _ h => hFc q h) hFc (fun r_20 ws_21 t9 H1 locs ht9 hvm9 hw9 hB9 hz9 hk9 hS => ?_)
            obtain ⟨E_22, Fr_23, hG, hP1, hD1⟩ := hB9
            have hP : va_P (gD g) cl0 ws_21 H1 := by rw [← ht9]; exact hP1
            have hD : va_D A ws_21 := hD1.weaken (fun _ _ _ h => hFc _ h)
            have hz_r_20 : r_20 = 0 ∨ r_20 = 1 := hw9
            clear hP1 hD1 hz9 hk9 hvm9 ht9 hw9
            generalize H1 = H at hP hS ⊢
            have aa_24 := a_r0_13
            have aa_25 := a_r4_13
            have aa_26 := a_r9_13
            have aa_27 := a_r10_13
            have aa_28 := a_r11_13
            have o_h0 := E_22 _ _ o_h0
            refine W.widen (k := 0) (n := 0) (Nat.le_of_ble_eq_true rfl) (Nat.le_of_ble_eq_true rfl) ?_
            exact W.zret (v := r_20) hx hb hr (nz hz_r_20) (fun t9 ht9 hW9 => ⟨⟨_, ws_21, rfl, hz_r_20, ⟨E_22, (gF.mo (F' := [(6, 2), (6, 3), (6, 15)]) Fr_23 (by decide)), hG, by rw [ht9]; exact hP, hD⟩⟩, hS.F ht9⟩) hS.2.2 dX7_magicHolds_47
        · refine lv_aload_n hx hb dX7_magicHolds_18 rfl (lv_at hl 0 rfl) ?_
          refine lv_iconst (v := 2) hx hb dX7_magicHolds_19 (by decide) ?_
          refine lv_aload_n hx hb dX7_magicHolds_20 rfl (lv_at hl 0 rfl) ?_
          refine va_get (D := gD g) (ci := 6) (v := .int c1_13) (C := RX7) (T := TX7) (N := 17) hx hb hts inX7 hown hK hP k_13 hk_13 rfl 1 (by decide) (hts _ kw_1275) (fun _ h9 => h9) rfl dX7_magicHolds_21 ?_
          have hFc := gfree hD hS hA
          refine va_calli (va_runV (As := [.int 2, .int c1_13]) (rest := []) ⟨hx, hb, hml, hown, hts⟩ (m_X7_breaks l g H.size ws h0 (2) (c1_13) hG o_h0) (cwV 2 hts (gd_V kw_1276 kw_1278 kw_1279 kw_710 kw_1277) rfl rfl rfl (by decide +kernel) ⟨Nat.le_of_ble_eq_true rfl, Nat.le_of_ble_eq_true rfl⟩) ⟨gblind, va_recv hK hP (ci := 6) (q0 := k_13) rfl hk_13, fun U hU hW9 => gmk hU hW9 hP hK hD hex hE hS hFc⟩ rfl rfl hl.1 rfl (lv_room (Nat.le_of_ble_eq_true rfl)) dX7_magicHolds_24 ⟨Nat.le_of_ble_eq_true rfl, Nat.le_of_ble_eq_true rfl⟩) hS (fun q _ h => hFc q h) hFc (fun r_29 ws_30 t9 H1 locs ht9 hvm9 hw9 hB9 hz9 hk9 hS => ?_)
          obtain ⟨E_31, Fr_32, hG, hP1, hD1⟩ := hB9
          have hP : va_P (gD g) cl0 ws_30 H1 := by rw [← ht9]; exact hP1
          have hD : va_D A ws_30 := hD1.weaken (fun _ _ _ h => hFc _ h)
          have hz_r_29 : r_29 = 0 ∨ r_29 = 1 := hw9
          clear hP1 hD1 hz9 hk9 hvm9 ht9 hw9
          generalize H1 = H at hP hS ⊢
          have aa_33 := a_r0_13
          have aa_34 := a_r4_13
          have aa_35 := a_r9_13
          have aa_36 := a_r10_13
          have aa_37 := a_r11_13
          have o_h0 := E_31 _ _ o_h0
          refine W.widen (k := 0) (n := 0) (Nat.le_of_ble_eq_true rfl) (Nat.le_of_ble_eq_true rfl) ?_
          exact W.zret (v := r_29) hx hb hr (nz hz_r_29) (fun t9 ht9 hW9 => ⟨⟨_, ws_30, rfl, hz_r_29, ⟨E_31, (gF.mo (F' := [(6, 2), (6, 3), (6, 15)]) Fr_32 (by decide)), hG, by rw [ht9]; exact hP, hD⟩⟩, hS.F ht9⟩) hS.2.2 dX7_magicHolds_27
  exact J_2 _ (0) _ _ ls rfl (by have e0 : (0 : Int32).toInt = 0 := (by decide); omega) hP hD hS (lv_sub hl [1, 0] rfl)
set_option maxHeartbeats 1000000 in
set_option maxRecDepth 100000 in
theorem m_X7_entryLength (l : Launch) (g : Gm) (sz : Nat) (ws : va_W) (h0 : Nat) (x1 : Int32) (hG : Good g ws) (o_h0 : gC ws h0 6) : Met l yX7_entryLength (wt yX7_entryLength cX7_entryLength 2 (some .int)) ({ frames := 1, cells := 0, slots := 0, locals := 21 }) (va_Pc [.ref h0, .int x1] (st_G g sz ws)) (va_Qi (fun (r : Int32) (u9 : Unit) => True) (gQ0 g (va_A ws sz) ws) (va_A ws sz)) 0 0 (va_A ws sz) := by
  refine Met.ofW (cc := cX7_entryLength) (maxL := 2) (ret := (some .int)) (by decide) rfl ?_
  intro p e s m args below meth c s₁ B hml hv
  obtain ⟨rfl, hsz, hP, hK, hD0, hex, hE⟩ := hv
  have hx := B.exec
  have hb := B.bytes
  have hr := B.returns
  have hts0 := atoms_spec (ws := wt yX7_entryLength cX7_entryLength 2 (some .int)) B.pre
  have hts : ∀ w ∈ tb, w.before _ s = true := fun w h => hts0 w (List.mem_cons_of_mem _ h)
  have hown : s.vm.findClass RX7 = some m.cls := findClass_of_methodNamed B.named
  subst hsz
  have hD := hD0.self (sz := s.heap.size)
  generalize hAe : va_A ws s.heap.size = A at hD hE ⊢
  have hA : ∀ q : Nat, s.heap.size ≤ q → A q := fun q h => by rw [← hAe]; exact Or.inr h
  have hS : va_S A s.heap s.heap [] := va_S.rf
  have hl := lv_entry ([.ref h0, .int x1]) (n := 2) (Nat.le_of_ble_eq_true rfl)
  rw [lg_entry_eq]
  generalize (lg_sl ([.ref h0, .int x1]) ++ List.replicate (2 - (lg_sl ([.ref h0, .int x1])).length) Slot.unset).toArray = ls at hl ⊢
  have hl : lv_has ls 2 [(0, .ref h0), (1, .int x1)] := hl
  refine lv_iload_n hx hb dX7_entryLength_0 rfl (lv_at hl 1 rfl) ?_
  have K_1_84 : W p l e (headSpec (wt yX7_entryLength cX7_entryLength 2 (some .int)) ({ frames := 1, cells := 0, slots := 0, locals := 21 })).room s m ([.ref h0, .int x1] : List Value).toArray below meth c s.heap [] 0 0 (MQ below (va_Qi (fun (r : Int32) (u9 : Unit) => True) (gQ0 g A ws) A) ([.ref h0, .int x1] : List Value).toArray s 0 0 A) (F0 m 84 ls []) := by
    refine lv_iconst (v := 0) hx hb dX7_entryLength_84 (by decide) ?_
    refine W.widen (k := 0) (n := 0) (Nat.le_of_ble_eq_true rfl) (Nat.le_of_ble_eq_true rfl) ?_
    exact W.iret (v := 0) hx hb hr (fun t9 ht9 hW9 => ⟨⟨_, (), rfl, trivial, ⟨by rw [ht9]; exact hP, hD⟩⟩, hS.F ht9⟩) hS.2.2 dX7_entryLength_85
  have K_1_64 : W p l e (headSpec (wt yX7_entryLength cX7_entryLength 2 (some .int)) ({ frames := 1, cells := 0, slots := 0, locals := 21 })).room s m ([.ref h0, .int x1] : List Value).toArray below meth c s.heap [] 0 0 (MQ below (va_Qi (fun (r : Int32) (u9 : Unit) => True) (gQ0 g A ws) A) ([.ref h0, .int x1] : List Value).toArray s 0 0 A) (F0 m 64 ls []) := by
    refine lv_iconst (v := 3) hx hb dX7_entryLength_64 (by decide) ?_
    refine lv_aload_n hx hb dX7_entryLength_65 rfl (lv_at hl 0 rfl) ?_
    refine lv_aload_n hx hb dX7_entryLength_66 rfl (lv_at hl 0 rfl) ?_
    obtain ⟨k_1, fs9, hk_1⟩ := gC_of o_h0
    obtain ⟨r0_1, n0_1, c1_1, c2_1, c3_1, r4_1, n4_1, c5_1, c6_1, c7_1, c8_1, r9_1, n9_1, r10_1, n10_1, r11_1, n11_1, c12_1, c13_1, c14_1, c15_1, c16_1, rfl, a_r0_1, f1_1, a_r4_1, f3_1, a_r9_1, f5_1, a_r10_1, f7_1, a_r11_1, f9_1, f10_1, f11_1, f12_1, f13_1, f14_1, -⟩ := (hG.1 _ _ _ _ hk_1).hX7 rfl
    refine va_get (D := gD g) (ci := 6) (v := .int c15_1) (C := RX7) (T := TX7) (N := 17) hx hb hts inX7 hown hK hP k_1 hk_1 rfl 15 (by decide) (hts _ kw_1273) (fun _ h9 => h9) rfl dX7_entryLength_67 ?_
    refine lv_iconst (v := 1) hx hb dX7_entryLength_70 (by decide) ?_
    refine lv_iadd hx hb dX7_entryLength_71 ?_
    refine lv_topi (fun z_2 ez_2 => ?_)
    have hFc := gfree hD hS hA
    refine va_calli (va_runV (As := [.int z_2]) (rest := [.int 3]) ⟨hx, hb, hml, hown, hts⟩ (m_X7_u2 l g s.heap.size ws h0 (z_2) hG o_h0) (cwV 1 hts (gd_V kw_1266 kw_1450 kw_1451 kw_710 kw_1449) rfl rfl rfl (by decide +kernel) ⟨Nat.le_of_ble_eq_true rfl, Nat.le_of_ble_eq_true rfl⟩) ⟨gblind, va_recv hK hP (ci := 6) (q0 := k_1) rfl hk_1, fun U hU hW9 => gmk hU hW9 hP hK hD hex hE hS hFc⟩ rfl rfl hl.1 rfl (lv_room (Nat.le_of_ble_eq_true rfl)) dX7_entryLength_72 ⟨Nat.le_of_ble_eq_true rfl, Nat.le_of_ble_eq_true rfl⟩) hS (fun q _ h => hFc q h) hFc (fun r_3 u9 t9 H1 locs ht9 hvm9 hw9 hB9 hz9 hk9 hS => ?_)
    have hP : va_P (gD g) cl0 ws H1 := by rw [← ht9]; exact hB9.1
    have h_r_3 := hw9
    clear hB9 hz9 hk9 hvm9 ht9 hw9
    generalize H1 = H at hP hS ⊢
    refine lv_iadd hx hb dX7_entryLength_75 ?_
    refine lv_topi (fun z_4 ez_4 => ?_)
    refine W.widen (k := 0) (n := 0) (Nat.le_of_ble_eq_true rfl) (Nat.le_of_ble_eq_true rfl) ?_
    exact W.iret (v := z_4) hx hb hr (fun t9 ht9 hW9 => ⟨⟨_, (), rfl, trivial, ⟨by rw [ht9]; exact hP, hD⟩⟩, hS.F ht9⟩) hS.2.2 dX7_entryLength_76
  have K_1_79 : W p l e (headSpec (wt yX7_entryLength cX7_entryLength 2 (some .int)) ({ frames := 1, cells := 0, slots := 0, locals := 21 })).room s m ([.ref h0, .int x1] : List Value).toArray below meth c s.heap [] 0 0 (MQ below (va_Qi (fun (r : Int32) (u9 : Unit) => True) (gQ0 g A ws) A) ([.ref h0, .int x1] : List Value).toArray s 0 0 A) (F0 m 79 ls []) := by
    refine lv_iconst (v := 5) hx hb dX7_entryLength_79 (by decide) ?_
    refine W.widen (k := 0) (n := 0) (Nat.le_of_ble_eq_true rfl) (Nat.le_of_ble_eq_true rfl) ?_
    exact W.iret (v := 5) hx hb hr (fun t9 ht9 hW9 => ⟨⟨_, (), rfl, trivial, ⟨by rw [ht9]; exact hP, hD⟩⟩, hS.F ht9⟩) hS.2.2 dX7_entryLength_80
  have K_1_81 : W p l e (headSpec (wt yX7_entryLength cX7_entryLength 2 (some .int)) ({ frames := 1, cells := 0, slots := 0, locals := 21 })).room s m ([.ref h0, .int x1] : List Value).toArray below meth c s.heap [] 0 0 (MQ below (va_Qi (fun (r : Int32) (u9 : Unit) => True) (gQ0 g A ws) A) ([.ref h0, .int x1] : List Value).toArray s 0 0 A) (F0 m 81 ls []) := by
    refine lv_bipush (v := 9) hx hb dX7_entryLength_81 (by decide) ?_
    refine W.widen (k := 0) (n := 0) (Nat.le_of_ble_eq_true rfl) (Nat.le_of_ble_eq_true rfl) ?_
    exact W.iret (v := 9) hx hb hr (fun t9 ht9 hW9 => ⟨⟨_, (), rfl, trivial, ⟨by rw [ht9]; exact hP, hD⟩⟩, hS.F ht9⟩) hS.2.2 dX7_entryLength_83
  have K_1_77 : W p l e (headSpec (wt yX7_entryLength cX7_entryLength 2 (some .int)) ({ frames := 1, cells := 0, slots := 0, locals := 21 })).room s m ([.ref h0, .int x1] : List Value).toArray below meth c s.heap [] 0 0 (MQ below (va_Qi (fun (r : Int32) (u9 : Unit) => True) (gQ0 g A ws) A) ([.ref h0, .int x1] : List Value).toArray s 0 0 A) (F0 m 77 ls []) := by
    refine lv_iconst (v := 3) hx hb dX7_entryLength_77 (by decide) ?_
    refine W.widen (k := 0) (n := 0) (Nat.le_of_ble_eq_true rfl) (Nat.le_of_ble_eq_true rfl) ?_
    exact W.iret (v := 3) hx hb hr (fun t9 ht9 hW9 => ⟨⟨_, (), rfl, trivial, ⟨by rw [ht9]; exact hP, hD⟩⟩, hS.F ht9⟩) hS.2.2 dX7_entryLength_78
  rcases Classical.em ((x1 : Int32).toInt < 1 ∨ 12 < (x1 : Int32).toInt) with c9 | c9
  · exact lv_tableOut (tgt := 84) hx hb dX7_entryLength_1 c9 (by decide) K_1_84
  · rcases (show (x1 : Int32).toInt = 1 ∨ (x1 : Int32).toInt = 2 ∨ (x1 : Int32).toInt = 3 ∨ (x1 : Int32).toInt = 4 ∨ (x1 : Int32).toInt = 5 ∨ (x1 : Int32).toInt = 6 ∨ (x1 : Int32).toInt = 7 ∨ (x1 : Int32).toInt = 8 ∨ (x1 : Int32).toInt = 9 ∨ (x1 : Int32).toInt = 10 ∨ (x1 : Int32).toInt = 11 ∨ (x1 : Int32).toInt = 12 by omega) with c9 | c9 | c9 | c9 | c9 | c9 | c9 | c9 | c9 | c9 | c9 | c9
    · exact lv_tableIn (off := 63) (tgt := 64) hx hb dX7_entryLength_1 (by rw [c9]; decide) (by rw [c9]; decide) (by rw [c9]; rfl) (by decide) K_1_64
    · exact lv_tableIn (off := 83) (tgt := 84) hx hb dX7_entryLength_1 (by rw [c9]; decide) (by rw [c9]; decide) (by rw [c9]; rfl) (by decide) K_1_84
    · exact lv_tableIn (off := 78) (tgt := 79) hx hb dX7_entryLength_1 (by rw [c9]; decide) (by rw [c9]; decide) (by rw [c9]; rfl) (by decide) K_1_79
    · exact lv_tableIn (off := 83) (tgt := 84) hx hb dX7_entryLength_1 (by rw [c9]; decide) (by rw [c9]; decide) (by rw [c9]; rfl) (by decide) K_1_84
    · exact lv_tableIn (off := 80) (tgt := 81) hx hb dX7_entryLength_1 (by rw [c9]; decide) (by rw [c9]; decide) (by rw [c9]; rfl) (by decide) K_1_81
    · exact lv_tableIn (off := 83) (tgt := 84) hx hb dX7_entryLength_1 (by rw [c9]; decide) (by rw [c9]; decide) (by rw [c9]; rfl) (by decide) K_1_84
    · exact lv_tableIn (off := 76) (tgt := 77) hx hb dX7_entryLength_1 (by rw [c9]; decide) (by rw [c9]; decide) (by rw [c9]; rfl) (by decide) K_1_77
    · exact lv_tableIn (off := 83) (tgt := 84) hx hb dX7_entryLength_1 (by rw [c9]; decide) (by rw [c9]; decide) (by rw [c9]; rfl) (by decide) K_1_84
    · exact lv_tableIn (off := 78) (tgt := 79) hx hb dX7_entryLength_1 (by rw [c9]; decide) (by rw [c9]; decide) (by rw [c9]; rfl) (by decide) K_1_79
    · exact lv_tableIn (off := 78) (tgt := 79) hx hb dX7_entryLength_1 (by rw [c9]; decide) (by rw [c9]; decide) (by rw [c9]; rfl) (by decide) K_1_79
    · exact lv_tableIn (off := 83) (tgt := 84) hx hb dX7_entryLength_1 (by rw [c9]; decide) (by rw [c9]; decide) (by rw [c9]; rfl) (by decide) K_1_84
    · exact lv_tableIn (off := 78) (tgt := 79) hx hb dX7_entryLength_1 (by rw [c9]; decide) (by rw [c9]; decide) (by rw [c9]; rfl) (by decide) K_1_79
set_option maxHeartbeats 1000000 in
set_option maxRecDepth 100000 in
theorem m_X7_nameFits (l : Launch) (g : Gm) (sz : Nat) (ws : va_W) (h0 : Nat) (hG : Good g ws) (o_h0 : gC ws h0 6) : Met l yX7_nameFits (wt yX7_nameFits cX7_nameFits 3 (some .boolean)) ({ frames := 2, cells := 0, slots := 0, locals := 43 }) (va_Pc [.ref h0] (st_G g sz ws)) (va_Qi (fun (r : Int32) (u9 : va_W) => r = 0 ∨ r = 1) (gQ1 g [(6, 2), (6, 3)] (va_A ws sz) ws) (va_A ws sz)) 0 0 (va_A ws sz) := by
  refine Met.ofW (cc := cX7_nameFits) (maxL := 3) (ret := (some .boolean)) (by decide) rfl ?_
  intro p e s m args below meth c s₁ B hml hv
  obtain ⟨rfl, hsz, hP, hK, hD0, hex, hE⟩ := hv
  have hx := B.exec
  have hb := B.bytes
  have hr := B.returns
  have hts0 := atoms_spec (ws := wt yX7_nameFits cX7_nameFits 3 (some .boolean)) B.pre
  have hts : ∀ w ∈ tb, w.before _ s = true := fun w h => hts0 w (List.mem_cons_of_mem _ h)
  have hown : s.vm.findClass RX7 = some m.cls := findClass_of_methodNamed B.named
  subst hsz
  have hD := hD0.self (sz := s.heap.size)
  generalize hAe : va_A ws s.heap.size = A at hD hE ⊢
  have hA : ∀ q : Nat, s.heap.size ≤ q → A q := fun q h => by rw [← hAe]; exact Or.inr h
  have hS : va_S A s.heap s.heap [] := va_S.rf
  have hl := lv_entry ([.ref h0]) (n := 3) (Nat.le_of_ble_eq_true rfl)
  rw [lg_entry_eq]
  generalize (lg_sl ([.ref h0]) ++ List.replicate (3 - (lg_sl ([.ref h0])).length) Slot.unset).toArray = ls at hl ⊢
  have hl : lv_has ls 3 [(0, .ref h0)] := hl
  refine lv_aload_n hx hb dX7_nameFits_0 rfl (lv_at hl 0 rfl) ?_
  refine lv_iconst (v := 3) hx hb dX7_nameFits_1 (by decide) ?_
  have hFc := gfree hD hS hA
  obtain ⟨k_1, fs_1, hk_1⟩ := gC_of o_h0
  refine va_calli (va_runV (As := [.int 3]) (rest := []) ⟨hx, hb, hml, hown, hts⟩ (m_X7_isThere l g s.heap.size ws h0 (3) hG o_h0) (cwV 1 hts (gd_V kw_1272 kw_1382 kw_1383 kw_710 kw_1381) rfl rfl rfl (by decide +kernel) ⟨Nat.le_of_ble_eq_true rfl, Nat.le_of_ble_eq_true rfl⟩) ⟨gblind, va_recv hK hP (ci := 6) (q0 := k_1) rfl hk_1, fun U hU hW9 => gmk hU hW9 hP hK hD hex hE hS hFc⟩ rfl rfl hl.1 rfl (lv_room (Nat.le_of_ble_eq_true rfl)) dX7_nameFits_2 ⟨Nat.le_of_ble_eq_true rfl, Nat.le_of_ble_eq_true rfl⟩) hS (fun q _ h => hFc q h) hFc (fun r_2 ws_3 t9 H1 locs ht9 hvm9 hw9 hB9 hz9 hk9 hS => ?_)
  obtain ⟨E_4, Fr_5, hG, hP1, hD1⟩ := hB9
  have hP : va_P (gD g) cl0 ws_3 H1 := by rw [← ht9]; exact hP1
  have hD : va_D A ws_3 := hD1.weaken (fun _ _ _ h => hFc _ h)
  have hz_r_2 : r_2 = 0 ∨ r_2 = 1 := hw9
  clear hP1 hD1 hz9 hk9 hvm9 ht9 hw9
  generalize H1 = H at hP hS ⊢
  have o_h0 := E_4 _ _ o_h0
  refine lv_if_ne (tgt := 10) hx hb dX7_nameFits_5 (by decide) (fun c_6 => ?_) (fun c_6 => ?_)
  · refine lv_aload_n hx hb dX7_nameFits_10 rfl (lv_at hl 0 rfl) ?_
    refine lv_aload_n hx hb dX7_nameFits_11 rfl (lv_at hl 0 rfl) ?_
    obtain ⟨k_7, fs9, hk_7⟩ := gC_of o_h0
    obtain ⟨r0_7, n0_7, c1_7, c2_7, c3_7, r4_7, n4_7, c5_7, c6_7, c7_7, c8_7, r9_7, n9_7, r10_7, n10_7, r11_7, n11_7, c12_7, c13_7, c14_7, c15_7, c16_7, rfl, a_r0_7, f1_7, a_r4_7, f3_7, a_r9_7, f5_7, a_r10_7, f7_7, a_r11_7, f9_7, f10_7, f11_7, f12_7, f13_7, f14_7, -⟩ := (hG.1 _ _ _ _ hk_7).hX7 rfl
    refine va_get (D := gD g) (ci := 6) (v := .int c15_7) (C := RX7) (T := TX7) (N := 17) hx hb hts inX7 hown hK hP k_7 hk_7 rfl 15 (by decide) (hts _ kw_1273) (fun _ h9 => h9) rfl dX7_nameFits_12 ?_
    refine lv_iconst (v := 1) hx hb dX7_nameFits_15 (by decide) ?_
    refine lv_iadd hx hb dX7_nameFits_16 ?_
    refine lv_topi (fun z_8 ez_8 => ?_)
    have hFc := gfree hD hS hA
    refine va_calli (va_runV (As := [.int z_8]) (rest := []) ⟨hx, hb, hml, hown, hts⟩ (m_X7_u2 l g H.size ws_3 h0 (z_8) hG o_h0) (cwV 1 hts (gd_V kw_1266 kw_1450 kw_1451 kw_710 kw_1449) rfl rfl rfl (by decide +kernel) ⟨Nat.le_of_ble_eq_true rfl, Nat.le_of_ble_eq_true rfl⟩) ⟨gblind, va_recv hK hP (ci := 6) (q0 := k_7) rfl hk_7, fun U hU hW9 => gmk hU hW9 hP hK hD hex hE hS hFc⟩ rfl rfl hl.1 rfl (lv_room (Nat.le_of_ble_eq_true rfl)) dX7_nameFits_17 ⟨Nat.le_of_ble_eq_true rfl, Nat.le_of_ble_eq_true rfl⟩) hS (fun q _ h => hFc q h) hFc (fun r_9 u9 t9 H1 locs ht9 hvm9 hw9 hB9 hz9 hk9 hS => ?_)
    have hP : va_P (gD g) cl0 ws_3 H1 := by rw [← ht9]; exact hB9.1
    have h_r_9 := hw9
    clear hB9 hz9 hk9 hvm9 ht9 hw9
    generalize H1 = H at hP hS ⊢
    refine lv_istore_n (lv' := [(1, .int r_9), (0, .ref h0)]) hx hb dX7_nameFits_20 rfl hl (by decide) rfl (fun ls hl => ?_)
    refine lv_iload_n hx hb dX7_nameFits_21 rfl (lv_at hl 0 rfl) ?_
    refine lv_iconst (v := 1) hx hb dX7_nameFits_22 (by decide) ?_
    have J_32 : ∀  (H : Heap) (locs : List Loc) (ls : Array Slot), va_P (gD g) cl0 ws_3 H → va_D A ws_3 → va_S A s.heap H locs → lv_has ls 3 [(0, .ref h0)] → W p l e (headSpec (wt yX7_nameFits cX7_nameFits 3 (some .boolean)) ({ frames := 2, cells := 0, slots := 0, locals := 43 })).room s m ([.ref h0] : List Value).toArray below meth c H locs 0 0 (MQ below (va_Qi (fun (r : Int32) (u9 : va_W) => r = 0 ∨ r = 1) (gQ1 g [(6, 2), (6, 3)] A ws) A) ([.ref h0] : List Value).toArray s 0 0 A) (F0 m 32 ls []) := by
      intro  H locs ls  hP hD hS hl
      refine lv_aload_n hx hb dX7_nameFits_32 rfl (lv_at hl 0 rfl) ?_
      refine lv_iconst (v := 4) hx hb dX7_nameFits_33 (by decide) ?_
      refine lv_aload_n hx hb dX7_nameFits_34 rfl (lv_at hl 0 rfl) ?_
      refine va_get (D := gD g) (ci := 6) (v := .int c15_7) (C := RX7) (T := TX7) (N := 17) hx hb hts inX7 hown hK hP k_7 hk_7 rfl 15 (by decide) (hts _ kw_1273) (fun _ h9 => h9) rfl dX7_nameFits_35 ?_
      have hFc := gfree hD hS hA
      refine va_calli (va_runV (As := [.int 4, .int c15_7]) (rest := []) ⟨hx, hb, hml, hown, hts⟩ (m_X7_breaks l g H.size ws_3 h0 (4) (c15_7) hG o_h0) (cwV 2 hts (gd_V kw_1276 kw_1278 kw_1279 kw_710 kw_1277) rfl rfl rfl (by decide +kernel) ⟨Nat.le_of_ble_eq_true rfl, Nat.le_of_ble_eq_true rfl⟩) ⟨gblind, va_recv hK hP (ci := 6) (q0 := k_7) rfl hk_7, fun U hU hW9 => gmk hU hW9 hP hK hD hex hE hS hFc⟩ rfl rfl hl.1 rfl (lv_room (Nat.le_of_ble_eq_true rfl)) dX7_nameFits_38 ⟨Nat.le_of_ble_eq_true rfl, Nat.le_of_ble_eq_true rfl⟩) hS (fun q _ h => hFc q h) hFc (fun r_12 ws_13 t9 H1 locs ht9 hvm9 hw9 hB9 hz9 hk9 hS => ?_)
      obtain ⟨E_14, Fr_15, hG, hP1, hD1⟩ := hB9
      have hP : va_P (gD g) cl0 ws_13 H1 := by rw [← ht9]; exact hP1
      have hD : va_D A ws_13 := hD1.weaken (fun _ _ _ h => hFc _ h)
      have hz_r_12 : r_12 = 0 ∨ r_12 = 1 := hw9
      clear hP1 hD1 hz9 hk9 hvm9 ht9 hw9
      generalize H1 = H at hP hS ⊢
      have aa_16 := a_r0_7
      have aa_17 := a_r4_7
      have aa_18 := a_r9_7
      have aa_19 := a_r10_7
      have aa_20 := a_r11_7
      have o_h0 := E_14 _ _ o_h0
      refine W.widen (k := 0) (n := 0) (Nat.le_of_ble_eq_true rfl) (Nat.le_of_ble_eq_true rfl) ?_
      exact W.zret (v := r_12) hx hb hr (nz hz_r_12) (fun t9 ht9 hW9 => ⟨⟨_, ws_13, rfl, hz_r_12, ⟨(E_4.tr E_14), (gF.tr Fr_5 Fr_15), hG, by rw [ht9]; exact hP, hD⟩⟩, hS.F ht9⟩) hS.2.2 dX7_nameFits_41
    refine lv_icmp_lt (tgt := 32) hx hb dX7_nameFits_23 (by decide) (fun c_21 => ?_) (fun c_21 => ?_)
    · exact J_32  H locs ls  hP hD hS (lv_sub hl [1] rfl)
    · refine lv_iload_n hx hb dX7_nameFits_26 rfl (lv_at hl 0 rfl) ?_
      refine lv_bipush (v := 100) hx hb dX7_nameFits_27 (by decide) ?_
      refine lv_icmp_le (tgt := 42) hx hb dX7_nameFits_29 (by decide) (fun c_22 => ?_) (fun c_22 => ?_)
      · refine lv_aload_n hx hb dX7_nameFits_42 rfl (lv_at hl 1 rfl) ?_
        refine va_get (D := gD g) (ci := 6) (v := .int c15_7) (C := RX7) (T := TX7) (N := 17) hx hb hts inX7 hown hK hP k_7 hk_7 rfl 15 (by decide) (hts _ kw_1273) (fun _ h9 => h9) rfl dX7_nameFits_43 ?_
        refine lv_iconst (v := 3) hx hb dX7_nameFits_46 (by decide) ?_
        refine lv_iadd hx hb dX7_nameFits_47 ?_
        refine lv_topi (fun z_23 ez_23 => ?_)
        refine lv_istore_n (lv' := [(2, .int z_23), (1, .int r_9), (0, .ref h0)]) hx hb dX7_nameFits_48 rfl hl (by decide) rfl (fun ls hl => ?_)
        have J_49 : ∀ (n9 : Nat) (v2_24 : Int32) (H : Heap) (locs : List Loc) (ls : Array Slot), (2147483647 - v2_24.toInt).toNat = n9 → va_P (gD g) cl0 ws_3 H → va_D A ws_3 → va_S A s.heap H locs → lv_has ls 3 [(0, .ref h0), (1, .int r_9), (2, .int v2_24)] → W p l e (headSpec (wt yX7_nameFits cX7_nameFits 3 (some .boolean)) ({ frames := 2, cells := 0, slots := 0, locals := 43 })).room s m ([.ref h0] : List Value).toArray below meth c H locs 0 0 (MQ below (va_Qi (fun (r : Int32) (u9 : va_W) => r = 0 ∨ r = 1) (gQ1 g [(6, 2), (6, 3)] A ws) A) ([.ref h0] : List Value).toArray s 0 0 A) (F0 m 49 ls []) := by
          intro n9
          induction n9 using Nat.strongRecOn with
          | ind n9 ih_49 =>
            intro v2_24 H locs ls hm9  hP hD hS hl
            subst hm9
            refine lv_iload_n hx hb dX7_nameFits_49 rfl (lv_at hl 2 rfl) ?_
            refine lv_aload_n hx hb dX7_nameFits_50 rfl (lv_at hl 0 rfl) ?_
            refine va_get (D := gD g) (ci := 6) (v := .int c15_7) (C := RX7) (T := TX7) (N := 17) hx hb hts inX7 hown hK hP k_7 hk_7 rfl 15 (by decide) (hts _ kw_1273) (fun _ h9 => h9) rfl dX7_nameFits_51 ?_
            refine lv_iconst (v := 3) hx hb dX7_nameFits_54 (by decide) ?_
            refine lv_iadd hx hb dX7_nameFits_55 ?_
            refine lv_topi (fun z_27 ez_27 => ?_)
            refine lv_iload_n hx hb dX7_nameFits_56 rfl (lv_at hl 1 rfl) ?_
            refine lv_iadd hx hb dX7_nameFits_57 ?_
            refine lv_topi (fun z_28 ez_28 => ?_)
            have J_105 : ∀  (H : Heap) (locs : List Loc) (ls : Array Slot), va_P (gD g) cl0 ws_3 H → va_D A ws_3 → va_S A s.heap H locs → lv_has ls 3 [(0, .ref h0), (1, .int r_9)] → W p l e (headSpec (wt yX7_nameFits cX7_nameFits 3 (some .boolean)) ({ frames := 2, cells := 0, slots := 0, locals := 43 })).room s m ([.ref h0] : List Value).toArray below meth c H locs 0 0 (MQ below (va_Qi (fun (r : Int32) (u9 : va_W) => r = 0 ∨ r = 1) (gQ1 g [(6, 2), (6, 3)] A ws) A) ([.ref h0] : List Value).toArray s 0 0 A) (F0 m 105 ls []) := by
              intro  H locs ls  hP hD hS hl
              refine lv_aload_n hx hb dX7_nameFits_105 rfl (lv_at hl 0 rfl) ?_
              refine lv_iconst (v := 3) hx hb dX7_nameFits_106 (by decide) ?_
              refine lv_iload_n hx hb dX7_nameFits_107 rfl (lv_at hl 1 rfl) ?_
              refine lv_iadd hx hb dX7_nameFits_108 ?_
              refine lv_topi (fun z_31 ez_31 => ?_)
              have hFc := gfree hD hS hA
              refine va_calli (va_runV (As := [.int z_31]) (rest := []) ⟨hx, hb, hml, hown, hts⟩ (m_X7_isThere l g H.size ws_3 h0 (z_31) hG o_h0) (cwV 1 hts (gd_V kw_1272 kw_1382 kw_1383 kw_710 kw_1381) rfl rfl rfl (by decide +kernel) ⟨Nat.le_of_ble_eq_true rfl, Nat.le_of_ble_eq_true rfl⟩) ⟨gblind, va_recv hK hP (ci := 6) (q0 := k_7) rfl hk_7, fun U hU hW9 => gmk hU hW9 hP hK hD hex hE hS hFc⟩ rfl rfl hl.1 rfl (lv_room (Nat.le_of_ble_eq_true rfl)) dX7_nameFits_109 ⟨Nat.le_of_ble_eq_true rfl, Nat.le_of_ble_eq_true rfl⟩) hS (fun q _ h => hFc q h) hFc (fun r_32 ws_33 t9 H1 locs ht9 hvm9 hw9 hB9 hz9 hk9 hS => ?_)
              obtain ⟨E_34, Fr_35, hG, hP1, hD1⟩ := hB9
              have hP : va_P (gD g) cl0 ws_33 H1 := by rw [← ht9]; exact hP1
              have hD : va_D A ws_33 := hD1.weaken (fun _ _ _ h => hFc _ h)
              have hz_r_32 : r_32 = 0 ∨ r_32 = 1 := hw9
              clear hP1 hD1 hz9 hk9 hvm9 ht9 hw9
              generalize H1 = H at hP hS ⊢
              have aa_36 := a_r0_7
              have aa_37 := a_r4_7
              have aa_38 := a_r9_7
              have aa_39 := a_r10_7
              have aa_40 := a_r11_7
              have o_h0 := E_34 _ _ o_h0
              refine W.widen (k := 0) (n := 0) (Nat.le_of_ble_eq_true rfl) (Nat.le_of_ble_eq_true rfl) ?_
              exact W.zret (v := r_32) hx hb hr (nz hz_r_32) (fun t9 ht9 hW9 => ⟨⟨_, ws_33, rfl, hz_r_32, ⟨(E_4.tr E_34), (gF.tr Fr_5 Fr_35), hG, by rw [ht9]; exact hP, hD⟩⟩, hS.F ht9⟩) hS.2.2 dX7_nameFits_112
            refine lv_icmp_ge (tgt := 105) hx hb dX7_nameFits_58 (by decide) (fun c_41 => ?_) (fun c_41 => ?_)
            · exact J_105  H locs ls  hP hD hS (lv_sub hl [0, 1] rfl)
            · refine lv_iload_n hx hb dX7_nameFits_61 rfl (lv_at hl 2 rfl) ?_
              refine lv_aload_n hx hb dX7_nameFits_62 rfl (lv_at hl 0 rfl) ?_
              refine va_get (D := gD g) (ci := 6) (v := .int c1_7) (C := RX7) (T := TX7) (N := 17) hx hb hts inX7 hown hK hP k_7 hk_7 rfl 1 (by decide) (hts _ kw_1275) (fun _ h9 => h9) rfl dX7_nameFits_63 ?_
              refine lv_icmp_ge (tgt := 105) hx hb dX7_nameFits_66 (by decide) (fun c_42 => ?_) (fun c_42 => ?_)
              · exact J_105  H locs ls  hP hD hS (lv_sub hl [0, 1] rfl)
              · refine lv_aload_n hx hb dX7_nameFits_69 rfl (lv_at hl 0 rfl) ?_
                refine lv_iload_n hx hb dX7_nameFits_70 rfl (lv_at hl 2 rfl) ?_
                have hFc := gfree hD hS hA
                refine va_calli (va_runV (As := [.int v2_24]) (rest := []) ⟨hx, hb, hml, hown, hts⟩ (m_X7_u1 l g H.size ws_3 h0 (v2_24) hG o_h0) (cwV 1 hts (gd_V kw_1304 kw_1447 kw_1448 kw_710 kw_1446) rfl rfl rfl (by decide +kernel) ⟨Nat.le_of_ble_eq_true rfl, Nat.le_of_ble_eq_true rfl⟩) ⟨gblind, va_recv hK hP (ci := 6) (q0 := k_7) rfl hk_7, fun U hU hW9 => gmk hU hW9 hP hK hD hex hE hS hFc⟩ rfl rfl hl.1 rfl (lv_room (Nat.le_of_ble_eq_true rfl)) dX7_nameFits_71 ⟨Nat.le_of_ble_eq_true rfl, Nat.le_of_ble_eq_true rfl⟩) hS (fun q _ h => hFc q h) hFc (fun r_43 u9 t9 H1 locs ht9 hvm9 hw9 hB9 hz9 hk9 hS => ?_)
                have hP : va_P (gD g) cl0 ws_3 H1 := by rw [← ht9]; exact hB9.1
                have h_r_43 := hw9
                clear hB9 hz9 hk9 hvm9 ht9 hw9
                generalize H1 = H at hP hS ⊢
                refine lv_bipush (v := 33) hx hb dX7_nameFits_74 (by decide) ?_
                have J_89 : ∀  (H : Heap) (locs : List Loc) (ls : Array Slot), va_P (gD g) cl0 ws_3 H → va_D A ws_3 → va_S A s.heap H locs → lv_has ls 3 [(0, .ref h0)] → W p l e (headSpec (wt yX7_nameFits cX7_nameFits 3 (some .boolean)) ({ frames := 2, cells := 0, slots := 0, locals := 43 })).room s m ([.ref h0] : List Value).toArray below meth c H locs 0 0 (MQ below (va_Qi (fun (r : Int32) (u9 : va_W) => r = 0 ∨ r = 1) (gQ1 g [(6, 2), (6, 3)] A ws) A) ([.ref h0] : List Value).toArray s 0 0 A) (F0 m 89 ls []) := by
                  intro  H locs ls  hP hD hS hl
                  refine lv_aload_n hx hb dX7_nameFits_89 rfl (lv_at hl 0 rfl) ?_
                  refine lv_iconst (v := 4) hx hb dX7_nameFits_90 (by decide) ?_
                  refine lv_aload_n hx hb dX7_nameFits_91 rfl (lv_at hl 0 rfl) ?_
                  refine va_get (D := gD g) (ci := 6) (v := .int c15_7) (C := RX7) (T := TX7) (N := 17) hx hb hts inX7 hown hK hP k_7 hk_7 rfl 15 (by decide) (hts _ kw_1273) (fun _ h9 => h9) rfl dX7_nameFits_92 ?_
                  have hFc := gfree hD hS hA
                  refine va_calli (va_runV (As := [.int 4, .int c15_7]) (rest := []) ⟨hx, hb, hml, hown, hts⟩ (m_X7_breaks l g H.size ws_3 h0 (4) (c15_7) hG o_h0) (cwV 2 hts (gd_V kw_1276 kw_1278 kw_1279 kw_710 kw_1277) rfl rfl rfl (by decide +kernel) ⟨Nat.le_of_ble_eq_true rfl, Nat.le_of_ble_eq_true rfl⟩) ⟨gblind, va_recv hK hP (ci := 6) (q0 := k_7) rfl hk_7, fun U hU hW9 => gmk hU hW9 hP hK hD hex hE hS hFc⟩ rfl rfl hl.1 rfl (lv_room (Nat.le_of_ble_eq_true rfl)) dX7_nameFits_95 ⟨Nat.le_of_ble_eq_true rfl, Nat.le_of_ble_eq_true rfl⟩) hS (fun q _ h => hFc q h) hFc (fun r_46 ws_47 t9 H1 locs ht9 hvm9 hw9 hB9 hz9 hk9 hS => ?_)
                  obtain ⟨E_48, Fr_49, hG, hP1, hD1⟩ := hB9
                  have hP : va_P (gD g) cl0 ws_47 H1 := by rw [← ht9]; exact hP1
                  have hD : va_D A ws_47 := hD1.weaken (fun _ _ _ h => hFc _ h)
                  have hz_r_46 : r_46 = 0 ∨ r_46 = 1 := hw9
                  clear hP1 hD1 hz9 hk9 hvm9 ht9 hw9
                  generalize H1 = H at hP hS ⊢
                  have aa_50 := a_r0_7
                  have aa_51 := a_r4_7
                  have aa_52 := a_r9_7
                  have aa_53 := a_r10_7
                  have aa_54 := a_r11_7
                  have o_h0 := E_48 _ _ o_h0
                  refine W.widen (k := 0) (n := 0) (Nat.le_of_ble_eq_true rfl) (Nat.le_of_ble_eq_true rfl) ?_
                  exact W.zret (v := r_46) hx hb hr (nz hz_r_46) (fun t9 ht9 hW9 => ⟨⟨_, ws_47, rfl, hz_r_46, ⟨(E_4.tr E_48), (gF.tr Fr_5 Fr_49), hG, by rw [ht9]; exact hP, hD⟩⟩, hS.F ht9⟩) hS.2.2 dX7_nameFits_98
                refine lv_icmp_lt (tgt := 89) hx hb dX7_nameFits_76 (by decide) (fun c_55 => ?_) (fun c_55 => ?_)
                · exact J_89  H locs ls  hP hD hS (lv_sub hl [0] rfl)
                · refine lv_aload_n hx hb dX7_nameFits_79 rfl (lv_at hl 0 rfl) ?_
                  refine lv_iload_n hx hb dX7_nameFits_80 rfl (lv_at hl 2 rfl) ?_
                  have hFc := gfree hD hS hA
                  refine va_calli (va_runV (As := [.int v2_24]) (rest := []) ⟨hx, hb, hml, hown, hts⟩ (m_X7_u1 l g H.size ws_3 h0 (v2_24) hG o_h0) (cwV 1 hts (gd_V kw_1304 kw_1447 kw_1448 kw_710 kw_1446) rfl rfl rfl (by decide +kernel) ⟨Nat.le_of_ble_eq_true rfl, Nat.le_of_ble_eq_true rfl⟩) ⟨gblind, va_recv hK hP (ci := 6) (q0 := k_7) rfl hk_7, fun U hU hW9 => gmk hU hW9 hP hK hD hex hE hS hFc⟩ rfl rfl hl.1 rfl (lv_room (Nat.le_of_ble_eq_true rfl)) dX7_nameFits_81 ⟨Nat.le_of_ble_eq_true rfl, Nat.le_of_ble_eq_true rfl⟩) hS (fun q _ h => hFc q h) hFc (fun r_56 u9 t9 H1 locs ht9 hvm9 hw9 hB9 hz9 hk9 hS => ?_)
                  have hP : va_P (gD g) cl0 ws_3 H1 := by rw [← ht9]; exact hB9.1
                  have h_r_56 := hw9
                  clear hB9 hz9 hk9 hvm9 ht9 hw9
                  generalize H1 = H at hP hS ⊢
                  refine lv_bipush (v := 126) hx hb dX7_nameFits_84 (by decide) ?_
                  refine lv_icmp_le (tgt := 99) hx hb dX7_nameFits_86 (by decide) (fun c_57 => ?_) (fun c_57 => ?_)
                  · obtain ⟨z_58, ez_58⟩ : ∃ z : Int32, v2_24 + Int32.ofInt 1 = z := ⟨_, rfl⟩
                    refine lv_iinc (v := z_58) (lv' := [(2, .int z_58), (0, .ref h0), (1, .int r_9)]) hx hb dX7_nameFits_99 hl (k := 2) rfl ez_58 (by decide) rfl (fun ls hl => ?_)
                    refine lv_goto (tgt := 49) hx hb dX7_nameFits_102 (by decide) ?_
                    exact ih_49 _ (by obtain ⟨u_z_58, q_z_58⟩ := i_iz ez_58 (by decide) (by decide); have q_c_41 := i_nle c_41; have q_c_42 := i_nle c_42; have g_c1_7 := i_rg c1_7; have g_v2_24 := i_rg v2_24; have g_z_28 := i_rg z_28; have g_z_58 := i_rg z_58; omega) (z_58) H locs ls rfl  hP hD hS (lv_sub hl [1, 2, 0] rfl)
                  · exact J_89  H locs ls  hP hD hS (lv_sub hl [0] rfl)
        exact J_49 _ (z_23) H locs ls rfl  hP hD hS (lv_sub hl [2, 1, 0] rfl)
      · exact J_32  H locs ls  hP hD hS (lv_sub hl [1] rfl)
  · refine lv_iconst (v := 0) hx hb dX7_nameFits_8 (by decide) ?_
    refine W.widen (k := 0) (n := 0) (Nat.le_of_ble_eq_true rfl) (Nat.le_of_ble_eq_true rfl) ?_
    exact W.zret (v := 0) hx hb hr (nz (Or.inl rfl)) (fun t9 ht9 hW9 => ⟨⟨_, ws_3, rfl, (Or.inl rfl), ⟨E_4, Fr_5, hG, by rw [ht9]; exact hP, hD⟩⟩, hS.F ht9⟩) hS.2.2 dX7_nameFits_9
set_option maxHeartbeats 1000000 in
set_option maxRecDepth 100000 in
theorem m_X7_headFits (l : Launch) (g : Gm) (sz : Nat) (ws : va_W) (h0 : Nat) (hG : Good g ws) (o_h0 : gC ws h0 6) : Met l yX7_headFits (wt yX7_headFits cX7_headFits 1 (some .boolean)) ({ frames := 2, cells := 0, slots := 0, locals := 43 }) (va_Pc [.ref h0] (st_G g sz ws)) (va_Qi (fun (r : Int32) (u9 : va_W) => r = 0 ∨ r = 1) (gQ1 g [(6, 2), (6, 3), (6, 6), (6, 15)] (va_A ws sz) ws) (va_A ws sz)) 0 0 (va_A ws sz) := by
  refine Met.ofW (cc := cX7_headFits) (maxL := 1) (ret := (some .boolean)) (by decide) rfl ?_
  intro p e s m args below meth c s₁ B hml hv
  obtain ⟨rfl, hsz, hP, hK, hD0, hex, hE⟩ := hv
  have hx := B.exec
  have hb := B.bytes
  have hr := B.returns
  have hts0 := atoms_spec (ws := wt yX7_headFits cX7_headFits 1 (some .boolean)) B.pre
  have hts : ∀ w ∈ tb, w.before _ s = true := fun w h => hts0 w (List.mem_cons_of_mem _ h)
  have hown : s.vm.findClass RX7 = some m.cls := findClass_of_methodNamed B.named
  subst hsz
  have hD := hD0.self (sz := s.heap.size)
  generalize hAe : va_A ws s.heap.size = A at hD hE ⊢
  have hA : ∀ q : Nat, s.heap.size ≤ q → A q := fun q h => by rw [← hAe]; exact Or.inr h
  have hS : va_S A s.heap s.heap [] := va_S.rf
  have hl := lv_entry ([.ref h0]) (n := 1) (Nat.le_of_ble_eq_true rfl)
  rw [lg_entry_eq]
  generalize (lg_sl ([.ref h0]) ++ List.replicate (1 - (lg_sl ([.ref h0])).length) Slot.unset).toArray = ls at hl ⊢
  have hl : lv_has ls 1 [(0, .ref h0)] := hl
  refine lv_aload_n hx hb dX7_headFits_0 rfl (lv_at hl 0 rfl) ?_
  refine lv_aload_n hx hb dX7_headFits_1 rfl (lv_at hl 0 rfl) ?_
  obtain ⟨k_1, fs9, hk_1⟩ := gC_of o_h0
  obtain ⟨r0_1, n0_1, c1_1, c2_1, c3_1, r4_1, n4_1, c5_1, c6_1, c7_1, c8_1, r9_1, n9_1, r10_1, n10_1, r11_1, n11_1, c12_1, c13_1, c14_1, c15_1, c16_1, rfl, a_r0_1, f1_1, a_r4_1, f3_1, a_r9_1, f5_1, a_r10_1, f7_1, a_r11_1, f9_1, f10_1, f11_1, f12_1, f13_1, f14_1, -⟩ := (hG.1 _ _ _ _ hk_1).hX7 rfl
  refine va_get (D := gD g) (ci := 6) (v := .int c15_1) (C := RX7) (T := TX7) (N := 17) hx hb hts inX7 hown hK hP k_1 hk_1 rfl 15 (by decide) (hts _ kw_1273) (fun _ h9 => h9) rfl dX7_headFits_2 ?_
  refine va_put (D := gD g) (ci := 6) (v := .int c15_1) (ty := .int) (C := RX7) (T := TX7) (N := 17) hx hb hts inX7 tyX7 tyX7_ok nmX7 hown hK hP hD hS k_1 hk_1 rfl 6 (by decide) (hts _ kw_1331) (fun _ h9 => h9) rfl (by decide +kernel) rfl rfl (Nat.le_of_ble_eq_true rfl) dX7_headFits_5 (fun H locs hP hD hS => ?_)
  have hi_2 : invX7 g ws h0 [.ref r0_1, .int c1_1, .int c2_1, .int c3_1, .ref r4_1, .int c5_1, .int c15_1, .int c7_1, .int c8_1, .ref r9_1, .ref r10_1, .ref r11_1, .int c12_1, .int c13_1, .int c14_1, .int c15_1, .int c16_1] := ⟨r0_1, (n0_1), (c1_1), (c2_1), (c3_1), r4_1, (n4_1), (c5_1), (c15_1), (c7_1), (c8_1), r9_1, (n9_1), r10_1, (n10_1), r11_1, (n11_1), (c12_1), (c13_1), (c14_1), (c15_1), (c16_1), rfl, a_r0_1, f1_1, a_r4_1, f3_1, a_r9_1, f5_1, a_r10_1, f7_1, a_r11_1, f9_1, f10_1, f11_1, f12_1, f13_1, f14_1, trivial⟩
  obtain ⟨ws_3, e_ws_3⟩ : ∃ z, z = ws.set k_1 (h0, .inr (6, [.ref r0_1, .int c1_1, .int c2_1, .int c3_1, .ref r4_1, .int c5_1, .int c15_1, .int c7_1, .int c8_1, .ref r9_1, .ref r10_1, .ref r11_1, .int c12_1, .int c13_1, .int c14_1, .int c15_1, .int c16_1])) := ⟨_, rfl⟩
  have hP : va_P (gD g) cl0 ws_3 H := by rw [e_ws_3]; exact hP
  have hD : va_D A ws_3 := by rw [e_ws_3]; exact hD
  have E_4 : gE ws ws_3 := gE_set e_ws_3 hk_1 rfl
  have hG : Good g ws_3 := Good_set e_ws_3 hk_1 hG (ivX7 hi_2)
  have Fr_5 : gF [(6, 6)] ws ws_3 := gF_put (fi := 6) (v := .int c15_1) e_ws_3 hk_1 rfl
  have hkN := gset_self e_ws_3 hk_1
  have hk_1 := hkN
  have o_h0 := E_4 _ _ o_h0
  have a_r0_1 := E_4 _ _ a_r0_1
  have a_r4_1 := E_4 _ _ a_r4_1
  have a_r9_1 := E_4 _ _ a_r9_1
  have a_r10_1 := E_4 _ _ a_r10_1
  have a_r11_1 := E_4 _ _ a_r11_1
  refine lv_aload_n hx hb dX7_headFits_8 rfl (lv_at hl 0 rfl) ?_
  refine lv_bipush (v := 8) hx hb dX7_headFits_9 (by decide) ?_
  have hFc := gfree hD hS hA
  refine va_calli (va_runV (As := [.int 8]) (rest := []) ⟨hx, hb, hml, hown, hts⟩ (m_X7_isThere l g H.size ws_3 h0 (8) hG o_h0) (cwV 1 hts (gd_V kw_1272 kw_1382 kw_1383 kw_710 kw_1381) rfl rfl rfl (by decide +kernel) ⟨Nat.le_of_ble_eq_true rfl, Nat.le_of_ble_eq_true rfl⟩) ⟨gblind, va_recv hK hP (ci := 6) (q0 := k_1) rfl hk_1, fun U hU hW9 => gmk hU hW9 hP hK hD hex hE hS hFc⟩ rfl rfl hl.1 rfl (lv_room (Nat.le_of_ble_eq_true rfl)) dX7_headFits_11 ⟨Nat.le_of_ble_eq_true rfl, Nat.le_of_ble_eq_true rfl⟩) hS (fun q _ h => hFc q h) hFc (fun r_6 ws_7 t9 H1 locs ht9 hvm9 hw9 hB9 hz9 hk9 hS => ?_)
  obtain ⟨E_8, Fr_9, hG, hP1, hD1⟩ := hB9
  have hP : va_P (gD g) cl0 ws_7 H1 := by rw [← ht9]; exact hP1
  have hD : va_D A ws_7 := hD1.weaken (fun _ _ _ h => hFc _ h)
  have hz_r_6 : r_6 = 0 ∨ r_6 = 1 := hw9
  clear hP1 hD1 hz9 hk9 hvm9 ht9 hw9
  generalize H1 = H at hP hS ⊢
  have aa_10 := a_r0_1
  have aa_11 := a_r4_1
  have aa_12 := a_r9_1
  have aa_13 := a_r10_1
  have aa_14 := a_r11_1
  have o_h0 := E_8 _ _ o_h0
  refine lv_if_ne (tgt := 19) hx hb dX7_headFits_14 (by decide) (fun c_15 => ?_) (fun c_15 => ?_)
  · refine lv_aload_n hx hb dX7_headFits_19 rfl (lv_at hl 0 rfl) ?_
    refine lv_dup hx hb dX7_headFits_20 rfl ?_
    obtain ⟨fs9, hk_16, hq_16⟩ := (Fr_9) _ _ _ _ hk_1
    obtain ⟨r0_16, n0_16, c1_16, c2_16, c3_16, r4_16, n4_16, c5_16, c6_16, c7_16, c8_16, r9_16, n9_16, r10_16, n10_16, r11_16, n11_16, c12_16, c13_16, c14_16, c15_16, c16_16, rfl, a_r0_16, f1_16, a_r4_16, f3_16, a_r9_16, f5_16, a_r10_16, f7_16, a_r11_16, f9_16, f10_16, f11_16, f12_16, f13_16, f14_16, -⟩ := (hG.1 _ _ _ _ hk_16).hX7 rfl
    obtain rfl := fe_i (hq_16 15 (by decide))
    refine va_get (D := gD g) (ci := 6) (v := .int c15_1) (C := RX7) (T := TX7) (N := 17) hx hb hts inX7 hown hK hP k_1 hk_16 rfl 15 (by decide) (hts _ kw_1273) (fun _ h9 => h9) rfl dX7_headFits_21 ?_
    refine lv_bipush (v := 8) hx hb dX7_headFits_24 (by decide) ?_
    refine lv_iadd hx hb dX7_headFits_26 ?_
    refine lv_topi (fun z_17 ez_17 => ?_)
    refine va_put (D := gD g) (ci := 6) (v := .int z_17) (ty := .int) (C := RX7) (T := TX7) (N := 17) hx hb hts inX7 tyX7 tyX7_ok nmX7 hown hK hP hD hS k_1 hk_16 rfl 15 (by decide) (hts _ kw_1273) (fun _ h9 => h9) rfl (by decide +kernel) rfl rfl (Nat.le_of_ble_eq_true rfl) dX7_headFits_27 (fun H locs hP hD hS => ?_)
    have hi_18 : invX7 g ws_7 h0 [.ref r0_16, .int c1_16, .int c2_16, .int c3_16, .ref r4_16, .int c5_16, .int c6_16, .int c7_16, .int c8_16, .ref r9_16, .ref r10_16, .ref r11_16, .int c12_16, .int c13_16, .int c14_16, .int z_17, .int c16_16] := ⟨r0_16, (n0_16), (c1_16), (c2_16), (c3_16), r4_16, (n4_16), (c5_16), (c6_16), (c7_16), (c8_16), r9_16, (n9_16), r10_16, (n10_16), r11_16, (n11_16), (c12_16), (c13_16), (c14_16), (z_17), (c16_16), rfl, a_r0_16, f1_16, a_r4_16, f3_16, a_r9_16, f5_16, a_r10_16, f7_16, a_r11_16, f9_16, f10_16, f11_16, f12_16, f13_16, f14_16, trivial⟩
    obtain ⟨ws_19, e_ws_19⟩ : ∃ z, z = ws_7.set k_1 (h0, .inr (6, [.ref r0_16, .int c1_16, .int c2_16, .int c3_16, .ref r4_16, .int c5_16, .int c6_16, .int c7_16, .int c8_16, .ref r9_16, .ref r10_16, .ref r11_16, .int c12_16, .int c13_16, .int c14_16, .int z_17, .int c16_16])) := ⟨_, rfl⟩
    have hP : va_P (gD g) cl0 ws_19 H := by rw [e_ws_19]; exact hP
    have hD : va_D A ws_19 := by rw [e_ws_19]; exact hD
    have E_20 : gE ws_7 ws_19 := gE_set e_ws_19 hk_16 rfl
    have hG : Good g ws_19 := Good_set e_ws_19 hk_16 hG (ivX7 hi_18)
    have Fr_21 : gF [(6, 15)] ws_7 ws_19 := gF_put (fi := 15) (v := .int z_17) e_ws_19 hk_16 rfl
    have hkN := gset_self e_ws_19 hk_16
    have hk_16 := hkN
    have o_h0 := E_20 _ _ o_h0
    have a_r0_16 := E_20 _ _ a_r0_16
    have a_r4_16 := E_20 _ _ a_r4_16
    have a_r9_16 := E_20 _ _ a_r9_16
    have a_r10_16 := E_20 _ _ a_r10_16
    have a_r11_16 := E_20 _ _ a_r11_16
    refine lv_iconst (v := 1) hx hb dX7_headFits_30 (by decide) ?_
    refine W.widen (k := 0) (n := 0) (Nat.le_of_ble_eq_true rfl) (Nat.le_of_ble_eq_true rfl) ?_
    exact W.zret (v := 1) hx hb hr (nz (Or.inr rfl)) (fun t9 ht9 hW9 => ⟨⟨_, ws_19, rfl, (Or.inr rfl), ⟨(E_4.tr (E_8.tr E_20)), (gF.tr (gF.mo (F' := [(6, 2), (6, 3), (6, 6), (6, 15)]) Fr_5 (by decide)) (gF.tr (gF.mo (F' := [(6, 2), (6, 3), (6, 6), (6, 15)]) Fr_9 (by decide)) (gF.mo (F' := [(6, 2), (6, 3), (6, 6), (6, 15)]) Fr_21 (by decide)))), hG, by rw [ht9]; exact hP, hD⟩⟩, hS.F ht9⟩) hS.2.2 dX7_headFits_31
  · refine lv_iconst (v := 0) hx hb dX7_headFits_17 (by decide) ?_
    refine W.widen (k := 0) (n := 0) (Nat.le_of_ble_eq_true rfl) (Nat.le_of_ble_eq_true rfl) ?_
    exact W.zret (v := 0) hx hb hr (nz (Or.inl rfl)) (fun t9 ht9 hW9 => ⟨⟨_, ws_7, rfl, (Or.inl rfl), ⟨(E_4.tr E_8), (gF.tr (gF.mo (F' := [(6, 2), (6, 3), (6, 6), (6, 15)]) Fr_5 (by decide)) (gF.mo (F' := [(6, 2), (6, 3), (6, 6), (6, 15)]) Fr_9 (by decide))), hG, by rw [ht9]; exact hP, hD⟩⟩, hS.F ht9⟩) hS.2.2 dX7_headFits_18
set_option maxHeartbeats 1000000 in
set_option maxRecDepth 100000 in
theorem m_X7_attributesFit (l : Launch) (g : Gm) (sz : Nat) (ws : va_W) (h0 : Nat) (hG : Good g ws) (o_h0 : gC ws h0 6) : Met l yX7_attributesFit (wt yX7_attributesFit cX7_attributesFit 5 (some .boolean)) ({ frames := 2, cells := 0, slots := 0, locals := 43 }) (va_Pc [.ref h0] (st_G g sz ws)) (va_Qi (fun (r : Int32) (u9 : va_W) => r = 0 ∨ r = 1) (gQ1 g [(6, 2), (6, 3), (6, 15)] (va_A ws sz) ws) (va_A ws sz)) 0 0 (va_A ws sz) := by
  refine Met.ofW (cc := cX7_attributesFit) (maxL := 5) (ret := (some .boolean)) (by decide) rfl ?_
  intro p e s m args below meth c s₁ B hml hv
  obtain ⟨rfl, hsz, hP, hK, hD0, hex, hE⟩ := hv
  have hx := B.exec
  have hb := B.bytes
  have hr := B.returns
  have hts0 := atoms_spec (ws := wt yX7_attributesFit cX7_attributesFit 5 (some .boolean)) B.pre
  have hts : ∀ w ∈ tb, w.before _ s = true := fun w h => hts0 w (List.mem_cons_of_mem _ h)
  have hown : s.vm.findClass RX7 = some m.cls := findClass_of_methodNamed B.named
  subst hsz
  have hD := hD0.self (sz := s.heap.size)
  generalize hAe : va_A ws s.heap.size = A at hD hE ⊢
  have hA : ∀ q : Nat, s.heap.size ≤ q → A q := fun q h => by rw [← hAe]; exact Or.inr h
  have hS : va_S A s.heap s.heap [] := va_S.rf
  have hl := lv_entry ([.ref h0]) (n := 5) (Nat.le_of_ble_eq_true rfl)
  rw [lg_entry_eq]
  generalize (lg_sl ([.ref h0]) ++ List.replicate (5 - (lg_sl ([.ref h0])).length) Slot.unset).toArray = ls at hl ⊢
  have hl : lv_has ls 5 [(0, .ref h0)] := hl
  refine lv_aload_n hx hb dX7_attributesFit_0 rfl (lv_at hl 0 rfl) ?_
  refine lv_iconst (v := 2) hx hb dX7_attributesFit_1 (by decide) ?_
  have hFc := gfree hD hS hA
  obtain ⟨k_1, fs_1, hk_1⟩ := gC_of o_h0
  refine va_calli (va_runV (As := [.int 2]) (rest := []) ⟨hx, hb, hml, hown, hts⟩ (m_X7_isThere l g s.heap.size ws h0 (2) hG o_h0) (cwV 1 hts (gd_V kw_1272 kw_1382 kw_1383 kw_710 kw_1381) rfl rfl rfl (by decide +kernel) ⟨Nat.le_of_ble_eq_true rfl, Nat.le_of_ble_eq_true rfl⟩) ⟨gblind, va_recv hK hP (ci := 6) (q0 := k_1) rfl hk_1, fun U hU hW9 => gmk hU hW9 hP hK hD hex hE hS hFc⟩ rfl rfl hl.1 rfl (lv_room (Nat.le_of_ble_eq_true rfl)) dX7_attributesFit_2 ⟨Nat.le_of_ble_eq_true rfl, Nat.le_of_ble_eq_true rfl⟩) hS (fun q _ h => hFc q h) hFc (fun r_2 ws_3 t9 H1 locs ht9 hvm9 hw9 hB9 hz9 hk9 hS => ?_)
  obtain ⟨E_4, Fr_5, hG, hP1, hD1⟩ := hB9
  have hP : va_P (gD g) cl0 ws_3 H1 := by rw [← ht9]; exact hP1
  have hD : va_D A ws_3 := hD1.weaken (fun _ _ _ h => hFc _ h)
  have hz_r_2 : r_2 = 0 ∨ r_2 = 1 := hw9
  clear hP1 hD1 hz9 hk9 hvm9 ht9 hw9
  generalize H1 = H at hP hS ⊢
  have o_h0 := E_4 _ _ o_h0
  refine lv_if_ne (tgt := 10) hx hb dX7_attributesFit_5 (by decide) (fun c_6 => ?_) (fun c_6 => ?_)
  · refine lv_aload_n hx hb dX7_attributesFit_10 rfl (lv_at hl 0 rfl) ?_
    refine lv_aload_n hx hb dX7_attributesFit_11 rfl (lv_at hl 0 rfl) ?_
    obtain ⟨k_7, fs9, hk_7⟩ := gC_of o_h0
    obtain ⟨r0_7, n0_7, c1_7, c2_7, c3_7, r4_7, n4_7, c5_7, c6_7, c7_7, c8_7, r9_7, n9_7, r10_7, n10_7, r11_7, n11_7, c12_7, c13_7, c14_7, c15_7, c16_7, rfl, a_r0_7, f1_7, a_r4_7, f3_7, a_r9_7, f5_7, a_r10_7, f7_7, a_r11_7, f9_7, f10_7, f11_7, f12_7, f13_7, f14_7, -⟩ := (hG.1 _ _ _ _ hk_7).hX7 rfl
    refine va_get (D := gD g) (ci := 6) (v := .int c15_7) (C := RX7) (T := TX7) (N := 17) hx hb hts inX7 hown hK hP k_7 hk_7 rfl 15 (by decide) (hts _ kw_1273) (fun _ h9 => h9) rfl dX7_attributesFit_12 ?_
    have hFc := gfree hD hS hA
    refine va_calli (va_runV (As := [.int c15_7]) (rest := []) ⟨hx, hb, hml, hown, hts⟩ (m_X7_u2 l g H.size ws_3 h0 (c15_7) hG o_h0) (cwV 1 hts (gd_V kw_1266 kw_1450 kw_1451 kw_710 kw_1449) rfl rfl rfl (by decide +kernel) ⟨Nat.le_of_ble_eq_true rfl, Nat.le_of_ble_eq_true rfl⟩) ⟨gblind, va_recv hK hP (ci := 6) (q0 := k_7) rfl hk_7, fun U hU hW9 => gmk hU hW9 hP hK hD hex hE hS hFc⟩ rfl rfl hl.1 rfl (lv_room (Nat.le_of_ble_eq_true rfl)) dX7_attributesFit_15 ⟨Nat.le_of_ble_eq_true rfl, Nat.le_of_ble_eq_true rfl⟩) hS (fun q _ h => hFc q h) hFc (fun r_8 u9 t9 H1 locs ht9 hvm9 hw9 hB9 hz9 hk9 hS => ?_)
    have hP : va_P (gD g) cl0 ws_3 H1 := by rw [← ht9]; exact hB9.1
    have h_r_8 := hw9
    clear hB9 hz9 hk9 hvm9 ht9 hw9
    generalize H1 = H at hP hS ⊢
    refine lv_istore_n (lv' := [(1, .int r_8), (0, .ref h0)]) hx hb dX7_attributesFit_18 rfl hl (by decide) rfl (fun ls hl => ?_)
    refine lv_aload_n hx hb dX7_attributesFit_19 rfl (lv_at hl 1 rfl) ?_
    refine lv_dup hx hb dX7_attributesFit_20 rfl ?_
    refine va_get (D := gD g) (ci := 6) (v := .int c15_7) (C := RX7) (T := TX7) (N := 17) hx hb hts inX7 hown hK hP k_7 hk_7 rfl 15 (by decide) (hts _ kw_1273) (fun _ h9 => h9) rfl dX7_attributesFit_21 ?_
    refine lv_iconst (v := 2) hx hb dX7_attributesFit_24 (by decide) ?_
    refine lv_iadd hx hb dX7_attributesFit_25 ?_
    refine lv_topi (fun z_9 ez_9 => ?_)
    refine va_put (D := gD g) (ci := 6) (v := .int z_9) (ty := .int) (C := RX7) (T := TX7) (N := 17) hx hb hts inX7 tyX7 tyX7_ok nmX7 hown hK hP hD hS k_7 hk_7 rfl 15 (by decide) (hts _ kw_1273) (fun _ h9 => h9) rfl (by decide +kernel) rfl rfl (Nat.le_of_ble_eq_true rfl) dX7_attributesFit_26 (fun H locs hP hD hS => ?_)
    have hi_10 : invX7 g ws_3 h0 [.ref r0_7, .int c1_7, .int c2_7, .int c3_7, .ref r4_7, .int c5_7, .int c6_7, .int c7_7, .int c8_7, .ref r9_7, .ref r10_7, .ref r11_7, .int c12_7, .int c13_7, .int c14_7, .int z_9, .int c16_7] := ⟨r0_7, (n0_7), (c1_7), (c2_7), (c3_7), r4_7, (n4_7), (c5_7), (c6_7), (c7_7), (c8_7), r9_7, (n9_7), r10_7, (n10_7), r11_7, (n11_7), (c12_7), (c13_7), (c14_7), (z_9), (c16_7), rfl, a_r0_7, f1_7, a_r4_7, f3_7, a_r9_7, f5_7, a_r10_7, f7_7, a_r11_7, f9_7, f10_7, f11_7, f12_7, f13_7, f14_7, trivial⟩
    obtain ⟨ws_11, e_ws_11⟩ : ∃ z, z = ws_3.set k_7 (h0, .inr (6, [.ref r0_7, .int c1_7, .int c2_7, .int c3_7, .ref r4_7, .int c5_7, .int c6_7, .int c7_7, .int c8_7, .ref r9_7, .ref r10_7, .ref r11_7, .int c12_7, .int c13_7, .int c14_7, .int z_9, .int c16_7])) := ⟨_, rfl⟩
    have hP : va_P (gD g) cl0 ws_11 H := by rw [e_ws_11]; exact hP
    have hD : va_D A ws_11 := by rw [e_ws_11]; exact hD
    have E_12 : gE ws_3 ws_11 := gE_set e_ws_11 hk_7 rfl
    have hG : Good g ws_11 := Good_set e_ws_11 hk_7 hG (ivX7 hi_10)
    have Fr_13 : gF [(6, 15)] ws_3 ws_11 := gF_put (fi := 15) (v := .int z_9) e_ws_11 hk_7 rfl
    have hkN := gset_self e_ws_11 hk_7
    have hk_7 := hkN
    have o_h0 := E_12 _ _ o_h0
    have a_r0_7 := E_12 _ _ a_r0_7
    have a_r4_7 := E_12 _ _ a_r4_7
    have a_r9_7 := E_12 _ _ a_r9_7
    have a_r10_7 := E_12 _ _ a_r10_7
    have a_r11_7 := E_12 _ _ a_r11_7
    refine lv_iconst (v := 0) hx hb dX7_attributesFit_29 (by decide) ?_
    refine lv_istore_n (lv' := [(2, .int 0), (1, .int r_8), (0, .ref h0)]) hx hb dX7_attributesFit_30 rfl hl (by decide) rfl (fun ls hl => ?_)
    have J_31 : ∀ (n9 : Nat) (v2_14 : Int32) (ws_16 : va_W) (H : Heap) (locs : List Loc) (ls : Array Slot), (2147483647 - v2_14.toInt).toNat = n9 → 0 ≤ v2_14.toInt → gE ws_11 ws_16 → gF [(6, 2), (6, 3), (6, 15)] ws_11 ws_16 → Good g ws_16 → va_P (gD g) cl0 ws_16 H → va_D A ws_16 → va_S A s.heap H locs → lv_has ls 5 [(0, .ref h0), (1, .int r_8), (2, .int v2_14)] → W p l e (headSpec (wt yX7_attributesFit cX7_attributesFit 5 (some .boolean)) ({ frames := 2, cells := 0, slots := 0, locals := 43 })).room s m ([.ref h0] : List Value).toArray below meth c H locs 0 0 (MQ below (va_Qi (fun (r : Int32) (u9 : va_W) => r = 0 ∨ r = 1) (gQ1 g [(6, 2), (6, 3), (6, 15)] A ws) A) ([.ref h0] : List Value).toArray s 0 0 A) (F0 m 31 ls []) := by
      intro n9
      induction n9 using Nat.strongRecOn with
      | ind n9 ih_31 =>
        intro v2_14 ws_16 H locs ls hm9 iv_15 E_17 Fr_18 hG hP hD hS hl
        subst hm9
        have aa_19 := a_r0_7
        have aa_20 := a_r4_7
        have aa_21 := a_r9_7
        have aa_22 := a_r10_7
        have aa_23 := a_r11_7
        have o_h0 := E_17 _ _ o_h0
        refine lv_iload_n hx hb dX7_attributesFit_31 rfl (lv_at hl 2 rfl) ?_
        refine lv_iload_n hx hb dX7_attributesFit_32 rfl (lv_at hl 1 rfl) ?_
        refine lv_icmp_ge (tgt := 111) hx hb dX7_attributesFit_33 (by decide) (fun c_24 => ?_) (fun c_24 => ?_)
        · refine lv_iconst (v := 1) hx hb dX7_attributesFit_111 (by decide) ?_
          refine W.widen (k := 0) (n := 0) (Nat.le_of_ble_eq_true rfl) (Nat.le_of_ble_eq_true rfl) ?_
          exact W.zret (v := 1) hx hb hr (nz (Or.inr rfl)) (fun t9 ht9 hW9 => ⟨⟨_, ws_16, rfl, (Or.inr rfl), ⟨(E_4.tr (E_12.tr E_17)), (gF.tr (gF.mo (F' := [(6, 2), (6, 3), (6, 15)]) Fr_5 (by decide)) (gF.tr (gF.mo (F' := [(6, 2), (6, 3), (6, 15)]) Fr_13 (by decide)) Fr_18)), hG, by rw [ht9]; exact hP, hD⟩⟩, hS.F ht9⟩) hS.2.2 dX7_attributesFit_112
        · refine lv_aload_n hx hb dX7_attributesFit_36 rfl (lv_at hl 0 rfl) ?_
          refine lv_bipush (v := 6) hx hb dX7_attributesFit_37 (by decide) ?_
          have hFc := gfree hD hS hA
          obtain ⟨k_25, fs_25, hk_25⟩ := gC_of o_h0
          refine va_calli (va_runV (As := [.int 6]) (rest := []) ⟨hx, hb, hml, hown, hts⟩ (m_X7_isThere l g H.size ws_16 h0 (6) hG o_h0) (cwV 1 hts (gd_V kw_1272 kw_1382 kw_1383 kw_710 kw_1381) rfl rfl rfl (by decide +kernel) ⟨Nat.le_of_ble_eq_true rfl, Nat.le_of_ble_eq_true rfl⟩) ⟨gblind, va_recv hK hP (ci := 6) (q0 := k_25) rfl hk_25, fun U hU hW9 => gmk hU hW9 hP hK hD hex hE hS hFc⟩ rfl rfl hl.1 rfl (lv_room (Nat.le_of_ble_eq_true rfl)) dX7_attributesFit_39 ⟨Nat.le_of_ble_eq_true rfl, Nat.le_of_ble_eq_true rfl⟩) hS (fun q _ h => hFc q h) hFc (fun r_26 ws_27 t9 H1 locs ht9 hvm9 hw9 hB9 hz9 hk9 hS => ?_)
          obtain ⟨E_28, Fr_29, hG, hP1, hD1⟩ := hB9
          have hP : va_P (gD g) cl0 ws_27 H1 := by rw [← ht9]; exact hP1
          have hD : va_D A ws_27 := hD1.weaken (fun _ _ _ h => hFc _ h)
          have hz_r_26 : r_26 = 0 ∨ r_26 = 1 := hw9
          clear hP1 hD1 hz9 hk9 hvm9 ht9 hw9
          generalize H1 = H at hP hS ⊢
          have o_h0 := E_28 _ _ o_h0
          refine lv_if_ne (tgt := 47) hx hb dX7_attributesFit_42 (by decide) (fun c_30 => ?_) (fun c_30 => ?_)
          · refine lv_aload_n hx hb dX7_attributesFit_47 rfl (lv_at hl 0 rfl) ?_
            refine lv_aload_n hx hb dX7_attributesFit_48 rfl (lv_at hl 0 rfl) ?_
            obtain ⟨fs9, hk_31, hq_31⟩ := ((gF.tr Fr_18 (gF.mo (F' := [(6, 2), (6, 3), (6, 15)]) Fr_29 (by decide)))) _ _ _ _ hk_7
            obtain ⟨r0_31, n0_31, c1_31, c2_31, c3_31, r4_31, n4_31, c5_31, c6_31, c7_31, c8_31, r9_31, n9_31, r10_31, n10_31, r11_31, n11_31, c12_31, c13_31, c14_31, c15_31, c16_31, rfl, a_r0_31, f1_31, a_r4_31, f3_31, a_r9_31, f5_31, a_r10_31, f7_31, a_r11_31, f9_31, f10_31, f11_31, f12_31, f13_31, f14_31, -⟩ := (hG.1 _ _ _ _ hk_31).hX7 rfl
            obtain rfl := fe_i (hq_31 1 (by decide))
            refine va_get (D := gD g) (ci := 6) (v := .int c15_31) (C := RX7) (T := TX7) (N := 17) hx hb hts inX7 hown hK hP k_7 hk_31 rfl 15 (by decide) (hts _ kw_1273) (fun _ h9 => h9) rfl dX7_attributesFit_49 ?_
            refine lv_iconst (v := 2) hx hb dX7_attributesFit_52 (by decide) ?_
            refine lv_iadd hx hb dX7_attributesFit_53 ?_
            refine lv_topi (fun z_32 ez_32 => ?_)
            have hFc := gfree hD hS hA
            refine va_calll (va_runV (As := [.int z_32]) (rest := []) ⟨hx, hb, hml, hown, hts⟩ (m_X7_u4 l g H.size ws_27 h0 (z_32) hG o_h0) (cwV 1 hts (gd_V kw_1274 kw_1453 kw_1454 kw_710 kw_1452) rfl rfl rfl (by decide +kernel) ⟨Nat.le_of_ble_eq_true rfl, Nat.le_of_ble_eq_true rfl⟩) ⟨gblind, va_recv hK hP (ci := 6) (q0 := k_7) rfl hk_31, fun U hU hW9 => gmk hU hW9 hP hK hD hex hE hS hFc⟩ rfl rfl hl.1 rfl (lv_room (Nat.le_of_ble_eq_true rfl)) dX7_attributesFit_54 ⟨Nat.le_of_ble_eq_true rfl, Nat.le_of_ble_eq_true rfl⟩) hS (fun q _ h => hFc q h) hFc (fun r_33 u9 t9 H1 locs ht9 hvm9 hw9 hB9 hz9 hk9 hS => ?_)
            have hP : va_P (gD g) cl0 ws_27 H1 := by rw [← ht9]; exact hB9.1
            clear hB9 hz9 hk9 hvm9 ht9 hw9
            generalize H1 = H at hP hS ⊢
            refine lv_lstore_n (lv' := [(3, .long r_33), (0, .ref h0), (1, .int r_8), (2, .int v2_14)]) hx hb dX7_attributesFit_57 rfl hl (by decide) rfl (fun ls hl => ?_)
            refine lv_aload_n hx hb dX7_attributesFit_58 rfl (lv_at hl 1 rfl) ?_
            refine lv_dup hx hb dX7_attributesFit_59 rfl ?_
            refine va_get (D := gD g) (ci := 6) (v := .int c15_31) (C := RX7) (T := TX7) (N := 17) hx hb hts inX7 hown hK hP k_7 hk_31 rfl 15 (by decide) (hts _ kw_1273) (fun _ h9 => h9) rfl dX7_attributesFit_60 ?_
            refine lv_bipush (v := 6) hx hb dX7_attributesFit_63 (by decide) ?_
            refine lv_iadd hx hb dX7_attributesFit_65 ?_
            refine lv_topi (fun z_34 ez_34 => ?_)
            refine va_put (D := gD g) (ci := 6) (v := .int z_34) (ty := .int) (C := RX7) (T := TX7) (N := 17) hx hb hts inX7 tyX7 tyX7_ok nmX7 hown hK hP hD hS k_7 hk_31 rfl 15 (by decide) (hts _ kw_1273) (fun _ h9 => h9) rfl (by decide +kernel) rfl rfl (Nat.le_of_ble_eq_true rfl) dX7_attributesFit_66 (fun H locs hP hD hS => ?_)
            have hi_35 : invX7 g ws_27 h0 [.ref r0_31, .int c1_7, .int c2_31, .int c3_31, .ref r4_31, .int c5_31, .int c6_31, .int c7_31, .int c8_31, .ref r9_31, .ref r10_31, .ref r11_31, .int c12_31, .int c13_31, .int c14_31, .int z_34, .int c16_31] := ⟨r0_31, (n0_31), (c1_7), (c2_31), (c3_31), r4_31, (n4_31), (c5_31), (c6_31), (c7_31), (c8_31), r9_31, (n9_31), r10_31, (n10_31), r11_31, (n11_31), (c12_31), (c13_31), (c14_31), (z_34), (c16_31), rfl, a_r0_31, f1_31, a_r4_31, f3_31, a_r9_31, f5_31, a_r10_31, f7_31, a_r11_31, f9_31, f10_31, f11_31, f12_31, f13_31, f14_31, trivial⟩
            obtain ⟨ws_36, e_ws_36⟩ : ∃ z, z = ws_27.set k_7 (h0, .inr (6, [.ref r0_31, .int c1_7, .int c2_31, .int c3_31, .ref r4_31, .int c5_31, .int c6_31, .int c7_31, .int c8_31, .ref r9_31, .ref r10_31, .ref r11_31, .int c12_31, .int c13_31, .int c14_31, .int z_34, .int c16_31])) := ⟨_, rfl⟩
            have hP : va_P (gD g) cl0 ws_36 H := by rw [e_ws_36]; exact hP
            have hD : va_D A ws_36 := by rw [e_ws_36]; exact hD
            have E_37 : gE ws_27 ws_36 := gE_set e_ws_36 hk_31 rfl
            have hG : Good g ws_36 := Good_set e_ws_36 hk_31 hG (ivX7 hi_35)
            have Fr_38 : gF [(6, 15)] ws_27 ws_36 := gF_put (fi := 15) (v := .int z_34) e_ws_36 hk_31 rfl
            have hkN := gset_self e_ws_36 hk_31
            have hk_31 := hkN
            have o_h0 := E_37 _ _ o_h0
            have a_r0_31 := E_37 _ _ a_r0_31
            have a_r4_31 := E_37 _ _ a_r4_31
            have a_r9_31 := E_37 _ _ a_r9_31
            have a_r10_31 := E_37 _ _ a_r10_31
            have a_r11_31 := E_37 _ _ a_r11_31
            refine lv_lload_n hx hb dX7_attributesFit_69 rfl (lv_at hl 0 rfl) ?_
            refine lv_aload_n hx hb dX7_attributesFit_70 rfl (lv_at hl 1 rfl) ?_
            refine va_get (D := gD g) (ci := 6) (v := .int c1_7) (C := RX7) (T := TX7) (N := 17) hx hb hts inX7 hown hK hP k_7 hk_31 rfl 1 (by decide) (hts _ kw_1275) (fun _ h9 => h9) rfl dX7_attributesFit_71 ?_
            refine lv_aload_n hx hb dX7_attributesFit_74 rfl (lv_at hl 1 rfl) ?_
            refine va_get (D := gD g) (ci := 6) (v := .int z_34) (C := RX7) (T := TX7) (N := 17) hx hb hts inX7 hown hK hP k_7 hk_31 rfl 15 (by decide) (hts _ kw_1273) (fun _ h9 => h9) rfl dX7_attributesFit_75 ?_
            refine lv_isub hx hb dX7_attributesFit_78 ?_
            refine lv_topi (fun z_39 ez_39 => ?_)
            obtain ⟨z_40, ez_40⟩ : ∃ y : Int64, (z_39 : Int32).toInt64 = y := ⟨_, rfl⟩
            refine lv_i2l (v := z_40) hx hb dX7_attributesFit_79 ez_40 ?_
            refine W.lcmp hx hb dX7_attributesFit_80 ?_
            refine lv_topi (fun z_41 ez_41 => ?_)
            refine lv_if_le (tgt := 94) hx hb dX7_attributesFit_81 (by decide) (fun c_42 => ?_) (fun c_42 => ?_)
            · refine lv_aload_n hx hb dX7_attributesFit_94 rfl (lv_at hl 1 rfl) ?_
              refine lv_dup hx hb dX7_attributesFit_95 rfl ?_
              refine va_get (D := gD g) (ci := 6) (v := .int z_34) (C := RX7) (T := TX7) (N := 17) hx hb hts inX7 hown hK hP k_7 hk_31 rfl 15 (by decide) (hts _ kw_1273) (fun _ h9 => h9) rfl dX7_attributesFit_96 ?_
              refine lv_lload_n hx hb dX7_attributesFit_99 rfl (lv_at hl 0 rfl) ?_
              obtain ⟨z_43, ez_43⟩ : ∃ y : Int32, (r_33 : Int64).toInt32 = y := ⟨_, rfl⟩
              refine lv_l2i (v := z_43) hx hb dX7_attributesFit_100 ez_43 ?_
              refine lv_iadd hx hb dX7_attributesFit_101 ?_
              refine lv_topi (fun z_44 ez_44 => ?_)
              refine va_put (D := gD g) (ci := 6) (v := .int z_44) (ty := .int) (C := RX7) (T := TX7) (N := 17) hx hb hts inX7 tyX7 tyX7_ok nmX7 hown hK hP hD hS k_7 hk_31 rfl 15 (by decide) (hts _ kw_1273) (fun _ h9 => h9) rfl (by decide +kernel) rfl rfl (Nat.le_of_ble_eq_true rfl) dX7_attributesFit_102 (fun H locs hP hD hS => ?_)
              have hi_45 : invX7 g ws_36 h0 [.ref r0_31, .int c1_7, .int c2_31, .int c3_31, .ref r4_31, .int c5_31, .int c6_31, .int c7_31, .int c8_31, .ref r9_31, .ref r10_31, .ref r11_31, .int c12_31, .int c13_31, .int c14_31, .int z_44, .int c16_31] := ⟨r0_31, (n0_31), (c1_7), (c2_31), (c3_31), r4_31, (n4_31), (c5_31), (c6_31), (c7_31), (c8_31), r9_31, (n9_31), r10_31, (n10_31), r11_31, (n11_31), (c12_31), (c13_31), (c14_31), (z_44), (c16_31), rfl, a_r0_31, f1_31, a_r4_31, f3_31, a_r9_31, f5_31, a_r10_31, f7_31, a_r11_31, f9_31, f10_31, f11_31, f12_31, f13_31, f14_31, trivial⟩
              obtain ⟨ws_46, e_ws_46⟩ : ∃ z, z = ws_36.set k_7 (h0, .inr (6, [.ref r0_31, .int c1_7, .int c2_31, .int c3_31, .ref r4_31, .int c5_31, .int c6_31, .int c7_31, .int c8_31, .ref r9_31, .ref r10_31, .ref r11_31, .int c12_31, .int c13_31, .int c14_31, .int z_44, .int c16_31])) := ⟨_, rfl⟩
              have hP : va_P (gD g) cl0 ws_46 H := by rw [e_ws_46]; exact hP
              have hD : va_D A ws_46 := by rw [e_ws_46]; exact hD
              have E_47 : gE ws_36 ws_46 := gE_set e_ws_46 hk_31 rfl
              have hG : Good g ws_46 := Good_set e_ws_46 hk_31 hG (ivX7 hi_45)
              have Fr_48 : gF [(6, 15)] ws_36 ws_46 := gF_put (fi := 15) (v := .int z_44) e_ws_46 hk_31 rfl
              have hkN := gset_self e_ws_46 hk_31
              have hk_31 := hkN
              have o_h0 := E_47 _ _ o_h0
              have a_r0_31 := E_47 _ _ a_r0_31
              have a_r4_31 := E_47 _ _ a_r4_31
              have a_r9_31 := E_47 _ _ a_r9_31
              have a_r10_31 := E_47 _ _ a_r10_31
              have a_r11_31 := E_47 _ _ a_r11_31
              obtain ⟨z_49, ez_49⟩ : ∃ z : Int32, v2_14 + Int32.ofInt 1 = z := ⟨_, rfl⟩
              refine lv_iinc (v := z_49) (lv' := [(2, .int z_49), (3, .long r_33), (0, .ref h0), (1, .int r_8)]) hx hb dX7_attributesFit_105 hl (k := 3) rfl ez_49 (by decide) rfl (fun ls hl => ?_)
              refine lv_goto (tgt := 31) hx hb dX7_attributesFit_108 (by decide) ?_
              exact ih_31 _ (by obtain ⟨u_z_49, q_z_49⟩ := i_iz ez_49 (by decide) (by decide); have q_iv_15 := iv_15; have q_c_24 := i_nle c_24; have g_r_8 := i_rg r_8; have g_v2_14 := i_rg v2_14; have g_z_49 := i_rg z_49; omega) (z_49) ws_46 H locs ls rfl (by obtain ⟨u_z_49, q_z_49⟩ := i_iz ez_49 (by decide) (by decide); have q_iv_15 := iv_15; have q_c_24 := i_nle c_24; have g_r_8 := i_rg r_8; have g_v2_14 := i_rg v2_14; have g_z_49 := i_rg z_49; omega) ((E_17.tr (E_28.tr (E_37.tr E_47)))) ((gF.tr Fr_18 (gF.tr (gF.mo (F' := [(6, 2), (6, 3), (6, 15)]) Fr_29 (by decide)) (gF.tr (gF.mo (F' := [(6, 2), (6, 3), (6, 15)]) Fr_38 (by decide)) (gF.mo (F' := [(6, 2), (6, 3), (6, 15)]) Fr_48 (by decide)))))) hG hP hD hS (lv_sub hl [2, 3, 0] rfl)
            · refine lv_aload_n hx hb dX7_attributesFit_84 rfl (lv_at hl 1 rfl) ?_
              refine lv_iconst (v := 2) hx hb dX7_attributesFit_85 (by decide) ?_
              refine lv_aload_n hx hb dX7_attributesFit_86 rfl (lv_at hl 1 rfl) ?_
              refine va_get (D := gD g) (ci := 6) (v := .int c1_7) (C := RX7) (T := TX7) (N := 17) hx hb hts inX7 hown hK hP k_7 hk_31 rfl 1 (by decide) (hts _ kw_1275) (fun _ h9 => h9) rfl dX7_attributesFit_87 ?_
              have hFc := gfree hD hS hA
              refine va_calli (va_runV (As := [.int 2, .int c1_7]) (rest := []) ⟨hx, hb, hml, hown, hts⟩ (m_X7_breaks l g H.size ws_36 h0 (2) (c1_7) hG o_h0) (cwV 2 hts (gd_V kw_1276 kw_1278 kw_1279 kw_710 kw_1277) rfl rfl rfl (by decide +kernel) ⟨Nat.le_of_ble_eq_true rfl, Nat.le_of_ble_eq_true rfl⟩) ⟨gblind, va_recv hK hP (ci := 6) (q0 := k_7) rfl hk_31, fun U hU hW9 => gmk hU hW9 hP hK hD hex hE hS hFc⟩ rfl rfl hl.1 rfl (lv_room (Nat.le_of_ble_eq_true rfl)) dX7_attributesFit_90 ⟨Nat.le_of_ble_eq_true rfl, Nat.le_of_ble_eq_true rfl⟩) hS (fun q _ h => hFc q h) hFc (fun r_50 ws_51 t9 H1 locs ht9 hvm9 hw9 hB9 hz9 hk9 hS => ?_)
              obtain ⟨E_52, Fr_53, hG, hP1, hD1⟩ := hB9
              have hP : va_P (gD g) cl0 ws_51 H1 := by rw [← ht9]; exact hP1
              have hD : va_D A ws_51 := hD1.weaken (fun _ _ _ h => hFc _ h)
              have hz_r_50 : r_50 = 0 ∨ r_50 = 1 := hw9
              clear hP1 hD1 hz9 hk9 hvm9 ht9 hw9
              generalize H1 = H at hP hS ⊢
              have aa_54 := a_r0_31
              have aa_55 := a_r4_31
              have aa_56 := a_r9_31
              have aa_57 := a_r10_31
              have aa_58 := a_r11_31
              have o_h0 := E_52 _ _ o_h0
              refine W.widen (k := 0) (n := 0) (Nat.le_of_ble_eq_true rfl) (Nat.le_of_ble_eq_true rfl) ?_
              exact W.zret (v := r_50) hx hb hr (nz hz_r_50) (fun t9 ht9 hW9 => ⟨⟨_, ws_51, rfl, hz_r_50, ⟨(E_4.tr (E_12.tr (E_17.tr (E_28.tr (E_37.tr E_52))))), (gF.tr (gF.mo (F' := [(6, 2), (6, 3), (6, 15)]) Fr_5 (by decide)) (gF.tr (gF.mo (F' := [(6, 2), (6, 3), (6, 15)]) Fr_13 (by decide)) (gF.tr Fr_18 (gF.tr (gF.mo (F' := [(6, 2), (6, 3), (6, 15)]) Fr_29 (by decide)) (gF.tr (gF.mo (F' := [(6, 2), (6, 3), (6, 15)]) Fr_38 (by decide)) (gF.mo (F' := [(6, 2), (6, 3), (6, 15)]) Fr_53 (by decide))))))), hG, by rw [ht9]; exact hP, hD⟩⟩, hS.F ht9⟩) hS.2.2 dX7_attributesFit_93
          · refine lv_iconst (v := 0) hx hb dX7_attributesFit_45 (by decide) ?_
            refine W.widen (k := 0) (n := 0) (Nat.le_of_ble_eq_true rfl) (Nat.le_of_ble_eq_true rfl) ?_
            exact W.zret (v := 0) hx hb hr (nz (Or.inl rfl)) (fun t9 ht9 hW9 => ⟨⟨_, ws_27, rfl, (Or.inl rfl), ⟨(E_4.tr (E_12.tr (E_17.tr E_28))), (gF.tr (gF.mo (F' := [(6, 2), (6, 3), (6, 15)]) Fr_5 (by decide)) (gF.tr (gF.mo (F' := [(6, 2), (6, 3), (6, 15)]) Fr_13 (by decide)) (gF.tr Fr_18 (gF.mo (F' := [(6, 2), (6, 3), (6, 15)]) Fr_29 (by decide))))), hG, by rw [ht9]; exact hP, hD⟩⟩, hS.F ht9⟩) hS.2.2 dX7_attributesFit_46
    exact J_31 _ (0) ws_11 H locs ls rfl (by have e0 : (0 : Int32).toInt = 0 := (by decide); omega) (gE.rf) (gF.rf) hG hP hD hS (lv_sub hl [2, 1, 0] rfl)
  · refine lv_iconst (v := 0) hx hb dX7_attributesFit_8 (by decide) ?_
    refine W.widen (k := 0) (n := 0) (Nat.le_of_ble_eq_true rfl) (Nat.le_of_ble_eq_true rfl) ?_
    exact W.zret (v := 0) hx hb hr (nz (Or.inl rfl)) (fun t9 ht9 hW9 => ⟨⟨_, ws_3, rfl, (Or.inl rfl), ⟨E_4, (gF.mo (F' := [(6, 2), (6, 3), (6, 15)]) Fr_5 (by decide)), hG, by rw [ht9]; exact hP, hD⟩⟩, hS.F ht9⟩) hS.2.2 dX7_attributesFit_9
set_option maxHeartbeats 1000000 in
set_option maxRecDepth 100000 in
theorem m_X7_entryAt (l : Launch) (g : Gm) (sz : Nat) (ws : va_W) (h0 : Nat) (x1 : Int32) (hG : Good g ws) (o_h0 : gC ws h0 6) : Met l yX7_entryAt (wt yX7_entryAt cX7_entryAt 2 (some .int)) ({ frames := 0, cells := 0, slots := 0, locals := 0 }) (va_Pc [.ref h0, .int x1] (st_G g sz ws)) (va_Qi (fun (r : Int32) (u9 : Unit) => True) (gQ0 g (va_A ws sz) ws) (va_A ws sz)) 0 0 (va_A ws sz) := by
  refine Met.ofW (cc := cX7_entryAt) (maxL := 2) (ret := (some .int)) (by decide) rfl ?_
  intro p e s m args below meth c s₁ B hml hv
  obtain ⟨rfl, hsz, hP, hK, hD0, hex, hE⟩ := hv
  have hx := B.exec
  have hb := B.bytes
  have hr := B.returns
  have hts0 := atoms_spec (ws := wt yX7_entryAt cX7_entryAt 2 (some .int)) B.pre
  have hts : ∀ w ∈ tb, w.before _ s = true := fun w h => hts0 w (List.mem_cons_of_mem _ h)
  have hown : s.vm.findClass RX7 = some m.cls := findClass_of_methodNamed B.named
  subst hsz
  have hD := hD0.self (sz := s.heap.size)
  generalize hAe : va_A ws s.heap.size = A at hD hE ⊢
  have hA : ∀ q : Nat, s.heap.size ≤ q → A q := fun q h => by rw [← hAe]; exact Or.inr h
  have hS : va_S A s.heap s.heap [] := va_S.rf
  have hl := lv_entry ([.ref h0, .int x1]) (n := 2) (Nat.le_of_ble_eq_true rfl)
  rw [lg_entry_eq]
  generalize (lg_sl ([.ref h0, .int x1]) ++ List.replicate (2 - (lg_sl ([.ref h0, .int x1])).length) Slot.unset).toArray = ls at hl ⊢
  have hl : lv_has ls 2 [(0, .ref h0), (1, .int x1)] := hl
  refine lv_iload_n hx hb dX7_entryAt_0 rfl (lv_at hl 1 rfl) ?_
  refine lv_iconst (v := 1) hx hb dX7_entryAt_1 (by decide) ?_
  have J_32 : ∀ (t_1 : Int32) (H : Heap) (locs : List Loc) (ls : Array Slot), va_P (gD g) cl0 ws H → va_D A ws → va_S A s.heap H locs → lv_has ls 2 [] → W p l e (headSpec (wt yX7_entryAt cX7_entryAt 2 (some .int)) ({ frames := 0, cells := 0, slots := 0, locals := 0 })).room s m ([.ref h0, .int x1] : List Value).toArray below meth c H locs 0 0 (MQ below (va_Qi (fun (r : Int32) (u9 : Unit) => True) (gQ0 g A ws) A) ([.ref h0, .int x1] : List Value).toArray s 0 0 A) (F0 m 32 ls [.int t_1]) := by
    intro t_1 H locs ls  hP hD hS hl
    refine W.widen (k := 0) (n := 0) (Nat.le_of_ble_eq_true rfl) (Nat.le_of_ble_eq_true rfl) ?_
    exact W.iret (v := t_1) hx hb hr (fun t9 ht9 hW9 => ⟨⟨_, (), rfl, trivial, ⟨by rw [ht9]; exact hP, hD⟩⟩, hS.F ht9⟩) hS.2.2 dX7_entryAt_32
  have J_22 : ∀  (H : Heap) (locs : List Loc) (ls : Array Slot), va_P (gD g) cl0 ws H → va_D A ws → va_S A s.heap H locs → lv_has ls 2 [] → W p l e (headSpec (wt yX7_entryAt cX7_entryAt 2 (some .int)) ({ frames := 0, cells := 0, slots := 0, locals := 0 })).room s m ([.ref h0, .int x1] : List Value).toArray below meth c H locs 0 0 (MQ below (va_Qi (fun (r : Int32) (u9 : Unit) => True) (gQ0 g A ws) A) ([.ref h0, .int x1] : List Value).toArray s 0 0 A) (F0 m 22 ls []) := by
    intro  H locs ls  hP hD hS hl
    refine lv_iconst (v := 0) hx hb dX7_entryAt_22 (by decide) ?_
    refine lv_goto (tgt := 32) hx hb dX7_entryAt_23 (by decide) ?_
    exact J_32 (0) H locs ls  hP hD hS (lv_sub hl [] rfl)
  refine lv_icmp_lt (tgt := 22) hx hb dX7_entryAt_2 (by decide) (fun c_6 => ?_) (fun c_6 => ?_)
  · exact J_22  _ _ ls  hP hD hS (lv_sub hl [] rfl)
  · refine lv_iload_n hx hb dX7_entryAt_5 rfl (lv_at hl 1 rfl) ?_
    refine lv_aload_n hx hb dX7_entryAt_6 rfl (lv_at hl 0 rfl) ?_
    obtain ⟨k_7, fs9, hk_7⟩ := gC_of o_h0
    obtain ⟨r0_7, n0_7, c1_7, c2_7, c3_7, r4_7, n4_7, c5_7, c6_7, c7_7, c8_7, r9_7, n9_7, r10_7, n10_7, r11_7, n11_7, c12_7, c13_7, c14_7, c15_7, c16_7, rfl, a_r0_7, f1_7, a_r4_7, f3_7, a_r9_7, f5_7, a_r10_7, f7_7, a_r11_7, f9_7, f10_7, f11_7, f12_7, f13_7, f14_7, -⟩ := (hG.1 _ _ _ _ hk_7).hX7 rfl
    refine va_get (D := gD g) (ci := 6) (v := .int c5_7) (C := RX7) (T := TX7) (N := 17) hx hb hts inX7 hown hK hP k_7 hk_7 rfl 5 (by decide) (hts _ kw_1294) (fun _ h9 => h9) rfl dX7_entryAt_7 ?_
    refine lv_icmp_ge (tgt := 22) hx hb dX7_entryAt_10 (by decide) (fun c_8 => ?_) (fun c_8 => ?_)
    · exact J_22  _ _ ls  hP hD hS (lv_sub hl [] rfl)
    · refine lv_iload_n hx hb dX7_entryAt_13 rfl (lv_at hl 1 rfl) ?_
      refine lv_aload_n hx hb dX7_entryAt_14 rfl (lv_at hl 0 rfl) ?_
      refine va_get (D := gD g) (ci := 6) (v := .ref r4_7) (C := RX7) (T := TX7) (N := 17) hx hb hts inX7 hown hK hP k_7 hk_7 rfl 4 (by decide) (hts _ kw_1300) (fun _ h9 => h9) rfl dX7_entryAt_15 ?_
      obtain ⟨k_9, f_9, hk_9⟩ := gI_of a_r4_7
      obtain ⟨z_10, ez_10⟩ : ∃ z : Int32, Int32.ofNat n4_7 = z := ⟨_, rfl⟩
      refine va_alen (v := z_10) hx hb hK hP k_9 1 hk_9 rfl ez_10 dX7_entryAt_18 ?_
      refine lv_icmp_lt (tgt := 26) hx hb dX7_entryAt_19 (by decide) (fun c_11 => ?_) (fun c_11 => ?_)
      · refine lv_aload_n hx hb dX7_entryAt_26 rfl (lv_at hl 0 rfl) ?_
        refine va_get (D := gD g) (ci := 6) (v := .ref r4_7) (C := RX7) (T := TX7) (N := 17) hx hb hts inX7 hown hK hP k_7 hk_7 rfl 4 (by decide) (hts _ kw_1300) (fun _ h9 => h9) rfl dX7_entryAt_27 ?_
        refine lv_iload_n hx hb dX7_entryAt_30 rfl (lv_at hl 1 rfl) ?_
        refine va_iald hx hb hK hP k_9 1 hk_9 rfl (i_in2 (by have e1 : (1 : Int32).toInt = 1 := (by decide); have q_c_6 := i_nlt c_6; have q_f3_7 := f3_7; have q_f11_7 := f11_7; have q_c_8 := i_nle c_8; have q_z_10 := i_len ez_10 f3_7; have q_c_11 := i_lt c_11; have g_c5_7 := i_rg c5_7; have g_x1 := i_rg x1; have g_z_10 := i_rg z_10; omega)) dX7_entryAt_31 ?_
        refine lv_topi (fun z_12 ez_12 => ?_)
        exact J_32 (z_12) _ _ ls  hP hD hS (lv_sub hl [] rfl)
      · exact J_22  _ _ ls  hP hD hS (lv_sub hl [] rfl)
set_option maxHeartbeats 1000000 in
set_option maxRecDepth 100000 in
theorem m_X7_tagOf (l : Launch) (g : Gm) (sz : Nat) (ws : va_W) (h0 : Nat) (x1 : Int32) (hG : Good g ws) (o_h0 : gC ws h0 6) : Met l yX7_tagOf (wt yX7_tagOf cX7_tagOf 2 (some .int)) ({ frames := 1, cells := 0, slots := 0, locals := 21 }) (va_Pc [.ref h0, .int x1] (st_G g sz ws)) (va_Qi (fun (r : Int32) (u9 : Unit) => True) (gQ0 g (va_A ws sz) ws) (va_A ws sz)) 0 0 (va_A ws sz) := by
  refine Met.ofW (cc := cX7_tagOf) (maxL := 2) (ret := (some .int)) (by decide) rfl ?_
  intro p e s m args below meth c s₁ B hml hv
  obtain ⟨rfl, hsz, hP, hK, hD0, hex, hE⟩ := hv
  have hx := B.exec
  have hb := B.bytes
  have hr := B.returns
  have hts0 := atoms_spec (ws := wt yX7_tagOf cX7_tagOf 2 (some .int)) B.pre
  have hts : ∀ w ∈ tb, w.before _ s = true := fun w h => hts0 w (List.mem_cons_of_mem _ h)
  have hown : s.vm.findClass RX7 = some m.cls := findClass_of_methodNamed B.named
  subst hsz
  have hD := hD0.self (sz := s.heap.size)
  generalize hAe : va_A ws s.heap.size = A at hD hE ⊢
  have hA : ∀ q : Nat, s.heap.size ≤ q → A q := fun q h => by rw [← hAe]; exact Or.inr h
  have hS : va_S A s.heap s.heap [] := va_S.rf
  have hl := lv_entry ([.ref h0, .int x1]) (n := 2) (Nat.le_of_ble_eq_true rfl)
  rw [lg_entry_eq]
  generalize (lg_sl ([.ref h0, .int x1]) ++ List.replicate (2 - (lg_sl ([.ref h0, .int x1])).length) Slot.unset).toArray = ls at hl ⊢
  have hl : lv_has ls 2 [(0, .ref h0), (1, .int x1)] := hl
  refine lv_aload_n hx hb dX7_tagOf_0 rfl (lv_at hl 0 rfl) ?_
  refine lv_iload_n hx hb dX7_tagOf_1 rfl (lv_at hl 1 rfl) ?_
  have hFc := gfree hD hS hA
  obtain ⟨k_1, fs_1, hk_1⟩ := gC_of o_h0
  refine va_calli (va_runV (As := [.int x1]) (rest := []) ⟨hx, hb, hml, hown, hts⟩ (m_X7_entryAt l g s.heap.size ws h0 (x1) hG o_h0) (cwV 1 hts (gd_V kw_1296 kw_1298 kw_1299 kw_710 kw_1297) rfl rfl rfl (by decide +kernel) ⟨Nat.le_of_ble_eq_true rfl, Nat.le_of_ble_eq_true rfl⟩) ⟨gblind, va_recv hK hP (ci := 6) (q0 := k_1) rfl hk_1, fun U hU hW9 => gmk hU hW9 hP hK hD hex hE hS hFc⟩ rfl rfl hl.1 rfl (lv_room (Nat.le_of_ble_eq_true rfl)) dX7_tagOf_2 ⟨Nat.le_of_ble_eq_true rfl, Nat.le_of_ble_eq_true rfl⟩) hS (fun q _ h => hFc q h) hFc (fun r_2 u9 t9 H1 locs ht9 hvm9 hw9 hB9 hz9 hk9 hS => ?_)
  have hP : va_P (gD g) cl0 ws H1 := by rw [← ht9]; exact hB9.1
  clear hB9 hz9 hk9 hvm9 ht9 hw9
  generalize H1 = H at hP hS ⊢
  have J_21 : ∀ (t_3 : Int32) (H : Heap) (locs : List Loc) (ls : Array Slot), va_P (gD g) cl0 ws H → va_D A ws → va_S A s.heap H locs → lv_has ls 2 [] → W p l e (headSpec (wt yX7_tagOf cX7_tagOf 2 (some .int)) ({ frames := 1, cells := 0, slots := 0, locals := 21 })).room s m ([.ref h0, .int x1] : List Value).toArray below meth c H locs 0 0 (MQ below (va_Qi (fun (r : Int32) (u9 : Unit) => True) (gQ0 g A ws) A) ([.ref h0, .int x1] : List Value).toArray s 0 0 A) (F0 m 21 ls [.int t_3]) := by
    intro t_3 H locs ls  hP hD hS hl
    refine W.widen (k := 0) (n := 0) (Nat.le_of_ble_eq_true rfl) (Nat.le_of_ble_eq_true rfl) ?_
    exact W.iret (v := t_3) hx hb hr (fun t9 ht9 hW9 => ⟨⟨_, (), rfl, trivial, ⟨by rw [ht9]; exact hP, hD⟩⟩, hS.F ht9⟩) hS.2.2 dX7_tagOf_21
  refine lv_if_ne (tgt := 12) hx hb dX7_tagOf_5 (by decide) (fun c_6 => ?_) (fun c_6 => ?_)
  · refine lv_aload_n hx hb dX7_tagOf_12 rfl (lv_at hl 0 rfl) ?_
    refine lv_aload_n hx hb dX7_tagOf_13 rfl (lv_at hl 0 rfl) ?_
    refine lv_iload_n hx hb dX7_tagOf_14 rfl (lv_at hl 1 rfl) ?_
    have hFc := gfree hD hS hA
    obtain ⟨k_7, fs_7, hk_7⟩ := gC_of o_h0
    refine va_calli (va_runV (As := [.int x1]) (rest := [.ref h0]) ⟨hx, hb, hml, hown, hts⟩ (m_X7_entryAt l g H.size ws h0 (x1) hG o_h0) (cwV 1 hts (gd_V kw_1296 kw_1298 kw_1299 kw_710 kw_1297) rfl rfl rfl (by decide +kernel) ⟨Nat.le_of_ble_eq_true rfl, Nat.le_of_ble_eq_true rfl⟩) ⟨gblind, va_recv hK hP (ci := 6) (q0 := k_7) rfl hk_7, fun U hU hW9 => gmk hU hW9 hP hK hD hex hE hS hFc⟩ rfl rfl hl.1 rfl (lv_room (Nat.le_of_ble_eq_true rfl)) dX7_tagOf_15 ⟨Nat.le_of_ble_eq_true rfl, Nat.le_of_ble_eq_true rfl⟩) hS (fun q _ h => hFc q h) hFc (fun r_8 u9 t9 H1 locs ht9 hvm9 hw9 hB9 hz9 hk9 hS => ?_)
    have hP : va_P (gD g) cl0 ws H1 := by rw [← ht9]; exact hB9.1
    clear hB9 hz9 hk9 hvm9 ht9 hw9
    generalize H1 = H at hP hS ⊢
    have hFc := gfree hD hS hA
    obtain ⟨k_9, fs_9, hk_9⟩ := gC_of o_h0
    refine va_calli (va_runV (As := [.int r_8]) (rest := []) ⟨hx, hb, hml, hown, hts⟩ (m_X7_u1 l g H.size ws h0 (r_8) hG o_h0) (cwV 1 hts (gd_V kw_1304 kw_1447 kw_1448 kw_710 kw_1446) rfl rfl rfl (by decide +kernel) ⟨Nat.le_of_ble_eq_true rfl, Nat.le_of_ble_eq_true rfl⟩) ⟨gblind, va_recv hK hP (ci := 6) (q0 := k_9) rfl hk_9, fun U hU hW9 => gmk hU hW9 hP hK hD hex hE hS hFc⟩ rfl rfl hl.1 rfl (lv_room (Nat.le_of_ble_eq_true rfl)) dX7_tagOf_18 ⟨Nat.le_of_ble_eq_true rfl, Nat.le_of_ble_eq_true rfl⟩) hS (fun q _ h => hFc q h) hFc (fun r_10 u9 t9 H1 locs ht9 hvm9 hw9 hB9 hz9 hk9 hS => ?_)
    have hP : va_P (gD g) cl0 ws H1 := by rw [← ht9]; exact hB9.1
    have h_r_10 := hw9
    clear hB9 hz9 hk9 hvm9 ht9 hw9
    generalize H1 = H at hP hS ⊢
    exact J_21 (r_10) H locs ls  hP hD hS (lv_sub hl [] rfl)
  · refine lv_iconst (v := 0) hx hb dX7_tagOf_8 (by decide) ?_
    refine lv_goto (tgt := 21) hx hb dX7_tagOf_9 (by decide) ?_
    exact J_21 (0) H locs ls  hP hD hS (lv_sub hl [] rfl)
set_option maxHeartbeats 1000000 in
set_option maxRecDepth 100000 in
theorem m_X7_firstOf (l : Launch) (g : Gm) (sz : Nat) (ws : va_W) (h0 : Nat) (x1 : Int32) (hG : Good g ws) (o_h0 : gC ws h0 6) : Met l yX7_firstOf (wt yX7_firstOf cX7_firstOf 2 (some .int)) ({ frames := 1, cells := 0, slots := 0, locals := 21 }) (va_Pc [.ref h0, .int x1] (st_G g sz ws)) (va_Qi (fun (r : Int32) (u9 : Unit) => 0 ≤ r.toInt ∧ r.toInt ≤ 65535) (gQ0 g (va_A ws sz) ws) (va_A ws sz)) 0 0 (va_A ws sz) := by
  refine Met.ofW (cc := cX7_firstOf) (maxL := 2) (ret := (some .int)) (by decide) rfl ?_
  intro p e s m args below meth c s₁ B hml hv
  obtain ⟨rfl, hsz, hP, hK, hD0, hex, hE⟩ := hv
  have hx := B.exec
  have hb := B.bytes
  have hr := B.returns
  have hts0 := atoms_spec (ws := wt yX7_firstOf cX7_firstOf 2 (some .int)) B.pre
  have hts : ∀ w ∈ tb, w.before _ s = true := fun w h => hts0 w (List.mem_cons_of_mem _ h)
  have hown : s.vm.findClass RX7 = some m.cls := findClass_of_methodNamed B.named
  subst hsz
  have hD := hD0.self (sz := s.heap.size)
  generalize hAe : va_A ws s.heap.size = A at hD hE ⊢
  have hA : ∀ q : Nat, s.heap.size ≤ q → A q := fun q h => by rw [← hAe]; exact Or.inr h
  have hS : va_S A s.heap s.heap [] := va_S.rf
  have hl := lv_entry ([.ref h0, .int x1]) (n := 2) (Nat.le_of_ble_eq_true rfl)
  rw [lg_entry_eq]
  generalize (lg_sl ([.ref h0, .int x1]) ++ List.replicate (2 - (lg_sl ([.ref h0, .int x1])).length) Slot.unset).toArray = ls at hl ⊢
  have hl : lv_has ls 2 [(0, .ref h0), (1, .int x1)] := hl
  refine lv_aload_n hx hb dX7_firstOf_0 rfl (lv_at hl 0 rfl) ?_
  refine lv_aload_n hx hb dX7_firstOf_1 rfl (lv_at hl 0 rfl) ?_
  refine lv_iload_n hx hb dX7_firstOf_2 rfl (lv_at hl 1 rfl) ?_
  have hFc := gfree hD hS hA
  obtain ⟨k_1, fs_1, hk_1⟩ := gC_of o_h0
  refine va_calli (va_runV (As := [.int x1]) (rest := [.ref h0]) ⟨hx, hb, hml, hown, hts⟩ (m_X7_entryAt l g s.heap.size ws h0 (x1) hG o_h0) (cwV 1 hts (gd_V kw_1296 kw_1298 kw_1299 kw_710 kw_1297) rfl rfl rfl (by decide +kernel) ⟨Nat.le_of_ble_eq_true rfl, Nat.le_of_ble_eq_true rfl⟩) ⟨gblind, va_recv hK hP (ci := 6) (q0 := k_1) rfl hk_1, fun U hU hW9 => gmk hU hW9 hP hK hD hex hE hS hFc⟩ rfl rfl hl.1 rfl (lv_room (Nat.le_of_ble_eq_true rfl)) dX7_firstOf_3 ⟨Nat.le_of_ble_eq_true rfl, Nat.le_of_ble_eq_true rfl⟩) hS (fun q _ h => hFc q h) hFc (fun r_2 u9 t9 H1 locs ht9 hvm9 hw9 hB9 hz9 hk9 hS => ?_)
  have hP : va_P (gD g) cl0 ws H1 := by rw [← ht9]; exact hB9.1
  clear hB9 hz9 hk9 hvm9 ht9 hw9
  generalize H1 = H at hP hS ⊢
  refine lv_iconst (v := 1) hx hb dX7_firstOf_6 (by decide) ?_
  refine lv_iadd hx hb dX7_firstOf_7 ?_
  refine lv_topi (fun z_3 ez_3 => ?_)
  have hFc := gfree hD hS hA
  obtain ⟨k_4, fs_4, hk_4⟩ := gC_of o_h0
  refine va_calli (va_runV (As := [.int z_3]) (rest := []) ⟨hx, hb, hml, hown, hts⟩ (m_X7_u2 l g H.size ws h0 (z_3) hG o_h0) (cwV 1 hts (gd_V kw_1266 kw_1450 kw_1451 kw_710 kw_1449) rfl rfl rfl (by decide +kernel) ⟨Nat.le_of_ble_eq_true rfl, Nat.le_of_ble_eq_true rfl⟩) ⟨gblind, va_recv hK hP (ci := 6) (q0 := k_4) rfl hk_4, fun U hU hW9 => gmk hU hW9 hP hK hD hex hE hS hFc⟩ rfl rfl hl.1 rfl (lv_room (Nat.le_of_ble_eq_true rfl)) dX7_firstOf_8 ⟨Nat.le_of_ble_eq_true rfl, Nat.le_of_ble_eq_true rfl⟩) hS (fun q _ h => hFc q h) hFc (fun r_5 u9 t9 H1 locs ht9 hvm9 hw9 hB9 hz9 hk9 hS => ?_)
  have hP : va_P (gD g) cl0 ws H1 := by rw [← ht9]; exact hB9.1
  have h_r_5 := hw9
  clear hB9 hz9 hk9 hvm9 ht9 hw9
  generalize H1 = H at hP hS ⊢
  refine W.widen (k := 0) (n := 0) (Nat.le_of_ble_eq_true rfl) (Nat.le_of_ble_eq_true rfl) ?_
  exact W.iret (v := r_5) hx hb hr (fun t9 ht9 hW9 => ⟨⟨_, (), rfl, (by have q_r_5 := h_r_5; have g_r_5 := i_rg r_5; have g_x1 := i_rg x1; omega), ⟨by rw [ht9]; exact hP, hD⟩⟩, hS.F ht9⟩) hS.2.2 dX7_firstOf_11
set_option maxHeartbeats 1000000 in
set_option maxRecDepth 100000 in
theorem m_X7_secondOf (l : Launch) (g : Gm) (sz : Nat) (ws : va_W) (h0 : Nat) (x1 : Int32) (hG : Good g ws) (o_h0 : gC ws h0 6) : Met l yX7_secondOf (wt yX7_secondOf cX7_secondOf 2 (some .int)) ({ frames := 1, cells := 0, slots := 0, locals := 21 }) (va_Pc [.ref h0, .int x1] (st_G g sz ws)) (va_Qi (fun (r : Int32) (u9 : Unit) => 0 ≤ r.toInt ∧ r.toInt ≤ 65535) (gQ0 g (va_A ws sz) ws) (va_A ws sz)) 0 0 (va_A ws sz) := by
  refine Met.ofW (cc := cX7_secondOf) (maxL := 2) (ret := (some .int)) (by decide) rfl ?_
  intro p e s m args below meth c s₁ B hml hv
  obtain ⟨rfl, hsz, hP, hK, hD0, hex, hE⟩ := hv
  have hx := B.exec
  have hb := B.bytes
  have hr := B.returns
  have hts0 := atoms_spec (ws := wt yX7_secondOf cX7_secondOf 2 (some .int)) B.pre
  have hts : ∀ w ∈ tb, w.before _ s = true := fun w h => hts0 w (List.mem_cons_of_mem _ h)
  have hown : s.vm.findClass RX7 = some m.cls := findClass_of_methodNamed B.named
  subst hsz
  have hD := hD0.self (sz := s.heap.size)
  generalize hAe : va_A ws s.heap.size = A at hD hE ⊢
  have hA : ∀ q : Nat, s.heap.size ≤ q → A q := fun q h => by rw [← hAe]; exact Or.inr h
  have hS : va_S A s.heap s.heap [] := va_S.rf
  have hl := lv_entry ([.ref h0, .int x1]) (n := 2) (Nat.le_of_ble_eq_true rfl)
  rw [lg_entry_eq]
  generalize (lg_sl ([.ref h0, .int x1]) ++ List.replicate (2 - (lg_sl ([.ref h0, .int x1])).length) Slot.unset).toArray = ls at hl ⊢
  have hl : lv_has ls 2 [(0, .ref h0), (1, .int x1)] := hl
  refine lv_aload_n hx hb dX7_secondOf_0 rfl (lv_at hl 0 rfl) ?_
  refine lv_aload_n hx hb dX7_secondOf_1 rfl (lv_at hl 0 rfl) ?_
  refine lv_iload_n hx hb dX7_secondOf_2 rfl (lv_at hl 1 rfl) ?_
  have hFc := gfree hD hS hA
  obtain ⟨k_1, fs_1, hk_1⟩ := gC_of o_h0
  refine va_calli (va_runV (As := [.int x1]) (rest := [.ref h0]) ⟨hx, hb, hml, hown, hts⟩ (m_X7_entryAt l g s.heap.size ws h0 (x1) hG o_h0) (cwV 1 hts (gd_V kw_1296 kw_1298 kw_1299 kw_710 kw_1297) rfl rfl rfl (by decide +kernel) ⟨Nat.le_of_ble_eq_true rfl, Nat.le_of_ble_eq_true rfl⟩) ⟨gblind, va_recv hK hP (ci := 6) (q0 := k_1) rfl hk_1, fun U hU hW9 => gmk hU hW9 hP hK hD hex hE hS hFc⟩ rfl rfl hl.1 rfl (lv_room (Nat.le_of_ble_eq_true rfl)) dX7_secondOf_3 ⟨Nat.le_of_ble_eq_true rfl, Nat.le_of_ble_eq_true rfl⟩) hS (fun q _ h => hFc q h) hFc (fun r_2 u9 t9 H1 locs ht9 hvm9 hw9 hB9 hz9 hk9 hS => ?_)
  have hP : va_P (gD g) cl0 ws H1 := by rw [← ht9]; exact hB9.1
  clear hB9 hz9 hk9 hvm9 ht9 hw9
  generalize H1 = H at hP hS ⊢
  refine lv_iconst (v := 3) hx hb dX7_secondOf_6 (by decide) ?_
  refine lv_iadd hx hb dX7_secondOf_7 ?_
  refine lv_topi (fun z_3 ez_3 => ?_)
  have hFc := gfree hD hS hA
  obtain ⟨k_4, fs_4, hk_4⟩ := gC_of o_h0
  refine va_calli (va_runV (As := [.int z_3]) (rest := []) ⟨hx, hb, hml, hown, hts⟩ (m_X7_u2 l g H.size ws h0 (z_3) hG o_h0) (cwV 1 hts (gd_V kw_1266 kw_1450 kw_1451 kw_710 kw_1449) rfl rfl rfl (by decide +kernel) ⟨Nat.le_of_ble_eq_true rfl, Nat.le_of_ble_eq_true rfl⟩) ⟨gblind, va_recv hK hP (ci := 6) (q0 := k_4) rfl hk_4, fun U hU hW9 => gmk hU hW9 hP hK hD hex hE hS hFc⟩ rfl rfl hl.1 rfl (lv_room (Nat.le_of_ble_eq_true rfl)) dX7_secondOf_8 ⟨Nat.le_of_ble_eq_true rfl, Nat.le_of_ble_eq_true rfl⟩) hS (fun q _ h => hFc q h) hFc (fun r_5 u9 t9 H1 locs ht9 hvm9 hw9 hB9 hz9 hk9 hS => ?_)
  have hP : va_P (gD g) cl0 ws H1 := by rw [← ht9]; exact hB9.1
  have h_r_5 := hw9
  clear hB9 hz9 hk9 hvm9 ht9 hw9
  generalize H1 = H at hP hS ⊢
  refine W.widen (k := 0) (n := 0) (Nat.le_of_ble_eq_true rfl) (Nat.le_of_ble_eq_true rfl) ?_
  exact W.iret (v := r_5) hx hb hr (fun t9 ht9 hW9 => ⟨⟨_, (), rfl, (by have q_r_5 := h_r_5; have g_r_5 := i_rg r_5; have g_x1 := i_rg x1; omega), ⟨by rw [ht9]; exact hP, hD⟩⟩, hS.F ht9⟩) hS.2.2 dX7_secondOf_11
set_option maxHeartbeats 1000000 in
set_option maxRecDepth 100000 in
theorem m_X7_entryPoints (l : Launch) (g : Gm) (sz : Nat) (ws : va_W) (h0 : Nat) (x1 : Int32) (hG : Good g ws) (o_h0 : gC ws h0 6) : Met l yX7_entryPoints (wt yX7_entryPoints cX7_entryPoints 2 (some .boolean)) ({ frames := 2, cells := 0, slots := 0, locals := 42 }) (va_Pc [.ref h0, .int x1] (st_G g sz ws)) (va_Qi (fun (r : Int32) (u9 : Unit) => r = 0 ∨ r = 1) (gQ0 g (va_A ws sz) ws) (va_A ws sz)) 0 0 (va_A ws sz) := by
  refine Met.ofW (cc := cX7_entryPoints) (maxL := 2) (ret := (some .boolean)) (by decide) rfl ?_
  intro p e s m args below meth c s₁ B hml hv
  obtain ⟨rfl, hsz, hP, hK, hD0, hex, hE⟩ := hv
  have hx := B.exec
  have hb := B.bytes
  have hr := B.returns
  have hts0 := atoms_spec (ws := wt yX7_entryPoints cX7_entryPoints 2 (some .boolean)) B.pre
  have hts : ∀ w ∈ tb, w.before _ s = true := fun w h => hts0 w (List.mem_cons_of_mem _ h)
  have hown : s.vm.findClass RX7 = some m.cls := findClass_of_methodNamed B.named
  subst hsz
  have hD := hD0.self (sz := s.heap.size)
  generalize hAe : va_A ws s.heap.size = A at hD hE ⊢
  have hA : ∀ q : Nat, s.heap.size ≤ q → A q := fun q h => by rw [← hAe]; exact Or.inr h
  have hS : va_S A s.heap s.heap [] := va_S.rf
  have hl := lv_entry ([.ref h0, .int x1]) (n := 2) (Nat.le_of_ble_eq_true rfl)
  rw [lg_entry_eq]
  generalize (lg_sl ([.ref h0, .int x1]) ++ List.replicate (2 - (lg_sl ([.ref h0, .int x1])).length) Slot.unset).toArray = ls at hl ⊢
  have hl : lv_has ls 2 [(0, .ref h0), (1, .int x1)] := hl
  refine lv_aload_n hx hb dX7_entryPoints_0 rfl (lv_at hl 0 rfl) ?_
  refine lv_iload_n hx hb dX7_entryPoints_1 rfl (lv_at hl 1 rfl) ?_
  have hFc := gfree hD hS hA
  obtain ⟨k_1, fs_1, hk_1⟩ := gC_of o_h0
  refine va_calli (va_runV (As := [.int x1]) (rest := []) ⟨hx, hb, hml, hown, hts⟩ (m_X7_tagOf l g s.heap.size ws h0 (x1) hG o_h0) (cwV 1 hts (gd_V kw_1313 kw_1435 kw_1436 kw_710 kw_1434) rfl rfl rfl (by decide +kernel) ⟨Nat.le_of_ble_eq_true rfl, Nat.le_of_ble_eq_true rfl⟩) ⟨gblind, va_recv hK hP (ci := 6) (q0 := k_1) rfl hk_1, fun U hU hW9 => gmk hU hW9 hP hK hD hex hE hS hFc⟩ rfl rfl hl.1 rfl (lv_room (Nat.le_of_ble_eq_true rfl)) dX7_entryPoints_2 ⟨Nat.le_of_ble_eq_true rfl, Nat.le_of_ble_eq_true rfl⟩) hS (fun q _ h => hFc q h) hFc (fun r_2 u9 t9 H1 locs ht9 hvm9 hw9 hB9 hz9 hk9 hS => ?_)
  have hP : va_P (gD g) cl0 ws H1 := by rw [← ht9]; exact hB9.1
  clear hB9 hz9 hk9 hvm9 ht9 hw9
  generalize H1 = H at hP hS ⊢
  have K_5_129 : W p l e (headSpec (wt yX7_entryPoints cX7_entryPoints 2 (some .boolean)) ({ frames := 2, cells := 0, slots := 0, locals := 42 })).room s m ([.ref h0, .int x1] : List Value).toArray below meth c H locs 0 0 (MQ below (va_Qi (fun (r : Int32) (u9 : Unit) => r = 0 ∨ r = 1) (gQ0 g A ws) A) ([.ref h0, .int x1] : List Value).toArray s 0 0 A) (F0 m 129 ls []) := by
    refine lv_iconst (v := 1) hx hb dX7_entryPoints_129 (by decide) ?_
    refine W.widen (k := 0) (n := 0) (Nat.le_of_ble_eq_true rfl) (Nat.le_of_ble_eq_true rfl) ?_
    exact W.zret (v := 1) hx hb hr (nz (Or.inr rfl)) (fun t9 ht9 hW9 => ⟨⟨_, (), rfl, (Or.inr rfl), ⟨by rw [ht9]; exact hP, hD⟩⟩, hS.F ht9⟩) hS.2.2 dX7_entryPoints_130
  have K_5_44 : W p l e (headSpec (wt yX7_entryPoints cX7_entryPoints 2 (some .boolean)) ({ frames := 2, cells := 0, slots := 0, locals := 42 })).room s m ([.ref h0, .int x1] : List Value).toArray below meth c H locs 0 0 (MQ below (va_Qi (fun (r : Int32) (u9 : Unit) => r = 0 ∨ r = 1) (gQ0 g A ws) A) ([.ref h0, .int x1] : List Value).toArray s 0 0 A) (F0 m 44 ls []) := by
    refine lv_aload_n hx hb dX7_entryPoints_44 rfl (lv_at hl 0 rfl) ?_
    refine lv_aload_n hx hb dX7_entryPoints_45 rfl (lv_at hl 0 rfl) ?_
    refine lv_iload_n hx hb dX7_entryPoints_46 rfl (lv_at hl 1 rfl) ?_
    have hFc := gfree hD hS hA
    obtain ⟨k_3, fs_3, hk_3⟩ := gC_of o_h0
    refine va_calli (va_runV (As := [.int x1]) (rest := [.ref h0]) ⟨hx, hb, hml, hown, hts⟩ (m_X7_firstOf l g H.size ws h0 (x1) hG o_h0) (cwV 1 hts (gd_V kw_1314 kw_1326 kw_1327 kw_710 kw_1325) rfl rfl rfl (by decide +kernel) ⟨Nat.le_of_ble_eq_true rfl, Nat.le_of_ble_eq_true rfl⟩) ⟨gblind, va_recv hK hP (ci := 6) (q0 := k_3) rfl hk_3, fun U hU hW9 => gmk hU hW9 hP hK hD hex hE hS hFc⟩ rfl rfl hl.1 rfl (lv_room (Nat.le_of_ble_eq_true rfl)) dX7_entryPoints_47 ⟨Nat.le_of_ble_eq_true rfl, Nat.le_of_ble_eq_true rfl⟩) hS (fun q _ h => hFc q h) hFc (fun r_4 u9 t9 H1 locs ht9 hvm9 hw9 hB9 hz9 hk9 hS => ?_)
    have hP : va_P (gD g) cl0 ws H1 := by rw [← ht9]; exact hB9.1
    have h_r_4 := hw9
    clear hB9 hz9 hk9 hvm9 ht9 hw9
    generalize H1 = H at hP hS ⊢
    have hFc := gfree hD hS hA
    obtain ⟨k_5, fs_5, hk_5⟩ := gC_of o_h0
    refine va_calli (va_runV (As := [.int r_4]) (rest := []) ⟨hx, hb, hml, hown, hts⟩ (m_X7_tagOf l g H.size ws h0 (r_4) hG o_h0) (cwV 1 hts (gd_V kw_1313 kw_1435 kw_1436 kw_710 kw_1434) rfl rfl rfl (by decide +kernel) ⟨Nat.le_of_ble_eq_true rfl, Nat.le_of_ble_eq_true rfl⟩) ⟨gblind, va_recv hK hP (ci := 6) (q0 := k_5) rfl hk_5, fun U hU hW9 => gmk hU hW9 hP hK hD hex hE hS hFc⟩ rfl rfl hl.1 rfl (lv_room (Nat.le_of_ble_eq_true rfl)) dX7_entryPoints_50 ⟨Nat.le_of_ble_eq_true rfl, Nat.le_of_ble_eq_true rfl⟩) hS (fun q _ h => hFc q h) hFc (fun r_6 u9 t9 H1 locs ht9 hvm9 hw9 hB9 hz9 hk9 hS => ?_)
    have hP : va_P (gD g) cl0 ws H1 := by rw [← ht9]; exact hB9.1
    clear hB9 hz9 hk9 hvm9 ht9 hw9
    generalize H1 = H at hP hS ⊢
    refine lv_iconst (v := 1) hx hb dX7_entryPoints_53 (by decide) ?_
    have J_62 : ∀ (t_7 : Int32) (H : Heap) (locs : List Loc) (ls : Array Slot), t_7 = 0 ∨ t_7 = 1 → va_P (gD g) cl0 ws H → va_D A ws → va_S A s.heap H locs → lv_has ls 2 [] → W p l e (headSpec (wt yX7_entryPoints cX7_entryPoints 2 (some .boolean)) ({ frames := 2, cells := 0, slots := 0, locals := 42 })).room s m ([.ref h0, .int x1] : List Value).toArray below meth c H locs 0 0 (MQ below (va_Qi (fun (r : Int32) (u9 : Unit) => r = 0 ∨ r = 1) (gQ0 g A ws) A) ([.ref h0, .int x1] : List Value).toArray s 0 0 A) (F0 m 62 ls [.int t_7]) := by
      intro t_7 H locs ls iv_8 hP hD hS hl
      have hz_t_7 := iv_8
      refine W.widen (k := 0) (n := 0) (Nat.le_of_ble_eq_true rfl) (Nat.le_of_ble_eq_true rfl) ?_
      exact W.zret (v := t_7) hx hb hr (nz hz_t_7) (fun t9 ht9 hW9 => ⟨⟨_, (), rfl, hz_t_7, ⟨by rw [ht9]; exact hP, hD⟩⟩, hS.F ht9⟩) hS.2.2 dX7_entryPoints_62
    refine lv_icmp_ne (tgt := 61) hx hb dX7_entryPoints_54 (by decide) (fun c_11 => ?_) (fun c_11 => ?_)
    · refine lv_iconst (v := 0) hx hb dX7_entryPoints_61 (by decide) ?_
      exact J_62 (0) H locs ls (Or.inl rfl) hP hD hS (lv_sub hl [] rfl)
    · refine lv_iconst (v := 1) hx hb dX7_entryPoints_57 (by decide) ?_
      refine lv_goto (tgt := 62) hx hb dX7_entryPoints_58 (by decide) ?_
      exact J_62 (1) H locs ls (Or.inr rfl) hP hD hS (lv_sub hl [] rfl)
  have K_5_95 : W p l e (headSpec (wt yX7_entryPoints cX7_entryPoints 2 (some .boolean)) ({ frames := 2, cells := 0, slots := 0, locals := 42 })).room s m ([.ref h0, .int x1] : List Value).toArray below meth c H locs 0 0 (MQ below (va_Qi (fun (r : Int32) (u9 : Unit) => r = 0 ∨ r = 1) (gQ0 g A ws) A) ([.ref h0, .int x1] : List Value).toArray s 0 0 A) (F0 m 95 ls []) := by
    refine lv_aload_n hx hb dX7_entryPoints_95 rfl (lv_at hl 0 rfl) ?_
    refine lv_aload_n hx hb dX7_entryPoints_96 rfl (lv_at hl 0 rfl) ?_
    refine lv_iload_n hx hb dX7_entryPoints_97 rfl (lv_at hl 1 rfl) ?_
    have hFc := gfree hD hS hA
    obtain ⟨k_12, fs_12, hk_12⟩ := gC_of o_h0
    refine va_calli (va_runV (As := [.int x1]) (rest := [.ref h0]) ⟨hx, hb, hml, hown, hts⟩ (m_X7_firstOf l g H.size ws h0 (x1) hG o_h0) (cwV 1 hts (gd_V kw_1314 kw_1326 kw_1327 kw_710 kw_1325) rfl rfl rfl (by decide +kernel) ⟨Nat.le_of_ble_eq_true rfl, Nat.le_of_ble_eq_true rfl⟩) ⟨gblind, va_recv hK hP (ci := 6) (q0 := k_12) rfl hk_12, fun U hU hW9 => gmk hU hW9 hP hK hD hex hE hS hFc⟩ rfl rfl hl.1 rfl (lv_room (Nat.le_of_ble_eq_true rfl)) dX7_entryPoints_98 ⟨Nat.le_of_ble_eq_true rfl, Nat.le_of_ble_eq_true rfl⟩) hS (fun q _ h => hFc q h) hFc (fun r_13 u9 t9 H1 locs ht9 hvm9 hw9 hB9 hz9 hk9 hS => ?_)
    have hP : va_P (gD g) cl0 ws H1 := by rw [← ht9]; exact hB9.1
    have h_r_13 := hw9
    clear hB9 hz9 hk9 hvm9 ht9 hw9
    generalize H1 = H at hP hS ⊢
    have hFc := gfree hD hS hA
    obtain ⟨k_14, fs_14, hk_14⟩ := gC_of o_h0
    refine va_calli (va_runV (As := [.int r_13]) (rest := []) ⟨hx, hb, hml, hown, hts⟩ (m_X7_tagOf l g H.size ws h0 (r_13) hG o_h0) (cwV 1 hts (gd_V kw_1313 kw_1435 kw_1436 kw_710 kw_1434) rfl rfl rfl (by decide +kernel) ⟨Nat.le_of_ble_eq_true rfl, Nat.le_of_ble_eq_true rfl⟩) ⟨gblind, va_recv hK hP (ci := 6) (q0 := k_14) rfl hk_14, fun U hU hW9 => gmk hU hW9 hP hK hD hex hE hS hFc⟩ rfl rfl hl.1 rfl (lv_room (Nat.le_of_ble_eq_true rfl)) dX7_entryPoints_101 ⟨Nat.le_of_ble_eq_true rfl, Nat.le_of_ble_eq_true rfl⟩) hS (fun q _ h => hFc q h) hFc (fun r_15 u9 t9 H1 locs ht9 hvm9 hw9 hB9 hz9 hk9 hS => ?_)
    have hP : va_P (gD g) cl0 ws H1 := by rw [← ht9]; exact hB9.1
    clear hB9 hz9 hk9 hvm9 ht9 hw9
    generalize H1 = H at hP hS ⊢
    refine lv_bipush (v := 7) hx hb dX7_entryPoints_104 (by decide) ?_
    have J_128 : ∀ (t_16 : Int32) (H : Heap) (locs : List Loc) (ls : Array Slot), t_16 = 0 ∨ t_16 = 1 → va_P (gD g) cl0 ws H → va_D A ws → va_S A s.heap H locs → lv_has ls 2 [] → W p l e (headSpec (wt yX7_entryPoints cX7_entryPoints 2 (some .boolean)) ({ frames := 2, cells := 0, slots := 0, locals := 42 })).room s m ([.ref h0, .int x1] : List Value).toArray below meth c H locs 0 0 (MQ below (va_Qi (fun (r : Int32) (u9 : Unit) => r = 0 ∨ r = 1) (gQ0 g A ws) A) ([.ref h0, .int x1] : List Value).toArray s 0 0 A) (F0 m 128 ls [.int t_16]) := by
      intro t_16 H locs ls iv_17 hP hD hS hl
      have hz_t_16 := iv_17
      refine W.widen (k := 0) (n := 0) (Nat.le_of_ble_eq_true rfl) (Nat.le_of_ble_eq_true rfl) ?_
      exact W.zret (v := t_16) hx hb hr (nz hz_t_16) (fun t9 ht9 hW9 => ⟨⟨_, (), rfl, hz_t_16, ⟨by rw [ht9]; exact hP, hD⟩⟩, hS.F ht9⟩) hS.2.2 dX7_entryPoints_128
    have J_127 : ∀  (H : Heap) (locs : List Loc) (ls : Array Slot), va_P (gD g) cl0 ws H → va_D A ws → va_S A s.heap H locs → lv_has ls 2 [] → W p l e (headSpec (wt yX7_entryPoints cX7_entryPoints 2 (some .boolean)) ({ frames := 2, cells := 0, slots := 0, locals := 42 })).room s m ([.ref h0, .int x1] : List Value).toArray below meth c H locs 0 0 (MQ below (va_Qi (fun (r : Int32) (u9 : Unit) => r = 0 ∨ r = 1) (gQ0 g A ws) A) ([.ref h0, .int x1] : List Value).toArray s 0 0 A) (F0 m 127 ls []) := by
      intro  H locs ls  hP hD hS hl
      refine lv_iconst (v := 0) hx hb dX7_entryPoints_127 (by decide) ?_
      exact J_128 (0) H locs ls (Or.inl rfl) hP hD hS (lv_sub hl [] rfl)
    refine lv_icmp_ne (tgt := 127) hx hb dX7_entryPoints_106 (by decide) (fun c_22 => ?_) (fun c_22 => ?_)
    · exact J_127  H locs ls  hP hD hS (lv_sub hl [] rfl)
    · refine lv_aload_n hx hb dX7_entryPoints_109 rfl (lv_at hl 0 rfl) ?_
      refine lv_aload_n hx hb dX7_entryPoints_110 rfl (lv_at hl 0 rfl) ?_
      refine lv_iload_n hx hb dX7_entryPoints_111 rfl (lv_at hl 1 rfl) ?_
      have hFc := gfree hD hS hA
      obtain ⟨k_23, fs_23, hk_23⟩ := gC_of o_h0
      refine va_calli (va_runV (As := [.int x1]) (rest := [.ref h0]) ⟨hx, hb, hml, hown, hts⟩ (m_X7_secondOf l g H.size ws h0 (x1) hG o_h0) (cwV 1 hts (gd_V kw_1315 kw_1432 kw_1433 kw_710 kw_1431) rfl rfl rfl (by decide +kernel) ⟨Nat.le_of_ble_eq_true rfl, Nat.le_of_ble_eq_true rfl⟩) ⟨gblind, va_recv hK hP (ci := 6) (q0 := k_23) rfl hk_23, fun U hU hW9 => gmk hU hW9 hP hK hD hex hE hS hFc⟩ rfl rfl hl.1 rfl (lv_room (Nat.le_of_ble_eq_true rfl)) dX7_entryPoints_112 ⟨Nat.le_of_ble_eq_true rfl, Nat.le_of_ble_eq_true rfl⟩) hS (fun q _ h => hFc q h) hFc (fun r_24 u9 t9 H1 locs ht9 hvm9 hw9 hB9 hz9 hk9 hS => ?_)
      have hP : va_P (gD g) cl0 ws H1 := by rw [← ht9]; exact hB9.1
      have h_r_24 := hw9
      clear hB9 hz9 hk9 hvm9 ht9 hw9
      generalize H1 = H at hP hS ⊢
      have hFc := gfree hD hS hA
      obtain ⟨k_25, fs_25, hk_25⟩ := gC_of o_h0
      refine va_calli (va_runV (As := [.int r_24]) (rest := []) ⟨hx, hb, hml, hown, hts⟩ (m_X7_tagOf l g H.size ws h0 (r_24) hG o_h0) (cwV 1 hts (gd_V kw_1313 kw_1435 kw_1436 kw_710 kw_1434) rfl rfl rfl (by decide +kernel) ⟨Nat.le_of_ble_eq_true rfl, Nat.le_of_ble_eq_true rfl⟩) ⟨gblind, va_recv hK hP (ci := 6) (q0 := k_25) rfl hk_25, fun U hU hW9 => gmk hU hW9 hP hK hD hex hE hS hFc⟩ rfl rfl hl.1 rfl (lv_room (Nat.le_of_ble_eq_true rfl)) dX7_entryPoints_115 ⟨Nat.le_of_ble_eq_true rfl, Nat.le_of_ble_eq_true rfl⟩) hS (fun q _ h => hFc q h) hFc (fun r_26 u9 t9 H1 locs ht9 hvm9 hw9 hB9 hz9 hk9 hS => ?_)
      have hP : va_P (gD g) cl0 ws H1 := by rw [← ht9]; exact hB9.1
      clear hB9 hz9 hk9 hvm9 ht9 hw9
      generalize H1 = H at hP hS ⊢
      refine lv_bipush (v := 12) hx hb dX7_entryPoints_118 (by decide) ?_
      refine lv_icmp_ne (tgt := 127) hx hb dX7_entryPoints_120 (by decide) (fun c_27 => ?_) (fun c_27 => ?_)
      · exact J_127  H locs ls  hP hD hS (lv_sub hl [] rfl)
      · refine lv_iconst (v := 1) hx hb dX7_entryPoints_123 (by decide) ?_
        refine lv_goto (tgt := 128) hx hb dX7_entryPoints_124 (by decide) ?_
        exact J_128 (1) H locs ls (Or.inr rfl) hP hD hS (lv_sub hl [] rfl)
  have K_5_63 : W p l e (headSpec (wt yX7_entryPoints cX7_entryPoints 2 (some .boolean)) ({ frames := 2, cells := 0, slots := 0, locals := 42 })).room s m ([.ref h0, .int x1] : List Value).toArray below meth c H locs 0 0 (MQ below (va_Qi (fun (r : Int32) (u9 : Unit) => r = 0 ∨ r = 1) (gQ0 g A ws) A) ([.ref h0, .int x1] : List Value).toArray s 0 0 A) (F0 m 63 ls []) := by
    refine lv_aload_n hx hb dX7_entryPoints_63 rfl (lv_at hl 0 rfl) ?_
    refine lv_aload_n hx hb dX7_entryPoints_64 rfl (lv_at hl 0 rfl) ?_
    refine lv_iload_n hx hb dX7_entryPoints_65 rfl (lv_at hl 1 rfl) ?_
    have hFc := gfree hD hS hA
    obtain ⟨k_28, fs_28, hk_28⟩ := gC_of o_h0
    refine va_calli (va_runV (As := [.int x1]) (rest := [.ref h0]) ⟨hx, hb, hml, hown, hts⟩ (m_X7_firstOf l g H.size ws h0 (x1) hG o_h0) (cwV 1 hts (gd_V kw_1314 kw_1326 kw_1327 kw_710 kw_1325) rfl rfl rfl (by decide +kernel) ⟨Nat.le_of_ble_eq_true rfl, Nat.le_of_ble_eq_true rfl⟩) ⟨gblind, va_recv hK hP (ci := 6) (q0 := k_28) rfl hk_28, fun U hU hW9 => gmk hU hW9 hP hK hD hex hE hS hFc⟩ rfl rfl hl.1 rfl (lv_room (Nat.le_of_ble_eq_true rfl)) dX7_entryPoints_66 ⟨Nat.le_of_ble_eq_true rfl, Nat.le_of_ble_eq_true rfl⟩) hS (fun q _ h => hFc q h) hFc (fun r_29 u9 t9 H1 locs ht9 hvm9 hw9 hB9 hz9 hk9 hS => ?_)
    have hP : va_P (gD g) cl0 ws H1 := by rw [← ht9]; exact hB9.1
    have h_r_29 := hw9
    clear hB9 hz9 hk9 hvm9 ht9 hw9
    generalize H1 = H at hP hS ⊢
    have hFc := gfree hD hS hA
    obtain ⟨k_30, fs_30, hk_30⟩ := gC_of o_h0
    refine va_calli (va_runV (As := [.int r_29]) (rest := []) ⟨hx, hb, hml, hown, hts⟩ (m_X7_tagOf l g H.size ws h0 (r_29) hG o_h0) (cwV 1 hts (gd_V kw_1313 kw_1435 kw_1436 kw_710 kw_1434) rfl rfl rfl (by decide +kernel) ⟨Nat.le_of_ble_eq_true rfl, Nat.le_of_ble_eq_true rfl⟩) ⟨gblind, va_recv hK hP (ci := 6) (q0 := k_30) rfl hk_30, fun U hU hW9 => gmk hU hW9 hP hK hD hex hE hS hFc⟩ rfl rfl hl.1 rfl (lv_room (Nat.le_of_ble_eq_true rfl)) dX7_entryPoints_69 ⟨Nat.le_of_ble_eq_true rfl, Nat.le_of_ble_eq_true rfl⟩) hS (fun q _ h => hFc q h) hFc (fun r_31 u9 t9 H1 locs ht9 hvm9 hw9 hB9 hz9 hk9 hS => ?_)
    have hP : va_P (gD g) cl0 ws H1 := by rw [← ht9]; exact hB9.1
    clear hB9 hz9 hk9 hvm9 ht9 hw9
    generalize H1 = H at hP hS ⊢
    refine lv_iconst (v := 1) hx hb dX7_entryPoints_72 (by decide) ?_
    have J_94 : ∀ (t_32 : Int32) (H : Heap) (locs : List Loc) (ls : Array Slot), t_32 = 0 ∨ t_32 = 1 → va_P (gD g) cl0 ws H → va_D A ws → va_S A s.heap H locs → lv_has ls 2 [] → W p l e (headSpec (wt yX7_entryPoints cX7_entryPoints 2 (some .boolean)) ({ frames := 2, cells := 0, slots := 0, locals := 42 })).room s m ([.ref h0, .int x1] : List Value).toArray below meth c H locs 0 0 (MQ below (va_Qi (fun (r : Int32) (u9 : Unit) => r = 0 ∨ r = 1) (gQ0 g A ws) A) ([.ref h0, .int x1] : List Value).toArray s 0 0 A) (F0 m 94 ls [.int t_32]) := by
      intro t_32 H locs ls iv_33 hP hD hS hl
      have hz_t_32 := iv_33
      refine W.widen (k := 0) (n := 0) (Nat.le_of_ble_eq_true rfl) (Nat.le_of_ble_eq_true rfl) ?_
      exact W.zret (v := t_32) hx hb hr (nz hz_t_32) (fun t9 ht9 hW9 => ⟨⟨_, (), rfl, hz_t_32, ⟨by rw [ht9]; exact hP, hD⟩⟩, hS.F ht9⟩) hS.2.2 dX7_entryPoints_94
    have J_93 : ∀  (H : Heap) (locs : List Loc) (ls : Array Slot), va_P (gD g) cl0 ws H → va_D A ws → va_S A s.heap H locs → lv_has ls 2 [] → W p l e (headSpec (wt yX7_entryPoints cX7_entryPoints 2 (some .boolean)) ({ frames := 2, cells := 0, slots := 0, locals := 42 })).room s m ([.ref h0, .int x1] : List Value).toArray below meth c H locs 0 0 (MQ below (va_Qi (fun (r : Int32) (u9 : Unit) => r = 0 ∨ r = 1) (gQ0 g A ws) A) ([.ref h0, .int x1] : List Value).toArray s 0 0 A) (F0 m 93 ls []) := by
      intro  H locs ls  hP hD hS hl
      refine lv_iconst (v := 0) hx hb dX7_entryPoints_93 (by decide) ?_
      exact J_94 (0) H locs ls (Or.inl rfl) hP hD hS (lv_sub hl [] rfl)
    refine lv_icmp_ne (tgt := 93) hx hb dX7_entryPoints_73 (by decide) (fun c_38 => ?_) (fun c_38 => ?_)
    · exact J_93  H locs ls  hP hD hS (lv_sub hl [] rfl)
    · refine lv_aload_n hx hb dX7_entryPoints_76 rfl (lv_at hl 0 rfl) ?_
      refine lv_aload_n hx hb dX7_entryPoints_77 rfl (lv_at hl 0 rfl) ?_
      refine lv_iload_n hx hb dX7_entryPoints_78 rfl (lv_at hl 1 rfl) ?_
      have hFc := gfree hD hS hA
      obtain ⟨k_39, fs_39, hk_39⟩ := gC_of o_h0
      refine va_calli (va_runV (As := [.int x1]) (rest := [.ref h0]) ⟨hx, hb, hml, hown, hts⟩ (m_X7_secondOf l g H.size ws h0 (x1) hG o_h0) (cwV 1 hts (gd_V kw_1315 kw_1432 kw_1433 kw_710 kw_1431) rfl rfl rfl (by decide +kernel) ⟨Nat.le_of_ble_eq_true rfl, Nat.le_of_ble_eq_true rfl⟩) ⟨gblind, va_recv hK hP (ci := 6) (q0 := k_39) rfl hk_39, fun U hU hW9 => gmk hU hW9 hP hK hD hex hE hS hFc⟩ rfl rfl hl.1 rfl (lv_room (Nat.le_of_ble_eq_true rfl)) dX7_entryPoints_79 ⟨Nat.le_of_ble_eq_true rfl, Nat.le_of_ble_eq_true rfl⟩) hS (fun q _ h => hFc q h) hFc (fun r_40 u9 t9 H1 locs ht9 hvm9 hw9 hB9 hz9 hk9 hS => ?_)
      have hP : va_P (gD g) cl0 ws H1 := by rw [← ht9]; exact hB9.1
      have h_r_40 := hw9
      clear hB9 hz9 hk9 hvm9 ht9 hw9
      generalize H1 = H at hP hS ⊢
      have hFc := gfree hD hS hA
      obtain ⟨k_41, fs_41, hk_41⟩ := gC_of o_h0
      refine va_calli (va_runV (As := [.int r_40]) (rest := []) ⟨hx, hb, hml, hown, hts⟩ (m_X7_tagOf l g H.size ws h0 (r_40) hG o_h0) (cwV 1 hts (gd_V kw_1313 kw_1435 kw_1436 kw_710 kw_1434) rfl rfl rfl (by decide +kernel) ⟨Nat.le_of_ble_eq_true rfl, Nat.le_of_ble_eq_true rfl⟩) ⟨gblind, va_recv hK hP (ci := 6) (q0 := k_41) rfl hk_41, fun U hU hW9 => gmk hU hW9 hP hK hD hex hE hS hFc⟩ rfl rfl hl.1 rfl (lv_room (Nat.le_of_ble_eq_true rfl)) dX7_entryPoints_82 ⟨Nat.le_of_ble_eq_true rfl, Nat.le_of_ble_eq_true rfl⟩) hS (fun q _ h => hFc q h) hFc (fun r_42 u9 t9 H1 locs ht9 hvm9 hw9 hB9 hz9 hk9 hS => ?_)
      have hP : va_P (gD g) cl0 ws H1 := by rw [← ht9]; exact hB9.1
      clear hB9 hz9 hk9 hvm9 ht9 hw9
      generalize H1 = H at hP hS ⊢
      refine lv_iconst (v := 1) hx hb dX7_entryPoints_85 (by decide) ?_
      refine lv_icmp_ne (tgt := 93) hx hb dX7_entryPoints_86 (by decide) (fun c_43 => ?_) (fun c_43 => ?_)
      · exact J_93  H locs ls  hP hD hS (lv_sub hl [] rfl)
      · refine lv_iconst (v := 1) hx hb dX7_entryPoints_89 (by decide) ?_
        refine lv_goto (tgt := 94) hx hb dX7_entryPoints_90 (by decide) ?_
        exact J_94 (1) H locs ls (Or.inr rfl) hP hD hS (lv_sub hl [] rfl)
  rcases Classical.em ((r_2 : Int32).toInt < 7 ∨ 12 < (r_2 : Int32).toInt) with c9 | c9
  · exact lv_tableOut (tgt := 129) hx hb dX7_entryPoints_5 c9 (by decide) K_5_129
  · rcases (show (r_2 : Int32).toInt = 7 ∨ (r_2 : Int32).toInt = 8 ∨ (r_2 : Int32).toInt = 9 ∨ (r_2 : Int32).toInt = 10 ∨ (r_2 : Int32).toInt = 11 ∨ (r_2 : Int32).toInt = 12 by omega) with c9 | c9 | c9 | c9 | c9 | c9
    · exact lv_tableIn (off := 39) (tgt := 44) hx hb dX7_entryPoints_5 (by rw [c9]; decide) (by rw [c9]; decide) (by rw [c9]; rfl) (by decide) K_5_44
    · exact lv_tableIn (off := 124) (tgt := 129) hx hb dX7_entryPoints_5 (by rw [c9]; decide) (by rw [c9]; decide) (by rw [c9]; rfl) (by decide) K_5_129
    · exact lv_tableIn (off := 90) (tgt := 95) hx hb dX7_entryPoints_5 (by rw [c9]; decide) (by rw [c9]; decide) (by rw [c9]; rfl) (by decide) K_5_95
    · exact lv_tableIn (off := 90) (tgt := 95) hx hb dX7_entryPoints_5 (by rw [c9]; decide) (by rw [c9]; decide) (by rw [c9]; rfl) (by decide) K_5_95
    · exact lv_tableIn (off := 124) (tgt := 129) hx hb dX7_entryPoints_5 (by rw [c9]; decide) (by rw [c9]; decide) (by rw [c9]; rfl) (by decide) K_5_129
    · exact lv_tableIn (off := 58) (tgt := 63) hx hb dX7_entryPoints_5 (by rw [c9]; decide) (by rw [c9]; decide) (by rw [c9]; rfl) (by decide) K_5_63
set_option maxHeartbeats 1000000 in
set_option maxRecDepth 100000 in
theorem m_X7_memberPlace (l : Launch) (g : Gm) (sz : Nat) (ws : va_W) (h0 : Nat) (x1 : Int32) (hG : Good g ws) (o_h0 : gC ws h0 6) : Met l yX7_memberPlace (wt yX7_memberPlace cX7_memberPlace 2 (some .int)) ({ frames := 0, cells := 0, slots := 0, locals := 0 }) (va_Pc [.ref h0, .int x1] (st_G g sz ws)) (va_Qi (fun (r : Int32) (u9 : Unit) => True) (gQ0 g (va_A ws sz) ws) (va_A ws sz)) 0 0 (va_A ws sz) := by
  refine Met.ofW (cc := cX7_memberPlace) (maxL := 2) (ret := (some .int)) (by decide) rfl ?_
  intro p e s m args below meth c s₁ B hml hv
  obtain ⟨rfl, hsz, hP, hK, hD0, hex, hE⟩ := hv
  have hx := B.exec
  have hb := B.bytes
  have hr := B.returns
  have hts0 := atoms_spec (ws := wt yX7_memberPlace cX7_memberPlace 2 (some .int)) B.pre
  have hts : ∀ w ∈ tb, w.before _ s = true := fun w h => hts0 w (List.mem_cons_of_mem _ h)
  have hown : s.vm.findClass RX7 = some m.cls := findClass_of_methodNamed B.named
  subst hsz
  have hD := hD0.self (sz := s.heap.size)
  generalize hAe : va_A ws s.heap.size = A at hD hE ⊢
  have hA : ∀ q : Nat, s.heap.size ≤ q → A q := fun q h => by rw [← hAe]; exact Or.inr h
  have hS : va_S A s.heap s.heap [] := va_S.rf
  have hl := lv_entry ([.ref h0, .int x1]) (n := 2) (Nat.le_of_ble_eq_true rfl)
  rw [lg_entry_eq]
  generalize (lg_sl ([.ref h0, .int x1]) ++ List.replicate (2 - (lg_sl ([.ref h0, .int x1])).length) Slot.unset).toArray = ls at hl ⊢
  have hl : lv_has ls 2 [(0, .ref h0), (1, .int x1)] := hl
  refine lv_iload_n hx hb dX7_memberPlace_0 rfl (lv_at hl 1 rfl) ?_
  have J_23 : ∀ (t_1 : Int32) (H : Heap) (locs : List Loc) (ls : Array Slot), va_P (gD g) cl0 ws H → va_D A ws → va_S A s.heap H locs → lv_has ls 2 [] → W p l e (headSpec (wt yX7_memberPlace cX7_memberPlace 2 (some .int)) ({ frames := 0, cells := 0, slots := 0, locals := 0 })).room s m ([.ref h0, .int x1] : List Value).toArray below meth c H locs 0 0 (MQ below (va_Qi (fun (r : Int32) (u9 : Unit) => True) (gQ0 g A ws) A) ([.ref h0, .int x1] : List Value).toArray s 0 0 A) (F0 m 23 ls [.int t_1]) := by
    intro t_1 H locs ls  hP hD hS hl
    refine W.widen (k := 0) (n := 0) (Nat.le_of_ble_eq_true rfl) (Nat.le_of_ble_eq_true rfl) ?_
    exact W.iret (v := t_1) hx hb hr (fun t9 ht9 hW9 => ⟨⟨_, (), rfl, trivial, ⟨by rw [ht9]; exact hP, hD⟩⟩, hS.F ht9⟩) hS.2.2 dX7_memberPlace_23
  have J_13 : ∀  (H : Heap) (locs : List Loc) (ls : Array Slot), va_P (gD g) cl0 ws H → va_D A ws → va_S A s.heap H locs → lv_has ls 2 [] → W p l e (headSpec (wt yX7_memberPlace cX7_memberPlace 2 (some .int)) ({ frames := 0, cells := 0, slots := 0, locals := 0 })).room s m ([.ref h0, .int x1] : List Value).toArray below meth c H locs 0 0 (MQ below (va_Qi (fun (r : Int32) (u9 : Unit) => True) (gQ0 g A ws) A) ([.ref h0, .int x1] : List Value).toArray s 0 0 A) (F0 m 13 ls []) := by
    intro  H locs ls  hP hD hS hl
    refine lv_iconst (v := 0) hx hb dX7_memberPlace_13 (by decide) ?_
    refine lv_goto (tgt := 23) hx hb dX7_memberPlace_14 (by decide) ?_
    exact J_23 (0) H locs ls  hP hD hS (lv_sub hl [] rfl)
  refine lv_if_lt (tgt := 13) hx hb dX7_memberPlace_1 (by decide) (fun c_6 => ?_) (fun c_6 => ?_)
  · exact J_13  _ _ ls  hP hD hS (lv_sub hl [] rfl)
  · refine lv_iload_n hx hb dX7_memberPlace_4 rfl (lv_at hl 1 rfl) ?_
    refine lv_aload_n hx hb dX7_memberPlace_5 rfl (lv_at hl 0 rfl) ?_
    obtain ⟨k_7, fs9, hk_7⟩ := gC_of o_h0
    obtain ⟨r0_7, n0_7, c1_7, c2_7, c3_7, r4_7, n4_7, c5_7, c6_7, c7_7, c8_7, r9_7, n9_7, r10_7, n10_7, r11_7, n11_7, c12_7, c13_7, c14_7, c15_7, c16_7, rfl, a_r0_7, f1_7, a_r4_7, f3_7, a_r9_7, f5_7, a_r10_7, f7_7, a_r11_7, f9_7, f10_7, f11_7, f12_7, f13_7, f14_7, -⟩ := (hG.1 _ _ _ _ hk_7).hX7 rfl
    refine va_get (D := gD g) (ci := 6) (v := .ref r9_7) (C := RX7) (T := TX7) (N := 17) hx hb hts inX7 hown hK hP k_7 hk_7 rfl 9 (by decide) (hts _ kw_1342) (fun _ h9 => h9) rfl dX7_memberPlace_6 ?_
    obtain ⟨k_8, f_8, hk_8⟩ := gI_of a_r9_7
    obtain ⟨z_9, ez_9⟩ : ∃ z : Int32, Int32.ofNat n9_7 = z := ⟨_, rfl⟩
    refine va_alen (v := z_9) hx hb hK hP k_8 1 hk_8 rfl ez_9 dX7_memberPlace_9 ?_
    refine lv_icmp_lt (tgt := 17) hx hb dX7_memberPlace_10 (by decide) (fun c_10 => ?_) (fun c_10 => ?_)
    · refine lv_aload_n hx hb dX7_memberPlace_17 rfl (lv_at hl 0 rfl) ?_
      refine va_get (D := gD g) (ci := 6) (v := .ref r9_7) (C := RX7) (T := TX7) (N := 17) hx hb hts inX7 hown hK hP k_7 hk_7 rfl 9 (by decide) (hts _ kw_1342) (fun _ h9 => h9) rfl dX7_memberPlace_18 ?_
      refine lv_iload_n hx hb dX7_memberPlace_21 rfl (lv_at hl 1 rfl) ?_
      refine va_iald hx hb hK hP k_8 1 hk_8 rfl (i_in2 (by have e0 : (0 : Int32).toInt = 0 := (by decide); have q_c_6 := i_nlt c_6; have q_f5_7 := f5_7; have q_f12_7 := f12_7; have q_z_9 := i_len ez_9 f5_7; have q_c_10 := i_lt c_10; have g_x1 := i_rg x1; have g_z_9 := i_rg z_9; omega)) dX7_memberPlace_22 ?_
      refine lv_topi (fun z_11 ez_11 => ?_)
      exact J_23 (z_11) _ _ ls  hP hD hS (lv_sub hl [] rfl)
    · exact J_13  _ _ ls  hP hD hS (lv_sub hl [] rfl)
set_option maxHeartbeats 1000000 in
set_option maxRecDepth 100000 in
theorem m_X7_nameOf (l : Launch) (g : Gm) (sz : Nat) (ws : va_W) (h0 : Nat) (x1 : Int32) (hG : Good g ws) (o_h0 : gC ws h0 6) : Met l yX7_nameOf (wt yX7_nameOf cX7_nameOf 2 (some .int)) ({ frames := 1, cells := 0, slots := 0, locals := 21 }) (va_Pc [.ref h0, .int x1] (st_G g sz ws)) (va_Qi (fun (r : Int32) (u9 : Unit) => True) (gQ0 g (va_A ws sz) ws) (va_A ws sz)) 0 0 (va_A ws sz) := by
  refine Met.ofW (cc := cX7_nameOf) (maxL := 2) (ret := (some .int)) (by decide) rfl ?_
  intro p e s m args below meth c s₁ B hml hv
  obtain ⟨rfl, hsz, hP, hK, hD0, hex, hE⟩ := hv
  have hx := B.exec
  have hb := B.bytes
  have hr := B.returns
  have hts0 := atoms_spec (ws := wt yX7_nameOf cX7_nameOf 2 (some .int)) B.pre
  have hts : ∀ w ∈ tb, w.before _ s = true := fun w h => hts0 w (List.mem_cons_of_mem _ h)
  have hown : s.vm.findClass RX7 = some m.cls := findClass_of_methodNamed B.named
  subst hsz
  have hD := hD0.self (sz := s.heap.size)
  generalize hAe : va_A ws s.heap.size = A at hD hE ⊢
  have hA : ∀ q : Nat, s.heap.size ≤ q → A q := fun q h => by rw [← hAe]; exact Or.inr h
  have hS : va_S A s.heap s.heap [] := va_S.rf
  have hl := lv_entry ([.ref h0, .int x1]) (n := 2) (Nat.le_of_ble_eq_true rfl)
  rw [lg_entry_eq]
  generalize (lg_sl ([.ref h0, .int x1]) ++ List.replicate (2 - (lg_sl ([.ref h0, .int x1])).length) Slot.unset).toArray = ls at hl ⊢
  have hl : lv_has ls 2 [(0, .ref h0), (1, .int x1)] := hl
  refine lv_aload_n hx hb dX7_nameOf_0 rfl (lv_at hl 0 rfl) ?_
  refine lv_aload_n hx hb dX7_nameOf_1 rfl (lv_at hl 0 rfl) ?_
  refine lv_iload_n hx hb dX7_nameOf_2 rfl (lv_at hl 1 rfl) ?_
  have hFc := gfree hD hS hA
  obtain ⟨k_1, fs_1, hk_1⟩ := gC_of o_h0
  refine va_calli (va_runV (As := [.int x1]) (rest := [.ref h0]) ⟨hx, hb, hml, hown, hts⟩ (m_X7_memberPlace l g s.heap.size ws h0 (x1) hG o_h0) (cwV 1 hts (gd_V kw_1288 kw_1394 kw_1395 kw_710 kw_1393) rfl rfl rfl (by decide +kernel) ⟨Nat.le_of_ble_eq_true rfl, Nat.le_of_ble_eq_true rfl⟩) ⟨gblind, va_recv hK hP (ci := 6) (q0 := k_1) rfl hk_1, fun U hU hW9 => gmk hU hW9 hP hK hD hex hE hS hFc⟩ rfl rfl hl.1 rfl (lv_room (Nat.le_of_ble_eq_true rfl)) dX7_nameOf_3 ⟨Nat.le_of_ble_eq_true rfl, Nat.le_of_ble_eq_true rfl⟩) hS (fun q _ h => hFc q h) hFc (fun r_2 u9 t9 H1 locs ht9 hvm9 hw9 hB9 hz9 hk9 hS => ?_)
  have hP : va_P (gD g) cl0 ws H1 := by rw [← ht9]; exact hB9.1
  clear hB9 hz9 hk9 hvm9 ht9 hw9
  generalize H1 = H at hP hS ⊢
  refine lv_iconst (v := 2) hx hb dX7_nameOf_6 (by decide) ?_
  refine lv_iadd hx hb dX7_nameOf_7 ?_
  refine lv_topi (fun z_3 ez_3 => ?_)
  have hFc := gfree hD hS hA
  obtain ⟨k_4, fs_4, hk_4⟩ := gC_of o_h0
  refine va_calli (va_runV (As := [.int z_3]) (rest := []) ⟨hx, hb, hml, hown, hts⟩ (m_X7_u2 l g H.size ws h0 (z_3) hG o_h0) (cwV 1 hts (gd_V kw_1266 kw_1450 kw_1451 kw_710 kw_1449) rfl rfl rfl (by decide +kernel) ⟨Nat.le_of_ble_eq_true rfl, Nat.le_of_ble_eq_true rfl⟩) ⟨gblind, va_recv hK hP (ci := 6) (q0 := k_4) rfl hk_4, fun U hU hW9 => gmk hU hW9 hP hK hD hex hE hS hFc⟩ rfl rfl hl.1 rfl (lv_room (Nat.le_of_ble_eq_true rfl)) dX7_nameOf_8 ⟨Nat.le_of_ble_eq_true rfl, Nat.le_of_ble_eq_true rfl⟩) hS (fun q _ h => hFc q h) hFc (fun r_5 u9 t9 H1 locs ht9 hvm9 hw9 hB9 hz9 hk9 hS => ?_)
  have hP : va_P (gD g) cl0 ws H1 := by rw [← ht9]; exact hB9.1
  have h_r_5 := hw9
  clear hB9 hz9 hk9 hvm9 ht9 hw9
  generalize H1 = H at hP hS ⊢
  refine W.widen (k := 0) (n := 0) (Nat.le_of_ble_eq_true rfl) (Nat.le_of_ble_eq_true rfl) ?_
  exact W.iret (v := r_5) hx hb hr (fun t9 ht9 hW9 => ⟨⟨_, (), rfl, trivial, ⟨by rw [ht9]; exact hP, hD⟩⟩, hS.F ht9⟩) hS.2.2 dX7_nameOf_11
set_option maxHeartbeats 1000000 in
set_option maxRecDepth 100000 in
theorem m_X7_typeOf (l : Launch) (g : Gm) (sz : Nat) (ws : va_W) (h0 : Nat) (x1 : Int32) (hG : Good g ws) (o_h0 : gC ws h0 6) : Met l yX7_typeOf (wt yX7_typeOf cX7_typeOf 2 (some .int)) ({ frames := 1, cells := 0, slots := 0, locals := 21 }) (va_Pc [.ref h0, .int x1] (st_G g sz ws)) (va_Qi (fun (r : Int32) (u9 : Unit) => True) (gQ0 g (va_A ws sz) ws) (va_A ws sz)) 0 0 (va_A ws sz) := by
  refine Met.ofW (cc := cX7_typeOf) (maxL := 2) (ret := (some .int)) (by decide) rfl ?_
  intro p e s m args below meth c s₁ B hml hv
  obtain ⟨rfl, hsz, hP, hK, hD0, hex, hE⟩ := hv
  have hx := B.exec
  have hb := B.bytes
  have hr := B.returns
  have hts0 := atoms_spec (ws := wt yX7_typeOf cX7_typeOf 2 (some .int)) B.pre
  have hts : ∀ w ∈ tb, w.before _ s = true := fun w h => hts0 w (List.mem_cons_of_mem _ h)
  have hown : s.vm.findClass RX7 = some m.cls := findClass_of_methodNamed B.named
  subst hsz
  have hD := hD0.self (sz := s.heap.size)
  generalize hAe : va_A ws s.heap.size = A at hD hE ⊢
  have hA : ∀ q : Nat, s.heap.size ≤ q → A q := fun q h => by rw [← hAe]; exact Or.inr h
  have hS : va_S A s.heap s.heap [] := va_S.rf
  have hl := lv_entry ([.ref h0, .int x1]) (n := 2) (Nat.le_of_ble_eq_true rfl)
  rw [lg_entry_eq]
  generalize (lg_sl ([.ref h0, .int x1]) ++ List.replicate (2 - (lg_sl ([.ref h0, .int x1])).length) Slot.unset).toArray = ls at hl ⊢
  have hl : lv_has ls 2 [(0, .ref h0), (1, .int x1)] := hl
  refine lv_aload_n hx hb dX7_typeOf_0 rfl (lv_at hl 0 rfl) ?_
  refine lv_aload_n hx hb dX7_typeOf_1 rfl (lv_at hl 0 rfl) ?_
  refine lv_iload_n hx hb dX7_typeOf_2 rfl (lv_at hl 1 rfl) ?_
  have hFc := gfree hD hS hA
  obtain ⟨k_1, fs_1, hk_1⟩ := gC_of o_h0
  refine va_calli (va_runV (As := [.int x1]) (rest := [.ref h0]) ⟨hx, hb, hml, hown, hts⟩ (m_X7_memberPlace l g s.heap.size ws h0 (x1) hG o_h0) (cwV 1 hts (gd_V kw_1288 kw_1394 kw_1395 kw_710 kw_1393) rfl rfl rfl (by decide +kernel) ⟨Nat.le_of_ble_eq_true rfl, Nat.le_of_ble_eq_true rfl⟩) ⟨gblind, va_recv hK hP (ci := 6) (q0 := k_1) rfl hk_1, fun U hU hW9 => gmk hU hW9 hP hK hD hex hE hS hFc⟩ rfl rfl hl.1 rfl (lv_room (Nat.le_of_ble_eq_true rfl)) dX7_typeOf_3 ⟨Nat.le_of_ble_eq_true rfl, Nat.le_of_ble_eq_true rfl⟩) hS (fun q _ h => hFc q h) hFc (fun r_2 u9 t9 H1 locs ht9 hvm9 hw9 hB9 hz9 hk9 hS => ?_)
  have hP : va_P (gD g) cl0 ws H1 := by rw [← ht9]; exact hB9.1
  clear hB9 hz9 hk9 hvm9 ht9 hw9
  generalize H1 = H at hP hS ⊢
  refine lv_iconst (v := 4) hx hb dX7_typeOf_6 (by decide) ?_
  refine lv_iadd hx hb dX7_typeOf_7 ?_
  refine lv_topi (fun z_3 ez_3 => ?_)
  have hFc := gfree hD hS hA
  obtain ⟨k_4, fs_4, hk_4⟩ := gC_of o_h0
  refine va_calli (va_runV (As := [.int z_3]) (rest := []) ⟨hx, hb, hml, hown, hts⟩ (m_X7_u2 l g H.size ws h0 (z_3) hG o_h0) (cwV 1 hts (gd_V kw_1266 kw_1450 kw_1451 kw_710 kw_1449) rfl rfl rfl (by decide +kernel) ⟨Nat.le_of_ble_eq_true rfl, Nat.le_of_ble_eq_true rfl⟩) ⟨gblind, va_recv hK hP (ci := 6) (q0 := k_4) rfl hk_4, fun U hU hW9 => gmk hU hW9 hP hK hD hex hE hS hFc⟩ rfl rfl hl.1 rfl (lv_room (Nat.le_of_ble_eq_true rfl)) dX7_typeOf_8 ⟨Nat.le_of_ble_eq_true rfl, Nat.le_of_ble_eq_true rfl⟩) hS (fun q _ h => hFc q h) hFc (fun r_5 u9 t9 H1 locs ht9 hvm9 hw9 hB9 hz9 hk9 hS => ?_)
  have hP : va_P (gD g) cl0 ws H1 := by rw [← ht9]; exact hB9.1
  have h_r_5 := hw9
  clear hB9 hz9 hk9 hvm9 ht9 hw9
  generalize H1 = H at hP hS ⊢
  refine W.widen (k := 0) (n := 0) (Nat.le_of_ble_eq_true rfl) (Nat.le_of_ble_eq_true rfl) ?_
  exact W.iret (v := r_5) hx hb hr (fun t9 ht9 hW9 => ⟨⟨_, (), rfl, trivial, ⟨by rw [ht9]; exact hP, hD⟩⟩, hS.F ht9⟩) hS.2.2 dX7_typeOf_11
set_option maxHeartbeats 1000000 in
set_option maxRecDepth 100000 in
theorem m_X7_flagsHold (l : Launch) (g : Gm) (sz : Nat) (ws : va_W) (h0 : Nat) (hG : Good g ws) (o_h0 : gC ws h0 6) : Met l yX7_flagsHold (wt yX7_flagsHold cX7_flagsHold 2 (some .boolean)) ({ frames := 1, cells := 0, slots := 0, locals := 22 }) (va_Pc [.ref h0] (st_G g sz ws)) (va_Qi (fun (r : Int32) (u9 : va_W) => r = 0 ∨ r = 1) (gQ1 g [(6, 2), (6, 3)] (va_A ws sz) ws) (va_A ws sz)) 0 0 (va_A ws sz) := by
  refine Met.ofW (cc := cX7_flagsHold) (maxL := 2) (ret := (some .boolean)) (by decide) rfl ?_
  intro p e s m args below meth c s₁ B hml hv
  obtain ⟨rfl, hsz, hP, hK, hD0, hex, hE⟩ := hv
  have hx := B.exec
  have hb := B.bytes
  have hr := B.returns
  have hts0 := atoms_spec (ws := wt yX7_flagsHold cX7_flagsHold 2 (some .boolean)) B.pre
  have hts : ∀ w ∈ tb, w.before _ s = true := fun w h => hts0 w (List.mem_cons_of_mem _ h)
  have hown : s.vm.findClass RX7 = some m.cls := findClass_of_methodNamed B.named
  subst hsz
  have hD := hD0.self (sz := s.heap.size)
  generalize hAe : va_A ws s.heap.size = A at hD hE ⊢
  have hA : ∀ q : Nat, s.heap.size ≤ q → A q := fun q h => by rw [← hAe]; exact Or.inr h
  have hS : va_S A s.heap s.heap [] := va_S.rf
  have hl := lv_entry ([.ref h0]) (n := 2) (Nat.le_of_ble_eq_true rfl)
  rw [lg_entry_eq]
  generalize (lg_sl ([.ref h0]) ++ List.replicate (2 - (lg_sl ([.ref h0])).length) Slot.unset).toArray = ls at hl ⊢
  have hl : lv_has ls 2 [(0, .ref h0)] := hl
  refine lv_aload_n hx hb dX7_flagsHold_0 rfl (lv_at hl 0 rfl) ?_
  refine lv_aload_n hx hb dX7_flagsHold_1 rfl (lv_at hl 0 rfl) ?_
  obtain ⟨k_1, fs9, hk_1⟩ := gC_of o_h0
  obtain ⟨r0_1, n0_1, c1_1, c2_1, c3_1, r4_1, n4_1, c5_1, c6_1, c7_1, c8_1, r9_1, n9_1, r10_1, n10_1, r11_1, n11_1, c12_1, c13_1, c14_1, c15_1, c16_1, rfl, a_r0_1, f1_1, a_r4_1, f3_1, a_r9_1, f5_1, a_r10_1, f7_1, a_r11_1, f9_1, f10_1, f11_1, f12_1, f13_1, f14_1, -⟩ := (hG.1 _ _ _ _ hk_1).hX7 rfl
  refine va_get (D := gD g) (ci := 6) (v := .int c6_1) (C := RX7) (T := TX7) (N := 17) hx hb hts inX7 hown hK hP k_1 hk_1 rfl 6 (by decide) (hts _ kw_1331) (fun _ h9 => h9) rfl dX7_flagsHold_2 ?_
  have hFc := gfree hD hS hA
  refine va_calli (va_runV (As := [.int c6_1]) (rest := []) ⟨hx, hb, hml, hown, hts⟩ (m_X7_u2 l g s.heap.size ws h0 (c6_1) hG o_h0) (cwV 1 hts (gd_V kw_1266 kw_1450 kw_1451 kw_710 kw_1449) rfl rfl rfl (by decide +kernel) ⟨Nat.le_of_ble_eq_true rfl, Nat.le_of_ble_eq_true rfl⟩) ⟨gblind, va_recv hK hP (ci := 6) (q0 := k_1) rfl hk_1, fun U hU hW9 => gmk hU hW9 hP hK hD hex hE hS hFc⟩ rfl rfl hl.1 rfl (lv_room (Nat.le_of_ble_eq_true rfl)) dX7_flagsHold_5 ⟨Nat.le_of_ble_eq_true rfl, Nat.le_of_ble_eq_true rfl⟩) hS (fun q _ h => hFc q h) hFc (fun r_2 u9 t9 H1 locs ht9 hvm9 hw9 hB9 hz9 hk9 hS => ?_)
  have hP : va_P (gD g) cl0 ws H1 := by rw [← ht9]; exact hB9.1
  have h_r_2 := hw9
  clear hB9 hz9 hk9 hvm9 ht9 hw9
  generalize H1 = H at hP hS ⊢
  refine lv_bipush (v := 33) hx hb dX7_flagsHold_8 (by decide) ?_
  refine lv_icmp_eq (tgt := 24) hx hb dX7_flagsHold_10 (by decide) (fun c_3 => ?_) (fun c_3 => ?_)
  · refine lv_iconst (v := 0) hx hb dX7_flagsHold_24 (by decide) ?_
    refine lv_istore_n (lv' := [(1, .int 0), (0, .ref h0)]) hx hb dX7_flagsHold_25 rfl hl (by decide) rfl (fun ls hl => ?_)
    have J_26 : ∀ (n9 : Nat) (v1_4 : Int32) (H : Heap) (locs : List Loc) (ls : Array Slot), (2147483647 - v1_4.toInt).toNat = n9 → 0 ≤ v1_4.toInt → va_P (gD g) cl0 ws H → va_D A ws → va_S A s.heap H locs → lv_has ls 2 [(0, .ref h0), (1, .int v1_4)] → W p l e (headSpec (wt yX7_flagsHold cX7_flagsHold 2 (some .boolean)) ({ frames := 1, cells := 0, slots := 0, locals := 22 })).room s m ([.ref h0] : List Value).toArray below meth c H locs 0 0 (MQ below (va_Qi (fun (r : Int32) (u9 : va_W) => r = 0 ∨ r = 1) (gQ1 g [(6, 2), (6, 3)] A ws) A) ([.ref h0] : List Value).toArray s 0 0 A) (F0 m 26 ls []) := by
      intro n9
      induction n9 using Nat.strongRecOn with
      | ind n9 ih_26 =>
        intro v1_4 H locs ls hm9 iv_5 hP hD hS hl
        subst hm9
        refine lv_iload_n hx hb dX7_flagsHold_26 rfl (lv_at hl 1 rfl) ?_
        refine lv_aload_n hx hb dX7_flagsHold_27 rfl (lv_at hl 0 rfl) ?_
        refine va_get (D := gD g) (ci := 6) (v := .int c7_1) (C := RX7) (T := TX7) (N := 17) hx hb hts inX7 hown hK hP k_1 hk_1 rfl 7 (by decide) (hts _ kw_1287) (fun _ h9 => h9) rfl dX7_flagsHold_28 ?_
        refine lv_aload_n hx hb dX7_flagsHold_31 rfl (lv_at hl 0 rfl) ?_
        refine va_get (D := gD g) (ci := 6) (v := .int c8_1) (C := RX7) (T := TX7) (N := 17) hx hb hts inX7 hown hK hP k_1 hk_1 rfl 8 (by decide) (hts _ kw_1285) (fun _ h9 => h9) rfl dX7_flagsHold_32 ?_
        refine lv_iadd hx hb dX7_flagsHold_35 ?_
        refine lv_topi (fun z_8 ez_8 => ?_)
        refine lv_icmp_ge (tgt := 71) hx hb dX7_flagsHold_36 (by decide) (fun c_9 => ?_) (fun c_9 => ?_)
        · refine lv_iconst (v := 1) hx hb dX7_flagsHold_71 (by decide) ?_
          refine W.widen (k := 0) (n := 0) (Nat.le_of_ble_eq_true rfl) (Nat.le_of_ble_eq_true rfl) ?_
          exact W.zret (v := 1) hx hb hr (nz (Or.inr rfl)) (fun t9 ht9 hW9 => ⟨⟨_, ws, rfl, (Or.inr rfl), ⟨gE.rf, gF.rf, hG, by rw [ht9]; exact hP, hD⟩⟩, hS.F ht9⟩) hS.2.2 dX7_flagsHold_72
        · refine lv_aload_n hx hb dX7_flagsHold_39 rfl (lv_at hl 0 rfl) ?_
          refine lv_aload_n hx hb dX7_flagsHold_40 rfl (lv_at hl 0 rfl) ?_
          refine lv_iload_n hx hb dX7_flagsHold_41 rfl (lv_at hl 1 rfl) ?_
          have hFc := gfree hD hS hA
          refine va_calli (va_runV (As := [.int v1_4]) (rest := [.ref h0]) ⟨hx, hb, hml, hown, hts⟩ (m_X7_memberPlace l g H.size ws h0 (v1_4) hG o_h0) (cwV 1 hts (gd_V kw_1288 kw_1394 kw_1395 kw_710 kw_1393) rfl rfl rfl (by decide +kernel) ⟨Nat.le_of_ble_eq_true rfl, Nat.le_of_ble_eq_true rfl⟩) ⟨gblind, va_recv hK hP (ci := 6) (q0 := k_1) rfl hk_1, fun U hU hW9 => gmk hU hW9 hP hK hD hex hE hS hFc⟩ rfl rfl hl.1 rfl (lv_room (Nat.le_of_ble_eq_true rfl)) dX7_flagsHold_42 ⟨Nat.le_of_ble_eq_true rfl, Nat.le_of_ble_eq_true rfl⟩) hS (fun q _ h => hFc q h) hFc (fun r_10 u9 t9 H1 locs ht9 hvm9 hw9 hB9 hz9 hk9 hS => ?_)
          have hP : va_P (gD g) cl0 ws H1 := by rw [← ht9]; exact hB9.1
          clear hB9 hz9 hk9 hvm9 ht9 hw9
          generalize H1 = H at hP hS ⊢
          have hFc := gfree hD hS hA
          refine va_calli (va_runV (As := [.int r_10]) (rest := []) ⟨hx, hb, hml, hown, hts⟩ (m_X7_u2 l g H.size ws h0 (r_10) hG o_h0) (cwV 1 hts (gd_V kw_1266 kw_1450 kw_1451 kw_710 kw_1449) rfl rfl rfl (by decide +kernel) ⟨Nat.le_of_ble_eq_true rfl, Nat.le_of_ble_eq_true rfl⟩) ⟨gblind, va_recv hK hP (ci := 6) (q0 := k_1) rfl hk_1, fun U hU hW9 => gmk hU hW9 hP hK hD hex hE hS hFc⟩ rfl rfl hl.1 rfl (lv_room (Nat.le_of_ble_eq_true rfl)) dX7_flagsHold_45 ⟨Nat.le_of_ble_eq_true rfl, Nat.le_of_ble_eq_true rfl⟩) hS (fun q _ h => hFc q h) hFc (fun r_11 u9 t9 H1 locs ht9 hvm9 hw9 hB9 hz9 hk9 hS => ?_)
          have hP : va_P (gD g) cl0 ws H1 := by rw [← ht9]; exact hB9.1
          have h_r_11 := hw9
          clear hB9 hz9 hk9 hvm9 ht9 hw9
          generalize H1 = H at hP hS ⊢
          refine lv_bipush (v := 9) hx hb dX7_flagsHold_48 (by decide) ?_
          refine lv_icmp_eq (tgt := 65) hx hb dX7_flagsHold_50 (by decide) (fun c_12 => ?_) (fun c_12 => ?_)
          · obtain ⟨z_13, ez_13⟩ : ∃ z : Int32, v1_4 + Int32.ofInt 1 = z := ⟨_, rfl⟩
            refine lv_iinc (v := z_13) (lv' := [(1, .int z_13), (0, .ref h0)]) hx hb dX7_flagsHold_65 hl (k := 1) rfl ez_13 (by decide) rfl (fun ls hl => ?_)
            refine lv_goto (tgt := 26) hx hb dX7_flagsHold_68 (by decide) ?_
            exact ih_26 _ (by obtain ⟨u_z_13, q_z_13⟩ := i_iz ez_13 (by decide) (by decide); have q_iv_5 := iv_5; have q_c_9 := i_nle c_9; have g_v1_4 := i_rg v1_4; have g_z_13 := i_rg z_13; have g_z_8 := i_rg z_8; omega) (z_13) H locs ls rfl (by obtain ⟨u_z_13, q_z_13⟩ := i_iz ez_13 (by decide) (by decide); have q_iv_5 := iv_5; have q_c_9 := i_nle c_9; have g_v1_4 := i_rg v1_4; have g_z_13 := i_rg z_13; have g_z_8 := i_rg z_8; omega) hP hD hS (lv_sub hl [1, 0] rfl)
          · refine lv_aload_n hx hb dX7_flagsHold_53 rfl (lv_at hl 0 rfl) ?_
            refine lv_bipush (v := 7) hx hb dX7_flagsHold_54 (by decide) ?_
            refine lv_aload_n hx hb dX7_flagsHold_56 rfl (lv_at hl 0 rfl) ?_
            refine lv_iload_n hx hb dX7_flagsHold_57 rfl (lv_at hl 1 rfl) ?_
            have hFc := gfree hD hS hA
            refine va_calli (va_runV (As := [.int v1_4]) (rest := [.int 7, .ref h0]) ⟨hx, hb, hml, hown, hts⟩ (m_X7_memberPlace l g H.size ws h0 (v1_4) hG o_h0) (cwV 1 hts (gd_V kw_1288 kw_1394 kw_1395 kw_710 kw_1393) rfl rfl rfl (by decide +kernel) ⟨Nat.le_of_ble_eq_true rfl, Nat.le_of_ble_eq_true rfl⟩) ⟨gblind, va_recv hK hP (ci := 6) (q0 := k_1) rfl hk_1, fun U hU hW9 => gmk hU hW9 hP hK hD hex hE hS hFc⟩ rfl rfl hl.1 rfl (lv_room (Nat.le_of_ble_eq_true rfl)) dX7_flagsHold_58 ⟨Nat.le_of_ble_eq_true rfl, Nat.le_of_ble_eq_true rfl⟩) hS (fun q _ h => hFc q h) hFc (fun r_14 u9 t9 H1 locs ht9 hvm9 hw9 hB9 hz9 hk9 hS => ?_)
            have hP : va_P (gD g) cl0 ws H1 := by rw [← ht9]; exact hB9.1
            clear hB9 hz9 hk9 hvm9 ht9 hw9
            generalize H1 = H at hP hS ⊢
            have hFc := gfree hD hS hA
            refine va_calli (va_runV (As := [.int 7, .int r_14]) (rest := []) ⟨hx, hb, hml, hown, hts⟩ (m_X7_breaks l g H.size ws h0 (7) (r_14) hG o_h0) (cwV 2 hts (gd_V kw_1276 kw_1278 kw_1279 kw_710 kw_1277) rfl rfl rfl (by decide +kernel) ⟨Nat.le_of_ble_eq_true rfl, Nat.le_of_ble_eq_true rfl⟩) ⟨gblind, va_recv hK hP (ci := 6) (q0 := k_1) rfl hk_1, fun U hU hW9 => gmk hU hW9 hP hK hD hex hE hS hFc⟩ rfl rfl hl.1 rfl (lv_room (Nat.le_of_ble_eq_true rfl)) dX7_flagsHold_61 ⟨Nat.le_of_ble_eq_true rfl, Nat.le_of_ble_eq_true rfl⟩) hS (fun q _ h => hFc q h) hFc (fun r_15 ws_16 t9 H1 locs ht9 hvm9 hw9 hB9 hz9 hk9 hS => ?_)
            obtain ⟨E_17, Fr_18, hG, hP1, hD1⟩ := hB9
            have hP : va_P (gD g) cl0 ws_16 H1 := by rw [← ht9]; exact hP1
            have hD : va_D A ws_16 := hD1.weaken (fun _ _ _ h => hFc _ h)
            have hz_r_15 : r_15 = 0 ∨ r_15 = 1 := hw9
            clear hP1 hD1 hz9 hk9 hvm9 ht9 hw9
            generalize H1 = H at hP hS ⊢
            have aa_19 := a_r0_1
            have aa_20 := a_r4_1
            have aa_21 := a_r9_1
            have aa_22 := a_r10_1
            have aa_23 := a_r11_1
            have o_h0 := E_17 _ _ o_h0
            refine W.widen (k := 0) (n := 0) (Nat.le_of_ble_eq_true rfl) (Nat.le_of_ble_eq_true rfl) ?_
            exact W.zret (v := r_15) hx hb hr (nz hz_r_15) (fun t9 ht9 hW9 => ⟨⟨_, ws_16, rfl, hz_r_15, ⟨E_17, Fr_18, hG, by rw [ht9]; exact hP, hD⟩⟩, hS.F ht9⟩) hS.2.2 dX7_flagsHold_64
    exact J_26 _ (0) H locs ls rfl (by have e0 : (0 : Int32).toInt = 0 := (by decide); omega) hP hD hS (lv_sub hl [1, 0] rfl)
  · refine lv_aload_n hx hb dX7_flagsHold_13 rfl (lv_at hl 0 rfl) ?_
    refine lv_bipush (v := 7) hx hb dX7_flagsHold_14 (by decide) ?_
    refine lv_aload_n hx hb dX7_flagsHold_16 rfl (lv_at hl 0 rfl) ?_
    refine va_get (D := gD g) (ci := 6) (v := .int c6_1) (C := RX7) (T := TX7) (N := 17) hx hb hts inX7 hown hK hP k_1 hk_1 rfl 6 (by decide) (hts _ kw_1331) (fun _ h9 => h9) rfl dX7_flagsHold_17 ?_
    have hFc := gfree hD hS hA
    refine va_calli (va_runV (As := [.int 7, .int c6_1]) (rest := []) ⟨hx, hb, hml, hown, hts⟩ (m_X7_breaks l g H.size ws h0 (7) (c6_1) hG o_h0) (cwV 2 hts (gd_V kw_1276 kw_1278 kw_1279 kw_710 kw_1277) rfl rfl rfl (by decide +kernel) ⟨Nat.le_of_ble_eq_true rfl, Nat.le_of_ble_eq_true rfl⟩) ⟨gblind, va_recv hK hP (ci := 6) (q0 := k_1) rfl hk_1, fun U hU hW9 => gmk hU hW9 hP hK hD hex hE hS hFc⟩ rfl rfl hl.1 rfl (lv_room (Nat.le_of_ble_eq_true rfl)) dX7_flagsHold_20 ⟨Nat.le_of_ble_eq_true rfl, Nat.le_of_ble_eq_true rfl⟩) hS (fun q _ h => hFc q h) hFc (fun r_24 ws_25 t9 H1 locs ht9 hvm9 hw9 hB9 hz9 hk9 hS => ?_)
    obtain ⟨E_26, Fr_27, hG, hP1, hD1⟩ := hB9
    have hP : va_P (gD g) cl0 ws_25 H1 := by rw [← ht9]; exact hP1
    have hD : va_D A ws_25 := hD1.weaken (fun _ _ _ h => hFc _ h)
    have hz_r_24 : r_24 = 0 ∨ r_24 = 1 := hw9
    clear hP1 hD1 hz9 hk9 hvm9 ht9 hw9
    generalize H1 = H at hP hS ⊢
    have aa_28 := a_r0_1
    have aa_29 := a_r4_1
    have aa_30 := a_r9_1
    have aa_31 := a_r10_1
    have aa_32 := a_r11_1
    have o_h0 := E_26 _ _ o_h0
    refine W.widen (k := 0) (n := 0) (Nat.le_of_ble_eq_true rfl) (Nat.le_of_ble_eq_true rfl) ?_
    exact W.zret (v := r_24) hx hb hr (nz hz_r_24) (fun t9 ht9 hW9 => ⟨⟨_, ws_25, rfl, hz_r_24, ⟨E_26, Fr_27, hG, by rw [ht9]; exact hP, hD⟩⟩, hS.F ht9⟩) hS.2.2 dX7_flagsHold_23
set_option maxHeartbeats 1000000 in
set_option maxRecDepth 100000 in
theorem m_X7_headHolds (l : Launch) (g : Gm) (sz : Nat) (ws : va_W) (h0 : Nat) (hG : Good g ws) (o_h0 : gC ws h0 6) : Met l yX7_headHolds (wt yX7_headHolds cX7_headHolds 1 (some .boolean)) ({ frames := 2, cells := 0, slots := 0, locals := 42 }) (va_Pc [.ref h0] (st_G g sz ws)) (va_Qi (fun (r : Int32) (u9 : va_W) => r = 0 ∨ r = 1) (gQ1 g [(6, 2), (6, 3)] (va_A ws sz) ws) (va_A ws sz)) 0 0 (va_A ws sz) := by
  refine Met.ofW (cc := cX7_headHolds) (maxL := 1) (ret := (some .boolean)) (by decide) rfl ?_
  intro p e s m args below meth c s₁ B hml hv
  obtain ⟨rfl, hsz, hP, hK, hD0, hex, hE⟩ := hv
  have hx := B.exec
  have hb := B.bytes
  have hr := B.returns
  have hts0 := atoms_spec (ws := wt yX7_headHolds cX7_headHolds 1 (some .boolean)) B.pre
  have hts : ∀ w ∈ tb, w.before _ s = true := fun w h => hts0 w (List.mem_cons_of_mem _ h)
  have hown : s.vm.findClass RX7 = some m.cls := findClass_of_methodNamed B.named
  subst hsz
  have hD := hD0.self (sz := s.heap.size)
  generalize hAe : va_A ws s.heap.size = A at hD hE ⊢
  have hA : ∀ q : Nat, s.heap.size ≤ q → A q := fun q h => by rw [← hAe]; exact Or.inr h
  have hS : va_S A s.heap s.heap [] := va_S.rf
  have hl := lv_entry ([.ref h0]) (n := 1) (Nat.le_of_ble_eq_true rfl)
  rw [lg_entry_eq]
  generalize (lg_sl ([.ref h0]) ++ List.replicate (1 - (lg_sl ([.ref h0])).length) Slot.unset).toArray = ls at hl ⊢
  have hl : lv_has ls 1 [(0, .ref h0)] := hl
  refine lv_aload_n hx hb dX7_headHolds_0 rfl (lv_at hl 0 rfl) ?_
  refine lv_aload_n hx hb dX7_headHolds_1 rfl (lv_at hl 0 rfl) ?_
  refine lv_aload_n hx hb dX7_headHolds_2 rfl (lv_at hl 0 rfl) ?_
  obtain ⟨k_1, fs9, hk_1⟩ := gC_of o_h0
  obtain ⟨r0_1, n0_1, c1_1, c2_1, c3_1, r4_1, n4_1, c5_1, c6_1, c7_1, c8_1, r9_1, n9_1, r10_1, n10_1, r11_1, n11_1, c12_1, c13_1, c14_1, c15_1, c16_1, rfl, a_r0_1, f1_1, a_r4_1, f3_1, a_r9_1, f5_1, a_r10_1, f7_1, a_r11_1, f9_1, f10_1, f11_1, f12_1, f13_1, f14_1, -⟩ := (hG.1 _ _ _ _ hk_1).hX7 rfl
  refine va_get (D := gD g) (ci := 6) (v := .int c6_1) (C := RX7) (T := TX7) (N := 17) hx hb hts inX7 hown hK hP k_1 hk_1 rfl 6 (by decide) (hts _ kw_1331) (fun _ h9 => h9) rfl dX7_headHolds_3 ?_
  refine lv_iconst (v := 2) hx hb dX7_headHolds_6 (by decide) ?_
  refine lv_iadd hx hb dX7_headHolds_7 ?_
  refine lv_topi (fun z_2 ez_2 => ?_)
  have hFc := gfree hD hS hA
  refine va_calli (va_runV (As := [.int z_2]) (rest := [.ref h0]) ⟨hx, hb, hml, hown, hts⟩ (m_X7_u2 l g s.heap.size ws h0 (z_2) hG o_h0) (cwV 1 hts (gd_V kw_1266 kw_1450 kw_1451 kw_710 kw_1449) rfl rfl rfl (by decide +kernel) ⟨Nat.le_of_ble_eq_true rfl, Nat.le_of_ble_eq_true rfl⟩) ⟨gblind, va_recv hK hP (ci := 6) (q0 := k_1) rfl hk_1, fun U hU hW9 => gmk hU hW9 hP hK hD hex hE hS hFc⟩ rfl rfl hl.1 rfl (lv_room (Nat.le_of_ble_eq_true rfl)) dX7_headHolds_8 ⟨Nat.le_of_ble_eq_true rfl, Nat.le_of_ble_eq_true rfl⟩) hS (fun q _ h => hFc q h) hFc (fun r_3 u9 t9 H1 locs ht9 hvm9 hw9 hB9 hz9 hk9 hS => ?_)
  have hP : va_P (gD g) cl0 ws H1 := by rw [← ht9]; exact hB9.1
  have h_r_3 := hw9
  clear hB9 hz9 hk9 hvm9 ht9 hw9
  generalize H1 = H at hP hS ⊢
  have hFc := gfree hD hS hA
  refine va_calli (va_runV (As := [.int r_3]) (rest := []) ⟨hx, hb, hml, hown, hts⟩ (m_X7_tagOf l g H.size ws h0 (r_3) hG o_h0) (cwV 1 hts (gd_V kw_1313 kw_1435 kw_1436 kw_710 kw_1434) rfl rfl rfl (by decide +kernel) ⟨Nat.le_of_ble_eq_true rfl, Nat.le_of_ble_eq_true rfl⟩) ⟨gblind, va_recv hK hP (ci := 6) (q0 := k_1) rfl hk_1, fun U hU hW9 => gmk hU hW9 hP hK hD hex hE hS hFc⟩ rfl rfl hl.1 rfl (lv_room (Nat.le_of_ble_eq_true rfl)) dX7_headHolds_11 ⟨Nat.le_of_ble_eq_true rfl, Nat.le_of_ble_eq_true rfl⟩) hS (fun q _ h => hFc q h) hFc (fun r_4 u9 t9 H1 locs ht9 hvm9 hw9 hB9 hz9 hk9 hS => ?_)
  have hP : va_P (gD g) cl0 ws H1 := by rw [← ht9]; exact hB9.1
  clear hB9 hz9 hk9 hvm9 ht9 hw9
  generalize H1 = H at hP hS ⊢
  refine lv_bipush (v := 7) hx hb dX7_headHolds_14 (by decide) ?_
  refine lv_icmp_eq (tgt := 32) hx hb dX7_headHolds_16 (by decide) (fun c_5 => ?_) (fun c_5 => ?_)
  · refine lv_aload_n hx hb dX7_headHolds_32 rfl (lv_at hl 0 rfl) ?_
    refine lv_aload_n hx hb dX7_headHolds_33 rfl (lv_at hl 0 rfl) ?_
    refine lv_aload_n hx hb dX7_headHolds_34 rfl (lv_at hl 0 rfl) ?_
    refine va_get (D := gD g) (ci := 6) (v := .int c6_1) (C := RX7) (T := TX7) (N := 17) hx hb hts inX7 hown hK hP k_1 hk_1 rfl 6 (by decide) (hts _ kw_1331) (fun _ h9 => h9) rfl dX7_headHolds_35 ?_
    refine lv_iconst (v := 4) hx hb dX7_headHolds_38 (by decide) ?_
    refine lv_iadd hx hb dX7_headHolds_39 ?_
    refine lv_topi (fun z_6 ez_6 => ?_)
    have hFc := gfree hD hS hA
    refine va_calli (va_runV (As := [.int z_6]) (rest := [.ref h0]) ⟨hx, hb, hml, hown, hts⟩ (m_X7_u2 l g H.size ws h0 (z_6) hG o_h0) (cwV 1 hts (gd_V kw_1266 kw_1450 kw_1451 kw_710 kw_1449) rfl rfl rfl (by decide +kernel) ⟨Nat.le_of_ble_eq_true rfl, Nat.le_of_ble_eq_true rfl⟩) ⟨gblind, va_recv hK hP (ci := 6) (q0 := k_1) rfl hk_1, fun U hU hW9 => gmk hU hW9 hP hK hD hex hE hS hFc⟩ rfl rfl hl.1 rfl (lv_room (Nat.le_of_ble_eq_true rfl)) dX7_headHolds_40 ⟨Nat.le_of_ble_eq_true rfl, Nat.le_of_ble_eq_true rfl⟩) hS (fun q _ h => hFc q h) hFc (fun r_7 u9 t9 H1 locs ht9 hvm9 hw9 hB9 hz9 hk9 hS => ?_)
    have hP : va_P (gD g) cl0 ws H1 := by rw [← ht9]; exact hB9.1
    have h_r_7 := hw9
    clear hB9 hz9 hk9 hvm9 ht9 hw9
    generalize H1 = H at hP hS ⊢
    have hFc := gfree hD hS hA
    refine va_calli (va_runV (As := [.int r_7]) (rest := []) ⟨hx, hb, hml, hown, hts⟩ (m_X7_tagOf l g H.size ws h0 (r_7) hG o_h0) (cwV 1 hts (gd_V kw_1313 kw_1435 kw_1436 kw_710 kw_1434) rfl rfl rfl (by decide +kernel) ⟨Nat.le_of_ble_eq_true rfl, Nat.le_of_ble_eq_true rfl⟩) ⟨gblind, va_recv hK hP (ci := 6) (q0 := k_1) rfl hk_1, fun U hU hW9 => gmk hU hW9 hP hK hD hex hE hS hFc⟩ rfl rfl hl.1 rfl (lv_room (Nat.le_of_ble_eq_true rfl)) dX7_headHolds_43 ⟨Nat.le_of_ble_eq_true rfl, Nat.le_of_ble_eq_true rfl⟩) hS (fun q _ h => hFc q h) hFc (fun r_8 u9 t9 H1 locs ht9 hvm9 hw9 hB9 hz9 hk9 hS => ?_)
    have hP : va_P (gD g) cl0 ws H1 := by rw [← ht9]; exact hB9.1
    clear hB9 hz9 hk9 hvm9 ht9 hw9
    generalize H1 = H at hP hS ⊢
    refine lv_bipush (v := 7) hx hb dX7_headHolds_46 (by decide) ?_
    refine lv_icmp_eq (tgt := 64) hx hb dX7_headHolds_48 (by decide) (fun c_9 => ?_) (fun c_9 => ?_)
    · refine lv_aload_n hx hb dX7_headHolds_64 rfl (lv_at hl 0 rfl) ?_
      refine lv_aload_n hx hb dX7_headHolds_65 rfl (lv_at hl 0 rfl) ?_
      refine va_get (D := gD g) (ci := 6) (v := .int c6_1) (C := RX7) (T := TX7) (N := 17) hx hb hts inX7 hown hK hP k_1 hk_1 rfl 6 (by decide) (hts _ kw_1331) (fun _ h9 => h9) rfl dX7_headHolds_66 ?_
      refine lv_bipush (v := 6) hx hb dX7_headHolds_69 (by decide) ?_
      refine lv_iadd hx hb dX7_headHolds_71 ?_
      refine lv_topi (fun z_10 ez_10 => ?_)
      have hFc := gfree hD hS hA
      refine va_calli (va_runV (As := [.int z_10]) (rest := []) ⟨hx, hb, hml, hown, hts⟩ (m_X7_u2 l g H.size ws h0 (z_10) hG o_h0) (cwV 1 hts (gd_V kw_1266 kw_1450 kw_1451 kw_710 kw_1449) rfl rfl rfl (by decide +kernel) ⟨Nat.le_of_ble_eq_true rfl, Nat.le_of_ble_eq_true rfl⟩) ⟨gblind, va_recv hK hP (ci := 6) (q0 := k_1) rfl hk_1, fun U hU hW9 => gmk hU hW9 hP hK hD hex hE hS hFc⟩ rfl rfl hl.1 rfl (lv_room (Nat.le_of_ble_eq_true rfl)) dX7_headHolds_72 ⟨Nat.le_of_ble_eq_true rfl, Nat.le_of_ble_eq_true rfl⟩) hS (fun q _ h => hFc q h) hFc (fun r_11 u9 t9 H1 locs ht9 hvm9 hw9 hB9 hz9 hk9 hS => ?_)
      have hP : va_P (gD g) cl0 ws H1 := by rw [← ht9]; exact hB9.1
      have h_r_11 := hw9
      clear hB9 hz9 hk9 hvm9 ht9 hw9
      generalize H1 = H at hP hS ⊢
      have J_99 : ∀ (t_12 : Int32) (ws_14 : va_W) (H : Heap) (locs : List Loc) (ls : Array Slot), t_12 = 0 ∨ t_12 = 1 → gE ws ws_14 → gF [(6, 2), (6, 3)] ws ws_14 → Good g ws_14 → va_P (gD g) cl0 ws_14 H → va_D A ws_14 → va_S A s.heap H locs → lv_has ls 1 [] → W p l e (headSpec (wt yX7_headHolds cX7_headHolds 1 (some .boolean)) ({ frames := 2, cells := 0, slots := 0, locals := 42 })).room s m ([.ref h0] : List Value).toArray below meth c H locs 0 0 (MQ below (va_Qi (fun (r : Int32) (u9 : va_W) => r = 0 ∨ r = 1) (gQ1 g [(6, 2), (6, 3)] A ws) A) ([.ref h0] : List Value).toArray s 0 0 A) (F0 m 99 ls [.int t_12]) := by
        intro t_12 ws_14 H locs ls iv_13 E_15 Fr_16 hG hP hD hS hl
        have hz_t_12 := iv_13
        have aa_17 := a_r0_1
        have aa_18 := a_r4_1
        have aa_19 := a_r9_1
        have aa_20 := a_r10_1
        have aa_21 := a_r11_1
        have o_h0 := E_15 _ _ o_h0
        refine W.widen (k := 0) (n := 0) (Nat.le_of_ble_eq_true rfl) (Nat.le_of_ble_eq_true rfl) ?_
        exact W.zret (v := t_12) hx hb hr (nz hz_t_12) (fun t9 ht9 hW9 => ⟨⟨_, ws_14, rfl, hz_t_12, ⟨E_15, Fr_16, hG, by rw [ht9]; exact hP, hD⟩⟩, hS.F ht9⟩) hS.2.2 dX7_headHolds_99
      have J_94 : ∀ (ws_22 : va_W) (H : Heap) (locs : List Loc) (ls : Array Slot), gE ws ws_22 → gF [(6, 2), (6, 3)] ws ws_22 → Good g ws_22 → va_P (gD g) cl0 ws_22 H → va_D A ws_22 → va_S A s.heap H locs → lv_has ls 1 [] → W p l e (headSpec (wt yX7_headHolds cX7_headHolds 1 (some .boolean)) ({ frames := 2, cells := 0, slots := 0, locals := 42 })).room s m ([.ref h0] : List Value).toArray below meth c H locs 0 0 (MQ below (va_Qi (fun (r : Int32) (u9 : va_W) => r = 0 ∨ r = 1) (gQ1 g [(6, 2), (6, 3)] A ws) A) ([.ref h0] : List Value).toArray s 0 0 A) (F0 m 94 ls []) := by
        intro ws_22 H locs ls  E_23 Fr_24 hG hP hD hS hl
        have aa_25 := a_r0_1
        have aa_26 := a_r4_1
        have aa_27 := a_r9_1
        have aa_28 := a_r10_1
        have aa_29 := a_r11_1
        have o_h0 := E_23 _ _ o_h0
        refine lv_iconst (v := 1) hx hb dX7_headHolds_94 (by decide) ?_
        refine lv_goto (tgt := 99) hx hb dX7_headHolds_95 (by decide) ?_
        exact J_99 (1) ws_22 H locs ls (Or.inr rfl) (E_23) (Fr_24) hG hP hD hS (lv_sub hl [] rfl)
      refine lv_if_eq (tgt := 94) hx hb dX7_headHolds_75 (by decide) (fun c_30 => ?_) (fun c_30 => ?_)
      · exact J_94 ws H locs ls (gE.rf) (gF.rf) hG hP hD hS (lv_sub hl [] rfl)
      · refine lv_aload_n hx hb dX7_headHolds_78 rfl (lv_at hl 0 rfl) ?_
        refine lv_bipush (v := 8) hx hb dX7_headHolds_79 (by decide) ?_
        refine lv_aload_n hx hb dX7_headHolds_81 rfl (lv_at hl 0 rfl) ?_
        refine va_get (D := gD g) (ci := 6) (v := .int c6_1) (C := RX7) (T := TX7) (N := 17) hx hb hts inX7 hown hK hP k_1 hk_1 rfl 6 (by decide) (hts _ kw_1331) (fun _ h9 => h9) rfl dX7_headHolds_82 ?_
        refine lv_bipush (v := 6) hx hb dX7_headHolds_85 (by decide) ?_
        refine lv_iadd hx hb dX7_headHolds_87 ?_
        refine lv_topi (fun z_31 ez_31 => ?_)
        have hFc := gfree hD hS hA
        refine va_calli (va_runV (As := [.int 8, .int z_31]) (rest := []) ⟨hx, hb, hml, hown, hts⟩ (m_X7_breaks l g H.size ws h0 (8) (z_31) hG o_h0) (cwV 2 hts (gd_V kw_1276 kw_1278 kw_1279 kw_710 kw_1277) rfl rfl rfl (by decide +kernel) ⟨Nat.le_of_ble_eq_true rfl, Nat.le_of_ble_eq_true rfl⟩) ⟨gblind, va_recv hK hP (ci := 6) (q0 := k_1) rfl hk_1, fun U hU hW9 => gmk hU hW9 hP hK hD hex hE hS hFc⟩ rfl rfl hl.1 rfl (lv_room (Nat.le_of_ble_eq_true rfl)) dX7_headHolds_88 ⟨Nat.le_of_ble_eq_true rfl, Nat.le_of_ble_eq_true rfl⟩) hS (fun q _ h => hFc q h) hFc (fun r_32 ws_33 t9 H1 locs ht9 hvm9 hw9 hB9 hz9 hk9 hS => ?_)
        obtain ⟨E_34, Fr_35, hG, hP1, hD1⟩ := hB9
        have hP : va_P (gD g) cl0 ws_33 H1 := by rw [← ht9]; exact hP1
        have hD : va_D A ws_33 := hD1.weaken (fun _ _ _ h => hFc _ h)
        have hz_r_32 : r_32 = 0 ∨ r_32 = 1 := hw9
        clear hP1 hD1 hz9 hk9 hvm9 ht9 hw9
        generalize H1 = H at hP hS ⊢
        have aa_36 := a_r0_1
        have aa_37 := a_r4_1
        have aa_38 := a_r9_1
        have aa_39 := a_r10_1
        have aa_40 := a_r11_1
        have o_h0 := E_34 _ _ o_h0
        refine lv_if_eq (tgt := 98) hx hb dX7_headHolds_91 (by decide) (fun c_41 => ?_) (fun c_41 => ?_)
        · refine lv_iconst (v := 0) hx hb dX7_headHolds_98 (by decide) ?_
          exact J_99 (0) ws_33 H locs ls (Or.inl rfl) (E_34) (Fr_35) hG hP hD hS (lv_sub hl [] rfl)
        · exact J_94 ws_33 H locs ls (E_34) (Fr_35) hG hP hD hS (lv_sub hl [] rfl)
    · refine lv_aload_n hx hb dX7_headHolds_51 rfl (lv_at hl 0 rfl) ?_
      refine lv_bipush (v := 8) hx hb dX7_headHolds_52 (by decide) ?_
      refine lv_aload_n hx hb dX7_headHolds_54 rfl (lv_at hl 0 rfl) ?_
      refine va_get (D := gD g) (ci := 6) (v := .int c6_1) (C := RX7) (T := TX7) (N := 17) hx hb hts inX7 hown hK hP k_1 hk_1 rfl 6 (by decide) (hts _ kw_1331) (fun _ h9 => h9) rfl dX7_headHolds_55 ?_
      refine lv_iconst (v := 4) hx hb dX7_headHolds_58 (by decide) ?_
      refine lv_iadd hx hb dX7_headHolds_59 ?_
      refine lv_topi (fun z_42 ez_42 => ?_)
      have hFc := gfree hD hS hA
      refine va_calli (va_runV (As := [.int 8, .int z_42]) (rest := []) ⟨hx, hb, hml, hown, hts⟩ (m_X7_breaks l g H.size ws h0 (8) (z_42) hG o_h0) (cwV 2 hts (gd_V kw_1276 kw_1278 kw_1279 kw_710 kw_1277) rfl rfl rfl (by decide +kernel) ⟨Nat.le_of_ble_eq_true rfl, Nat.le_of_ble_eq_true rfl⟩) ⟨gblind, va_recv hK hP (ci := 6) (q0 := k_1) rfl hk_1, fun U hU hW9 => gmk hU hW9 hP hK hD hex hE hS hFc⟩ rfl rfl hl.1 rfl (lv_room (Nat.le_of_ble_eq_true rfl)) dX7_headHolds_60 ⟨Nat.le_of_ble_eq_true rfl, Nat.le_of_ble_eq_true rfl⟩) hS (fun q _ h => hFc q h) hFc (fun r_43 ws_44 t9 H1 locs ht9 hvm9 hw9 hB9 hz9 hk9 hS => ?_)
      obtain ⟨E_45, Fr_46, hG, hP1, hD1⟩ := hB9
      have hP : va_P (gD g) cl0 ws_44 H1 := by rw [← ht9]; exact hP1
      have hD : va_D A ws_44 := hD1.weaken (fun _ _ _ h => hFc _ h)
      have hz_r_43 : r_43 = 0 ∨ r_43 = 1 := hw9
      clear hP1 hD1 hz9 hk9 hvm9 ht9 hw9
      generalize H1 = H at hP hS ⊢
      have aa_47 := a_r0_1
      have aa_48 := a_r4_1
      have aa_49 := a_r9_1
      have aa_50 := a_r10_1
      have aa_51 := a_r11_1
      have o_h0 := E_45 _ _ o_h0
      refine W.widen (k := 0) (n := 0) (Nat.le_of_ble_eq_true rfl) (Nat.le_of_ble_eq_true rfl) ?_
      exact W.zret (v := r_43) hx hb hr (nz hz_r_43) (fun t9 ht9 hW9 => ⟨⟨_, ws_44, rfl, hz_r_43, ⟨E_45, Fr_46, hG, by rw [ht9]; exact hP, hD⟩⟩, hS.F ht9⟩) hS.2.2 dX7_headHolds_63
  · refine lv_aload_n hx hb dX7_headHolds_19 rfl (lv_at hl 0 rfl) ?_
    refine lv_bipush (v := 8) hx hb dX7_headHolds_20 (by decide) ?_
    refine lv_aload_n hx hb dX7_headHolds_22 rfl (lv_at hl 0 rfl) ?_
    refine va_get (D := gD g) (ci := 6) (v := .int c6_1) (C := RX7) (T := TX7) (N := 17) hx hb hts inX7 hown hK hP k_1 hk_1 rfl 6 (by decide) (hts _ kw_1331) (fun _ h9 => h9) rfl dX7_headHolds_23 ?_
    refine lv_iconst (v := 2) hx hb dX7_headHolds_26 (by decide) ?_
    refine lv_iadd hx hb dX7_headHolds_27 ?_
    refine lv_topi (fun z_52 ez_52 => ?_)
    have hFc := gfree hD hS hA
    refine va_calli (va_runV (As := [.int 8, .int z_52]) (rest := []) ⟨hx, hb, hml, hown, hts⟩ (m_X7_breaks l g H.size ws h0 (8) (z_52) hG o_h0) (cwV 2 hts (gd_V kw_1276 kw_1278 kw_1279 kw_710 kw_1277) rfl rfl rfl (by decide +kernel) ⟨Nat.le_of_ble_eq_true rfl, Nat.le_of_ble_eq_true rfl⟩) ⟨gblind, va_recv hK hP (ci := 6) (q0 := k_1) rfl hk_1, fun U hU hW9 => gmk hU hW9 hP hK hD hex hE hS hFc⟩ rfl rfl hl.1 rfl (lv_room (Nat.le_of_ble_eq_true rfl)) dX7_headHolds_28 ⟨Nat.le_of_ble_eq_true rfl, Nat.le_of_ble_eq_true rfl⟩) hS (fun q _ h => hFc q h) hFc (fun r_53 ws_54 t9 H1 locs ht9 hvm9 hw9 hB9 hz9 hk9 hS => ?_)
    obtain ⟨E_55, Fr_56, hG, hP1, hD1⟩ := hB9
    have hP : va_P (gD g) cl0 ws_54 H1 := by rw [← ht9]; exact hP1
    have hD : va_D A ws_54 := hD1.weaken (fun _ _ _ h => hFc _ h)
    have hz_r_53 : r_53 = 0 ∨ r_53 = 1 := hw9
    clear hP1 hD1 hz9 hk9 hvm9 ht9 hw9
    generalize H1 = H at hP hS ⊢
    have aa_57 := a_r0_1
    have aa_58 := a_r4_1
    have aa_59 := a_r9_1
    have aa_60 := a_r10_1
    have aa_61 := a_r11_1
    have o_h0 := E_55 _ _ o_h0
    refine W.widen (k := 0) (n := 0) (Nat.le_of_ble_eq_true rfl) (Nat.le_of_ble_eq_true rfl) ?_
    exact W.zret (v := r_53) hx hb hr (nz hz_r_53) (fun t9 ht9 hW9 => ⟨⟨_, ws_54, rfl, hz_r_53, ⟨E_55, Fr_56, hG, by rw [ht9]; exact hP, hD⟩⟩, hS.F ht9⟩) hS.2.2 dX7_headHolds_31
set_option maxHeartbeats 1000000 in
set_option maxRecDepth 100000 in
theorem m_X7_isNameAt (l : Launch) (g : Gm) (sz : Nat) (ws : va_W) (h0 : Nat) (x1 : Int32) (hG : Good g ws) (o_h0 : gC ws h0 6) : Met l yX7_isNameAt (wt yX7_isNameAt cX7_isNameAt 2 (some .boolean)) ({ frames := 2, cells := 0, slots := 0, locals := 42 }) (va_Pc [.ref h0, .int x1] (st_G g sz ws)) (va_Qi (fun (r : Int32) (u9 : va_W) => r = 0 ∨ r = 1) (gQ1 g [(6, 2), (6, 3)] (va_A ws sz) ws) (va_A ws sz)) 0 0 (va_A ws sz) := by
  refine Met.ofW (cc := cX7_isNameAt) (maxL := 2) (ret := (some .boolean)) (by decide) rfl ?_
  intro p e s m args below meth c s₁ B hml hv
  obtain ⟨rfl, hsz, hP, hK, hD0, hex, hE⟩ := hv
  have hx := B.exec
  have hb := B.bytes
  have hr := B.returns
  have hts0 := atoms_spec (ws := wt yX7_isNameAt cX7_isNameAt 2 (some .boolean)) B.pre
  have hts : ∀ w ∈ tb, w.before _ s = true := fun w h => hts0 w (List.mem_cons_of_mem _ h)
  have hown : s.vm.findClass RX7 = some m.cls := findClass_of_methodNamed B.named
  subst hsz
  have hD := hD0.self (sz := s.heap.size)
  generalize hAe : va_A ws s.heap.size = A at hD hE ⊢
  have hA : ∀ q : Nat, s.heap.size ≤ q → A q := fun q h => by rw [← hAe]; exact Or.inr h
  have hS : va_S A s.heap s.heap [] := va_S.rf
  have hl := lv_entry ([.ref h0, .int x1]) (n := 2) (Nat.le_of_ble_eq_true rfl)
  rw [lg_entry_eq]
  generalize (lg_sl ([.ref h0, .int x1]) ++ List.replicate (2 - (lg_sl ([.ref h0, .int x1])).length) Slot.unset).toArray = ls at hl ⊢
  have hl : lv_has ls 2 [(0, .ref h0), (1, .int x1)] := hl
  refine lv_aload_n hx hb dX7_isNameAt_0 rfl (lv_at hl 0 rfl) ?_
  refine lv_aload_n hx hb dX7_isNameAt_1 rfl (lv_at hl 0 rfl) ?_
  refine lv_iload_n hx hb dX7_isNameAt_2 rfl (lv_at hl 1 rfl) ?_
  have hFc := gfree hD hS hA
  obtain ⟨k_1, fs_1, hk_1⟩ := gC_of o_h0
  refine va_calli (va_runV (As := [.int x1]) (rest := [.ref h0]) ⟨hx, hb, hml, hown, hts⟩ (m_X7_u2 l g s.heap.size ws h0 (x1) hG o_h0) (cwV 1 hts (gd_V kw_1266 kw_1450 kw_1451 kw_710 kw_1449) rfl rfl rfl (by decide +kernel) ⟨Nat.le_of_ble_eq_true rfl, Nat.le_of_ble_eq_true rfl⟩) ⟨gblind, va_recv hK hP (ci := 6) (q0 := k_1) rfl hk_1, fun U hU hW9 => gmk hU hW9 hP hK hD hex hE hS hFc⟩ rfl rfl hl.1 rfl (lv_room (Nat.le_of_ble_eq_true rfl)) dX7_isNameAt_3 ⟨Nat.le_of_ble_eq_true rfl, Nat.le_of_ble_eq_true rfl⟩) hS (fun q _ h => hFc q h) hFc (fun r_2 u9 t9 H1 locs ht9 hvm9 hw9 hB9 hz9 hk9 hS => ?_)
  have hP : va_P (gD g) cl0 ws H1 := by rw [← ht9]; exact hB9.1
  have h_r_2 := hw9
  clear hB9 hz9 hk9 hvm9 ht9 hw9
  generalize H1 = H at hP hS ⊢
  have hFc := gfree hD hS hA
  obtain ⟨k_3, fs_3, hk_3⟩ := gC_of o_h0
  refine va_calli (va_runV (As := [.int r_2]) (rest := []) ⟨hx, hb, hml, hown, hts⟩ (m_X7_tagOf l g H.size ws h0 (r_2) hG o_h0) (cwV 1 hts (gd_V kw_1313 kw_1435 kw_1436 kw_710 kw_1434) rfl rfl rfl (by decide +kernel) ⟨Nat.le_of_ble_eq_true rfl, Nat.le_of_ble_eq_true rfl⟩) ⟨gblind, va_recv hK hP (ci := 6) (q0 := k_3) rfl hk_3, fun U hU hW9 => gmk hU hW9 hP hK hD hex hE hS hFc⟩ rfl rfl hl.1 rfl (lv_room (Nat.le_of_ble_eq_true rfl)) dX7_isNameAt_6 ⟨Nat.le_of_ble_eq_true rfl, Nat.le_of_ble_eq_true rfl⟩) hS (fun q _ h => hFc q h) hFc (fun r_4 u9 t9 H1 locs ht9 hvm9 hw9 hB9 hz9 hk9 hS => ?_)
  have hP : va_P (gD g) cl0 ws H1 := by rw [← ht9]; exact hB9.1
  clear hB9 hz9 hk9 hvm9 ht9 hw9
  generalize H1 = H at hP hS ⊢
  refine lv_iconst (v := 1) hx hb dX7_isNameAt_9 (by decide) ?_
  have J_28 : ∀ (t_5 : Int32) (ws_7 : va_W) (H : Heap) (locs : List Loc) (ls : Array Slot), t_5 = 0 ∨ t_5 = 1 → gE ws ws_7 → gF [(6, 2), (6, 3)] ws ws_7 → Good g ws_7 → va_P (gD g) cl0 ws_7 H → va_D A ws_7 → va_S A s.heap H locs → lv_has ls 2 [] → W p l e (headSpec (wt yX7_isNameAt cX7_isNameAt 2 (some .boolean)) ({ frames := 2, cells := 0, slots := 0, locals := 42 })).room s m ([.ref h0, .int x1] : List Value).toArray below meth c H locs 0 0 (MQ below (va_Qi (fun (r : Int32) (u9 : va_W) => r = 0 ∨ r = 1) (gQ1 g [(6, 2), (6, 3)] A ws) A) ([.ref h0, .int x1] : List Value).toArray s 0 0 A) (F0 m 28 ls [.int t_5]) := by
    intro t_5 ws_7 H locs ls iv_6 E_8 Fr_9 hG hP hD hS hl
    have hz_t_5 := iv_6
    have o_h0 := E_8 _ _ o_h0
    refine W.widen (k := 0) (n := 0) (Nat.le_of_ble_eq_true rfl) (Nat.le_of_ble_eq_true rfl) ?_
    exact W.zret (v := t_5) hx hb hr (nz hz_t_5) (fun t9 ht9 hW9 => ⟨⟨_, ws_7, rfl, hz_t_5, ⟨E_8, Fr_9, hG, by rw [ht9]; exact hP, hD⟩⟩, hS.F ht9⟩) hS.2.2 dX7_isNameAt_28
  have J_23 : ∀ (ws_10 : va_W) (H : Heap) (locs : List Loc) (ls : Array Slot), gE ws ws_10 → gF [(6, 2), (6, 3)] ws ws_10 → Good g ws_10 → va_P (gD g) cl0 ws_10 H → va_D A ws_10 → va_S A s.heap H locs → lv_has ls 2 [] → W p l e (headSpec (wt yX7_isNameAt cX7_isNameAt 2 (some .boolean)) ({ frames := 2, cells := 0, slots := 0, locals := 42 })).room s m ([.ref h0, .int x1] : List Value).toArray below meth c H locs 0 0 (MQ below (va_Qi (fun (r : Int32) (u9 : va_W) => r = 0 ∨ r = 1) (gQ1 g [(6, 2), (6, 3)] A ws) A) ([.ref h0, .int x1] : List Value).toArray s 0 0 A) (F0 m 23 ls []) := by
    intro ws_10 H locs ls  E_11 Fr_12 hG hP hD hS hl
    have o_h0 := E_11 _ _ o_h0
    refine lv_iconst (v := 1) hx hb dX7_isNameAt_23 (by decide) ?_
    refine lv_goto (tgt := 28) hx hb dX7_isNameAt_24 (by decide) ?_
    exact J_28 (1) ws_10 H locs ls (Or.inr rfl) (E_11) (Fr_12) hG hP hD hS (lv_sub hl [] rfl)
  refine lv_icmp_eq (tgt := 23) hx hb dX7_isNameAt_10 (by decide) (fun c_13 => ?_) (fun c_13 => ?_)
  · exact J_23 ws H locs ls (gE.rf) (gF.rf) hG hP hD hS (lv_sub hl [] rfl)
  · refine lv_aload_n hx hb dX7_isNameAt_13 rfl (lv_at hl 0 rfl) ?_
    refine lv_bipush (v := 9) hx hb dX7_isNameAt_14 (by decide) ?_
    refine lv_iload_n hx hb dX7_isNameAt_16 rfl (lv_at hl 1 rfl) ?_
    have hFc := gfree hD hS hA
    obtain ⟨k_14, fs_14, hk_14⟩ := gC_of o_h0
    refine va_calli (va_runV (As := [.int 9, .int x1]) (rest := []) ⟨hx, hb, hml, hown, hts⟩ (m_X7_breaks l g H.size ws h0 (9) (x1) hG o_h0) (cwV 2 hts (gd_V kw_1276 kw_1278 kw_1279 kw_710 kw_1277) rfl rfl rfl (by decide +kernel) ⟨Nat.le_of_ble_eq_true rfl, Nat.le_of_ble_eq_true rfl⟩) ⟨gblind, va_recv hK hP (ci := 6) (q0 := k_14) rfl hk_14, fun U hU hW9 => gmk hU hW9 hP hK hD hex hE hS hFc⟩ rfl rfl hl.1 rfl (lv_room (Nat.le_of_ble_eq_true rfl)) dX7_isNameAt_17 ⟨Nat.le_of_ble_eq_true rfl, Nat.le_of_ble_eq_true rfl⟩) hS (fun q _ h => hFc q h) hFc (fun r_15 ws_16 t9 H1 locs ht9 hvm9 hw9 hB9 hz9 hk9 hS => ?_)
    obtain ⟨E_17, Fr_18, hG, hP1, hD1⟩ := hB9
    have hP : va_P (gD g) cl0 ws_16 H1 := by rw [← ht9]; exact hP1
    have hD : va_D A ws_16 := hD1.weaken (fun _ _ _ h => hFc _ h)
    have hz_r_15 : r_15 = 0 ∨ r_15 = 1 := hw9
    clear hP1 hD1 hz9 hk9 hvm9 ht9 hw9
    generalize H1 = H at hP hS ⊢
    have o_h0 := E_17 _ _ o_h0
    refine lv_if_eq (tgt := 27) hx hb dX7_isNameAt_20 (by decide) (fun c_19 => ?_) (fun c_19 => ?_)
    · refine lv_iconst (v := 0) hx hb dX7_isNameAt_27 (by decide) ?_
      exact J_28 (0) ws_16 H locs ls (Or.inl rfl) (E_17) (Fr_18) hG hP hD hS (lv_sub hl [] rfl)
    · exact J_23 ws_16 H locs ls (E_17) (Fr_18) hG hP hD hS (lv_sub hl [] rfl)
set_option maxHeartbeats 1000000 in
set_option maxRecDepth 100000 in
theorem m_X7_attributeNamesHold (l : Launch) (g : Gm) (sz : Nat) (ws : va_W) (h0 : Nat) (x1 : Int32) (hG : Good g ws) (o_h0 : gC ws h0 6) : Met l yX7_attributeNamesHold (wt yX7_attributeNamesHold cX7_attributeNamesHold 5 (some .boolean)) ({ frames := 3, cells := 0, slots := 0, locals := 63 }) (va_Pc [.ref h0, .int x1] (st_G g sz ws)) (va_Qi (fun (r : Int32) (u9 : va_W) => r = 0 ∨ r = 1) (gQ1 g [(6, 2), (6, 3)] (va_A ws sz) ws) (va_A ws sz)) 0 0 (va_A ws sz) := by
  refine Met.ofW (cc := cX7_attributeNamesHold) (maxL := 5) (ret := (some .boolean)) (by decide) rfl ?_
  intro p e s m args below meth c s₁ B hml hv
  obtain ⟨rfl, hsz, hP, hK, hD0, hex, hE⟩ := hv
  have hx := B.exec
  have hb := B.bytes
  have hr := B.returns
  have hts0 := atoms_spec (ws := wt yX7_attributeNamesHold cX7_attributeNamesHold 5 (some .boolean)) B.pre
  have hts : ∀ w ∈ tb, w.before _ s = true := fun w h => hts0 w (List.mem_cons_of_mem _ h)
  have hown : s.vm.findClass RX7 = some m.cls := findClass_of_methodNamed B.named
  subst hsz
  have hD := hD0.self (sz := s.heap.size)
  generalize hAe : va_A ws s.heap.size = A at hD hE ⊢
  have hA : ∀ q : Nat, s.heap.size ≤ q → A q := fun q h => by rw [← hAe]; exact Or.inr h
  have hS : va_S A s.heap s.heap [] := va_S.rf
  have hl := lv_entry ([.ref h0, .int x1]) (n := 5) (Nat.le_of_ble_eq_true rfl)
  rw [lg_entry_eq]
  generalize (lg_sl ([.ref h0, .int x1]) ++ List.replicate (5 - (lg_sl ([.ref h0, .int x1])).length) Slot.unset).toArray = ls at hl ⊢
  have hl : lv_has ls 5 [(0, .ref h0), (1, .int x1)] := hl
  refine lv_aload_n hx hb dX7_attributeNamesHold_0 rfl (lv_at hl 0 rfl) ?_
  refine lv_iload_n hx hb dX7_attributeNamesHold_1 rfl (lv_at hl 1 rfl) ?_
  have hFc := gfree hD hS hA
  obtain ⟨k_1, fs_1, hk_1⟩ := gC_of o_h0
  refine va_calli (va_runV (As := [.int x1]) (rest := []) ⟨hx, hb, hml, hown, hts⟩ (m_X7_u2 l g s.heap.size ws h0 (x1) hG o_h0) (cwV 1 hts (gd_V kw_1266 kw_1450 kw_1451 kw_710 kw_1449) rfl rfl rfl (by decide +kernel) ⟨Nat.le_of_ble_eq_true rfl, Nat.le_of_ble_eq_true rfl⟩) ⟨gblind, va_recv hK hP (ci := 6) (q0 := k_1) rfl hk_1, fun U hU hW9 => gmk hU hW9 hP hK hD hex hE hS hFc⟩ rfl rfl hl.1 rfl (lv_room (Nat.le_of_ble_eq_true rfl)) dX7_attributeNamesHold_2 ⟨Nat.le_of_ble_eq_true rfl, Nat.le_of_ble_eq_true rfl⟩) hS (fun q _ h => hFc q h) hFc (fun r_2 u9 t9 H1 locs ht9 hvm9 hw9 hB9 hz9 hk9 hS => ?_)
  have hP : va_P (gD g) cl0 ws H1 := by rw [← ht9]; exact hB9.1
  have h_r_2 := hw9
  clear hB9 hz9 hk9 hvm9 ht9 hw9
  generalize H1 = H at hP hS ⊢
  refine lv_istore_n (lv' := [(2, .int r_2), (0, .ref h0), (1, .int x1)]) hx hb dX7_attributeNamesHold_5 rfl hl (by decide) rfl (fun ls hl => ?_)
  refine lv_iload_n hx hb dX7_attributeNamesHold_6 rfl (lv_at hl 2 rfl) ?_
  refine lv_iconst (v := 2) hx hb dX7_attributeNamesHold_7 (by decide) ?_
  refine lv_iadd hx hb dX7_attributeNamesHold_8 ?_
  refine lv_topi (fun z_3 ez_3 => ?_)
  refine lv_istore_n (lv' := [(3, .int z_3), (2, .int r_2), (0, .ref h0), (1, .int x1)]) hx hb dX7_attributeNamesHold_9 rfl hl (by decide) rfl (fun ls hl => ?_)
  refine lv_iconst (v := 0) hx hb dX7_attributeNamesHold_10 (by decide) ?_
  refine lv_istore (lv' := [(4, .int 0), (3, .int z_3), (2, .int r_2), (0, .ref h0), (1, .int x1)]) hx hb dX7_attributeNamesHold_11 hl (by decide) rfl (fun ls hl => ?_)
  have J_13 : ∀ (n9 : Nat) (v3_4 : Int32) (v4_5 : Int32) (ws_7 : va_W) (H : Heap) (locs : List Loc) (ls : Array Slot), (2147483647 - v4_5.toInt).toNat = n9 → 0 ≤ v4_5.toInt → gE ws ws_7 → gF [(6, 2), (6, 3)] ws ws_7 → Good g ws_7 → va_P (gD g) cl0 ws_7 H → va_D A ws_7 → va_S A s.heap H locs → lv_has ls 5 [(0, .ref h0), (2, .int r_2), (3, .int v3_4), (4, .int v4_5)] → W p l e (headSpec (wt yX7_attributeNamesHold cX7_attributeNamesHold 5 (some .boolean)) ({ frames := 3, cells := 0, slots := 0, locals := 63 })).room s m ([.ref h0, .int x1] : List Value).toArray below meth c H locs 0 0 (MQ below (va_Qi (fun (r : Int32) (u9 : va_W) => r = 0 ∨ r = 1) (gQ1 g [(6, 2), (6, 3)] A ws) A) ([.ref h0, .int x1] : List Value).toArray s 0 0 A) (F0 m 13 ls []) := by
    intro n9
    induction n9 using Nat.strongRecOn with
    | ind n9 ih_13 =>
      intro v3_4 v4_5 ws_7 H locs ls hm9 iv_6 E_8 Fr_9 hG hP hD hS hl
      subst hm9
      have o_h0 := E_8 _ _ o_h0
      refine lv_iload hx hb dX7_attributeNamesHold_13 (lv_at hl 3 rfl) ?_
      refine lv_iload_n hx hb dX7_attributeNamesHold_15 rfl (lv_at hl 1 rfl) ?_
      refine lv_icmp_ge (tgt := 48) hx hb dX7_attributeNamesHold_16 (by decide) (fun c_10 => ?_) (fun c_10 => ?_)
      · refine lv_iconst (v := 1) hx hb dX7_attributeNamesHold_48 (by decide) ?_
        refine W.widen (k := 0) (n := 0) (Nat.le_of_ble_eq_true rfl) (Nat.le_of_ble_eq_true rfl) ?_
        exact W.zret (v := 1) hx hb hr (nz (Or.inr rfl)) (fun t9 ht9 hW9 => ⟨⟨_, ws_7, rfl, (Or.inr rfl), ⟨E_8, Fr_9, hG, by rw [ht9]; exact hP, hD⟩⟩, hS.F ht9⟩) hS.2.2 dX7_attributeNamesHold_49
      · refine lv_aload_n hx hb dX7_attributeNamesHold_19 rfl (lv_at hl 0 rfl) ?_
        refine lv_iload_n hx hb dX7_attributeNamesHold_20 rfl (lv_at hl 2 rfl) ?_
        have hFc := gfree hD hS hA
        obtain ⟨k_11, fs_11, hk_11⟩ := gC_of o_h0
        refine va_calli (va_runV (As := [.int v3_4]) (rest := []) ⟨hx, hb, hml, hown, hts⟩ (m_X7_isNameAt l g H.size ws_7 h0 (v3_4) hG o_h0) (cwV 1 hts (gd_V kw_1267 kw_1353 kw_1354 kw_710 kw_1352) rfl rfl rfl (by decide +kernel) ⟨Nat.le_of_ble_eq_true rfl, Nat.le_of_ble_eq_true rfl⟩) ⟨gblind, va_recv hK hP (ci := 6) (q0 := k_11) rfl hk_11, fun U hU hW9 => gmk hU hW9 hP hK hD hex hE hS hFc⟩ rfl rfl hl.1 rfl (lv_room (Nat.le_of_ble_eq_true rfl)) dX7_attributeNamesHold_21 ⟨Nat.le_of_ble_eq_true rfl, Nat.le_of_ble_eq_true rfl⟩) hS (fun q _ h => hFc q h) hFc (fun r_12 ws_13 t9 H1 locs ht9 hvm9 hw9 hB9 hz9 hk9 hS => ?_)
        obtain ⟨E_14, Fr_15, hG, hP1, hD1⟩ := hB9
        have hP : va_P (gD g) cl0 ws_13 H1 := by rw [← ht9]; exact hP1
        have hD : va_D A ws_13 := hD1.weaken (fun _ _ _ h => hFc _ h)
        have hz_r_12 : r_12 = 0 ∨ r_12 = 1 := hw9
        clear hP1 hD1 hz9 hk9 hvm9 ht9 hw9
        generalize H1 = H at hP hS ⊢
        have o_h0 := E_14 _ _ o_h0
        refine lv_if_ne (tgt := 29) hx hb dX7_attributeNamesHold_24 (by decide) (fun c_16 => ?_) (fun c_16 => ?_)
        · refine lv_iload_n hx hb dX7_attributeNamesHold_29 rfl (lv_at hl 2 rfl) ?_
          refine lv_bipush (v := 6) hx hb dX7_attributeNamesHold_30 (by decide) ?_
          refine lv_aload_n hx hb dX7_attributeNamesHold_32 rfl (lv_at hl 0 rfl) ?_
          refine lv_iload_n hx hb dX7_attributeNamesHold_33 rfl (lv_at hl 2 rfl) ?_
          refine lv_iconst (v := 2) hx hb dX7_attributeNamesHold_34 (by decide) ?_
          refine lv_iadd hx hb dX7_attributeNamesHold_35 ?_
          refine lv_topi (fun z_17 ez_17 => ?_)
          have hFc := gfree hD hS hA
          obtain ⟨k_18, fs_18, hk_18⟩ := gC_of o_h0
          refine va_calli (va_runV (As := [.int z_17]) (rest := [.int 6, .int v3_4]) ⟨hx, hb, hml, hown, hts⟩ (m_X7_s4 l g H.size ws_13 h0 (z_17) hG o_h0) (cwV 1 hts (gd_V kw_1268 kw_1429 kw_1430 kw_710 kw_1428) rfl rfl rfl (by decide +kernel) ⟨Nat.le_of_ble_eq_true rfl, Nat.le_of_ble_eq_true rfl⟩) ⟨gblind, va_recv hK hP (ci := 6) (q0 := k_18) rfl hk_18, fun U hU hW9 => gmk hU hW9 hP hK hD hex hE hS hFc⟩ rfl rfl hl.1 rfl (lv_room (Nat.le_of_ble_eq_true rfl)) dX7_attributeNamesHold_36 ⟨Nat.le_of_ble_eq_true rfl, Nat.le_of_ble_eq_true rfl⟩) hS (fun q _ h => hFc q h) hFc (fun r_19 u9 t9 H1 locs ht9 hvm9 hw9 hB9 hz9 hk9 hS => ?_)
          have hP : va_P (gD g) cl0 ws_13 H1 := by rw [← ht9]; exact hB9.1
          clear hB9 hz9 hk9 hvm9 ht9 hw9
          generalize H1 = H at hP hS ⊢
          refine lv_iadd hx hb dX7_attributeNamesHold_39 ?_
          refine lv_topi (fun z_20 ez_20 => ?_)
          refine lv_iadd hx hb dX7_attributeNamesHold_40 ?_
          refine lv_topi (fun z_21 ez_21 => ?_)
          refine lv_istore_n (lv' := [(3, .int z_21), (0, .ref h0), (2, .int r_2), (4, .int v4_5)]) hx hb dX7_attributeNamesHold_41 rfl hl (by decide) rfl (fun ls hl => ?_)
          obtain ⟨z_22, ez_22⟩ : ∃ z : Int32, v4_5 + Int32.ofInt 1 = z := ⟨_, rfl⟩
          refine lv_iinc (v := z_22) (lv' := [(4, .int z_22), (3, .int z_21), (0, .ref h0), (2, .int r_2)]) hx hb dX7_attributeNamesHold_42 hl (k := 3) rfl ez_22 (by decide) rfl (fun ls hl => ?_)
          refine lv_goto (tgt := 13) hx hb dX7_attributeNamesHold_45 (by decide) ?_
          exact ih_13 _ (by have e2 : (2 : Int32).toInt = 2 := (by decide); have e6 : (6 : Int32).toInt = 6 := (by decide); obtain ⟨u_z_21, q_z_21⟩ := i_add ez_21; obtain ⟨u_z_22, q_z_22⟩ := i_iz ez_22 (by decide) (by decide); have q_iv_6 := iv_6; have q_c_10 := i_nle c_10; obtain ⟨u_z_17, q_z_17⟩ := i_add ez_17; obtain ⟨u_z_20, q_z_20⟩ := i_add ez_20; have g_r_19 := i_rg r_19; have g_r_2 := i_rg r_2; have g_v3_4 := i_rg v3_4; have g_v4_5 := i_rg v4_5; have g_z_17 := i_rg z_17; have g_z_20 := i_rg z_20; have g_z_21 := i_rg z_21; have g_z_22 := i_rg z_22; omega) (z_21) (z_22) ws_13 H locs ls rfl (by obtain ⟨u_z_22, q_z_22⟩ := i_iz ez_22 (by decide) (by decide); have q_iv_6 := iv_6; have q_c_10 := i_nle c_10; have g_r_2 := i_rg r_2; have g_v4_5 := i_rg v4_5; have g_z_22 := i_rg z_22; omega) ((E_8.tr E_14)) ((gF.tr Fr_9 Fr_15)) hG hP hD hS (lv_sub hl [2, 3, 1, 0] rfl)
        · refine lv_iconst (v := 0) hx hb dX7_attributeNamesHold_27 (by decide) ?_
          refine W.widen (k := 0) (n := 0) (Nat.le_of_ble_eq_true rfl) (Nat.le_of_ble_eq_true rfl) ?_
          exact W.zret (v := 0) hx hb hr (nz (Or.inl rfl)) (fun t9 ht9 hW9 => ⟨⟨_, ws_13, rfl, (Or.inl rfl), ⟨(E_8.tr E_14), (gF.tr Fr_9 Fr_15), hG, by rw [ht9]; exact hP, hD⟩⟩, hS.F ht9⟩) hS.2.2 dX7_attributeNamesHold_28
  exact J_13 _ (z_3) (0) ws H locs ls rfl (by have e0 : (0 : Int32).toInt = 0 := (by decide); omega) (gE.rf) (gF.rf) hG hP hD hS (lv_sub hl [3, 2, 1, 0] rfl)
set_option maxHeartbeats 1000000 in
set_option maxRecDepth 100000 in
theorem m_X7_nameLength (l : Launch) (g : Gm) (sz : Nat) (ws : va_W) (h0 : Nat) (x1 : Int32) (hG : Good g ws) (o_h0 : gC ws h0 6) : Met l yX7_nameLength (wt yX7_nameLength cX7_nameLength 2 (some .int)) ({ frames := 1, cells := 0, slots := 0, locals := 21 }) (va_Pc [.ref h0, .int x1] (st_G g sz ws)) (va_Qi (fun (r : Int32) (u9 : Unit) => 0 ≤ r.toInt ∧ r.toInt ≤ 65535) (gQ0 g (va_A ws sz) ws) (va_A ws sz)) 0 0 (va_A ws sz) := by
  refine Met.ofW (cc := cX7_nameLength) (maxL := 2) (ret := (some .int)) (by decide) rfl ?_
  intro p e s m args below meth c s₁ B hml hv
  obtain ⟨rfl, hsz, hP, hK, hD0, hex, hE⟩ := hv
  have hx := B.exec
  have hb := B.bytes
  have hr := B.returns
  have hts0 := atoms_spec (ws := wt yX7_nameLength cX7_nameLength 2 (some .int)) B.pre
  have hts : ∀ w ∈ tb, w.before _ s = true := fun w h => hts0 w (List.mem_cons_of_mem _ h)
  have hown : s.vm.findClass RX7 = some m.cls := findClass_of_methodNamed B.named
  subst hsz
  have hD := hD0.self (sz := s.heap.size)
  generalize hAe : va_A ws s.heap.size = A at hD hE ⊢
  have hA : ∀ q : Nat, s.heap.size ≤ q → A q := fun q h => by rw [← hAe]; exact Or.inr h
  have hS : va_S A s.heap s.heap [] := va_S.rf
  have hl := lv_entry ([.ref h0, .int x1]) (n := 2) (Nat.le_of_ble_eq_true rfl)
  rw [lg_entry_eq]
  generalize (lg_sl ([.ref h0, .int x1]) ++ List.replicate (2 - (lg_sl ([.ref h0, .int x1])).length) Slot.unset).toArray = ls at hl ⊢
  have hl : lv_has ls 2 [(0, .ref h0), (1, .int x1)] := hl
  refine lv_aload_n hx hb dX7_nameLength_0 rfl (lv_at hl 0 rfl) ?_
  refine lv_aload_n hx hb dX7_nameLength_1 rfl (lv_at hl 0 rfl) ?_
  refine lv_iload_n hx hb dX7_nameLength_2 rfl (lv_at hl 1 rfl) ?_
  have hFc := gfree hD hS hA
  obtain ⟨k_1, fs_1, hk_1⟩ := gC_of o_h0
  refine va_calli (va_runV (As := [.int x1]) (rest := [.ref h0]) ⟨hx, hb, hml, hown, hts⟩ (m_X7_entryAt l g s.heap.size ws h0 (x1) hG o_h0) (cwV 1 hts (gd_V kw_1296 kw_1298 kw_1299 kw_710 kw_1297) rfl rfl rfl (by decide +kernel) ⟨Nat.le_of_ble_eq_true rfl, Nat.le_of_ble_eq_true rfl⟩) ⟨gblind, va_recv hK hP (ci := 6) (q0 := k_1) rfl hk_1, fun U hU hW9 => gmk hU hW9 hP hK hD hex hE hS hFc⟩ rfl rfl hl.1 rfl (lv_room (Nat.le_of_ble_eq_true rfl)) dX7_nameLength_3 ⟨Nat.le_of_ble_eq_true rfl, Nat.le_of_ble_eq_true rfl⟩) hS (fun q _ h => hFc q h) hFc (fun r_2 u9 t9 H1 locs ht9 hvm9 hw9 hB9 hz9 hk9 hS => ?_)
  have hP : va_P (gD g) cl0 ws H1 := by rw [← ht9]; exact hB9.1
  clear hB9 hz9 hk9 hvm9 ht9 hw9
  generalize H1 = H at hP hS ⊢
  refine lv_iconst (v := 1) hx hb dX7_nameLength_6 (by decide) ?_
  refine lv_iadd hx hb dX7_nameLength_7 ?_
  refine lv_topi (fun z_3 ez_3 => ?_)
  have hFc := gfree hD hS hA
  obtain ⟨k_4, fs_4, hk_4⟩ := gC_of o_h0
  refine va_calli (va_runV (As := [.int z_3]) (rest := []) ⟨hx, hb, hml, hown, hts⟩ (m_X7_u2 l g H.size ws h0 (z_3) hG o_h0) (cwV 1 hts (gd_V kw_1266 kw_1450 kw_1451 kw_710 kw_1449) rfl rfl rfl (by decide +kernel) ⟨Nat.le_of_ble_eq_true rfl, Nat.le_of_ble_eq_true rfl⟩) ⟨gblind, va_recv hK hP (ci := 6) (q0 := k_4) rfl hk_4, fun U hU hW9 => gmk hU hW9 hP hK hD hex hE hS hFc⟩ rfl rfl hl.1 rfl (lv_room (Nat.le_of_ble_eq_true rfl)) dX7_nameLength_8 ⟨Nat.le_of_ble_eq_true rfl, Nat.le_of_ble_eq_true rfl⟩) hS (fun q _ h => hFc q h) hFc (fun r_5 u9 t9 H1 locs ht9 hvm9 hw9 hB9 hz9 hk9 hS => ?_)
  have hP : va_P (gD g) cl0 ws H1 := by rw [← ht9]; exact hB9.1
  have h_r_5 := hw9
  clear hB9 hz9 hk9 hvm9 ht9 hw9
  generalize H1 = H at hP hS ⊢
  refine W.widen (k := 0) (n := 0) (Nat.le_of_ble_eq_true rfl) (Nat.le_of_ble_eq_true rfl) ?_
  exact W.iret (v := r_5) hx hb hr (fun t9 ht9 hW9 => ⟨⟨_, (), rfl, (by have q_r_5 := h_r_5; have g_r_5 := i_rg r_5; have g_x1 := i_rg x1; omega), ⟨by rw [ht9]; exact hP, hD⟩⟩, hS.F ht9⟩) hS.2.2 dX7_nameLength_11
set_option maxHeartbeats 1000000 in
set_option maxRecDepth 100000 in
theorem m_X7_nameSign (l : Launch) (g : Gm) (sz : Nat) (ws : va_W) (h0 : Nat) (x1 : Int32) (x2 : Int32) (hG : Good g ws) (o_h0 : gC ws h0 6) : Met l yX7_nameSign (wt yX7_nameSign cX7_nameSign 3 (some .int)) ({ frames := 1, cells := 0, slots := 0, locals := 21 }) (va_Pc [.ref h0, .int x1, .int x2] (st_G g sz ws)) (va_Qi (fun (r : Int32) (u9 : Unit) => 0 ≤ r.toInt ∧ r.toInt ≤ 255) (gQ0 g (va_A ws sz) ws) (va_A ws sz)) 0 0 (va_A ws sz) := by
  refine Met.ofW (cc := cX7_nameSign) (maxL := 3) (ret := (some .int)) (by decide) rfl ?_
  intro p e s m args below meth c s₁ B hml hv
  obtain ⟨rfl, hsz, hP, hK, hD0, hex, hE⟩ := hv
  have hx := B.exec
  have hb := B.bytes
  have hr := B.returns
  have hts0 := atoms_spec (ws := wt yX7_nameSign cX7_nameSign 3 (some .int)) B.pre
  have hts : ∀ w ∈ tb, w.before _ s = true := fun w h => hts0 w (List.mem_cons_of_mem _ h)
  have hown : s.vm.findClass RX7 = some m.cls := findClass_of_methodNamed B.named
  subst hsz
  have hD := hD0.self (sz := s.heap.size)
  generalize hAe : va_A ws s.heap.size = A at hD hE ⊢
  have hA : ∀ q : Nat, s.heap.size ≤ q → A q := fun q h => by rw [← hAe]; exact Or.inr h
  have hS : va_S A s.heap s.heap [] := va_S.rf
  have hl := lv_entry ([.ref h0, .int x1, .int x2]) (n := 3) (Nat.le_of_ble_eq_true rfl)
  rw [lg_entry_eq]
  generalize (lg_sl ([.ref h0, .int x1, .int x2]) ++ List.replicate (3 - (lg_sl ([.ref h0, .int x1, .int x2])).length) Slot.unset).toArray = ls at hl ⊢
  have hl : lv_has ls 3 [(0, .ref h0), (1, .int x1), (2, .int x2)] := hl
  refine lv_aload_n hx hb dX7_nameSign_0 rfl (lv_at hl 0 rfl) ?_
  refine lv_aload_n hx hb dX7_nameSign_1 rfl (lv_at hl 0 rfl) ?_
  refine lv_iload_n hx hb dX7_nameSign_2 rfl (lv_at hl 1 rfl) ?_
  have hFc := gfree hD hS hA
  obtain ⟨k_1, fs_1, hk_1⟩ := gC_of o_h0
  refine va_calli (va_runV (As := [.int x1]) (rest := [.ref h0]) ⟨hx, hb, hml, hown, hts⟩ (m_X7_entryAt l g s.heap.size ws h0 (x1) hG o_h0) (cwV 1 hts (gd_V kw_1296 kw_1298 kw_1299 kw_710 kw_1297) rfl rfl rfl (by decide +kernel) ⟨Nat.le_of_ble_eq_true rfl, Nat.le_of_ble_eq_true rfl⟩) ⟨gblind, va_recv hK hP (ci := 6) (q0 := k_1) rfl hk_1, fun U hU hW9 => gmk hU hW9 hP hK hD hex hE hS hFc⟩ rfl rfl hl.1 rfl (lv_room (Nat.le_of_ble_eq_true rfl)) dX7_nameSign_3 ⟨Nat.le_of_ble_eq_true rfl, Nat.le_of_ble_eq_true rfl⟩) hS (fun q _ h => hFc q h) hFc (fun r_2 u9 t9 H1 locs ht9 hvm9 hw9 hB9 hz9 hk9 hS => ?_)
  have hP : va_P (gD g) cl0 ws H1 := by rw [← ht9]; exact hB9.1
  clear hB9 hz9 hk9 hvm9 ht9 hw9
  generalize H1 = H at hP hS ⊢
  refine lv_iconst (v := 3) hx hb dX7_nameSign_6 (by decide) ?_
  refine lv_iadd hx hb dX7_nameSign_7 ?_
  refine lv_topi (fun z_3 ez_3 => ?_)
  refine lv_iload_n hx hb dX7_nameSign_8 rfl (lv_at hl 2 rfl) ?_
  refine lv_iadd hx hb dX7_nameSign_9 ?_
  refine lv_topi (fun z_4 ez_4 => ?_)
  have hFc := gfree hD hS hA
  obtain ⟨k_5, fs_5, hk_5⟩ := gC_of o_h0
  refine va_calli (va_runV (As := [.int z_4]) (rest := []) ⟨hx, hb, hml, hown, hts⟩ (m_X7_u1 l g H.size ws h0 (z_4) hG o_h0) (cwV 1 hts (gd_V kw_1304 kw_1447 kw_1448 kw_710 kw_1446) rfl rfl rfl (by decide +kernel) ⟨Nat.le_of_ble_eq_true rfl, Nat.le_of_ble_eq_true rfl⟩) ⟨gblind, va_recv hK hP (ci := 6) (q0 := k_5) rfl hk_5, fun U hU hW9 => gmk hU hW9 hP hK hD hex hE hS hFc⟩ rfl rfl hl.1 rfl (lv_room (Nat.le_of_ble_eq_true rfl)) dX7_nameSign_10 ⟨Nat.le_of_ble_eq_true rfl, Nat.le_of_ble_eq_true rfl⟩) hS (fun q _ h => hFc q h) hFc (fun r_6 u9 t9 H1 locs ht9 hvm9 hw9 hB9 hz9 hk9 hS => ?_)
  have hP : va_P (gD g) cl0 ws H1 := by rw [← ht9]; exact hB9.1
  have h_r_6 := hw9
  clear hB9 hz9 hk9 hvm9 ht9 hw9
  generalize H1 = H at hP hS ⊢
  refine W.widen (k := 0) (n := 0) (Nat.le_of_ble_eq_true rfl) (Nat.le_of_ble_eq_true rfl) ?_
  exact W.iret (v := r_6) hx hb hr (fun t9 ht9 hW9 => ⟨⟨_, (), rfl, (by have e3 : (3 : Int32).toInt = 3 := (by decide); obtain ⟨u_z_4, q_z_4⟩ := i_add ez_4; have q_r_6 := h_r_6; obtain ⟨u_z_3, q_z_3⟩ := i_add ez_3; have g_r_2 := i_rg r_2; have g_r_6 := i_rg r_6; have g_x1 := i_rg x1; have g_x2 := i_rg x2; have g_z_3 := i_rg z_3; have g_z_4 := i_rg z_4; omega), ⟨by rw [ht9]; exact hP, hD⟩⟩, hS.F ht9⟩) hS.2.2 dX7_nameSign_13
set_option maxHeartbeats 1000000 in
set_option maxRecDepth 100000 in
theorem m_X7_kindOfPart (l : Launch) (g : Gm) (sz : Nat) (ws : va_W) (h0 : Nat) (x1 : Int32) (x2 : Int32) (hG : Good g ws) (o_h0 : gC ws h0 6) : Met l yX7_kindOfPart (wt yX7_kindOfPart cX7_kindOfPart 3 (some .int)) ({ frames := 2, cells := 0, slots := 0, locals := 43 }) (va_Pc [.ref h0, .int x1, .int x2] (st_G g sz ws)) (va_Qi (fun (r : Int32) (u9 : Unit) => 0 ≤ r.toInt ∧ r.toInt ≤ 3) (gQ0 g (va_A ws sz) ws) (va_A ws sz)) 0 0 (va_A ws sz) := by
  refine Met.ofW (cc := cX7_kindOfPart) (maxL := 3) (ret := (some .int)) (by decide) rfl ?_
  intro p e s m args below meth c s₁ B hml hv
  obtain ⟨rfl, hsz, hP, hK, hD0, hex, hE⟩ := hv
  have hx := B.exec
  have hb := B.bytes
  have hr := B.returns
  have hts0 := atoms_spec (ws := wt yX7_kindOfPart cX7_kindOfPart 3 (some .int)) B.pre
  have hts : ∀ w ∈ tb, w.before _ s = true := fun w h => hts0 w (List.mem_cons_of_mem _ h)
  have hown : s.vm.findClass RX7 = some m.cls := findClass_of_methodNamed B.named
  subst hsz
  have hD := hD0.self (sz := s.heap.size)
  generalize hAe : va_A ws s.heap.size = A at hD hE ⊢
  have hA : ∀ q : Nat, s.heap.size ≤ q → A q := fun q h => by rw [← hAe]; exact Or.inr h
  have hS : va_S A s.heap s.heap [] := va_S.rf
  have hl := lv_entry ([.ref h0, .int x1, .int x2]) (n := 3) (Nat.le_of_ble_eq_true rfl)
  rw [lg_entry_eq]
  generalize (lg_sl ([.ref h0, .int x1, .int x2]) ++ List.replicate (3 - (lg_sl ([.ref h0, .int x1, .int x2])).length) Slot.unset).toArray = ls at hl ⊢
  have hl : lv_has ls 3 [(0, .ref h0), (1, .int x1), (2, .int x2)] := hl
  refine lv_iload_n hx hb dX7_kindOfPart_0 rfl (lv_at hl 2 rfl) ?_
  refine lv_aload_n hx hb dX7_kindOfPart_1 rfl (lv_at hl 0 rfl) ?_
  refine lv_iload_n hx hb dX7_kindOfPart_2 rfl (lv_at hl 1 rfl) ?_
  have hFc := gfree hD hS hA
  obtain ⟨k_1, fs_1, hk_1⟩ := gC_of o_h0
  refine va_calli (va_runV (As := [.int x1]) (rest := [.int x2]) ⟨hx, hb, hml, hown, hts⟩ (m_X7_nameLength l g s.heap.size ws h0 (x1) hG o_h0) (cwV 1 hts (gd_V kw_1349 kw_1406 kw_1407 kw_710 kw_1405) rfl rfl rfl (by decide +kernel) ⟨Nat.le_of_ble_eq_true rfl, Nat.le_of_ble_eq_true rfl⟩) ⟨gblind, va_recv hK hP (ci := 6) (q0 := k_1) rfl hk_1, fun U hU hW9 => gmk hU hW9 hP hK hD hex hE hS hFc⟩ rfl rfl hl.1 rfl (lv_room (Nat.le_of_ble_eq_true rfl)) dX7_kindOfPart_3 ⟨Nat.le_of_ble_eq_true rfl, Nat.le_of_ble_eq_true rfl⟩) hS (fun q _ h => hFc q h) hFc (fun r_2 u9 t9 H1 locs ht9 hvm9 hw9 hB9 hz9 hk9 hS => ?_)
  have hP : va_P (gD g) cl0 ws H1 := by rw [← ht9]; exact hB9.1
  have h_r_2 := hw9
  clear hB9 hz9 hk9 hvm9 ht9 hw9
  generalize H1 = H at hP hS ⊢
  refine lv_icmp_lt (tgt := 11) hx hb dX7_kindOfPart_6 (by decide) (fun c_3 => ?_) (fun c_3 => ?_)
  · refine lv_aload_n hx hb dX7_kindOfPart_11 rfl (lv_at hl 0 rfl) ?_
    refine lv_iload_n hx hb dX7_kindOfPart_12 rfl (lv_at hl 1 rfl) ?_
    refine lv_iload_n hx hb dX7_kindOfPart_13 rfl (lv_at hl 2 rfl) ?_
    have hFc := gfree hD hS hA
    obtain ⟨k_4, fs_4, hk_4⟩ := gC_of o_h0
    refine va_calli (va_runV (As := [.int x1, .int x2]) (rest := []) ⟨hx, hb, hml, hown, hts⟩ (m_X7_nameSign l g H.size ws h0 (x1) (x2) hG o_h0) (cwV 2 hts (gd_V kw_1350 kw_1412 kw_1413 kw_710 kw_1411) rfl rfl rfl (by decide +kernel) ⟨Nat.le_of_ble_eq_true rfl, Nat.le_of_ble_eq_true rfl⟩) ⟨gblind, va_recv hK hP (ci := 6) (q0 := k_4) rfl hk_4, fun U hU hW9 => gmk hU hW9 hP hK hD hex hE hS hFc⟩ rfl rfl hl.1 rfl (lv_room (Nat.le_of_ble_eq_true rfl)) dX7_kindOfPart_14 ⟨Nat.le_of_ble_eq_true rfl, Nat.le_of_ble_eq_true rfl⟩) hS (fun q _ h => hFc q h) hFc (fun r_5 u9 t9 H1 locs ht9 hvm9 hw9 hB9 hz9 hk9 hS => ?_)
    have hP : va_P (gD g) cl0 ws H1 := by rw [← ht9]; exact hB9.1
    have h_r_5 := hw9
    clear hB9 hz9 hk9 hvm9 ht9 hw9
    generalize H1 = H at hP hS ⊢
    have K_17_86 : W p l e (headSpec (wt yX7_kindOfPart cX7_kindOfPart 3 (some .int)) ({ frames := 2, cells := 0, slots := 0, locals := 43 })).room s m ([.ref h0, .int x1, .int x2] : List Value).toArray below meth c H locs 0 0 (MQ below (va_Qi (fun (r : Int32) (u9 : Unit) => 0 ≤ r.toInt ∧ r.toInt ≤ 3) (gQ0 g A ws) A) ([.ref h0, .int x1, .int x2] : List Value).toArray s 0 0 A) (F0 m 86 ls []) := by
      refine lv_iconst (v := 0) hx hb dX7_kindOfPart_86 (by decide) ?_
      refine W.widen (k := 0) (n := 0) (Nat.le_of_ble_eq_true rfl) (Nat.le_of_ble_eq_true rfl) ?_
      exact W.iret (v := 0) hx hb hr (fun t9 ht9 hW9 => ⟨⟨_, (), rfl, (by have e0 : (0 : Int32).toInt = 0 := (by decide); have q_c_3 := i_lt c_3; have q_r_2 := h_r_2; have g_r_2 := i_rg r_2; have g_x1 := i_rg x1; have g_x2 := i_rg x2; omega), ⟨by rw [ht9]; exact hP, hD⟩⟩, hS.F ht9⟩) hS.2.2 dX7_kindOfPart_87
    have K_17_52 : W p l e (headSpec (wt yX7_kindOfPart cX7_kindOfPart 3 (some .int)) ({ frames := 2, cells := 0, slots := 0, locals := 43 })).room s m ([.ref h0, .int x1, .int x2] : List Value).toArray below meth c H locs 0 0 (MQ below (va_Qi (fun (r : Int32) (u9 : Unit) => 0 ≤ r.toInt ∧ r.toInt ≤ 3) (gQ0 g A ws) A) ([.ref h0, .int x1, .int x2] : List Value).toArray s 0 0 A) (F0 m 52 ls []) := by
      refine lv_iconst (v := 1) hx hb dX7_kindOfPart_52 (by decide) ?_
      refine W.widen (k := 0) (n := 0) (Nat.le_of_ble_eq_true rfl) (Nat.le_of_ble_eq_true rfl) ?_
      exact W.iret (v := 1) hx hb hr (fun t9 ht9 hW9 => ⟨⟨_, (), rfl, (by have e1 : (1 : Int32).toInt = 1 := (by decide); have q_c_3 := i_lt c_3; have q_r_2 := h_r_2; have g_r_2 := i_rg r_2; have g_x1 := i_rg x1; have g_x2 := i_rg x2; omega), ⟨by rw [ht9]; exact hP, hD⟩⟩, hS.F ht9⟩) hS.2.2 dX7_kindOfPart_53
    have K_17_54 : W p l e (headSpec (wt yX7_kindOfPart cX7_kindOfPart 3 (some .int)) ({ frames := 2, cells := 0, slots := 0, locals := 43 })).room s m ([.ref h0, .int x1, .int x2] : List Value).toArray below meth c H locs 0 0 (MQ below (va_Qi (fun (r : Int32) (u9 : Unit) => 0 ≤ r.toInt ∧ r.toInt ≤ 3) (gQ0 g A ws) A) ([.ref h0, .int x1, .int x2] : List Value).toArray s 0 0 A) (F0 m 54 ls []) := by
      refine lv_iconst (v := 2) hx hb dX7_kindOfPart_54 (by decide) ?_
      refine W.widen (k := 0) (n := 0) (Nat.le_of_ble_eq_true rfl) (Nat.le_of_ble_eq_true rfl) ?_
      exact W.iret (v := 2) hx hb hr (fun t9 ht9 hW9 => ⟨⟨_, (), rfl, (by have e2 : (2 : Int32).toInt = 2 := (by decide); have q_c_3 := i_lt c_3; have q_r_2 := h_r_2; have g_r_2 := i_rg r_2; have g_x1 := i_rg x1; have g_x2 := i_rg x2; omega), ⟨by rw [ht9]; exact hP, hD⟩⟩, hS.F ht9⟩) hS.2.2 dX7_kindOfPart_55
    have K_17_56 : W p l e (headSpec (wt yX7_kindOfPart cX7_kindOfPart 3 (some .int)) ({ frames := 2, cells := 0, slots := 0, locals := 43 })).room s m ([.ref h0, .int x1, .int x2] : List Value).toArray below meth c H locs 0 0 (MQ below (va_Qi (fun (r : Int32) (u9 : Unit) => 0 ≤ r.toInt ∧ r.toInt ≤ 3) (gQ0 g A ws) A) ([.ref h0, .int x1, .int x2] : List Value).toArray s 0 0 A) (F0 m 56 ls []) := by
      refine lv_iload_n hx hb dX7_kindOfPart_56 rfl (lv_at hl 2 rfl) ?_
      refine lv_iconst (v := 1) hx hb dX7_kindOfPart_57 (by decide) ?_
      refine lv_iadd hx hb dX7_kindOfPart_58 ?_
      refine lv_topi (fun z_6 ez_6 => ?_)
      refine lv_aload_n hx hb dX7_kindOfPart_59 rfl (lv_at hl 0 rfl) ?_
      refine lv_iload_n hx hb dX7_kindOfPart_60 rfl (lv_at hl 1 rfl) ?_
      have hFc := gfree hD hS hA
      obtain ⟨k_7, fs_7, hk_7⟩ := gC_of o_h0
      refine va_calli (va_runV (As := [.int x1]) (rest := [.int z_6]) ⟨hx, hb, hml, hown, hts⟩ (m_X7_nameLength l g H.size ws h0 (x1) hG o_h0) (cwV 1 hts (gd_V kw_1349 kw_1406 kw_1407 kw_710 kw_1405) rfl rfl rfl (by decide +kernel) ⟨Nat.le_of_ble_eq_true rfl, Nat.le_of_ble_eq_true rfl⟩) ⟨gblind, va_recv hK hP (ci := 6) (q0 := k_7) rfl hk_7, fun U hU hW9 => gmk hU hW9 hP hK hD hex hE hS hFc⟩ rfl rfl hl.1 rfl (lv_room (Nat.le_of_ble_eq_true rfl)) dX7_kindOfPart_61 ⟨Nat.le_of_ble_eq_true rfl, Nat.le_of_ble_eq_true rfl⟩) hS (fun q _ h => hFc q h) hFc (fun r_8 u9 t9 H1 locs ht9 hvm9 hw9 hB9 hz9 hk9 hS => ?_)
      have hP : va_P (gD g) cl0 ws H1 := by rw [← ht9]; exact hB9.1
      have h_r_8 := hw9
      clear hB9 hz9 hk9 hvm9 ht9 hw9
      generalize H1 = H at hP hS ⊢
      have J_85 : ∀ (t_9 : Int32) (H : Heap) (locs : List Loc) (ls : Array Slot), 0 ≤ t_9.toInt ∧ t_9.toInt ≤ 3 → 0 ≤ t_9.toInt ∧ t_9.toInt ≤ 3 → va_P (gD g) cl0 ws H → va_D A ws → va_S A s.heap H locs → lv_has ls 3 [] → W p l e (headSpec (wt yX7_kindOfPart cX7_kindOfPart 3 (some .int)) ({ frames := 2, cells := 0, slots := 0, locals := 43 })).room s m ([.ref h0, .int x1, .int x2] : List Value).toArray below meth c H locs 0 0 (MQ below (va_Qi (fun (r : Int32) (u9 : Unit) => 0 ≤ r.toInt ∧ r.toInt ≤ 3) (gQ0 g A ws) A) ([.ref h0, .int x1, .int x2] : List Value).toArray s 0 0 A) (F0 m 85 ls [.int t_9]) := by
        intro t_9 H locs ls iv_10 iv_11 hP hD hS hl
        refine W.widen (k := 0) (n := 0) (Nat.le_of_ble_eq_true rfl) (Nat.le_of_ble_eq_true rfl) ?_
        exact W.iret (v := t_9) hx hb hr (fun t9 ht9 hW9 => ⟨⟨_, (), rfl, (by have e1 : (1 : Int32).toInt = 1 := (by decide); have q_c_3 := i_lt c_3; obtain ⟨u_z_6, q_z_6⟩ := i_add ez_6; have q_iv_10 := iv_10; have q_iv_11 := iv_11; have q_r_2 := h_r_2; have g_r_2 := i_rg r_2; have g_t_9 := i_rg t_9; have g_x1 := i_rg x1; have g_x2 := i_rg x2; have g_z_6 := i_rg z_6; omega), ⟨by rw [ht9]; exact hP, hD⟩⟩, hS.F ht9⟩) hS.2.2 dX7_kindOfPart_85
      have J_84 : ∀  (H : Heap) (locs : List Loc) (ls : Array Slot), va_P (gD g) cl0 ws H → va_D A ws → va_S A s.heap H locs → lv_has ls 3 [] → W p l e (headSpec (wt yX7_kindOfPart cX7_kindOfPart 3 (some .int)) ({ frames := 2, cells := 0, slots := 0, locals := 43 })).room s m ([.ref h0, .int x1, .int x2] : List Value).toArray below meth c H locs 0 0 (MQ below (va_Qi (fun (r : Int32) (u9 : Unit) => 0 ≤ r.toInt ∧ r.toInt ≤ 3) (gQ0 g A ws) A) ([.ref h0, .int x1, .int x2] : List Value).toArray s 0 0 A) (F0 m 84 ls []) := by
        intro  H locs ls  hP hD hS hl
        refine lv_iconst (v := 0) hx hb dX7_kindOfPart_84 (by decide) ?_
        exact J_85 (0) H locs ls (by have e0 : (0 : Int32).toInt = 0 := (by decide); have e1 : (1 : Int32).toInt = 1 := (by decide); have q_c_3 := i_lt c_3; obtain ⟨u_z_6, q_z_6⟩ := i_add ez_6; have q_r_2 := h_r_2; have g_r_2 := i_rg r_2; have g_x1 := i_rg x1; have g_x2 := i_rg x2; have g_z_6 := i_rg z_6; omega) (by have e0 : (0 : Int32).toInt = 0 := (by decide); have e1 : (1 : Int32).toInt = 1 := (by decide); have q_c_3 := i_lt c_3; obtain ⟨u_z_6, q_z_6⟩ := i_add ez_6; have q_r_2 := h_r_2; have g_r_2 := i_rg r_2; have g_x1 := i_rg x1; have g_x2 := i_rg x2; have g_z_6 := i_rg z_6; omega) hP hD hS (lv_sub hl [] rfl)
      refine lv_icmp_ge (tgt := 84) hx hb dX7_kindOfPart_64 (by decide) (fun c_16 => ?_) (fun c_16 => ?_)
      · exact J_84  H locs ls  hP hD hS (lv_sub hl [] rfl)
      · refine lv_aload_n hx hb dX7_kindOfPart_67 rfl (lv_at hl 0 rfl) ?_
        refine lv_iload_n hx hb dX7_kindOfPart_68 rfl (lv_at hl 1 rfl) ?_
        refine lv_iload_n hx hb dX7_kindOfPart_69 rfl (lv_at hl 2 rfl) ?_
        refine lv_iconst (v := 1) hx hb dX7_kindOfPart_70 (by decide) ?_
        refine lv_iadd hx hb dX7_kindOfPart_71 ?_
        refine lv_topi (fun z_17 ez_17 => ?_)
        have hFc := gfree hD hS hA
        obtain ⟨k_18, fs_18, hk_18⟩ := gC_of o_h0
        refine va_calli (va_runV (As := [.int x1, .int z_17]) (rest := []) ⟨hx, hb, hml, hown, hts⟩ (m_X7_nameSign l g H.size ws h0 (x1) (z_17) hG o_h0) (cwV 2 hts (gd_V kw_1350 kw_1412 kw_1413 kw_710 kw_1411) rfl rfl rfl (by decide +kernel) ⟨Nat.le_of_ble_eq_true rfl, Nat.le_of_ble_eq_true rfl⟩) ⟨gblind, va_recv hK hP (ci := 6) (q0 := k_18) rfl hk_18, fun U hU hW9 => gmk hU hW9 hP hK hD hex hE hS hFc⟩ rfl rfl hl.1 rfl (lv_room (Nat.le_of_ble_eq_true rfl)) dX7_kindOfPart_72 ⟨Nat.le_of_ble_eq_true rfl, Nat.le_of_ble_eq_true rfl⟩) hS (fun q _ h => hFc q h) hFc (fun r_19 u9 t9 H1 locs ht9 hvm9 hw9 hB9 hz9 hk9 hS => ?_)
        have hP : va_P (gD g) cl0 ws H1 := by rw [← ht9]; exact hB9.1
        have h_r_19 := hw9
        clear hB9 hz9 hk9 hvm9 ht9 hw9
        generalize H1 = H at hP hS ⊢
        refine lv_bipush (v := 73) hx hb dX7_kindOfPart_75 (by decide) ?_
        refine lv_icmp_ne (tgt := 84) hx hb dX7_kindOfPart_77 (by decide) (fun c_20 => ?_) (fun c_20 => ?_)
        · exact J_84  H locs ls  hP hD hS (lv_sub hl [] rfl)
        · refine lv_iconst (v := 3) hx hb dX7_kindOfPart_80 (by decide) ?_
          refine lv_goto (tgt := 85) hx hb dX7_kindOfPart_81 (by decide) ?_
          exact J_85 (3) H locs ls (by have e1 : (1 : Int32).toInt = 1 := (by decide); have e3 : (3 : Int32).toInt = 3 := (by decide); have q_c_3 := i_lt c_3; obtain ⟨u_z_6, q_z_6⟩ := i_add ez_6; obtain ⟨u_z_17, q_z_17⟩ := i_add ez_17; have q_r_2 := h_r_2; have q_c_16 := i_nle c_16; have g_r_2 := i_rg r_2; have g_r_8 := i_rg r_8; have g_x1 := i_rg x1; have g_x2 := i_rg x2; have g_z_17 := i_rg z_17; have g_z_6 := i_rg z_6; omega) (by have e1 : (1 : Int32).toInt = 1 := (by decide); have e3 : (3 : Int32).toInt = 3 := (by decide); have q_c_3 := i_lt c_3; obtain ⟨u_z_6, q_z_6⟩ := i_add ez_6; obtain ⟨u_z_17, q_z_17⟩ := i_add ez_17; have q_r_2 := h_r_2; have q_c_16 := i_nle c_16; have g_r_2 := i_rg r_2; have g_r_8 := i_rg r_8; have g_x1 := i_rg x1; have g_x2 := i_rg x2; have g_z_17 := i_rg z_17; have g_z_6 := i_rg z_6; omega) hP hD hS (lv_sub hl [] rfl)
    by_cases c9_73 : (r_5 : Int32).toInt = 73
    · exact lv_lookup (off := 35) (tgt := 52) hx hb dX7_kindOfPart_17 (by decide) (by rw [c9_73]; decide) (by decide) K_17_52
    by_cases c9_74 : (r_5 : Int32).toInt = 74
    · exact lv_lookup (off := 37) (tgt := 54) hx hb dX7_kindOfPart_17 (by decide) (by rw [c9_74]; decide) (by decide) K_17_54
    by_cases c9_91 : (r_5 : Int32).toInt = 91
    · exact lv_lookup (off := 39) (tgt := 56) hx hb dX7_kindOfPart_17 (by decide) (by rw [c9_91]; decide) (by decide) K_17_56
    exact lv_lookup (off := 69) (tgt := 86) hx hb dX7_kindOfPart_17 (by decide) (lk_cons c9_73 (lk_cons c9_74 (lk_cons c9_91 lk_nil))) (by decide) K_17_86
  · refine lv_iconst (v := 0) hx hb dX7_kindOfPart_9 (by decide) ?_
    refine W.widen (k := 0) (n := 0) (Nat.le_of_ble_eq_true rfl) (Nat.le_of_ble_eq_true rfl) ?_
    exact W.iret (v := 0) hx hb hr (fun t9 ht9 hW9 => ⟨⟨_, (), rfl, (by have e0 : (0 : Int32).toInt = 0 := (by decide); have q_c_3 := i_nlt c_3; have q_r_2 := h_r_2; have g_r_2 := i_rg r_2; have g_x1 := i_rg x1; have g_x2 := i_rg x2; omega), ⟨by rw [ht9]; exact hP, hD⟩⟩, hS.F ht9⟩) hS.2.2 dX7_kindOfPart_10
set_option maxHeartbeats 1000000 in
set_option maxRecDepth 100000 in
theorem m_X7_isMethodType (l : Launch) (g : Gm) (sz : Nat) (ws : va_W) (h0 : Nat) (x1 : Int32) (hG : Good g ws) (o_h0 : gC ws h0 6) : Met l yX7_isMethodType (wt yX7_isMethodType cX7_isMethodType 5 (some .boolean)) ({ frames := 3, cells := 0, slots := 0, locals := 65 }) (va_Pc [.ref h0, .int x1] (st_G g sz ws)) (va_Qi (fun (r : Int32) (u9 : va_W) => r = 0 ∨ r = 1) (gQ1 g [(6, 12), (6, 13), (6, 14)] (va_A ws sz) ws) (va_A ws sz)) 0 0 (va_A ws sz) := by
  refine Met.ofW (cc := cX7_isMethodType) (maxL := 5) (ret := (some .boolean)) (by decide) rfl ?_
  intro p e s m args below meth c s₁ B hml hv
  obtain ⟨rfl, hsz, hP, hK, hD0, hex, hE⟩ := hv
  have hx := B.exec
  have hb := B.bytes
  have hr := B.returns
  have hts0 := atoms_spec (ws := wt yX7_isMethodType cX7_isMethodType 5 (some .boolean)) B.pre
  have hts : ∀ w ∈ tb, w.before _ s = true := fun w h => hts0 w (List.mem_cons_of_mem _ h)
  have hown : s.vm.findClass RX7 = some m.cls := findClass_of_methodNamed B.named
  subst hsz
  have hD := hD0.self (sz := s.heap.size)
  generalize hAe : va_A ws s.heap.size = A at hD hE ⊢
  have hA : ∀ q : Nat, s.heap.size ≤ q → A q := fun q h => by rw [← hAe]; exact Or.inr h
  have hS : va_S A s.heap s.heap [] := va_S.rf
  have hl := lv_entry ([.ref h0, .int x1]) (n := 5) (Nat.le_of_ble_eq_true rfl)
  rw [lg_entry_eq]
  generalize (lg_sl ([.ref h0, .int x1]) ++ List.replicate (5 - (lg_sl ([.ref h0, .int x1])).length) Slot.unset).toArray = ls at hl ⊢
  have hl : lv_has ls 5 [(0, .ref h0), (1, .int x1)] := hl
  refine lv_aload_n hx hb dX7_isMethodType_0 rfl (lv_at hl 0 rfl) ?_
  refine lv_iconst (v := 0) hx hb dX7_isMethodType_1 (by decide) ?_
  obtain ⟨k_1, fs9, hk_1⟩ := gC_of o_h0
  obtain ⟨r0_1, n0_1, c1_1, c2_1, c3_1, r4_1, n4_1, c5_1, c6_1, c7_1, c8_1, r9_1, n9_1, r10_1, n10_1, r11_1, n11_1, c12_1, c13_1, c14_1, c15_1, c16_1, rfl, a_r0_1, f1_1, a_r4_1, f3_1, a_r9_1, f5_1, a_r10_1, f7_1, a_r11_1, f9_1, f10_1, f11_1, f12_1, f13_1, f14_1, -⟩ := (hG.1 _ _ _ _ hk_1).hX7 rfl
  refine va_put (D := gD g) (ci := 6) (v := .int 0) (ty := .int) (C := RX7) (T := TX7) (N := 17) hx hb hts inX7 tyX7 tyX7_ok nmX7 hown hK hP hD hS k_1 hk_1 rfl 12 (by decide) (hts _ kw_1346) (fun _ h9 => h9) rfl (by decide +kernel) rfl rfl (Nat.le_of_ble_eq_true rfl) dX7_isMethodType_2 (fun H locs hP hD hS => ?_)
  have hi_2 : invX7 g ws h0 [.ref r0_1, .int c1_1, .int c2_1, .int c3_1, .ref r4_1, .int c5_1, .int c6_1, .int c7_1, .int c8_1, .ref r9_1, .ref r10_1, .ref r11_1, .int 0, .int c13_1, .int c14_1, .int c15_1, .int c16_1] := ⟨r0_1, (n0_1), (c1_1), (c2_1), (c3_1), r4_1, (n4_1), (c5_1), (c6_1), (c7_1), (c8_1), r9_1, (n9_1), r10_1, (n10_1), r11_1, (n11_1), (0), (c13_1), (c14_1), (c15_1), (c16_1), rfl, a_r0_1, f1_1, a_r4_1, f3_1, a_r9_1, f5_1, a_r10_1, f7_1, a_r11_1, f9_1, f10_1, f11_1, f12_1, f13_1, f14_1, trivial⟩
  obtain ⟨ws_3, e_ws_3⟩ : ∃ z, z = ws.set k_1 (h0, .inr (6, [.ref r0_1, .int c1_1, .int c2_1, .int c3_1, .ref r4_1, .int c5_1, .int c6_1, .int c7_1, .int c8_1, .ref r9_1, .ref r10_1, .ref r11_1, .int 0, .int c13_1, .int c14_1, .int c15_1, .int c16_1])) := ⟨_, rfl⟩
  have hP : va_P (gD g) cl0 ws_3 H := by rw [e_ws_3]; exact hP
  have hD : va_D A ws_3 := by rw [e_ws_3]; exact hD
  have E_4 : gE ws ws_3 := gE_set e_ws_3 hk_1 rfl
  have hG : Good g ws_3 := Good_set e_ws_3 hk_1 hG (ivX7 hi_2)
  have Fr_5 : gF [(6, 12)] ws ws_3 := gF_put (fi := 12) (v := .int 0) e_ws_3 hk_1 rfl
  have hkN := gset_self e_ws_3 hk_1
  have hk_1 := hkN
  have o_h0 := E_4 _ _ o_h0
  have a_r0_1 := E_4 _ _ a_r0_1
  have a_r4_1 := E_4 _ _ a_r4_1
  have a_r9_1 := E_4 _ _ a_r9_1
  have a_r10_1 := E_4 _ _ a_r10_1
  have a_r11_1 := E_4 _ _ a_r11_1
  refine lv_aload_n hx hb dX7_isMethodType_5 rfl (lv_at hl 0 rfl) ?_
  refine lv_iconst (v := 0) hx hb dX7_isMethodType_6 (by decide) ?_
  refine va_put (D := gD g) (ci := 6) (v := .int 0) (ty := .int) (C := RX7) (T := TX7) (N := 17) hx hb hts inX7 tyX7 tyX7_ok nmX7 hown hK hP hD hS k_1 hk_1 rfl 13 (by decide) (hts _ kw_1347) (fun _ h9 => h9) rfl (by decide +kernel) rfl rfl (Nat.le_of_ble_eq_true rfl) dX7_isMethodType_7 (fun H locs hP hD hS => ?_)
  have hi_6 : invX7 g ws_3 h0 [.ref r0_1, .int c1_1, .int c2_1, .int c3_1, .ref r4_1, .int c5_1, .int c6_1, .int c7_1, .int c8_1, .ref r9_1, .ref r10_1, .ref r11_1, .int 0, .int 0, .int c14_1, .int c15_1, .int c16_1] := ⟨r0_1, (n0_1), (c1_1), (c2_1), (c3_1), r4_1, (n4_1), (c5_1), (c6_1), (c7_1), (c8_1), r9_1, (n9_1), r10_1, (n10_1), r11_1, (n11_1), (0), (0), (c14_1), (c15_1), (c16_1), rfl, a_r0_1, f1_1, a_r4_1, f3_1, a_r9_1, f5_1, a_r10_1, f7_1, a_r11_1, f9_1, f10_1, f11_1, f12_1, f13_1, f14_1, trivial⟩
  obtain ⟨ws_7, e_ws_7⟩ : ∃ z, z = ws_3.set k_1 (h0, .inr (6, [.ref r0_1, .int c1_1, .int c2_1, .int c3_1, .ref r4_1, .int c5_1, .int c6_1, .int c7_1, .int c8_1, .ref r9_1, .ref r10_1, .ref r11_1, .int 0, .int 0, .int c14_1, .int c15_1, .int c16_1])) := ⟨_, rfl⟩
  have hP : va_P (gD g) cl0 ws_7 H := by rw [e_ws_7]; exact hP
  have hD : va_D A ws_7 := by rw [e_ws_7]; exact hD
  have E_8 : gE ws_3 ws_7 := gE_set e_ws_7 hk_1 rfl
  have hG : Good g ws_7 := Good_set e_ws_7 hk_1 hG (ivX7 hi_6)
  have Fr_9 : gF [(6, 13)] ws_3 ws_7 := gF_put (fi := 13) (v := .int 0) e_ws_7 hk_1 rfl
  have hkN := gset_self e_ws_7 hk_1
  have hk_1 := hkN
  have o_h0 := E_8 _ _ o_h0
  have a_r0_1 := E_8 _ _ a_r0_1
  have a_r4_1 := E_8 _ _ a_r4_1
  have a_r9_1 := E_8 _ _ a_r9_1
  have a_r10_1 := E_8 _ _ a_r10_1
  have a_r11_1 := E_8 _ _ a_r11_1
  refine lv_aload_n hx hb dX7_isMethodType_10 rfl (lv_at hl 0 rfl) ?_
  refine lv_iconst (v := 0) hx hb dX7_isMethodType_11 (by decide) ?_
  refine va_put (D := gD g) (ci := 6) (v := .int 0) (ty := .int) (C := RX7) (T := TX7) (N := 17) hx hb hts inX7 tyX7 tyX7_ok nmX7 hown hK hP hD hS k_1 hk_1 rfl 14 (by decide) (hts _ kw_1348) (fun _ h9 => h9) rfl (by decide +kernel) rfl rfl (Nat.le_of_ble_eq_true rfl) dX7_isMethodType_12 (fun H locs hP hD hS => ?_)
  have hi_10 : invX7 g ws_7 h0 [.ref r0_1, .int c1_1, .int c2_1, .int c3_1, .ref r4_1, .int c5_1, .int c6_1, .int c7_1, .int c8_1, .ref r9_1, .ref r10_1, .ref r11_1, .int 0, .int 0, .int 0, .int c15_1, .int c16_1] := ⟨r0_1, (n0_1), (c1_1), (c2_1), (c3_1), r4_1, (n4_1), (c5_1), (c6_1), (c7_1), (c8_1), r9_1, (n9_1), r10_1, (n10_1), r11_1, (n11_1), (0), (0), (0), (c15_1), (c16_1), rfl, a_r0_1, f1_1, a_r4_1, f3_1, a_r9_1, f5_1, a_r10_1, f7_1, a_r11_1, f9_1, f10_1, f11_1, f12_1, f13_1, f14_1, trivial⟩
  obtain ⟨ws_11, e_ws_11⟩ : ∃ z, z = ws_7.set k_1 (h0, .inr (6, [.ref r0_1, .int c1_1, .int c2_1, .int c3_1, .ref r4_1, .int c5_1, .int c6_1, .int c7_1, .int c8_1, .ref r9_1, .ref r10_1, .ref r11_1, .int 0, .int 0, .int 0, .int c15_1, .int c16_1])) := ⟨_, rfl⟩
  have hP : va_P (gD g) cl0 ws_11 H := by rw [e_ws_11]; exact hP
  have hD : va_D A ws_11 := by rw [e_ws_11]; exact hD
  have E_12 : gE ws_7 ws_11 := gE_set e_ws_11 hk_1 rfl
  have hG : Good g ws_11 := Good_set e_ws_11 hk_1 hG (ivX7 hi_10)
  have Fr_13 : gF [(6, 14)] ws_7 ws_11 := gF_put (fi := 14) (v := .int 0) e_ws_11 hk_1 rfl
  have hkN := gset_self e_ws_11 hk_1
  have hk_1 := hkN
  have o_h0 := E_12 _ _ o_h0
  have a_r0_1 := E_12 _ _ a_r0_1
  have a_r4_1 := E_12 _ _ a_r4_1
  have a_r9_1 := E_12 _ _ a_r9_1
  have a_r10_1 := E_12 _ _ a_r10_1
  have a_r11_1 := E_12 _ _ a_r11_1
  refine lv_aload_n hx hb dX7_isMethodType_15 rfl (lv_at hl 0 rfl) ?_
  refine lv_iload_n hx hb dX7_isMethodType_16 rfl (lv_at hl 1 rfl) ?_
  have hFc := gfree hD hS hA
  refine va_calli (va_runV (As := [.int x1]) (rest := []) ⟨hx, hb, hml, hown, hts⟩ (m_X7_nameLength l g H.size ws_11 h0 (x1) hG o_h0) (cwV 1 hts (gd_V kw_1349 kw_1406 kw_1407 kw_710 kw_1405) rfl rfl rfl (by decide +kernel) ⟨Nat.le_of_ble_eq_true rfl, Nat.le_of_ble_eq_true rfl⟩) ⟨gblind, va_recv hK hP (ci := 6) (q0 := k_1) rfl hk_1, fun U hU hW9 => gmk hU hW9 hP hK hD hex hE hS hFc⟩ rfl rfl hl.1 rfl (lv_room (Nat.le_of_ble_eq_true rfl)) dX7_isMethodType_17 ⟨Nat.le_of_ble_eq_true rfl, Nat.le_of_ble_eq_true rfl⟩) hS (fun q _ h => hFc q h) hFc (fun r_14 u9 t9 H1 locs ht9 hvm9 hw9 hB9 hz9 hk9 hS => ?_)
  have hP : va_P (gD g) cl0 ws_11 H1 := by rw [← ht9]; exact hB9.1
  have h_r_14 := hw9
  clear hB9 hz9 hk9 hvm9 ht9 hw9
  generalize H1 = H at hP hS ⊢
  refine lv_istore_n (lv' := [(2, .int r_14), (0, .ref h0), (1, .int x1)]) hx hb dX7_isMethodType_20 rfl hl (by decide) rfl (fun ls hl => ?_)
  refine lv_aload_n hx hb dX7_isMethodType_21 rfl (lv_at hl 1 rfl) ?_
  refine lv_iload_n hx hb dX7_isMethodType_22 rfl (lv_at hl 2 rfl) ?_
  refine lv_iconst (v := 0) hx hb dX7_isMethodType_23 (by decide) ?_
  have hFc := gfree hD hS hA
  refine va_calli (va_runV (As := [.int x1, .int 0]) (rest := []) ⟨hx, hb, hml, hown, hts⟩ (m_X7_nameSign l g H.size ws_11 h0 (x1) (0) hG o_h0) (cwV 2 hts (gd_V kw_1350 kw_1412 kw_1413 kw_710 kw_1411) rfl rfl rfl (by decide +kernel) ⟨Nat.le_of_ble_eq_true rfl, Nat.le_of_ble_eq_true rfl⟩) ⟨gblind, va_recv hK hP (ci := 6) (q0 := k_1) rfl hk_1, fun U hU hW9 => gmk hU hW9 hP hK hD hex hE hS hFc⟩ rfl rfl hl.1 rfl (lv_room (Nat.le_of_ble_eq_true rfl)) dX7_isMethodType_24 ⟨Nat.le_of_ble_eq_true rfl, Nat.le_of_ble_eq_true rfl⟩) hS (fun q _ h => hFc q h) hFc (fun r_15 u9 t9 H1 locs ht9 hvm9 hw9 hB9 hz9 hk9 hS => ?_)
  have hP : va_P (gD g) cl0 ws_11 H1 := by rw [← ht9]; exact hB9.1
  have h_r_15 := hw9
  clear hB9 hz9 hk9 hvm9 ht9 hw9
  generalize H1 = H at hP hS ⊢
  refine lv_bipush (v := 40) hx hb dX7_isMethodType_27 (by decide) ?_
  refine lv_icmp_eq (tgt := 34) hx hb dX7_isMethodType_29 (by decide) (fun c_16 => ?_) (fun c_16 => ?_)
  · refine lv_iconst (v := 1) hx hb dX7_isMethodType_34 (by decide) ?_
    refine lv_istore_n (lv' := [(3, .int 1), (2, .int r_14), (0, .ref h0), (1, .int x1)]) hx hb dX7_isMethodType_35 rfl hl (by decide) rfl (fun ls hl => ?_)
    refine lv_aload_n hx hb dX7_isMethodType_36 rfl (lv_at hl 2 rfl) ?_
    refine lv_iload_n hx hb dX7_isMethodType_37 rfl (lv_at hl 3 rfl) ?_
    refine lv_iload_n hx hb dX7_isMethodType_38 rfl (lv_at hl 0 rfl) ?_
    have hFc := gfree hD hS hA
    refine va_calli (va_runV (As := [.int x1, .int 1]) (rest := []) ⟨hx, hb, hml, hown, hts⟩ (m_X7_kindOfPart l g H.size ws_11 h0 (x1) (1) hG o_h0) (cwV 2 hts (gd_V kw_1351 kw_1385 kw_1386 kw_710 kw_1384) rfl rfl rfl (by decide +kernel) ⟨Nat.le_of_ble_eq_true rfl, Nat.le_of_ble_eq_true rfl⟩) ⟨gblind, va_recv hK hP (ci := 6) (q0 := k_1) rfl hk_1, fun U hU hW9 => gmk hU hW9 hP hK hD hex hE hS hFc⟩ rfl rfl hl.1 rfl (lv_room (Nat.le_of_ble_eq_true rfl)) dX7_isMethodType_39 ⟨Nat.le_of_ble_eq_true rfl, Nat.le_of_ble_eq_true rfl⟩) hS (fun q _ h => hFc q h) hFc (fun r_17 u9 t9 H1 locs ht9 hvm9 hw9 hB9 hz9 hk9 hS => ?_)
    have hP : va_P (gD g) cl0 ws_11 H1 := by rw [← ht9]; exact hB9.1
    have h_r_17 := hw9
    clear hB9 hz9 hk9 hvm9 ht9 hw9
    generalize H1 = H at hP hS ⊢
    refine lv_istore (lv' := [(4, .int r_17), (3, .int 1), (2, .int r_14), (0, .ref h0), (1, .int x1)]) hx hb dX7_isMethodType_42 hl (by decide) rfl (fun ls hl => ?_)
    have J_44 : ∀ (n9 : Nat) (v3_18 : Int32) (v4_19 : Int32) (ws_21 : va_W) (H : Heap) (locs : List Loc) (ls : Array Slot), (2147483647 - v3_18.toInt).toNat = n9 → 0 ≤ v3_18.toInt → gE ws_11 ws_21 → gF [(6, 12), (6, 13)] ws_11 ws_21 → Good g ws_21 → va_P (gD g) cl0 ws_21 H → va_D A ws_21 → va_S A s.heap H locs → lv_has ls 5 [(0, .ref h0), (1, .int x1), (2, .int r_14), (3, .int v3_18), (4, .int v4_19)] → W p l e (headSpec (wt yX7_isMethodType cX7_isMethodType 5 (some .boolean)) ({ frames := 3, cells := 0, slots := 0, locals := 65 })).room s m ([.ref h0, .int x1] : List Value).toArray below meth c H locs 0 0 (MQ below (va_Qi (fun (r : Int32) (u9 : va_W) => r = 0 ∨ r = 1) (gQ1 g [(6, 12), (6, 13), (6, 14)] A ws) A) ([.ref h0, .int x1] : List Value).toArray s 0 0 A) (F0 m 44 ls []) := by
      intro n9
      induction n9 using Nat.strongRecOn with
      | ind n9 ih_44 =>
        intro v3_18 v4_19 ws_21 H locs ls hm9 iv_20 E_22 Fr_23 hG hP hD hS hl
        subst hm9
        have aa_24 := a_r0_1
        have aa_25 := a_r4_1
        have aa_26 := a_r9_1
        have aa_27 := a_r10_1
        have aa_28 := a_r11_1
        have o_h0 := E_22 _ _ o_h0
        refine lv_iload hx hb dX7_isMethodType_44 (lv_at hl 4 rfl) ?_
        have J_112 : ∀  (H : Heap) (locs : List Loc) (ls : Array Slot), va_P (gD g) cl0 ws_21 H → va_D A ws_21 → va_S A s.heap H locs → lv_has ls 5 [(0, .ref h0), (1, .int x1), (2, .int r_14), (3, .int v3_18)] → W p l e (headSpec (wt yX7_isMethodType cX7_isMethodType 5 (some .boolean)) ({ frames := 3, cells := 0, slots := 0, locals := 65 })).room s m ([.ref h0, .int x1] : List Value).toArray below meth c H locs 0 0 (MQ below (va_Qi (fun (r : Int32) (u9 : va_W) => r = 0 ∨ r = 1) (gQ1 g [(6, 12), (6, 13), (6, 14)] A ws) A) ([.ref h0, .int x1] : List Value).toArray s 0 0 A) (F0 m 112 ls []) := by
          intro  H locs ls  hP hD hS hl
          refine lv_iload_n hx hb dX7_isMethodType_112 rfl (lv_at hl 3 rfl) ?_
          refine lv_iconst (v := 1) hx hb dX7_isMethodType_113 (by decide) ?_
          refine lv_iadd hx hb dX7_isMethodType_114 ?_
          refine lv_topi (fun z_31 ez_31 => ?_)
          refine lv_iload_n hx hb dX7_isMethodType_115 rfl (lv_at hl 2 rfl) ?_
          have J_130 : ∀  (H : Heap) (locs : List Loc) (ls : Array Slot), va_P (gD g) cl0 ws_21 H → va_D A ws_21 → va_S A s.heap H locs → lv_has ls 5 [] → W p l e (headSpec (wt yX7_isMethodType cX7_isMethodType 5 (some .boolean)) ({ frames := 3, cells := 0, slots := 0, locals := 65 })).room s m ([.ref h0, .int x1] : List Value).toArray below meth c H locs 0 0 (MQ below (va_Qi (fun (r : Int32) (u9 : va_W) => r = 0 ∨ r = 1) (gQ1 g [(6, 12), (6, 13), (6, 14)] A ws) A) ([.ref h0, .int x1] : List Value).toArray s 0 0 A) (F0 m 130 ls []) := by
            intro  H locs ls  hP hD hS hl
            refine lv_iconst (v := 0) hx hb dX7_isMethodType_130 (by decide) ?_
            refine W.widen (k := 0) (n := 0) (Nat.le_of_ble_eq_true rfl) (Nat.le_of_ble_eq_true rfl) ?_
            exact W.zret (v := 0) hx hb hr (nz (Or.inl rfl)) (fun t9 ht9 hW9 => ⟨⟨_, ws_21, rfl, (Or.inl rfl), ⟨(E_4.tr (E_8.tr (E_12.tr E_22))), (gF.tr (gF.mo (F' := [(6, 12), (6, 13), (6, 14)]) Fr_5 (by decide)) (gF.tr (gF.mo (F' := [(6, 12), (6, 13), (6, 14)]) Fr_9 (by decide)) (gF.tr (gF.mo (F' := [(6, 12), (6, 13), (6, 14)]) Fr_13 (by decide)) (gF.mo (F' := [(6, 12), (6, 13), (6, 14)]) Fr_23 (by decide))))), hG, by rw [ht9]; exact hP, hD⟩⟩, hS.F ht9⟩) hS.2.2 dX7_isMethodType_131
          refine lv_icmp_ge (tgt := 130) hx hb dX7_isMethodType_116 (by decide) (fun c_34 => ?_) (fun c_34 => ?_)
          · exact J_130  H locs ls  hP hD hS (lv_sub hl [] rfl)
          · refine lv_aload_n hx hb dX7_isMethodType_119 rfl (lv_at hl 0 rfl) ?_
            refine lv_iload_n hx hb dX7_isMethodType_120 rfl (lv_at hl 1 rfl) ?_
            refine lv_iload_n hx hb dX7_isMethodType_121 rfl (lv_at hl 3 rfl) ?_
            have hFc := gfree hD hS hA
            obtain ⟨k_35, fs_35, hk_35⟩ := gC_of o_h0
            refine va_calli (va_runV (As := [.int x1, .int v3_18]) (rest := []) ⟨hx, hb, hml, hown, hts⟩ (m_X7_nameSign l g H.size ws_21 h0 (x1) (v3_18) hG o_h0) (cwV 2 hts (gd_V kw_1350 kw_1412 kw_1413 kw_710 kw_1411) rfl rfl rfl (by decide +kernel) ⟨Nat.le_of_ble_eq_true rfl, Nat.le_of_ble_eq_true rfl⟩) ⟨gblind, va_recv hK hP (ci := 6) (q0 := k_35) rfl hk_35, fun U hU hW9 => gmk hU hW9 hP hK hD hex hE hS hFc⟩ rfl rfl hl.1 rfl (lv_room (Nat.le_of_ble_eq_true rfl)) dX7_isMethodType_122 ⟨Nat.le_of_ble_eq_true rfl, Nat.le_of_ble_eq_true rfl⟩) hS (fun q _ h => hFc q h) hFc (fun r_36 u9 t9 H1 locs ht9 hvm9 hw9 hB9 hz9 hk9 hS => ?_)
            have hP : va_P (gD g) cl0 ws_21 H1 := by rw [← ht9]; exact hB9.1
            have h_r_36 := hw9
            clear hB9 hz9 hk9 hvm9 ht9 hw9
            generalize H1 = H at hP hS ⊢
            refine lv_bipush (v := 41) hx hb dX7_isMethodType_125 (by decide) ?_
            refine lv_icmp_eq (tgt := 132) hx hb dX7_isMethodType_127 (by decide) (fun c_37 => ?_) (fun c_37 => ?_)
            · obtain ⟨z_38, ez_38⟩ : ∃ z : Int32, v3_18 + Int32.ofInt 1 = z := ⟨_, rfl⟩
              refine lv_iinc (v := z_38) (lv' := [(3, .int z_38), (0, .ref h0), (1, .int x1), (2, .int r_14)]) hx hb dX7_isMethodType_132 hl (k := 3) rfl ez_38 (by decide) rfl (fun ls hl => ?_)
              refine lv_aload_n hx hb dX7_isMethodType_135 rfl (lv_at hl 1 rfl) ?_
              refine lv_aload_n hx hb dX7_isMethodType_136 rfl (lv_at hl 1 rfl) ?_
              refine lv_iload_n hx hb dX7_isMethodType_137 rfl (lv_at hl 2 rfl) ?_
              refine lv_iload_n hx hb dX7_isMethodType_138 rfl (lv_at hl 0 rfl) ?_
              have hFc := gfree hD hS hA
              obtain ⟨k_39, fs_39, hk_39⟩ := gC_of o_h0
              refine va_calli (va_runV (As := [.int x1, .int z_38]) (rest := [.ref h0]) ⟨hx, hb, hml, hown, hts⟩ (m_X7_kindOfPart l g H.size ws_21 h0 (x1) (z_38) hG o_h0) (cwV 2 hts (gd_V kw_1351 kw_1385 kw_1386 kw_710 kw_1384) rfl rfl rfl (by decide +kernel) ⟨Nat.le_of_ble_eq_true rfl, Nat.le_of_ble_eq_true rfl⟩) ⟨gblind, va_recv hK hP (ci := 6) (q0 := k_39) rfl hk_39, fun U hU hW9 => gmk hU hW9 hP hK hD hex hE hS hFc⟩ rfl rfl hl.1 rfl (lv_room (Nat.le_of_ble_eq_true rfl)) dX7_isMethodType_139 ⟨Nat.le_of_ble_eq_true rfl, Nat.le_of_ble_eq_true rfl⟩) hS (fun q _ h => hFc q h) hFc (fun r_40 u9 t9 H1 locs ht9 hvm9 hw9 hB9 hz9 hk9 hS => ?_)
              have hP : va_P (gD g) cl0 ws_21 H1 := by rw [← ht9]; exact hB9.1
              have h_r_40 := hw9
              clear hB9 hz9 hk9 hvm9 ht9 hw9
              generalize H1 = H at hP hS ⊢
              obtain ⟨fs9, hk_41, hq_41⟩ := (Fr_23) _ _ _ _ hk_1
              obtain ⟨r0_41, n0_41, c1_41, c2_41, c3_41, r4_41, n4_41, c5_41, c6_41, c7_41, c8_41, r9_41, n9_41, r10_41, n10_41, r11_41, n11_41, c12_41, c13_41, c14_41, c15_41, c16_41, rfl, a_r0_41, f1_41, a_r4_41, f3_41, a_r9_41, f5_41, a_r10_41, f7_41, a_r11_41, f9_41, f10_41, f11_41, f12_41, f13_41, f14_41, -⟩ := (hG.1 _ _ _ _ hk_41).hX7 rfl
              obtain rfl := fe_i (hq_41 14 (by decide))
              refine va_put (D := gD g) (ci := 6) (v := .int r_40) (ty := .int) (C := RX7) (T := TX7) (N := 17) hx hb hts inX7 tyX7 tyX7_ok nmX7 hown hK hP hD hS k_1 hk_41 rfl 14 (by decide) (hts _ kw_1348) (fun _ h9 => h9) rfl (by decide +kernel) rfl rfl (Nat.le_of_ble_eq_true rfl) dX7_isMethodType_142 (fun H locs hP hD hS => ?_)
              have hi_42 : invX7 g ws_21 h0 [.ref r0_41, .int c1_41, .int c2_41, .int c3_41, .ref r4_41, .int c5_41, .int c6_41, .int c7_41, .int c8_41, .ref r9_41, .ref r10_41, .ref r11_41, .int c12_41, .int c13_41, .int r_40, .int c15_41, .int c16_41] := ⟨r0_41, (n0_41), (c1_41), (c2_41), (c3_41), r4_41, (n4_41), (c5_41), (c6_41), (c7_41), (c8_41), r9_41, (n9_41), r10_41, (n10_41), r11_41, (n11_41), (c12_41), (c13_41), (r_40), (c15_41), (c16_41), rfl, a_r0_41, f1_41, a_r4_41, f3_41, a_r9_41, f5_41, a_r10_41, f7_41, a_r11_41, f9_41, f10_41, f11_41, f12_41, f13_41, f14_41, trivial⟩
              obtain ⟨ws_43, e_ws_43⟩ : ∃ z, z = ws_21.set k_1 (h0, .inr (6, [.ref r0_41, .int c1_41, .int c2_41, .int c3_41, .ref r4_41, .int c5_41, .int c6_41, .int c7_41, .int c8_41, .ref r9_41, .ref r10_41, .ref r11_41, .int c12_41, .int c13_41, .int r_40, .int c15_41, .int c16_41])) := ⟨_, rfl⟩
              have hP : va_P (gD g) cl0 ws_43 H := by rw [e_ws_43]; exact hP
              have hD : va_D A ws_43 := by rw [e_ws_43]; exact hD
              have E_44 : gE ws_21 ws_43 := gE_set e_ws_43 hk_41 rfl
              have hG : Good g ws_43 := Good_set e_ws_43 hk_41 hG (ivX7 hi_42)
              have Fr_45 : gF [(6, 14)] ws_21 ws_43 := gF_put (fi := 14) (v := .int r_40) e_ws_43 hk_41 rfl
              have hkN := gset_self e_ws_43 hk_41
              have hk_41 := hkN
              have o_h0 := E_44 _ _ o_h0
              have a_r0_41 := E_44 _ _ a_r0_41
              have a_r4_41 := E_44 _ _ a_r4_41
              have a_r9_41 := E_44 _ _ a_r9_41
              have a_r10_41 := E_44 _ _ a_r10_41
              have a_r11_41 := E_44 _ _ a_r11_41
              refine lv_aload_n hx hb dX7_isMethodType_145 rfl (lv_at hl 1 rfl) ?_
              refine va_get (D := gD g) (ci := 6) (v := .int r_40) (C := RX7) (T := TX7) (N := 17) hx hb hts inX7 hown hK hP k_1 hk_41 rfl 14 (by decide) (hts _ kw_1348) (fun _ h9 => h9) rfl dX7_isMethodType_146 ?_
              have J_165 : ∀  (H : Heap) (locs : List Loc) (ls : Array Slot), va_P (gD g) cl0 ws_43 H → va_D A ws_43 → va_S A s.heap H locs → lv_has ls 5 [(0, .ref h0), (2, .int r_14), (3, .int z_38)] → W p l e (headSpec (wt yX7_isMethodType cX7_isMethodType 5 (some .boolean)) ({ frames := 3, cells := 0, slots := 0, locals := 65 })).room s m ([.ref h0, .int x1] : List Value).toArray below meth c H locs 0 0 (MQ below (va_Qi (fun (r : Int32) (u9 : va_W) => r = 0 ∨ r = 1) (gQ1 g [(6, 12), (6, 13), (6, 14)] A ws) A) ([.ref h0, .int x1] : List Value).toArray s 0 0 A) (F0 m 165 ls []) := by
                intro  H locs ls  hP hD hS hl
                refine lv_iload_n hx hb dX7_isMethodType_165 rfl (lv_at hl 2 rfl) ?_
                refine lv_aload_n hx hb dX7_isMethodType_166 rfl (lv_at hl 0 rfl) ?_
                refine va_get (D := gD g) (ci := 6) (v := .int r_40) (C := RX7) (T := TX7) (N := 17) hx hb hts inX7 hown hK hP k_1 hk_41 rfl 14 (by decide) (hts _ kw_1348) (fun _ h9 => h9) rfl dX7_isMethodType_167 ?_
                refine lv_iconst (v := 3) hx hb dX7_isMethodType_170 (by decide) ?_
                have J_179 : ∀ (t_48 : Int32) (H : Heap) (locs : List Loc) (ls : Array Slot), 1 ≤ t_48.toInt ∧ t_48.toInt ≤ 2 → va_P (gD g) cl0 ws_43 H → va_D A ws_43 → va_S A s.heap H locs → lv_has ls 5 [(2, .int r_14)] → W p l e (headSpec (wt yX7_isMethodType cX7_isMethodType 5 (some .boolean)) ({ frames := 3, cells := 0, slots := 0, locals := 65 })).room s m ([.ref h0, .int x1] : List Value).toArray below meth c H locs 0 0 (MQ below (va_Qi (fun (r : Int32) (u9 : va_W) => r = 0 ∨ r = 1) (gQ1 g [(6, 12), (6, 13), (6, 14)] A ws) A) ([.ref h0, .int x1] : List Value).toArray s 0 0 A) (F0 m 179 ls [.int t_48, .int z_38]) := by
                  intro t_48 H locs ls iv_49 hP hD hS hl
                  refine lv_iadd hx hb dX7_isMethodType_179 ?_
                  refine lv_topi (fun z_52 ez_52 => ?_)
                  refine lv_iload_n hx hb dX7_isMethodType_180 rfl (lv_at hl 0 rfl) ?_
                  have J_189 : ∀ (t_53 : Int32) (H : Heap) (locs : List Loc) (ls : Array Slot), t_53 = 0 ∨ t_53 = 1 → va_P (gD g) cl0 ws_43 H → va_D A ws_43 → va_S A s.heap H locs → lv_has ls 5 [] → W p l e (headSpec (wt yX7_isMethodType cX7_isMethodType 5 (some .boolean)) ({ frames := 3, cells := 0, slots := 0, locals := 65 })).room s m ([.ref h0, .int x1] : List Value).toArray below meth c H locs 0 0 (MQ below (va_Qi (fun (r : Int32) (u9 : va_W) => r = 0 ∨ r = 1) (gQ1 g [(6, 12), (6, 13), (6, 14)] A ws) A) ([.ref h0, .int x1] : List Value).toArray s 0 0 A) (F0 m 189 ls [.int t_53]) := by
                    intro t_53 H locs ls iv_54 hP hD hS hl
                    have hz_t_53 := iv_54
                    refine W.widen (k := 0) (n := 0) (Nat.le_of_ble_eq_true rfl) (Nat.le_of_ble_eq_true rfl) ?_
                    exact W.zret (v := t_53) hx hb hr (nz hz_t_53) (fun t9 ht9 hW9 => ⟨⟨_, ws_43, rfl, hz_t_53, ⟨(E_4.tr (E_8.tr (E_12.tr (E_22.tr E_44)))), (gF.tr (gF.mo (F' := [(6, 12), (6, 13), (6, 14)]) Fr_5 (by decide)) (gF.tr (gF.mo (F' := [(6, 12), (6, 13), (6, 14)]) Fr_9 (by decide)) (gF.tr (gF.mo (F' := [(6, 12), (6, 13), (6, 14)]) Fr_13 (by decide)) (gF.tr (gF.mo (F' := [(6, 12), (6, 13), (6, 14)]) Fr_23 (by decide)) (gF.mo (F' := [(6, 12), (6, 13), (6, 14)]) Fr_45 (by decide)))))), hG, by rw [ht9]; exact hP, hD⟩⟩, hS.F ht9⟩) hS.2.2 dX7_isMethodType_189
                  refine lv_icmp_ne (tgt := 188) hx hb dX7_isMethodType_181 (by decide) (fun c_57 => ?_) (fun c_57 => ?_)
                  · refine lv_iconst (v := 0) hx hb dX7_isMethodType_188 (by decide) ?_
                    exact J_189 (0) H locs ls (Or.inl rfl) hP hD hS (lv_sub hl [] rfl)
                  · refine lv_iconst (v := 1) hx hb dX7_isMethodType_184 (by decide) ?_
                    refine lv_goto (tgt := 189) hx hb dX7_isMethodType_185 (by decide) ?_
                    exact J_189 (1) H locs ls (Or.inr rfl) hP hD hS (lv_sub hl [] rfl)
                refine lv_icmp_ne (tgt := 178) hx hb dX7_isMethodType_171 (by decide) (fun c_58 => ?_) (fun c_58 => ?_)
                · refine lv_iconst (v := 1) hx hb dX7_isMethodType_178 (by decide) ?_
                  exact J_179 (1) H locs ls (by have e1 : (1 : Int32).toInt = 1 := (by decide); have g_x1 := i_rg x1; omega) hP hD hS (lv_sub hl [1] rfl)
                · refine lv_iconst (v := 2) hx hb dX7_isMethodType_174 (by decide) ?_
                  refine lv_goto (tgt := 179) hx hb dX7_isMethodType_175 (by decide) ?_
                  exact J_179 (2) H locs ls (by have e2 : (2 : Int32).toInt = 2 := (by decide); have g_x1 := i_rg x1; omega) hP hD hS (lv_sub hl [1] rfl)
              refine lv_if_ne (tgt := 165) hx hb dX7_isMethodType_149 (by decide) (fun c_59 => ?_) (fun c_59 => ?_)
              · exact J_165  H locs ls  hP hD hS (lv_sub hl [1, 3, 0] rfl)
              · refine lv_aload_n hx hb dX7_isMethodType_152 rfl (lv_at hl 1 rfl) ?_
                refine lv_iload_n hx hb dX7_isMethodType_153 rfl (lv_at hl 2 rfl) ?_
                refine lv_iload_n hx hb dX7_isMethodType_154 rfl (lv_at hl 0 rfl) ?_
                have hFc := gfree hD hS hA
                refine va_calli (va_runV (As := [.int x1, .int z_38]) (rest := []) ⟨hx, hb, hml, hown, hts⟩ (m_X7_nameSign l g H.size ws_43 h0 (x1) (z_38) hG o_h0) (cwV 2 hts (gd_V kw_1350 kw_1412 kw_1413 kw_710 kw_1411) rfl rfl rfl (by decide +kernel) ⟨Nat.le_of_ble_eq_true rfl, Nat.le_of_ble_eq_true rfl⟩) ⟨gblind, va_recv hK hP (ci := 6) (q0 := k_1) rfl hk_41, fun U hU hW9 => gmk hU hW9 hP hK hD hex hE hS hFc⟩ rfl rfl hl.1 rfl (lv_room (Nat.le_of_ble_eq_true rfl)) dX7_isMethodType_155 ⟨Nat.le_of_ble_eq_true rfl, Nat.le_of_ble_eq_true rfl⟩) hS (fun q _ h => hFc q h) hFc (fun r_60 u9 t9 H1 locs ht9 hvm9 hw9 hB9 hz9 hk9 hS => ?_)
                have hP : va_P (gD g) cl0 ws_43 H1 := by rw [← ht9]; exact hB9.1
                have h_r_60 := hw9
                clear hB9 hz9 hk9 hvm9 ht9 hw9
                generalize H1 = H at hP hS ⊢
                refine lv_bipush (v := 86) hx hb dX7_isMethodType_158 (by decide) ?_
                refine lv_icmp_eq (tgt := 165) hx hb dX7_isMethodType_160 (by decide) (fun c_61 => ?_) (fun c_61 => ?_)
                · exact J_165  H locs ls  hP hD hS (lv_sub hl [1, 3, 0] rfl)
                · refine lv_iconst (v := 0) hx hb dX7_isMethodType_163 (by decide) ?_
                  refine W.widen (k := 0) (n := 0) (Nat.le_of_ble_eq_true rfl) (Nat.le_of_ble_eq_true rfl) ?_
                  exact W.zret (v := 0) hx hb hr (nz (Or.inl rfl)) (fun t9 ht9 hW9 => ⟨⟨_, ws_43, rfl, (Or.inl rfl), ⟨(E_4.tr (E_8.tr (E_12.tr (E_22.tr E_44)))), (gF.tr (gF.mo (F' := [(6, 12), (6, 13), (6, 14)]) Fr_5 (by decide)) (gF.tr (gF.mo (F' := [(6, 12), (6, 13), (6, 14)]) Fr_9 (by decide)) (gF.tr (gF.mo (F' := [(6, 12), (6, 13), (6, 14)]) Fr_13 (by decide)) (gF.tr (gF.mo (F' := [(6, 12), (6, 13), (6, 14)]) Fr_23 (by decide)) (gF.mo (F' := [(6, 12), (6, 13), (6, 14)]) Fr_45 (by decide)))))), hG, by rw [ht9]; exact hP, hD⟩⟩, hS.F ht9⟩) hS.2.2 dX7_isMethodType_164
            · exact J_130  H locs ls  hP hD hS (lv_sub hl [] rfl)
        refine lv_if_eq (tgt := 112) hx hb dX7_isMethodType_46 (by decide) (fun c_62 => ?_) (fun c_62 => ?_)
        · exact J_112  H locs ls  hP hD hS (lv_sub hl [0, 1, 2, 3] rfl)
        · refine lv_iload_n hx hb dX7_isMethodType_49 rfl (lv_at hl 3 rfl) ?_
          refine lv_iload_n hx hb dX7_isMethodType_50 rfl (lv_at hl 2 rfl) ?_
          refine lv_icmp_ge (tgt := 112) hx hb dX7_isMethodType_51 (by decide) (fun c_63 => ?_) (fun c_63 => ?_)
          · exact J_112  H locs ls  hP hD hS (lv_sub hl [0, 1, 2, 3] rfl)
          · refine lv_aload_n hx hb dX7_isMethodType_54 rfl (lv_at hl 0 rfl) ?_
            refine lv_aload_n hx hb dX7_isMethodType_55 rfl (lv_at hl 0 rfl) ?_
            obtain ⟨fs9, hk_64, hq_64⟩ := (Fr_23) _ _ _ _ hk_1
            obtain ⟨r0_64, n0_64, c1_64, c2_64, c3_64, r4_64, n4_64, c5_64, c6_64, c7_64, c8_64, r9_64, n9_64, r10_64, n10_64, r11_64, n11_64, c12_64, c13_64, c14_64, c15_64, c16_64, rfl, a_r0_64, f1_64, a_r4_64, f3_64, a_r9_64, f5_64, a_r10_64, f7_64, a_r11_64, f9_64, f10_64, f11_64, f12_64, f13_64, f14_64, -⟩ := (hG.1 _ _ _ _ hk_64).hX7 rfl
            obtain rfl := fe_i (hq_64 14 (by decide))
            refine va_get (D := gD g) (ci := 6) (v := .int c12_64) (C := RX7) (T := TX7) (N := 17) hx hb hts inX7 hown hK hP k_1 hk_64 rfl 12 (by decide) (hts _ kw_1346) (fun _ h9 => h9) rfl dX7_isMethodType_56 ?_
            refine lv_iconst (v := 4) hx hb dX7_isMethodType_59 (by decide) ?_
            refine lv_ishl hx hb dX7_isMethodType_60 ?_
            refine lv_topi (fun z_65 ez_65 => ?_)
            refine lv_iload hx hb dX7_isMethodType_61 (lv_at hl 4 rfl) ?_
            refine lv_ior hx hb dX7_isMethodType_63 ?_
            refine lv_topi (fun z_66 ez_66 => ?_)
            refine va_put (D := gD g) (ci := 6) (v := .int z_66) (ty := .int) (C := RX7) (T := TX7) (N := 17) hx hb hts inX7 tyX7 tyX7_ok nmX7 hown hK hP hD hS k_1 hk_64 rfl 12 (by decide) (hts _ kw_1346) (fun _ h9 => h9) rfl (by decide +kernel) rfl rfl (Nat.le_of_ble_eq_true rfl) dX7_isMethodType_64 (fun H locs hP hD hS => ?_)
            have hi_67 : invX7 g ws_21 h0 [.ref r0_64, .int c1_64, .int c2_64, .int c3_64, .ref r4_64, .int c5_64, .int c6_64, .int c7_64, .int c8_64, .ref r9_64, .ref r10_64, .ref r11_64, .int z_66, .int c13_64, .int 0, .int c15_64, .int c16_64] := ⟨r0_64, (n0_64), (c1_64), (c2_64), (c3_64), r4_64, (n4_64), (c5_64), (c6_64), (c7_64), (c8_64), r9_64, (n9_64), r10_64, (n10_64), r11_64, (n11_64), (z_66), (c13_64), (0), (c15_64), (c16_64), rfl, a_r0_64, f1_64, a_r4_64, f3_64, a_r9_64, f5_64, a_r10_64, f7_64, a_r11_64, f9_64, f10_64, f11_64, f12_64, f13_64, f14_64, trivial⟩
            obtain ⟨ws_68, e_ws_68⟩ : ∃ z, z = ws_21.set k_1 (h0, .inr (6, [.ref r0_64, .int c1_64, .int c2_64, .int c3_64, .ref r4_64, .int c5_64, .int c6_64, .int c7_64, .int c8_64, .ref r9_64, .ref r10_64, .ref r11_64, .int z_66, .int c13_64, .int 0, .int c15_64, .int c16_64])) := ⟨_, rfl⟩
            have hP : va_P (gD g) cl0 ws_68 H := by rw [e_ws_68]; exact hP
            have hD : va_D A ws_68 := by rw [e_ws_68]; exact hD
            have E_69 : gE ws_21 ws_68 := gE_set e_ws_68 hk_64 rfl
            have hG : Good g ws_68 := Good_set e_ws_68 hk_64 hG (ivX7 hi_67)
            have Fr_70 : gF [(6, 12)] ws_21 ws_68 := gF_put (fi := 12) (v := .int z_66) e_ws_68 hk_64 rfl
            have hkN := gset_self e_ws_68 hk_64
            have hk_64 := hkN
            have o_h0 := E_69 _ _ o_h0
            have a_r0_64 := E_69 _ _ a_r0_64
            have a_r4_64 := E_69 _ _ a_r4_64
            have a_r9_64 := E_69 _ _ a_r9_64
            have a_r10_64 := E_69 _ _ a_r10_64
            have a_r11_64 := E_69 _ _ a_r11_64
            refine lv_aload_n hx hb dX7_isMethodType_67 rfl (lv_at hl 0 rfl) ?_
            refine lv_dup hx hb dX7_isMethodType_68 rfl ?_
            refine va_get (D := gD g) (ci := 6) (v := .int c13_64) (C := RX7) (T := TX7) (N := 17) hx hb hts inX7 hown hK hP k_1 hk_64 rfl 13 (by decide) (hts _ kw_1347) (fun _ h9 => h9) rfl dX7_isMethodType_69 ?_
            refine lv_iload hx hb dX7_isMethodType_72 (lv_at hl 4 rfl) ?_
            refine lv_iconst (v := 2) hx hb dX7_isMethodType_74 (by decide) ?_
            have J_83 : ∀ (t_71 : Int32) (H : Heap) (locs : List Loc) (ls : Array Slot), 1 ≤ t_71.toInt ∧ t_71.toInt ≤ 2 → va_P (gD g) cl0 ws_68 H → va_D A ws_68 → va_S A s.heap H locs → lv_has ls 5 [(0, .ref h0), (1, .int x1), (2, .int r_14), (3, .int v3_18), (4, .int v4_19)] → W p l e (headSpec (wt yX7_isMethodType cX7_isMethodType 5 (some .boolean)) ({ frames := 3, cells := 0, slots := 0, locals := 65 })).room s m ([.ref h0, .int x1] : List Value).toArray below meth c H locs 0 0 (MQ below (va_Qi (fun (r : Int32) (u9 : va_W) => r = 0 ∨ r = 1) (gQ1 g [(6, 12), (6, 13), (6, 14)] A ws) A) ([.ref h0, .int x1] : List Value).toArray s 0 0 A) (F0 m 83 ls [.int t_71, .int c13_64, .ref h0]) := by
              intro t_71 H locs ls iv_72 hP hD hS hl
              refine lv_iadd hx hb dX7_isMethodType_83 ?_
              refine lv_topi (fun z_75 ez_75 => ?_)
              refine va_put (D := gD g) (ci := 6) (v := .int z_75) (ty := .int) (C := RX7) (T := TX7) (N := 17) hx hb hts inX7 tyX7 tyX7_ok nmX7 hown hK hP hD hS k_1 hk_64 rfl 13 (by decide) (hts _ kw_1347) (fun _ h9 => h9) rfl (by decide +kernel) rfl rfl (Nat.le_of_ble_eq_true rfl) dX7_isMethodType_84 (fun H locs hP hD hS => ?_)
              have hi_76 : invX7 g ws_68 h0 [.ref r0_64, .int c1_64, .int c2_64, .int c3_64, .ref r4_64, .int c5_64, .int c6_64, .int c7_64, .int c8_64, .ref r9_64, .ref r10_64, .ref r11_64, .int z_66, .int z_75, .int 0, .int c15_64, .int c16_64] := ⟨r0_64, (n0_64), (c1_64), (c2_64), (c3_64), r4_64, (n4_64), (c5_64), (c6_64), (c7_64), (c8_64), r9_64, (n9_64), r10_64, (n10_64), r11_64, (n11_64), (z_66), (z_75), (0), (c15_64), (c16_64), rfl, a_r0_64, f1_64, a_r4_64, f3_64, a_r9_64, f5_64, a_r10_64, f7_64, a_r11_64, f9_64, f10_64, f11_64, f12_64, f13_64, f14_64, trivial⟩
              obtain ⟨ws_77, e_ws_77⟩ : ∃ z, z = ws_68.set k_1 (h0, .inr (6, [.ref r0_64, .int c1_64, .int c2_64, .int c3_64, .ref r4_64, .int c5_64, .int c6_64, .int c7_64, .int c8_64, .ref r9_64, .ref r10_64, .ref r11_64, .int z_66, .int z_75, .int 0, .int c15_64, .int c16_64])) := ⟨_, rfl⟩
              have hP : va_P (gD g) cl0 ws_77 H := by rw [e_ws_77]; exact hP
              have hD : va_D A ws_77 := by rw [e_ws_77]; exact hD
              have E_78 : gE ws_68 ws_77 := gE_set e_ws_77 hk_64 rfl
              have hG : Good g ws_77 := Good_set e_ws_77 hk_64 hG (ivX7 hi_76)
              have Fr_79 : gF [(6, 13)] ws_68 ws_77 := gF_put (fi := 13) (v := .int z_75) e_ws_77 hk_64 rfl
              have hkN := gset_self e_ws_77 hk_64
              have hk_64 := hkN
              have o_h0 := E_78 _ _ o_h0
              have a_r0_64 := E_78 _ _ a_r0_64
              have a_r4_64 := E_78 _ _ a_r4_64
              have a_r9_64 := E_78 _ _ a_r9_64
              have a_r10_64 := E_78 _ _ a_r10_64
              have a_r11_64 := E_78 _ _ a_r11_64
              refine lv_iload_n hx hb dX7_isMethodType_87 rfl (lv_at hl 3 rfl) ?_
              refine lv_iload hx hb dX7_isMethodType_88 (lv_at hl 4 rfl) ?_
              refine lv_iconst (v := 3) hx hb dX7_isMethodType_90 (by decide) ?_
              have J_99 : ∀ (t_80 : Int32) (H : Heap) (locs : List Loc) (ls : Array Slot), 1 ≤ t_80.toInt ∧ t_80.toInt ≤ 2 → va_P (gD g) cl0 ws_77 H → va_D A ws_77 → va_S A s.heap H locs → lv_has ls 5 [(0, .ref h0), (1, .int x1), (2, .int r_14)] → W p l e (headSpec (wt yX7_isMethodType cX7_isMethodType 5 (some .boolean)) ({ frames := 3, cells := 0, slots := 0, locals := 65 })).room s m ([.ref h0, .int x1] : List Value).toArray below meth c H locs 0 0 (MQ below (va_Qi (fun (r : Int32) (u9 : va_W) => r = 0 ∨ r = 1) (gQ1 g [(6, 12), (6, 13), (6, 14)] A ws) A) ([.ref h0, .int x1] : List Value).toArray s 0 0 A) (F0 m 99 ls [.int t_80, .int v3_18]) := by
                intro t_80 H locs ls iv_81 hP hD hS hl
                refine lv_iadd hx hb dX7_isMethodType_99 ?_
                refine lv_topi (fun z_84 ez_84 => ?_)
                refine lv_istore_n (lv' := [(3, .int z_84), (0, .ref h0), (1, .int x1), (2, .int r_14)]) hx hb dX7_isMethodType_100 rfl hl (by decide) rfl (fun ls hl => ?_)
                refine lv_aload_n hx hb dX7_isMethodType_101 rfl (lv_at hl 1 rfl) ?_
                refine lv_iload_n hx hb dX7_isMethodType_102 rfl (lv_at hl 2 rfl) ?_
                refine lv_iload_n hx hb dX7_isMethodType_103 rfl (lv_at hl 0 rfl) ?_
                have hFc := gfree hD hS hA
                refine va_calli (va_runV (As := [.int x1, .int z_84]) (rest := []) ⟨hx, hb, hml, hown, hts⟩ (m_X7_kindOfPart l g H.size ws_77 h0 (x1) (z_84) hG o_h0) (cwV 2 hts (gd_V kw_1351 kw_1385 kw_1386 kw_710 kw_1384) rfl rfl rfl (by decide +kernel) ⟨Nat.le_of_ble_eq_true rfl, Nat.le_of_ble_eq_true rfl⟩) ⟨gblind, va_recv hK hP (ci := 6) (q0 := k_1) rfl hk_64, fun U hU hW9 => gmk hU hW9 hP hK hD hex hE hS hFc⟩ rfl rfl hl.1 rfl (lv_room (Nat.le_of_ble_eq_true rfl)) dX7_isMethodType_104 ⟨Nat.le_of_ble_eq_true rfl, Nat.le_of_ble_eq_true rfl⟩) hS (fun q _ h => hFc q h) hFc (fun r_85 u9 t9 H1 locs ht9 hvm9 hw9 hB9 hz9 hk9 hS => ?_)
                have hP : va_P (gD g) cl0 ws_77 H1 := by rw [← ht9]; exact hB9.1
                have h_r_85 := hw9
                clear hB9 hz9 hk9 hvm9 ht9 hw9
                generalize H1 = H at hP hS ⊢
                refine lv_istore (lv' := [(4, .int r_85), (3, .int z_84), (0, .ref h0), (1, .int x1), (2, .int r_14)]) hx hb dX7_isMethodType_107 hl (by decide) rfl (fun ls hl => ?_)
                refine lv_goto (tgt := 44) hx hb dX7_isMethodType_109 (by decide) ?_
                exact ih_44 _ (by obtain ⟨u_z_84, q_z_84⟩ := i_add ez_84; have q_r_85 := h_r_85; have q_iv_20 := iv_20; have q_c_63 := i_nle c_63; have q_iv_81 := iv_81; have q_r_14 := h_r_14; have g_r_14 := i_rg r_14; have g_r_85 := i_rg r_85; have g_t_80 := i_rg t_80; have g_v3_18 := i_rg v3_18; have g_z_84 := i_rg z_84; omega) (z_84) (r_85) ws_77 H locs ls rfl (by have q_r_14 := h_r_14; have q_c_63 := i_nle c_63; obtain ⟨u_z_84, q_z_84⟩ := i_add ez_84; have q_r_85 := h_r_85; have q_iv_20 := iv_20; have q_iv_81 := iv_81; have g_r_14 := i_rg r_14; have g_r_85 := i_rg r_85; have g_t_80 := i_rg t_80; have g_v3_18 := i_rg v3_18; have g_x1 := i_rg x1; have g_z_84 := i_rg z_84; omega) ((E_22.tr (E_69.tr E_78))) ((gF.tr Fr_23 (gF.tr (gF.mo (F' := [(6, 12), (6, 13)]) Fr_70 (by decide)) (gF.mo (F' := [(6, 12), (6, 13)]) Fr_79 (by decide))))) hG hP hD hS (lv_sub hl [2, 3, 4, 1, 0] rfl)
              refine lv_icmp_ne (tgt := 98) hx hb dX7_isMethodType_91 (by decide) (fun c_86 => ?_) (fun c_86 => ?_)
              · refine lv_iconst (v := 1) hx hb dX7_isMethodType_98 (by decide) ?_
                exact J_99 (1) H locs ls (by have e1 : (1 : Int32).toInt = 1 := (by decide); have g_x1 := i_rg x1; omega) hP hD hS (lv_sub hl [0, 1, 2] rfl)
              · refine lv_iconst (v := 2) hx hb dX7_isMethodType_94 (by decide) ?_
                refine lv_goto (tgt := 99) hx hb dX7_isMethodType_95 (by decide) ?_
                exact J_99 (2) H locs ls (by have e2 : (2 : Int32).toInt = 2 := (by decide); have g_x1 := i_rg x1; omega) hP hD hS (lv_sub hl [0, 1, 2] rfl)
            refine lv_icmp_ne (tgt := 82) hx hb dX7_isMethodType_75 (by decide) (fun c_87 => ?_) (fun c_87 => ?_)
            · refine lv_iconst (v := 1) hx hb dX7_isMethodType_82 (by decide) ?_
              exact J_83 (1) H locs ls (by have e1 : (1 : Int32).toInt = 1 := (by decide); have g_x1 := i_rg x1; omega) hP hD hS (lv_sub hl [0, 1, 2, 3, 4] rfl)
            · refine lv_iconst (v := 2) hx hb dX7_isMethodType_78 (by decide) ?_
              refine lv_goto (tgt := 83) hx hb dX7_isMethodType_79 (by decide) ?_
              exact J_83 (2) H locs ls (by have e2 : (2 : Int32).toInt = 2 := (by decide); have g_x1 := i_rg x1; omega) hP hD hS (lv_sub hl [0, 1, 2, 3, 4] rfl)
    exact J_44 _ (1) (r_17) ws_11 H locs ls rfl (by have e1 : (1 : Int32).toInt = 1 := (by decide); have q_r_14 := h_r_14; have q_r_17 := h_r_17; have g_r_14 := i_rg r_14; have g_r_17 := i_rg r_17; have g_x1 := i_rg x1; omega) (gE.rf) (gF.rf) hG hP hD hS (lv_sub hl [3, 4, 2, 1, 0] rfl)
  · refine lv_iconst (v := 0) hx hb dX7_isMethodType_32 (by decide) ?_
    refine W.widen (k := 0) (n := 0) (Nat.le_of_ble_eq_true rfl) (Nat.le_of_ble_eq_true rfl) ?_
    exact W.zret (v := 0) hx hb hr (nz (Or.inl rfl)) (fun t9 ht9 hW9 => ⟨⟨_, ws_11, rfl, (Or.inl rfl), ⟨(E_4.tr (E_8.tr E_12)), (gF.tr (gF.mo (F' := [(6, 12), (6, 13), (6, 14)]) Fr_5 (by decide)) (gF.tr (gF.mo (F' := [(6, 12), (6, 13), (6, 14)]) Fr_9 (by decide)) (gF.mo (F' := [(6, 12), (6, 13), (6, 14)]) Fr_13 (by decide)))), hG, by rw [ht9]; exact hP, hD⟩⟩, hS.F ht9⟩) hS.2.2 dX7_isMethodType_33
set_option maxHeartbeats 1000000 in
set_option maxRecDepth 100000 in
theorem m_X7_isSameName (l : Launch) (g : Gm) (sz : Nat) (ws : va_W) (h0 : Nat) (x1 : Int32) (x2 : Int32) (hG : Good g ws) (o_h0 : gC ws h0 6) : Met l yX7_isSameName (wt yX7_isSameName cX7_isSameName 7 (some .boolean)) ({ frames := 1, cells := 0, slots := 0, locals := 21 }) (va_Pc [.ref h0, .int x1, .int x2] (st_G g sz ws)) (va_Qi (fun (r : Int32) (u9 : Unit) => r = 0 ∨ r = 1) (gQ0 g (va_A ws sz) ws) (va_A ws sz)) 0 0 (va_A ws sz) := by
  refine Met.ofW (cc := cX7_isSameName) (maxL := 7) (ret := (some .boolean)) (by decide) rfl ?_
  intro p e s m args below meth c s₁ B hml hv
  obtain ⟨rfl, hsz, hP, hK, hD0, hex, hE⟩ := hv
  have hx := B.exec
  have hb := B.bytes
  have hr := B.returns
  have hts0 := atoms_spec (ws := wt yX7_isSameName cX7_isSameName 7 (some .boolean)) B.pre
  have hts : ∀ w ∈ tb, w.before _ s = true := fun w h => hts0 w (List.mem_cons_of_mem _ h)
  have hown : s.vm.findClass RX7 = some m.cls := findClass_of_methodNamed B.named
  subst hsz
  have hD := hD0.self (sz := s.heap.size)
  generalize hAe : va_A ws s.heap.size = A at hD hE ⊢
  have hA : ∀ q : Nat, s.heap.size ≤ q → A q := fun q h => by rw [← hAe]; exact Or.inr h
  have hS : va_S A s.heap s.heap [] := va_S.rf
  have hl := lv_entry ([.ref h0, .int x1, .int x2]) (n := 7) (Nat.le_of_ble_eq_true rfl)
  rw [lg_entry_eq]
  generalize (lg_sl ([.ref h0, .int x1, .int x2]) ++ List.replicate (7 - (lg_sl ([.ref h0, .int x1, .int x2])).length) Slot.unset).toArray = ls at hl ⊢
  have hl : lv_has ls 7 [(0, .ref h0), (1, .int x1), (2, .int x2)] := hl
  refine lv_aload_n hx hb dX7_isSameName_0 rfl (lv_at hl 0 rfl) ?_
  refine lv_iload_n hx hb dX7_isSameName_1 rfl (lv_at hl 1 rfl) ?_
  have hFc := gfree hD hS hA
  obtain ⟨k_1, fs_1, hk_1⟩ := gC_of o_h0
  refine va_calli (va_runV (As := [.int x1]) (rest := []) ⟨hx, hb, hml, hown, hts⟩ (m_X7_entryAt l g s.heap.size ws h0 (x1) hG o_h0) (cwV 1 hts (gd_V kw_1296 kw_1298 kw_1299 kw_710 kw_1297) rfl rfl rfl (by decide +kernel) ⟨Nat.le_of_ble_eq_true rfl, Nat.le_of_ble_eq_true rfl⟩) ⟨gblind, va_recv hK hP (ci := 6) (q0 := k_1) rfl hk_1, fun U hU hW9 => gmk hU hW9 hP hK hD hex hE hS hFc⟩ rfl rfl hl.1 rfl (lv_room (Nat.le_of_ble_eq_true rfl)) dX7_isSameName_2 ⟨Nat.le_of_ble_eq_true rfl, Nat.le_of_ble_eq_true rfl⟩) hS (fun q _ h => hFc q h) hFc (fun r_2 u9 t9 H1 locs ht9 hvm9 hw9 hB9 hz9 hk9 hS => ?_)
  have hP : va_P (gD g) cl0 ws H1 := by rw [← ht9]; exact hB9.1
  clear hB9 hz9 hk9 hvm9 ht9 hw9
  generalize H1 = H at hP hS ⊢
  refine lv_istore_n (lv' := [(3, .int r_2), (0, .ref h0), (1, .int x1), (2, .int x2)]) hx hb dX7_isSameName_5 rfl hl (by decide) rfl (fun ls hl => ?_)
  refine lv_aload_n hx hb dX7_isSameName_6 rfl (lv_at hl 1 rfl) ?_
  refine lv_iload_n hx hb dX7_isSameName_7 rfl (lv_at hl 3 rfl) ?_
  have hFc := gfree hD hS hA
  obtain ⟨k_3, fs_3, hk_3⟩ := gC_of o_h0
  refine va_calli (va_runV (As := [.int x2]) (rest := []) ⟨hx, hb, hml, hown, hts⟩ (m_X7_entryAt l g H.size ws h0 (x2) hG o_h0) (cwV 1 hts (gd_V kw_1296 kw_1298 kw_1299 kw_710 kw_1297) rfl rfl rfl (by decide +kernel) ⟨Nat.le_of_ble_eq_true rfl, Nat.le_of_ble_eq_true rfl⟩) ⟨gblind, va_recv hK hP (ci := 6) (q0 := k_3) rfl hk_3, fun U hU hW9 => gmk hU hW9 hP hK hD hex hE hS hFc⟩ rfl rfl hl.1 rfl (lv_room (Nat.le_of_ble_eq_true rfl)) dX7_isSameName_8 ⟨Nat.le_of_ble_eq_true rfl, Nat.le_of_ble_eq_true rfl⟩) hS (fun q _ h => hFc q h) hFc (fun r_4 u9 t9 H1 locs ht9 hvm9 hw9 hB9 hz9 hk9 hS => ?_)
  have hP : va_P (gD g) cl0 ws H1 := by rw [← ht9]; exact hB9.1
  clear hB9 hz9 hk9 hvm9 ht9 hw9
  generalize H1 = H at hP hS ⊢
  refine lv_istore (lv' := [(4, .int r_4), (3, .int r_2), (0, .ref h0), (1, .int x1), (2, .int x2)]) hx hb dX7_isSameName_11 hl (by decide) rfl (fun ls hl => ?_)
  refine lv_aload_n hx hb dX7_isSameName_13 rfl (lv_at hl 2 rfl) ?_
  refine lv_iload_n hx hb dX7_isSameName_14 rfl (lv_at hl 1 rfl) ?_
  refine lv_iconst (v := 1) hx hb dX7_isSameName_15 (by decide) ?_
  refine lv_iadd hx hb dX7_isSameName_16 ?_
  refine lv_topi (fun z_5 ez_5 => ?_)
  have hFc := gfree hD hS hA
  obtain ⟨k_6, fs_6, hk_6⟩ := gC_of o_h0
  refine va_calli (va_runV (As := [.int z_5]) (rest := []) ⟨hx, hb, hml, hown, hts⟩ (m_X7_u2 l g H.size ws h0 (z_5) hG o_h0) (cwV 1 hts (gd_V kw_1266 kw_1450 kw_1451 kw_710 kw_1449) rfl rfl rfl (by decide +kernel) ⟨Nat.le_of_ble_eq_true rfl, Nat.le_of_ble_eq_true rfl⟩) ⟨gblind, va_recv hK hP (ci := 6) (q0 := k_6) rfl hk_6, fun U hU hW9 => gmk hU hW9 hP hK hD hex hE hS hFc⟩ rfl rfl hl.1 rfl (lv_room (Nat.le_of_ble_eq_true rfl)) dX7_isSameName_17 ⟨Nat.le_of_ble_eq_true rfl, Nat.le_of_ble_eq_true rfl⟩) hS (fun q _ h => hFc q h) hFc (fun r_7 u9 t9 H1 locs ht9 hvm9 hw9 hB9 hz9 hk9 hS => ?_)
  have hP : va_P (gD g) cl0 ws H1 := by rw [← ht9]; exact hB9.1
  have h_r_7 := hw9
  clear hB9 hz9 hk9 hvm9 ht9 hw9
  generalize H1 = H at hP hS ⊢
  refine lv_istore (lv' := [(5, .int r_7), (4, .int r_4), (3, .int r_2), (0, .ref h0), (1, .int x1), (2, .int x2)]) hx hb dX7_isSameName_20 hl (by decide) rfl (fun ls hl => ?_)
  refine lv_iconst (v := 1) hx hb dX7_isSameName_22 (by decide) ?_
  refine lv_istore (lv' := [(6, .int 1), (5, .int r_7), (4, .int r_4), (3, .int r_2), (0, .ref h0), (1, .int x1), (2, .int x2)]) hx hb dX7_isSameName_23 hl (by decide) rfl (fun ls hl => ?_)
  have J_25 : ∀ (n9 : Nat) (v6_8 : Int32) (H : Heap) (locs : List Loc) (ls : Array Slot), (2147483647 - v6_8.toInt).toNat = n9 → 0 ≤ v6_8.toInt → va_P (gD g) cl0 ws H → va_D A ws → va_S A s.heap H locs → lv_has ls 7 [(0, .ref h0), (3, .int r_2), (4, .int r_4), (5, .int r_7), (6, .int v6_8)] → W p l e (headSpec (wt yX7_isSameName cX7_isSameName 7 (some .boolean)) ({ frames := 1, cells := 0, slots := 0, locals := 21 })).room s m ([.ref h0, .int x1, .int x2] : List Value).toArray below meth c H locs 0 0 (MQ below (va_Qi (fun (r : Int32) (u9 : Unit) => r = 0 ∨ r = 1) (gQ0 g A ws) A) ([.ref h0, .int x1, .int x2] : List Value).toArray s 0 0 A) (F0 m 25 ls []) := by
    intro n9
    induction n9 using Nat.strongRecOn with
    | ind n9 ih_25 =>
      intro v6_8 H locs ls hm9 iv_9 hP hD hS hl
      subst hm9
      refine lv_iload hx hb dX7_isSameName_25 (lv_at hl 4 rfl) ?_
      refine lv_iconst (v := 3) hx hb dX7_isSameName_27 (by decide) ?_
      refine lv_iload hx hb dX7_isSameName_28 (lv_at hl 3 rfl) ?_
      refine lv_iadd hx hb dX7_isSameName_30 ?_
      refine lv_topi (fun z_12 ez_12 => ?_)
      refine lv_icmp_ge (tgt := 62) hx hb dX7_isSameName_31 (by decide) (fun c_13 => ?_) (fun c_13 => ?_)
      · refine lv_iconst (v := 1) hx hb dX7_isSameName_62 (by decide) ?_
        refine W.widen (k := 0) (n := 0) (Nat.le_of_ble_eq_true rfl) (Nat.le_of_ble_eq_true rfl) ?_
        exact W.zret (v := 1) hx hb hr (nz (Or.inr rfl)) (fun t9 ht9 hW9 => ⟨⟨_, (), rfl, (Or.inr rfl), ⟨by rw [ht9]; exact hP, hD⟩⟩, hS.F ht9⟩) hS.2.2 dX7_isSameName_63
      · refine lv_aload_n hx hb dX7_isSameName_34 rfl (lv_at hl 0 rfl) ?_
        refine lv_iload_n hx hb dX7_isSameName_35 rfl (lv_at hl 1 rfl) ?_
        refine lv_iload hx hb dX7_isSameName_36 (lv_at hl 4 rfl) ?_
        refine lv_iadd hx hb dX7_isSameName_38 ?_
        refine lv_topi (fun z_14 ez_14 => ?_)
        have hFc := gfree hD hS hA
        obtain ⟨k_15, fs_15, hk_15⟩ := gC_of o_h0
        refine va_calli (va_runV (As := [.int z_14]) (rest := []) ⟨hx, hb, hml, hown, hts⟩ (m_X7_u1 l g H.size ws h0 (z_14) hG o_h0) (cwV 1 hts (gd_V kw_1304 kw_1447 kw_1448 kw_710 kw_1446) rfl rfl rfl (by decide +kernel) ⟨Nat.le_of_ble_eq_true rfl, Nat.le_of_ble_eq_true rfl⟩) ⟨gblind, va_recv hK hP (ci := 6) (q0 := k_15) rfl hk_15, fun U hU hW9 => gmk hU hW9 hP hK hD hex hE hS hFc⟩ rfl rfl hl.1 rfl (lv_room (Nat.le_of_ble_eq_true rfl)) dX7_isSameName_39 ⟨Nat.le_of_ble_eq_true rfl, Nat.le_of_ble_eq_true rfl⟩) hS (fun q _ h => hFc q h) hFc (fun r_16 u9 t9 H1 locs ht9 hvm9 hw9 hB9 hz9 hk9 hS => ?_)
        have hP : va_P (gD g) cl0 ws H1 := by rw [← ht9]; exact hB9.1
        have h_r_16 := hw9
        clear hB9 hz9 hk9 hvm9 ht9 hw9
        generalize H1 = H at hP hS ⊢
        refine lv_aload_n hx hb dX7_isSameName_42 rfl (lv_at hl 0 rfl) ?_
        refine lv_iload hx hb dX7_isSameName_43 (lv_at hl 2 rfl) ?_
        refine lv_iload hx hb dX7_isSameName_45 (lv_at hl 4 rfl) ?_
        refine lv_iadd hx hb dX7_isSameName_47 ?_
        refine lv_topi (fun z_17 ez_17 => ?_)
        have hFc := gfree hD hS hA
        obtain ⟨k_18, fs_18, hk_18⟩ := gC_of o_h0
        refine va_calli (va_runV (As := [.int z_17]) (rest := [.int r_16]) ⟨hx, hb, hml, hown, hts⟩ (m_X7_u1 l g H.size ws h0 (z_17) hG o_h0) (cwV 1 hts (gd_V kw_1304 kw_1447 kw_1448 kw_710 kw_1446) rfl rfl rfl (by decide +kernel) ⟨Nat.le_of_ble_eq_true rfl, Nat.le_of_ble_eq_true rfl⟩) ⟨gblind, va_recv hK hP (ci := 6) (q0 := k_18) rfl hk_18, fun U hU hW9 => gmk hU hW9 hP hK hD hex hE hS hFc⟩ rfl rfl hl.1 rfl (lv_room (Nat.le_of_ble_eq_true rfl)) dX7_isSameName_48 ⟨Nat.le_of_ble_eq_true rfl, Nat.le_of_ble_eq_true rfl⟩) hS (fun q _ h => hFc q h) hFc (fun r_19 u9 t9 H1 locs ht9 hvm9 hw9 hB9 hz9 hk9 hS => ?_)
        have hP : va_P (gD g) cl0 ws H1 := by rw [← ht9]; exact hB9.1
        have h_r_19 := hw9
        clear hB9 hz9 hk9 hvm9 ht9 hw9
        generalize H1 = H at hP hS ⊢
        refine lv_icmp_eq (tgt := 56) hx hb dX7_isSameName_51 (by decide) (fun c_20 => ?_) (fun c_20 => ?_)
        · obtain ⟨z_21, ez_21⟩ : ∃ z : Int32, v6_8 + Int32.ofInt 1 = z := ⟨_, rfl⟩
          refine lv_iinc (v := z_21) (lv' := [(6, .int z_21), (0, .ref h0), (3, .int r_2), (4, .int r_4), (5, .int r_7)]) hx hb dX7_isSameName_56 hl (k := 4) rfl ez_21 (by decide) rfl (fun ls hl => ?_)
          refine lv_goto (tgt := 25) hx hb dX7_isSameName_59 (by decide) ?_
          exact ih_25 _ (by obtain ⟨u_z_21, q_z_21⟩ := i_iz ez_21 (by decide) (by decide); have q_iv_9 := iv_9; have q_c_13 := i_nle c_13; obtain ⟨u_z_14, q_z_14⟩ := i_add ez_14; obtain ⟨u_z_17, q_z_17⟩ := i_add ez_17; have g_r_2 := i_rg r_2; have g_r_4 := i_rg r_4; have g_v6_8 := i_rg v6_8; have g_z_12 := i_rg z_12; have g_z_14 := i_rg z_14; have g_z_17 := i_rg z_17; have g_z_21 := i_rg z_21; omega) (z_21) H locs ls rfl (by obtain ⟨u_z_21, q_z_21⟩ := i_iz ez_21 (by decide) (by decide); have q_iv_9 := iv_9; have q_c_13 := i_nle c_13; obtain ⟨u_z_14, q_z_14⟩ := i_add ez_14; obtain ⟨u_z_17, q_z_17⟩ := i_add ez_17; have g_r_2 := i_rg r_2; have g_r_4 := i_rg r_4; have g_v6_8 := i_rg v6_8; have g_z_12 := i_rg z_12; have g_z_14 := i_rg z_14; have g_z_17 := i_rg z_17; have g_z_21 := i_rg z_21; omega) hP hD hS (lv_sub hl [1, 2, 3, 4, 0] rfl)
        · refine lv_iconst (v := 0) hx hb dX7_isSameName_54 (by decide) ?_
          refine W.widen (k := 0) (n := 0) (Nat.le_of_ble_eq_true rfl) (Nat.le_of_ble_eq_true rfl) ?_
          exact W.zret (v := 0) hx hb hr (nz (Or.inl rfl)) (fun t9 ht9 hW9 => ⟨⟨_, (), rfl, (Or.inl rfl), ⟨by rw [ht9]; exact hP, hD⟩⟩, hS.F ht9⟩) hS.2.2 dX7_isSameName_55
  exact J_25 _ (1) H locs ls rfl (by have e1 : (1 : Int32).toInt = 1 := (by decide); omega) hP hD hS (lv_sub hl [4, 3, 2, 1, 0] rfl)
set_option maxHeartbeats 1000000 in
set_option maxRecDepth 100000 in
theorem m_X7_noTwins (l : Launch) (g : Gm) (sz : Nat) (ws : va_W) (h0 : Nat) (hG : Good g ws) (o_h0 : gC ws h0 6) : Met l yX7_noTwins (wt yX7_noTwins cX7_noTwins 4 (some .boolean)) ({ frames := 2, cells := 0, slots := 0, locals := 47 }) (va_Pc [.ref h0] (st_G g sz ws)) (va_Qi (fun (r : Int32) (u9 : va_W) => r = 0 ∨ r = 1) (gQ1 g [(6, 2), (6, 3)] (va_A ws sz) ws) (va_A ws sz)) 0 0 (va_A ws sz) := by
  refine Met.ofW (cc := cX7_noTwins) (maxL := 4) (ret := (some .boolean)) (by decide) rfl ?_
  intro p e s m args below meth c s₁ B hml hv
  obtain ⟨rfl, hsz, hP, hK, hD0, hex, hE⟩ := hv
  have hx := B.exec
  have hb := B.bytes
  have hr := B.returns
  have hts0 := atoms_spec (ws := wt yX7_noTwins cX7_noTwins 4 (some .boolean)) B.pre
  have hts : ∀ w ∈ tb, w.before _ s = true := fun w h => hts0 w (List.mem_cons_of_mem _ h)
  have hown : s.vm.findClass RX7 = some m.cls := findClass_of_methodNamed B.named
  subst hsz
  have hD := hD0.self (sz := s.heap.size)
  generalize hAe : va_A ws s.heap.size = A at hD hE ⊢
  have hA : ∀ q : Nat, s.heap.size ≤ q → A q := fun q h => by rw [← hAe]; exact Or.inr h
  have hS : va_S A s.heap s.heap [] := va_S.rf
  have hl := lv_entry ([.ref h0]) (n := 4) (Nat.le_of_ble_eq_true rfl)
  rw [lg_entry_eq]
  generalize (lg_sl ([.ref h0]) ++ List.replicate (4 - (lg_sl ([.ref h0])).length) Slot.unset).toArray = ls at hl ⊢
  have hl : lv_has ls 4 [(0, .ref h0)] := hl
  refine lv_iconst (v := 0) hx hb dX7_noTwins_0 (by decide) ?_
  refine lv_istore_n (lv' := [(1, .int 0), (0, .ref h0)]) hx hb dX7_noTwins_1 rfl hl (by decide) rfl (fun ls hl => ?_)
  have J_2 : ∀ (n9 : Nat) (v1_1 : Int32) (H : Heap) (locs : List Loc) (ls : Array Slot), (2147483647 - v1_1.toInt).toNat = n9 → va_P (gD g) cl0 ws H → va_D A ws → va_S A s.heap H locs → lv_has ls 4 [(0, .ref h0), (1, .int v1_1)] → W p l e (headSpec (wt yX7_noTwins cX7_noTwins 4 (some .boolean)) ({ frames := 2, cells := 0, slots := 0, locals := 47 })).room s m ([.ref h0] : List Value).toArray below meth c H locs 0 0 (MQ below (va_Qi (fun (r : Int32) (u9 : va_W) => r = 0 ∨ r = 1) (gQ1 g [(6, 2), (6, 3)] A ws) A) ([.ref h0] : List Value).toArray s 0 0 A) (F0 m 2 ls []) := by
    intro n9
    induction n9 using Nat.strongRecOn with
    | ind n9 ih_2 =>
      intro v1_1 H locs ls hm9  hP hD hS hl
      subst hm9
      refine lv_iload_n hx hb dX7_noTwins_2 rfl (lv_at hl 1 rfl) ?_
      refine lv_aload_n hx hb dX7_noTwins_3 rfl (lv_at hl 0 rfl) ?_
      obtain ⟨k_4, fs9, hk_4⟩ := gC_of o_h0
      obtain ⟨r0_4, n0_4, c1_4, c2_4, c3_4, r4_4, n4_4, c5_4, c6_4, c7_4, c8_4, r9_4, n9_4, r10_4, n10_4, r11_4, n11_4, c12_4, c13_4, c14_4, c15_4, c16_4, rfl, a_r0_4, f1_4, a_r4_4, f3_4, a_r9_4, f5_4, a_r10_4, f7_4, a_r11_4, f9_4, f10_4, f11_4, f12_4, f13_4, f14_4, -⟩ := (hG.1 _ _ _ _ hk_4).hX7 rfl
      refine va_get (D := gD g) (ci := 6) (v := .int c7_4) (C := RX7) (T := TX7) (N := 17) hx hb hts inX7 hown hK hP k_4 hk_4 rfl 7 (by decide) (hts _ kw_1287) (fun _ h9 => h9) rfl dX7_noTwins_4 ?_
      refine lv_aload_n hx hb dX7_noTwins_7 rfl (lv_at hl 0 rfl) ?_
      refine va_get (D := gD g) (ci := 6) (v := .int c8_4) (C := RX7) (T := TX7) (N := 17) hx hb hts inX7 hown hK hP k_4 hk_4 rfl 8 (by decide) (hts _ kw_1285) (fun _ h9 => h9) rfl dX7_noTwins_8 ?_
      refine lv_iadd hx hb dX7_noTwins_11 ?_
      refine lv_topi (fun z_5 ez_5 => ?_)
      refine lv_icmp_ge (tgt := 82) hx hb dX7_noTwins_12 (by decide) (fun c_6 => ?_) (fun c_6 => ?_)
      · refine lv_iconst (v := 1) hx hb dX7_noTwins_82 (by decide) ?_
        refine W.widen (k := 0) (n := 0) (Nat.le_of_ble_eq_true rfl) (Nat.le_of_ble_eq_true rfl) ?_
        exact W.zret (v := 1) hx hb hr (nz (Or.inr rfl)) (fun t9 ht9 hW9 => ⟨⟨_, ws, rfl, (Or.inr rfl), ⟨gE.rf, gF.rf, hG, by rw [ht9]; exact hP, hD⟩⟩, hS.F ht9⟩) hS.2.2 dX7_noTwins_83
      · refine lv_iload_n hx hb dX7_noTwins_15 rfl (lv_at hl 1 rfl) ?_
        refine lv_aload_n hx hb dX7_noTwins_16 rfl (lv_at hl 0 rfl) ?_
        refine va_get (D := gD g) (ci := 6) (v := .int c7_4) (C := RX7) (T := TX7) (N := 17) hx hb hts inX7 hown hK hP k_4 hk_4 rfl 7 (by decide) (hts _ kw_1287) (fun _ h9 => h9) rfl dX7_noTwins_17 ?_
        have J_31 : ∀ (t_7 : Int32) (H : Heap) (locs : List Loc) (ls : Array Slot), va_P (gD g) cl0 ws H → va_D A ws → va_S A s.heap H locs → lv_has ls 4 [(0, .ref h0), (1, .int v1_1)] → W p l e (headSpec (wt yX7_noTwins cX7_noTwins 4 (some .boolean)) ({ frames := 2, cells := 0, slots := 0, locals := 47 })).room s m ([.ref h0] : List Value).toArray below meth c H locs 0 0 (MQ below (va_Qi (fun (r : Int32) (u9 : va_W) => r = 0 ∨ r = 1) (gQ1 g [(6, 2), (6, 3)] A ws) A) ([.ref h0] : List Value).toArray s 0 0 A) (F0 m 31 ls [.int t_7]) := by
          intro t_7 H locs ls  hP hD hS hl
          refine lv_istore_n (lv' := [(2, .int t_7), (0, .ref h0), (1, .int v1_1)]) hx hb dX7_noTwins_31 rfl hl (by decide) rfl (fun ls hl => ?_)
          refine lv_iload_n hx hb dX7_noTwins_32 rfl (lv_at hl 0 rfl) ?_
          refine lv_istore_n (lv' := [(3, .int t_7), (2, .int t_7), (0, .ref h0), (1, .int v1_1)]) hx hb dX7_noTwins_33 rfl hl (by decide) rfl (fun ls hl => ?_)
          have J_34 : ∀ (n9 : Nat) (v3_10 : Int32) (H : Heap) (locs : List Loc) (ls : Array Slot), (2147483647 - v3_10.toInt).toNat = n9 → va_P (gD g) cl0 ws H → va_D A ws → va_S A s.heap H locs → lv_has ls 4 [(0, .ref h0), (1, .int v1_1), (3, .int v3_10)] → W p l e (headSpec (wt yX7_noTwins cX7_noTwins 4 (some .boolean)) ({ frames := 2, cells := 0, slots := 0, locals := 47 })).room s m ([.ref h0] : List Value).toArray below meth c H locs 0 0 (MQ below (va_Qi (fun (r : Int32) (u9 : va_W) => r = 0 ∨ r = 1) (gQ1 g [(6, 2), (6, 3)] A ws) A) ([.ref h0] : List Value).toArray s 0 0 A) (F0 m 34 ls []) := by
            intro n9
            induction n9 using Nat.strongRecOn with
            | ind n9 ih_34 =>
              intro v3_10 H locs ls hm9  hP hD hS hl
              subst hm9
              refine lv_iload_n hx hb dX7_noTwins_34 rfl (lv_at hl 2 rfl) ?_
              refine lv_iload_n hx hb dX7_noTwins_35 rfl (lv_at hl 1 rfl) ?_
              refine lv_icmp_ge (tgt := 76) hx hb dX7_noTwins_36 (by decide) (fun c_13 => ?_) (fun c_13 => ?_)
              · obtain ⟨z_14, ez_14⟩ : ∃ z : Int32, v1_1 + Int32.ofInt 1 = z := ⟨_, rfl⟩
                refine lv_iinc (v := z_14) (lv' := [(1, .int z_14), (0, .ref h0), (3, .int v3_10)]) hx hb dX7_noTwins_76 hl (k := 1) rfl ez_14 (by decide) rfl (fun ls hl => ?_)
                refine lv_goto (tgt := 2) hx hb dX7_noTwins_79 (by decide) ?_
                exact ih_2 _ (by obtain ⟨u_z_14, q_z_14⟩ := i_iz ez_14 (by decide) (by decide); have q_c_6 := i_nle c_6; have q_c_13 := i_le c_13; have g_v1_1 := i_rg v1_1; have g_v3_10 := i_rg v3_10; have g_z_14 := i_rg z_14; have g_z_5 := i_rg z_5; omega) (z_14) H locs ls rfl  hP hD hS (lv_sub hl [1, 0] rfl)
              · refine lv_aload_n hx hb dX7_noTwins_39 rfl (lv_at hl 0 rfl) ?_
                refine lv_aload_n hx hb dX7_noTwins_40 rfl (lv_at hl 0 rfl) ?_
                refine lv_iload_n hx hb dX7_noTwins_41 rfl (lv_at hl 2 rfl) ?_
                have hFc := gfree hD hS hA
                refine va_calli (va_runV (As := [.int v3_10]) (rest := [.ref h0]) ⟨hx, hb, hml, hown, hts⟩ (m_X7_nameOf l g H.size ws h0 (v3_10) hG o_h0) (cwV 1 hts (gd_V kw_1421 kw_1409 kw_1410 kw_710 kw_1408) rfl rfl rfl (by decide +kernel) ⟨Nat.le_of_ble_eq_true rfl, Nat.le_of_ble_eq_true rfl⟩) ⟨gblind, va_recv hK hP (ci := 6) (q0 := k_4) rfl hk_4, fun U hU hW9 => gmk hU hW9 hP hK hD hex hE hS hFc⟩ rfl rfl hl.1 rfl (lv_room (Nat.le_of_ble_eq_true rfl)) dX7_noTwins_42 ⟨Nat.le_of_ble_eq_true rfl, Nat.le_of_ble_eq_true rfl⟩) hS (fun q _ h => hFc q h) hFc (fun r_15 u9 t9 H1 locs ht9 hvm9 hw9 hB9 hz9 hk9 hS => ?_)
                have hP : va_P (gD g) cl0 ws H1 := by rw [← ht9]; exact hB9.1
                clear hB9 hz9 hk9 hvm9 ht9 hw9
                generalize H1 = H at hP hS ⊢
                refine lv_aload_n hx hb dX7_noTwins_45 rfl (lv_at hl 0 rfl) ?_
                refine lv_iload_n hx hb dX7_noTwins_46 rfl (lv_at hl 1 rfl) ?_
                have hFc := gfree hD hS hA
                refine va_calli (va_runV (As := [.int v1_1]) (rest := [.int r_15, .ref h0]) ⟨hx, hb, hml, hown, hts⟩ (m_X7_nameOf l g H.size ws h0 (v1_1) hG o_h0) (cwV 1 hts (gd_V kw_1421 kw_1409 kw_1410 kw_710 kw_1408) rfl rfl rfl (by decide +kernel) ⟨Nat.le_of_ble_eq_true rfl, Nat.le_of_ble_eq_true rfl⟩) ⟨gblind, va_recv hK hP (ci := 6) (q0 := k_4) rfl hk_4, fun U hU hW9 => gmk hU hW9 hP hK hD hex hE hS hFc⟩ rfl rfl hl.1 rfl (lv_room (Nat.le_of_ble_eq_true rfl)) dX7_noTwins_47 ⟨Nat.le_of_ble_eq_true rfl, Nat.le_of_ble_eq_true rfl⟩) hS (fun q _ h => hFc q h) hFc (fun r_16 u9 t9 H1 locs ht9 hvm9 hw9 hB9 hz9 hk9 hS => ?_)
                have hP : va_P (gD g) cl0 ws H1 := by rw [← ht9]; exact hB9.1
                clear hB9 hz9 hk9 hvm9 ht9 hw9
                generalize H1 = H at hP hS ⊢
                have hFc := gfree hD hS hA
                refine va_calli (va_runV (As := [.int r_15, .int r_16]) (rest := []) ⟨hx, hb, hml, hown, hts⟩ (m_X7_isSameName l g H.size ws h0 (r_15) (r_16) hG o_h0) (cwV 2 hts (gd_V kw_1422 kw_1356 kw_1357 kw_710 kw_1355) rfl rfl rfl (by decide +kernel) ⟨Nat.le_of_ble_eq_true rfl, Nat.le_of_ble_eq_true rfl⟩) ⟨gblind, va_recv hK hP (ci := 6) (q0 := k_4) rfl hk_4, fun U hU hW9 => gmk hU hW9 hP hK hD hex hE hS hFc⟩ rfl rfl hl.1 rfl (lv_room (Nat.le_of_ble_eq_true rfl)) dX7_noTwins_50 ⟨Nat.le_of_ble_eq_true rfl, Nat.le_of_ble_eq_true rfl⟩) hS (fun q _ h => hFc q h) hFc (fun r_17 u9 t9 H1 locs ht9 hvm9 hw9 hB9 hz9 hk9 hS => ?_)
                have hP : va_P (gD g) cl0 ws H1 := by rw [← ht9]; exact hB9.1
                have hz_r_17 : r_17 = 0 ∨ r_17 = 1 := hw9
                clear hB9 hz9 hk9 hvm9 ht9 hw9
                generalize H1 = H at hP hS ⊢
                refine lv_if_eq (tgt := 70) hx hb dX7_noTwins_53 (by decide) (fun c_18 => ?_) (fun c_18 => ?_)
                · obtain ⟨z_19, ez_19⟩ : ∃ z : Int32, v3_10 + Int32.ofInt 1 = z := ⟨_, rfl⟩
                  refine lv_iinc (v := z_19) (lv' := [(3, .int z_19), (0, .ref h0), (1, .int v1_1)]) hx hb dX7_noTwins_70 hl (k := 2) rfl ez_19 (by decide) rfl (fun ls hl => ?_)
                  refine lv_goto (tgt := 34) hx hb dX7_noTwins_73 (by decide) ?_
                  exact ih_34 _ (by obtain ⟨u_z_19, q_z_19⟩ := i_iz ez_19 (by decide) (by decide); have q_c_13 := i_nle c_13; have g_v1_1 := i_rg v1_1; have g_v3_10 := i_rg v3_10; have g_z_19 := i_rg z_19; omega) (z_19) H locs ls rfl  hP hD hS (lv_sub hl [1, 2, 0] rfl)
                · refine lv_aload_n hx hb dX7_noTwins_56 rfl (lv_at hl 0 rfl) ?_
                  refine lv_bipush (v := 11) hx hb dX7_noTwins_57 (by decide) ?_
                  refine lv_aload_n hx hb dX7_noTwins_59 rfl (lv_at hl 0 rfl) ?_
                  refine lv_iload_n hx hb dX7_noTwins_60 rfl (lv_at hl 1 rfl) ?_
                  have hFc := gfree hD hS hA
                  refine va_calli (va_runV (As := [.int v1_1]) (rest := [.int 11, .ref h0]) ⟨hx, hb, hml, hown, hts⟩ (m_X7_memberPlace l g H.size ws h0 (v1_1) hG o_h0) (cwV 1 hts (gd_V kw_1288 kw_1394 kw_1395 kw_710 kw_1393) rfl rfl rfl (by decide +kernel) ⟨Nat.le_of_ble_eq_true rfl, Nat.le_of_ble_eq_true rfl⟩) ⟨gblind, va_recv hK hP (ci := 6) (q0 := k_4) rfl hk_4, fun U hU hW9 => gmk hU hW9 hP hK hD hex hE hS hFc⟩ rfl rfl hl.1 rfl (lv_room (Nat.le_of_ble_eq_true rfl)) dX7_noTwins_61 ⟨Nat.le_of_ble_eq_true rfl, Nat.le_of_ble_eq_true rfl⟩) hS (fun q _ h => hFc q h) hFc (fun r_20 u9 t9 H1 locs ht9 hvm9 hw9 hB9 hz9 hk9 hS => ?_)
                  have hP : va_P (gD g) cl0 ws H1 := by rw [← ht9]; exact hB9.1
                  clear hB9 hz9 hk9 hvm9 ht9 hw9
                  generalize H1 = H at hP hS ⊢
                  refine lv_iconst (v := 2) hx hb dX7_noTwins_64 (by decide) ?_
                  refine lv_iadd hx hb dX7_noTwins_65 ?_
                  refine lv_topi (fun z_21 ez_21 => ?_)
                  have hFc := gfree hD hS hA
                  refine va_calli (va_runV (As := [.int 11, .int z_21]) (rest := []) ⟨hx, hb, hml, hown, hts⟩ (m_X7_breaks l g H.size ws h0 (11) (z_21) hG o_h0) (cwV 2 hts (gd_V kw_1276 kw_1278 kw_1279 kw_710 kw_1277) rfl rfl rfl (by decide +kernel) ⟨Nat.le_of_ble_eq_true rfl, Nat.le_of_ble_eq_true rfl⟩) ⟨gblind, va_recv hK hP (ci := 6) (q0 := k_4) rfl hk_4, fun U hU hW9 => gmk hU hW9 hP hK hD hex hE hS hFc⟩ rfl rfl hl.1 rfl (lv_room (Nat.le_of_ble_eq_true rfl)) dX7_noTwins_66 ⟨Nat.le_of_ble_eq_true rfl, Nat.le_of_ble_eq_true rfl⟩) hS (fun q _ h => hFc q h) hFc (fun r_22 ws_23 t9 H1 locs ht9 hvm9 hw9 hB9 hz9 hk9 hS => ?_)
                  obtain ⟨E_24, Fr_25, hG, hP1, hD1⟩ := hB9
                  have hP : va_P (gD g) cl0 ws_23 H1 := by rw [← ht9]; exact hP1
                  have hD : va_D A ws_23 := hD1.weaken (fun _ _ _ h => hFc _ h)
                  have hz_r_22 : r_22 = 0 ∨ r_22 = 1 := hw9
                  clear hP1 hD1 hz9 hk9 hvm9 ht9 hw9
                  generalize H1 = H at hP hS ⊢
                  have aa_26 := a_r0_4
                  have aa_27 := a_r4_4
                  have aa_28 := a_r9_4
                  have aa_29 := a_r10_4
                  have aa_30 := a_r11_4
                  have o_h0 := E_24 _ _ o_h0
                  refine W.widen (k := 0) (n := 0) (Nat.le_of_ble_eq_true rfl) (Nat.le_of_ble_eq_true rfl) ?_
                  exact W.zret (v := r_22) hx hb hr (nz hz_r_22) (fun t9 ht9 hW9 => ⟨⟨_, ws_23, rfl, hz_r_22, ⟨E_24, Fr_25, hG, by rw [ht9]; exact hP, hD⟩⟩, hS.F ht9⟩) hS.2.2 dX7_noTwins_69
          exact J_34 _ (t_7) H locs ls rfl  hP hD hS (lv_sub hl [2, 3, 0] rfl)
        refine lv_icmp_ge (tgt := 27) hx hb dX7_noTwins_20 (by decide) (fun c_31 => ?_) (fun c_31 => ?_)
        · refine lv_aload_n hx hb dX7_noTwins_27 rfl (lv_at hl 0 rfl) ?_
          refine va_get (D := gD g) (ci := 6) (v := .int c7_4) (C := RX7) (T := TX7) (N := 17) hx hb hts inX7 hown hK hP k_4 hk_4 rfl 7 (by decide) (hts _ kw_1287) (fun _ h9 => h9) rfl dX7_noTwins_28 ?_
          exact J_31 (c7_4) H locs ls  hP hD hS (lv_sub hl [0, 1] rfl)
        · refine lv_iconst (v := 0) hx hb dX7_noTwins_23 (by decide) ?_
          refine lv_goto (tgt := 31) hx hb dX7_noTwins_24 (by decide) ?_
          exact J_31 (0) H locs ls  hP hD hS (lv_sub hl [0, 1] rfl)
  exact J_2 _ (0) _ _ ls rfl  hP hD hS (lv_sub hl [1, 0] rfl)
set_option maxHeartbeats 1000000 in
set_option maxRecDepth 100000 in
theorem m_X7_entryFits (l : Launch) (g : Gm) (sz : Nat) (ws : va_W) (h0 : Nat) (hG : Good g ws) (o_h0 : gC ws h0 6) : Met l yX7_entryFits (wt yX7_entryFits cX7_entryFits 2 (some .boolean)) ({ frames := 3, cells := 0, slots := 0, locals := 65 }) (va_Pc [.ref h0] (st_G g sz ws)) (va_Qi (fun (r : Int32) (u9 : va_W) => r = 0 ∨ r = 1) (gQ1 g [(6, 2), (6, 3)] (va_A ws sz) ws) (va_A ws sz)) 0 0 (va_A ws sz) := by
  refine Met.ofW (cc := cX7_entryFits) (maxL := 2) (ret := (some .boolean)) (by decide) rfl ?_
  intro p e s m args below meth c s₁ B hml hv
  obtain ⟨rfl, hsz, hP, hK, hD0, hex, hE⟩ := hv
  have hx := B.exec
  have hb := B.bytes
  have hr := B.returns
  have hts0 := atoms_spec (ws := wt yX7_entryFits cX7_entryFits 2 (some .boolean)) B.pre
  have hts : ∀ w ∈ tb, w.before _ s = true := fun w h => hts0 w (List.mem_cons_of_mem _ h)
  have hown : s.vm.findClass RX7 = some m.cls := findClass_of_methodNamed B.named
  subst hsz
  have hD := hD0.self (sz := s.heap.size)
  generalize hAe : va_A ws s.heap.size = A at hD hE ⊢
  have hA : ∀ q : Nat, s.heap.size ≤ q → A q := fun q h => by rw [← hAe]; exact Or.inr h
  have hS : va_S A s.heap s.heap [] := va_S.rf
  have hl := lv_entry ([.ref h0]) (n := 2) (Nat.le_of_ble_eq_true rfl)
  rw [lg_entry_eq]
  generalize (lg_sl ([.ref h0]) ++ List.replicate (2 - (lg_sl ([.ref h0])).length) Slot.unset).toArray = ls at hl ⊢
  have hl : lv_has ls 2 [(0, .ref h0)] := hl
  refine lv_aload_n hx hb dX7_entryFits_0 rfl (lv_at hl 0 rfl) ?_
  refine lv_iconst (v := 1) hx hb dX7_entryFits_1 (by decide) ?_
  have hFc := gfree hD hS hA
  obtain ⟨k_1, fs_1, hk_1⟩ := gC_of o_h0
  refine va_calli (va_runV (As := [.int 1]) (rest := []) ⟨hx, hb, hml, hown, hts⟩ (m_X7_isThere l g s.heap.size ws h0 (1) hG o_h0) (cwV 1 hts (gd_V kw_1272 kw_1382 kw_1383 kw_710 kw_1381) rfl rfl rfl (by decide +kernel) ⟨Nat.le_of_ble_eq_true rfl, Nat.le_of_ble_eq_true rfl⟩) ⟨gblind, va_recv hK hP (ci := 6) (q0 := k_1) rfl hk_1, fun U hU hW9 => gmk hU hW9 hP hK hD hex hE hS hFc⟩ rfl rfl hl.1 rfl (lv_room (Nat.le_of_ble_eq_true rfl)) dX7_entryFits_2 ⟨Nat.le_of_ble_eq_true rfl, Nat.le_of_ble_eq_true rfl⟩) hS (fun q _ h => hFc q h) hFc (fun r_2 ws_3 t9 H1 locs ht9 hvm9 hw9 hB9 hz9 hk9 hS => ?_)
  obtain ⟨E_4, Fr_5, hG, hP1, hD1⟩ := hB9
  have hP : va_P (gD g) cl0 ws_3 H1 := by rw [← ht9]; exact hP1
  have hD : va_D A ws_3 := hD1.weaken (fun _ _ _ h => hFc _ h)
  have hz_r_2 : r_2 = 0 ∨ r_2 = 1 := hw9
  clear hP1 hD1 hz9 hk9 hvm9 ht9 hw9
  generalize H1 = H at hP hS ⊢
  have o_h0 := E_4 _ _ o_h0
  refine lv_if_ne (tgt := 10) hx hb dX7_entryFits_5 (by decide) (fun c_6 => ?_) (fun c_6 => ?_)
  · refine lv_aload_n hx hb dX7_entryFits_10 rfl (lv_at hl 0 rfl) ?_
    refine lv_aload_n hx hb dX7_entryFits_11 rfl (lv_at hl 0 rfl) ?_
    obtain ⟨k_7, fs9, hk_7⟩ := gC_of o_h0
    obtain ⟨r0_7, n0_7, c1_7, c2_7, c3_7, r4_7, n4_7, c5_7, c6_7, c7_7, c8_7, r9_7, n9_7, r10_7, n10_7, r11_7, n11_7, c12_7, c13_7, c14_7, c15_7, c16_7, rfl, a_r0_7, f1_7, a_r4_7, f3_7, a_r9_7, f5_7, a_r10_7, f7_7, a_r11_7, f9_7, f10_7, f11_7, f12_7, f13_7, f14_7, -⟩ := (hG.1 _ _ _ _ hk_7).hX7 rfl
    refine va_get (D := gD g) (ci := 6) (v := .int c15_7) (C := RX7) (T := TX7) (N := 17) hx hb hts inX7 hown hK hP k_7 hk_7 rfl 15 (by decide) (hts _ kw_1273) (fun _ h9 => h9) rfl dX7_entryFits_12 ?_
    have hFc := gfree hD hS hA
    refine va_calli (va_runV (As := [.int c15_7]) (rest := []) ⟨hx, hb, hml, hown, hts⟩ (m_X7_u1 l g H.size ws_3 h0 (c15_7) hG o_h0) (cwV 1 hts (gd_V kw_1304 kw_1447 kw_1448 kw_710 kw_1446) rfl rfl rfl (by decide +kernel) ⟨Nat.le_of_ble_eq_true rfl, Nat.le_of_ble_eq_true rfl⟩) ⟨gblind, va_recv hK hP (ci := 6) (q0 := k_7) rfl hk_7, fun U hU hW9 => gmk hU hW9 hP hK hD hex hE hS hFc⟩ rfl rfl hl.1 rfl (lv_room (Nat.le_of_ble_eq_true rfl)) dX7_entryFits_15 ⟨Nat.le_of_ble_eq_true rfl, Nat.le_of_ble_eq_true rfl⟩) hS (fun q _ h => hFc q h) hFc (fun r_8 u9 t9 H1 locs ht9 hvm9 hw9 hB9 hz9 hk9 hS => ?_)
    have hP : va_P (gD g) cl0 ws_3 H1 := by rw [← ht9]; exact hB9.1
    have h_r_8 := hw9
    clear hB9 hz9 hk9 hvm9 ht9 hw9
    generalize H1 = H at hP hS ⊢
    refine lv_istore_n (lv' := [(1, .int r_8), (0, .ref h0)]) hx hb dX7_entryFits_18 rfl hl (by decide) rfl (fun ls hl => ?_)
    refine lv_iload_n hx hb dX7_entryFits_19 rfl (lv_at hl 0 rfl) ?_
    refine lv_iconst (v := 1) hx hb dX7_entryFits_20 (by decide) ?_
    refine lv_icmp_ne (tgt := 29) hx hb dX7_entryFits_21 (by decide) (fun c_9 => ?_) (fun c_9 => ?_)
    · refine lv_aload_n hx hb dX7_entryFits_29 rfl (lv_at hl 1 rfl) ?_
      refine lv_iload_n hx hb dX7_entryFits_30 rfl (lv_at hl 0 rfl) ?_
      have hFc := gfree hD hS hA
      refine va_calli (va_runV (As := [.int r_8]) (rest := []) ⟨hx, hb, hml, hown, hts⟩ (m_X7_entryLength l g H.size ws_3 h0 (r_8) hG o_h0) (cwV 1 hts (gd_V kw_1306 kw_1308 kw_1309 kw_710 kw_1307) rfl rfl rfl (by decide +kernel) ⟨Nat.le_of_ble_eq_true rfl, Nat.le_of_ble_eq_true rfl⟩) ⟨gblind, va_recv hK hP (ci := 6) (q0 := k_7) rfl hk_7, fun U hU hW9 => gmk hU hW9 hP hK hD hex hE hS hFc⟩ rfl rfl hl.1 rfl (lv_room (Nat.le_of_ble_eq_true rfl)) dX7_entryFits_31 ⟨Nat.le_of_ble_eq_true rfl, Nat.le_of_ble_eq_true rfl⟩) hS (fun q _ h => hFc q h) hFc (fun r_10 u9 t9 H1 locs ht9 hvm9 hw9 hB9 hz9 hk9 hS => ?_)
      have hP : va_P (gD g) cl0 ws_3 H1 := by rw [← ht9]; exact hB9.1
      clear hB9 hz9 hk9 hvm9 ht9 hw9
      generalize H1 = H at hP hS ⊢
      have J_58 : ∀ (t_11 : Int32) (ws_13 : va_W) (H : Heap) (locs : List Loc) (ls : Array Slot), t_11 = 0 ∨ t_11 = 1 → gE ws_3 ws_13 → gF [(6, 2), (6, 3)] ws_3 ws_13 → Good g ws_13 → va_P (gD g) cl0 ws_13 H → va_D A ws_13 → va_S A s.heap H locs → lv_has ls 2 [] → W p l e (headSpec (wt yX7_entryFits cX7_entryFits 2 (some .boolean)) ({ frames := 3, cells := 0, slots := 0, locals := 65 })).room s m ([.ref h0] : List Value).toArray below meth c H locs 0 0 (MQ below (va_Qi (fun (r : Int32) (u9 : va_W) => r = 0 ∨ r = 1) (gQ1 g [(6, 2), (6, 3)] A ws) A) ([.ref h0] : List Value).toArray s 0 0 A) (F0 m 58 ls [.int t_11]) := by
        intro t_11 ws_13 H locs ls iv_12 E_14 Fr_15 hG hP hD hS hl
        have hz_t_11 := iv_12
        have aa_16 := a_r0_7
        have aa_17 := a_r4_7
        have aa_18 := a_r9_7
        have aa_19 := a_r10_7
        have aa_20 := a_r11_7
        have o_h0 := E_14 _ _ o_h0
        refine W.widen (k := 0) (n := 0) (Nat.le_of_ble_eq_true rfl) (Nat.le_of_ble_eq_true rfl) ?_
        exact W.zret (v := t_11) hx hb hr (nz hz_t_11) (fun t9 ht9 hW9 => ⟨⟨_, ws_13, rfl, hz_t_11, ⟨(E_4.tr E_14), (gF.tr Fr_5 Fr_15), hG, by rw [ht9]; exact hP, hD⟩⟩, hS.F ht9⟩) hS.2.2 dX7_entryFits_58
      refine lv_if_ne (tgt := 49) hx hb dX7_entryFits_34 (by decide) (fun c_21 => ?_) (fun c_21 => ?_)
      · refine lv_aload_n hx hb dX7_entryFits_49 rfl (lv_at hl 1 rfl) ?_
        refine lv_aload_n hx hb dX7_entryFits_50 rfl (lv_at hl 1 rfl) ?_
        refine lv_iload_n hx hb dX7_entryFits_51 rfl (lv_at hl 0 rfl) ?_
        have hFc := gfree hD hS hA
        refine va_calli (va_runV (As := [.int r_8]) (rest := [.ref h0]) ⟨hx, hb, hml, hown, hts⟩ (m_X7_entryLength l g H.size ws_3 h0 (r_8) hG o_h0) (cwV 1 hts (gd_V kw_1306 kw_1308 kw_1309 kw_710 kw_1307) rfl rfl rfl (by decide +kernel) ⟨Nat.le_of_ble_eq_true rfl, Nat.le_of_ble_eq_true rfl⟩) ⟨gblind, va_recv hK hP (ci := 6) (q0 := k_7) rfl hk_7, fun U hU hW9 => gmk hU hW9 hP hK hD hex hE hS hFc⟩ rfl rfl hl.1 rfl (lv_room (Nat.le_of_ble_eq_true rfl)) dX7_entryFits_52 ⟨Nat.le_of_ble_eq_true rfl, Nat.le_of_ble_eq_true rfl⟩) hS (fun q _ h => hFc q h) hFc (fun r_22 u9 t9 H1 locs ht9 hvm9 hw9 hB9 hz9 hk9 hS => ?_)
        have hP : va_P (gD g) cl0 ws_3 H1 := by rw [← ht9]; exact hB9.1
        clear hB9 hz9 hk9 hvm9 ht9 hw9
        generalize H1 = H at hP hS ⊢
        have hFc := gfree hD hS hA
        refine va_calli (va_runV (As := [.int r_22]) (rest := []) ⟨hx, hb, hml, hown, hts⟩ (m_X7_isThere l g H.size ws_3 h0 (r_22) hG o_h0) (cwV 1 hts (gd_V kw_1272 kw_1382 kw_1383 kw_710 kw_1381) rfl rfl rfl (by decide +kernel) ⟨Nat.le_of_ble_eq_true rfl, Nat.le_of_ble_eq_true rfl⟩) ⟨gblind, va_recv hK hP (ci := 6) (q0 := k_7) rfl hk_7, fun U hU hW9 => gmk hU hW9 hP hK hD hex hE hS hFc⟩ rfl rfl hl.1 rfl (lv_room (Nat.le_of_ble_eq_true rfl)) dX7_entryFits_55 ⟨Nat.le_of_ble_eq_true rfl, Nat.le_of_ble_eq_true rfl⟩) hS (fun q _ h => hFc q h) hFc (fun r_23 ws_24 t9 H1 locs ht9 hvm9 hw9 hB9 hz9 hk9 hS => ?_)
        obtain ⟨E_25, Fr_26, hG, hP1, hD1⟩ := hB9
        have hP : va_P (gD g) cl0 ws_24 H1 := by rw [← ht9]; exact hP1
        have hD : va_D A ws_24 := hD1.weaken (fun _ _ _ h => hFc _ h)
        have hz_r_23 : r_23 = 0 ∨ r_23 = 1 := hw9
        clear hP1 hD1 hz9 hk9 hvm9 ht9 hw9
        generalize H1 = H at hP hS ⊢
        have aa_27 := a_r0_7
        have aa_28 := a_r4_7
        have aa_29 := a_r9_7
        have aa_30 := a_r10_7
        have aa_31 := a_r11_7
        have o_h0 := E_25 _ _ o_h0
        exact J_58 (r_23) ws_24 H locs ls hz_r_23 (E_25) (Fr_26) hG hP hD hS (lv_sub hl [] rfl)
      · refine lv_aload_n hx hb dX7_entryFits_37 rfl (lv_at hl 1 rfl) ?_
        refine lv_iconst (v := 3) hx hb dX7_entryFits_38 (by decide) ?_
        refine lv_aload_n hx hb dX7_entryFits_39 rfl (lv_at hl 1 rfl) ?_
        refine va_get (D := gD g) (ci := 6) (v := .int c15_7) (C := RX7) (T := TX7) (N := 17) hx hb hts inX7 hown hK hP k_7 hk_7 rfl 15 (by decide) (hts _ kw_1273) (fun _ h9 => h9) rfl dX7_entryFits_40 ?_
        have hFc := gfree hD hS hA
        refine va_calli (va_runV (As := [.int 3, .int c15_7]) (rest := []) ⟨hx, hb, hml, hown, hts⟩ (m_X7_breaks l g H.size ws_3 h0 (3) (c15_7) hG o_h0) (cwV 2 hts (gd_V kw_1276 kw_1278 kw_1279 kw_710 kw_1277) rfl rfl rfl (by decide +kernel) ⟨Nat.le_of_ble_eq_true rfl, Nat.le_of_ble_eq_true rfl⟩) ⟨gblind, va_recv hK hP (ci := 6) (q0 := k_7) rfl hk_7, fun U hU hW9 => gmk hU hW9 hP hK hD hex hE hS hFc⟩ rfl rfl hl.1 rfl (lv_room (Nat.le_of_ble_eq_true rfl)) dX7_entryFits_43 ⟨Nat.le_of_ble_eq_true rfl, Nat.le_of_ble_eq_true rfl⟩) hS (fun q _ h => hFc q h) hFc (fun r_32 ws_33 t9 H1 locs ht9 hvm9 hw9 hB9 hz9 hk9 hS => ?_)
        obtain ⟨E_34, Fr_35, hG, hP1, hD1⟩ := hB9
        have hP : va_P (gD g) cl0 ws_33 H1 := by rw [← ht9]; exact hP1
        have hD : va_D A ws_33 := hD1.weaken (fun _ _ _ h => hFc _ h)
        have hz_r_32 : r_32 = 0 ∨ r_32 = 1 := hw9
        clear hP1 hD1 hz9 hk9 hvm9 ht9 hw9
        generalize H1 = H at hP hS ⊢
        have aa_36 := a_r0_7
        have aa_37 := a_r4_7
        have aa_38 := a_r9_7
        have aa_39 := a_r10_7
        have aa_40 := a_r11_7
        have o_h0 := E_34 _ _ o_h0
        refine lv_goto (tgt := 58) hx hb dX7_entryFits_46 (by decide) ?_
        exact J_58 (r_32) ws_33 H locs ls hz_r_32 (E_34) (Fr_35) hG hP hD hS (lv_sub hl [] rfl)
    · refine lv_aload_n hx hb dX7_entryFits_24 rfl (lv_at hl 1 rfl) ?_
      have hFc := gfree hD hS hA
      refine va_calli (va_runV (As := []) (rest := []) ⟨hx, hb, hml, hown, hts⟩ (m_X7_nameFits l g H.size ws_3 h0 hG o_h0) (cwV 0 hts (gd_V kw_1305 kw_1403 kw_1404 kw_710 kw_1402) rfl rfl rfl (by decide +kernel) ⟨Nat.le_of_ble_eq_true rfl, Nat.le_of_ble_eq_true rfl⟩) ⟨gblind, va_recv hK hP (ci := 6) (q0 := k_7) rfl hk_7, fun U hU hW9 => gmk hU hW9 hP hK hD hex hE hS hFc⟩ rfl rfl hl.1 rfl (lv_room (Nat.le_of_ble_eq_true rfl)) dX7_entryFits_25 ⟨Nat.le_of_ble_eq_true rfl, Nat.le_of_ble_eq_true rfl⟩) hS (fun q _ h => hFc q h) hFc (fun r_41 ws_42 t9 H1 locs ht9 hvm9 hw9 hB9 hz9 hk9 hS => ?_)
      obtain ⟨E_43, Fr_44, hG, hP1, hD1⟩ := hB9
      have hP : va_P (gD g) cl0 ws_42 H1 := by rw [← ht9]; exact hP1
      have hD : va_D A ws_42 := hD1.weaken (fun _ _ _ h => hFc _ h)
      have hz_r_41 : r_41 = 0 ∨ r_41 = 1 := hw9
      clear hP1 hD1 hz9 hk9 hvm9 ht9 hw9
      generalize H1 = H at hP hS ⊢
      have aa_45 := a_r0_7
      have aa_46 := a_r4_7
      have aa_47 := a_r9_7
      have aa_48 := a_r10_7
      have aa_49 := a_r11_7
      have o_h0 := E_43 _ _ o_h0
      refine W.widen (k := 0) (n := 0) (Nat.le_of_ble_eq_true rfl) (Nat.le_of_ble_eq_true rfl) ?_
      exact W.zret (v := r_41) hx hb hr (nz hz_r_41) (fun t9 ht9 hW9 => ⟨⟨_, ws_42, rfl, hz_r_41, ⟨(E_4.tr E_43), (gF.tr Fr_5 Fr_44), hG, by rw [ht9]; exact hP, hD⟩⟩, hS.F ht9⟩) hS.2.2 dX7_entryFits_28
  · refine lv_iconst (v := 0) hx hb dX7_entryFits_8 (by decide) ?_
    refine W.widen (k := 0) (n := 0) (Nat.le_of_ble_eq_true rfl) (Nat.le_of_ble_eq_true rfl) ?_
    exact W.zret (v := 0) hx hb hr (nz (Or.inl rfl)) (fun t9 ht9 hW9 => ⟨⟨_, ws_3, rfl, (Or.inl rfl), ⟨E_4, Fr_5, hG, by rw [ht9]; exact hP, hD⟩⟩, hS.F ht9⟩) hS.2.2 dX7_entryFits_9
set_option maxHeartbeats 1000000 in
set_option maxRecDepth 100000 in
theorem m_X7_membersFit (l : Launch) (g : Gm) (sz : Nat) (ws : va_W) (h0 : Nat) (x1 : Int32) (hG : Good g ws) (o_h0 : gC ws h0 6) (pf : 0 ≤ x1.toInt) : Met l yX7_membersFit (wt yX7_membersFit cX7_membersFit 4 (some .int)) ({ frames := 3, cells := 0, slots := 0, locals := 67 }) (va_Pc [.ref h0, .int x1] (st_G g sz ws)) (va_Qi (fun (r : Int32) (u9 : va_W) => -1 ≤ r.toInt ∧ r.toInt ≤ 24) (gQ1 g [(6, 2), (6, 3), (6, 15)] (va_A ws sz) ws) (va_A ws sz)) 0 0 (va_A ws sz) := by
  refine Met.ofW (cc := cX7_membersFit) (maxL := 4) (ret := (some .int)) (by decide) rfl ?_
  intro p e s m args below meth c s₁ B hml hv
  obtain ⟨rfl, hsz, hP, hK, hD0, hex, hE⟩ := hv
  have hx := B.exec
  have hb := B.bytes
  have hr := B.returns
  have hts0 := atoms_spec (ws := wt yX7_membersFit cX7_membersFit 4 (some .int)) B.pre
  have hts : ∀ w ∈ tb, w.before _ s = true := fun w h => hts0 w (List.mem_cons_of_mem _ h)
  have hown : s.vm.findClass RX7 = some m.cls := findClass_of_methodNamed B.named
  subst hsz
  have hD := hD0.self (sz := s.heap.size)
  generalize hAe : va_A ws s.heap.size = A at hD hE ⊢
  have hA : ∀ q : Nat, s.heap.size ≤ q → A q := fun q h => by rw [← hAe]; exact Or.inr h
  have hS : va_S A s.heap s.heap [] := va_S.rf
  have hl := lv_entry ([.ref h0, .int x1]) (n := 4) (Nat.le_of_ble_eq_true rfl)
  rw [lg_entry_eq]
  generalize (lg_sl ([.ref h0, .int x1]) ++ List.replicate (4 - (lg_sl ([.ref h0, .int x1])).length) Slot.unset).toArray = ls at hl ⊢
  have hl : lv_has ls 4 [(0, .ref h0), (1, .int x1)] := hl
  refine lv_aload_n hx hb dX7_membersFit_0 rfl (lv_at hl 0 rfl) ?_
  refine lv_iconst (v := 2) hx hb dX7_membersFit_1 (by decide) ?_
  have hFc := gfree hD hS hA
  obtain ⟨k_1, fs_1, hk_1⟩ := gC_of o_h0
  refine va_calli (va_runV (As := [.int 2]) (rest := []) ⟨hx, hb, hml, hown, hts⟩ (m_X7_isThere l g s.heap.size ws h0 (2) hG o_h0) (cwV 1 hts (gd_V kw_1272 kw_1382 kw_1383 kw_710 kw_1381) rfl rfl rfl (by decide +kernel) ⟨Nat.le_of_ble_eq_true rfl, Nat.le_of_ble_eq_true rfl⟩) ⟨gblind, va_recv hK hP (ci := 6) (q0 := k_1) rfl hk_1, fun U hU hW9 => gmk hU hW9 hP hK hD hex hE hS hFc⟩ rfl rfl hl.1 rfl (lv_room (Nat.le_of_ble_eq_true rfl)) dX7_membersFit_2 ⟨Nat.le_of_ble_eq_true rfl, Nat.le_of_ble_eq_true rfl⟩) hS (fun q _ h => hFc q h) hFc (fun r_2 ws_3 t9 H1 locs ht9 hvm9 hw9 hB9 hz9 hk9 hS => ?_)
  obtain ⟨E_4, Fr_5, hG, hP1, hD1⟩ := hB9
  have hP : va_P (gD g) cl0 ws_3 H1 := by rw [← ht9]; exact hP1
  have hD : va_D A ws_3 := hD1.weaken (fun _ _ _ h => hFc _ h)
  have hz_r_2 : r_2 = 0 ∨ r_2 = 1 := hw9
  clear hP1 hD1 hz9 hk9 hvm9 ht9 hw9
  generalize H1 = H at hP hS ⊢
  have o_h0 := E_4 _ _ o_h0
  refine lv_if_ne (tgt := 10) hx hb dX7_membersFit_5 (by decide) (fun c_6 => ?_) (fun c_6 => ?_)
  · refine lv_aload_n hx hb dX7_membersFit_10 rfl (lv_at hl 0 rfl) ?_
    refine lv_aload_n hx hb dX7_membersFit_11 rfl (lv_at hl 0 rfl) ?_
    obtain ⟨k_7, fs9, hk_7⟩ := gC_of o_h0
    obtain ⟨r0_7, n0_7, c1_7, c2_7, c3_7, r4_7, n4_7, c5_7, c6_7, c7_7, c8_7, r9_7, n9_7, r10_7, n10_7, r11_7, n11_7, c12_7, c13_7, c14_7, c15_7, c16_7, rfl, a_r0_7, f1_7, a_r4_7, f3_7, a_r9_7, f5_7, a_r10_7, f7_7, a_r11_7, f9_7, f10_7, f11_7, f12_7, f13_7, f14_7, -⟩ := (hG.1 _ _ _ _ hk_7).hX7 rfl
    refine va_get (D := gD g) (ci := 6) (v := .int c15_7) (C := RX7) (T := TX7) (N := 17) hx hb hts inX7 hown hK hP k_7 hk_7 rfl 15 (by decide) (hts _ kw_1273) (fun _ h9 => h9) rfl dX7_membersFit_12 ?_
    have hFc := gfree hD hS hA
    refine va_calli (va_runV (As := [.int c15_7]) (rest := []) ⟨hx, hb, hml, hown, hts⟩ (m_X7_u2 l g H.size ws_3 h0 (c15_7) hG o_h0) (cwV 1 hts (gd_V kw_1266 kw_1450 kw_1451 kw_710 kw_1449) rfl rfl rfl (by decide +kernel) ⟨Nat.le_of_ble_eq_true rfl, Nat.le_of_ble_eq_true rfl⟩) ⟨gblind, va_recv hK hP (ci := 6) (q0 := k_7) rfl hk_7, fun U hU hW9 => gmk hU hW9 hP hK hD hex hE hS hFc⟩ rfl rfl hl.1 rfl (lv_room (Nat.le_of_ble_eq_true rfl)) dX7_membersFit_15 ⟨Nat.le_of_ble_eq_true rfl, Nat.le_of_ble_eq_true rfl⟩) hS (fun q _ h => hFc q h) hFc (fun r_8 u9 t9 H1 locs ht9 hvm9 hw9 hB9 hz9 hk9 hS => ?_)
    have hP : va_P (gD g) cl0 ws_3 H1 := by rw [← ht9]; exact hB9.1
    have h_r_8 := hw9
    clear hB9 hz9 hk9 hvm9 ht9 hw9
    generalize H1 = H at hP hS ⊢
    refine lv_istore_n (lv' := [(2, .int r_8), (0, .ref h0), (1, .int x1)]) hx hb dX7_membersFit_18 rfl hl (by decide) rfl (fun ls hl => ?_)
    refine lv_iload_n hx hb dX7_membersFit_19 rfl (lv_at hl 0 rfl) ?_
    refine lv_bipush (v := 24) hx hb dX7_membersFit_20 (by decide) ?_
    refine lv_icmp_le (tgt := 37) hx hb dX7_membersFit_22 (by decide) (fun c_9 => ?_) (fun c_9 => ?_)
    · refine lv_aload_n hx hb dX7_membersFit_37 rfl (lv_at hl 1 rfl) ?_
      refine lv_dup hx hb dX7_membersFit_38 rfl ?_
      refine va_get (D := gD g) (ci := 6) (v := .int c15_7) (C := RX7) (T := TX7) (N := 17) hx hb hts inX7 hown hK hP k_7 hk_7 rfl 15 (by decide) (hts _ kw_1273) (fun _ h9 => h9) rfl dX7_membersFit_39 ?_
      refine lv_iconst (v := 2) hx hb dX7_membersFit_42 (by decide) ?_
      refine lv_iadd hx hb dX7_membersFit_43 ?_
      refine lv_topi (fun z_10 ez_10 => ?_)
      refine va_put (D := gD g) (ci := 6) (v := .int z_10) (ty := .int) (C := RX7) (T := TX7) (N := 17) hx hb hts inX7 tyX7 tyX7_ok nmX7 hown hK hP hD hS k_7 hk_7 rfl 15 (by decide) (hts _ kw_1273) (fun _ h9 => h9) rfl (by decide +kernel) rfl rfl (Nat.le_of_ble_eq_true rfl) dX7_membersFit_44 (fun H locs hP hD hS => ?_)
      have hi_11 : invX7 g ws_3 h0 [.ref r0_7, .int c1_7, .int c2_7, .int c3_7, .ref r4_7, .int c5_7, .int c6_7, .int c7_7, .int c8_7, .ref r9_7, .ref r10_7, .ref r11_7, .int c12_7, .int c13_7, .int c14_7, .int z_10, .int c16_7] := ⟨r0_7, (n0_7), (c1_7), (c2_7), (c3_7), r4_7, (n4_7), (c5_7), (c6_7), (c7_7), (c8_7), r9_7, (n9_7), r10_7, (n10_7), r11_7, (n11_7), (c12_7), (c13_7), (c14_7), (z_10), (c16_7), rfl, a_r0_7, f1_7, a_r4_7, f3_7, a_r9_7, f5_7, a_r10_7, f7_7, a_r11_7, f9_7, f10_7, f11_7, f12_7, f13_7, f14_7, trivial⟩
      obtain ⟨ws_12, e_ws_12⟩ : ∃ z, z = ws_3.set k_7 (h0, .inr (6, [.ref r0_7, .int c1_7, .int c2_7, .int c3_7, .ref r4_7, .int c5_7, .int c6_7, .int c7_7, .int c8_7, .ref r9_7, .ref r10_7, .ref r11_7, .int c12_7, .int c13_7, .int c14_7, .int z_10, .int c16_7])) := ⟨_, rfl⟩
      have hP : va_P (gD g) cl0 ws_12 H := by rw [e_ws_12]; exact hP
      have hD : va_D A ws_12 := by rw [e_ws_12]; exact hD
      have E_13 : gE ws_3 ws_12 := gE_set e_ws_12 hk_7 rfl
      have hG : Good g ws_12 := Good_set e_ws_12 hk_7 hG (ivX7 hi_11)
      have Fr_14 : gF [(6, 15)] ws_3 ws_12 := gF_put (fi := 15) (v := .int z_10) e_ws_12 hk_7 rfl
      have hkN := gset_self e_ws_12 hk_7
      have hk_7 := hkN
      have o_h0 := E_13 _ _ o_h0
      have a_r0_7 := E_13 _ _ a_r0_7
      have a_r4_7 := E_13 _ _ a_r4_7
      have a_r9_7 := E_13 _ _ a_r9_7
      have a_r10_7 := E_13 _ _ a_r10_7
      have a_r11_7 := E_13 _ _ a_r11_7
      refine lv_iload_n hx hb dX7_membersFit_47 rfl (lv_at hl 2 rfl) ?_
      refine lv_istore_n (lv' := [(3, .int x1), (2, .int r_8), (0, .ref h0), (1, .int x1)]) hx hb dX7_membersFit_48 rfl hl (by decide) rfl (fun ls hl => ?_)
      have J_49 : ∀ (n9 : Nat) (v3_15 : Int32) (ws_17 : va_W) (H : Heap) (locs : List Loc) (ls : Array Slot), (2147483647 - v3_15.toInt).toNat = n9 → 0 ≤ v3_15.toInt → gE ws_12 ws_17 → gF [(6, 2), (6, 3), (6, 15)] ws_12 ws_17 → Good g ws_17 → va_P (gD g) cl0 ws_17 H → va_D A ws_17 → va_S A s.heap H locs → lv_has ls 4 [(0, .ref h0), (1, .int x1), (2, .int r_8), (3, .int v3_15)] → W p l e (headSpec (wt yX7_membersFit cX7_membersFit 4 (some .int)) ({ frames := 3, cells := 0, slots := 0, locals := 67 })).room s m ([.ref h0, .int x1] : List Value).toArray below meth c H locs 0 0 (MQ below (va_Qi (fun (r : Int32) (u9 : va_W) => -1 ≤ r.toInt ∧ r.toInt ≤ 24) (gQ1 g [(6, 2), (6, 3), (6, 15)] A ws) A) ([.ref h0, .int x1] : List Value).toArray s 0 0 A) (F0 m 49 ls []) := by
        intro n9
        induction n9 using Nat.strongRecOn with
        | ind n9 ih_49 =>
          intro v3_15 ws_17 H locs ls hm9 iv_16 E_18 Fr_19 hG hP hD hS hl
          subst hm9
          have aa_20 := a_r0_7
          have aa_21 := a_r4_7
          have aa_22 := a_r9_7
          have aa_23 := a_r10_7
          have aa_24 := a_r11_7
          have o_h0 := E_18 _ _ o_h0
          refine lv_iload_n hx hb dX7_membersFit_49 rfl (lv_at hl 3 rfl) ?_
          refine lv_iload_n hx hb dX7_membersFit_50 rfl (lv_at hl 1 rfl) ?_
          refine lv_iload_n hx hb dX7_membersFit_51 rfl (lv_at hl 2 rfl) ?_
          refine lv_iadd hx hb dX7_membersFit_52 ?_
          refine lv_topi (fun z_25 ez_25 => ?_)
          have J_112 : ∀  (H : Heap) (locs : List Loc) (ls : Array Slot), va_P (gD g) cl0 ws_17 H → va_D A ws_17 → va_S A s.heap H locs → lv_has ls 4 [(2, .int r_8)] → W p l e (headSpec (wt yX7_membersFit cX7_membersFit 4 (some .int)) ({ frames := 3, cells := 0, slots := 0, locals := 67 })).room s m ([.ref h0, .int x1] : List Value).toArray below meth c H locs 0 0 (MQ below (va_Qi (fun (r : Int32) (u9 : va_W) => -1 ≤ r.toInt ∧ r.toInt ≤ 24) (gQ1 g [(6, 2), (6, 3), (6, 15)] A ws) A) ([.ref h0, .int x1] : List Value).toArray s 0 0 A) (F0 m 112 ls []) := by
            intro  H locs ls  hP hD hS hl
            refine lv_iload_n hx hb dX7_membersFit_112 rfl (lv_at hl 0 rfl) ?_
            refine W.widen (k := 0) (n := 0) (Nat.le_of_ble_eq_true rfl) (Nat.le_of_ble_eq_true rfl) ?_
            exact W.iret (v := r_8) hx hb hr (fun t9 ht9 hW9 => ⟨⟨_, ws_17, rfl, (by have e24 : (24 : Int32).toInt = 24 := (by decide); have q_pf := pf; have q_r_8 := h_r_8; have q_c_9 := i_le c_9; obtain ⟨u_z_25, q_z_25⟩ := i_add ez_25; have g_r_8 := i_rg r_8; have g_x1 := i_rg x1; have g_z_25 := i_rg z_25; omega), ⟨(E_4.tr (E_13.tr E_18)), (gF.tr (gF.mo (F' := [(6, 2), (6, 3), (6, 15)]) Fr_5 (by decide)) (gF.tr (gF.mo (F' := [(6, 2), (6, 3), (6, 15)]) Fr_14 (by decide)) Fr_19)), hG, by rw [ht9]; exact hP, hD⟩⟩, hS.F ht9⟩) hS.2.2 dX7_membersFit_113
          refine lv_icmp_ge (tgt := 112) hx hb dX7_membersFit_53 (by decide) (fun c_28 => ?_) (fun c_28 => ?_)
          · exact J_112  H locs ls  hP hD hS (lv_sub hl [2] rfl)
          · refine lv_iload_n hx hb dX7_membersFit_56 rfl (lv_at hl 3 rfl) ?_
            refine lv_aload_n hx hb dX7_membersFit_57 rfl (lv_at hl 0 rfl) ?_
            obtain ⟨fs9, hk_29, hq_29⟩ := (Fr_19) _ _ _ _ hk_7
            obtain ⟨r0_29, n0_29, c1_29, c2_29, c3_29, r4_29, n4_29, c5_29, c6_29, c7_29, c8_29, r9_29, n9_29, r10_29, n10_29, r11_29, n11_29, c12_29, c13_29, c14_29, c15_29, c16_29, rfl, a_r0_29, f1_29, a_r4_29, f3_29, a_r9_29, f5_29, a_r10_29, f7_29, a_r11_29, f9_29, f10_29, f11_29, f12_29, f13_29, f14_29, -⟩ := (hG.1 _ _ _ _ hk_29).hX7 rfl
            obtain rfl := fe_r (hq_29 9 (by decide))
            have hn9 := gI_n hD ((E_18) _ _ aa_22) a_r9_29
            subst hn9
            have a_r9_7 := a_r9_29
            refine va_get (D := gD g) (ci := 6) (v := .ref r9_7) (C := RX7) (T := TX7) (N := 17) hx hb hts inX7 hown hK hP k_7 hk_29 rfl 9 (by decide) (hts _ kw_1342) (fun _ h9 => h9) rfl dX7_membersFit_58 ?_
            obtain ⟨k_30, f_30, hk_30⟩ := gI_of a_r9_7
            obtain ⟨z_31, ez_31⟩ : ∃ z : Int32, Int32.ofNat n9_7 = z := ⟨_, rfl⟩
            refine va_alen (v := z_31) hx hb hK hP k_30 1 hk_30 rfl ez_31 dX7_membersFit_61 ?_
            refine lv_icmp_ge (tgt := 112) hx hb dX7_membersFit_62 (by decide) (fun c_32 => ?_) (fun c_32 => ?_)
            · exact J_112  H locs ls  hP hD hS (lv_sub hl [2] rfl)
            · refine lv_aload_n hx hb dX7_membersFit_65 rfl (lv_at hl 0 rfl) ?_
              refine va_get (D := gD g) (ci := 6) (v := .ref r9_7) (C := RX7) (T := TX7) (N := 17) hx hb hts inX7 hown hK hP k_7 hk_29 rfl 9 (by decide) (hts _ kw_1342) (fun _ h9 => h9) rfl dX7_membersFit_66 ?_
              refine lv_iload_n hx hb dX7_membersFit_69 rfl (lv_at hl 3 rfl) ?_
              refine lv_aload_n hx hb dX7_membersFit_70 rfl (lv_at hl 0 rfl) ?_
              refine va_get (D := gD g) (ci := 6) (v := .int c15_29) (C := RX7) (T := TX7) (N := 17) hx hb hts inX7 hown hK hP k_7 hk_29 rfl 15 (by decide) (hts _ kw_1273) (fun _ h9 => h9) rfl dX7_membersFit_71 ?_
              refine va_iast hx hb hK hP hD hS k_30 1 hk_30 rfl (i_in2 (by have q_f5_7 := f5_7; have q_f12_7 := f12_7; have q_iv_16 := iv_16; have q_c_28 := i_nle c_28; have q_z_31 := i_len ez_31 f5_29; have q_c_32 := i_nle c_32; obtain ⟨u_z_25, q_z_25⟩ := i_add ez_25; have g_r_8 := i_rg r_8; have g_v3_15 := i_rg v3_15; have g_x1 := i_rg x1; have g_z_25 := i_rg z_25; have g_z_31 := i_rg z_31; omega)) dX7_membersFit_74 (fun H locs hP hD hS => ?_)
              obtain ⟨ws_33, e_ws_33⟩ : ∃ z, z = ws_17.set k_30 (r9_7, .inl (g.cI, n9_7, .inl (upd f_30 (v3_15 : Int32).toNatClampNeg c15_29))) := ⟨_, rfl⟩
              have hP : va_P (gD g) cl0 ws_33 H := by rw [e_ws_33]; exact hP
              have hD : va_D A ws_33 := by rw [e_ws_33]; exact hD
              have E_34 : gE ws_17 ws_33 := gE_ari e_ws_33 hk_30
              have hG : Good g ws_33 := Good_arI e_ws_33 hk_30 hG
              have Fr_35 : gF [] ws_17 ws_33 := gF_ar e_ws_33 hk_30
              have hk_29 := gset_arO e_ws_33 hk_30 hk_29
              have o_h0 := E_34 _ _ o_h0
              have a_r0_29 := E_34 _ _ a_r0_29
              have a_r4_29 := E_34 _ _ a_r4_29
              have a_r10_29 := E_34 _ _ a_r10_29
              have a_r11_29 := E_34 _ _ a_r11_29
              have a_r9_7 := E_34 _ _ a_r9_7
              refine lv_aload_n hx hb dX7_membersFit_75 rfl (lv_at hl 0 rfl) ?_
              refine lv_bipush (v := 6) hx hb dX7_membersFit_76 (by decide) ?_
              have hFc := gfree hD hS hA
              refine va_calli (va_runV (As := [.int 6]) (rest := []) ⟨hx, hb, hml, hown, hts⟩ (m_X7_isThere l g H.size ws_33 h0 (6) hG o_h0) (cwV 1 hts (gd_V kw_1272 kw_1382 kw_1383 kw_710 kw_1381) rfl rfl rfl (by decide +kernel) ⟨Nat.le_of_ble_eq_true rfl, Nat.le_of_ble_eq_true rfl⟩) ⟨gblind, va_recv hK hP (ci := 6) (q0 := k_7) rfl hk_29, fun U hU hW9 => gmk hU hW9 hP hK hD hex hE hS hFc⟩ rfl rfl hl.1 rfl (lv_room (Nat.le_of_ble_eq_true rfl)) dX7_membersFit_78 ⟨Nat.le_of_ble_eq_true rfl, Nat.le_of_ble_eq_true rfl⟩) hS (fun q _ h => hFc q h) hFc (fun r_36 ws_37 t9 H1 locs ht9 hvm9 hw9 hB9 hz9 hk9 hS => ?_)
              obtain ⟨E_38, Fr_39, hG, hP1, hD1⟩ := hB9
              have hP : va_P (gD g) cl0 ws_37 H1 := by rw [← ht9]; exact hP1
              have hD : va_D A ws_37 := hD1.weaken (fun _ _ _ h => hFc _ h)
              have hz_r_36 : r_36 = 0 ∨ r_36 = 1 := hw9
              clear hP1 hD1 hz9 hk9 hvm9 ht9 hw9
              generalize H1 = H at hP hS ⊢
              have aa_40 := a_r0_29
              have aa_41 := a_r4_29
              have aa_42 := a_r9_7
              have aa_43 := a_r10_29
              have aa_44 := a_r11_29
              have o_h0 := E_38 _ _ o_h0
              refine lv_if_ne (tgt := 86) hx hb dX7_membersFit_81 (by decide) (fun c_45 => ?_) (fun c_45 => ?_)
              · refine lv_aload_n hx hb dX7_membersFit_86 rfl (lv_at hl 0 rfl) ?_
                refine lv_dup hx hb dX7_membersFit_87 rfl ?_
                obtain ⟨fs9, hk_46, hq_46⟩ := (Fr_39) _ _ _ _ hk_29
                obtain ⟨r0_46, n0_46, c1_46, c2_46, c3_46, r4_46, n4_46, c5_46, c6_46, c7_46, c8_46, r9_46, n9_46, r10_46, n10_46, r11_46, n11_46, c12_46, c13_46, c14_46, c15_46, c16_46, rfl, a_r0_46, f1_46, a_r4_46, f3_46, a_r9_46, f5_46, a_r10_46, f7_46, a_r11_46, f9_46, f10_46, f11_46, f12_46, f13_46, f14_46, -⟩ := (hG.1 _ _ _ _ hk_46).hX7 rfl
                obtain rfl := fe_r (hq_46 9 (by decide))
                have hn9 := gI_n hD ((E_38) _ _ aa_42) a_r9_46
                subst hn9
                have a_r9_7 := a_r9_46
                obtain rfl := fe_i (hq_46 15 (by decide))
                refine va_get (D := gD g) (ci := 6) (v := .int c15_29) (C := RX7) (T := TX7) (N := 17) hx hb hts inX7 hown hK hP k_7 hk_46 rfl 15 (by decide) (hts _ kw_1273) (fun _ h9 => h9) rfl dX7_membersFit_88 ?_
                refine lv_bipush (v := 6) hx hb dX7_membersFit_91 (by decide) ?_
                refine lv_iadd hx hb dX7_membersFit_93 ?_
                refine lv_topi (fun z_47 ez_47 => ?_)
                refine va_put (D := gD g) (ci := 6) (v := .int z_47) (ty := .int) (C := RX7) (T := TX7) (N := 17) hx hb hts inX7 tyX7 tyX7_ok nmX7 hown hK hP hD hS k_7 hk_46 rfl 15 (by decide) (hts _ kw_1273) (fun _ h9 => h9) rfl (by decide +kernel) rfl rfl (Nat.le_of_ble_eq_true rfl) dX7_membersFit_94 (fun H locs hP hD hS => ?_)
                have hi_48 : invX7 g ws_37 h0 [.ref r0_46, .int c1_46, .int c2_46, .int c3_46, .ref r4_46, .int c5_46, .int c6_46, .int c7_46, .int c8_46, .ref r9_7, .ref r10_46, .ref r11_46, .int c12_46, .int c13_46, .int c14_46, .int z_47, .int c16_46] := ⟨r0_46, (n0_46), (c1_46), (c2_46), (c3_46), r4_46, (n4_46), (c5_46), (c6_46), (c7_46), (c8_46), r9_7, (n9_7), r10_46, (n10_46), r11_46, (n11_46), (c12_46), (c13_46), (c14_46), (z_47), (c16_46), rfl, a_r0_46, f1_46, a_r4_46, f3_46, a_r9_7, f5_46, a_r10_46, f7_46, a_r11_46, f9_46, f10_46, f11_46, f12_46, f13_46, f14_46, trivial⟩
                obtain ⟨ws_49, e_ws_49⟩ : ∃ z, z = ws_37.set k_7 (h0, .inr (6, [.ref r0_46, .int c1_46, .int c2_46, .int c3_46, .ref r4_46, .int c5_46, .int c6_46, .int c7_46, .int c8_46, .ref r9_7, .ref r10_46, .ref r11_46, .int c12_46, .int c13_46, .int c14_46, .int z_47, .int c16_46])) := ⟨_, rfl⟩
                have hP : va_P (gD g) cl0 ws_49 H := by rw [e_ws_49]; exact hP
                have hD : va_D A ws_49 := by rw [e_ws_49]; exact hD
                have E_50 : gE ws_37 ws_49 := gE_set e_ws_49 hk_46 rfl
                have hG : Good g ws_49 := Good_set e_ws_49 hk_46 hG (ivX7 hi_48)
                have Fr_51 : gF [(6, 15)] ws_37 ws_49 := gF_put (fi := 15) (v := .int z_47) e_ws_49 hk_46 rfl
                have hkN := gset_self e_ws_49 hk_46
                have hk_46 := hkN
                have o_h0 := E_50 _ _ o_h0
                have a_r0_46 := E_50 _ _ a_r0_46
                have a_r4_46 := E_50 _ _ a_r4_46
                have a_r10_46 := E_50 _ _ a_r10_46
                have a_r11_46 := E_50 _ _ a_r11_46
                have a_r9_7 := E_50 _ _ a_r9_7
                refine lv_aload_n hx hb dX7_membersFit_97 rfl (lv_at hl 0 rfl) ?_
                have hFc := gfree hD hS hA
                refine va_calli (va_runV (As := []) (rest := []) ⟨hx, hb, hml, hown, hts⟩ (m_X7_attributesFit l g H.size ws_49 h0 hG o_h0) (cwV 0 hts (gd_V kw_1324 kw_1270 kw_1271 kw_710 kw_1269) rfl rfl rfl (by decide +kernel) ⟨Nat.le_of_ble_eq_true rfl, Nat.le_of_ble_eq_true rfl⟩) ⟨gblind, va_recv hK hP (ci := 6) (q0 := k_7) rfl hk_46, fun U hU hW9 => gmk hU hW9 hP hK hD hex hE hS hFc⟩ rfl rfl hl.1 rfl (lv_room (Nat.le_of_ble_eq_true rfl)) dX7_membersFit_98 ⟨Nat.le_of_ble_eq_true rfl, Nat.le_of_ble_eq_true rfl⟩) hS (fun q _ h => hFc q h) hFc (fun r_52 ws_53 t9 H1 locs ht9 hvm9 hw9 hB9 hz9 hk9 hS => ?_)
                obtain ⟨E_54, Fr_55, hG, hP1, hD1⟩ := hB9
                have hP : va_P (gD g) cl0 ws_53 H1 := by rw [← ht9]; exact hP1
                have hD : va_D A ws_53 := hD1.weaken (fun _ _ _ h => hFc _ h)
                have hz_r_52 : r_52 = 0 ∨ r_52 = 1 := hw9
                clear hP1 hD1 hz9 hk9 hvm9 ht9 hw9
                generalize H1 = H at hP hS ⊢
                have aa_56 := a_r0_46
                have aa_57 := a_r4_46
                have aa_58 := a_r9_7
                have aa_59 := a_r10_46
                have aa_60 := a_r11_46
                have o_h0 := E_54 _ _ o_h0
                refine lv_if_ne (tgt := 106) hx hb dX7_membersFit_101 (by decide) (fun c_61 => ?_) (fun c_61 => ?_)
                · obtain ⟨z_62, ez_62⟩ : ∃ z : Int32, v3_15 + Int32.ofInt 1 = z := ⟨_, rfl⟩
                  refine lv_iinc (v := z_62) (lv' := [(3, .int z_62), (0, .ref h0), (1, .int x1), (2, .int r_8)]) hx hb dX7_membersFit_106 hl (k := 3) rfl ez_62 (by decide) rfl (fun ls hl => ?_)
                  refine lv_goto (tgt := 49) hx hb dX7_membersFit_109 (by decide) ?_
                  exact ih_49 _ (by obtain ⟨u_z_62, q_z_62⟩ := i_iz ez_62 (by decide) (by decide); have q_iv_16 := iv_16; have q_c_28 := i_nle c_28; have q_c_32 := i_nle c_32; have g_v3_15 := i_rg v3_15; have g_z_25 := i_rg z_25; have g_z_31 := i_rg z_31; have g_z_62 := i_rg z_62; omega) (z_62) ws_53 H locs ls rfl (by obtain ⟨u_z_62, q_z_62⟩ := i_iz ez_62 (by decide) (by decide); have q_iv_16 := iv_16; have q_c_28 := i_nle c_28; have q_c_32 := i_nle c_32; have g_v3_15 := i_rg v3_15; have g_z_25 := i_rg z_25; have g_z_31 := i_rg z_31; have g_z_62 := i_rg z_62; omega) ((E_18.tr (E_34.tr (E_38.tr (E_50.tr E_54))))) ((gF.tr Fr_19 (gF.tr (gF.mo (F' := [(6, 2), (6, 3), (6, 15)]) Fr_35 (by decide)) (gF.tr (gF.mo (F' := [(6, 2), (6, 3), (6, 15)]) Fr_39 (by decide)) (gF.tr (gF.mo (F' := [(6, 2), (6, 3), (6, 15)]) Fr_51 (by decide)) Fr_55))))) hG hP hD hS (lv_sub hl [1, 2, 3, 0] rfl)
                · refine lv_iconst (v := (-1)) hx hb dX7_membersFit_104 (by decide) ?_
                  refine W.widen (k := 0) (n := 0) (Nat.le_of_ble_eq_true rfl) (Nat.le_of_ble_eq_true rfl) ?_
                  exact W.iret (v := (-1)) hx hb hr (fun t9 ht9 hW9 => ⟨⟨_, ws_53, rfl, (by have em1 : ((-1) : Int32).toInt = -1 := (by decide); have e24 : (24 : Int32).toInt = 24 := (by decide); have q_pf := pf; obtain ⟨u_z_25, q_z_25⟩ := i_add ez_25; have q_r_8 := h_r_8; have q_c_9 := i_le c_9; have q_c_28 := i_nle c_28; have g_r_8 := i_rg r_8; have g_v3_15 := i_rg v3_15; have g_x1 := i_rg x1; have g_z_25 := i_rg z_25; omega), ⟨(E_4.tr (E_13.tr (E_18.tr (E_34.tr (E_38.tr (E_50.tr E_54)))))), (gF.tr (gF.mo (F' := [(6, 2), (6, 3), (6, 15)]) Fr_5 (by decide)) (gF.tr (gF.mo (F' := [(6, 2), (6, 3), (6, 15)]) Fr_14 (by decide)) (gF.tr Fr_19 (gF.tr (gF.mo (F' := [(6, 2), (6, 3), (6, 15)]) Fr_35 (by decide)) (gF.tr (gF.mo (F' := [(6, 2), (6, 3), (6, 15)]) Fr_39 (by decide)) (gF.tr (gF.mo (F' := [(6, 2), (6, 3), (6, 15)]) Fr_51 (by decide)) Fr_55)))))), hG, by rw [ht9]; exact hP, hD⟩⟩, hS.F ht9⟩) hS.2.2 dX7_membersFit_105
              · refine lv_iconst (v := (-1)) hx hb dX7_membersFit_84 (by decide) ?_
                refine W.widen (k := 0) (n := 0) (Nat.le_of_ble_eq_true rfl) (Nat.le_of_ble_eq_true rfl) ?_
                exact W.iret (v := (-1)) hx hb hr (fun t9 ht9 hW9 => ⟨⟨_, ws_37, rfl, (by have em1 : ((-1) : Int32).toInt = -1 := (by decide); have e24 : (24 : Int32).toInt = 24 := (by decide); have q_pf := pf; obtain ⟨u_z_25, q_z_25⟩ := i_add ez_25; have q_r_8 := h_r_8; have q_c_9 := i_le c_9; have q_c_28 := i_nle c_28; have g_r_8 := i_rg r_8; have g_v3_15 := i_rg v3_15; have g_x1 := i_rg x1; have g_z_25 := i_rg z_25; omega), ⟨(E_4.tr (E_13.tr (E_18.tr (E_34.tr E_38)))), (gF.tr (gF.mo (F' := [(6, 2), (6, 3), (6, 15)]) Fr_5 (by decide)) (gF.tr (gF.mo (F' := [(6, 2), (6, 3), (6, 15)]) Fr_14 (by decide)) (gF.tr Fr_19 (gF.tr (gF.mo (F' := [(6, 2), (6, 3), (6, 15)]) Fr_35 (by decide)) (gF.mo (F' := [(6, 2), (6, 3), (6, 15)]) Fr_39 (by decide)))))), hG, by rw [ht9]; exact hP, hD⟩⟩, hS.F ht9⟩) hS.2.2 dX7_membersFit_85
      exact J_49 _ (x1) ws_12 H locs ls rfl (by have q_pf := pf; have g_x1 := i_rg x1; omega) (gE.rf) (gF.rf) hG hP hD hS (lv_sub hl [2, 3, 1, 0] rfl)
    · refine lv_aload_n hx hb dX7_membersFit_25 rfl (lv_at hl 1 rfl) ?_
      refine lv_iconst (v := 5) hx hb dX7_membersFit_26 (by decide) ?_
      refine lv_aload_n hx hb dX7_membersFit_27 rfl (lv_at hl 1 rfl) ?_
      refine va_get (D := gD g) (ci := 6) (v := .int c15_7) (C := RX7) (T := TX7) (N := 17) hx hb hts inX7 hown hK hP k_7 hk_7 rfl 15 (by decide) (hts _ kw_1273) (fun _ h9 => h9) rfl dX7_membersFit_28 ?_
      have hFc := gfree hD hS hA
      refine va_calli (va_runV (As := [.int 5, .int c15_7]) (rest := []) ⟨hx, hb, hml, hown, hts⟩ (m_X7_breaks l g H.size ws_3 h0 (5) (c15_7) hG o_h0) (cwV 2 hts (gd_V kw_1276 kw_1278 kw_1279 kw_710 kw_1277) rfl rfl rfl (by decide +kernel) ⟨Nat.le_of_ble_eq_true rfl, Nat.le_of_ble_eq_true rfl⟩) ⟨gblind, va_recv hK hP (ci := 6) (q0 := k_7) rfl hk_7, fun U hU hW9 => gmk hU hW9 hP hK hD hex hE hS hFc⟩ rfl rfl hl.1 rfl (lv_room (Nat.le_of_ble_eq_true rfl)) dX7_membersFit_31 ⟨Nat.le_of_ble_eq_true rfl, Nat.le_of_ble_eq_true rfl⟩) hS (fun q _ h => hFc q h) hFc (fun r_63 ws_64 t9 H1 locs ht9 hvm9 hw9 hB9 hz9 hk9 hS => ?_)
      obtain ⟨E_65, Fr_66, hG, hP1, hD1⟩ := hB9
      have hP : va_P (gD g) cl0 ws_64 H1 := by rw [← ht9]; exact hP1
      have hD : va_D A ws_64 := hD1.weaken (fun _ _ _ h => hFc _ h)
      have hz_r_63 : r_63 = 0 ∨ r_63 = 1 := hw9
      clear hP1 hD1 hz9 hk9 hvm9 ht9 hw9
      generalize H1 = H at hP hS ⊢
      have aa_67 := a_r0_7
      have aa_68 := a_r4_7
      have aa_69 := a_r9_7
      have aa_70 := a_r10_7
      have aa_71 := a_r11_7
      have o_h0 := E_65 _ _ o_h0
      refine lv_pop hx hb dX7_membersFit_34 rfl ?_
      refine lv_iconst (v := (-1)) hx hb dX7_membersFit_35 (by decide) ?_
      refine W.widen (k := 0) (n := 0) (Nat.le_of_ble_eq_true rfl) (Nat.le_of_ble_eq_true rfl) ?_
      exact W.iret (v := (-1)) hx hb hr (fun t9 ht9 hW9 => ⟨⟨_, ws_64, rfl, (by have em1 : ((-1) : Int32).toInt = -1 := (by decide); have q_pf := pf; have g_x1 := i_rg x1; omega), ⟨(E_4.tr E_65), (gF.tr (gF.mo (F' := [(6, 2), (6, 3), (6, 15)]) Fr_5 (by decide)) (gF.mo (F' := [(6, 2), (6, 3), (6, 15)]) Fr_66 (by decide))), hG, by rw [ht9]; exact hP, hD⟩⟩, hS.F ht9⟩) hS.2.2 dX7_membersFit_36
  · refine lv_iconst (v := (-1)) hx hb dX7_membersFit_8 (by decide) ?_
    refine W.widen (k := 0) (n := 0) (Nat.le_of_ble_eq_true rfl) (Nat.le_of_ble_eq_true rfl) ?_
    exact W.iret (v := (-1)) hx hb hr (fun t9 ht9 hW9 => ⟨⟨_, ws_3, rfl, (by have em1 : ((-1) : Int32).toInt = -1 := (by decide); have q_pf := pf; have g_x1 := i_rg x1; omega), ⟨E_4, (gF.mo (F' := [(6, 2), (6, 3), (6, 15)]) Fr_5 (by decide)), hG, by rw [ht9]; exact hP, hD⟩⟩, hS.F ht9⟩) hS.2.2 dX7_membersFit_9
set_option maxHeartbeats 1000000 in
set_option maxRecDepth 100000 in
theorem m_X7_fileAttributesFit (l : Launch) (g : Gm) (sz : Nat) (ws : va_W) (h0 : Nat) (hG : Good g ws) (o_h0 : gC ws h0 6) : Met l yX7_fileAttributesFit (wt yX7_fileAttributesFit cX7_fileAttributesFit 1 (some .boolean)) ({ frames := 3, cells := 0, slots := 0, locals := 67 }) (va_Pc [.ref h0] (st_G g sz ws)) (va_Qi (fun (r : Int32) (u9 : va_W) => r = 0 ∨ r = 1) (gQ1 g [(6, 2), (6, 3), (6, 15), (6, 16)] (va_A ws sz) ws) (va_A ws sz)) 0 0 (va_A ws sz) := by
  refine Met.ofW (cc := cX7_fileAttributesFit) (maxL := 1) (ret := (some .boolean)) (by decide) rfl ?_
  intro p e s m args below meth c s₁ B hml hv
  obtain ⟨rfl, hsz, hP, hK, hD0, hex, hE⟩ := hv
  have hx := B.exec
  have hb := B.bytes
  have hr := B.returns
  have hts0 := atoms_spec (ws := wt yX7_fileAttributesFit cX7_fileAttributesFit 1 (some .boolean)) B.pre
  have hts : ∀ w ∈ tb, w.before _ s = true := fun w h => hts0 w (List.mem_cons_of_mem _ h)
  have hown : s.vm.findClass RX7 = some m.cls := findClass_of_methodNamed B.named
  subst hsz
  have hD := hD0.self (sz := s.heap.size)
  generalize hAe : va_A ws s.heap.size = A at hD hE ⊢
  have hA : ∀ q : Nat, s.heap.size ≤ q → A q := fun q h => by rw [← hAe]; exact Or.inr h
  have hS : va_S A s.heap s.heap [] := va_S.rf
  have hl := lv_entry ([.ref h0]) (n := 1) (Nat.le_of_ble_eq_true rfl)
  rw [lg_entry_eq]
  generalize (lg_sl ([.ref h0]) ++ List.replicate (1 - (lg_sl ([.ref h0])).length) Slot.unset).toArray = ls at hl ⊢
  have hl : lv_has ls 1 [(0, .ref h0)] := hl
  refine lv_aload_n hx hb dX7_fileAttributesFit_0 rfl (lv_at hl 0 rfl) ?_
  refine lv_aload_n hx hb dX7_fileAttributesFit_1 rfl (lv_at hl 0 rfl) ?_
  obtain ⟨k_1, fs9, hk_1⟩ := gC_of o_h0
  obtain ⟨r0_1, n0_1, c1_1, c2_1, c3_1, r4_1, n4_1, c5_1, c6_1, c7_1, c8_1, r9_1, n9_1, r10_1, n10_1, r11_1, n11_1, c12_1, c13_1, c14_1, c15_1, c16_1, rfl, a_r0_1, f1_1, a_r4_1, f3_1, a_r9_1, f5_1, a_r10_1, f7_1, a_r11_1, f9_1, f10_1, f11_1, f12_1, f13_1, f14_1, -⟩ := (hG.1 _ _ _ _ hk_1).hX7 rfl
  refine va_get (D := gD g) (ci := 6) (v := .int c15_1) (C := RX7) (T := TX7) (N := 17) hx hb hts inX7 hown hK hP k_1 hk_1 rfl 15 (by decide) (hts _ kw_1273) (fun _ h9 => h9) rfl dX7_fileAttributesFit_2 ?_
  refine va_put (D := gD g) (ci := 6) (v := .int c15_1) (ty := .int) (C := RX7) (T := TX7) (N := 17) hx hb hts inX7 tyX7 tyX7_ok nmX7 hown hK hP hD hS k_1 hk_1 rfl 16 (by decide) (hts _ kw_1323) (fun _ h9 => h9) rfl (by decide +kernel) rfl rfl (Nat.le_of_ble_eq_true rfl) dX7_fileAttributesFit_5 (fun H locs hP hD hS => ?_)
  have hi_2 : invX7 g ws h0 [.ref r0_1, .int c1_1, .int c2_1, .int c3_1, .ref r4_1, .int c5_1, .int c6_1, .int c7_1, .int c8_1, .ref r9_1, .ref r10_1, .ref r11_1, .int c12_1, .int c13_1, .int c14_1, .int c15_1, .int c15_1] := ⟨r0_1, (n0_1), (c1_1), (c2_1), (c3_1), r4_1, (n4_1), (c5_1), (c6_1), (c7_1), (c8_1), r9_1, (n9_1), r10_1, (n10_1), r11_1, (n11_1), (c12_1), (c13_1), (c14_1), (c15_1), (c15_1), rfl, a_r0_1, f1_1, a_r4_1, f3_1, a_r9_1, f5_1, a_r10_1, f7_1, a_r11_1, f9_1, f10_1, f11_1, f12_1, f13_1, f14_1, trivial⟩
  obtain ⟨ws_3, e_ws_3⟩ : ∃ z, z = ws.set k_1 (h0, .inr (6, [.ref r0_1, .int c1_1, .int c2_1, .int c3_1, .ref r4_1, .int c5_1, .int c6_1, .int c7_1, .int c8_1, .ref r9_1, .ref r10_1, .ref r11_1, .int c12_1, .int c13_1, .int c14_1, .int c15_1, .int c15_1])) := ⟨_, rfl⟩
  have hP : va_P (gD g) cl0 ws_3 H := by rw [e_ws_3]; exact hP
  have hD : va_D A ws_3 := by rw [e_ws_3]; exact hD
  have E_4 : gE ws ws_3 := gE_set e_ws_3 hk_1 rfl
  have hG : Good g ws_3 := Good_set e_ws_3 hk_1 hG (ivX7 hi_2)
  have Fr_5 : gF [(6, 16)] ws ws_3 := gF_put (fi := 16) (v := .int c15_1) e_ws_3 hk_1 rfl
  have hkN := gset_self e_ws_3 hk_1
  have hk_1 := hkN
  have o_h0 := E_4 _ _ o_h0
  have a_r0_1 := E_4 _ _ a_r0_1
  have a_r4_1 := E_4 _ _ a_r4_1
  have a_r9_1 := E_4 _ _ a_r9_1
  have a_r10_1 := E_4 _ _ a_r10_1
  have a_r11_1 := E_4 _ _ a_r11_1
  refine lv_aload_n hx hb dX7_fileAttributesFit_8 rfl (lv_at hl 0 rfl) ?_
  have hFc := gfree hD hS hA
  refine va_calli (va_runV (As := []) (rest := []) ⟨hx, hb, hml, hown, hts⟩ (m_X7_attributesFit l g H.size ws_3 h0 hG o_h0) (cwV 0 hts (gd_V kw_1324 kw_1270 kw_1271 kw_710 kw_1269) rfl rfl rfl (by decide +kernel) ⟨Nat.le_of_ble_eq_true rfl, Nat.le_of_ble_eq_true rfl⟩) ⟨gblind, va_recv hK hP (ci := 6) (q0 := k_1) rfl hk_1, fun U hU hW9 => gmk hU hW9 hP hK hD hex hE hS hFc⟩ rfl rfl hl.1 rfl (lv_room (Nat.le_of_ble_eq_true rfl)) dX7_fileAttributesFit_9 ⟨Nat.le_of_ble_eq_true rfl, Nat.le_of_ble_eq_true rfl⟩) hS (fun q _ h => hFc q h) hFc (fun r_6 ws_7 t9 H1 locs ht9 hvm9 hw9 hB9 hz9 hk9 hS => ?_)
  obtain ⟨E_8, Fr_9, hG, hP1, hD1⟩ := hB9
  have hP : va_P (gD g) cl0 ws_7 H1 := by rw [← ht9]; exact hP1
  have hD : va_D A ws_7 := hD1.weaken (fun _ _ _ h => hFc _ h)
  have hz_r_6 : r_6 = 0 ∨ r_6 = 1 := hw9
  clear hP1 hD1 hz9 hk9 hvm9 ht9 hw9
  generalize H1 = H at hP hS ⊢
  have aa_10 := a_r0_1
  have aa_11 := a_r4_1
  have aa_12 := a_r9_1
  have aa_13 := a_r10_1
  have aa_14 := a_r11_1
  have o_h0 := E_8 _ _ o_h0
  refine W.widen (k := 0) (n := 0) (Nat.le_of_ble_eq_true rfl) (Nat.le_of_ble_eq_true rfl) ?_
  exact W.zret (v := r_6) hx hb hr (nz hz_r_6) (fun t9 ht9 hW9 => ⟨⟨_, ws_7, rfl, hz_r_6, ⟨(E_4.tr E_8), (gF.tr (gF.mo (F' := [(6, 2), (6, 3), (6, 15), (6, 16)]) Fr_5 (by decide)) (gF.mo (F' := [(6, 2), (6, 3), (6, 15), (6, 16)]) Fr_9 (by decide))), hG, by rw [ht9]; exact hP, hD⟩⟩, hS.F ht9⟩) hS.2.2 dX7_fileAttributesFit_12
set_option maxHeartbeats 1000000 in
set_option maxRecDepth 100000 in
theorem m_X7_entriesPoint (l : Launch) (g : Gm) (sz : Nat) (ws : va_W) (h0 : Nat) (hG : Good g ws) (o_h0 : gC ws h0 6) : Met l yX7_entriesPoint (wt yX7_entriesPoint cX7_entriesPoint 2 (some .boolean)) ({ frames := 3, cells := 0, slots := 0, locals := 63 }) (va_Pc [.ref h0] (st_G g sz ws)) (va_Qi (fun (r : Int32) (u9 : va_W) => r = 0 ∨ r = 1) (gQ1 g [(6, 2), (6, 3)] (va_A ws sz) ws) (va_A ws sz)) 0 0 (va_A ws sz) := by
  refine Met.ofW (cc := cX7_entriesPoint) (maxL := 2) (ret := (some .boolean)) (by decide) rfl ?_
  intro p e s m args below meth c s₁ B hml hv
  obtain ⟨rfl, hsz, hP, hK, hD0, hex, hE⟩ := hv
  have hx := B.exec
  have hb := B.bytes
  have hr := B.returns
  have hts0 := atoms_spec (ws := wt yX7_entriesPoint cX7_entriesPoint 2 (some .boolean)) B.pre
  have hts : ∀ w ∈ tb, w.before _ s = true := fun w h => hts0 w (List.mem_cons_of_mem _ h)
  have hown : s.vm.findClass RX7 = some m.cls := findClass_of_methodNamed B.named
  subst hsz
  have hD := hD0.self (sz := s.heap.size)
  generalize hAe : va_A ws s.heap.size = A at hD hE ⊢
  have hA : ∀ q : Nat, s.heap.size ≤ q → A q := fun q h => by rw [← hAe]; exact Or.inr h
  have hS : va_S A s.heap s.heap [] := va_S.rf
  have hl := lv_entry ([.ref h0]) (n := 2) (Nat.le_of_ble_eq_true rfl)
  rw [lg_entry_eq]
  generalize (lg_sl ([.ref h0]) ++ List.replicate (2 - (lg_sl ([.ref h0])).length) Slot.unset).toArray = ls at hl ⊢
  have hl : lv_has ls 2 [(0, .ref h0)] := hl
  refine lv_iconst (v := 1) hx hb dX7_entriesPoint_0 (by decide) ?_
  refine lv_istore_n (lv' := [(1, .int 1), (0, .ref h0)]) hx hb dX7_entriesPoint_1 rfl hl (by decide) rfl (fun ls hl => ?_)
  have J_2 : ∀ (n9 : Nat) (v1_1 : Int32) (H : Heap) (locs : List Loc) (ls : Array Slot), (2147483647 - v1_1.toInt).toNat = n9 → 0 ≤ v1_1.toInt → va_P (gD g) cl0 ws H → va_D A ws → va_S A s.heap H locs → lv_has ls 2 [(0, .ref h0), (1, .int v1_1)] → W p l e (headSpec (wt yX7_entriesPoint cX7_entriesPoint 2 (some .boolean)) ({ frames := 3, cells := 0, slots := 0, locals := 63 })).room s m ([.ref h0] : List Value).toArray below meth c H locs 0 0 (MQ below (va_Qi (fun (r : Int32) (u9 : va_W) => r = 0 ∨ r = 1) (gQ1 g [(6, 2), (6, 3)] A ws) A) ([.ref h0] : List Value).toArray s 0 0 A) (F0 m 2 ls []) := by
    intro n9
    induction n9 using Nat.strongRecOn with
    | ind n9 ih_2 =>
      intro v1_1 H locs ls hm9 iv_2 hP hD hS hl
      subst hm9
      refine lv_iload_n hx hb dX7_entriesPoint_2 rfl (lv_at hl 1 rfl) ?_
      refine lv_aload_n hx hb dX7_entriesPoint_3 rfl (lv_at hl 0 rfl) ?_
      obtain ⟨k_5, fs9, hk_5⟩ := gC_of o_h0
      obtain ⟨r0_5, n0_5, c1_5, c2_5, c3_5, r4_5, n4_5, c5_5, c6_5, c7_5, c8_5, r9_5, n9_5, r10_5, n10_5, r11_5, n11_5, c12_5, c13_5, c14_5, c15_5, c16_5, rfl, a_r0_5, f1_5, a_r4_5, f3_5, a_r9_5, f5_5, a_r10_5, f7_5, a_r11_5, f9_5, f10_5, f11_5, f12_5, f13_5, f14_5, -⟩ := (hG.1 _ _ _ _ hk_5).hX7 rfl
      refine va_get (D := gD g) (ci := 6) (v := .int c5_5) (C := RX7) (T := TX7) (N := 17) hx hb hts inX7 hown hK hP k_5 hk_5 rfl 5 (by decide) (hts _ kw_1294) (fun _ h9 => h9) rfl dX7_entriesPoint_4 ?_
      refine lv_icmp_ge (tgt := 36) hx hb dX7_entriesPoint_7 (by decide) (fun c_6 => ?_) (fun c_6 => ?_)
      · refine lv_iconst (v := 1) hx hb dX7_entriesPoint_36 (by decide) ?_
        refine W.widen (k := 0) (n := 0) (Nat.le_of_ble_eq_true rfl) (Nat.le_of_ble_eq_true rfl) ?_
        exact W.zret (v := 1) hx hb hr (nz (Or.inr rfl)) (fun t9 ht9 hW9 => ⟨⟨_, ws, rfl, (Or.inr rfl), ⟨gE.rf, gF.rf, hG, by rw [ht9]; exact hP, hD⟩⟩, hS.F ht9⟩) hS.2.2 dX7_entriesPoint_37
      · refine lv_aload_n hx hb dX7_entriesPoint_10 rfl (lv_at hl 0 rfl) ?_
        refine lv_iload_n hx hb dX7_entriesPoint_11 rfl (lv_at hl 1 rfl) ?_
        have hFc := gfree hD hS hA
        refine va_calli (va_runV (As := [.int v1_1]) (rest := []) ⟨hx, hb, hml, hown, hts⟩ (m_X7_entryPoints l g H.size ws h0 (v1_1) hG o_h0) (cwV 1 hts (gd_V kw_1295 kw_1311 kw_1312 kw_710 kw_1310) rfl rfl rfl (by decide +kernel) ⟨Nat.le_of_ble_eq_true rfl, Nat.le_of_ble_eq_true rfl⟩) ⟨gblind, va_recv hK hP (ci := 6) (q0 := k_5) rfl hk_5, fun U hU hW9 => gmk hU hW9 hP hK hD hex hE hS hFc⟩ rfl rfl hl.1 rfl (lv_room (Nat.le_of_ble_eq_true rfl)) dX7_entriesPoint_12 ⟨Nat.le_of_ble_eq_true rfl, Nat.le_of_ble_eq_true rfl⟩) hS (fun q _ h => hFc q h) hFc (fun r_7 u9 t9 H1 locs ht9 hvm9 hw9 hB9 hz9 hk9 hS => ?_)
        have hP : va_P (gD g) cl0 ws H1 := by rw [← ht9]; exact hB9.1
        have hz_r_7 : r_7 = 0 ∨ r_7 = 1 := hw9
        clear hB9 hz9 hk9 hvm9 ht9 hw9
        generalize H1 = H at hP hS ⊢
        refine lv_if_ne (tgt := 30) hx hb dX7_entriesPoint_15 (by decide) (fun c_8 => ?_) (fun c_8 => ?_)
        · obtain ⟨z_9, ez_9⟩ : ∃ z : Int32, v1_1 + Int32.ofInt 1 = z := ⟨_, rfl⟩
          refine lv_iinc (v := z_9) (lv' := [(1, .int z_9), (0, .ref h0)]) hx hb dX7_entriesPoint_30 hl (k := 1) rfl ez_9 (by decide) rfl (fun ls hl => ?_)
          refine lv_goto (tgt := 2) hx hb dX7_entriesPoint_33 (by decide) ?_
          exact ih_2 _ (by obtain ⟨u_z_9, q_z_9⟩ := i_iz ez_9 (by decide) (by decide); have q_iv_2 := iv_2; have q_c_6 := i_nle c_6; have g_c5_5 := i_rg c5_5; have g_v1_1 := i_rg v1_1; have g_z_9 := i_rg z_9; omega) (z_9) H locs ls rfl (by obtain ⟨u_z_9, q_z_9⟩ := i_iz ez_9 (by decide) (by decide); have q_iv_2 := iv_2; have q_c_6 := i_nle c_6; have g_c5_5 := i_rg c5_5; have g_v1_1 := i_rg v1_1; have g_z_9 := i_rg z_9; omega) hP hD hS (lv_sub hl [1, 0] rfl)
        · refine lv_aload_n hx hb dX7_entriesPoint_18 rfl (lv_at hl 0 rfl) ?_
          refine lv_bipush (v := 6) hx hb dX7_entriesPoint_19 (by decide) ?_
          refine lv_aload_n hx hb dX7_entriesPoint_21 rfl (lv_at hl 0 rfl) ?_
          refine lv_iload_n hx hb dX7_entriesPoint_22 rfl (lv_at hl 1 rfl) ?_
          have hFc := gfree hD hS hA
          refine va_calli (va_runV (As := [.int v1_1]) (rest := [.int 6, .ref h0]) ⟨hx, hb, hml, hown, hts⟩ (m_X7_entryAt l g H.size ws h0 (v1_1) hG o_h0) (cwV 1 hts (gd_V kw_1296 kw_1298 kw_1299 kw_710 kw_1297) rfl rfl rfl (by decide +kernel) ⟨Nat.le_of_ble_eq_true rfl, Nat.le_of_ble_eq_true rfl⟩) ⟨gblind, va_recv hK hP (ci := 6) (q0 := k_5) rfl hk_5, fun U hU hW9 => gmk hU hW9 hP hK hD hex hE hS hFc⟩ rfl rfl hl.1 rfl (lv_room (Nat.le_of_ble_eq_true rfl)) dX7_entriesPoint_23 ⟨Nat.le_of_ble_eq_true rfl, Nat.le_of_ble_eq_true rfl⟩) hS (fun q _ h => hFc q h) hFc (fun r_10 u9 t9 H1 locs ht9 hvm9 hw9 hB9 hz9 hk9 hS => ?_)
          have hP : va_P (gD g) cl0 ws H1 := by rw [← ht9]; exact hB9.1
          clear hB9 hz9 hk9 hvm9 ht9 hw9
          generalize H1 = H at hP hS ⊢
          have hFc := gfree hD hS hA
          refine va_calli (va_runV (As := [.int 6, .int r_10]) (rest := []) ⟨hx, hb, hml, hown, hts⟩ (m_X7_breaks l g H.size ws h0 (6) (r_10) hG o_h0) (cwV 2 hts (gd_V kw_1276 kw_1278 kw_1279 kw_710 kw_1277) rfl rfl rfl (by decide +kernel) ⟨Nat.le_of_ble_eq_true rfl, Nat.le_of_ble_eq_true rfl⟩) ⟨gblind, va_recv hK hP (ci := 6) (q0 := k_5) rfl hk_5, fun U hU hW9 => gmk hU hW9 hP hK hD hex hE hS hFc⟩ rfl rfl hl.1 rfl (lv_room (Nat.le_of_ble_eq_true rfl)) dX7_entriesPoint_26 ⟨Nat.le_of_ble_eq_true rfl, Nat.le_of_ble_eq_true rfl⟩) hS (fun q _ h => hFc q h) hFc (fun r_11 ws_12 t9 H1 locs ht9 hvm9 hw9 hB9 hz9 hk9 hS => ?_)
          obtain ⟨E_13, Fr_14, hG, hP1, hD1⟩ := hB9
          have hP : va_P (gD g) cl0 ws_12 H1 := by rw [← ht9]; exact hP1
          have hD : va_D A ws_12 := hD1.weaken (fun _ _ _ h => hFc _ h)
          have hz_r_11 : r_11 = 0 ∨ r_11 = 1 := hw9
          clear hP1 hD1 hz9 hk9 hvm9 ht9 hw9
          generalize H1 = H at hP hS ⊢
          have aa_15 := a_r0_5
          have aa_16 := a_r4_5
          have aa_17 := a_r9_5
          have aa_18 := a_r10_5
          have aa_19 := a_r11_5
          have o_h0 := E_13 _ _ o_h0
          refine W.widen (k := 0) (n := 0) (Nat.le_of_ble_eq_true rfl) (Nat.le_of_ble_eq_true rfl) ?_
          exact W.zret (v := r_11) hx hb hr (nz hz_r_11) (fun t9 ht9 hW9 => ⟨⟨_, ws_12, rfl, hz_r_11, ⟨E_13, Fr_14, hG, by rw [ht9]; exact hP, hD⟩⟩, hS.F ht9⟩) hS.2.2 dX7_entriesPoint_29
  exact J_2 _ (1) _ _ ls rfl (by have e1 : (1 : Int32).toInt = 1 := (by decide); omega) hP hD hS (lv_sub hl [1, 0] rfl)
set_option maxHeartbeats 1000000 in
set_option maxRecDepth 100000 in
theorem m_X7_namesHold (l : Launch) (g : Gm) (sz : Nat) (ws : va_W) (h0 : Nat) (hG : Good g ws) (o_h0 : gC ws h0 6) : Met l yX7_namesHold (wt yX7_namesHold cX7_namesHold 3 (some .boolean)) ({ frames := 4, cells := 0, slots := 0, locals := 87 }) (va_Pc [.ref h0] (st_G g sz ws)) (va_Qi (fun (r : Int32) (u9 : va_W) => r = 0 ∨ r = 1) (gQ1 g [(6, 2), (6, 3)] (va_A ws sz) ws) (va_A ws sz)) 0 0 (va_A ws sz) := by
  refine Met.ofW (cc := cX7_namesHold) (maxL := 3) (ret := (some .boolean)) (by decide) rfl ?_
  intro p e s m args below meth c s₁ B hml hv
  obtain ⟨rfl, hsz, hP, hK, hD0, hex, hE⟩ := hv
  have hx := B.exec
  have hb := B.bytes
  have hr := B.returns
  have hts0 := atoms_spec (ws := wt yX7_namesHold cX7_namesHold 3 (some .boolean)) B.pre
  have hts : ∀ w ∈ tb, w.before _ s = true := fun w h => hts0 w (List.mem_cons_of_mem _ h)
  have hown : s.vm.findClass RX7 = some m.cls := findClass_of_methodNamed B.named
  subst hsz
  have hD := hD0.self (sz := s.heap.size)
  generalize hAe : va_A ws s.heap.size = A at hD hE ⊢
  have hA : ∀ q : Nat, s.heap.size ≤ q → A q := fun q h => by rw [← hAe]; exact Or.inr h
  have hS : va_S A s.heap s.heap [] := va_S.rf
  have hl := lv_entry ([.ref h0]) (n := 3) (Nat.le_of_ble_eq_true rfl)
  rw [lg_entry_eq]
  generalize (lg_sl ([.ref h0]) ++ List.replicate (3 - (lg_sl ([.ref h0])).length) Slot.unset).toArray = ls at hl ⊢
  have hl : lv_has ls 3 [(0, .ref h0)] := hl
  refine lv_iconst (v := 0) hx hb dX7_namesHold_0 (by decide) ?_
  refine lv_istore_n (lv' := [(1, .int 0), (0, .ref h0)]) hx hb dX7_namesHold_1 rfl hl (by decide) rfl (fun ls hl => ?_)
  have J_2 : ∀ (n9 : Nat) (v1_1 : Int32) (ws_3 : va_W) (H : Heap) (locs : List Loc) (ls : Array Slot), (2147483647 - v1_1.toInt).toNat = n9 → 0 ≤ v1_1.toInt → gE ws ws_3 → gF [(6, 2), (6, 3)] ws ws_3 → Good g ws_3 → va_P (gD g) cl0 ws_3 H → va_D A ws_3 → va_S A s.heap H locs → lv_has ls 3 [(0, .ref h0), (1, .int v1_1)] → W p l e (headSpec (wt yX7_namesHold cX7_namesHold 3 (some .boolean)) ({ frames := 4, cells := 0, slots := 0, locals := 87 })).room s m ([.ref h0] : List Value).toArray below meth c H locs 0 0 (MQ below (va_Qi (fun (r : Int32) (u9 : va_W) => r = 0 ∨ r = 1) (gQ1 g [(6, 2), (6, 3)] A ws) A) ([.ref h0] : List Value).toArray s 0 0 A) (F0 m 2 ls []) := by
    intro n9
    induction n9 using Nat.strongRecOn with
    | ind n9 ih_2 =>
      intro v1_1 ws_3 H locs ls hm9 iv_2 E_4 Fr_5 hG hP hD hS hl
      subst hm9
      have o_h0 := E_4 _ _ o_h0
      refine lv_iload_n hx hb dX7_namesHold_2 rfl (lv_at hl 1 rfl) ?_
      refine lv_aload_n hx hb dX7_namesHold_3 rfl (lv_at hl 0 rfl) ?_
      obtain ⟨k_6, fs9, hk_6⟩ := gC_of o_h0
      obtain ⟨r0_6, n0_6, c1_6, c2_6, c3_6, r4_6, n4_6, c5_6, c6_6, c7_6, c8_6, r9_6, n9_6, r10_6, n10_6, r11_6, n11_6, c12_6, c13_6, c14_6, c15_6, c16_6, rfl, a_r0_6, f1_6, a_r4_6, f3_6, a_r9_6, f5_6, a_r10_6, f7_6, a_r11_6, f9_6, f10_6, f11_6, f12_6, f13_6, f14_6, -⟩ := (hG.1 _ _ _ _ hk_6).hX7 rfl
      refine va_get (D := gD g) (ci := 6) (v := .int c7_6) (C := RX7) (T := TX7) (N := 17) hx hb hts inX7 hown hK hP k_6 hk_6 rfl 7 (by decide) (hts _ kw_1287) (fun _ h9 => h9) rfl dX7_namesHold_4 ?_
      refine lv_aload_n hx hb dX7_namesHold_7 rfl (lv_at hl 0 rfl) ?_
      refine va_get (D := gD g) (ci := 6) (v := .int c8_6) (C := RX7) (T := TX7) (N := 17) hx hb hts inX7 hown hK hP k_6 hk_6 rfl 8 (by decide) (hts _ kw_1285) (fun _ h9 => h9) rfl dX7_namesHold_8 ?_
      refine lv_iadd hx hb dX7_namesHold_11 ?_
      refine lv_topi (fun z_7 ez_7 => ?_)
      refine lv_icmp_ge (tgt := 60) hx hb dX7_namesHold_12 (by decide) (fun c_8 => ?_) (fun c_8 => ?_)
      · refine lv_aload_n hx hb dX7_namesHold_60 rfl (lv_at hl 0 rfl) ?_
        refine lv_aload_n hx hb dX7_namesHold_61 rfl (lv_at hl 0 rfl) ?_
        refine va_get (D := gD g) (ci := 6) (v := .int c16_6) (C := RX7) (T := TX7) (N := 17) hx hb hts inX7 hown hK hP k_6 hk_6 rfl 16 (by decide) (hts _ kw_1323) (fun _ h9 => h9) rfl dX7_namesHold_62 ?_
        have hFc := gfree hD hS hA
        refine va_calli (va_runV (As := [.int c16_6]) (rest := []) ⟨hx, hb, hml, hown, hts⟩ (m_X7_attributeNamesHold l g H.size ws_3 h0 (c16_6) hG o_h0) (cwV 1 hts (gd_V kw_1417 kw_1264 kw_1265 kw_710 kw_1263) rfl rfl rfl (by decide +kernel) ⟨Nat.le_of_ble_eq_true rfl, Nat.le_of_ble_eq_true rfl⟩) ⟨gblind, va_recv hK hP (ci := 6) (q0 := k_6) rfl hk_6, fun U hU hW9 => gmk hU hW9 hP hK hD hex hE hS hFc⟩ rfl rfl hl.1 rfl (lv_room (Nat.le_of_ble_eq_true rfl)) dX7_namesHold_65 ⟨Nat.le_of_ble_eq_true rfl, Nat.le_of_ble_eq_true rfl⟩) hS (fun q _ h => hFc q h) hFc (fun r_9 ws_10 t9 H1 locs ht9 hvm9 hw9 hB9 hz9 hk9 hS => ?_)
        obtain ⟨E_11, Fr_12, hG, hP1, hD1⟩ := hB9
        have hP : va_P (gD g) cl0 ws_10 H1 := by rw [← ht9]; exact hP1
        have hD : va_D A ws_10 := hD1.weaken (fun _ _ _ h => hFc _ h)
        have hz_r_9 : r_9 = 0 ∨ r_9 = 1 := hw9
        clear hP1 hD1 hz9 hk9 hvm9 ht9 hw9
        generalize H1 = H at hP hS ⊢
        have aa_13 := a_r0_6
        have aa_14 := a_r4_6
        have aa_15 := a_r9_6
        have aa_16 := a_r10_6
        have aa_17 := a_r11_6
        have o_h0 := E_11 _ _ o_h0
        refine W.widen (k := 0) (n := 0) (Nat.le_of_ble_eq_true rfl) (Nat.le_of_ble_eq_true rfl) ?_
        exact W.zret (v := r_9) hx hb hr (nz hz_r_9) (fun t9 ht9 hW9 => ⟨⟨_, ws_10, rfl, hz_r_9, ⟨(E_4.tr E_11), (gF.tr Fr_5 Fr_12), hG, by rw [ht9]; exact hP, hD⟩⟩, hS.F ht9⟩) hS.2.2 dX7_namesHold_68
      · refine lv_aload_n hx hb dX7_namesHold_15 rfl (lv_at hl 0 rfl) ?_
        refine lv_iload_n hx hb dX7_namesHold_16 rfl (lv_at hl 1 rfl) ?_
        have hFc := gfree hD hS hA
        refine va_calli (va_runV (As := [.int v1_1]) (rest := []) ⟨hx, hb, hml, hown, hts⟩ (m_X7_memberPlace l g H.size ws_3 h0 (v1_1) hG o_h0) (cwV 1 hts (gd_V kw_1288 kw_1394 kw_1395 kw_710 kw_1393) rfl rfl rfl (by decide +kernel) ⟨Nat.le_of_ble_eq_true rfl, Nat.le_of_ble_eq_true rfl⟩) ⟨gblind, va_recv hK hP (ci := 6) (q0 := k_6) rfl hk_6, fun U hU hW9 => gmk hU hW9 hP hK hD hex hE hS hFc⟩ rfl rfl hl.1 rfl (lv_room (Nat.le_of_ble_eq_true rfl)) dX7_namesHold_17 ⟨Nat.le_of_ble_eq_true rfl, Nat.le_of_ble_eq_true rfl⟩) hS (fun q _ h => hFc q h) hFc (fun r_18 u9 t9 H1 locs ht9 hvm9 hw9 hB9 hz9 hk9 hS => ?_)
        have hP : va_P (gD g) cl0 ws_3 H1 := by rw [← ht9]; exact hB9.1
        clear hB9 hz9 hk9 hvm9 ht9 hw9
        generalize H1 = H at hP hS ⊢
        refine lv_istore_n (lv' := [(2, .int r_18), (0, .ref h0), (1, .int v1_1)]) hx hb dX7_namesHold_20 rfl hl (by decide) rfl (fun ls hl => ?_)
        refine lv_aload_n hx hb dX7_namesHold_21 rfl (lv_at hl 1 rfl) ?_
        refine lv_iload_n hx hb dX7_namesHold_22 rfl (lv_at hl 0 rfl) ?_
        refine lv_iconst (v := 2) hx hb dX7_namesHold_23 (by decide) ?_
        refine lv_iadd hx hb dX7_namesHold_24 ?_
        refine lv_topi (fun z_19 ez_19 => ?_)
        have hFc := gfree hD hS hA
        refine va_calli (va_runV (As := [.int z_19]) (rest := []) ⟨hx, hb, hml, hown, hts⟩ (m_X7_isNameAt l g H.size ws_3 h0 (z_19) hG o_h0) (cwV 1 hts (gd_V kw_1267 kw_1353 kw_1354 kw_710 kw_1352) rfl rfl rfl (by decide +kernel) ⟨Nat.le_of_ble_eq_true rfl, Nat.le_of_ble_eq_true rfl⟩) ⟨gblind, va_recv hK hP (ci := 6) (q0 := k_6) rfl hk_6, fun U hU hW9 => gmk hU hW9 hP hK hD hex hE hS hFc⟩ rfl rfl hl.1 rfl (lv_room (Nat.le_of_ble_eq_true rfl)) dX7_namesHold_25 ⟨Nat.le_of_ble_eq_true rfl, Nat.le_of_ble_eq_true rfl⟩) hS (fun q _ h => hFc q h) hFc (fun r_20 ws_21 t9 H1 locs ht9 hvm9 hw9 hB9 hz9 hk9 hS => ?_)
        obtain ⟨E_22, Fr_23, hG, hP1, hD1⟩ := hB9
        have hP : va_P (gD g) cl0 ws_21 H1 := by rw [← ht9]; exact hP1
        have hD : va_D A ws_21 := hD1.weaken (fun _ _ _ h => hFc _ h)
        have hz_r_20 : r_20 = 0 ∨ r_20 = 1 := hw9
        clear hP1 hD1 hz9 hk9 hvm9 ht9 hw9
        generalize H1 = H at hP hS ⊢
        have aa_24 := a_r0_6
        have aa_25 := a_r4_6
        have aa_26 := a_r9_6
        have aa_27 := a_r10_6
        have aa_28 := a_r11_6
        have o_h0 := E_22 _ _ o_h0
        have J_52 : ∀ (ws_29 : va_W) (H : Heap) (locs : List Loc) (ls : Array Slot), gE ws_21 ws_29 → gF [(6, 2), (6, 3)] ws_21 ws_29 → Good g ws_29 → va_P (gD g) cl0 ws_29 H → va_D A ws_29 → va_S A s.heap H locs → lv_has ls 3 [] → W p l e (headSpec (wt yX7_namesHold cX7_namesHold 3 (some .boolean)) ({ frames := 4, cells := 0, slots := 0, locals := 87 })).room s m ([.ref h0] : List Value).toArray below meth c H locs 0 0 (MQ below (va_Qi (fun (r : Int32) (u9 : va_W) => r = 0 ∨ r = 1) (gQ1 g [(6, 2), (6, 3)] A ws) A) ([.ref h0] : List Value).toArray s 0 0 A) (F0 m 52 ls []) := by
          intro ws_29 H locs ls  E_30 Fr_31 hG hP hD hS hl
          have o_h0 := E_30 _ _ o_h0
          refine lv_iconst (v := 0) hx hb dX7_namesHold_52 (by decide) ?_
          refine W.widen (k := 0) (n := 0) (Nat.le_of_ble_eq_true rfl) (Nat.le_of_ble_eq_true rfl) ?_
          exact W.zret (v := 0) hx hb hr (nz (Or.inl rfl)) (fun t9 ht9 hW9 => ⟨⟨_, ws_29, rfl, (Or.inl rfl), ⟨(E_4.tr (E_22.tr E_30)), (gF.tr Fr_5 (gF.tr Fr_23 Fr_31)), hG, by rw [ht9]; exact hP, hD⟩⟩, hS.F ht9⟩) hS.2.2 dX7_namesHold_53
        refine lv_if_eq (tgt := 52) hx hb dX7_namesHold_28 (by decide) (fun c_32 => ?_) (fun c_32 => ?_)
        · exact J_52 ws_21 H locs ls (gE.rf) (gF.rf) hG hP hD hS (lv_sub hl [] rfl)
        · refine lv_aload_n hx hb dX7_namesHold_31 rfl (lv_at hl 1 rfl) ?_
          refine lv_iload_n hx hb dX7_namesHold_32 rfl (lv_at hl 0 rfl) ?_
          refine lv_iconst (v := 4) hx hb dX7_namesHold_33 (by decide) ?_
          refine lv_iadd hx hb dX7_namesHold_34 ?_
          refine lv_topi (fun z_33 ez_33 => ?_)
          have hFc := gfree hD hS hA
          obtain ⟨k_34, fs_34, hk_34⟩ := gC_of o_h0
          refine va_calli (va_runV (As := [.int z_33]) (rest := []) ⟨hx, hb, hml, hown, hts⟩ (m_X7_isNameAt l g H.size ws_21 h0 (z_33) hG o_h0) (cwV 1 hts (gd_V kw_1267 kw_1353 kw_1354 kw_710 kw_1352) rfl rfl rfl (by decide +kernel) ⟨Nat.le_of_ble_eq_true rfl, Nat.le_of_ble_eq_true rfl⟩) ⟨gblind, va_recv hK hP (ci := 6) (q0 := k_34) rfl hk_34, fun U hU hW9 => gmk hU hW9 hP hK hD hex hE hS hFc⟩ rfl rfl hl.1 rfl (lv_room (Nat.le_of_ble_eq_true rfl)) dX7_namesHold_35 ⟨Nat.le_of_ble_eq_true rfl, Nat.le_of_ble_eq_true rfl⟩) hS (fun q _ h => hFc q h) hFc (fun r_35 ws_36 t9 H1 locs ht9 hvm9 hw9 hB9 hz9 hk9 hS => ?_)
          obtain ⟨E_37, Fr_38, hG, hP1, hD1⟩ := hB9
          have hP : va_P (gD g) cl0 ws_36 H1 := by rw [← ht9]; exact hP1
          have hD : va_D A ws_36 := hD1.weaken (fun _ _ _ h => hFc _ h)
          have hz_r_35 : r_35 = 0 ∨ r_35 = 1 := hw9
          clear hP1 hD1 hz9 hk9 hvm9 ht9 hw9
          generalize H1 = H at hP hS ⊢
          have o_h0 := E_37 _ _ o_h0
          refine lv_if_eq (tgt := 52) hx hb dX7_namesHold_38 (by decide) (fun c_39 => ?_) (fun c_39 => ?_)
          · exact J_52 ws_36 H locs ls (E_37) (Fr_38) hG hP hD hS (lv_sub hl [] rfl)
          · refine lv_aload_n hx hb dX7_namesHold_41 rfl (lv_at hl 1 rfl) ?_
            refine lv_iload_n hx hb dX7_namesHold_42 rfl (lv_at hl 0 rfl) ?_
            refine lv_bipush (v := 6) hx hb dX7_namesHold_43 (by decide) ?_
            refine lv_iadd hx hb dX7_namesHold_45 ?_
            refine lv_topi (fun z_40 ez_40 => ?_)
            have hFc := gfree hD hS hA
            obtain ⟨k_41, fs_41, hk_41⟩ := gC_of o_h0
            refine va_calli (va_runV (As := [.int z_40]) (rest := []) ⟨hx, hb, hml, hown, hts⟩ (m_X7_attributeNamesHold l g H.size ws_36 h0 (z_40) hG o_h0) (cwV 1 hts (gd_V kw_1417 kw_1264 kw_1265 kw_710 kw_1263) rfl rfl rfl (by decide +kernel) ⟨Nat.le_of_ble_eq_true rfl, Nat.le_of_ble_eq_true rfl⟩) ⟨gblind, va_recv hK hP (ci := 6) (q0 := k_41) rfl hk_41, fun U hU hW9 => gmk hU hW9 hP hK hD hex hE hS hFc⟩ rfl rfl hl.1 rfl (lv_room (Nat.le_of_ble_eq_true rfl)) dX7_namesHold_46 ⟨Nat.le_of_ble_eq_true rfl, Nat.le_of_ble_eq_true rfl⟩) hS (fun q _ h => hFc q h) hFc (fun r_42 ws_43 t9 H1 locs ht9 hvm9 hw9 hB9 hz9 hk9 hS => ?_)
            obtain ⟨E_44, Fr_45, hG, hP1, hD1⟩ := hB9
            have hP : va_P (gD g) cl0 ws_43 H1 := by rw [← ht9]; exact hP1
            have hD : va_D A ws_43 := hD1.weaken (fun _ _ _ h => hFc _ h)
            have hz_r_42 : r_42 = 0 ∨ r_42 = 1 := hw9
            clear hP1 hD1 hz9 hk9 hvm9 ht9 hw9
            generalize H1 = H at hP hS ⊢
            have o_h0 := E_44 _ _ o_h0
            refine lv_if_ne (tgt := 54) hx hb dX7_namesHold_49 (by decide) (fun c_46 => ?_) (fun c_46 => ?_)
            · obtain ⟨z_47, ez_47⟩ : ∃ z : Int32, v1_1 + Int32.ofInt 1 = z := ⟨_, rfl⟩
              refine lv_iinc (v := z_47) (lv' := [(1, .int z_47), (2, .int r_18), (0, .ref h0)]) hx hb dX7_namesHold_54 hl (k := 2) rfl ez_47 (by decide) rfl (fun ls hl => ?_)
              refine lv_goto (tgt := 2) hx hb dX7_namesHold_57 (by decide) ?_
              exact ih_2 _ (by obtain ⟨u_z_47, q_z_47⟩ := i_iz ez_47 (by decide) (by decide); have q_iv_2 := iv_2; have q_c_8 := i_nle c_8; have g_v1_1 := i_rg v1_1; have g_z_47 := i_rg z_47; have g_z_7 := i_rg z_7; omega) (z_47) ws_43 H locs ls rfl (by obtain ⟨u_z_47, q_z_47⟩ := i_iz ez_47 (by decide) (by decide); have q_iv_2 := iv_2; have q_c_8 := i_nle c_8; have g_v1_1 := i_rg v1_1; have g_z_47 := i_rg z_47; have g_z_7 := i_rg z_7; omega) ((E_4.tr (E_22.tr (E_37.tr E_44)))) ((gF.tr Fr_5 (gF.tr Fr_23 (gF.tr Fr_38 Fr_45)))) hG hP hD hS (lv_sub hl [2, 0] rfl)
            · exact J_52 ws_43 H locs ls ((E_37.tr E_44)) ((gF.tr Fr_38 Fr_45)) hG hP hD hS (lv_sub hl [] rfl)
  exact J_2 _ (0) ws _ _ ls rfl (by have e0 : (0 : Int32).toInt = 0 := (by decide); omega) (gE.rf) (gF.rf) hG hP hD hS (lv_sub hl [1, 0] rfl)
set_option maxHeartbeats 1000000 in
set_option maxRecDepth 100000 in
theorem m_X7_kindOfType (l : Launch) (g : Gm) (sz : Nat) (ws : va_W) (h0 : Nat) (x1 : Int32) (hG : Good g ws) (o_h0 : gC ws h0 6) : Met l yX7_kindOfType (wt yX7_kindOfType cX7_kindOfType 3 (some .int)) ({ frames := 3, cells := 0, slots := 0, locals := 65 }) (va_Pc [.ref h0, .int x1] (st_G g sz ws)) (va_Qi (fun (r : Int32) (u9 : Unit) => True) (gQ0 g (va_A ws sz) ws) (va_A ws sz)) 0 0 (va_A ws sz) := by
  refine Met.ofW (cc := cX7_kindOfType) (maxL := 3) (ret := (some .int)) (by decide) rfl ?_
  intro p e s m args below meth c s₁ B hml hv
  obtain ⟨rfl, hsz, hP, hK, hD0, hex, hE⟩ := hv
  have hx := B.exec
  have hb := B.bytes
  have hr := B.returns
  have hts0 := atoms_spec (ws := wt yX7_kindOfType cX7_kindOfType 3 (some .int)) B.pre
  have hts : ∀ w ∈ tb, w.before _ s = true := fun w h => hts0 w (List.mem_cons_of_mem _ h)
  have hown : s.vm.findClass RX7 = some m.cls := findClass_of_methodNamed B.named
  subst hsz
  have hD := hD0.self (sz := s.heap.size)
  generalize hAe : va_A ws s.heap.size = A at hD hE ⊢
  have hA : ∀ q : Nat, s.heap.size ≤ q → A q := fun q h => by rw [← hAe]; exact Or.inr h
  have hS : va_S A s.heap s.heap [] := va_S.rf
  have hl := lv_entry ([.ref h0, .int x1]) (n := 3) (Nat.le_of_ble_eq_true rfl)
  rw [lg_entry_eq]
  generalize (lg_sl ([.ref h0, .int x1]) ++ List.replicate (3 - (lg_sl ([.ref h0, .int x1])).length) Slot.unset).toArray = ls at hl ⊢
  have hl : lv_has ls 3 [(0, .ref h0), (1, .int x1)] := hl
  refine lv_aload_n hx hb dX7_kindOfType_0 rfl (lv_at hl 0 rfl) ?_
  refine lv_iload_n hx hb dX7_kindOfType_1 rfl (lv_at hl 1 rfl) ?_
  refine lv_iconst (v := 0) hx hb dX7_kindOfType_2 (by decide) ?_
  have hFc := gfree hD hS hA
  obtain ⟨k_1, fs_1, hk_1⟩ := gC_of o_h0
  refine va_calli (va_runV (As := [.int x1, .int 0]) (rest := []) ⟨hx, hb, hml, hown, hts⟩ (m_X7_kindOfPart l g s.heap.size ws h0 (x1) (0) hG o_h0) (cwV 2 hts (gd_V kw_1351 kw_1385 kw_1386 kw_710 kw_1384) rfl rfl rfl (by decide +kernel) ⟨Nat.le_of_ble_eq_true rfl, Nat.le_of_ble_eq_true rfl⟩) ⟨gblind, va_recv hK hP (ci := 6) (q0 := k_1) rfl hk_1, fun U hU hW9 => gmk hU hW9 hP hK hD hex hE hS hFc⟩ rfl rfl hl.1 rfl (lv_room (Nat.le_of_ble_eq_true rfl)) dX7_kindOfType_3 ⟨Nat.le_of_ble_eq_true rfl, Nat.le_of_ble_eq_true rfl⟩) hS (fun q _ h => hFc q h) hFc (fun r_2 u9 t9 H1 locs ht9 hvm9 hw9 hB9 hz9 hk9 hS => ?_)
  have hP : va_P (gD g) cl0 ws H1 := by rw [← ht9]; exact hB9.1
  have h_r_2 := hw9
  clear hB9 hz9 hk9 hvm9 ht9 hw9
  generalize H1 = H at hP hS ⊢
  refine lv_istore_n (lv' := [(2, .int r_2), (0, .ref h0), (1, .int x1)]) hx hb dX7_kindOfType_6 rfl hl (by decide) rfl (fun ls hl => ?_)
  refine lv_aload_n hx hb dX7_kindOfType_7 rfl (lv_at hl 1 rfl) ?_
  refine lv_iload_n hx hb dX7_kindOfType_8 rfl (lv_at hl 2 rfl) ?_
  have hFc := gfree hD hS hA
  obtain ⟨k_3, fs_3, hk_3⟩ := gC_of o_h0
  refine va_calli (va_runV (As := [.int x1]) (rest := []) ⟨hx, hb, hml, hown, hts⟩ (m_X7_nameLength l g H.size ws h0 (x1) hG o_h0) (cwV 1 hts (gd_V kw_1349 kw_1406 kw_1407 kw_710 kw_1405) rfl rfl rfl (by decide +kernel) ⟨Nat.le_of_ble_eq_true rfl, Nat.le_of_ble_eq_true rfl⟩) ⟨gblind, va_recv hK hP (ci := 6) (q0 := k_3) rfl hk_3, fun U hU hW9 => gmk hU hW9 hP hK hD hex hE hS hFc⟩ rfl rfl hl.1 rfl (lv_room (Nat.le_of_ble_eq_true rfl)) dX7_kindOfType_9 ⟨Nat.le_of_ble_eq_true rfl, Nat.le_of_ble_eq_true rfl⟩) hS (fun q _ h => hFc q h) hFc (fun r_4 u9 t9 H1 locs ht9 hvm9 hw9 hB9 hz9 hk9 hS => ?_)
  have hP : va_P (gD g) cl0 ws H1 := by rw [← ht9]; exact hB9.1
  have h_r_4 := hw9
  clear hB9 hz9 hk9 hvm9 ht9 hw9
  generalize H1 = H at hP hS ⊢
  refine lv_iload_n hx hb dX7_kindOfType_12 rfl (lv_at hl 0 rfl) ?_
  refine lv_iconst (v := 3) hx hb dX7_kindOfType_13 (by decide) ?_
  have J_22 : ∀ (t_5 : Int32) (H : Heap) (locs : List Loc) (ls : Array Slot), 1 ≤ t_5.toInt ∧ t_5.toInt ≤ 2 → va_P (gD g) cl0 ws H → va_D A ws → va_S A s.heap H locs → lv_has ls 3 [(2, .int r_2)] → W p l e (headSpec (wt yX7_kindOfType cX7_kindOfType 3 (some .int)) ({ frames := 3, cells := 0, slots := 0, locals := 65 })).room s m ([.ref h0, .int x1] : List Value).toArray below meth c H locs 0 0 (MQ below (va_Qi (fun (r : Int32) (u9 : Unit) => True) (gQ0 g A ws) A) ([.ref h0, .int x1] : List Value).toArray s 0 0 A) (F0 m 22 ls [.int t_5, .int r_4]) := by
    intro t_5 H locs ls iv_6 hP hD hS hl
    have J_30 : ∀ (t_9 : Int32) (H : Heap) (locs : List Loc) (ls : Array Slot), va_P (gD g) cl0 ws H → va_D A ws → va_S A s.heap H locs → lv_has ls 3 [] → W p l e (headSpec (wt yX7_kindOfType cX7_kindOfType 3 (some .int)) ({ frames := 3, cells := 0, slots := 0, locals := 65 })).room s m ([.ref h0, .int x1] : List Value).toArray below meth c H locs 0 0 (MQ below (va_Qi (fun (r : Int32) (u9 : Unit) => True) (gQ0 g A ws) A) ([.ref h0, .int x1] : List Value).toArray s 0 0 A) (F0 m 30 ls [.int t_9]) := by
      intro t_9 H locs ls  hP hD hS hl
      refine W.widen (k := 0) (n := 0) (Nat.le_of_ble_eq_true rfl) (Nat.le_of_ble_eq_true rfl) ?_
      exact W.iret (v := t_9) hx hb hr (fun t9 ht9 hW9 => ⟨⟨_, (), rfl, trivial, ⟨by rw [ht9]; exact hP, hD⟩⟩, hS.F ht9⟩) hS.2.2 dX7_kindOfType_30
    refine lv_icmp_ne (tgt := 29) hx hb dX7_kindOfType_22 (by decide) (fun c_12 => ?_) (fun c_12 => ?_)
    · refine lv_iconst (v := 0) hx hb dX7_kindOfType_29 (by decide) ?_
      exact J_30 (0) H locs ls  hP hD hS (lv_sub hl [] rfl)
    · refine lv_iload_n hx hb dX7_kindOfType_25 rfl (lv_at hl 0 rfl) ?_
      refine lv_goto (tgt := 30) hx hb dX7_kindOfType_26 (by decide) ?_
      exact J_30 (r_2) H locs ls  hP hD hS (lv_sub hl [] rfl)
  refine lv_icmp_ne (tgt := 21) hx hb dX7_kindOfType_14 (by decide) (fun c_13 => ?_) (fun c_13 => ?_)
  · refine lv_iconst (v := 1) hx hb dX7_kindOfType_21 (by decide) ?_
    exact J_22 (1) H locs ls (by have e1 : (1 : Int32).toInt = 1 := (by decide); have g_x1 := i_rg x1; omega) hP hD hS (lv_sub hl [0] rfl)
  · refine lv_iconst (v := 2) hx hb dX7_kindOfType_17 (by decide) ?_
    refine lv_goto (tgt := 22) hx hb dX7_kindOfType_18 (by decide) ?_
    exact J_22 (2) H locs ls (by have e2 : (2 : Int32).toInt = 2 := (by decide); have g_x1 := i_rg x1; omega) hP hD hS (lv_sub hl [0] rfl)
set_option maxHeartbeats 1000000 in
set_option maxRecDepth 100000 in
theorem m_X7_poolFits (l : Launch) (g : Gm) (sz : Nat) (ws : va_W) (h0 : Nat) (hG : Good g ws) (o_h0 : gC ws h0 6) : Met l yX7_poolFits (wt yX7_poolFits cX7_poolFits 2 (some .boolean)) ({ frames := 4, cells := 0, slots := 0, locals := 86 }) (va_Pc [.ref h0] (st_G g sz ws)) (va_Qi (fun (r : Int32) (u9 : va_W) => r = 0 ∨ r = 1) (gQ1 g [(6, 2), (6, 3), (6, 5), (6, 15)] (va_A ws sz) ws) (va_A ws sz)) 0 0 (va_A ws sz) := by
  refine Met.ofW (cc := cX7_poolFits) (maxL := 2) (ret := (some .boolean)) (by decide) rfl ?_
  intro p e s m args below meth c s₁ B hml hv
  obtain ⟨rfl, hsz, hP, hK, hD0, hex, hE⟩ := hv
  have hx := B.exec
  have hb := B.bytes
  have hr := B.returns
  have hts0 := atoms_spec (ws := wt yX7_poolFits cX7_poolFits 2 (some .boolean)) B.pre
  have hts : ∀ w ∈ tb, w.before _ s = true := fun w h => hts0 w (List.mem_cons_of_mem _ h)
  have hown : s.vm.findClass RX7 = some m.cls := findClass_of_methodNamed B.named
  subst hsz
  have hD := hD0.self (sz := s.heap.size)
  generalize hAe : va_A ws s.heap.size = A at hD hE ⊢
  have hA : ∀ q : Nat, s.heap.size ≤ q → A q := fun q h => by rw [← hAe]; exact Or.inr h
  have hS : va_S A s.heap s.heap [] := va_S.rf
  have hl := lv_entry ([.ref h0]) (n := 2) (Nat.le_of_ble_eq_true rfl)
  rw [lg_entry_eq]
  generalize (lg_sl ([.ref h0]) ++ List.replicate (2 - (lg_sl ([.ref h0])).length) Slot.unset).toArray = ls at hl ⊢
  have hl : lv_has ls 2 [(0, .ref h0)] := hl
  refine lv_aload_n hx hb dX7_poolFits_0 rfl (lv_at hl 0 rfl) ?_
  refine lv_iconst (v := 2) hx hb dX7_poolFits_1 (by decide) ?_
  have hFc := gfree hD hS hA
  obtain ⟨k_1, fs_1, hk_1⟩ := gC_of o_h0
  refine va_calli (va_runV (As := [.int 2]) (rest := []) ⟨hx, hb, hml, hown, hts⟩ (m_X7_isThere l g s.heap.size ws h0 (2) hG o_h0) (cwV 1 hts (gd_V kw_1272 kw_1382 kw_1383 kw_710 kw_1381) rfl rfl rfl (by decide +kernel) ⟨Nat.le_of_ble_eq_true rfl, Nat.le_of_ble_eq_true rfl⟩) ⟨gblind, va_recv hK hP (ci := 6) (q0 := k_1) rfl hk_1, fun U hU hW9 => gmk hU hW9 hP hK hD hex hE hS hFc⟩ rfl rfl hl.1 rfl (lv_room (Nat.le_of_ble_eq_true rfl)) dX7_poolFits_2 ⟨Nat.le_of_ble_eq_true rfl, Nat.le_of_ble_eq_true rfl⟩) hS (fun q _ h => hFc q h) hFc (fun r_2 ws_3 t9 H1 locs ht9 hvm9 hw9 hB9 hz9 hk9 hS => ?_)
  obtain ⟨E_4, Fr_5, hG, hP1, hD1⟩ := hB9
  have hP : va_P (gD g) cl0 ws_3 H1 := by rw [← ht9]; exact hP1
  have hD : va_D A ws_3 := hD1.weaken (fun _ _ _ h => hFc _ h)
  have hz_r_2 : r_2 = 0 ∨ r_2 = 1 := hw9
  clear hP1 hD1 hz9 hk9 hvm9 ht9 hw9
  generalize H1 = H at hP hS ⊢
  have o_h0 := E_4 _ _ o_h0
  refine lv_if_ne (tgt := 10) hx hb dX7_poolFits_5 (by decide) (fun c_6 => ?_) (fun c_6 => ?_)
  · refine lv_aload_n hx hb dX7_poolFits_10 rfl (lv_at hl 0 rfl) ?_
    refine lv_aload_n hx hb dX7_poolFits_11 rfl (lv_at hl 0 rfl) ?_
    refine lv_aload_n hx hb dX7_poolFits_12 rfl (lv_at hl 0 rfl) ?_
    obtain ⟨k_7, fs9, hk_7⟩ := gC_of o_h0
    obtain ⟨r0_7, n0_7, c1_7, c2_7, c3_7, r4_7, n4_7, c5_7, c6_7, c7_7, c8_7, r9_7, n9_7, r10_7, n10_7, r11_7, n11_7, c12_7, c13_7, c14_7, c15_7, c16_7, rfl, a_r0_7, f1_7, a_r4_7, f3_7, a_r9_7, f5_7, a_r10_7, f7_7, a_r11_7, f9_7, f10_7, f11_7, f12_7, f13_7, f14_7, -⟩ := (hG.1 _ _ _ _ hk_7).hX7 rfl
    refine va_get (D := gD g) (ci := 6) (v := .int c15_7) (C := RX7) (T := TX7) (N := 17) hx hb hts inX7 hown hK hP k_7 hk_7 rfl 15 (by decide) (hts _ kw_1273) (fun _ h9 => h9) rfl dX7_poolFits_13 ?_
    have hFc := gfree hD hS hA
    refine va_calli (va_runV (As := [.int c15_7]) (rest := [.ref h0]) ⟨hx, hb, hml, hown, hts⟩ (m_X7_u2 l g H.size ws_3 h0 (c15_7) hG o_h0) (cwV 1 hts (gd_V kw_1266 kw_1450 kw_1451 kw_710 kw_1449) rfl rfl rfl (by decide +kernel) ⟨Nat.le_of_ble_eq_true rfl, Nat.le_of_ble_eq_true rfl⟩) ⟨gblind, va_recv hK hP (ci := 6) (q0 := k_7) rfl hk_7, fun U hU hW9 => gmk hU hW9 hP hK hD hex hE hS hFc⟩ rfl rfl hl.1 rfl (lv_room (Nat.le_of_ble_eq_true rfl)) dX7_poolFits_16 ⟨Nat.le_of_ble_eq_true rfl, Nat.le_of_ble_eq_true rfl⟩) hS (fun q _ h => hFc q h) hFc (fun r_8 u9 t9 H1 locs ht9 hvm9 hw9 hB9 hz9 hk9 hS => ?_)
    have hP : va_P (gD g) cl0 ws_3 H1 := by rw [← ht9]; exact hB9.1
    have h_r_8 := hw9
    clear hB9 hz9 hk9 hvm9 ht9 hw9
    generalize H1 = H at hP hS ⊢
    refine va_put (D := gD g) (ci := 6) (v := .int r_8) (ty := .int) (C := RX7) (T := TX7) (N := 17) hx hb hts inX7 tyX7 tyX7_ok nmX7 hown hK hP hD hS k_7 hk_7 rfl 5 (by decide) (hts _ kw_1294) (fun _ h9 => h9) rfl (by decide +kernel) rfl rfl (Nat.le_of_ble_eq_true rfl) dX7_poolFits_19 (fun H locs hP hD hS => ?_)
    have hi_9 : invX7 g ws_3 h0 [.ref r0_7, .int c1_7, .int c2_7, .int c3_7, .ref r4_7, .int r_8, .int c6_7, .int c7_7, .int c8_7, .ref r9_7, .ref r10_7, .ref r11_7, .int c12_7, .int c13_7, .int c14_7, .int c15_7, .int c16_7] := ⟨r0_7, (n0_7), (c1_7), (c2_7), (c3_7), r4_7, (n4_7), (r_8), (c6_7), (c7_7), (c8_7), r9_7, (n9_7), r10_7, (n10_7), r11_7, (n11_7), (c12_7), (c13_7), (c14_7), (c15_7), (c16_7), rfl, a_r0_7, f1_7, a_r4_7, f3_7, a_r9_7, f5_7, a_r10_7, f7_7, a_r11_7, f9_7, f10_7, f11_7, f12_7, f13_7, f14_7, trivial⟩
    obtain ⟨ws_10, e_ws_10⟩ : ∃ z, z = ws_3.set k_7 (h0, .inr (6, [.ref r0_7, .int c1_7, .int c2_7, .int c3_7, .ref r4_7, .int r_8, .int c6_7, .int c7_7, .int c8_7, .ref r9_7, .ref r10_7, .ref r11_7, .int c12_7, .int c13_7, .int c14_7, .int c15_7, .int c16_7])) := ⟨_, rfl⟩
    have hP : va_P (gD g) cl0 ws_10 H := by rw [e_ws_10]; exact hP
    have hD : va_D A ws_10 := by rw [e_ws_10]; exact hD
    have E_11 : gE ws_3 ws_10 := gE_set e_ws_10 hk_7 rfl
    have hG : Good g ws_10 := Good_set e_ws_10 hk_7 hG (ivX7 hi_9)
    have Fr_12 : gF [(6, 5)] ws_3 ws_10 := gF_put (fi := 5) (v := .int r_8) e_ws_10 hk_7 rfl
    have hkN := gset_self e_ws_10 hk_7
    have hk_7 := hkN
    have o_h0 := E_11 _ _ o_h0
    have a_r0_7 := E_11 _ _ a_r0_7
    have a_r4_7 := E_11 _ _ a_r4_7
    have a_r9_7 := E_11 _ _ a_r9_7
    have a_r10_7 := E_11 _ _ a_r10_7
    have a_r11_7 := E_11 _ _ a_r11_7
    refine lv_aload_n hx hb dX7_poolFits_22 rfl (lv_at hl 0 rfl) ?_
    refine va_get (D := gD g) (ci := 6) (v := .int r_8) (C := RX7) (T := TX7) (N := 17) hx hb hts inX7 hown hK hP k_7 hk_7 rfl 5 (by decide) (hts _ kw_1294) (fun _ h9 => h9) rfl dX7_poolFits_23 ?_
    refine lv_iconst (v := 1) hx hb dX7_poolFits_26 (by decide) ?_
    have J_40 : ∀  (H : Heap) (locs : List Loc) (ls : Array Slot), va_P (gD g) cl0 ws_10 H → va_D A ws_10 → va_S A s.heap H locs → lv_has ls 2 [(0, .ref h0)] → W p l e (headSpec (wt yX7_poolFits cX7_poolFits 2 (some .boolean)) ({ frames := 4, cells := 0, slots := 0, locals := 86 })).room s m ([.ref h0] : List Value).toArray below meth c H locs 0 0 (MQ below (va_Qi (fun (r : Int32) (u9 : va_W) => r = 0 ∨ r = 1) (gQ1 g [(6, 2), (6, 3), (6, 5), (6, 15)] A ws) A) ([.ref h0] : List Value).toArray s 0 0 A) (F0 m 40 ls []) := by
      intro  H locs ls  hP hD hS hl
      refine lv_aload_n hx hb dX7_poolFits_40 rfl (lv_at hl 0 rfl) ?_
      refine lv_iconst (v := 5) hx hb dX7_poolFits_41 (by decide) ?_
      refine lv_aload_n hx hb dX7_poolFits_42 rfl (lv_at hl 0 rfl) ?_
      refine va_get (D := gD g) (ci := 6) (v := .int c15_7) (C := RX7) (T := TX7) (N := 17) hx hb hts inX7 hown hK hP k_7 hk_7 rfl 15 (by decide) (hts _ kw_1273) (fun _ h9 => h9) rfl dX7_poolFits_43 ?_
      have hFc := gfree hD hS hA
      refine va_calli (va_runV (As := [.int 5, .int c15_7]) (rest := []) ⟨hx, hb, hml, hown, hts⟩ (m_X7_breaks l g H.size ws_10 h0 (5) (c15_7) hG o_h0) (cwV 2 hts (gd_V kw_1276 kw_1278 kw_1279 kw_710 kw_1277) rfl rfl rfl (by decide +kernel) ⟨Nat.le_of_ble_eq_true rfl, Nat.le_of_ble_eq_true rfl⟩) ⟨gblind, va_recv hK hP (ci := 6) (q0 := k_7) rfl hk_7, fun U hU hW9 => gmk hU hW9 hP hK hD hex hE hS hFc⟩ rfl rfl hl.1 rfl (lv_room (Nat.le_of_ble_eq_true rfl)) dX7_poolFits_46 ⟨Nat.le_of_ble_eq_true rfl, Nat.le_of_ble_eq_true rfl⟩) hS (fun q _ h => hFc q h) hFc (fun r_15 ws_16 t9 H1 locs ht9 hvm9 hw9 hB9 hz9 hk9 hS => ?_)
      obtain ⟨E_17, Fr_18, hG, hP1, hD1⟩ := hB9
      have hP : va_P (gD g) cl0 ws_16 H1 := by rw [← ht9]; exact hP1
      have hD : va_D A ws_16 := hD1.weaken (fun _ _ _ h => hFc _ h)
      have hz_r_15 : r_15 = 0 ∨ r_15 = 1 := hw9
      clear hP1 hD1 hz9 hk9 hvm9 ht9 hw9
      generalize H1 = H at hP hS ⊢
      have aa_19 := a_r0_7
      have aa_20 := a_r4_7
      have aa_21 := a_r9_7
      have aa_22 := a_r10_7
      have aa_23 := a_r11_7
      have o_h0 := E_17 _ _ o_h0
      refine W.widen (k := 0) (n := 0) (Nat.le_of_ble_eq_true rfl) (Nat.le_of_ble_eq_true rfl) ?_
      exact W.zret (v := r_15) hx hb hr (nz hz_r_15) (fun t9 ht9 hW9 => ⟨⟨_, ws_16, rfl, hz_r_15, ⟨(E_4.tr (E_11.tr E_17)), (gF.tr (gF.mo (F' := [(6, 2), (6, 3), (6, 5), (6, 15)]) Fr_5 (by decide)) (gF.tr (gF.mo (F' := [(6, 2), (6, 3), (6, 5), (6, 15)]) Fr_12 (by decide)) (gF.mo (F' := [(6, 2), (6, 3), (6, 5), (6, 15)]) Fr_18 (by decide)))), hG, by rw [ht9]; exact hP, hD⟩⟩, hS.F ht9⟩) hS.2.2 dX7_poolFits_49
    refine lv_icmp_lt (tgt := 40) hx hb dX7_poolFits_27 (by decide) (fun c_24 => ?_) (fun c_24 => ?_)
    · exact J_40  H locs ls  hP hD hS (lv_sub hl [0] rfl)
    · refine lv_aload_n hx hb dX7_poolFits_30 rfl (lv_at hl 0 rfl) ?_
      refine va_get (D := gD g) (ci := 6) (v := .int r_8) (C := RX7) (T := TX7) (N := 17) hx hb hts inX7 hown hK hP k_7 hk_7 rfl 5 (by decide) (hts _ kw_1294) (fun _ h9 => h9) rfl dX7_poolFits_31 ?_
      refine lv_sipush (v := 500) hx hb dX7_poolFits_34 (by decide) ?_
      refine lv_icmp_le (tgt := 50) hx hb dX7_poolFits_37 (by decide) (fun c_25 => ?_) (fun c_25 => ?_)
      · refine lv_aload_n hx hb dX7_poolFits_50 rfl (lv_at hl 0 rfl) ?_
        refine lv_dup hx hb dX7_poolFits_51 rfl ?_
        refine va_get (D := gD g) (ci := 6) (v := .int c15_7) (C := RX7) (T := TX7) (N := 17) hx hb hts inX7 hown hK hP k_7 hk_7 rfl 15 (by decide) (hts _ kw_1273) (fun _ h9 => h9) rfl dX7_poolFits_52 ?_
        refine lv_iconst (v := 2) hx hb dX7_poolFits_55 (by decide) ?_
        refine lv_iadd hx hb dX7_poolFits_56 ?_
        refine lv_topi (fun z_26 ez_26 => ?_)
        refine va_put (D := gD g) (ci := 6) (v := .int z_26) (ty := .int) (C := RX7) (T := TX7) (N := 17) hx hb hts inX7 tyX7 tyX7_ok nmX7 hown hK hP hD hS k_7 hk_7 rfl 15 (by decide) (hts _ kw_1273) (fun _ h9 => h9) rfl (by decide +kernel) rfl rfl (Nat.le_of_ble_eq_true rfl) dX7_poolFits_57 (fun H locs hP hD hS => ?_)
        have hi_27 : invX7 g ws_10 h0 [.ref r0_7, .int c1_7, .int c2_7, .int c3_7, .ref r4_7, .int r_8, .int c6_7, .int c7_7, .int c8_7, .ref r9_7, .ref r10_7, .ref r11_7, .int c12_7, .int c13_7, .int c14_7, .int z_26, .int c16_7] := ⟨r0_7, (n0_7), (c1_7), (c2_7), (c3_7), r4_7, (n4_7), (r_8), (c6_7), (c7_7), (c8_7), r9_7, (n9_7), r10_7, (n10_7), r11_7, (n11_7), (c12_7), (c13_7), (c14_7), (z_26), (c16_7), rfl, a_r0_7, f1_7, a_r4_7, f3_7, a_r9_7, f5_7, a_r10_7, f7_7, a_r11_7, f9_7, f10_7, f11_7, f12_7, f13_7, f14_7, trivial⟩
        obtain ⟨ws_28, e_ws_28⟩ : ∃ z, z = ws_10.set k_7 (h0, .inr (6, [.ref r0_7, .int c1_7, .int c2_7, .int c3_7, .ref r4_7, .int r_8, .int c6_7, .int c7_7, .int c8_7, .ref r9_7, .ref r10_7, .ref r11_7, .int c12_7, .int c13_7, .int c14_7, .int z_26, .int c16_7])) := ⟨_, rfl⟩
        have hP : va_P (gD g) cl0 ws_28 H := by rw [e_ws_28]; exact hP
        have hD : va_D A ws_28 := by rw [e_ws_28]; exact hD
        have E_29 : gE ws_10 ws_28 := gE_set e_ws_28 hk_7 rfl
        have hG : Good g ws_28 := Good_set e_ws_28 hk_7 hG (ivX7 hi_27)
        have Fr_30 : gF [(6, 15)] ws_10 ws_28 := gF_put (fi := 15) (v := .int z_26) e_ws_28 hk_7 rfl
        have hkN := gset_self e_ws_28 hk_7
        have hk_7 := hkN
        have o_h0 := E_29 _ _ o_h0
        have a_r0_7 := E_29 _ _ a_r0_7
        have a_r4_7 := E_29 _ _ a_r4_7
        have a_r9_7 := E_29 _ _ a_r9_7
        have a_r10_7 := E_29 _ _ a_r10_7
        have a_r11_7 := E_29 _ _ a_r11_7
        refine lv_aload_n hx hb dX7_poolFits_60 rfl (lv_at hl 0 rfl) ?_
        refine va_get (D := gD g) (ci := 6) (v := .ref r4_7) (C := RX7) (T := TX7) (N := 17) hx hb hts inX7 hown hK hP k_7 hk_7 rfl 4 (by decide) (hts _ kw_1300) (fun _ h9 => h9) rfl dX7_poolFits_61 ?_
        refine lv_iconst (v := 0) hx hb dX7_poolFits_64 (by decide) ?_
        have hFc := gfree hD hS hA
        refine va_callv (va_runS (As := [.ref r4_7, .int 0]) (rest := []) ⟨hx, hb, hml, hown, hts⟩ (m_J7_fill_53178 l g H.size ws_28 r4_7 (n4_7) (0) hG a_r4_7 f3_7) (va_cwS 2 hts (gd_S kw_1426 kw_1722 kw_1723 kw_1721) rfl rfl rfl (by decide +kernel) ⟨Nat.le_of_ble_eq_true rfl, Nat.le_of_ble_eq_true rfl⟩) ⟨gblind, fun U hU hW9 => gmk hU hW9 hP hK hD hex hE hS hFc⟩ rfl rfl hl.1 rfl (lv_room (Nat.le_of_ble_eq_true rfl)) dX7_poolFits_65 ⟨Nat.le_of_ble_eq_true rfl, Nat.le_of_ble_eq_true rfl⟩) hS (fun q _ h => hFc q h) hFc (fun  ws_31 t9 H1 locs ht9 hvm9 hw9 hB9 hz9 hk9 hS => ?_)
        obtain ⟨E_32, Fr_33, hG, hP1, hD1⟩ := hB9
        have hP : va_P (gD g) cl0 ws_31 H1 := by rw [← ht9]; exact hP1
        have hD : va_D A ws_31 := hD1.weaken (fun _ _ _ h => hFc _ h)
        clear hP1 hD1 hz9 hk9 hvm9 ht9 hw9
        generalize H1 = H at hP hS ⊢
        have aa_34 := a_r0_7
        have aa_35 := a_r4_7
        have aa_36 := a_r9_7
        have aa_37 := a_r10_7
        have aa_38 := a_r11_7
        have o_h0 := E_32 _ _ o_h0
        refine lv_iconst (v := 1) hx hb dX7_poolFits_68 (by decide) ?_
        refine lv_istore_n (lv' := [(1, .int 1), (0, .ref h0)]) hx hb dX7_poolFits_69 rfl hl (by decide) rfl (fun ls hl => ?_)
        have J_70 : ∀ (n9 : Nat) (v1_39 : Int32) (ws_41 : va_W) (H : Heap) (locs : List Loc) (ls : Array Slot), (2147483647 - v1_39.toInt).toNat = n9 → 0 ≤ v1_39.toInt → gE ws_31 ws_41 → gF [(6, 2), (6, 3), (6, 15)] ws_31 ws_41 → Good g ws_41 → va_P (gD g) cl0 ws_41 H → va_D A ws_41 → va_S A s.heap H locs → lv_has ls 2 [(0, .ref h0), (1, .int v1_39)] → W p l e (headSpec (wt yX7_poolFits cX7_poolFits 2 (some .boolean)) ({ frames := 4, cells := 0, slots := 0, locals := 86 })).room s m ([.ref h0] : List Value).toArray below meth c H locs 0 0 (MQ below (va_Qi (fun (r : Int32) (u9 : va_W) => r = 0 ∨ r = 1) (gQ1 g [(6, 2), (6, 3), (6, 5), (6, 15)] A ws) A) ([.ref h0] : List Value).toArray s 0 0 A) (F0 m 70 ls []) := by
          intro n9
          induction n9 using Nat.strongRecOn with
          | ind n9 ih_70 =>
            intro v1_39 ws_41 H locs ls hm9 iv_40 E_42 Fr_43 hG hP hD hS hl
            subst hm9
            have o_h0 := E_42 _ _ o_h0
            refine lv_iload_n hx hb dX7_poolFits_70 rfl (lv_at hl 1 rfl) ?_
            refine lv_aload_n hx hb dX7_poolFits_71 rfl (lv_at hl 0 rfl) ?_
            obtain ⟨fs9, hk_44, hq_44⟩ := ((gF.tr (gF.mo (F' := [(6, 2), (6, 3), (6, 15)]) Fr_33 (by decide)) Fr_43)) _ _ _ _ hk_7
            obtain ⟨r0_44, n0_44, c1_44, c2_44, c3_44, r4_44, n4_44, c5_44, c6_44, c7_44, c8_44, r9_44, n9_44, r10_44, n10_44, r11_44, n11_44, c12_44, c13_44, c14_44, c15_44, c16_44, rfl, a_r0_44, f1_44, a_r4_44, f3_44, a_r9_44, f5_44, a_r10_44, f7_44, a_r11_44, f9_44, f10_44, f11_44, f12_44, f13_44, f14_44, -⟩ := (hG.1 _ _ _ _ hk_44).hX7 rfl
            obtain rfl := fe_r (hq_44 4 (by decide))
            have hn9 := gI_n hD (((E_32.tr E_42)) _ _ aa_35) a_r4_44
            subst hn9
            have a_r4_7 := a_r4_44
            obtain rfl := fe_i (hq_44 5 (by decide))
            refine va_get (D := gD g) (ci := 6) (v := .int r_8) (C := RX7) (T := TX7) (N := 17) hx hb hts inX7 hown hK hP k_7 hk_44 rfl 5 (by decide) (hts _ kw_1294) (fun _ h9 => h9) rfl dX7_poolFits_72 ?_
            have J_153 : ∀  (H : Heap) (locs : List Loc) (ls : Array Slot), va_P (gD g) cl0 ws_41 H → va_D A ws_41 → va_S A s.heap H locs → lv_has ls 2 [] → W p l e (headSpec (wt yX7_poolFits cX7_poolFits 2 (some .boolean)) ({ frames := 4, cells := 0, slots := 0, locals := 86 })).room s m ([.ref h0] : List Value).toArray below meth c H locs 0 0 (MQ below (va_Qi (fun (r : Int32) (u9 : va_W) => r = 0 ∨ r = 1) (gQ1 g [(6, 2), (6, 3), (6, 5), (6, 15)] A ws) A) ([.ref h0] : List Value).toArray s 0 0 A) (F0 m 153 ls []) := by
              intro  H locs ls  hP hD hS hl
              refine lv_iconst (v := 1) hx hb dX7_poolFits_153 (by decide) ?_
              refine W.widen (k := 0) (n := 0) (Nat.le_of_ble_eq_true rfl) (Nat.le_of_ble_eq_true rfl) ?_
              exact W.zret (v := 1) hx hb hr (nz (Or.inr rfl)) (fun t9 ht9 hW9 => ⟨⟨_, ws_41, rfl, (Or.inr rfl), ⟨(E_4.tr (E_11.tr (E_29.tr (E_32.tr E_42)))), (gF.tr (gF.mo (F' := [(6, 2), (6, 3), (6, 5), (6, 15)]) Fr_5 (by decide)) (gF.tr (gF.mo (F' := [(6, 2), (6, 3), (6, 5), (6, 15)]) Fr_12 (by decide)) (gF.tr (gF.mo (F' := [(6, 2), (6, 3), (6, 5), (6, 15)]) Fr_30 (by decide)) (gF.tr (gF.mo (F' := [(6, 2), (6, 3), (6, 5), (6, 15)]) Fr_33 (by decide)) (gF.mo (F' := [(6, 2), (6, 3), (6, 5), (6, 15)]) Fr_43 (by decide)))))), hG, by rw [ht9]; exact hP, hD⟩⟩, hS.F ht9⟩) hS.2.2 dX7_poolFits_154
            refine lv_icmp_ge (tgt := 153) hx hb dX7_poolFits_75 (by decide) (fun c_47 => ?_) (fun c_47 => ?_)
            · exact J_153  H locs ls  hP hD hS (lv_sub hl [] rfl)
            · refine lv_iload_n hx hb dX7_poolFits_78 rfl (lv_at hl 1 rfl) ?_
              refine lv_aload_n hx hb dX7_poolFits_79 rfl (lv_at hl 0 rfl) ?_
              refine va_get (D := gD g) (ci := 6) (v := .ref r4_7) (C := RX7) (T := TX7) (N := 17) hx hb hts inX7 hown hK hP k_7 hk_44 rfl 4 (by decide) (hts _ kw_1300) (fun _ h9 => h9) rfl dX7_poolFits_80 ?_
              obtain ⟨k_48, f_48, hk_48⟩ := gI_of a_r4_7
              obtain ⟨z_49, ez_49⟩ : ∃ z : Int32, Int32.ofNat n4_7 = z := ⟨_, rfl⟩
              refine va_alen (v := z_49) hx hb hK hP k_48 1 hk_48 rfl ez_49 dX7_poolFits_83 ?_
              refine lv_icmp_ge (tgt := 153) hx hb dX7_poolFits_84 (by decide) (fun c_50 => ?_) (fun c_50 => ?_)
              · exact J_153  H locs ls  hP hD hS (lv_sub hl [] rfl)
              · refine lv_aload_n hx hb dX7_poolFits_87 rfl (lv_at hl 0 rfl) ?_
                have hFc := gfree hD hS hA
                refine va_calli (va_runV (As := []) (rest := []) ⟨hx, hb, hml, hown, hts⟩ (m_X7_entryFits l g H.size ws_41 h0 hG o_h0) (cwV 0 hts (gd_V kw_1427 kw_1302 kw_1303 kw_710 kw_1301) rfl rfl rfl (by decide +kernel) ⟨Nat.le_of_ble_eq_true rfl, Nat.le_of_ble_eq_true rfl⟩) ⟨gblind, va_recv hK hP (ci := 6) (q0 := k_7) rfl hk_44, fun U hU hW9 => gmk hU hW9 hP hK hD hex hE hS hFc⟩ rfl rfl hl.1 rfl (lv_room (Nat.le_of_ble_eq_true rfl)) dX7_poolFits_88 ⟨Nat.le_of_ble_eq_true rfl, Nat.le_of_ble_eq_true rfl⟩) hS (fun q _ h => hFc q h) hFc (fun r_51 ws_52 t9 H1 locs ht9 hvm9 hw9 hB9 hz9 hk9 hS => ?_)
                obtain ⟨E_53, Fr_54, hG, hP1, hD1⟩ := hB9
                have hP : va_P (gD g) cl0 ws_52 H1 := by rw [← ht9]; exact hP1
                have hD : va_D A ws_52 := hD1.weaken (fun _ _ _ h => hFc _ h)
                have hz_r_51 : r_51 = 0 ∨ r_51 = 1 := hw9
                clear hP1 hD1 hz9 hk9 hvm9 ht9 hw9
                generalize H1 = H at hP hS ⊢
                have aa_55 := a_r0_44
                have aa_56 := a_r4_7
                have aa_57 := a_r9_44
                have aa_58 := a_r10_44
                have aa_59 := a_r11_44
                have o_h0 := E_53 _ _ o_h0
                refine lv_if_ne (tgt := 96) hx hb dX7_poolFits_91 (by decide) (fun c_60 => ?_) (fun c_60 => ?_)
                · refine lv_aload_n hx hb dX7_poolFits_96 rfl (lv_at hl 0 rfl) ?_
                  obtain ⟨fs9, hk_61, hq_61⟩ := (Fr_54) _ _ _ _ hk_44
                  obtain ⟨r0_61, n0_61, c1_61, c2_61, c3_61, r4_61, n4_61, c5_61, c6_61, c7_61, c8_61, r9_61, n9_61, r10_61, n10_61, r11_61, n11_61, c12_61, c13_61, c14_61, c15_61, c16_61, rfl, a_r0_61, f1_61, a_r4_61, f3_61, a_r9_61, f5_61, a_r10_61, f7_61, a_r11_61, f9_61, f10_61, f11_61, f12_61, f13_61, f14_61, -⟩ := (hG.1 _ _ _ _ hk_61).hX7 rfl
                  obtain rfl := fe_r (hq_61 4 (by decide))
                  have hn9 := gI_n hD ((E_53) _ _ aa_56) a_r4_61
                  subst hn9
                  have a_r4_7 := a_r4_61
                  obtain rfl := fe_i (hq_61 5 (by decide))
                  obtain rfl := fe_i (hq_61 15 (by decide))
                  refine va_get (D := gD g) (ci := 6) (v := .ref r4_7) (C := RX7) (T := TX7) (N := 17) hx hb hts inX7 hown hK hP k_7 hk_61 rfl 4 (by decide) (hts _ kw_1300) (fun _ h9 => h9) rfl dX7_poolFits_97 ?_
                  refine lv_iload_n hx hb dX7_poolFits_100 rfl (lv_at hl 1 rfl) ?_
                  refine lv_aload_n hx hb dX7_poolFits_101 rfl (lv_at hl 0 rfl) ?_
                  refine va_get (D := gD g) (ci := 6) (v := .int c15_44) (C := RX7) (T := TX7) (N := 17) hx hb hts inX7 hown hK hP k_7 hk_61 rfl 15 (by decide) (hts _ kw_1273) (fun _ h9 => h9) rfl dX7_poolFits_102 ?_
                  obtain ⟨k_62, f_62, hk_62⟩ := gI_of a_r4_7
                  refine va_iast hx hb hK hP hD hS k_62 1 hk_62 rfl (i_in2 (by have e1 : (1 : Int32).toInt = 1 := (by decide); have e500 : (500 : Int32).toInt = 500 := (by decide); have q_f3_7 := f3_7; have q_f11_7 := f11_7; have q_iv_40 := iv_40; have q_c_47 := i_nle c_47; have q_z_49 := i_len ez_49 f3_44; have q_c_50 := i_nle c_50; have q_r_8 := h_r_8; have q_c_24 := i_nlt c_24; have q_c_25 := i_le c_25; have g_r_8 := i_rg r_8; have g_v1_39 := i_rg v1_39; have g_z_49 := i_rg z_49; omega)) dX7_poolFits_105 (fun H locs hP hD hS => ?_)
                  obtain ⟨ws_63, e_ws_63⟩ : ∃ z, z = ws_52.set k_62 (r4_7, .inl (g.cI, n4_7, .inl (upd f_62 (v1_39 : Int32).toNatClampNeg c15_44))) := ⟨_, rfl⟩
                  have hP : va_P (gD g) cl0 ws_63 H := by rw [e_ws_63]; exact hP
                  have hD : va_D A ws_63 := by rw [e_ws_63]; exact hD
                  have E_64 : gE ws_52 ws_63 := gE_ari e_ws_63 hk_62
                  have hG : Good g ws_63 := Good_arI e_ws_63 hk_62 hG
                  have Fr_65 : gF [] ws_52 ws_63 := gF_ar e_ws_63 hk_62
                  have hk_61 := gset_arO e_ws_63 hk_62 hk_61
                  have o_h0 := E_64 _ _ o_h0
                  have a_r0_61 := E_64 _ _ a_r0_61
                  have a_r9_61 := E_64 _ _ a_r9_61
                  have a_r10_61 := E_64 _ _ a_r10_61
                  have a_r11_61 := E_64 _ _ a_r11_61
                  have a_r4_7 := E_64 _ _ a_r4_7
                  refine lv_iload_n hx hb dX7_poolFits_106 rfl (lv_at hl 1 rfl) ?_
                  refine lv_aload_n hx hb dX7_poolFits_107 rfl (lv_at hl 0 rfl) ?_
                  refine lv_aload_n hx hb dX7_poolFits_108 rfl (lv_at hl 0 rfl) ?_
                  refine va_get (D := gD g) (ci := 6) (v := .int c15_44) (C := RX7) (T := TX7) (N := 17) hx hb hts inX7 hown hK hP k_7 hk_61 rfl 15 (by decide) (hts _ kw_1273) (fun _ h9 => h9) rfl dX7_poolFits_109 ?_
                  have hFc := gfree hD hS hA
                  refine va_calli (va_runV (As := [.int c15_44]) (rest := [.int v1_39]) ⟨hx, hb, hml, hown, hts⟩ (m_X7_u1 l g H.size ws_63 h0 (c15_44) hG o_h0) (cwV 1 hts (gd_V kw_1304 kw_1447 kw_1448 kw_710 kw_1446) rfl rfl rfl (by decide +kernel) ⟨Nat.le_of_ble_eq_true rfl, Nat.le_of_ble_eq_true rfl⟩) ⟨gblind, va_recv hK hP (ci := 6) (q0 := k_7) rfl hk_61, fun U hU hW9 => gmk hU hW9 hP hK hD hex hE hS hFc⟩ rfl rfl hl.1 rfl (lv_room (Nat.le_of_ble_eq_true rfl)) dX7_poolFits_112 ⟨Nat.le_of_ble_eq_true rfl, Nat.le_of_ble_eq_true rfl⟩) hS (fun q _ h => hFc q h) hFc (fun r_66 u9 t9 H1 locs ht9 hvm9 hw9 hB9 hz9 hk9 hS => ?_)
                  have hP : va_P (gD g) cl0 ws_63 H1 := by rw [← ht9]; exact hB9.1
                  have h_r_66 := hw9
                  clear hB9 hz9 hk9 hvm9 ht9 hw9
                  generalize H1 = H at hP hS ⊢
                  refine lv_iconst (v := 5) hx hb dX7_poolFits_115 (by decide) ?_
                  have J_124 : ∀ (t_67 : Int32) (H : Heap) (locs : List Loc) (ls : Array Slot), t_67 = 0 ∨ t_67 = 1 → va_P (gD g) cl0 ws_63 H → va_D A ws_63 → va_S A s.heap H locs → lv_has ls 2 [(0, .ref h0)] → W p l e (headSpec (wt yX7_poolFits cX7_poolFits 2 (some .boolean)) ({ frames := 4, cells := 0, slots := 0, locals := 86 })).room s m ([.ref h0] : List Value).toArray below meth c H locs 0 0 (MQ below (va_Qi (fun (r : Int32) (u9 : va_W) => r = 0 ∨ r = 1) (gQ1 g [(6, 2), (6, 3), (6, 5), (6, 15)] A ws) A) ([.ref h0] : List Value).toArray s 0 0 A) (F0 m 124 ls [.int t_67, .int v1_39]) := by
                    intro t_67 H locs ls iv_68 hP hD hS hl
                    have hz_t_67 := iv_68
                    refine lv_iadd hx hb dX7_poolFits_124 ?_
                    refine lv_topi (fun z_71 ez_71 => ?_)
                    refine lv_istore_n (lv' := [(1, .int z_71), (0, .ref h0)]) hx hb dX7_poolFits_125 rfl hl (by decide) rfl (fun ls hl => ?_)
                    refine lv_aload_n hx hb dX7_poolFits_126 rfl (lv_at hl 1 rfl) ?_
                    refine lv_dup hx hb dX7_poolFits_127 rfl ?_
                    refine va_get (D := gD g) (ci := 6) (v := .int c15_44) (C := RX7) (T := TX7) (N := 17) hx hb hts inX7 hown hK hP k_7 hk_61 rfl 15 (by decide) (hts _ kw_1273) (fun _ h9 => h9) rfl dX7_poolFits_128 ?_
                    refine lv_aload_n hx hb dX7_poolFits_131 rfl (lv_at hl 1 rfl) ?_
                    refine lv_aload_n hx hb dX7_poolFits_132 rfl (lv_at hl 1 rfl) ?_
                    refine lv_aload_n hx hb dX7_poolFits_133 rfl (lv_at hl 1 rfl) ?_
                    refine va_get (D := gD g) (ci := 6) (v := .int c15_44) (C := RX7) (T := TX7) (N := 17) hx hb hts inX7 hown hK hP k_7 hk_61 rfl 15 (by decide) (hts _ kw_1273) (fun _ h9 => h9) rfl dX7_poolFits_134 ?_
                    have hFc := gfree hD hS hA
                    refine va_calli (va_runV (As := [.int c15_44]) (rest := [.ref h0, .int c15_44, .ref h0]) ⟨hx, hb, hml, hown, hts⟩ (m_X7_u1 l g H.size ws_63 h0 (c15_44) hG o_h0) (cwV 1 hts (gd_V kw_1304 kw_1447 kw_1448 kw_710 kw_1446) rfl rfl rfl (by decide +kernel) ⟨Nat.le_of_ble_eq_true rfl, Nat.le_of_ble_eq_true rfl⟩) ⟨gblind, va_recv hK hP (ci := 6) (q0 := k_7) rfl hk_61, fun U hU hW9 => gmk hU hW9 hP hK hD hex hE hS hFc⟩ rfl rfl hl.1 rfl (lv_room (Nat.le_of_ble_eq_true rfl)) dX7_poolFits_137 ⟨Nat.le_of_ble_eq_true rfl, Nat.le_of_ble_eq_true rfl⟩) hS (fun q _ h => hFc q h) hFc (fun r_72 u9 t9 H1 locs ht9 hvm9 hw9 hB9 hz9 hk9 hS => ?_)
                    have hP : va_P (gD g) cl0 ws_63 H1 := by rw [← ht9]; exact hB9.1
                    have h_r_72 := hw9
                    clear hB9 hz9 hk9 hvm9 ht9 hw9
                    generalize H1 = H at hP hS ⊢
                    have hFc := gfree hD hS hA
                    refine va_calli (va_runV (As := [.int r_72]) (rest := [.int c15_44, .ref h0]) ⟨hx, hb, hml, hown, hts⟩ (m_X7_entryLength l g H.size ws_63 h0 (r_72) hG o_h0) (cwV 1 hts (gd_V kw_1306 kw_1308 kw_1309 kw_710 kw_1307) rfl rfl rfl (by decide +kernel) ⟨Nat.le_of_ble_eq_true rfl, Nat.le_of_ble_eq_true rfl⟩) ⟨gblind, va_recv hK hP (ci := 6) (q0 := k_7) rfl hk_61, fun U hU hW9 => gmk hU hW9 hP hK hD hex hE hS hFc⟩ rfl rfl hl.1 rfl (lv_room (Nat.le_of_ble_eq_true rfl)) dX7_poolFits_140 ⟨Nat.le_of_ble_eq_true rfl, Nat.le_of_ble_eq_true rfl⟩) hS (fun q _ h => hFc q h) hFc (fun r_73 u9 t9 H1 locs ht9 hvm9 hw9 hB9 hz9 hk9 hS => ?_)
                    have hP : va_P (gD g) cl0 ws_63 H1 := by rw [← ht9]; exact hB9.1
                    clear hB9 hz9 hk9 hvm9 ht9 hw9
                    generalize H1 = H at hP hS ⊢
                    refine lv_iadd hx hb dX7_poolFits_143 ?_
                    refine lv_topi (fun z_74 ez_74 => ?_)
                    refine va_put (D := gD g) (ci := 6) (v := .int z_74) (ty := .int) (C := RX7) (T := TX7) (N := 17) hx hb hts inX7 tyX7 tyX7_ok nmX7 hown hK hP hD hS k_7 hk_61 rfl 15 (by decide) (hts _ kw_1273) (fun _ h9 => h9) rfl (by decide +kernel) rfl rfl (Nat.le_of_ble_eq_true rfl) dX7_poolFits_144 (fun H locs hP hD hS => ?_)
                    have hi_75 : invX7 g ws_63 h0 [.ref r0_61, .int c1_61, .int c2_61, .int c3_61, .ref r4_7, .int r_8, .int c6_61, .int c7_61, .int c8_61, .ref r9_61, .ref r10_61, .ref r11_61, .int c12_61, .int c13_61, .int c14_61, .int z_74, .int c16_61] := ⟨r0_61, (n0_61), (c1_61), (c2_61), (c3_61), r4_7, (n4_7), (r_8), (c6_61), (c7_61), (c8_61), r9_61, (n9_61), r10_61, (n10_61), r11_61, (n11_61), (c12_61), (c13_61), (c14_61), (z_74), (c16_61), rfl, a_r0_61, f1_61, a_r4_7, f3_61, a_r9_61, f5_61, a_r10_61, f7_61, a_r11_61, f9_61, f10_61, f11_61, f12_61, f13_61, f14_61, trivial⟩
                    obtain ⟨ws_76, e_ws_76⟩ : ∃ z, z = ws_63.set k_7 (h0, .inr (6, [.ref r0_61, .int c1_61, .int c2_61, .int c3_61, .ref r4_7, .int r_8, .int c6_61, .int c7_61, .int c8_61, .ref r9_61, .ref r10_61, .ref r11_61, .int c12_61, .int c13_61, .int c14_61, .int z_74, .int c16_61])) := ⟨_, rfl⟩
                    have hP : va_P (gD g) cl0 ws_76 H := by rw [e_ws_76]; exact hP
                    have hD : va_D A ws_76 := by rw [e_ws_76]; exact hD
                    have E_77 : gE ws_63 ws_76 := gE_set e_ws_76 hk_61 rfl
                    have hG : Good g ws_76 := Good_set e_ws_76 hk_61 hG (ivX7 hi_75)
                    have Fr_78 : gF [(6, 15)] ws_63 ws_76 := gF_put (fi := 15) (v := .int z_74) e_ws_76 hk_61 rfl
                    have hkN := gset_self e_ws_76 hk_61
                    have hk_61 := hkN
                    have o_h0 := E_77 _ _ o_h0
                    have a_r0_61 := E_77 _ _ a_r0_61
                    have a_r9_61 := E_77 _ _ a_r9_61
                    have a_r10_61 := E_77 _ _ a_r10_61
                    have a_r11_61 := E_77 _ _ a_r11_61
                    have a_r4_7 := E_77 _ _ a_r4_7
                    obtain ⟨z_79, ez_79⟩ : ∃ z : Int32, z_71 + Int32.ofInt 1 = z := ⟨_, rfl⟩
                    refine lv_iinc (v := z_79) (lv' := [(1, .int z_79), (0, .ref h0)]) hx hb dX7_poolFits_147 hl (k := 0) rfl ez_79 (by decide) rfl (fun ls hl => ?_)
                    refine lv_goto (tgt := 70) hx hb dX7_poolFits_150 (by decide) ?_
                    exact ih_70 _ (by obtain ⟨u_z_79, q_z_79⟩ := i_iz ez_79 (by decide) (by decide); obtain ⟨u_z_71, q_z_71⟩ := i_add ez_71; have q_iv_40 := iv_40; have q_c_47 := i_nle c_47; have q_c_50 := i_nle c_50; have g_r_8 := i_rg r_8; have g_t_67 := i_rg t_67; have g_v1_39 := i_rg v1_39; have g_z_49 := i_rg z_49; have g_z_71 := i_rg z_71; have g_z_79 := i_rg z_79; have b_t_67 := i_bit hz_t_67; omega) (z_79) ws_76 H locs ls rfl (by obtain ⟨u_z_79, q_z_79⟩ := i_iz ez_79 (by decide) (by decide); obtain ⟨u_z_71, q_z_71⟩ := i_add ez_71; have q_iv_40 := iv_40; have q_c_47 := i_nle c_47; have q_c_50 := i_nle c_50; have g_r_8 := i_rg r_8; have g_t_67 := i_rg t_67; have g_v1_39 := i_rg v1_39; have g_z_49 := i_rg z_49; have g_z_71 := i_rg z_71; have g_z_79 := i_rg z_79; have b_t_67 := i_bit hz_t_67; omega) ((E_42.tr (E_53.tr (E_64.tr E_77)))) ((gF.tr Fr_43 (gF.tr (gF.mo (F' := [(6, 2), (6, 3), (6, 15)]) Fr_54 (by decide)) (gF.tr (gF.mo (F' := [(6, 2), (6, 3), (6, 15)]) Fr_65 (by decide)) (gF.mo (F' := [(6, 2), (6, 3), (6, 15)]) Fr_78 (by decide)))))) hG hP hD hS (lv_sub hl [1, 0] rfl)
                  refine lv_icmp_ne (tgt := 123) hx hb dX7_poolFits_116 (by decide) (fun c_80 => ?_) (fun c_80 => ?_)
                  · refine lv_iconst (v := 0) hx hb dX7_poolFits_123 (by decide) ?_
                    exact J_124 (0) H locs ls (Or.inl rfl) hP hD hS (lv_sub hl [0] rfl)
                  · refine lv_iconst (v := 1) hx hb dX7_poolFits_119 (by decide) ?_
                    refine lv_goto (tgt := 124) hx hb dX7_poolFits_120 (by decide) ?_
                    exact J_124 (1) H locs ls (Or.inr rfl) hP hD hS (lv_sub hl [0] rfl)
                · refine lv_iconst (v := 0) hx hb dX7_poolFits_94 (by decide) ?_
                  refine W.widen (k := 0) (n := 0) (Nat.le_of_ble_eq_true rfl) (Nat.le_of_ble_eq_true rfl) ?_
                  exact W.zret (v := 0) hx hb hr (nz (Or.inl rfl)) (fun t9 ht9 hW9 => ⟨⟨_, ws_52, rfl, (Or.inl rfl), ⟨(E_4.tr (E_11.tr (E_29.tr (E_32.tr (E_42.tr E_53))))), (gF.tr (gF.mo (F' := [(6, 2), (6, 3), (6, 5), (6, 15)]) Fr_5 (by decide)) (gF.tr (gF.mo (F' := [(6, 2), (6, 3), (6, 5), (6, 15)]) Fr_12 (by decide)) (gF.tr (gF.mo (F' := [(6, 2), (6, 3), (6, 5), (6, 15)]) Fr_30 (by decide)) (gF.tr (gF.mo (F' := [(6, 2), (6, 3), (6, 5), (6, 15)]) Fr_33 (by decide)) (gF.tr (gF.mo (F' := [(6, 2), (6, 3), (6, 5), (6, 15)]) Fr_43 (by decide)) (gF.mo (F' := [(6, 2), (6, 3), (6, 5), (6, 15)]) Fr_54 (by decide))))))), hG, by rw [ht9]; exact hP, hD⟩⟩, hS.F ht9⟩) hS.2.2 dX7_poolFits_95
        exact J_70 _ (1) ws_31 H locs ls rfl (by have e1 : (1 : Int32).toInt = 1 := (by decide); omega) (gE.rf) (gF.rf) hG hP hD hS (lv_sub hl [1, 0] rfl)
      · exact J_40  H locs ls  hP hD hS (lv_sub hl [0] rfl)
  · refine lv_iconst (v := 0) hx hb dX7_poolFits_8 (by decide) ?_
    refine W.widen (k := 0) (n := 0) (Nat.le_of_ble_eq_true rfl) (Nat.le_of_ble_eq_true rfl) ?_
    exact W.zret (v := 0) hx hb hr (nz (Or.inl rfl)) (fun t9 ht9 hW9 => ⟨⟨_, ws_3, rfl, (Or.inl rfl), ⟨E_4, (gF.mo (F' := [(6, 2), (6, 3), (6, 5), (6, 15)]) Fr_5 (by decide)), hG, by rw [ht9]; exact hP, hD⟩⟩, hS.F ht9⟩) hS.2.2 dX7_poolFits_9
set_option maxHeartbeats 1000000 in
set_option maxRecDepth 100000 in
theorem m_X7_fieldsFit (l : Launch) (g : Gm) (sz : Nat) (ws : va_W) (h0 : Nat) (hG : Good g ws) (o_h0 : gC ws h0 6) : Met l yX7_fieldsFit (wt yX7_fieldsFit cX7_fieldsFit 1 (some .boolean)) ({ frames := 4, cells := 0, slots := 0, locals := 90 }) (va_Pc [.ref h0] (st_G g sz ws)) (va_Qi (fun (r : Int32) (u9 : va_W) => r = 0 ∨ r = 1) (gQ1 g [(6, 2), (6, 3), (6, 7), (6, 8), (6, 15)] (va_A ws sz) ws) (va_A ws sz)) 0 0 (va_A ws sz) := by
  refine Met.ofW (cc := cX7_fieldsFit) (maxL := 1) (ret := (some .boolean)) (by decide) rfl ?_
  intro p e s m args below meth c s₁ B hml hv
  obtain ⟨rfl, hsz, hP, hK, hD0, hex, hE⟩ := hv
  have hx := B.exec
  have hb := B.bytes
  have hr := B.returns
  have hts0 := atoms_spec (ws := wt yX7_fieldsFit cX7_fieldsFit 1 (some .boolean)) B.pre
  have hts : ∀ w ∈ tb, w.before _ s = true := fun w h => hts0 w (List.mem_cons_of_mem _ h)
  have hown : s.vm.findClass RX7 = some m.cls := findClass_of_methodNamed B.named
  subst hsz
  have hD := hD0.self (sz := s.heap.size)
  generalize hAe : va_A ws s.heap.size = A at hD hE ⊢
  have hA : ∀ q : Nat, s.heap.size ≤ q → A q := fun q h => by rw [← hAe]; exact Or.inr h
  have hS : va_S A s.heap s.heap [] := va_S.rf
  have hl := lv_entry ([.ref h0]) (n := 1) (Nat.le_of_ble_eq_true rfl)
  rw [lg_entry_eq]
  generalize (lg_sl ([.ref h0]) ++ List.replicate (1 - (lg_sl ([.ref h0])).length) Slot.unset).toArray = ls at hl ⊢
  have hl : lv_has ls 1 [(0, .ref h0)] := hl
  refine lv_aload_n hx hb dX7_fieldsFit_0 rfl (lv_at hl 0 rfl) ?_
  refine lv_iconst (v := 0) hx hb dX7_fieldsFit_1 (by decide) ?_
  obtain ⟨k_1, fs9, hk_1⟩ := gC_of o_h0
  obtain ⟨r0_1, n0_1, c1_1, c2_1, c3_1, r4_1, n4_1, c5_1, c6_1, c7_1, c8_1, r9_1, n9_1, r10_1, n10_1, r11_1, n11_1, c12_1, c13_1, c14_1, c15_1, c16_1, rfl, a_r0_1, f1_1, a_r4_1, f3_1, a_r9_1, f5_1, a_r10_1, f7_1, a_r11_1, f9_1, f10_1, f11_1, f12_1, f13_1, f14_1, -⟩ := (hG.1 _ _ _ _ hk_1).hX7 rfl
  refine va_put (D := gD g) (ci := 6) (v := .int 0) (ty := .int) (C := RX7) (T := TX7) (N := 17) hx hb hts inX7 tyX7 tyX7_ok nmX7 hown hK hP hD hS k_1 hk_1 rfl 8 (by decide) (hts _ kw_1285) (fun _ h9 => h9) rfl (by decide +kernel) rfl rfl (Nat.le_of_ble_eq_true rfl) dX7_fieldsFit_2 (fun H locs hP hD hS => ?_)
  have hi_2 : invX7 g ws h0 [.ref r0_1, .int c1_1, .int c2_1, .int c3_1, .ref r4_1, .int c5_1, .int c6_1, .int c7_1, .int 0, .ref r9_1, .ref r10_1, .ref r11_1, .int c12_1, .int c13_1, .int c14_1, .int c15_1, .int c16_1] := ⟨r0_1, (n0_1), (c1_1), (c2_1), (c3_1), r4_1, (n4_1), (c5_1), (c6_1), (c7_1), (0), r9_1, (n9_1), r10_1, (n10_1), r11_1, (n11_1), (c12_1), (c13_1), (c14_1), (c15_1), (c16_1), rfl, a_r0_1, f1_1, a_r4_1, f3_1, a_r9_1, f5_1, a_r10_1, f7_1, a_r11_1, f9_1, f10_1, f11_1, f12_1, f13_1, f14_1, trivial⟩
  obtain ⟨ws_3, e_ws_3⟩ : ∃ z, z = ws.set k_1 (h0, .inr (6, [.ref r0_1, .int c1_1, .int c2_1, .int c3_1, .ref r4_1, .int c5_1, .int c6_1, .int c7_1, .int 0, .ref r9_1, .ref r10_1, .ref r11_1, .int c12_1, .int c13_1, .int c14_1, .int c15_1, .int c16_1])) := ⟨_, rfl⟩
  have hP : va_P (gD g) cl0 ws_3 H := by rw [e_ws_3]; exact hP
  have hD : va_D A ws_3 := by rw [e_ws_3]; exact hD
  have E_4 : gE ws ws_3 := gE_set e_ws_3 hk_1 rfl
  have hG : Good g ws_3 := Good_set e_ws_3 hk_1 hG (ivX7 hi_2)
  have Fr_5 : gF [(6, 8)] ws ws_3 := gF_put (fi := 8) (v := .int 0) e_ws_3 hk_1 rfl
  have hkN := gset_self e_ws_3 hk_1
  have hk_1 := hkN
  have o_h0 := E_4 _ _ o_h0
  have a_r0_1 := E_4 _ _ a_r0_1
  have a_r4_1 := E_4 _ _ a_r4_1
  have a_r9_1 := E_4 _ _ a_r9_1
  have a_r10_1 := E_4 _ _ a_r10_1
  have a_r11_1 := E_4 _ _ a_r11_1
  refine lv_aload_n hx hb dX7_fieldsFit_5 rfl (lv_at hl 0 rfl) ?_
  refine lv_iconst (v := 0) hx hb dX7_fieldsFit_6 (by decide) ?_
  refine va_put (D := gD g) (ci := 6) (v := .int 0) (ty := .int) (C := RX7) (T := TX7) (N := 17) hx hb hts inX7 tyX7 tyX7_ok nmX7 hown hK hP hD hS k_1 hk_1 rfl 7 (by decide) (hts _ kw_1287) (fun _ h9 => h9) rfl (by decide +kernel) rfl rfl (Nat.le_of_ble_eq_true rfl) dX7_fieldsFit_7 (fun H locs hP hD hS => ?_)
  have hi_6 : invX7 g ws_3 h0 [.ref r0_1, .int c1_1, .int c2_1, .int c3_1, .ref r4_1, .int c5_1, .int c6_1, .int 0, .int 0, .ref r9_1, .ref r10_1, .ref r11_1, .int c12_1, .int c13_1, .int c14_1, .int c15_1, .int c16_1] := ⟨r0_1, (n0_1), (c1_1), (c2_1), (c3_1), r4_1, (n4_1), (c5_1), (c6_1), (0), (0), r9_1, (n9_1), r10_1, (n10_1), r11_1, (n11_1), (c12_1), (c13_1), (c14_1), (c15_1), (c16_1), rfl, a_r0_1, f1_1, a_r4_1, f3_1, a_r9_1, f5_1, a_r10_1, f7_1, a_r11_1, f9_1, f10_1, f11_1, f12_1, f13_1, f14_1, trivial⟩
  obtain ⟨ws_7, e_ws_7⟩ : ∃ z, z = ws_3.set k_1 (h0, .inr (6, [.ref r0_1, .int c1_1, .int c2_1, .int c3_1, .ref r4_1, .int c5_1, .int c6_1, .int 0, .int 0, .ref r9_1, .ref r10_1, .ref r11_1, .int c12_1, .int c13_1, .int c14_1, .int c15_1, .int c16_1])) := ⟨_, rfl⟩
  have hP : va_P (gD g) cl0 ws_7 H := by rw [e_ws_7]; exact hP
  have hD : va_D A ws_7 := by rw [e_ws_7]; exact hD
  have E_8 : gE ws_3 ws_7 := gE_set e_ws_7 hk_1 rfl
  have hG : Good g ws_7 := Good_set e_ws_7 hk_1 hG (ivX7 hi_6)
  have Fr_9 : gF [(6, 7)] ws_3 ws_7 := gF_put (fi := 7) (v := .int 0) e_ws_7 hk_1 rfl
  have hkN := gset_self e_ws_7 hk_1
  have hk_1 := hkN
  have o_h0 := E_8 _ _ o_h0
  have a_r0_1 := E_8 _ _ a_r0_1
  have a_r4_1 := E_8 _ _ a_r4_1
  have a_r9_1 := E_8 _ _ a_r9_1
  have a_r10_1 := E_8 _ _ a_r10_1
  have a_r11_1 := E_8 _ _ a_r11_1
  refine lv_aload_n hx hb dX7_fieldsFit_10 rfl (lv_at hl 0 rfl) ?_
  refine lv_aload_n hx hb dX7_fieldsFit_11 rfl (lv_at hl 0 rfl) ?_
  refine lv_iconst (v := 0) hx hb dX7_fieldsFit_12 (by decide) ?_
  have hFc := gfree hD hS hA
  refine va_calli (va_runV (As := [.int 0]) (rest := [.ref h0]) ⟨hx, hb, hml, hown, hts⟩ (m_X7_membersFit l g H.size ws_7 h0 (0) hG o_h0 (by have e0 : (0 : Int32).toInt = 0 := (by decide); omega)) (cwV 1 hts (gd_V kw_1319 kw_1397 kw_1398 kw_710 kw_1396) rfl rfl rfl (by decide +kernel) ⟨Nat.le_of_ble_eq_true rfl, Nat.le_of_ble_eq_true rfl⟩) ⟨gblind, va_recv hK hP (ci := 6) (q0 := k_1) rfl hk_1, fun U hU hW9 => gmk hU hW9 hP hK hD hex hE hS hFc⟩ rfl rfl hl.1 rfl (lv_room (Nat.le_of_ble_eq_true rfl)) dX7_fieldsFit_13 ⟨Nat.le_of_ble_eq_true rfl, Nat.le_of_ble_eq_true rfl⟩) hS (fun q _ h => hFc q h) hFc (fun r_10 ws_11 t9 H1 locs ht9 hvm9 hw9 hB9 hz9 hk9 hS => ?_)
  obtain ⟨E_12, Fr_13, hG, hP1, hD1⟩ := hB9
  have hP : va_P (gD g) cl0 ws_11 H1 := by rw [← ht9]; exact hP1
  have hD : va_D A ws_11 := hD1.weaken (fun _ _ _ h => hFc _ h)
  have h_r_10 := hw9
  clear hP1 hD1 hz9 hk9 hvm9 ht9 hw9
  generalize H1 = H at hP hS ⊢
  have aa_14 := a_r0_1
  have aa_15 := a_r4_1
  have aa_16 := a_r9_1
  have aa_17 := a_r10_1
  have aa_18 := a_r11_1
  have o_h0 := E_12 _ _ o_h0
  obtain ⟨fs9, hk_19, hq_19⟩ := (Fr_13) _ _ _ _ hk_1
  obtain ⟨r0_19, n0_19, c1_19, c2_19, c3_19, r4_19, n4_19, c5_19, c6_19, c7_19, c8_19, r9_19, n9_19, r10_19, n10_19, r11_19, n11_19, c12_19, c13_19, c14_19, c15_19, c16_19, rfl, a_r0_19, f1_19, a_r4_19, f3_19, a_r9_19, f5_19, a_r10_19, f7_19, a_r11_19, f9_19, f10_19, f11_19, f12_19, f13_19, f14_19, -⟩ := (hG.1 _ _ _ _ hk_19).hX7 rfl
  obtain rfl := fe_i (hq_19 7 (by decide))
  refine va_put (D := gD g) (ci := 6) (v := .int r_10) (ty := .int) (C := RX7) (T := TX7) (N := 17) hx hb hts inX7 tyX7 tyX7_ok nmX7 hown hK hP hD hS k_1 hk_19 rfl 7 (by decide) (hts _ kw_1287) (fun _ h9 => h9) rfl (by decide +kernel) rfl rfl (Nat.le_of_ble_eq_true rfl) dX7_fieldsFit_16 (fun H locs hP hD hS => ?_)
  have hi_20 : invX7 g ws_11 h0 [.ref r0_19, .int c1_19, .int c2_19, .int c3_19, .ref r4_19, .int c5_19, .int c6_19, .int r_10, .int c8_19, .ref r9_19, .ref r10_19, .ref r11_19, .int c12_19, .int c13_19, .int c14_19, .int c15_19, .int c16_19] := ⟨r0_19, (n0_19), (c1_19), (c2_19), (c3_19), r4_19, (n4_19), (c5_19), (c6_19), (r_10), (c8_19), r9_19, (n9_19), r10_19, (n10_19), r11_19, (n11_19), (c12_19), (c13_19), (c14_19), (c15_19), (c16_19), rfl, a_r0_19, f1_19, a_r4_19, f3_19, a_r9_19, f5_19, a_r10_19, f7_19, a_r11_19, f9_19, f10_19, f11_19, f12_19, f13_19, f14_19, trivial⟩
  obtain ⟨ws_21, e_ws_21⟩ : ∃ z, z = ws_11.set k_1 (h0, .inr (6, [.ref r0_19, .int c1_19, .int c2_19, .int c3_19, .ref r4_19, .int c5_19, .int c6_19, .int r_10, .int c8_19, .ref r9_19, .ref r10_19, .ref r11_19, .int c12_19, .int c13_19, .int c14_19, .int c15_19, .int c16_19])) := ⟨_, rfl⟩
  have hP : va_P (gD g) cl0 ws_21 H := by rw [e_ws_21]; exact hP
  have hD : va_D A ws_21 := by rw [e_ws_21]; exact hD
  have E_22 : gE ws_11 ws_21 := gE_set e_ws_21 hk_19 rfl
  have hG : Good g ws_21 := Good_set e_ws_21 hk_19 hG (ivX7 hi_20)
  have Fr_23 : gF [(6, 7)] ws_11 ws_21 := gF_put (fi := 7) (v := .int r_10) e_ws_21 hk_19 rfl
  have hkN := gset_self e_ws_21 hk_19
  have hk_19 := hkN
  have o_h0 := E_22 _ _ o_h0
  have a_r0_19 := E_22 _ _ a_r0_19
  have a_r4_19 := E_22 _ _ a_r4_19
  have a_r9_19 := E_22 _ _ a_r9_19
  have a_r10_19 := E_22 _ _ a_r10_19
  have a_r11_19 := E_22 _ _ a_r11_19
  refine lv_aload_n hx hb dX7_fieldsFit_19 rfl (lv_at hl 0 rfl) ?_
  refine va_get (D := gD g) (ci := 6) (v := .int r_10) (C := RX7) (T := TX7) (N := 17) hx hb hts inX7 hown hK hP k_1 hk_19 rfl 7 (by decide) (hts _ kw_1287) (fun _ h9 => h9) rfl dX7_fieldsFit_20 ?_
  have J_31 : ∀ (t_24 : Int32) (H : Heap) (locs : List Loc) (ls : Array Slot), t_24 = 0 ∨ t_24 = 1 → va_P (gD g) cl0 ws_21 H → va_D A ws_21 → va_S A s.heap H locs → lv_has ls 1 [] → W p l e (headSpec (wt yX7_fieldsFit cX7_fieldsFit 1 (some .boolean)) ({ frames := 4, cells := 0, slots := 0, locals := 90 })).room s m ([.ref h0] : List Value).toArray below meth c H locs 0 0 (MQ below (va_Qi (fun (r : Int32) (u9 : va_W) => r = 0 ∨ r = 1) (gQ1 g [(6, 2), (6, 3), (6, 7), (6, 8), (6, 15)] A ws) A) ([.ref h0] : List Value).toArray s 0 0 A) (F0 m 31 ls [.int t_24]) := by
    intro t_24 H locs ls iv_25 hP hD hS hl
    have hz_t_24 := iv_25
    refine W.widen (k := 0) (n := 0) (Nat.le_of_ble_eq_true rfl) (Nat.le_of_ble_eq_true rfl) ?_
    exact W.zret (v := t_24) hx hb hr (nz hz_t_24) (fun t9 ht9 hW9 => ⟨⟨_, ws_21, rfl, hz_t_24, ⟨(E_4.tr (E_8.tr (E_12.tr E_22))), (gF.tr (gF.mo (F' := [(6, 2), (6, 3), (6, 7), (6, 8), (6, 15)]) Fr_5 (by decide)) (gF.tr (gF.mo (F' := [(6, 2), (6, 3), (6, 7), (6, 8), (6, 15)]) Fr_9 (by decide)) (gF.tr (gF.mo (F' := [(6, 2), (6, 3), (6, 7), (6, 8), (6, 15)]) Fr_13 (by decide)) (gF.mo (F' := [(6, 2), (6, 3), (6, 7), (6, 8), (6, 15)]) Fr_23 (by decide))))), hG, by rw [ht9]; exact hP, hD⟩⟩, hS.F ht9⟩) hS.2.2 dX7_fieldsFit_31
  refine lv_if_lt (tgt := 30) hx hb dX7_fieldsFit_23 (by decide) (fun c_28 => ?_) (fun c_28 => ?_)
  · refine lv_iconst (v := 0) hx hb dX7_fieldsFit_30 (by decide) ?_
    exact J_31 (0) H locs ls (Or.inl rfl) hP hD hS (lv_sub hl [] rfl)
  · refine lv_iconst (v := 1) hx hb dX7_fieldsFit_26 (by decide) ?_
    refine lv_goto (tgt := 31) hx hb dX7_fieldsFit_27 (by decide) ?_
    exact J_31 (1) H locs ls (Or.inr rfl) hP hD hS (lv_sub hl [] rfl)
set_option maxHeartbeats 1000000 in
set_option maxRecDepth 100000 in
theorem m_X7_methodsFit (l : Launch) (g : Gm) (sz : Nat) (ws : va_W) (h0 : Nat) (hG : Good g ws) (o_h0 : gC ws h0 6) (fp_c : gP ws h0 (fun fs => ∀ c : Int32, fs[7]? = some (.int c) → 0 ≤ c.toInt)) : Met l yX7_methodsFit (wt yX7_methodsFit cX7_methodsFit 1 (some .boolean)) ({ frames := 4, cells := 0, slots := 0, locals := 90 }) (va_Pc [.ref h0] (st_G g sz ws)) (va_Qi (fun (r : Int32) (u9 : va_W) => r = 0 ∨ r = 1) (gQ1 g [(6, 2), (6, 3), (6, 8), (6, 15)] (va_A ws sz) ws) (va_A ws sz)) 0 0 (va_A ws sz) := by
  refine Met.ofW (cc := cX7_methodsFit) (maxL := 1) (ret := (some .boolean)) (by decide) rfl ?_
  intro p e s m args below meth c s₁ B hml hv
  obtain ⟨rfl, hsz, hP, hK, hD0, hex, hE⟩ := hv
  have hx := B.exec
  have hb := B.bytes
  have hr := B.returns
  have hts0 := atoms_spec (ws := wt yX7_methodsFit cX7_methodsFit 1 (some .boolean)) B.pre
  have hts : ∀ w ∈ tb, w.before _ s = true := fun w h => hts0 w (List.mem_cons_of_mem _ h)
  have hown : s.vm.findClass RX7 = some m.cls := findClass_of_methodNamed B.named
  subst hsz
  have hD := hD0.self (sz := s.heap.size)
  generalize hAe : va_A ws s.heap.size = A at hD hE ⊢
  have hA : ∀ q : Nat, s.heap.size ≤ q → A q := fun q h => by rw [← hAe]; exact Or.inr h
  have hS : va_S A s.heap s.heap [] := va_S.rf
  have hl := lv_entry ([.ref h0]) (n := 1) (Nat.le_of_ble_eq_true rfl)
  rw [lg_entry_eq]
  generalize (lg_sl ([.ref h0]) ++ List.replicate (1 - (lg_sl ([.ref h0])).length) Slot.unset).toArray = ls at hl ⊢
  have hl : lv_has ls 1 [(0, .ref h0)] := hl
  obtain ⟨k_1, fs9, hk_1⟩ := gC_of o_h0
  obtain ⟨r0_1, n0_1, c1_1, c2_1, c3_1, r4_1, n4_1, c5_1, c6_1, c7_1, c8_1, r9_1, n9_1, r10_1, n10_1, r11_1, n11_1, c12_1, c13_1, c14_1, c15_1, c16_1, rfl, a_r0_1, f1_1, a_r4_1, f3_1, a_r9_1, f5_1, a_r10_1, f7_1, a_r11_1, f9_1, f10_1, f11_1, f12_1, f13_1, f14_1, -⟩ := (hG.1 _ _ _ _ hk_1).hX7 rfl
  have fq_c := fp_c _ _ _ hk_1 _ rfl
  refine lv_aload_n hx hb dX7_methodsFit_0 rfl (lv_at hl 0 rfl) ?_
  refine lv_aload_n hx hb dX7_methodsFit_1 rfl (lv_at hl 0 rfl) ?_
  refine lv_aload_n hx hb dX7_methodsFit_2 rfl (lv_at hl 0 rfl) ?_
  refine va_get (D := gD g) (ci := 6) (v := .int c7_1) (C := RX7) (T := TX7) (N := 17) hx hb hts inX7 hown hK hP k_1 hk_1 rfl 7 (by decide) (hts _ kw_1287) (fun _ h9 => h9) rfl dX7_methodsFit_3 ?_
  have hFc := gfree hD hS hA
  refine va_calli (va_runV (As := [.int c7_1]) (rest := [.ref h0]) ⟨hx, hb, hml, hown, hts⟩ (m_X7_membersFit l g s.heap.size ws h0 (c7_1) hG o_h0 (by have q_fq_c := fq_c; have g_c7_1 := i_rg c7_1; omega)) (cwV 1 hts (gd_V kw_1319 kw_1397 kw_1398 kw_710 kw_1396) rfl rfl rfl (by decide +kernel) ⟨Nat.le_of_ble_eq_true rfl, Nat.le_of_ble_eq_true rfl⟩) ⟨gblind, va_recv hK hP (ci := 6) (q0 := k_1) rfl hk_1, fun U hU hW9 => gmk hU hW9 hP hK hD hex hE hS hFc⟩ rfl rfl hl.1 rfl (lv_room (Nat.le_of_ble_eq_true rfl)) dX7_methodsFit_6 ⟨Nat.le_of_ble_eq_true rfl, Nat.le_of_ble_eq_true rfl⟩) hS (fun q _ h => hFc q h) hFc (fun r_2 ws_3 t9 H1 locs ht9 hvm9 hw9 hB9 hz9 hk9 hS => ?_)
  obtain ⟨E_4, Fr_5, hG, hP1, hD1⟩ := hB9
  have hP : va_P (gD g) cl0 ws_3 H1 := by rw [← ht9]; exact hP1
  have hD : va_D A ws_3 := hD1.weaken (fun _ _ _ h => hFc _ h)
  have h_r_2 := hw9
  clear hP1 hD1 hz9 hk9 hvm9 ht9 hw9
  generalize H1 = H at hP hS ⊢
  have aa_6 := a_r0_1
  have aa_7 := a_r4_1
  have aa_8 := a_r9_1
  have aa_9 := a_r10_1
  have aa_10 := a_r11_1
  have o_h0 := E_4 _ _ o_h0
  obtain ⟨fs9, hk_11, hq_11⟩ := (Fr_5) _ _ _ _ hk_1
  obtain ⟨r0_11, n0_11, c1_11, c2_11, c3_11, r4_11, n4_11, c5_11, c6_11, c7_11, c8_11, r9_11, n9_11, r10_11, n10_11, r11_11, n11_11, c12_11, c13_11, c14_11, c15_11, c16_11, rfl, a_r0_11, f1_11, a_r4_11, f3_11, a_r9_11, f5_11, a_r10_11, f7_11, a_r11_11, f9_11, f10_11, f11_11, f12_11, f13_11, f14_11, -⟩ := (hG.1 _ _ _ _ hk_11).hX7 rfl
  obtain rfl := fe_i (hq_11 7 (by decide))
  obtain rfl := fe_i (hq_11 8 (by decide))
  refine va_put (D := gD g) (ci := 6) (v := .int r_2) (ty := .int) (C := RX7) (T := TX7) (N := 17) hx hb hts inX7 tyX7 tyX7_ok nmX7 hown hK hP hD hS k_1 hk_11 rfl 8 (by decide) (hts _ kw_1285) (fun _ h9 => h9) rfl (by decide +kernel) rfl rfl (Nat.le_of_ble_eq_true rfl) dX7_methodsFit_9 (fun H locs hP hD hS => ?_)
  have hi_12 : invX7 g ws_3 h0 [.ref r0_11, .int c1_11, .int c2_11, .int c3_11, .ref r4_11, .int c5_11, .int c6_11, .int c7_1, .int r_2, .ref r9_11, .ref r10_11, .ref r11_11, .int c12_11, .int c13_11, .int c14_11, .int c15_11, .int c16_11] := ⟨r0_11, (n0_11), (c1_11), (c2_11), (c3_11), r4_11, (n4_11), (c5_11), (c6_11), (c7_1), (r_2), r9_11, (n9_11), r10_11, (n10_11), r11_11, (n11_11), (c12_11), (c13_11), (c14_11), (c15_11), (c16_11), rfl, a_r0_11, f1_11, a_r4_11, f3_11, a_r9_11, f5_11, a_r10_11, f7_11, a_r11_11, f9_11, f10_11, f11_11, f12_11, f13_11, f14_11, trivial⟩
  obtain ⟨ws_13, e_ws_13⟩ : ∃ z, z = ws_3.set k_1 (h0, .inr (6, [.ref r0_11, .int c1_11, .int c2_11, .int c3_11, .ref r4_11, .int c5_11, .int c6_11, .int c7_1, .int r_2, .ref r9_11, .ref r10_11, .ref r11_11, .int c12_11, .int c13_11, .int c14_11, .int c15_11, .int c16_11])) := ⟨_, rfl⟩
  have hP : va_P (gD g) cl0 ws_13 H := by rw [e_ws_13]; exact hP
  have hD : va_D A ws_13 := by rw [e_ws_13]; exact hD
  have E_14 : gE ws_3 ws_13 := gE_set e_ws_13 hk_11 rfl
  have hG : Good g ws_13 := Good_set e_ws_13 hk_11 hG (ivX7 hi_12)
  have Fr_15 : gF [(6, 8)] ws_3 ws_13 := gF_put (fi := 8) (v := .int r_2) e_ws_13 hk_11 rfl
  have hkN := gset_self e_ws_13 hk_11
  have hk_11 := hkN
  have o_h0 := E_14 _ _ o_h0
  have a_r0_11 := E_14 _ _ a_r0_11
  have a_r4_11 := E_14 _ _ a_r4_11
  have a_r9_11 := E_14 _ _ a_r9_11
  have a_r10_11 := E_14 _ _ a_r10_11
  have a_r11_11 := E_14 _ _ a_r11_11
  refine lv_aload_n hx hb dX7_methodsFit_12 rfl (lv_at hl 0 rfl) ?_
  refine va_get (D := gD g) (ci := 6) (v := .int r_2) (C := RX7) (T := TX7) (N := 17) hx hb hts inX7 hown hK hP k_1 hk_11 rfl 8 (by decide) (hts _ kw_1285) (fun _ h9 => h9) rfl dX7_methodsFit_13 ?_
  have J_24 : ∀ (t_16 : Int32) (H : Heap) (locs : List Loc) (ls : Array Slot), t_16 = 0 ∨ t_16 = 1 → va_P (gD g) cl0 ws_13 H → va_D A ws_13 → va_S A s.heap H locs → lv_has ls 1 [] → W p l e (headSpec (wt yX7_methodsFit cX7_methodsFit 1 (some .boolean)) ({ frames := 4, cells := 0, slots := 0, locals := 90 })).room s m ([.ref h0] : List Value).toArray below meth c H locs 0 0 (MQ below (va_Qi (fun (r : Int32) (u9 : va_W) => r = 0 ∨ r = 1) (gQ1 g [(6, 2), (6, 3), (6, 8), (6, 15)] A ws) A) ([.ref h0] : List Value).toArray s 0 0 A) (F0 m 24 ls [.int t_16]) := by
    intro t_16 H locs ls iv_17 hP hD hS hl
    have hz_t_16 := iv_17
    refine W.widen (k := 0) (n := 0) (Nat.le_of_ble_eq_true rfl) (Nat.le_of_ble_eq_true rfl) ?_
    exact W.zret (v := t_16) hx hb hr (nz hz_t_16) (fun t9 ht9 hW9 => ⟨⟨_, ws_13, rfl, hz_t_16, ⟨(E_4.tr E_14), (gF.tr (gF.mo (F' := [(6, 2), (6, 3), (6, 8), (6, 15)]) Fr_5 (by decide)) (gF.mo (F' := [(6, 2), (6, 3), (6, 8), (6, 15)]) Fr_15 (by decide))), hG, by rw [ht9]; exact hP, hD⟩⟩, hS.F ht9⟩) hS.2.2 dX7_methodsFit_24
  refine lv_if_lt (tgt := 23) hx hb dX7_methodsFit_16 (by decide) (fun c_20 => ?_) (fun c_20 => ?_)
  · refine lv_iconst (v := 0) hx hb dX7_methodsFit_23 (by decide) ?_
    exact J_24 (0) H locs ls (Or.inl rfl) hP hD hS (lv_sub hl [] rfl)
  · refine lv_iconst (v := 1) hx hb dX7_methodsFit_19 (by decide) ?_
    refine lv_goto (tgt := 24) hx hb dX7_methodsFit_20 (by decide) ?_
    exact J_24 (1) H locs ls (Or.inr rfl) hP hD hS (lv_sub hl [] rfl)
set_option maxHeartbeats 1000000 in
set_option maxRecDepth 100000 in
theorem m_X7_typesHold (l : Launch) (g : Gm) (sz : Nat) (ws : va_W) (h0 : Nat) (hG : Good g ws) (o_h0 : gC ws h0 6) : Met l yX7_typesHold (wt yX7_typesHold cX7_typesHold 3 (some .boolean)) ({ frames := 4, cells := 0, slots := 0, locals := 89 }) (va_Pc [.ref h0] (st_G g sz ws)) (va_Qi (fun (r : Int32) (u9 : va_W) => r = 0 ∨ r = 1) (gQ1 g [(6, 2), (6, 3), (6, 12), (6, 13), (6, 14)] (va_A ws sz) ws) (va_A ws sz)) 0 0 (va_A ws sz) := by
  refine Met.ofW (cc := cX7_typesHold) (maxL := 3) (ret := (some .boolean)) (by decide) rfl ?_
  intro p e s m args below meth c s₁ B hml hv
  obtain ⟨rfl, hsz, hP, hK, hD0, hex, hE⟩ := hv
  have hx := B.exec
  have hb := B.bytes
  have hr := B.returns
  have hts0 := atoms_spec (ws := wt yX7_typesHold cX7_typesHold 3 (some .boolean)) B.pre
  have hts : ∀ w ∈ tb, w.before _ s = true := fun w h => hts0 w (List.mem_cons_of_mem _ h)
  have hown : s.vm.findClass RX7 = some m.cls := findClass_of_methodNamed B.named
  subst hsz
  have hD := hD0.self (sz := s.heap.size)
  generalize hAe : va_A ws s.heap.size = A at hD hE ⊢
  have hA : ∀ q : Nat, s.heap.size ≤ q → A q := fun q h => by rw [← hAe]; exact Or.inr h
  have hS : va_S A s.heap s.heap [] := va_S.rf
  have hl := lv_entry ([.ref h0]) (n := 3) (Nat.le_of_ble_eq_true rfl)
  rw [lg_entry_eq]
  generalize (lg_sl ([.ref h0]) ++ List.replicate (3 - (lg_sl ([.ref h0])).length) Slot.unset).toArray = ls at hl ⊢
  have hl : lv_has ls 3 [(0, .ref h0)] := hl
  refine lv_iconst (v := 1) hx hb dX7_typesHold_0 (by decide) ?_
  refine lv_istore_n (lv' := [(1, .int 1), (0, .ref h0)]) hx hb dX7_typesHold_1 rfl hl (by decide) rfl (fun ls hl => ?_)
  have J_2 : ∀ (n9 : Nat) (v1_1 : Int32) (ws_3 : va_W) (H : Heap) (locs : List Loc) (ls : Array Slot), (2147483647 - v1_1.toInt).toNat = n9 → 0 ≤ v1_1.toInt → gE ws ws_3 → gF [(6, 12), (6, 13), (6, 14)] ws ws_3 → Good g ws_3 → va_P (gD g) cl0 ws_3 H → va_D A ws_3 → va_S A s.heap H locs → lv_has ls 3 [(0, .ref h0), (1, .int v1_1)] → W p l e (headSpec (wt yX7_typesHold cX7_typesHold 3 (some .boolean)) ({ frames := 4, cells := 0, slots := 0, locals := 89 })).room s m ([.ref h0] : List Value).toArray below meth c H locs 0 0 (MQ below (va_Qi (fun (r : Int32) (u9 : va_W) => r = 0 ∨ r = 1) (gQ1 g [(6, 2), (6, 3), (6, 12), (6, 13), (6, 14)] A ws) A) ([.ref h0] : List Value).toArray s 0 0 A) (F0 m 2 ls []) := by
    intro n9
    induction n9 using Nat.strongRecOn with
    | ind n9 ih_2 =>
      intro v1_1 ws_3 H locs ls hm9 iv_2 E_4 Fr_5 hG hP hD hS hl
      subst hm9
      have o_h0 := E_4 _ _ o_h0
      refine lv_iload_n hx hb dX7_typesHold_2 rfl (lv_at hl 1 rfl) ?_
      refine lv_aload_n hx hb dX7_typesHold_3 rfl (lv_at hl 0 rfl) ?_
      obtain ⟨k_6, fs9, hk_6⟩ := gC_of o_h0
      obtain ⟨r0_6, n0_6, c1_6, c2_6, c3_6, r4_6, n4_6, c5_6, c6_6, c7_6, c8_6, r9_6, n9_6, r10_6, n10_6, r11_6, n11_6, c12_6, c13_6, c14_6, c15_6, c16_6, rfl, a_r0_6, f1_6, a_r4_6, f3_6, a_r9_6, f5_6, a_r10_6, f7_6, a_r11_6, f9_6, f10_6, f11_6, f12_6, f13_6, f14_6, -⟩ := (hG.1 _ _ _ _ hk_6).hX7 rfl
      refine va_get (D := gD g) (ci := 6) (v := .int c5_6) (C := RX7) (T := TX7) (N := 17) hx hb hts inX7 hown hK hP k_6 hk_6 rfl 5 (by decide) (hts _ kw_1294) (fun _ h9 => h9) rfl dX7_typesHold_4 ?_
      refine lv_icmp_ge (tgt := 78) hx hb dX7_typesHold_7 (by decide) (fun c_7 => ?_) (fun c_7 => ?_)
      · refine lv_iconst (v := 0) hx hb dX7_typesHold_78 (by decide) ?_
        refine lv_istore_n (lv' := [(1, .int 0), (0, .ref h0)]) hx hb dX7_typesHold_79 rfl hl (by decide) rfl (fun ls hl => ?_)
        have J_80 : ∀ (n9 : Nat) (v1_8 : Int32) (ws_10 : va_W) (H : Heap) (locs : List Loc) (ls : Array Slot), (2147483647 - v1_8.toInt).toNat = n9 → 0 ≤ v1_8.toInt → gE ws_3 ws_10 → gF [(6, 12), (6, 13), (6, 14)] ws_3 ws_10 → Good g ws_10 → va_P (gD g) cl0 ws_10 H → va_D A ws_10 → va_S A s.heap H locs → lv_has ls 3 [(0, .ref h0), (1, .int v1_8)] → W p l e (headSpec (wt yX7_typesHold cX7_typesHold 3 (some .boolean)) ({ frames := 4, cells := 0, slots := 0, locals := 89 })).room s m ([.ref h0] : List Value).toArray below meth c H locs 0 0 (MQ below (va_Qi (fun (r : Int32) (u9 : va_W) => r = 0 ∨ r = 1) (gQ1 g [(6, 2), (6, 3), (6, 12), (6, 13), (6, 14)] A ws) A) ([.ref h0] : List Value).toArray s 0 0 A) (F0 m 80 ls []) := by
          intro n9
          induction n9 using Nat.strongRecOn with
          | ind n9 ih_80 =>
            intro v1_8 ws_10 H locs ls hm9 iv_9 E_11 Fr_12 hG hP hD hS hl
            subst hm9
            have aa_13 := a_r0_6
            have aa_14 := a_r4_6
            have aa_15 := a_r9_6
            have aa_16 := a_r10_6
            have aa_17 := a_r11_6
            have o_h0 := E_11 _ _ o_h0
            refine lv_iload_n hx hb dX7_typesHold_80 rfl (lv_at hl 1 rfl) ?_
            refine lv_aload_n hx hb dX7_typesHold_81 rfl (lv_at hl 0 rfl) ?_
            obtain ⟨fs9, hk_18, hq_18⟩ := (Fr_12) _ _ _ _ hk_6
            obtain ⟨r0_18, n0_18, c1_18, c2_18, c3_18, r4_18, n4_18, c5_18, c6_18, c7_18, c8_18, r9_18, n9_18, r10_18, n10_18, r11_18, n11_18, c12_18, c13_18, c14_18, c15_18, c16_18, rfl, a_r0_18, f1_18, a_r4_18, f3_18, a_r9_18, f5_18, a_r10_18, f7_18, a_r11_18, f9_18, f10_18, f11_18, f12_18, f13_18, f14_18, -⟩ := (hG.1 _ _ _ _ hk_18).hX7 rfl
            obtain rfl := fe_i (hq_18 5 (by decide))
            obtain rfl := fe_i (hq_18 7 (by decide))
            obtain rfl := fe_i (hq_18 8 (by decide))
            refine va_get (D := gD g) (ci := 6) (v := .int c7_6) (C := RX7) (T := TX7) (N := 17) hx hb hts inX7 hown hK hP k_6 hk_18 rfl 7 (by decide) (hts _ kw_1287) (fun _ h9 => h9) rfl dX7_typesHold_82 ?_
            refine lv_aload_n hx hb dX7_typesHold_85 rfl (lv_at hl 0 rfl) ?_
            refine va_get (D := gD g) (ci := 6) (v := .int c8_6) (C := RX7) (T := TX7) (N := 17) hx hb hts inX7 hown hK hP k_6 hk_18 rfl 8 (by decide) (hts _ kw_1285) (fun _ h9 => h9) rfl dX7_typesHold_86 ?_
            refine lv_iadd hx hb dX7_typesHold_89 ?_
            refine lv_topi (fun z_19 ez_19 => ?_)
            refine lv_icmp_ge (tgt := 172) hx hb dX7_typesHold_90 (by decide) (fun c_20 => ?_) (fun c_20 => ?_)
            · refine lv_iconst (v := 1) hx hb dX7_typesHold_172 (by decide) ?_
              refine W.widen (k := 0) (n := 0) (Nat.le_of_ble_eq_true rfl) (Nat.le_of_ble_eq_true rfl) ?_
              exact W.zret (v := 1) hx hb hr (nz (Or.inr rfl)) (fun t9 ht9 hW9 => ⟨⟨_, ws_10, rfl, (Or.inr rfl), ⟨(E_4.tr E_11), (gF.tr (gF.mo (F' := [(6, 2), (6, 3), (6, 12), (6, 13), (6, 14)]) Fr_5 (by decide)) (gF.mo (F' := [(6, 2), (6, 3), (6, 12), (6, 13), (6, 14)]) Fr_12 (by decide))), hG, by rw [ht9]; exact hP, hD⟩⟩, hS.F ht9⟩) hS.2.2 dX7_typesHold_173
            · refine lv_iload_n hx hb dX7_typesHold_93 rfl (lv_at hl 1 rfl) ?_
              refine lv_aload_n hx hb dX7_typesHold_94 rfl (lv_at hl 0 rfl) ?_
              refine va_get (D := gD g) (ci := 6) (v := .int c7_6) (C := RX7) (T := TX7) (N := 17) hx hb hts inX7 hown hK hP k_6 hk_18 rfl 7 (by decide) (hts _ kw_1287) (fun _ h9 => h9) rfl dX7_typesHold_95 ?_
              have J_147 : ∀ (t_21 : Int32) (ws_23 : va_W) (H : Heap) (locs : List Loc) (ls : Array Slot), t_21 = 0 ∨ t_21 = 1 → gE ws_10 ws_23 → gF [(6, 12), (6, 13), (6, 14)] ws_10 ws_23 → Good g ws_23 → va_P (gD g) cl0 ws_23 H → va_D A ws_23 → va_S A s.heap H locs → lv_has ls 3 [(0, .ref h0), (1, .int v1_8)] → W p l e (headSpec (wt yX7_typesHold cX7_typesHold 3 (some .boolean)) ({ frames := 4, cells := 0, slots := 0, locals := 89 })).room s m ([.ref h0] : List Value).toArray below meth c H locs 0 0 (MQ below (va_Qi (fun (r : Int32) (u9 : va_W) => r = 0 ∨ r = 1) (gQ1 g [(6, 2), (6, 3), (6, 12), (6, 13), (6, 14)] A ws) A) ([.ref h0] : List Value).toArray s 0 0 A) (F0 m 147 ls [.int t_21]) := by
                intro t_21 ws_23 H locs ls iv_22 E_24 Fr_25 hG hP hD hS hl
                have hz_t_21 := iv_22
                have aa_26 := a_r0_18
                have aa_27 := a_r4_18
                have aa_28 := a_r9_18
                have aa_29 := a_r10_18
                have aa_30 := a_r11_18
                have o_h0 := E_24 _ _ o_h0
                refine lv_istore_n (lv' := [(2, .int t_21), (0, .ref h0), (1, .int v1_8)]) hx hb dX7_typesHold_147 rfl hl (by decide) rfl (fun ls hl => ?_)
                refine lv_iload_n hx hb dX7_typesHold_148 rfl (lv_at hl 0 rfl) ?_
                refine lv_if_ne (tgt := 166) hx hb dX7_typesHold_149 (by decide) (fun c_31 => ?_) (fun c_31 => ?_)
                · obtain ⟨z_32, ez_32⟩ : ∃ z : Int32, v1_8 + Int32.ofInt 1 = z := ⟨_, rfl⟩
                  refine lv_iinc (v := z_32) (lv' := [(1, .int z_32), (2, .int t_21), (0, .ref h0)]) hx hb dX7_typesHold_166 hl (k := 2) rfl ez_32 (by decide) rfl (fun ls hl => ?_)
                  refine lv_goto (tgt := 80) hx hb dX7_typesHold_169 (by decide) ?_
                  exact ih_80 _ (by obtain ⟨u_z_32, q_z_32⟩ := i_iz ez_32 (by decide) (by decide); have q_iv_9 := iv_9; have q_c_20 := i_nle c_20; have g_v1_8 := i_rg v1_8; have g_z_19 := i_rg z_19; have g_z_32 := i_rg z_32; omega) (z_32) ws_23 H locs ls rfl (by obtain ⟨u_z_32, q_z_32⟩ := i_iz ez_32 (by decide) (by decide); have q_iv_9 := iv_9; have q_c_20 := i_nle c_20; have g_v1_8 := i_rg v1_8; have g_z_19 := i_rg z_19; have g_z_32 := i_rg z_32; omega) ((E_11.tr E_24)) ((gF.tr Fr_12 Fr_25)) hG hP hD hS (lv_sub hl [2, 0] rfl)
                · refine lv_aload_n hx hb dX7_typesHold_152 rfl (lv_at hl 1 rfl) ?_
                  refine lv_bipush (v := 10) hx hb dX7_typesHold_153 (by decide) ?_
                  refine lv_aload_n hx hb dX7_typesHold_155 rfl (lv_at hl 1 rfl) ?_
                  refine lv_iload_n hx hb dX7_typesHold_156 rfl (lv_at hl 2 rfl) ?_
                  have hFc := gfree hD hS hA
                  obtain ⟨k_33, fs_33, hk_33⟩ := gC_of o_h0
                  refine va_calli (va_runV (As := [.int v1_8]) (rest := [.int 10, .ref h0]) ⟨hx, hb, hml, hown, hts⟩ (m_X7_memberPlace l g H.size ws_23 h0 (v1_8) hG o_h0) (cwV 1 hts (gd_V kw_1288 kw_1394 kw_1395 kw_710 kw_1393) rfl rfl rfl (by decide +kernel) ⟨Nat.le_of_ble_eq_true rfl, Nat.le_of_ble_eq_true rfl⟩) ⟨gblind, va_recv hK hP (ci := 6) (q0 := k_33) rfl hk_33, fun U hU hW9 => gmk hU hW9 hP hK hD hex hE hS hFc⟩ rfl rfl hl.1 rfl (lv_room (Nat.le_of_ble_eq_true rfl)) dX7_typesHold_157 ⟨Nat.le_of_ble_eq_true rfl, Nat.le_of_ble_eq_true rfl⟩) hS (fun q _ h => hFc q h) hFc (fun r_34 u9 t9 H1 locs ht9 hvm9 hw9 hB9 hz9 hk9 hS => ?_)
                  have hP : va_P (gD g) cl0 ws_23 H1 := by rw [← ht9]; exact hB9.1
                  clear hB9 hz9 hk9 hvm9 ht9 hw9
                  generalize H1 = H at hP hS ⊢
                  refine lv_iconst (v := 4) hx hb dX7_typesHold_160 (by decide) ?_
                  refine lv_iadd hx hb dX7_typesHold_161 ?_
                  refine lv_topi (fun z_35 ez_35 => ?_)
                  have hFc := gfree hD hS hA
                  obtain ⟨k_36, fs_36, hk_36⟩ := gC_of o_h0
                  refine va_calli (va_runV (As := [.int 10, .int z_35]) (rest := []) ⟨hx, hb, hml, hown, hts⟩ (m_X7_breaks l g H.size ws_23 h0 (10) (z_35) hG o_h0) (cwV 2 hts (gd_V kw_1276 kw_1278 kw_1279 kw_710 kw_1277) rfl rfl rfl (by decide +kernel) ⟨Nat.le_of_ble_eq_true rfl, Nat.le_of_ble_eq_true rfl⟩) ⟨gblind, va_recv hK hP (ci := 6) (q0 := k_36) rfl hk_36, fun U hU hW9 => gmk hU hW9 hP hK hD hex hE hS hFc⟩ rfl rfl hl.1 rfl (lv_room (Nat.le_of_ble_eq_true rfl)) dX7_typesHold_162 ⟨Nat.le_of_ble_eq_true rfl, Nat.le_of_ble_eq_true rfl⟩) hS (fun q _ h => hFc q h) hFc (fun r_37 ws_38 t9 H1 locs ht9 hvm9 hw9 hB9 hz9 hk9 hS => ?_)
                  obtain ⟨E_39, Fr_40, hG, hP1, hD1⟩ := hB9
                  have hP : va_P (gD g) cl0 ws_38 H1 := by rw [← ht9]; exact hP1
                  have hD : va_D A ws_38 := hD1.weaken (fun _ _ _ h => hFc _ h)
                  have hz_r_37 : r_37 = 0 ∨ r_37 = 1 := hw9
                  clear hP1 hD1 hz9 hk9 hvm9 ht9 hw9
                  generalize H1 = H at hP hS ⊢
                  have o_h0 := E_39 _ _ o_h0
                  refine W.widen (k := 0) (n := 0) (Nat.le_of_ble_eq_true rfl) (Nat.le_of_ble_eq_true rfl) ?_
                  exact W.zret (v := r_37) hx hb hr (nz hz_r_37) (fun t9 ht9 hW9 => ⟨⟨_, ws_38, rfl, hz_r_37, ⟨(E_4.tr (E_11.tr (E_24.tr E_39))), (gF.tr (gF.mo (F' := [(6, 2), (6, 3), (6, 12), (6, 13), (6, 14)]) Fr_5 (by decide)) (gF.tr (gF.mo (F' := [(6, 2), (6, 3), (6, 12), (6, 13), (6, 14)]) Fr_12 (by decide)) (gF.tr (gF.mo (F' := [(6, 2), (6, 3), (6, 12), (6, 13), (6, 14)]) Fr_25 (by decide)) (gF.mo (F' := [(6, 2), (6, 3), (6, 12), (6, 13), (6, 14)]) Fr_40 (by decide))))), hG, by rw [ht9]; exact hP, hD⟩⟩, hS.F ht9⟩) hS.2.2 dX7_typesHold_165
              refine lv_icmp_ge (tgt := 121) hx hb dX7_typesHold_98 (by decide) (fun c_41 => ?_) (fun c_41 => ?_)
              · refine lv_aload_n hx hb dX7_typesHold_121 rfl (lv_at hl 0 rfl) ?_
                refine lv_aload_n hx hb dX7_typesHold_122 rfl (lv_at hl 0 rfl) ?_
                refine lv_iload_n hx hb dX7_typesHold_123 rfl (lv_at hl 1 rfl) ?_
                have hFc := gfree hD hS hA
                refine va_calli (va_runV (As := [.int v1_8]) (rest := [.ref h0]) ⟨hx, hb, hml, hown, hts⟩ (m_X7_typeOf l g H.size ws_10 h0 (v1_8) hG o_h0) (cwV 1 hts (gd_V kw_1445 kw_1438 kw_1439 kw_710 kw_1437) rfl rfl rfl (by decide +kernel) ⟨Nat.le_of_ble_eq_true rfl, Nat.le_of_ble_eq_true rfl⟩) ⟨gblind, va_recv hK hP (ci := 6) (q0 := k_6) rfl hk_18, fun U hU hW9 => gmk hU hW9 hP hK hD hex hE hS hFc⟩ rfl rfl hl.1 rfl (lv_room (Nat.le_of_ble_eq_true rfl)) dX7_typesHold_124 ⟨Nat.le_of_ble_eq_true rfl, Nat.le_of_ble_eq_true rfl⟩) hS (fun q _ h => hFc q h) hFc (fun r_42 u9 t9 H1 locs ht9 hvm9 hw9 hB9 hz9 hk9 hS => ?_)
                have hP : va_P (gD g) cl0 ws_10 H1 := by rw [← ht9]; exact hB9.1
                clear hB9 hz9 hk9 hvm9 ht9 hw9
                generalize H1 = H at hP hS ⊢
                have hFc := gfree hD hS hA
                refine va_calli (va_runV (As := [.int r_42]) (rest := []) ⟨hx, hb, hml, hown, hts⟩ (m_X7_isMethodType l g H.size ws_10 h0 (r_42) hG o_h0) (cwV 1 hts (gd_V kw_1444 kw_1344 kw_1345 kw_710 kw_1343) rfl rfl rfl (by decide +kernel) ⟨Nat.le_of_ble_eq_true rfl, Nat.le_of_ble_eq_true rfl⟩) ⟨gblind, va_recv hK hP (ci := 6) (q0 := k_6) rfl hk_18, fun U hU hW9 => gmk hU hW9 hP hK hD hex hE hS hFc⟩ rfl rfl hl.1 rfl (lv_room (Nat.le_of_ble_eq_true rfl)) dX7_typesHold_127 ⟨Nat.le_of_ble_eq_true rfl, Nat.le_of_ble_eq_true rfl⟩) hS (fun q _ h => hFc q h) hFc (fun r_43 ws_44 t9 H1 locs ht9 hvm9 hw9 hB9 hz9 hk9 hS => ?_)
                obtain ⟨E_45, Fr_46, hG, hP1, hD1⟩ := hB9
                have hP : va_P (gD g) cl0 ws_44 H1 := by rw [← ht9]; exact hP1
                have hD : va_D A ws_44 := hD1.weaken (fun _ _ _ h => hFc _ h)
                have hz_r_43 : r_43 = 0 ∨ r_43 = 1 := hw9
                clear hP1 hD1 hz9 hk9 hvm9 ht9 hw9
                generalize H1 = H at hP hS ⊢
                have aa_47 := a_r0_18
                have aa_48 := a_r4_18
                have aa_49 := a_r9_18
                have aa_50 := a_r10_18
                have aa_51 := a_r11_18
                have o_h0 := E_45 _ _ o_h0
                have J_146 : ∀  (H : Heap) (locs : List Loc) (ls : Array Slot), va_P (gD g) cl0 ws_44 H → va_D A ws_44 → va_S A s.heap H locs → lv_has ls 3 [(0, .ref h0), (1, .int v1_8)] → W p l e (headSpec (wt yX7_typesHold cX7_typesHold 3 (some .boolean)) ({ frames := 4, cells := 0, slots := 0, locals := 89 })).room s m ([.ref h0] : List Value).toArray below meth c H locs 0 0 (MQ below (va_Qi (fun (r : Int32) (u9 : va_W) => r = 0 ∨ r = 1) (gQ1 g [(6, 2), (6, 3), (6, 12), (6, 13), (6, 14)] A ws) A) ([.ref h0] : List Value).toArray s 0 0 A) (F0 m 146 ls []) := by
                  intro  H locs ls  hP hD hS hl
                  refine lv_iconst (v := 0) hx hb dX7_typesHold_146 (by decide) ?_
                  exact J_147 (0) ws_44 H locs ls (Or.inl rfl) (E_45) (Fr_46) hG hP hD hS (lv_sub hl [0, 1] rfl)
                refine lv_if_eq (tgt := 146) hx hb dX7_typesHold_130 (by decide) (fun c_54 => ?_) (fun c_54 => ?_)
                · exact J_146  H locs ls  hP hD hS (lv_sub hl [0, 1] rfl)
                · refine lv_aload_n hx hb dX7_typesHold_133 rfl (lv_at hl 0 rfl) ?_
                  obtain ⟨fs9, hk_55, hq_55⟩ := (Fr_46) _ _ _ _ hk_18
                  obtain ⟨r0_55, n0_55, c1_55, c2_55, c3_55, r4_55, n4_55, c5_55, c6_55, c7_55, c8_55, r9_55, n9_55, r10_55, n10_55, r11_55, n11_55, c12_55, c13_55, c14_55, c15_55, c16_55, rfl, a_r0_55, f1_55, a_r4_55, f3_55, a_r9_55, f5_55, a_r10_55, f7_55, a_r11_55, f9_55, f10_55, f11_55, f12_55, f13_55, f14_55, -⟩ := (hG.1 _ _ _ _ hk_55).hX7 rfl
                  obtain rfl := fe_i (hq_55 5 (by decide))
                  obtain rfl := fe_i (hq_55 7 (by decide))
                  obtain rfl := fe_i (hq_55 8 (by decide))
                  refine va_get (D := gD g) (ci := 6) (v := .int c13_55) (C := RX7) (T := TX7) (N := 17) hx hb hts inX7 hown hK hP k_6 hk_55 rfl 13 (by decide) (hts _ kw_1347) (fun _ h9 => h9) rfl dX7_typesHold_134 ?_
                  refine lv_bipush (v := 8) hx hb dX7_typesHold_137 (by decide) ?_
                  refine lv_icmp_gt (tgt := 146) hx hb dX7_typesHold_139 (by decide) (fun c_56 => ?_) (fun c_56 => ?_)
                  · exact J_146  H locs ls  hP hD hS (lv_sub hl [0, 1] rfl)
                  · refine lv_iconst (v := 1) hx hb dX7_typesHold_142 (by decide) ?_
                    refine lv_goto (tgt := 147) hx hb dX7_typesHold_143 (by decide) ?_
                    exact J_147 (1) ws_44 H locs ls (Or.inr rfl) (E_45) (Fr_46) hG hP hD hS (lv_sub hl [0, 1] rfl)
              · refine lv_aload_n hx hb dX7_typesHold_101 rfl (lv_at hl 0 rfl) ?_
                refine lv_aload_n hx hb dX7_typesHold_102 rfl (lv_at hl 0 rfl) ?_
                refine lv_iload_n hx hb dX7_typesHold_103 rfl (lv_at hl 1 rfl) ?_
                have hFc := gfree hD hS hA
                refine va_calli (va_runV (As := [.int v1_8]) (rest := [.ref h0]) ⟨hx, hb, hml, hown, hts⟩ (m_X7_typeOf l g H.size ws_10 h0 (v1_8) hG o_h0) (cwV 1 hts (gd_V kw_1445 kw_1438 kw_1439 kw_710 kw_1437) rfl rfl rfl (by decide +kernel) ⟨Nat.le_of_ble_eq_true rfl, Nat.le_of_ble_eq_true rfl⟩) ⟨gblind, va_recv hK hP (ci := 6) (q0 := k_6) rfl hk_18, fun U hU hW9 => gmk hU hW9 hP hK hD hex hE hS hFc⟩ rfl rfl hl.1 rfl (lv_room (Nat.le_of_ble_eq_true rfl)) dX7_typesHold_104 ⟨Nat.le_of_ble_eq_true rfl, Nat.le_of_ble_eq_true rfl⟩) hS (fun q _ h => hFc q h) hFc (fun r_57 u9 t9 H1 locs ht9 hvm9 hw9 hB9 hz9 hk9 hS => ?_)
                have hP : va_P (gD g) cl0 ws_10 H1 := by rw [← ht9]; exact hB9.1
                clear hB9 hz9 hk9 hvm9 ht9 hw9
                generalize H1 = H at hP hS ⊢
                have hFc := gfree hD hS hA
                refine va_calli (va_runV (As := [.int r_57]) (rest := []) ⟨hx, hb, hml, hown, hts⟩ (m_X7_kindOfType l g H.size ws_10 h0 (r_57) hG o_h0) (cwV 1 hts (gd_V kw_1443 kw_1388 kw_1389 kw_710 kw_1387) rfl rfl rfl (by decide +kernel) ⟨Nat.le_of_ble_eq_true rfl, Nat.le_of_ble_eq_true rfl⟩) ⟨gblind, va_recv hK hP (ci := 6) (q0 := k_6) rfl hk_18, fun U hU hW9 => gmk hU hW9 hP hK hD hex hE hS hFc⟩ rfl rfl hl.1 rfl (lv_room (Nat.le_of_ble_eq_true rfl)) dX7_typesHold_107 ⟨Nat.le_of_ble_eq_true rfl, Nat.le_of_ble_eq_true rfl⟩) hS (fun q _ h => hFc q h) hFc (fun r_58 u9 t9 H1 locs ht9 hvm9 hw9 hB9 hz9 hk9 hS => ?_)
                have hP : va_P (gD g) cl0 ws_10 H1 := by rw [← ht9]; exact hB9.1
                clear hB9 hz9 hk9 hvm9 ht9 hw9
                generalize H1 = H at hP hS ⊢
                refine lv_if_eq (tgt := 117) hx hb dX7_typesHold_110 (by decide) (fun c_59 => ?_) (fun c_59 => ?_)
                · refine lv_iconst (v := 0) hx hb dX7_typesHold_117 (by decide) ?_
                  refine lv_goto (tgt := 147) hx hb dX7_typesHold_118 (by decide) ?_
                  exact J_147 (0) ws_10 H locs ls (Or.inl rfl) (gE.rf) (gF.rf) hG hP hD hS (lv_sub hl [0, 1] rfl)
                · refine lv_iconst (v := 1) hx hb dX7_typesHold_113 (by decide) ?_
                  refine lv_goto (tgt := 147) hx hb dX7_typesHold_114 (by decide) ?_
                  exact J_147 (1) ws_10 H locs ls (Or.inr rfl) (gE.rf) (gF.rf) hG hP hD hS (lv_sub hl [0, 1] rfl)
        exact J_80 _ (0) ws_3 H locs ls rfl (by have e0 : (0 : Int32).toInt = 0 := (by decide); omega) (gE.rf) (gF.rf) hG hP hD hS (lv_sub hl [1, 0] rfl)
      · refine lv_aload_n hx hb dX7_typesHold_10 rfl (lv_at hl 0 rfl) ?_
        refine lv_iload_n hx hb dX7_typesHold_11 rfl (lv_at hl 1 rfl) ?_
        have hFc := gfree hD hS hA
        refine va_calli (va_runV (As := [.int v1_1]) (rest := []) ⟨hx, hb, hml, hown, hts⟩ (m_X7_tagOf l g H.size ws_3 h0 (v1_1) hG o_h0) (cwV 1 hts (gd_V kw_1313 kw_1435 kw_1436 kw_710 kw_1434) rfl rfl rfl (by decide +kernel) ⟨Nat.le_of_ble_eq_true rfl, Nat.le_of_ble_eq_true rfl⟩) ⟨gblind, va_recv hK hP (ci := 6) (q0 := k_6) rfl hk_6, fun U hU hW9 => gmk hU hW9 hP hK hD hex hE hS hFc⟩ rfl rfl hl.1 rfl (lv_room (Nat.le_of_ble_eq_true rfl)) dX7_typesHold_12 ⟨Nat.le_of_ble_eq_true rfl, Nat.le_of_ble_eq_true rfl⟩) hS (fun q _ h => hFc q h) hFc (fun r_60 u9 t9 H1 locs ht9 hvm9 hw9 hB9 hz9 hk9 hS => ?_)
        have hP : va_P (gD g) cl0 ws_3 H1 := by rw [← ht9]; exact hB9.1
        clear hB9 hz9 hk9 hvm9 ht9 hw9
        generalize H1 = H at hP hS ⊢
        refine lv_istore_n (lv' := [(2, .int r_60), (0, .ref h0), (1, .int v1_1)]) hx hb dX7_typesHold_15 rfl hl (by decide) rfl (fun ls hl => ?_)
        refine lv_iload_n hx hb dX7_typesHold_16 rfl (lv_at hl 0 rfl) ?_
        refine lv_bipush (v := 9) hx hb dX7_typesHold_17 (by decide) ?_
        have J_60 : ∀ (ws_61 : va_W) (H : Heap) (locs : List Loc) (ls : Array Slot), gE ws_3 ws_61 → gF [(6, 12), (6, 13), (6, 14)] ws_3 ws_61 → Good g ws_61 → va_P (gD g) cl0 ws_61 H → va_D A ws_61 → va_S A s.heap H locs → lv_has ls 3 [(0, .ref h0), (1, .int v1_1)] → W p l e (headSpec (wt yX7_typesHold cX7_typesHold 3 (some .boolean)) ({ frames := 4, cells := 0, slots := 0, locals := 89 })).room s m ([.ref h0] : List Value).toArray below meth c H locs 0 0 (MQ below (va_Qi (fun (r : Int32) (u9 : va_W) => r = 0 ∨ r = 1) (gQ1 g [(6, 2), (6, 3), (6, 12), (6, 13), (6, 14)] A ws) A) ([.ref h0] : List Value).toArray s 0 0 A) (F0 m 60 ls []) := by
          intro ws_61 H locs ls  E_62 Fr_63 hG hP hD hS hl
          have aa_64 := a_r0_6
          have aa_65 := a_r4_6
          have aa_66 := a_r9_6
          have aa_67 := a_r10_6
          have aa_68 := a_r11_6
          have o_h0 := E_62 _ _ o_h0
          refine lv_aload_n hx hb dX7_typesHold_60 rfl (lv_at hl 0 rfl) ?_
          refine lv_bipush (v := 10) hx hb dX7_typesHold_61 (by decide) ?_
          refine lv_aload_n hx hb dX7_typesHold_63 rfl (lv_at hl 0 rfl) ?_
          refine lv_iload_n hx hb dX7_typesHold_64 rfl (lv_at hl 1 rfl) ?_
          have hFc := gfree hD hS hA
          obtain ⟨k_69, fs_69, hk_69⟩ := gC_of o_h0
          refine va_calli (va_runV (As := [.int v1_1]) (rest := [.int 10, .ref h0]) ⟨hx, hb, hml, hown, hts⟩ (m_X7_entryAt l g H.size ws_61 h0 (v1_1) hG o_h0) (cwV 1 hts (gd_V kw_1296 kw_1298 kw_1299 kw_710 kw_1297) rfl rfl rfl (by decide +kernel) ⟨Nat.le_of_ble_eq_true rfl, Nat.le_of_ble_eq_true rfl⟩) ⟨gblind, va_recv hK hP (ci := 6) (q0 := k_69) rfl hk_69, fun U hU hW9 => gmk hU hW9 hP hK hD hex hE hS hFc⟩ rfl rfl hl.1 rfl (lv_room (Nat.le_of_ble_eq_true rfl)) dX7_typesHold_65 ⟨Nat.le_of_ble_eq_true rfl, Nat.le_of_ble_eq_true rfl⟩) hS (fun q _ h => hFc q h) hFc (fun r_70 u9 t9 H1 locs ht9 hvm9 hw9 hB9 hz9 hk9 hS => ?_)
          have hP : va_P (gD g) cl0 ws_61 H1 := by rw [← ht9]; exact hB9.1
          clear hB9 hz9 hk9 hvm9 ht9 hw9
          generalize H1 = H at hP hS ⊢
          have hFc := gfree hD hS hA
          obtain ⟨k_71, fs_71, hk_71⟩ := gC_of o_h0
          refine va_calli (va_runV (As := [.int 10, .int r_70]) (rest := []) ⟨hx, hb, hml, hown, hts⟩ (m_X7_breaks l g H.size ws_61 h0 (10) (r_70) hG o_h0) (cwV 2 hts (gd_V kw_1276 kw_1278 kw_1279 kw_710 kw_1277) rfl rfl rfl (by decide +kernel) ⟨Nat.le_of_ble_eq_true rfl, Nat.le_of_ble_eq_true rfl⟩) ⟨gblind, va_recv hK hP (ci := 6) (q0 := k_71) rfl hk_71, fun U hU hW9 => gmk hU hW9 hP hK hD hex hE hS hFc⟩ rfl rfl hl.1 rfl (lv_room (Nat.le_of_ble_eq_true rfl)) dX7_typesHold_68 ⟨Nat.le_of_ble_eq_true rfl, Nat.le_of_ble_eq_true rfl⟩) hS (fun q _ h => hFc q h) hFc (fun r_72 ws_73 t9 H1 locs ht9 hvm9 hw9 hB9 hz9 hk9 hS => ?_)
          obtain ⟨E_74, Fr_75, hG, hP1, hD1⟩ := hB9
          have hP : va_P (gD g) cl0 ws_73 H1 := by rw [← ht9]; exact hP1
          have hD : va_D A ws_73 := hD1.weaken (fun _ _ _ h => hFc _ h)
          have hz_r_72 : r_72 = 0 ∨ r_72 = 1 := hw9
          clear hP1 hD1 hz9 hk9 hvm9 ht9 hw9
          generalize H1 = H at hP hS ⊢
          have o_h0 := E_74 _ _ o_h0
          refine W.widen (k := 0) (n := 0) (Nat.le_of_ble_eq_true rfl) (Nat.le_of_ble_eq_true rfl) ?_
          exact W.zret (v := r_72) hx hb hr (nz hz_r_72) (fun t9 ht9 hW9 => ⟨⟨_, ws_73, rfl, hz_r_72, ⟨(E_4.tr (E_62.tr E_74)), (gF.tr (gF.mo (F' := [(6, 2), (6, 3), (6, 12), (6, 13), (6, 14)]) Fr_5 (by decide)) (gF.tr (gF.mo (F' := [(6, 2), (6, 3), (6, 12), (6, 13), (6, 14)]) Fr_63 (by decide)) (gF.mo (F' := [(6, 2), (6, 3), (6, 12), (6, 13), (6, 14)]) Fr_75 (by decide)))), hG, by rw [ht9]; exact hP, hD⟩⟩, hS.F ht9⟩) hS.2.2 dX7_typesHold_71
        have J_38 : ∀  (H : Heap) (locs : List Loc) (ls : Array Slot), va_P (gD g) cl0 ws_3 H → va_D A ws_3 → va_S A s.heap H locs → lv_has ls 3 [(0, .ref h0), (1, .int v1_1), (2, .int r_60)] → W p l e (headSpec (wt yX7_typesHold cX7_typesHold 3 (some .boolean)) ({ frames := 4, cells := 0, slots := 0, locals := 89 })).room s m ([.ref h0] : List Value).toArray below meth c H locs 0 0 (MQ below (va_Qi (fun (r : Int32) (u9 : va_W) => r = 0 ∨ r = 1) (gQ1 g [(6, 2), (6, 3), (6, 12), (6, 13), (6, 14)] A ws) A) ([.ref h0] : List Value).toArray s 0 0 A) (F0 m 38 ls []) := by
          intro  H locs ls  hP hD hS hl
          refine lv_iload_n hx hb dX7_typesHold_38 rfl (lv_at hl 2 rfl) ?_
          refine lv_bipush (v := 10) hx hb dX7_typesHold_39 (by decide) ?_
          have J_72 : ∀ (ws_78 : va_W) (H : Heap) (locs : List Loc) (ls : Array Slot), gE ws_3 ws_78 → gF [(6, 12), (6, 13), (6, 14)] ws_3 ws_78 → Good g ws_78 → va_P (gD g) cl0 ws_78 H → va_D A ws_78 → va_S A s.heap H locs → lv_has ls 3 [(0, .ref h0), (1, .int v1_1)] → W p l e (headSpec (wt yX7_typesHold cX7_typesHold 3 (some .boolean)) ({ frames := 4, cells := 0, slots := 0, locals := 89 })).room s m ([.ref h0] : List Value).toArray below meth c H locs 0 0 (MQ below (va_Qi (fun (r : Int32) (u9 : va_W) => r = 0 ∨ r = 1) (gQ1 g [(6, 2), (6, 3), (6, 12), (6, 13), (6, 14)] A ws) A) ([.ref h0] : List Value).toArray s 0 0 A) (F0 m 72 ls []) := by
            intro ws_78 H locs ls  E_79 Fr_80 hG hP hD hS hl
            have aa_81 := a_r0_6
            have aa_82 := a_r4_6
            have aa_83 := a_r9_6
            have aa_84 := a_r10_6
            have aa_85 := a_r11_6
            have o_h0 := E_79 _ _ o_h0
            obtain ⟨z_86, ez_86⟩ : ∃ z : Int32, v1_1 + Int32.ofInt 1 = z := ⟨_, rfl⟩
            refine lv_iinc (v := z_86) (lv' := [(1, .int z_86), (0, .ref h0)]) hx hb dX7_typesHold_72 hl (k := 1) rfl ez_86 (by decide) rfl (fun ls hl => ?_)
            refine lv_goto (tgt := 2) hx hb dX7_typesHold_75 (by decide) ?_
            exact ih_2 _ (by obtain ⟨u_z_86, q_z_86⟩ := i_iz ez_86 (by decide) (by decide); have q_iv_2 := iv_2; have q_c_7 := i_nle c_7; have g_c5_6 := i_rg c5_6; have g_v1_1 := i_rg v1_1; have g_z_86 := i_rg z_86; omega) (z_86) ws_78 H locs ls rfl (by obtain ⟨u_z_86, q_z_86⟩ := i_iz ez_86 (by decide) (by decide); have q_iv_2 := iv_2; have q_c_7 := i_nle c_7; have g_c5_6 := i_rg c5_6; have g_v1_1 := i_rg v1_1; have g_z_86 := i_rg z_86; omega) ((E_4.tr E_79)) ((gF.tr Fr_5 Fr_80)) hG hP hD hS (lv_sub hl [1, 0] rfl)
          refine lv_icmp_ne (tgt := 72) hx hb dX7_typesHold_41 (by decide) (fun c_87 => ?_) (fun c_87 => ?_)
          · exact J_72 ws_3 H locs ls (gE.rf) (gF.rf) hG hP hD hS (lv_sub hl [0, 1] rfl)
          · refine lv_aload_n hx hb dX7_typesHold_44 rfl (lv_at hl 0 rfl) ?_
            refine lv_aload_n hx hb dX7_typesHold_45 rfl (lv_at hl 0 rfl) ?_
            refine lv_aload_n hx hb dX7_typesHold_46 rfl (lv_at hl 0 rfl) ?_
            refine lv_iload_n hx hb dX7_typesHold_47 rfl (lv_at hl 1 rfl) ?_
            have hFc := gfree hD hS hA
            refine va_calli (va_runV (As := [.int v1_1]) (rest := [.ref h0, .ref h0]) ⟨hx, hb, hml, hown, hts⟩ (m_X7_secondOf l g H.size ws_3 h0 (v1_1) hG o_h0) (cwV 1 hts (gd_V kw_1315 kw_1432 kw_1433 kw_710 kw_1431) rfl rfl rfl (by decide +kernel) ⟨Nat.le_of_ble_eq_true rfl, Nat.le_of_ble_eq_true rfl⟩) ⟨gblind, va_recv hK hP (ci := 6) (q0 := k_6) rfl hk_6, fun U hU hW9 => gmk hU hW9 hP hK hD hex hE hS hFc⟩ rfl rfl hl.1 rfl (lv_room (Nat.le_of_ble_eq_true rfl)) dX7_typesHold_48 ⟨Nat.le_of_ble_eq_true rfl, Nat.le_of_ble_eq_true rfl⟩) hS (fun q _ h => hFc q h) hFc (fun r_88 u9 t9 H1 locs ht9 hvm9 hw9 hB9 hz9 hk9 hS => ?_)
            have hP : va_P (gD g) cl0 ws_3 H1 := by rw [← ht9]; exact hB9.1
            have h_r_88 := hw9
            clear hB9 hz9 hk9 hvm9 ht9 hw9
            generalize H1 = H at hP hS ⊢
            have hFc := gfree hD hS hA
            refine va_calli (va_runV (As := [.int r_88]) (rest := [.ref h0]) ⟨hx, hb, hml, hown, hts⟩ (m_X7_secondOf l g H.size ws_3 h0 (r_88) hG o_h0) (cwV 1 hts (gd_V kw_1315 kw_1432 kw_1433 kw_710 kw_1431) rfl rfl rfl (by decide +kernel) ⟨Nat.le_of_ble_eq_true rfl, Nat.le_of_ble_eq_true rfl⟩) ⟨gblind, va_recv hK hP (ci := 6) (q0 := k_6) rfl hk_6, fun U hU hW9 => gmk hU hW9 hP hK hD hex hE hS hFc⟩ rfl rfl hl.1 rfl (lv_room (Nat.le_of_ble_eq_true rfl)) dX7_typesHold_51 ⟨Nat.le_of_ble_eq_true rfl, Nat.le_of_ble_eq_true rfl⟩) hS (fun q _ h => hFc q h) hFc (fun r_89 u9 t9 H1 locs ht9 hvm9 hw9 hB9 hz9 hk9 hS => ?_)
            have hP : va_P (gD g) cl0 ws_3 H1 := by rw [← ht9]; exact hB9.1
            have h_r_89 := hw9
            clear hB9 hz9 hk9 hvm9 ht9 hw9
            generalize H1 = H at hP hS ⊢
            have hFc := gfree hD hS hA
            refine va_calli (va_runV (As := [.int r_89]) (rest := []) ⟨hx, hb, hml, hown, hts⟩ (m_X7_isMethodType l g H.size ws_3 h0 (r_89) hG o_h0) (cwV 1 hts (gd_V kw_1444 kw_1344 kw_1345 kw_710 kw_1343) rfl rfl rfl (by decide +kernel) ⟨Nat.le_of_ble_eq_true rfl, Nat.le_of_ble_eq_true rfl⟩) ⟨gblind, va_recv hK hP (ci := 6) (q0 := k_6) rfl hk_6, fun U hU hW9 => gmk hU hW9 hP hK hD hex hE hS hFc⟩ rfl rfl hl.1 rfl (lv_room (Nat.le_of_ble_eq_true rfl)) dX7_typesHold_54 ⟨Nat.le_of_ble_eq_true rfl, Nat.le_of_ble_eq_true rfl⟩) hS (fun q _ h => hFc q h) hFc (fun r_90 ws_91 t9 H1 locs ht9 hvm9 hw9 hB9 hz9 hk9 hS => ?_)
            obtain ⟨E_92, Fr_93, hG, hP1, hD1⟩ := hB9
            have hP : va_P (gD g) cl0 ws_91 H1 := by rw [← ht9]; exact hP1
            have hD : va_D A ws_91 := hD1.weaken (fun _ _ _ h => hFc _ h)
            have hz_r_90 : r_90 = 0 ∨ r_90 = 1 := hw9
            clear hP1 hD1 hz9 hk9 hvm9 ht9 hw9
            generalize H1 = H at hP hS ⊢
            have aa_94 := a_r0_6
            have aa_95 := a_r4_6
            have aa_96 := a_r9_6
            have aa_97 := a_r10_6
            have aa_98 := a_r11_6
            have o_h0 := E_92 _ _ o_h0
            refine lv_if_ne (tgt := 72) hx hb dX7_typesHold_57 (by decide) (fun c_99 => ?_) (fun c_99 => ?_)
            · exact J_72 ws_91 H locs ls (E_92) (Fr_93) hG hP hD hS (lv_sub hl [0, 1] rfl)
            · exact J_60 ws_91 H locs ls (E_92) (Fr_93) hG hP hD hS (lv_sub hl [0, 1] rfl)
        refine lv_icmp_ne (tgt := 38) hx hb dX7_typesHold_19 (by decide) (fun c_100 => ?_) (fun c_100 => ?_)
        · exact J_38  H locs ls  hP hD hS (lv_sub hl [1, 2, 0] rfl)
        · refine lv_aload_n hx hb dX7_typesHold_22 rfl (lv_at hl 1 rfl) ?_
          refine lv_aload_n hx hb dX7_typesHold_23 rfl (lv_at hl 1 rfl) ?_
          refine lv_aload_n hx hb dX7_typesHold_24 rfl (lv_at hl 1 rfl) ?_
          refine lv_iload_n hx hb dX7_typesHold_25 rfl (lv_at hl 2 rfl) ?_
          have hFc := gfree hD hS hA
          refine va_calli (va_runV (As := [.int v1_1]) (rest := [.ref h0, .ref h0]) ⟨hx, hb, hml, hown, hts⟩ (m_X7_secondOf l g H.size ws_3 h0 (v1_1) hG o_h0) (cwV 1 hts (gd_V kw_1315 kw_1432 kw_1433 kw_710 kw_1431) rfl rfl rfl (by decide +kernel) ⟨Nat.le_of_ble_eq_true rfl, Nat.le_of_ble_eq_true rfl⟩) ⟨gblind, va_recv hK hP (ci := 6) (q0 := k_6) rfl hk_6, fun U hU hW9 => gmk hU hW9 hP hK hD hex hE hS hFc⟩ rfl rfl hl.1 rfl (lv_room (Nat.le_of_ble_eq_true rfl)) dX7_typesHold_26 ⟨Nat.le_of_ble_eq_true rfl, Nat.le_of_ble_eq_true rfl⟩) hS (fun q _ h => hFc q h) hFc (fun r_101 u9 t9 H1 locs ht9 hvm9 hw9 hB9 hz9 hk9 hS => ?_)
          have hP : va_P (gD g) cl0 ws_3 H1 := by rw [← ht9]; exact hB9.1
          have h_r_101 := hw9
          clear hB9 hz9 hk9 hvm9 ht9 hw9
          generalize H1 = H at hP hS ⊢
          have hFc := gfree hD hS hA
          refine va_calli (va_runV (As := [.int r_101]) (rest := [.ref h0]) ⟨hx, hb, hml, hown, hts⟩ (m_X7_secondOf l g H.size ws_3 h0 (r_101) hG o_h0) (cwV 1 hts (gd_V kw_1315 kw_1432 kw_1433 kw_710 kw_1431) rfl rfl rfl (by decide +kernel) ⟨Nat.le_of_ble_eq_true rfl, Nat.le_of_ble_eq_true rfl⟩) ⟨gblind, va_recv hK hP (ci := 6) (q0 := k_6) rfl hk_6, fun U hU hW9 => gmk hU hW9 hP hK hD hex hE hS hFc⟩ rfl rfl hl.1 rfl (lv_room (Nat.le_of_ble_eq_true rfl)) dX7_typesHold_29 ⟨Nat.le_of_ble_eq_true rfl, Nat.le_of_ble_eq_true rfl⟩) hS (fun q _ h => hFc q h) hFc (fun r_102 u9 t9 H1 locs ht9 hvm9 hw9 hB9 hz9 hk9 hS => ?_)
          have hP : va_P (gD g) cl0 ws_3 H1 := by rw [← ht9]; exact hB9.1
          have h_r_102 := hw9
          clear hB9 hz9 hk9 hvm9 ht9 hw9
          generalize H1 = H at hP hS ⊢
          have hFc := gfree hD hS hA
          refine va_calli (va_runV (As := [.int r_102]) (rest := []) ⟨hx, hb, hml, hown, hts⟩ (m_X7_kindOfType l g H.size ws_3 h0 (r_102) hG o_h0) (cwV 1 hts (gd_V kw_1443 kw_1388 kw_1389 kw_710 kw_1387) rfl rfl rfl (by decide +kernel) ⟨Nat.le_of_ble_eq_true rfl, Nat.le_of_ble_eq_true rfl⟩) ⟨gblind, va_recv hK hP (ci := 6) (q0 := k_6) rfl hk_6, fun U hU hW9 => gmk hU hW9 hP hK hD hex hE hS hFc⟩ rfl rfl hl.1 rfl (lv_room (Nat.le_of_ble_eq_true rfl)) dX7_typesHold_32 ⟨Nat.le_of_ble_eq_true rfl, Nat.le_of_ble_eq_true rfl⟩) hS (fun q _ h => hFc q h) hFc (fun r_103 u9 t9 H1 locs ht9 hvm9 hw9 hB9 hz9 hk9 hS => ?_)
          have hP : va_P (gD g) cl0 ws_3 H1 := by rw [← ht9]; exact hB9.1
          clear hB9 hz9 hk9 hvm9 ht9 hw9
          generalize H1 = H at hP hS ⊢
          refine lv_if_eq (tgt := 60) hx hb dX7_typesHold_35 (by decide) (fun c_104 => ?_) (fun c_104 => ?_)
          · exact J_60 ws_3 H locs ls (gE.rf) (gF.rf) hG hP hD hS (lv_sub hl [1, 2] rfl)
          · exact J_38  H locs ls  hP hD hS (lv_sub hl [1, 2, 0] rfl)
  exact J_2 _ (1) ws _ _ ls rfl (by have e1 : (1 : Int32).toInt = 1 := (by decide); omega) (gE.rf) (gF.rf) hG hP hD hS (lv_sub hl [1, 0] rfl)
