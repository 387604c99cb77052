set_option maxHeartbeats 1000000 in
set_option maxRecDepth 100000 in
theorem m_X7_fieldsFit_w (l : Launch) (g : Gm) (sz : Nat) (ws : va_W) (h0 : Nat) (hG : Good g ws) (o_h0 : gC ws h0 6) : Met l yX7_fieldsFit (wt yX7_fieldsFit cX7_fieldsFit 1 (some .boolean)) ({ frames := 4, cells := 0, slots := 0, locals := 90 }) (va_Pc [.ref h0] (st_G g sz ws)) (va_Qi (fun (r : Int32) (u9 : va_W) => (r = 0 ∨ r = 1) ∧ gP u9 h0 (fun fs => ∀ c : Int32, fs[7]? = some (.int c) → r.toInt = 0 ∨ (0 ≤ c.toInt ∧ c.toInt ≤ 24))) (gQ1 g [(6, 2), (6, 3), (6, 7), (6, 8), (6, 15)] [(6, 9)] none (va_A ws sz) ws) (va_A ws sz)) (0) (0) (va_A ws sz) := by
  refine Met.ofW (cc := cX7_fieldsFit) (maxL := 1) (ret := (some .boolean)) (by decide) rfl ?_
  intro p e s m args below meth c s₁ B hml hv
  obtain ⟨rfl, hsz, hP, hK, hD0, hex, hE⟩ := hv
  have hx := B.exec
  have hb := B.bytes
  have hr := B.returns
  have hts0 := atoms_spec (ws := wt yX7_fieldsFit cX7_fieldsFit 1 (some .boolean)) B.pre
  have hts : ∀ w ∈ tb, w.before _ s = true := fun w h => hts0 w (List.mem_cons_of_mem _ h)
  have hown : s.vm.findClass RX7 = some m.cls := findClass_of_methodNamed B.named
  subst hsz
  have hD := hD0.self (sz := s.heap.size)
  generalize hAe : va_A ws s.heap.size = A at hD hE ⊢
  have hA : ∀ q : Nat, s.heap.size ≤ q → A q := fun q h => by rw [← hAe]; exact Or.inr h
  have hS : va_S A s.heap s.heap [] := va_S.rf
  have hl := lv_entry ([.ref h0]) (n := 1) (Nat.le_of_ble_eq_true rfl)
  rw [lg_entry_eq]
  generalize (lg_sl ([.ref h0]) ++ List.replicate (1 - (lg_sl ([.ref h0])).length) Slot.unset).toArray = ls at hl ⊢
  have hl : lv_has ls 1 [(0, .ref h0)] := hl
  refine lv_aload_n hx hb dX7_fieldsFit_0 rfl (lv_at hl 0 rfl) ?_
  refine lv_iconst (v := 0) hx hb dX7_fieldsFit_1 (by decide) ?_
  obtain ⟨k_1, fs9, hk_1⟩ := gC_of o_h0
  obtain ⟨r0_1, n0_1, c1_1, c2_1, c3_1, r4_1, n4_1, c5_1, c6_1, c7_1, c8_1, r9_1, n9_1, r10_1, n10_1, r11_1, n11_1, c12_1, c13_1, c14_1, c15_1, c16_1, rfl, a_r0_1, f1_1, a_r4_1, f3_1, a_r9_1, f5_1, a_r10_1, f7_1, a_r11_1, f9_1, f10_1, f11_1, f12_1, f13_1, f14_1, -⟩ := (hG.1 _ _ _ _ hk_1).hX7 rfl
  have hV9 : okv ws 6 8 (.int 0) := okv_i
  refine va_put (D := gD g) (ci := 6) (v := .int 0) (ty := .int) (C := RX7) (T := TX7) (N := 17) hx hb hts inX7 tyX7 tyX7_ok nmX7 hown hK hP hD hS k_1 hk_1 rfl 8 (by decide) (hts _ kw_1285) (fun _ h9 => h9) rfl (by decide +kernel) rfl rfl (Nat.le_of_ble_eq_true rfl) dX7_fieldsFit_2 (fun H locs hP hD hS => ?_)
  have hi_2 : invX7 g ws h0 [.ref r0_1, .int c1_1, .int c2_1, .int c3_1, .ref r4_1, .int c5_1, .int c6_1, .int c7_1, .int 0, .ref r9_1, .ref r10_1, .ref r11_1, .int c12_1, .int c13_1, .int c14_1, .int c15_1, .int c16_1] := ⟨r0_1, (n0_1), (c1_1), (c2_1), (c3_1), r4_1, (n4_1), (c5_1), (c6_1), (c7_1), (0), r9_1, (n9_1), r10_1, (n10_1), r11_1, (n11_1), (c12_1), (c13_1), (c14_1), (c15_1), (c16_1), rfl, a_r0_1, f1_1, a_r4_1, f3_1, a_r9_1, f5_1, a_r10_1, f7_1, a_r11_1, f9_1, f10_1, f11_1, f12_1, f13_1, f14_1, trivial⟩
  obtain ⟨ws_3, e_ws_3⟩ : ∃ z, z = ws.set k_1 (h0, .inr (6, [.ref r0_1, .int c1_1, .int c2_1, .int c3_1, .ref r4_1, .int c5_1, .int c6_1, .int c7_1, .int 0, .ref r9_1, .ref r10_1, .ref r11_1, .int c12_1, .int c13_1, .int c14_1, .int c15_1, .int c16_1])) := ⟨_, rfl⟩
  have hP : va_P (gD g) cl0 ws_3 H := by rw [e_ws_3]; exact hP
  have hD : va_D A ws_3 := by rw [e_ws_3]; exact hD
  have E_4 : gE ws ws_3 := gE_set e_ws_3 hk_1 (cw_o (fi := 8) (v := .int 0) rfl (by decide))
  have hG : Good g ws_3 := Good_set (fi := 8) (v := .int 0) e_ws_3 hk_1 E_4 rfl hV9 hG (ivX7 hi_2)
  have Fr_5 : gF [(6, 8)] [] (some h0) ws ws_3 := gF_put (fi := 8) (v := .int 0) e_ws_3 hk_1 rfl (by decide)
  have hkN := gset_self e_ws_3 hk_1
  have hk_1 := hkN
  have o_h0 := E_4.1 _ _ o_h0
  have a_r0_1 := E_4.1 _ _ a_r0_1
  have a_r4_1 := E_4.1 _ _ a_r4_1
  have a_r9_1 := E_4.1 _ _ a_r9_1
  have a_r10_1 := E_4.1 _ _ a_r10_1
  have a_r11_1 := E_4.1 _ _ a_r11_1
  refine lv_aload_n hx hb dX7_fieldsFit_5 rfl (lv_at hl 0 rfl) ?_
  refine lv_iconst (v := 0) hx hb dX7_fieldsFit_6 (by decide) ?_
  have hV9 : okv ws_3 6 7 (.int 0) := okv_i
  refine va_put (D := gD g) (ci := 6) (v := .int 0) (ty := .int) (C := RX7) (T := TX7) (N := 17) hx hb hts inX7 tyX7 tyX7_ok nmX7 hown hK hP hD hS k_1 hk_1 rfl 7 (by decide) (hts _ kw_1287) (fun _ h9 => h9) rfl (by decide +kernel) rfl rfl (Nat.le_of_ble_eq_true rfl) dX7_fieldsFit_7 (fun H locs hP hD hS => ?_)
  have hi_6 : invX7 g ws_3 h0 [.ref r0_1, .int c1_1, .int c2_1, .int c3_1, .ref r4_1, .int c5_1, .int c6_1, .int 0, .int 0, .ref r9_1, .ref r10_1, .ref r11_1, .int c12_1, .int c13_1, .int c14_1, .int c15_1, .int c16_1] := ⟨r0_1, (n0_1), (c1_1), (c2_1), (c3_1), r4_1, (n4_1), (c5_1), (c6_1), (0), (0), r9_1, (n9_1), r10_1, (n10_1), r11_1, (n11_1), (c12_1), (c13_1), (c14_1), (c15_1), (c16_1), rfl, a_r0_1, f1_1, a_r4_1, f3_1, a_r9_1, f5_1, a_r10_1, f7_1, a_r11_1, f9_1, f10_1, f11_1, f12_1, f13_1, f14_1, trivial⟩
  obtain ⟨ws_7, e_ws_7⟩ : ∃ z, z = ws_3.set k_1 (h0, .inr (6, [.ref r0_1, .int c1_1, .int c2_1, .int c3_1, .ref r4_1, .int c5_1, .int c6_1, .int 0, .int 0, .ref r9_1, .ref r10_1, .ref r11_1, .int c12_1, .int c13_1, .int c14_1, .int c15_1, .int c16_1])) := ⟨_, rfl⟩
  have hP : va_P (gD g) cl0 ws_7 H := by rw [e_ws_7]; exact hP
  have hD : va_D A ws_7 := by rw [e_ws_7]; exact hD
  have E_8 : gE ws_3 ws_7 := gE_set e_ws_7 hk_1 (cw_o (fi := 7) (v := .int 0) rfl (by decide))
  have hG : Good g ws_7 := Good_set (fi := 7) (v := .int 0) e_ws_7 hk_1 E_8 rfl hV9 hG (ivX7 hi_6)
  have Fr_9 : gF [(6, 7)] [] (some h0) ws_3 ws_7 := gF_put (fi := 7) (v := .int 0) e_ws_7 hk_1 rfl (by decide)
  have hkN := gset_self e_ws_7 hk_1
  have hk_1 := hkN
  have o_h0 := E_8.1 _ _ o_h0
  have a_r0_1 := E_8.1 _ _ a_r0_1
  have a_r4_1 := E_8.1 _ _ a_r4_1
  have a_r9_1 := E_8.1 _ _ a_r9_1
  have a_r10_1 := E_8.1 _ _ a_r10_1
  have a_r11_1 := E_8.1 _ _ a_r11_1
  refine lv_aload_n hx hb dX7_fieldsFit_10 rfl (lv_at hl 0 rfl) ?_
  refine lv_aload_n hx hb dX7_fieldsFit_11 rfl (lv_at hl 0 rfl) ?_
  refine lv_iconst (v := 0) hx hb dX7_fieldsFit_12 (by decide) ?_
  have hFc := gfree hD hS hA
  refine va_calli (va_runV (As := [.int 0]) (rest := [.ref h0]) ⟨hx, hb, hml, hown, hts⟩ (m_X7_membersFit l g H.size ws_7 h0 (0) hG o_h0 (by have e0 : (0 : Int32).toInt = 0 := (by decide); omega)) (cwV 1 hts (gd_V kw_1319 kw_1397 kw_1398 kw_710 kw_1396) rfl rfl rfl (by decide +kernel) ⟨Nat.le_of_ble_eq_true rfl, Nat.le_of_ble_eq_true rfl⟩) ⟨gblind, va_recv hK hP (ci := 6) (q0 := k_1) rfl hk_1, fun U hU hW9 => gmk hU hW9 hP hK hD hex hE hS hFc⟩ rfl rfl hl.1 rfl (lv_room (Nat.le_of_ble_eq_true rfl)) dX7_fieldsFit_13 ⟨Nat.le_of_ble_eq_true rfl, Nat.le_of_ble_eq_true rfl⟩) hS (fun q _ h => hFc q h) hFc (fun r_10 ws_11 t9 H1 locs ht9 hvm9 hw9 hB9 hz9 hk9 hS => ?_)
  obtain ⟨E_12, Fr_13, hG, hP1, hD1⟩ := hB9
  have hP : va_P (gD g) cl0 ws_11 H1 := by rw [← ht9]; exact hP1
  have hD : va_D A ws_11 := hD1.weaken (fun _ _ _ h => hFc _ h)
  have h_r_10 := hw9
  clear hP1 hD1 hz9 hk9 hvm9 ht9 hw9
  generalize H1 = H at hP hS ⊢
  have aa_16 := a_r0_1
  have aa_17 := a_r4_1
  have aa_18 := a_r9_1
  have aa_19 := a_r10_1
  have aa_20 := a_r11_1
  have o_h0 := E_12.1 _ _ o_h0
  obtain ⟨fs9, hk_21, hq_21⟩ := ((gF.a (F' := [(6, 2), (6, 3), (6, 15)]) Fr_13 (fun _ h => h))) _ _ _ hk_1
  obtain ⟨r0_21, n0_21, c1_21, c2_21, c3_21, r4_21, n4_21, c5_21, c6_21, c7_21, c8_21, r9_21, n9_21, r10_21, n10_21, r11_21, n11_21, c12_21, c13_21, c14_21, c15_21, c16_21, rfl, a_r0_21, f1_21, a_r4_21, f3_21, a_r9_21, f5_21, a_r10_21, f7_21, a_r11_21, f9_21, f10_21, f11_21, f12_21, f13_21, f14_21, -⟩ := (hG.1 _ _ _ _ hk_21).hX7 rfl
  obtain rfl := fe_i (hq_21 7 (by decide))
  have hV9 : okv ws_11 6 7 (.int r_10) := okv_i
  refine va_put (D := gD g) (ci := 6) (v := .int r_10) (ty := .int) (C := RX7) (T := TX7) (N := 17) hx hb hts inX7 tyX7 tyX7_ok nmX7 hown hK hP hD hS k_1 hk_21 rfl 7 (by decide) (hts _ kw_1287) (fun _ h9 => h9) rfl (by decide +kernel) rfl rfl (Nat.le_of_ble_eq_true rfl) dX7_fieldsFit_16 (fun H locs hP hD hS => ?_)
  have hi_22 : invX7 g ws_11 h0 [.ref r0_21, .int c1_21, .int c2_21, .int c3_21, .ref r4_21, .int c5_21, .int c6_21, .int r_10, .int c8_21, .ref r9_21, .ref r10_21, .ref r11_21, .int c12_21, .int c13_21, .int c14_21, .int c15_21, .int c16_21] := ⟨r0_21, (n0_21), (c1_21), (c2_21), (c3_21), r4_21, (n4_21), (c5_21), (c6_21), (r_10), (c8_21), r9_21, (n9_21), r10_21, (n10_21), r11_21, (n11_21), (c12_21), (c13_21), (c14_21), (c15_21), (c16_21), rfl, a_r0_21, f1_21, a_r4_21, f3_21, a_r9_21, f5_21, a_r10_21, f7_21, a_r11_21, f9_21, f10_21, f11_21, f12_21, f13_21, f14_21, trivial⟩
  obtain ⟨ws_23, e_ws_23⟩ : ∃ z, z = ws_11.set k_1 (h0, .inr (6, [.ref r0_21, .int c1_21, .int c2_21, .int c3_21, .ref r4_21, .int c5_21, .int c6_21, .int r_10, .int c8_21, .ref r9_21, .ref r10_21, .ref r11_21, .int c12_21, .int c13_21, .int c14_21, .int c15_21, .int c16_21])) := ⟨_, rfl⟩
  have hP : va_P (gD g) cl0 ws_23 H := by rw [e_ws_23]; exact hP
  have hD : va_D A ws_23 := by rw [e_ws_23]; exact hD
  have E_24 : gE ws_11 ws_23 := gE_set e_ws_23 hk_21 (cw_o (fi := 7) (v := .int r_10) rfl (by decide))
  have hG : Good g ws_23 := Good_set (fi := 7) (v := .int r_10) e_ws_23 hk_21 E_24 rfl hV9 hG (ivX7 hi_22)
  have Fr_25 : gF [(6, 7)] [] (some h0) ws_11 ws_23 := gF_put (fi := 7) (v := .int r_10) e_ws_23 hk_21 rfl (by decide)
  have hkN := gset_self e_ws_23 hk_21
  have hk_21 := hkN
  have o_h0 := E_24.1 _ _ o_h0
  have a_r0_21 := E_24.1 _ _ a_r0_21
  have a_r4_21 := E_24.1 _ _ a_r4_21
  have a_r9_21 := E_24.1 _ _ a_r9_21
  have a_r10_21 := E_24.1 _ _ a_r10_21
  have a_r11_21 := E_24.1 _ _ a_r11_21
  refine lv_aload_n hx hb dX7_fieldsFit_19 rfl (lv_at hl 0 rfl) ?_
  refine va_get (D := gD g) (ci := 6) (v := .int r_10) (C := RX7) (T := TX7) (N := 17) hx hb hts inX7 hown hK hP k_1 hk_21 rfl 7 (by decide) (hts _ kw_1287) (fun _ h9 => h9) rfl dX7_fieldsFit_20 ?_
  have J_31 : ∀ (t_26 : Int32) (H : Heap) (locs : List Loc) (ls : Array Slot), t_26 = 0 ∨ t_26 = 1 → gP ws_23 h0 (fun fs => ∀ c : Int32, fs[7]? = some (.int c) → t_26.toInt = 0 ∨ (0 ≤ c.toInt ∧ c.toInt ≤ 24)) → va_P (gD g) cl0 ws_23 H → va_D A ws_23 → va_S A s.heap H locs → lv_has ls 1 [] → W p l e (headSpec (wt yX7_fieldsFit cX7_fieldsFit 1 (some .boolean)) ({ frames := 4, cells := 0, slots := 0, locals := 90 })).room s m ([.ref h0] : List Value).toArray below meth c H locs (0) (0) (MQ below (va_Qi (fun (r : Int32) (u9 : va_W) => (r = 0 ∨ r = 1) ∧ gP u9 h0 (fun fs => ∀ c : Int32, fs[7]? = some (.int c) → r.toInt = 0 ∨ (0 ≤ c.toInt ∧ c.toInt ≤ 24))) (gQ1 g [(6, 2), (6, 3), (6, 7), (6, 8), (6, 15)] [(6, 9)] none A ws) A) ([.ref h0] : List Value).toArray s (0) (0) A) (F0 m 31 ls [.int t_26]) := by
    intro t_26 H locs ls iv_27 jf_31_f hP hD hS hl
    have hz_t_26 := iv_27
    refine W.widen (k := 0) (n := 0) (Nat.le_of_ble_eq_true rfl) (Nat.le_of_ble_eq_true rfl) ?_
    obtain ⟨k_30, fs9, hk_30⟩ := gC_of o_h0
    obtain ⟨r0_30, n0_30, c1_30, c2_30, c3_30, r4_30, n4_30, c5_30, c6_30, c7_30, c8_30, r9_30, n9_30, r10_30, n10_30, r11_30, n11_30, c12_30, c13_30, c14_30, c15_30, c16_30, rfl, a_r0_30, f1_30, a_r4_30, f3_30, a_r9_30, f5_30, a_r10_30, f7_30, a_r11_30, f9_30, f10_30, f11_30, f12_30, f13_30, f14_30, -⟩ := (hG.1 _ _ _ _ hk_30).hX7 rfl
    have kq_31 := jf_31_f _ _ _ hk_30 _ rfl
    exact W.zret (v := t_26) hx hb hr (nz hz_t_26) (fun t9 ht9 hW9 => ⟨⟨_, ws_23, rfl, ⟨hz_t_26, (gP_of hD hk_30 (fun q90 e90 => by cases e90; exact (by have q_kq_31 := kq_31; have g_c7_30 := i_rg c7_30; have g_t_26 := i_rg t_26; have b_t_26 := i_bit hz_t_26; omega)))⟩, ⟨(E_4.tr (E_8.tr (E_12.tr E_24))), (gF.tr (gF.mo (F' := [(6, 2), (6, 3), (6, 7), (6, 8), (6, 15)]) (C' := [(6, 9)]) (S' := none) Fr_5 (by decide) (fun _ h => absurd h List.not_mem_nil) (Or.inl rfl)) (gF.tr (gF.mo (F' := [(6, 2), (6, 3), (6, 7), (6, 8), (6, 15)]) (C' := [(6, 9)]) (S' := none) Fr_9 (by decide) (fun _ h => absurd h List.not_mem_nil) (Or.inl rfl)) (gF.tr (gF.mo (F' := [(6, 2), (6, 3), (6, 7), (6, 8), (6, 15)]) (C' := [(6, 9)]) (S' := none) Fr_13 (by decide) (fun _ h => h) (Or.inr rfl)) (gF.mo (F' := [(6, 2), (6, 3), (6, 7), (6, 8), (6, 15)]) (C' := [(6, 9)]) (S' := none) Fr_25 (by decide) (fun _ h => absurd h List.not_mem_nil) (Or.inl rfl))))), hG, by rw [ht9]; exact hP, hD⟩⟩, hS.F ht9⟩) hS.2.2 dX7_fieldsFit_31
  refine lv_if_lt (tgt := 30) hx hb dX7_fieldsFit_23 (by decide) (fun c_32 => ?_) (fun c_32 => ?_)
  · refine lv_iconst (v := 0) hx hb dX7_fieldsFit_30 (by decide) ?_
    exact J_31 (0) H locs ls (Or.inl rfl) (gP_of hD hk_21 (fun q90 e90 => by cases e90; exact (by have e0 : (0 : Int32).toInt = 0 := (by decide); have q_r_10 := h_r_10; have q_c_32 := i_lt c_32; have g_r_10 := i_rg r_10; omega))) hP hD hS (lv_sub hl [] rfl)
  · refine lv_iconst (v := 1) hx hb dX7_fieldsFit_26 (by decide) ?_
    refine lv_goto (tgt := 31) hx hb dX7_fieldsFit_27 (by decide) ?_
    exact J_31 (1) H locs ls (Or.inr rfl) (gP_of hD hk_21 (fun q90 e90 => by cases e90; exact (by have e0 : (0 : Int32).toInt = 0 := (by decide); have e1 : (1 : Int32).toInt = 1 := (by decide); have q_r_10 := h_r_10; have q_c_32 := i_nlt c_32; have g_r_10 := i_rg r_10; omega))) hP hD hS (lv_sub hl [] rfl)
set_option maxHeartbeats 1000000 in
set_option maxRecDepth 100000 in
theorem m_X7_methodsFit_w (l : Launch) (g : Gm) (sz : Nat) (ws : va_W) (h0 : Nat) (hG : Good g ws) (o_h0 : gC ws h0 6) (fp_c : gP ws h0 (fun fs => ∀ c : Int32, fs[7]? = some (.int c) → 0 ≤ c.toInt)) : Met l yX7_methodsFit (wt yX7_methodsFit cX7_methodsFit 1 (some .boolean)) ({ frames := 4, cells := 0, slots := 0, locals := 90 }) (va_Pc [.ref h0] (st_G g sz ws)) (va_Qi (fun (r : Int32) (u9 : va_W) => (r = 0 ∨ r = 1) ∧ gP u9 h0 (fun fs => ∀ c : Int32, fs[8]? = some (.int c) → r.toInt = 0 ∨ (0 ≤ c.toInt ∧ c.toInt ≤ 24))) (gQ1 g [(6, 2), (6, 3), (6, 8), (6, 15)] [(6, 9)] none (va_A ws sz) ws) (va_A ws sz)) (0) (0) (va_A ws sz) := by
  refine Met.ofW (cc := cX7_methodsFit) (maxL := 1) (ret := (some .boolean)) (by decide) rfl ?_
  intro p e s m args below meth c s₁ B hml hv
  obtain ⟨rfl, hsz, hP, hK, hD0, hex, hE⟩ := hv
  have hx := B.exec
  have hb := B.bytes
  have hr := B.returns
  have hts0 := atoms_spec (ws := wt yX7_methodsFit cX7_methodsFit 1 (some .boolean)) B.pre
  have hts : ∀ w ∈ tb, w.before _ s = true := fun w h => hts0 w (List.mem_cons_of_mem _ h)
  have hown : s.vm.findClass RX7 = some m.cls := findClass_of_methodNamed B.named
  subst hsz
  have hD := hD0.self (sz := s.heap.size)
  generalize hAe : va_A ws s.heap.size = A at hD hE ⊢
  have hA : ∀ q : Nat, s.heap.size ≤ q → A q := fun q h => by rw [← hAe]; exact Or.inr h
  have hS : va_S A s.heap s.heap [] := va_S.rf
  have hl := lv_entry ([.ref h0]) (n := 1) (Nat.le_of_ble_eq_true rfl)
  rw [lg_entry_eq]
  generalize (lg_sl ([.ref h0]) ++ List.replicate (1 - (lg_sl ([.ref h0])).length) Slot.unset).toArray = ls at hl ⊢
  have hl : lv_has ls 1 [(0, .ref h0)] := hl
  obtain ⟨k_1, fs9, hk_1⟩ := gC_of o_h0
  obtain ⟨r0_1, n0_1, c1_1, c2_1, c3_1, r4_1, n4_1, c5_1, c6_1, c7_1, c8_1, r9_1, n9_1, r10_1, n10_1, r11_1, n11_1, c12_1, c13_1, c14_1, c15_1, c16_1, rfl, a_r0_1, f1_1, a_r4_1, f3_1, a_r9_1, f5_1, a_r10_1, f7_1, a_r11_1, f9_1, f10_1, f11_1, f12_1, f13_1, f14_1, -⟩ := (hG.1 _ _ _ _ hk_1).hX7 rfl
  have fq_c := fp_c _ _ _ hk_1 _ rfl
  refine lv_aload_n hx hb dX7_methodsFit_0 rfl (lv_at hl 0 rfl) ?_
  refine lv_aload_n hx hb dX7_methodsFit_1 rfl (lv_at hl 0 rfl) ?_
  refine lv_aload_n hx hb dX7_methodsFit_2 rfl (lv_at hl 0 rfl) ?_
  refine va_get (D := gD g) (ci := 6) (v := .int c7_1) (C := RX7) (T := TX7) (N := 17) hx hb hts inX7 hown hK hP k_1 hk_1 rfl 7 (by decide) (hts _ kw_1287) (fun _ h9 => h9) rfl dX7_methodsFit_3 ?_
  have hFc := gfree hD hS hA
  refine va_calli (va_runV (As := [.int c7_1]) (rest := [.ref h0]) ⟨hx, hb, hml, hown, hts⟩ (m_X7_membersFit l g s.heap.size ws h0 (c7_1) hG o_h0 (by have q_fq_c := fq_c; have g_c7_1 := i_rg c7_1; omega)) (cwV 1 hts (gd_V kw_1319 kw_1397 kw_1398 kw_710 kw_1396) rfl rfl rfl (by decide +kernel) ⟨Nat.le_of_ble_eq_true rfl, Nat.le_of_ble_eq_true rfl⟩) ⟨gblind, va_recv hK hP (ci := 6) (q0 := k_1) rfl hk_1, fun U hU hW9 => gmk hU hW9 hP hK hD hex hE hS hFc⟩ rfl rfl hl.1 rfl (lv_room (Nat.le_of_ble_eq_true rfl)) dX7_methodsFit_6 ⟨Nat.le_of_ble_eq_true rfl, Nat.le_of_ble_eq_true rfl⟩) hS (fun q _ h => hFc q h) hFc (fun r_2 ws_3 t9 H1 locs ht9 hvm9 hw9 hB9 hz9 hk9 hS => ?_)
  obtain ⟨E_4, Fr_5, hG, hP1, hD1⟩ := hB9
  have hP : va_P (gD g) cl0 ws_3 H1 := by rw [← ht9]; exact hP1
  have hD : va_D A ws_3 := hD1.weaken (fun _ _ _ h => hFc _ h)
  have h_r_2 := hw9
  clear hP1 hD1 hz9 hk9 hvm9 ht9 hw9
  generalize H1 = H at hP hS ⊢
  have aa_8 := a_r0_1
  have aa_9 := a_r4_1
  have aa_10 := a_r9_1
  have aa_11 := a_r10_1
  have aa_12 := a_r11_1
  have o_h0 := E_4.1 _ _ o_h0
  obtain ⟨fs9, hk_13, hq_13⟩ := ((gF.a (F' := [(6, 2), (6, 3), (6, 15)]) Fr_5 (fun _ h => h))) _ _ _ hk_1
  obtain ⟨r0_13, n0_13, c1_13, c2_13, c3_13, r4_13, n4_13, c5_13, c6_13, c7_13, c8_13, r9_13, n9_13, r10_13, n10_13, r11_13, n11_13, c12_13, c13_13, c14_13, c15_13, c16_13, rfl, a_r0_13, f1_13, a_r4_13, f3_13, a_r9_13, f5_13, a_r10_13, f7_13, a_r11_13, f9_13, f10_13, f11_13, f12_13, f13_13, f14_13, -⟩ := (hG.1 _ _ _ _ hk_13).hX7 rfl
  obtain rfl := fe_i (hq_13 7 (by decide))
  obtain rfl := fe_i (hq_13 8 (by decide))
  have hV9 : okv ws_3 6 8 (.int r_2) := okv_i
  refine va_put (D := gD g) (ci := 6) (v := .int r_2) (ty := .int) (C := RX7) (T := TX7) (N := 17) hx hb hts inX7 tyX7 tyX7_ok nmX7 hown hK hP hD hS k_1 hk_13 rfl 8 (by decide) (hts _ kw_1285) (fun _ h9 => h9) rfl (by decide +kernel) rfl rfl (Nat.le_of_ble_eq_true rfl) dX7_methodsFit_9 (fun H locs hP hD hS => ?_)
  have hi_14 : invX7 g ws_3 h0 [.ref r0_13, .int c1_13, .int c2_13, .int c3_13, .ref r4_13, .int c5_13, .int c6_13, .int c7_1, .int r_2, .ref r9_13, .ref r10_13, .ref r11_13, .int c12_13, .int c13_13, .int c14_13, .int c15_13, .int c16_13] := ⟨r0_13, (n0_13), (c1_13), (c2_13), (c3_13), r4_13, (n4_13), (c5_13), (c6_13), (c7_1), (r_2), r9_13, (n9_13), r10_13, (n10_13), r11_13, (n11_13), (c12_13), (c13_13), (c14_13), (c15_13), (c16_13), rfl, a_r0_13, f1_13, a_r4_13, f3_13, a_r9_13, f5_13, a_r10_13, f7_13, a_r11_13, f9_13, f10_13, f11_13, f12_13, f13_13, f14_13, trivial⟩
  obtain ⟨ws_15, e_ws_15⟩ : ∃ z, z = ws_3.set k_1 (h0, .inr (6, [.ref r0_13, .int c1_13, .int c2_13, .int c3_13, .ref r4_13, .int c5_13, .int c6_13, .int c7_1, .int r_2, .ref r9_13, .ref r10_13, .ref r11_13, .int c12_13, .int c13_13, .int c14_13, .int c15_13, .int c16_13])) := ⟨_, rfl⟩
  have hP : va_P (gD g) cl0 ws_15 H := by rw [e_ws_15]; exact hP
  have hD : va_D A ws_15 := by rw [e_ws_15]; exact hD
  have E_16 : gE ws_3 ws_15 := gE_set e_ws_15 hk_13 (cw_o (fi := 8) (v := .int r_2) rfl (by decide))
  have hG : Good g ws_15 := Good_set (fi := 8) (v := .int r_2) e_ws_15 hk_13 E_16 rfl hV9 hG (ivX7 hi_14)
  have Fr_17 : gF [(6, 8)] [] (some h0) ws_3 ws_15 := gF_put (fi := 8) (v := .int r_2) e_ws_15 hk_13 rfl (by decide)
  have hkN := gset_self e_ws_15 hk_13
  have hk_13 := hkN
  have o_h0 := E_16.1 _ _ o_h0
  have a_r0_13 := E_16.1 _ _ a_r0_13
  have a_r4_13 := E_16.1 _ _ a_r4_13
  have a_r9_13 := E_16.1 _ _ a_r9_13
  have a_r10_13 := E_16.1 _ _ a_r10_13
  have a_r11_13 := E_16.1 _ _ a_r11_13
  refine lv_aload_n hx hb dX7_methodsFit_12 rfl (lv_at hl 0 rfl) ?_
  refine va_get (D := gD g) (ci := 6) (v := .int r_2) (C := RX7) (T := TX7) (N := 17) hx hb hts inX7 hown hK hP k_1 hk_13 rfl 8 (by decide) (hts _ kw_1285) (fun _ h9 => h9) rfl dX7_methodsFit_13 ?_
  have J_24 : ∀ (t_18 : Int32) (H : Heap) (locs : List Loc) (ls : Array Slot), t_18 = 0 ∨ t_18 = 1 → gP ws_15 h0 (fun fs => ∀ c : Int32, fs[8]? = some (.int c) → t_18.toInt = 0 ∨ (0 ≤ c.toInt ∧ c.toInt ≤ 24)) → va_P (gD g) cl0 ws_15 H → va_D A ws_15 → va_S A s.heap H locs → lv_has ls 1 [] → W p l e (headSpec (wt yX7_methodsFit cX7_methodsFit 1 (some .boolean)) ({ frames := 4, cells := 0, slots := 0, locals := 90 })).room s m ([.ref h0] : List Value).toArray below meth c H locs (0) (0) (MQ below (va_Qi (fun (r : Int32) (u9 : va_W) => (r = 0 ∨ r = 1) ∧ gP u9 h0 (fun fs => ∀ c : Int32, fs[8]? = some (.int c) → r.toInt = 0 ∨ (0 ≤ c.toInt ∧ c.toInt ≤ 24))) (gQ1 g [(6, 2), (6, 3), (6, 8), (6, 15)] [(6, 9)] none A ws) A) ([.ref h0] : List Value).toArray s (0) (0) A) (F0 m 24 ls [.int t_18]) := by
    intro t_18 H locs ls iv_19 jf_24_m hP hD hS hl
    have hz_t_18 := iv_19
    refine W.widen (k := 0) (n := 0) (Nat.le_of_ble_eq_true rfl) (Nat.le_of_ble_eq_true rfl) ?_
    obtain ⟨k_22, fs9, hk_22⟩ := gC_of o_h0
    obtain ⟨r0_22, n0_22, c1_22, c2_22, c3_22, r4_22, n4_22, c5_22, c6_22, c7_22, c8_22, r9_22, n9_22, r10_22, n10_22, r11_22, n11_22, c12_22, c13_22, c14_22, c15_22, c16_22, rfl, a_r0_22, f1_22, a_r4_22, f3_22, a_r9_22, f5_22, a_r10_22, f7_22, a_r11_22, f9_22, f10_22, f11_22, f12_22, f13_22, f14_22, -⟩ := (hG.1 _ _ _ _ hk_22).hX7 rfl
    have kq_23 := jf_24_m _ _ _ hk_22 _ rfl
    exact W.zret (v := t_18) hx hb hr (nz hz_t_18) (fun t9 ht9 hW9 => ⟨⟨_, ws_15, rfl, ⟨hz_t_18, (gP_of hD hk_22 (fun q90 e90 => by cases e90; exact (by have q_kq_23 := kq_23; have g_c8_22 := i_rg c8_22; have g_t_18 := i_rg t_18; have b_t_18 := i_bit hz_t_18; omega)))⟩, ⟨(E_4.tr E_16), (gF.tr (gF.mo (F' := [(6, 2), (6, 3), (6, 8), (6, 15)]) (C' := [(6, 9)]) (S' := none) Fr_5 (by decide) (fun _ h => h) (Or.inr rfl)) (gF.mo (F' := [(6, 2), (6, 3), (6, 8), (6, 15)]) (C' := [(6, 9)]) (S' := none) Fr_17 (by decide) (fun _ h => absurd h List.not_mem_nil) (Or.inl rfl))), hG, by rw [ht9]; exact hP, hD⟩⟩, hS.F ht9⟩) hS.2.2 dX7_methodsFit_24
  refine lv_if_lt (tgt := 23) hx hb dX7_methodsFit_16 (by decide) (fun c_24 => ?_) (fun c_24 => ?_)
  · refine lv_iconst (v := 0) hx hb dX7_methodsFit_23 (by decide) ?_
    exact J_24 (0) H locs ls (Or.inl rfl) (gP_of hD hk_13 (fun q90 e90 => by cases e90; exact (by have e0 : (0 : Int32).toInt = 0 := (by decide); have q_r_2 := h_r_2; have q_c_24 := i_lt c_24; have g_r_2 := i_rg r_2; omega))) hP hD hS (lv_sub hl [] rfl)
  · refine lv_iconst (v := 1) hx hb dX7_methodsFit_19 (by decide) ?_
    refine lv_goto (tgt := 24) hx hb dX7_methodsFit_20 (by decide) ?_
    exact J_24 (1) H locs ls (Or.inr rfl) (gP_of hD hk_13 (fun q90 e90 => by cases e90; exact (by have e0 : (0 : Int32).toInt = 0 := (by decide); have e1 : (1 : Int32).toInt = 1 := (by decide); have q_r_2 := h_r_2; have q_c_24 := i_nlt c_24; have g_r_2 := i_rg r_2; omega))) hP hD hS (lv_sub hl [] rfl)
set_option maxHeartbeats 1000000 in
set_option maxRecDepth 100000 in
theorem m_X7_isSound_w (l : Launch) (g : Gm) (H0 : Heap) (ws : va_W) (h0 : Nat) (b1 : Nat) (hG : Good g ws) (o_h0 : gC ws h0 6) (o_b1 : gC ws b1 0) (fp_s : gP ws b1 (fun fs => ∀ c : Int32, fs[1]? = some (.int c) → c.toInt ≤ 131072)) : Met l yX7_isSound (wt yX7_isSound cX7_isSound 2 (some .boolean)) ({ frames := 6, cells := PC ws + (0), slots := PS ws + (0), locals := 135 }) (va_Pc [.ref h0, .ref b1] (st_H g H0 ws)) (va_Qi (fun (r : Int32) (u9 : va_W) => (r = 0 ∨ r = 1) ∧ gP u9 h0 (fun fs => ∀ c : Int32, fs[7]? = some (.int c) → r.toInt = 0 ∨ (0 ≤ c.toInt ∧ c.toInt ≤ 24)) ∧ gP u9 h0 (fun fs => ∀ c : Int32, fs[8]? = some (.int c) → r.toInt = 0 ∨ (0 ≤ c.toInt ∧ c.toInt ≤ 24)) ∧ gP u9 h0 (fun fs => ∀ c : Int32, fs[1]? = some (.int c) → r.toInt = 0 ∨ c.toInt ≤ 131072)) (gQ2 g [(6, 0), (6, 1), (6, 2), (6, 3), (6, 5), (6, 6), (6, 7), (6, 8), (6, 12), (6, 13), (6, 14), (6, 15), (6, 16)] [(6, 4), (6, 9), (6, 10), (6, 11)] none (va_A ws H0.size) ws H0 (0) (0)) (va_A ws H0.size)) (PC ws + (0)) (PS ws + (0)) (va_A ws H0.size) := by
  refine Met.ofW (cc := cX7_isSound) (maxL := 2) (ret := (some .boolean)) (by decide) rfl ?_
  intro p e s m args below meth c s₁ B hml hv
  obtain ⟨rfl, hH0, hsz, hP, hK, hD0, hex, hE⟩ := hv
  have hx := B.exec
  have hb := B.bytes
  have hr := B.returns
  have hts0 := atoms_spec (ws := wt yX7_isSound cX7_isSound 2 (some .boolean)) B.pre
  have hts : ∀ w ∈ tb, w.before _ s = true := fun w h => hts0 w (List.mem_cons_of_mem _ h)
  have hown : s.vm.findClass RX7 = some m.cls := findClass_of_methodNamed B.named
  subst hH0
  have hD := hD0.self (sz := s.heap.size)
  generalize hAe : va_A ws s.heap.size = A at hD hE ⊢
  have hA : ∀ q : Nat, s.heap.size ≤ q → A q := fun q h => by rw [← hAe]; exact Or.inr h
  have hS : va_S A s.heap s.heap [] := va_S.rf
  have hl := lv_entry ([.ref h0, .ref b1]) (n := 2) (Nat.le_of_ble_eq_true rfl)
  rw [lg_entry_eq]
  generalize (lg_sl ([.ref h0, .ref b1]) ++ List.replicate (2 - (lg_sl ([.ref h0, .ref b1])).length) Slot.unset).toArray = ls at hl ⊢
  have hl : lv_has ls 2 [(0, .ref h0), (1, .ref b1)] := hl
  obtain ⟨k_1, fs9, hk_1⟩ := gC_of o_b1
  obtain ⟨r0_1, n0_1, c1_1, rfl, a_r0_1, f1_1, f2_1, f3_1, f4_1, f5_1, -⟩ := (hG.1 _ _ _ _ hk_1).hX0 rfl
  have fq_s := fp_s _ _ _ hk_1 _ rfl
  refine lv_aload_n hx hb dX7_isSound_0 rfl (lv_at hl 0 rfl) ?_
  refine lv_aload_n hx hb dX7_isSound_1 rfl (lv_at hl 1 rfl) ?_
  refine va_get (D := gD g) (ci := 0) (v := .ref r0_1) (C := RX0) (T := TX0) (N := 2) hx hb hts inX0 hown hK hP k_1 hk_1 rfl 0 (by decide) (hts _ kw_1361) (fun _ h9 => h9) rfl dX7_isSound_2 ?_
  obtain ⟨k_2, fs9, hk_2⟩ := gC_of o_h0
  obtain ⟨r0_2, n0_2, c1_2, c2_2, c3_2, r4_2, n4_2, c5_2, c6_2, c7_2, c8_2, r9_2, n9_2, r10_2, n10_2, r11_2, n11_2, c12_2, c13_2, c14_2, c15_2, c16_2, rfl, a_r0_2, f1_2, a_r4_2, f3_2, a_r9_2, f5_2, a_r10_2, f7_2, a_r11_2, f9_2, f10_2, f11_2, f12_2, f13_2, f14_2, -⟩ := (hG.1 _ _ _ _ hk_2).hX7 rfl
  have hV9 : okv ws 6 0 (.ref r0_1) := (okv_b a_r0_1 (by decide) hk_1 (j := 0) rfl (by decide))
  refine va_put (D := gD g) (ci := 6) (v := .ref r0_1) (ty := (.array .byte)) (C := RX7) (T := TX7) (N := 17) hx hb hts inX7 tyX7 tyX7_ok nmX7 hown hK hP hD hS k_2 hk_2 rfl 0 (by decide) (hts _ kw_1341) (fun _ h9 => h9) rfl (by decide +kernel) rfl rfl (Nat.le_of_ble_eq_true rfl) dX7_isSound_5 (fun H locs hP hD hS => ?_)
  have hi_3 : invX7 g ws h0 [.ref r0_1, .int c1_2, .int c2_2, .int c3_2, .ref r4_2, .int c5_2, .int c6_2, .int c7_2, .int c8_2, .ref r9_2, .ref r10_2, .ref r11_2, .int c12_2, .int c13_2, .int c14_2, .int c15_2, .int c16_2] := ⟨r0_1, (n0_1), (c1_2), (c2_2), (c3_2), r4_2, (n4_2), (c5_2), (c6_2), (c7_2), (c8_2), r9_2, (n9_2), r10_2, (n10_2), r11_2, (n11_2), (c12_2), (c13_2), (c14_2), (c15_2), (c16_2), rfl, a_r0_1, f1_1, a_r4_2, f3_2, a_r9_2, f5_2, a_r10_2, f7_2, a_r11_2, f9_2, f10_2, f11_2, f12_2, f13_2, f14_2, trivial⟩
  obtain ⟨ws_4, e_ws_4⟩ : ∃ z, z = ws.set k_2 (h0, .inr (6, [.ref r0_1, .int c1_2, .int c2_2, .int c3_2, .ref r4_2, .int c5_2, .int c6_2, .int c7_2, .int c8_2, .ref r9_2, .ref r10_2, .ref r11_2, .int c12_2, .int c13_2, .int c14_2, .int c15_2, .int c16_2])) := ⟨_, rfl⟩
  have hP : va_P (gD g) cl0 ws_4 H := by rw [e_ws_4]; exact hP
  have hD : va_D A ws_4 := by rw [e_ws_4]; exact hD
  have E_5 : gE ws ws_4 := gE_set e_ws_4 hk_2 (cw_o (fi := 0) (v := .ref r0_1) rfl (by decide))
  have hG : Good g ws_4 := Good_set (fi := 0) (v := .ref r0_1) e_ws_4 hk_2 E_5 rfl hV9 hG (ivX7 hi_3)
  have Fr_6 : gF [(6, 0)] [] (some h0) ws ws_4 := gF_put (fi := 0) (v := .ref r0_1) e_ws_4 hk_2 rfl (by decide)
  have pp_7 := Fr_6.pp
  have hkN := gset_self e_ws_4 hk_2
  have hk_1 := gset_ob e_ws_4 hk_2 hk_1 (by decide)
  have hk_2 := hkN
  have o_h0 := E_5.1 _ _ o_h0
  have o_b1 := E_5.1 _ _ o_b1
  have a_r0_1 := E_5.1 _ _ a_r0_1
  have a_r4_2 := E_5.1 _ _ a_r4_2
  have a_r9_2 := E_5.1 _ _ a_r9_2
  have a_r10_2 := E_5.1 _ _ a_r10_2
  have a_r11_2 := E_5.1 _ _ a_r11_2
  refine lv_aload_n hx hb dX7_isSound_8 rfl (lv_at hl 0 rfl) ?_
  refine lv_aload_n hx hb dX7_isSound_9 rfl (lv_at hl 1 rfl) ?_
  refine va_get (D := gD g) (ci := 0) (v := .int c1_1) (C := RX0) (T := TX0) (N := 2) hx hb hts inX0 hown hK hP k_1 hk_1 rfl 1 (by decide) (hts _ kw_1362) (fun _ h9 => h9) rfl dX7_isSound_10 ?_
  have hV9 : okv ws_4 6 1 (.int c1_1) := okv_i
  refine va_put (D := gD g) (ci := 6) (v := .int c1_1) (ty := .int) (C := RX7) (T := TX7) (N := 17) hx hb hts inX7 tyX7 tyX7_ok nmX7 hown hK hP hD hS k_2 hk_2 rfl 1 (by decide) (hts _ kw_1275) (fun _ h9 => h9) rfl (by decide +kernel) rfl rfl (Nat.le_of_ble_eq_true rfl) dX7_isSound_13 (fun H locs hP hD hS => ?_)
  have f_8 : 0 ≤ c1_1.toInt := (by have q_f2_1 := f2_1; have q_f3_1 := f3_1; have q_fq_s := fq_s; have q_f1_1 := f1_1; have q_f4_1 := f4_1; have q_f5_1 := f5_1; have g_c1_1 := i_rg c1_1; omega)
  have hi_9 : invX7 g ws_4 h0 [.ref r0_1, .int c1_1, .int c2_2, .int c3_2, .ref r4_2, .int c5_2, .int c6_2, .int c7_2, .int c8_2, .ref r9_2, .ref r10_2, .ref r11_2, .int c12_2, .int c13_2, .int c14_2, .int c15_2, .int c16_2] := ⟨r0_1, (n0_1), (c1_1), (c2_2), (c3_2), r4_2, (n4_2), (c5_2), (c6_2), (c7_2), (c8_2), r9_2, (n9_2), r10_2, (n10_2), r11_2, (n11_2), (c12_2), (c13_2), (c14_2), (c15_2), (c16_2), rfl, a_r0_1, f1_1, a_r4_2, f3_2, a_r9_2, f5_2, a_r10_2, f7_2, a_r11_2, f9_2, f_8, f11_2, f12_2, f13_2, f14_2, trivial⟩
  obtain ⟨ws_10, e_ws_10⟩ : ∃ z, z = ws_4.set k_2 (h0, .inr (6, [.ref r0_1, .int c1_1, .int c2_2, .int c3_2, .ref r4_2, .int c5_2, .int c6_2, .int c7_2, .int c8_2, .ref r9_2, .ref r10_2, .ref r11_2, .int c12_2, .int c13_2, .int c14_2, .int c15_2, .int c16_2])) := ⟨_, rfl⟩
  have hP : va_P (gD g) cl0 ws_10 H := by rw [e_ws_10]; exact hP
  have hD : va_D A ws_10 := by rw [e_ws_10]; exact hD
  have E_11 : gE ws_4 ws_10 := gE_set e_ws_10 hk_2 (cw_o (fi := 1) (v := .int c1_1) rfl (by decide))
  have hG : Good g ws_10 := Good_set (fi := 1) (v := .int c1_1) e_ws_10 hk_2 E_11 rfl hV9 hG (ivX7 hi_9)
  have Fr_12 : gF [(6, 1)] [] (some h0) ws_4 ws_10 := gF_put (fi := 1) (v := .int c1_1) e_ws_10 hk_2 rfl (by decide)
  have pp_13 := Fr_12.pp
  have hkN := gset_self e_ws_10 hk_2
  have hk_1 := gset_ob e_ws_10 hk_2 hk_1 (by decide)
  have hk_2 := hkN
  have o_h0 := E_11.1 _ _ o_h0
  have o_b1 := E_11.1 _ _ o_b1
  have a_r0_1 := E_11.1 _ _ a_r0_1
  have a_r4_2 := E_11.1 _ _ a_r4_2
  have a_r9_2 := E_11.1 _ _ a_r9_2
  have a_r10_2 := E_11.1 _ _ a_r10_2
  have a_r11_2 := E_11.1 _ _ a_r11_2
  refine lv_aload_n hx hb dX7_isSound_16 rfl (lv_at hl 0 rfl) ?_
  refine lv_iconst (v := 0) hx hb dX7_isSound_17 (by decide) ?_
  have hV9 : okv ws_10 6 2 (.int 0) := okv_i
  refine va_put (D := gD g) (ci := 6) (v := .int 0) (ty := .int) (C := RX7) (T := TX7) (N := 17) hx hb hts inX7 tyX7 tyX7_ok nmX7 hown hK hP hD hS k_2 hk_2 rfl 2 (by decide) (hts _ kw_1280) (fun _ h9 => h9) rfl (by decide +kernel) rfl rfl (Nat.le_of_ble_eq_true rfl) dX7_isSound_18 (fun H locs hP hD hS => ?_)
  have hi_14 : invX7 g ws_10 h0 [.ref r0_1, .int c1_1, .int 0, .int c3_2, .ref r4_2, .int c5_2, .int c6_2, .int c7_2, .int c8_2, .ref r9_2, .ref r10_2, .ref r11_2, .int c12_2, .int c13_2, .int c14_2, .int c15_2, .int c16_2] := ⟨r0_1, (n0_1), (c1_1), (0), (c3_2), r4_2, (n4_2), (c5_2), (c6_2), (c7_2), (c8_2), r9_2, (n9_2), r10_2, (n10_2), r11_2, (n11_2), (c12_2), (c13_2), (c14_2), (c15_2), (c16_2), rfl, a_r0_1, f1_1, a_r4_2, f3_2, a_r9_2, f5_2, a_r10_2, f7_2, a_r11_2, f9_2, f_8, f11_2, f12_2, f13_2, f14_2, trivial⟩
  obtain ⟨ws_15, e_ws_15⟩ : ∃ z, z = ws_10.set k_2 (h0, .inr (6, [.ref r0_1, .int c1_1, .int 0, .int c3_2, .ref r4_2, .int c5_2, .int c6_2, .int c7_2, .int c8_2, .ref r9_2, .ref r10_2, .ref r11_2, .int c12_2, .int c13_2, .int c14_2, .int c15_2, .int c16_2])) := ⟨_, rfl⟩
  have hP : va_P (gD g) cl0 ws_15 H := by rw [e_ws_15]; exact hP
  have hD : va_D A ws_15 := by rw [e_ws_15]; exact hD
  have E_16 : gE ws_10 ws_15 := gE_set e_ws_15 hk_2 (cw_o (fi := 2) (v := .int 0) rfl (by decide))
  have hG : Good g ws_15 := Good_set (fi := 2) (v := .int 0) e_ws_15 hk_2 E_16 rfl hV9 hG (ivX7 hi_14)
  have Fr_17 : gF [(6, 2)] [] (some h0) ws_10 ws_15 := gF_put (fi := 2) (v := .int 0) e_ws_15 hk_2 rfl (by decide)
  have pp_18 := Fr_17.pp
  have hkN := gset_self e_ws_15 hk_2
  have hk_1 := gset_ob e_ws_15 hk_2 hk_1 (by decide)
  have hk_2 := hkN
  have o_h0 := E_16.1 _ _ o_h0
  have o_b1 := E_16.1 _ _ o_b1
  have a_r0_1 := E_16.1 _ _ a_r0_1
  have a_r4_2 := E_16.1 _ _ a_r4_2
  have a_r9_2 := E_16.1 _ _ a_r9_2
  have a_r10_2 := E_16.1 _ _ a_r10_2
  have a_r11_2 := E_16.1 _ _ a_r11_2
  refine lv_aload_n hx hb dX7_isSound_21 rfl (lv_at hl 0 rfl) ?_
  refine lv_iconst (v := (-1)) hx hb dX7_isSound_22 (by decide) ?_
  have hV9 : okv ws_15 6 3 (.int (-1)) := okv_i
  refine va_put (D := gD g) (ci := 6) (v := .int (-1)) (ty := .int) (C := RX7) (T := TX7) (N := 17) hx hb hts inX7 tyX7 tyX7_ok nmX7 hown hK hP hD hS k_2 hk_2 rfl 3 (by decide) (hts _ kw_1281) (fun _ h9 => h9) rfl (by decide +kernel) rfl rfl (Nat.le_of_ble_eq_true rfl) dX7_isSound_23 (fun H locs hP hD hS => ?_)
  have hi_19 : invX7 g ws_15 h0 [.ref r0_1, .int c1_1, .int 0, .int (-1), .ref r4_2, .int c5_2, .int c6_2, .int c7_2, .int c8_2, .ref r9_2, .ref r10_2, .ref r11_2, .int c12_2, .int c13_2, .int c14_2, .int c15_2, .int c16_2] := ⟨r0_1, (n0_1), (c1_1), (0), ((-1)), r4_2, (n4_2), (c5_2), (c6_2), (c7_2), (c8_2), r9_2, (n9_2), r10_2, (n10_2), r11_2, (n11_2), (c12_2), (c13_2), (c14_2), (c15_2), (c16_2), rfl, a_r0_1, f1_1, a_r4_2, f3_2, a_r9_2, f5_2, a_r10_2, f7_2, a_r11_2, f9_2, f_8, f11_2, f12_2, f13_2, f14_2, trivial⟩
  obtain ⟨ws_20, e_ws_20⟩ : ∃ z, z = ws_15.set k_2 (h0, .inr (6, [.ref r0_1, .int c1_1, .int 0, .int (-1), .ref r4_2, .int c5_2, .int c6_2, .int c7_2, .int c8_2, .ref r9_2, .ref r10_2, .ref r11_2, .int c12_2, .int c13_2, .int c14_2, .int c15_2, .int c16_2])) := ⟨_, rfl⟩
  have hP : va_P (gD g) cl0 ws_20 H := by rw [e_ws_20]; exact hP
  have hD : va_D A ws_20 := by rw [e_ws_20]; exact hD
  have E_21 : gE ws_15 ws_20 := gE_set e_ws_20 hk_2 (cw_o (fi := 3) (v := .int (-1)) rfl (by decide))
  have hG : Good g ws_20 := Good_set (fi := 3) (v := .int (-1)) e_ws_20 hk_2 E_21 rfl hV9 hG (ivX7 hi_19)
  have Fr_22 : gF [(6, 3)] [] (some h0) ws_15 ws_20 := gF_put (fi := 3) (v := .int (-1)) e_ws_20 hk_2 rfl (by decide)
  have pp_23 := Fr_22.pp
  have hkN := gset_self e_ws_20 hk_2
  have hk_1 := gset_ob e_ws_20 hk_2 hk_1 (by decide)
  have hk_2 := hkN
  have o_h0 := E_21.1 _ _ o_h0
  have o_b1 := E_21.1 _ _ o_b1
  have a_r0_1 := E_21.1 _ _ a_r0_1
  have a_r4_2 := E_21.1 _ _ a_r4_2
  have a_r9_2 := E_21.1 _ _ a_r9_2
  have a_r10_2 := E_21.1 _ _ a_r10_2
  have a_r11_2 := E_21.1 _ _ a_r11_2
  refine lv_aload_n hx hb dX7_isSound_26 rfl (lv_at hl 0 rfl) ?_
  refine lv_iconst (v := 0) hx hb dX7_isSound_27 (by decide) ?_
  have hV9 : okv ws_20 6 15 (.int 0) := okv_i
  refine va_put (D := gD g) (ci := 6) (v := .int 0) (ty := .int) (C := RX7) (T := TX7) (N := 17) hx hb hts inX7 tyX7 tyX7_ok nmX7 hown hK hP hD hS k_2 hk_2 rfl 15 (by decide) (hts _ kw_1273) (fun _ h9 => h9) rfl (by decide +kernel) rfl rfl (Nat.le_of_ble_eq_true rfl) dX7_isSound_28 (fun H locs hP hD hS => ?_)
  have hi_24 : invX7 g ws_20 h0 [.ref r0_1, .int c1_1, .int 0, .int (-1), .ref r4_2, .int c5_2, .int c6_2, .int c7_2, .int c8_2, .ref r9_2, .ref r10_2, .ref r11_2, .int c12_2, .int c13_2, .int c14_2, .int 0, .int c16_2] := ⟨r0_1, (n0_1), (c1_1), (0), ((-1)), r4_2, (n4_2), (c5_2), (c6_2), (c7_2), (c8_2), r9_2, (n9_2), r10_2, (n10_2), r11_2, (n11_2), (c12_2), (c13_2), (c14_2), (0), (c16_2), rfl, a_r0_1, f1_1, a_r4_2, f3_2, a_r9_2, f5_2, a_r10_2, f7_2, a_r11_2, f9_2, f_8, f11_2, f12_2, f13_2, f14_2, trivial⟩
  obtain ⟨ws_25, e_ws_25⟩ : ∃ z, z = ws_20.set k_2 (h0, .inr (6, [.ref r0_1, .int c1_1, .int 0, .int (-1), .ref r4_2, .int c5_2, .int c6_2, .int c7_2, .int c8_2, .ref r9_2, .ref r10_2, .ref r11_2, .int c12_2, .int c13_2, .int c14_2, .int 0, .int c16_2])) := ⟨_, rfl⟩
  have hP : va_P (gD g) cl0 ws_25 H := by rw [e_ws_25]; exact hP
  have hD : va_D A ws_25 := by rw [e_ws_25]; exact hD
  have E_26 : gE ws_20 ws_25 := gE_set e_ws_25 hk_2 (cw_o (fi := 15) (v := .int 0) rfl (by decide))
  have hG : Good g ws_25 := Good_set (fi := 15) (v := .int 0) e_ws_25 hk_2 E_26 rfl hV9 hG (ivX7 hi_24)
  have Fr_27 : gF [(6, 15)] [] (some h0) ws_20 ws_25 := gF_put (fi := 15) (v := .int 0) e_ws_25 hk_2 rfl (by decide)
  have pp_28 := Fr_27.pp
  have hkN := gset_self e_ws_25 hk_2
  have hk_1 := gset_ob e_ws_25 hk_2 hk_1 (by decide)
  have hk_2 := hkN
  have o_h0 := E_26.1 _ _ o_h0
  have o_b1 := E_26.1 _ _ o_b1
  have a_r0_1 := E_26.1 _ _ a_r0_1
  have a_r4_2 := E_26.1 _ _ a_r4_2
  have a_r9_2 := E_26.1 _ _ a_r9_2
  have a_r10_2 := E_26.1 _ _ a_r10_2
  have a_r11_2 := E_26.1 _ _ a_r11_2
  refine lv_aload_n hx hb dX7_isSound_31 rfl (lv_at hl 0 rfl) ?_
  have hFc := gfree hD hS hA
  refine va_calli (va_runV (As := []) (rest := []) ⟨hx, hb, hml, hown, hts⟩ (m_X7_magicHolds l g H.size ws_25 h0 hG o_h0) (cwV 0 hts (gd_V kw_1363 kw_1391 kw_1392 kw_710 kw_1390) rfl rfl rfl (by decide +kernel) ⟨Nat.le_of_ble_eq_true rfl, Nat.le_of_ble_eq_true rfl⟩) ⟨gblind, va_recv hK hP (ci := 6) (q0 := k_2) rfl hk_2, fun U hU hW9 => gmk hU hW9 hP hK hD hex hE hS hFc⟩ rfl rfl hl.1 rfl (lv_room (Nat.le_of_ble_eq_true rfl)) dX7_isSound_32 ⟨(show 0 + 0 ≤ PC ws + (0) from (by have e0 : (0 : Int32).toInt = 0 := (by decide); omega)), (show 0 + 0 ≤ PS ws + (0) from (by have e0 : (0 : Int32).toInt = 0 := (by decide); omega))⟩) hS (fun q _ h => hFc q h) hFc (fun r_29 ws_30 t9 H1 locs ht9 hvm9 hw9 hB9 hz9 hk9 hS => ?_)
  obtain ⟨E_31, Fr_32, hG, hP1, hD1⟩ := hB9
  have hP : va_P (gD g) cl0 ws_30 H1 := by rw [← ht9]; exact hP1
  have hD : va_D A ws_30 := hD1.weaken (fun _ _ _ h => hFc _ h)
  have hz_r_29 : r_29 = 0 ∨ r_29 = 1 := hw9
  clear hP1 hD1 hz9 hk9 hvm9 ht9 hw9
  generalize H1 = H at hP hS ⊢
  have aa_35 := a_r0_1
  have aa_36 := a_r0_1
  have aa_37 := a_r4_2
  have aa_38 := a_r9_2
  have aa_39 := a_r10_2
  have aa_40 := a_r11_2
  have o_h0 := E_31.1 _ _ o_h0
  have o_b1 := E_31.1 _ _ o_b1
  have pp_41 := Fr_32.pp
  refine lv_if_eq (tgt := 150) hx hb dX7_isSound_35 (by decide) (fun c_42 => ?_) (fun c_42 => ?_)
  · refine lv_iconst (v := 0) hx hb dX7_isSound_150 (by decide) ?_
    refine W_led (fun hLd => ?_)
    have hcl : 0 + PC ws_30 ≤ PC ws + (0) := (by have e0 : (0 : Int32).toInt = 0 := (by decide); omega)
    have hsl : 0 + PS ws_30 ≤ PS ws + (0) := (by have e0 : (0 : Int32).toInt = 0 := (by decide); omega)
    refine W.widen (k := PC ws + (0)) (n := PS ws + (0)) (by omega) (by omega) ?_
    obtain ⟨fs9, hk_43, hq_43⟩ := ((gF.a (F' := [(6, 2), (6, 3), (6, 15)]) Fr_32 (fun _ h => h))) _ _ _ hk_2
    obtain ⟨r0_43, n0_43, c1_43, c2_43, c3_43, r4_43, n4_43, c5_43, c6_43, c7_43, c8_43, r9_43, n9_43, r10_43, n10_43, r11_43, n11_43, c12_43, c13_43, c14_43, c15_43, c16_43, rfl, a_r0_43, f1_43, a_r4_43, f3_43, a_r9_43, f5_43, a_r10_43, f7_43, a_r11_43, f9_43, f10_43, f11_43, f12_43, f13_43, f14_43, -⟩ := (hG.1 _ _ _ _ hk_43).hX7 rfl
    obtain rfl := fe_i (hq_43 1 (by decide))
    obtain rfl := fe_i (hq_43 7 (by decide))
    obtain rfl := fe_i (hq_43 8 (by decide))
    exact W.zret (v := 0) hx hb hr (nz (Or.inl rfl)) (fun t9 ht9 hW9 => ⟨⟨_, ws_30, rfl, ⟨(Or.inl rfl), (gP_of hD hk_43 (fun q90 e90 => by cases e90; exact (by have e0 : (0 : Int32).toInt = 0 := (by decide); have g_c7_2 := i_rg c7_2; omega))), (gP_of hD hk_43 (fun q90 e90 => by cases e90; exact (by have e0 : (0 : Int32).toInt = 0 := (by decide); have g_c8_2 := i_rg c8_2; omega))), (gP_of hD hk_43 (fun q90 e90 => by cases e90; exact (by have e0 : (0 : Int32).toInt = 0 := (by decide); have q_f2_1 := f2_1; have q_f3_1 := f3_1; have q_fq_s := fq_s; have q_f_8 := f_8; have q_f1_1 := f1_1; have q_f4_1 := f4_1; have q_f5_1 := f5_1; have g_c1_1 := i_rg c1_1; omega)))⟩, ⟨(E_5.tr (E_11.tr (E_16.tr (E_21.tr (E_26.tr E_31))))), (gF.tr (gF.mo (F' := [(6, 0), (6, 1), (6, 2), (6, 3), (6, 5), (6, 6), (6, 7), (6, 8), (6, 12), (6, 13), (6, 14), (6, 15), (6, 16)]) (C' := [(6, 4), (6, 9), (6, 10), (6, 11)]) (S' := none) Fr_6 (by decide) (fun _ h => absurd h List.not_mem_nil) (Or.inl rfl)) (gF.tr (gF.mo (F' := [(6, 0), (6, 1), (6, 2), (6, 3), (6, 5), (6, 6), (6, 7), (6, 8), (6, 12), (6, 13), (6, 14), (6, 15), (6, 16)]) (C' := [(6, 4), (6, 9), (6, 10), (6, 11)]) (S' := none) Fr_12 (by decide) (fun _ h => absurd h List.not_mem_nil) (Or.inl rfl)) (gF.tr (gF.mo (F' := [(6, 0), (6, 1), (6, 2), (6, 3), (6, 5), (6, 6), (6, 7), (6, 8), (6, 12), (6, 13), (6, 14), (6, 15), (6, 16)]) (C' := [(6, 4), (6, 9), (6, 10), (6, 11)]) (S' := none) Fr_17 (by decide) (fun _ h => absurd h List.not_mem_nil) (Or.inl rfl)) (gF.tr (gF.mo (F' := [(6, 0), (6, 1), (6, 2), (6, 3), (6, 5), (6, 6), (6, 7), (6, 8), (6, 12), (6, 13), (6, 14), (6, 15), (6, 16)]) (C' := [(6, 4), (6, 9), (6, 10), (6, 11)]) (S' := none) Fr_22 (by decide) (fun _ h => absurd h List.not_mem_nil) (Or.inl rfl)) (gF.tr (gF.mo (F' := [(6, 0), (6, 1), (6, 2), (6, 3), (6, 5), (6, 6), (6, 7), (6, 8), (6, 12), (6, 13), (6, 14), (6, 15), (6, 16)]) (C' := [(6, 4), (6, 9), (6, 10), (6, 11)]) (S' := none) Fr_27 (by decide) (fun _ h => absurd h List.not_mem_nil) (Or.inl rfl)) (gF.mo (F' := [(6, 0), (6, 1), (6, 2), (6, 3), (6, 5), (6, 6), (6, 7), (6, 8), (6, 12), (6, 13), (6, 14), (6, 15), (6, 16)]) (C' := [(6, 4), (6, 9), (6, 10), (6, 11)]) (S' := none) Fr_32 (by decide) (fun _ h => absurd h List.not_mem_nil) (Or.inr rfl))))))), hG, by rw [ht9]; exact hP, hD, _, _, by rw [ht9]; exact hLd, hcl, hsl⟩⟩, hS.F ht9⟩) hS.2.2 dX7_isSound_151
  · refine lv_aload_n hx hb dX7_isSound_38 rfl (lv_at hl 0 rfl) ?_
    have hFc := gfree hD hS hA
    obtain ⟨k_44, fs_44, hk_44⟩ := gC_of o_h0
    refine va_calli (va_runV (As := []) (rest := []) ⟨hx, hb, hml, hown, hts⟩ (m_X7_poolFits l g H.size ws_30 h0 hG o_h0) (cwV 0 hts (gd_V kw_1364 kw_1424 kw_1425 kw_710 kw_1423) rfl rfl rfl (by decide +kernel) ⟨Nat.le_of_ble_eq_true rfl, Nat.le_of_ble_eq_true rfl⟩) ⟨gblind, va_recv hK hP (ci := 6) (q0 := k_44) rfl hk_44, fun U hU hW9 => gmk hU hW9 hP hK hD hex hE hS hFc⟩ rfl rfl hl.1 rfl (lv_room (Nat.le_of_ble_eq_true rfl)) dX7_isSound_39 ⟨(show 0 + 0 ≤ PC ws + (0) from (by have e0 : (0 : Int32).toInt = 0 := (by decide); omega)), (show 0 + 0 ≤ PS ws + (0) from (by have e0 : (0 : Int32).toInt = 0 := (by decide); omega))⟩) hS (fun q _ h => hFc q h) hFc (fun r_45 ws_46 t9 H1 locs ht9 hvm9 hw9 hB9 hz9 hk9 hS => ?_)
    obtain ⟨E_47, Fr_48, hG, hP1, hD1⟩ := hB9
    have hP : va_P (gD g) cl0 ws_46 H1 := by rw [← ht9]; exact hP1
    have hD : va_D A ws_46 := hD1.weaken (fun _ _ _ h => hFc _ h)
    have hz_r_45 : r_45 = 0 ∨ r_45 = 1 := hw9
    clear hP1 hD1 hz9 hk9 hvm9 ht9 hw9
    generalize H1 = H at hP hS ⊢
    have o_h0 := E_47.1 _ _ o_h0
    have o_b1 := E_47.1 _ _ o_b1
    have pp_51 := Fr_48.pp
    refine lv_if_eq (tgt := 150) hx hb dX7_isSound_42 (by decide) (fun c_52 => ?_) (fun c_52 => ?_)
    · refine lv_iconst (v := 0) hx hb dX7_isSound_150 (by decide) ?_
      refine W_led (fun hLd => ?_)
      have hcl : 0 + PC ws_46 ≤ PC ws + (0) := (by have e0 : (0 : Int32).toInt = 0 := (by decide); omega)
      have hsl : 0 + PS ws_46 ≤ PS ws + (0) := (by have e0 : (0 : Int32).toInt = 0 := (by decide); omega)
      refine W.widen (k := PC ws + (0)) (n := PS ws + (0)) (by omega) (by omega) ?_
      obtain ⟨fs9, hk_53, hq_53⟩ := ((gA.tr (gF.a (F' := [(6, 2), (6, 3), (6, 5), (6, 15)]) Fr_32 (by decide)) (gF.a (F' := [(6, 2), (6, 3), (6, 5), (6, 15)]) Fr_48 (fun _ h => h)))) _ _ _ hk_2
      obtain ⟨r0_53, n0_53, c1_53, c2_53, c3_53, r4_53, n4_53, c5_53, c6_53, c7_53, c8_53, r9_53, n9_53, r10_53, n10_53, r11_53, n11_53, c12_53, c13_53, c14_53, c15_53, c16_53, rfl, a_r0_53, f1_53, a_r4_53, f3_53, a_r9_53, f5_53, a_r10_53, f7_53, a_r11_53, f9_53, f10_53, f11_53, f12_53, f13_53, f14_53, -⟩ := (hG.1 _ _ _ _ hk_53).hX7 rfl
      obtain rfl := fe_i (hq_53 1 (by decide))
      obtain rfl := fe_i (hq_53 7 (by decide))
      obtain rfl := fe_i (hq_53 8 (by decide))
      exact W.zret (v := 0) hx hb hr (nz (Or.inl rfl)) (fun t9 ht9 hW9 => ⟨⟨_, ws_46, rfl, ⟨(Or.inl rfl), (gP_of hD hk_53 (fun q90 e90 => by cases e90; exact (by have e0 : (0 : Int32).toInt = 0 := (by decide); have g_c7_2 := i_rg c7_2; omega))), (gP_of hD hk_53 (fun q90 e90 => by cases e90; exact (by have e0 : (0 : Int32).toInt = 0 := (by decide); have g_c8_2 := i_rg c8_2; omega))), (gP_of hD hk_53 (fun q90 e90 => by cases e90; exact (by have e0 : (0 : Int32).toInt = 0 := (by decide); have q_f2_1 := f2_1; have q_f3_1 := f3_1; have q_fq_s := fq_s; have q_f_8 := f_8; have q_f1_1 := f1_1; have q_f4_1 := f4_1; have q_f5_1 := f5_1; have g_c1_1 := i_rg c1_1; omega)))⟩, ⟨(E_5.tr (E_11.tr (E_16.tr (E_21.tr (E_26.tr (E_31.tr E_47)))))), (gF.tr (gF.mo (F' := [(6, 0), (6, 1), (6, 2), (6, 3), (6, 5), (6, 6), (6, 7), (6, 8), (6, 12), (6, 13), (6, 14), (6, 15), (6, 16)]) (C' := [(6, 4), (6, 9), (6, 10), (6, 11)]) (S' := none) Fr_6 (by decide) (fun _ h => absurd h List.not_mem_nil) (Or.inl rfl)) (gF.tr (gF.mo (F' := [(6, 0), (6, 1), (6, 2), (6, 3), (6, 5), (6, 6), (6, 7), (6, 8), (6, 12), (6, 13), (6, 14), (6, 15), (6, 16)]) (C' := [(6, 4), (6, 9), (6, 10), (6, 11)]) (S' := none) Fr_12 (by decide) (fun _ h => absurd h List.not_mem_nil) (Or.inl rfl)) (gF.tr (gF.mo (F' := [(6, 0), (6, 1), (6, 2), (6, 3), (6, 5), (6, 6), (6, 7), (6, 8), (6, 12), (6, 13), (6, 14), (6, 15), (6, 16)]) (C' := [(6, 4), (6, 9), (6, 10), (6, 11)]) (S' := none) Fr_17 (by decide) (fun _ h => absurd h List.not_mem_nil) (Or.inl rfl)) (gF.tr (gF.mo (F' := [(6, 0), (6, 1), (6, 2), (6, 3), (6, 5), (6, 6), (6, 7), (6, 8), (6, 12), (6, 13), (6, 14), (6, 15), (6, 16)]) (C' := [(6, 4), (6, 9), (6, 10), (6, 11)]) (S' := none) Fr_22 (by decide) (fun _ h => absurd h List.not_mem_nil) (Or.inl rfl)) (gF.tr (gF.mo (F' := [(6, 0), (6, 1), (6, 2), (6, 3), (6, 5), (6, 6), (6, 7), (6, 8), (6, 12), (6, 13), (6, 14), (6, 15), (6, 16)]) (C' := [(6, 4), (6, 9), (6, 10), (6, 11)]) (S' := none) Fr_27 (by decide) (fun _ h => absurd h List.not_mem_nil) (Or.inl rfl)) (gF.tr (gF.mo (F' := [(6, 0), (6, 1), (6, 2), (6, 3), (6, 5), (6, 6), (6, 7), (6, 8), (6, 12), (6, 13), (6, 14), (6, 15), (6, 16)]) (C' := [(6, 4), (6, 9), (6, 10), (6, 11)]) (S' := none) Fr_32 (by decide) (fun _ h => absurd h List.not_mem_nil) (Or.inr rfl)) (gF.mo (F' := [(6, 0), (6, 1), (6, 2), (6, 3), (6, 5), (6, 6), (6, 7), (6, 8), (6, 12), (6, 13), (6, 14), (6, 15), (6, 16)]) (C' := [(6, 4), (6, 9), (6, 10), (6, 11)]) (S' := none) Fr_48 (by decide) (by decide) (Or.inr rfl)))))))), hG, by rw [ht9]; exact hP, hD, _, _, by rw [ht9]; exact hLd, hcl, hsl⟩⟩, hS.F ht9⟩) hS.2.2 dX7_isSound_151
    · refine lv_aload_n hx hb dX7_isSound_45 rfl (lv_at hl 0 rfl) ?_
      have hFc := gfree hD hS hA
      obtain ⟨k_54, fs_54, hk_54⟩ := gC_of o_h0
      refine va_calli (va_runV (As := []) (rest := []) ⟨hx, hb, hml, hown, hts⟩ (m_X7_headFits l g H.size ws_46 h0 hG o_h0) (cwV 0 hts (gd_V kw_1365 kw_1333 kw_1334 kw_710 kw_1332) rfl rfl rfl (by decide +kernel) ⟨Nat.le_of_ble_eq_true rfl, Nat.le_of_ble_eq_true rfl⟩) ⟨gblind, va_recv hK hP (ci := 6) (q0 := k_54) rfl hk_54, fun U hU hW9 => gmk hU hW9 hP hK hD hex hE hS hFc⟩ rfl rfl hl.1 rfl (lv_room (Nat.le_of_ble_eq_true rfl)) dX7_isSound_46 ⟨(show 0 + 0 ≤ PC ws + (0) from (by have e0 : (0 : Int32).toInt = 0 := (by decide); omega)), (show 0 + 0 ≤ PS ws + (0) from (by have e0 : (0 : Int32).toInt = 0 := (by decide); omega))⟩) hS (fun q _ h => hFc q h) hFc (fun r_55 ws_56 t9 H1 locs ht9 hvm9 hw9 hB9 hz9 hk9 hS => ?_)
      obtain ⟨E_57, Fr_58, hG, hP1, hD1⟩ := hB9
      have hP : va_P (gD g) cl0 ws_56 H1 := by rw [← ht9]; exact hP1
      have hD : va_D A ws_56 := hD1.weaken (fun _ _ _ h => hFc _ h)
      have hz_r_55 : r_55 = 0 ∨ r_55 = 1 := hw9
      clear hP1 hD1 hz9 hk9 hvm9 ht9 hw9
      generalize H1 = H at hP hS ⊢
      have o_h0 := E_57.1 _ _ o_h0
      have o_b1 := E_57.1 _ _ o_b1
      have pp_61 := Fr_58.pp
      refine lv_if_eq (tgt := 150) hx hb dX7_isSound_49 (by decide) (fun c_62 => ?_) (fun c_62 => ?_)
      · refine lv_iconst (v := 0) hx hb dX7_isSound_150 (by decide) ?_
        refine W_led (fun hLd => ?_)
        have hcl : 0 + PC ws_56 ≤ PC ws + (0) := (by have e0 : (0 : Int32).toInt = 0 := (by decide); omega)
        have hsl : 0 + PS ws_56 ≤ PS ws + (0) := (by have e0 : (0 : Int32).toInt = 0 := (by decide); omega)
        refine W.widen (k := PC ws + (0)) (n := PS ws + (0)) (by omega) (by omega) ?_
        obtain ⟨fs9, hk_63, hq_63⟩ := ((gA.tr (gF.a (F' := [(6, 2), (6, 3), (6, 5), (6, 6), (6, 15)]) Fr_32 (by decide)) (gA.tr (gF.a (F' := [(6, 2), (6, 3), (6, 5), (6, 6), (6, 15)]) Fr_48 (by decide)) (gF.a (F' := [(6, 2), (6, 3), (6, 5), (6, 6), (6, 15)]) Fr_58 (by decide))))) _ _ _ hk_2
        obtain ⟨r0_63, n0_63, c1_63, c2_63, c3_63, r4_63, n4_63, c5_63, c6_63, c7_63, c8_63, r9_63, n9_63, r10_63, n10_63, r11_63, n11_63, c12_63, c13_63, c14_63, c15_63, c16_63, rfl, a_r0_63, f1_63, a_r4_63, f3_63, a_r9_63, f5_63, a_r10_63, f7_63, a_r11_63, f9_63, f10_63, f11_63, f12_63, f13_63, f14_63, -⟩ := (hG.1 _ _ _ _ hk_63).hX7 rfl
        obtain rfl := fe_i (hq_63 1 (by decide))
        obtain rfl := fe_i (hq_63 7 (by decide))
        obtain rfl := fe_i (hq_63 8 (by decide))
        exact W.zret (v := 0) hx hb hr (nz (Or.inl rfl)) (fun t9 ht9 hW9 => ⟨⟨_, ws_56, rfl, ⟨(Or.inl rfl), (gP_of hD hk_63 (fun q90 e90 => by cases e90; exact (by have e0 : (0 : Int32).toInt = 0 := (by decide); have g_c7_2 := i_rg c7_2; omega))), (gP_of hD hk_63 (fun q90 e90 => by cases e90; exact (by have e0 : (0 : Int32).toInt = 0 := (by decide); have g_c8_2 := i_rg c8_2; omega))), (gP_of hD hk_63 (fun q90 e90 => by cases e90; exact (by have e0 : (0 : Int32).toInt = 0 := (by decide); have q_f2_1 := f2_1; have q_f3_1 := f3_1; have q_fq_s := fq_s; have q_f_8 := f_8; have q_f1_1 := f1_1; have q_f4_1 := f4_1; have q_f5_1 := f5_1; have g_c1_1 := i_rg c1_1; omega)))⟩, ⟨(E_5.tr (E_11.tr (E_16.tr (E_21.tr (E_26.tr (E_31.tr (E_47.tr E_57))))))), (gF.tr (gF.mo (F' := [(6, 0), (6, 1), (6, 2), (6, 3), (6, 5), (6, 6), (6, 7), (6, 8), (6, 12), (6, 13), (6, 14), (6, 15), (6, 16)]) (C' := [(6, 4), (6, 9), (6, 10), (6, 11)]) (S' := none) Fr_6 (by decide) (fun _ h => absurd h List.not_mem_nil) (Or.inl rfl)) (gF.tr (gF.mo (F' := [(6, 0), (6, 1), (6, 2), (6, 3), (6, 5), (6, 6), (6, 7), (6, 8), (6, 12), (6, 13), (6, 14), (6, 15), (6, 16)]) (C' := [(6, 4), (6, 9), (6, 10), (6, 11)]) (S' := none) Fr_12 (by decide) (fun _ h => absurd h List.not_mem_nil) (Or.inl rfl)) (gF.tr (gF.mo (F' := [(6, 0), (6, 1), (6, 2), (6, 3), (6, 5), (6, 6), (6, 7), (6, 8), (6, 12), (6, 13), (6, 14), (6, 15), (6, 16)]) (C' := [(6, 4), (6, 9), (6, 10), (6, 11)]) (S' := none) Fr_17 (by decide) (fun _ h => absurd h List.not_mem_nil) (Or.inl rfl)) (gF.tr (gF.mo (F' := [(6, 0), (6, 1), (6, 2), (6, 3), (6, 5), (6, 6), (6, 7), (6, 8), (6, 12), (6, 13), (6, 14), (6, 15), (6, 16)]) (C' := [(6, 4), (6, 9), (6, 10), (6, 11)]) (S' := none) Fr_22 (by decide) (fun _ h => absurd h List.not_mem_nil) (Or.inl rfl)) (gF.tr (gF.mo (F' := [(6, 0), (6, 1), (6, 2), (6, 3), (6, 5), (6, 6), (6, 7), (6, 8), (6, 12), (6, 13), (6, 14), (6, 15), (6, 16)]) (C' := [(6, 4), (6, 9), (6, 10), (6, 11)]) (S' := none) Fr_27 (by decide) (fun _ h => absurd h List.not_mem_nil) (Or.inl rfl)) (gF.tr (gF.mo (F' := [(6, 0), (6, 1), (6, 2), (6, 3), (6, 5), (6, 6), (6, 7), (6, 8), (6, 12), (6, 13), (6, 14), (6, 15), (6, 16)]) (C' := [(6, 4), (6, 9), (6, 10), (6, 11)]) (S' := none) Fr_32 (by decide) (fun _ h => absurd h List.not_mem_nil) (Or.inr rfl)) (gF.tr (gF.mo (F' := [(6, 0), (6, 1), (6, 2), (6, 3), (6, 5), (6, 6), (6, 7), (6, 8), (6, 12), (6, 13), (6, 14), (6, 15), (6, 16)]) (C' := [(6, 4), (6, 9), (6, 10), (6, 11)]) (S' := none) Fr_48 (by decide) (by decide) (Or.inr rfl)) (gF.mo (F' := [(6, 0), (6, 1), (6, 2), (6, 3), (6, 5), (6, 6), (6, 7), (6, 8), (6, 12), (6, 13), (6, 14), (6, 15), (6, 16)]) (C' := [(6, 4), (6, 9), (6, 10), (6, 11)]) (S' := none) Fr_58 (by decide) (fun _ h => absurd h List.not_mem_nil) (Or.inr rfl))))))))), hG, by rw [ht9]; exact hP, hD, _, _, by rw [ht9]; exact hLd, hcl, hsl⟩⟩, hS.F ht9⟩) hS.2.2 dX7_isSound_151
      · refine lv_aload_n hx hb dX7_isSound_52 rfl (lv_at hl 0 rfl) ?_
        have hFc := gfree hD hS hA
        obtain ⟨k_64, fs_64, hk_64⟩ := gC_of o_h0
        refine va_calli (va_runV (As := []) (rest := []) ⟨hx, hb, hml, hown, hts⟩ (m_X7_fieldsFit_w l g H.size ws_56 h0 hG o_h0) (cwV 0 hts (gd_V kw_1366 kw_1317 kw_1318 kw_710 kw_1316) rfl rfl rfl (by decide +kernel) ⟨Nat.le_of_ble_eq_true rfl, Nat.le_of_ble_eq_true rfl⟩) ⟨gblind, va_recv hK hP (ci := 6) (q0 := k_64) rfl hk_64, fun U hU hW9 => gmk hU hW9 hP hK hD hex hE hS hFc⟩ rfl rfl hl.1 rfl (lv_room (Nat.le_of_ble_eq_true rfl)) dX7_isSound_53 ⟨(show 0 + 0 ≤ PC ws + (0) from (by have e0 : (0 : Int32).toInt = 0 := (by decide); omega)), (show 0 + 0 ≤ PS ws + (0) from (by have e0 : (0 : Int32).toInt = 0 := (by decide); omega))⟩) hS (fun q _ h => hFc q h) hFc (fun r_65 ws_66 t9 H1 locs ht9 hvm9 hw9 hB9 hz9 hk9 hS => ?_)
        obtain ⟨E_67, Fr_68, hG, hP1, hD1⟩ := hB9
        have hP : va_P (gD g) cl0 ws_66 H1 := by rw [← ht9]; exact hP1
        have hD : va_D A ws_66 := hD1.weaken (fun _ _ _ h => hFc _ h)
        obtain ⟨h_r_65, kf_71⟩ := id hw9
        clear hP1 hD1 hz9 hk9 hvm9 ht9 hw9
        generalize H1 = H at hP hS ⊢
        have o_h0 := E_67.1 _ _ o_h0
        have o_b1 := E_67.1 _ _ o_b1
        have pp_72 := Fr_68.pp
        have hz_r_65 := h_r_65
        obtain ⟨fs9, hk_73, hq_73⟩ := ((gA.tr (gF.a (F' := [(6, 2), (6, 3), (6, 5), (6, 6), (6, 7), (6, 8), (6, 15)]) Fr_32 (by decide)) (gA.tr (gF.a (F' := [(6, 2), (6, 3), (6, 5), (6, 6), (6, 7), (6, 8), (6, 15)]) Fr_48 (by decide)) (gA.tr (gF.a (F' := [(6, 2), (6, 3), (6, 5), (6, 6), (6, 7), (6, 8), (6, 15)]) Fr_58 (by decide)) (gF.a (F' := [(6, 2), (6, 3), (6, 5), (6, 6), (6, 7), (6, 8), (6, 15)]) Fr_68 (by decide)))))) _ _ _ hk_2
        obtain ⟨r0_73, n0_73, c1_73, c2_73, c3_73, r4_73, n4_73, c5_73, c6_73, c7_73, c8_73, r9_73, n9_73, r10_73, n10_73, r11_73, n11_73, c12_73, c13_73, c14_73, c15_73, c16_73, rfl, a_r0_73, f1_73, a_r4_73, f3_73, a_r9_73, f5_73, a_r10_73, f7_73, a_r11_73, f9_73, f10_73, f11_73, f12_73, f13_73, f14_73, -⟩ := (hG.1 _ _ _ _ hk_73).hX7 rfl
        obtain rfl := fe_i (hq_73 1 (by decide))
        have kq_74 := kf_71 _ _ _ hk_73 _ rfl
        refine lv_if_eq (tgt := 150) hx hb dX7_isSound_56 (by decide) (fun c_75 => ?_) (fun c_75 => ?_)
        · refine lv_iconst (v := 0) hx hb dX7_isSound_150 (by decide) ?_
          refine W_led (fun hLd => ?_)
          have hcl : 0 + PC ws_66 ≤ PC ws + (0) := (by have e0 : (0 : Int32).toInt = 0 := (by decide); omega)
          have hsl : 0 + PS ws_66 ≤ PS ws + (0) := (by have e0 : (0 : Int32).toInt = 0 := (by decide); omega)
          refine W.widen (k := PC ws + (0)) (n := PS ws + (0)) (by omega) (by omega) ?_
          exact W.zret (v := 0) hx hb hr (nz (Or.inl rfl)) (fun t9 ht9 hW9 => ⟨⟨_, ws_66, rfl, ⟨(Or.inl rfl), (gP_of hD hk_73 (fun q90 e90 => by cases e90; exact (by have e0 : (0 : Int32).toInt = 0 := (by decide); have q_kq_74 := kq_74; have q_c_75 := i_eq c_75; have g_c7_73 := i_rg c7_73; have g_r_65 := i_rg r_65; have b_r_65 := i_bit hz_r_65; omega))), (gP_of hD hk_73 (fun q90 e90 => by cases e90; exact (by have e0 : (0 : Int32).toInt = 0 := (by decide); have g_c8_73 := i_rg c8_73; omega))), (gP_of hD hk_73 (fun q90 e90 => by cases e90; exact (by have e0 : (0 : Int32).toInt = 0 := (by decide); have q_f2_1 := f2_1; have q_f3_1 := f3_1; have q_fq_s := fq_s; have q_f_8 := f_8; have q_f1_1 := f1_1; have q_f4_1 := f4_1; have q_f5_1 := f5_1; have g_c1_1 := i_rg c1_1; omega)))⟩, ⟨(E_5.tr (E_11.tr (E_16.tr (E_21.tr (E_26.tr (E_31.tr (E_47.tr (E_57.tr E_67)))))))), (gF.tr (gF.mo (F' := [(6, 0), (6, 1), (6, 2), (6, 3), (6, 5), (6, 6), (6, 7), (6, 8), (6, 12), (6, 13), (6, 14), (6, 15), (6, 16)]) (C' := [(6, 4), (6, 9), (6, 10), (6, 11)]) (S' := none) Fr_6 (by decide) (fun _ h => absurd h List.not_mem_nil) (Or.inl rfl)) (gF.tr (gF.mo (F' := [(6, 0), (6, 1), (6, 2), (6, 3), (6, 5), (6, 6), (6, 7), (6, 8), (6, 12), (6, 13), (6, 14), (6, 15), (6, 16)]) (C' := [(6, 4), (6, 9), (6, 10), (6, 11)]) (S' := none) Fr_12 (by decide) (fun _ h => absurd h List.not_mem_nil) (Or.inl rfl)) (gF.tr (gF.mo (F' := [(6, 0), (6, 1), (6, 2), (6, 3), (6, 5), (6, 6), (6, 7), (6, 8), (6, 12), (6, 13), (6, 14), (6, 15), (6, 16)]) (C' := [(6, 4), (6, 9), (6, 10), (6, 11)]) (S' := none) Fr_17 (by decide) (fun _ h => absurd h List.not_mem_nil) (Or.inl rfl)) (gF.tr (gF.mo (F' := [(6, 0), (6, 1), (6, 2), (6, 3), (6, 5), (6, 6), (6, 7), (6, 8), (6, 12), (6, 13), (6, 14), (6, 15), (6, 16)]) (C' := [(6, 4), (6, 9), (6, 10), (6, 11)]) (S' := none) Fr_22 (by decide) (fun _ h => absurd h List.not_mem_nil) (Or.inl rfl)) (gF.tr (gF.mo (F' := [(6, 0), (6, 1), (6, 2), (6, 3), (6, 5), (6, 6), (6, 7), (6, 8), (6, 12), (6, 13), (6, 14), (6, 15), (6, 16)]) (C' := [(6, 4), (6, 9), (6, 10), (6, 11)]) (S' := none) Fr_27 (by decide) (fun _ h => absurd h List.not_mem_nil) (Or.inl rfl)) (gF.tr (gF.mo (F' := [(6, 0), (6, 1), (6, 2), (6, 3), (6, 5), (6, 6), (6, 7), (6, 8), (6, 12), (6, 13), (6, 14), (6, 15), (6, 16)]) (C' := [(6, 4), (6, 9), (6, 10), (6, 11)]) (S' := none) Fr_32 (by decide) (fun _ h => absurd h List.not_mem_nil) (Or.inr rfl)) (gF.tr (gF.mo (F' := [(6, 0), (6, 1), (6, 2), (6, 3), (6, 5), (6, 6), (6, 7), (6, 8), (6, 12), (6, 13), (6, 14), (6, 15), (6, 16)]) (C' := [(6, 4), (6, 9), (6, 10), (6, 11)]) (S' := none) Fr_48 (by decide) (by decide) (Or.inr rfl)) (gF.tr (gF.mo (F' := [(6, 0), (6, 1), (6, 2), (6, 3), (6, 5), (6, 6), (6, 7), (6, 8), (6, 12), (6, 13), (6, 14), (6, 15), (6, 16)]) (C' := [(6, 4), (6, 9), (6, 10), (6, 11)]) (S' := none) Fr_58 (by decide) (fun _ h => absurd h List.not_mem_nil) (Or.inr rfl)) (gF.mo (F' := [(6, 0), (6, 1), (6, 2), (6, 3), (6, 5), (6, 6), (6, 7), (6, 8), (6, 12), (6, 13), (6, 14), (6, 15), (6, 16)]) (C' := [(6, 4), (6, 9), (6, 10), (6, 11)]) (S' := none) Fr_68 (by decide) (by decide) (Or.inr rfl)))))))))), hG, by rw [ht9]; exact hP, hD, _, _, by rw [ht9]; exact hLd, hcl, hsl⟩⟩, hS.F ht9⟩) hS.2.2 dX7_isSound_151
        · refine lv_aload_n hx hb dX7_isSound_59 rfl (lv_at hl 0 rfl) ?_
          have hFc := gfree hD hS hA
          refine va_calli (va_runV (As := []) (rest := []) ⟨hx, hb, hml, hown, hts⟩ (m_X7_methodsFit_w l g H.size ws_66 h0 hG o_h0 (gP_of hD hk_73 (fun q90 e90 => by cases e90; exact (by have e0 : (0 : Int32).toInt = 0 := (by decide); have q_kq_74 := kq_74; have q_c_75 := i_ne c_75; have g_c7_73 := i_rg c7_73; have g_r_65 := i_rg r_65; have b_r_65 := i_bit hz_r_65; omega)))) (cwV 0 hts (gd_V kw_1367 kw_1400 kw_1401 kw_710 kw_1399) rfl rfl rfl (by decide +kernel) ⟨Nat.le_of_ble_eq_true rfl, Nat.le_of_ble_eq_true rfl⟩) ⟨gblind, va_recv hK hP (ci := 6) (q0 := k_2) rfl hk_73, fun U hU hW9 => gmk hU hW9 hP hK hD hex hE hS hFc⟩ rfl rfl hl.1 rfl (lv_room (Nat.le_of_ble_eq_true rfl)) dX7_isSound_60 ⟨(show 0 + 0 ≤ PC ws + (0) from (by have e0 : (0 : Int32).toInt = 0 := (by decide); omega)), (show 0 + 0 ≤ PS ws + (0) from (by have e0 : (0 : Int32).toInt = 0 := (by decide); omega))⟩) hS (fun q _ h => hFc q h) hFc (fun r_76 ws_77 t9 H1 locs ht9 hvm9 hw9 hB9 hz9 hk9 hS => ?_)
          obtain ⟨E_78, Fr_79, hG, hP1, hD1⟩ := hB9
          have hP : va_P (gD g) cl0 ws_77 H1 := by rw [← ht9]; exact hP1
          have hD : va_D A ws_77 := hD1.weaken (fun _ _ _ h => hFc _ h)
          obtain ⟨h_r_76, kf_82⟩ := id hw9
          clear hP1 hD1 hz9 hk9 hvm9 ht9 hw9
          generalize H1 = H at hP hS ⊢
          have aa_83 := a_r0_73
          have aa_84 := a_r4_73
          have aa_85 := a_r9_73
          have aa_86 := a_r10_73
          have aa_87 := a_r11_73
          have o_h0 := E_78.1 _ _ o_h0
          have o_b1 := E_78.1 _ _ o_b1
          have pp_88 := Fr_79.pp
          have hz_r_76 := h_r_76
          obtain ⟨fs9, hk_89, hq_89⟩ := ((gF.a (F' := [(6, 2), (6, 3), (6, 8), (6, 15)]) Fr_79 (fun _ h => h))) _ _ _ hk_73
          obtain ⟨r0_89, n0_89, c1_89, c2_89, c3_89, r4_89, n4_89, c5_89, c6_89, c7_89, c8_89, r9_89, n9_89, r10_89, n10_89, r11_89, n11_89, c12_89, c13_89, c14_89, c15_89, c16_89, rfl, a_r0_89, f1_89, a_r4_89, f3_89, a_r9_89, f5_89, a_r10_89, f7_89, a_r11_89, f9_89, f10_89, f11_89, f12_89, f13_89, f14_89, -⟩ := (hG.1 _ _ _ _ hk_89).hX7 rfl
          obtain rfl := fe_i (hq_89 1 (by decide))
          obtain rfl := fe_i (hq_89 7 (by decide))
          have kq_90 := kf_82 _ _ _ hk_89 _ rfl
          refine lv_if_eq (tgt := 150) hx hb dX7_isSound_63 (by decide) (fun c_91 => ?_) (fun c_91 => ?_)
          · refine lv_iconst (v := 0) hx hb dX7_isSound_150 (by decide) ?_
            refine W_led (fun hLd => ?_)
            have hcl : 0 + PC ws_77 ≤ PC ws + (0) := (by have e0 : (0 : Int32).toInt = 0 := (by decide); omega)
            have hsl : 0 + PS ws_77 ≤ PS ws + (0) := (by have e0 : (0 : Int32).toInt = 0 := (by decide); omega)
            refine W.widen (k := PC ws + (0)) (n := PS ws + (0)) (by omega) (by omega) ?_
            exact W.zret (v := 0) hx hb hr (nz (Or.inl rfl)) (fun t9 ht9 hW9 => ⟨⟨_, ws_77, rfl, ⟨(Or.inl rfl), (gP_of hD hk_89 (fun q90 e90 => by cases e90; exact (by have e0 : (0 : Int32).toInt = 0 := (by decide); have q_kq_74 := kq_74; have q_c_75 := i_ne c_75; have g_c7_73 := i_rg c7_73; have g_r_65 := i_rg r_65; have b_r_65 := i_bit hz_r_65; omega))), (gP_of hD hk_89 (fun q90 e90 => by cases e90; exact (by have e0 : (0 : Int32).toInt = 0 := (by decide); have q_kq_90 := kq_90; have q_c_91 := i_eq c_91; have g_c8_89 := i_rg c8_89; have g_r_76 := i_rg r_76; have b_r_76 := i_bit hz_r_76; omega))), (gP_of hD hk_89 (fun q90 e90 => by cases e90; exact (by have e0 : (0 : Int32).toInt = 0 := (by decide); have q_f2_1 := f2_1; have q_f3_1 := f3_1; have q_fq_s := fq_s; have q_f_8 := f_8; have q_f1_1 := f1_1; have q_f4_1 := f4_1; have q_f5_1 := f5_1; have g_c1_1 := i_rg c1_1; omega)))⟩, ⟨(E_5.tr (E_11.tr (E_16.tr (E_21.tr (E_26.tr (E_31.tr (E_47.tr (E_57.tr (E_67.tr E_78))))))))), (gF.tr (gF.mo (F' := [(6, 0), (6, 1), (6, 2), (6, 3), (6, 5), (6, 6), (6, 7), (6, 8), (6, 12), (6, 13), (6, 14), (6, 15), (6, 16)]) (C' := [(6, 4), (6, 9), (6, 10), (6, 11)]) (S' := none) Fr_6 (by decide) (fun _ h => absurd h List.not_mem_nil) (Or.inl rfl)) (gF.tr (gF.mo (F' := [(6, 0), (6, 1), (6, 2), (6, 3), (6, 5), (6, 6), (6, 7), (6, 8), (6, 12), (6, 13), (6, 14), (6, 15), (6, 16)]) (C' := [(6, 4), (6, 9), (6, 10), (6, 11)]) (S' := none) Fr_12 (by decide) (fun _ h => absurd h List.not_mem_nil) (Or.inl rfl)) (gF.tr (gF.mo (F' := [(6, 0), (6, 1), (6, 2), (6, 3), (6, 5), (6, 6), (6, 7), (6, 8), (6, 12), (6, 13), (6, 14), (6, 15), (6, 16)]) (C' := [(6, 4), (6, 9), (6, 10), (6, 11)]) (S' := none) Fr_17 (by decide) (fun _ h => absurd h List.not_mem_nil) (Or.inl rfl)) (gF.tr (gF.mo (F' := [(6, 0), (6, 1), (6, 2), (6, 3), (6, 5), (6, 6), (6, 7), (6, 8), (6, 12), (6, 13), (6, 14), (6, 15), (6, 16)]) (C' := [(6, 4), (6, 9), (6, 10), (6, 11)]) (S' := none) Fr_22 (by decide) (fun _ h => absurd h List.not_mem_nil) (Or.inl rfl)) (gF.tr (gF.mo (F' := [(6, 0), (6, 1), (6, 2), (6, 3), (6, 5), (6, 6), (6, 7), (6, 8), (6, 12), (6, 13), (6, 14), (6, 15), (6, 16)]) (C' := [(6, 4), (6, 9), (6, 10), (6, 11)]) (S' := none) Fr_27 (by decide) (fun _ h => absurd h List.not_mem_nil) (Or.inl rfl)) (gF.tr (gF.mo (F' := [(6, 0), (6, 1), (6, 2), (6, 3), (6, 5), (6, 6), (6, 7), (6, 8), (6, 12), (6, 13), (6, 14), (6, 15), (6, 16)]) (C' := [(6, 4), (6, 9), (6, 10), (6, 11)]) (S' := none) Fr_32 (by decide) (fun _ h => absurd h List.not_mem_nil) (Or.inr rfl)) (gF.tr (gF.mo (F' := [(6, 0), (6, 1), (6, 2), (6, 3), (6, 5), (6, 6), (6, 7), (6, 8), (6, 12), (6, 13), (6, 14), (6, 15), (6, 16)]) (C' := [(6, 4), (6, 9), (6, 10), (6, 11)]) (S' := none) Fr_48 (by decide) (by decide) (Or.inr rfl)) (gF.tr (gF.mo (F' := [(6, 0), (6, 1), (6, 2), (6, 3), (6, 5), (6, 6), (6, 7), (6, 8), (6, 12), (6, 13), (6, 14), (6, 15), (6, 16)]) (C' := [(6, 4), (6, 9), (6, 10), (6, 11)]) (S' := none) Fr_58 (by decide) (fun _ h => absurd h List.not_mem_nil) (Or.inr rfl)) (gF.tr (gF.mo (F' := [(6, 0), (6, 1), (6, 2), (6, 3), (6, 5), (6, 6), (6, 7), (6, 8), (6, 12), (6, 13), (6, 14), (6, 15), (6, 16)]) (C' := [(6, 4), (6, 9), (6, 10), (6, 11)]) (S' := none) Fr_68 (by decide) (by decide) (Or.inr rfl)) (gF.mo (F' := [(6, 0), (6, 1), (6, 2), (6, 3), (6, 5), (6, 6), (6, 7), (6, 8), (6, 12), (6, 13), (6, 14), (6, 15), (6, 16)]) (C' := [(6, 4), (6, 9), (6, 10), (6, 11)]) (S' := none) Fr_79 (by decide) (by decide) (Or.inr rfl))))))))))), hG, by rw [ht9]; exact hP, hD, _, _, by rw [ht9]; exact hLd, hcl, hsl⟩⟩, hS.F ht9⟩) hS.2.2 dX7_isSound_151
          · refine lv_aload_n hx hb dX7_isSound_66 rfl (lv_at hl 0 rfl) ?_
            have hFc := gfree hD hS hA
            refine va_calli (va_runV (As := []) (rest := []) ⟨hx, hb, hml, hown, hts⟩ (m_X7_fileAttributesFit l g H.size ws_77 h0 hG o_h0) (cwV 0 hts (gd_V kw_1368 kw_1321 kw_1322 kw_710 kw_1320) rfl rfl rfl (by decide +kernel) ⟨Nat.le_of_ble_eq_true rfl, Nat.le_of_ble_eq_true rfl⟩) ⟨gblind, va_recv hK hP (ci := 6) (q0 := k_2) rfl hk_89, fun U hU hW9 => gmk hU hW9 hP hK hD hex hE hS hFc⟩ rfl rfl hl.1 rfl (lv_room (Nat.le_of_ble_eq_true rfl)) dX7_isSound_67 ⟨(show 0 + 0 ≤ PC ws + (0) from (by have e0 : (0 : Int32).toInt = 0 := (by decide); omega)), (show 0 + 0 ≤ PS ws + (0) from (by have e0 : (0 : Int32).toInt = 0 := (by decide); omega))⟩) hS (fun q _ h => hFc q h) hFc (fun r_92 ws_93 t9 H1 locs ht9 hvm9 hw9 hB9 hz9 hk9 hS => ?_)
            obtain ⟨E_94, Fr_95, hG, hP1, hD1⟩ := hB9
            have hP : va_P (gD g) cl0 ws_93 H1 := by rw [← ht9]; exact hP1
            have hD : va_D A ws_93 := hD1.weaken (fun _ _ _ h => hFc _ h)
            have hz_r_92 : r_92 = 0 ∨ r_92 = 1 := hw9
            clear hP1 hD1 hz9 hk9 hvm9 ht9 hw9
            generalize H1 = H at hP hS ⊢
            have aa_98 := a_r0_89
            have aa_99 := a_r4_89
            have aa_100 := a_r9_89
            have aa_101 := a_r10_89
            have aa_102 := a_r11_89
            have o_h0 := E_94.1 _ _ o_h0
            have o_b1 := E_94.1 _ _ o_b1
            have pp_103 := Fr_95.pp
            refine lv_if_eq (tgt := 150) hx hb dX7_isSound_70 (by decide) (fun c_104 => ?_) (fun c_104 => ?_)
            · refine lv_iconst (v := 0) hx hb dX7_isSound_150 (by decide) ?_
              refine W_led (fun hLd => ?_)
              have hcl : 0 + PC ws_93 ≤ PC ws + (0) := (by have e0 : (0 : Int32).toInt = 0 := (by decide); omega)
              have hsl : 0 + PS ws_93 ≤ PS ws + (0) := (by have e0 : (0 : Int32).toInt = 0 := (by decide); omega)
              refine W.widen (k := PC ws + (0)) (n := PS ws + (0)) (by omega) (by omega) ?_
              obtain ⟨fs9, hk_105, hq_105⟩ := ((gF.a (F' := [(6, 2), (6, 3), (6, 15), (6, 16)]) Fr_95 (fun _ h => h))) _ _ _ hk_89
              obtain ⟨r0_105, n0_105, c1_105, c2_105, c3_105, r4_105, n4_105, c5_105, c6_105, c7_105, c8_105, r9_105, n9_105, r10_105, n10_105, r11_105, n11_105, c12_105, c13_105, c14_105, c15_105, c16_105, rfl, a_r0_105, f1_105, a_r4_105, f3_105, a_r9_105, f5_105, a_r10_105, f7_105, a_r11_105, f9_105, f10_105, f11_105, f12_105, f13_105, f14_105, -⟩ := (hG.1 _ _ _ _ hk_105).hX7 rfl
              obtain rfl := fe_i (hq_105 1 (by decide))
              obtain rfl := fe_i (hq_105 7 (by decide))
              obtain rfl := fe_i (hq_105 8 (by decide))
              exact W.zret (v := 0) hx hb hr (nz (Or.inl rfl)) (fun t9 ht9 hW9 => ⟨⟨_, ws_93, rfl, ⟨(Or.inl rfl), (gP_of hD hk_105 (fun q90 e90 => by cases e90; exact (by have e0 : (0 : Int32).toInt = 0 := (by decide); have q_kq_74 := kq_74; have q_c_75 := i_ne c_75; have g_c7_73 := i_rg c7_73; have g_r_65 := i_rg r_65; have b_r_65 := i_bit hz_r_65; omega))), (gP_of hD hk_105 (fun q90 e90 => by cases e90; exact (by have e0 : (0 : Int32).toInt = 0 := (by decide); have q_kq_90 := kq_90; have q_c_91 := i_ne c_91; have g_c8_89 := i_rg c8_89; have g_r_76 := i_rg r_76; have b_r_76 := i_bit hz_r_76; omega))), (gP_of hD hk_105 (fun q90 e90 => by cases e90; exact (by have e0 : (0 : Int32).toInt = 0 := (by decide); have q_f2_1 := f2_1; have q_f3_1 := f3_1; have q_fq_s := fq_s; have q_f_8 := f_8; have q_f1_1 := f1_1; have q_f4_1 := f4_1; have q_f5_1 := f5_1; have g_c1_1 := i_rg c1_1; omega)))⟩, ⟨(E_5.tr (E_11.tr (E_16.tr (E_21.tr (E_26.tr (E_31.tr (E_47.tr (E_57.tr (E_67.tr (E_78.tr E_94)))))))))), (gF.tr (gF.mo (F' := [(6, 0), (6, 1), (6, 2), (6, 3), (6, 5), (6, 6), (6, 7), (6, 8), (6, 12), (6, 13), (6, 14), (6, 15), (6, 16)]) (C' := [(6, 4), (6, 9), (6, 10), (6, 11)]) (S' := none) Fr_6 (by decide) (fun _ h => absurd h List.not_mem_nil) (Or.inl rfl)) (gF.tr (gF.mo (F' := [(6, 0), (6, 1), (6, 2), (6, 3), (6, 5), (6, 6), (6, 7), (6, 8), (6, 12), (6, 13), (6, 14), (6, 15), (6, 16)]) (C' := [(6, 4), (6, 9), (6, 10), (6, 11)]) (S' := none) Fr_12 (by decide) (fun _ h => absurd h List.not_mem_nil) (Or.inl rfl)) (gF.tr (gF.mo (F' := [(6, 0), (6, 1), (6, 2), (6, 3), (6, 5), (6, 6), (6, 7), (6, 8), (6, 12), (6, 13), (6, 14), (6, 15), (6, 16)]) (C' := [(6, 4), (6, 9), (6, 10), (6, 11)]) (S' := none) Fr_17 (by decide) (fun _ h => absurd h List.not_mem_nil) (Or.inl rfl)) (gF.tr (gF.mo (F' := [(6, 0), (6, 1), (6, 2), (6, 3), (6, 5), (6, 6), (6, 7), (6, 8), (6, 12), (6, 13), (6, 14), (6, 15), (6, 16)]) (C' := [(6, 4), (6, 9), (6, 10), (6, 11)]) (S' := none) Fr_22 (by decide) (fun _ h => absurd h List.not_mem_nil) (Or.inl rfl)) (gF.tr (gF.mo (F' := [(6, 0), (6, 1), (6, 2), (6, 3), (6, 5), (6, 6), (6, 7), (6, 8), (6, 12), (6, 13), (6, 14), (6, 15), (6, 16)]) (C' := [(6, 4), (6, 9), (6, 10), (6, 11)]) (S' := none) Fr_27 (by decide) (fun _ h => absurd h List.not_mem_nil) (Or.inl rfl)) (gF.tr (gF.mo (F' := [(6, 0), (6, 1), (6, 2), (6, 3), (6, 5), (6, 6), (6, 7), (6, 8), (6, 12), (6, 13), (6, 14), (6, 15), (6, 16)]) (C' := [(6, 4), (6, 9), (6, 10), (6, 11)]) (S' := none) Fr_32 (by decide) (fun _ h => absurd h List.not_mem_nil) (Or.inr rfl)) (gF.tr (gF.mo (F' := [(6, 0), (6, 1), (6, 2), (6, 3), (6, 5), (6, 6), (6, 7), (6, 8), (6, 12), (6, 13), (6, 14), (6, 15), (6, 16)]) (C' := [(6, 4), (6, 9), (6, 10), (6, 11)]) (S' := none) Fr_48 (by decide) (by decide) (Or.inr rfl)) (gF.tr (gF.mo (F' := [(6, 0), (6, 1), (6, 2), (6, 3), (6, 5), (6, 6), (6, 7), (6, 8), (6, 12), (6, 13), (6, 14), (6, 15), (6, 16)]) (C' := [(6, 4), (6, 9), (6, 10), (6, 11)]) (S' := none) Fr_58 (by decide) (fun _ h => absurd h List.not_mem_nil) (Or.inr rfl)) (gF.tr (gF.mo (F' := [(6, 0), (6, 1), (6, 2), (6, 3), (6, 5), (6, 6), (6, 7), (6, 8), (6, 12), (6, 13), (6, 14), (6, 15), (6, 16)]) (C' := [(6, 4), (6, 9), (6, 10), (6, 11)]) (S' := none) Fr_68 (by decide) (by decide) (Or.inr rfl)) (gF.tr (gF.mo (F' := [(6, 0), (6, 1), (6, 2), (6, 3), (6, 5), (6, 6), (6, 7), (6, 8), (6, 12), (6, 13), (6, 14), (6, 15), (6, 16)]) (C' := [(6, 4), (6, 9), (6, 10), (6, 11)]) (S' := none) Fr_79 (by decide) (by decide) (Or.inr rfl)) (gF.mo (F' := [(6, 0), (6, 1), (6, 2), (6, 3), (6, 5), (6, 6), (6, 7), (6, 8), (6, 12), (6, 13), (6, 14), (6, 15), (6, 16)]) (C' := [(6, 4), (6, 9), (6, 10), (6, 11)]) (S' := none) Fr_95 (by decide) (fun _ h => absurd h List.not_mem_nil) (Or.inr rfl)))))))))))), hG, by rw [ht9]; exact hP, hD, _, _, by rw [ht9]; exact hLd, hcl, hsl⟩⟩, hS.F ht9⟩) hS.2.2 dX7_isSound_151
            · refine lv_aload_n hx hb dX7_isSound_73 rfl (lv_at hl 0 rfl) ?_
              have hFc := gfree hD hS hA
              obtain ⟨k_106, fs_106, hk_106⟩ := gC_of o_h0
              refine va_calli (va_runV (As := []) (rest := []) ⟨hx, hb, hml, hown, hts⟩ (m_X7_entriesPoint l g H.size ws_93 h0 hG o_h0) (cwV 0 hts (gd_V kw_1369 kw_1292 kw_1293 kw_710 kw_1291) rfl rfl rfl (by decide +kernel) ⟨Nat.le_of_ble_eq_true rfl, Nat.le_of_ble_eq_true rfl⟩) ⟨gblind, va_recv hK hP (ci := 6) (q0 := k_106) rfl hk_106, fun U hU hW9 => gmk hU hW9 hP hK hD hex hE hS hFc⟩ rfl rfl hl.1 rfl (lv_room (Nat.le_of_ble_eq_true rfl)) dX7_isSound_74 ⟨(show 0 + 0 ≤ PC ws + (0) from (by have e0 : (0 : Int32).toInt = 0 := (by decide); omega)), (show 0 + 0 ≤ PS ws + (0) from (by have e0 : (0 : Int32).toInt = 0 := (by decide); omega))⟩) hS (fun q _ h => hFc q h) hFc (fun r_107 ws_108 t9 H1 locs ht9 hvm9 hw9 hB9 hz9 hk9 hS => ?_)
              obtain ⟨E_109, Fr_110, hG, hP1, hD1⟩ := hB9
              have hP : va_P (gD g) cl0 ws_108 H1 := by rw [← ht9]; exact hP1
              have hD : va_D A ws_108 := hD1.weaken (fun _ _ _ h => hFc _ h)
              have hz_r_107 : r_107 = 0 ∨ r_107 = 1 := hw9
              clear hP1 hD1 hz9 hk9 hvm9 ht9 hw9
              generalize H1 = H at hP hS ⊢
              have o_h0 := E_109.1 _ _ o_h0
              have o_b1 := E_109.1 _ _ o_b1
              have pp_113 := Fr_110.pp
              refine lv_if_eq (tgt := 150) hx hb dX7_isSound_77 (by decide) (fun c_114 => ?_) (fun c_114 => ?_)
              · refine lv_iconst (v := 0) hx hb dX7_isSound_150 (by decide) ?_
                refine W_led (fun hLd => ?_)
                have hcl : 0 + PC ws_108 ≤ PC ws + (0) := (by have e0 : (0 : Int32).toInt = 0 := (by decide); omega)
                have hsl : 0 + PS ws_108 ≤ PS ws + (0) := (by have e0 : (0 : Int32).toInt = 0 := (by decide); omega)
                refine W.widen (k := PC ws + (0)) (n := PS ws + (0)) (by omega) (by omega) ?_
                obtain ⟨fs9, hk_115, hq_115⟩ := ((gA.tr (gF.a (F' := [(6, 2), (6, 3), (6, 15), (6, 16)]) Fr_95 (fun _ h => h)) (gF.a (F' := [(6, 2), (6, 3), (6, 15), (6, 16)]) Fr_110 (by decide)))) _ _ _ hk_89
                obtain ⟨r0_115, n0_115, c1_115, c2_115, c3_115, r4_115, n4_115, c5_115, c6_115, c7_115, c8_115, r9_115, n9_115, r10_115, n10_115, r11_115, n11_115, c12_115, c13_115, c14_115, c15_115, c16_115, rfl, a_r0_115, f1_115, a_r4_115, f3_115, a_r9_115, f5_115, a_r10_115, f7_115, a_r11_115, f9_115, f10_115, f11_115, f12_115, f13_115, f14_115, -⟩ := (hG.1 _ _ _ _ hk_115).hX7 rfl
                obtain rfl := fe_i (hq_115 1 (by decide))
                obtain rfl := fe_i (hq_115 7 (by decide))
                obtain rfl := fe_i (hq_115 8 (by decide))
                exact W.zret (v := 0) hx hb hr (nz (Or.inl rfl)) (fun t9 ht9 hW9 => ⟨⟨_, ws_108, rfl, ⟨(Or.inl rfl), (gP_of hD hk_115 (fun q90 e90 => by cases e90; exact (by have e0 : (0 : Int32).toInt = 0 := (by decide); have q_kq_74 := kq_74; have q_c_75 := i_ne c_75; have g_c7_73 := i_rg c7_73; have g_r_65 := i_rg r_65; have b_r_65 := i_bit hz_r_65; omega))), (gP_of hD hk_115 (fun q90 e90 => by cases e90; exact (by have e0 : (0 : Int32).toInt = 0 := (by decide); have q_kq_90 := kq_90; have q_c_91 := i_ne c_91; have g_c8_89 := i_rg c8_89; have g_r_76 := i_rg r_76; have b_r_76 := i_bit hz_r_76; omega))), (gP_of hD hk_115 (fun q90 e90 => by cases e90; exact (by have e0 : (0 : Int32).toInt = 0 := (by decide); have q_f2_1 := f2_1; have q_f3_1 := f3_1; have q_fq_s := fq_s; have q_f_8 := f_8; have q_f1_1 := f1_1; have q_f4_1 := f4_1; have q_f5_1 := f5_1; have g_c1_1 := i_rg c1_1; omega)))⟩, ⟨(E_5.tr (E_11.tr (E_16.tr (E_21.tr (E_26.tr (E_31.tr (E_47.tr (E_57.tr (E_67.tr (E_78.tr (E_94.tr E_109))))))))))), (gF.tr (gF.mo (F' := [(6, 0), (6, 1), (6, 2), (6, 3), (6, 5), (6, 6), (6, 7), (6, 8), (6, 12), (6, 13), (6, 14), (6, 15), (6, 16)]) (C' := [(6, 4), (6, 9), (6, 10), (6, 11)]) (S' := none) Fr_6 (by decide) (fun _ h => absurd h List.not_mem_nil) (Or.inl rfl)) (gF.tr (gF.mo (F' := [(6, 0), (6, 1), (6, 2), (6, 3), (6, 5), (6, 6), (6, 7), (6, 8), (6, 12), (6, 13), (6, 14), (6, 15), (6, 16)]) (C' := [(6, 4), (6, 9), (6, 10), (6, 11)]) (S' := none) Fr_12 (by decide) (fun _ h => absurd h List.not_mem_nil) (Or.inl rfl)) (gF.tr (gF.mo (F' := [(6, 0), (6, 1), (6, 2), (6, 3), (6, 5), (6, 6), (6, 7), (6, 8), (6, 12), (6, 13), (6, 14), (6, 15), (6, 16)]) (C' := [(6, 4), (6, 9), (6, 10), (6, 11)]) (S' := none) Fr_17 (by decide) (fun _ h => absurd h List.not_mem_nil) (Or.inl rfl)) (gF.tr (gF.mo (F' := [(6, 0), (6, 1), (6, 2), (6, 3), (6, 5), (6, 6), (6, 7), (6, 8), (6, 12), (6, 13), (6, 14), (6, 15), (6, 16)]) (C' := [(6, 4), (6, 9), (6, 10), (6, 11)]) (S' := none) Fr_22 (by decide) (fun _ h => absurd h List.not_mem_nil) (Or.inl rfl)) (gF.tr (gF.mo (F' := [(6, 0), (6, 1), (6, 2), (6, 3), (6, 5), (6, 6), (6, 7), (6, 8), (6, 12), (6, 13), (6, 14), (6, 15), (6, 16)]) (C' := [(6, 4), (6, 9), (6, 10), (6, 11)]) (S' := none) Fr_27 (by decide) (fun _ h => absurd h List.not_mem_nil) (Or.inl rfl)) (gF.tr (gF.mo (F' := [(6, 0), (6, 1), (6, 2), (6, 3), (6, 5), (6, 6), (6, 7), (6, 8), (6, 12), (6, 13), (6, 14), (6, 15), (6, 16)]) (C' := [(6, 4), (6, 9), (6, 10), (6, 11)]) (S' := none) Fr_32 (by decide) (fun _ h => absurd h List.not_mem_nil) (Or.inr rfl)) (gF.tr (gF.mo (F' := [(6, 0), (6, 1), (6, 2), (6, 3), (6, 5), (6, 6), (6, 7), (6, 8), (6, 12), (6, 13), (6, 14), (6, 15), (6, 16)]) (C' := [(6, 4), (6, 9), (6, 10), (6, 11)]) (S' := none) Fr_48 (by decide) (by decide) (Or.inr rfl)) (gF.tr (gF.mo (F' := [(6, 0), (6, 1), (6, 2), (6, 3), (6, 5), (6, 6), (6, 7), (6, 8), (6, 12), (6, 13), (6, 14), (6, 15), (6, 16)]) (C' := [(6, 4), (6, 9), (6, 10), (6, 11)]) (S' := none) Fr_58 (by decide) (fun _ h => absurd h List.not_mem_nil) (Or.inr rfl)) (gF.tr (gF.mo (F' := [(6, 0), (6, 1), (6, 2), (6, 3), (6, 5), (6, 6), (6, 7), (6, 8), (6, 12), (6, 13), (6, 14), (6, 15), (6, 16)]) (C' := [(6, 4), (6, 9), (6, 10), (6, 11)]) (S' := none) Fr_68 (by decide) (by decide) (Or.inr rfl)) (gF.tr (gF.mo (F' := [(6, 0), (6, 1), (6, 2), (6, 3), (6, 5), (6, 6), (6, 7), (6, 8), (6, 12), (6, 13), (6, 14), (6, 15), (6, 16)]) (C' := [(6, 4), (6, 9), (6, 10), (6, 11)]) (S' := none) Fr_79 (by decide) (by decide) (Or.inr rfl)) (gF.tr (gF.mo (F' := [(6, 0), (6, 1), (6, 2), (6, 3), (6, 5), (6, 6), (6, 7), (6, 8), (6, 12), (6, 13), (6, 14), (6, 15), (6, 16)]) (C' := [(6, 4), (6, 9), (6, 10), (6, 11)]) (S' := none) Fr_95 (by decide) (fun _ h => absurd h List.not_mem_nil) (Or.inr rfl)) (gF.mo (F' := [(6, 0), (6, 1), (6, 2), (6, 3), (6, 5), (6, 6), (6, 7), (6, 8), (6, 12), (6, 13), (6, 14), (6, 15), (6, 16)]) (C' := [(6, 4), (6, 9), (6, 10), (6, 11)]) (S' := none) Fr_110 (by decide) (fun _ h => absurd h List.not_mem_nil) (Or.inr rfl))))))))))))), hG, by rw [ht9]; exact hP, hD, _, _, by rw [ht9]; exact hLd, hcl, hsl⟩⟩, hS.F ht9⟩) hS.2.2 dX7_isSound_151
              · refine lv_aload_n hx hb dX7_isSound_80 rfl (lv_at hl 0 rfl) ?_
                have hFc := gfree hD hS hA
                obtain ⟨k_116, fs_116, hk_116⟩ := gC_of o_h0
                refine va_calli (va_runV (As := []) (rest := []) ⟨hx, hb, hml, hown, hts⟩ (m_X7_flagsHold l g H.size ws_108 h0 hG o_h0) (cwV 0 hts (gd_V kw_1370 kw_1329 kw_1330 kw_710 kw_1328) rfl rfl rfl (by decide +kernel) ⟨Nat.le_of_ble_eq_true rfl, Nat.le_of_ble_eq_true rfl⟩) ⟨gblind, va_recv hK hP (ci := 6) (q0 := k_116) rfl hk_116, fun U hU hW9 => gmk hU hW9 hP hK hD hex hE hS hFc⟩ rfl rfl hl.1 rfl (lv_room (Nat.le_of_ble_eq_true rfl)) dX7_isSound_81 ⟨(show 0 + 0 ≤ PC ws + (0) from (by have e0 : (0 : Int32).toInt = 0 := (by decide); omega)), (show 0 + 0 ≤ PS ws + (0) from (by have e0 : (0 : Int32).toInt = 0 := (by decide); omega))⟩) hS (fun q _ h => hFc q h) hFc (fun r_117 ws_118 t9 H1 locs ht9 hvm9 hw9 hB9 hz9 hk9 hS => ?_)
                obtain ⟨E_119, Fr_120, hG, hP1, hD1⟩ := hB9
                have hP : va_P (gD g) cl0 ws_118 H1 := by rw [← ht9]; exact hP1
                have hD : va_D A ws_118 := hD1.weaken (fun _ _ _ h => hFc _ h)
                have hz_r_117 : r_117 = 0 ∨ r_117 = 1 := hw9
                clear hP1 hD1 hz9 hk9 hvm9 ht9 hw9
                generalize H1 = H at hP hS ⊢
                have o_h0 := E_119.1 _ _ o_h0
                have o_b1 := E_119.1 _ _ o_b1
                have pp_123 := Fr_120.pp
                refine lv_if_eq (tgt := 150) hx hb dX7_isSound_84 (by decide) (fun c_124 => ?_) (fun c_124 => ?_)
                · refine lv_iconst (v := 0) hx hb dX7_isSound_150 (by decide) ?_
                  refine W_led (fun hLd => ?_)
                  have hcl : 0 + PC ws_118 ≤ PC ws + (0) := (by have e0 : (0 : Int32).toInt = 0 := (by decide); omega)
                  have hsl : 0 + PS ws_118 ≤ PS ws + (0) := (by have e0 : (0 : Int32).toInt = 0 := (by decide); omega)
                  refine W.widen (k := PC ws + (0)) (n := PS ws + (0)) (by omega) (by omega) ?_
                  obtain ⟨fs9, hk_125, hq_125⟩ := ((gA.tr (gF.a (F' := [(6, 2), (6, 3), (6, 15), (6, 16)]) Fr_95 (fun _ h => h)) (gA.tr (gF.a (F' := [(6, 2), (6, 3), (6, 15), (6, 16)]) Fr_110 (by decide)) (gF.a (F' := [(6, 2), (6, 3), (6, 15), (6, 16)]) Fr_120 (by decide))))) _ _ _ hk_89
                  obtain ⟨r0_125, n0_125, c1_125, c2_125, c3_125, r4_125, n4_125, c5_125, c6_125, c7_125, c8_125, r9_125, n9_125, r10_125, n10_125, r11_125, n11_125, c12_125, c13_125, c14_125, c15_125, c16_125, rfl, a_r0_125, f1_125, a_r4_125, f3_125, a_r9_125, f5_125, a_r10_125, f7_125, a_r11_125, f9_125, f10_125, f11_125, f12_125, f13_125, f14_125, -⟩ := (hG.1 _ _ _ _ hk_125).hX7 rfl
                  obtain rfl := fe_i (hq_125 1 (by decide))
                  obtain rfl := fe_i (hq_125 7 (by decide))
                  obtain rfl := fe_i (hq_125 8 (by decide))
                  exact W.zret (v := 0) hx hb hr (nz (Or.inl rfl)) (fun t9 ht9 hW9 => ⟨⟨_, ws_118, rfl, ⟨(Or.inl rfl), (gP_of hD hk_125 (fun q90 e90 => by cases e90; exact (by have e0 : (0 : Int32).toInt = 0 := (by decide); have q_kq_74 := kq_74; have q_c_75 := i_ne c_75; have g_c7_73 := i_rg c7_73; have g_r_65 := i_rg r_65; have b_r_65 := i_bit hz_r_65; omega))), (gP_of hD hk_125 (fun q90 e90 => by cases e90; exact (by have e0 : (0 : Int32).toInt = 0 := (by decide); have q_kq_90 := kq_90; have q_c_91 := i_ne c_91; have g_c8_89 := i_rg c8_89; have g_r_76 := i_rg r_76; have b_r_76 := i_bit hz_r_76; omega))), (gP_of hD hk_125 (fun q90 e90 => by cases e90; exact (by have e0 : (0 : Int32).toInt = 0 := (by decide); have q_f2_1 := f2_1; have q_f3_1 := f3_1; have q_fq_s := fq_s; have q_f_8 := f_8; have q_f1_1 := f1_1; have q_f4_1 := f4_1; have q_f5_1 := f5_1; have g_c1_1 := i_rg c1_1; omega)))⟩, ⟨(E_5.tr (E_11.tr (E_16.tr (E_21.tr (E_26.tr (E_31.tr (E_47.tr (E_57.tr (E_67.tr (E_78.tr (E_94.tr (E_109.tr E_119)))))))))))), (gF.tr (gF.mo (F' := [(6, 0), (6, 1), (6, 2), (6, 3), (6, 5), (6, 6), (6, 7), (6, 8), (6, 12), (6, 13), (6, 14), (6, 15), (6, 16)]) (C' := [(6, 4), (6, 9), (6, 10), (6, 11)]) (S' := none) Fr_6 (by decide) (fun _ h => absurd h List.not_mem_nil) (Or.inl rfl)) (gF.tr (gF.mo (F' := [(6, 0), (6, 1), (6, 2), (6, 3), (6, 5), (6, 6), (6, 7), (6, 8), (6, 12), (6, 13), (6, 14), (6, 15), (6, 16)]) (C' := [(6, 4), (6, 9), (6, 10), (6, 11)]) (S' := none) Fr_12 (by decide) (fun _ h => absurd h List.not_mem_nil) (Or.inl rfl)) (gF.tr (gF.mo (F' := [(6, 0), (6, 1), (6, 2), (6, 3), (6, 5), (6, 6), (6, 7), (6, 8), (6, 12), (6, 13), (6, 14), (6, 15), (6, 16)]) (C' := [(6, 4), (6, 9), (6, 10), (6, 11)]) (S' := none) Fr_17 (by decide) (fun _ h => absurd h List.not_mem_nil) (Or.inl rfl)) (gF.tr (gF.mo (F' := [(6, 0), (6, 1), (6, 2), (6, 3), (6, 5), (6, 6), (6, 7), (6, 8), (6, 12), (6, 13), (6, 14), (6, 15), (6, 16)]) (C' := [(6, 4), (6, 9), (6, 10), (6, 11)]) (S' := none) Fr_22 (by decide) (fun _ h => absurd h List.not_mem_nil) (Or.inl rfl)) (gF.tr (gF.mo (F' := [(6, 0), (6, 1), (6, 2), (6, 3), (6, 5), (6, 6), (6, 7), (6, 8), (6, 12), (6, 13), (6, 14), (6, 15), (6, 16)]) (C' := [(6, 4), (6, 9), (6, 10), (6, 11)]) (S' := none) Fr_27 (by decide) (fun _ h => absurd h List.not_mem_nil) (Or.inl rfl)) (gF.tr (gF.mo (F' := [(6, 0), (6, 1), (6, 2), (6, 3), (6, 5), (6, 6), (6, 7), (6, 8), (6, 12), (6, 13), (6, 14), (6, 15), (6, 16)]) (C' := [(6, 4), (6, 9), (6, 10), (6, 11)]) (S' := none) Fr_32 (by decide) (fun _ h => absurd h List.not_mem_nil) (Or.inr rfl)) (gF.tr (gF.mo (F' := [(6, 0), (6, 1), (6, 2), (6, 3), (6, 5), (6, 6), (6, 7), (6, 8), (6, 12), (6, 13), (6, 14), (6, 15), (6, 16)]) (C' := [(6, 4), (6, 9), (6, 10), (6, 11)]) (S' := none) Fr_48 (by decide) (by decide) (Or.inr rfl)) (gF.tr (gF.mo (F' := [(6, 0), (6, 1), (6, 2), (6, 3), (6, 5), (6, 6), (6, 7), (6, 8), (6, 12), (6, 13), (6, 14), (6, 15), (6, 16)]) (C' := [(6, 4), (6, 9), (6, 10), (6, 11)]) (S' := none) Fr_58 (by decide) (fun _ h => absurd h List.not_mem_nil) (Or.inr rfl)) (gF.tr (gF.mo (F' := [(6, 0), (6, 1), (6, 2), (6, 3), (6, 5), (6, 6), (6, 7), (6, 8), (6, 12), (6, 13), (6, 14), (6, 15), (6, 16)]) (C' := [(6, 4), (6, 9), (6, 10), (6, 11)]) (S' := none) Fr_68 (by decide) (by decide) (Or.inr rfl)) (gF.tr (gF.mo (F' := [(6, 0), (6, 1), (6, 2), (6, 3), (6, 5), (6, 6), (6, 7), (6, 8), (6, 12), (6, 13), (6, 14), (6, 15), (6, 16)]) (C' := [(6, 4), (6, 9), (6, 10), (6, 11)]) (S' := none) Fr_79 (by decide) (by decide) (Or.inr rfl)) (gF.tr (gF.mo (F' := [(6, 0), (6, 1), (6, 2), (6, 3), (6, 5), (6, 6), (6, 7), (6, 8), (6, 12), (6, 13), (6, 14), (6, 15), (6, 16)]) (C' := [(6, 4), (6, 9), (6, 10), (6, 11)]) (S' := none) Fr_95 (by decide) (fun _ h => absurd h List.not_mem_nil) (Or.inr rfl)) (gF.tr (gF.mo (F' := [(6, 0), (6, 1), (6, 2), (6, 3), (6, 5), (6, 6), (6, 7), (6, 8), (6, 12), (6, 13), (6, 14), (6, 15), (6, 16)]) (C' := [(6, 4), (6, 9), (6, 10), (6, 11)]) (S' := none) Fr_110 (by decide) (fun _ h => absurd h List.not_mem_nil) (Or.inr rfl)) (gF.mo (F' := [(6, 0), (6, 1), (6, 2), (6, 3), (6, 5), (6, 6), (6, 7), (6, 8), (6, 12), (6, 13), (6, 14), (6, 15), (6, 16)]) (C' := [(6, 4), (6, 9), (6, 10), (6, 11)]) (S' := none) Fr_120 (by decide) (fun _ h => absurd h List.not_mem_nil) (Or.inr rfl)))))))))))))), hG, by rw [ht9]; exact hP, hD, _, _, by rw [ht9]; exact hLd, hcl, hsl⟩⟩, hS.F ht9⟩) hS.2.2 dX7_isSound_151
                · refine lv_aload_n hx hb dX7_isSound_87 rfl (lv_at hl 0 rfl) ?_
                  have hFc := gfree hD hS hA
                  obtain ⟨k_126, fs_126, hk_126⟩ := gC_of o_h0
                  refine va_calli (va_runV (As := []) (rest := []) ⟨hx, hb, hml, hown, hts⟩ (m_X7_headHolds l g H.size ws_118 h0 hG o_h0) (cwV 0 hts (gd_V kw_1371 kw_1336 kw_1337 kw_710 kw_1335) rfl rfl rfl (by decide +kernel) ⟨Nat.le_of_ble_eq_true rfl, Nat.le_of_ble_eq_true rfl⟩) ⟨gblind, va_recv hK hP (ci := 6) (q0 := k_126) rfl hk_126, fun U hU hW9 => gmk hU hW9 hP hK hD hex hE hS hFc⟩ rfl rfl hl.1 rfl (lv_room (Nat.le_of_ble_eq_true rfl)) dX7_isSound_88 ⟨(show 0 + 0 ≤ PC ws + (0) from (by have e0 : (0 : Int32).toInt = 0 := (by decide); omega)), (show 0 + 0 ≤ PS ws + (0) from (by have e0 : (0 : Int32).toInt = 0 := (by decide); omega))⟩) hS (fun q _ h => hFc q h) hFc (fun r_127 ws_128 t9 H1 locs ht9 hvm9 hw9 hB9 hz9 hk9 hS => ?_)
                  obtain ⟨E_129, Fr_130, hG, hP1, hD1⟩ := hB9
                  have hP : va_P (gD g) cl0 ws_128 H1 := by rw [← ht9]; exact hP1
                  have hD : va_D A ws_128 := hD1.weaken (fun _ _ _ h => hFc _ h)
                  have hz_r_127 : r_127 = 0 ∨ r_127 = 1 := hw9
                  clear hP1 hD1 hz9 hk9 hvm9 ht9 hw9
                  generalize H1 = H at hP hS ⊢
                  have o_h0 := E_129.1 _ _ o_h0
                  have o_b1 := E_129.1 _ _ o_b1
                  have pp_133 := Fr_130.pp
                  refine lv_if_eq (tgt := 150) hx hb dX7_isSound_91 (by decide) (fun c_134 => ?_) (fun c_134 => ?_)
                  · refine lv_iconst (v := 0) hx hb dX7_isSound_150 (by decide) ?_
                    refine W_led (fun hLd => ?_)
                    have hcl : 0 + PC ws_128 ≤ PC ws + (0) := (by have e0 : (0 : Int32).toInt = 0 := (by decide); omega)
                    have hsl : 0 + PS ws_128 ≤ PS ws + (0) := (by have e0 : (0 : Int32).toInt = 0 := (by decide); omega)
                    refine W.widen (k := PC ws + (0)) (n := PS ws + (0)) (by omega) (by omega) ?_
                    obtain ⟨fs9, hk_135, hq_135⟩ := ((gA.tr (gF.a (F' := [(6, 2), (6, 3), (6, 15), (6, 16)]) Fr_95 (fun _ h => h)) (gA.tr (gF.a (F' := [(6, 2), (6, 3), (6, 15), (6, 16)]) Fr_110 (by decide)) (gA.tr (gF.a (F' := [(6, 2), (6, 3), (6, 15), (6, 16)]) Fr_120 (by decide)) (gF.a (F' := [(6, 2), (6, 3), (6, 15), (6, 16)]) Fr_130 (by decide)))))) _ _ _ hk_89
                    obtain ⟨r0_135, n0_135, c1_135, c2_135, c3_135, r4_135, n4_135, c5_135, c6_135, c7_135, c8_135, r9_135, n9_135, r10_135, n10_135, r11_135, n11_135, c12_135, c13_135, c14_135, c15_135, c16_135, rfl, a_r0_135, f1_135, a_r4_135, f3_135, a_r9_135, f5_135, a_r10_135, f7_135, a_r11_135, f9_135, f10_135, f11_135, f12_135, f13_135, f14_135, -⟩ := (hG.1 _ _ _ _ hk_135).hX7 rfl
                    obtain rfl := fe_i (hq_135 1 (by decide))
                    obtain rfl := fe_i (hq_135 7 (by decide))
                    obtain rfl := fe_i (hq_135 8 (by decide))
                    exact W.zret (v := 0) hx hb hr (nz (Or.inl rfl)) (fun t9 ht9 hW9 => ⟨⟨_, ws_128, rfl, ⟨(Or.inl rfl), (gP_of hD hk_135 (fun q90 e90 => by cases e90; exact (by have e0 : (0 : Int32).toInt = 0 := (by decide); have q_kq_74 := kq_74; have q_c_75 := i_ne c_75; have g_c7_73 := i_rg c7_73; have g_r_65 := i_rg r_65; have b_r_65 := i_bit hz_r_65; omega))), (gP_of hD hk_135 (fun q90 e90 => by cases e90; exact (by have e0 : (0 : Int32).toInt = 0 := (by decide); have q_kq_90 := kq_90; have q_c_91 := i_ne c_91; have g_c8_89 := i_rg c8_89; have g_r_76 := i_rg r_76; have b_r_76 := i_bit hz_r_76; omega))), (gP_of hD hk_135 (fun q90 e90 => by cases e90; exact (by have e0 : (0 : Int32).toInt = 0 := (by decide); have q_f2_1 := f2_1; have q_f3_1 := f3_1; have q_fq_s := fq_s; have q_f_8 := f_8; have q_f1_1 := f1_1; have q_f4_1 := f4_1; have q_f5_1 := f5_1; have g_c1_1 := i_rg c1_1; omega)))⟩, ⟨(E_5.tr (E_11.tr (E_16.tr (E_21.tr (E_26.tr (E_31.tr (E_47.tr (E_57.tr (E_67.tr (E_78.tr (E_94.tr (E_109.tr (E_119.tr E_129))))))))))))), (gF.tr (gF.mo (F' := [(6, 0), (6, 1), (6, 2), (6, 3), (6, 5), (6, 6), (6, 7), (6, 8), (6, 12), (6, 13), (6, 14), (6, 15), (6, 16)]) (C' := [(6, 4), (6, 9), (6, 10), (6, 11)]) (S' := none) Fr_6 (by decide) (fun _ h => absurd h List.not_mem_nil) (Or.inl rfl)) (gF.tr (gF.mo (F' := [(6, 0), (6, 1), (6, 2), (6, 3), (6, 5), (6, 6), (6, 7), (6, 8), (6, 12), (6, 13), (6, 14), (6, 15), (6, 16)]) (C' := [(6, 4), (6, 9), (6, 10), (6, 11)]) (S' := none) Fr_12 (by decide) (fun _ h => absurd h List.not_mem_nil) (Or.inl rfl)) (gF.tr (gF.mo (F' := [(6, 0), (6, 1), (6, 2), (6, 3), (6, 5), (6, 6), (6, 7), (6, 8), (6, 12), (6, 13), (6, 14), (6, 15), (6, 16)]) (C' := [(6, 4), (6, 9), (6, 10), (6, 11)]) (S' := none) Fr_17 (by decide) (fun _ h => absurd h List.not_mem_nil) (Or.inl rfl)) (gF.tr (gF.mo (F' := [(6, 0), (6, 1), (6, 2), (6, 3), (6, 5), (6, 6), (6, 7), (6, 8), (6, 12), (6, 13), (6, 14), (6, 15), (6, 16)]) (C' := [(6, 4), (6, 9), (6, 10), (6, 11)]) (S' := none) Fr_22 (by decide) (fun _ h => absurd h List.not_mem_nil) (Or.inl rfl)) (gF.tr (gF.mo (F' := [(6, 0), (6, 1), (6, 2), (6, 3), (6, 5), (6, 6), (6, 7), (6, 8), (6, 12), (6, 13), (6, 14), (6, 15), (6, 16)]) (C' := [(6, 4), (6, 9), (6, 10), (6, 11)]) (S' := none) Fr_27 (by decide) (fun _ h => absurd h List.not_mem_nil) (Or.inl rfl)) (gF.tr (gF.mo (F' := [(6, 0), (6, 1), (6, 2), (6, 3), (6, 5), (6, 6), (6, 7), (6, 8), (6, 12), (6, 13), (6, 14), (6, 15), (6, 16)]) (C' := [(6, 4), (6, 9), (6, 10), (6, 11)]) (S' := none) Fr_32 (by decide) (fun _ h => absurd h List.not_mem_nil) (Or.inr rfl)) (gF.tr (gF.mo (F' := [(6, 0), (6, 1), (6, 2), (6, 3), (6, 5), (6, 6), (6, 7), (6, 8), (6, 12), (6, 13), (6, 14), (6, 15), (6, 16)]) (C' := [(6, 4), (6, 9), (6, 10), (6, 11)]) (S' := none) Fr_48 (by decide) (by decide) (Or.inr rfl)) (gF.tr (gF.mo (F' := [(6, 0), (6, 1), (6, 2), (6, 3), (6, 5), (6, 6), (6, 7), (6, 8), (6, 12), (6, 13), (6, 14), (6, 15), (6, 16)]) (C' := [(6, 4), (6, 9), (6, 10), (6, 11)]) (S' := none) Fr_58 (by decide) (fun _ h => absurd h List.not_mem_nil) (Or.inr rfl)) (gF.tr (gF.mo (F' := [(6, 0), (6, 1), (6, 2), (6, 3), (6, 5), (6, 6), (6, 7), (6, 8), (6, 12), (6, 13), (6, 14), (6, 15), (6, 16)]) (C' := [(6, 4), (6, 9), (6, 10), (6, 11)]) (S' := none) Fr_68 (by decide) (by decide) (Or.inr rfl)) (gF.tr (gF.mo (F' := [(6, 0), (6, 1), (6, 2), (6, 3), (6, 5), (6, 6), (6, 7), (6, 8), (6, 12), (6, 13), (6, 14), (6, 15), (6, 16)]) (C' := [(6, 4), (6, 9), (6, 10), (6, 11)]) (S' := none) Fr_79 (by decide) (by decide) (Or.inr rfl)) (gF.tr (gF.mo (F' := [(6, 0), (6, 1), (6, 2), (6, 3), (6, 5), (6, 6), (6, 7), (6, 8), (6, 12), (6, 13), (6, 14), (6, 15), (6, 16)]) (C' := [(6, 4), (6, 9), (6, 10), (6, 11)]) (S' := none) Fr_95 (by decide) (fun _ h => absurd h List.not_mem_nil) (Or.inr rfl)) (gF.tr (gF.mo (F' := [(6, 0), (6, 1), (6, 2), (6, 3), (6, 5), (6, 6), (6, 7), (6, 8), (6, 12), (6, 13), (6, 14), (6, 15), (6, 16)]) (C' := [(6, 4), (6, 9), (6, 10), (6, 11)]) (S' := none) Fr_110 (by decide) (fun _ h => absurd h List.not_mem_nil) (Or.inr rfl)) (gF.tr (gF.mo (F' := [(6, 0), (6, 1), (6, 2), (6, 3), (6, 5), (6, 6), (6, 7), (6, 8), (6, 12), (6, 13), (6, 14), (6, 15), (6, 16)]) (C' := [(6, 4), (6, 9), (6, 10), (6, 11)]) (S' := none) Fr_120 (by decide) (fun _ h => absurd h List.not_mem_nil) (Or.inr rfl)) (gF.mo (F' := [(6, 0), (6, 1), (6, 2), (6, 3), (6, 5), (6, 6), (6, 7), (6, 8), (6, 12), (6, 13), (6, 14), (6, 15), (6, 16)]) (C' := [(6, 4), (6, 9), (6, 10), (6, 11)]) (S' := none) Fr_130 (by decide) (fun _ h => absurd h List.not_mem_nil) (Or.inr rfl))))))))))))))), hG, by rw [ht9]; exact hP, hD, _, _, by rw [ht9]; exact hLd, hcl, hsl⟩⟩, hS.F ht9⟩) hS.2.2 dX7_isSound_151
                  · refine lv_aload_n hx hb dX7_isSound_94 rfl (lv_at hl 0 rfl) ?_
                    have hFc := gfree hD hS hA
                    obtain ⟨k_136, fs_136, hk_136⟩ := gC_of o_h0
                    refine va_calli (va_runV (As := []) (rest := []) ⟨hx, hb, hml, hown, hts⟩ (m_X7_namesHold l g H.size ws_128 h0 hG o_h0) (cwV 0 hts (gd_V kw_1372 kw_1415 kw_1416 kw_710 kw_1414) rfl rfl rfl (by decide +kernel) ⟨Nat.le_of_ble_eq_true rfl, Nat.le_of_ble_eq_true rfl⟩) ⟨gblind, va_recv hK hP (ci := 6) (q0 := k_136) rfl hk_136, fun U hU hW9 => gmk hU hW9 hP hK hD hex hE hS hFc⟩ rfl rfl hl.1 rfl (lv_room (Nat.le_of_ble_eq_true rfl)) dX7_isSound_95 ⟨(show 0 + 0 ≤ PC ws + (0) from (by have e0 : (0 : Int32).toInt = 0 := (by decide); omega)), (show 0 + 0 ≤ PS ws + (0) from (by have e0 : (0 : Int32).toInt = 0 := (by decide); omega))⟩) hS (fun q _ h => hFc q h) hFc (fun r_137 ws_138 t9 H1 locs ht9 hvm9 hw9 hB9 hz9 hk9 hS => ?_)
                    obtain ⟨E_139, Fr_140, hG, hP1, hD1⟩ := hB9
                    have hP : va_P (gD g) cl0 ws_138 H1 := by rw [← ht9]; exact hP1
                    have hD : va_D A ws_138 := hD1.weaken (fun _ _ _ h => hFc _ h)
                    have hz_r_137 : r_137 = 0 ∨ r_137 = 1 := hw9
                    clear hP1 hD1 hz9 hk9 hvm9 ht9 hw9
                    generalize H1 = H at hP hS ⊢
                    have o_h0 := E_139.1 _ _ o_h0
                    have o_b1 := E_139.1 _ _ o_b1
                    have pp_143 := Fr_140.pp
                    refine lv_if_eq (tgt := 150) hx hb dX7_isSound_98 (by decide) (fun c_144 => ?_) (fun c_144 => ?_)
                    · refine lv_iconst (v := 0) hx hb dX7_isSound_150 (by decide) ?_
                      refine W_led (fun hLd => ?_)
                      have hcl : 0 + PC ws_138 ≤ PC ws + (0) := (by have e0 : (0 : Int32).toInt = 0 := (by decide); omega)
                      have hsl : 0 + PS ws_138 ≤ PS ws + (0) := (by have e0 : (0 : Int32).toInt = 0 := (by decide); omega)
                      refine W.widen (k := PC ws + (0)) (n := PS ws + (0)) (by omega) (by omega) ?_
                      obtain ⟨fs9, hk_145, hq_145⟩ := ((gA.tr (gF.a (F' := [(6, 2), (6, 3), (6, 15), (6, 16)]) Fr_95 (fun _ h => h)) (gA.tr (gF.a (F' := [(6, 2), (6, 3), (6, 15), (6, 16)]) Fr_110 (by decide)) (gA.tr (gF.a (F' := [(6, 2), (6, 3), (6, 15), (6, 16)]) Fr_120 (by decide)) (gA.tr (gF.a (F' := [(6, 2), (6, 3), (6, 15), (6, 16)]) Fr_130 (by decide)) (gF.a (F' := [(6, 2), (6, 3), (6, 15), (6, 16)]) Fr_140 (by decide))))))) _ _ _ hk_89
                      obtain ⟨r0_145, n0_145, c1_145, c2_145, c3_145, r4_145, n4_145, c5_145, c6_145, c7_145, c8_145, r9_145, n9_145, r10_145, n10_145, r11_145, n11_145, c12_145, c13_145, c14_145, c15_145, c16_145, rfl, a_r0_145, f1_145, a_r4_145, f3_145, a_r9_145, f5_145, a_r10_145, f7_145, a_r11_145, f9_145, f10_145, f11_145, f12_145, f13_145, f14_145, -⟩ := (hG.1 _ _ _ _ hk_145).hX7 rfl
                      obtain rfl := fe_i (hq_145 1 (by decide))
                      obtain rfl := fe_i (hq_145 7 (by decide))
                      obtain rfl := fe_i (hq_145 8 (by decide))
                      exact W.zret (v := 0) hx hb hr (nz (Or.inl rfl)) (fun t9 ht9 hW9 => ⟨⟨_, ws_138, rfl, ⟨(Or.inl rfl), (gP_of hD hk_145 (fun q90 e90 => by cases e90; exact (by have e0 : (0 : Int32).toInt = 0 := (by decide); have q_kq_74 := kq_74; have q_c_75 := i_ne c_75; have g_c7_73 := i_rg c7_73; have g_r_65 := i_rg r_65; have b_r_65 := i_bit hz_r_65; omega))), (gP_of hD hk_145 (fun q90 e90 => by cases e90; exact (by have e0 : (0 : Int32).toInt = 0 := (by decide); have q_kq_90 := kq_90; have q_c_91 := i_ne c_91; have g_c8_89 := i_rg c8_89; have g_r_76 := i_rg r_76; have b_r_76 := i_bit hz_r_76; omega))), (gP_of hD hk_145 (fun q90 e90 => by cases e90; exact (by have e0 : (0 : Int32).toInt = 0 := (by decide); have q_f2_1 := f2_1; have q_f3_1 := f3_1; have q_fq_s := fq_s; have q_f_8 := f_8; have q_f1_1 := f1_1; have q_f4_1 := f4_1; have q_f5_1 := f5_1; have g_c1_1 := i_rg c1_1; omega)))⟩, ⟨(E_5.tr (E_11.tr (E_16.tr (E_21.tr (E_26.tr (E_31.tr (E_47.tr (E_57.tr (E_67.tr (E_78.tr (E_94.tr (E_109.tr (E_119.tr (E_129.tr E_139)))))))))))))), (gF.tr (gF.mo (F' := [(6, 0), (6, 1), (6, 2), (6, 3), (6, 5), (6, 6), (6, 7), (6, 8), (6, 12), (6, 13), (6, 14), (6, 15), (6, 16)]) (C' := [(6, 4), (6, 9), (6, 10), (6, 11)]) (S' := none) Fr_6 (by decide) (fun _ h => absurd h List.not_mem_nil) (Or.inl rfl)) (gF.tr (gF.mo (F' := [(6, 0), (6, 1), (6, 2), (6, 3), (6, 5), (6, 6), (6, 7), (6, 8), (6, 12), (6, 13), (6, 14), (6, 15), (6, 16)]) (C' := [(6, 4), (6, 9), (6, 10), (6, 11)]) (S' := none) Fr_12 (by decide) (fun _ h => absurd h List.not_mem_nil) (Or.inl rfl)) (gF.tr (gF.mo (F' := [(6, 0), (6, 1), (6, 2), (6, 3), (6, 5), (6, 6), (6, 7), (6, 8), (6, 12), (6, 13), (6, 14), (6, 15), (6, 16)]) (C' := [(6, 4), (6, 9), (6, 10), (6, 11)]) (S' := none) Fr_17 (by decide) (fun _ h => absurd h List.not_mem_nil) (Or.inl rfl)) (gF.tr (gF.mo (F' := [(6, 0), (6, 1), (6, 2), (6, 3), (6, 5), (6, 6), (6, 7), (6, 8), (6, 12), (6, 13), (6, 14), (6, 15), (6, 16)]) (C' := [(6, 4), (6, 9), (6, 10), (6, 11)]) (S' := none) Fr_22 (by decide) (fun _ h => absurd h List.not_mem_nil) (Or.inl rfl)) (gF.tr (gF.mo (F' := [(6, 0), (6, 1), (6, 2), (6, 3), (6, 5), (6, 6), (6, 7), (6, 8), (6, 12), (6, 13), (6, 14), (6, 15), (6, 16)]) (C' := [(6, 4), (6, 9), (6, 10), (6, 11)]) (S' := none) Fr_27 (by decide) (fun _ h => absurd h List.not_mem_nil) (Or.inl rfl)) (gF.tr (gF.mo (F' := [(6, 0), (6, 1), (6, 2), (6, 3), (6, 5), (6, 6), (6, 7), (6, 8), (6, 12), (6, 13), (6, 14), (6, 15), (6, 16)]) (C' := [(6, 4), (6, 9), (6, 10), (6, 11)]) (S' := none) Fr_32 (by decide) (fun _ h => absurd h List.not_mem_nil) (Or.inr rfl)) (gF.tr (gF.mo (F' := [(6, 0), (6, 1), (6, 2), (6, 3), (6, 5), (6, 6), (6, 7), (6, 8), (6, 12), (6, 13), (6, 14), (6, 15), (6, 16)]) (C' := [(6, 4), (6, 9), (6, 10), (6, 11)]) (S' := none) Fr_48 (by decide) (by decide) (Or.inr rfl)) (gF.tr (gF.mo (F' := [(6, 0), (6, 1), (6, 2), (6, 3), (6, 5), (6, 6), (6, 7), (6, 8), (6, 12), (6, 13), (6, 14), (6, 15), (6, 16)]) (C' := [(6, 4), (6, 9), (6, 10), (6, 11)]) (S' := none) Fr_58 (by decide) (fun _ h => absurd h List.not_mem_nil) (Or.inr rfl)) (gF.tr (gF.mo (F' := [(6, 0), (6, 1), (6, 2), (6, 3), (6, 5), (6, 6), (6, 7), (6, 8), (6, 12), (6, 13), (6, 14), (6, 15), (6, 16)]) (C' := [(6, 4), (6, 9), (6, 10), (6, 11)]) (S' := none) Fr_68 (by decide) (by decide) (Or.inr rfl)) (gF.tr (gF.mo (F' := [(6, 0), (6, 1), (6, 2), (6, 3), (6, 5), (6, 6), (6, 7), (6, 8), (6, 12), (6, 13), (6, 14), (6, 15), (6, 16)]) (C' := [(6, 4), (6, 9), (6, 10), (6, 11)]) (S' := none) Fr_79 (by decide) (by decide) (Or.inr rfl)) (gF.tr (gF.mo (F' := [(6, 0), (6, 1), (6, 2), (6, 3), (6, 5), (6, 6), (6, 7), (6, 8), (6, 12), (6, 13), (6, 14), (6, 15), (6, 16)]) (C' := [(6, 4), (6, 9), (6, 10), (6, 11)]) (S' := none) Fr_95 (by decide) (fun _ h => absurd h List.not_mem_nil) (Or.inr rfl)) (gF.tr (gF.mo (F' := [(6, 0), (6, 1), (6, 2), (6, 3), (6, 5), (6, 6), (6, 7), (6, 8), (6, 12), (6, 13), (6, 14), (6, 15), (6, 16)]) (C' := [(6, 4), (6, 9), (6, 10), (6, 11)]) (S' := none) Fr_110 (by decide) (fun _ h => absurd h List.not_mem_nil) (Or.inr rfl)) (gF.tr (gF.mo (F' := [(6, 0), (6, 1), (6, 2), (6, 3), (6, 5), (6, 6), (6, 7), (6, 8), (6, 12), (6, 13), (6, 14), (6, 15), (6, 16)]) (C' := [(6, 4), (6, 9), (6, 10), (6, 11)]) (S' := none) Fr_120 (by decide) (fun _ h => absurd h List.not_mem_nil) (Or.inr rfl)) (gF.tr (gF.mo (F' := [(6, 0), (6, 1), (6, 2), (6, 3), (6, 5), (6, 6), (6, 7), (6, 8), (6, 12), (6, 13), (6, 14), (6, 15), (6, 16)]) (C' := [(6, 4), (6, 9), (6, 10), (6, 11)]) (S' := none) Fr_130 (by decide) (fun _ h => absurd h List.not_mem_nil) (Or.inr rfl)) (gF.mo (F' := [(6, 0), (6, 1), (6, 2), (6, 3), (6, 5), (6, 6), (6, 7), (6, 8), (6, 12), (6, 13), (6, 14), (6, 15), (6, 16)]) (C' := [(6, 4), (6, 9), (6, 10), (6, 11)]) (S' := none) Fr_140 (by decide) (fun _ h => absurd h List.not_mem_nil) (Or.inr rfl)))))))))))))))), hG, by rw [ht9]; exact hP, hD, _, _, by rw [ht9]; exact hLd, hcl, hsl⟩⟩, hS.F ht9⟩) hS.2.2 dX7_isSound_151
                    · refine lv_aload_n hx hb dX7_isSound_101 rfl (lv_at hl 0 rfl) ?_
                      have hFc := gfree hD hS hA
                      obtain ⟨k_146, fs_146, hk_146⟩ := gC_of o_h0
                      refine va_calli (va_runV (As := []) (rest := []) ⟨hx, hb, hml, hown, hts⟩ (m_X7_typesHold l g H.size ws_138 h0 hG o_h0) (cwV 0 hts (gd_V kw_1373 kw_1441 kw_1442 kw_710 kw_1440) rfl rfl rfl (by decide +kernel) ⟨Nat.le_of_ble_eq_true rfl, Nat.le_of_ble_eq_true rfl⟩) ⟨gblind, va_recv hK hP (ci := 6) (q0 := k_146) rfl hk_146, fun U hU hW9 => gmk hU hW9 hP hK hD hex hE hS hFc⟩ rfl rfl hl.1 rfl (lv_room (Nat.le_of_ble_eq_true rfl)) dX7_isSound_102 ⟨(show 0 + 0 ≤ PC ws + (0) from (by have e0 : (0 : Int32).toInt = 0 := (by decide); omega)), (show 0 + 0 ≤ PS ws + (0) from (by have e0 : (0 : Int32).toInt = 0 := (by decide); omega))⟩) hS (fun q _ h => hFc q h) hFc (fun r_147 ws_148 t9 H1 locs ht9 hvm9 hw9 hB9 hz9 hk9 hS => ?_)
                      obtain ⟨E_149, Fr_150, hG, hP1, hD1⟩ := hB9
                      have hP : va_P (gD g) cl0 ws_148 H1 := by rw [← ht9]; exact hP1
                      have hD : va_D A ws_148 := hD1.weaken (fun _ _ _ h => hFc _ h)
                      have hz_r_147 : r_147 = 0 ∨ r_147 = 1 := hw9
                      clear hP1 hD1 hz9 hk9 hvm9 ht9 hw9
                      generalize H1 = H at hP hS ⊢
                      have o_h0 := E_149.1 _ _ o_h0
                      have o_b1 := E_149.1 _ _ o_b1
                      have pp_153 := Fr_150.pp
                      refine lv_if_eq (tgt := 150) hx hb dX7_isSound_105 (by decide) (fun c_154 => ?_) (fun c_154 => ?_)
                      · refine lv_iconst (v := 0) hx hb dX7_isSound_150 (by decide) ?_
                        refine W_led (fun hLd => ?_)
                        have hcl : 0 + PC ws_148 ≤ PC ws + (0) := (by have e0 : (0 : Int32).toInt = 0 := (by decide); omega)
                        have hsl : 0 + PS ws_148 ≤ PS ws + (0) := (by have e0 : (0 : Int32).toInt = 0 := (by decide); omega)
                        refine W.widen (k := PC ws + (0)) (n := PS ws + (0)) (by omega) (by omega) ?_
                        obtain ⟨fs9, hk_155, hq_155⟩ := ((gA.tr (gF.a (F' := [(6, 2), (6, 3), (6, 12), (6, 13), (6, 14), (6, 15), (6, 16)]) Fr_95 (by decide)) (gA.tr (gF.a (F' := [(6, 2), (6, 3), (6, 12), (6, 13), (6, 14), (6, 15), (6, 16)]) Fr_110 (by decide)) (gA.tr (gF.a (F' := [(6, 2), (6, 3), (6, 12), (6, 13), (6, 14), (6, 15), (6, 16)]) Fr_120 (by decide)) (gA.tr (gF.a (F' := [(6, 2), (6, 3), (6, 12), (6, 13), (6, 14), (6, 15), (6, 16)]) Fr_130 (by decide)) (gA.tr (gF.a (F' := [(6, 2), (6, 3), (6, 12), (6, 13), (6, 14), (6, 15), (6, 16)]) Fr_140 (by decide)) (gF.a (F' := [(6, 2), (6, 3), (6, 12), (6, 13), (6, 14), (6, 15), (6, 16)]) Fr_150 (by decide)))))))) _ _ _ hk_89
                        obtain ⟨r0_155, n0_155, c1_155, c2_155, c3_155, r4_155, n4_155, c5_155, c6_155, c7_155, c8_155, r9_155, n9_155, r10_155, n10_155, r11_155, n11_155, c12_155, c13_155, c14_155, c15_155, c16_155, rfl, a_r0_155, f1_155, a_r4_155, f3_155, a_r9_155, f5_155, a_r10_155, f7_155, a_r11_155, f9_155, f10_155, f11_155, f12_155, f13_155, f14_155, -⟩ := (hG.1 _ _ _ _ hk_155).hX7 rfl
                        obtain rfl := fe_i (hq_155 1 (by decide))
                        obtain rfl := fe_i (hq_155 7 (by decide))
                        obtain rfl := fe_i (hq_155 8 (by decide))
                        exact W.zret (v := 0) hx hb hr (nz (Or.inl rfl)) (fun t9 ht9 hW9 => ⟨⟨_, ws_148, rfl, ⟨(Or.inl rfl), (gP_of hD hk_155 (fun q90 e90 => by cases e90; exact (by have e0 : (0 : Int32).toInt = 0 := (by decide); have q_kq_74 := kq_74; have q_c_75 := i_ne c_75; have g_c7_73 := i_rg c7_73; have g_r_65 := i_rg r_65; have b_r_65 := i_bit hz_r_65; omega))), (gP_of hD hk_155 (fun q90 e90 => by cases e90; exact (by have e0 : (0 : Int32).toInt = 0 := (by decide); have q_kq_90 := kq_90; have q_c_91 := i_ne c_91; have g_c8_89 := i_rg c8_89; have g_r_76 := i_rg r_76; have b_r_76 := i_bit hz_r_76; omega))), (gP_of hD hk_155 (fun q90 e90 => by cases e90; exact (by have e0 : (0 : Int32).toInt = 0 := (by decide); have q_f2_1 := f2_1; have q_f3_1 := f3_1; have q_fq_s := fq_s; have q_f_8 := f_8; have q_f1_1 := f1_1; have q_f4_1 := f4_1; have q_f5_1 := f5_1; have g_c1_1 := i_rg c1_1; omega)))⟩, ⟨(E_5.tr (E_11.tr (E_16.tr (E_21.tr (E_26.tr (E_31.tr (E_47.tr (E_57.tr (E_67.tr (E_78.tr (E_94.tr (E_109.tr (E_119.tr (E_129.tr (E_139.tr E_149))))))))))))))), (gF.tr (gF.mo (F' := [(6, 0), (6, 1), (6, 2), (6, 3), (6, 5), (6, 6), (6, 7), (6, 8), (6, 12), (6, 13), (6, 14), (6, 15), (6, 16)]) (C' := [(6, 4), (6, 9), (6, 10), (6, 11)]) (S' := none) Fr_6 (by decide) (fun _ h => absurd h List.not_mem_nil) (Or.inl rfl)) (gF.tr (gF.mo (F' := [(6, 0), (6, 1), (6, 2), (6, 3), (6, 5), (6, 6), (6, 7), (6, 8), (6, 12), (6, 13), (6, 14), (6, 15), (6, 16)]) (C' := [(6, 4), (6, 9), (6, 10), (6, 11)]) (S' := none) Fr_12 (by decide) (fun _ h => absurd h List.not_mem_nil) (Or.inl rfl)) (gF.tr (gF.mo (F' := [(6, 0), (6, 1), (6, 2), (6, 3), (6, 5), (6, 6), (6, 7), (6, 8), (6, 12), (6, 13), (6, 14), (6, 15), (6, 16)]) (C' := [(6, 4), (6, 9), (6, 10), (6, 11)]) (S' := none) Fr_17 (by decide) (fun _ h => absurd h List.not_mem_nil) (Or.inl rfl)) (gF.tr (gF.mo (F' := [(6, 0), (6, 1), (6, 2), (6, 3), (6, 5), (6, 6), (6, 7), (6, 8), (6, 12), (6, 13), (6, 14), (6, 15), (6, 16)]) (C' := [(6, 4), (6, 9), (6, 10), (6, 11)]) (S' := none) Fr_22 (by decide) (fun _ h => absurd h List.not_mem_nil) (Or.inl rfl)) (gF.tr (gF.mo (F' := [(6, 0), (6, 1), (6, 2), (6, 3), (6, 5), (6, 6), (6, 7), (6, 8), (6, 12), (6, 13), (6, 14), (6, 15), (6, 16)]) (C' := [(6, 4), (6, 9), (6, 10), (6, 11)]) (S' := none) Fr_27 (by decide) (fun _ h => absurd h List.not_mem_nil) (Or.inl rfl)) (gF.tr (gF.mo (F' := [(6, 0), (6, 1), (6, 2), (6, 3), (6, 5), (6, 6), (6, 7), (6, 8), (6, 12), (6, 13), (6, 14), (6, 15), (6, 16)]) (C' := [(6, 4), (6, 9), (6, 10), (6, 11)]) (S' := none) Fr_32 (by decide) (fun _ h => absurd h List.not_mem_nil) (Or.inr rfl)) (gF.tr (gF.mo (F' := [(6, 0), (6, 1), (6, 2), (6, 3), (6, 5), (6, 6), (6, 7), (6, 8), (6, 12), (6, 13), (6, 14), (6, 15), (6, 16)]) (C' := [(6, 4), (6, 9), (6, 10), (6, 11)]) (S' := none) Fr_48 (by decide) (by decide) (Or.inr rfl)) (gF.tr (gF.mo (F' := [(6, 0), (6, 1), (6, 2), (6, 3), (6, 5), (6, 6), (6, 7), (6, 8), (6, 12), (6, 13), (6, 14), (6, 15), (6, 16)]) (C' := [(6, 4), (6, 9), (6, 10), (6, 11)]) (S' := none) Fr_58 (by decide) (fun _ h => absurd h List.not_mem_nil) (Or.inr rfl)) (gF.tr (gF.mo (F' := [(6, 0), (6, 1), (6, 2), (6, 3), (6, 5), (6, 6), (6, 7), (6, 8), (6, 12), (6, 13), (6, 14), (6, 15), (6, 16)]) (C' := [(6, 4), (6, 9), (6, 10), (6, 11)]) (S' := none) Fr_68 (by decide) (by decide) (Or.inr rfl)) (gF.tr (gF.mo (F' := [(6, 0), (6, 1), (6, 2), (6, 3), (6, 5), (6, 6), (6, 7), (6, 8), (6, 12), (6, 13), (6, 14), (6, 15), (6, 16)]) (C' := [(6, 4), (6, 9), (6, 10), (6, 11)]) (S' := none) Fr_79 (by decide) (by decide) (Or.inr rfl)) (gF.tr (gF.mo (F' := [(6, 0), (6, 1), (6, 2), (6, 3), (6, 5), (6, 6), (6, 7), (6, 8), (6, 12), (6, 13), (6, 14), (6, 15), (6, 16)]) (C' := [(6, 4), (6, 9), (6, 10), (6, 11)]) (S' := none) Fr_95 (by decide) (fun _ h => absurd h List.not_mem_nil) (Or.inr rfl)) (gF.tr (gF.mo (F' := [(6, 0), (6, 1), (6, 2), (6, 3), (6, 5), (6, 6), (6, 7), (6, 8), (6, 12), (6, 13), (6, 14), (6, 15), (6, 16)]) (C' := [(6, 4), (6, 9), (6, 10), (6, 11)]) (S' := none) Fr_110 (by decide) (fun _ h => absurd h List.not_mem_nil) (Or.inr rfl)) (gF.tr (gF.mo (F' := [(6, 0), (6, 1), (6, 2), (6, 3), (6, 5), (6, 6), (6, 7), (6, 8), (6, 12), (6, 13), (6, 14), (6, 15), (6, 16)]) (C' := [(6, 4), (6, 9), (6, 10), (6, 11)]) (S' := none) Fr_120 (by decide) (fun _ h => absurd h List.not_mem_nil) (Or.inr rfl)) (gF.tr (gF.mo (F' := [(6, 0), (6, 1), (6, 2), (6, 3), (6, 5), (6, 6), (6, 7), (6, 8), (6, 12), (6, 13), (6, 14), (6, 15), (6, 16)]) (C' := [(6, 4), (6, 9), (6, 10), (6, 11)]) (S' := none) Fr_130 (by decide) (fun _ h => absurd h List.not_mem_nil) (Or.inr rfl)) (gF.tr (gF.mo (F' := [(6, 0), (6, 1), (6, 2), (6, 3), (6, 5), (6, 6), (6, 7), (6, 8), (6, 12), (6, 13), (6, 14), (6, 15), (6, 16)]) (C' := [(6, 4), (6, 9), (6, 10), (6, 11)]) (S' := none) Fr_140 (by decide) (fun _ h => absurd h List.not_mem_nil) (Or.inr rfl)) (gF.mo (F' := [(6, 0), (6, 1), (6, 2), (6, 3), (6, 5), (6, 6), (6, 7), (6, 8), (6, 12), (6, 13), (6, 14), (6, 15), (6, 16)]) (C' := [(6, 4), (6, 9), (6, 10), (6, 11)]) (S' := none) Fr_150 (by decide) (fun _ h => absurd h List.not_mem_nil) (Or.inr rfl))))))))))))))))), hG, by rw [ht9]; exact hP, hD, _, _, by rw [ht9]; exact hLd, hcl, hsl⟩⟩, hS.F ht9⟩) hS.2.2 dX7_isSound_151
                      · refine lv_aload_n hx hb dX7_isSound_108 rfl (lv_at hl 0 rfl) ?_
                        have hFc := gfree hD hS hA
                        obtain ⟨k_156, fs_156, hk_156⟩ := gC_of o_h0
                        refine va_calli (va_runV (As := []) (rest := []) ⟨hx, hb, hml, hown, hts⟩ (m_X7_noTwins l g H.size ws_148 h0 hG o_h0) (cwV 0 hts (gd_V kw_1374 kw_1419 kw_1420 kw_710 kw_1418) rfl rfl rfl (by decide +kernel) ⟨Nat.le_of_ble_eq_true rfl, Nat.le_of_ble_eq_true rfl⟩) ⟨gblind, va_recv hK hP (ci := 6) (q0 := k_156) rfl hk_156, fun U hU hW9 => gmk hU hW9 hP hK hD hex hE hS hFc⟩ rfl rfl hl.1 rfl (lv_room (Nat.le_of_ble_eq_true rfl)) dX7_isSound_109 ⟨(show 0 + 0 ≤ PC ws + (0) from (by have e0 : (0 : Int32).toInt = 0 := (by decide); omega)), (show 0 + 0 ≤ PS ws + (0) from (by have e0 : (0 : Int32).toInt = 0 := (by decide); omega))⟩) hS (fun q _ h => hFc q h) hFc (fun r_157 ws_158 t9 H1 locs ht9 hvm9 hw9 hB9 hz9 hk9 hS => ?_)
                        obtain ⟨E_159, Fr_160, hG, hP1, hD1⟩ := hB9
                        have hP : va_P (gD g) cl0 ws_158 H1 := by rw [← ht9]; exact hP1
                        have hD : va_D A ws_158 := hD1.weaken (fun _ _ _ h => hFc _ h)
                        have hz_r_157 : r_157 = 0 ∨ r_157 = 1 := hw9
                        clear hP1 hD1 hz9 hk9 hvm9 ht9 hw9
                        generalize H1 = H at hP hS ⊢
                        have o_h0 := E_159.1 _ _ o_h0
                        have o_b1 := E_159.1 _ _ o_b1
                        have pp_163 := Fr_160.pp
                        refine lv_if_eq (tgt := 150) hx hb dX7_isSound_112 (by decide) (fun c_164 => ?_) (fun c_164 => ?_)
                        · refine lv_iconst (v := 0) hx hb dX7_isSound_150 (by decide) ?_
                          refine W_led (fun hLd => ?_)
                          have hcl : 0 + PC ws_158 ≤ PC ws + (0) := (by have e0 : (0 : Int32).toInt = 0 := (by decide); omega)
                          have hsl : 0 + PS ws_158 ≤ PS ws + (0) := (by have e0 : (0 : Int32).toInt = 0 := (by decide); omega)
                          refine W.widen (k := PC ws + (0)) (n := PS ws + (0)) (by omega) (by omega) ?_
                          obtain ⟨fs9, hk_165, hq_165⟩ := ((gA.tr (gF.a (F' := [(6, 2), (6, 3), (6, 12), (6, 13), (6, 14), (6, 15), (6, 16)]) Fr_95 (by decide)) (gA.tr (gF.a (F' := [(6, 2), (6, 3), (6, 12), (6, 13), (6, 14), (6, 15), (6, 16)]) Fr_110 (by decide)) (gA.tr (gF.a (F' := [(6, 2), (6, 3), (6, 12), (6, 13), (6, 14), (6, 15), (6, 16)]) Fr_120 (by decide)) (gA.tr (gF.a (F' := [(6, 2), (6, 3), (6, 12), (6, 13), (6, 14), (6, 15), (6, 16)]) Fr_130 (by decide)) (gA.tr (gF.a (F' := [(6, 2), (6, 3), (6, 12), (6, 13), (6, 14), (6, 15), (6, 16)]) Fr_140 (by decide)) (gA.tr (gF.a (F' := [(6, 2), (6, 3), (6, 12), (6, 13), (6, 14), (6, 15), (6, 16)]) Fr_150 (by decide)) (gF.a (F' := [(6, 2), (6, 3), (6, 12), (6, 13), (6, 14), (6, 15), (6, 16)]) Fr_160 (by decide))))))))) _ _ _ hk_89
                          obtain ⟨r0_165, n0_165, c1_165, c2_165, c3_165, r4_165, n4_165, c5_165, c6_165, c7_165, c8_165, r9_165, n9_165, r10_165, n10_165, r11_165, n11_165, c12_165, c13_165, c14_165, c15_165, c16_165, rfl, a_r0_165, f1_165, a_r4_165, f3_165, a_r9_165, f5_165, a_r10_165, f7_165, a_r11_165, f9_165, f10_165, f11_165, f12_165, f13_165, f14_165, -⟩ := (hG.1 _ _ _ _ hk_165).hX7 rfl
                          obtain rfl := fe_i (hq_165 1 (by decide))
                          obtain rfl := fe_i (hq_165 7 (by decide))
                          obtain rfl := fe_i (hq_165 8 (by decide))
                          exact W.zret (v := 0) hx hb hr (nz (Or.inl rfl)) (fun t9 ht9 hW9 => ⟨⟨_, ws_158, rfl, ⟨(Or.inl rfl), (gP_of hD hk_165 (fun q90 e90 => by cases e90; exact (by have e0 : (0 : Int32).toInt = 0 := (by decide); have q_kq_74 := kq_74; have q_c_75 := i_ne c_75; have g_c7_73 := i_rg c7_73; have g_r_65 := i_rg r_65; have b_r_65 := i_bit hz_r_65; omega))), (gP_of hD hk_165 (fun q90 e90 => by cases e90; exact (by have e0 : (0 : Int32).toInt = 0 := (by decide); have q_kq_90 := kq_90; have q_c_91 := i_ne c_91; have g_c8_89 := i_rg c8_89; have g_r_76 := i_rg r_76; have b_r_76 := i_bit hz_r_76; omega))), (gP_of hD hk_165 (fun q90 e90 => by cases e90; exact (by have e0 : (0 : Int32).toInt = 0 := (by decide); have q_f2_1 := f2_1; have q_f3_1 := f3_1; have q_fq_s := fq_s; have q_f_8 := f_8; have q_f1_1 := f1_1; have q_f4_1 := f4_1; have q_f5_1 := f5_1; have g_c1_1 := i_rg c1_1; omega)))⟩, ⟨(E_5.tr (E_11.tr (E_16.tr (E_21.tr (E_26.tr (E_31.tr (E_47.tr (E_57.tr (E_67.tr (E_78.tr (E_94.tr (E_109.tr (E_119.tr (E_129.tr (E_139.tr (E_149.tr E_159)))))))))))))))), (gF.tr (gF.mo (F' := [(6, 0), (6, 1), (6, 2), (6, 3), (6, 5), (6, 6), (6, 7), (6, 8), (6, 12), (6, 13), (6, 14), (6, 15), (6, 16)]) (C' := [(6, 4), (6, 9), (6, 10), (6, 11)]) (S' := none) Fr_6 (by decide) (fun _ h => absurd h List.not_mem_nil) (Or.inl rfl)) (gF.tr (gF.mo (F' := [(6, 0), (6, 1), (6, 2), (6, 3), (6, 5), (6, 6), (6, 7), (6, 8), (6, 12), (6, 13), (6, 14), (6, 15), (6, 16)]) (C' := [(6, 4), (6, 9), (6, 10), (6, 11)]) (S' := none) Fr_12 (by decide) (fun _ h => absurd h List.not_mem_nil) (Or.inl rfl)) (gF.tr (gF.mo (F' := [(6, 0), (6, 1), (6, 2), (6, 3), (6, 5), (6, 6), (6, 7), (6, 8), (6, 12), (6, 13), (6, 14), (6, 15), (6, 16)]) (C' := [(6, 4), (6, 9), (6, 10), (6, 11)]) (S' := none) Fr_17 (by decide) (fun _ h => absurd h List.not_mem_nil) (Or.inl rfl)) (gF.tr (gF.mo (F' := [(6, 0), (6, 1), (6, 2), (6, 3), (6, 5), (6, 6), (6, 7), (6, 8), (6, 12), (6, 13), (6, 14), (6, 15), (6, 16)]) (C' := [(6, 4), (6, 9), (6, 10), (6, 11)]) (S' := none) Fr_22 (by decide) (fun _ h => absurd h List.not_mem_nil) (Or.inl rfl)) (gF.tr (gF.mo (F' := [(6, 0), (6, 1), (6, 2), (6, 3), (6, 5), (6, 6), (6, 7), (6, 8), (6, 12), (6, 13), (6, 14), (6, 15), (6, 16)]) (C' := [(6, 4), (6, 9), (6, 10), (6, 11)]) (S' := none) Fr_27 (by decide) (fun _ h => absurd h List.not_mem_nil) (Or.inl rfl)) (gF.tr (gF.mo (F' := [(6, 0), (6, 1), (6, 2), (6, 3), (6, 5), (6, 6), (6, 7), (6, 8), (6, 12), (6, 13), (6, 14), (6, 15), (6, 16)]) (C' := [(6, 4), (6, 9), (6, 10), (6, 11)]) (S' := none) Fr_32 (by decide) (fun _ h => absurd h List.not_mem_nil) (Or.inr rfl)) (gF.tr (gF.mo (F' := [(6, 0), (6, 1), (6, 2), (6, 3), (6, 5), (6, 6), (6, 7), (6, 8), (6, 12), (6, 13), (6, 14), (6, 15), (6, 16)]) (C' := [(6, 4), (6, 9), (6, 10), (6, 11)]) (S' := none) Fr_48 (by decide) (by decide) (Or.inr rfl)) (gF.tr (gF.mo (F' := [(6, 0), (6, 1), (6, 2), (6, 3), (6, 5), (6, 6), (6, 7), (6, 8), (6, 12), (6, 13), (6, 14), (6, 15), (6, 16)]) (C' := [(6, 4), (6, 9), (6, 10), (6, 11)]) (S' := none) Fr_58 (by decide) (fun _ h => absurd h List.not_mem_nil) (Or.inr rfl)) (gF.tr (gF.mo (F' := [(6, 0), (6, 1), (6, 2), (6, 3), (6, 5), (6, 6), (6, 7), (6, 8), (6, 12), (6, 13), (6, 14), (6, 15), (6, 16)]) (C' := [(6, 4), (6, 9), (6, 10), (6, 11)]) (S' := none) Fr_68 (by decide) (by decide) (Or.inr rfl)) (gF.tr (gF.mo (F' := [(6, 0), (6, 1), (6, 2), (6, 3), (6, 5), (6, 6), (6, 7), (6, 8), (6, 12), (6, 13), (6, 14), (6, 15), (6, 16)]) (C' := [(6, 4), (6, 9), (6, 10), (6, 11)]) (S' := none) Fr_79 (by decide) (by decide) (Or.inr rfl)) (gF.tr (gF.mo (F' := [(6, 0), (6, 1), (6, 2), (6, 3), (6, 5), (6, 6), (6, 7), (6, 8), (6, 12), (6, 13), (6, 14), (6, 15), (6, 16)]) (C' := [(6, 4), (6, 9), (6, 10), (6, 11)]) (S' := none) Fr_95 (by decide) (fun _ h => absurd h List.not_mem_nil) (Or.inr rfl)) (gF.tr (gF.mo (F' := [(6, 0), (6, 1), (6, 2), (6, 3), (6, 5), (6, 6), (6, 7), (6, 8), (6, 12), (6, 13), (6, 14), (6, 15), (6, 16)]) (C' := [(6, 4), (6, 9), (6, 10), (6, 11)]) (S' := none) Fr_110 (by decide) (fun _ h => absurd h List.not_mem_nil) (Or.inr rfl)) (gF.tr (gF.mo (F' := [(6, 0), (6, 1), (6, 2), (6, 3), (6, 5), (6, 6), (6, 7), (6, 8), (6, 12), (6, 13), (6, 14), (6, 15), (6, 16)]) (C' := [(6, 4), (6, 9), (6, 10), (6, 11)]) (S' := none) Fr_120 (by decide) (fun _ h => absurd h List.not_mem_nil) (Or.inr rfl)) (gF.tr (gF.mo (F' := [(6, 0), (6, 1), (6, 2), (6, 3), (6, 5), (6, 6), (6, 7), (6, 8), (6, 12), (6, 13), (6, 14), (6, 15), (6, 16)]) (C' := [(6, 4), (6, 9), (6, 10), (6, 11)]) (S' := none) Fr_130 (by decide) (fun _ h => absurd h List.not_mem_nil) (Or.inr rfl)) (gF.tr (gF.mo (F' := [(6, 0), (6, 1), (6, 2), (6, 3), (6, 5), (6, 6), (6, 7), (6, 8), (6, 12), (6, 13), (6, 14), (6, 15), (6, 16)]) (C' := [(6, 4), (6, 9), (6, 10), (6, 11)]) (S' := none) Fr_140 (by decide) (fun _ h => absurd h List.not_mem_nil) (Or.inr rfl)) (gF.tr (gF.mo (F' := [(6, 0), (6, 1), (6, 2), (6, 3), (6, 5), (6, 6), (6, 7), (6, 8), (6, 12), (6, 13), (6, 14), (6, 15), (6, 16)]) (C' := [(6, 4), (6, 9), (6, 10), (6, 11)]) (S' := none) Fr_150 (by decide) (fun _ h => absurd h List.not_mem_nil) (Or.inr rfl)) (gF.mo (F' := [(6, 0), (6, 1), (6, 2), (6, 3), (6, 5), (6, 6), (6, 7), (6, 8), (6, 12), (6, 13), (6, 14), (6, 15), (6, 16)]) (C' := [(6, 4), (6, 9), (6, 10), (6, 11)]) (S' := none) Fr_160 (by decide) (fun _ h => absurd h List.not_mem_nil) (Or.inr rfl)))))))))))))))))), hG, by rw [ht9]; exact hP, hD, _, _, by rw [ht9]; exact hLd, hcl, hsl⟩⟩, hS.F ht9⟩) hS.2.2 dX7_isSound_151
                        · refine lv_aload_n hx hb dX7_isSound_115 rfl (lv_at hl 0 rfl) ?_
                          have hFc := gfree hD hS hA
                          refine W_led (fun hL0 => ?_)
                          obtain ⟨k_166, fs_166, hk_166⟩ := gC_of o_h0
                          refine va_calli (va_runV (As := []) (rest := []) ⟨hx, hb, hml, hown, hts⟩ (m_X7_codesHold l g H ws_158 h0 hG o_h0) (cwV 0 hts (gd_V kw_1375 kw_1283 kw_1284 kw_710 kw_1282) rfl rfl rfl (by decide +kernel) ⟨Nat.le_of_ble_eq_true rfl, Nat.le_of_ble_eq_true rfl⟩) ⟨gblindH, va_recv hK hP (ci := 6) (q0 := k_166) rfl hk_166, fun U hU hW9 => gmkH hU hW9 hP hK hD hex hE hS hFc⟩ rfl rfl hl.1 rfl (lv_room (Nat.le_of_ble_eq_true rfl)) dX7_isSound_116 ⟨(show 0 + (PC ws_158 + (0)) ≤ PC ws + (0) from (by have e0 : (0 : Int32).toInt = 0 := (by decide); omega)), (show 0 + (PS ws_158 + (0)) ≤ PS ws + (0) from (by have e0 : (0 : Int32).toInt = 0 := (by decide); omega))⟩) hS (fun q _ h => hFc q h) hFc (fun r_167 ws_168 t9 H1 locs ht9 hvm9 hw9 hB9 hz9 hk9 hS => ?_)
                          obtain ⟨E_169, Fr_170, hG, hP1, hD1, dc_171, ds_172, hLd, hdc_171, hds_172⟩ := hB9
                          rw [ht9] at hLd
                          refine W_tight (hL0.tr hLd).1 (hL0.tr hLd).2.1 ?_
                          clear hL0 hLd
                          have hP : va_P (gD g) cl0 ws_168 H1 := by rw [← ht9]; exact hP1
                          have hD : va_D A ws_168 := hD1.weaken (fun _ _ _ h => hFc _ h)
                          have hz_r_167 : r_167 = 0 ∨ r_167 = 1 := hw9
                          clear hP1 hD1 hz9 hk9 hvm9 ht9 hw9
                          generalize H1 = H at hP hS ⊢
                          have o_h0 := E_169.1 _ _ o_h0
                          have o_b1 := E_169.1 _ _ o_b1
                          refine lv_if_eq (tgt := 150) hx hb dX7_isSound_119 (by decide) (fun c_173 => ?_) (fun c_173 => ?_)
                          · refine lv_iconst (v := 0) hx hb dX7_isSound_150 (by decide) ?_
                            refine W_led (fun hLd => ?_)
                            have hcl : 0 + dc_171 + PC ws_168 ≤ PC ws + (0) := (by omega)
                            have hsl : 0 + ds_172 + PS ws_168 ≤ PS ws + (0) := (by omega)
                            refine W.widen (k := PC ws + (0)) (n := PS ws + (0)) (by omega) (by omega) ?_
                            obtain ⟨fs9, hk_174, hq_174⟩ := ((gA.tr (gF.a (F' := [(6, 2), (6, 3), (6, 12), (6, 13), (6, 14), (6, 15), (6, 16)]) Fr_95 (by decide)) (gA.tr (gF.a (F' := [(6, 2), (6, 3), (6, 12), (6, 13), (6, 14), (6, 15), (6, 16)]) Fr_110 (by decide)) (gA.tr (gF.a (F' := [(6, 2), (6, 3), (6, 12), (6, 13), (6, 14), (6, 15), (6, 16)]) Fr_120 (by decide)) (gA.tr (gF.a (F' := [(6, 2), (6, 3), (6, 12), (6, 13), (6, 14), (6, 15), (6, 16)]) Fr_130 (by decide)) (gA.tr (gF.a (F' := [(6, 2), (6, 3), (6, 12), (6, 13), (6, 14), (6, 15), (6, 16)]) Fr_140 (by decide)) (gA.tr (gF.a (F' := [(6, 2), (6, 3), (6, 12), (6, 13), (6, 14), (6, 15), (6, 16)]) Fr_150 (by decide)) (gA.tr (gF.a (F' := [(6, 2), (6, 3), (6, 12), (6, 13), (6, 14), (6, 15), (6, 16)]) Fr_160 (by decide)) (gF.a (F' := [(6, 2), (6, 3), (6, 12), (6, 13), (6, 14), (6, 15), (6, 16)]) Fr_170 (by decide)))))))))) _ _ _ hk_89
                            obtain ⟨r0_174, n0_174, c1_174, c2_174, c3_174, r4_174, n4_174, c5_174, c6_174, c7_174, c8_174, r9_174, n9_174, r10_174, n10_174, r11_174, n11_174, c12_174, c13_174, c14_174, c15_174, c16_174, rfl, a_r0_174, f1_174, a_r4_174, f3_174, a_r9_174, f5_174, a_r10_174, f7_174, a_r11_174, f9_174, f10_174, f11_174, f12_174, f13_174, f14_174, -⟩ := (hG.1 _ _ _ _ hk_174).hX7 rfl
                            obtain rfl := fe_i (hq_174 1 (by decide))
                            obtain rfl := fe_i (hq_174 7 (by decide))
                            obtain rfl := fe_i (hq_174 8 (by decide))
                            exact W.zret (v := 0) hx hb hr (nz (Or.inl rfl)) (fun t9 ht9 hW9 => ⟨⟨_, ws_168, rfl, ⟨(Or.inl rfl), (gP_of hD hk_174 (fun q90 e90 => by cases e90; exact (by have e0 : (0 : Int32).toInt = 0 := (by decide); have q_kq_74 := kq_74; have q_c_75 := i_ne c_75; have g_c7_73 := i_rg c7_73; have g_r_65 := i_rg r_65; have b_r_65 := i_bit hz_r_65; omega))), (gP_of hD hk_174 (fun q90 e90 => by cases e90; exact (by have e0 : (0 : Int32).toInt = 0 := (by decide); have q_kq_90 := kq_90; have q_c_91 := i_ne c_91; have g_c8_89 := i_rg c8_89; have g_r_76 := i_rg r_76; have b_r_76 := i_bit hz_r_76; omega))), (gP_of hD hk_174 (fun q90 e90 => by cases e90; exact (by have e0 : (0 : Int32).toInt = 0 := (by decide); have q_f2_1 := f2_1; have q_f3_1 := f3_1; have q_fq_s := fq_s; have q_f_8 := f_8; have q_f1_1 := f1_1; have q_f4_1 := f4_1; have q_f5_1 := f5_1; have g_c1_1 := i_rg c1_1; omega)))⟩, ⟨(E_5.tr (E_11.tr (E_16.tr (E_21.tr (E_26.tr (E_31.tr (E_47.tr (E_57.tr (E_67.tr (E_78.tr (E_94.tr (E_109.tr (E_119.tr (E_129.tr (E_139.tr (E_149.tr (E_159.tr E_169))))))))))))))))), (gF.tr (gF.mo (F' := [(6, 0), (6, 1), (6, 2), (6, 3), (6, 5), (6, 6), (6, 7), (6, 8), (6, 12), (6, 13), (6, 14), (6, 15), (6, 16)]) (C' := [(6, 4), (6, 9), (6, 10), (6, 11)]) (S' := none) Fr_6 (by decide) (fun _ h => absurd h List.not_mem_nil) (Or.inl rfl)) (gF.tr (gF.mo (F' := [(6, 0), (6, 1), (6, 2), (6, 3), (6, 5), (6, 6), (6, 7), (6, 8), (6, 12), (6, 13), (6, 14), (6, 15), (6, 16)]) (C' := [(6, 4), (6, 9), (6, 10), (6, 11)]) (S' := none) Fr_12 (by decide) (fun _ h => absurd h List.not_mem_nil) (Or.inl rfl)) (gF.tr (gF.mo (F' := [(6, 0), (6, 1), (6, 2), (6, 3), (6, 5), (6, 6), (6, 7), (6, 8), (6, 12), (6, 13), (6, 14), (6, 15), (6, 16)]) (C' := [(6, 4), (6, 9), (6, 10), (6, 11)]) (S' := none) Fr_17 (by decide) (fun _ h => absurd h List.not_mem_nil) (Or.inl rfl)) (gF.tr (gF.mo (F' := [(6, 0), (6, 1), (6, 2), (6, 3), (6, 5), (6, 6), (6, 7), (6, 8), (6, 12), (6, 13), (6, 14), (6, 15), (6, 16)]) (C' := [(6, 4), (6, 9), (6, 10), (6, 11)]) (S' := none) Fr_22 (by decide) (fun _ h => absurd h List.not_mem_nil) (Or.inl rfl)) (gF.tr (gF.mo (F' := [(6, 0), (6, 1), (6, 2), (6, 3), (6, 5), (6, 6), (6, 7), (6, 8), (6, 12), (6, 13), (6, 14), (6, 15), (6, 16)]) (C' := [(6, 4), (6, 9), (6, 10), (6, 11)]) (S' := none) Fr_27 (by decide) (fun _ h => absurd h List.not_mem_nil) (Or.inl rfl)) (gF.tr (gF.mo (F' := [(6, 0), (6, 1), (6, 2), (6, 3), (6, 5), (6, 6), (6, 7), (6, 8), (6, 12), (6, 13), (6, 14), (6, 15), (6, 16)]) (C' := [(6, 4), (6, 9), (6, 10), (6, 11)]) (S' := none) Fr_32 (by decide) (fun _ h => absurd h List.not_mem_nil) (Or.inr rfl)) (gF.tr (gF.mo (F' := [(6, 0), (6, 1), (6, 2), (6, 3), (6, 5), (6, 6), (6, 7), (6, 8), (6, 12), (6, 13), (6, 14), (6, 15), (6, 16)]) (C' := [(6, 4), (6, 9), (6, 10), (6, 11)]) (S' := none) Fr_48 (by decide) (by decide) (Or.inr rfl)) (gF.tr (gF.mo (F' := [(6, 0), (6, 1), (6, 2), (6, 3), (6, 5), (6, 6), (6, 7), (6, 8), (6, 12), (6, 13), (6, 14), (6, 15), (6, 16)]) (C' := [(6, 4), (6, 9), (6, 10), (6, 11)]) (S' := none) Fr_58 (by decide) (fun _ h => absurd h List.not_mem_nil) (Or.inr rfl)) (gF.tr (gF.mo (F' := [(6, 0), (6, 1), (6, 2), (6, 3), (6, 5), (6, 6), (6, 7), (6, 8), (6, 12), (6, 13), (6, 14), (6, 15), (6, 16)]) (C' := [(6, 4), (6, 9), (6, 10), (6, 11)]) (S' := none) Fr_68 (by decide) (by decide) (Or.inr rfl)) (gF.tr (gF.mo (F' := [(6, 0), (6, 1), (6, 2), (6, 3), (6, 5), (6, 6), (6, 7), (6, 8), (6, 12), (6, 13), (6, 14), (6, 15), (6, 16)]) (C' := [(6, 4), (6, 9), (6, 10), (6, 11)]) (S' := none) Fr_79 (by decide) (by decide) (Or.inr rfl)) (gF.tr (gF.mo (F' := [(6, 0), (6, 1), (6, 2), (6, 3), (6, 5), (6, 6), (6, 7), (6, 8), (6, 12), (6, 13), (6, 14), (6, 15), (6, 16)]) (C' := [(6, 4), (6, 9), (6, 10), (6, 11)]) (S' := none) Fr_95 (by decide) (fun _ h => absurd h List.not_mem_nil) (Or.inr rfl)) (gF.tr (gF.mo (F' := [(6, 0), (6, 1), (6, 2), (6, 3), (6, 5), (6, 6), (6, 7), (6, 8), (6, 12), (6, 13), (6, 14), (6, 15), (6, 16)]) (C' := [(6, 4), (6, 9), (6, 10), (6, 11)]) (S' := none) Fr_110 (by decide) (fun _ h => absurd h List.not_mem_nil) (Or.inr rfl)) (gF.tr (gF.mo (F' := [(6, 0), (6, 1), (6, 2), (6, 3), (6, 5), (6, 6), (6, 7), (6, 8), (6, 12), (6, 13), (6, 14), (6, 15), (6, 16)]) (C' := [(6, 4), (6, 9), (6, 10), (6, 11)]) (S' := none) Fr_120 (by decide) (fun _ h => absurd h List.not_mem_nil) (Or.inr rfl)) (gF.tr (gF.mo (F' := [(6, 0), (6, 1), (6, 2), (6, 3), (6, 5), (6, 6), (6, 7), (6, 8), (6, 12), (6, 13), (6, 14), (6, 15), (6, 16)]) (C' := [(6, 4), (6, 9), (6, 10), (6, 11)]) (S' := none) Fr_130 (by decide) (fun _ h => absurd h List.not_mem_nil) (Or.inr rfl)) (gF.tr (gF.mo (F' := [(6, 0), (6, 1), (6, 2), (6, 3), (6, 5), (6, 6), (6, 7), (6, 8), (6, 12), (6, 13), (6, 14), (6, 15), (6, 16)]) (C' := [(6, 4), (6, 9), (6, 10), (6, 11)]) (S' := none) Fr_140 (by decide) (fun _ h => absurd h List.not_mem_nil) (Or.inr rfl)) (gF.tr (gF.mo (F' := [(6, 0), (6, 1), (6, 2), (6, 3), (6, 5), (6, 6), (6, 7), (6, 8), (6, 12), (6, 13), (6, 14), (6, 15), (6, 16)]) (C' := [(6, 4), (6, 9), (6, 10), (6, 11)]) (S' := none) Fr_150 (by decide) (fun _ h => absurd h List.not_mem_nil) (Or.inr rfl)) (gF.tr (gF.mo (F' := [(6, 0), (6, 1), (6, 2), (6, 3), (6, 5), (6, 6), (6, 7), (6, 8), (6, 12), (6, 13), (6, 14), (6, 15), (6, 16)]) (C' := [(6, 4), (6, 9), (6, 10), (6, 11)]) (S' := none) Fr_160 (by decide) (fun _ h => absurd h List.not_mem_nil) (Or.inr rfl)) (gF.mo (F' := [(6, 0), (6, 1), (6, 2), (6, 3), (6, 5), (6, 6), (6, 7), (6, 8), (6, 12), (6, 13), (6, 14), (6, 15), (6, 16)]) (C' := [(6, 4), (6, 9), (6, 10), (6, 11)]) (S' := none) Fr_170 (by decide) (by decide) (Or.inr rfl))))))))))))))))))), hG, by rw [ht9]; exact hP, hD, _, _, by rw [ht9]; exact hLd, hcl, hsl⟩⟩, hS.F ht9⟩) hS.2.2 dX7_isSound_151
                          · refine lv_aload_n hx hb dX7_isSound_122 rfl (lv_at hl 0 rfl) ?_
                            obtain ⟨fs9, hk_175, hq_175⟩ := ((gA.tr (gF.a (F' := [(6, 2), (6, 3), (6, 12), (6, 13), (6, 14), (6, 15), (6, 16)]) Fr_95 (by decide)) (gA.tr (gF.a (F' := [(6, 2), (6, 3), (6, 12), (6, 13), (6, 14), (6, 15), (6, 16)]) Fr_110 (by decide)) (gA.tr (gF.a (F' := [(6, 2), (6, 3), (6, 12), (6, 13), (6, 14), (6, 15), (6, 16)]) Fr_120 (by decide)) (gA.tr (gF.a (F' := [(6, 2), (6, 3), (6, 12), (6, 13), (6, 14), (6, 15), (6, 16)]) Fr_130 (by decide)) (gA.tr (gF.a (F' := [(6, 2), (6, 3), (6, 12), (6, 13), (6, 14), (6, 15), (6, 16)]) Fr_140 (by decide)) (gA.tr (gF.a (F' := [(6, 2), (6, 3), (6, 12), (6, 13), (6, 14), (6, 15), (6, 16)]) Fr_150 (by decide)) (gA.tr (gF.a (F' := [(6, 2), (6, 3), (6, 12), (6, 13), (6, 14), (6, 15), (6, 16)]) Fr_160 (by decide)) (gF.a (F' := [(6, 2), (6, 3), (6, 12), (6, 13), (6, 14), (6, 15), (6, 16)]) Fr_170 (by decide)))))))))) _ _ _ hk_89
                            obtain ⟨r0_175, n0_175, c1_175, c2_175, c3_175, r4_175, n4_175, c5_175, c6_175, c7_175, c8_175, r9_175, n9_175, r10_175, n10_175, r11_175, n11_175, c12_175, c13_175, c14_175, c15_175, c16_175, rfl, a_r0_175, f1_175, a_r4_175, f3_175, a_r9_175, f5_175, a_r10_175, f7_175, a_r11_175, f9_175, f10_175, f11_175, f12_175, f13_175, f14_175, -⟩ := (hG.1 _ _ _ _ hk_175).hX7 rfl
                            obtain rfl := fe_i (hq_175 1 (by decide))
                            obtain rfl := fe_i (hq_175 7 (by decide))
                            obtain rfl := fe_i (hq_175 8 (by decide))
                            refine va_get (D := gD g) (ci := 6) (v := .int c15_175) (C := RX7) (T := TX7) (N := 17) hx hb hts inX7 hown hK hP k_2 hk_175 rfl 15 (by decide) (hts _ kw_1273) (fun _ h9 => h9) rfl dX7_isSound_123 ?_
                            refine lv_aload_n hx hb dX7_isSound_126 rfl (lv_at hl 0 rfl) ?_
                            refine va_get (D := gD g) (ci := 6) (v := .int c1_1) (C := RX7) (T := TX7) (N := 17) hx hb hts inX7 hown hK hP k_2 hk_175 rfl 1 (by decide) (hts _ kw_1275) (fun _ h9 => h9) rfl dX7_isSound_127 ?_
                            refine lv_icmp_eq (tgt := 146) hx hb dX7_isSound_130 (by decide) (fun c_176 => ?_) (fun c_176 => ?_)
                            · refine lv_iconst (v := 1) hx hb dX7_isSound_146 (by decide) ?_
                              refine lv_goto (tgt := 151) hx hb dX7_isSound_147 (by decide) ?_
                              refine W_led (fun hLd => ?_)
                              have hcl : 0 + dc_171 + PC ws_168 ≤ PC ws + (0) := (by omega)
                              have hsl : 0 + ds_172 + PS ws_168 ≤ PS ws + (0) := (by omega)
                              refine W.widen (k := PC ws + (0)) (n := PS ws + (0)) (by omega) (by omega) ?_
                              exact W.zret (v := 1) hx hb hr (nz (Or.inr rfl)) (fun t9 ht9 hW9 => ⟨⟨_, ws_168, rfl, ⟨(Or.inr rfl), (gP_of hD hk_175 (fun q90 e90 => by cases e90; exact (by have e0 : (0 : Int32).toInt = 0 := (by decide); have e1 : (1 : Int32).toInt = 1 := (by decide); have q_kq_74 := kq_74; have q_c_75 := i_ne c_75; have g_c7_73 := i_rg c7_73; have g_r_65 := i_rg r_65; have b_r_65 := i_bit hz_r_65; omega))), (gP_of hD hk_175 (fun q90 e90 => by cases e90; exact (by have e0 : (0 : Int32).toInt = 0 := (by decide); have e1 : (1 : Int32).toInt = 1 := (by decide); have q_kq_90 := kq_90; have q_c_91 := i_ne c_91; have g_c8_89 := i_rg c8_89; have g_r_76 := i_rg r_76; have b_r_76 := i_bit hz_r_76; omega))), (gP_of hD hk_175 (fun q90 e90 => by cases e90; exact (by have e1 : (1 : Int32).toInt = 1 := (by decide); have q_f2_1 := f2_1; have q_f3_1 := f3_1; have q_fq_s := fq_s; have q_f_8 := f_8; have q_c_176 := i_eq c_176; have q_f1_1 := f1_1; have q_f4_1 := f4_1; have q_f5_1 := f5_1; have g_c15_175 := i_rg c15_175; have g_c1_1 := i_rg c1_1; omega)))⟩, ⟨(E_5.tr (E_11.tr (E_16.tr (E_21.tr (E_26.tr (E_31.tr (E_47.tr (E_57.tr (E_67.tr (E_78.tr (E_94.tr (E_109.tr (E_119.tr (E_129.tr (E_139.tr (E_149.tr (E_159.tr E_169))))))))))))))))), (gF.tr (gF.mo (F' := [(6, 0), (6, 1), (6, 2), (6, 3), (6, 5), (6, 6), (6, 7), (6, 8), (6, 12), (6, 13), (6, 14), (6, 15), (6, 16)]) (C' := [(6, 4), (6, 9), (6, 10), (6, 11)]) (S' := none) Fr_6 (by decide) (fun _ h => absurd h List.not_mem_nil) (Or.inl rfl)) (gF.tr (gF.mo (F' := [(6, 0), (6, 1), (6, 2), (6, 3), (6, 5), (6, 6), (6, 7), (6, 8), (6, 12), (6, 13), (6, 14), (6, 15), (6, 16)]) (C' := [(6, 4), (6, 9), (6, 10), (6, 11)]) (S' := none) Fr_12 (by decide) (fun _ h => absurd h List.not_mem_nil) (Or.inl rfl)) (gF.tr (gF.mo (F' := [(6, 0), (6, 1), (6, 2), (6, 3), (6, 5), (6, 6), (6, 7), (6, 8), (6, 12), (6, 13), (6, 14), (6, 15), (6, 16)]) (C' := [(6, 4), (6, 9), (6, 10), (6, 11)]) (S' := none) Fr_17 (by decide) (fun _ h => absurd h List.not_mem_nil) (Or.inl rfl)) (gF.tr (gF.mo (F' := [(6, 0), (6, 1), (6, 2), (6, 3), (6, 5), (6, 6), (6, 7), (6, 8), (6, 12), (6, 13), (6, 14), (6, 15), (6, 16)]) (C' := [(6, 4), (6, 9), (6, 10), (6, 11)]) (S' := none) Fr_22 (by decide) (fun _ h => absurd h List.not_mem_nil) (Or.inl rfl)) (gF.tr (gF.mo (F' := [(6, 0), (6, 1), (6, 2), (6, 3), (6, 5), (6, 6), (6, 7), (6, 8), (6, 12), (6, 13), (6, 14), (6, 15), (6, 16)]) (C' := [(6, 4), (6, 9), (6, 10), (6, 11)]) (S' := none) Fr_27 (by decide) (fun _ h => absurd h List.not_mem_nil) (Or.inl rfl)) (gF.tr (gF.mo (F' := [(6, 0), (6, 1), (6, 2), (6, 3), (6, 5), (6, 6), (6, 7), (6, 8), (6, 12), (6, 13), (6, 14), (6, 15), (6, 16)]) (C' := [(6, 4), (6, 9), (6, 10), (6, 11)]) (S' := none) Fr_32 (by decide) (fun _ h => absurd h List.not_mem_nil) (Or.inr rfl)) (gF.tr (gF.mo (F' := [(6, 0), (6, 1), (6, 2), (6, 3), (6, 5), (6, 6), (6, 7), (6, 8), (6, 12), (6, 13), (6, 14), (6, 15), (6, 16)]) (C' := [(6, 4), (6, 9), (6, 10), (6, 11)]) (S' := none) Fr_48 (by decide) (by decide) (Or.inr rfl)) (gF.tr (gF.mo (F' := [(6, 0), (6, 1), (6, 2), (6, 3), (6, 5), (6, 6), (6, 7), (6, 8), (6, 12), (6, 13), (6, 14), (6, 15), (6, 16)]) (C' := [(6, 4), (6, 9), (6, 10), (6, 11)]) (S' := none) Fr_58 (by decide) (fun _ h => absurd h List.not_mem_nil) (Or.inr rfl)) (gF.tr (gF.mo (F' := [(6, 0), (6, 1), (6, 2), (6, 3), (6, 5), (6, 6), (6, 7), (6, 8), (6, 12), (6, 13), (6, 14), (6, 15), (6, 16)]) (C' := [(6, 4), (6, 9), (6, 10), (6, 11)]) (S' := none) Fr_68 (by decide) (by decide) (Or.inr rfl)) (gF.tr (gF.mo (F' := [(6, 0), (6, 1), (6, 2), (6, 3), (6, 5), (6, 6), (6, 7), (6, 8), (6, 12), (6, 13), (6, 14), (6, 15), (6, 16)]) (C' := [(6, 4), (6, 9), (6, 10), (6, 11)]) (S' := none) Fr_79 (by decide) (by decide) (Or.inr rfl)) (gF.tr (gF.mo (F' := [(6, 0), (6, 1), (6, 2), (6, 3), (6, 5), (6, 6), (6, 7), (6, 8), (6, 12), (6, 13), (6, 14), (6, 15), (6, 16)]) (C' := [(6, 4), (6, 9), (6, 10), (6, 11)]) (S' := none) Fr_95 (by decide) (fun _ h => absurd h List.not_mem_nil) (Or.inr rfl)) (gF.tr (gF.mo (F' := [(6, 0), (6, 1), (6, 2), (6, 3), (6, 5), (6, 6), (6, 7), (6, 8), (6, 12), (6, 13), (6, 14), (6, 15), (6, 16)]) (C' := [(6, 4), (6, 9), (6, 10), (6, 11)]) (S' := none) Fr_110 (by decide) (fun _ h => absurd h List.not_mem_nil) (Or.inr rfl)) (gF.tr (gF.mo (F' := [(6, 0), (6, 1), (6, 2), (6, 3), (6, 5), (6, 6), (6, 7), (6, 8), (6, 12), (6, 13), (6, 14), (6, 15), (6, 16)]) (C' := [(6, 4), (6, 9), (6, 10), (6, 11)]) (S' := none) Fr_120 (by decide) (fun _ h => absurd h List.not_mem_nil) (Or.inr rfl)) (gF.tr (gF.mo (F' := [(6, 0), (6, 1), (6, 2), (6, 3), (6, 5), (6, 6), (6, 7), (6, 8), (6, 12), (6, 13), (6, 14), (6, 15), (6, 16)]) (C' := [(6, 4), (6, 9), (6, 10), (6, 11)]) (S' := none) Fr_130 (by decide) (fun _ h => absurd h List.not_mem_nil) (Or.inr rfl)) (gF.tr (gF.mo (F' := [(6, 0), (6, 1), (6, 2), (6, 3), (6, 5), (6, 6), (6, 7), (6, 8), (6, 12), (6, 13), (6, 14), (6, 15), (6, 16)]) (C' := [(6, 4), (6, 9), (6, 10), (6, 11)]) (S' := none) Fr_140 (by decide) (fun _ h => absurd h List.not_mem_nil) (Or.inr rfl)) (gF.tr (gF.mo (F' := [(6, 0), (6, 1), (6, 2), (6, 3), (6, 5), (6, 6), (6, 7), (6, 8), (6, 12), (6, 13), (6, 14), (6, 15), (6, 16)]) (C' := [(6, 4), (6, 9), (6, 10), (6, 11)]) (S' := none) Fr_150 (by decide) (fun _ h => absurd h List.not_mem_nil) (Or.inr rfl)) (gF.tr (gF.mo (F' := [(6, 0), (6, 1), (6, 2), (6, 3), (6, 5), (6, 6), (6, 7), (6, 8), (6, 12), (6, 13), (6, 14), (6, 15), (6, 16)]) (C' := [(6, 4), (6, 9), (6, 10), (6, 11)]) (S' := none) Fr_160 (by decide) (fun _ h => absurd h List.not_mem_nil) (Or.inr rfl)) (gF.mo (F' := [(6, 0), (6, 1), (6, 2), (6, 3), (6, 5), (6, 6), (6, 7), (6, 8), (6, 12), (6, 13), (6, 14), (6, 15), (6, 16)]) (C' := [(6, 4), (6, 9), (6, 10), (6, 11)]) (S' := none) Fr_170 (by decide) (by decide) (Or.inr rfl))))))))))))))))))), hG, by rw [ht9]; exact hP, hD, _, _, by rw [ht9]; exact hLd, hcl, hsl⟩⟩, hS.F ht9⟩) hS.2.2 dX7_isSound_151
                            · refine lv_aload_n hx hb dX7_isSound_133 rfl (lv_at hl 0 rfl) ?_
                              refine lv_bipush (v := 17) hx hb dX7_isSound_134 (by decide) ?_
                              refine lv_aload_n hx hb dX7_isSound_136 rfl (lv_at hl 0 rfl) ?_
                              refine va_get (D := gD g) (ci := 6) (v := .int c15_175) (C := RX7) (T := TX7) (N := 17) hx hb hts inX7 hown hK hP k_2 hk_175 rfl 15 (by decide) (hts _ kw_1273) (fun _ h9 => h9) rfl dX7_isSound_137 ?_
                              have hFc := gfree hD hS hA
                              refine va_calli (va_runV (As := [.int 17, .int c15_175]) (rest := []) ⟨hx, hb, hml, hown, hts⟩ (m_X7_breaks_z l g H.size ws_168 h0 (17) (c15_175) hG o_h0) (cwV 2 hts (gd_V kw_1276 kw_1278 kw_1279 kw_710 kw_1277) rfl rfl rfl (by decide +kernel) ⟨Nat.le_of_ble_eq_true rfl, Nat.le_of_ble_eq_true rfl⟩) ⟨gblind, va_recv hK hP (ci := 6) (q0 := k_2) rfl hk_175, fun U hU hW9 => gmk hU hW9 hP hK hD hex hE hS hFc⟩ rfl rfl hl.1 rfl (lv_room (Nat.le_of_ble_eq_true rfl)) dX7_isSound_140 ⟨(show 0 + dc_171 + 0 ≤ PC ws + (0) from (by omega)), (show 0 + ds_172 + 0 ≤ PS ws + (0) from (by omega))⟩) hS (fun q _ h => hFc q h) hFc (fun r_177 ws_178 t9 H1 locs ht9 hvm9 hw9 hB9 hz9 hk9 hS => ?_)
                              obtain ⟨E_179, Fr_180, hG, hP1, hD1⟩ := hB9
                              have hP : va_P (gD g) cl0 ws_178 H1 := by rw [← ht9]; exact hP1
                              have hD : va_D A ws_178 := hD1.weaken (fun _ _ _ h => hFc _ h)
                              obtain ⟨hw9, xp_183⟩ := hw9
                              have hz_r_177 : r_177 = 0 ∨ r_177 = 1 := hw9
                              clear hP1 hD1 hz9 hk9 hvm9 ht9 hw9
                              generalize H1 = H at hP hS ⊢
                              have aa_184 := a_r0_175
                              have aa_185 := a_r4_175
                              have aa_186 := a_r9_175
                              have aa_187 := a_r10_175
                              have aa_188 := a_r11_175
                              have o_h0 := E_179.1 _ _ o_h0
                              have o_b1 := E_179.1 _ _ o_b1
                              have pp_189 := Fr_180.pp
                              refine lv_if_eq (tgt := 150) hx hb dX7_isSound_143 (by decide) (fun c_190 => ?_) (fun c_190 => ?_)
                              · refine lv_iconst (v := 0) hx hb dX7_isSound_150 (by decide) ?_
                                refine W_led (fun hLd => ?_)
                                have hcl : 0 + dc_171 + PC ws_178 ≤ PC ws + (0) := (by omega)
                                have hsl : 0 + ds_172 + PS ws_178 ≤ PS ws + (0) := (by omega)
                                refine W.widen (k := PC ws + (0)) (n := PS ws + (0)) (by omega) (by omega) ?_
                                obtain ⟨fs9, hk_191, hq_191⟩ := ((gF.a (F' := [(6, 2), (6, 3)]) Fr_180 (fun _ h => h))) _ _ _ hk_175
                                obtain ⟨r0_191, n0_191, c1_191, c2_191, c3_191, r4_191, n4_191, c5_191, c6_191, c7_191, c8_191, r9_191, n9_191, r10_191, n10_191, r11_191, n11_191, c12_191, c13_191, c14_191, c15_191, c16_191, rfl, a_r0_191, f1_191, a_r4_191, f3_191, a_r9_191, f5_191, a_r10_191, f7_191, a_r11_191, f9_191, f10_191, f11_191, f12_191, f13_191, f14_191, -⟩ := (hG.1 _ _ _ _ hk_191).hX7 rfl
                                obtain rfl := fe_i (hq_191 1 (by decide))
                                obtain rfl := fe_i (hq_191 7 (by decide))
                                obtain rfl := fe_i (hq_191 8 (by decide))
                                obtain rfl := fe_i (hq_191 15 (by decide))
                                exact W.zret (v := 0) hx hb hr (nz (Or.inl rfl)) (fun t9 ht9 hW9 => ⟨⟨_, ws_178, rfl, ⟨(Or.inl rfl), (gP_of hD hk_191 (fun q90 e90 => by cases e90; exact (by have e0 : (0 : Int32).toInt = 0 := (by decide); have q_kq_74 := kq_74; have q_c_75 := i_ne c_75; have g_c7_73 := i_rg c7_73; have g_r_65 := i_rg r_65; have b_r_65 := i_bit hz_r_65; omega))), (gP_of hD hk_191 (fun q90 e90 => by cases e90; exact (by have e0 : (0 : Int32).toInt = 0 := (by decide); have q_kq_90 := kq_90; have q_c_91 := i_ne c_91; have g_c8_89 := i_rg c8_89; have g_r_76 := i_rg r_76; have b_r_76 := i_bit hz_r_76; omega))), (gP_of hD hk_191 (fun q90 e90 => by cases e90; exact (by have e0 : (0 : Int32).toInt = 0 := (by decide); have q_f2_1 := f2_1; have q_f3_1 := f3_1; have q_fq_s := fq_s; have q_f_8 := f_8; have q_c_176 := i_ne c_176; have q_f1_1 := f1_1; have q_f4_1 := f4_1; have q_f5_1 := f5_1; have g_c15_175 := i_rg c15_175; have g_c1_1 := i_rg c1_1; omega)))⟩, ⟨(E_5.tr (E_11.tr (E_16.tr (E_21.tr (E_26.tr (E_31.tr (E_47.tr (E_57.tr (E_67.tr (E_78.tr (E_94.tr (E_109.tr (E_119.tr (E_129.tr (E_139.tr (E_149.tr (E_159.tr (E_169.tr E_179)))))))))))))))))), (gF.tr (gF.mo (F' := [(6, 0), (6, 1), (6, 2), (6, 3), (6, 5), (6, 6), (6, 7), (6, 8), (6, 12), (6, 13), (6, 14), (6, 15), (6, 16)]) (C' := [(6, 4), (6, 9), (6, 10), (6, 11)]) (S' := none) Fr_6 (by decide) (fun _ h => absurd h List.not_mem_nil) (Or.inl rfl)) (gF.tr (gF.mo (F' := [(6, 0), (6, 1), (6, 2), (6, 3), (6, 5), (6, 6), (6, 7), (6, 8), (6, 12), (6, 13), (6, 14), (6, 15), (6, 16)]) (C' := [(6, 4), (6, 9), (6, 10), (6, 11)]) (S' := none) Fr_12 (by decide) (fun _ h => absurd h List.not_mem_nil) (Or.inl rfl)) (gF.tr (gF.mo (F' := [(6, 0), (6, 1), (6, 2), (6, 3), (6, 5), (6, 6), (6, 7), (6, 8), (6, 12), (6, 13), (6, 14), (6, 15), (6, 16)]) (C' := [(6, 4), (6, 9), (6, 10), (6, 11)]) (S' := none) Fr_17 (by decide) (fun _ h => absurd h List.not_mem_nil) (Or.inl rfl)) (gF.tr (gF.mo (F' := [(6, 0), (6, 1), (6, 2), (6, 3), (6, 5), (6, 6), (6, 7), (6, 8), (6, 12), (6, 13), (6, 14), (6, 15), (6, 16)]) (C' := [(6, 4), (6, 9), (6, 10), (6, 11)]) (S' := none) Fr_22 (by decide) (fun _ h => absurd h List.not_mem_nil) (Or.inl rfl)) (gF.tr (gF.mo (F' := [(6, 0), (6, 1), (6, 2), (6, 3), (6, 5), (6, 6), (6, 7), (6, 8), (6, 12), (6, 13), (6, 14), (6, 15), (6, 16)]) (C' := [(6, 4), (6, 9), (6, 10), (6, 11)]) (S' := none) Fr_27 (by decide) (fun _ h => absurd h List.not_mem_nil) (Or.inl rfl)) (gF.tr (gF.mo (F' := [(6, 0), (6, 1), (6, 2), (6, 3), (6, 5), (6, 6), (6, 7), (6, 8), (6, 12), (6, 13), (6, 14), (6, 15), (6, 16)]) (C' := [(6, 4), (6, 9), (6, 10), (6, 11)]) (S' := none) Fr_32 (by decide) (fun _ h => absurd h List.not_mem_nil) (Or.inr rfl)) (gF.tr (gF.mo (F' := [(6, 0), (6, 1), (6, 2), (6, 3), (6, 5), (6, 6), (6, 7), (6, 8), (6, 12), (6, 13), (6, 14), (6, 15), (6, 16)]) (C' := [(6, 4), (6, 9), (6, 10), (6, 11)]) (S' := none) Fr_48 (by decide) (by decide) (Or.inr rfl)) (gF.tr (gF.mo (F' := [(6, 0), (6, 1), (6, 2), (6, 3), (6, 5), (6, 6), (6, 7), (6, 8), (6, 12), (6, 13), (6, 14), (6, 15), (6, 16)]) (C' := [(6, 4), (6, 9), (6, 10), (6, 11)]) (S' := none) Fr_58 (by decide) (fun _ h => absurd h List.not_mem_nil) (Or.inr rfl)) (gF.tr (gF.mo (F' := [(6, 0), (6, 1), (6, 2), (6, 3), (6, 5), (6, 6), (6, 7), (6, 8), (6, 12), (6, 13), (6, 14), (6, 15), (6, 16)]) (C' := [(6, 4), (6, 9), (6, 10), (6, 11)]) (S' := none) Fr_68 (by decide) (by decide) (Or.inr rfl)) (gF.tr (gF.mo (F' := [(6, 0), (6, 1), (6, 2), (6, 3), (6, 5), (6, 6), (6, 7), (6, 8), (6, 12), (6, 13), (6, 14), (6, 15), (6, 16)]) (C' := [(6, 4), (6, 9), (6, 10), (6, 11)]) (S' := none) Fr_79 (by decide) (by decide) (Or.inr rfl)) (gF.tr (gF.mo (F' := [(6, 0), (6, 1), (6, 2), (6, 3), (6, 5), (6, 6), (6, 7), (6, 8), (6, 12), (6, 13), (6, 14), (6, 15), (6, 16)]) (C' := [(6, 4), (6, 9), (6, 10), (6, 11)]) (S' := none) Fr_95 (by decide) (fun _ h => absurd h List.not_mem_nil) (Or.inr rfl)) (gF.tr (gF.mo (F' := [(6, 0), (6, 1), (6, 2), (6, 3), (6, 5), (6, 6), (6, 7), (6, 8), (6, 12), (6, 13), (6, 14), (6, 15), (6, 16)]) (C' := [(6, 4), (6, 9), (6, 10), (6, 11)]) (S' := none) Fr_110 (by decide) (fun _ h => absurd h List.not_mem_nil) (Or.inr rfl)) (gF.tr (gF.mo (F' := [(6, 0), (6, 1), (6, 2), (6, 3), (6, 5), (6, 6), (6, 7), (6, 8), (6, 12), (6, 13), (6, 14), (6, 15), (6, 16)]) (C' := [(6, 4), (6, 9), (6, 10), (6, 11)]) (S' := none) Fr_120 (by decide) (fun _ h => absurd h List.not_mem_nil) (Or.inr rfl)) (gF.tr (gF.mo (F' := [(6, 0), (6, 1), (6, 2), (6, 3), (6, 5), (6, 6), (6, 7), (6, 8), (6, 12), (6, 13), (6, 14), (6, 15), (6, 16)]) (C' := [(6, 4), (6, 9), (6, 10), (6, 11)]) (S' := none) Fr_130 (by decide) (fun _ h => absurd h List.not_mem_nil) (Or.inr rfl)) (gF.tr (gF.mo (F' := [(6, 0), (6, 1), (6, 2), (6, 3), (6, 5), (6, 6), (6, 7), (6, 8), (6, 12), (6, 13), (6, 14), (6, 15), (6, 16)]) (C' := [(6, 4), (6, 9), (6, 10), (6, 11)]) (S' := none) Fr_140 (by decide) (fun _ h => absurd h List.not_mem_nil) (Or.inr rfl)) (gF.tr (gF.mo (F' := [(6, 0), (6, 1), (6, 2), (6, 3), (6, 5), (6, 6), (6, 7), (6, 8), (6, 12), (6, 13), (6, 14), (6, 15), (6, 16)]) (C' := [(6, 4), (6, 9), (6, 10), (6, 11)]) (S' := none) Fr_150 (by decide) (fun _ h => absurd h List.not_mem_nil) (Or.inr rfl)) (gF.tr (gF.mo (F' := [(6, 0), (6, 1), (6, 2), (6, 3), (6, 5), (6, 6), (6, 7), (6, 8), (6, 12), (6, 13), (6, 14), (6, 15), (6, 16)]) (C' := [(6, 4), (6, 9), (6, 10), (6, 11)]) (S' := none) Fr_160 (by decide) (fun _ h => absurd h List.not_mem_nil) (Or.inr rfl)) (gF.tr (gF.mo (F' := [(6, 0), (6, 1), (6, 2), (6, 3), (6, 5), (6, 6), (6, 7), (6, 8), (6, 12), (6, 13), (6, 14), (6, 15), (6, 16)]) (C' := [(6, 4), (6, 9), (6, 10), (6, 11)]) (S' := none) Fr_170 (by decide) (by decide) (Or.inr rfl)) (gF.mo (F' := [(6, 0), (6, 1), (6, 2), (6, 3), (6, 5), (6, 6), (6, 7), (6, 8), (6, 12), (6, 13), (6, 14), (6, 15), (6, 16)]) (C' := [(6, 4), (6, 9), (6, 10), (6, 11)]) (S' := none) Fr_180 (by decide) (fun _ h => absurd h List.not_mem_nil) (Or.inr rfl)))))))))))))))))))), hG, by rw [ht9]; exact hP, hD, _, _, by rw [ht9]; exact hLd, hcl, hsl⟩⟩, hS.F ht9⟩) hS.2.2 dX7_isSound_151
                              · refine lv_iconst (v := 1) hx hb dX7_isSound_146 (by decide) ?_
                                refine lv_goto (tgt := 151) hx hb dX7_isSound_147 (by decide) ?_
                                refine W_led (fun hLd => ?_)
                                have hcl : 0 + dc_171 + PC ws_178 ≤ PC ws + (0) := (by omega)
                                have hsl : 0 + ds_172 + PS ws_178 ≤ PS ws + (0) := (by omega)
                                refine W.widen (k := PC ws + (0)) (n := PS ws + (0)) (by omega) (by omega) ?_
                                obtain ⟨fs9, hk_192, hq_192⟩ := ((gF.a (F' := [(6, 2), (6, 3)]) Fr_180 (fun _ h => h))) _ _ _ hk_175
                                obtain ⟨r0_192, n0_192, c1_192, c2_192, c3_192, r4_192, n4_192, c5_192, c6_192, c7_192, c8_192, r9_192, n9_192, r10_192, n10_192, r11_192, n11_192, c12_192, c13_192, c14_192, c15_192, c16_192, rfl, a_r0_192, f1_192, a_r4_192, f3_192, a_r9_192, f5_192, a_r10_192, f7_192, a_r11_192, f9_192, f10_192, f11_192, f12_192, f13_192, f14_192, -⟩ := (hG.1 _ _ _ _ hk_192).hX7 rfl
                                obtain rfl := fe_i (hq_192 1 (by decide))
                                obtain rfl := fe_i (hq_192 7 (by decide))
                                obtain rfl := fe_i (hq_192 8 (by decide))
                                obtain rfl := fe_i (hq_192 15 (by decide))
                                exact W.zret (v := 1) hx hb hr (nz (Or.inr rfl)) (fun t9 ht9 hW9 => ⟨⟨_, ws_178, rfl, ⟨(Or.inr rfl), (gP_of hD hk_192 (fun q90 e90 => by cases e90; exact (by have e0 : (0 : Int32).toInt = 0 := (by decide); have e1 : (1 : Int32).toInt = 1 := (by decide); have q_kq_74 := kq_74; have q_c_75 := i_ne c_75; have g_c7_73 := i_rg c7_73; have g_r_65 := i_rg r_65; have b_r_65 := i_bit hz_r_65; omega))), (gP_of hD hk_192 (fun q90 e90 => by cases e90; exact (by have e0 : (0 : Int32).toInt = 0 := (by decide); have e1 : (1 : Int32).toInt = 1 := (by decide); have q_kq_90 := kq_90; have q_c_91 := i_ne c_91; have g_c8_89 := i_rg c8_89; have g_r_76 := i_rg r_76; have b_r_76 := i_bit hz_r_76; omega))), (gP_of hD hk_192 (fun q90 e90 => by cases e90; exact (by have e1 : (1 : Int32).toInt = 1 := (by decide); have q_f2_1 := f2_1; have q_f3_1 := f3_1; have q_fq_s := fq_s; have q_f_8 := f_8; have q_c_176 := i_ne c_176; have q_f1_1 := f1_1; have q_f4_1 := f4_1; have q_f5_1 := f5_1; have g_c15_175 := i_rg c15_175; have g_c1_1 := i_rg c1_1; omega)))⟩, ⟨(E_5.tr (E_11.tr (E_16.tr (E_21.tr (E_26.tr (E_31.tr (E_47.tr (E_57.tr (E_67.tr (E_78.tr (E_94.tr (E_109.tr (E_119.tr (E_129.tr (E_139.tr (E_149.tr (E_159.tr (E_169.tr E_179)))))))))))))))))), (gF.tr (gF.mo (F' := [(6, 0), (6, 1), (6, 2), (6, 3), (6, 5), (6, 6), (6, 7), (6, 8), (6, 12), (6, 13), (6, 14), (6, 15), (6, 16)]) (C' := [(6, 4), (6, 9), (6, 10), (6, 11)]) (S' := none) Fr_6 (by decide) (fun _ h => absurd h List.not_mem_nil) (Or.inl rfl)) (gF.tr (gF.mo (F' := [(6, 0), (6, 1), (6, 2), (6, 3), (6, 5), (6, 6), (6, 7), (6, 8), (6, 12), (6, 13), (6, 14), (6, 15), (6, 16)]) (C' := [(6, 4), (6, 9), (6, 10), (6, 11)]) (S' := none) Fr_12 (by decide) (fun _ h => absurd h List.not_mem_nil) (Or.inl rfl)) (gF.tr (gF.mo (F' := [(6, 0), (6, 1), (6, 2), (6, 3), (6, 5), (6, 6), (6, 7), (6, 8), (6, 12), (6, 13), (6, 14), (6, 15), (6, 16)]) (C' := [(6, 4), (6, 9), (6, 10), (6, 11)]) (S' := none) Fr_17 (by decide) (fun _ h => absurd h List.not_mem_nil) (Or.inl rfl)) (gF.tr (gF.mo (F' := [(6, 0), (6, 1), (6, 2), (6, 3), (6, 5), (6, 6), (6, 7), (6, 8), (6, 12), (6, 13), (6, 14), (6, 15), (6, 16)]) (C' := [(6, 4), (6, 9), (6, 10), (6, 11)]) (S' := none) Fr_22 (by decide) (fun _ h => absurd h List.not_mem_nil) (Or.inl rfl)) (gF.tr (gF.mo (F' := [(6, 0), (6, 1), (6, 2), (6, 3), (6, 5), (6, 6), (6, 7), (6, 8), (6, 12), (6, 13), (6, 14), (6, 15), (6, 16)]) (C' := [(6, 4), (6, 9), (6, 10), (6, 11)]) (S' := none) Fr_27 (by decide) (fun _ h => absurd h List.not_mem_nil) (Or.inl rfl)) (gF.tr (gF.mo (F' := [(6, 0), (6, 1), (6, 2), (6, 3), (6, 5), (6, 6), (6, 7), (6, 8), (6, 12), (6, 13), (6, 14), (6, 15), (6, 16)]) (C' := [(6, 4), (6, 9), (6, 10), (6, 11)]) (S' := none) Fr_32 (by decide) (fun _ h => absurd h List.not_mem_nil) (Or.inr rfl)) (gF.tr (gF.mo (F' := [(6, 0), (6, 1), (6, 2), (6, 3), (6, 5), (6, 6), (6, 7), (6, 8), (6, 12), (6, 13), (6, 14), (6, 15), (6, 16)]) (C' := [(6, 4), (6, 9), (6, 10), (6, 11)]) (S' := none) Fr_48 (by decide) (by decide) (Or.inr rfl)) (gF.tr (gF.mo (F' := [(6, 0), (6, 1), (6, 2), (6, 3), (6, 5), (6, 6), (6, 7), (6, 8), (6, 12), (6, 13), (6, 14), (6, 15), (6, 16)]) (C' := [(6, 4), (6, 9), (6, 10), (6, 11)]) (S' := none) Fr_58 (by decide) (fun _ h => absurd h List.not_mem_nil) (Or.inr rfl)) (gF.tr (gF.mo (F' := [(6, 0), (6, 1), (6, 2), (6, 3), (6, 5), (6, 6), (6, 7), (6, 8), (6, 12), (6, 13), (6, 14), (6, 15), (6, 16)]) (C' := [(6, 4), (6, 9), (6, 10), (6, 11)]) (S' := none) Fr_68 (by decide) (by decide) (Or.inr rfl)) (gF.tr (gF.mo (F' := [(6, 0), (6, 1), (6, 2), (6, 3), (6, 5), (6, 6), (6, 7), (6, 8), (6, 12), (6, 13), (6, 14), (6, 15), (6, 16)]) (C' := [(6, 4), (6, 9), (6, 10), (6, 11)]) (S' := none) Fr_79 (by decide) (by decide) (Or.inr rfl)) (gF.tr (gF.mo (F' := [(6, 0), (6, 1), (6, 2), (6, 3), (6, 5), (6, 6), (6, 7), (6, 8), (6, 12), (6, 13), (6, 14), (6, 15), (6, 16)]) (C' := [(6, 4), (6, 9), (6, 10), (6, 11)]) (S' := none) Fr_95 (by decide) (fun _ h => absurd h List.not_mem_nil) (Or.inr rfl)) (gF.tr (gF.mo (F' := [(6, 0), (6, 1), (6, 2), (6, 3), (6, 5), (6, 6), (6, 7), (6, 8), (6, 12), (6, 13), (6, 14), (6, 15), (6, 16)]) (C' := [(6, 4), (6, 9), (6, 10), (6, 11)]) (S' := none) Fr_110 (by decide) (fun _ h => absurd h List.not_mem_nil) (Or.inr rfl)) (gF.tr (gF.mo (F' := [(6, 0), (6, 1), (6, 2), (6, 3), (6, 5), (6, 6), (6, 7), (6, 8), (6, 12), (6, 13), (6, 14), (6, 15), (6, 16)]) (C' := [(6, 4), (6, 9), (6, 10), (6, 11)]) (S' := none) Fr_120 (by decide) (fun _ h => absurd h List.not_mem_nil) (Or.inr rfl)) (gF.tr (gF.mo (F' := [(6, 0), (6, 1), (6, 2), (6, 3), (6, 5), (6, 6), (6, 7), (6, 8), (6, 12), (6, 13), (6, 14), (6, 15), (6, 16)]) (C' := [(6, 4), (6, 9), (6, 10), (6, 11)]) (S' := none) Fr_130 (by decide) (fun _ h => absurd h List.not_mem_nil) (Or.inr rfl)) (gF.tr (gF.mo (F' := [(6, 0), (6, 1), (6, 2), (6, 3), (6, 5), (6, 6), (6, 7), (6, 8), (6, 12), (6, 13), (6, 14), (6, 15), (6, 16)]) (C' := [(6, 4), (6, 9), (6, 10), (6, 11)]) (S' := none) Fr_140 (by decide) (fun _ h => absurd h List.not_mem_nil) (Or.inr rfl)) (gF.tr (gF.mo (F' := [(6, 0), (6, 1), (6, 2), (6, 3), (6, 5), (6, 6), (6, 7), (6, 8), (6, 12), (6, 13), (6, 14), (6, 15), (6, 16)]) (C' := [(6, 4), (6, 9), (6, 10), (6, 11)]) (S' := none) Fr_150 (by decide) (fun _ h => absurd h List.not_mem_nil) (Or.inr rfl)) (gF.tr (gF.mo (F' := [(6, 0), (6, 1), (6, 2), (6, 3), (6, 5), (6, 6), (6, 7), (6, 8), (6, 12), (6, 13), (6, 14), (6, 15), (6, 16)]) (C' := [(6, 4), (6, 9), (6, 10), (6, 11)]) (S' := none) Fr_160 (by decide) (fun _ h => absurd h List.not_mem_nil) (Or.inr rfl)) (gF.tr (gF.mo (F' := [(6, 0), (6, 1), (6, 2), (6, 3), (6, 5), (6, 6), (6, 7), (6, 8), (6, 12), (6, 13), (6, 14), (6, 15), (6, 16)]) (C' := [(6, 4), (6, 9), (6, 10), (6, 11)]) (S' := none) Fr_170 (by decide) (by decide) (Or.inr rfl)) (gF.mo (F' := [(6, 0), (6, 1), (6, 2), (6, 3), (6, 5), (6, 6), (6, 7), (6, 8), (6, 12), (6, 13), (6, 14), (6, 15), (6, 16)]) (C' := [(6, 4), (6, 9), (6, 10), (6, 11)]) (S' := none) Fr_180 (by decide) (fun _ h => absurd h List.not_mem_nil) (Or.inr rfl)))))))))))))))))))), hG, by rw [ht9]; exact hP, hD, _, _, by rw [ht9]; exact hLd, hcl, hsl⟩⟩, hS.F ht9⟩) hS.2.2 dX7_isSound_151
set_option maxHeartbeats 1000000 in
set_option maxRecDepth 100000 in
theorem m_X10_init_w (l : Launch) (g : Gm) (H0 : Heap) (ws : va_W) (k0 : Nat) (h0 : Nat) (b1 : Nat) (n_b1 : Nat) (x2 : Int32) (x3 : Int32) (hX : GoodX g k0 ws) (hk0 : ows ws k0 h0 9 dfX10) (a_b1 : gI ws b1 g.cB n_b1) (s_b1 : n_b1 < 2147483648) (fr_b1 : frs ws b1) (p2 : 0 ≤ x2.toInt ∧ x2.toInt ≤ 24) (p3 : 0 ≤ x3.toInt ∧ x3.toInt ≤ 24) : Met l yX10_init (wt yX10_init cX10_init 4 none) ({ frames := 1, cells := (8), slots := (3 * x2.toInt.toNat + 5 * x3.toInt.toNat), locals := 12 }) (va_Pc [.ref h0, .ref b1, .int x2, .int x3] (st_H g H0 ws)) (va_Qv (fun (u9 : va_W) => gP u9 h0 (fun fs => ∀ c : Int32, fs[8]? = some (.int c) → c.toInt = x3.toInt)) (gQ3 g k0 (va_A ws H0.size) ws H0 (8) (3 * x2.toInt.toNat + 5 * x3.toInt.toNat)) (va_A ws H0.size)) ((8)) ((3 * x2.toInt.toNat + 5 * x3.toInt.toNat)) (va_A ws H0.size) := by
  refine Met.ofW (cc := cX10_init) (maxL := 4) (ret := none) (by decide) rfl ?_
  intro p e s m args below meth c s₁ B hml hv
  obtain ⟨rfl, hH0, hsz, hP, hK, hD0, hex, hE⟩ := hv
  have hx := B.exec
  have hb := B.bytes
  have hr := B.returns
  have hts0 := atoms_spec (ws := wt yX10_init cX10_init 4 none) B.pre
  have hts : ∀ w ∈ tb, w.before _ s = true := fun w h => hts0 w (List.mem_cons_of_mem _ h)
  have hown : s.vm.findClass RX10 = some m.cls := findClass_of_methodNamed B.named
  subst hH0
  have hD := hD0.self (sz := s.heap.size)
  generalize hAe : va_A ws s.heap.size = A at hD hE ⊢
  have hA : ∀ q : Nat, s.heap.size ≤ q → A q := fun q h => by rw [← hAe]; exact Or.inr h
  have hS : va_S A s.heap s.heap [] := va_S.rf
  have hl := lv_entry ([.ref h0, .ref b1, .int x2, .int x3]) (n := 4) (Nat.le_of_ble_eq_true rfl)
  rw [lg_entry_eq]
  generalize (lg_sl ([.ref h0, .ref b1, .int x2, .int x3]) ++ List.replicate (4 - (lg_sl ([.ref h0, .ref b1, .int x2, .int x3])).length) Slot.unset).toArray = ls at hl ⊢
  have hl : lv_has ls 4 [(0, .ref h0), (1, .ref b1), (2, .int x2), (3, .int x3)] := hl
  have hin9 : meth.name = "<init>" := (name_of_methodNamed B.named B.method).1
  have hk_0 : ows ws k0 h0 9 [.null, .int 0, .int 0, .int 0, .int 0, .null, .null, .null, .int 0, .null, .null, .null, .null, .null, .int 0, .int 0, .int 0, .int 0] := hk0
  have o_h0 : gC ws h0 9 := ⟨_, _, hk0, rfl⟩
  refine lv_aload_n hx hb dX10_init_0 rfl (lv_at hl 0 rfl) ?_
  refine W.objInit hx hb hown (hts _ kw_46) (hts _ kw_9) (hts _ kw_10) rfl (by rw [hml]; exact hl.1) rfl dX10_init_1 (Nat.le_of_ble_eq_true rfl) (Nat.le_of_ble_eq_true rfl) ?_
  refine W.eq (g2 := F0 m 4 ls []) rfl ?_
  refine lv_aload_n hx hb dX10_init_4 rfl (lv_at hl 0 rfl) ?_
  refine lv_iconst (v := (-1)) hx hb dX10_init_5 (by decide) ?_
  have hV9 : okv ws 9 16 (.int (-1)) := okv_i
  refine va_put (D := gD g) (ci := 9) (v := .int (-1)) (ty := .int) (C := RX10) (T := TX10) (N := 18) hx hb hts inX10 tyX10 tyX10_ok nmX10 hown hK hP hD hS k0 hk_0 rfl 16 (by decide) (hts _ kw_47) (fun _ h9 => h9) rfl (by decide +kernel) rfl rfl (Nat.le_of_ble_eq_true rfl) dX10_init_6 (fun H locs hP hD hS => ?_)
  obtain ⟨ws_1, e_ws_1⟩ : ∃ z, z = ws.set k0 (h0, .inr (9, [.null, .int 0, .int 0, .int 0, .int 0, .null, .null, .null, .int 0, .null, .null, .null, .null, .null, .int 0, .int 0, .int (-1), .int 0])) := ⟨_, rfl⟩
  have hP : va_P (gD g) cl0 ws_1 H := by rw [e_ws_1]; exact hP
  have hD : va_D A ws_1 := by rw [e_ws_1]; exact hD
  have E_2 : gE ws ws_1 := gE_set e_ws_1 hk_0 (cw_o (fi := 16) (v := .int (-1)) rfl (by decide))
  have hX : GoodX g k0 ws_1 := GoodX.set (fi := 16) (v := .int (-1)) e_ws_1 hk_0 E_2 rfl hV9 hX
  have Fr_3 : gF [(9, 16)] [] (some h0) ws ws_1 := gF_put (fi := 16) (v := .int (-1)) e_ws_1 hk_0 rfl (by decide)
  have fr_b1 := frs_set (fi := 16) (v := .int (-1)) e_ws_1 hk_0 rfl (by intro h; cases h) fr_b1
  have Gx_4 : gX k0 ws ws_1 := gX_set e_ws_1 hk_0
  have pp_5 := Fr_3.pp
  have hkN := gset_self e_ws_1 hk_0
  have hk_0 := hkN
  have o_h0 := E_2.1 _ _ o_h0
  have a_b1 := E_2.1 _ _ a_b1
  refine lv_aload_n hx hb dX10_init_9 rfl (lv_at hl 0 rfl) ?_
  refine lv_iconst (v := (-1)) hx hb dX10_init_10 (by decide) ?_
  have hV9 : okv ws_1 9 17 (.int (-1)) := okv_i
  refine va_put (D := gD g) (ci := 9) (v := .int (-1)) (ty := .int) (C := RX10) (T := TX10) (N := 18) hx hb hts inX10 tyX10 tyX10_ok nmX10 hown hK hP hD hS k0 hk_0 rfl 17 (by decide) (hts _ kw_48) (fun _ h9 => h9) rfl (by decide +kernel) rfl rfl (Nat.le_of_ble_eq_true rfl) dX10_init_11 (fun H locs hP hD hS => ?_)
  obtain ⟨ws_6, e_ws_6⟩ : ∃ z, z = ws_1.set k0 (h0, .inr (9, [.null, .int 0, .int 0, .int 0, .int 0, .null, .null, .null, .int 0, .null, .null, .null, .null, .null, .int 0, .int 0, .int (-1), .int (-1)])) := ⟨_, rfl⟩
  have hP : va_P (gD g) cl0 ws_6 H := by rw [e_ws_6]; exact hP
  have hD : va_D A ws_6 := by rw [e_ws_6]; exact hD
  have E_7 : gE ws_1 ws_6 := gE_set e_ws_6 hk_0 (cw_o (fi := 17) (v := .int (-1)) rfl (by decide))
  have hX : GoodX g k0 ws_6 := GoodX.set (fi := 17) (v := .int (-1)) e_ws_6 hk_0 E_7 rfl hV9 hX
  have Fr_8 : gF [(9, 17)] [] (some h0) ws_1 ws_6 := gF_put (fi := 17) (v := .int (-1)) e_ws_6 hk_0 rfl (by decide)
  have fr_b1 := frs_set (fi := 17) (v := .int (-1)) e_ws_6 hk_0 rfl (by intro h; cases h) fr_b1
  have Gx_9 : gX k0 ws_1 ws_6 := gX_set e_ws_6 hk_0
  have pp_10 := Fr_8.pp
  have hkN := gset_self e_ws_6 hk_0
  have hk_0 := hkN
  have o_h0 := E_7.1 _ _ o_h0
  have a_b1 := E_7.1 _ _ a_b1
  refine lv_aload_n hx hb dX10_init_14 rfl (lv_at hl 0 rfl) ?_
  refine lv_aload_n hx hb dX10_init_15 rfl (lv_at hl 1 rfl) ?_
  have hV9 : okv ws_6 9 0 (.ref b1) := (okv_a a_b1 fr_b1)
  refine va_putF (D := gD g) (ci := 9) (v := .ref b1) (ty := (.array .byte)) (C := RX10) (T := TX10) (N := 18) hx hb hts inX10 tyX10 tyX10_ok nmX10 hown hK hP hD hS k0 hk_0 rfl 0 (by decide) (hts _ kw_49) (fun _ h9 => h9) rfl hin9 rfl (by decide +kernel) rfl rfl (Nat.le_of_ble_eq_true rfl) dX10_init_16 (fun H locs hP hD hS => ?_)
  obtain ⟨ws_11, e_ws_11⟩ : ∃ z, z = ws_6.set k0 (h0, .inr (9, [.ref b1, .int 0, .int 0, .int 0, .int 0, .null, .null, .null, .int 0, .null, .null, .null, .null, .null, .int 0, .int 0, .int (-1), .int (-1)])) := ⟨_, rfl⟩
  have hP : va_P (gD g) cl0 ws_11 H := by rw [e_ws_11]; exact hP
  have hD : va_D A ws_11 := by rw [e_ws_11]; exact hD
  have E_12 : gE ws_6 ws_11 := gE_set e_ws_11 hk_0 (cw_o (fi := 0) (v := .ref b1) rfl (by decide))
  have hX : GoodX g k0 ws_11 := GoodX.set (fi := 0) (v := .ref b1) e_ws_11 hk_0 E_12 rfl hV9 hX
  have Fr_13 : gF [(9, 0)] [] (some h0) ws_6 ws_11 := gF_put (fi := 0) (v := .ref b1) e_ws_11 hk_0 rfl (by decide)
  have Gx_14 : gX k0 ws_6 ws_11 := gX_set e_ws_11 hk_0
  have pp_15 := Fr_13.pp
  have hkN := gset_self e_ws_11 hk_0
  have hk_0 := hkN
  have o_h0 := E_12.1 _ _ o_h0
  have a_b1 := E_12.1 _ _ a_b1
  refine lv_aload_n hx hb dX10_init_19 rfl (lv_at hl 0 rfl) ?_
  refine lv_iload_n hx hb dX10_init_20 rfl (lv_at hl 2 rfl) ?_
  have hV9 : okv ws_11 9 4 (.int x2) := okv_i
  refine va_put (D := gD g) (ci := 9) (v := .int x2) (ty := .int) (C := RX10) (T := TX10) (N := 18) hx hb hts inX10 tyX10 tyX10_ok nmX10 hown hK hP hD hS k0 hk_0 rfl 4 (by decide) (hts _ kw_50) (fun _ h9 => h9) rfl (by decide +kernel) rfl rfl (Nat.le_of_ble_eq_true rfl) dX10_init_21 (fun H locs hP hD hS => ?_)
  obtain ⟨ws_16, e_ws_16⟩ : ∃ z, z = ws_11.set k0 (h0, .inr (9, [.ref b1, .int 0, .int 0, .int 0, .int x2, .null, .null, .null, .int 0, .null, .null, .null, .null, .null, .int 0, .int 0, .int (-1), .int (-1)])) := ⟨_, rfl⟩
  have hP : va_P (gD g) cl0 ws_16 H := by rw [e_ws_16]; exact hP
  have hD : va_D A ws_16 := by rw [e_ws_16]; exact hD
  have E_17 : gE ws_11 ws_16 := gE_set e_ws_16 hk_0 (cw_o (fi := 4) (v := .int x2) rfl (by decide))
  have hX : GoodX g k0 ws_16 := GoodX.set (fi := 4) (v := .int x2) e_ws_16 hk_0 E_17 rfl hV9 hX
  have Fr_18 : gF [(9, 4)] [] (some h0) ws_11 ws_16 := gF_put (fi := 4) (v := .int x2) e_ws_16 hk_0 rfl (by decide)
  have Gx_19 : gX k0 ws_11 ws_16 := gX_set e_ws_16 hk_0
  have pp_20 := Fr_18.pp
  have hkN := gset_self e_ws_16 hk_0
  have hk_0 := hkN
  have o_h0 := E_17.1 _ _ o_h0
  have a_b1 := E_17.1 _ _ a_b1
  refine lv_aload_n hx hb dX10_init_24 rfl (lv_at hl 0 rfl) ?_
  refine lv_iload_n hx hb dX10_init_25 rfl (lv_at hl 2 rfl) ?_
  obtain ⟨n_22, en_22⟩ : ∃ y : Nat, (x2 : Int32).toNatClampNeg = y := ⟨_, rfl⟩
  have bn_22 : n_22 ≤ 24 := i_cl en_22 (by have q_p2 := p2; have g_x2 := i_rg x2; omega)
  have zn_22 : 0 ≤ (x2 : Int32).toInt := (by have q_p2 := p2; have g_x2 := i_rg x2; omega)
  have q_n_22 := i_nn en_22 zn_22
  refine va_newa (atype := .int) (ty := .int) (a0 := (n_22, .inl (fun _ => 0))) (N' := n_22) hx hb (hts (.arrayClass .int) kw_51) rfl hK hP hD hS hA (fun _ => rfl) (i_nl0 zn_22) en_22 (i_by bn_22 (by decide)) (show 0 + 1 ≤ (8) from (by have e0 : (0 : Int32).toInt = 0 := (by decide); have q_p2 := p2; have g_x2 := i_rg x2; omega)) (show 0 + n_22 ≤ (3 * x2.toInt.toNat + 5 * x3.toInt.toNat) from (by have e0 : (0 : Int32).toInt = 0 := (by decide); have q_p2 := p2; have g_x2 := i_rg x2; omega)) dX10_init_26 (fun q_21 cA9 H hK9 hP hD hS => ?_)
  obtain rfl := cls_new hK hK9 (k := 1) rfl (fun _ h => by cases h)
  clear hK9
  have hD9 := hD
  obtain ⟨ws_23, e_ws_23⟩ : ∃ z, z = ws_16 ++ [(q_21, .inl (g.cI, n_22, .inl (fun _ => 0)))] := ⟨_, rfl⟩
  have hP : va_P (gD g) cl0 ws_23 H := by rw [e_ws_23]; exact hP
  have hD : va_D A ws_23 := by rw [e_ws_23]; exact hD
  have E_24 : gE ws_16 ws_23 := by rw [e_ws_23]; exact gE_push
  have Fr_25 : gF [] [] none ws_16 ws_23 := by rw [e_ws_23]; exact gF_push
  have fr_q_21 : frs ws_23 q_21 := by rw [e_ws_23]; exact frs_new hD9 hX.u
  have hX : GoodX g k0 ws_23 := by rw [e_ws_23]; exact hX.pushI hD9 (ows_lt hk_0)
  have a_q_21 : gI ws_23 q_21 g.cI n_22 := by rw [e_ws_23]; exact gS_new
  have s_q_21 : n_22 < 2147483648 := Nat.lt_of_le_of_lt bn_22 (by decide)
  have pp_26 := Fr_25.pp
  have Gx_27 : gX k0 ws_16 ws_23 := gX_push e_ws_23
  have hk_0 := get_oldE e_ws_23 hk_0
  have o_h0 := E_24.1 _ _ o_h0
  have a_b1 := E_24.1 _ _ a_b1
  have hV9 : okv ws_23 9 5 (.ref q_21) := (okv_a a_q_21 fr_q_21)
  refine va_putF (D := gD g) (ci := 9) (v := .ref q_21) (ty := (.array .int)) (C := RX10) (T := TX10) (N := 18) hx hb hts inX10 tyX10 tyX10_ok nmX10 hown hK hP hD hS k0 hk_0 rfl 5 (by decide) (hts _ kw_52) (fun _ h9 => h9) rfl hin9 rfl (by decide +kernel) rfl rfl (Nat.le_of_ble_eq_true rfl) dX10_init_28 (fun H locs hP hD hS => ?_)
  obtain ⟨ws_28, e_ws_28⟩ : ∃ z, z = ws_23.set k0 (h0, .inr (9, [.ref b1, .int 0, .int 0, .int 0, .int x2, .ref q_21, .null, .null, .int 0, .null, .null, .null, .null, .null, .int 0, .int 0, .int (-1), .int (-1)])) := ⟨_, rfl⟩
  have hP : va_P (gD g) cl0 ws_28 H := by rw [e_ws_28]; exact hP
  have hD : va_D A ws_28 := by rw [e_ws_28]; exact hD
  have E_29 : gE ws_23 ws_28 := gE_set e_ws_28 hk_0 (cw_o (fi := 5) (v := .ref q_21) rfl (by decide))
  have hX : GoodX g k0 ws_28 := GoodX.set (fi := 5) (v := .ref q_21) e_ws_28 hk_0 E_29 rfl hV9 hX
  have Fr_30 : gF [(9, 5)] [] (some h0) ws_23 ws_28 := gF_put (fi := 5) (v := .ref q_21) e_ws_28 hk_0 rfl (by decide)
  have Gx_31 : gX k0 ws_23 ws_28 := gX_set e_ws_28 hk_0
  have pp_32 := Fr_30.pp
  have hkN := gset_self e_ws_28 hk_0
  have hk_0 := hkN
  have o_h0 := E_29.1 _ _ o_h0
  have a_b1 := E_29.1 _ _ a_b1
  have a_q_21 := E_29.1 _ _ a_q_21
  refine lv_aload_n hx hb dX10_init_31 rfl (lv_at hl 0 rfl) ?_
  refine lv_iload_n hx hb dX10_init_32 rfl (lv_at hl 2 rfl) ?_
  obtain ⟨n_34, en_34⟩ : ∃ y : Nat, (x2 : Int32).toNatClampNeg = y := ⟨_, rfl⟩
  have bn_34 : n_34 ≤ 24 := i_cl en_34 (by have q_p2 := p2; have q_n_22 := i_nn en_22 zn_22; have q2_n_22 := bn_22; have g_x2 := i_rg x2; omega)
  have zn_34 : 0 ≤ (x2 : Int32).toInt := (by have q_p2 := p2; have q_n_22 := i_nn en_22 zn_22; have q2_n_22 := bn_22; have g_x2 := i_rg x2; omega)
  have q_n_34 := i_nn en_34 zn_34
  refine va_newa (atype := .int) (ty := .int) (a0 := (n_34, .inl (fun _ => 0))) (N' := n_34) hx hb (hts (.arrayClass .int) kw_51) rfl hK hP hD hS hA (fun _ => rfl) (i_nl0 zn_34) en_34 (i_by bn_34 (by decide)) (show 0 + 1 + 1 ≤ (8) from (by have q_p2 := p2; have q_n_22 := i_nn en_22 zn_22; have q2_n_22 := bn_22; have g_x2 := i_rg x2; omega)) (show 0 + n_22 + n_34 ≤ (3 * x2.toInt.toNat + 5 * x3.toInt.toNat) from (by have q_p2 := p2; have q_n_22 := i_nn en_22 zn_22; have q2_n_22 := bn_22; have g_x2 := i_rg x2; omega)) dX10_init_33 (fun q_33 cA9 H hK9 hP hD hS => ?_)
  obtain rfl := cls_new hK hK9 (k := 1) rfl (fun _ h => by cases h)
  clear hK9
  have hD9 := hD
  obtain ⟨ws_35, e_ws_35⟩ : ∃ z, z = ws_28 ++ [(q_33, .inl (g.cI, n_34, .inl (fun _ => 0)))] := ⟨_, rfl⟩
  have hP : va_P (gD g) cl0 ws_35 H := by rw [e_ws_35]; exact hP
  have hD : va_D A ws_35 := by rw [e_ws_35]; exact hD
  have E_36 : gE ws_28 ws_35 := by rw [e_ws_35]; exact gE_push
  have Fr_37 : gF [] [] none ws_28 ws_35 := by rw [e_ws_35]; exact gF_push
  have fr_q_33 : frs ws_35 q_33 := by rw [e_ws_35]; exact frs_new hD9 hX.u
  have hX : GoodX g k0 ws_35 := by rw [e_ws_35]; exact hX.pushI hD9 (ows_lt hk_0)
  have a_q_33 : gI ws_35 q_33 g.cI n_34 := by rw [e_ws_35]; exact gS_new
  have s_q_33 : n_34 < 2147483648 := Nat.lt_of_le_of_lt bn_34 (by decide)
  have pp_38 := Fr_37.pp
  have Gx_39 : gX k0 ws_28 ws_35 := gX_push e_ws_35
  have hk_0 := get_oldE e_ws_35 hk_0
  have o_h0 := E_36.1 _ _ o_h0
  have a_b1 := E_36.1 _ _ a_b1
  have a_q_21 := E_36.1 _ _ a_q_21
  have hV9 : okv ws_35 9 6 (.ref q_33) := (okv_a a_q_33 fr_q_33)
  refine va_putF (D := gD g) (ci := 9) (v := .ref q_33) (ty := (.array .int)) (C := RX10) (T := TX10) (N := 18) hx hb hts inX10 tyX10 tyX10_ok nmX10 hown hK hP hD hS k0 hk_0 rfl 6 (by decide) (hts _ kw_53) (fun _ h9 => h9) rfl hin9 rfl (by decide +kernel) rfl rfl (Nat.le_of_ble_eq_true rfl) dX10_init_35 (fun H locs hP hD hS => ?_)
  obtain ⟨ws_40, e_ws_40⟩ : ∃ z, z = ws_35.set k0 (h0, .inr (9, [.ref b1, .int 0, .int 0, .int 0, .int x2, .ref q_21, .ref q_33, .null, .int 0, .null, .null, .null, .null, .null, .int 0, .int 0, .int (-1), .int (-1)])) := ⟨_, rfl⟩
  have hP : va_P (gD g) cl0 ws_40 H := by rw [e_ws_40]; exact hP
  have hD : va_D A ws_40 := by rw [e_ws_40]; exact hD
  have E_41 : gE ws_35 ws_40 := gE_set e_ws_40 hk_0 (cw_o (fi := 6) (v := .ref q_33) rfl (by decide))
  have hX : GoodX g k0 ws_40 := GoodX.set (fi := 6) (v := .ref q_33) e_ws_40 hk_0 E_41 rfl hV9 hX
  have Fr_42 : gF [(9, 6)] [] (some h0) ws_35 ws_40 := gF_put (fi := 6) (v := .ref q_33) e_ws_40 hk_0 rfl (by decide)
  have Gx_43 : gX k0 ws_35 ws_40 := gX_set e_ws_40 hk_0
  have pp_44 := Fr_42.pp
  have hkN := gset_self e_ws_40 hk_0
  have hk_0 := hkN
  have o_h0 := E_41.1 _ _ o_h0
  have a_b1 := E_41.1 _ _ a_b1
  have a_q_21 := E_41.1 _ _ a_q_21
  have a_q_33 := E_41.1 _ _ a_q_33
  refine lv_aload_n hx hb dX10_init_38 rfl (lv_at hl 0 rfl) ?_
  refine lv_iload_n hx hb dX10_init_39 rfl (lv_at hl 2 rfl) ?_
  obtain ⟨n_46, en_46⟩ : ∃ y : Nat, (x2 : Int32).toNatClampNeg = y := ⟨_, rfl⟩
  have bn_46 : n_46 ≤ 24 := i_cl en_46 (by have q_p2 := p2; have q_n_22 := i_nn en_22 zn_22; have q_n_34 := i_nn en_34 zn_34; have q2_n_22 := bn_22; have q2_n_34 := bn_34; have g_x2 := i_rg x2; omega)
  have zn_46 : 0 ≤ (x2 : Int32).toInt := (by have q_p2 := p2; have q_n_22 := i_nn en_22 zn_22; have q_n_34 := i_nn en_34 zn_34; have q2_n_22 := bn_22; have q2_n_34 := bn_34; have g_x2 := i_rg x2; omega)
  have q_n_46 := i_nn en_46 zn_46
  refine va_newa (atype := .int) (ty := .int) (a0 := (n_46, .inl (fun _ => 0))) (N' := n_46) hx hb (hts (.arrayClass .int) kw_51) rfl hK hP hD hS hA (fun _ => rfl) (i_nl0 zn_46) en_46 (i_by bn_46 (by decide)) (show 0 + 1 + 1 + 1 ≤ (8) from (by have q_p2 := p2; have q_n_22 := i_nn en_22 zn_22; have q2_n_22 := bn_22; have q_n_34 := i_nn en_34 zn_34; have q2_n_34 := bn_34; have g_x2 := i_rg x2; omega)) (show 0 + n_22 + n_34 + n_46 ≤ (3 * x2.toInt.toNat + 5 * x3.toInt.toNat) from (by have q_p2 := p2; have q_n_22 := i_nn en_22 zn_22; have q2_n_22 := bn_22; have q_n_34 := i_nn en_34 zn_34; have q2_n_34 := bn_34; have g_x2 := i_rg x2; omega)) dX10_init_40 (fun q_45 cA9 H hK9 hP hD hS => ?_)
  obtain rfl := cls_new hK hK9 (k := 1) rfl (fun _ h => by cases h)
  clear hK9
  have hD9 := hD
  obtain ⟨ws_47, e_ws_47⟩ : ∃ z, z = ws_40 ++ [(q_45, .inl (g.cI, n_46, .inl (fun _ => 0)))] := ⟨_, rfl⟩
  have hP : va_P (gD g) cl0 ws_47 H := by rw [e_ws_47]; exact hP
  have hD : va_D A ws_47 := by rw [e_ws_47]; exact hD
  have E_48 : gE ws_40 ws_47 := by rw [e_ws_47]; exact gE_push
  have Fr_49 : gF [] [] none ws_40 ws_47 := by rw [e_ws_47]; exact gF_push
  have fr_q_45 : frs ws_47 q_45 := by rw [e_ws_47]; exact frs_new hD9 hX.u
  have hX : GoodX g k0 ws_47 := by rw [e_ws_47]; exact hX.pushI hD9 (ows_lt hk_0)
  have a_q_45 : gI ws_47 q_45 g.cI n_46 := by rw [e_ws_47]; exact gS_new
  have s_q_45 : n_46 < 2147483648 := Nat.lt_of_le_of_lt bn_46 (by decide)
  have pp_50 := Fr_49.pp
  have Gx_51 : gX k0 ws_40 ws_47 := gX_push e_ws_47
  have hk_0 := get_oldE e_ws_47 hk_0
  have o_h0 := E_48.1 _ _ o_h0
  have a_b1 := E_48.1 _ _ a_b1
  have a_q_21 := E_48.1 _ _ a_q_21
  have a_q_33 := E_48.1 _ _ a_q_33
  have hV9 : okv ws_47 9 7 (.ref q_45) := (okv_a a_q_45 fr_q_45)
  refine va_putF (D := gD g) (ci := 9) (v := .ref q_45) (ty := (.array .int)) (C := RX10) (T := TX10) (N := 18) hx hb hts inX10 tyX10 tyX10_ok nmX10 hown hK hP hD hS k0 hk_0 rfl 7 (by decide) (hts _ kw_54) (fun _ h9 => h9) rfl hin9 rfl (by decide +kernel) rfl rfl (Nat.le_of_ble_eq_true rfl) dX10_init_42 (fun H locs hP hD hS => ?_)
  obtain ⟨ws_52, e_ws_52⟩ : ∃ z, z = ws_47.set k0 (h0, .inr (9, [.ref b1, .int 0, .int 0, .int 0, .int x2, .ref q_21, .ref q_33, .ref q_45, .int 0, .null, .null, .null, .null, .null, .int 0, .int 0, .int (-1), .int (-1)])) := ⟨_, rfl⟩
  have hP : va_P (gD g) cl0 ws_52 H := by rw [e_ws_52]; exact hP
  have hD : va_D A ws_52 := by rw [e_ws_52]; exact hD
  have E_53 : gE ws_47 ws_52 := gE_set e_ws_52 hk_0 (cw_o (fi := 7) (v := .ref q_45) rfl (by decide))
  have hX : GoodX g k0 ws_52 := GoodX.set (fi := 7) (v := .ref q_45) e_ws_52 hk_0 E_53 rfl hV9 hX
  have Fr_54 : gF [(9, 7)] [] (some h0) ws_47 ws_52 := gF_put (fi := 7) (v := .ref q_45) e_ws_52 hk_0 rfl (by decide)
  have Gx_55 : gX k0 ws_47 ws_52 := gX_set e_ws_52 hk_0
  have pp_56 := Fr_54.pp
  have hkN := gset_self e_ws_52 hk_0
  have hk_0 := hkN
  have o_h0 := E_53.1 _ _ o_h0
  have a_b1 := E_53.1 _ _ a_b1
  have a_q_21 := E_53.1 _ _ a_q_21
  have a_q_33 := E_53.1 _ _ a_q_33
  have a_q_45 := E_53.1 _ _ a_q_45
  refine lv_aload_n hx hb dX10_init_45 rfl (lv_at hl 0 rfl) ?_
  refine lv_iload_n hx hb dX10_init_46 rfl (lv_at hl 3 rfl) ?_
  have hV9 : okv ws_52 9 8 (.int x3) := okv_i
  refine va_put (D := gD g) (ci := 9) (v := .int x3) (ty := .int) (C := RX10) (T := TX10) (N := 18) hx hb hts inX10 tyX10 tyX10_ok nmX10 hown hK hP hD hS k0 hk_0 rfl 8 (by decide) (hts _ kw_55) (fun _ h9 => h9) rfl (by decide +kernel) rfl rfl (Nat.le_of_ble_eq_true rfl) dX10_init_47 (fun H locs hP hD hS => ?_)
  obtain ⟨ws_57, e_ws_57⟩ : ∃ z, z = ws_52.set k0 (h0, .inr (9, [.ref b1, .int 0, .int 0, .int 0, .int x2, .ref q_21, .ref q_33, .ref q_45, .int x3, .null, .null, .null, .null, .null, .int 0, .int 0, .int (-1), .int (-1)])) := ⟨_, rfl⟩
  have hP : va_P (gD g) cl0 ws_57 H := by rw [e_ws_57]; exact hP
  have hD : va_D A ws_57 := by rw [e_ws_57]; exact hD
  have E_58 : gE ws_52 ws_57 := gE_set e_ws_57 hk_0 (cw_o (fi := 8) (v := .int x3) rfl (by decide))
  have hX : GoodX g k0 ws_57 := GoodX.set (fi := 8) (v := .int x3) e_ws_57 hk_0 E_58 rfl hV9 hX
  have Fr_59 : gF [(9, 8)] [] (some h0) ws_52 ws_57 := gF_put (fi := 8) (v := .int x3) e_ws_57 hk_0 rfl (by decide)
  have Gx_60 : gX k0 ws_52 ws_57 := gX_set e_ws_57 hk_0
  have pp_61 := Fr_59.pp
  have hkN := gset_self e_ws_57 hk_0
  have hk_0 := hkN
  have o_h0 := E_58.1 _ _ o_h0
  have a_b1 := E_58.1 _ _ a_b1
  have a_q_21 := E_58.1 _ _ a_q_21
  have a_q_33 := E_58.1 _ _ a_q_33
  have a_q_45 := E_58.1 _ _ a_q_45
  refine lv_aload_n hx hb dX10_init_50 rfl (lv_at hl 0 rfl) ?_
  refine lv_iload_n hx hb dX10_init_51 rfl (lv_at hl 3 rfl) ?_
  obtain ⟨n_63, en_63⟩ : ∃ y : Nat, (x3 : Int32).toNatClampNeg = y := ⟨_, rfl⟩
  have bn_63 : n_63 ≤ 24 := i_cl en_63 (by have q_p3 := p3; have g_x3 := i_rg x3; omega)
  have zn_63 : 0 ≤ (x3 : Int32).toInt := (by have q_p3 := p3; have g_x3 := i_rg x3; omega)
  have q_n_63 := i_nn en_63 zn_63
  refine va_newa (atype := .int) (ty := .int) (a0 := (n_63, .inl (fun _ => 0))) (N' := n_63) hx hb (hts (.arrayClass .int) kw_51) rfl hK hP hD hS hA (fun _ => rfl) (i_nl0 zn_63) en_63 (i_by bn_63 (by decide)) (show 0 + 1 + 1 + 1 + 1 ≤ (8) from (by have q_p2 := p2; have q_p3 := p3; have q_n_22 := i_nn en_22 zn_22; have q2_n_22 := bn_22; have q_n_34 := i_nn en_34 zn_34; have q2_n_34 := bn_34; have q_n_46 := i_nn en_46 zn_46; have q2_n_46 := bn_46; have g_x2 := i_rg x2; have g_x3 := i_rg x3; omega)) (show 0 + n_22 + n_34 + n_46 + n_63 ≤ (3 * x2.toInt.toNat + 5 * x3.toInt.toNat) from (by have q_p2 := p2; have q_p3 := p3; have q_n_22 := i_nn en_22 zn_22; have q2_n_22 := bn_22; have q_n_34 := i_nn en_34 zn_34; have q2_n_34 := bn_34; have q_n_46 := i_nn en_46 zn_46; have q2_n_46 := bn_46; have g_x2 := i_rg x2; have g_x3 := i_rg x3; omega)) dX10_init_52 (fun q_62 cA9 H hK9 hP hD hS => ?_)
  obtain rfl := cls_new hK hK9 (k := 1) rfl (fun _ h => by cases h)
  clear hK9
  have hD9 := hD
  obtain ⟨ws_64, e_ws_64⟩ : ∃ z, z = ws_57 ++ [(q_62, .inl (g.cI, n_63, .inl (fun _ => 0)))] := ⟨_, rfl⟩
  have hP : va_P (gD g) cl0 ws_64 H := by rw [e_ws_64]; exact hP
  have hD : va_D A ws_64 := by rw [e_ws_64]; exact hD
  have E_65 : gE ws_57 ws_64 := by rw [e_ws_64]; exact gE_push
  have Fr_66 : gF [] [] none ws_57 ws_64 := by rw [e_ws_64]; exact gF_push
  have fr_q_62 : frs ws_64 q_62 := by rw [e_ws_64]; exact frs_new hD9 hX.u
  have hX : GoodX g k0 ws_64 := by rw [e_ws_64]; exact hX.pushI hD9 (ows_lt hk_0)
  have a_q_62 : gI ws_64 q_62 g.cI n_63 := by rw [e_ws_64]; exact gS_new
  have s_q_62 : n_63 < 2147483648 := Nat.lt_of_le_of_lt bn_63 (by decide)
  have pp_67 := Fr_66.pp
  have Gx_68 : gX k0 ws_57 ws_64 := gX_push e_ws_64
  have hk_0 := get_oldE e_ws_64 hk_0
  have o_h0 := E_65.1 _ _ o_h0
  have a_b1 := E_65.1 _ _ a_b1
  have a_q_21 := E_65.1 _ _ a_q_21
  have a_q_33 := E_65.1 _ _ a_q_33
  have a_q_45 := E_65.1 _ _ a_q_45
  have hV9 : okv ws_64 9 9 (.ref q_62) := (okv_a a_q_62 fr_q_62)
  refine va_putF (D := gD g) (ci := 9) (v := .ref q_62) (ty := (.array .int)) (C := RX10) (T := TX10) (N := 18) hx hb hts inX10 tyX10 tyX10_ok nmX10 hown hK hP hD hS k0 hk_0 rfl 9 (by decide) (hts _ kw_56) (fun _ h9 => h9) rfl hin9 rfl (by decide +kernel) rfl rfl (Nat.le_of_ble_eq_true rfl) dX10_init_54 (fun H locs hP hD hS => ?_)
  obtain ⟨ws_69, e_ws_69⟩ : ∃ z, z = ws_64.set k0 (h0, .inr (9, [.ref b1, .int 0, .int 0, .int 0, .int x2, .ref q_21, .ref q_33, .ref q_45, .int x3, .ref q_62, .null, .null, .null, .null, .int 0, .int 0, .int (-1), .int (-1)])) := ⟨_, rfl⟩
  have hP : va_P (gD g) cl0 ws_69 H := by rw [e_ws_69]; exact hP
  have hD : va_D A ws_69 := by rw [e_ws_69]; exact hD
  have E_70 : gE ws_64 ws_69 := gE_set e_ws_69 hk_0 (cw_o (fi := 9) (v := .ref q_62) rfl (by decide))
  have hX : GoodX g k0 ws_69 := GoodX.set (fi := 9) (v := .ref q_62) e_ws_69 hk_0 E_70 rfl hV9 hX
  have Fr_71 : gF [(9, 9)] [] (some h0) ws_64 ws_69 := gF_put (fi := 9) (v := .ref q_62) e_ws_69 hk_0 rfl (by decide)
  have Gx_72 : gX k0 ws_64 ws_69 := gX_set e_ws_69 hk_0
  have pp_73 := Fr_71.pp
  have hkN := gset_self e_ws_69 hk_0
  have hk_0 := hkN
  have o_h0 := E_70.1 _ _ o_h0
  have a_b1 := E_70.1 _ _ a_b1
  have a_q_21 := E_70.1 _ _ a_q_21
  have a_q_33 := E_70.1 _ _ a_q_33
  have a_q_45 := E_70.1 _ _ a_q_45
  have a_q_62 := E_70.1 _ _ a_q_62
  refine lv_aload_n hx hb dX10_init_57 rfl (lv_at hl 0 rfl) ?_
  refine lv_iload_n hx hb dX10_init_58 rfl (lv_at hl 3 rfl) ?_
  obtain ⟨n_75, en_75⟩ : ∃ y : Nat, (x3 : Int32).toNatClampNeg = y := ⟨_, rfl⟩
  have bn_75 : n_75 ≤ 24 := i_cl en_75 (by have q_p3 := p3; have q_n_63 := i_nn en_63 zn_63; have q2_n_63 := bn_63; have g_x3 := i_rg x3; omega)
  have zn_75 : 0 ≤ (x3 : Int32).toInt := (by have q_p3 := p3; have q_n_63 := i_nn en_63 zn_63; have q2_n_63 := bn_63; have g_x3 := i_rg x3; omega)
  have q_n_75 := i_nn en_75 zn_75
  refine va_newa (atype := .int) (ty := .int) (a0 := (n_75, .inl (fun _ => 0))) (N' := n_75) hx hb (hts (.arrayClass .int) kw_51) rfl hK hP hD hS hA (fun _ => rfl) (i_nl0 zn_75) en_75 (i_by bn_75 (by decide)) (show 0 + 1 + 1 + 1 + 1 + 1 ≤ (8) from (by have q_p2 := p2; have q_p3 := p3; have q_n_22 := i_nn en_22 zn_22; have q2_n_22 := bn_22; have q_n_34 := i_nn en_34 zn_34; have q2_n_34 := bn_34; have q_n_46 := i_nn en_46 zn_46; have q2_n_46 := bn_46; have q_n_63 := i_nn en_63 zn_63; have q2_n_63 := bn_63; have g_x2 := i_rg x2; have g_x3 := i_rg x3; omega)) (show 0 + n_22 + n_34 + n_46 + n_63 + n_75 ≤ (3 * x2.toInt.toNat + 5 * x3.toInt.toNat) from (by have q_p2 := p2; have q_p3 := p3; have q_n_22 := i_nn en_22 zn_22; have q2_n_22 := bn_22; have q_n_34 := i_nn en_34 zn_34; have q2_n_34 := bn_34; have q_n_46 := i_nn en_46 zn_46; have q2_n_46 := bn_46; have q_n_63 := i_nn en_63 zn_63; have q2_n_63 := bn_63; have g_x2 := i_rg x2; have g_x3 := i_rg x3; omega)) dX10_init_59 (fun q_74 cA9 H hK9 hP hD hS => ?_)
  obtain rfl := cls_new hK hK9 (k := 1) rfl (fun _ h => by cases h)
  clear hK9
  have hD9 := hD
  obtain ⟨ws_76, e_ws_76⟩ : ∃ z, z = ws_69 ++ [(q_74, .inl (g.cI, n_75, .inl (fun _ => 0)))] := ⟨_, rfl⟩
  have hP : va_P (gD g) cl0 ws_76 H := by rw [e_ws_76]; exact hP
  have hD : va_D A ws_76 := by rw [e_ws_76]; exact hD
  have E_77 : gE ws_69 ws_76 := by rw [e_ws_76]; exact gE_push
  have Fr_78 : gF [] [] none ws_69 ws_76 := by rw [e_ws_76]; exact gF_push
  have fr_q_74 : frs ws_76 q_74 := by rw [e_ws_76]; exact frs_new hD9 hX.u
  have hX : GoodX g k0 ws_76 := by rw [e_ws_76]; exact hX.pushI hD9 (ows_lt hk_0)
  have a_q_74 : gI ws_76 q_74 g.cI n_75 := by rw [e_ws_76]; exact gS_new
  have s_q_74 : n_75 < 2147483648 := Nat.lt_of_le_of_lt bn_75 (by decide)
  have pp_79 := Fr_78.pp
  have Gx_80 : gX k0 ws_69 ws_76 := gX_push e_ws_76
  have hk_0 := get_oldE e_ws_76 hk_0
  have o_h0 := E_77.1 _ _ o_h0
  have a_b1 := E_77.1 _ _ a_b1
  have a_q_21 := E_77.1 _ _ a_q_21
  have a_q_33 := E_77.1 _ _ a_q_33
  have a_q_45 := E_77.1 _ _ a_q_45
  have a_q_62 := E_77.1 _ _ a_q_62
  have hV9 : okv ws_76 9 10 (.ref q_74) := (okv_a a_q_74 fr_q_74)
  refine va_putF (D := gD g) (ci := 9) (v := .ref q_74) (ty := (.array .int)) (C := RX10) (T := TX10) (N := 18) hx hb hts inX10 tyX10 tyX10_ok nmX10 hown hK hP hD hS k0 hk_0 rfl 10 (by decide) (hts _ kw_57) (fun _ h9 => h9) rfl hin9 rfl (by decide +kernel) rfl rfl (Nat.le_of_ble_eq_true rfl) dX10_init_61 (fun H locs hP hD hS => ?_)
  obtain ⟨ws_81, e_ws_81⟩ : ∃ z, z = ws_76.set k0 (h0, .inr (9, [.ref b1, .int 0, .int 0, .int 0, .int x2, .ref q_21, .ref q_33, .ref q_45, .int x3, .ref q_62, .ref q_74, .null, .null, .null, .int 0, .int 0, .int (-1), .int (-1)])) := ⟨_, rfl⟩
  have hP : va_P (gD g) cl0 ws_81 H := by rw [e_ws_81]; exact hP
  have hD : va_D A ws_81 := by rw [e_ws_81]; exact hD
  have E_82 : gE ws_76 ws_81 := gE_set e_ws_81 hk_0 (cw_o (fi := 10) (v := .ref q_74) rfl (by decide))
  have hX : GoodX g k0 ws_81 := GoodX.set (fi := 10) (v := .ref q_74) e_ws_81 hk_0 E_82 rfl hV9 hX
  have Fr_83 : gF [(9, 10)] [] (some h0) ws_76 ws_81 := gF_put (fi := 10) (v := .ref q_74) e_ws_81 hk_0 rfl (by decide)
  have Gx_84 : gX k0 ws_76 ws_81 := gX_set e_ws_81 hk_0
  have pp_85 := Fr_83.pp
  have hkN := gset_self e_ws_81 hk_0
  have hk_0 := hkN
  have o_h0 := E_82.1 _ _ o_h0
  have a_b1 := E_82.1 _ _ a_b1
  have a_q_21 := E_82.1 _ _ a_q_21
  have a_q_33 := E_82.1 _ _ a_q_33
  have a_q_45 := E_82.1 _ _ a_q_45
  have a_q_62 := E_82.1 _ _ a_q_62
  have a_q_74 := E_82.1 _ _ a_q_74
  refine lv_aload_n hx hb dX10_init_64 rfl (lv_at hl 0 rfl) ?_
  refine lv_iload_n hx hb dX10_init_65 rfl (lv_at hl 3 rfl) ?_
  obtain ⟨n_87, en_87⟩ : ∃ y : Nat, (x3 : Int32).toNatClampNeg = y := ⟨_, rfl⟩
  have bn_87 : n_87 ≤ 24 := i_cl en_87 (by have q_p3 := p3; have q_n_63 := i_nn en_63 zn_63; have q_n_75 := i_nn en_75 zn_75; have q2_n_63 := bn_63; have q2_n_75 := bn_75; have g_x3 := i_rg x3; omega)
  have zn_87 : 0 ≤ (x3 : Int32).toInt := (by have q_p3 := p3; have q_n_63 := i_nn en_63 zn_63; have q_n_75 := i_nn en_75 zn_75; have q2_n_63 := bn_63; have q2_n_75 := bn_75; have g_x3 := i_rg x3; omega)
  have q_n_87 := i_nn en_87 zn_87
  refine va_newa (atype := .int) (ty := .int) (a0 := (n_87, .inl (fun _ => 0))) (N' := n_87) hx hb (hts (.arrayClass .int) kw_51) rfl hK hP hD hS hA (fun _ => rfl) (i_nl0 zn_87) en_87 (i_by bn_87 (by decide)) (show 0 + 1 + 1 + 1 + 1 + 1 + 1 ≤ (8) from (by have q_p2 := p2; have q_p3 := p3; have q_n_22 := i_nn en_22 zn_22; have q2_n_22 := bn_22; have q_n_34 := i_nn en_34 zn_34; have q2_n_34 := bn_34; have q_n_46 := i_nn en_46 zn_46; have q2_n_46 := bn_46; have q_n_63 := i_nn en_63 zn_63; have q2_n_63 := bn_63; have q_n_75 := i_nn en_75 zn_75; have q2_n_75 := bn_75; have g_x2 := i_rg x2; have g_x3 := i_rg x3; omega)) (show 0 + n_22 + n_34 + n_46 + n_63 + n_75 + n_87 ≤ (3 * x2.toInt.toNat + 5 * x3.toInt.toNat) from (by have q_p2 := p2; have q_p3 := p3; have q_n_22 := i_nn en_22 zn_22; have q2_n_22 := bn_22; have q_n_34 := i_nn en_34 zn_34; have q2_n_34 := bn_34; have q_n_46 := i_nn en_46 zn_46; have q2_n_46 := bn_46; have q_n_63 := i_nn en_63 zn_63; have q2_n_63 := bn_63; have q_n_75 := i_nn en_75 zn_75; have q2_n_75 := bn_75; have g_x2 := i_rg x2; have g_x3 := i_rg x3; omega)) dX10_init_66 (fun q_86 cA9 H hK9 hP hD hS => ?_)
  obtain rfl := cls_new hK hK9 (k := 1) rfl (fun _ h => by cases h)
  clear hK9
  have hD9 := hD
  obtain ⟨ws_88, e_ws_88⟩ : ∃ z, z = ws_81 ++ [(q_86, .inl (g.cI, n_87, .inl (fun _ => 0)))] := ⟨_, rfl⟩
  have hP : va_P (gD g) cl0 ws_88 H := by rw [e_ws_88]; exact hP
  have hD : va_D A ws_88 := by rw [e_ws_88]; exact hD
  have E_89 : gE ws_81 ws_88 := by rw [e_ws_88]; exact gE_push
  have Fr_90 : gF [] [] none ws_81 ws_88 := by rw [e_ws_88]; exact gF_push
  have fr_q_86 : frs ws_88 q_86 := by rw [e_ws_88]; exact frs_new hD9 hX.u
  have hX : GoodX g k0 ws_88 := by rw [e_ws_88]; exact hX.pushI hD9 (ows_lt hk_0)
  have a_q_86 : gI ws_88 q_86 g.cI n_87 := by rw [e_ws_88]; exact gS_new
  have s_q_86 : n_87 < 2147483648 := Nat.lt_of_le_of_lt bn_87 (by decide)
  have pp_91 := Fr_90.pp
  have Gx_92 : gX k0 ws_81 ws_88 := gX_push e_ws_88
  have hk_0 := get_oldE e_ws_88 hk_0
  have o_h0 := E_89.1 _ _ o_h0
  have a_b1 := E_89.1 _ _ a_b1
  have a_q_21 := E_89.1 _ _ a_q_21
  have a_q_33 := E_89.1 _ _ a_q_33
  have a_q_45 := E_89.1 _ _ a_q_45
  have a_q_62 := E_89.1 _ _ a_q_62
  have a_q_74 := E_89.1 _ _ a_q_74
  have hV9 : okv ws_88 9 11 (.ref q_86) := (okv_a a_q_86 fr_q_86)
  refine va_putF (D := gD g) (ci := 9) (v := .ref q_86) (ty := (.array .int)) (C := RX10) (T := TX10) (N := 18) hx hb hts inX10 tyX10 tyX10_ok nmX10 hown hK hP hD hS k0 hk_0 rfl 11 (by decide) (hts _ kw_58) (fun _ h9 => h9) rfl hin9 rfl (by decide +kernel) rfl rfl (Nat.le_of_ble_eq_true rfl) dX10_init_68 (fun H locs hP hD hS => ?_)
  obtain ⟨ws_93, e_ws_93⟩ : ∃ z, z = ws_88.set k0 (h0, .inr (9, [.ref b1, .int 0, .int 0, .int 0, .int x2, .ref q_21, .ref q_33, .ref q_45, .int x3, .ref q_62, .ref q_74, .ref q_86, .null, .null, .int 0, .int 0, .int (-1), .int (-1)])) := ⟨_, rfl⟩
  have hP : va_P (gD g) cl0 ws_93 H := by rw [e_ws_93]; exact hP
  have hD : va_D A ws_93 := by rw [e_ws_93]; exact hD
  have E_94 : gE ws_88 ws_93 := gE_set e_ws_93 hk_0 (cw_o (fi := 11) (v := .ref q_86) rfl (by decide))
  have hX : GoodX g k0 ws_93 := GoodX.set (fi := 11) (v := .ref q_86) e_ws_93 hk_0 E_94 rfl hV9 hX
  have Fr_95 : gF [(9, 11)] [] (some h0) ws_88 ws_93 := gF_put (fi := 11) (v := .ref q_86) e_ws_93 hk_0 rfl (by decide)
  have Gx_96 : gX k0 ws_88 ws_93 := gX_set e_ws_93 hk_0
  have pp_97 := Fr_95.pp
  have hkN := gset_self e_ws_93 hk_0
  have hk_0 := hkN
  have o_h0 := E_94.1 _ _ o_h0
  have a_b1 := E_94.1 _ _ a_b1
  have a_q_21 := E_94.1 _ _ a_q_21
  have a_q_33 := E_94.1 _ _ a_q_33
  have a_q_45 := E_94.1 _ _ a_q_45
  have a_q_62 := E_94.1 _ _ a_q_62
  have a_q_74 := E_94.1 _ _ a_q_74
  have a_q_86 := E_94.1 _ _ a_q_86
  refine lv_aload_n hx hb dX10_init_71 rfl (lv_at hl 0 rfl) ?_
  refine lv_iload_n hx hb dX10_init_72 rfl (lv_at hl 3 rfl) ?_
  obtain ⟨n_99, en_99⟩ : ∃ y : Nat, (x3 : Int32).toNatClampNeg = y := ⟨_, rfl⟩
  have bn_99 : n_99 ≤ 24 := i_cl en_99 (by have q_p3 := p3; have q_n_63 := i_nn en_63 zn_63; have q_n_75 := i_nn en_75 zn_75; have q_n_87 := i_nn en_87 zn_87; have q2_n_63 := bn_63; have q2_n_75 := bn_75; have q2_n_87 := bn_87; have g_x3 := i_rg x3; omega)
  have zn_99 : 0 ≤ (x3 : Int32).toInt := (by have q_p3 := p3; have q_n_63 := i_nn en_63 zn_63; have q_n_75 := i_nn en_75 zn_75; have q_n_87 := i_nn en_87 zn_87; have q2_n_63 := bn_63; have q2_n_75 := bn_75; have q2_n_87 := bn_87; have g_x3 := i_rg x3; omega)
  have q_n_99 := i_nn en_99 zn_99
  refine va_newa (atype := .int) (ty := .int) (a0 := (n_99, .inl (fun _ => 0))) (N' := n_99) hx hb (hts (.arrayClass .int) kw_51) rfl hK hP hD hS hA (fun _ => rfl) (i_nl0 zn_99) en_99 (i_by bn_99 (by decide)) (show 0 + 1 + 1 + 1 + 1 + 1 + 1 + 1 ≤ (8) from (by have q_p2 := p2; have q_p3 := p3; have q_n_22 := i_nn en_22 zn_22; have q2_n_22 := bn_22; have q_n_34 := i_nn en_34 zn_34; have q2_n_34 := bn_34; have q_n_46 := i_nn en_46 zn_46; have q2_n_46 := bn_46; have q_n_63 := i_nn en_63 zn_63; have q2_n_63 := bn_63; have q_n_75 := i_nn en_75 zn_75; have q2_n_75 := bn_75; have q_n_87 := i_nn en_87 zn_87; have q2_n_87 := bn_87; have g_x2 := i_rg x2; have g_x3 := i_rg x3; omega)) (show 0 + n_22 + n_34 + n_46 + n_63 + n_75 + n_87 + n_99 ≤ (3 * x2.toInt.toNat + 5 * x3.toInt.toNat) from (by have q_p2 := p2; have q_p3 := p3; have q_n_22 := i_nn en_22 zn_22; have q2_n_22 := bn_22; have q_n_34 := i_nn en_34 zn_34; have q2_n_34 := bn_34; have q_n_46 := i_nn en_46 zn_46; have q2_n_46 := bn_46; have q_n_63 := i_nn en_63 zn_63; have q2_n_63 := bn_63; have q_n_75 := i_nn en_75 zn_75; have q2_n_75 := bn_75; have q_n_87 := i_nn en_87 zn_87; have q2_n_87 := bn_87; have g_x2 := i_rg x2; have g_x3 := i_rg x3; omega)) dX10_init_73 (fun q_98 cA9 H hK9 hP hD hS => ?_)
  obtain rfl := cls_new hK hK9 (k := 1) rfl (fun _ h => by cases h)
  clear hK9
  have hD9 := hD
  obtain ⟨ws_100, e_ws_100⟩ : ∃ z, z = ws_93 ++ [(q_98, .inl (g.cI, n_99, .inl (fun _ => 0)))] := ⟨_, rfl⟩
  have hP : va_P (gD g) cl0 ws_100 H := by rw [e_ws_100]; exact hP
  have hD : va_D A ws_100 := by rw [e_ws_100]; exact hD
  have E_101 : gE ws_93 ws_100 := by rw [e_ws_100]; exact gE_push
  have Fr_102 : gF [] [] none ws_93 ws_100 := by rw [e_ws_100]; exact gF_push
  have fr_q_98 : frs ws_100 q_98 := by rw [e_ws_100]; exact frs_new hD9 hX.u
  have hX : GoodX g k0 ws_100 := by rw [e_ws_100]; exact hX.pushI hD9 (ows_lt hk_0)
  have a_q_98 : gI ws_100 q_98 g.cI n_99 := by rw [e_ws_100]; exact gS_new
  have s_q_98 : n_99 < 2147483648 := Nat.lt_of_le_of_lt bn_99 (by decide)
  have pp_103 := Fr_102.pp
  have Gx_104 : gX k0 ws_93 ws_100 := gX_push e_ws_100
  have hk_0 := get_oldE e_ws_100 hk_0
  have o_h0 := E_101.1 _ _ o_h0
  have a_b1 := E_101.1 _ _ a_b1
  have a_q_21 := E_101.1 _ _ a_q_21
  have a_q_33 := E_101.1 _ _ a_q_33
  have a_q_45 := E_101.1 _ _ a_q_45
  have a_q_62 := E_101.1 _ _ a_q_62
  have a_q_74 := E_101.1 _ _ a_q_74
  have a_q_86 := E_101.1 _ _ a_q_86
  have hV9 : okv ws_100 9 12 (.ref q_98) := (okv_a a_q_98 fr_q_98)
  refine va_putF (D := gD g) (ci := 9) (v := .ref q_98) (ty := (.array .int)) (C := RX10) (T := TX10) (N := 18) hx hb hts inX10 tyX10 tyX10_ok nmX10 hown hK hP hD hS k0 hk_0 rfl 12 (by decide) (hts _ kw_43) (fun _ h9 => h9) rfl hin9 rfl (by decide +kernel) rfl rfl (Nat.le_of_ble_eq_true rfl) dX10_init_75 (fun H locs hP hD hS => ?_)
  obtain ⟨ws_105, e_ws_105⟩ : ∃ z, z = ws_100.set k0 (h0, .inr (9, [.ref b1, .int 0, .int 0, .int 0, .int x2, .ref q_21, .ref q_33, .ref q_45, .int x3, .ref q_62, .ref q_74, .ref q_86, .ref q_98, .null, .int 0, .int 0, .int (-1), .int (-1)])) := ⟨_, rfl⟩
  have hP : va_P (gD g) cl0 ws_105 H := by rw [e_ws_105]; exact hP
  have hD : va_D A ws_105 := by rw [e_ws_105]; exact hD
  have E_106 : gE ws_100 ws_105 := gE_set e_ws_105 hk_0 (cw_o (fi := 12) (v := .ref q_98) rfl (by decide))
  have hX : GoodX g k0 ws_105 := GoodX.set (fi := 12) (v := .ref q_98) e_ws_105 hk_0 E_106 rfl hV9 hX
  have Fr_107 : gF [(9, 12)] [] (some h0) ws_100 ws_105 := gF_put (fi := 12) (v := .ref q_98) e_ws_105 hk_0 rfl (by decide)
  have Gx_108 : gX k0 ws_100 ws_105 := gX_set e_ws_105 hk_0
  have pp_109 := Fr_107.pp
  have hkN := gset_self e_ws_105 hk_0
  have hk_0 := hkN
  have o_h0 := E_106.1 _ _ o_h0
  have a_b1 := E_106.1 _ _ a_b1
  have a_q_21 := E_106.1 _ _ a_q_21
  have a_q_33 := E_106.1 _ _ a_q_33
  have a_q_45 := E_106.1 _ _ a_q_45
  have a_q_62 := E_106.1 _ _ a_q_62
  have a_q_74 := E_106.1 _ _ a_q_74
  have a_q_86 := E_106.1 _ _ a_q_86
  have a_q_98 := E_106.1 _ _ a_q_98
  refine lv_aload_n hx hb dX10_init_78 rfl (lv_at hl 0 rfl) ?_
  refine lv_iload_n hx hb dX10_init_79 rfl (lv_at hl 3 rfl) ?_
  obtain ⟨n_111, en_111⟩ : ∃ y : Nat, (x3 : Int32).toNatClampNeg = y := ⟨_, rfl⟩
  have bn_111 : n_111 ≤ 24 := i_cl en_111 (by have q_p3 := p3; have q_n_63 := i_nn en_63 zn_63; have q_n_75 := i_nn en_75 zn_75; have q_n_87 := i_nn en_87 zn_87; have q_n_99 := i_nn en_99 zn_99; have q2_n_63 := bn_63; have q2_n_75 := bn_75; have q2_n_87 := bn_87; have q2_n_99 := bn_99; have g_x3 := i_rg x3; omega)
  have zn_111 : 0 ≤ (x3 : Int32).toInt := (by have q_p3 := p3; have q_n_63 := i_nn en_63 zn_63; have q_n_75 := i_nn en_75 zn_75; have q_n_87 := i_nn en_87 zn_87; have q_n_99 := i_nn en_99 zn_99; have q2_n_63 := bn_63; have q2_n_75 := bn_75; have q2_n_87 := bn_87; have q2_n_99 := bn_99; have g_x3 := i_rg x3; omega)
  have q_n_111 := i_nn en_111 zn_111
  refine va_newq (C := "CodeFoundry$Row") (N' := n_111) hx hb hown (hts _ kw_59) (ao_of (by exact ao_CodeFoundry_Row) hex) hK hP hD hS hA (i_nl0 zn_111) en_111 (i_by bn_111 (by decide)) (show 0 + 1 + 1 + 1 + 1 + 1 + 1 + 1 + 1 ≤ (8) from (by have q_p2 := p2; have q_p3 := p3; have q_n_22 := i_nn en_22 zn_22; have q2_n_22 := bn_22; have q_n_34 := i_nn en_34 zn_34; have q2_n_34 := bn_34; have q_n_46 := i_nn en_46 zn_46; have q2_n_46 := bn_46; have q_n_63 := i_nn en_63 zn_63; have q2_n_63 := bn_63; have q_n_75 := i_nn en_75 zn_75; have q2_n_75 := bn_75; have q_n_87 := i_nn en_87 zn_87; have q2_n_87 := bn_87; have q_n_99 := i_nn en_99 zn_99; have q2_n_99 := bn_99; have g_x2 := i_rg x2; have g_x3 := i_rg x3; omega)) (show 0 + n_22 + n_34 + n_46 + n_63 + n_75 + n_87 + n_99 + n_111 ≤ (3 * x2.toInt.toNat + 5 * x3.toInt.toNat) from (by have q_p2 := p2; have q_p3 := p3; have q_n_22 := i_nn en_22 zn_22; have q2_n_22 := bn_22; have q_n_34 := i_nn en_34 zn_34; have q2_n_34 := bn_34; have q_n_46 := i_nn en_46 zn_46; have q2_n_46 := bn_46; have q_n_63 := i_nn en_63 zn_63; have q2_n_63 := bn_63; have q_n_75 := i_nn en_75 zn_75; have q2_n_75 := bn_75; have q_n_87 := i_nn en_87 zn_87; have q2_n_87 := bn_87; have q_n_99 := i_nn en_99 zn_99; have q2_n_99 := bn_99; have g_x2 := i_rg x2; have g_x3 := i_rg x3; omega)) dX10_init_80 (fun q_110 cA9 H hK9 hP hD hS => ?_)
  obtain rfl := cls_newR hK hK9 (k := 5) rfl
  clear hK9
  have hD9 := hD
  obtain ⟨ws_112, e_ws_112⟩ : ∃ z, z = ws_105 ++ [(q_110, .inl (g.cR, n_111, .inr (.inr (.inr (.inr (fun _ => none))))))] := ⟨_, rfl⟩
  have hP : va_P (gD g) cl0 ws_112 H := by rw [e_ws_112]; exact hP
  have hD : va_D A ws_112 := by rw [e_ws_112]; exact hD
  have E_113 : gE ws_105 ws_112 := by rw [e_ws_112]; exact gE_push
  have Fr_114 : gF [] [] none ws_105 ws_112 := by rw [e_ws_112]; exact gF_push
  have fr_q_110 : frs ws_112 q_110 := by rw [e_ws_112]; exact frs_new hD9 hX.u
  have hX : GoodX g k0 ws_112 := by rw [e_ws_112]; exact hX.pushR hD9 (ows_lt hk_0)
  have a_q_110 : gR ws_112 q_110 g.cR n_111 := by rw [e_ws_112]; exact gS_new
  have s_q_110 : n_111 < 2147483648 := Nat.lt_of_le_of_lt bn_111 (by decide)
  have pp_115 := Fr_114.pp
  have Gx_116 : gX k0 ws_105 ws_112 := gX_push e_ws_112
  have hk_0 := get_oldE e_ws_112 hk_0
  have o_h0 := E_113.1 _ _ o_h0
  have a_b1 := E_113.1 _ _ a_b1
  have a_q_21 := E_113.1 _ _ a_q_21
  have a_q_33 := E_113.1 _ _ a_q_33
  have a_q_45 := E_113.1 _ _ a_q_45
  have a_q_62 := E_113.1 _ _ a_q_62
  have a_q_74 := E_113.1 _ _ a_q_74
  have a_q_86 := E_113.1 _ _ a_q_86
  have a_q_98 := E_113.1 _ _ a_q_98
  have hV9 : okv ws_112 9 13 (.ref q_110) := (okv_a a_q_110 fr_q_110)
  refine va_putF (D := gD g) (ci := 9) (v := .ref q_110) (ty := (.array (.object "CodeFoundry$Row"))) (C := RX10) (T := TX10) (N := 18) hx hb hts inX10 tyX10 tyX10_ok nmX10 hown hK hP hD hS k0 hk_0 rfl 13 (by decide) (hts _ kw_60) (fun _ h9 => h9) rfl hin9 rfl (by decide +kernel) rfl rfl (Nat.le_of_ble_eq_true rfl) dX10_init_83 (fun H locs hP hD hS => ?_)
  have f_117 : x2.toInt = n_22 := (by have q_p2 := p2; have q_n_22 := i_nn en_22 zn_22; have q2_n_22 := bn_22; have q_n_34 := i_nn en_34 zn_34; have q_n_46 := i_nn en_46 zn_46; have q2_n_34 := bn_34; have q2_n_46 := bn_46; have g_x2 := i_rg x2; omega)
  have f_118 : n_34 = n_22 := (by have q_n_22 := i_nn en_22 zn_22; have q2_n_22 := bn_22; have q_n_34 := i_nn en_34 zn_34; have q2_n_34 := bn_34; have q_f_117 := f_117; have q_p2 := p2; have q_n_46 := i_nn en_46 zn_46; have g_x2 := i_rg x2; omega)
  have f_119 : n_46 = n_22 := (by have q_n_22 := i_nn en_22 zn_22; have q2_n_22 := bn_22; have q_n_46 := i_nn en_46 zn_46; have q2_n_46 := bn_46; have q_f_117 := f_117; have q_f_118 := f_118; have q_p2 := p2; have q_n_34 := i_nn en_34 zn_34; have q2_n_34 := bn_34; have g_x2 := i_rg x2; omega)
  have f_120 : x3.toInt = n_63 := (by have q_p3 := p3; have q_n_63 := i_nn en_63 zn_63; have q2_n_63 := bn_63; have q_n_75 := i_nn en_75 zn_75; have q_n_87 := i_nn en_87 zn_87; have q_n_99 := i_nn en_99 zn_99; have q_n_111 := i_nn en_111 zn_111; have q2_n_75 := bn_75; have q2_n_87 := bn_87; have q2_n_99 := bn_99; have q2_n_111 := bn_111; have g_x3 := i_rg x3; omega)
  have f_121 : n_75 = n_63 := (by have q_n_63 := i_nn en_63 zn_63; have q2_n_63 := bn_63; have q_n_75 := i_nn en_75 zn_75; have q2_n_75 := bn_75; have q_f_120 := f_120; have q_p3 := p3; have q_n_87 := i_nn en_87 zn_87; have q_n_99 := i_nn en_99 zn_99; have q_n_111 := i_nn en_111 zn_111; have g_x3 := i_rg x3; omega)
  have f_122 : n_87 = n_63 := (by have q_n_63 := i_nn en_63 zn_63; have q2_n_63 := bn_63; have q_n_87 := i_nn en_87 zn_87; have q2_n_87 := bn_87; have q_f_120 := f_120; have q_f_121 := f_121; have q_p3 := p3; have q_n_75 := i_nn en_75 zn_75; have q2_n_75 := bn_75; have q_n_99 := i_nn en_99 zn_99; have q_n_111 := i_nn en_111 zn_111; have g_x3 := i_rg x3; omega)
  have f_123 : n_99 = n_63 := (by have q_n_63 := i_nn en_63 zn_63; have q2_n_63 := bn_63; have q_n_99 := i_nn en_99 zn_99; have q2_n_99 := bn_99; have q_f_120 := f_120; have q_f_121 := f_121; have q_f_122 := f_122; have q_p3 := p3; have q_n_75 := i_nn en_75 zn_75; have q2_n_75 := bn_75; have q_n_87 := i_nn en_87 zn_87; have q2_n_87 := bn_87; have q_n_111 := i_nn en_111 zn_111; have g_x3 := i_rg x3; omega)
  have f_124 : n_111 = n_63 := (by have q_n_63 := i_nn en_63 zn_63; have q2_n_63 := bn_63; have q_n_111 := i_nn en_111 zn_111; have q2_n_111 := bn_111; have q_f_120 := f_120; have q_f_121 := f_121; have q_f_122 := f_122; have q_f_123 := f_123; have q_p3 := p3; have q_n_75 := i_nn en_75 zn_75; have q2_n_75 := bn_75; have q_n_87 := i_nn en_87 zn_87; have q2_n_87 := bn_87; have q_n_99 := i_nn en_99 zn_99; have q2_n_99 := bn_99; have g_x3 := i_rg x3; omega)
  have f_125 : n_63 ≤ 24 := (by have q_n_63 := i_nn en_63 zn_63; have q2_n_63 := bn_63; have q_f_120 := f_120; have q_f_121 := f_121; have q_f_122 := f_122; have q_f_123 := f_123; have q_f_124 := f_124; have q_p3 := p3; have q_n_75 := i_nn en_75 zn_75; have q2_n_75 := bn_75; have q_n_87 := i_nn en_87 zn_87; have q2_n_87 := bn_87; have q_n_99 := i_nn en_99 zn_99; have q2_n_99 := bn_99; have q_n_111 := i_nn en_111 zn_111; have q2_n_111 := bn_111; have g_x3 := i_rg x3; omega)
  have f_126 : n_22 ≤ 24 := (by have q_n_22 := i_nn en_22 zn_22; have q2_n_22 := bn_22; have q_f_117 := f_117; have q_f_118 := f_118; have q_f_119 := f_119; have q_p2 := p2; have q_n_34 := i_nn en_34 zn_34; have q2_n_34 := bn_34; have q_n_46 := i_nn en_46 zn_46; have q2_n_46 := bn_46; have g_x2 := i_rg x2; omega)
  have hi_127 : invX10 g ws_112 h0 [.ref b1, .int 0, .int 0, .int 0, .int x2, .ref q_21, .ref q_33, .ref q_45, .int x3, .ref q_62, .ref q_74, .ref q_86, .ref q_98, .ref q_110, .int 0, .int 0, .int (-1), .int (-1)] := ⟨b1, (n_b1), (0), (0), (0), (x2), q_21, (n_22), q_33, (n_34), q_45, (n_46), (x3), q_62, (n_63), q_74, (n_75), q_86, (n_87), q_98, (n_99), q_110, (n_111), (0), (0), ((-1)), ((-1)), rfl, a_b1, s_b1, a_q_21, s_q_21, a_q_33, s_q_33, a_q_45, s_q_45, a_q_62, s_q_62, a_q_74, s_q_74, a_q_86, s_q_86, a_q_98, s_q_98, a_q_110, s_q_110, (Or.inl rfl), f_117, f_118, f_119, f_120, f_121, f_122, f_123, f_124, f_125, f_126, trivial⟩
  obtain ⟨ws_128, e_ws_128⟩ : ∃ z, z = ws_112.set k0 (h0, .inr (9, [.ref b1, .int 0, .int 0, .int 0, .int x2, .ref q_21, .ref q_33, .ref q_45, .int x3, .ref q_62, .ref q_74, .ref q_86, .ref q_98, .ref q_110, .int 0, .int 0, .int (-1), .int (-1)])) := ⟨_, rfl⟩
  have hP : va_P (gD g) cl0 ws_128 H := by rw [e_ws_128]; exact hP
  have hD : va_D A ws_128 := by rw [e_ws_128]; exact hD
  have E_129 : gE ws_112 ws_128 := gE_set e_ws_128 hk_0 (cw_n (fi := 13) (v := .ref q_110) rfl rfl)
  have hG : Good g ws_128 := GoodX.goodS (fi := 13) (v := .ref q_110) e_ws_128 hk_0 E_129 rfl hV9 hX (ivX10 hi_127)
  have Fr_130 : gF [(9, 13)] [] (some h0) ws_112 ws_128 := gF_put (fi := 13) (v := .ref q_110) e_ws_128 hk_0 rfl (by decide)
  have Gx_131 : gX k0 ws_112 ws_128 := gX_set e_ws_128 hk_0
  have pp_132 := Fr_130.pp
  have hkN := gset_self e_ws_128 hk_0
  have hk_0 := hkN
  have o_h0 := E_129.1 _ _ o_h0
  have a_b1 := E_129.1 _ _ a_b1
  have a_q_21 := E_129.1 _ _ a_q_21
  have a_q_33 := E_129.1 _ _ a_q_33
  have a_q_45 := E_129.1 _ _ a_q_45
  have a_q_62 := E_129.1 _ _ a_q_62
  have a_q_74 := E_129.1 _ _ a_q_74
  have a_q_86 := E_129.1 _ _ a_q_86
  have a_q_98 := E_129.1 _ _ a_q_98
  have a_q_110 := E_129.1 _ _ a_q_110
  refine W_led (fun hLd => ?_)
  have hcl : 0 + 1 + 1 + 1 + 1 + 1 + 1 + 1 + 1 + PC ws_128 ≤ PC ws + (8) := (by have q_p2 := p2; have q_p3 := p3; have q_n_22 := i_nn en_22 zn_22; have q2_n_22 := bn_22; have q_n_34 := i_nn en_34 zn_34; have q2_n_34 := bn_34; have q_n_46 := i_nn en_46 zn_46; have q2_n_46 := bn_46; have q_n_63 := i_nn en_63 zn_63; have q2_n_63 := bn_63; have q_n_75 := i_nn en_75 zn_75; have q2_n_75 := bn_75; have q_n_87 := i_nn en_87 zn_87; have q2_n_87 := bn_87; have q_n_99 := i_nn en_99 zn_99; have q2_n_99 := bn_99; have q_n_111 := i_nn en_111 zn_111; have q2_n_111 := bn_111; have q_f_117 := f_117; have q_f_118 := f_118; have q_f_119 := f_119; have q_f_120 := f_120; have q_f_121 := f_121; have q_f_122 := f_122; have q_f_123 := f_123; have q_f_124 := f_124; have q_f_125 := f_125; have q_f_126 := f_126; have g_x2 := i_rg x2; have g_x3 := i_rg x3; omega)
  have hsl : 0 + n_22 + n_34 + n_46 + n_63 + n_75 + n_87 + n_99 + n_111 + PS ws_128 ≤ PS ws + (3 * x2.toInt.toNat + 5 * x3.toInt.toNat) := (by have q_p2 := p2; have q_p3 := p3; have q_n_22 := i_nn en_22 zn_22; have q2_n_22 := bn_22; have q_n_34 := i_nn en_34 zn_34; have q2_n_34 := bn_34; have q_n_46 := i_nn en_46 zn_46; have q2_n_46 := bn_46; have q_n_63 := i_nn en_63 zn_63; have q2_n_63 := bn_63; have q_n_75 := i_nn en_75 zn_75; have q2_n_75 := bn_75; have q_n_87 := i_nn en_87 zn_87; have q2_n_87 := bn_87; have q_n_99 := i_nn en_99 zn_99; have q2_n_99 := bn_99; have q_n_111 := i_nn en_111 zn_111; have q2_n_111 := bn_111; have q_f_117 := f_117; have q_f_118 := f_118; have q_f_119 := f_119; have q_f_120 := f_120; have q_f_121 := f_121; have q_f_122 := f_122; have q_f_123 := f_123; have q_f_124 := f_124; have q_f_125 := f_125; have q_f_126 := f_126; have g_x2 := i_rg x2; have g_x3 := i_rg x3; omega)
  refine W.widen (k := (8)) (n := (3 * x2.toInt.toNat + 5 * x3.toInt.toNat)) (by omega) (by omega) ?_
  exact W.vret hx hb hr (fun t9 ht9 hW9 => ⟨⟨ws_128, rfl, (gP_of hD hk_0 (fun q90 e90 => by cases e90; exact (by have q_p3 := p3; have q_n_63 := i_nn en_63 zn_63; have q_n_75 := i_nn en_75 zn_75; have q_n_87 := i_nn en_87 zn_87; have q_n_99 := i_nn en_99 zn_99; have q_n_111 := i_nn en_111 zn_111; have q_f_120 := f_120; have q2_n_63 := bn_63; have q2_n_75 := bn_75; have q2_n_87 := bn_87; have q2_n_99 := bn_99; have q2_n_111 := bn_111; have q_f_121 := f_121; have q_f_122 := f_122; have q_f_123 := f_123; have q_f_124 := f_124; have q_f_125 := f_125; have g_x3 := i_rg x3; omega))), ⟨(E_2.tr (E_7.tr (E_12.tr (E_17.tr (E_24.tr (E_29.tr (E_36.tr (E_41.tr (E_48.tr (E_53.tr (E_58.tr (E_65.tr (E_70.tr (E_77.tr (E_82.tr (E_89.tr (E_94.tr (E_101.tr (E_106.tr (E_113.tr E_129)))))))))))))))))))), (Gx_4.tr (Gx_9.tr (Gx_14.tr (Gx_19.tr (Gx_27.tr (Gx_31.tr (Gx_39.tr (Gx_43.tr (Gx_51.tr (Gx_55.tr (Gx_60.tr (Gx_68.tr (Gx_72.tr (Gx_80.tr (Gx_84.tr (Gx_92.tr (Gx_96.tr (Gx_104.tr (Gx_108.tr (Gx_116.tr Gx_131)))))))))))))))))))), ((gF.tr (gF.mo (F' := [(9, 0), (9, 4), (9, 5), (9, 6), (9, 7), (9, 8), (9, 9), (9, 10), (9, 11), (9, 12), (9, 13), (9, 16), (9, 17)]) (C' := []) (S' := none) Fr_3 (by decide) (fun _ h => h) (Or.inl rfl)) (gF.tr (gF.mo (F' := [(9, 0), (9, 4), (9, 5), (9, 6), (9, 7), (9, 8), (9, 9), (9, 10), (9, 11), (9, 12), (9, 13), (9, 16), (9, 17)]) (C' := []) (S' := none) Fr_8 (by decide) (fun _ h => h) (Or.inl rfl)) (gF.tr (gF.mo (F' := [(9, 0), (9, 4), (9, 5), (9, 6), (9, 7), (9, 8), (9, 9), (9, 10), (9, 11), (9, 12), (9, 13), (9, 16), (9, 17)]) (C' := []) (S' := none) Fr_13 (by decide) (fun _ h => h) (Or.inl rfl)) (gF.tr (gF.mo (F' := [(9, 0), (9, 4), (9, 5), (9, 6), (9, 7), (9, 8), (9, 9), (9, 10), (9, 11), (9, 12), (9, 13), (9, 16), (9, 17)]) (C' := []) (S' := none) Fr_18 (by decide) (fun _ h => h) (Or.inl rfl)) (gF.tr (gF.mo (F' := [(9, 0), (9, 4), (9, 5), (9, 6), (9, 7), (9, 8), (9, 9), (9, 10), (9, 11), (9, 12), (9, 13), (9, 16), (9, 17)]) (C' := []) (S' := none) Fr_25 (fun _ h => absurd h List.not_mem_nil) (fun _ h => h) (Or.inr rfl)) (gF.tr (gF.mo (F' := [(9, 0), (9, 4), (9, 5), (9, 6), (9, 7), (9, 8), (9, 9), (9, 10), (9, 11), (9, 12), (9, 13), (9, 16), (9, 17)]) (C' := []) (S' := none) Fr_30 (by decide) (fun _ h => h) (Or.inl rfl)) (gF.tr (gF.mo (F' := [(9, 0), (9, 4), (9, 5), (9, 6), (9, 7), (9, 8), (9, 9), (9, 10), (9, 11), (9, 12), (9, 13), (9, 16), (9, 17)]) (C' := []) (S' := none) Fr_37 (fun _ h => absurd h List.not_mem_nil) (fun _ h => h) (Or.inr rfl)) (gF.tr (gF.mo (F' := [(9, 0), (9, 4), (9, 5), (9, 6), (9, 7), (9, 8), (9, 9), (9, 10), (9, 11), (9, 12), (9, 13), (9, 16), (9, 17)]) (C' := []) (S' := none) Fr_42 (by decide) (fun _ h => h) (Or.inl rfl)) (gF.tr (gF.mo (F' := [(9, 0), (9, 4), (9, 5), (9, 6), (9, 7), (9, 8), (9, 9), (9, 10), (9, 11), (9, 12), (9, 13), (9, 16), (9, 17)]) (C' := []) (S' := none) Fr_49 (fun _ h => absurd h List.not_mem_nil) (fun _ h => h) (Or.inr rfl)) (gF.tr (gF.mo (F' := [(9, 0), (9, 4), (9, 5), (9, 6), (9, 7), (9, 8), (9, 9), (9, 10), (9, 11), (9, 12), (9, 13), (9, 16), (9, 17)]) (C' := []) (S' := none) Fr_54 (by decide) (fun _ h => h) (Or.inl rfl)) (gF.tr (gF.mo (F' := [(9, 0), (9, 4), (9, 5), (9, 6), (9, 7), (9, 8), (9, 9), (9, 10), (9, 11), (9, 12), (9, 13), (9, 16), (9, 17)]) (C' := []) (S' := none) Fr_59 (by decide) (fun _ h => h) (Or.inl rfl)) (gF.tr (gF.mo (F' := [(9, 0), (9, 4), (9, 5), (9, 6), (9, 7), (9, 8), (9, 9), (9, 10), (9, 11), (9, 12), (9, 13), (9, 16), (9, 17)]) (C' := []) (S' := none) Fr_66 (fun _ h => absurd h List.not_mem_nil) (fun _ h => h) (Or.inr rfl)) (gF.tr (gF.mo (F' := [(9, 0), (9, 4), (9, 5), (9, 6), (9, 7), (9, 8), (9, 9), (9, 10), (9, 11), (9, 12), (9, 13), (9, 16), (9, 17)]) (C' := []) (S' := none) Fr_71 (by decide) (fun _ h => h) (Or.inl rfl)) (gF.tr (gF.mo (F' := [(9, 0), (9, 4), (9, 5), (9, 6), (9, 7), (9, 8), (9, 9), (9, 10), (9, 11), (9, 12), (9, 13), (9, 16), (9, 17)]) (C' := []) (S' := none) Fr_78 (fun _ h => absurd h List.not_mem_nil) (fun _ h => h) (Or.inr rfl)) (gF.tr (gF.mo (F' := [(9, 0), (9, 4), (9, 5), (9, 6), (9, 7), (9, 8), (9, 9), (9, 10), (9, 11), (9, 12), (9, 13), (9, 16), (9, 17)]) (C' := []) (S' := none) Fr_83 (by decide) (fun _ h => h) (Or.inl rfl)) (gF.tr (gF.mo (F' := [(9, 0), (9, 4), (9, 5), (9, 6), (9, 7), (9, 8), (9, 9), (9, 10), (9, 11), (9, 12), (9, 13), (9, 16), (9, 17)]) (C' := []) (S' := none) Fr_90 (fun _ h => absurd h List.not_mem_nil) (fun _ h => h) (Or.inr rfl)) (gF.tr (gF.mo (F' := [(9, 0), (9, 4), (9, 5), (9, 6), (9, 7), (9, 8), (9, 9), (9, 10), (9, 11), (9, 12), (9, 13), (9, 16), (9, 17)]) (C' := []) (S' := none) Fr_95 (by decide) (fun _ h => h) (Or.inl rfl)) (gF.tr (gF.mo (F' := [(9, 0), (9, 4), (9, 5), (9, 6), (9, 7), (9, 8), (9, 9), (9, 10), (9, 11), (9, 12), (9, 13), (9, 16), (9, 17)]) (C' := []) (S' := none) Fr_102 (fun _ h => absurd h List.not_mem_nil) (fun _ h => h) (Or.inr rfl)) (gF.tr (gF.mo (F' := [(9, 0), (9, 4), (9, 5), (9, 6), (9, 7), (9, 8), (9, 9), (9, 10), (9, 11), (9, 12), (9, 13), (9, 16), (9, 17)]) (C' := []) (S' := none) Fr_107 (by decide) (fun _ h => h) (Or.inl rfl)) (gF.tr (gF.mo (F' := [(9, 0), (9, 4), (9, 5), (9, 6), (9, 7), (9, 8), (9, 9), (9, 10), (9, 11), (9, 12), (9, 13), (9, 16), (9, 17)]) (C' := []) (S' := none) Fr_114 (fun _ h => absurd h List.not_mem_nil) (fun _ h => h) (Or.inr rfl)) (gF.mo (F' := [(9, 0), (9, 4), (9, 5), (9, 6), (9, 7), (9, 8), (9, 9), (9, 10), (9, 11), (9, 12), (9, 13), (9, 16), (9, 17)]) (C' := []) (S' := none) Fr_130 (by decide) (fun _ h => h) (Or.inl rfl))))))))))))))))))))))).2.1, hG, by rw [ht9]; exact hP, hD, _, _, by rw [ht9]; exact hLd, hcl, hsl⟩⟩, hS.F ht9⟩) hS.2.2 dX10_init_86
set_option maxHeartbeats 1000000 in
set_option maxRecDepth 100000 in
theorem m_X2_build_w (l : Launch) (g : Gm) (H0 : Heap) (ws : va_W) (h0 : Nat) (e9 : Int32) (hG : Good g ws) (o_h0 : gC ws h0 2) (f2_f : ∀ (k k2 b : Nat) (fs gs : List Value), ows ws k h0 2 fs → fs[0]? = some (.ref b) → ows ws k2 b 6 gs → ∀ c : Int32, gs[7]? = some (.int c) → ∀ d : Int32, gs[8]? = some (.int d) → ∀ e : Int32, gs[1]? = some (.int e) → 0 ≤ c.toInt ∧ c.toInt ≤ 24 ∧ 0 ≤ d.toInt ∧ d.toInt ≤ 24 ∧ e.toInt ≤ 131072) (f2_ge9 : ∀ (k k2 b : Nat) (fs gs : List Value), ows ws k h0 2 fs → fs[0]? = some (.ref b) → ows ws k2 b 6 gs → ∀ c : Int32, gs[1]? = some (.int c) → c.toInt = e9.toInt) : Met l yX2_build (wt yX2_build cX2_build 4 (some (.object "CodeFoundry$Unit"))) ({ frames := 4, cells := PC ws + (10), slots := PS ws + (210 + e9.toInt.toNat), locals := 89 }) (va_Pc [.ref h0] (st_H g H0 ws)) (va_Qq (fun (r : Option Nat) (u9 : va_W) => (∃ b, r = some b ∧ gC u9 b 9) ∧ (∀ b, r = some b → rwN u9 h0 b)) (gQ2 g [(6, 12), (6, 13), (6, 14), (9, 0), (9, 1), (9, 2), (9, 3), (9, 4), (9, 5), (9, 6), (9, 7), (9, 8), (9, 9), (9, 10), (9, 11), (9, 12), (9, 13), (9, 16), (9, 17)] [(9, 5), (9, 6), (9, 7), (9, 9), (9, 10), (9, 11), (9, 12)] none (va_A ws H0.size) ws H0 (10) (210 + e9.toInt.toNat)) (va_A ws H0.size)) (PC ws + (10)) (PS ws + (210 + e9.toInt.toNat)) (va_A ws H0.size) := by
  refine Met.ofW (cc := cX2_build) (maxL := 4) (ret := (some (.object "CodeFoundry$Unit"))) (by decide) rfl ?_
  intro p e s m args below meth c s₁ B hml hv
  obtain ⟨rfl, hH0, hsz, hP, hK, hD0, hex, hE⟩ := hv
  have hx := B.exec
  have hb := B.bytes
  have hr := B.returns
  have hts0 := atoms_spec (ws := wt yX2_build cX2_build 4 (some (.object "CodeFoundry$Unit"))) B.pre
  have hts : ∀ w ∈ tb, w.before _ s = true := fun w h => hts0 w (List.mem_cons_of_mem _ h)
  have hown : s.vm.findClass RX2 = some m.cls := findClass_of_methodNamed B.named
  subst hH0
  have hD := hD0.self (sz := s.heap.size)
  generalize hAe : va_A ws s.heap.size = A at hD hE ⊢
  have hA : ∀ q : Nat, s.heap.size ≤ q → A q := fun q h => by rw [← hAe]; exact Or.inr h
  have hS : va_S A s.heap s.heap [] := va_S.rf
  have hl := lv_entry ([.ref h0]) (n := 4) (Nat.le_of_ble_eq_true rfl)
  rw [lg_entry_eq]
  generalize (lg_sl ([.ref h0]) ++ List.replicate (4 - (lg_sl ([.ref h0])).length) Slot.unset).toArray = ls at hl ⊢
  have hl : lv_has ls 4 [(0, .ref h0)] := hl
  obtain ⟨k_1, fs9, hk_1⟩ := gC_of o_h0
  obtain ⟨r0_1, c1_1, c2_1, c3_1, c4_1, c5_1, c6_1, r7_1, n7_1, c8_1, c9_1, l10_1, c11_1, rfl, o_r0_1, a_r7_1, f2_1, f3_1, f4_1, -⟩ := (hG.1 _ _ _ _ hk_1).hX2 rfl
  obtain ⟨k_2, fs9, hk_2⟩ := gC_of o_r0_1
  obtain ⟨r0_2, n0_2, c1_2, c2_2, c3_2, r4_2, n4_2, c5_2, c6_2, c7_2, c8_2, r9_2, n9_2, r10_2, n10_2, r11_2, n11_2, c12_2, c13_2, c14_2, c15_2, c16_2, rfl, a_r0_2, f1_2, a_r4_2, f3_2, a_r9_2, f5_2, a_r10_2, f7_2, a_r11_2, f9_2, f10_2, f11_2, f12_2, f13_2, f14_2, -⟩ := (hG.1 _ _ _ _ hk_2).hX7 rfl
  have fq2_f := f2_f _ _ _ _ _ hk_1 rfl hk_2 _ rfl _ rfl _ rfl
  have fq2_ge9 := f2_ge9 _ _ _ _ _ hk_1 rfl hk_2 _ rfl
  refine va_new (ci := 9) (fs := dfX10) (C := RX10) (T := TX10) (N := 18) hx hb hts inX10 tyX10 tyX10_ok hown (hts _ kw_640) (hts _ kw_641) (hts _ kw_34) hK hP hD hS hA rfl dfX10_ok (show 0 + 1 ≤ PC ws + (10) from (by have e0 : (0 : Int32).toInt = 0 := (by decide); omega)) (show 0 + 18 ≤ PS ws + (210 + e9.toInt.toNat) from (by have e0 : (0 : Int32).toInt = 0 := (by decide); omega)) dX2_build_0 (fun q_3 H hP9 hD9 hS => ?_)
  have hP := (P_split hP9).1
  have hD := (D_split hD9).1
  have hN : pend A g ws q_3 9 dfX10 H := ⟨(P_split hP9).2, (D_split hD9).2⟩
  clear hP9 hD9
  refine lv_dup hx hb dX2_build_3 rfl ?_
  refine lv_aload_n hx hb dX2_build_4 rfl (lv_at hl 0 rfl) ?_
  refine va_get (D := gD g) (ci := 2) (v := .ref r0_1) (C := RX2) (T := TX2) (N := 12) hx hb hts inX2 hown hK hP k_1 hk_1 rfl 0 (by decide) (hts _ kw_632) (fun _ h9 => h9) rfl dX2_build_5 ?_
  refine va_get (D := gD g) (ci := 6) (v := .ref r0_2) (C := RX7) (T := TX7) (N := 17) hx hb hts inX7 hown hK hP k_2 hk_2 rfl 0 (by decide) (hts _ kw_642) (fun _ h9 => h9) rfl dX2_build_8 ?_
  refine lv_aload_n hx hb dX2_build_11 rfl (lv_at hl 0 rfl) ?_
  refine va_get (D := gD g) (ci := 2) (v := .ref r0_1) (C := RX2) (T := TX2) (N := 12) hx hb hts inX2 hown hK hP k_1 hk_1 rfl 0 (by decide) (hts _ kw_632) (fun _ h9 => h9) rfl dX2_build_12 ?_
  refine va_get (D := gD g) (ci := 6) (v := .int c1_2) (C := RX7) (T := TX7) (N := 17) hx hb hts inX7 hown hK hP k_2 hk_2 rfl 1 (by decide) (hts _ kw_643) (fun _ h9 => h9) rfl dX2_build_15 ?_
  have hFc := gfree hD hS hA
  refine W_led (fun hL0 => ?_)
  refine va_callq (va_runS (As := [.ref r0_2, .int c1_2]) (rest := [.ref q_3, .ref q_3]) ⟨hx, hb, hml, hown, hts⟩ (m_J7_copyOf_9075b_x l g H ws r0_2 (n0_2) (c1_2) none hG a_r0_2 f1_2 (by have q_f10_2 := f10_2; have q_fq2_f := fq2_f; have q_fq2_ge9 := fq2_ge9; have g_c1_2 := i_rg c1_2; have g_c7_2 := i_rg c7_2; have g_c8_2 := i_rg c8_2; omega) (by have q_f10_2 := f10_2; have q_fq2_f := fq2_f; have q_fq2_ge9 := fq2_ge9; have g_c1_2 := i_rg c1_2; have g_c7_2 := i_rg c7_2; have g_c8_2 := i_rg c8_2; omega)) (va_cwS 2 hts (gd_S kw_644 kw_1741 kw_1723 kw_1740) rfl rfl rfl (by decide +kernel) ⟨Nat.le_of_ble_eq_true rfl, Nat.le_of_ble_eq_true rfl⟩) ⟨gblindH, fun U hU hW9 => gmkH hU hW9 hP hK hD hex hE hS hFc⟩ rfl rfl hl.1 rfl (lv_room (Nat.le_of_ble_eq_true rfl)) dX2_build_18 ⟨(show 0 + 1 + (1) ≤ PC ws + (10) from (by have e1 : (1 : Int32).toInt = 1 := (by decide); have q_f10_2 := f10_2; have q_fq2_f := fq2_f; have q_fq2_ge9 := fq2_ge9; have g_c1_2 := i_rg c1_2; have g_c7_2 := i_rg c7_2; have g_c8_2 := i_rg c8_2; omega)), (show 0 + 18 + (c1_2.toInt.toNat) ≤ PS ws + (210 + e9.toInt.toNat) from (by have e1 : (1 : Int32).toInt = 1 := (by decide); have q_f10_2 := f10_2; have q_fq2_f := fq2_f; have q_fq2_ge9 := fq2_ge9; have g_c1_2 := i_rg c1_2; have g_c7_2 := i_rg c7_2; have g_c8_2 := i_rg c8_2; omega))⟩) hS (fun q _ h => hFc q h) hFc (fun r_4 ws_5 t9 H1 locs ht9 hvm9 hw9 hB9 hz9 hk9 hS => ?_)
  obtain ⟨E_6, Fr_7, hG, hP1, hD1, dc_8, ds_9, hLd, hdc_8, hds_9⟩ := hB9
  rw [ht9] at hLd
  refine W_tight (hL0.tr hLd).1 (hL0.tr hLd).2.1 ?_
  clear hL0 hLd
  have hP : va_P (gD g) cl0 ws_5 H1 := by rw [← ht9]; exact hP1
  have hD : va_D A ws_5 := hD1.weaken (fun _ _ _ h => hFc _ h)
  have hN := pend_call hN hk9 hD1
  have o_r_4 := hw9
  clear hP1 hD1 hz9 hk9 hvm9 ht9 hw9
  generalize H1 = H at hP hS hN ⊢
  have aa_10 := a_r7_1
  have aa_11 := a_r0_2
  have aa_12 := a_r4_2
  have aa_13 := a_r9_2
  have aa_14 := a_r10_2
  have aa_15 := a_r11_2
  have o_h0 := E_6.1 _ _ o_h0
  obtain ⟨b_16, n_17, rfl, a_b_16, s_b_16, fr_b_16, h_b_16⟩ := o_r_4
  refine lv_aload_n hx hb dX2_build_21 rfl (lv_at hl 0 rfl) ?_
  obtain ⟨fs9, hk_18, hq_18⟩ := ((gF.a (F' := []) Fr_7 (fun _ h => h))) _ _ _ hk_1
  obtain ⟨r0_18, c1_18, c2_18, c3_18, c4_18, c5_18, c6_18, r7_18, n7_18, c8_18, c9_18, l10_18, c11_18, rfl, o_r0_18, a_r7_18, f2_18, f3_18, f4_18, -⟩ := (hG.1 _ _ _ _ hk_18).hX2 rfl
  obtain rfl := fe_r (hq_18 0 (by decide))
  have o_r0_1 := o_r0_18
  refine va_get (D := gD g) (ci := 2) (v := .ref r0_1) (C := RX2) (T := TX2) (N := 12) hx hb hts inX2 hown hK hP k_1 hk_18 rfl 0 (by decide) (hts _ kw_632) (fun _ h9 => h9) rfl dX2_build_22 ?_
  obtain ⟨fs9, hk_19, hq_19⟩ := ((gF.a (F' := []) Fr_7 (fun _ h => h))) _ _ _ hk_2
  obtain ⟨r0_19, n0_19, c1_19, c2_19, c3_19, r4_19, n4_19, c5_19, c6_19, c7_19, c8_19, r9_19, n9_19, r10_19, n10_19, r11_19, n11_19, c12_19, c13_19, c14_19, c15_19, c16_19, rfl, a_r0_19, f1_19, a_r4_19, f3_19, a_r9_19, f5_19, a_r10_19, f7_19, a_r11_19, f9_19, f10_19, f11_19, f12_19, f13_19, f14_19, -⟩ := (hG.1 _ _ _ _ hk_19).hX7 rfl
  obtain rfl := fe_r (hq_19 0 (by decide))
  have hn9 := gI_n hD ((E_6).1 _ _ aa_11) a_r0_19
  subst hn9
  have a_r0_2 := a_r0_19
  obtain rfl := fe_i (hq_19 1 (by decide))
  obtain rfl := fe_i (hq_19 5 (by decide))
  obtain rfl := fe_i (hq_19 6 (by decide))
  obtain rfl := fe_i (hq_19 7 (by decide))
  obtain rfl := fe_i (hq_19 8 (by decide))
  obtain rfl := fe_i (hq_19 12 (by decide))
  obtain rfl := fe_i (hq_19 14 (by decide))
  refine va_get (D := gD g) (ci := 6) (v := .int c7_2) (C := RX7) (T := TX7) (N := 17) hx hb hts inX7 hown hK hP k_2 hk_19 rfl 7 (by decide) (hts _ kw_645) (fun _ h9 => h9) rfl dX2_build_25 ?_
  refine lv_aload_n hx hb dX2_build_28 rfl (lv_at hl 0 rfl) ?_
  refine va_get (D := gD g) (ci := 2) (v := .ref r0_1) (C := RX2) (T := TX2) (N := 12) hx hb hts inX2 hown hK hP k_1 hk_18 rfl 0 (by decide) (hts _ kw_632) (fun _ h9 => h9) rfl dX2_build_29 ?_
  refine va_get (D := gD g) (ci := 6) (v := .int c8_2) (C := RX7) (T := TX7) (N := 17) hx hb hts inX7 hown hK hP k_2 hk_19 rfl 8 (by decide) (hts _ kw_646) (fun _ h9 => h9) rfl dX2_build_32 ?_
  have hP := va_P.app hP hN.1
  have hD0 := hD
  have hD := D_join (x := (q_3, .inr (9, dfX10))) hD hN.2.1 hN.2.2
  have hFc := gfree hD hS hA
  refine W_led (fun hL0 => ?_)
  refine va_callv (va_runI (As := [.ref b_16, .int c7_2, .int c8_2]) (rest := [.ref q_3]) ⟨hx, hb, hml, hown, hts⟩ (m_X10_init_w l g H (ws_5 ++ [(q_3, .inr (9, dfX10))]) ws_5.length q_3 b_16 (n_17) (c7_2) (c8_2) (hG.newX (by simp [dfX10]) rfl) get_new (gE_push.1 _ _ a_b_16) s_b_16 (frs_pushO (by simp [dfX10]) fr_b_16) (by have q_fq2_f := fq2_f; have q_f10_2 := f10_2; have q_fq2_ge9 := fq2_ge9; have q_b_16 := h_b_16; have q_s_b_16 := s_b_16; have g_c1_2 := i_rg c1_2; have g_c7_2 := i_rg c7_2; have g_c8_2 := i_rg c8_2; omega) (by have q_fq2_f := fq2_f; have q_f10_2 := f10_2; have q_fq2_ge9 := fq2_ge9; have q_b_16 := h_b_16; have q_s_b_16 := s_b_16; have g_c1_2 := i_rg c1_2; have g_c7_2 := i_rg c7_2; have g_c8_2 := i_rg c8_2; omega)) (cwI 3 hts (gd_I kw_44) rfl rfl rfl (hts _ kw_34) (hts _ kw_647) (hts _ kw_45) rfl (by decide +kernel) ⟨Nat.le_of_ble_eq_true rfl, Nat.le_of_ble_eq_true rfl⟩) ⟨gblindH, fun U hU hW9 => gmkH hU hW9 hP hK hD hex hE hS hFc⟩ rfl rfl hl.1 rfl (lv_room (Nat.le_of_ble_eq_true rfl)) dX2_build_35 ⟨(show 0 + 1 + dc_8 + (8) ≤ PC ws + (10) from (by have e8 : (8 : Int32).toInt = 8 := (by decide); have q_f10_2 := f10_2; have q_fq2_f := fq2_f; have q_fq2_ge9 := fq2_ge9; have q_b_16 := h_b_16; have q_s_b_16 := s_b_16; have g_c1_2 := i_rg c1_2; have g_c7_2 := i_rg c7_2; have g_c8_2 := i_rg c8_2; omega)), (show 0 + 18 + ds_9 + (3 * c7_2.toInt.toNat + 5 * c8_2.toInt.toNat) ≤ PS ws + (210 + e9.toInt.toNat) from (by have e8 : (8 : Int32).toInt = 8 := (by decide); have q_f10_2 := f10_2; have q_fq2_f := fq2_f; have q_fq2_ge9 := fq2_ge9; have q_b_16 := h_b_16; have q_s_b_16 := s_b_16; have g_c1_2 := i_rg c1_2; have g_c7_2 := i_rg c7_2; have g_c8_2 := i_rg c8_2; omega))⟩) hS (fun q _ h => hFc q h) hFc (fun  ws_20 t9 H1 locs ht9 hvm9 hw9 hB9 hz9 hk9 hS => ?_)
  obtain ⟨E9, gx9, pm9, hG, hP1, hD1, dc_23, ds_24, hLd, hdc_23, hds_24⟩ := hB9
  have px9 : pM ws_5 (ws_5 ++ [(q_3, .inr (9, dfX10))]) := pM_ob (by intro j h; simp [pK] at h)
  have E_21 : gE ws_5 ws_20 := gE_push.tr E9
  have Fr_22 : gF [] [] none ws_5 ws_20 := gF_new gx9 pm9 px9
  have pq9 := px9.pp
  have hdc_23 : dc_23 + PC ws_20 ≤ PC ws_5 + (8) := by omega
  have hds_24 : ds_24 + PS ws_20 ≤ PS ws_5 + (3 * c7_2.toInt.toNat + 5 * c8_2.toInt.toNat) := by omega
  rw [ht9] at hLd
  refine W_tight (hL0.tr hLd).1 (hL0.tr hLd).2.1 ?_
  clear hL0 hLd pq9
  have hP : va_P (gD g) cl0 ws_20 H1 := by rw [← ht9]; exact hP1
  have hD : va_D A ws_20 := hD1.weaken (fun _ _ _ h => hFc _ h)
  have o_q_3 : gC ws_20 q_3 9 := E9.1 _ _ gS_new
  have kf_25 := hw9
  clear hP1 hD1 hD0 hN E9 gx9 pm9 px9 hz9 hk9 hvm9 ht9 hw9
  generalize H1 = H at hP hS ⊢
  have aa_26 := a_r7_18
  have aa_27 := a_r0_2
  have aa_28 := a_r4_19
  have aa_29 := a_r9_19
  have aa_30 := a_r10_19
  have aa_31 := a_r11_19
  have o_h0 := E_21.1 _ _ o_h0
  obtain ⟨k_32, fs9, hk_32⟩ := gC_of o_q_3
  obtain ⟨r0_32, n0_32, c1_32, c2_32, c3_32, c4_32, r5_32, n5_32, r6_32, n6_32, r7_32, n7_32, c8_32, r9_32, n9_32, r10_32, n10_32, r11_32, n11_32, r12_32, n12_32, r13_32, n13_32, c14_32, c15_32, c16_32, c17_32, rfl, a_r0_32, f1_32, a_r5_32, f3_32, a_r6_32, f5_32, a_r7_32, f7_32, a_r9_32, f9_32, a_r10_32, f11_32, a_r11_32, f13_32, a_r12_32, f15_32, a_r13_32, f17_32, hz_c15_32, f19_32, f20_32, f21_32, f22_32, f23_32, f24_32, f25_32, f26_32, f27_32, f28_32, -⟩ := (hG.1 _ _ _ _ hk_32).hX10 rfl
  have kq_33 := kf_25 _ _ _ hk_32 _ rfl
  refine lv_astore_n (lv' := [(1, .ref q_3), (0, .ref h0)]) hx hb dX2_build_38 rfl hl (by decide) rfl (fun ls hl => ?_)
  refine lv_aload_n hx hb dX2_build_39 rfl (lv_at hl 0 rfl) ?_
  refine lv_aload_n hx hb dX2_build_40 rfl (lv_at hl 1 rfl) ?_
  obtain ⟨fs9, hk_34, hq_34⟩ := ((gF.a (F' := []) Fr_22 (fun _ h => h))) _ _ _ hk_18
  obtain ⟨r0_34, c1_34, c2_34, c3_34, c4_34, c5_34, c6_34, r7_34, n7_34, c8_34, c9_34, l10_34, c11_34, rfl, o_r0_34, a_r7_34, f2_34, f3_34, f4_34, -⟩ := (hG.1 _ _ _ _ hk_34).hX2 rfl
  obtain rfl := fe_r (hq_34 0 (by decide))
  have o_r0_1 := o_r0_34
  refine va_get (D := gD g) (ci := 2) (v := .ref r0_1) (C := RX2) (T := TX2) (N := 12) hx hb hts inX2 hown hK hP k_1 hk_34 rfl 0 (by decide) (hts _ kw_632) (fun _ h9 => h9) rfl dX2_build_41 ?_
  obtain ⟨fs9, hk_35, hq_35⟩ := ((gF.a (F' := []) Fr_22 (fun _ h => h))) _ _ _ hk_19
  obtain ⟨r0_35, n0_35, c1_35, c2_35, c3_35, r4_35, n4_35, c5_35, c6_35, c7_35, c8_35, r9_35, n9_35, r10_35, n10_35, r11_35, n11_35, c12_35, c13_35, c14_35, c15_35, c16_35, rfl, a_r0_35, f1_35, a_r4_35, f3_35, a_r9_35, f5_35, a_r10_35, f7_35, a_r11_35, f9_35, f10_35, f11_35, f12_35, f13_35, f14_35, -⟩ := (hG.1 _ _ _ _ hk_35).hX7 rfl
  obtain rfl := fe_r (hq_35 0 (by decide))
  have hn9 := gI_n hD ((E_21).1 _ _ aa_27) a_r0_35
  subst hn9
  have a_r0_2 := a_r0_35
  obtain rfl := fe_i (hq_35 1 (by decide))
  obtain rfl := fe_i (hq_35 5 (by decide))
  obtain rfl := fe_i (hq_35 6 (by decide))
  obtain rfl := fe_i (hq_35 7 (by decide))
  obtain rfl := fe_i (hq_35 8 (by decide))
  obtain rfl := fe_i (hq_35 12 (by decide))
  obtain rfl := fe_i (hq_35 14 (by decide))
  refine va_get (D := gD g) (ci := 6) (v := .int c5_2) (C := RX7) (T := TX7) (N := 17) hx hb hts inX7 hown hK hP k_2 hk_35 rfl 5 (by decide) (hts _ kw_648) (fun _ h9 => h9) rfl dX2_build_44 ?_
  have hV9 : okv ws_20 9 1 (.int c5_2) := okv_i
  refine va_put (D := gD g) (ci := 9) (v := .int c5_2) (ty := .int) (C := RX10) (T := TX10) (N := 18) hx hb hts inX10 tyX10 tyX10_ok nmX10 hown hK hP hD hS k_32 hk_32 rfl 1 (by decide) (hts _ kw_649) (fun _ h9 => h9) rfl (by decide +kernel) rfl rfl (Nat.le_of_ble_eq_true rfl) dX2_build_47 (fun H locs hP hD hS => ?_)
  have hi_36 : invX10 g ws_20 q_3 [.ref r0_32, .int c5_2, .int c2_32, .int c3_32, .int c4_32, .ref r5_32, .ref r6_32, .ref r7_32, .int c8_32, .ref r9_32, .ref r10_32, .ref r11_32, .ref r12_32, .ref r13_32, .int c14_32, .int c15_32, .int c16_32, .int c17_32] := ⟨r0_32, (n0_32), (c5_2), (c2_32), (c3_32), (c4_32), r5_32, (n5_32), r6_32, (n6_32), r7_32, (n7_32), (c8_32), r9_32, (n9_32), r10_32, (n10_32), r11_32, (n11_32), r12_32, (n12_32), r13_32, (n13_32), (c14_32), (c15_32), (c16_32), (c17_32), rfl, a_r0_32, f1_32, a_r5_32, f3_32, a_r6_32, f5_32, a_r7_32, f7_32, a_r9_32, f9_32, a_r10_32, f11_32, a_r11_32, f13_32, a_r12_32, f15_32, a_r13_32, f17_32, hz_c15_32, f19_32, f20_32, f21_32, f22_32, f23_32, f24_32, f25_32, f26_32, f27_32, f28_32, trivial⟩
  obtain ⟨ws_37, e_ws_37⟩ : ∃ z, z = ws_20.set k_32 (q_3, .inr (9, [.ref r0_32, .int c5_2, .int c2_32, .int c3_32, .int c4_32, .ref r5_32, .ref r6_32, .ref r7_32, .int c8_32, .ref r9_32, .ref r10_32, .ref r11_32, .ref r12_32, .ref r13_32, .int c14_32, .int c15_32, .int c16_32, .int c17_32])) := ⟨_, rfl⟩
  have hP : va_P (gD g) cl0 ws_37 H := by rw [e_ws_37]; exact hP
  have hD : va_D A ws_37 := by rw [e_ws_37]; exact hD
  have E_38 : gE ws_20 ws_37 := gE_set e_ws_37 hk_32 (cw_o (fi := 1) (v := .int c5_2) rfl (by decide))
  have hG : Good g ws_37 := Good_set (fi := 1) (v := .int c5_2) e_ws_37 hk_32 E_38 rfl hV9 hG (ivX10 hi_36)
  have Fr_39 : gF [(9, 1)] [] (some q_3) ws_20 ws_37 := gF_put (fi := 1) (v := .int c5_2) e_ws_37 hk_32 rfl (by decide)
  have pp_40 := Fr_39.pp
  have hkN := gset_self e_ws_37 hk_32
  have hk_34 := gset_ob e_ws_37 hk_32 hk_34 (by decide)
  have hk_35 := gset_ob e_ws_37 hk_32 hk_35 (by decide)
  have hk_32 := hkN
  have o_h0 := E_38.1 _ _ o_h0
  have o_q_3 := E_38.1 _ _ o_q_3
  have a_r0_32 := E_38.1 _ _ a_r0_32
  have a_r5_32 := E_38.1 _ _ a_r5_32
  have a_r6_32 := E_38.1 _ _ a_r6_32
  have a_r7_32 := E_38.1 _ _ a_r7_32
  have a_r9_32 := E_38.1 _ _ a_r9_32
  have a_r10_32 := E_38.1 _ _ a_r10_32
  have a_r11_32 := E_38.1 _ _ a_r11_32
  have a_r12_32 := E_38.1 _ _ a_r12_32
  have a_r13_32 := E_38.1 _ _ a_r13_32
  have a_r7_34 := E_38.1 _ _ a_r7_34
  have o_r0_1 := E_38.1 _ _ o_r0_1
  have a_r4_35 := E_38.1 _ _ a_r4_35
  have a_r9_35 := E_38.1 _ _ a_r9_35
  have a_r10_35 := E_38.1 _ _ a_r10_35
  have a_r11_35 := E_38.1 _ _ a_r11_35
  have a_r0_2 := E_38.1 _ _ a_r0_2
  refine lv_aload_n hx hb dX2_build_50 rfl (lv_at hl 0 rfl) ?_
  refine lv_aload_n hx hb dX2_build_51 rfl (lv_at hl 1 rfl) ?_
  refine va_get (D := gD g) (ci := 2) (v := .ref r0_1) (C := RX2) (T := TX2) (N := 12) hx hb hts inX2 hown hK hP k_1 hk_34 rfl 0 (by decide) (hts _ kw_632) (fun _ h9 => h9) rfl dX2_build_52 ?_
  refine lv_aload_n hx hb dX2_build_55 rfl (lv_at hl 1 rfl) ?_
  refine va_get (D := gD g) (ci := 2) (v := .ref r0_1) (C := RX2) (T := TX2) (N := 12) hx hb hts inX2 hown hK hP k_1 hk_34 rfl 0 (by decide) (hts _ kw_632) (fun _ h9 => h9) rfl dX2_build_56 ?_
  refine lv_aload_n hx hb dX2_build_59 rfl (lv_at hl 1 rfl) ?_
  refine va_get (D := gD g) (ci := 2) (v := .ref r0_1) (C := RX2) (T := TX2) (N := 12) hx hb hts inX2 hown hK hP k_1 hk_34 rfl 0 (by decide) (hts _ kw_632) (fun _ h9 => h9) rfl dX2_build_60 ?_
  refine lv_aload_n hx hb dX2_build_63 rfl (lv_at hl 1 rfl) ?_
  refine va_get (D := gD g) (ci := 2) (v := .ref r0_1) (C := RX2) (T := TX2) (N := 12) hx hb hts inX2 hown hK hP k_1 hk_34 rfl 0 (by decide) (hts _ kw_632) (fun _ h9 => h9) rfl dX2_build_64 ?_
  refine va_get (D := gD g) (ci := 6) (v := .int c6_2) (C := RX7) (T := TX7) (N := 17) hx hb hts inX7 hown hK hP k_2 hk_35 rfl 6 (by decide) (hts _ kw_650) (fun _ h9 => h9) rfl dX2_build_67 ?_
  refine lv_iconst (v := 2) hx hb dX2_build_70 (by decide) ?_
  refine lv_iadd hx hb dX2_build_71 ?_
  refine lv_topi (fun z_41 ez_41 => ?_)
  have hFc := gfree hD hS hA
  refine va_calli (va_runV (As := [.int z_41]) (rest := [.ref r0_1, .ref r0_1, .ref q_3]) ⟨hx, hb, hml, hown, hts⟩ (m_X7_u2_x l g H.size ws_37 r0_1 (z_41) hG o_r0_1) (cwV 1 hts (gd_V kw_651 kw_1450 kw_1451 kw_710 kw_1449) rfl rfl rfl (by decide +kernel) ⟨Nat.le_of_ble_eq_true rfl, Nat.le_of_ble_eq_true rfl⟩) ⟨gblind, va_recv hK hP (ci := 6) (q0 := k_2) rfl hk_35, fun U hU hW9 => gmk hU hW9 hP hK hD hex hE hS hFc⟩ rfl rfl hl.1 rfl (lv_room (Nat.le_of_ble_eq_true rfl)) dX2_build_72 ⟨(show 0 + 1 + dc_8 + dc_23 + 0 ≤ PC ws + (10) from (by have q_f10_2 := f10_2; have q_fq2_f := fq2_f; have q_fq2_ge9 := fq2_ge9; have q_b_16 := h_b_16; have q_kq_33 := kq_33; have q_s_b_16 := s_b_16; have q_f22_32 := f22_32; have q_f9_32 := f9_32; have q_f23_32 := f23_32; have q_f24_32 := f24_32; have q_f25_32 := f25_32; have q_f26_32 := f26_32; have q_f27_32 := f27_32; have q_f11_32 := f11_32; have q_f13_32 := f13_32; have q_f15_32 := f15_32; have q_f17_32 := f17_32; have g_c1_2 := i_rg c1_2; have g_c7_2 := i_rg c7_2; have g_c8_2 := i_rg c8_2; have g_c8_32 := i_rg c8_32; omega)), (show 0 + 18 + ds_9 + ds_24 + 0 ≤ PS ws + (210 + e9.toInt.toNat) from (by have q_f10_2 := f10_2; have q_fq2_f := fq2_f; have q_fq2_ge9 := fq2_ge9; have q_b_16 := h_b_16; have q_kq_33 := kq_33; have q_s_b_16 := s_b_16; have q_f22_32 := f22_32; have q_f9_32 := f9_32; have q_f23_32 := f23_32; have q_f24_32 := f24_32; have q_f25_32 := f25_32; have q_f26_32 := f26_32; have q_f27_32 := f27_32; have q_f11_32 := f11_32; have q_f13_32 := f13_32; have q_f15_32 := f15_32; have q_f17_32 := f17_32; have g_c1_2 := i_rg c1_2; have g_c7_2 := i_rg c7_2; have g_c8_2 := i_rg c8_2; have g_c8_32 := i_rg c8_32; omega))⟩) hS (fun q _ h => hFc q h) hFc (fun r_42 u9 t9 H1 locs ht9 hvm9 hw9 hB9 hz9 hk9 hS => ?_)
  have hP : va_P (gD g) cl0 ws_37 H1 := by rw [← ht9]; exact hB9.1
  obtain ⟨hw9, xp_43⟩ := hw9
  have h_r_42 := hw9
  clear hB9 hz9 hk9 hvm9 ht9 hw9
  generalize H1 = H at hP hS ⊢
  have hFc := gfree hD hS hA
  refine va_calli (va_runV (As := [.int r_42]) (rest := [.ref r0_1, .ref q_3]) ⟨hx, hb, hml, hown, hts⟩ (m_X7_firstOf l g H.size ws_37 r0_1 (r_42) hG o_r0_1) (cwV 1 hts (gd_V kw_652 kw_1326 kw_1327 kw_710 kw_1325) rfl rfl rfl (by decide +kernel) ⟨Nat.le_of_ble_eq_true rfl, Nat.le_of_ble_eq_true rfl⟩) ⟨gblind, va_recv hK hP (ci := 6) (q0 := k_2) rfl hk_35, fun U hU hW9 => gmk hU hW9 hP hK hD hex hE hS hFc⟩ rfl rfl hl.1 rfl (lv_room (Nat.le_of_ble_eq_true rfl)) dX2_build_75 ⟨(show 0 + 1 + dc_8 + dc_23 + 0 ≤ PC ws + (10) from (by have q_f10_2 := f10_2; have q_fq2_f := fq2_f; have q_fq2_ge9 := fq2_ge9; have q_b_16 := h_b_16; have q_kq_33 := kq_33; have q_s_b_16 := s_b_16; have q_f22_32 := f22_32; have q_f9_32 := f9_32; have q_f23_32 := f23_32; have q_f24_32 := f24_32; have q_f25_32 := f25_32; have q_f26_32 := f26_32; have q_f27_32 := f27_32; have q_f11_32 := f11_32; have q_f13_32 := f13_32; have q_f15_32 := f15_32; have q_f17_32 := f17_32; have g_c1_2 := i_rg c1_2; have g_c7_2 := i_rg c7_2; have g_c8_2 := i_rg c8_2; have g_c8_32 := i_rg c8_32; omega)), (show 0 + 18 + ds_9 + ds_24 + 0 ≤ PS ws + (210 + e9.toInt.toNat) from (by have q_f10_2 := f10_2; have q_fq2_f := fq2_f; have q_fq2_ge9 := fq2_ge9; have q_b_16 := h_b_16; have q_kq_33 := kq_33; have q_s_b_16 := s_b_16; have q_f22_32 := f22_32; have q_f9_32 := f9_32; have q_f23_32 := f23_32; have q_f24_32 := f24_32; have q_f25_32 := f25_32; have q_f26_32 := f26_32; have q_f27_32 := f27_32; have q_f11_32 := f11_32; have q_f13_32 := f13_32; have q_f15_32 := f15_32; have q_f17_32 := f17_32; have g_c1_2 := i_rg c1_2; have g_c7_2 := i_rg c7_2; have g_c8_2 := i_rg c8_2; have g_c8_32 := i_rg c8_32; omega))⟩) hS (fun q _ h => hFc q h) hFc (fun r_44 u9 t9 H1 locs ht9 hvm9 hw9 hB9 hz9 hk9 hS => ?_)
  have hP : va_P (gD g) cl0 ws_37 H1 := by rw [← ht9]; exact hB9.1
  have h_r_44 := hw9
  clear hB9 hz9 hk9 hvm9 ht9 hw9
  generalize H1 = H at hP hS ⊢
  have hFc := gfree hD hS hA
  refine va_calli (va_runV (As := [.int r_44]) (rest := [.ref q_3]) ⟨hx, hb, hml, hown, hts⟩ (m_X7_entryAt l g H.size ws_37 r0_1 (r_44) hG o_r0_1) (cwV 1 hts (gd_V kw_633 kw_1298 kw_1299 kw_710 kw_1297) rfl rfl rfl (by decide +kernel) ⟨Nat.le_of_ble_eq_true rfl, Nat.le_of_ble_eq_true rfl⟩) ⟨gblind, va_recv hK hP (ci := 6) (q0 := k_2) rfl hk_35, fun U hU hW9 => gmk hU hW9 hP hK hD hex hE hS hFc⟩ rfl rfl hl.1 rfl (lv_room (Nat.le_of_ble_eq_true rfl)) dX2_build_78 ⟨(show 0 + 1 + dc_8 + dc_23 + 0 ≤ PC ws + (10) from (by have q_f10_2 := f10_2; have q_fq2_f := fq2_f; have q_fq2_ge9 := fq2_ge9; have q_b_16 := h_b_16; have q_kq_33 := kq_33; have q_s_b_16 := s_b_16; have q_f22_32 := f22_32; have q_f9_32 := f9_32; have q_f23_32 := f23_32; have q_f24_32 := f24_32; have q_f25_32 := f25_32; have q_f26_32 := f26_32; have q_f27_32 := f27_32; have q_f11_32 := f11_32; have q_f13_32 := f13_32; have q_f15_32 := f15_32; have q_f17_32 := f17_32; have g_c1_2 := i_rg c1_2; have g_c7_2 := i_rg c7_2; have g_c8_2 := i_rg c8_2; have g_c8_32 := i_rg c8_32; omega)), (show 0 + 18 + ds_9 + ds_24 + 0 ≤ PS ws + (210 + e9.toInt.toNat) from (by have q_f10_2 := f10_2; have q_fq2_f := fq2_f; have q_fq2_ge9 := fq2_ge9; have q_b_16 := h_b_16; have q_kq_33 := kq_33; have q_s_b_16 := s_b_16; have q_f22_32 := f22_32; have q_f9_32 := f9_32; have q_f23_32 := f23_32; have q_f24_32 := f24_32; have q_f25_32 := f25_32; have q_f26_32 := f26_32; have q_f27_32 := f27_32; have q_f11_32 := f11_32; have q_f13_32 := f13_32; have q_f15_32 := f15_32; have q_f17_32 := f17_32; have g_c1_2 := i_rg c1_2; have g_c7_2 := i_rg c7_2; have g_c8_2 := i_rg c8_2; have g_c8_32 := i_rg c8_32; omega))⟩) hS (fun q _ h => hFc q h) hFc (fun r_45 u9 t9 H1 locs ht9 hvm9 hw9 hB9 hz9 hk9 hS => ?_)
  have hP : va_P (gD g) cl0 ws_37 H1 := by rw [← ht9]; exact hB9.1
  clear hB9 hz9 hk9 hvm9 ht9 hw9
  generalize H1 = H at hP hS ⊢
  have hV9 : okv ws_37 9 2 (.int r_45) := okv_i
  refine va_put (D := gD g) (ci := 9) (v := .int r_45) (ty := .int) (C := RX10) (T := TX10) (N := 18) hx hb hts inX10 tyX10 tyX10_ok nmX10 hown hK hP hD hS k_32 hk_32 rfl 2 (by decide) (hts _ kw_653) (fun _ h9 => h9) rfl (by decide +kernel) rfl rfl (Nat.le_of_ble_eq_true rfl) dX2_build_81 (fun H locs hP hD hS => ?_)
  have hi_46 : invX10 g ws_37 q_3 [.ref r0_32, .int c5_2, .int r_45, .int c3_32, .int c4_32, .ref r5_32, .ref r6_32, .ref r7_32, .int c8_32, .ref r9_32, .ref r10_32, .ref r11_32, .ref r12_32, .ref r13_32, .int c14_32, .int c15_32, .int c16_32, .int c17_32] := ⟨r0_32, (n0_32), (c5_2), (r_45), (c3_32), (c4_32), r5_32, (n5_32), r6_32, (n6_32), r7_32, (n7_32), (c8_32), r9_32, (n9_32), r10_32, (n10_32), r11_32, (n11_32), r12_32, (n12_32), r13_32, (n13_32), (c14_32), (c15_32), (c16_32), (c17_32), rfl, a_r0_32, f1_32, a_r5_32, f3_32, a_r6_32, f5_32, a_r7_32, f7_32, a_r9_32, f9_32, a_r10_32, f11_32, a_r11_32, f13_32, a_r12_32, f15_32, a_r13_32, f17_32, hz_c15_32, f19_32, f20_32, f21_32, f22_32, f23_32, f24_32, f25_32, f26_32, f27_32, f28_32, trivial⟩
  obtain ⟨ws_47, e_ws_47⟩ : ∃ z, z = ws_37.set k_32 (q_3, .inr (9, [.ref r0_32, .int c5_2, .int r_45, .int c3_32, .int c4_32, .ref r5_32, .ref r6_32, .ref r7_32, .int c8_32, .ref r9_32, .ref r10_32, .ref r11_32, .ref r12_32, .ref r13_32, .int c14_32, .int c15_32, .int c16_32, .int c17_32])) := ⟨_, rfl⟩
  have hP : va_P (gD g) cl0 ws_47 H := by rw [e_ws_47]; exact hP
  have hD : va_D A ws_47 := by rw [e_ws_47]; exact hD
  have E_48 : gE ws_37 ws_47 := gE_set e_ws_47 hk_32 (cw_o (fi := 2) (v := .int r_45) rfl (by decide))
  have hG : Good g ws_47 := Good_set (fi := 2) (v := .int r_45) e_ws_47 hk_32 E_48 rfl hV9 hG (ivX10 hi_46)
  have Fr_49 : gF [(9, 2)] [] (some q_3) ws_37 ws_47 := gF_put (fi := 2) (v := .int r_45) e_ws_47 hk_32 rfl (by decide)
  have pp_50 := Fr_49.pp
  have hkN := gset_self e_ws_47 hk_32
  have hk_34 := gset_ob e_ws_47 hk_32 hk_34 (by decide)
  have hk_35 := gset_ob e_ws_47 hk_32 hk_35 (by decide)
  have hk_32 := hkN
  have o_h0 := E_48.1 _ _ o_h0
  have o_q_3 := E_48.1 _ _ o_q_3
  have a_r0_32 := E_48.1 _ _ a_r0_32
  have a_r5_32 := E_48.1 _ _ a_r5_32
  have a_r6_32 := E_48.1 _ _ a_r6_32
  have a_r7_32 := E_48.1 _ _ a_r7_32
  have a_r9_32 := E_48.1 _ _ a_r9_32
  have a_r10_32 := E_48.1 _ _ a_r10_32
  have a_r11_32 := E_48.1 _ _ a_r11_32
  have a_r12_32 := E_48.1 _ _ a_r12_32
  have a_r13_32 := E_48.1 _ _ a_r13_32
  have a_r7_34 := E_48.1 _ _ a_r7_34
  have o_r0_1 := E_48.1 _ _ o_r0_1
  have a_r4_35 := E_48.1 _ _ a_r4_35
  have a_r9_35 := E_48.1 _ _ a_r9_35
  have a_r10_35 := E_48.1 _ _ a_r10_35
  have a_r11_35 := E_48.1 _ _ a_r11_35
  have a_r0_2 := E_48.1 _ _ a_r0_2
  refine lv_aload_n hx hb dX2_build_84 rfl (lv_at hl 0 rfl) ?_
  refine lv_aload_n hx hb dX2_build_85 rfl (lv_at hl 1 rfl) ?_
  refine va_get (D := gD g) (ci := 2) (v := .ref r0_1) (C := RX2) (T := TX2) (N := 12) hx hb hts inX2 hown hK hP k_1 hk_34 rfl 0 (by decide) (hts _ kw_632) (fun _ h9 => h9) rfl dX2_build_86 ?_
  refine lv_aload_n hx hb dX2_build_89 rfl (lv_at hl 1 rfl) ?_
  refine va_get (D := gD g) (ci := 2) (v := .ref r0_1) (C := RX2) (T := TX2) (N := 12) hx hb hts inX2 hown hK hP k_1 hk_34 rfl 0 (by decide) (hts _ kw_632) (fun _ h9 => h9) rfl dX2_build_90 ?_
  refine lv_aload_n hx hb dX2_build_93 rfl (lv_at hl 1 rfl) ?_
  refine va_get (D := gD g) (ci := 2) (v := .ref r0_1) (C := RX2) (T := TX2) (N := 12) hx hb hts inX2 hown hK hP k_1 hk_34 rfl 0 (by decide) (hts _ kw_632) (fun _ h9 => h9) rfl dX2_build_94 ?_
  refine lv_aload_n hx hb dX2_build_97 rfl (lv_at hl 1 rfl) ?_
  refine va_get (D := gD g) (ci := 2) (v := .ref r0_1) (C := RX2) (T := TX2) (N := 12) hx hb hts inX2 hown hK hP k_1 hk_34 rfl 0 (by decide) (hts _ kw_632) (fun _ h9 => h9) rfl dX2_build_98 ?_
  refine va_get (D := gD g) (ci := 6) (v := .int c6_2) (C := RX7) (T := TX7) (N := 17) hx hb hts inX7 hown hK hP k_2 hk_35 rfl 6 (by decide) (hts _ kw_650) (fun _ h9 => h9) rfl dX2_build_101 ?_
  refine lv_iconst (v := 4) hx hb dX2_build_104 (by decide) ?_
  refine lv_iadd hx hb dX2_build_105 ?_
  refine lv_topi (fun z_51 ez_51 => ?_)
  have hFc := gfree hD hS hA
  refine va_calli (va_runV (As := [.int z_51]) (rest := [.ref r0_1, .ref r0_1, .ref q_3]) ⟨hx, hb, hml, hown, hts⟩ (m_X7_u2_x l g H.size ws_47 r0_1 (z_51) hG o_r0_1) (cwV 1 hts (gd_V kw_651 kw_1450 kw_1451 kw_710 kw_1449) rfl rfl rfl (by decide +kernel) ⟨Nat.le_of_ble_eq_true rfl, Nat.le_of_ble_eq_true rfl⟩) ⟨gblind, va_recv hK hP (ci := 6) (q0 := k_2) rfl hk_35, fun U hU hW9 => gmk hU hW9 hP hK hD hex hE hS hFc⟩ rfl rfl hl.1 rfl (lv_room (Nat.le_of_ble_eq_true rfl)) dX2_build_106 ⟨(show 0 + 1 + dc_8 + dc_23 + 0 ≤ PC ws + (10) from (by have q_f10_2 := f10_2; have q_fq2_f := fq2_f; have q_fq2_ge9 := fq2_ge9; have q_b_16 := h_b_16; have q_kq_33 := kq_33; have q_s_b_16 := s_b_16; have q_f22_32 := f22_32; have q_f9_32 := f9_32; have q_f23_32 := f23_32; have q_f24_32 := f24_32; have q_f25_32 := f25_32; have q_f26_32 := f26_32; have q_f27_32 := f27_32; have q_f11_32 := f11_32; have q_f13_32 := f13_32; have q_f15_32 := f15_32; have q_f17_32 := f17_32; have g_c1_2 := i_rg c1_2; have g_c7_2 := i_rg c7_2; have g_c8_2 := i_rg c8_2; have g_c8_32 := i_rg c8_32; omega)), (show 0 + 18 + ds_9 + ds_24 + 0 ≤ PS ws + (210 + e9.toInt.toNat) from (by have q_f10_2 := f10_2; have q_fq2_f := fq2_f; have q_fq2_ge9 := fq2_ge9; have q_b_16 := h_b_16; have q_kq_33 := kq_33; have q_s_b_16 := s_b_16; have q_f22_32 := f22_32; have q_f9_32 := f9_32; have q_f23_32 := f23_32; have q_f24_32 := f24_32; have q_f25_32 := f25_32; have q_f26_32 := f26_32; have q_f27_32 := f27_32; have q_f11_32 := f11_32; have q_f13_32 := f13_32; have q_f15_32 := f15_32; have q_f17_32 := f17_32; have g_c1_2 := i_rg c1_2; have g_c7_2 := i_rg c7_2; have g_c8_2 := i_rg c8_2; have g_c8_32 := i_rg c8_32; omega))⟩) hS (fun q _ h => hFc q h) hFc (fun r_52 u9 t9 H1 locs ht9 hvm9 hw9 hB9 hz9 hk9 hS => ?_)
  have hP : va_P (gD g) cl0 ws_47 H1 := by rw [← ht9]; exact hB9.1
  obtain ⟨hw9, xp_53⟩ := hw9
  have h_r_52 := hw9
  clear hB9 hz9 hk9 hvm9 ht9 hw9
  generalize H1 = H at hP hS ⊢
  have hFc := gfree hD hS hA
  refine va_calli (va_runV (As := [.int r_52]) (rest := [.ref r0_1, .ref q_3]) ⟨hx, hb, hml, hown, hts⟩ (m_X7_firstOf l g H.size ws_47 r0_1 (r_52) hG o_r0_1) (cwV 1 hts (gd_V kw_652 kw_1326 kw_1327 kw_710 kw_1325) rfl rfl rfl (by decide +kernel) ⟨Nat.le_of_ble_eq_true rfl, Nat.le_of_ble_eq_true rfl⟩) ⟨gblind, va_recv hK hP (ci := 6) (q0 := k_2) rfl hk_35, fun U hU hW9 => gmk hU hW9 hP hK hD hex hE hS hFc⟩ rfl rfl hl.1 rfl (lv_room (Nat.le_of_ble_eq_true rfl)) dX2_build_109 ⟨(show 0 + 1 + dc_8 + dc_23 + 0 ≤ PC ws + (10) from (by have q_f10_2 := f10_2; have q_fq2_f := fq2_f; have q_fq2_ge9 := fq2_ge9; have q_b_16 := h_b_16; have q_kq_33 := kq_33; have q_s_b_16 := s_b_16; have q_f22_32 := f22_32; have q_f9_32 := f9_32; have q_f23_32 := f23_32; have q_f24_32 := f24_32; have q_f25_32 := f25_32; have q_f26_32 := f26_32; have q_f27_32 := f27_32; have q_f11_32 := f11_32; have q_f13_32 := f13_32; have q_f15_32 := f15_32; have q_f17_32 := f17_32; have g_c1_2 := i_rg c1_2; have g_c7_2 := i_rg c7_2; have g_c8_2 := i_rg c8_2; have g_c8_32 := i_rg c8_32; omega)), (show 0 + 18 + ds_9 + ds_24 + 0 ≤ PS ws + (210 + e9.toInt.toNat) from (by have q_f10_2 := f10_2; have q_fq2_f := fq2_f; have q_fq2_ge9 := fq2_ge9; have q_b_16 := h_b_16; have q_kq_33 := kq_33; have q_s_b_16 := s_b_16; have q_f22_32 := f22_32; have q_f9_32 := f9_32; have q_f23_32 := f23_32; have q_f24_32 := f24_32; have q_f25_32 := f25_32; have q_f26_32 := f26_32; have q_f27_32 := f27_32; have q_f11_32 := f11_32; have q_f13_32 := f13_32; have q_f15_32 := f15_32; have q_f17_32 := f17_32; have g_c1_2 := i_rg c1_2; have g_c7_2 := i_rg c7_2; have g_c8_2 := i_rg c8_2; have g_c8_32 := i_rg c8_32; omega))⟩) hS (fun q _ h => hFc q h) hFc (fun r_54 u9 t9 H1 locs ht9 hvm9 hw9 hB9 hz9 hk9 hS => ?_)
  have hP : va_P (gD g) cl0 ws_47 H1 := by rw [← ht9]; exact hB9.1
  have h_r_54 := hw9
  clear hB9 hz9 hk9 hvm9 ht9 hw9
  generalize H1 = H at hP hS ⊢
  have hFc := gfree hD hS hA
  refine va_calli (va_runV (As := [.int r_54]) (rest := [.ref q_3]) ⟨hx, hb, hml, hown, hts⟩ (m_X7_entryAt l g H.size ws_47 r0_1 (r_54) hG o_r0_1) (cwV 1 hts (gd_V kw_633 kw_1298 kw_1299 kw_710 kw_1297) rfl rfl rfl (by decide +kernel) ⟨Nat.le_of_ble_eq_true rfl, Nat.le_of_ble_eq_true rfl⟩) ⟨gblind, va_recv hK hP (ci := 6) (q0 := k_2) rfl hk_35, fun U hU hW9 => gmk hU hW9 hP hK hD hex hE hS hFc⟩ rfl rfl hl.1 rfl (lv_room (Nat.le_of_ble_eq_true rfl)) dX2_build_112 ⟨(show 0 + 1 + dc_8 + dc_23 + 0 ≤ PC ws + (10) from (by have q_f10_2 := f10_2; have q_fq2_f := fq2_f; have q_fq2_ge9 := fq2_ge9; have q_b_16 := h_b_16; have q_kq_33 := kq_33; have q_s_b_16 := s_b_16; have q_f22_32 := f22_32; have q_f9_32 := f9_32; have q_f23_32 := f23_32; have q_f24_32 := f24_32; have q_f25_32 := f25_32; have q_f26_32 := f26_32; have q_f27_32 := f27_32; have q_f11_32 := f11_32; have q_f13_32 := f13_32; have q_f15_32 := f15_32; have q_f17_32 := f17_32; have g_c1_2 := i_rg c1_2; have g_c7_2 := i_rg c7_2; have g_c8_2 := i_rg c8_2; have g_c8_32 := i_rg c8_32; omega)), (show 0 + 18 + ds_9 + ds_24 + 0 ≤ PS ws + (210 + e9.toInt.toNat) from (by have q_f10_2 := f10_2; have q_fq2_f := fq2_f; have q_fq2_ge9 := fq2_ge9; have q_b_16 := h_b_16; have q_kq_33 := kq_33; have q_s_b_16 := s_b_16; have q_f22_32 := f22_32; have q_f9_32 := f9_32; have q_f23_32 := f23_32; have q_f24_32 := f24_32; have q_f25_32 := f25_32; have q_f26_32 := f26_32; have q_f27_32 := f27_32; have q_f11_32 := f11_32; have q_f13_32 := f13_32; have q_f15_32 := f15_32; have q_f17_32 := f17_32; have g_c1_2 := i_rg c1_2; have g_c7_2 := i_rg c7_2; have g_c8_2 := i_rg c8_2; have g_c8_32 := i_rg c8_32; omega))⟩) hS (fun q _ h => hFc q h) hFc (fun r_55 u9 t9 H1 locs ht9 hvm9 hw9 hB9 hz9 hk9 hS => ?_)
  have hP : va_P (gD g) cl0 ws_47 H1 := by rw [← ht9]; exact hB9.1
  clear hB9 hz9 hk9 hvm9 ht9 hw9
  generalize H1 = H at hP hS ⊢
  have hV9 : okv ws_47 9 3 (.int r_55) := okv_i
  refine va_put (D := gD g) (ci := 9) (v := .int r_55) (ty := .int) (C := RX10) (T := TX10) (N := 18) hx hb hts inX10 tyX10 tyX10_ok nmX10 hown hK hP hD hS k_32 hk_32 rfl 3 (by decide) (hts _ kw_654) (fun _ h9 => h9) rfl (by decide +kernel) rfl rfl (Nat.le_of_ble_eq_true rfl) dX2_build_115 (fun H locs hP hD hS => ?_)
  have hi_56 : invX10 g ws_47 q_3 [.ref r0_32, .int c5_2, .int r_45, .int r_55, .int c4_32, .ref r5_32, .ref r6_32, .ref r7_32, .int c8_32, .ref r9_32, .ref r10_32, .ref r11_32, .ref r12_32, .ref r13_32, .int c14_32, .int c15_32, .int c16_32, .int c17_32] := ⟨r0_32, (n0_32), (c5_2), (r_45), (r_55), (c4_32), r5_32, (n5_32), r6_32, (n6_32), r7_32, (n7_32), (c8_32), r9_32, (n9_32), r10_32, (n10_32), r11_32, (n11_32), r12_32, (n12_32), r13_32, (n13_32), (c14_32), (c15_32), (c16_32), (c17_32), rfl, a_r0_32, f1_32, a_r5_32, f3_32, a_r6_32, f5_32, a_r7_32, f7_32, a_r9_32, f9_32, a_r10_32, f11_32, a_r11_32, f13_32, a_r12_32, f15_32, a_r13_32, f17_32, hz_c15_32, f19_32, f20_32, f21_32, f22_32, f23_32, f24_32, f25_32, f26_32, f27_32, f28_32, trivial⟩
  obtain ⟨ws_57, e_ws_57⟩ : ∃ z, z = ws_47.set k_32 (q_3, .inr (9, [.ref r0_32, .int c5_2, .int r_45, .int r_55, .int c4_32, .ref r5_32, .ref r6_32, .ref r7_32, .int c8_32, .ref r9_32, .ref r10_32, .ref r11_32, .ref r12_32, .ref r13_32, .int c14_32, .int c15_32, .int c16_32, .int c17_32])) := ⟨_, rfl⟩
  have hP : va_P (gD g) cl0 ws_57 H := by rw [e_ws_57]; exact hP
  have hD : va_D A ws_57 := by rw [e_ws_57]; exact hD
  have E_58 : gE ws_47 ws_57 := gE_set e_ws_57 hk_32 (cw_o (fi := 3) (v := .int r_55) rfl (by decide))
  have hG : Good g ws_57 := Good_set (fi := 3) (v := .int r_55) e_ws_57 hk_32 E_58 rfl hV9 hG (ivX10 hi_56)
  have Fr_59 : gF [(9, 3)] [] (some q_3) ws_47 ws_57 := gF_put (fi := 3) (v := .int r_55) e_ws_57 hk_32 rfl (by decide)
  have pp_60 := Fr_59.pp
  have hkN := gset_self e_ws_57 hk_32
  have hk_34 := gset_ob e_ws_57 hk_32 hk_34 (by decide)
  have hk_35 := gset_ob e_ws_57 hk_32 hk_35 (by decide)
  have hk_32 := hkN
  have o_h0 := E_58.1 _ _ o_h0
  have o_q_3 := E_58.1 _ _ o_q_3
  have a_r0_32 := E_58.1 _ _ a_r0_32
  have a_r5_32 := E_58.1 _ _ a_r5_32
  have a_r6_32 := E_58.1 _ _ a_r6_32
  have a_r7_32 := E_58.1 _ _ a_r7_32
  have a_r9_32 := E_58.1 _ _ a_r9_32
  have a_r10_32 := E_58.1 _ _ a_r10_32
  have a_r11_32 := E_58.1 _ _ a_r11_32
  have a_r12_32 := E_58.1 _ _ a_r12_32
  have a_r13_32 := E_58.1 _ _ a_r13_32
  have a_r7_34 := E_58.1 _ _ a_r7_34
  have o_r0_1 := E_58.1 _ _ o_r0_1
  have a_r4_35 := E_58.1 _ _ a_r4_35
  have a_r9_35 := E_58.1 _ _ a_r9_35
  have a_r10_35 := E_58.1 _ _ a_r10_35
  have a_r11_35 := E_58.1 _ _ a_r11_35
  have a_r0_2 := E_58.1 _ _ a_r0_2
  refine lv_iconst (v := 0) hx hb dX2_build_118 (by decide) ?_
  refine lv_istore_n (lv' := [(2, .int 0), (1, .ref q_3), (0, .ref h0)]) hx hb dX2_build_119 rfl hl (by decide) rfl (fun ls hl => ?_)
  have J_120 : ∀ (n9 : Nat) (v2_61 : Int32) (dc_120_1 : Nat) (ds_120_1 : Nat) (ws_63 : va_W) (H : Heap) (locs : List Loc) (ls : Array Slot), (2147483647 - v2_61.toInt).toNat = n9 → 0 ≤ v2_61.toInt → gE ws_57 ws_63 → gF [] [(9, 5), (9, 6), (9, 7)] none ws_57 ws_63 → Good g ws_63 → dc_120_1 + PC ws_63 ≤ PC ws + (10) → ds_120_1 + PS ws_63 ≤ PS ws + (210 + e9.toInt.toNat) → va_P (gD g) cl0 ws_63 H → va_D A ws_63 → va_S A s.heap H locs → lv_has ls 4 [(0, .ref h0), (1, .ref q_3), (2, .int v2_61)] → W p l e (headSpec (wt yX2_build cX2_build 4 (some (.object "CodeFoundry$Unit"))) ({ frames := 4, cells := PC ws + (10), slots := PS ws + (210 + e9.toInt.toNat), locals := 89 })).room s m ([.ref h0] : List Value).toArray below meth c H locs (dc_120_1) (ds_120_1) (MQ below (va_Qq (fun (r : Option Nat) (u9 : va_W) => (∃ b, r = some b ∧ gC u9 b 9) ∧ (∀ b, r = some b → rwN u9 h0 b)) (gQ2 g [(6, 12), (6, 13), (6, 14), (9, 0), (9, 1), (9, 2), (9, 3), (9, 4), (9, 5), (9, 6), (9, 7), (9, 8), (9, 9), (9, 10), (9, 11), (9, 12), (9, 13), (9, 16), (9, 17)] [(9, 5), (9, 6), (9, 7), (9, 9), (9, 10), (9, 11), (9, 12)] none A ws s.heap (10) (210 + e9.toInt.toNat)) A) ([.ref h0] : List Value).toArray s (PC ws + (10)) (PS ws + (210 + e9.toInt.toNat)) A) (F0 m 120 ls []) := by
    intro n9
    induction n9 using Nat.strongRecOn with
    | ind n9 ih_120 =>
      intro v2_61 dc_120_1 ds_120_1 ws_63 H locs ls hm9 iv_62 E_64 Fr_65 hG hc9 hs9 hP hD hS hl
      subst hm9
      have aa_66 := a_r0_32
      have aa_67 := a_r5_32
      have aa_68 := a_r6_32
      have aa_69 := a_r7_32
      have aa_70 := a_r9_32
      have aa_71 := a_r10_32
      have aa_72 := a_r11_32
      have aa_73 := a_r12_32
      have aa_74 := a_r13_32
      have aa_75 := a_r7_34
      have aa_76 := a_r0_2
      have aa_77 := a_r4_35
      have aa_78 := a_r9_35
      have aa_79 := a_r10_35
      have aa_80 := a_r11_35
      have o_h0 := E_64.1 _ _ o_h0
      have o_q_3 := E_64.1 _ _ o_q_3
      refine lv_iload_n hx hb dX2_build_120 rfl (lv_at hl 2 rfl) ?_
      refine lv_aload_n hx hb dX2_build_121 rfl (lv_at hl 1 rfl) ?_
      obtain ⟨fs9, hk_81, hq_81⟩ := ((gF.a (F' := []) Fr_65 (fun _ h => h))) _ _ _ hk_32
      obtain ⟨r0_81, n0_81, c1_81, c2_81, c3_81, c4_81, r5_81, n5_81, r6_81, n6_81, r7_81, n7_81, c8_81, r9_81, n9_81, r10_81, n10_81, r11_81, n11_81, r12_81, n12_81, r13_81, n13_81, c14_81, c15_81, c16_81, c17_81, rfl, a_r0_81, f1_81, a_r5_81, f3_81, a_r6_81, f5_81, a_r7_81, f7_81, a_r9_81, f9_81, a_r10_81, f11_81, a_r11_81, f13_81, a_r12_81, f15_81, a_r13_81, f17_81, hz_c15_81, f19_81, f20_81, f21_81, f22_81, f23_81, f24_81, f25_81, f26_81, f27_81, f28_81, -⟩ := (hG.1 _ _ _ _ hk_81).hX10 rfl
      obtain rfl := fe_r (hq_81 5 (by decide))
      have hn9 := gI_n hD ((E_64).1 _ _ aa_67) a_r5_81
      subst hn9
      have a_r5_32 := a_r5_81
      obtain rfl := fe_r (hq_81 6 (by decide))
      have hn9 := gI_n hD ((E_64).1 _ _ aa_68) a_r6_81
      subst hn9
      have a_r6_32 := a_r6_81
      obtain rfl := fe_r (hq_81 7 (by decide))
      have hn9 := gI_n hD ((E_64).1 _ _ aa_69) a_r7_81
      subst hn9
      have a_r7_32 := a_r7_81
      obtain rfl := fe_i (hq_81 8 (by decide))
      obtain rfl := fe_r (hq_81 9 (by decide))
      have hn9 := gI_n hD ((E_64).1 _ _ aa_70) a_r9_81
      subst hn9
      have a_r9_32 := a_r9_81
      obtain rfl := fe_r (hq_81 10 (by decide))
      have hn9 := gI_n hD ((E_64).1 _ _ aa_71) a_r10_81
      subst hn9
      have a_r10_32 := a_r10_81
      obtain rfl := fe_r (hq_81 11 (by decide))
      have hn9 := gI_n hD ((E_64).1 _ _ aa_72) a_r11_81
      subst hn9
      have a_r11_32 := a_r11_81
      obtain rfl := fe_r (hq_81 12 (by decide))
      have hn9 := gI_n hD ((E_64).1 _ _ aa_73) a_r12_81
      subst hn9
      have a_r12_32 := a_r12_81
      obtain rfl := fe_r (hq_81 13 (by decide))
      have hn9 := gI_n hD ((E_64).1 _ _ aa_74) a_r13_81
      subst hn9
      have a_r13_32 := a_r13_81
      refine va_get (D := gD g) (ci := 9) (v := .ref r5_32) (C := RX10) (T := TX10) (N := 18) hx hb hts inX10 hown hK hP k_32 hk_81 rfl 5 (by decide) (hts _ kw_655) (fun _ h9 => h9) rfl dX2_build_122 ?_
      obtain ⟨k_82, f_82, hk_82⟩ := gI_of a_r5_32
      obtain ⟨z_83, ez_83⟩ : ∃ z : Int32, Int32.ofNat n5_32 = z := ⟨_, rfl⟩
      refine va_alen (v := z_83) hx hb hK hP k_82 1 hk_82 rfl ez_83 dX2_build_125 ?_
      refine lv_icmp_ge (tgt := 198) hx hb dX2_build_126 (by decide) (fun c_84 => ?_) (fun c_84 => ?_)
      · refine lv_iconst (v := 0) hx hb dX2_build_198 (by decide) ?_
        refine lv_istore_n (lv' := [(2, .int 0), (0, .ref h0), (1, .ref q_3)]) hx hb dX2_build_199 rfl hl (by decide) rfl (fun ls hl => ?_)
        have J_200 : ∀ (n9 : Nat) (v2_85 : Int32) (dc_200_2 : Nat) (ds_200_2 : Nat) (ws_87 : va_W) (H : Heap) (locs : List Loc) (ls : Array Slot), (2147483647 - v2_85.toInt).toNat = n9 → 0 ≤ v2_85.toInt → gE ws_63 ws_87 → gF [(6, 12), (6, 13), (6, 14)] [(9, 9), (9, 10), (9, 11), (9, 12)] none ws_63 ws_87 → Good g ws_87 → dc_200_2 + PC ws_87 ≤ PC ws + (10) → ds_200_2 + PS ws_87 ≤ PS ws + (210 + e9.toInt.toNat) → va_P (gD g) cl0 ws_87 H → va_D A ws_87 → va_S A s.heap H locs → lv_has ls 4 [(0, .ref h0), (1, .ref q_3), (2, .int v2_85)] → W p l e (headSpec (wt yX2_build cX2_build 4 (some (.object "CodeFoundry$Unit"))) ({ frames := 4, cells := PC ws + (10), slots := PS ws + (210 + e9.toInt.toNat), locals := 89 })).room s m ([.ref h0] : List Value).toArray below meth c H locs (dc_200_2) (ds_200_2) (MQ below (va_Qq (fun (r : Option Nat) (u9 : va_W) => (∃ b, r = some b ∧ gC u9 b 9) ∧ (∀ b, r = some b → rwN u9 h0 b)) (gQ2 g [(6, 12), (6, 13), (6, 14), (9, 0), (9, 1), (9, 2), (9, 3), (9, 4), (9, 5), (9, 6), (9, 7), (9, 8), (9, 9), (9, 10), (9, 11), (9, 12), (9, 13), (9, 16), (9, 17)] [(9, 5), (9, 6), (9, 7), (9, 9), (9, 10), (9, 11), (9, 12)] none A ws s.heap (10) (210 + e9.toInt.toNat)) A) ([.ref h0] : List Value).toArray s (PC ws + (10)) (PS ws + (210 + e9.toInt.toNat)) A) (F0 m 200 ls []) := by
          intro n9
          induction n9 using Nat.strongRecOn with
          | ind n9 ih_200 =>
            intro v2_85 dc_200_2 ds_200_2 ws_87 H locs ls hm9 iv_86 E_88 Fr_89 hG hc9 hs9 hP hD hS hl
            subst hm9
            have aa_90 := a_r0_81
            have aa_91 := a_r5_32
            have aa_92 := a_r6_32
            have aa_93 := a_r7_32
            have aa_94 := a_r9_32
            have aa_95 := a_r10_32
            have aa_96 := a_r11_32
            have aa_97 := a_r12_32
            have aa_98 := a_r13_32
            have o_h0 := E_88.1 _ _ o_h0
            have o_q_3 := E_88.1 _ _ o_q_3
            refine lv_iload_n hx hb dX2_build_200 rfl (lv_at hl 2 rfl) ?_
            refine lv_aload_n hx hb dX2_build_201 rfl (lv_at hl 1 rfl) ?_
            obtain ⟨fs9, hk_99, hq_99⟩ := ((gF.a (F' := [(6, 12), (6, 13), (6, 14)]) Fr_89 (fun _ h => h))) _ _ _ hk_81
            obtain ⟨r0_99, n0_99, c1_99, c2_99, c3_99, c4_99, r5_99, n5_99, r6_99, n6_99, r7_99, n7_99, c8_99, r9_99, n9_99, r10_99, n10_99, r11_99, n11_99, r12_99, n12_99, r13_99, n13_99, c14_99, c15_99, c16_99, c17_99, rfl, a_r0_99, f1_99, a_r5_99, f3_99, a_r6_99, f5_99, a_r7_99, f7_99, a_r9_99, f9_99, a_r10_99, f11_99, a_r11_99, f13_99, a_r12_99, f15_99, a_r13_99, f17_99, hz_c15_99, f19_99, f20_99, f21_99, f22_99, f23_99, f24_99, f25_99, f26_99, f27_99, f28_99, -⟩ := (hG.1 _ _ _ _ hk_99).hX10 rfl
            obtain rfl := fe_r (hq_99 5 (by decide))
            have hn9 := gI_n hD ((E_88).1 _ _ aa_91) a_r5_99
            subst hn9
            have a_r5_32 := a_r5_99
            obtain rfl := fe_r (hq_99 6 (by decide))
            have hn9 := gI_n hD ((E_88).1 _ _ aa_92) a_r6_99
            subst hn9
            have a_r6_32 := a_r6_99
            obtain rfl := fe_r (hq_99 7 (by decide))
            have hn9 := gI_n hD ((E_88).1 _ _ aa_93) a_r7_99
            subst hn9
            have a_r7_32 := a_r7_99
            obtain rfl := fe_i (hq_99 8 (by decide))
            obtain rfl := fe_r (hq_99 9 (by decide))
            have hn9 := gI_n hD ((E_88).1 _ _ aa_94) a_r9_99
            subst hn9
            have a_r9_32 := a_r9_99
            obtain rfl := fe_r (hq_99 10 (by decide))
            have hn9 := gI_n hD ((E_88).1 _ _ aa_95) a_r10_99
            subst hn9
            have a_r10_32 := a_r10_99
            obtain rfl := fe_r (hq_99 11 (by decide))
            have hn9 := gI_n hD ((E_88).1 _ _ aa_96) a_r11_99
            subst hn9
            have a_r11_32 := a_r11_99
            obtain rfl := fe_r (hq_99 12 (by decide))
            have hn9 := gI_n hD ((E_88).1 _ _ aa_97) a_r12_99
            subst hn9
            have a_r12_32 := a_r12_99
            obtain rfl := fe_r (hq_99 13 (by decide))
            have hn9 := gI_n hD ((E_88).1 _ _ aa_98) a_r13_99
            subst hn9
            have a_r13_32 := a_r13_99
            refine va_get (D := gD g) (ci := 9) (v := .ref r13_32) (C := RX10) (T := TX10) (N := 18) hx hb hts inX10 hown hK hP k_32 hk_99 rfl 13 (by decide) (hts _ kw_661) (fun _ h9 => h9) rfl dX2_build_202 ?_
            obtain ⟨k_100, f_100, hk_100⟩ := gR_of a_r13_32
            obtain ⟨z_101, ez_101⟩ : ∃ z : Int32, Int32.ofNat n13_32 = z := ⟨_, rfl⟩
            refine va_alen (v := z_101) hx hb hK hP k_100 5 hk_100 rfl ez_101 dX2_build_205 ?_
            refine lv_icmp_ge (tgt := 309) hx hb dX2_build_206 (by decide) (fun c_102 => ?_) (fun c_102 => ?_)
            · refine lv_aload_n hx hb dX2_build_309 rfl (lv_at hl 1 rfl) ?_
              refine W_led (fun hLd => ?_)
              have hcl : dc_200_2 + PC ws_87 ≤ PC ws + (10) := (by have q_f10_2 := f10_2; have q_fq2_f := fq2_f; have q_fq2_ge9 := fq2_ge9; have q_b_16 := h_b_16; have q_kq_33 := kq_33; have q_s_b_16 := s_b_16; have q_f22_32 := f22_32; have q_f9_32 := f9_32; have q_f23_32 := f23_32; have q_f24_32 := f24_32; have q_f25_32 := f25_32; have q_f26_32 := f26_32; have q_f27_32 := f27_32; have q_f11_32 := f11_32; have q_f13_32 := f13_32; have q_f15_32 := f15_32; have q_f17_32 := f17_32; have q_z_101 := i_len ez_101 f17_99; have g_c1_2 := i_rg c1_2; have g_c7_2 := i_rg c7_2; have g_c8_2 := i_rg c8_2; have g_c8_32 := i_rg c8_32; have g_z_101 := i_rg z_101; omega)
              have hsl : ds_200_2 + PS ws_87 ≤ PS ws + (210 + e9.toInt.toNat) := (by have q_f10_2 := f10_2; have q_fq2_f := fq2_f; have q_fq2_ge9 := fq2_ge9; have q_b_16 := h_b_16; have q_kq_33 := kq_33; have q_s_b_16 := s_b_16; have q_f22_32 := f22_32; have q_f9_32 := f9_32; have q_f23_32 := f23_32; have q_f24_32 := f24_32; have q_f25_32 := f25_32; have q_f26_32 := f26_32; have q_f27_32 := f27_32; have q_f11_32 := f11_32; have q_f13_32 := f13_32; have q_f15_32 := f15_32; have q_f17_32 := f17_32; have q_z_101 := i_len ez_101 f17_99; have g_c1_2 := i_rg c1_2; have g_c7_2 := i_rg c7_2; have g_c8_2 := i_rg c8_2; have g_c8_32 := i_rg c8_32; have g_z_101 := i_rg z_101; omega)
              refine W.widen (k := PC ws + (10)) (n := PS ws + (210 + e9.toInt.toNat)) (by omega) (by omega) ?_
              obtain ⟨fs9, hk_103, hq_103⟩ := ((gA.tr (gF.a (F' := [(6, 12), (6, 13), (6, 14)]) Fr_65 (fun _ h => absurd h List.not_mem_nil)) (gF.a (F' := [(6, 12), (6, 13), (6, 14)]) Fr_89 (fun _ h => h)))) _ _ _ hk_34
              obtain ⟨r0_103, c1_103, c2_103, c3_103, c4_103, c5_103, c6_103, r7_103, n7_103, c8_103, c9_103, l10_103, c11_103, rfl, o_r0_103, a_r7_103, f2_103, f3_103, f4_103, -⟩ := (hG.1 _ _ _ _ hk_103).hX2 rfl
              obtain rfl := fe_r (hq_103 0 (by decide))
              have o_r0_1 := o_r0_103
              obtain ⟨fs9, hk_104, hq_104⟩ := ((gA.tr (gF.a (F' := [(6, 12), (6, 13), (6, 14)]) Fr_65 (fun _ h => absurd h List.not_mem_nil)) (gF.a (F' := [(6, 12), (6, 13), (6, 14)]) Fr_89 (fun _ h => h)))) _ _ _ hk_35
              obtain ⟨r0_104, n0_104, c1_104, c2_104, c3_104, r4_104, n4_104, c5_104, c6_104, c7_104, c8_104, r9_104, n9_104, r10_104, n10_104, r11_104, n11_104, c12_104, c13_104, c14_104, c15_104, c16_104, rfl, a_r0_104, f1_104, a_r4_104, f3_104, a_r9_104, f5_104, a_r10_104, f7_104, a_r11_104, f9_104, f10_104, f11_104, f12_104, f13_104, f14_104, -⟩ := (hG.1 _ _ _ _ hk_104).hX7 rfl
              obtain rfl := fe_r (hq_104 0 (by decide))
              have hn9 := gI_n hD (((E_64.tr E_88)).1 _ _ aa_76) a_r0_104
              subst hn9
              have a_r0_2 := a_r0_104
              obtain rfl := fe_i (hq_104 1 (by decide))
              obtain rfl := fe_i (hq_104 5 (by decide))
              obtain rfl := fe_i (hq_104 6 (by decide))
              obtain rfl := fe_i (hq_104 7 (by decide))
              obtain rfl := fe_i (hq_104 8 (by decide))
              exact W.aret (v := .ref q_3) hx hb hr (Or.inl ⟨_, rfl⟩) (Or.inr ⟨_, rfl⟩) (fun t9 ht9 hW9 => ⟨⟨some q_3, ws_87, rfl, ⟨⟨_, rfl, o_q_3⟩, (fun b9 h9 => by cases h9; exact ⟨_, _, _, _, _, _, _, _, _, _, _, hk_103, rfl, hk_104, rfl, hk_99, rfl, a_r13_32, (by have q_fq2_f := fq2_f; have q_f17_32 := f17_32; have q_f22_32 := f22_32; have q_f26_32 := f26_32; have q_kq_33 := kq_33; have q_z_101 := i_len ez_101 f17_99; have q_f10_2 := f10_2; have q_fq2_ge9 := fq2_ge9; have q_b_16 := h_b_16; have q_f9_32 := f9_32; have q_f23_32 := f23_32; have q_f24_32 := f24_32; have q_f25_32 := f25_32; have q_f27_32 := f27_32; have q_c_102 := i_le c_102; have q_s_b_16 := s_b_16; have q_f11_32 := f11_32; have q_f13_32 := f13_32; have q_f15_32 := f15_32; have q_iv_86 := iv_86; have g_c1_2 := i_rg c1_2; have g_c7_2 := i_rg c7_2; have g_c8_2 := i_rg c8_2; have g_c8_32 := i_rg c8_32; have g_v2_85 := i_rg v2_85; have g_z_101 := i_rg z_101; omega)⟩)⟩, ⟨(E_6.tr (E_21.tr (E_38.tr (E_48.tr (E_58.tr (E_64.tr E_88)))))), (gF.tr (gF.mo (F' := [(6, 12), (6, 13), (6, 14), (9, 0), (9, 1), (9, 2), (9, 3), (9, 4), (9, 5), (9, 6), (9, 7), (9, 8), (9, 9), (9, 10), (9, 11), (9, 12), (9, 13), (9, 16), (9, 17)]) (C' := [(9, 5), (9, 6), (9, 7), (9, 9), (9, 10), (9, 11), (9, 12)]) (S' := none) Fr_7 (fun _ h => absurd h List.not_mem_nil) (fun _ h => absurd h List.not_mem_nil) (Or.inr rfl)) (gF.tr (gF.mo (F' := [(6, 12), (6, 13), (6, 14), (9, 0), (9, 1), (9, 2), (9, 3), (9, 4), (9, 5), (9, 6), (9, 7), (9, 8), (9, 9), (9, 10), (9, 11), (9, 12), (9, 13), (9, 16), (9, 17)]) (C' := [(9, 5), (9, 6), (9, 7), (9, 9), (9, 10), (9, 11), (9, 12)]) (S' := none) Fr_22 (fun _ h => absurd h List.not_mem_nil) (fun _ h => absurd h List.not_mem_nil) (Or.inr rfl)) (gF.tr (gF.mo (F' := [(6, 12), (6, 13), (6, 14), (9, 0), (9, 1), (9, 2), (9, 3), (9, 4), (9, 5), (9, 6), (9, 7), (9, 8), (9, 9), (9, 10), (9, 11), (9, 12), (9, 13), (9, 16), (9, 17)]) (C' := [(9, 5), (9, 6), (9, 7), (9, 9), (9, 10), (9, 11), (9, 12)]) (S' := none) Fr_39 (by decide) (fun _ h => absurd h List.not_mem_nil) (Or.inl rfl)) (gF.tr (gF.mo (F' := [(6, 12), (6, 13), (6, 14), (9, 0), (9, 1), (9, 2), (9, 3), (9, 4), (9, 5), (9, 6), (9, 7), (9, 8), (9, 9), (9, 10), (9, 11), (9, 12), (9, 13), (9, 16), (9, 17)]) (C' := [(9, 5), (9, 6), (9, 7), (9, 9), (9, 10), (9, 11), (9, 12)]) (S' := none) Fr_49 (by decide) (fun _ h => absurd h List.not_mem_nil) (Or.inl rfl)) (gF.tr (gF.mo (F' := [(6, 12), (6, 13), (6, 14), (9, 0), (9, 1), (9, 2), (9, 3), (9, 4), (9, 5), (9, 6), (9, 7), (9, 8), (9, 9), (9, 10), (9, 11), (9, 12), (9, 13), (9, 16), (9, 17)]) (C' := [(9, 5), (9, 6), (9, 7), (9, 9), (9, 10), (9, 11), (9, 12)]) (S' := none) Fr_59 (by decide) (fun _ h => absurd h List.not_mem_nil) (Or.inl rfl)) (gF.tr (gF.mo (F' := [(6, 12), (6, 13), (6, 14), (9, 0), (9, 1), (9, 2), (9, 3), (9, 4), (9, 5), (9, 6), (9, 7), (9, 8), (9, 9), (9, 10), (9, 11), (9, 12), (9, 13), (9, 16), (9, 17)]) (C' := [(9, 5), (9, 6), (9, 7), (9, 9), (9, 10), (9, 11), (9, 12)]) (S' := none) Fr_65 (fun _ h => absurd h List.not_mem_nil) (by decide) (Or.inr rfl)) (gF.mo (F' := [(6, 12), (6, 13), (6, 14), (9, 0), (9, 1), (9, 2), (9, 3), (9, 4), (9, 5), (9, 6), (9, 7), (9, 8), (9, 9), (9, 10), (9, 11), (9, 12), (9, 13), (9, 16), (9, 17)]) (C' := [(9, 5), (9, 6), (9, 7), (9, 9), (9, 10), (9, 11), (9, 12)]) (S' := none) Fr_89 (by decide) (by decide) (Or.inr rfl)))))))), hG, by rw [ht9]; exact hP, hD, _, _, by rw [ht9]; exact hLd, hcl, hsl⟩⟩, hS.F ht9⟩) hS.2.2 dX2_build_310
            · refine lv_aload_n hx hb dX2_build_209 rfl (lv_at hl 0 rfl) ?_
              obtain ⟨fs9, hk_105, hq_105⟩ := ((gA.tr (gF.a (F' := [(6, 12), (6, 13), (6, 14)]) Fr_65 (fun _ h => absurd h List.not_mem_nil)) (gF.a (F' := [(6, 12), (6, 13), (6, 14)]) Fr_89 (fun _ h => h)))) _ _ _ hk_34
              obtain ⟨r0_105, c1_105, c2_105, c3_105, c4_105, c5_105, c6_105, r7_105, n7_105, c8_105, c9_105, l10_105, c11_105, rfl, o_r0_105, a_r7_105, f2_105, f3_105, f4_105, -⟩ := (hG.1 _ _ _ _ hk_105).hX2 rfl
              obtain rfl := fe_r (hq_105 0 (by decide))
              have o_r0_1 := o_r0_105
              refine va_get (D := gD g) (ci := 2) (v := .ref r0_1) (C := RX2) (T := TX2) (N := 12) hx hb hts inX2 hown hK hP k_1 hk_105 rfl 0 (by decide) (hts _ kw_632) (fun _ h9 => h9) rfl dX2_build_210 ?_
              obtain ⟨fs9, hk_106, hq_106⟩ := ((gA.tr (gF.a (F' := [(6, 12), (6, 13), (6, 14)]) Fr_65 (fun _ h => absurd h List.not_mem_nil)) (gF.a (F' := [(6, 12), (6, 13), (6, 14)]) Fr_89 (fun _ h => h)))) _ _ _ hk_35
              obtain ⟨r0_106, n0_106, c1_106, c2_106, c3_106, r4_106, n4_106, c5_106, c6_106, c7_106, c8_106, r9_106, n9_106, r10_106, n10_106, r11_106, n11_106, c12_106, c13_106, c14_106, c15_106, c16_106, rfl, a_r0_106, f1_106, a_r4_106, f3_106, a_r9_106, f5_106, a_r10_106, f7_106, a_r11_106, f9_106, f10_106, f11_106, f12_106, f13_106, f14_106, -⟩ := (hG.1 _ _ _ _ hk_106).hX7 rfl
              obtain rfl := fe_r (hq_106 0 (by decide))
              have hn9 := gI_n hD (((E_64.tr E_88)).1 _ _ aa_76) a_r0_106
              subst hn9
              have a_r0_2 := a_r0_106
              obtain rfl := fe_i (hq_106 1 (by decide))
              obtain rfl := fe_i (hq_106 5 (by decide))
              obtain rfl := fe_i (hq_106 6 (by decide))
              obtain rfl := fe_i (hq_106 7 (by decide))
              obtain rfl := fe_i (hq_106 8 (by decide))
              refine va_get (D := gD g) (ci := 6) (v := .int c7_2) (C := RX7) (T := TX7) (N := 17) hx hb hts inX7 hown hK hP k_2 hk_106 rfl 7 (by decide) (hts _ kw_645) (fun _ h9 => h9) rfl dX2_build_213 ?_
              refine lv_iload_n hx hb dX2_build_216 rfl (lv_at hl 2 rfl) ?_
              refine lv_iadd hx hb dX2_build_217 ?_
              refine lv_topi (fun z_107 ez_107 => ?_)
              refine lv_istore_n (lv' := [(3, .int z_107), (0, .ref h0), (1, .ref q_3), (2, .int v2_85)]) hx hb dX2_build_218 rfl hl (by decide) rfl (fun ls hl => ?_)
              refine lv_aload_n hx hb dX2_build_219 rfl (lv_at hl 2 rfl) ?_
              refine va_get (D := gD g) (ci := 9) (v := .ref r9_32) (C := RX10) (T := TX10) (N := 18) hx hb hts inX10 hown hK hP k_32 hk_99 rfl 9 (by decide) (hts _ kw_662) (fun _ h9 => h9) rfl dX2_build_220 ?_
              refine lv_iload_n hx hb dX2_build_223 rfl (lv_at hl 3 rfl) ?_
              refine lv_aload_n hx hb dX2_build_224 rfl (lv_at hl 1 rfl) ?_
              refine va_get (D := gD g) (ci := 2) (v := .ref r0_1) (C := RX2) (T := TX2) (N := 12) hx hb hts inX2 hown hK hP k_1 hk_105 rfl 0 (by decide) (hts _ kw_632) (fun _ h9 => h9) rfl dX2_build_225 ?_
              refine lv_aload_n hx hb dX2_build_228 rfl (lv_at hl 1 rfl) ?_
              refine va_get (D := gD g) (ci := 2) (v := .ref r0_1) (C := RX2) (T := TX2) (N := 12) hx hb hts inX2 hown hK hP k_1 hk_105 rfl 0 (by decide) (hts _ kw_632) (fun _ h9 => h9) rfl dX2_build_229 ?_
              refine lv_iload_n hx hb dX2_build_232 rfl (lv_at hl 0 rfl) ?_
              have hFc := gfree hD hS hA
              refine va_calli (va_runV (As := [.int z_107]) (rest := [.ref r0_1, .int v2_85, .ref r9_32]) ⟨hx, hb, hml, hown, hts⟩ (m_X7_nameOf l g H.size ws_87 r0_1 (z_107) hG o_r0_1) (cwV 1 hts (gd_V kw_656 kw_1409 kw_1410 kw_710 kw_1408) rfl rfl rfl (by decide +kernel) ⟨Nat.le_of_ble_eq_true rfl, Nat.le_of_ble_eq_true rfl⟩) ⟨gblind, va_recv hK hP (ci := 6) (q0 := k_2) rfl hk_106, fun U hU hW9 => gmk hU hW9 hP hK hD hex hE hS hFc⟩ rfl rfl hl.1 rfl (lv_room (Nat.le_of_ble_eq_true rfl)) dX2_build_233 ⟨(show dc_200_2 + 0 ≤ PC ws + (10) from (by have q_f10_2 := f10_2; have q_fq2_f := fq2_f; have q_fq2_ge9 := fq2_ge9; have q_b_16 := h_b_16; have q_kq_33 := kq_33; obtain ⟨u_z_107, q_z_107⟩ := i_add ez_107; have q_s_b_16 := s_b_16; have q_f22_32 := f22_32; have q_iv_86 := iv_86; have q_c_102 := i_nle c_102; have q_f9_32 := f9_32; have q_f23_32 := f23_32; have q_f24_32 := f24_32; have q_f25_32 := f25_32; have q_f26_32 := f26_32; have q_f27_32 := f27_32; have q_z_101 := i_len ez_101 f17_99; have q_f11_32 := f11_32; have q_f13_32 := f13_32; have q_f15_32 := f15_32; have q_f17_32 := f17_32; have g_c1_2 := i_rg c1_2; have g_c7_2 := i_rg c7_2; have g_c8_2 := i_rg c8_2; have g_c8_32 := i_rg c8_32; have g_v2_85 := i_rg v2_85; have g_z_101 := i_rg z_101; have g_z_107 := i_rg z_107; omega)), (show ds_200_2 + 0 ≤ PS ws + (210 + e9.toInt.toNat) from (by have q_f10_2 := f10_2; have q_fq2_f := fq2_f; have q_fq2_ge9 := fq2_ge9; have q_b_16 := h_b_16; have q_kq_33 := kq_33; obtain ⟨u_z_107, q_z_107⟩ := i_add ez_107; have q_s_b_16 := s_b_16; have q_f22_32 := f22_32; have q_iv_86 := iv_86; have q_c_102 := i_nle c_102; have q_f9_32 := f9_32; have q_f23_32 := f23_32; have q_f24_32 := f24_32; have q_f25_32 := f25_32; have q_f26_32 := f26_32; have q_f27_32 := f27_32; have q_z_101 := i_len ez_101 f17_99; have q_f11_32 := f11_32; have q_f13_32 := f13_32; have q_f15_32 := f15_32; have q_f17_32 := f17_32; have g_c1_2 := i_rg c1_2; have g_c7_2 := i_rg c7_2; have g_c8_2 := i_rg c8_2; have g_c8_32 := i_rg c8_32; have g_v2_85 := i_rg v2_85; have g_z_101 := i_rg z_101; have g_z_107 := i_rg z_107; omega))⟩) hS (fun q _ h => hFc q h) hFc (fun r_108 u9 t9 H1 locs ht9 hvm9 hw9 hB9 hz9 hk9 hS => ?_)
              have hP : va_P (gD g) cl0 ws_87 H1 := by rw [← ht9]; exact hB9.1
              clear hB9 hz9 hk9 hvm9 ht9 hw9
              generalize H1 = H at hP hS ⊢
              have hFc := gfree hD hS hA
              refine va_calli (va_runV (As := [.int r_108]) (rest := [.int v2_85, .ref r9_32]) ⟨hx, hb, hml, hown, hts⟩ (m_X7_entryAt l g H.size ws_87 r0_1 (r_108) hG o_r0_1) (cwV 1 hts (gd_V kw_633 kw_1298 kw_1299 kw_710 kw_1297) rfl rfl rfl (by decide +kernel) ⟨Nat.le_of_ble_eq_true rfl, Nat.le_of_ble_eq_true rfl⟩) ⟨gblind, va_recv hK hP (ci := 6) (q0 := k_2) rfl hk_106, fun U hU hW9 => gmk hU hW9 hP hK hD hex hE hS hFc⟩ rfl rfl hl.1 rfl (lv_room (Nat.le_of_ble_eq_true rfl)) dX2_build_236 ⟨(show dc_200_2 + 0 ≤ PC ws + (10) from (by have q_f10_2 := f10_2; have q_fq2_f := fq2_f; have q_fq2_ge9 := fq2_ge9; have q_b_16 := h_b_16; have q_kq_33 := kq_33; obtain ⟨u_z_107, q_z_107⟩ := i_add ez_107; have q_s_b_16 := s_b_16; have q_f22_32 := f22_32; have q_iv_86 := iv_86; have q_c_102 := i_nle c_102; have q_f9_32 := f9_32; have q_f23_32 := f23_32; have q_f24_32 := f24_32; have q_f25_32 := f25_32; have q_f26_32 := f26_32; have q_f27_32 := f27_32; have q_z_101 := i_len ez_101 f17_99; have q_f11_32 := f11_32; have q_f13_32 := f13_32; have q_f15_32 := f15_32; have q_f17_32 := f17_32; have g_c1_2 := i_rg c1_2; have g_c7_2 := i_rg c7_2; have g_c8_2 := i_rg c8_2; have g_c8_32 := i_rg c8_32; have g_v2_85 := i_rg v2_85; have g_z_101 := i_rg z_101; have g_z_107 := i_rg z_107; omega)), (show ds_200_2 + 0 ≤ PS ws + (210 + e9.toInt.toNat) from (by have q_f10_2 := f10_2; have q_fq2_f := fq2_f; have q_fq2_ge9 := fq2_ge9; have q_b_16 := h_b_16; have q_kq_33 := kq_33; obtain ⟨u_z_107, q_z_107⟩ := i_add ez_107; have q_s_b_16 := s_b_16; have q_f22_32 := f22_32; have q_iv_86 := iv_86; have q_c_102 := i_nle c_102; have q_f9_32 := f9_32; have q_f23_32 := f23_32; have q_f24_32 := f24_32; have q_f25_32 := f25_32; have q_f26_32 := f26_32; have q_f27_32 := f27_32; have q_z_101 := i_len ez_101 f17_99; have q_f11_32 := f11_32; have q_f13_32 := f13_32; have q_f15_32 := f15_32; have q_f17_32 := f17_32; have g_c1_2 := i_rg c1_2; have g_c7_2 := i_rg c7_2; have g_c8_2 := i_rg c8_2; have g_c8_32 := i_rg c8_32; have g_v2_85 := i_rg v2_85; have g_z_101 := i_rg z_101; have g_z_107 := i_rg z_107; omega))⟩) hS (fun q _ h => hFc q h) hFc (fun r_109 u9 t9 H1 locs ht9 hvm9 hw9 hB9 hz9 hk9 hS => ?_)
              have hP : va_P (gD g) cl0 ws_87 H1 := by rw [← ht9]; exact hB9.1
              clear hB9 hz9 hk9 hvm9 ht9 hw9
              generalize H1 = H at hP hS ⊢
              obtain ⟨k_110, f_110, hk_110⟩ := gI_of a_r9_32
              have hC9 : hol ws_87 r9_32 [(9, 9)] := (hol_u hG.u hk_99 (j := 9) rfl a_r9_32 (by decide))
              have hS9 : holS ws_87 r9_32 none := holS_n
              refine va_iast hx hb hK hP hD hS k_110 1 hk_110 rfl (i_in2 (by have q_f9_32 := f9_32; have q_f22_32 := f22_32; have q_f23_32 := f23_32; have q_f24_32 := f24_32; have q_f25_32 := f25_32; have q_f26_32 := f26_32; have q_f27_32 := f27_32; have q_iv_86 := iv_86; have q_c_102 := i_nle c_102; obtain ⟨u_z_107, q_z_107⟩ := i_add ez_107; have q_fq2_f := fq2_f; have q_f11_32 := f11_32; have q_f13_32 := f13_32; have q_f15_32 := f15_32; have q_f17_32 := f17_32; have q_kq_33 := kq_33; have q_z_101 := i_len ez_101 f17_99; have q_f10_2 := f10_2; have q_fq2_ge9 := fq2_ge9; have q_b_16 := h_b_16; have q_s_b_16 := s_b_16; have g_c1_2 := i_rg c1_2; have g_c7_2 := i_rg c7_2; have g_c8_2 := i_rg c8_2; have g_c8_32 := i_rg c8_32; have g_v2_85 := i_rg v2_85; have g_z_101 := i_rg z_101; have g_z_107 := i_rg z_107; omega)) dX2_build_239 (fun H locs hP hD hS => ?_)
              obtain ⟨ws_111, e_ws_111⟩ : ∃ z, z = ws_87.set k_110 (r9_32, .inl (g.cI, n9_32, .inl (upd f_110 (v2_85 : Int32).toNatClampNeg r_109))) := ⟨_, rfl⟩
              have hP : va_P (gD g) cl0 ws_111 H := by rw [e_ws_111]; exact hP
              have hD : va_D A ws_111 := by rw [e_ws_111]; exact hD
              have E_112 : gE ws_87 ws_111 := gE_ari e_ws_111 hk_110
              have hG : Good g ws_111 := Good_arI e_ws_111 hk_110 hG
              have Fr_113 : gF [] [(9, 9)] none ws_87 ws_111 := gF_ar e_ws_111 hk_110 rfl hC9 hS9
              have pp_114 := Fr_113.pp
              have hk_99 := gset_arO e_ws_111 hk_110 hk_99
              have hk_105 := gset_arO e_ws_111 hk_110 hk_105
              have hk_106 := gset_arO e_ws_111 hk_110 hk_106
              have o_h0 := E_112.1 _ _ o_h0
              have o_q_3 := E_112.1 _ _ o_q_3
              have a_r0_99 := E_112.1 _ _ a_r0_99
              have a_r5_32 := E_112.1 _ _ a_r5_32
              have a_r6_32 := E_112.1 _ _ a_r6_32
              have a_r7_32 := E_112.1 _ _ a_r7_32
              have a_r9_32 := E_112.1 _ _ a_r9_32
              have a_r10_32 := E_112.1 _ _ a_r10_32
              have a_r11_32 := E_112.1 _ _ a_r11_32
              have a_r12_32 := E_112.1 _ _ a_r12_32
              have a_r13_32 := E_112.1 _ _ a_r13_32
              have a_r7_105 := E_112.1 _ _ a_r7_105
              have o_r0_1 := E_112.1 _ _ o_r0_1
              have a_r4_106 := E_112.1 _ _ a_r4_106
              have a_r9_106 := E_112.1 _ _ a_r9_106
              have a_r10_106 := E_112.1 _ _ a_r10_106
              have a_r11_106 := E_112.1 _ _ a_r11_106
              have a_r0_2 := E_112.1 _ _ a_r0_2
              refine lv_aload_n hx hb dX2_build_240 rfl (lv_at hl 2 rfl) ?_
              refine va_get (D := gD g) (ci := 9) (v := .ref r10_32) (C := RX10) (T := TX10) (N := 18) hx hb hts inX10 hown hK hP k_32 hk_99 rfl 10 (by decide) (hts _ kw_663) (fun _ h9 => h9) rfl dX2_build_241 ?_
              refine lv_iload_n hx hb dX2_build_244 rfl (lv_at hl 3 rfl) ?_
              refine lv_aload_n hx hb dX2_build_245 rfl (lv_at hl 1 rfl) ?_
              refine va_get (D := gD g) (ci := 2) (v := .ref r0_1) (C := RX2) (T := TX2) (N := 12) hx hb hts inX2 hown hK hP k_1 hk_105 rfl 0 (by decide) (hts _ kw_632) (fun _ h9 => h9) rfl dX2_build_246 ?_
              refine lv_aload_n hx hb dX2_build_249 rfl (lv_at hl 1 rfl) ?_
              refine va_get (D := gD g) (ci := 2) (v := .ref r0_1) (C := RX2) (T := TX2) (N := 12) hx hb hts inX2 hown hK hP k_1 hk_105 rfl 0 (by decide) (hts _ kw_632) (fun _ h9 => h9) rfl dX2_build_250 ?_
              refine lv_iload_n hx hb dX2_build_253 rfl (lv_at hl 0 rfl) ?_
              have hFc := gfree hD hS hA
              refine va_calli (va_runV (As := [.int z_107]) (rest := [.ref r0_1, .int v2_85, .ref r10_32]) ⟨hx, hb, hml, hown, hts⟩ (m_X7_typeOf l g H.size ws_111 r0_1 (z_107) hG o_r0_1) (cwV 1 hts (gd_V kw_658 kw_1438 kw_1439 kw_710 kw_1437) rfl rfl rfl (by decide +kernel) ⟨Nat.le_of_ble_eq_true rfl, Nat.le_of_ble_eq_true rfl⟩) ⟨gblind, va_recv hK hP (ci := 6) (q0 := k_2) rfl hk_106, fun U hU hW9 => gmk hU hW9 hP hK hD hex hE hS hFc⟩ rfl rfl hl.1 rfl (lv_room (Nat.le_of_ble_eq_true rfl)) dX2_build_254 ⟨(show dc_200_2 + 0 ≤ PC ws + (10) from (by have q_f10_2 := f10_2; have q_fq2_f := fq2_f; have q_fq2_ge9 := fq2_ge9; have q_b_16 := h_b_16; have q_kq_33 := kq_33; obtain ⟨u_z_107, q_z_107⟩ := i_add ez_107; have q_s_b_16 := s_b_16; have q_f22_32 := f22_32; have q_iv_86 := iv_86; have q_c_102 := i_nle c_102; have q_f9_32 := f9_32; have q_f23_32 := f23_32; have q_f24_32 := f24_32; have q_f25_32 := f25_32; have q_f26_32 := f26_32; have q_f27_32 := f27_32; have q_z_101 := i_len ez_101 f17_99; have q_f11_32 := f11_32; have q_f13_32 := f13_32; have q_f15_32 := f15_32; have q_f17_32 := f17_32; have g_c1_2 := i_rg c1_2; have g_c7_2 := i_rg c7_2; have g_c8_2 := i_rg c8_2; have g_c8_32 := i_rg c8_32; have g_v2_85 := i_rg v2_85; have g_z_101 := i_rg z_101; have g_z_107 := i_rg z_107; omega)), (show ds_200_2 + 0 ≤ PS ws + (210 + e9.toInt.toNat) from (by have q_f10_2 := f10_2; have q_fq2_f := fq2_f; have q_fq2_ge9 := fq2_ge9; have q_b_16 := h_b_16; have q_kq_33 := kq_33; obtain ⟨u_z_107, q_z_107⟩ := i_add ez_107; have q_s_b_16 := s_b_16; have q_f22_32 := f22_32; have q_iv_86 := iv_86; have q_c_102 := i_nle c_102; have q_f9_32 := f9_32; have q_f23_32 := f23_32; have q_f24_32 := f24_32; have q_f25_32 := f25_32; have q_f26_32 := f26_32; have q_f27_32 := f27_32; have q_z_101 := i_len ez_101 f17_99; have q_f11_32 := f11_32; have q_f13_32 := f13_32; have q_f15_32 := f15_32; have q_f17_32 := f17_32; have g_c1_2 := i_rg c1_2; have g_c7_2 := i_rg c7_2; have g_c8_2 := i_rg c8_2; have g_c8_32 := i_rg c8_32; have g_v2_85 := i_rg v2_85; have g_z_101 := i_rg z_101; have g_z_107 := i_rg z_107; omega))⟩) hS (fun q _ h => hFc q h) hFc (fun r_115 u9 t9 H1 locs ht9 hvm9 hw9 hB9 hz9 hk9 hS => ?_)
              have hP : va_P (gD g) cl0 ws_111 H1 := by rw [← ht9]; exact hB9.1
              clear hB9 hz9 hk9 hvm9 ht9 hw9
              generalize H1 = H at hP hS ⊢
              have hFc := gfree hD hS hA
              refine va_calli (va_runV (As := [.int r_115]) (rest := [.int v2_85, .ref r10_32]) ⟨hx, hb, hml, hown, hts⟩ (m_X7_entryAt l g H.size ws_111 r0_1 (r_115) hG o_r0_1) (cwV 1 hts (gd_V kw_633 kw_1298 kw_1299 kw_710 kw_1297) rfl rfl rfl (by decide +kernel) ⟨Nat.le_of_ble_eq_true rfl, Nat.le_of_ble_eq_true rfl⟩) ⟨gblind, va_recv hK hP (ci := 6) (q0 := k_2) rfl hk_106, fun U hU hW9 => gmk hU hW9 hP hK hD hex hE hS hFc⟩ rfl rfl hl.1 rfl (lv_room (Nat.le_of_ble_eq_true rfl)) dX2_build_257 ⟨(show dc_200_2 + 0 ≤ PC ws + (10) from (by have q_f10_2 := f10_2; have q_fq2_f := fq2_f; have q_fq2_ge9 := fq2_ge9; have q_b_16 := h_b_16; have q_kq_33 := kq_33; obtain ⟨u_z_107, q_z_107⟩ := i_add ez_107; have q_s_b_16 := s_b_16; have q_f22_32 := f22_32; have q_iv_86 := iv_86; have q_c_102 := i_nle c_102; have q_f9_32 := f9_32; have q_f23_32 := f23_32; have q_f24_32 := f24_32; have q_f25_32 := f25_32; have q_f26_32 := f26_32; have q_f27_32 := f27_32; have q_z_101 := i_len ez_101 f17_99; have q_f11_32 := f11_32; have q_f13_32 := f13_32; have q_f15_32 := f15_32; have q_f17_32 := f17_32; have g_c1_2 := i_rg c1_2; have g_c7_2 := i_rg c7_2; have g_c8_2 := i_rg c8_2; have g_c8_32 := i_rg c8_32; have g_v2_85 := i_rg v2_85; have g_z_101 := i_rg z_101; have g_z_107 := i_rg z_107; omega)), (show ds_200_2 + 0 ≤ PS ws + (210 + e9.toInt.toNat) from (by have q_f10_2 := f10_2; have q_fq2_f := fq2_f; have q_fq2_ge9 := fq2_ge9; have q_b_16 := h_b_16; have q_kq_33 := kq_33; obtain ⟨u_z_107, q_z_107⟩ := i_add ez_107; have q_s_b_16 := s_b_16; have q_f22_32 := f22_32; have q_iv_86 := iv_86; have q_c_102 := i_nle c_102; have q_f9_32 := f9_32; have q_f23_32 := f23_32; have q_f24_32 := f24_32; have q_f25_32 := f25_32; have q_f26_32 := f26_32; have q_f27_32 := f27_32; have q_z_101 := i_len ez_101 f17_99; have q_f11_32 := f11_32; have q_f13_32 := f13_32; have q_f15_32 := f15_32; have q_f17_32 := f17_32; have g_c1_2 := i_rg c1_2; have g_c7_2 := i_rg c7_2; have g_c8_2 := i_rg c8_2; have g_c8_32 := i_rg c8_32; have g_v2_85 := i_rg v2_85; have g_z_101 := i_rg z_101; have g_z_107 := i_rg z_107; omega))⟩) hS (fun q _ h => hFc q h) hFc (fun r_116 u9 t9 H1 locs ht9 hvm9 hw9 hB9 hz9 hk9 hS => ?_)
              have hP : va_P (gD g) cl0 ws_111 H1 := by rw [← ht9]; exact hB9.1
              clear hB9 hz9 hk9 hvm9 ht9 hw9
              generalize H1 = H at hP hS ⊢
              obtain ⟨k_117, f_117, hk_117⟩ := gI_of a_r10_32
              have hC9 : hol ws_111 r10_32 [(9, 10)] := (hol_u hG.u hk_99 (j := 10) rfl a_r10_32 (by decide))
              have hS9 : holS ws_111 r10_32 none := holS_n
              refine va_iast hx hb hK hP hD hS k_117 1 hk_117 rfl (i_in2 (by have q_f11_32 := f11_32; have q_f23_32 := f23_32; have q_iv_86 := iv_86; have q_c_102 := i_nle c_102; obtain ⟨u_z_107, q_z_107⟩ := i_add ez_107; have q_fq2_f := fq2_f; have q_f9_32 := f9_32; have q_f22_32 := f22_32; have q_f24_32 := f24_32; have q_f25_32 := f25_32; have q_f26_32 := f26_32; have q_f27_32 := f27_32; have q_z_101 := i_len ez_101 f17_99; have q_f10_2 := f10_2; have q_fq2_ge9 := fq2_ge9; have q_b_16 := h_b_16; have q_f13_32 := f13_32; have q_f15_32 := f15_32; have q_f17_32 := f17_32; have q_kq_33 := kq_33; have q_s_b_16 := s_b_16; have g_c1_2 := i_rg c1_2; have g_c7_2 := i_rg c7_2; have g_c8_2 := i_rg c8_2; have g_c8_32 := i_rg c8_32; have g_v2_85 := i_rg v2_85; have g_z_101 := i_rg z_101; have g_z_107 := i_rg z_107; omega)) dX2_build_260 (fun H locs hP hD hS => ?_)
              obtain ⟨ws_118, e_ws_118⟩ : ∃ z, z = ws_111.set k_117 (r10_32, .inl (g.cI, n10_32, .inl (upd f_117 (v2_85 : Int32).toNatClampNeg r_116))) := ⟨_, rfl⟩
              have hP : va_P (gD g) cl0 ws_118 H := by rw [e_ws_118]; exact hP
              have hD : va_D A ws_118 := by rw [e_ws_118]; exact hD
              have E_119 : gE ws_111 ws_118 := gE_ari e_ws_118 hk_117
              have hG : Good g ws_118 := Good_arI e_ws_118 hk_117 hG
              have Fr_120 : gF [] [(9, 10)] none ws_111 ws_118 := gF_ar e_ws_118 hk_117 rfl hC9 hS9
              have pp_121 := Fr_120.pp
              have hk_99 := gset_arO e_ws_118 hk_117 hk_99
              have hk_105 := gset_arO e_ws_118 hk_117 hk_105
              have hk_106 := gset_arO e_ws_118 hk_117 hk_106
              have o_h0 := E_119.1 _ _ o_h0
              have o_q_3 := E_119.1 _ _ o_q_3
              have a_r0_99 := E_119.1 _ _ a_r0_99
              have a_r5_32 := E_119.1 _ _ a_r5_32
              have a_r6_32 := E_119.1 _ _ a_r6_32
              have a_r7_32 := E_119.1 _ _ a_r7_32
              have a_r9_32 := E_119.1 _ _ a_r9_32
              have a_r10_32 := E_119.1 _ _ a_r10_32
              have a_r11_32 := E_119.1 _ _ a_r11_32
              have a_r12_32 := E_119.1 _ _ a_r12_32
              have a_r13_32 := E_119.1 _ _ a_r13_32
              have a_r7_105 := E_119.1 _ _ a_r7_105
              have o_r0_1 := E_119.1 _ _ o_r0_1
              have a_r4_106 := E_119.1 _ _ a_r4_106
              have a_r9_106 := E_119.1 _ _ a_r9_106
              have a_r10_106 := E_119.1 _ _ a_r10_106
              have a_r11_106 := E_119.1 _ _ a_r11_106
              have a_r0_2 := E_119.1 _ _ a_r0_2
              refine lv_aload_n hx hb dX2_build_261 rfl (lv_at hl 1 rfl) ?_
              refine va_get (D := gD g) (ci := 2) (v := .ref r0_1) (C := RX2) (T := TX2) (N := 12) hx hb hts inX2 hown hK hP k_1 hk_105 rfl 0 (by decide) (hts _ kw_632) (fun _ h9 => h9) rfl dX2_build_262 ?_
              refine lv_aload_n hx hb dX2_build_265 rfl (lv_at hl 1 rfl) ?_
              refine va_get (D := gD g) (ci := 2) (v := .ref r0_1) (C := RX2) (T := TX2) (N := 12) hx hb hts inX2 hown hK hP k_1 hk_105 rfl 0 (by decide) (hts _ kw_632) (fun _ h9 => h9) rfl dX2_build_266 ?_
              refine lv_iload_n hx hb dX2_build_269 rfl (lv_at hl 0 rfl) ?_
              have hFc := gfree hD hS hA
              refine va_calli (va_runV (As := [.int z_107]) (rest := [.ref r0_1]) ⟨hx, hb, hml, hown, hts⟩ (m_X7_typeOf l g H.size ws_118 r0_1 (z_107) hG o_r0_1) (cwV 1 hts (gd_V kw_658 kw_1438 kw_1439 kw_710 kw_1437) rfl rfl rfl (by decide +kernel) ⟨Nat.le_of_ble_eq_true rfl, Nat.le_of_ble_eq_true rfl⟩) ⟨gblind, va_recv hK hP (ci := 6) (q0 := k_2) rfl hk_106, fun U hU hW9 => gmk hU hW9 hP hK hD hex hE hS hFc⟩ rfl rfl hl.1 rfl (lv_room (Nat.le_of_ble_eq_true rfl)) dX2_build_270 ⟨(show dc_200_2 + 0 ≤ PC ws + (10) from (by have q_f10_2 := f10_2; have q_fq2_f := fq2_f; have q_fq2_ge9 := fq2_ge9; have q_b_16 := h_b_16; have q_kq_33 := kq_33; obtain ⟨u_z_107, q_z_107⟩ := i_add ez_107; have q_s_b_16 := s_b_16; have q_f22_32 := f22_32; have q_iv_86 := iv_86; have q_c_102 := i_nle c_102; have q_f9_32 := f9_32; have q_f23_32 := f23_32; have q_f24_32 := f24_32; have q_f25_32 := f25_32; have q_f26_32 := f26_32; have q_f27_32 := f27_32; have q_z_101 := i_len ez_101 f17_99; have q_f11_32 := f11_32; have q_f13_32 := f13_32; have q_f15_32 := f15_32; have q_f17_32 := f17_32; have g_c1_2 := i_rg c1_2; have g_c7_2 := i_rg c7_2; have g_c8_2 := i_rg c8_2; have g_c8_32 := i_rg c8_32; have g_v2_85 := i_rg v2_85; have g_z_101 := i_rg z_101; have g_z_107 := i_rg z_107; omega)), (show ds_200_2 + 0 ≤ PS ws + (210 + e9.toInt.toNat) from (by have q_f10_2 := f10_2; have q_fq2_f := fq2_f; have q_fq2_ge9 := fq2_ge9; have q_b_16 := h_b_16; have q_kq_33 := kq_33; obtain ⟨u_z_107, q_z_107⟩ := i_add ez_107; have q_s_b_16 := s_b_16; have q_f22_32 := f22_32; have q_iv_86 := iv_86; have q_c_102 := i_nle c_102; have q_f9_32 := f9_32; have q_f23_32 := f23_32; have q_f24_32 := f24_32; have q_f25_32 := f25_32; have q_f26_32 := f26_32; have q_f27_32 := f27_32; have q_z_101 := i_len ez_101 f17_99; have q_f11_32 := f11_32; have q_f13_32 := f13_32; have q_f15_32 := f15_32; have q_f17_32 := f17_32; have g_c1_2 := i_rg c1_2; have g_c7_2 := i_rg c7_2; have g_c8_2 := i_rg c8_2; have g_c8_32 := i_rg c8_32; have g_v2_85 := i_rg v2_85; have g_z_101 := i_rg z_101; have g_z_107 := i_rg z_107; omega))⟩) hS (fun q _ h => hFc q h) hFc (fun r_122 u9 t9 H1 locs ht9 hvm9 hw9 hB9 hz9 hk9 hS => ?_)
              have hP : va_P (gD g) cl0 ws_118 H1 := by rw [← ht9]; exact hB9.1
              clear hB9 hz9 hk9 hvm9 ht9 hw9
              generalize H1 = H at hP hS ⊢
              have hFc := gfree hD hS hA
              refine va_calli (va_runV (As := [.int r_122]) (rest := []) ⟨hx, hb, hml, hown, hts⟩ (m_X7_isMethodType l g H.size ws_118 r0_1 (r_122) hG o_r0_1) (cwV 1 hts (gd_V kw_664 kw_1344 kw_1345 kw_710 kw_1343) rfl rfl rfl (by decide +kernel) ⟨Nat.le_of_ble_eq_true rfl, Nat.le_of_ble_eq_true rfl⟩) ⟨gblind, va_recv hK hP (ci := 6) (q0 := k_2) rfl hk_106, fun U hU hW9 => gmk hU hW9 hP hK hD hex hE hS hFc⟩ rfl rfl hl.1 rfl (lv_room (Nat.le_of_ble_eq_true rfl)) dX2_build_273 ⟨(show dc_200_2 + 0 ≤ PC ws + (10) from (by have q_f10_2 := f10_2; have q_fq2_f := fq2_f; have q_fq2_ge9 := fq2_ge9; have q_b_16 := h_b_16; have q_kq_33 := kq_33; obtain ⟨u_z_107, q_z_107⟩ := i_add ez_107; have q_s_b_16 := s_b_16; have q_f22_32 := f22_32; have q_iv_86 := iv_86; have q_c_102 := i_nle c_102; have q_f9_32 := f9_32; have q_f23_32 := f23_32; have q_f24_32 := f24_32; have q_f25_32 := f25_32; have q_f26_32 := f26_32; have q_f27_32 := f27_32; have q_z_101 := i_len ez_101 f17_99; have q_f11_32 := f11_32; have q_f13_32 := f13_32; have q_f15_32 := f15_32; have q_f17_32 := f17_32; have g_c1_2 := i_rg c1_2; have g_c7_2 := i_rg c7_2; have g_c8_2 := i_rg c8_2; have g_c8_32 := i_rg c8_32; have g_v2_85 := i_rg v2_85; have g_z_101 := i_rg z_101; have g_z_107 := i_rg z_107; omega)), (show ds_200_2 + 0 ≤ PS ws + (210 + e9.toInt.toNat) from (by have q_f10_2 := f10_2; have q_fq2_f := fq2_f; have q_fq2_ge9 := fq2_ge9; have q_b_16 := h_b_16; have q_kq_33 := kq_33; obtain ⟨u_z_107, q_z_107⟩ := i_add ez_107; have q_s_b_16 := s_b_16; have q_f22_32 := f22_32; have q_iv_86 := iv_86; have q_c_102 := i_nle c_102; have q_f9_32 := f9_32; have q_f23_32 := f23_32; have q_f24_32 := f24_32; have q_f25_32 := f25_32; have q_f26_32 := f26_32; have q_f27_32 := f27_32; have q_z_101 := i_len ez_101 f17_99; have q_f11_32 := f11_32; have q_f13_32 := f13_32; have q_f15_32 := f15_32; have q_f17_32 := f17_32; have g_c1_2 := i_rg c1_2; have g_c7_2 := i_rg c7_2; have g_c8_2 := i_rg c8_2; have g_c8_32 := i_rg c8_32; have g_v2_85 := i_rg v2_85; have g_z_101 := i_rg z_101; have g_z_107 := i_rg z_107; omega))⟩) hS (fun q _ h => hFc q h) hFc (fun r_123 ws_124 t9 H1 locs ht9 hvm9 hw9 hB9 hz9 hk9 hS => ?_)
              obtain ⟨E_125, Fr_126, hG, hP1, hD1⟩ := hB9
              have hP : va_P (gD g) cl0 ws_124 H1 := by rw [← ht9]; exact hP1
              have hD : va_D A ws_124 := hD1.weaken (fun _ _ _ h => hFc _ h)
              have hz_r_123 : r_123 = 0 ∨ r_123 = 1 := hw9
              clear hP1 hD1 hz9 hk9 hvm9 ht9 hw9
              generalize H1 = H at hP hS ⊢
              have aa_129 := a_r0_99
              have aa_130 := a_r5_32
              have aa_131 := a_r6_32
              have aa_132 := a_r7_32
              have aa_133 := a_r9_32
              have aa_134 := a_r10_32
              have aa_135 := a_r11_32
              have aa_136 := a_r12_32
              have aa_137 := a_r13_32
              have aa_138 := a_r7_105
              have aa_139 := a_r0_2
              have aa_140 := a_r4_106
              have aa_141 := a_r9_106
              have aa_142 := a_r10_106
              have aa_143 := a_r11_106
              have o_h0 := E_125.1 _ _ o_h0
              have o_q_3 := E_125.1 _ _ o_q_3
              have pp_144 := Fr_126.pp
              refine lv_pop hx hb dX2_build_276 rfl ?_
              refine lv_aload_n hx hb dX2_build_277 rfl (lv_at hl 2 rfl) ?_
              obtain ⟨fs9, hk_145, hq_145⟩ := ((gF.a (F' := [(6, 12), (6, 13), (6, 14)]) Fr_126 (fun _ h => h))) _ _ _ hk_99
              obtain ⟨r0_145, n0_145, c1_145, c2_145, c3_145, c4_145, r5_145, n5_145, r6_145, n6_145, r7_145, n7_145, c8_145, r9_145, n9_145, r10_145, n10_145, r11_145, n11_145, r12_145, n12_145, r13_145, n13_145, c14_145, c15_145, c16_145, c17_145, rfl, a_r0_145, f1_145, a_r5_145, f3_145, a_r6_145, f5_145, a_r7_145, f7_145, a_r9_145, f9_145, a_r10_145, f11_145, a_r11_145, f13_145, a_r12_145, f15_145, a_r13_145, f17_145, hz_c15_145, f19_145, f20_145, f21_145, f22_145, f23_145, f24_145, f25_145, f26_145, f27_145, f28_145, -⟩ := (hG.1 _ _ _ _ hk_145).hX10 rfl
              obtain rfl := fe_r (hq_145 5 (by decide))
              have hn9 := gI_n hD ((E_125).1 _ _ aa_130) a_r5_145
              subst hn9
              have a_r5_32 := a_r5_145
              obtain rfl := fe_r (hq_145 6 (by decide))
              have hn9 := gI_n hD ((E_125).1 _ _ aa_131) a_r6_145
              subst hn9
              have a_r6_32 := a_r6_145
              obtain rfl := fe_r (hq_145 7 (by decide))
              have hn9 := gI_n hD ((E_125).1 _ _ aa_132) a_r7_145
              subst hn9
              have a_r7_32 := a_r7_145
              obtain rfl := fe_i (hq_145 8 (by decide))
              obtain rfl := fe_r (hq_145 9 (by decide))
              have hn9 := gI_n hD ((E_125).1 _ _ aa_133) a_r9_145
              subst hn9
              have a_r9_32 := a_r9_145
              obtain rfl := fe_r (hq_145 10 (by decide))
              have hn9 := gI_n hD ((E_125).1 _ _ aa_134) a_r10_145
              subst hn9
              have a_r10_32 := a_r10_145
              obtain rfl := fe_r (hq_145 11 (by decide))
              have hn9 := gI_n hD ((E_125).1 _ _ aa_135) a_r11_145
              subst hn9
              have a_r11_32 := a_r11_145
              obtain rfl := fe_r (hq_145 12 (by decide))
              have hn9 := gI_n hD ((E_125).1 _ _ aa_136) a_r12_145
              subst hn9
              have a_r12_32 := a_r12_145
              obtain rfl := fe_r (hq_145 13 (by decide))
              have hn9 := gI_n hD ((E_125).1 _ _ aa_137) a_r13_145
              subst hn9
              have a_r13_32 := a_r13_145
              refine va_get (D := gD g) (ci := 9) (v := .ref r11_32) (C := RX10) (T := TX10) (N := 18) hx hb hts inX10 hown hK hP k_32 hk_145 rfl 11 (by decide) (hts _ kw_665) (fun _ h9 => h9) rfl dX2_build_278 ?_
              refine lv_iload_n hx hb dX2_build_281 rfl (lv_at hl 3 rfl) ?_
              refine lv_aload_n hx hb dX2_build_282 rfl (lv_at hl 1 rfl) ?_
              obtain ⟨fs9, hk_146, hq_146⟩ := ((gF.a (F' := [(6, 12), (6, 13), (6, 14)]) Fr_126 (fun _ h => h))) _ _ _ hk_105
              obtain ⟨r0_146, c1_146, c2_146, c3_146, c4_146, c5_146, c6_146, r7_146, n7_146, c8_146, c9_146, l10_146, c11_146, rfl, o_r0_146, a_r7_146, f2_146, f3_146, f4_146, -⟩ := (hG.1 _ _ _ _ hk_146).hX2 rfl
              obtain rfl := fe_r (hq_146 0 (by decide))
              have o_r0_1 := o_r0_146
              refine va_get (D := gD g) (ci := 2) (v := .ref r0_1) (C := RX2) (T := TX2) (N := 12) hx hb hts inX2 hown hK hP k_1 hk_146 rfl 0 (by decide) (hts _ kw_632) (fun _ h9 => h9) rfl dX2_build_283 ?_
              obtain ⟨fs9, hk_147, hq_147⟩ := ((gF.a (F' := [(6, 12), (6, 13), (6, 14)]) Fr_126 (fun _ h => h))) _ _ _ hk_106
              obtain ⟨r0_147, n0_147, c1_147, c2_147, c3_147, r4_147, n4_147, c5_147, c6_147, c7_147, c8_147, r9_147, n9_147, r10_147, n10_147, r11_147, n11_147, c12_147, c13_147, c14_147, c15_147, c16_147, rfl, a_r0_147, f1_147, a_r4_147, f3_147, a_r9_147, f5_147, a_r10_147, f7_147, a_r11_147, f9_147, f10_147, f11_147, f12_147, f13_147, f14_147, -⟩ := (hG.1 _ _ _ _ hk_147).hX7 rfl
              obtain rfl := fe_r (hq_147 0 (by decide))
              have hn9 := gI_n hD ((E_125).1 _ _ aa_139) a_r0_147
              subst hn9
              have a_r0_2 := a_r0_147
              obtain rfl := fe_i (hq_147 1 (by decide))
              obtain rfl := fe_i (hq_147 5 (by decide))
              obtain rfl := fe_i (hq_147 6 (by decide))
              obtain rfl := fe_i (hq_147 7 (by decide))
              obtain rfl := fe_i (hq_147 8 (by decide))
              refine va_get (D := gD g) (ci := 6) (v := .int c12_147) (C := RX7) (T := TX7) (N := 17) hx hb hts inX7 hown hK hP k_2 hk_147 rfl 12 (by decide) (hts _ kw_666) (fun _ h9 => h9) rfl dX2_build_286 ?_
              obtain ⟨k_148, f_148, hk_148⟩ := gI_of a_r11_32
              have hC9 : hol ws_124 r11_32 [(9, 11)] := (hol_u hG.u hk_145 (j := 11) rfl a_r11_32 (by decide))
              have hS9 : holS ws_124 r11_32 none := holS_n
              refine va_iast hx hb hK hP hD hS k_148 1 hk_148 rfl (i_in2 (by have q_f13_32 := f13_32; have q_f24_32 := f24_32; have q_iv_86 := iv_86; have q_c_102 := i_nle c_102; obtain ⟨u_z_107, q_z_107⟩ := i_add ez_107; have q_fq2_f := fq2_f; have q_f9_32 := f9_32; have q_f22_32 := f22_32; have q_f23_32 := f23_32; have q_f25_32 := f25_32; have q_f26_32 := f26_32; have q_f27_32 := f27_32; have q_z_101 := i_len ez_101 f17_99; have q_f10_2 := f10_2; have q_fq2_ge9 := fq2_ge9; have q_b_16 := h_b_16; have q_f11_32 := f11_32; have q_f15_32 := f15_32; have q_f17_32 := f17_32; have q_kq_33 := kq_33; have q_s_b_16 := s_b_16; have g_c1_2 := i_rg c1_2; have g_c7_2 := i_rg c7_2; have g_c8_2 := i_rg c8_2; have g_c8_32 := i_rg c8_32; have g_v2_85 := i_rg v2_85; have g_z_101 := i_rg z_101; have g_z_107 := i_rg z_107; omega)) dX2_build_289 (fun H locs hP hD hS => ?_)
              obtain ⟨ws_149, e_ws_149⟩ : ∃ z, z = ws_124.set k_148 (r11_32, .inl (g.cI, n11_32, .inl (upd f_148 (v2_85 : Int32).toNatClampNeg c12_147))) := ⟨_, rfl⟩
              have hP : va_P (gD g) cl0 ws_149 H := by rw [e_ws_149]; exact hP
              have hD : va_D A ws_149 := by rw [e_ws_149]; exact hD
              have E_150 : gE ws_124 ws_149 := gE_ari e_ws_149 hk_148
              have hG : Good g ws_149 := Good_arI e_ws_149 hk_148 hG
              have Fr_151 : gF [] [(9, 11)] none ws_124 ws_149 := gF_ar e_ws_149 hk_148 rfl hC9 hS9
              have pp_152 := Fr_151.pp
              have hk_145 := gset_arO e_ws_149 hk_148 hk_145
              have hk_146 := gset_arO e_ws_149 hk_148 hk_146
              have hk_147 := gset_arO e_ws_149 hk_148 hk_147
              have o_h0 := E_150.1 _ _ o_h0
              have o_q_3 := E_150.1 _ _ o_q_3
              have a_r0_145 := E_150.1 _ _ a_r0_145
              have a_r5_32 := E_150.1 _ _ a_r5_32
              have a_r6_32 := E_150.1 _ _ a_r6_32
              have a_r7_32 := E_150.1 _ _ a_r7_32
              have a_r9_32 := E_150.1 _ _ a_r9_32
              have a_r10_32 := E_150.1 _ _ a_r10_32
              have a_r11_32 := E_150.1 _ _ a_r11_32
              have a_r12_32 := E_150.1 _ _ a_r12_32
              have a_r13_32 := E_150.1 _ _ a_r13_32
              have a_r7_146 := E_150.1 _ _ a_r7_146
              have o_r0_1 := E_150.1 _ _ o_r0_1
              have a_r4_147 := E_150.1 _ _ a_r4_147
              have a_r9_147 := E_150.1 _ _ a_r9_147
              have a_r10_147 := E_150.1 _ _ a_r10_147
              have a_r11_147 := E_150.1 _ _ a_r11_147
              have a_r0_2 := E_150.1 _ _ a_r0_2
              refine lv_aload_n hx hb dX2_build_290 rfl (lv_at hl 2 rfl) ?_
              refine va_get (D := gD g) (ci := 9) (v := .ref r12_32) (C := RX10) (T := TX10) (N := 18) hx hb hts inX10 hown hK hP k_32 hk_145 rfl 12 (by decide) (hts _ kw_667) (fun _ h9 => h9) rfl dX2_build_291 ?_
              refine lv_iload_n hx hb dX2_build_294 rfl (lv_at hl 3 rfl) ?_
              refine lv_aload_n hx hb dX2_build_295 rfl (lv_at hl 1 rfl) ?_
              refine va_get (D := gD g) (ci := 2) (v := .ref r0_1) (C := RX2) (T := TX2) (N := 12) hx hb hts inX2 hown hK hP k_1 hk_146 rfl 0 (by decide) (hts _ kw_632) (fun _ h9 => h9) rfl dX2_build_296 ?_
              refine va_get (D := gD g) (ci := 6) (v := .int c14_147) (C := RX7) (T := TX7) (N := 17) hx hb hts inX7 hown hK hP k_2 hk_147 rfl 14 (by decide) (hts _ kw_668) (fun _ h9 => h9) rfl dX2_build_299 ?_
              obtain ⟨k_153, f_153, hk_153⟩ := gI_of a_r12_32
              have hC9 : hol ws_149 r12_32 [(9, 12)] := (hol_u hG.u hk_145 (j := 12) rfl a_r12_32 (by decide))
              have hS9 : holS ws_149 r12_32 none := holS_n
              refine va_iast hx hb hK hP hD hS k_153 1 hk_153 rfl (i_in2 (by have q_f15_32 := f15_32; have q_f25_32 := f25_32; have q_iv_86 := iv_86; have q_c_102 := i_nle c_102; obtain ⟨u_z_107, q_z_107⟩ := i_add ez_107; have q_fq2_f := fq2_f; have q_f9_32 := f9_32; have q_f22_32 := f22_32; have q_f23_32 := f23_32; have q_f24_32 := f24_32; have q_f26_32 := f26_32; have q_f27_32 := f27_32; have q_z_101 := i_len ez_101 f17_99; have q_f10_2 := f10_2; have q_fq2_ge9 := fq2_ge9; have q_b_16 := h_b_16; have q_f11_32 := f11_32; have q_f13_32 := f13_32; have q_f17_32 := f17_32; have q_kq_33 := kq_33; have q_s_b_16 := s_b_16; have g_c1_2 := i_rg c1_2; have g_c7_2 := i_rg c7_2; have g_c8_2 := i_rg c8_2; have g_c8_32 := i_rg c8_32; have g_v2_85 := i_rg v2_85; have g_z_101 := i_rg z_101; have g_z_107 := i_rg z_107; omega)) dX2_build_302 (fun H locs hP hD hS => ?_)
              obtain ⟨ws_154, e_ws_154⟩ : ∃ z, z = ws_149.set k_153 (r12_32, .inl (g.cI, n12_32, .inl (upd f_153 (v2_85 : Int32).toNatClampNeg c14_147))) := ⟨_, rfl⟩
              have hP : va_P (gD g) cl0 ws_154 H := by rw [e_ws_154]; exact hP
              have hD : va_D A ws_154 := by rw [e_ws_154]; exact hD
              have E_155 : gE ws_149 ws_154 := gE_ari e_ws_154 hk_153
              have hG : Good g ws_154 := Good_arI e_ws_154 hk_153 hG
              have Fr_156 : gF [] [(9, 12)] none ws_149 ws_154 := gF_ar e_ws_154 hk_153 rfl hC9 hS9
              have pp_157 := Fr_156.pp
              have hk_145 := gset_arO e_ws_154 hk_153 hk_145
              have hk_146 := gset_arO e_ws_154 hk_153 hk_146
              have hk_147 := gset_arO e_ws_154 hk_153 hk_147
              have o_h0 := E_155.1 _ _ o_h0
              have o_q_3 := E_155.1 _ _ o_q_3
              have a_r0_145 := E_155.1 _ _ a_r0_145
              have a_r5_32 := E_155.1 _ _ a_r5_32
              have a_r6_32 := E_155.1 _ _ a_r6_32
              have a_r7_32 := E_155.1 _ _ a_r7_32
              have a_r9_32 := E_155.1 _ _ a_r9_32
              have a_r10_32 := E_155.1 _ _ a_r10_32
              have a_r11_32 := E_155.1 _ _ a_r11_32
              have a_r12_32 := E_155.1 _ _ a_r12_32
              have a_r13_32 := E_155.1 _ _ a_r13_32
              have a_r7_146 := E_155.1 _ _ a_r7_146
              have o_r0_1 := E_155.1 _ _ o_r0_1
              have a_r4_147 := E_155.1 _ _ a_r4_147
              have a_r9_147 := E_155.1 _ _ a_r9_147
              have a_r10_147 := E_155.1 _ _ a_r10_147
              have a_r11_147 := E_155.1 _ _ a_r11_147
              have a_r0_2 := E_155.1 _ _ a_r0_2
              obtain ⟨z_158, ez_158⟩ : ∃ z : Int32, v2_85 + Int32.ofInt 1 = z := ⟨_, rfl⟩
              refine lv_iinc (v := z_158) (lv' := [(2, .int z_158), (3, .int z_107), (0, .ref h0), (1, .ref q_3)]) hx hb dX2_build_303 hl (k := 3) rfl ez_158 (by decide) rfl (fun ls hl => ?_)
              refine lv_goto (tgt := 200) hx hb dX2_build_306 (by decide) ?_
              exact ih_200 _ (by obtain ⟨u_z_158, q_z_158⟩ := i_iz ez_158 (by decide) (by decide); have q_iv_86 := iv_86; have q_c_102 := i_nle c_102; obtain ⟨u_z_107, q_z_107⟩ := i_add ez_107; have q_fq2_f := fq2_f; have q_z_101 := i_len ez_101 f17_99; have q_f10_2 := f10_2; have q_fq2_ge9 := fq2_ge9; have q_b_16 := h_b_16; have q_f17_32 := f17_32; have q_f26_32 := f26_32; have q_kq_33 := kq_33; have g_c1_2 := i_rg c1_2; have g_c7_2 := i_rg c7_2; have g_c8_2 := i_rg c8_2; have g_c8_32 := i_rg c8_32; have g_v2_85 := i_rg v2_85; have g_z_101 := i_rg z_101; have g_z_107 := i_rg z_107; have g_z_158 := i_rg z_158; omega) (z_158) (dc_200_2) (ds_200_2) ws_154 H locs ls rfl (by obtain ⟨u_z_158, q_z_158⟩ := i_iz ez_158 (by decide) (by decide); have q_iv_86 := iv_86; have q_c_102 := i_nle c_102; obtain ⟨u_z_107, q_z_107⟩ := i_add ez_107; have q_fq2_f := fq2_f; have q_z_101 := i_len ez_101 f17_99; have q_f10_2 := f10_2; have q_fq2_ge9 := fq2_ge9; have q_b_16 := h_b_16; have q_f17_32 := f17_32; have q_f26_32 := f26_32; have q_kq_33 := kq_33; have g_c1_2 := i_rg c1_2; have g_c7_2 := i_rg c7_2; have g_c8_2 := i_rg c8_2; have g_c8_32 := i_rg c8_32; have g_v2_85 := i_rg v2_85; have g_z_101 := i_rg z_101; have g_z_107 := i_rg z_107; have g_z_158 := i_rg z_158; omega) ((E_88.tr (E_112.tr (E_119.tr (E_125.tr (E_150.tr E_155)))))) ((gF.tr Fr_89 (gF.tr (gF.mo (F' := [(6, 12), (6, 13), (6, 14)]) (C' := [(9, 9), (9, 10), (9, 11), (9, 12)]) (S' := none) Fr_113 (fun _ h => absurd h List.not_mem_nil) (by decide) (Or.inr rfl)) (gF.tr (gF.mo (F' := [(6, 12), (6, 13), (6, 14)]) (C' := [(9, 9), (9, 10), (9, 11), (9, 12)]) (S' := none) Fr_120 (fun _ h => absurd h List.not_mem_nil) (by decide) (Or.inr rfl)) (gF.tr (gF.mo (F' := [(6, 12), (6, 13), (6, 14)]) (C' := [(9, 9), (9, 10), (9, 11), (9, 12)]) (S' := none) Fr_126 (fun _ h => h) (fun _ h => absurd h List.not_mem_nil) (Or.inr rfl)) (gF.tr (gF.mo (F' := [(6, 12), (6, 13), (6, 14)]) (C' := [(9, 9), (9, 10), (9, 11), (9, 12)]) (S' := none) Fr_151 (fun _ h => absurd h List.not_mem_nil) (by decide) (Or.inr rfl)) (gF.mo (F' := [(6, 12), (6, 13), (6, 14)]) (C' := [(9, 9), (9, 10), (9, 11), (9, 12)]) (S' := none) Fr_156 (fun _ h => absurd h List.not_mem_nil) (by decide) (Or.inr rfl)))))))) hG (by have q_f10_2 := f10_2; have q_fq2_f := fq2_f; have q_fq2_ge9 := fq2_ge9; have q_b_16 := h_b_16; have q_kq_33 := kq_33; obtain ⟨u_z_107, q_z_107⟩ := i_add ez_107; have q_s_b_16 := s_b_16; have q_f22_32 := f22_32; have q_iv_86 := iv_86; have q_c_102 := i_nle c_102; obtain ⟨u_z_158, q_z_158⟩ := i_iz ez_158 (by decide) (by decide); have q_f9_32 := f9_32; have q_f23_32 := f23_32; have q_f24_32 := f24_32; have q_f25_32 := f25_32; have q_f26_32 := f26_32; have q_f27_32 := f27_32; have q_z_101 := i_len ez_101 f17_99; have q_f11_32 := f11_32; have q_f13_32 := f13_32; have q_f15_32 := f15_32; have q_f17_32 := f17_32; have g_c1_2 := i_rg c1_2; have g_c7_2 := i_rg c7_2; have g_c8_2 := i_rg c8_2; have g_c8_32 := i_rg c8_32; have g_v2_85 := i_rg v2_85; have g_z_101 := i_rg z_101; have g_z_107 := i_rg z_107; have g_z_158 := i_rg z_158; omega) (by have q_f10_2 := f10_2; have q_fq2_f := fq2_f; have q_fq2_ge9 := fq2_ge9; have q_b_16 := h_b_16; have q_kq_33 := kq_33; obtain ⟨u_z_107, q_z_107⟩ := i_add ez_107; have q_s_b_16 := s_b_16; have q_f22_32 := f22_32; have q_iv_86 := iv_86; have q_c_102 := i_nle c_102; obtain ⟨u_z_158, q_z_158⟩ := i_iz ez_158 (by decide) (by decide); have q_f9_32 := f9_32; have q_f23_32 := f23_32; have q_f24_32 := f24_32; have q_f25_32 := f25_32; have q_f26_32 := f26_32; have q_f27_32 := f27_32; have q_z_101 := i_len ez_101 f17_99; have q_f11_32 := f11_32; have q_f13_32 := f13_32; have q_f15_32 := f15_32; have q_f17_32 := f17_32; have g_c1_2 := i_rg c1_2; have g_c7_2 := i_rg c7_2; have g_c8_2 := i_rg c8_2; have g_c8_32 := i_rg c8_32; have g_v2_85 := i_rg v2_85; have g_z_101 := i_rg z_101; have g_z_107 := i_rg z_107; have g_z_158 := i_rg z_158; omega) hP hD hS (lv_sub hl [2, 3, 0] rfl)
        exact J_200 _ (0) (dc_120_1) (ds_120_1) ws_63 H locs ls rfl (by have e0 : (0 : Int32).toInt = 0 := (by decide); omega) (gE.rf) (gF.rf) hG (by have q_f10_2 := f10_2; have q_fq2_f := fq2_f; have q_fq2_ge9 := fq2_ge9; have q_b_16 := h_b_16; have q_kq_33 := kq_33; have q_s_b_16 := s_b_16; have q_f22_32 := f22_32; have q_f9_32 := f9_32; have q_f23_32 := f23_32; have q_f24_32 := f24_32; have q_f25_32 := f25_32; have q_f26_32 := f26_32; have q_f27_32 := f27_32; have q_f11_32 := f11_32; have q_f13_32 := f13_32; have q_f15_32 := f15_32; have q_f17_32 := f17_32; have g_c1_2 := i_rg c1_2; have g_c7_2 := i_rg c7_2; have g_c8_2 := i_rg c8_2; have g_c8_32 := i_rg c8_32; omega) (by have q_f10_2 := f10_2; have q_fq2_f := fq2_f; have q_fq2_ge9 := fq2_ge9; have q_b_16 := h_b_16; have q_kq_33 := kq_33; have q_s_b_16 := s_b_16; have q_f22_32 := f22_32; have q_f9_32 := f9_32; have q_f23_32 := f23_32; have q_f24_32 := f24_32; have q_f25_32 := f25_32; have q_f26_32 := f26_32; have q_f27_32 := f27_32; have q_f11_32 := f11_32; have q_f13_32 := f13_32; have q_f15_32 := f15_32; have q_f17_32 := f17_32; have g_c1_2 := i_rg c1_2; have g_c7_2 := i_rg c7_2; have g_c8_2 := i_rg c8_2; have g_c8_32 := i_rg c8_32; omega) hP hD hS (lv_sub hl [1, 2, 0] rfl)
      · refine lv_aload_n hx hb dX2_build_129 rfl (lv_at hl 1 rfl) ?_
        refine va_get (D := gD g) (ci := 9) (v := .ref r5_32) (C := RX10) (T := TX10) (N := 18) hx hb hts inX10 hown hK hP k_32 hk_81 rfl 5 (by decide) (hts _ kw_655) (fun _ h9 => h9) rfl dX2_build_130 ?_
        refine lv_iload_n hx hb dX2_build_133 rfl (lv_at hl 2 rfl) ?_
        refine lv_aload_n hx hb dX2_build_134 rfl (lv_at hl 0 rfl) ?_
        obtain ⟨fs9, hk_159, hq_159⟩ := ((gF.a (F' := []) Fr_65 (fun _ h => h))) _ _ _ hk_34
        obtain ⟨r0_159, c1_159, c2_159, c3_159, c4_159, c5_159, c6_159, r7_159, n7_159, c8_159, c9_159, l10_159, c11_159, rfl, o_r0_159, a_r7_159, f2_159, f3_159, f4_159, -⟩ := (hG.1 _ _ _ _ hk_159).hX2 rfl
        obtain rfl := fe_r (hq_159 0 (by decide))
        have o_r0_1 := o_r0_159
        refine va_get (D := gD g) (ci := 2) (v := .ref r0_1) (C := RX2) (T := TX2) (N := 12) hx hb hts inX2 hown hK hP k_1 hk_159 rfl 0 (by decide) (hts _ kw_632) (fun _ h9 => h9) rfl dX2_build_135 ?_
        refine lv_aload_n hx hb dX2_build_138 rfl (lv_at hl 0 rfl) ?_
        refine va_get (D := gD g) (ci := 2) (v := .ref r0_1) (C := RX2) (T := TX2) (N := 12) hx hb hts inX2 hown hK hP k_1 hk_159 rfl 0 (by decide) (hts _ kw_632) (fun _ h9 => h9) rfl dX2_build_139 ?_
        refine lv_iload_n hx hb dX2_build_142 rfl (lv_at hl 2 rfl) ?_
        have hFc := gfree hD hS hA
        obtain ⟨k_160, fs_160, hk_160⟩ := gC_of o_r0_1
        refine va_calli (va_runV (As := [.int v2_61]) (rest := [.ref r0_1, .int v2_61, .ref r5_32]) ⟨hx, hb, hml, hown, hts⟩ (m_X7_nameOf l g H.size ws_63 r0_1 (v2_61) hG o_r0_1) (cwV 1 hts (gd_V kw_656 kw_1409 kw_1410 kw_710 kw_1408) rfl rfl rfl (by decide +kernel) ⟨Nat.le_of_ble_eq_true rfl, Nat.le_of_ble_eq_true rfl⟩) ⟨gblind, va_recv hK hP (ci := 6) (q0 := k_160) rfl hk_160, fun U hU hW9 => gmk hU hW9 hP hK hD hex hE hS hFc⟩ rfl rfl hl.1 rfl (lv_room (Nat.le_of_ble_eq_true rfl)) dX2_build_143 ⟨(show dc_120_1 + 0 ≤ PC ws + (10) from (by have q_f10_2 := f10_2; have q_fq2_f := fq2_f; have q_fq2_ge9 := fq2_ge9; have q_b_16 := h_b_16; have q_kq_33 := kq_33; have q_s_b_16 := s_b_16; have q_f22_32 := f22_32; have q_f9_32 := f9_32; have q_f23_32 := f23_32; have q_f24_32 := f24_32; have q_f25_32 := f25_32; have q_f26_32 := f26_32; have q_f27_32 := f27_32; have q_f11_32 := f11_32; have q_f13_32 := f13_32; have q_f15_32 := f15_32; have q_f17_32 := f17_32; have g_c1_2 := i_rg c1_2; have g_c7_2 := i_rg c7_2; have g_c8_2 := i_rg c8_2; have g_c8_32 := i_rg c8_32; omega)), (show ds_120_1 + 0 ≤ PS ws + (210 + e9.toInt.toNat) from (by have q_f10_2 := f10_2; have q_fq2_f := fq2_f; have q_fq2_ge9 := fq2_ge9; have q_b_16 := h_b_16; have q_kq_33 := kq_33; have q_s_b_16 := s_b_16; have q_f22_32 := f22_32; have q_f9_32 := f9_32; have q_f23_32 := f23_32; have q_f24_32 := f24_32; have q_f25_32 := f25_32; have q_f26_32 := f26_32; have q_f27_32 := f27_32; have q_f11_32 := f11_32; have q_f13_32 := f13_32; have q_f15_32 := f15_32; have q_f17_32 := f17_32; have g_c1_2 := i_rg c1_2; have g_c7_2 := i_rg c7_2; have g_c8_2 := i_rg c8_2; have g_c8_32 := i_rg c8_32; omega))⟩) hS (fun q _ h => hFc q h) hFc (fun r_161 u9 t9 H1 locs ht9 hvm9 hw9 hB9 hz9 hk9 hS => ?_)
        have hP : va_P (gD g) cl0 ws_63 H1 := by rw [← ht9]; exact hB9.1
        clear hB9 hz9 hk9 hvm9 ht9 hw9
        generalize H1 = H at hP hS ⊢
        have hFc := gfree hD hS hA
        obtain ⟨k_162, fs_162, hk_162⟩ := gC_of o_r0_1
        refine va_calli (va_runV (As := [.int r_161]) (rest := [.int v2_61, .ref r5_32]) ⟨hx, hb, hml, hown, hts⟩ (m_X7_entryAt l g H.size ws_63 r0_1 (r_161) hG o_r0_1) (cwV 1 hts (gd_V kw_633 kw_1298 kw_1299 kw_710 kw_1297) rfl rfl rfl (by decide +kernel) ⟨Nat.le_of_ble_eq_true rfl, Nat.le_of_ble_eq_true rfl⟩) ⟨gblind, va_recv hK hP (ci := 6) (q0 := k_162) rfl hk_162, fun U hU hW9 => gmk hU hW9 hP hK hD hex hE hS hFc⟩ rfl rfl hl.1 rfl (lv_room (Nat.le_of_ble_eq_true rfl)) dX2_build_146 ⟨(show dc_120_1 + 0 ≤ PC ws + (10) from (by have q_f10_2 := f10_2; have q_fq2_f := fq2_f; have q_fq2_ge9 := fq2_ge9; have q_b_16 := h_b_16; have q_kq_33 := kq_33; have q_s_b_16 := s_b_16; have q_f22_32 := f22_32; have q_f9_32 := f9_32; have q_f23_32 := f23_32; have q_f24_32 := f24_32; have q_f25_32 := f25_32; have q_f26_32 := f26_32; have q_f27_32 := f27_32; have q_f11_32 := f11_32; have q_f13_32 := f13_32; have q_f15_32 := f15_32; have q_f17_32 := f17_32; have g_c1_2 := i_rg c1_2; have g_c7_2 := i_rg c7_2; have g_c8_2 := i_rg c8_2; have g_c8_32 := i_rg c8_32; omega)), (show ds_120_1 + 0 ≤ PS ws + (210 + e9.toInt.toNat) from (by have q_f10_2 := f10_2; have q_fq2_f := fq2_f; have q_fq2_ge9 := fq2_ge9; have q_b_16 := h_b_16; have q_kq_33 := kq_33; have q_s_b_16 := s_b_16; have q_f22_32 := f22_32; have q_f9_32 := f9_32; have q_f23_32 := f23_32; have q_f24_32 := f24_32; have q_f25_32 := f25_32; have q_f26_32 := f26_32; have q_f27_32 := f27_32; have q_f11_32 := f11_32; have q_f13_32 := f13_32; have q_f15_32 := f15_32; have q_f17_32 := f17_32; have g_c1_2 := i_rg c1_2; have g_c7_2 := i_rg c7_2; have g_c8_2 := i_rg c8_2; have g_c8_32 := i_rg c8_32; omega))⟩) hS (fun q _ h => hFc q h) hFc (fun r_163 u9 t9 H1 locs ht9 hvm9 hw9 hB9 hz9 hk9 hS => ?_)
        have hP : va_P (gD g) cl0 ws_63 H1 := by rw [← ht9]; exact hB9.1
        clear hB9 hz9 hk9 hvm9 ht9 hw9
        generalize H1 = H at hP hS ⊢
        have hC9 : hol ws_63 r5_32 [(9, 5)] := (hol_u hG.u hk_81 (j := 5) rfl a_r5_32 (by decide))
        have hS9 : holS ws_63 r5_32 none := holS_n
        refine va_iast hx hb hK hP hD hS k_82 1 hk_82 rfl (i_in2 (by have q_f3_32 := f3_32; have q_f19_32 := f19_32; have q_f20_32 := f20_32; have q_f21_32 := f21_32; have q_f28_32 := f28_32; have q_iv_62 := iv_62; have q_f19_81 := f19_81; have q_z_83 := i_len ez_83 f3_81; have q_c_84 := i_nle c_84; have q_f5_32 := f5_32; have q_f7_32 := f7_32; have g_c4_32 := i_rg c4_32; have g_c4_81 := i_rg c4_81; have g_v2_61 := i_rg v2_61; have g_z_83 := i_rg z_83; omega)) dX2_build_149 (fun H locs hP hD hS => ?_)
        obtain ⟨ws_164, e_ws_164⟩ : ∃ z, z = ws_63.set k_82 (r5_32, .inl (g.cI, n5_32, .inl (upd f_82 (v2_61 : Int32).toNatClampNeg r_163))) := ⟨_, rfl⟩
        have hP : va_P (gD g) cl0 ws_164 H := by rw [e_ws_164]; exact hP
        have hD : va_D A ws_164 := by rw [e_ws_164]; exact hD
        have E_165 : gE ws_63 ws_164 := gE_ari e_ws_164 hk_82
        have hG : Good g ws_164 := Good_arI e_ws_164 hk_82 hG
        have Fr_166 : gF [] [(9, 5)] none ws_63 ws_164 := gF_ar e_ws_164 hk_82 rfl hC9 hS9
        have pp_167 := Fr_166.pp
        have hk_81 := gset_arO e_ws_164 hk_82 hk_81
        have hk_159 := gset_arO e_ws_164 hk_82 hk_159
        have o_h0 := E_165.1 _ _ o_h0
        have o_q_3 := E_165.1 _ _ o_q_3
        have a_r0_81 := E_165.1 _ _ a_r0_81
        have a_r5_32 := E_165.1 _ _ a_r5_32
        have a_r6_32 := E_165.1 _ _ a_r6_32
        have a_r7_32 := E_165.1 _ _ a_r7_32
        have a_r9_32 := E_165.1 _ _ a_r9_32
        have a_r10_32 := E_165.1 _ _ a_r10_32
        have a_r11_32 := E_165.1 _ _ a_r11_32
        have a_r12_32 := E_165.1 _ _ a_r12_32
        have a_r13_32 := E_165.1 _ _ a_r13_32
        have a_r7_159 := E_165.1 _ _ a_r7_159
        have o_r0_1 := E_165.1 _ _ o_r0_1
        refine lv_aload_n hx hb dX2_build_150 rfl (lv_at hl 1 rfl) ?_
        refine va_get (D := gD g) (ci := 9) (v := .ref r6_32) (C := RX10) (T := TX10) (N := 18) hx hb hts inX10 hown hK hP k_32 hk_81 rfl 6 (by decide) (hts _ kw_657) (fun _ h9 => h9) rfl dX2_build_151 ?_
        refine lv_iload_n hx hb dX2_build_154 rfl (lv_at hl 2 rfl) ?_
        refine lv_aload_n hx hb dX2_build_155 rfl (lv_at hl 0 rfl) ?_
        refine va_get (D := gD g) (ci := 2) (v := .ref r0_1) (C := RX2) (T := TX2) (N := 12) hx hb hts inX2 hown hK hP k_1 hk_159 rfl 0 (by decide) (hts _ kw_632) (fun _ h9 => h9) rfl dX2_build_156 ?_
        refine lv_aload_n hx hb dX2_build_159 rfl (lv_at hl 0 rfl) ?_
        refine va_get (D := gD g) (ci := 2) (v := .ref r0_1) (C := RX2) (T := TX2) (N := 12) hx hb hts inX2 hown hK hP k_1 hk_159 rfl 0 (by decide) (hts _ kw_632) (fun _ h9 => h9) rfl dX2_build_160 ?_
        refine lv_iload_n hx hb dX2_build_163 rfl (lv_at hl 2 rfl) ?_
        have hFc := gfree hD hS hA
        obtain ⟨k_168, fs_168, hk_168⟩ := gC_of o_r0_1
        refine va_calli (va_runV (As := [.int v2_61]) (rest := [.ref r0_1, .int v2_61, .ref r6_32]) ⟨hx, hb, hml, hown, hts⟩ (m_X7_typeOf l g H.size ws_164 r0_1 (v2_61) hG o_r0_1) (cwV 1 hts (gd_V kw_658 kw_1438 kw_1439 kw_710 kw_1437) rfl rfl rfl (by decide +kernel) ⟨Nat.le_of_ble_eq_true rfl, Nat.le_of_ble_eq_true rfl⟩) ⟨gblind, va_recv hK hP (ci := 6) (q0 := k_168) rfl hk_168, fun U hU hW9 => gmk hU hW9 hP hK hD hex hE hS hFc⟩ rfl rfl hl.1 rfl (lv_room (Nat.le_of_ble_eq_true rfl)) dX2_build_164 ⟨(show dc_120_1 + 0 ≤ PC ws + (10) from (by have q_f10_2 := f10_2; have q_fq2_f := fq2_f; have q_fq2_ge9 := fq2_ge9; have q_b_16 := h_b_16; have q_kq_33 := kq_33; have q_s_b_16 := s_b_16; have q_f22_32 := f22_32; have q_f9_32 := f9_32; have q_f23_32 := f23_32; have q_f24_32 := f24_32; have q_f25_32 := f25_32; have q_f26_32 := f26_32; have q_f27_32 := f27_32; have q_f11_32 := f11_32; have q_f13_32 := f13_32; have q_f15_32 := f15_32; have q_f17_32 := f17_32; have g_c1_2 := i_rg c1_2; have g_c7_2 := i_rg c7_2; have g_c8_2 := i_rg c8_2; have g_c8_32 := i_rg c8_32; omega)), (show ds_120_1 + 0 ≤ PS ws + (210 + e9.toInt.toNat) from (by have q_f10_2 := f10_2; have q_fq2_f := fq2_f; have q_fq2_ge9 := fq2_ge9; have q_b_16 := h_b_16; have q_kq_33 := kq_33; have q_s_b_16 := s_b_16; have q_f22_32 := f22_32; have q_f9_32 := f9_32; have q_f23_32 := f23_32; have q_f24_32 := f24_32; have q_f25_32 := f25_32; have q_f26_32 := f26_32; have q_f27_32 := f27_32; have q_f11_32 := f11_32; have q_f13_32 := f13_32; have q_f15_32 := f15_32; have q_f17_32 := f17_32; have g_c1_2 := i_rg c1_2; have g_c7_2 := i_rg c7_2; have g_c8_2 := i_rg c8_2; have g_c8_32 := i_rg c8_32; omega))⟩) hS (fun q _ h => hFc q h) hFc (fun r_169 u9 t9 H1 locs ht9 hvm9 hw9 hB9 hz9 hk9 hS => ?_)
        have hP : va_P (gD g) cl0 ws_164 H1 := by rw [← ht9]; exact hB9.1
        clear hB9 hz9 hk9 hvm9 ht9 hw9
        generalize H1 = H at hP hS ⊢
        have hFc := gfree hD hS hA
        obtain ⟨k_170, fs_170, hk_170⟩ := gC_of o_r0_1
        refine va_calli (va_runV (As := [.int r_169]) (rest := [.int v2_61, .ref r6_32]) ⟨hx, hb, hml, hown, hts⟩ (m_X7_entryAt l g H.size ws_164 r0_1 (r_169) hG o_r0_1) (cwV 1 hts (gd_V kw_633 kw_1298 kw_1299 kw_710 kw_1297) rfl rfl rfl (by decide +kernel) ⟨Nat.le_of_ble_eq_true rfl, Nat.le_of_ble_eq_true rfl⟩) ⟨gblind, va_recv hK hP (ci := 6) (q0 := k_170) rfl hk_170, fun U hU hW9 => gmk hU hW9 hP hK hD hex hE hS hFc⟩ rfl rfl hl.1 rfl (lv_room (Nat.le_of_ble_eq_true rfl)) dX2_build_167 ⟨(show dc_120_1 + 0 ≤ PC ws + (10) from (by have q_f10_2 := f10_2; have q_fq2_f := fq2_f; have q_fq2_ge9 := fq2_ge9; have q_b_16 := h_b_16; have q_kq_33 := kq_33; have q_s_b_16 := s_b_16; have q_f22_32 := f22_32; have q_f9_32 := f9_32; have q_f23_32 := f23_32; have q_f24_32 := f24_32; have q_f25_32 := f25_32; have q_f26_32 := f26_32; have q_f27_32 := f27_32; have q_f11_32 := f11_32; have q_f13_32 := f13_32; have q_f15_32 := f15_32; have q_f17_32 := f17_32; have g_c1_2 := i_rg c1_2; have g_c7_2 := i_rg c7_2; have g_c8_2 := i_rg c8_2; have g_c8_32 := i_rg c8_32; omega)), (show ds_120_1 + 0 ≤ PS ws + (210 + e9.toInt.toNat) from (by have q_f10_2 := f10_2; have q_fq2_f := fq2_f; have q_fq2_ge9 := fq2_ge9; have q_b_16 := h_b_16; have q_kq_33 := kq_33; have q_s_b_16 := s_b_16; have q_f22_32 := f22_32; have q_f9_32 := f9_32; have q_f23_32 := f23_32; have q_f24_32 := f24_32; have q_f25_32 := f25_32; have q_f26_32 := f26_32; have q_f27_32 := f27_32; have q_f11_32 := f11_32; have q_f13_32 := f13_32; have q_f15_32 := f15_32; have q_f17_32 := f17_32; have g_c1_2 := i_rg c1_2; have g_c7_2 := i_rg c7_2; have g_c8_2 := i_rg c8_2; have g_c8_32 := i_rg c8_32; omega))⟩) hS (fun q _ h => hFc q h) hFc (fun r_171 u9 t9 H1 locs ht9 hvm9 hw9 hB9 hz9 hk9 hS => ?_)
        have hP : va_P (gD g) cl0 ws_164 H1 := by rw [← ht9]; exact hB9.1
        clear hB9 hz9 hk9 hvm9 ht9 hw9
        generalize H1 = H at hP hS ⊢
        obtain ⟨k_172, f_172, hk_172⟩ := gI_of a_r6_32
        have hC9 : hol ws_164 r6_32 [(9, 6)] := (hol_u hG.u hk_81 (j := 6) rfl a_r6_32 (by decide))
        have hS9 : holS ws_164 r6_32 none := holS_n
        refine va_iast hx hb hK hP hD hS k_172 1 hk_172 rfl (i_in2 (by have q_f5_32 := f5_32; have q_f20_32 := f20_32; have q_iv_62 := iv_62; have q_c_84 := i_nle c_84; have q_f3_32 := f3_32; have q_f19_32 := f19_32; have q_f21_32 := f21_32; have q_f28_32 := f28_32; have q_f19_81 := f19_81; have q_z_83 := i_len ez_83 f3_81; have q_f7_32 := f7_32; have g_c4_32 := i_rg c4_32; have g_c4_81 := i_rg c4_81; have g_v2_61 := i_rg v2_61; have g_z_83 := i_rg z_83; omega)) dX2_build_170 (fun H locs hP hD hS => ?_)
        obtain ⟨ws_173, e_ws_173⟩ : ∃ z, z = ws_164.set k_172 (r6_32, .inl (g.cI, n6_32, .inl (upd f_172 (v2_61 : Int32).toNatClampNeg r_171))) := ⟨_, rfl⟩
        have hP : va_P (gD g) cl0 ws_173 H := by rw [e_ws_173]; exact hP
        have hD : va_D A ws_173 := by rw [e_ws_173]; exact hD
        have E_174 : gE ws_164 ws_173 := gE_ari e_ws_173 hk_172
        have hG : Good g ws_173 := Good_arI e_ws_173 hk_172 hG
        have Fr_175 : gF [] [(9, 6)] none ws_164 ws_173 := gF_ar e_ws_173 hk_172 rfl hC9 hS9
        have pp_176 := Fr_175.pp
        have hk_81 := gset_arO e_ws_173 hk_172 hk_81
        have hk_159 := gset_arO e_ws_173 hk_172 hk_159
        have o_h0 := E_174.1 _ _ o_h0
        have o_q_3 := E_174.1 _ _ o_q_3
        have a_r0_81 := E_174.1 _ _ a_r0_81
        have a_r5_32 := E_174.1 _ _ a_r5_32
        have a_r6_32 := E_174.1 _ _ a_r6_32
        have a_r7_32 := E_174.1 _ _ a_r7_32
        have a_r9_32 := E_174.1 _ _ a_r9_32
        have a_r10_32 := E_174.1 _ _ a_r10_32
        have a_r11_32 := E_174.1 _ _ a_r11_32
        have a_r12_32 := E_174.1 _ _ a_r12_32
        have a_r13_32 := E_174.1 _ _ a_r13_32
        have a_r7_159 := E_174.1 _ _ a_r7_159
        have o_r0_1 := E_174.1 _ _ o_r0_1
        refine lv_aload_n hx hb dX2_build_171 rfl (lv_at hl 1 rfl) ?_
        refine va_get (D := gD g) (ci := 9) (v := .ref r7_32) (C := RX10) (T := TX10) (N := 18) hx hb hts inX10 hown hK hP k_32 hk_81 rfl 7 (by decide) (hts _ kw_659) (fun _ h9 => h9) rfl dX2_build_172 ?_
        refine lv_iload_n hx hb dX2_build_175 rfl (lv_at hl 2 rfl) ?_
        refine lv_aload_n hx hb dX2_build_176 rfl (lv_at hl 0 rfl) ?_
        refine va_get (D := gD g) (ci := 2) (v := .ref r0_1) (C := RX2) (T := TX2) (N := 12) hx hb hts inX2 hown hK hP k_1 hk_159 rfl 0 (by decide) (hts _ kw_632) (fun _ h9 => h9) rfl dX2_build_177 ?_
        refine lv_aload_n hx hb dX2_build_180 rfl (lv_at hl 0 rfl) ?_
        refine va_get (D := gD g) (ci := 2) (v := .ref r0_1) (C := RX2) (T := TX2) (N := 12) hx hb hts inX2 hown hK hP k_1 hk_159 rfl 0 (by decide) (hts _ kw_632) (fun _ h9 => h9) rfl dX2_build_181 ?_
        refine lv_iload_n hx hb dX2_build_184 rfl (lv_at hl 2 rfl) ?_
        have hFc := gfree hD hS hA
        obtain ⟨k_177, fs_177, hk_177⟩ := gC_of o_r0_1
        refine va_calli (va_runV (As := [.int v2_61]) (rest := [.ref r0_1, .int v2_61, .ref r7_32]) ⟨hx, hb, hml, hown, hts⟩ (m_X7_typeOf l g H.size ws_173 r0_1 (v2_61) hG o_r0_1) (cwV 1 hts (gd_V kw_658 kw_1438 kw_1439 kw_710 kw_1437) rfl rfl rfl (by decide +kernel) ⟨Nat.le_of_ble_eq_true rfl, Nat.le_of_ble_eq_true rfl⟩) ⟨gblind, va_recv hK hP (ci := 6) (q0 := k_177) rfl hk_177, fun U hU hW9 => gmk hU hW9 hP hK hD hex hE hS hFc⟩ rfl rfl hl.1 rfl (lv_room (Nat.le_of_ble_eq_true rfl)) dX2_build_185 ⟨(show dc_120_1 + 0 ≤ PC ws + (10) from (by have q_f10_2 := f10_2; have q_fq2_f := fq2_f; have q_fq2_ge9 := fq2_ge9; have q_b_16 := h_b_16; have q_kq_33 := kq_33; have q_s_b_16 := s_b_16; have q_f22_32 := f22_32; have q_f9_32 := f9_32; have q_f23_32 := f23_32; have q_f24_32 := f24_32; have q_f25_32 := f25_32; have q_f26_32 := f26_32; have q_f27_32 := f27_32; have q_f11_32 := f11_32; have q_f13_32 := f13_32; have q_f15_32 := f15_32; have q_f17_32 := f17_32; have g_c1_2 := i_rg c1_2; have g_c7_2 := i_rg c7_2; have g_c8_2 := i_rg c8_2; have g_c8_32 := i_rg c8_32; omega)), (show ds_120_1 + 0 ≤ PS ws + (210 + e9.toInt.toNat) from (by have q_f10_2 := f10_2; have q_fq2_f := fq2_f; have q_fq2_ge9 := fq2_ge9; have q_b_16 := h_b_16; have q_kq_33 := kq_33; have q_s_b_16 := s_b_16; have q_f22_32 := f22_32; have q_f9_32 := f9_32; have q_f23_32 := f23_32; have q_f24_32 := f24_32; have q_f25_32 := f25_32; have q_f26_32 := f26_32; have q_f27_32 := f27_32; have q_f11_32 := f11_32; have q_f13_32 := f13_32; have q_f15_32 := f15_32; have q_f17_32 := f17_32; have g_c1_2 := i_rg c1_2; have g_c7_2 := i_rg c7_2; have g_c8_2 := i_rg c8_2; have g_c8_32 := i_rg c8_32; omega))⟩) hS (fun q _ h => hFc q h) hFc (fun r_178 u9 t9 H1 locs ht9 hvm9 hw9 hB9 hz9 hk9 hS => ?_)
        have hP : va_P (gD g) cl0 ws_173 H1 := by rw [← ht9]; exact hB9.1
        clear hB9 hz9 hk9 hvm9 ht9 hw9
        generalize H1 = H at hP hS ⊢
        have hFc := gfree hD hS hA
        obtain ⟨k_179, fs_179, hk_179⟩ := gC_of o_r0_1
        refine va_calli (va_runV (As := [.int r_178]) (rest := [.int v2_61, .ref r7_32]) ⟨hx, hb, hml, hown, hts⟩ (m_X7_kindOfType l g H.size ws_173 r0_1 (r_178) hG o_r0_1) (cwV 1 hts (gd_V kw_660 kw_1388 kw_1389 kw_710 kw_1387) rfl rfl rfl (by decide +kernel) ⟨Nat.le_of_ble_eq_true rfl, Nat.le_of_ble_eq_true rfl⟩) ⟨gblind, va_recv hK hP (ci := 6) (q0 := k_179) rfl hk_179, fun U hU hW9 => gmk hU hW9 hP hK hD hex hE hS hFc⟩ rfl rfl hl.1 rfl (lv_room (Nat.le_of_ble_eq_true rfl)) dX2_build_188 ⟨(show dc_120_1 + 0 ≤ PC ws + (10) from (by have q_f10_2 := f10_2; have q_fq2_f := fq2_f; have q_fq2_ge9 := fq2_ge9; have q_b_16 := h_b_16; have q_kq_33 := kq_33; have q_s_b_16 := s_b_16; have q_f22_32 := f22_32; have q_f9_32 := f9_32; have q_f23_32 := f23_32; have q_f24_32 := f24_32; have q_f25_32 := f25_32; have q_f26_32 := f26_32; have q_f27_32 := f27_32; have q_f11_32 := f11_32; have q_f13_32 := f13_32; have q_f15_32 := f15_32; have q_f17_32 := f17_32; have g_c1_2 := i_rg c1_2; have g_c7_2 := i_rg c7_2; have g_c8_2 := i_rg c8_2; have g_c8_32 := i_rg c8_32; omega)), (show ds_120_1 + 0 ≤ PS ws + (210 + e9.toInt.toNat) from (by have q_f10_2 := f10_2; have q_fq2_f := fq2_f; have q_fq2_ge9 := fq2_ge9; have q_b_16 := h_b_16; have q_kq_33 := kq_33; have q_s_b_16 := s_b_16; have q_f22_32 := f22_32; have q_f9_32 := f9_32; have q_f23_32 := f23_32; have q_f24_32 := f24_32; have q_f25_32 := f25_32; have q_f26_32 := f26_32; have q_f27_32 := f27_32; have q_f11_32 := f11_32; have q_f13_32 := f13_32; have q_f15_32 := f15_32; have q_f17_32 := f17_32; have g_c1_2 := i_rg c1_2; have g_c7_2 := i_rg c7_2; have g_c8_2 := i_rg c8_2; have g_c8_32 := i_rg c8_32; omega))⟩) hS (fun q _ h => hFc q h) hFc (fun r_180 u9 t9 H1 locs ht9 hvm9 hw9 hB9 hz9 hk9 hS => ?_)
        have hP : va_P (gD g) cl0 ws_173 H1 := by rw [← ht9]; exact hB9.1
        clear hB9 hz9 hk9 hvm9 ht9 hw9
        generalize H1 = H at hP hS ⊢
        obtain ⟨k_181, f_181, hk_181⟩ := gI_of a_r7_32
        have hC9 : hol ws_173 r7_32 [(9, 7)] := (hol_u hG.u hk_81 (j := 7) rfl a_r7_32 (by decide))
        have hS9 : holS ws_173 r7_32 none := holS_n
        refine va_iast hx hb hK hP hD hS k_181 1 hk_181 rfl (i_in2 (by have q_f7_32 := f7_32; have q_f21_32 := f21_32; have q_iv_62 := iv_62; have q_c_84 := i_nle c_84; have q_f3_32 := f3_32; have q_f19_32 := f19_32; have q_f20_32 := f20_32; have q_f28_32 := f28_32; have q_f19_81 := f19_81; have q_z_83 := i_len ez_83 f3_81; have q_f5_32 := f5_32; have g_c4_32 := i_rg c4_32; have g_c4_81 := i_rg c4_81; have g_v2_61 := i_rg v2_61; have g_z_83 := i_rg z_83; omega)) dX2_build_191 (fun H locs hP hD hS => ?_)
        obtain ⟨ws_182, e_ws_182⟩ : ∃ z, z = ws_173.set k_181 (r7_32, .inl (g.cI, n7_32, .inl (upd f_181 (v2_61 : Int32).toNatClampNeg r_180))) := ⟨_, rfl⟩
        have hP : va_P (gD g) cl0 ws_182 H := by rw [e_ws_182]; exact hP
        have hD : va_D A ws_182 := by rw [e_ws_182]; exact hD
        have E_183 : gE ws_173 ws_182 := gE_ari e_ws_182 hk_181
        have hG : Good g ws_182 := Good_arI e_ws_182 hk_181 hG
        have Fr_184 : gF [] [(9, 7)] none ws_173 ws_182 := gF_ar e_ws_182 hk_181 rfl hC9 hS9
        have pp_185 := Fr_184.pp
        have hk_81 := gset_arO e_ws_182 hk_181 hk_81
        have hk_159 := gset_arO e_ws_182 hk_181 hk_159
        have o_h0 := E_183.1 _ _ o_h0
        have o_q_3 := E_183.1 _ _ o_q_3
        have a_r0_81 := E_183.1 _ _ a_r0_81
        have a_r5_32 := E_183.1 _ _ a_r5_32
        have a_r6_32 := E_183.1 _ _ a_r6_32
        have a_r7_32 := E_183.1 _ _ a_r7_32
        have a_r9_32 := E_183.1 _ _ a_r9_32
        have a_r10_32 := E_183.1 _ _ a_r10_32
        have a_r11_32 := E_183.1 _ _ a_r11_32
        have a_r12_32 := E_183.1 _ _ a_r12_32
        have a_r13_32 := E_183.1 _ _ a_r13_32
        have a_r7_159 := E_183.1 _ _ a_r7_159
        have o_r0_1 := E_183.1 _ _ o_r0_1
        obtain ⟨z_186, ez_186⟩ : ∃ z : Int32, v2_61 + Int32.ofInt 1 = z := ⟨_, rfl⟩
        refine lv_iinc (v := z_186) (lv' := [(2, .int z_186), (0, .ref h0), (1, .ref q_3)]) hx hb dX2_build_192 hl (k := 2) rfl ez_186 (by decide) rfl (fun ls hl => ?_)
        refine lv_goto (tgt := 120) hx hb dX2_build_195 (by decide) ?_
        exact ih_120 _ (by obtain ⟨u_z_186, q_z_186⟩ := i_iz ez_186 (by decide) (by decide); have q_iv_62 := iv_62; have q_c_84 := i_nle c_84; have q_z_83 := i_len ez_83 f3_81; have q_f3_32 := f3_32; have q_f19_32 := f19_32; have q_f20_32 := f20_32; have q_f21_32 := f21_32; have q_f28_32 := f28_32; have q_f19_81 := f19_81; have g_c4_32 := i_rg c4_32; have g_c4_81 := i_rg c4_81; have g_v2_61 := i_rg v2_61; have g_z_186 := i_rg z_186; have g_z_83 := i_rg z_83; omega) (z_186) (dc_120_1) (ds_120_1) ws_182 H locs ls rfl (by obtain ⟨u_z_186, q_z_186⟩ := i_iz ez_186 (by decide) (by decide); have q_iv_62 := iv_62; have q_c_84 := i_nle c_84; have q_z_83 := i_len ez_83 f3_81; have q_f3_32 := f3_32; have q_f19_32 := f19_32; have q_f20_32 := f20_32; have q_f21_32 := f21_32; have q_f28_32 := f28_32; have q_f19_81 := f19_81; have g_c4_32 := i_rg c4_32; have g_c4_81 := i_rg c4_81; have g_v2_61 := i_rg v2_61; have g_z_186 := i_rg z_186; have g_z_83 := i_rg z_83; omega) ((E_64.tr (E_165.tr (E_174.tr E_183)))) ((gF.tr Fr_65 (gF.tr (gF.mo (F' := []) (C' := [(9, 5), (9, 6), (9, 7)]) (S' := none) Fr_166 (fun _ h => h) (by decide) (Or.inr rfl)) (gF.tr (gF.mo (F' := []) (C' := [(9, 5), (9, 6), (9, 7)]) (S' := none) Fr_175 (fun _ h => h) (by decide) (Or.inr rfl)) (gF.mo (F' := []) (C' := [(9, 5), (9, 6), (9, 7)]) (S' := none) Fr_184 (fun _ h => h) (by decide) (Or.inr rfl)))))) hG (by have q_f10_2 := f10_2; have q_fq2_f := fq2_f; have q_fq2_ge9 := fq2_ge9; have q_b_16 := h_b_16; have q_kq_33 := kq_33; have q_s_b_16 := s_b_16; have q_f22_32 := f22_32; have q_f9_32 := f9_32; have q_f23_32 := f23_32; have q_f24_32 := f24_32; have q_f25_32 := f25_32; have q_f26_32 := f26_32; have q_f27_32 := f27_32; have q_f11_32 := f11_32; have q_f13_32 := f13_32; have q_f15_32 := f15_32; have q_f17_32 := f17_32; have g_c1_2 := i_rg c1_2; have g_c7_2 := i_rg c7_2; have g_c8_2 := i_rg c8_2; have g_c8_32 := i_rg c8_32; omega) (by have q_f10_2 := f10_2; have q_fq2_f := fq2_f; have q_fq2_ge9 := fq2_ge9; have q_b_16 := h_b_16; have q_kq_33 := kq_33; have q_s_b_16 := s_b_16; have q_f22_32 := f22_32; have q_f9_32 := f9_32; have q_f23_32 := f23_32; have q_f24_32 := f24_32; have q_f25_32 := f25_32; have q_f26_32 := f26_32; have q_f27_32 := f27_32; have q_f11_32 := f11_32; have q_f13_32 := f13_32; have q_f15_32 := f15_32; have q_f17_32 := f17_32; have g_c1_2 := i_rg c1_2; have g_c7_2 := i_rg c7_2; have g_c8_2 := i_rg c8_2; have g_c8_32 := i_rg c8_32; omega) hP hD hS (lv_sub hl [1, 2, 0] rfl)
  exact J_120 _ (0) (0 + 1 + dc_8 + dc_23) (0 + 18 + ds_9 + ds_24) ws_57 H locs ls rfl (by have e0 : (0 : Int32).toInt = 0 := (by decide); omega) (gE.rf) (gF.rf) hG (by have q_f10_2 := f10_2; have q_fq2_f := fq2_f; have q_fq2_ge9 := fq2_ge9; have q_b_16 := h_b_16; have q_kq_33 := kq_33; have q_s_b_16 := s_b_16; have q_f22_32 := f22_32; have q_f9_32 := f9_32; have q_f23_32 := f23_32; have q_f24_32 := f24_32; have q_f25_32 := f25_32; have q_f26_32 := f26_32; have q_f27_32 := f27_32; have q_f11_32 := f11_32; have q_f13_32 := f13_32; have q_f15_32 := f15_32; have q_f17_32 := f17_32; have g_c1_2 := i_rg c1_2; have g_c7_2 := i_rg c7_2; have g_c8_2 := i_rg c8_2; have g_c8_32 := i_rg c8_32; omega) (by have q_f10_2 := f10_2; have q_fq2_f := fq2_f; have q_fq2_ge9 := fq2_ge9; have q_b_16 := h_b_16; have q_kq_33 := kq_33; have q_s_b_16 := s_b_16; have q_f22_32 := f22_32; have q_f9_32 := f9_32; have q_f23_32 := f23_32; have q_f24_32 := f24_32; have q_f25_32 := f25_32; have q_f26_32 := f26_32; have q_f27_32 := f27_32; have q_f11_32 := f11_32; have q_f13_32 := f13_32; have q_f15_32 := f15_32; have q_f17_32 := f17_32; have g_c1_2 := i_rg c1_2; have g_c7_2 := i_rg c7_2; have g_c8_2 := i_rg c8_2; have g_c8_32 := i_rg c8_32; omega) hP hD hS (lv_sub hl [2, 1, 0] rfl)
