set_option maxHeartbeats 1000000 in
set_option maxRecDepth 100000 in
theorem m_X5_setStage (l : Launch) (g : Gm) (sz : Nat) (ws : va_W) (h0 : Nat) (b1 : Nat) (hG : Good g ws) (o_h0 : gC ws h0 5) (o_b1 : gC ws b1 9) (F_b1 : full ws b1) : Met l yX5_setStage (wt yX5_setStage cX5_setStage 2 none) ({ frames := 1, cells := 0, slots := 0, locals := 24 }) (va_Pc [.ref h0, .ref b1] (st_G g sz ws)) (va_Qv (fun (u9 : va_W) => True) (gQ1 g [(5, 0), (5, 3), (5, 5)] [(5, 1)] none (va_A ws sz) ws) (va_A ws sz)) (0) (0) (va_A ws sz) := by
  refine Met.ofW (cc := cX5_setStage) (maxL := 2) (ret := none) (by decide) rfl ?_
  intro p e s m args below meth c s₁ B hml hv
  obtain ⟨rfl, hsz, hP, hK, hD0, hex, hE⟩ := hv
  have hx := B.exec
  have hb := B.bytes
  have hr := B.returns
  have hts0 := atoms_spec (ws := wt yX5_setStage cX5_setStage 2 none) B.pre
  have hts : ∀ w ∈ tb, w.before _ s = true := fun w h => hts0 w (List.mem_cons_of_mem _ h)
  have hown : s.vm.findClass RX5 = some m.cls := findClass_of_methodNamed B.named
  subst hsz
  have hD := hD0.self (sz := s.heap.size)
  generalize hAe : va_A ws s.heap.size = A at hD hE ⊢
  have hA : ∀ q : Nat, s.heap.size ≤ q → A q := fun q h => by rw [← hAe]; exact Or.inr h
  have hS : va_S A s.heap s.heap [] := va_S.rf
  have hl := lv_entry ([.ref h0, .ref b1]) (n := 2) (Nat.le_of_ble_eq_true rfl)
  rw [lg_entry_eq]
  generalize (lg_sl ([.ref h0, .ref b1]) ++ List.replicate (2 - (lg_sl ([.ref h0, .ref b1])).length) Slot.unset).toArray = ls at hl ⊢
  have hl : lv_has ls 2 [(0, .ref h0), (1, .ref b1)] := hl
  refine lv_aload_n hx hb dX5_setStage_0 rfl (lv_at hl 0 rfl) ?_
  refine lv_aload_n hx hb dX5_setStage_1 rfl (lv_at hl 1 rfl) ?_
  obtain ⟨k_1, fs9, hk_1⟩ := gC_of o_h0
  obtain ⟨v0_1, r1_1, n1_1, r2_1, n2_1, c3_1, r4_1, n4_1, c5_1, r6_1, n6_1, c7_1, r8_1, n8_1, r9_1, n9_1, r10_1, n10_1, c11_1, v12_1, c13_1, c14_1, c15_1, l16_1, c17_1, c18_1, c19_1, rfl, o_v0_1, F_v0_1, a_r1_1, f3_1, a_r2_1, f5_1, a_r4_1, f7_1, a_r6_1, f9_1, a_r8_1, f11_1, a_r9_1, f13_1, a_r10_1, f15_1, o_v12_1, f17_1, f18_1, f19_1, f20_1, f21_1, f22_1, f23_1, f24_1, f25_1, f26_1, f27_1, f28_1, f29_1, f30_1, f31_1, -⟩ := (hG.1 _ _ _ _ hk_1).hX5 rfl
  have hV9 : okv ws 5 0 (.ref b1) := (okv_o hD o_b1)
  refine va_put (D := gD g) (ci := 5) (v := .ref b1) (ty := (.object "CodeFoundry$Unit")) (C := RX5) (T := TX5) (N := 20) hx hb hts inX5 tyX5 tyX5_ok nmX5 hown hK hP hD hS k_1 hk_1 rfl 0 (by decide) (hts _ kw_1027) (fun _ h9 => h9) rfl (by decide +kernel) rfl rfl (Nat.le_of_ble_eq_true rfl) dX5_setStage_2 (fun H locs hP hD hS => ?_)
  have hi_2 : invX5 g ws h0 [.ref b1, .ref r1_1, .ref r2_1, .int c3_1, .ref r4_1, .int c5_1, .ref r6_1, .int c7_1, .ref r8_1, .ref r9_1, .ref r10_1, .int c11_1, va_rf v12_1, .int c13_1, .int c14_1, .int c15_1, .long l16_1, .int c17_1, .int c18_1, .int c19_1] := ⟨(some b1), r1_1, (n1_1), r2_1, (n2_1), (c3_1), r4_1, (n4_1), (c5_1), r6_1, (n6_1), (c7_1), r8_1, (n8_1), r9_1, (n9_1), r10_1, (n10_1), (c11_1), v12_1, (c13_1), (c14_1), (c15_1), (l16_1), (c17_1), (c18_1), (c19_1), rfl, (fun b h9 => by cases h9; exact o_b1), (fun b h9 => by cases h9; exact F_b1), a_r1_1, f3_1, a_r2_1, f5_1, a_r4_1, f7_1, a_r6_1, f9_1, a_r8_1, f11_1, a_r9_1, f13_1, a_r10_1, f15_1, o_v12_1, f17_1, f18_1, f19_1, f20_1, f21_1, f22_1, f23_1, f24_1, f25_1, f26_1, f27_1, f28_1, f29_1, f30_1, f31_1, trivial⟩
  obtain ⟨ws_3, e_ws_3⟩ : ∃ z, z = ws.set k_1 (h0, .inr (5, [.ref b1, .ref r1_1, .ref r2_1, .int c3_1, .ref r4_1, .int c5_1, .ref r6_1, .int c7_1, .ref r8_1, .ref r9_1, .ref r10_1, .int c11_1, va_rf v12_1, .int c13_1, .int c14_1, .int c15_1, .long l16_1, .int c17_1, .int c18_1, .int c19_1])) := ⟨_, rfl⟩
  have hP : va_P (gD g) cl0 ws_3 H := by rw [e_ws_3]; exact hP
  have hD : va_D A ws_3 := by rw [e_ws_3]; exact hD
  have E_4 : gE ws ws_3 := gE_set e_ws_3 hk_1 (cw_o (fi := 0) (v := .ref b1) rfl (by decide))
  have hG : Good g ws_3 := Good_set (fi := 0) (v := .ref b1) e_ws_3 hk_1 E_4 rfl hV9 hG (ivX5 hi_2)
  have Fr_5 : gF [(5, 0)] [] (some h0) ws ws_3 := gF_put (fi := 0) (v := .ref b1) e_ws_3 hk_1 rfl (by decide)
  have hkN := gset_self e_ws_3 hk_1
  have hk_1 := hkN
  have o_h0 := E_4.1 _ _ o_h0
  have o_b1 := E_4.1 _ _ o_b1
  have F_b1 := F_b1.mo E_4
  have a_r1_1 := E_4.1 _ _ a_r1_1
  have a_r2_1 := E_4.1 _ _ a_r2_1
  have a_r4_1 := E_4.1 _ _ a_r4_1
  have a_r6_1 := E_4.1 _ _ a_r6_1
  have a_r8_1 := E_4.1 _ _ a_r8_1
  have a_r9_1 := E_4.1 _ _ a_r9_1
  have a_r10_1 := E_4.1 _ _ a_r10_1
  have o_v12_1 : ∀ b, v12_1 = some b → gC ws_3 b 7 := fun b h => E_4.1 _ _ (o_v12_1 b h)
  refine lv_aload_n hx hb dX5_setStage_5 rfl (lv_at hl 0 rfl) ?_
  refine va_get (D := gD g) (ci := 5) (v := .ref r1_1) (C := RX5) (T := TX5) (N := 20) hx hb hts inX5 hown hK hP k_1 hk_1 rfl 1 (by decide) (hts _ kw_1054) (fun _ h9 => h9) rfl dX5_setStage_6 ?_
  refine lv_lconst (v := 0) hx hb dX5_setStage_9 (by decide) ?_
  have hFc := gfree hD hS hA
  refine va_callv (va_runS (As := [.ref r1_1, .long 0]) (rest := []) ⟨hx, hb, hml, hown, hts⟩ (m_J7_fill_d0a16 l g H.size ws_3 r1_1 (n1_1) (0) [(5, 1)] hG a_r1_1 f3_1 (hol_u hG.u hk_1 (j := 1) rfl a_r1_1 (by decide))) (va_cwS 2 hts (gd_S kw_1156 kw_1725 kw_1723 kw_1724) rfl rfl rfl (by decide +kernel) ⟨Nat.le_of_ble_eq_true rfl, Nat.le_of_ble_eq_true rfl⟩) ⟨gblind, fun U hU hW9 => gmk hU hW9 hP hK hD hex hE hS hFc⟩ rfl rfl hl.1 rfl (lv_room (Nat.le_of_ble_eq_true rfl)) dX5_setStage_10 ⟨Nat.le_of_ble_eq_true rfl, Nat.le_of_ble_eq_true rfl⟩) hS (fun q _ h => hFc q h) hFc (fun  ws_6 t9 H1 locs ht9 hvm9 hw9 hB9 hz9 hk9 hS => ?_)
  obtain ⟨E_7, Fr_8, hG, hP1, hD1⟩ := hB9
  have hP : va_P (gD g) cl0 ws_6 H1 := by rw [← ht9]; exact hP1
  have hD : va_D A ws_6 := hD1.weaken (fun _ _ _ h => hFc _ h)
  clear hP1 hD1 hz9 hk9 hvm9 ht9 hw9
  generalize H1 = H at hP hS ⊢
  have aa_11 := a_r1_1
  have aa_12 := a_r2_1
  have aa_13 := a_r4_1
  have aa_14 := a_r6_1
  have aa_15 := a_r8_1
  have aa_16 := a_r9_1
  have aa_17 := a_r10_1
  have o_h0 := E_7.1 _ _ o_h0
  have o_b1 := E_7.1 _ _ o_b1
  have F_b1 := F_b1.mo E_7
  refine lv_aload_n hx hb dX5_setStage_13 rfl (lv_at hl 0 rfl) ?_
  refine lv_iconst (v := 0) hx hb dX5_setStage_14 (by decide) ?_
  obtain ⟨fs9, hk_18, hq_18⟩ := ((gF.a (F' := []) Fr_8 (fun _ h => h))) _ _ _ hk_1
  obtain ⟨v0_18, r1_18, n1_18, r2_18, n2_18, c3_18, r4_18, n4_18, c5_18, r6_18, n6_18, c7_18, r8_18, n8_18, r9_18, n9_18, r10_18, n10_18, c11_18, v12_18, c13_18, c14_18, c15_18, l16_18, c17_18, c18_18, c19_18, rfl, o_v0_18, F_v0_18, a_r1_18, f3_18, a_r2_18, f5_18, a_r4_18, f7_18, a_r6_18, f9_18, a_r8_18, f11_18, a_r9_18, f13_18, a_r10_18, f15_18, o_v12_18, f17_18, f18_18, f19_18, f20_18, f21_18, f22_18, f23_18, f24_18, f25_18, f26_18, f27_18, f28_18, f29_18, f30_18, f31_18, -⟩ := (hG.1 _ _ _ _ hk_18).hX5 rfl
  obtain rfl := fe_r (hq_18 1 (by decide))
  have hn9 := gI_n hD ((E_7).1 _ _ aa_11) a_r1_18
  subst hn9
  have a_r1_1 := a_r1_18
  obtain rfl := fe_q (hq_18 12 (by decide))
  have o_v12_1 := o_v12_18
  have hV9 : okv ws_6 5 3 (.int 0) := okv_i
  refine va_put (D := gD g) (ci := 5) (v := .int 0) (ty := .int) (C := RX5) (T := TX5) (N := 20) hx hb hts inX5 tyX5 tyX5_ok nmX5 hown hK hP hD hS k_1 hk_18 rfl 3 (by decide) (hts _ kw_1009) (fun _ h9 => h9) rfl (by decide +kernel) rfl rfl (Nat.le_of_ble_eq_true rfl) dX5_setStage_15 (fun H locs hP hD hS => ?_)
  have f_19 : 0 ≤ (0 : Int32).toInt := (by have e0 : (0 : Int32).toInt = 0 := (by decide); omega)
  have f_20 : (0 : Int32).toInt ≤ 20000 := (by have e0 : (0 : Int32).toInt = 0 := (by decide); have q_f_19 := f_19; omega)
  have hi_21 : invX5 g ws_6 h0 [va_rf v0_18, .ref r1_1, .ref r2_18, .int 0, .ref r4_18, .int c5_18, .ref r6_18, .int c7_18, .ref r8_18, .ref r9_18, .ref r10_18, .int c11_18, va_rf v12_1, .int c13_18, .int c14_18, .int c15_18, .long l16_18, .int c17_18, .int c18_18, .int c19_18] := ⟨v0_18, r1_1, (n1_1), r2_18, (n2_18), (0), r4_18, (n4_18), (c5_18), r6_18, (n6_18), (c7_18), r8_18, (n8_18), r9_18, (n9_18), r10_18, (n10_18), (c11_18), v12_1, (c13_18), (c14_18), (c15_18), (l16_18), (c17_18), (c18_18), (c19_18), rfl, o_v0_18, F_v0_18, a_r1_1, f3_18, a_r2_18, f5_18, a_r4_18, f7_18, a_r6_18, f9_18, a_r8_18, f11_18, a_r9_18, f13_18, a_r10_18, f15_18, o_v12_1, f17_18, f18_18, f19_18, f20_18, f21_18, f22_18, f23_18, f24_18, f_19, f_20, f27_18, f28_18, f29_18, f30_18, f31_18, trivial⟩
  obtain ⟨ws_22, e_ws_22⟩ : ∃ z, z = ws_6.set k_1 (h0, .inr (5, [va_rf v0_18, .ref r1_1, .ref r2_18, .int 0, .ref r4_18, .int c5_18, .ref r6_18, .int c7_18, .ref r8_18, .ref r9_18, .ref r10_18, .int c11_18, va_rf v12_1, .int c13_18, .int c14_18, .int c15_18, .long l16_18, .int c17_18, .int c18_18, .int c19_18])) := ⟨_, rfl⟩
  have hP : va_P (gD g) cl0 ws_22 H := by rw [e_ws_22]; exact hP
  have hD : va_D A ws_22 := by rw [e_ws_22]; exact hD
  have E_23 : gE ws_6 ws_22 := gE_set e_ws_22 hk_18 (cw_o (fi := 3) (v := .int 0) rfl (by decide))
  have hG : Good g ws_22 := Good_set (fi := 3) (v := .int 0) e_ws_22 hk_18 E_23 rfl hV9 hG (ivX5 hi_21)
  have Fr_24 : gF [(5, 3)] [] (some h0) ws_6 ws_22 := gF_put (fi := 3) (v := .int 0) e_ws_22 hk_18 rfl (by decide)
  have hkN := gset_self e_ws_22 hk_18
  have hk_18 := hkN
  have o_h0 := E_23.1 _ _ o_h0
  have o_b1 := E_23.1 _ _ o_b1
  have F_b1 := F_b1.mo E_23
  have o_v0_18 : ∀ b, v0_18 = some b → gC ws_22 b 9 := fun b h => E_23.1 _ _ (o_v0_18 b h)
  have F_v0_18 : ∀ b, v0_18 = some b → full ws_22 b := fun b h => (F_v0_18 b h).mo E_23
  have a_r2_18 := E_23.1 _ _ a_r2_18
  have a_r4_18 := E_23.1 _ _ a_r4_18
  have a_r6_18 := E_23.1 _ _ a_r6_18
  have a_r8_18 := E_23.1 _ _ a_r8_18
  have a_r9_18 := E_23.1 _ _ a_r9_18
  have a_r10_18 := E_23.1 _ _ a_r10_18
  have a_r1_1 := E_23.1 _ _ a_r1_1
  have o_v12_1 : ∀ b, v12_1 = some b → gC ws_22 b 7 := fun b h => E_23.1 _ _ (o_v12_1 b h)
  refine lv_aload_n hx hb dX5_setStage_18 rfl (lv_at hl 0 rfl) ?_
  refine lv_iconst (v := 0) hx hb dX5_setStage_19 (by decide) ?_
  have hV9 : okv ws_22 5 5 (.int 0) := okv_i
  refine va_put (D := gD g) (ci := 5) (v := .int 0) (ty := .int) (C := RX5) (T := TX5) (N := 20) hx hb hts inX5 tyX5 tyX5_ok nmX5 hown hK hP hD hS k_1 hk_18 rfl 5 (by decide) (hts _ kw_1008) (fun _ h9 => h9) rfl (by decide +kernel) rfl rfl (Nat.le_of_ble_eq_true rfl) dX5_setStage_20 (fun H locs hP hD hS => ?_)
  have f_25 : 0 ≤ (0 : Int32).toInt := (by have e0 : (0 : Int32).toInt = 0 := (by decide); have q_f_19 := f_19; have q_f_20 := f_20; omega)
  have f_26 : (0 : Int32).toInt ≤ 400 := (by have e0 : (0 : Int32).toInt = 0 := (by decide); have q_f_19 := f_19; have q_f_20 := f_20; have q_f_25 := f_25; omega)
  have hi_27 : invX5 g ws_22 h0 [va_rf v0_18, .ref r1_1, .ref r2_18, .int 0, .ref r4_18, .int 0, .ref r6_18, .int c7_18, .ref r8_18, .ref r9_18, .ref r10_18, .int c11_18, va_rf v12_1, .int c13_18, .int c14_18, .int c15_18, .long l16_18, .int c17_18, .int c18_18, .int c19_18] := ⟨v0_18, r1_1, (n1_1), r2_18, (n2_18), (0), r4_18, (n4_18), (0), r6_18, (n6_18), (c7_18), r8_18, (n8_18), r9_18, (n9_18), r10_18, (n10_18), (c11_18), v12_1, (c13_18), (c14_18), (c15_18), (l16_18), (c17_18), (c18_18), (c19_18), rfl, o_v0_18, F_v0_18, a_r1_1, f3_18, a_r2_18, f5_18, a_r4_18, f7_18, a_r6_18, f9_18, a_r8_18, f11_18, a_r9_18, f13_18, a_r10_18, f15_18, o_v12_1, f17_18, f18_18, f19_18, f20_18, f21_18, f22_18, f23_18, f24_18, f_19, f_20, f27_18, f_25, f_26, f30_18, f31_18, trivial⟩
  obtain ⟨ws_28, e_ws_28⟩ : ∃ z, z = ws_22.set k_1 (h0, .inr (5, [va_rf v0_18, .ref r1_1, .ref r2_18, .int 0, .ref r4_18, .int 0, .ref r6_18, .int c7_18, .ref r8_18, .ref r9_18, .ref r10_18, .int c11_18, va_rf v12_1, .int c13_18, .int c14_18, .int c15_18, .long l16_18, .int c17_18, .int c18_18, .int c19_18])) := ⟨_, rfl⟩
  have hP : va_P (gD g) cl0 ws_28 H := by rw [e_ws_28]; exact hP
  have hD : va_D A ws_28 := by rw [e_ws_28]; exact hD
  have E_29 : gE ws_22 ws_28 := gE_set e_ws_28 hk_18 (cw_o (fi := 5) (v := .int 0) rfl (by decide))
  have hG : Good g ws_28 := Good_set (fi := 5) (v := .int 0) e_ws_28 hk_18 E_29 rfl hV9 hG (ivX5 hi_27)
  have Fr_30 : gF [(5, 5)] [] (some h0) ws_22 ws_28 := gF_put (fi := 5) (v := .int 0) e_ws_28 hk_18 rfl (by decide)
  have hkN := gset_self e_ws_28 hk_18
  have hk_18 := hkN
  have o_h0 := E_29.1 _ _ o_h0
  have o_b1 := E_29.1 _ _ o_b1
  have F_b1 := F_b1.mo E_29
  have o_v0_18 : ∀ b, v0_18 = some b → gC ws_28 b 9 := fun b h => E_29.1 _ _ (o_v0_18 b h)
  have F_v0_18 : ∀ b, v0_18 = some b → full ws_28 b := fun b h => (F_v0_18 b h).mo E_29
  have a_r2_18 := E_29.1 _ _ a_r2_18
  have a_r4_18 := E_29.1 _ _ a_r4_18
  have a_r6_18 := E_29.1 _ _ a_r6_18
  have a_r8_18 := E_29.1 _ _ a_r8_18
  have a_r9_18 := E_29.1 _ _ a_r9_18
  have a_r10_18 := E_29.1 _ _ a_r10_18
  have a_r1_1 := E_29.1 _ _ a_r1_1
  have o_v12_1 : ∀ b, v12_1 = some b → gC ws_28 b 7 := fun b h => E_29.1 _ _ (o_v12_1 b h)
  refine W.widen (k := 0) (n := 0) (Nat.le_of_ble_eq_true rfl) (Nat.le_of_ble_eq_true rfl) ?_
  exact W.vret hx hb hr (fun t9 ht9 hW9 => ⟨⟨ws_28, rfl, trivial, ⟨(E_4.tr (E_7.tr (E_23.tr E_29))), (gF.tr (gF.mo (F' := [(5, 0), (5, 3), (5, 5)]) (C' := [(5, 1)]) (S' := none) Fr_5 (by decide) (fun _ h => absurd h List.not_mem_nil) (Or.inl rfl)) (gF.tr (gF.mo (F' := [(5, 0), (5, 3), (5, 5)]) (C' := [(5, 1)]) (S' := none) Fr_8 (fun _ h => absurd h List.not_mem_nil) (fun _ h => h) (Or.inr rfl)) (gF.tr (gF.mo (F' := [(5, 0), (5, 3), (5, 5)]) (C' := [(5, 1)]) (S' := none) Fr_24 (by decide) (fun _ h => absurd h List.not_mem_nil) (Or.inl rfl)) (gF.mo (F' := [(5, 0), (5, 3), (5, 5)]) (C' := [(5, 1)]) (S' := none) Fr_30 (by decide) (fun _ h => absurd h List.not_mem_nil) (Or.inl rfl))))), hG, by rw [ht9]; exact hP, hD⟩⟩, hS.F ht9⟩) hS.2.2 dX5_setStage_23
set_option maxHeartbeats 1000000 in
set_option maxRecDepth 100000 in
theorem m_X5_addArgument (l : Launch) (g : Gm) (sz : Nat) (ws : va_W) (h0 : Nat) (y1 : Int64) (hG : Good g ws) (o_h0 : gC ws h0 5) : Met l yX5_addArgument (wt yX5_addArgument cX5_addArgument 3 (some .int)) ({ frames := 0, cells := 0, slots := 0, locals := 0 }) (va_Pc [.ref h0, .long y1] (st_G g sz ws)) (va_Qi (fun (r : Int32) (u9 : va_W) => True) (gQ1 g [(5, 7)] [(5, 6)] none (va_A ws sz) ws) (va_A ws sz)) (0) (0) (va_A ws sz) := by
  refine Met.ofW (cc := cX5_addArgument) (maxL := 3) (ret := (some .int)) (by decide) rfl ?_
  intro p e s m args below meth c s₁ B hml hv
  obtain ⟨rfl, hsz, hP, hK, hD0, hex, hE⟩ := hv
  have hx := B.exec
  have hb := B.bytes
  have hr := B.returns
  have hts0 := atoms_spec (ws := wt yX5_addArgument cX5_addArgument 3 (some .int)) B.pre
  have hts : ∀ w ∈ tb, w.before _ s = true := fun w h => hts0 w (List.mem_cons_of_mem _ h)
  have hown : s.vm.findClass RX5 = some m.cls := findClass_of_methodNamed B.named
  subst hsz
  have hD := hD0.self (sz := s.heap.size)
  generalize hAe : va_A ws s.heap.size = A at hD hE ⊢
  have hA : ∀ q : Nat, s.heap.size ≤ q → A q := fun q h => by rw [← hAe]; exact Or.inr h
  have hS : va_S A s.heap s.heap [] := va_S.rf
  have hl := lv_entry ([.ref h0, .long y1]) (n := 3) (Nat.le_of_ble_eq_true rfl)
  rw [lg_entry_eq]
  generalize (lg_sl ([.ref h0, .long y1]) ++ List.replicate (3 - (lg_sl ([.ref h0, .long y1])).length) Slot.unset).toArray = ls at hl ⊢
  have hl : lv_has ls 3 [(0, .ref h0), (1, .long y1)] := hl
  refine lv_aload_n hx hb dX5_addArgument_0 rfl (lv_at hl 0 rfl) ?_
  obtain ⟨k_1, fs9, hk_1⟩ := gC_of o_h0
  obtain ⟨v0_1, r1_1, n1_1, r2_1, n2_1, c3_1, r4_1, n4_1, c5_1, r6_1, n6_1, c7_1, r8_1, n8_1, r9_1, n9_1, r10_1, n10_1, c11_1, v12_1, c13_1, c14_1, c15_1, l16_1, c17_1, c18_1, c19_1, rfl, o_v0_1, F_v0_1, a_r1_1, f3_1, a_r2_1, f5_1, a_r4_1, f7_1, a_r6_1, f9_1, a_r8_1, f11_1, a_r9_1, f13_1, a_r10_1, f15_1, o_v12_1, f17_1, f18_1, f19_1, f20_1, f21_1, f22_1, f23_1, f24_1, f25_1, f26_1, f27_1, f28_1, f29_1, f30_1, f31_1, -⟩ := (hG.1 _ _ _ _ hk_1).hX5 rfl
  refine va_get (D := gD g) (ci := 5) (v := .int c7_1) (C := RX5) (T := TX5) (N := 20) hx hb hts inX5 hown hK hP k_1 hk_1 rfl 7 (by decide) (hts _ kw_1003) (fun _ h9 => h9) rfl dX5_addArgument_1 ?_
  refine lv_bipush (v := 8) hx hb dX5_addArgument_4 (by decide) ?_
  refine lv_icmp_lt (tgt := 11) hx hb dX5_addArgument_6 (by decide) (fun c_2 => ?_) (fun c_2 => ?_)
  · refine lv_aload_n hx hb dX5_addArgument_11 rfl (lv_at hl 0 rfl) ?_
    refine va_get (D := gD g) (ci := 5) (v := .ref r6_1) (C := RX5) (T := TX5) (N := 20) hx hb hts inX5 hown hK hP k_1 hk_1 rfl 6 (by decide) (hts _ kw_1004) (fun _ h9 => h9) rfl dX5_addArgument_12 ?_
    refine lv_aload_n hx hb dX5_addArgument_15 rfl (lv_at hl 0 rfl) ?_
    refine va_get (D := gD g) (ci := 5) (v := .int c7_1) (C := RX5) (T := TX5) (N := 20) hx hb hts inX5 hown hK hP k_1 hk_1 rfl 7 (by decide) (hts _ kw_1003) (fun _ h9 => h9) rfl dX5_addArgument_16 ?_
    refine lv_lload_n hx hb dX5_addArgument_19 rfl (lv_at hl 1 rfl) ?_
    obtain ⟨k_3, f_3, hk_3⟩ := gJ_of a_r6_1
    have hC9 : hol ws r6_1 [(5, 6)] := (hol_u hG.u hk_1 (j := 6) rfl a_r6_1 (by decide))
    have hS9 : holS ws r6_1 none := holS_n
    refine va_last hx hb hK hP hD hS k_3 3 hk_3 rfl (i_in2 (by have e8 : (8 : Int32).toInt = 8 := (by decide); have q_f9_1 := f9_1; have q_f18_1 := f18_1; have q_f19_1 := f19_1; have q_f20_1 := f20_1; have q_c_2 := i_lt c_2; have g_c7_1 := i_rg c7_1; omega)) dX5_addArgument_20 (fun H locs hP hD hS => ?_)
    obtain ⟨ws_4, e_ws_4⟩ : ∃ z, z = ws.set k_3 (r6_1, .inl (g.cL, n6_1, .inr (.inl (vp_updL f_3 (c7_1 : Int32).toNatClampNeg y1)))) := ⟨_, rfl⟩
    have hP : va_P (gD g) cl0 ws_4 H := by rw [e_ws_4]; exact hP
    have hD : va_D A ws_4 := by rw [e_ws_4]; exact hD
    have E_5 : gE ws ws_4 := gE_arj e_ws_4 hk_3
    have hG : Good g ws_4 := Good_arj e_ws_4 hk_3 hG
    have Fr_6 : gF [] [(5, 6)] none ws ws_4 := gF_ar e_ws_4 hk_3 rfl hC9 hS9
    have hk_1 := gset_arO e_ws_4 hk_3 hk_1
    have o_h0 := E_5.1 _ _ o_h0
    have o_v0_1 : ∀ b, v0_1 = some b → gC ws_4 b 9 := fun b h => E_5.1 _ _ (o_v0_1 b h)
    have F_v0_1 : ∀ b, v0_1 = some b → full ws_4 b := fun b h => (F_v0_1 b h).mo E_5
    have a_r1_1 := E_5.1 _ _ a_r1_1
    have a_r2_1 := E_5.1 _ _ a_r2_1
    have a_r4_1 := E_5.1 _ _ a_r4_1
    have a_r6_1 := E_5.1 _ _ a_r6_1
    have a_r8_1 := E_5.1 _ _ a_r8_1
    have a_r9_1 := E_5.1 _ _ a_r9_1
    have a_r10_1 := E_5.1 _ _ a_r10_1
    have o_v12_1 : ∀ b, v12_1 = some b → gC ws_4 b 7 := fun b h => E_5.1 _ _ (o_v12_1 b h)
    refine lv_aload_n hx hb dX5_addArgument_21 rfl (lv_at hl 0 rfl) ?_
    refine lv_dup hx hb dX5_addArgument_22 rfl ?_
    refine va_get (D := gD g) (ci := 5) (v := .int c7_1) (C := RX5) (T := TX5) (N := 20) hx hb hts inX5 hown hK hP k_1 hk_1 rfl 7 (by decide) (hts _ kw_1003) (fun _ h9 => h9) rfl dX5_addArgument_23 ?_
    refine lv_iconst (v := 1) hx hb dX5_addArgument_26 (by decide) ?_
    refine lv_iadd hx hb dX5_addArgument_27 ?_
    refine lv_topi (fun z_7 ez_7 => ?_)
    have hV9 : okv ws_4 5 7 (.int z_7) := okv_i
    refine va_put (D := gD g) (ci := 5) (v := .int z_7) (ty := .int) (C := RX5) (T := TX5) (N := 20) hx hb hts inX5 tyX5 tyX5_ok nmX5 hown hK hP hD hS k_1 hk_1 rfl 7 (by decide) (hts _ kw_1003) (fun _ h9 => h9) rfl (by decide +kernel) rfl rfl (Nat.le_of_ble_eq_true rfl) dX5_addArgument_28 (fun H locs hP hD hS => ?_)
    have f_8 : 0 ≤ z_7.toInt := (by have e1 : (1 : Int32).toInt = 1 := (by decide); have e8 : (8 : Int32).toInt = 8 := (by decide); obtain ⟨u_z_7, q_z_7⟩ := i_add ez_7; have q_f19_1 := f19_1; have q_f20_1 := f20_1; have q_c_2 := i_lt c_2; have g_c7_1 := i_rg c7_1; have g_z_7 := i_rg z_7; omega)
    have f_9 : z_7.toInt ≤ 8 := (by have e1 : (1 : Int32).toInt = 1 := (by decide); have e8 : (8 : Int32).toInt = 8 := (by decide); obtain ⟨u_z_7, q_z_7⟩ := i_add ez_7; have q_f_8 := f_8; have q_f19_1 := f19_1; have q_f20_1 := f20_1; have q_c_2 := i_lt c_2; have g_c7_1 := i_rg c7_1; have g_z_7 := i_rg z_7; omega)
    have hi_10 : invX5 g ws_4 h0 [va_rf v0_1, .ref r1_1, .ref r2_1, .int c3_1, .ref r4_1, .int c5_1, .ref r6_1, .int z_7, .ref r8_1, .ref r9_1, .ref r10_1, .int c11_1, va_rf v12_1, .int c13_1, .int c14_1, .int c15_1, .long l16_1, .int c17_1, .int c18_1, .int c19_1] := ⟨v0_1, r1_1, (n1_1), r2_1, (n2_1), (c3_1), r4_1, (n4_1), (c5_1), r6_1, (n6_1), (z_7), r8_1, (n8_1), r9_1, (n9_1), r10_1, (n10_1), (c11_1), v12_1, (c13_1), (c14_1), (c15_1), (l16_1), (c17_1), (c18_1), (c19_1), rfl, o_v0_1, F_v0_1, a_r1_1, f3_1, a_r2_1, f5_1, a_r4_1, f7_1, a_r6_1, f9_1, a_r8_1, f11_1, a_r9_1, f13_1, a_r10_1, f15_1, o_v12_1, f17_1, f18_1, f_8, f_9, f21_1, f22_1, f23_1, f24_1, f25_1, f26_1, f27_1, f28_1, f29_1, f30_1, f31_1, trivial⟩
    obtain ⟨ws_11, e_ws_11⟩ : ∃ z, z = ws_4.set k_1 (h0, .inr (5, [va_rf v0_1, .ref r1_1, .ref r2_1, .int c3_1, .ref r4_1, .int c5_1, .ref r6_1, .int z_7, .ref r8_1, .ref r9_1, .ref r10_1, .int c11_1, va_rf v12_1, .int c13_1, .int c14_1, .int c15_1, .long l16_1, .int c17_1, .int c18_1, .int c19_1])) := ⟨_, rfl⟩
    have hP : va_P (gD g) cl0 ws_11 H := by rw [e_ws_11]; exact hP
    have hD : va_D A ws_11 := by rw [e_ws_11]; exact hD
    have E_12 : gE ws_4 ws_11 := gE_set e_ws_11 hk_1 (cw_o (fi := 7) (v := .int z_7) rfl (by decide))
    have hG : Good g ws_11 := Good_set (fi := 7) (v := .int z_7) e_ws_11 hk_1 E_12 rfl hV9 hG (ivX5 hi_10)
    have Fr_13 : gF [(5, 7)] [] (some h0) ws_4 ws_11 := gF_put (fi := 7) (v := .int z_7) e_ws_11 hk_1 rfl (by decide)
    have hkN := gset_self e_ws_11 hk_1
    have hk_1 := hkN
    have o_h0 := E_12.1 _ _ o_h0
    have o_v0_1 : ∀ b, v0_1 = some b → gC ws_11 b 9 := fun b h => E_12.1 _ _ (o_v0_1 b h)
    have F_v0_1 : ∀ b, v0_1 = some b → full ws_11 b := fun b h => (F_v0_1 b h).mo E_12
    have a_r1_1 := E_12.1 _ _ a_r1_1
    have a_r2_1 := E_12.1 _ _ a_r2_1
    have a_r4_1 := E_12.1 _ _ a_r4_1
    have a_r6_1 := E_12.1 _ _ a_r6_1
    have a_r8_1 := E_12.1 _ _ a_r8_1
    have a_r9_1 := E_12.1 _ _ a_r9_1
    have a_r10_1 := E_12.1 _ _ a_r10_1
    have o_v12_1 : ∀ b, v12_1 = some b → gC ws_11 b 7 := fun b h => E_12.1 _ _ (o_v12_1 b h)
    refine lv_aload_n hx hb dX5_addArgument_31 rfl (lv_at hl 0 rfl) ?_
    refine va_get (D := gD g) (ci := 5) (v := .int z_7) (C := RX5) (T := TX5) (N := 20) hx hb hts inX5 hown hK hP k_1 hk_1 rfl 7 (by decide) (hts _ kw_1003) (fun _ h9 => h9) rfl dX5_addArgument_32 ?_
    refine W.widen (k := 0) (n := 0) (Nat.le_of_ble_eq_true rfl) (Nat.le_of_ble_eq_true rfl) ?_
    exact W.iret (v := z_7) hx hb hr (fun t9 ht9 hW9 => ⟨⟨_, ws_11, rfl, trivial, ⟨(E_5.tr E_12), (gF.tr (gF.mo (F' := [(5, 7)]) (C' := [(5, 6)]) (S' := none) Fr_6 (fun _ h => absurd h List.not_mem_nil) (fun _ h => h) (Or.inr rfl)) (gF.mo (F' := [(5, 7)]) (C' := [(5, 6)]) (S' := none) Fr_13 (fun _ h => h) (fun _ h => absurd h List.not_mem_nil) (Or.inl rfl))), hG, by rw [ht9]; exact hP, hD⟩⟩, hS.F ht9⟩) hS.2.2 dX5_addArgument_35
  · refine lv_iconst (v := (-1)) hx hb dX5_addArgument_9 (by decide) ?_
    refine W.widen (k := 0) (n := 0) (Nat.le_of_ble_eq_true rfl) (Nat.le_of_ble_eq_true rfl) ?_
    exact W.iret (v := (-1)) hx hb hr (fun t9 ht9 hW9 => ⟨⟨_, ws, rfl, trivial, ⟨gE.rf, gF.rf, hG, by rw [ht9]; exact hP, hD⟩⟩, hS.F ht9⟩) hS.2.2 dX5_addArgument_10
set_option maxHeartbeats 1000000 in
set_option maxRecDepth 100000 in
theorem m_X5_fieldAt (l : Launch) (g : Gm) (sz : Nat) (ws : va_W) (h0 : Nat) (x1 : Int32) (hG : Good g ws) (o_h0 : gC ws h0 5) : Met l yX5_fieldAt (wt yX5_fieldAt cX5_fieldAt 2 (some .long)) ({ frames := 0, cells := 0, slots := 0, locals := 0 }) (va_Pc [.ref h0, .int x1] (st_G g sz ws)) (va_Ql (fun (r : Int64) (u9 : Unit) => True) (gQ0 g (va_A ws sz) ws) (va_A ws sz)) (0) (0) (va_A ws sz) := by
  refine Met.ofW (cc := cX5_fieldAt) (maxL := 2) (ret := (some .long)) (by decide) rfl ?_
  intro p e s m args below meth c s₁ B hml hv
  obtain ⟨rfl, hsz, hP, hK, hD0, hex, hE⟩ := hv
  have hx := B.exec
  have hb := B.bytes
  have hr := B.returns
  have hts0 := atoms_spec (ws := wt yX5_fieldAt cX5_fieldAt 2 (some .long)) B.pre
  have hts : ∀ w ∈ tb, w.before _ s = true := fun w h => hts0 w (List.mem_cons_of_mem _ h)
  have hown : s.vm.findClass RX5 = some m.cls := findClass_of_methodNamed B.named
  subst hsz
  have hD := hD0.self (sz := s.heap.size)
  generalize hAe : va_A ws s.heap.size = A at hD hE ⊢
  have hA : ∀ q : Nat, s.heap.size ≤ q → A q := fun q h => by rw [← hAe]; exact Or.inr h
  have hS : va_S A s.heap s.heap [] := va_S.rf
  have hl := lv_entry ([.ref h0, .int x1]) (n := 2) (Nat.le_of_ble_eq_true rfl)
  rw [lg_entry_eq]
  generalize (lg_sl ([.ref h0, .int x1]) ++ List.replicate (2 - (lg_sl ([.ref h0, .int x1])).length) Slot.unset).toArray = ls at hl ⊢
  have hl : lv_has ls 2 [(0, .ref h0), (1, .int x1)] := hl
  refine lv_aload_n hx hb dX5_fieldAt_0 rfl (lv_at hl 0 rfl) ?_
  obtain ⟨k_1, fs9, hk_1⟩ := gC_of o_h0
  obtain ⟨v0_1, r1_1, n1_1, r2_1, n2_1, c3_1, r4_1, n4_1, c5_1, r6_1, n6_1, c7_1, r8_1, n8_1, r9_1, n9_1, r10_1, n10_1, c11_1, v12_1, c13_1, c14_1, c15_1, l16_1, c17_1, c18_1, c19_1, rfl, o_v0_1, F_v0_1, a_r1_1, f3_1, a_r2_1, f5_1, a_r4_1, f7_1, a_r6_1, f9_1, a_r8_1, f11_1, a_r9_1, f13_1, a_r10_1, f15_1, o_v12_1, f17_1, f18_1, f19_1, f20_1, f21_1, f22_1, f23_1, f24_1, f25_1, f26_1, f27_1, f28_1, f29_1, f30_1, f31_1, -⟩ := (hG.1 _ _ _ _ hk_1).hX5 rfl
  refine va_get (D := gD g) (ci := 5) (v := va_rf v0_1) (C := RX5) (T := TX5) (N := 20) hx hb hts inX5 hown hK hP k_1 hk_1 rfl 0 (by decide) (hts _ kw_1027) (fun _ h9 => h9) rfl dX5_fieldAt_1 ?_
  have J_38 : ∀ (t_2 : Int64) (H : Heap) (locs : List Loc) (ls : Array Slot), va_P (gD g) cl0 ws H → va_D A ws → va_S A s.heap H locs → lv_has ls 2 [] → W p l e (headSpec (wt yX5_fieldAt cX5_fieldAt 2 (some .long)) ({ frames := 0, cells := 0, slots := 0, locals := 0 })).room s m ([.ref h0, .int x1] : List Value).toArray below meth c H locs (0) (0) (MQ below (va_Ql (fun (r : Int64) (u9 : Unit) => True) (gQ0 g A ws) A) ([.ref h0, .int x1] : List Value).toArray s (0) (0) A) (F0 m 38 ls [.long t_2]) := by
    intro t_2 H locs ls  hP hD hS hl
    refine W.widen (k := 0) (n := 0) (Nat.le_of_ble_eq_true rfl) (Nat.le_of_ble_eq_true rfl) ?_
    exact W.lret (v := t_2) hx hb hr (fun t9 ht9 hW9 => ⟨⟨_, (), rfl, trivial, ⟨by rw [ht9]; exact hP, hD⟩⟩, hS.F ht9⟩) hS.2.2 dX5_fieldAt_38
  have J_28 : ∀  (H : Heap) (locs : List Loc) (ls : Array Slot), va_P (gD g) cl0 ws H → va_D A ws → va_S A s.heap H locs → lv_has ls 2 [] → W p l e (headSpec (wt yX5_fieldAt cX5_fieldAt 2 (some .long)) ({ frames := 0, cells := 0, slots := 0, locals := 0 })).room s m ([.ref h0, .int x1] : List Value).toArray below meth c H locs (0) (0) (MQ below (va_Ql (fun (r : Int64) (u9 : Unit) => True) (gQ0 g A ws) A) ([.ref h0, .int x1] : List Value).toArray s (0) (0) A) (F0 m 28 ls []) := by
    intro  H locs ls  hP hD hS hl
    refine lv_lconst (v := 0) hx hb dX5_fieldAt_28 (by decide) ?_
    refine lv_goto (tgt := 38) hx hb dX5_fieldAt_29 (by decide) ?_
    exact J_38 (0) H locs ls  hP hD hS (lv_sub hl [] rfl)
  rcases v0_1 with _ | b_7
  · skip
    have J_38 : ∀ (t_8 : Int64) (H : Heap) (locs : List Loc) (ls : Array Slot), va_P (gD g) cl0 ws H → va_D A ws → va_S A s.heap H locs → lv_has ls 2 [] → W p l e (headSpec (wt yX5_fieldAt cX5_fieldAt 2 (some .long)) ({ frames := 0, cells := 0, slots := 0, locals := 0 })).room s m ([.ref h0, .int x1] : List Value).toArray below meth c H locs (0) (0) (MQ below (va_Ql (fun (r : Int64) (u9 : Unit) => True) (gQ0 g A ws) A) ([.ref h0, .int x1] : List Value).toArray s (0) (0) A) (F0 m 38 ls [.long t_8]) := by
      intro t_8 H locs ls  hP hD hS hl
      refine W.widen (k := 0) (n := 0) (Nat.le_of_ble_eq_true rfl) (Nat.le_of_ble_eq_true rfl) ?_
      exact W.lret (v := t_8) hx hb hr (fun t9 ht9 hW9 => ⟨⟨_, (), rfl, trivial, ⟨by rw [ht9]; exact hP, hD⟩⟩, hS.F ht9⟩) hS.2.2 dX5_fieldAt_38
    have J_28 : ∀  (H : Heap) (locs : List Loc) (ls : Array Slot), va_P (gD g) cl0 ws H → va_D A ws → va_S A s.heap H locs → lv_has ls 2 [] → W p l e (headSpec (wt yX5_fieldAt cX5_fieldAt 2 (some .long)) ({ frames := 0, cells := 0, slots := 0, locals := 0 })).room s m ([.ref h0, .int x1] : List Value).toArray below meth c H locs (0) (0) (MQ below (va_Ql (fun (r : Int64) (u9 : Unit) => True) (gQ0 g A ws) A) ([.ref h0, .int x1] : List Value).toArray s (0) (0) A) (F0 m 28 ls []) := by
      intro  H locs ls  hP hD hS hl
      refine lv_lconst (v := 0) hx hb dX5_fieldAt_28 (by decide) ?_
      refine lv_goto (tgt := 38) hx hb dX5_fieldAt_29 (by decide) ?_
      exact J_38 (0) H locs ls  hP hD hS (lv_sub hl [] rfl)
    refine lv_ifnullN (tgt := 28) hx hb dX5_fieldAt_4 (by decide) ?_
    exact J_28  _ _ ls  hP hD hS (lv_sub hl [] rfl)
  · have o_b_7 := o_v0_1 _ rfl
    have F_b_7 := F_v0_1 _ rfl
    have J_38 : ∀ (t_13 : Int64) (H : Heap) (locs : List Loc) (ls : Array Slot), va_P (gD g) cl0 ws H → va_D A ws → va_S A s.heap H locs → lv_has ls 2 [] → W p l e (headSpec (wt yX5_fieldAt cX5_fieldAt 2 (some .long)) ({ frames := 0, cells := 0, slots := 0, locals := 0 })).room s m ([.ref h0, .int x1] : List Value).toArray below meth c H locs (0) (0) (MQ below (va_Ql (fun (r : Int64) (u9 : Unit) => True) (gQ0 g A ws) A) ([.ref h0, .int x1] : List Value).toArray s (0) (0) A) (F0 m 38 ls [.long t_13]) := by
      intro t_13 H locs ls  hP hD hS hl
      refine W.widen (k := 0) (n := 0) (Nat.le_of_ble_eq_true rfl) (Nat.le_of_ble_eq_true rfl) ?_
      exact W.lret (v := t_13) hx hb hr (fun t9 ht9 hW9 => ⟨⟨_, (), rfl, trivial, ⟨by rw [ht9]; exact hP, hD⟩⟩, hS.F ht9⟩) hS.2.2 dX5_fieldAt_38
    have J_28 : ∀  (H : Heap) (locs : List Loc) (ls : Array Slot), va_P (gD g) cl0 ws H → va_D A ws → va_S A s.heap H locs → lv_has ls 2 [] → W p l e (headSpec (wt yX5_fieldAt cX5_fieldAt 2 (some .long)) ({ frames := 0, cells := 0, slots := 0, locals := 0 })).room s m ([.ref h0, .int x1] : List Value).toArray below meth c H locs (0) (0) (MQ below (va_Ql (fun (r : Int64) (u9 : Unit) => True) (gQ0 g A ws) A) ([.ref h0, .int x1] : List Value).toArray s (0) (0) A) (F0 m 28 ls []) := by
      intro  H locs ls  hP hD hS hl
      refine lv_lconst (v := 0) hx hb dX5_fieldAt_28 (by decide) ?_
      refine lv_goto (tgt := 38) hx hb dX5_fieldAt_29 (by decide) ?_
      exact J_38 (0) H locs ls  hP hD hS (lv_sub hl [] rfl)
    refine lv_ifnull hx hb dX5_fieldAt_4 ?_
    refine lv_iload_n hx hb dX5_fieldAt_7 rfl (lv_at hl 1 rfl) ?_
    refine lv_if_lt (tgt := 28) hx hb dX5_fieldAt_8 (by decide) (fun c_18 => ?_) (fun c_18 => ?_)
    · exact J_28  _ _ ls  hP hD hS (lv_sub hl [] rfl)
    · refine lv_iload_n hx hb dX5_fieldAt_11 rfl (lv_at hl 1 rfl) ?_
      refine lv_aload_n hx hb dX5_fieldAt_12 rfl (lv_at hl 0 rfl) ?_
      refine va_get (D := gD g) (ci := 5) (v := .ref b_7) (C := RX5) (T := TX5) (N := 20) hx hb hts inX5 hown hK hP k_1 hk_1 rfl 0 (by decide) (hts _ kw_1027) (fun _ h9 => h9) rfl dX5_fieldAt_13 ?_
      obtain ⟨k_19, fs9, hk_19⟩ := gC_of o_b_7
      obtain ⟨r0_19, n0_19, c1_19, c2_19, c3_19, c4_19, r5_19, n5_19, r6_19, n6_19, r7_19, n7_19, c8_19, r9_19, n9_19, r10_19, n10_19, r11_19, n11_19, r12_19, n12_19, r13_19, n13_19, c14_19, c15_19, c16_19, c17_19, rfl, a_r0_19, f1_19, a_r5_19, f3_19, a_r6_19, f5_19, a_r7_19, f7_19, a_r9_19, f9_19, a_r10_19, f11_19, a_r11_19, f13_19, a_r12_19, f15_19, a_r13_19, f17_19, hz_c15_19, f19_19, f20_19, f21_19, f22_19, f23_19, f24_19, f25_19, f26_19, f27_19, f28_19, -⟩ := (hG.1 _ _ _ _ hk_19).hX10 rfl
      refine va_get (D := gD g) (ci := 9) (v := .int c4_19) (C := RX10) (T := TX10) (N := 18) hx hb hts inX10 hown hK hP k_19 hk_19 rfl 4 (by decide) (hts _ kw_1053) (fun _ h9 => h9) rfl dX5_fieldAt_16 ?_
      refine lv_icmp_ge (tgt := 28) hx hb dX5_fieldAt_19 (by decide) (fun c_20 => ?_) (fun c_20 => ?_)
      · exact J_28  _ _ ls  hP hD hS (lv_sub hl [] rfl)
      · refine lv_iload_n hx hb dX5_fieldAt_22 rfl (lv_at hl 1 rfl) ?_
        refine lv_bipush (v := 24) hx hb dX5_fieldAt_23 (by decide) ?_
        refine lv_icmp_lt (tgt := 32) hx hb dX5_fieldAt_25 (by decide) (fun c_21 => ?_) (fun c_21 => ?_)
        · refine lv_aload_n hx hb dX5_fieldAt_32 rfl (lv_at hl 0 rfl) ?_
          refine va_get (D := gD g) (ci := 5) (v := .ref r1_1) (C := RX5) (T := TX5) (N := 20) hx hb hts inX5 hown hK hP k_1 hk_1 rfl 1 (by decide) (hts _ kw_1054) (fun _ h9 => h9) rfl dX5_fieldAt_33 ?_
          refine lv_iload_n hx hb dX5_fieldAt_36 rfl (lv_at hl 1 rfl) ?_
          obtain ⟨k_22, f_22, hk_22⟩ := gJ_of a_r1_1
          refine va_lald hx hb hK hP k_22 3 hk_22 rfl (i_in2 (by have e0 : (0 : Int32).toInt = 0 := (by decide); have e24 : (24 : Int32).toInt = 24 := (by decide); have q_f3_1 := f3_1; have q_f17_1 := f17_1; have q_c_18 := i_nlt c_18; have q_c_20 := i_nle c_20; have q_c_21 := i_lt c_21; have q_f19_19 := f19_19; have g_c4_19 := i_rg c4_19; have g_x1 := i_rg x1; omega)) dX5_fieldAt_37 ?_
          refine lv_topl (fun z_23 ez_23 => ?_)
          exact J_38 (z_23) _ _ ls  hP hD hS (lv_sub hl [] rfl)
        · exact J_28  _ _ ls  hP hD hS (lv_sub hl [] rfl)
set_option maxHeartbeats 1000000 in
set_option maxRecDepth 100000 in
theorem m_X5_isArray (l : Launch) (g : Gm) (sz : Nat) (ws : va_W) (h0 : Nat) (y1 : Int64) (hG : Good g ws) (o_h0 : gC ws h0 5) : Met l yX5_isArray (wt yX5_isArray cX5_isArray 3 (some .boolean)) ({ frames := 0, cells := 0, slots := 0, locals := 0 }) (va_Pc [.ref h0, .long y1] (st_G g sz ws)) (va_Qi (fun (r : Int32) (u9 : Unit) => r = 0 ∨ r = 1) (gQ0 g (va_A ws sz) ws) (va_A ws sz)) (0) (0) (va_A ws sz) := by
  refine Met.ofW (cc := cX5_isArray) (maxL := 3) (ret := (some .boolean)) (by decide) rfl ?_
  intro p e s m args below meth c s₁ B hml hv
  obtain ⟨rfl, hsz, hP, hK, hD0, hex, hE⟩ := hv
  have hx := B.exec
  have hb := B.bytes
  have hr := B.returns
  have hts0 := atoms_spec (ws := wt yX5_isArray cX5_isArray 3 (some .boolean)) B.pre
  have hts : ∀ w ∈ tb, w.before _ s = true := fun w h => hts0 w (List.mem_cons_of_mem _ h)
  have hown : s.vm.findClass RX5 = some m.cls := findClass_of_methodNamed B.named
  subst hsz
  have hD := hD0.self (sz := s.heap.size)
  generalize hAe : va_A ws s.heap.size = A at hD hE ⊢
  have hA : ∀ q : Nat, s.heap.size ≤ q → A q := fun q h => by rw [← hAe]; exact Or.inr h
  have hS : va_S A s.heap s.heap [] := va_S.rf
  have hl := lv_entry ([.ref h0, .long y1]) (n := 3) (Nat.le_of_ble_eq_true rfl)
  rw [lg_entry_eq]
  generalize (lg_sl ([.ref h0, .long y1]) ++ List.replicate (3 - (lg_sl ([.ref h0, .long y1])).length) Slot.unset).toArray = ls at hl ⊢
  have hl : lv_has ls 3 [(0, .ref h0), (1, .long y1)] := hl
  refine lv_lload_n hx hb dX5_isArray_0 rfl (lv_at hl 1 rfl) ?_
  refine lv_lconst (v := 1) hx hb dX5_isArray_1 (by decide) ?_
  refine W.lcmp hx hb dX5_isArray_2 ?_
  refine lv_topi (fun z_1 ez_1 => ?_)
  have J_21 : ∀ (t_2 : Int32) (H : Heap) (locs : List Loc) (ls : Array Slot), t_2 = 0 ∨ t_2 = 1 → va_P (gD g) cl0 ws H → va_D A ws → va_S A s.heap H locs → lv_has ls 3 [] → W p l e (headSpec (wt yX5_isArray cX5_isArray 3 (some .boolean)) ({ frames := 0, cells := 0, slots := 0, locals := 0 })).room s m ([.ref h0, .long y1] : List Value).toArray below meth c H locs (0) (0) (MQ below (va_Qi (fun (r : Int32) (u9 : Unit) => r = 0 ∨ r = 1) (gQ0 g A ws) A) ([.ref h0, .long y1] : List Value).toArray s (0) (0) A) (F0 m 21 ls [.int t_2]) := by
    intro t_2 H locs ls iv_3 hP hD hS hl
    have hz_t_2 := iv_3
    refine W.widen (k := 0) (n := 0) (Nat.le_of_ble_eq_true rfl) (Nat.le_of_ble_eq_true rfl) ?_
    exact W.zret (v := t_2) hx hb hr (nz hz_t_2) (fun t9 ht9 hW9 => ⟨⟨_, (), rfl, hz_t_2, ⟨by rw [ht9]; exact hP, hD⟩⟩, hS.F ht9⟩) hS.2.2 dX5_isArray_21
  have J_20 : ∀  (H : Heap) (locs : List Loc) (ls : Array Slot), va_P (gD g) cl0 ws H → va_D A ws → va_S A s.heap H locs → lv_has ls 3 [] → W p l e (headSpec (wt yX5_isArray cX5_isArray 3 (some .boolean)) ({ frames := 0, cells := 0, slots := 0, locals := 0 })).room s m ([.ref h0, .long y1] : List Value).toArray below meth c H locs (0) (0) (MQ below (va_Qi (fun (r : Int32) (u9 : Unit) => r = 0 ∨ r = 1) (gQ0 g A ws) A) ([.ref h0, .long y1] : List Value).toArray s (0) (0) A) (F0 m 20 ls []) := by
    intro  H locs ls  hP hD hS hl
    refine lv_iconst (v := 0) hx hb dX5_isArray_20 (by decide) ?_
    exact J_21 (0) H locs ls (Or.inl rfl) hP hD hS (lv_sub hl [] rfl)
  refine lv_if_lt (tgt := 20) hx hb dX5_isArray_3 (by decide) (fun c_8 => ?_) (fun c_8 => ?_)
  · exact J_20  _ _ ls  hP hD hS (lv_sub hl [] rfl)
  · refine lv_lload_n hx hb dX5_isArray_6 rfl (lv_at hl 1 rfl) ?_
    refine lv_aload_n hx hb dX5_isArray_7 rfl (lv_at hl 0 rfl) ?_
    obtain ⟨k_9, fs9, hk_9⟩ := gC_of o_h0
    obtain ⟨v0_9, r1_9, n1_9, r2_9, n2_9, c3_9, r4_9, n4_9, c5_9, r6_9, n6_9, c7_9, r8_9, n8_9, r9_9, n9_9, r10_9, n10_9, c11_9, v12_9, c13_9, c14_9, c15_9, l16_9, c17_9, c18_9, c19_9, rfl, o_v0_9, F_v0_9, a_r1_9, f3_9, a_r2_9, f5_9, a_r4_9, f7_9, a_r6_9, f9_9, a_r8_9, f11_9, a_r9_9, f13_9, a_r10_9, f15_9, o_v12_9, f17_9, f18_9, f19_9, f20_9, f21_9, f22_9, f23_9, f24_9, f25_9, f26_9, f27_9, f28_9, f29_9, f30_9, f31_9, -⟩ := (hG.1 _ _ _ _ hk_9).hX5 rfl
    refine va_get (D := gD g) (ci := 5) (v := .int c5_9) (C := RX5) (T := TX5) (N := 20) hx hb hts inX5 hown hK hP k_9 hk_9 rfl 5 (by decide) (hts _ kw_1008) (fun _ h9 => h9) rfl dX5_isArray_8 ?_
    obtain ⟨z_10, ez_10⟩ : ∃ y : Int64, (c5_9 : Int32).toInt64 = y := ⟨_, rfl⟩
    refine lv_i2l (v := z_10) hx hb dX5_isArray_11 ez_10 ?_
    refine W.lcmp hx hb dX5_isArray_12 ?_
    refine lv_topi (fun z_11 ez_11 => ?_)
    refine lv_if_gt (tgt := 20) hx hb dX5_isArray_13 (by decide) (fun c_12 => ?_) (fun c_12 => ?_)
    · exact J_20  _ _ ls  hP hD hS (lv_sub hl [] rfl)
    · refine lv_iconst (v := 1) hx hb dX5_isArray_16 (by decide) ?_
      refine lv_goto (tgt := 21) hx hb dX5_isArray_17 (by decide) ?_
      exact J_21 (1) _ _ ls (Or.inr rfl) hP hD hS (lv_sub hl [] rfl)
set_option maxHeartbeats 1000000 in
set_option maxRecDepth 100000 in
theorem m_X5_arrayStart (l : Launch) (g : Gm) (sz : Nat) (ws : va_W) (h0 : Nat) (x1 : Int32) (hG : Good g ws) (o_h0 : gC ws h0 5) : Met l yX5_arrayStart (wt yX5_arrayStart cX5_arrayStart 2 (some .int)) ({ frames := 0, cells := 0, slots := 0, locals := 0 }) (va_Pc [.ref h0, .int x1] (st_G g sz ws)) (va_Qi (fun (r : Int32) (u9 : Unit) => True) (gQ0 g (va_A ws sz) ws) (va_A ws sz)) (0) (0) (va_A ws sz) := by
  refine Met.ofW (cc := cX5_arrayStart) (maxL := 2) (ret := (some .int)) (by decide) rfl ?_
  intro p e s m args below meth c s₁ B hml hv
  obtain ⟨rfl, hsz, hP, hK, hD0, hex, hE⟩ := hv
  have hx := B.exec
  have hb := B.bytes
  have hr := B.returns
  have hts0 := atoms_spec (ws := wt yX5_arrayStart cX5_arrayStart 2 (some .int)) B.pre
  have hts : ∀ w ∈ tb, w.before _ s = true := fun w h => hts0 w (List.mem_cons_of_mem _ h)
  have hown : s.vm.findClass RX5 = some m.cls := findClass_of_methodNamed B.named
  subst hsz
  have hD := hD0.self (sz := s.heap.size)
  generalize hAe : va_A ws s.heap.size = A at hD hE ⊢
  have hA : ∀ q : Nat, s.heap.size ≤ q → A q := fun q h => by rw [← hAe]; exact Or.inr h
  have hS : va_S A s.heap s.heap [] := va_S.rf
  have hl := lv_entry ([.ref h0, .int x1]) (n := 2) (Nat.le_of_ble_eq_true rfl)
  rw [lg_entry_eq]
  generalize (lg_sl ([.ref h0, .int x1]) ++ List.replicate (2 - (lg_sl ([.ref h0, .int x1])).length) Slot.unset).toArray = ls at hl ⊢
  have hl : lv_has ls 2 [(0, .ref h0), (1, .int x1)] := hl
  refine lv_iload_n hx hb dX5_arrayStart_0 rfl (lv_at hl 1 rfl) ?_
  refine lv_aload_n hx hb dX5_arrayStart_1 rfl (lv_at hl 0 rfl) ?_
  obtain ⟨k_1, fs9, hk_1⟩ := gC_of o_h0
  obtain ⟨v0_1, r1_1, n1_1, r2_1, n2_1, c3_1, r4_1, n4_1, c5_1, r6_1, n6_1, c7_1, r8_1, n8_1, r9_1, n9_1, r10_1, n10_1, c11_1, v12_1, c13_1, c14_1, c15_1, l16_1, c17_1, c18_1, c19_1, rfl, o_v0_1, F_v0_1, a_r1_1, f3_1, a_r2_1, f5_1, a_r4_1, f7_1, a_r6_1, f9_1, a_r8_1, f11_1, a_r9_1, f13_1, a_r10_1, f15_1, o_v12_1, f17_1, f18_1, f19_1, f20_1, f21_1, f22_1, f23_1, f24_1, f25_1, f26_1, f27_1, f28_1, f29_1, f30_1, f31_1, -⟩ := (hG.1 _ _ _ _ hk_1).hX5 rfl
  refine va_get (D := gD g) (ci := 5) (v := .int c5_1) (C := RX5) (T := TX5) (N := 20) hx hb hts inX5 hown hK hP k_1 hk_1 rfl 5 (by decide) (hts _ kw_1008) (fun _ h9 => h9) rfl dX5_arrayStart_2 ?_
  refine lv_icmp_le (tgt := 13) hx hb dX5_arrayStart_5 (by decide) (fun c_2 => ?_) (fun c_2 => ?_)
  · refine lv_iload_n hx hb dX5_arrayStart_13 rfl (lv_at hl 1 rfl) ?_
    have J_36 : ∀ (t_3 : Int32) (H : Heap) (locs : List Loc) (ls : Array Slot), va_P (gD g) cl0 ws H → va_D A ws → va_S A s.heap H locs → lv_has ls 2 [] → W p l e (headSpec (wt yX5_arrayStart cX5_arrayStart 2 (some .int)) ({ frames := 0, cells := 0, slots := 0, locals := 0 })).room s m ([.ref h0, .int x1] : List Value).toArray below meth c H locs (0) (0) (MQ below (va_Qi (fun (r : Int32) (u9 : Unit) => True) (gQ0 g A ws) A) ([.ref h0, .int x1] : List Value).toArray s (0) (0) A) (F0 m 36 ls [.int t_3]) := by
      intro t_3 H locs ls  hP hD hS hl
      refine W.widen (k := 0) (n := 0) (Nat.le_of_ble_eq_true rfl) (Nat.le_of_ble_eq_true rfl) ?_
      exact W.iret (v := t_3) hx hb hr (fun t9 ht9 hW9 => ⟨⟨_, (), rfl, trivial, ⟨by rw [ht9]; exact hP, hD⟩⟩, hS.F ht9⟩) hS.2.2 dX5_arrayStart_36
    have J_26 : ∀  (H : Heap) (locs : List Loc) (ls : Array Slot), va_P (gD g) cl0 ws H → va_D A ws → va_S A s.heap H locs → lv_has ls 2 [] → W p l e (headSpec (wt yX5_arrayStart cX5_arrayStart 2 (some .int)) ({ frames := 0, cells := 0, slots := 0, locals := 0 })).room s m ([.ref h0, .int x1] : List Value).toArray below meth c H locs (0) (0) (MQ below (va_Qi (fun (r : Int32) (u9 : Unit) => True) (gQ0 g A ws) A) ([.ref h0, .int x1] : List Value).toArray s (0) (0) A) (F0 m 26 ls []) := by
      intro  H locs ls  hP hD hS hl
      refine lv_iconst (v := 0) hx hb dX5_arrayStart_26 (by decide) ?_
      refine lv_goto (tgt := 36) hx hb dX5_arrayStart_27 (by decide) ?_
      exact J_36 (0) H locs ls  hP hD hS (lv_sub hl [] rfl)
    refine lv_if_lt (tgt := 26) hx hb dX5_arrayStart_14 (by decide) (fun c_8 => ?_) (fun c_8 => ?_)
    · exact J_26  _ _ ls  hP hD hS (lv_sub hl [] rfl)
    · refine lv_iload_n hx hb dX5_arrayStart_17 rfl (lv_at hl 1 rfl) ?_
      refine lv_aload_n hx hb dX5_arrayStart_18 rfl (lv_at hl 0 rfl) ?_
      refine va_get (D := gD g) (ci := 5) (v := .ref r4_1) (C := RX5) (T := TX5) (N := 20) hx hb hts inX5 hown hK hP k_1 hk_1 rfl 4 (by decide) (hts _ kw_1010) (fun _ h9 => h9) rfl dX5_arrayStart_19 ?_
      obtain ⟨k_9, f_9, hk_9⟩ := gI_of a_r4_1
      obtain ⟨z_10, ez_10⟩ : ∃ z : Int32, Int32.ofNat n4_1 = z := ⟨_, rfl⟩
      refine va_alen (v := z_10) hx hb hK hP k_9 1 hk_9 rfl ez_10 dX5_arrayStart_22 ?_
      refine lv_icmp_lt (tgt := 30) hx hb dX5_arrayStart_23 (by decide) (fun c_11 => ?_) (fun c_11 => ?_)
      · refine lv_aload_n hx hb dX5_arrayStart_30 rfl (lv_at hl 0 rfl) ?_
        refine va_get (D := gD g) (ci := 5) (v := .ref r4_1) (C := RX5) (T := TX5) (N := 20) hx hb hts inX5 hown hK hP k_1 hk_1 rfl 4 (by decide) (hts _ kw_1010) (fun _ h9 => h9) rfl dX5_arrayStart_31 ?_
        refine lv_iload_n hx hb dX5_arrayStart_34 rfl (lv_at hl 1 rfl) ?_
        refine va_iald hx hb hK hP k_9 1 hk_9 rfl (i_in2 (by have e0 : (0 : Int32).toInt = 0 := (by decide); have q_f7_1 := f7_1; have q_f30_1 := f30_1; have q_f31_1 := f31_1; have q_c_2 := i_le c_2; have q_c_8 := i_nlt c_8; have q_z_10 := i_len ez_10 f7_1; have q_c_11 := i_lt c_11; have q_f28_1 := f28_1; have q_f29_1 := f29_1; have g_c5_1 := i_rg c5_1; have g_x1 := i_rg x1; have g_z_10 := i_rg z_10; omega)) dX5_arrayStart_35 ?_
        refine lv_topi (fun z_12 ez_12 => ?_)
        exact J_36 (z_12) _ _ ls  hP hD hS (lv_sub hl [] rfl)
      · exact J_26  _ _ ls  hP hD hS (lv_sub hl [] rfl)
  · refine lv_aload_n hx hb dX5_arrayStart_8 rfl (lv_at hl 0 rfl) ?_
    refine va_get (D := gD g) (ci := 5) (v := .int c3_1) (C := RX5) (T := TX5) (N := 20) hx hb hts inX5 hown hK hP k_1 hk_1 rfl 3 (by decide) (hts _ kw_1009) (fun _ h9 => h9) rfl dX5_arrayStart_9 ?_
    refine W.widen (k := 0) (n := 0) (Nat.le_of_ble_eq_true rfl) (Nat.le_of_ble_eq_true rfl) ?_
    exact W.iret (v := c3_1) hx hb hr (fun t9 ht9 hW9 => ⟨⟨_, (), rfl, trivial, ⟨by rw [ht9]; exact hP, hD⟩⟩, hS.F ht9⟩) hS.2.2 dX5_arrayStart_12
set_option maxHeartbeats 1000000 in
set_option maxRecDepth 100000 in
theorem m_X5_heapAt (l : Launch) (g : Gm) (sz : Nat) (ws : va_W) (h0 : Nat) (x1 : Int32) (hG : Good g ws) (o_h0 : gC ws h0 5) : Met l yX5_heapAt (wt yX5_heapAt cX5_heapAt 2 (some .int)) ({ frames := 0, cells := 0, slots := 0, locals := 0 }) (va_Pc [.ref h0, .int x1] (st_G g sz ws)) (va_Qi (fun (r : Int32) (u9 : va_W) => True) (gQ1 g [(5, 19)] [] none (va_A ws sz) ws) (va_A ws sz)) (0) (0) (va_A ws sz) := by
  refine Met.ofW (cc := cX5_heapAt) (maxL := 2) (ret := (some .int)) (by decide) rfl ?_
  intro p e s m args below meth c s₁ B hml hv
  obtain ⟨rfl, hsz, hP, hK, hD0, hex, hE⟩ := hv
  have hx := B.exec
  have hb := B.bytes
  have hr := B.returns
  have hts0 := atoms_spec (ws := wt yX5_heapAt cX5_heapAt 2 (some .int)) B.pre
  have hts : ∀ w ∈ tb, w.before _ s = true := fun w h => hts0 w (List.mem_cons_of_mem _ h)
  have hown : s.vm.findClass RX5 = some m.cls := findClass_of_methodNamed B.named
  subst hsz
  have hD := hD0.self (sz := s.heap.size)
  generalize hAe : va_A ws s.heap.size = A at hD hE ⊢
  have hA : ∀ q : Nat, s.heap.size ≤ q → A q := fun q h => by rw [← hAe]; exact Or.inr h
  have hS : va_S A s.heap s.heap [] := va_S.rf
  have hl := lv_entry ([.ref h0, .int x1]) (n := 2) (Nat.le_of_ble_eq_true rfl)
  rw [lg_entry_eq]
  generalize (lg_sl ([.ref h0, .int x1]) ++ List.replicate (2 - (lg_sl ([.ref h0, .int x1])).length) Slot.unset).toArray = ls at hl ⊢
  have hl : lv_has ls 2 [(0, .ref h0), (1, .int x1)] := hl
  refine lv_iload_n hx hb dX5_heapAt_0 rfl (lv_at hl 1 rfl) ?_
  have J_21 : ∀  (H : Heap) (locs : List Loc) (ls : Array Slot), va_P (gD g) cl0 ws H → va_D A ws → va_S A s.heap H locs → lv_has ls 2 [(0, .ref h0)] → W p l e (headSpec (wt yX5_heapAt cX5_heapAt 2 (some .int)) ({ frames := 0, cells := 0, slots := 0, locals := 0 })).room s m ([.ref h0, .int x1] : List Value).toArray below meth c H locs (0) (0) (MQ below (va_Qi (fun (r : Int32) (u9 : va_W) => True) (gQ1 g [(5, 19)] [] none A ws) A) ([.ref h0, .int x1] : List Value).toArray s (0) (0) A) (F0 m 21 ls []) := by
    intro  H locs ls  hP hD hS hl
    refine lv_aload_n hx hb dX5_heapAt_21 rfl (lv_at hl 0 rfl) ?_
    refine lv_dup hx hb dX5_heapAt_22 rfl ?_
    obtain ⟨k_3, fs9, hk_3⟩ := gC_of o_h0
    obtain ⟨v0_3, r1_3, n1_3, r2_3, n2_3, c3_3, r4_3, n4_3, c5_3, r6_3, n6_3, c7_3, r8_3, n8_3, r9_3, n9_3, r10_3, n10_3, c11_3, v12_3, c13_3, c14_3, c15_3, l16_3, c17_3, c18_3, c19_3, rfl, o_v0_3, F_v0_3, a_r1_3, f3_3, a_r2_3, f5_3, a_r4_3, f7_3, a_r6_3, f9_3, a_r8_3, f11_3, a_r9_3, f13_3, a_r10_3, f15_3, o_v12_3, f17_3, f18_3, f19_3, f20_3, f21_3, f22_3, f23_3, f24_3, f25_3, f26_3, f27_3, f28_3, f29_3, f30_3, f31_3, -⟩ := (hG.1 _ _ _ _ hk_3).hX5 rfl
    refine va_get (D := gD g) (ci := 5) (v := .int c19_3) (C := RX5) (T := TX5) (N := 20) hx hb hts inX5 hown hK hP k_3 hk_3 rfl 19 (by decide) (hts _ kw_1045) (fun _ h9 => h9) rfl dX5_heapAt_23 ?_
    refine lv_iconst (v := 1) hx hb dX5_heapAt_26 (by decide) ?_
    refine lv_iadd hx hb dX5_heapAt_27 ?_
    refine lv_topi (fun z_4 ez_4 => ?_)
    have hV9 : okv ws 5 19 (.int z_4) := okv_i
    refine va_put (D := gD g) (ci := 5) (v := .int z_4) (ty := .int) (C := RX5) (T := TX5) (N := 20) hx hb hts inX5 tyX5 tyX5_ok nmX5 hown hK hP hD hS k_3 hk_3 rfl 19 (by decide) (hts _ kw_1045) (fun _ h9 => h9) rfl (by decide +kernel) rfl rfl (Nat.le_of_ble_eq_true rfl) dX5_heapAt_28 (fun H locs hP hD hS => ?_)
    have hi_5 : invX5 g ws h0 [va_rf v0_3, .ref r1_3, .ref r2_3, .int c3_3, .ref r4_3, .int c5_3, .ref r6_3, .int c7_3, .ref r8_3, .ref r9_3, .ref r10_3, .int c11_3, va_rf v12_3, .int c13_3, .int c14_3, .int c15_3, .long l16_3, .int c17_3, .int c18_3, .int z_4] := ⟨v0_3, r1_3, (n1_3), r2_3, (n2_3), (c3_3), r4_3, (n4_3), (c5_3), r6_3, (n6_3), (c7_3), r8_3, (n8_3), r9_3, (n9_3), r10_3, (n10_3), (c11_3), v12_3, (c13_3), (c14_3), (c15_3), (l16_3), (c17_3), (c18_3), (z_4), rfl, o_v0_3, F_v0_3, a_r1_3, f3_3, a_r2_3, f5_3, a_r4_3, f7_3, a_r6_3, f9_3, a_r8_3, f11_3, a_r9_3, f13_3, a_r10_3, f15_3, o_v12_3, f17_3, f18_3, f19_3, f20_3, f21_3, f22_3, f23_3, f24_3, f25_3, f26_3, f27_3, f28_3, f29_3, f30_3, f31_3, trivial⟩
    obtain ⟨ws_6, e_ws_6⟩ : ∃ z, z = ws.set k_3 (h0, .inr (5, [va_rf v0_3, .ref r1_3, .ref r2_3, .int c3_3, .ref r4_3, .int c5_3, .ref r6_3, .int c7_3, .ref r8_3, .ref r9_3, .ref r10_3, .int c11_3, va_rf v12_3, .int c13_3, .int c14_3, .int c15_3, .long l16_3, .int c17_3, .int c18_3, .int z_4])) := ⟨_, rfl⟩
    have hP : va_P (gD g) cl0 ws_6 H := by rw [e_ws_6]; exact hP
    have hD : va_D A ws_6 := by rw [e_ws_6]; exact hD
    have E_7 : gE ws ws_6 := gE_set e_ws_6 hk_3 (cw_o (fi := 19) (v := .int z_4) rfl (by decide))
    have hG : Good g ws_6 := Good_set (fi := 19) (v := .int z_4) e_ws_6 hk_3 E_7 rfl hV9 hG (ivX5 hi_5)
    have Fr_8 : gF [(5, 19)] [] (some h0) ws ws_6 := gF_put (fi := 19) (v := .int z_4) e_ws_6 hk_3 rfl (by decide)
    have hkN := gset_self e_ws_6 hk_3
    have hk_3 := hkN
    have o_h0 := E_7.1 _ _ o_h0
    have o_v0_3 : ∀ b, v0_3 = some b → gC ws_6 b 9 := fun b h => E_7.1 _ _ (o_v0_3 b h)
    have F_v0_3 : ∀ b, v0_3 = some b → full ws_6 b := fun b h => (F_v0_3 b h).mo E_7
    have a_r1_3 := E_7.1 _ _ a_r1_3
    have a_r2_3 := E_7.1 _ _ a_r2_3
    have a_r4_3 := E_7.1 _ _ a_r4_3
    have a_r6_3 := E_7.1 _ _ a_r6_3
    have a_r8_3 := E_7.1 _ _ a_r8_3
    have a_r9_3 := E_7.1 _ _ a_r9_3
    have a_r10_3 := E_7.1 _ _ a_r10_3
    have o_v12_3 : ∀ b, v12_3 = some b → gC ws_6 b 7 := fun b h => E_7.1 _ _ (o_v12_3 b h)
    refine lv_iconst (v := 0) hx hb dX5_heapAt_31 (by decide) ?_
    refine W.widen (k := 0) (n := 0) (Nat.le_of_ble_eq_true rfl) (Nat.le_of_ble_eq_true rfl) ?_
    exact W.iret (v := 0) hx hb hr (fun t9 ht9 hW9 => ⟨⟨_, ws_6, rfl, trivial, ⟨E_7, (gF.mo (F' := [(5, 19)]) (C' := []) (S' := none) Fr_8 (fun _ h => h) (fun _ h => h) (Or.inl rfl)), hG, by rw [ht9]; exact hP, hD⟩⟩, hS.F ht9⟩) hS.2.2 dX5_heapAt_32
  refine lv_if_lt (tgt := 21) hx hb dX5_heapAt_1 (by decide) (fun c_9 => ?_) (fun c_9 => ?_)
  · exact J_21  _ _ ls  hP hD hS (lv_sub hl [0] rfl)
  · refine lv_iload_n hx hb dX5_heapAt_4 rfl (lv_at hl 1 rfl) ?_
    refine lv_aload_n hx hb dX5_heapAt_5 rfl (lv_at hl 0 rfl) ?_
    obtain ⟨k_10, fs9, hk_10⟩ := gC_of o_h0
    obtain ⟨v0_10, r1_10, n1_10, r2_10, n2_10, c3_10, r4_10, n4_10, c5_10, r6_10, n6_10, c7_10, r8_10, n8_10, r9_10, n9_10, r10_10, n10_10, c11_10, v12_10, c13_10, c14_10, c15_10, l16_10, c17_10, c18_10, c19_10, rfl, o_v0_10, F_v0_10, a_r1_10, f3_10, a_r2_10, f5_10, a_r4_10, f7_10, a_r6_10, f9_10, a_r8_10, f11_10, a_r9_10, f13_10, a_r10_10, f15_10, o_v12_10, f17_10, f18_10, f19_10, f20_10, f21_10, f22_10, f23_10, f24_10, f25_10, f26_10, f27_10, f28_10, f29_10, f30_10, f31_10, -⟩ := (hG.1 _ _ _ _ hk_10).hX5 rfl
    refine va_get (D := gD g) (ci := 5) (v := .int c3_10) (C := RX5) (T := TX5) (N := 20) hx hb hts inX5 hown hK hP k_10 hk_10 rfl 3 (by decide) (hts _ kw_1009) (fun _ h9 => h9) rfl dX5_heapAt_6 ?_
    refine lv_icmp_ge (tgt := 21) hx hb dX5_heapAt_9 (by decide) (fun c_11 => ?_) (fun c_11 => ?_)
    · exact J_21  _ _ ls  hP hD hS (lv_sub hl [0] rfl)
    · refine lv_iload_n hx hb dX5_heapAt_12 rfl (lv_at hl 1 rfl) ?_
      refine lv_aload_n hx hb dX5_heapAt_13 rfl (lv_at hl 0 rfl) ?_
      refine va_get (D := gD g) (ci := 5) (v := .ref r2_10) (C := RX5) (T := TX5) (N := 20) hx hb hts inX5 hown hK hP k_10 hk_10 rfl 2 (by decide) (hts _ kw_1069) (fun _ h9 => h9) rfl dX5_heapAt_14 ?_
      obtain ⟨k_12, f_12, hk_12⟩ := gI_of a_r2_10
      obtain ⟨z_13, ez_13⟩ : ∃ z : Int32, Int32.ofNat n2_10 = z := ⟨_, rfl⟩
      refine va_alen (v := z_13) hx hb hK hP k_12 1 hk_12 rfl ez_13 dX5_heapAt_17 ?_
      refine lv_icmp_lt (tgt := 33) hx hb dX5_heapAt_18 (by decide) (fun c_14 => ?_) (fun c_14 => ?_)
      · refine lv_aload_n hx hb dX5_heapAt_33 rfl (lv_at hl 0 rfl) ?_
        refine va_get (D := gD g) (ci := 5) (v := .ref r2_10) (C := RX5) (T := TX5) (N := 20) hx hb hts inX5 hown hK hP k_10 hk_10 rfl 2 (by decide) (hts _ kw_1069) (fun _ h9 => h9) rfl dX5_heapAt_34 ?_
        refine lv_iload_n hx hb dX5_heapAt_37 rfl (lv_at hl 1 rfl) ?_
        refine va_iald hx hb hK hP k_12 1 hk_12 rfl (i_in2 (by have e0 : (0 : Int32).toInt = 0 := (by decide); have q_c_9 := i_nlt c_9; have q_f5_10 := f5_10; have q_f27_10 := f27_10; have q_c_11 := i_nle c_11; have q_z_13 := i_len ez_13 f5_10; have q_c_14 := i_lt c_14; have q_f25_10 := f25_10; have q_f26_10 := f26_10; have g_c3_10 := i_rg c3_10; have g_x1 := i_rg x1; have g_z_13 := i_rg z_13; omega)) dX5_heapAt_38 ?_
        refine lv_topi (fun z_15 ez_15 => ?_)
        refine W.widen (k := 0) (n := 0) (Nat.le_of_ble_eq_true rfl) (Nat.le_of_ble_eq_true rfl) ?_
        exact W.iret (v := z_15) hx hb hr (fun t9 ht9 hW9 => ⟨⟨_, ws, rfl, trivial, ⟨gE.rf, gF.rf, hG, by rw [ht9]; exact hP, hD⟩⟩, hS.F ht9⟩) hS.2.2 dX5_heapAt_39
      · exact J_21  _ _ ls  hP hD hS (lv_sub hl [0] rfl)
set_option maxHeartbeats 1000000 in
set_option maxRecDepth 100000 in
theorem m_X5_refusal (l : Launch) (g : Gm) (sz : Nat) (ws : va_W) (h0 : Nat) (x1 : Int32) (x2 : Int32) (hG : Good g ws) (o_h0 : gC ws h0 5) : Met l yX5_refusal (wt yX5_refusal cX5_refusal 5 (some .int)) ({ frames := 2, cells := 0, slots := 0, locals := 43 }) (va_Pc [.ref h0, .int x1, .int x2] (st_G g sz ws)) (va_Qi (fun (r : Int32) (u9 : Unit) => (True) ∧ (r.toInt = 0 → inU ws h0 x1 ∧ gN ws h0 0)) (gQ0 g (va_A ws sz) ws) (va_A ws sz)) (0) (0) (va_A ws sz) := by
  refine Met.ofW (cc := cX5_refusal) (maxL := 5) (ret := (some .int)) (by decide) rfl ?_
  intro p e s m args below meth c s₁ B hml hv
  obtain ⟨rfl, hsz, hP, hK, hD0, hex, hE⟩ := hv
  have hx := B.exec
  have hb := B.bytes
  have hr := B.returns
  have hts0 := atoms_spec (ws := wt yX5_refusal cX5_refusal 5 (some .int)) B.pre
  have hts : ∀ w ∈ tb, w.before _ s = true := fun w h => hts0 w (List.mem_cons_of_mem _ h)
  have hown : s.vm.findClass RX5 = some m.cls := findClass_of_methodNamed B.named
  subst hsz
  have hD := hD0.self (sz := s.heap.size)
  generalize hAe : va_A ws s.heap.size = A at hD hE ⊢
  have hA : ∀ q : Nat, s.heap.size ≤ q → A q := fun q h => by rw [← hAe]; exact Or.inr h
  have hS : va_S A s.heap s.heap [] := va_S.rf
  have hl := lv_entry ([.ref h0, .int x1, .int x2]) (n := 5) (Nat.le_of_ble_eq_true rfl)
  rw [lg_entry_eq]
  generalize (lg_sl ([.ref h0, .int x1, .int x2]) ++ List.replicate (5 - (lg_sl ([.ref h0, .int x1, .int x2])).length) Slot.unset).toArray = ls at hl ⊢
  have hl : lv_has ls 5 [(0, .ref h0), (1, .int x1), (2, .int x2)] := hl
  refine lv_aload_n hx hb dX5_refusal_0 rfl (lv_at hl 0 rfl) ?_
  obtain ⟨k_1, fs9, hk_1⟩ := gC_of o_h0
  obtain ⟨v0_1, r1_1, n1_1, r2_1, n2_1, c3_1, r4_1, n4_1, c5_1, r6_1, n6_1, c7_1, r8_1, n8_1, r9_1, n9_1, r10_1, n10_1, c11_1, v12_1, c13_1, c14_1, c15_1, l16_1, c17_1, c18_1, c19_1, rfl, o_v0_1, F_v0_1, a_r1_1, f3_1, a_r2_1, f5_1, a_r4_1, f7_1, a_r6_1, f9_1, a_r8_1, f11_1, a_r9_1, f13_1, a_r10_1, f15_1, o_v12_1, f17_1, f18_1, f19_1, f20_1, f21_1, f22_1, f23_1, f24_1, f25_1, f26_1, f27_1, f28_1, f29_1, f30_1, f31_1, -⟩ := (hG.1 _ _ _ _ hk_1).hX5 rfl
  refine va_get (D := gD g) (ci := 5) (v := va_rf v0_1) (C := RX5) (T := TX5) (N := 20) hx hb hts inX5 hown hK hP k_1 hk_1 rfl 0 (by decide) (hts _ kw_1027) (fun _ h9 => h9) rfl dX5_refusal_1 ?_
  have J_18 : ∀  (H : Heap) (locs : List Loc) (ls : Array Slot), va_P (gD g) cl0 ws H → va_D A ws → va_S A s.heap H locs → lv_has ls 5 [] → W p l e (headSpec (wt yX5_refusal cX5_refusal 5 (some .int)) ({ frames := 2, cells := 0, slots := 0, locals := 43 })).room s m ([.ref h0, .int x1, .int x2] : List Value).toArray below meth c H locs (0) (0) (MQ below (va_Qi (fun (r : Int32) (u9 : Unit) => (True) ∧ (r.toInt = 0 → inU ws h0 x1 ∧ gN ws h0 0)) (gQ0 g A ws) A) ([.ref h0, .int x1, .int x2] : List Value).toArray s (0) (0) A) (F0 m 18 ls []) := by
    intro  H locs ls  hP hD hS hl
    refine lv_iconst (v := (-1)) hx hb dX5_refusal_18 (by decide) ?_
    refine W.widen (k := 0) (n := 0) (Nat.le_of_ble_eq_true rfl) (Nat.le_of_ble_eq_true rfl) ?_
    exact W.iret (v := (-1)) hx hb hr (fun t9 ht9 hW9 => ⟨⟨_, (), rfl, ⟨trivial, (fun z9 => absurd z9 (by decide))⟩, ⟨by rw [ht9]; exact hP, hD⟩⟩, hS.F ht9⟩) hS.2.2 dX5_refusal_19
  rcases v0_1 with _ | b_4
  · skip
    have J_18 : ∀  (H : Heap) (locs : List Loc) (ls : Array Slot), va_P (gD g) cl0 ws H → va_D A ws → va_S A s.heap H locs → lv_has ls 5 [] → W p l e (headSpec (wt yX5_refusal cX5_refusal 5 (some .int)) ({ frames := 2, cells := 0, slots := 0, locals := 43 })).room s m ([.ref h0, .int x1, .int x2] : List Value).toArray below meth c H locs (0) (0) (MQ below (va_Qi (fun (r : Int32) (u9 : Unit) => (True) ∧ (r.toInt = 0 → inU ws h0 x1 ∧ gN ws h0 0)) (gQ0 g A ws) A) ([.ref h0, .int x1, .int x2] : List Value).toArray s (0) (0) A) (F0 m 18 ls []) := by
      intro  H locs ls  hP hD hS hl
      refine lv_iconst (v := (-1)) hx hb dX5_refusal_18 (by decide) ?_
      refine W.widen (k := 0) (n := 0) (Nat.le_of_ble_eq_true rfl) (Nat.le_of_ble_eq_true rfl) ?_
      exact W.iret (v := (-1)) hx hb hr (fun t9 ht9 hW9 => ⟨⟨_, (), rfl, ⟨trivial, (fun z9 => absurd z9 (by decide))⟩, ⟨by rw [ht9]; exact hP, hD⟩⟩, hS.F ht9⟩) hS.2.2 dX5_refusal_19
    refine lv_ifnullN (tgt := 18) hx hb dX5_refusal_4 (by decide) ?_
    exact J_18  _ _ ls  hP hD hS (lv_sub hl [] rfl)
  · have o_b_4 := o_v0_1 _ rfl
    have F_b_4 := F_v0_1 _ rfl
    have J_18 : ∀  (H : Heap) (locs : List Loc) (ls : Array Slot), va_P (gD g) cl0 ws H → va_D A ws → va_S A s.heap H locs → lv_has ls 5 [] → W p l e (headSpec (wt yX5_refusal cX5_refusal 5 (some .int)) ({ frames := 2, cells := 0, slots := 0, locals := 43 })).room s m ([.ref h0, .int x1, .int x2] : List Value).toArray below meth c H locs (0) (0) (MQ below (va_Qi (fun (r : Int32) (u9 : Unit) => (True) ∧ (r.toInt = 0 → inU ws h0 x1 ∧ gN ws h0 0)) (gQ0 g A ws) A) ([.ref h0, .int x1, .int x2] : List Value).toArray s (0) (0) A) (F0 m 18 ls []) := by
      intro  H locs ls  hP hD hS hl
      refine lv_iconst (v := (-1)) hx hb dX5_refusal_18 (by decide) ?_
      refine W.widen (k := 0) (n := 0) (Nat.le_of_ble_eq_true rfl) (Nat.le_of_ble_eq_true rfl) ?_
      exact W.iret (v := (-1)) hx hb hr (fun t9 ht9 hW9 => ⟨⟨_, (), rfl, ⟨trivial, (fun z9 => absurd z9 (by decide))⟩, ⟨by rw [ht9]; exact hP, hD⟩⟩, hS.F ht9⟩) hS.2.2 dX5_refusal_19
    refine lv_ifnull hx hb dX5_refusal_4 ?_
    refine lv_aload_n hx hb dX5_refusal_7 rfl (lv_at hl 0 rfl) ?_
    refine va_get (D := gD g) (ci := 5) (v := .ref b_4) (C := RX5) (T := TX5) (N := 20) hx hb hts inX5 hown hK hP k_1 hk_1 rfl 0 (by decide) (hts _ kw_1027) (fun _ h9 => h9) rfl dX5_refusal_8 ?_
    refine lv_iload_n hx hb dX5_refusal_11 rfl (lv_at hl 1 rfl) ?_
    have hFc := gfree hD hS hA
    obtain ⟨k_9, fs_9, hk_9⟩ := gC_of o_b_4
    refine va_callq (va_runV (As := [.int x1]) (rest := []) ⟨hx, hb, hml, hown, hts⟩ (m_X10_rowAt l g s.heap.size ws b_4 (x1) hG o_b_4) (cwV 1 hts (gd_V kw_1029 kw_70 kw_71 kw_34 kw_69) rfl rfl rfl (by decide +kernel) ⟨Nat.le_of_ble_eq_true rfl, Nat.le_of_ble_eq_true rfl⟩) ⟨gblind, va_recv hK hP (ci := 9) (q0 := k_9) rfl hk_9, fun U hU hW9 => gmk hU hW9 hP hK hD hex hE hS hFc⟩ rfl rfl hl.1 rfl (lv_room (Nat.le_of_ble_eq_true rfl)) dX5_refusal_12 ⟨Nat.le_of_ble_eq_true rfl, Nat.le_of_ble_eq_true rfl⟩) hS (fun q _ h => hFc q h) hFc (fun r_10 u9 t9 H1 locs ht9 hvm9 hw9 hB9 hz9 hk9 hS => ?_)
    have hP : va_P (gD g) cl0 ws H1 := by rw [← ht9]; exact hB9.1
    obtain ⟨o_r_10, h_r_10⟩ := id hw9
    clear hB9 hz9 hk9 hvm9 ht9 hw9
    generalize H1 = H at hP hS ⊢
    rcases r_10 with _ | b_11
    · skip
      refine lv_ifnonnullN hx hb dX5_refusal_15 ?_
      exact J_18  H locs ls  hP hD hS (lv_sub hl [] rfl)
    · have o_b_11 := o_r_10 _ rfl
      refine lv_ifnonnull (tgt := 20) hx hb dX5_refusal_15 (by decide) ?_
      have iu9 : inU ws h0 x1 := ⟨_, _, _, hk_1, rfl, (h_r_10.1 _ rfl).1⟩
      have gn9 := gN_of hD hk_1 (j := 0) rfl
      refine lv_aload_n hx hb dX5_refusal_20 rfl (lv_at hl 0 rfl) ?_
      refine va_get (D := gD g) (ci := 5) (v := .ref b_4) (C := RX5) (T := TX5) (N := 20) hx hb hts inX5 hown hK hP k_1 hk_1 rfl 0 (by decide) (hts _ kw_1027) (fun _ h9 => h9) rfl dX5_refusal_21 ?_
      refine lv_iload_n hx hb dX5_refusal_24 rfl (lv_at hl 1 rfl) ?_
      have hFc := gfree hD hS hA
      obtain ⟨k_12, fs_12, hk_12⟩ := gC_of o_b_4
      refine va_calli (va_runV (As := [.int x1]) (rest := []) ⟨hx, hb, hml, hown, hts⟩ (m_X10_takesOfMethod l g H.size ws b_4 (x1) hG o_b_4) (cwV 1 hts (gd_V kw_1042 kw_78 kw_79 kw_34 kw_77) rfl rfl rfl (by decide +kernel) ⟨Nat.le_of_ble_eq_true rfl, Nat.le_of_ble_eq_true rfl⟩) ⟨gblind, va_recv hK hP (ci := 9) (q0 := k_12) rfl hk_12, fun U hU hW9 => gmk hU hW9 hP hK hD hex hE hS hFc⟩ rfl rfl hl.1 rfl (lv_room (Nat.le_of_ble_eq_true rfl)) dX5_refusal_25 ⟨Nat.le_of_ble_eq_true rfl, Nat.le_of_ble_eq_true rfl⟩) hS (fun q _ h => hFc q h) hFc (fun r_13 u9 t9 H1 locs ht9 hvm9 hw9 hB9 hz9 hk9 hS => ?_)
      have hP : va_P (gD g) cl0 ws H1 := by rw [← ht9]; exact hB9.1
      clear hB9 hz9 hk9 hvm9 ht9 hw9
      generalize H1 = H at hP hS ⊢
      refine lv_istore_n (lv' := [(3, .int r_13), (0, .ref h0), (1, .int x1), (2, .int x2)]) hx hb dX5_refusal_28 rfl hl (by decide) rfl (fun ls hl => ?_)
      refine lv_iload_n hx hb dX5_refusal_29 rfl (lv_at hl 0 rfl) ?_
      have hFc := gfree hD hS hA
      refine va_calli (va_runS (As := [.int r_13]) (rest := []) ⟨hx, hb, hml, hown, hts⟩ (m_X6_kindCount l g H.size ws (r_13) hG ) (va_cwS 1 hts (gd_S kw_1142 kw_1242 kw_1207 kw_1241) rfl rfl rfl (by decide +kernel) ⟨Nat.le_of_ble_eq_true rfl, Nat.le_of_ble_eq_true rfl⟩) ⟨gblind, fun U hU hW9 => gmk hU hW9 hP hK hD hex hE hS hFc⟩ rfl rfl hl.1 rfl (lv_room (Nat.le_of_ble_eq_true rfl)) dX5_refusal_30 ⟨Nat.le_of_ble_eq_true rfl, Nat.le_of_ble_eq_true rfl⟩) hS (fun q _ h => hFc q h) hFc (fun r_14 u9 t9 H1 locs ht9 hvm9 hw9 hB9 hz9 hk9 hS => ?_)
      have hP : va_P (gD g) cl0 ws H1 := by rw [← ht9]; exact hB9.1
      have h_r_14 := hw9
      clear hB9 hz9 hk9 hvm9 ht9 hw9
      generalize H1 = H at hP hS ⊢
      refine lv_aload_n hx hb dX5_refusal_33 rfl (lv_at hl 1 rfl) ?_
      refine va_get (D := gD g) (ci := 5) (v := .int c7_1) (C := RX5) (T := TX5) (N := 20) hx hb hts inX5 hown hK hP k_1 hk_1 rfl 7 (by decide) (hts _ kw_1003) (fun _ h9 => h9) rfl dX5_refusal_34 ?_
      refine lv_icmp_eq (tgt := 43) hx hb dX5_refusal_37 (by decide) (fun c_15 => ?_) (fun c_15 => ?_)
      · refine lv_iconst (v := 0) hx hb dX5_refusal_43 (by decide) ?_
        refine lv_istore (lv' := [(4, .int 0), (3, .int r_13), (0, .ref h0), (1, .int x1), (2, .int x2)]) hx hb dX5_refusal_44 hl (by decide) rfl (fun ls hl => ?_)
        have J_46 : ∀ (n9 : Nat) (v4_16 : Int32) (H : Heap) (locs : List Loc) (ls : Array Slot), (2147483647 - v4_16.toInt).toNat = n9 → 0 ≤ v4_16.toInt → va_P (gD g) cl0 ws H → va_D A ws → va_S A s.heap H locs → lv_has ls 5 [(0, .ref h0), (2, .int x2), (3, .int r_13), (4, .int v4_16)] → W p l e (headSpec (wt yX5_refusal cX5_refusal 5 (some .int)) ({ frames := 2, cells := 0, slots := 0, locals := 43 })).room s m ([.ref h0, .int x1, .int x2] : List Value).toArray below meth c H locs (0) (0) (MQ below (va_Qi (fun (r : Int32) (u9 : Unit) => (True) ∧ (r.toInt = 0 → inU ws h0 x1 ∧ gN ws h0 0)) (gQ0 g A ws) A) ([.ref h0, .int x1, .int x2] : List Value).toArray s (0) (0) A) (F0 m 46 ls []) := by
          intro n9
          induction n9 using Nat.strongRecOn with
          | ind n9 ih_46 =>
            intro v4_16 H locs ls hm9 iv_17 hP hD hS hl
            subst hm9
            refine lv_iload hx hb dX5_refusal_46 (lv_at hl 3 rfl) ?_
            refine lv_aload_n hx hb dX5_refusal_48 rfl (lv_at hl 0 rfl) ?_
            refine va_get (D := gD g) (ci := 5) (v := .int c7_1) (C := RX5) (T := TX5) (N := 20) hx hb hts inX5 hown hK hP k_1 hk_1 rfl 7 (by decide) (hts _ kw_1003) (fun _ h9 => h9) rfl dX5_refusal_49 ?_
            refine lv_icmp_ge (tgt := 100) hx hb dX5_refusal_52 (by decide) (fun c_20 => ?_) (fun c_20 => ?_)
            · refine lv_iload_n hx hb dX5_refusal_100 rfl (lv_at hl 1 rfl) ?_
              have J_116 : ∀ (t_21 : Int32) (H : Heap) (locs : List Loc) (ls : Array Slot), -3 ≤ t_21.toInt ∧ t_21.toInt ≤ 0 → va_P (gD g) cl0 ws H → va_D A ws → va_S A s.heap H locs → lv_has ls 5 [] → W p l e (headSpec (wt yX5_refusal cX5_refusal 5 (some .int)) ({ frames := 2, cells := 0, slots := 0, locals := 43 })).room s m ([.ref h0, .int x1, .int x2] : List Value).toArray below meth c H locs (0) (0) (MQ below (va_Qi (fun (r : Int32) (u9 : Unit) => (True) ∧ (r.toInt = 0 → inU ws h0 x1 ∧ gN ws h0 0)) (gQ0 g A ws) A) ([.ref h0, .int x1, .int x2] : List Value).toArray s (0) (0) A) (F0 m 116 ls [.int t_21]) := by
                intro t_21 H locs ls iv_22 hP hD hS hl
                refine W.widen (k := 0) (n := 0) (Nat.le_of_ble_eq_true rfl) (Nat.le_of_ble_eq_true rfl) ?_
                exact W.iret (v := t_21) hx hb hr (fun t9 ht9 hW9 => ⟨⟨_, (), rfl, ⟨trivial, (fun _ => ⟨iu9, gn9⟩)⟩, ⟨by rw [ht9]; exact hP, hD⟩⟩, hS.F ht9⟩) hS.2.2 dX5_refusal_116
              have J_110 : ∀  (H : Heap) (locs : List Loc) (ls : Array Slot), va_P (gD g) cl0 ws H → va_D A ws → va_S A s.heap H locs → lv_has ls 5 [] → W p l e (headSpec (wt yX5_refusal cX5_refusal 5 (some .int)) ({ frames := 2, cells := 0, slots := 0, locals := 43 })).room s m ([.ref h0, .int x1, .int x2] : List Value).toArray below meth c H locs (0) (0) (MQ below (va_Qi (fun (r : Int32) (u9 : Unit) => (True) ∧ (r.toInt = 0 → inU ws h0 x1 ∧ gN ws h0 0)) (gQ0 g A ws) A) ([.ref h0, .int x1, .int x2] : List Value).toArray s (0) (0) A) (F0 m 110 ls []) := by
                intro  H locs ls  hP hD hS hl
                refine lv_bipush (v := (-3)) hx hb dX5_refusal_110 (by decide) ?_
                refine lv_goto (tgt := 116) hx hb dX5_refusal_112 (by decide) ?_
                exact J_116 ((-3)) H locs ls (by have em3 : ((-3) : Int32).toInt = -3 := (by decide); have g_x1 := i_rg x1; have g_x2 := i_rg x2; omega) hP hD hS (lv_sub hl [] rfl)
              refine lv_if_lt (tgt := 110) hx hb dX5_refusal_101 (by decide) (fun c_27 => ?_) (fun c_27 => ?_)
              · exact J_110  H locs ls  hP hD hS (lv_sub hl [] rfl)
              · refine lv_iload_n hx hb dX5_refusal_104 rfl (lv_at hl 1 rfl) ?_
                refine lv_ldc hx hb hown (hts _ kw_1143) dX5_refusal_105 ?_
                refine lv_icmp_le (tgt := 115) hx hb dX5_refusal_107 (by decide) (fun c_28 => ?_) (fun c_28 => ?_)
                · refine lv_iconst (v := 0) hx hb dX5_refusal_115 (by decide) ?_
                  exact J_116 (0) H locs ls (by have e0 : (0 : Int32).toInt = 0 := (by decide); have e50000 : (50000 : Int32).toInt = 50000 := (by decide); have q_c_27 := i_nlt c_27; have q_c_28 := i_le c_28; have g_x1 := i_rg x1; have g_x2 := i_rg x2; omega) hP hD hS (lv_sub hl [] rfl)
                · exact J_110  H locs ls  hP hD hS (lv_sub hl [] rfl)
            · refine lv_iload_n hx hb dX5_refusal_55 rfl (lv_at hl 2 rfl) ?_
              refine lv_iload hx hb dX5_refusal_56 (lv_at hl 3 rfl) ?_
              have hFc := gfree hD hS hA
              refine va_calli (va_runS (As := [.int r_13, .int v4_16]) (rest := []) ⟨hx, hb, hml, hown, hts⟩ (m_X6_kindAt l g H.size ws (r_13) (v4_16) hG ) (va_cwS 2 hts (gd_S kw_1116 kw_1239 kw_1207 kw_1238) rfl rfl rfl (by decide +kernel) ⟨Nat.le_of_ble_eq_true rfl, Nat.le_of_ble_eq_true rfl⟩) ⟨gblind, fun U hU hW9 => gmk hU hW9 hP hK hD hex hE hS hFc⟩ rfl rfl hl.1 rfl (lv_room (Nat.le_of_ble_eq_true rfl)) dX5_refusal_58 ⟨Nat.le_of_ble_eq_true rfl, Nat.le_of_ble_eq_true rfl⟩) hS (fun q _ h => hFc q h) hFc (fun r_29 u9 t9 H1 locs ht9 hvm9 hw9 hB9 hz9 hk9 hS => ?_)
              have hP : va_P (gD g) cl0 ws H1 := by rw [← ht9]; exact hB9.1
              clear hB9 hz9 hk9 hvm9 ht9 hw9
              generalize H1 = H at hP hS ⊢
              refine lv_iconst (v := 3) hx hb dX5_refusal_61 (by decide) ?_
              have J_94 : ∀  (H : Heap) (locs : List Loc) (ls : Array Slot), va_P (gD g) cl0 ws H → va_D A ws → va_S A s.heap H locs → lv_has ls 5 [(0, .ref h0), (2, .int x2), (3, .int r_13), (4, .int v4_16)] → W p l e (headSpec (wt yX5_refusal cX5_refusal 5 (some .int)) ({ frames := 2, cells := 0, slots := 0, locals := 43 })).room s m ([.ref h0, .int x1, .int x2] : List Value).toArray below meth c H locs (0) (0) (MQ below (va_Qi (fun (r : Int32) (u9 : Unit) => (True) ∧ (r.toInt = 0 → inU ws h0 x1 ∧ gN ws h0 0)) (gQ0 g A ws) A) ([.ref h0, .int x1, .int x2] : List Value).toArray s (0) (0) A) (F0 m 94 ls []) := by
                intro  H locs ls  hP hD hS hl
                obtain ⟨z_32, ez_32⟩ : ∃ z : Int32, v4_16 + Int32.ofInt 1 = z := ⟨_, rfl⟩
                refine lv_iinc (v := z_32) (lv' := [(4, .int z_32), (0, .ref h0), (2, .int x2), (3, .int r_13)]) hx hb dX5_refusal_94 hl (k := 3) rfl ez_32 (by decide) rfl (fun ls hl => ?_)
                refine lv_goto (tgt := 46) hx hb dX5_refusal_97 (by decide) ?_
                exact ih_46 _ (by obtain ⟨u_z_32, q_z_32⟩ := i_iz ez_32 (by decide) (by decide); have q_iv_17 := iv_17; have q_c_20 := i_nle c_20; have g_c7_1 := i_rg c7_1; have g_v4_16 := i_rg v4_16; have g_z_32 := i_rg z_32; omega) (z_32) H locs ls rfl (by obtain ⟨u_z_32, q_z_32⟩ := i_iz ez_32 (by decide) (by decide); have q_iv_17 := iv_17; have q_c_20 := i_nle c_20; have g_c7_1 := i_rg c7_1; have g_v4_16 := i_rg v4_16; have g_z_32 := i_rg z_32; omega) hP hD hS (lv_sub hl [1, 2, 3, 0] rfl)
              refine lv_icmp_ne (tgt := 94) hx hb dX5_refusal_62 (by decide) (fun c_33 => ?_) (fun c_33 => ?_)
              · exact J_94  H locs ls  hP hD hS (lv_sub hl [0, 1, 2, 3] rfl)
              · refine lv_aload_n hx hb dX5_refusal_65 rfl (lv_at hl 0 rfl) ?_
                refine va_get (D := gD g) (ci := 5) (v := .ref r6_1) (C := RX5) (T := TX5) (N := 20) hx hb hts inX5 hown hK hP k_1 hk_1 rfl 6 (by decide) (hts _ kw_1004) (fun _ h9 => h9) rfl dX5_refusal_66 ?_
                refine lv_iload hx hb dX5_refusal_69 (lv_at hl 3 rfl) ?_
                obtain ⟨k_34, f_34, hk_34⟩ := gJ_of a_r6_1
                refine va_lald hx hb hK hP k_34 3 hk_34 rfl (i_in2 (by have q_f9_1 := f9_1; have q_f18_1 := f18_1; have q_iv_17 := iv_17; have q_c_20 := i_nle c_20; have q_f19_1 := f19_1; have q_f20_1 := f20_1; have q_c_15 := i_eq c_15; have g_c7_1 := i_rg c7_1; have g_r_14 := i_rg r_14; have g_v4_16 := i_rg v4_16; omega)) dX5_refusal_71 ?_
                refine lv_topl (fun z_35 ez_35 => ?_)
                refine lv_lconst (v := 0) hx hb dX5_refusal_72 (by decide) ?_
                refine W.lcmp hx hb dX5_refusal_73 ?_
                refine lv_topi (fun z_36 ez_36 => ?_)
                refine lv_if_eq (tgt := 94) hx hb dX5_refusal_74 (by decide) (fun c_37 => ?_) (fun c_37 => ?_)
                · exact J_94  H locs ls  hP hD hS (lv_sub hl [0, 1, 2, 3] rfl)
                · refine lv_aload_n hx hb dX5_refusal_77 rfl (lv_at hl 0 rfl) ?_
                  refine lv_aload_n hx hb dX5_refusal_78 rfl (lv_at hl 0 rfl) ?_
                  refine va_get (D := gD g) (ci := 5) (v := .ref r6_1) (C := RX5) (T := TX5) (N := 20) hx hb hts inX5 hown hK hP k_1 hk_1 rfl 6 (by decide) (hts _ kw_1004) (fun _ h9 => h9) rfl dX5_refusal_79 ?_
                  refine lv_iload hx hb dX5_refusal_82 (lv_at hl 3 rfl) ?_
                  refine va_lald hx hb hK hP k_34 3 hk_34 rfl (i_in2 (by have q_f9_1 := f9_1; have q_f18_1 := f18_1; have q_iv_17 := iv_17; have q_c_20 := i_nle c_20; have q_f19_1 := f19_1; have q_f20_1 := f20_1; have q_c_15 := i_eq c_15; have g_c7_1 := i_rg c7_1; have g_r_14 := i_rg r_14; have g_v4_16 := i_rg v4_16; omega)) dX5_refusal_84 ?_
                  refine lv_topl (fun z_38 ez_38 => ?_)
                  have hFc := gfree hD hS hA
                  refine va_calli (va_runV (As := [.long z_38]) (rest := []) ⟨hx, hb, hml, hown, hts⟩ (m_X5_isArray l g H.size ws h0 (z_38) hG o_h0) (cwV 1 hts (gd_V kw_1090 kw_1075 kw_1076 kw_398 kw_1074) rfl rfl rfl (by decide +kernel) ⟨Nat.le_of_ble_eq_true rfl, Nat.le_of_ble_eq_true rfl⟩) ⟨gblind, va_recv hK hP (ci := 5) (q0 := k_1) rfl hk_1, fun U hU hW9 => gmk hU hW9 hP hK hD hex hE hS hFc⟩ rfl rfl hl.1 rfl (lv_room (Nat.le_of_ble_eq_true rfl)) dX5_refusal_85 ⟨Nat.le_of_ble_eq_true rfl, Nat.le_of_ble_eq_true rfl⟩) hS (fun q _ h => hFc q h) hFc (fun r_39 u9 t9 H1 locs ht9 hvm9 hw9 hB9 hz9 hk9 hS => ?_)
                  have hP : va_P (gD g) cl0 ws H1 := by rw [← ht9]; exact hB9.1
                  have hz_r_39 : r_39 = 0 ∨ r_39 = 1 := hw9
                  clear hB9 hz9 hk9 hvm9 ht9 hw9
                  generalize H1 = H at hP hS ⊢
                  refine lv_if_ne (tgt := 94) hx hb dX5_refusal_88 (by decide) (fun c_40 => ?_) (fun c_40 => ?_)
                  · exact J_94  H locs ls  hP hD hS (lv_sub hl [0, 1, 2, 3] rfl)
                  · refine lv_bipush (v := (-2)) hx hb dX5_refusal_91 (by decide) ?_
                    refine W.widen (k := 0) (n := 0) (Nat.le_of_ble_eq_true rfl) (Nat.le_of_ble_eq_true rfl) ?_
                    exact W.iret (v := (-2)) hx hb hr (fun t9 ht9 hW9 => ⟨⟨_, (), rfl, ⟨trivial, (fun z9 => absurd z9 (by decide))⟩, ⟨by rw [ht9]; exact hP, hD⟩⟩, hS.F ht9⟩) hS.2.2 dX5_refusal_93
        exact J_46 _ (0) H locs ls rfl (by have e0 : (0 : Int32).toInt = 0 := (by decide); omega) hP hD hS (lv_sub hl [2, 4, 1, 0] rfl)
      · refine lv_bipush (v := (-2)) hx hb dX5_refusal_40 (by decide) ?_
        refine W.widen (k := 0) (n := 0) (Nat.le_of_ble_eq_true rfl) (Nat.le_of_ble_eq_true rfl) ?_
        exact W.iret (v := (-2)) hx hb hr (fun t9 ht9 hW9 => ⟨⟨_, (), rfl, ⟨trivial, (fun z9 => absurd z9 (by decide))⟩, ⟨by rw [ht9]; exact hP, hD⟩⟩, hS.F ht9⟩) hS.2.2 dX5_refusal_42
set_option maxHeartbeats 1000000 in
set_option maxRecDepth 100000 in
theorem m_X5_setFrame (l : Launch) (g : Gm) (sz : Nat) (ws : va_W) (h0 : Nat) (x1 : Int32) (x2 : Int32) (hG : Good g ws) (o_h0 : gC ws h0 5) (px : 0 ≤ x1.toInt ∧ x1.toInt ≤ 2) : Met l yX5_setFrame (wt yX5_setFrame cX5_setFrame 3 none) ({ frames := 0, cells := 0, slots := 0, locals := 0 }) (va_Pc [.ref h0, .int x1, .int x2] (st_G g sz ws)) (va_Qv (fun (u9 : va_W) => (True) ∧ (sfP g ws u9 h0 x1 x2)) (gQ1 g [] [(5, 10)] none (va_A ws sz) ws) (va_A ws sz)) (0) (0) (va_A ws sz) := by
  refine Met.ofW (cc := cX5_setFrame) (maxL := 3) (ret := none) (by decide) rfl ?_
  intro p e s m args below meth c s₁ B hml hv
  obtain ⟨rfl, hsz, hP, hK, hD0, hex, hE⟩ := hv
  have hx := B.exec
  have hb := B.bytes
  have hr := B.returns
  have hts0 := atoms_spec (ws := wt yX5_setFrame cX5_setFrame 3 none) B.pre
  have hts : ∀ w ∈ tb, w.before _ s = true := fun w h => hts0 w (List.mem_cons_of_mem _ h)
  have hown : s.vm.findClass RX5 = some m.cls := findClass_of_methodNamed B.named
  subst hsz
  have hD := hD0.self (sz := s.heap.size)
  generalize hAe : va_A ws s.heap.size = A at hD hE ⊢
  have hA : ∀ q : Nat, s.heap.size ≤ q → A q := fun q h => by rw [← hAe]; exact Or.inr h
  have hS : va_S A s.heap s.heap [] := va_S.rf
  have hl := lv_entry ([.ref h0, .int x1, .int x2]) (n := 3) (Nat.le_of_ble_eq_true rfl)
  rw [lg_entry_eq]
  generalize (lg_sl ([.ref h0, .int x1, .int x2]) ++ List.replicate (3 - (lg_sl ([.ref h0, .int x1, .int x2])).length) Slot.unset).toArray = ls at hl ⊢
  have hl : lv_has ls 3 [(0, .ref h0), (1, .int x1), (2, .int x2)] := hl
  refine lv_aload_n hx hb dX5_setFrame_0 rfl (lv_at hl 0 rfl) ?_
  obtain ⟨k_1, fs9, hk_1⟩ := gC_of o_h0
  obtain ⟨v0_1, r1_1, n1_1, r2_1, n2_1, c3_1, r4_1, n4_1, c5_1, r6_1, n6_1, c7_1, r8_1, n8_1, r9_1, n9_1, r10_1, n10_1, c11_1, v12_1, c13_1, c14_1, c15_1, l16_1, c17_1, c18_1, c19_1, rfl, o_v0_1, F_v0_1, a_r1_1, f3_1, a_r2_1, f5_1, a_r4_1, f7_1, a_r6_1, f9_1, a_r8_1, f11_1, a_r9_1, f13_1, a_r10_1, f15_1, o_v12_1, f17_1, f18_1, f19_1, f20_1, f21_1, f22_1, f23_1, f24_1, f25_1, f26_1, f27_1, f28_1, f29_1, f30_1, f31_1, -⟩ := (hG.1 _ _ _ _ hk_1).hX5 rfl
  refine va_get (D := gD g) (ci := 5) (v := .int c11_1) (C := RX5) (T := TX5) (N := 20) hx hb hts inX5 hown hK hP k_1 hk_1 rfl 11 (by decide) (hts _ kw_1025) (fun _ h9 => h9) rfl dX5_setFrame_1 ?_
  refine lv_if_lt (tgt := 30) hx hb dX5_setFrame_4 (by decide) (fun c_2 => ?_) (fun c_2 => ?_)
  · exact False.elim (by have e0 : (0 : Int32).toInt = 0 := (by decide); have q_f23_1 := f23_1; have q_f24_1 := f24_1; have q_c_2 := i_lt c_2; have g_c11_1 := i_rg c11_1; omega)
  · refine lv_aload_n hx hb dX5_setFrame_7 rfl (lv_at hl 0 rfl) ?_
    refine va_get (D := gD g) (ci := 5) (v := .int c11_1) (C := RX5) (T := TX5) (N := 20) hx hb hts inX5 hown hK hP k_1 hk_1 rfl 11 (by decide) (hts _ kw_1025) (fun _ h9 => h9) rfl dX5_setFrame_8 ?_
    refine lv_bipush (v := 60) hx hb dX5_setFrame_11 (by decide) ?_
    refine lv_icmp_ge (tgt := 30) hx hb dX5_setFrame_13 (by decide) (fun c_3 => ?_) (fun c_3 => ?_)
    · exact False.elim (by have e0 : (0 : Int32).toInt = 0 := (by decide); have e60 : (60 : Int32).toInt = 60 := (by decide); have q_f23_1 := f23_1; have q_f24_1 := f24_1; have q_c_2 := i_nlt c_2; have q_c_3 := i_le c_3; have g_c11_1 := i_rg c11_1; omega)
    · refine lv_aload_n hx hb dX5_setFrame_16 rfl (lv_at hl 0 rfl) ?_
      refine va_get (D := gD g) (ci := 5) (v := .ref r10_1) (C := RX5) (T := TX5) (N := 20) hx hb hts inX5 hown hK hP k_1 hk_1 rfl 10 (by decide) (hts _ kw_1058) (fun _ h9 => h9) rfl dX5_setFrame_17 ?_
      refine lv_iconst (v := 3) hx hb dX5_setFrame_20 (by decide) ?_
      refine lv_aload_n hx hb dX5_setFrame_21 rfl (lv_at hl 0 rfl) ?_
      refine va_get (D := gD g) (ci := 5) (v := .int c11_1) (C := RX5) (T := TX5) (N := 20) hx hb hts inX5 hown hK hP k_1 hk_1 rfl 11 (by decide) (hts _ kw_1025) (fun _ h9 => h9) rfl dX5_setFrame_22 ?_
      refine lv_imul hx hb dX5_setFrame_25 ?_
      refine lv_topi (fun z_4 ez_4 => ?_)
      refine lv_iload_n hx hb dX5_setFrame_26 rfl (lv_at hl 1 rfl) ?_
      refine lv_iadd hx hb dX5_setFrame_27 ?_
      refine lv_topi (fun z_5 ez_5 => ?_)
      refine lv_iload_n hx hb dX5_setFrame_28 rfl (lv_at hl 2 rfl) ?_
      obtain ⟨k_6, f_6, hk_6⟩ := gI_of a_r10_1
      have hkS := hk_1
      have hfS := hk_6
      have hC9 : hol ws r10_1 [(5, 10)] := (hol_u hG.u hk_1 (j := 10) rfl a_r10_1 (by decide))
      have hS9 : holS ws r10_1 none := holS_n
      refine va_iast hx hb hK hP hD hS k_6 1 hk_6 rfl (i_in2 (by have e0 : (0 : Int32).toInt = 0 := (by decide); have e60 : (60 : Int32).toInt = 60 := (by decide); have q_f15_1 := f15_1; have q_f21_1 := f21_1; have q_z_5 := i_addD ez_5; have q_px := px; have q_z_4 := i_mulL (c := 3) (K := 715827882) ez_4 (by decide) (by decide) (by decide) (by decide); have q_f23_1 := f23_1; have q_f24_1 := f24_1; have q_c_2 := i_nlt c_2; have q_c_3 := i_nle c_3; have g_c11_1 := i_rg c11_1; have g_x1 := i_rg x1; have g_z_4 := i_rg z_4; have g_z_5 := i_rg z_5; omega)) dX5_setFrame_29 (fun H locs hP hD hS => ?_)
      obtain ⟨ws_7, e_ws_7⟩ : ∃ z, z = ws.set k_6 (r10_1, .inl (g.cI, n10_1, .inl (upd f_6 (z_5 : Int32).toNatClampNeg x2))) := ⟨_, rfl⟩
      have hP : va_P (gD g) cl0 ws_7 H := by rw [e_ws_7]; exact hP
      have hD : va_D A ws_7 := by rw [e_ws_7]; exact hD
      have E_8 : gE ws ws_7 := gE_ari e_ws_7 hk_6
      have hG : Good g ws_7 := Good_arI e_ws_7 hk_6 hG
      have Fr_9 : gF [] [(5, 10)] none ws ws_7 := gF_ar e_ws_7 hk_6 rfl hC9 hS9
      have hk_1 := gset_arO e_ws_7 hk_6 hk_1
      have o_h0 := E_8.1 _ _ o_h0
      have o_v0_1 : ∀ b, v0_1 = some b → gC ws_7 b 9 := fun b h => E_8.1 _ _ (o_v0_1 b h)
      have F_v0_1 : ∀ b, v0_1 = some b → full ws_7 b := fun b h => (F_v0_1 b h).mo E_8
      have a_r1_1 := E_8.1 _ _ a_r1_1
      have a_r2_1 := E_8.1 _ _ a_r2_1
      have a_r4_1 := E_8.1 _ _ a_r4_1
      have a_r6_1 := E_8.1 _ _ a_r6_1
      have a_r8_1 := E_8.1 _ _ a_r8_1
      have a_r9_1 := E_8.1 _ _ a_r9_1
      have a_r10_1 := E_8.1 _ _ a_r10_1
      have o_v12_1 : ∀ b, v12_1 = some b → gC ws_7 b 7 := fun b h => E_8.1 _ _ (o_v12_1 b h)
      refine W.widen (k := 0) (n := 0) (Nat.le_of_ble_eq_true rfl) (Nat.le_of_ble_eq_true rfl) ?_
      exact W.vret hx hb hr (fun t9 ht9 hW9 => ⟨⟨ws_7, rfl, ⟨trivial, sf_of (i := (z_5 : Int32).toNatClampNeg) e_ws_7 hD0 hkS rfl rfl hfS (by have e0 : (0 : Int32).toInt = 0 := (by decide); have e60 : (60 : Int32).toInt = 60 := (by decide); have q_px := px; have q_f23_1 := f23_1; have q_f24_1 := f24_1; have q_c_2 := i_nlt c_2; have q_c_3 := i_nle c_3; have q_z_4 := i_mulL (c := 3) (K := 715827882) ez_4 (by decide) (by decide) (by decide) (by decide); have q_z_5 := i_addD ez_5; have g_c11_1 := i_rg c11_1; have g_x1 := i_rg x1; have g_z_4 := i_rg z_4; have g_z_5 := i_rg z_5; have q9 : (((z_5 : Int32).toNatClampNeg : Nat) : Int) = (z_5 : Int32).toInt := i_nn rfl (by omega); omega) (by have e0 : (0 : Int32).toInt = 0 := (by decide); have e60 : (60 : Int32).toInt = 60 := (by decide); have q_f23_1 := f23_1; have q_f24_1 := f24_1; have q_c_2 := i_nlt c_2; have q_c_3 := i_nle c_3; have q_z_4 := i_mulL (c := 3) (K := 715827882) ez_4 (by decide) (by decide) (by decide) (by decide); have q_z_5 := i_addD ez_5; have q_px := px; have g_c11_1 := i_rg c11_1; have g_x1 := i_rg x1; have g_z_4 := i_rg z_4; have g_z_5 := i_rg z_5; omega) px⟩, ⟨E_8, Fr_9, hG, by rw [ht9]; exact hP, hD⟩⟩, hS.F ht9⟩) hS.2.2 dX5_setFrame_30
set_option maxHeartbeats 1000000 in
set_option maxRecDepth 100000 in
theorem m_X5_frameAt (l : Launch) (g : Gm) (sz : Nat) (ws : va_W) (h0 : Nat) (x1 : Int32) (hG : Good g ws) (o_h0 : gC ws h0 5) (px : 0 ≤ x1.toInt ∧ x1.toInt ≤ 2) : Met l yX5_frameAt (wt yX5_frameAt cX5_frameAt 2 (some .int)) ({ frames := 0, cells := 0, slots := 0, locals := 0 }) (va_Pc [.ref h0, .int x1] (st_G g sz ws)) (va_Qi (fun (r : Int32) (u9 : Unit) => (True) ∧ (x1.toInt = 0 → frP g ws h0 → inU ws h0 r)) (gQ0 g (va_A ws sz) ws) (va_A ws sz)) (0) (0) (va_A ws sz) := by
  refine Met.ofW (cc := cX5_frameAt) (maxL := 2) (ret := (some .int)) (by decide) rfl ?_
  intro p e s m args below meth c s₁ B hml hv
  obtain ⟨rfl, hsz, hP, hK, hD0, hex, hE⟩ := hv
  have hx := B.exec
  have hb := B.bytes
  have hr := B.returns
  have hts0 := atoms_spec (ws := wt yX5_frameAt cX5_frameAt 2 (some .int)) B.pre
  have hts : ∀ w ∈ tb, w.before _ s = true := fun w h => hts0 w (List.mem_cons_of_mem _ h)
  have hown : s.vm.findClass RX5 = some m.cls := findClass_of_methodNamed B.named
  subst hsz
  have hD := hD0.self (sz := s.heap.size)
  generalize hAe : va_A ws s.heap.size = A at hD hE ⊢
  have hA : ∀ q : Nat, s.heap.size ≤ q → A q := fun q h => by rw [← hAe]; exact Or.inr h
  have hS : va_S A s.heap s.heap [] := va_S.rf
  have hl := lv_entry ([.ref h0, .int x1]) (n := 2) (Nat.le_of_ble_eq_true rfl)
  rw [lg_entry_eq]
  generalize (lg_sl ([.ref h0, .int x1]) ++ List.replicate (2 - (lg_sl ([.ref h0, .int x1])).length) Slot.unset).toArray = ls at hl ⊢
  have hl : lv_has ls 2 [(0, .ref h0), (1, .int x1)] := hl
  refine lv_aload_n hx hb dX5_frameAt_0 rfl (lv_at hl 0 rfl) ?_
  obtain ⟨k_1, fs9, hk_1⟩ := gC_of o_h0
  obtain ⟨v0_1, r1_1, n1_1, r2_1, n2_1, c3_1, r4_1, n4_1, c5_1, r6_1, n6_1, c7_1, r8_1, n8_1, r9_1, n9_1, r10_1, n10_1, c11_1, v12_1, c13_1, c14_1, c15_1, l16_1, c17_1, c18_1, c19_1, rfl, o_v0_1, F_v0_1, a_r1_1, f3_1, a_r2_1, f5_1, a_r4_1, f7_1, a_r6_1, f9_1, a_r8_1, f11_1, a_r9_1, f13_1, a_r10_1, f15_1, o_v12_1, f17_1, f18_1, f19_1, f20_1, f21_1, f22_1, f23_1, f24_1, f25_1, f26_1, f27_1, f28_1, f29_1, f30_1, f31_1, -⟩ := (hG.1 _ _ _ _ hk_1).hX5 rfl
  refine va_get (D := gD g) (ci := 5) (v := .int c11_1) (C := RX5) (T := TX5) (N := 20) hx hb hts inX5 hown hK hP k_1 hk_1 rfl 11 (by decide) (hts _ kw_1025) (fun _ h9 => h9) rfl dX5_frameAt_1 ?_
  refine lv_if_lt (tgt := 32) hx hb dX5_frameAt_4 (by decide) (fun c_2 => ?_) (fun c_2 => ?_)
  · exact False.elim (by have e0 : (0 : Int32).toInt = 0 := (by decide); have q_f23_1 := f23_1; have q_f24_1 := f24_1; have q_c_2 := i_lt c_2; have g_c11_1 := i_rg c11_1; omega)
  · refine lv_aload_n hx hb dX5_frameAt_7 rfl (lv_at hl 0 rfl) ?_
    refine va_get (D := gD g) (ci := 5) (v := .int c11_1) (C := RX5) (T := TX5) (N := 20) hx hb hts inX5 hown hK hP k_1 hk_1 rfl 11 (by decide) (hts _ kw_1025) (fun _ h9 => h9) rfl dX5_frameAt_8 ?_
    refine lv_bipush (v := 60) hx hb dX5_frameAt_11 (by decide) ?_
    refine lv_icmp_ge (tgt := 32) hx hb dX5_frameAt_13 (by decide) (fun c_3 => ?_) (fun c_3 => ?_)
    · exact False.elim (by have e0 : (0 : Int32).toInt = 0 := (by decide); have e60 : (60 : Int32).toInt = 60 := (by decide); have q_f23_1 := f23_1; have q_f24_1 := f24_1; have q_c_2 := i_nlt c_2; have q_c_3 := i_le c_3; have g_c11_1 := i_rg c11_1; omega)
    · refine lv_aload_n hx hb dX5_frameAt_16 rfl (lv_at hl 0 rfl) ?_
      refine va_get (D := gD g) (ci := 5) (v := .ref r10_1) (C := RX5) (T := TX5) (N := 20) hx hb hts inX5 hown hK hP k_1 hk_1 rfl 10 (by decide) (hts _ kw_1058) (fun _ h9 => h9) rfl dX5_frameAt_17 ?_
      refine lv_iconst (v := 3) hx hb dX5_frameAt_20 (by decide) ?_
      refine lv_aload_n hx hb dX5_frameAt_21 rfl (lv_at hl 0 rfl) ?_
      refine va_get (D := gD g) (ci := 5) (v := .int c11_1) (C := RX5) (T := TX5) (N := 20) hx hb hts inX5 hown hK hP k_1 hk_1 rfl 11 (by decide) (hts _ kw_1025) (fun _ h9 => h9) rfl dX5_frameAt_22 ?_
      refine lv_imul hx hb dX5_frameAt_25 ?_
      refine lv_topi (fun z_4 ez_4 => ?_)
      refine lv_iload_n hx hb dX5_frameAt_26 rfl (lv_at hl 1 rfl) ?_
      refine lv_iadd hx hb dX5_frameAt_27 ?_
      refine lv_topi (fun z_5 ez_5 => ?_)
      obtain ⟨k_6, f_6, hk_6⟩ := gI_of a_r10_1
      refine va_iald hx hb hK hP k_6 1 hk_6 rfl (i_in2 (by have e0 : (0 : Int32).toInt = 0 := (by decide); have e60 : (60 : Int32).toInt = 60 := (by decide); have q_f15_1 := f15_1; have q_f21_1 := f21_1; have q_z_5 := i_addD ez_5; have q_px := px; have q_z_4 := i_mulL (c := 3) (K := 715827882) ez_4 (by decide) (by decide) (by decide) (by decide); have q_f23_1 := f23_1; have q_f24_1 := f24_1; have q_c_2 := i_nlt c_2; have q_c_3 := i_nle c_3; have g_c11_1 := i_rg c11_1; have g_x1 := i_rg x1; have g_z_4 := i_rg z_4; have g_z_5 := i_rg z_5; omega)) dX5_frameAt_28 ?_
      refine lv_topi (fun z_7 ez_7 => ?_)
      refine lv_goto (tgt := 33) hx hb dX5_frameAt_29 (by decide) ?_
      refine W.widen (k := 0) (n := 0) (Nat.le_of_ble_eq_true rfl) (Nat.le_of_ble_eq_true rfl) ?_
      exact W.iret (v := z_7) hx hb hr (fun t9 ht9 hW9 => ⟨⟨_, (), rfl, ⟨trivial, (fun x0 q9 => by have w9 := frP_at hD hk_1 rfl rfl hk_6 (i := (z_5 : Int32).toNatClampNeg) (by have e0 : (0 : Int32).toInt = 0 := (by decide); have e60 : (60 : Int32).toInt = 60 := (by decide); have q_px := px; have q_f23_1 := f23_1; have q_f24_1 := f24_1; have q_c_2 := i_nlt c_2; have q_c_3 := i_nle c_3; have q_z_4 := i_mulL (c := 3) (K := 715827882) ez_4 (by decide) (by decide) (by decide) (by decide); have q_z_5 := i_addD ez_5; have g_c11_1 := i_rg c11_1; have g_x1 := i_rg x1; have g_z_4 := i_rg z_4; have g_z_5 := i_rg z_5; have q9 : (((z_5 : Int32).toNatClampNeg : Nat) : Int) = (z_5 : Int32).toInt := i_nn rfl (by omega); omega) (by have e0 : (0 : Int32).toInt = 0 := (by decide); have e60 : (60 : Int32).toInt = 60 := (by decide); have q_f23_1 := f23_1; have q_f24_1 := f24_1; have q_c_2 := i_nlt c_2; have q_c_3 := i_nle c_3; have q_z_4 := i_mulL (c := 3) (K := 715827882) ez_4 (by decide) (by decide) (by decide) (by decide); have q_z_5 := i_addD ez_5; have q_px := px; have g_c11_1 := i_rg c11_1; have g_x1 := i_rg x1; have g_z_4 := i_rg z_4; have g_z_5 := i_rg z_5; omega) q9; rw [← ez_7] at w9; exact w9)⟩, ⟨by rw [ht9]; exact hP, hD⟩⟩, hS.F ht9⟩) hS.2.2 dX5_frameAt_33
set_option maxHeartbeats 1000000 in
set_option maxRecDepth 100000 in
theorem m_X5_setLocal (l : Launch) (g : Gm) (sz : Nat) (ws : va_W) (h0 : Nat) (x1 : Int32) (y2 : Int64) (hG : Good g ws) (o_h0 : gC ws h0 5) : Met l yX5_setLocal (wt yX5_setLocal cX5_setLocal 5 none) ({ frames := 0, cells := 0, slots := 0, locals := 0 }) (va_Pc [.ref h0, .int x1, .long y2] (st_G g sz ws)) (va_Qv (fun (u9 : va_W) => True) (gQ1 g [(5, 19)] [(5, 8)] none (va_A ws sz) ws) (va_A ws sz)) (0) (0) (va_A ws sz) := by
  refine Met.ofW (cc := cX5_setLocal) (maxL := 5) (ret := none) (by decide) rfl ?_
  intro p e s m args below meth c s₁ B hml hv
  obtain ⟨rfl, hsz, hP, hK, hD0, hex, hE⟩ := hv
  have hx := B.exec
  have hb := B.bytes
  have hr := B.returns
  have hts0 := atoms_spec (ws := wt yX5_setLocal cX5_setLocal 5 none) B.pre
  have hts : ∀ w ∈ tb, w.before _ s = true := fun w h => hts0 w (List.mem_cons_of_mem _ h)
  have hown : s.vm.findClass RX5 = some m.cls := findClass_of_methodNamed B.named
  subst hsz
  have hD := hD0.self (sz := s.heap.size)
  generalize hAe : va_A ws s.heap.size = A at hD hE ⊢
  have hA : ∀ q : Nat, s.heap.size ≤ q → A q := fun q h => by rw [← hAe]; exact Or.inr h
  have hS : va_S A s.heap s.heap [] := va_S.rf
  have hl := lv_entry ([.ref h0, .int x1, .long y2]) (n := 5) (Nat.le_of_ble_eq_true rfl)
  rw [lg_entry_eq]
  generalize (lg_sl ([.ref h0, .int x1, .long y2]) ++ List.replicate (5 - (lg_sl ([.ref h0, .int x1, .long y2])).length) Slot.unset).toArray = ls at hl ⊢
  have hl : lv_has ls 5 [(0, .ref h0), (1, .int x1), (2, .long y2)] := hl
  refine lv_aload_n hx hb dX5_setLocal_0 rfl (lv_at hl 0 rfl) ?_
  obtain ⟨k_1, fs9, hk_1⟩ := gC_of o_h0
  obtain ⟨v0_1, r1_1, n1_1, r2_1, n2_1, c3_1, r4_1, n4_1, c5_1, r6_1, n6_1, c7_1, r8_1, n8_1, r9_1, n9_1, r10_1, n10_1, c11_1, v12_1, c13_1, c14_1, c15_1, l16_1, c17_1, c18_1, c19_1, rfl, o_v0_1, F_v0_1, a_r1_1, f3_1, a_r2_1, f5_1, a_r4_1, f7_1, a_r6_1, f9_1, a_r8_1, f11_1, a_r9_1, f13_1, a_r10_1, f15_1, o_v12_1, f17_1, f18_1, f19_1, f20_1, f21_1, f22_1, f23_1, f24_1, f25_1, f26_1, f27_1, f28_1, f29_1, f30_1, f31_1, -⟩ := (hG.1 _ _ _ _ hk_1).hX5 rfl
  refine va_get (D := gD g) (ci := 5) (v := .int c11_1) (C := RX5) (T := TX5) (N := 20) hx hb hts inX5 hown hK hP k_1 hk_1 rfl 11 (by decide) (hts _ kw_1025) (fun _ h9 => h9) rfl dX5_setLocal_1 ?_
  refine lv_bipush (v := 24) hx hb dX5_setLocal_4 (by decide) ?_
  refine lv_imul hx hb dX5_setLocal_6 ?_
  refine lv_topi (fun z_2 ez_2 => ?_)
  refine lv_iload_n hx hb dX5_setLocal_7 rfl (lv_at hl 1 rfl) ?_
  refine lv_iadd hx hb dX5_setLocal_8 ?_
  refine lv_topi (fun z_3 ez_3 => ?_)
  refine lv_istore (lv' := [(4, .int z_3), (0, .ref h0), (1, .int x1), (2, .long y2)]) hx hb dX5_setLocal_9 hl (by decide) rfl (fun ls hl => ?_)
  refine lv_iload_n hx hb dX5_setLocal_11 rfl (lv_at hl 2 rfl) ?_
  have J_36 : ∀  (H : Heap) (locs : List Loc) (ls : Array Slot), va_P (gD g) cl0 ws H → va_D A ws → va_S A s.heap H locs → lv_has ls 5 [(0, .ref h0)] → W p l e (headSpec (wt yX5_setLocal cX5_setLocal 5 none) ({ frames := 0, cells := 0, slots := 0, locals := 0 })).room s m ([.ref h0, .int x1, .long y2] : List Value).toArray below meth c H locs (0) (0) (MQ below (va_Qv (fun (u9 : va_W) => True) (gQ1 g [(5, 19)] [(5, 8)] none A ws) A) ([.ref h0, .int x1, .long y2] : List Value).toArray s (0) (0) A) (F0 m 36 ls []) := by
    intro  H locs ls  hP hD hS hl
    refine lv_aload_n hx hb dX5_setLocal_36 rfl (lv_at hl 0 rfl) ?_
    refine lv_dup hx hb dX5_setLocal_37 rfl ?_
    refine va_get (D := gD g) (ci := 5) (v := .int c19_1) (C := RX5) (T := TX5) (N := 20) hx hb hts inX5 hown hK hP k_1 hk_1 rfl 19 (by decide) (hts _ kw_1045) (fun _ h9 => h9) rfl dX5_setLocal_38 ?_
    refine lv_iconst (v := 1) hx hb dX5_setLocal_41 (by decide) ?_
    refine lv_iadd hx hb dX5_setLocal_42 ?_
    refine lv_topi (fun z_6 ez_6 => ?_)
    have hV9 : okv ws 5 19 (.int z_6) := okv_i
    refine va_put (D := gD g) (ci := 5) (v := .int z_6) (ty := .int) (C := RX5) (T := TX5) (N := 20) hx hb hts inX5 tyX5 tyX5_ok nmX5 hown hK hP hD hS k_1 hk_1 rfl 19 (by decide) (hts _ kw_1045) (fun _ h9 => h9) rfl (by decide +kernel) rfl rfl (Nat.le_of_ble_eq_true rfl) dX5_setLocal_43 (fun H locs hP hD hS => ?_)
    have hi_7 : invX5 g ws h0 [va_rf v0_1, .ref r1_1, .ref r2_1, .int c3_1, .ref r4_1, .int c5_1, .ref r6_1, .int c7_1, .ref r8_1, .ref r9_1, .ref r10_1, .int c11_1, va_rf v12_1, .int c13_1, .int c14_1, .int c15_1, .long l16_1, .int c17_1, .int c18_1, .int z_6] := ⟨v0_1, r1_1, (n1_1), r2_1, (n2_1), (c3_1), r4_1, (n4_1), (c5_1), r6_1, (n6_1), (c7_1), r8_1, (n8_1), r9_1, (n9_1), r10_1, (n10_1), (c11_1), v12_1, (c13_1), (c14_1), (c15_1), (l16_1), (c17_1), (c18_1), (z_6), rfl, o_v0_1, F_v0_1, a_r1_1, f3_1, a_r2_1, f5_1, a_r4_1, f7_1, a_r6_1, f9_1, a_r8_1, f11_1, a_r9_1, f13_1, a_r10_1, f15_1, o_v12_1, f17_1, f18_1, f19_1, f20_1, f21_1, f22_1, f23_1, f24_1, f25_1, f26_1, f27_1, f28_1, f29_1, f30_1, f31_1, trivial⟩
    obtain ⟨ws_8, e_ws_8⟩ : ∃ z, z = ws.set k_1 (h0, .inr (5, [va_rf v0_1, .ref r1_1, .ref r2_1, .int c3_1, .ref r4_1, .int c5_1, .ref r6_1, .int c7_1, .ref r8_1, .ref r9_1, .ref r10_1, .int c11_1, va_rf v12_1, .int c13_1, .int c14_1, .int c15_1, .long l16_1, .int c17_1, .int c18_1, .int z_6])) := ⟨_, rfl⟩
    have hP : va_P (gD g) cl0 ws_8 H := by rw [e_ws_8]; exact hP
    have hD : va_D A ws_8 := by rw [e_ws_8]; exact hD
    have E_9 : gE ws ws_8 := gE_set e_ws_8 hk_1 (cw_o (fi := 19) (v := .int z_6) rfl (by decide))
    have hG : Good g ws_8 := Good_set (fi := 19) (v := .int z_6) e_ws_8 hk_1 E_9 rfl hV9 hG (ivX5 hi_7)
    have Fr_10 : gF [(5, 19)] [] (some h0) ws ws_8 := gF_put (fi := 19) (v := .int z_6) e_ws_8 hk_1 rfl (by decide)
    have hkN := gset_self e_ws_8 hk_1
    have hk_1 := hkN
    have o_h0 := E_9.1 _ _ o_h0
    have o_v0_1 : ∀ b, v0_1 = some b → gC ws_8 b 9 := fun b h => E_9.1 _ _ (o_v0_1 b h)
    have F_v0_1 : ∀ b, v0_1 = some b → full ws_8 b := fun b h => (F_v0_1 b h).mo E_9
    have a_r1_1 := E_9.1 _ _ a_r1_1
    have a_r2_1 := E_9.1 _ _ a_r2_1
    have a_r4_1 := E_9.1 _ _ a_r4_1
    have a_r6_1 := E_9.1 _ _ a_r6_1
    have a_r8_1 := E_9.1 _ _ a_r8_1
    have a_r9_1 := E_9.1 _ _ a_r9_1
    have a_r10_1 := E_9.1 _ _ a_r10_1
    have o_v12_1 : ∀ b, v12_1 = some b → gC ws_8 b 7 := fun b h => E_9.1 _ _ (o_v12_1 b h)
    refine W.widen (k := 0) (n := 0) (Nat.le_of_ble_eq_true rfl) (Nat.le_of_ble_eq_true rfl) ?_
    exact W.vret hx hb hr (fun t9 ht9 hW9 => ⟨⟨ws_8, rfl, trivial, ⟨E_9, (gF.mo (F' := [(5, 19)]) (C' := [(5, 8)]) (S' := none) Fr_10 (fun _ h => h) (fun _ h => absurd h List.not_mem_nil) (Or.inl rfl)), hG, by rw [ht9]; exact hP, hD⟩⟩, hS.F ht9⟩) hS.2.2 dX5_setLocal_46
  refine lv_if_lt (tgt := 36) hx hb dX5_setLocal_12 (by decide) (fun c_11 => ?_) (fun c_11 => ?_)
  · exact J_36  _ _ ls  hP hD hS (lv_sub hl [1] rfl)
  · refine lv_iload_n hx hb dX5_setLocal_15 rfl (lv_at hl 2 rfl) ?_
    refine lv_bipush (v := 24) hx hb dX5_setLocal_16 (by decide) ?_
    refine lv_icmp_ge (tgt := 36) hx hb dX5_setLocal_18 (by decide) (fun c_12 => ?_) (fun c_12 => ?_)
    · exact J_36  _ _ ls  hP hD hS (lv_sub hl [1] rfl)
    · refine lv_iload hx hb dX5_setLocal_21 (lv_at hl 0 rfl) ?_
      refine lv_if_lt (tgt := 36) hx hb dX5_setLocal_23 (by decide) (fun c_13 => ?_) (fun c_13 => ?_)
      · exact J_36  _ _ ls  hP hD hS (lv_sub hl [1] rfl)
      · refine lv_iload hx hb dX5_setLocal_26 (lv_at hl 0 rfl) ?_
        refine lv_aload_n hx hb dX5_setLocal_28 rfl (lv_at hl 1 rfl) ?_
        refine va_get (D := gD g) (ci := 5) (v := .ref r8_1) (C := RX5) (T := TX5) (N := 20) hx hb hts inX5 hown hK hP k_1 hk_1 rfl 8 (by decide) (hts _ kw_1044) (fun _ h9 => h9) rfl dX5_setLocal_29 ?_
        obtain ⟨k_14, f_14, hk_14⟩ := gJ_of a_r8_1
        obtain ⟨z_15, ez_15⟩ : ∃ z : Int32, Int32.ofNat n8_1 = z := ⟨_, rfl⟩
        refine va_alen (v := z_15) hx hb hK hP k_14 3 hk_14 rfl ez_15 dX5_setLocal_32 ?_
        refine lv_icmp_lt (tgt := 47) hx hb dX5_setLocal_33 (by decide) (fun c_16 => ?_) (fun c_16 => ?_)
        · refine lv_aload_n hx hb dX5_setLocal_47 rfl (lv_at hl 1 rfl) ?_
          refine va_get (D := gD g) (ci := 5) (v := .ref r8_1) (C := RX5) (T := TX5) (N := 20) hx hb hts inX5 hown hK hP k_1 hk_1 rfl 8 (by decide) (hts _ kw_1044) (fun _ h9 => h9) rfl dX5_setLocal_48 ?_
          refine lv_iload hx hb dX5_setLocal_51 (lv_at hl 0 rfl) ?_
          refine lv_lload_n hx hb dX5_setLocal_53 rfl (lv_at hl 3 rfl) ?_
          have hC9 : hol ws r8_1 [(5, 8)] := (hol_u hG.u hk_1 (j := 8) rfl a_r8_1 (by decide))
          have hS9 : holS ws r8_1 none := holS_n
          refine va_last hx hb hK hP hD hS k_14 3 hk_14 rfl (i_in2 (by have e0 : (0 : Int32).toInt = 0 := (by decide); have e24 : (24 : Int32).toInt = 24 := (by decide); have q_f11_1 := f11_1; have q_f22_1 := f22_1; obtain ⟨u_z_3, q_z_3⟩ := i_add ez_3; have q_c_13 := i_nlt c_13; have q_z_15 := i_len ez_15 f11_1; have q_c_16 := i_lt c_16; have q_f13_1 := f13_1; have q_z_2 := i_mulR (c := 24) (K := 89478485) ez_2 (by decide) (by decide) (by decide) (by decide); have q_c_11 := i_nlt c_11; have q_c_12 := i_nle c_12; have g_c11_1 := i_rg c11_1; have g_x1 := i_rg x1; have g_z_15 := i_rg z_15; have g_z_2 := i_rg z_2; have g_z_3 := i_rg z_3; omega)) dX5_setLocal_54 (fun H locs hP hD hS => ?_)
          obtain ⟨ws_17, e_ws_17⟩ : ∃ z, z = ws.set k_14 (r8_1, .inl (g.cL, n8_1, .inr (.inl (vp_updL f_14 (z_3 : Int32).toNatClampNeg y2)))) := ⟨_, rfl⟩
          have hP : va_P (gD g) cl0 ws_17 H := by rw [e_ws_17]; exact hP
          have hD : va_D A ws_17 := by rw [e_ws_17]; exact hD
          have E_18 : gE ws ws_17 := gE_arj e_ws_17 hk_14
          have hG : Good g ws_17 := Good_arj e_ws_17 hk_14 hG
          have Fr_19 : gF [] [(5, 8)] none ws ws_17 := gF_ar e_ws_17 hk_14 rfl hC9 hS9
          have hk_1 := gset_arO e_ws_17 hk_14 hk_1
          have o_h0 := E_18.1 _ _ o_h0
          have o_v0_1 : ∀ b, v0_1 = some b → gC ws_17 b 9 := fun b h => E_18.1 _ _ (o_v0_1 b h)
          have F_v0_1 : ∀ b, v0_1 = some b → full ws_17 b := fun b h => (F_v0_1 b h).mo E_18
          have a_r1_1 := E_18.1 _ _ a_r1_1
          have a_r2_1 := E_18.1 _ _ a_r2_1
          have a_r4_1 := E_18.1 _ _ a_r4_1
          have a_r6_1 := E_18.1 _ _ a_r6_1
          have a_r8_1 := E_18.1 _ _ a_r8_1
          have a_r9_1 := E_18.1 _ _ a_r9_1
          have a_r10_1 := E_18.1 _ _ a_r10_1
          have o_v12_1 : ∀ b, v12_1 = some b → gC ws_17 b 7 := fun b h => E_18.1 _ _ (o_v12_1 b h)
          refine W.widen (k := 0) (n := 0) (Nat.le_of_ble_eq_true rfl) (Nat.le_of_ble_eq_true rfl) ?_
          exact W.vret hx hb hr (fun t9 ht9 hW9 => ⟨⟨ws_17, rfl, trivial, ⟨E_18, (gF.mo (F' := [(5, 19)]) (C' := [(5, 8)]) (S' := none) Fr_19 (fun _ h => absurd h List.not_mem_nil) (fun _ h => h) (Or.inr rfl)), hG, by rw [ht9]; exact hP, hD⟩⟩, hS.F ht9⟩) hS.2.2 dX5_setLocal_55
        · exact J_36  _ _ ls  hP hD hS (lv_sub hl [1] rfl)
set_option maxHeartbeats 1000000 in
set_option maxRecDepth 100000 in
theorem m_X5_localAt (l : Launch) (g : Gm) (sz : Nat) (ws : va_W) (h0 : Nat) (x1 : Int32) (hG : Good g ws) (o_h0 : gC ws h0 5) : Met l yX5_localAt (wt yX5_localAt cX5_localAt 3 (some .long)) ({ frames := 0, cells := 0, slots := 0, locals := 0 }) (va_Pc [.ref h0, .int x1] (st_G g sz ws)) (va_Ql (fun (r : Int64) (u9 : va_W) => True) (gQ1 g [(5, 19)] [] none (va_A ws sz) ws) (va_A ws sz)) (0) (0) (va_A ws sz) := by
  refine Met.ofW (cc := cX5_localAt) (maxL := 3) (ret := (some .long)) (by decide) rfl ?_
  intro p e s m args below meth c s₁ B hml hv
  obtain ⟨rfl, hsz, hP, hK, hD0, hex, hE⟩ := hv
  have hx := B.exec
  have hb := B.bytes
  have hr := B.returns
  have hts0 := atoms_spec (ws := wt yX5_localAt cX5_localAt 3 (some .long)) B.pre
  have hts : ∀ w ∈ tb, w.before _ s = true := fun w h => hts0 w (List.mem_cons_of_mem _ h)
  have hown : s.vm.findClass RX5 = some m.cls := findClass_of_methodNamed B.named
  subst hsz
  have hD := hD0.self (sz := s.heap.size)
  generalize hAe : va_A ws s.heap.size = A at hD hE ⊢
  have hA : ∀ q : Nat, s.heap.size ≤ q → A q := fun q h => by rw [← hAe]; exact Or.inr h
  have hS : va_S A s.heap s.heap [] := va_S.rf
  have hl := lv_entry ([.ref h0, .int x1]) (n := 3) (Nat.le_of_ble_eq_true rfl)
  rw [lg_entry_eq]
  generalize (lg_sl ([.ref h0, .int x1]) ++ List.replicate (3 - (lg_sl ([.ref h0, .int x1])).length) Slot.unset).toArray = ls at hl ⊢
  have hl : lv_has ls 3 [(0, .ref h0), (1, .int x1)] := hl
  refine lv_aload_n hx hb dX5_localAt_0 rfl (lv_at hl 0 rfl) ?_
  obtain ⟨k_1, fs9, hk_1⟩ := gC_of o_h0
  obtain ⟨v0_1, r1_1, n1_1, r2_1, n2_1, c3_1, r4_1, n4_1, c5_1, r6_1, n6_1, c7_1, r8_1, n8_1, r9_1, n9_1, r10_1, n10_1, c11_1, v12_1, c13_1, c14_1, c15_1, l16_1, c17_1, c18_1, c19_1, rfl, o_v0_1, F_v0_1, a_r1_1, f3_1, a_r2_1, f5_1, a_r4_1, f7_1, a_r6_1, f9_1, a_r8_1, f11_1, a_r9_1, f13_1, a_r10_1, f15_1, o_v12_1, f17_1, f18_1, f19_1, f20_1, f21_1, f22_1, f23_1, f24_1, f25_1, f26_1, f27_1, f28_1, f29_1, f30_1, f31_1, -⟩ := (hG.1 _ _ _ _ hk_1).hX5 rfl
  refine va_get (D := gD g) (ci := 5) (v := .int c11_1) (C := RX5) (T := TX5) (N := 20) hx hb hts inX5 hown hK hP k_1 hk_1 rfl 11 (by decide) (hts _ kw_1025) (fun _ h9 => h9) rfl dX5_localAt_1 ?_
  refine lv_bipush (v := 24) hx hb dX5_localAt_4 (by decide) ?_
  refine lv_imul hx hb dX5_localAt_6 ?_
  refine lv_topi (fun z_2 ez_2 => ?_)
  refine lv_iload_n hx hb dX5_localAt_7 rfl (lv_at hl 1 rfl) ?_
  refine lv_iadd hx hb dX5_localAt_8 ?_
  refine lv_topi (fun z_3 ez_3 => ?_)
  refine lv_istore_n (lv' := [(2, .int z_3), (0, .ref h0), (1, .int x1)]) hx hb dX5_localAt_9 rfl hl (by decide) rfl (fun ls hl => ?_)
  refine lv_iload_n hx hb dX5_localAt_10 rfl (lv_at hl 2 rfl) ?_
  have J_33 : ∀  (H : Heap) (locs : List Loc) (ls : Array Slot), va_P (gD g) cl0 ws H → va_D A ws → va_S A s.heap H locs → lv_has ls 3 [(0, .ref h0)] → W p l e (headSpec (wt yX5_localAt cX5_localAt 3 (some .long)) ({ frames := 0, cells := 0, slots := 0, locals := 0 })).room s m ([.ref h0, .int x1] : List Value).toArray below meth c H locs (0) (0) (MQ below (va_Ql (fun (r : Int64) (u9 : va_W) => True) (gQ1 g [(5, 19)] [] none A ws) A) ([.ref h0, .int x1] : List Value).toArray s (0) (0) A) (F0 m 33 ls []) := by
    intro  H locs ls  hP hD hS hl
    refine lv_aload_n hx hb dX5_localAt_33 rfl (lv_at hl 0 rfl) ?_
    refine lv_dup hx hb dX5_localAt_34 rfl ?_
    refine va_get (D := gD g) (ci := 5) (v := .int c19_1) (C := RX5) (T := TX5) (N := 20) hx hb hts inX5 hown hK hP k_1 hk_1 rfl 19 (by decide) (hts _ kw_1045) (fun _ h9 => h9) rfl dX5_localAt_35 ?_
    refine lv_iconst (v := 1) hx hb dX5_localAt_38 (by decide) ?_
    refine lv_iadd hx hb dX5_localAt_39 ?_
    refine lv_topi (fun z_6 ez_6 => ?_)
    have hV9 : okv ws 5 19 (.int z_6) := okv_i
    refine va_put (D := gD g) (ci := 5) (v := .int z_6) (ty := .int) (C := RX5) (T := TX5) (N := 20) hx hb hts inX5 tyX5 tyX5_ok nmX5 hown hK hP hD hS k_1 hk_1 rfl 19 (by decide) (hts _ kw_1045) (fun _ h9 => h9) rfl (by decide +kernel) rfl rfl (Nat.le_of_ble_eq_true rfl) dX5_localAt_40 (fun H locs hP hD hS => ?_)
    have hi_7 : invX5 g ws h0 [va_rf v0_1, .ref r1_1, .ref r2_1, .int c3_1, .ref r4_1, .int c5_1, .ref r6_1, .int c7_1, .ref r8_1, .ref r9_1, .ref r10_1, .int c11_1, va_rf v12_1, .int c13_1, .int c14_1, .int c15_1, .long l16_1, .int c17_1, .int c18_1, .int z_6] := ⟨v0_1, r1_1, (n1_1), r2_1, (n2_1), (c3_1), r4_1, (n4_1), (c5_1), r6_1, (n6_1), (c7_1), r8_1, (n8_1), r9_1, (n9_1), r10_1, (n10_1), (c11_1), v12_1, (c13_1), (c14_1), (c15_1), (l16_1), (c17_1), (c18_1), (z_6), rfl, o_v0_1, F_v0_1, a_r1_1, f3_1, a_r2_1, f5_1, a_r4_1, f7_1, a_r6_1, f9_1, a_r8_1, f11_1, a_r9_1, f13_1, a_r10_1, f15_1, o_v12_1, f17_1, f18_1, f19_1, f20_1, f21_1, f22_1, f23_1, f24_1, f25_1, f26_1, f27_1, f28_1, f29_1, f30_1, f31_1, trivial⟩
    obtain ⟨ws_8, e_ws_8⟩ : ∃ z, z = ws.set k_1 (h0, .inr (5, [va_rf v0_1, .ref r1_1, .ref r2_1, .int c3_1, .ref r4_1, .int c5_1, .ref r6_1, .int c7_1, .ref r8_1, .ref r9_1, .ref r10_1, .int c11_1, va_rf v12_1, .int c13_1, .int c14_1, .int c15_1, .long l16_1, .int c17_1, .int c18_1, .int z_6])) := ⟨_, rfl⟩
    have hP : va_P (gD g) cl0 ws_8 H := by rw [e_ws_8]; exact hP
    have hD : va_D A ws_8 := by rw [e_ws_8]; exact hD
    have E_9 : gE ws ws_8 := gE_set e_ws_8 hk_1 (cw_o (fi := 19) (v := .int z_6) rfl (by decide))
    have hG : Good g ws_8 := Good_set (fi := 19) (v := .int z_6) e_ws_8 hk_1 E_9 rfl hV9 hG (ivX5 hi_7)
    have Fr_10 : gF [(5, 19)] [] (some h0) ws ws_8 := gF_put (fi := 19) (v := .int z_6) e_ws_8 hk_1 rfl (by decide)
    have hkN := gset_self e_ws_8 hk_1
    have hk_1 := hkN
    have o_h0 := E_9.1 _ _ o_h0
    have o_v0_1 : ∀ b, v0_1 = some b → gC ws_8 b 9 := fun b h => E_9.1 _ _ (o_v0_1 b h)
    have F_v0_1 : ∀ b, v0_1 = some b → full ws_8 b := fun b h => (F_v0_1 b h).mo E_9
    have a_r1_1 := E_9.1 _ _ a_r1_1
    have a_r2_1 := E_9.1 _ _ a_r2_1
    have a_r4_1 := E_9.1 _ _ a_r4_1
    have a_r6_1 := E_9.1 _ _ a_r6_1
    have a_r8_1 := E_9.1 _ _ a_r8_1
    have a_r9_1 := E_9.1 _ _ a_r9_1
    have a_r10_1 := E_9.1 _ _ a_r10_1
    have o_v12_1 : ∀ b, v12_1 = some b → gC ws_8 b 7 := fun b h => E_9.1 _ _ (o_v12_1 b h)
    refine lv_lconst (v := 0) hx hb dX5_localAt_43 (by decide) ?_
    refine W.widen (k := 0) (n := 0) (Nat.le_of_ble_eq_true rfl) (Nat.le_of_ble_eq_true rfl) ?_
    exact W.lret (v := 0) hx hb hr (fun t9 ht9 hW9 => ⟨⟨_, ws_8, rfl, trivial, ⟨E_9, (gF.mo (F' := [(5, 19)]) (C' := []) (S' := none) Fr_10 (fun _ h => h) (fun _ h => h) (Or.inl rfl)), hG, by rw [ht9]; exact hP, hD⟩⟩, hS.F ht9⟩) hS.2.2 dX5_localAt_44
  refine lv_if_lt (tgt := 33) hx hb dX5_localAt_11 (by decide) (fun c_11 => ?_) (fun c_11 => ?_)
  · exact J_33  _ _ ls  hP hD hS (lv_sub hl [1] rfl)
  · refine lv_iload_n hx hb dX5_localAt_14 rfl (lv_at hl 2 rfl) ?_
    refine lv_bipush (v := 24) hx hb dX5_localAt_15 (by decide) ?_
    refine lv_icmp_ge (tgt := 33) hx hb dX5_localAt_17 (by decide) (fun c_12 => ?_) (fun c_12 => ?_)
    · exact J_33  _ _ ls  hP hD hS (lv_sub hl [1] rfl)
    · refine lv_iload_n hx hb dX5_localAt_20 rfl (lv_at hl 0 rfl) ?_
      refine lv_if_lt (tgt := 33) hx hb dX5_localAt_21 (by decide) (fun c_13 => ?_) (fun c_13 => ?_)
      · exact J_33  _ _ ls  hP hD hS (lv_sub hl [1] rfl)
      · refine lv_iload_n hx hb dX5_localAt_24 rfl (lv_at hl 0 rfl) ?_
        refine lv_aload_n hx hb dX5_localAt_25 rfl (lv_at hl 1 rfl) ?_
        refine va_get (D := gD g) (ci := 5) (v := .ref r8_1) (C := RX5) (T := TX5) (N := 20) hx hb hts inX5 hown hK hP k_1 hk_1 rfl 8 (by decide) (hts _ kw_1044) (fun _ h9 => h9) rfl dX5_localAt_26 ?_
        obtain ⟨k_14, f_14, hk_14⟩ := gJ_of a_r8_1
        obtain ⟨z_15, ez_15⟩ : ∃ z : Int32, Int32.ofNat n8_1 = z := ⟨_, rfl⟩
        refine va_alen (v := z_15) hx hb hK hP k_14 3 hk_14 rfl ez_15 dX5_localAt_29 ?_
        refine lv_icmp_lt (tgt := 45) hx hb dX5_localAt_30 (by decide) (fun c_16 => ?_) (fun c_16 => ?_)
        · refine lv_aload_n hx hb dX5_localAt_45 rfl (lv_at hl 1 rfl) ?_
          refine va_get (D := gD g) (ci := 5) (v := .ref r8_1) (C := RX5) (T := TX5) (N := 20) hx hb hts inX5 hown hK hP k_1 hk_1 rfl 8 (by decide) (hts _ kw_1044) (fun _ h9 => h9) rfl dX5_localAt_46 ?_
          refine lv_iload_n hx hb dX5_localAt_49 rfl (lv_at hl 0 rfl) ?_
          refine va_lald hx hb hK hP k_14 3 hk_14 rfl (i_in2 (by have e0 : (0 : Int32).toInt = 0 := (by decide); have e24 : (24 : Int32).toInt = 24 := (by decide); have q_f11_1 := f11_1; have q_f22_1 := f22_1; obtain ⟨u_z_3, q_z_3⟩ := i_add ez_3; have q_c_13 := i_nlt c_13; have q_z_15 := i_len ez_15 f11_1; have q_c_16 := i_lt c_16; have q_f13_1 := f13_1; have q_z_2 := i_mulR (c := 24) (K := 89478485) ez_2 (by decide) (by decide) (by decide) (by decide); have q_c_11 := i_nlt c_11; have q_c_12 := i_nle c_12; have g_c11_1 := i_rg c11_1; have g_x1 := i_rg x1; have g_z_15 := i_rg z_15; have g_z_2 := i_rg z_2; have g_z_3 := i_rg z_3; omega)) dX5_localAt_50 ?_
          refine lv_topl (fun z_17 ez_17 => ?_)
          refine W.widen (k := 0) (n := 0) (Nat.le_of_ble_eq_true rfl) (Nat.le_of_ble_eq_true rfl) ?_
          exact W.lret (v := z_17) hx hb hr (fun t9 ht9 hW9 => ⟨⟨_, ws, rfl, trivial, ⟨gE.rf, gF.rf, hG, by rw [ht9]; exact hP, hD⟩⟩, hS.F ht9⟩) hS.2.2 dX5_localAt_51
        · exact J_33  _ _ ls  hP hD hS (lv_sub hl [1] rfl)
set_option maxHeartbeats 1000000 in
set_option maxRecDepth 100000 in
theorem m_X5_push (l : Launch) (g : Gm) (sz : Nat) (ws : va_W) (h0 : Nat) (y1 : Int64) (hG : Good g ws) (o_h0 : gC ws h0 5) : Met l yX5_push (wt yX5_push cX5_push 4 none) ({ frames := 0, cells := 0, slots := 0, locals := 0 }) (va_Pc [.ref h0, .long y1] (st_G g sz ws)) (va_Qv (fun (u9 : va_W) => True) (gQ1 g [(5, 14), (5, 19)] [(5, 9)] none (va_A ws sz) ws) (va_A ws sz)) (0) (0) (va_A ws sz) := by
  refine Met.ofW (cc := cX5_push) (maxL := 4) (ret := none) (by decide) rfl ?_
  intro p e s m args below meth c s₁ B hml hv
  obtain ⟨rfl, hsz, hP, hK, hD0, hex, hE⟩ := hv
  have hx := B.exec
  have hb := B.bytes
  have hr := B.returns
  have hts0 := atoms_spec (ws := wt yX5_push cX5_push 4 none) B.pre
  have hts : ∀ w ∈ tb, w.before _ s = true := fun w h => hts0 w (List.mem_cons_of_mem _ h)
  have hown : s.vm.findClass RX5 = some m.cls := findClass_of_methodNamed B.named
  subst hsz
  have hD := hD0.self (sz := s.heap.size)
  generalize hAe : va_A ws s.heap.size = A at hD hE ⊢
  have hA : ∀ q : Nat, s.heap.size ≤ q → A q := fun q h => by rw [← hAe]; exact Or.inr h
  have hS : va_S A s.heap s.heap [] := va_S.rf
  have hl := lv_entry ([.ref h0, .long y1]) (n := 4) (Nat.le_of_ble_eq_true rfl)
  rw [lg_entry_eq]
  generalize (lg_sl ([.ref h0, .long y1]) ++ List.replicate (4 - (lg_sl ([.ref h0, .long y1])).length) Slot.unset).toArray = ls at hl ⊢
  have hl : lv_has ls 4 [(0, .ref h0), (1, .long y1)] := hl
  refine lv_aload_n hx hb dX5_push_0 rfl (lv_at hl 0 rfl) ?_
  obtain ⟨k_1, fs9, hk_1⟩ := gC_of o_h0
  obtain ⟨v0_1, r1_1, n1_1, r2_1, n2_1, c3_1, r4_1, n4_1, c5_1, r6_1, n6_1, c7_1, r8_1, n8_1, r9_1, n9_1, r10_1, n10_1, c11_1, v12_1, c13_1, c14_1, c15_1, l16_1, c17_1, c18_1, c19_1, rfl, o_v0_1, F_v0_1, a_r1_1, f3_1, a_r2_1, f5_1, a_r4_1, f7_1, a_r6_1, f9_1, a_r8_1, f11_1, a_r9_1, f13_1, a_r10_1, f15_1, o_v12_1, f17_1, f18_1, f19_1, f20_1, f21_1, f22_1, f23_1, f24_1, f25_1, f26_1, f27_1, f28_1, f29_1, f30_1, f31_1, -⟩ := (hG.1 _ _ _ _ hk_1).hX5 rfl
  refine va_get (D := gD g) (ci := 5) (v := .int c11_1) (C := RX5) (T := TX5) (N := 20) hx hb hts inX5 hown hK hP k_1 hk_1 rfl 11 (by decide) (hts _ kw_1025) (fun _ h9 => h9) rfl dX5_push_1 ?_
  refine lv_bipush (v := 24) hx hb dX5_push_4 (by decide) ?_
  refine lv_imul hx hb dX5_push_6 ?_
  refine lv_topi (fun z_2 ez_2 => ?_)
  refine lv_aload_n hx hb dX5_push_7 rfl (lv_at hl 0 rfl) ?_
  refine va_get (D := gD g) (ci := 5) (v := .int c14_1) (C := RX5) (T := TX5) (N := 20) hx hb hts inX5 hown hK hP k_1 hk_1 rfl 14 (by decide) (hts _ kw_1031) (fun _ h9 => h9) rfl dX5_push_8 ?_
  refine lv_iadd hx hb dX5_push_11 ?_
  refine lv_topi (fun z_3 ez_3 => ?_)
  refine lv_istore_n (lv' := [(3, .int z_3), (0, .ref h0), (1, .long y1)]) hx hb dX5_push_12 rfl hl (by decide) rfl (fun ls hl => ?_)
  refine lv_aload_n hx hb dX5_push_13 rfl (lv_at hl 1 rfl) ?_
  refine va_get (D := gD g) (ci := 5) (v := .int c14_1) (C := RX5) (T := TX5) (N := 20) hx hb hts inX5 hown hK hP k_1 hk_1 rfl 14 (by decide) (hts _ kw_1031) (fun _ h9 => h9) rfl dX5_push_14 ?_
  have J_42 : ∀  (H : Heap) (locs : List Loc) (ls : Array Slot), va_P (gD g) cl0 ws H → va_D A ws → va_S A s.heap H locs → lv_has ls 4 [(0, .ref h0)] → W p l e (headSpec (wt yX5_push cX5_push 4 none) ({ frames := 0, cells := 0, slots := 0, locals := 0 })).room s m ([.ref h0, .long y1] : List Value).toArray below meth c H locs (0) (0) (MQ below (va_Qv (fun (u9 : va_W) => True) (gQ1 g [(5, 14), (5, 19)] [(5, 9)] none A ws) A) ([.ref h0, .long y1] : List Value).toArray s (0) (0) A) (F0 m 42 ls []) := by
    intro  H locs ls  hP hD hS hl
    refine lv_aload_n hx hb dX5_push_42 rfl (lv_at hl 0 rfl) ?_
    refine lv_dup hx hb dX5_push_43 rfl ?_
    refine va_get (D := gD g) (ci := 5) (v := .int c19_1) (C := RX5) (T := TX5) (N := 20) hx hb hts inX5 hown hK hP k_1 hk_1 rfl 19 (by decide) (hts _ kw_1045) (fun _ h9 => h9) rfl dX5_push_44 ?_
    refine lv_iconst (v := 1) hx hb dX5_push_47 (by decide) ?_
    refine lv_iadd hx hb dX5_push_48 ?_
    refine lv_topi (fun z_6 ez_6 => ?_)
    have hV9 : okv ws 5 19 (.int z_6) := okv_i
    refine va_put (D := gD g) (ci := 5) (v := .int z_6) (ty := .int) (C := RX5) (T := TX5) (N := 20) hx hb hts inX5 tyX5 tyX5_ok nmX5 hown hK hP hD hS k_1 hk_1 rfl 19 (by decide) (hts _ kw_1045) (fun _ h9 => h9) rfl (by decide +kernel) rfl rfl (Nat.le_of_ble_eq_true rfl) dX5_push_49 (fun H locs hP hD hS => ?_)
    have hi_7 : invX5 g ws h0 [va_rf v0_1, .ref r1_1, .ref r2_1, .int c3_1, .ref r4_1, .int c5_1, .ref r6_1, .int c7_1, .ref r8_1, .ref r9_1, .ref r10_1, .int c11_1, va_rf v12_1, .int c13_1, .int c14_1, .int c15_1, .long l16_1, .int c17_1, .int c18_1, .int z_6] := ⟨v0_1, r1_1, (n1_1), r2_1, (n2_1), (c3_1), r4_1, (n4_1), (c5_1), r6_1, (n6_1), (c7_1), r8_1, (n8_1), r9_1, (n9_1), r10_1, (n10_1), (c11_1), v12_1, (c13_1), (c14_1), (c15_1), (l16_1), (c17_1), (c18_1), (z_6), rfl, o_v0_1, F_v0_1, a_r1_1, f3_1, a_r2_1, f5_1, a_r4_1, f7_1, a_r6_1, f9_1, a_r8_1, f11_1, a_r9_1, f13_1, a_r10_1, f15_1, o_v12_1, f17_1, f18_1, f19_1, f20_1, f21_1, f22_1, f23_1, f24_1, f25_1, f26_1, f27_1, f28_1, f29_1, f30_1, f31_1, trivial⟩
    obtain ⟨ws_8, e_ws_8⟩ : ∃ z, z = ws.set k_1 (h0, .inr (5, [va_rf v0_1, .ref r1_1, .ref r2_1, .int c3_1, .ref r4_1, .int c5_1, .ref r6_1, .int c7_1, .ref r8_1, .ref r9_1, .ref r10_1, .int c11_1, va_rf v12_1, .int c13_1, .int c14_1, .int c15_1, .long l16_1, .int c17_1, .int c18_1, .int z_6])) := ⟨_, rfl⟩
    have hP : va_P (gD g) cl0 ws_8 H := by rw [e_ws_8]; exact hP
    have hD : va_D A ws_8 := by rw [e_ws_8]; exact hD
    have E_9 : gE ws ws_8 := gE_set e_ws_8 hk_1 (cw_o (fi := 19) (v := .int z_6) rfl (by decide))
    have hG : Good g ws_8 := Good_set (fi := 19) (v := .int z_6) e_ws_8 hk_1 E_9 rfl hV9 hG (ivX5 hi_7)
    have Fr_10 : gF [(5, 19)] [] (some h0) ws ws_8 := gF_put (fi := 19) (v := .int z_6) e_ws_8 hk_1 rfl (by decide)
    have hkN := gset_self e_ws_8 hk_1
    have hk_1 := hkN
    have o_h0 := E_9.1 _ _ o_h0
    have o_v0_1 : ∀ b, v0_1 = some b → gC ws_8 b 9 := fun b h => E_9.1 _ _ (o_v0_1 b h)
    have F_v0_1 : ∀ b, v0_1 = some b → full ws_8 b := fun b h => (F_v0_1 b h).mo E_9
    have a_r1_1 := E_9.1 _ _ a_r1_1
    have a_r2_1 := E_9.1 _ _ a_r2_1
    have a_r4_1 := E_9.1 _ _ a_r4_1
    have a_r6_1 := E_9.1 _ _ a_r6_1
    have a_r8_1 := E_9.1 _ _ a_r8_1
    have a_r9_1 := E_9.1 _ _ a_r9_1
    have a_r10_1 := E_9.1 _ _ a_r10_1
    have o_v12_1 : ∀ b, v12_1 = some b → gC ws_8 b 7 := fun b h => E_9.1 _ _ (o_v12_1 b h)
    refine W.widen (k := 0) (n := 0) (Nat.le_of_ble_eq_true rfl) (Nat.le_of_ble_eq_true rfl) ?_
    exact W.vret hx hb hr (fun t9 ht9 hW9 => ⟨⟨ws_8, rfl, trivial, ⟨E_9, (gF.mo (F' := [(5, 14), (5, 19)]) (C' := [(5, 9)]) (S' := none) Fr_10 (by decide) (fun _ h => absurd h List.not_mem_nil) (Or.inl rfl)), hG, by rw [ht9]; exact hP, hD⟩⟩, hS.F ht9⟩) hS.2.2 dX5_push_52
  refine lv_if_lt (tgt := 42) hx hb dX5_push_17 (by decide) (fun c_11 => ?_) (fun c_11 => ?_)
  · exact J_42  _ _ ls  hP hD hS (lv_sub hl [1] rfl)
  · refine lv_aload_n hx hb dX5_push_20 rfl (lv_at hl 1 rfl) ?_
    refine va_get (D := gD g) (ci := 5) (v := .int c14_1) (C := RX5) (T := TX5) (N := 20) hx hb hts inX5 hown hK hP k_1 hk_1 rfl 14 (by decide) (hts _ kw_1031) (fun _ h9 => h9) rfl dX5_push_21 ?_
    refine lv_bipush (v := 24) hx hb dX5_push_24 (by decide) ?_
    refine lv_icmp_ge (tgt := 42) hx hb dX5_push_26 (by decide) (fun c_12 => ?_) (fun c_12 => ?_)
    · exact J_42  _ _ ls  hP hD hS (lv_sub hl [1] rfl)
    · refine lv_iload_n hx hb dX5_push_29 rfl (lv_at hl 0 rfl) ?_
      refine lv_if_lt (tgt := 42) hx hb dX5_push_30 (by decide) (fun c_13 => ?_) (fun c_13 => ?_)
      · exact J_42  _ _ ls  hP hD hS (lv_sub hl [1] rfl)
      · refine lv_iload_n hx hb dX5_push_33 rfl (lv_at hl 0 rfl) ?_
        refine lv_aload_n hx hb dX5_push_34 rfl (lv_at hl 1 rfl) ?_
        refine va_get (D := gD g) (ci := 5) (v := .ref r9_1) (C := RX5) (T := TX5) (N := 20) hx hb hts inX5 hown hK hP k_1 hk_1 rfl 9 (by decide) (hts _ kw_1046) (fun _ h9 => h9) rfl dX5_push_35 ?_
        obtain ⟨k_14, f_14, hk_14⟩ := gJ_of a_r9_1
        obtain ⟨z_15, ez_15⟩ : ∃ z : Int32, Int32.ofNat n9_1 = z := ⟨_, rfl⟩
        refine va_alen (v := z_15) hx hb hK hP k_14 3 hk_14 rfl ez_15 dX5_push_38 ?_
        refine lv_icmp_lt (tgt := 53) hx hb dX5_push_39 (by decide) (fun c_16 => ?_) (fun c_16 => ?_)
        · refine lv_aload_n hx hb dX5_push_53 rfl (lv_at hl 1 rfl) ?_
          refine va_get (D := gD g) (ci := 5) (v := .ref r9_1) (C := RX5) (T := TX5) (N := 20) hx hb hts inX5 hown hK hP k_1 hk_1 rfl 9 (by decide) (hts _ kw_1046) (fun _ h9 => h9) rfl dX5_push_54 ?_
          refine lv_iload_n hx hb dX5_push_57 rfl (lv_at hl 0 rfl) ?_
          refine lv_lload_n hx hb dX5_push_58 rfl (lv_at hl 2 rfl) ?_
          have hC9 : hol ws r9_1 [(5, 9)] := (hol_u hG.u hk_1 (j := 9) rfl a_r9_1 (by decide))
          have hS9 : holS ws r9_1 none := holS_n
          refine va_last hx hb hK hP hD hS k_14 3 hk_14 rfl (i_in2 (by have e0 : (0 : Int32).toInt = 0 := (by decide); have e24 : (24 : Int32).toInt = 24 := (by decide); have q_f13_1 := f13_1; have q_f22_1 := f22_1; obtain ⟨u_z_3, q_z_3⟩ := i_add ez_3; have q_c_13 := i_nlt c_13; have q_z_15 := i_len ez_15 f13_1; have q_c_16 := i_lt c_16; have q_f11_1 := f11_1; have q_z_2 := i_mulR (c := 24) (K := 89478485) ez_2 (by decide) (by decide) (by decide) (by decide); have q_c_11 := i_nlt c_11; have q_c_12 := i_nle c_12; have g_c11_1 := i_rg c11_1; have g_c14_1 := i_rg c14_1; have g_z_15 := i_rg z_15; have g_z_2 := i_rg z_2; have g_z_3 := i_rg z_3; omega)) dX5_push_59 (fun H locs hP hD hS => ?_)
          obtain ⟨ws_17, e_ws_17⟩ : ∃ z, z = ws.set k_14 (r9_1, .inl (g.cL, n9_1, .inr (.inl (vp_updL f_14 (z_3 : Int32).toNatClampNeg y1)))) := ⟨_, rfl⟩
          have hP : va_P (gD g) cl0 ws_17 H := by rw [e_ws_17]; exact hP
          have hD : va_D A ws_17 := by rw [e_ws_17]; exact hD
          have E_18 : gE ws ws_17 := gE_arj e_ws_17 hk_14
          have hG : Good g ws_17 := Good_arj e_ws_17 hk_14 hG
          have Fr_19 : gF [] [(5, 9)] none ws ws_17 := gF_ar e_ws_17 hk_14 rfl hC9 hS9
          have hk_1 := gset_arO e_ws_17 hk_14 hk_1
          have o_h0 := E_18.1 _ _ o_h0
          have o_v0_1 : ∀ b, v0_1 = some b → gC ws_17 b 9 := fun b h => E_18.1 _ _ (o_v0_1 b h)
          have F_v0_1 : ∀ b, v0_1 = some b → full ws_17 b := fun b h => (F_v0_1 b h).mo E_18
          have a_r1_1 := E_18.1 _ _ a_r1_1
          have a_r2_1 := E_18.1 _ _ a_r2_1
          have a_r4_1 := E_18.1 _ _ a_r4_1
          have a_r6_1 := E_18.1 _ _ a_r6_1
          have a_r8_1 := E_18.1 _ _ a_r8_1
          have a_r9_1 := E_18.1 _ _ a_r9_1
          have a_r10_1 := E_18.1 _ _ a_r10_1
          have o_v12_1 : ∀ b, v12_1 = some b → gC ws_17 b 7 := fun b h => E_18.1 _ _ (o_v12_1 b h)
          refine lv_aload_n hx hb dX5_push_60 rfl (lv_at hl 1 rfl) ?_
          refine lv_dup hx hb dX5_push_61 rfl ?_
          refine va_get (D := gD g) (ci := 5) (v := .int c14_1) (C := RX5) (T := TX5) (N := 20) hx hb hts inX5 hown hK hP k_1 hk_1 rfl 14 (by decide) (hts _ kw_1031) (fun _ h9 => h9) rfl dX5_push_62 ?_
          refine lv_iconst (v := 1) hx hb dX5_push_65 (by decide) ?_
          refine lv_iadd hx hb dX5_push_66 ?_
          refine lv_topi (fun z_20 ez_20 => ?_)
          have hV9 : okv ws_17 5 14 (.int z_20) := okv_i
          refine va_put (D := gD g) (ci := 5) (v := .int z_20) (ty := .int) (C := RX5) (T := TX5) (N := 20) hx hb hts inX5 tyX5 tyX5_ok nmX5 hown hK hP hD hS k_1 hk_1 rfl 14 (by decide) (hts _ kw_1031) (fun _ h9 => h9) rfl (by decide +kernel) rfl rfl (Nat.le_of_ble_eq_true rfl) dX5_push_67 (fun H locs hP hD hS => ?_)
          have hi_21 : invX5 g ws_17 h0 [va_rf v0_1, .ref r1_1, .ref r2_1, .int c3_1, .ref r4_1, .int c5_1, .ref r6_1, .int c7_1, .ref r8_1, .ref r9_1, .ref r10_1, .int c11_1, va_rf v12_1, .int c13_1, .int z_20, .int c15_1, .long l16_1, .int c17_1, .int c18_1, .int c19_1] := ⟨v0_1, r1_1, (n1_1), r2_1, (n2_1), (c3_1), r4_1, (n4_1), (c5_1), r6_1, (n6_1), (c7_1), r8_1, (n8_1), r9_1, (n9_1), r10_1, (n10_1), (c11_1), v12_1, (c13_1), (z_20), (c15_1), (l16_1), (c17_1), (c18_1), (c19_1), rfl, o_v0_1, F_v0_1, a_r1_1, f3_1, a_r2_1, f5_1, a_r4_1, f7_1, a_r6_1, f9_1, a_r8_1, f11_1, a_r9_1, f13_1, a_r10_1, f15_1, o_v12_1, f17_1, f18_1, f19_1, f20_1, f21_1, f22_1, f23_1, f24_1, f25_1, f26_1, f27_1, f28_1, f29_1, f30_1, f31_1, trivial⟩
          obtain ⟨ws_22, e_ws_22⟩ : ∃ z, z = ws_17.set k_1 (h0, .inr (5, [va_rf v0_1, .ref r1_1, .ref r2_1, .int c3_1, .ref r4_1, .int c5_1, .ref r6_1, .int c7_1, .ref r8_1, .ref r9_1, .ref r10_1, .int c11_1, va_rf v12_1, .int c13_1, .int z_20, .int c15_1, .long l16_1, .int c17_1, .int c18_1, .int c19_1])) := ⟨_, rfl⟩
          have hP : va_P (gD g) cl0 ws_22 H := by rw [e_ws_22]; exact hP
          have hD : va_D A ws_22 := by rw [e_ws_22]; exact hD
          have E_23 : gE ws_17 ws_22 := gE_set e_ws_22 hk_1 (cw_o (fi := 14) (v := .int z_20) rfl (by decide))
          have hG : Good g ws_22 := Good_set (fi := 14) (v := .int z_20) e_ws_22 hk_1 E_23 rfl hV9 hG (ivX5 hi_21)
          have Fr_24 : gF [(5, 14)] [] (some h0) ws_17 ws_22 := gF_put (fi := 14) (v := .int z_20) e_ws_22 hk_1 rfl (by decide)
          have hkN := gset_self e_ws_22 hk_1
          have hk_1 := hkN
          have o_h0 := E_23.1 _ _ o_h0
          have o_v0_1 : ∀ b, v0_1 = some b → gC ws_22 b 9 := fun b h => E_23.1 _ _ (o_v0_1 b h)
          have F_v0_1 : ∀ b, v0_1 = some b → full ws_22 b := fun b h => (F_v0_1 b h).mo E_23
          have a_r1_1 := E_23.1 _ _ a_r1_1
          have a_r2_1 := E_23.1 _ _ a_r2_1
          have a_r4_1 := E_23.1 _ _ a_r4_1
          have a_r6_1 := E_23.1 _ _ a_r6_1
          have a_r8_1 := E_23.1 _ _ a_r8_1
          have a_r9_1 := E_23.1 _ _ a_r9_1
          have a_r10_1 := E_23.1 _ _ a_r10_1
          have o_v12_1 : ∀ b, v12_1 = some b → gC ws_22 b 7 := fun b h => E_23.1 _ _ (o_v12_1 b h)
          refine W.widen (k := 0) (n := 0) (Nat.le_of_ble_eq_true rfl) (Nat.le_of_ble_eq_true rfl) ?_
          exact W.vret hx hb hr (fun t9 ht9 hW9 => ⟨⟨ws_22, rfl, trivial, ⟨(E_18.tr E_23), (gF.tr (gF.mo (F' := [(5, 14), (5, 19)]) (C' := [(5, 9)]) (S' := none) Fr_19 (fun _ h => absurd h List.not_mem_nil) (fun _ h => h) (Or.inr rfl)) (gF.mo (F' := [(5, 14), (5, 19)]) (C' := [(5, 9)]) (S' := none) Fr_24 (by decide) (fun _ h => absurd h List.not_mem_nil) (Or.inl rfl))), hG, by rw [ht9]; exact hP, hD⟩⟩, hS.F ht9⟩) hS.2.2 dX5_push_70
        · exact J_42  _ _ ls  hP hD hS (lv_sub hl [1] rfl)
set_option maxHeartbeats 1000000 in
set_option maxRecDepth 100000 in
theorem m_X5_pop (l : Launch) (g : Gm) (sz : Nat) (ws : va_W) (h0 : Nat) (hG : Good g ws) (o_h0 : gC ws h0 5) : Met l yX5_pop (wt yX5_pop cX5_pop 2 (some .long)) ({ frames := 0, cells := 0, slots := 0, locals := 0 }) (va_Pc [.ref h0] (st_G g sz ws)) (va_Ql (fun (r : Int64) (u9 : va_W) => True) (gQ1 g [(5, 14), (5, 19)] [] none (va_A ws sz) ws) (va_A ws sz)) (0) (0) (va_A ws sz) := by
  refine Met.ofW (cc := cX5_pop) (maxL := 2) (ret := (some .long)) (by decide) rfl ?_
  intro p e s m args below meth c s₁ B hml hv
  obtain ⟨rfl, hsz, hP, hK, hD0, hex, hE⟩ := hv
  have hx := B.exec
  have hb := B.bytes
  have hr := B.returns
  have hts0 := atoms_spec (ws := wt yX5_pop cX5_pop 2 (some .long)) B.pre
  have hts : ∀ w ∈ tb, w.before _ s = true := fun w h => hts0 w (List.mem_cons_of_mem _ h)
  have hown : s.vm.findClass RX5 = some m.cls := findClass_of_methodNamed B.named
  subst hsz
  have hD := hD0.self (sz := s.heap.size)
  generalize hAe : va_A ws s.heap.size = A at hD hE ⊢
  have hA : ∀ q : Nat, s.heap.size ≤ q → A q := fun q h => by rw [← hAe]; exact Or.inr h
  have hS : va_S A s.heap s.heap [] := va_S.rf
  have hl := lv_entry ([.ref h0]) (n := 2) (Nat.le_of_ble_eq_true rfl)
  rw [lg_entry_eq]
  generalize (lg_sl ([.ref h0]) ++ List.replicate (2 - (lg_sl ([.ref h0])).length) Slot.unset).toArray = ls at hl ⊢
  have hl : lv_has ls 2 [(0, .ref h0)] := hl
  refine lv_aload_n hx hb dX5_pop_0 rfl (lv_at hl 0 rfl) ?_
  obtain ⟨k_1, fs9, hk_1⟩ := gC_of o_h0
  obtain ⟨v0_1, r1_1, n1_1, r2_1, n2_1, c3_1, r4_1, n4_1, c5_1, r6_1, n6_1, c7_1, r8_1, n8_1, r9_1, n9_1, r10_1, n10_1, c11_1, v12_1, c13_1, c14_1, c15_1, l16_1, c17_1, c18_1, c19_1, rfl, o_v0_1, F_v0_1, a_r1_1, f3_1, a_r2_1, f5_1, a_r4_1, f7_1, a_r6_1, f9_1, a_r8_1, f11_1, a_r9_1, f13_1, a_r10_1, f15_1, o_v12_1, f17_1, f18_1, f19_1, f20_1, f21_1, f22_1, f23_1, f24_1, f25_1, f26_1, f27_1, f28_1, f29_1, f30_1, f31_1, -⟩ := (hG.1 _ _ _ _ hk_1).hX5 rfl
  refine va_get (D := gD g) (ci := 5) (v := .int c11_1) (C := RX5) (T := TX5) (N := 20) hx hb hts inX5 hown hK hP k_1 hk_1 rfl 11 (by decide) (hts _ kw_1025) (fun _ h9 => h9) rfl dX5_pop_1 ?_
  refine lv_bipush (v := 24) hx hb dX5_pop_4 (by decide) ?_
  refine lv_imul hx hb dX5_pop_6 ?_
  refine lv_topi (fun z_2 ez_2 => ?_)
  refine lv_aload_n hx hb dX5_pop_7 rfl (lv_at hl 0 rfl) ?_
  refine va_get (D := gD g) (ci := 5) (v := .int c14_1) (C := RX5) (T := TX5) (N := 20) hx hb hts inX5 hown hK hP k_1 hk_1 rfl 14 (by decide) (hts _ kw_1031) (fun _ h9 => h9) rfl dX5_pop_8 ?_
  refine lv_iadd hx hb dX5_pop_11 ?_
  refine lv_topi (fun z_3 ez_3 => ?_)
  refine lv_iconst (v := 1) hx hb dX5_pop_12 (by decide) ?_
  refine lv_isub hx hb dX5_pop_13 ?_
  refine lv_topi (fun z_4 ez_4 => ?_)
  refine lv_istore_n (lv' := [(1, .int z_4), (0, .ref h0)]) hx hb dX5_pop_14 rfl hl (by decide) rfl (fun ls hl => ?_)
  refine lv_aload_n hx hb dX5_pop_15 rfl (lv_at hl 1 rfl) ?_
  refine va_get (D := gD g) (ci := 5) (v := .int c14_1) (C := RX5) (T := TX5) (N := 20) hx hb hts inX5 hown hK hP k_1 hk_1 rfl 14 (by decide) (hts _ kw_1031) (fun _ h9 => h9) rfl dX5_pop_16 ?_
  refine lv_iconst (v := 1) hx hb dX5_pop_19 (by decide) ?_
  have J_45 : ∀  (H : Heap) (locs : List Loc) (ls : Array Slot), va_P (gD g) cl0 ws H → va_D A ws → va_S A s.heap H locs → lv_has ls 2 [(0, .ref h0)] → W p l e (headSpec (wt yX5_pop cX5_pop 2 (some .long)) ({ frames := 0, cells := 0, slots := 0, locals := 0 })).room s m ([.ref h0] : List Value).toArray below meth c H locs (0) (0) (MQ below (va_Ql (fun (r : Int64) (u9 : va_W) => True) (gQ1 g [(5, 14), (5, 19)] [] none A ws) A) ([.ref h0] : List Value).toArray s (0) (0) A) (F0 m 45 ls []) := by
    intro  H locs ls  hP hD hS hl
    refine lv_aload_n hx hb dX5_pop_45 rfl (lv_at hl 0 rfl) ?_
    refine lv_dup hx hb dX5_pop_46 rfl ?_
    refine va_get (D := gD g) (ci := 5) (v := .int c19_1) (C := RX5) (T := TX5) (N := 20) hx hb hts inX5 hown hK hP k_1 hk_1 rfl 19 (by decide) (hts _ kw_1045) (fun _ h9 => h9) rfl dX5_pop_47 ?_
    refine lv_iconst (v := 1) hx hb dX5_pop_50 (by decide) ?_
    refine lv_iadd hx hb dX5_pop_51 ?_
    refine lv_topi (fun z_7 ez_7 => ?_)
    have hV9 : okv ws 5 19 (.int z_7) := okv_i
    refine va_put (D := gD g) (ci := 5) (v := .int z_7) (ty := .int) (C := RX5) (T := TX5) (N := 20) hx hb hts inX5 tyX5 tyX5_ok nmX5 hown hK hP hD hS k_1 hk_1 rfl 19 (by decide) (hts _ kw_1045) (fun _ h9 => h9) rfl (by decide +kernel) rfl rfl (Nat.le_of_ble_eq_true rfl) dX5_pop_52 (fun H locs hP hD hS => ?_)
    have hi_8 : invX5 g ws h0 [va_rf v0_1, .ref r1_1, .ref r2_1, .int c3_1, .ref r4_1, .int c5_1, .ref r6_1, .int c7_1, .ref r8_1, .ref r9_1, .ref r10_1, .int c11_1, va_rf v12_1, .int c13_1, .int c14_1, .int c15_1, .long l16_1, .int c17_1, .int c18_1, .int z_7] := ⟨v0_1, r1_1, (n1_1), r2_1, (n2_1), (c3_1), r4_1, (n4_1), (c5_1), r6_1, (n6_1), (c7_1), r8_1, (n8_1), r9_1, (n9_1), r10_1, (n10_1), (c11_1), v12_1, (c13_1), (c14_1), (c15_1), (l16_1), (c17_1), (c18_1), (z_7), rfl, o_v0_1, F_v0_1, a_r1_1, f3_1, a_r2_1, f5_1, a_r4_1, f7_1, a_r6_1, f9_1, a_r8_1, f11_1, a_r9_1, f13_1, a_r10_1, f15_1, o_v12_1, f17_1, f18_1, f19_1, f20_1, f21_1, f22_1, f23_1, f24_1, f25_1, f26_1, f27_1, f28_1, f29_1, f30_1, f31_1, trivial⟩
    obtain ⟨ws_9, e_ws_9⟩ : ∃ z, z = ws.set k_1 (h0, .inr (5, [va_rf v0_1, .ref r1_1, .ref r2_1, .int c3_1, .ref r4_1, .int c5_1, .ref r6_1, .int c7_1, .ref r8_1, .ref r9_1, .ref r10_1, .int c11_1, va_rf v12_1, .int c13_1, .int c14_1, .int c15_1, .long l16_1, .int c17_1, .int c18_1, .int z_7])) := ⟨_, rfl⟩
    have hP : va_P (gD g) cl0 ws_9 H := by rw [e_ws_9]; exact hP
    have hD : va_D A ws_9 := by rw [e_ws_9]; exact hD
    have E_10 : gE ws ws_9 := gE_set e_ws_9 hk_1 (cw_o (fi := 19) (v := .int z_7) rfl (by decide))
    have hG : Good g ws_9 := Good_set (fi := 19) (v := .int z_7) e_ws_9 hk_1 E_10 rfl hV9 hG (ivX5 hi_8)
    have Fr_11 : gF [(5, 19)] [] (some h0) ws ws_9 := gF_put (fi := 19) (v := .int z_7) e_ws_9 hk_1 rfl (by decide)
    have hkN := gset_self e_ws_9 hk_1
    have hk_1 := hkN
    have o_h0 := E_10.1 _ _ o_h0
    have o_v0_1 : ∀ b, v0_1 = some b → gC ws_9 b 9 := fun b h => E_10.1 _ _ (o_v0_1 b h)
    have F_v0_1 : ∀ b, v0_1 = some b → full ws_9 b := fun b h => (F_v0_1 b h).mo E_10
    have a_r1_1 := E_10.1 _ _ a_r1_1
    have a_r2_1 := E_10.1 _ _ a_r2_1
    have a_r4_1 := E_10.1 _ _ a_r4_1
    have a_r6_1 := E_10.1 _ _ a_r6_1
    have a_r8_1 := E_10.1 _ _ a_r8_1
    have a_r9_1 := E_10.1 _ _ a_r9_1
    have a_r10_1 := E_10.1 _ _ a_r10_1
    have o_v12_1 : ∀ b, v12_1 = some b → gC ws_9 b 7 := fun b h => E_10.1 _ _ (o_v12_1 b h)
    refine lv_lconst (v := 0) hx hb dX5_pop_55 (by decide) ?_
    refine W.widen (k := 0) (n := 0) (Nat.le_of_ble_eq_true rfl) (Nat.le_of_ble_eq_true rfl) ?_
    exact W.lret (v := 0) hx hb hr (fun t9 ht9 hW9 => ⟨⟨_, ws_9, rfl, trivial, ⟨E_10, (gF.mo (F' := [(5, 14), (5, 19)]) (C' := []) (S' := none) Fr_11 (by decide) (fun _ h => h) (Or.inl rfl)), hG, by rw [ht9]; exact hP, hD⟩⟩, hS.F ht9⟩) hS.2.2 dX5_pop_56
  refine lv_icmp_lt (tgt := 45) hx hb dX5_pop_20 (by decide) (fun c_12 => ?_) (fun c_12 => ?_)
  · exact J_45  _ _ ls  hP hD hS (lv_sub hl [1] rfl)
  · refine lv_aload_n hx hb dX5_pop_23 rfl (lv_at hl 1 rfl) ?_
    refine va_get (D := gD g) (ci := 5) (v := .int c14_1) (C := RX5) (T := TX5) (N := 20) hx hb hts inX5 hown hK hP k_1 hk_1 rfl 14 (by decide) (hts _ kw_1031) (fun _ h9 => h9) rfl dX5_pop_24 ?_
    refine lv_bipush (v := 24) hx hb dX5_pop_27 (by decide) ?_
    refine lv_icmp_gt (tgt := 45) hx hb dX5_pop_29 (by decide) (fun c_13 => ?_) (fun c_13 => ?_)
    · exact J_45  _ _ ls  hP hD hS (lv_sub hl [1] rfl)
    · refine lv_iload_n hx hb dX5_pop_32 rfl (lv_at hl 0 rfl) ?_
      refine lv_if_lt (tgt := 45) hx hb dX5_pop_33 (by decide) (fun c_14 => ?_) (fun c_14 => ?_)
      · exact J_45  _ _ ls  hP hD hS (lv_sub hl [1] rfl)
      · refine lv_iload_n hx hb dX5_pop_36 rfl (lv_at hl 0 rfl) ?_
        refine lv_aload_n hx hb dX5_pop_37 rfl (lv_at hl 1 rfl) ?_
        refine va_get (D := gD g) (ci := 5) (v := .ref r9_1) (C := RX5) (T := TX5) (N := 20) hx hb hts inX5 hown hK hP k_1 hk_1 rfl 9 (by decide) (hts _ kw_1046) (fun _ h9 => h9) rfl dX5_pop_38 ?_
        obtain ⟨k_15, f_15, hk_15⟩ := gJ_of a_r9_1
        obtain ⟨z_16, ez_16⟩ : ∃ z : Int32, Int32.ofNat n9_1 = z := ⟨_, rfl⟩
        refine va_alen (v := z_16) hx hb hK hP k_15 3 hk_15 rfl ez_16 dX5_pop_41 ?_
        refine lv_icmp_lt (tgt := 57) hx hb dX5_pop_42 (by decide) (fun c_17 => ?_) (fun c_17 => ?_)
        · refine lv_aload_n hx hb dX5_pop_57 rfl (lv_at hl 1 rfl) ?_
          refine lv_dup hx hb dX5_pop_58 rfl ?_
          refine va_get (D := gD g) (ci := 5) (v := .int c14_1) (C := RX5) (T := TX5) (N := 20) hx hb hts inX5 hown hK hP k_1 hk_1 rfl 14 (by decide) (hts _ kw_1031) (fun _ h9 => h9) rfl dX5_pop_59 ?_
          refine lv_iconst (v := 1) hx hb dX5_pop_62 (by decide) ?_
          refine lv_isub hx hb dX5_pop_63 ?_
          refine lv_topi (fun z_18 ez_18 => ?_)
          have hV9 : okv ws 5 14 (.int z_18) := okv_i
          refine va_put (D := gD g) (ci := 5) (v := .int z_18) (ty := .int) (C := RX5) (T := TX5) (N := 20) hx hb hts inX5 tyX5 tyX5_ok nmX5 hown hK hP hD hS k_1 hk_1 rfl 14 (by decide) (hts _ kw_1031) (fun _ h9 => h9) rfl (by decide +kernel) rfl rfl (Nat.le_of_ble_eq_true rfl) dX5_pop_64 (fun H locs hP hD hS => ?_)
          have hi_19 : invX5 g ws h0 [va_rf v0_1, .ref r1_1, .ref r2_1, .int c3_1, .ref r4_1, .int c5_1, .ref r6_1, .int c7_1, .ref r8_1, .ref r9_1, .ref r10_1, .int c11_1, va_rf v12_1, .int c13_1, .int z_18, .int c15_1, .long l16_1, .int c17_1, .int c18_1, .int c19_1] := ⟨v0_1, r1_1, (n1_1), r2_1, (n2_1), (c3_1), r4_1, (n4_1), (c5_1), r6_1, (n6_1), (c7_1), r8_1, (n8_1), r9_1, (n9_1), r10_1, (n10_1), (c11_1), v12_1, (c13_1), (z_18), (c15_1), (l16_1), (c17_1), (c18_1), (c19_1), rfl, o_v0_1, F_v0_1, a_r1_1, f3_1, a_r2_1, f5_1, a_r4_1, f7_1, a_r6_1, f9_1, a_r8_1, f11_1, a_r9_1, f13_1, a_r10_1, f15_1, o_v12_1, f17_1, f18_1, f19_1, f20_1, f21_1, f22_1, f23_1, f24_1, f25_1, f26_1, f27_1, f28_1, f29_1, f30_1, f31_1, trivial⟩
          obtain ⟨ws_20, e_ws_20⟩ : ∃ z, z = ws.set k_1 (h0, .inr (5, [va_rf v0_1, .ref r1_1, .ref r2_1, .int c3_1, .ref r4_1, .int c5_1, .ref r6_1, .int c7_1, .ref r8_1, .ref r9_1, .ref r10_1, .int c11_1, va_rf v12_1, .int c13_1, .int z_18, .int c15_1, .long l16_1, .int c17_1, .int c18_1, .int c19_1])) := ⟨_, rfl⟩
          have hP : va_P (gD g) cl0 ws_20 H := by rw [e_ws_20]; exact hP
          have hD : va_D A ws_20 := by rw [e_ws_20]; exact hD
          have E_21 : gE ws ws_20 := gE_set e_ws_20 hk_1 (cw_o (fi := 14) (v := .int z_18) rfl (by decide))
          have hG : Good g ws_20 := Good_set (fi := 14) (v := .int z_18) e_ws_20 hk_1 E_21 rfl hV9 hG (ivX5 hi_19)
          have Fr_22 : gF [(5, 14)] [] (some h0) ws ws_20 := gF_put (fi := 14) (v := .int z_18) e_ws_20 hk_1 rfl (by decide)
          have hkN := gset_self e_ws_20 hk_1
          have hk_15 := gset_obI e_ws_20 hk_1 hk_15
          have hk_1 := hkN
          have o_h0 := E_21.1 _ _ o_h0
          have o_v0_1 : ∀ b, v0_1 = some b → gC ws_20 b 9 := fun b h => E_21.1 _ _ (o_v0_1 b h)
          have F_v0_1 : ∀ b, v0_1 = some b → full ws_20 b := fun b h => (F_v0_1 b h).mo E_21
          have a_r1_1 := E_21.1 _ _ a_r1_1
          have a_r2_1 := E_21.1 _ _ a_r2_1
          have a_r4_1 := E_21.1 _ _ a_r4_1
          have a_r6_1 := E_21.1 _ _ a_r6_1
          have a_r8_1 := E_21.1 _ _ a_r8_1
          have a_r9_1 := E_21.1 _ _ a_r9_1
          have a_r10_1 := E_21.1 _ _ a_r10_1
          have o_v12_1 : ∀ b, v12_1 = some b → gC ws_20 b 7 := fun b h => E_21.1 _ _ (o_v12_1 b h)
          refine lv_aload_n hx hb dX5_pop_67 rfl (lv_at hl 1 rfl) ?_
          refine va_get (D := gD g) (ci := 5) (v := .ref r9_1) (C := RX5) (T := TX5) (N := 20) hx hb hts inX5 hown hK hP k_1 hk_1 rfl 9 (by decide) (hts _ kw_1046) (fun _ h9 => h9) rfl dX5_pop_68 ?_
          refine lv_iload_n hx hb dX5_pop_71 rfl (lv_at hl 0 rfl) ?_
          refine va_lald hx hb hK hP k_15 3 hk_15 rfl (i_in2 (by have e0 : (0 : Int32).toInt = 0 := (by decide); have e1 : (1 : Int32).toInt = 1 := (by decide); have q_f13_1 := f13_1; have q_f22_1 := f22_1; obtain ⟨u_z_4, q_z_4⟩ := i_sub ez_4; have q_c_14 := i_nlt c_14; have q_z_16 := i_len ez_16 f13_1; have q_c_17 := i_lt c_17; have q_f11_1 := f11_1; obtain ⟨u_z_3, q_z_3⟩ := i_add ez_3; have g_c14_1 := i_rg c14_1; have g_z_16 := i_rg z_16; have g_z_2 := i_rg z_2; have g_z_3 := i_rg z_3; have g_z_4 := i_rg z_4; omega)) dX5_pop_72 ?_
          refine lv_topl (fun z_23 ez_23 => ?_)
          refine W.widen (k := 0) (n := 0) (Nat.le_of_ble_eq_true rfl) (Nat.le_of_ble_eq_true rfl) ?_
          exact W.lret (v := z_23) hx hb hr (fun t9 ht9 hW9 => ⟨⟨_, ws_20, rfl, trivial, ⟨E_21, (gF.mo (F' := [(5, 14), (5, 19)]) (C' := []) (S' := none) Fr_22 (by decide) (fun _ h => h) (Or.inl rfl)), hG, by rw [ht9]; exact hP, hD⟩⟩, hS.F ht9⟩) hS.2.2 dX5_pop_73
        · exact J_45  _ _ ls  hP hD hS (lv_sub hl [1] rfl)
set_option maxHeartbeats 1000000 in
set_option maxRecDepth 100000 in
theorem m_X5_push_ (l : Launch) (g : Gm) (sz : Nat) (ws : va_W) (h0 : Nat) (x1 : Int32) (y2 : Int64) (hG : Good g ws) (o_h0 : gC ws h0 5) : Met l yX5_push_ (wt yX5_push_ cX5_push_ 4 none) ({ frames := 1, cells := 0, slots := 0, locals := 23 }) (va_Pc [.ref h0, .int x1, .long y2] (st_G g sz ws)) (va_Qv (fun (u9 : va_W) => True) (gQ1 g [(5, 14), (5, 19)] [(5, 9)] none (va_A ws sz) ws) (va_A ws sz)) (0) (0) (va_A ws sz) := by
  refine Met.ofW (cc := cX5_push_) (maxL := 4) (ret := none) (by decide) rfl ?_
  intro p e s m args below meth c s₁ B hml hv
  obtain ⟨rfl, hsz, hP, hK, hD0, hex, hE⟩ := hv
  have hx := B.exec
  have hb := B.bytes
  have hr := B.returns
  have hts0 := atoms_spec (ws := wt yX5_push_ cX5_push_ 4 none) B.pre
  have hts : ∀ w ∈ tb, w.before _ s = true := fun w h => hts0 w (List.mem_cons_of_mem _ h)
  have hown : s.vm.findClass RX5 = some m.cls := findClass_of_methodNamed B.named
  subst hsz
  have hD := hD0.self (sz := s.heap.size)
  generalize hAe : va_A ws s.heap.size = A at hD hE ⊢
  have hA : ∀ q : Nat, s.heap.size ≤ q → A q := fun q h => by rw [← hAe]; exact Or.inr h
  have hS : va_S A s.heap s.heap [] := va_S.rf
  have hl := lv_entry ([.ref h0, .int x1, .long y2]) (n := 4) (Nat.le_of_ble_eq_true rfl)
  rw [lg_entry_eq]
  generalize (lg_sl ([.ref h0, .int x1, .long y2]) ++ List.replicate (4 - (lg_sl ([.ref h0, .int x1, .long y2])).length) Slot.unset).toArray = ls at hl ⊢
  have hl : lv_has ls 4 [(0, .ref h0), (1, .int x1), (2, .long y2)] := hl
  refine lv_iload_n hx hb dX5_push__0 rfl (lv_at hl 1 rfl) ?_
  have J_9 : ∀ (ws_1 : va_W) (H : Heap) (locs : List Loc) (ls : Array Slot), gE ws ws_1 → gF [(5, 14), (5, 19)] [(5, 9)] none ws ws_1 → Good g ws_1 → va_P (gD g) cl0 ws_1 H → va_D A ws_1 → va_S A s.heap H locs → lv_has ls 4 [(0, .ref h0), (1, .int x1)] → W p l e (headSpec (wt yX5_push_ cX5_push_ 4 none) ({ frames := 1, cells := 0, slots := 0, locals := 23 })).room s m ([.ref h0, .int x1, .long y2] : List Value).toArray below meth c H locs (0) (0) (MQ below (va_Qv (fun (u9 : va_W) => True) (gQ1 g [(5, 14), (5, 19)] [(5, 9)] none A ws) A) ([.ref h0, .int x1, .long y2] : List Value).toArray s (0) (0) A) (F0 m 9 ls []) := by
    intro ws_1 H locs ls  E_2 Fr_3 hG hP hD hS hl
    have o_h0 := E_2.1 _ _ o_h0
    refine lv_iload_n hx hb dX5_push__9 rfl (lv_at hl 1 rfl) ?_
    refine lv_iconst (v := 2) hx hb dX5_push__10 (by decide) ?_
    have J_19 : ∀ (ws_4 : va_W) (H : Heap) (locs : List Loc) (ls : Array Slot), gE ws_1 ws_4 → gF [(5, 14), (5, 19)] [(5, 9)] none ws_1 ws_4 → Good g ws_4 → va_P (gD g) cl0 ws_4 H → va_D A ws_4 → va_S A s.heap H locs → lv_has ls 4 [] → W p l e (headSpec (wt yX5_push_ cX5_push_ 4 none) ({ frames := 1, cells := 0, slots := 0, locals := 23 })).room s m ([.ref h0, .int x1, .long y2] : List Value).toArray below meth c H locs (0) (0) (MQ below (va_Qv (fun (u9 : va_W) => True) (gQ1 g [(5, 14), (5, 19)] [(5, 9)] none A ws) A) ([.ref h0, .int x1, .long y2] : List Value).toArray s (0) (0) A) (F0 m 19 ls []) := by
      intro ws_4 H locs ls  E_5 Fr_6 hG hP hD hS hl
      have o_h0 := E_5.1 _ _ o_h0
      refine W.widen (k := 0) (n := 0) (Nat.le_of_ble_eq_true rfl) (Nat.le_of_ble_eq_true rfl) ?_
      exact W.vret hx hb hr (fun t9 ht9 hW9 => ⟨⟨ws_4, rfl, trivial, ⟨(E_2.tr E_5), (gF.tr Fr_3 Fr_6), hG, by rw [ht9]; exact hP, hD⟩⟩, hS.F ht9⟩) hS.2.2 dX5_push__19
    refine lv_icmp_ne (tgt := 19) hx hb dX5_push__11 (by decide) (fun c_7 => ?_) (fun c_7 => ?_)
    · exact J_19 ws_1 H locs ls (gE.rf) (gF.rf) hG hP hD hS (lv_sub hl [] rfl)
    · refine lv_aload_n hx hb dX5_push__14 rfl (lv_at hl 0 rfl) ?_
      refine lv_lconst (v := 0) hx hb dX5_push__15 (by decide) ?_
      have hFc := gfree hD hS hA
      obtain ⟨k_8, fs_8, hk_8⟩ := gC_of o_h0
      refine va_callv (va_runV (As := [.long 0]) (rest := []) ⟨hx, hb, hml, hown, hts⟩ (m_X5_push l g H.size ws_1 h0 (0) hG o_h0) (cwV 1 hts (gd_V kw_1099 kw_1130 kw_1131 kw_398 kw_1129) rfl rfl rfl (by decide +kernel) ⟨Nat.le_of_ble_eq_true rfl, Nat.le_of_ble_eq_true rfl⟩) ⟨gblind, va_recv hK hP (ci := 5) (q0 := k_8) rfl hk_8, fun U hU hW9 => gmk hU hW9 hP hK hD hex hE hS hFc⟩ rfl rfl hl.1 rfl (lv_room (Nat.le_of_ble_eq_true rfl)) dX5_push__16 ⟨Nat.le_of_ble_eq_true rfl, Nat.le_of_ble_eq_true rfl⟩) hS (fun q _ h => hFc q h) hFc (fun  ws_9 t9 H1 locs ht9 hvm9 hw9 hB9 hz9 hk9 hS => ?_)
      obtain ⟨E_10, Fr_11, hG, hP1, hD1⟩ := hB9
      have hP : va_P (gD g) cl0 ws_9 H1 := by rw [← ht9]; exact hP1
      have hD : va_D A ws_9 := hD1.weaken (fun _ _ _ h => hFc _ h)
      clear hP1 hD1 hz9 hk9 hvm9 ht9 hw9
      generalize H1 = H at hP hS ⊢
      have o_h0 := E_10.1 _ _ o_h0
      exact J_19 ws_9 H locs ls (E_10) (Fr_11) hG hP hD hS (lv_sub hl [] rfl)
  refine lv_if_eq (tgt := 9) hx hb dX5_push__1 (by decide) (fun c_14 => ?_) (fun c_14 => ?_)
  · exact J_9 ws _ _ ls (gE.rf) (gF.rf) hG hP hD hS (lv_sub hl [0, 1] rfl)
  · refine lv_aload_n hx hb dX5_push__4 rfl (lv_at hl 0 rfl) ?_
    refine lv_lload_n hx hb dX5_push__5 rfl (lv_at hl 2 rfl) ?_
    have hFc := gfree hD hS hA
    obtain ⟨k_15, fs_15, hk_15⟩ := gC_of o_h0
    refine va_callv (va_runV (As := [.long y2]) (rest := []) ⟨hx, hb, hml, hown, hts⟩ (m_X5_push l g s.heap.size ws h0 (y2) hG o_h0) (cwV 1 hts (gd_V kw_1099 kw_1130 kw_1131 kw_398 kw_1129) rfl rfl rfl (by decide +kernel) ⟨Nat.le_of_ble_eq_true rfl, Nat.le_of_ble_eq_true rfl⟩) ⟨gblind, va_recv hK hP (ci := 5) (q0 := k_15) rfl hk_15, fun U hU hW9 => gmk hU hW9 hP hK hD hex hE hS hFc⟩ rfl rfl hl.1 rfl (lv_room (Nat.le_of_ble_eq_true rfl)) dX5_push__6 ⟨Nat.le_of_ble_eq_true rfl, Nat.le_of_ble_eq_true rfl⟩) hS (fun q _ h => hFc q h) hFc (fun  ws_16 t9 H1 locs ht9 hvm9 hw9 hB9 hz9 hk9 hS => ?_)
    obtain ⟨E_17, Fr_18, hG, hP1, hD1⟩ := hB9
    have hP : va_P (gD g) cl0 ws_16 H1 := by rw [← ht9]; exact hP1
    have hD : va_D A ws_16 := hD1.weaken (fun _ _ _ h => hFc _ h)
    clear hP1 hD1 hz9 hk9 hvm9 ht9 hw9
    generalize H1 = H at hP hS ⊢
    have o_h0 := E_17.1 _ _ o_h0
    exact J_9 ws_16 H locs ls (E_17) (Fr_18) hG hP hD hS (lv_sub hl [0, 1] rfl)
set_option maxHeartbeats 1000000 in
set_option maxRecDepth 100000 in
theorem m_X5_pop_ (l : Launch) (g : Gm) (sz : Nat) (ws : va_W) (h0 : Nat) (x1 : Int32) (hG : Good g ws) (o_h0 : gC ws h0 5) : Met l yX5_pop_ (wt yX5_pop_ cX5_pop_ 2 (some .long)) ({ frames := 1, cells := 0, slots := 0, locals := 21 }) (va_Pc [.ref h0, .int x1] (st_G g sz ws)) (va_Ql (fun (r : Int64) (u9 : va_W) => True) (gQ1 g [(5, 14), (5, 19)] [] none (va_A ws sz) ws) (va_A ws sz)) (0) (0) (va_A ws sz) := by
  refine Met.ofW (cc := cX5_pop_) (maxL := 2) (ret := (some .long)) (by decide) rfl ?_
  intro p e s m args below meth c s₁ B hml hv
  obtain ⟨rfl, hsz, hP, hK, hD0, hex, hE⟩ := hv
  have hx := B.exec
  have hb := B.bytes
  have hr := B.returns
  have hts0 := atoms_spec (ws := wt yX5_pop_ cX5_pop_ 2 (some .long)) B.pre
  have hts : ∀ w ∈ tb, w.before _ s = true := fun w h => hts0 w (List.mem_cons_of_mem _ h)
  have hown : s.vm.findClass RX5 = some m.cls := findClass_of_methodNamed B.named
  subst hsz
  have hD := hD0.self (sz := s.heap.size)
  generalize hAe : va_A ws s.heap.size = A at hD hE ⊢
  have hA : ∀ q : Nat, s.heap.size ≤ q → A q := fun q h => by rw [← hAe]; exact Or.inr h
  have hS : va_S A s.heap s.heap [] := va_S.rf
  have hl := lv_entry ([.ref h0, .int x1]) (n := 2) (Nat.le_of_ble_eq_true rfl)
  rw [lg_entry_eq]
  generalize (lg_sl ([.ref h0, .int x1]) ++ List.replicate (2 - (lg_sl ([.ref h0, .int x1])).length) Slot.unset).toArray = ls at hl ⊢
  have hl : lv_has ls 2 [(0, .ref h0), (1, .int x1)] := hl
  refine lv_iload_n hx hb dX5_pop__0 rfl (lv_at hl 1 rfl) ?_
  refine lv_iconst (v := 2) hx hb dX5_pop__1 (by decide) ?_
  have J_10 : ∀ (ws_1 : va_W) (H : Heap) (locs : List Loc) (ls : Array Slot), gE ws ws_1 → gF [(5, 14), (5, 19)] [] none ws ws_1 → Good g ws_1 → va_P (gD g) cl0 ws_1 H → va_D A ws_1 → va_S A s.heap H locs → lv_has ls 2 [(0, .ref h0), (1, .int x1)] → W p l e (headSpec (wt yX5_pop_ cX5_pop_ 2 (some .long)) ({ frames := 1, cells := 0, slots := 0, locals := 21 })).room s m ([.ref h0, .int x1] : List Value).toArray below meth c H locs (0) (0) (MQ below (va_Ql (fun (r : Int64) (u9 : va_W) => True) (gQ1 g [(5, 14), (5, 19)] [] none A ws) A) ([.ref h0, .int x1] : List Value).toArray s (0) (0) A) (F0 m 10 ls []) := by
    intro ws_1 H locs ls  E_2 Fr_3 hG hP hD hS hl
    have o_h0 := E_2.1 _ _ o_h0
    refine lv_iload_n hx hb dX5_pop__10 rfl (lv_at hl 1 rfl) ?_
    have J_22 : ∀ (t_4 : Int64) (ws_5 : va_W) (H : Heap) (locs : List Loc) (ls : Array Slot), gE ws_1 ws_5 → gF [(5, 14), (5, 19)] [] none ws_1 ws_5 → Good g ws_5 → va_P (gD g) cl0 ws_5 H → va_D A ws_5 → va_S A s.heap H locs → lv_has ls 2 [] → W p l e (headSpec (wt yX5_pop_ cX5_pop_ 2 (some .long)) ({ frames := 1, cells := 0, slots := 0, locals := 21 })).room s m ([.ref h0, .int x1] : List Value).toArray below meth c H locs (0) (0) (MQ below (va_Ql (fun (r : Int64) (u9 : va_W) => True) (gQ1 g [(5, 14), (5, 19)] [] none A ws) A) ([.ref h0, .int x1] : List Value).toArray s (0) (0) A) (F0 m 22 ls [.long t_4]) := by
      intro t_4 ws_5 H locs ls  E_6 Fr_7 hG hP hD hS hl
      have o_h0 := E_6.1 _ _ o_h0
      refine W.widen (k := 0) (n := 0) (Nat.le_of_ble_eq_true rfl) (Nat.le_of_ble_eq_true rfl) ?_
      exact W.lret (v := t_4) hx hb hr (fun t9 ht9 hW9 => ⟨⟨_, ws_5, rfl, trivial, ⟨(E_2.tr E_6), (gF.tr Fr_3 Fr_7), hG, by rw [ht9]; exact hP, hD⟩⟩, hS.F ht9⟩) hS.2.2 dX5_pop__22
    refine lv_if_ne (tgt := 18) hx hb dX5_pop__11 (by decide) (fun c_8 => ?_) (fun c_8 => ?_)
    · refine lv_aload_n hx hb dX5_pop__18 rfl (lv_at hl 0 rfl) ?_
      have hFc := gfree hD hS hA
      obtain ⟨k_9, fs_9, hk_9⟩ := gC_of o_h0
      refine va_calll (va_runV (As := []) (rest := []) ⟨hx, hb, hml, hown, hts⟩ (m_X5_pop l g H.size ws_1 h0 hG o_h0) (cwV 0 hts (gd_V kw_1080 kw_1124 kw_1125 kw_398 kw_1123) rfl rfl rfl (by decide +kernel) ⟨Nat.le_of_ble_eq_true rfl, Nat.le_of_ble_eq_true rfl⟩) ⟨gblind, va_recv hK hP (ci := 5) (q0 := k_9) rfl hk_9, fun U hU hW9 => gmk hU hW9 hP hK hD hex hE hS hFc⟩ rfl rfl hl.1 rfl (lv_room (Nat.le_of_ble_eq_true rfl)) dX5_pop__19 ⟨Nat.le_of_ble_eq_true rfl, Nat.le_of_ble_eq_true rfl⟩) hS (fun q _ h => hFc q h) hFc (fun r_10 ws_11 t9 H1 locs ht9 hvm9 hw9 hB9 hz9 hk9 hS => ?_)
      obtain ⟨E_12, Fr_13, hG, hP1, hD1⟩ := hB9
      have hP : va_P (gD g) cl0 ws_11 H1 := by rw [← ht9]; exact hP1
      have hD : va_D A ws_11 := hD1.weaken (fun _ _ _ h => hFc _ h)
      clear hP1 hD1 hz9 hk9 hvm9 ht9 hw9
      generalize H1 = H at hP hS ⊢
      have o_h0 := E_12.1 _ _ o_h0
      exact J_22 (r_10) ws_11 H locs ls (E_12) (Fr_13) hG hP hD hS (lv_sub hl [] rfl)
    · refine lv_lconst (v := 0) hx hb dX5_pop__14 (by decide) ?_
      refine lv_goto (tgt := 22) hx hb dX5_pop__15 (by decide) ?_
      exact J_22 (0) ws_1 H locs ls (gE.rf) (gF.rf) hG hP hD hS (lv_sub hl [] rfl)
  refine lv_icmp_ne (tgt := 10) hx hb dX5_pop__2 (by decide) (fun c_16 => ?_) (fun c_16 => ?_)
  · exact J_10 ws _ _ ls (gE.rf) (gF.rf) hG hP hD hS (lv_sub hl [0, 1] rfl)
  · refine lv_aload_n hx hb dX5_pop__5 rfl (lv_at hl 0 rfl) ?_
    have hFc := gfree hD hS hA
    obtain ⟨k_17, fs_17, hk_17⟩ := gC_of o_h0
    refine va_calll (va_runV (As := []) (rest := []) ⟨hx, hb, hml, hown, hts⟩ (m_X5_pop l g s.heap.size ws h0 hG o_h0) (cwV 0 hts (gd_V kw_1080 kw_1124 kw_1125 kw_398 kw_1123) rfl rfl rfl (by decide +kernel) ⟨Nat.le_of_ble_eq_true rfl, Nat.le_of_ble_eq_true rfl⟩) ⟨gblind, va_recv hK hP (ci := 5) (q0 := k_17) rfl hk_17, fun U hU hW9 => gmk hU hW9 hP hK hD hex hE hS hFc⟩ rfl rfl hl.1 rfl (lv_room (Nat.le_of_ble_eq_true rfl)) dX5_pop__6 ⟨Nat.le_of_ble_eq_true rfl, Nat.le_of_ble_eq_true rfl⟩) hS (fun q _ h => hFc q h) hFc (fun r_18 ws_19 t9 H1 locs ht9 hvm9 hw9 hB9 hz9 hk9 hS => ?_)
    obtain ⟨E_20, Fr_21, hG, hP1, hD1⟩ := hB9
    have hP : va_P (gD g) cl0 ws_19 H1 := by rw [← ht9]; exact hP1
    have hD : va_D A ws_19 := hD1.weaken (fun _ _ _ h => hFc _ h)
    clear hP1 hD1 hz9 hk9 hvm9 ht9 hw9
    generalize H1 = H at hP hS ⊢
    have o_h0 := E_20.1 _ _ o_h0
    refine lv_pop2_2 hx hb dX5_pop__9 rfl ?_
    exact J_10 ws_19 H locs ls (E_20) (Fr_21) hG hP hD hS (lv_sub hl [0, 1] rfl)
set_option maxHeartbeats 1000000 in
set_option maxRecDepth 100000 in
theorem m_X5_isJumpTaken (l : Launch) (g : Gm) (sz : Nat) (ws : va_W) (h0 : Nat) (x1 : Int32) (hG : Good g ws) (o_h0 : gC ws h0 5) : Met l yX5_isJumpTaken (wt yX5_isJumpTaken cX5_isJumpTaken 4 (some .boolean)) ({ frames := 1, cells := 0, slots := 0, locals := 22 }) (va_Pc [.ref h0, .int x1] (st_G g sz ws)) (va_Qi (fun (r : Int32) (u9 : va_W) => r = 0 ∨ r = 1) (gQ1 g [(5, 14), (5, 19)] [] none (va_A ws sz) ws) (va_A ws sz)) (0) (0) (va_A ws sz) := by
  refine Met.ofW (cc := cX5_isJumpTaken) (maxL := 4) (ret := (some .boolean)) (by decide) rfl ?_
  intro p e s m args below meth c s₁ B hml hv
  obtain ⟨rfl, hsz, hP, hK, hD0, hex, hE⟩ := hv
  have hx := B.exec
  have hb := B.bytes
  have hr := B.returns
  have hts0 := atoms_spec (ws := wt yX5_isJumpTaken cX5_isJumpTaken 4 (some .boolean)) B.pre
  have hts : ∀ w ∈ tb, w.before _ s = true := fun w h => hts0 w (List.mem_cons_of_mem _ h)
  have hown : s.vm.findClass RX5 = some m.cls := findClass_of_methodNamed B.named
  subst hsz
  have hD := hD0.self (sz := s.heap.size)
  generalize hAe : va_A ws s.heap.size = A at hD hE ⊢
  have hA : ∀ q : Nat, s.heap.size ≤ q → A q := fun q h => by rw [← hAe]; exact Or.inr h
  have hS : va_S A s.heap s.heap [] := va_S.rf
  have hl := lv_entry ([.ref h0, .int x1]) (n := 4) (Nat.le_of_ble_eq_true rfl)
  rw [lg_entry_eq]
  generalize (lg_sl ([.ref h0, .int x1]) ++ List.replicate (4 - (lg_sl ([.ref h0, .int x1])).length) Slot.unset).toArray = ls at hl ⊢
  have hl : lv_has ls 4 [(0, .ref h0), (1, .int x1)] := hl
  refine lv_iload_n hx hb dX5_isJumpTaken_0 rfl (lv_at hl 1 rfl) ?_
  refine lv_sipush (v := 167) hx hb dX5_isJumpTaken_1 (by decide) ?_
  refine lv_icmp_ne (tgt := 9) hx hb dX5_isJumpTaken_4 (by decide) (fun c_1 => ?_) (fun c_1 => ?_)
  · refine lv_aload_n hx hb dX5_isJumpTaken_9 rfl (lv_at hl 0 rfl) ?_
    have hFc := gfree hD hS hA
    obtain ⟨k_2, fs_2, hk_2⟩ := gC_of o_h0
    refine va_calll (va_runV (As := []) (rest := []) ⟨hx, hb, hml, hown, hts⟩ (m_X5_pop l g s.heap.size ws h0 hG o_h0) (cwV 0 hts (gd_V kw_1080 kw_1124 kw_1125 kw_398 kw_1123) rfl rfl rfl (by decide +kernel) ⟨Nat.le_of_ble_eq_true rfl, Nat.le_of_ble_eq_true rfl⟩) ⟨gblind, va_recv hK hP (ci := 5) (q0 := k_2) rfl hk_2, fun U hU hW9 => gmk hU hW9 hP hK hD hex hE hS hFc⟩ rfl rfl hl.1 rfl (lv_room (Nat.le_of_ble_eq_true rfl)) dX5_isJumpTaken_10 ⟨Nat.le_of_ble_eq_true rfl, Nat.le_of_ble_eq_true rfl⟩) hS (fun q _ h => hFc q h) hFc (fun r_3 ws_4 t9 H1 locs ht9 hvm9 hw9 hB9 hz9 hk9 hS => ?_)
    obtain ⟨E_5, Fr_6, hG, hP1, hD1⟩ := hB9
    have hP : va_P (gD g) cl0 ws_4 H1 := by rw [← ht9]; exact hP1
    have hD : va_D A ws_4 := hD1.weaken (fun _ _ _ h => hFc _ h)
    clear hP1 hD1 hz9 hk9 hvm9 ht9 hw9
    generalize H1 = H at hP hS ⊢
    have o_h0 := E_5.1 _ _ o_h0
    refine lv_lstore_n (lv' := [(2, .long r_3), (0, .ref h0), (1, .int x1)]) hx hb dX5_isJumpTaken_13 rfl hl (by decide) rfl (fun ls hl => ?_)
    refine lv_iload_n hx hb dX5_isJumpTaken_14 rfl (lv_at hl 2 rfl) ?_
    have K_15_110 : W p l e (headSpec (wt yX5_isJumpTaken cX5_isJumpTaken 4 (some .boolean)) ({ frames := 1, cells := 0, slots := 0, locals := 22 })).room s m ([.ref h0, .int x1] : List Value).toArray below meth c H locs (0) (0) (MQ below (va_Qi (fun (r : Int32) (u9 : va_W) => r = 0 ∨ r = 1) (gQ1 g [(5, 14), (5, 19)] [] none A ws) A) ([.ref h0, .int x1] : List Value).toArray s (0) (0) A) (F0 m 110 ls []) := by
      refine lv_iload_n hx hb dX5_isJumpTaken_110 rfl (lv_at hl 2 rfl) ?_
      refine lv_sipush (v := 159) hx hb dX5_isJumpTaken_111 (by decide) ?_
      have J_138 : ∀ (t_9 : Int32) (ws_11 : va_W) (H : Heap) (locs : List Loc) (ls : Array Slot), t_9 = 0 ∨ t_9 = 1 → gE ws_4 ws_11 → gF [(5, 14), (5, 19)] [] none ws_4 ws_11 → Good g ws_11 → va_P (gD g) cl0 ws_11 H → va_D A ws_11 → va_S A s.heap H locs → lv_has ls 4 [] → W p l e (headSpec (wt yX5_isJumpTaken cX5_isJumpTaken 4 (some .boolean)) ({ frames := 1, cells := 0, slots := 0, locals := 22 })).room s m ([.ref h0, .int x1] : List Value).toArray below meth c H locs (0) (0) (MQ below (va_Qi (fun (r : Int32) (u9 : va_W) => r = 0 ∨ r = 1) (gQ1 g [(5, 14), (5, 19)] [] none A ws) A) ([.ref h0, .int x1] : List Value).toArray s (0) (0) A) (F0 m 138 ls [.int t_9]) := by
        intro t_9 ws_11 H locs ls iv_10 E_12 Fr_13 hG hP hD hS hl
        have hz_t_9 := iv_10
        have o_h0 := E_12.1 _ _ o_h0
        refine W.widen (k := 0) (n := 0) (Nat.le_of_ble_eq_true rfl) (Nat.le_of_ble_eq_true rfl) ?_
        exact W.zret (v := t_9) hx hb hr (nz hz_t_9) (fun t9 ht9 hW9 => ⟨⟨_, ws_11, rfl, hz_t_9, ⟨(E_5.tr E_12), (gF.tr Fr_6 Fr_13), hG, by rw [ht9]; exact hP, hD⟩⟩, hS.F ht9⟩) hS.2.2 dX5_isJumpTaken_138
      refine lv_icmp_ge (tgt := 127) hx hb dX5_isJumpTaken_114 (by decide) (fun c_14 => ?_) (fun c_14 => ?_)
      · refine lv_iload_n hx hb dX5_isJumpTaken_127 rfl (lv_at hl 2 rfl) ?_
        refine lv_aload_n hx hb dX5_isJumpTaken_128 rfl (lv_at hl 1 rfl) ?_
        have hFc := gfree hD hS hA
        obtain ⟨k_15, fs_15, hk_15⟩ := gC_of o_h0
        refine va_calll (va_runV (As := []) (rest := [.int x1]) ⟨hx, hb, hml, hown, hts⟩ (m_X5_pop l g H.size ws_4 h0 hG o_h0) (cwV 0 hts (gd_V kw_1080 kw_1124 kw_1125 kw_398 kw_1123) rfl rfl rfl (by decide +kernel) ⟨Nat.le_of_ble_eq_true rfl, Nat.le_of_ble_eq_true rfl⟩) ⟨gblind, va_recv hK hP (ci := 5) (q0 := k_15) rfl hk_15, fun U hU hW9 => gmk hU hW9 hP hK hD hex hE hS hFc⟩ rfl rfl hl.1 rfl (lv_room (Nat.le_of_ble_eq_true rfl)) dX5_isJumpTaken_129 ⟨Nat.le_of_ble_eq_true rfl, Nat.le_of_ble_eq_true rfl⟩) hS (fun q _ h => hFc q h) hFc (fun r_16 ws_17 t9 H1 locs ht9 hvm9 hw9 hB9 hz9 hk9 hS => ?_)
        obtain ⟨E_18, Fr_19, hG, hP1, hD1⟩ := hB9
        have hP : va_P (gD g) cl0 ws_17 H1 := by rw [← ht9]; exact hP1
        have hD : va_D A ws_17 := hD1.weaken (fun _ _ _ h => hFc _ h)
        clear hP1 hD1 hz9 hk9 hvm9 ht9 hw9
        generalize H1 = H at hP hS ⊢
        have o_h0 := E_18.1 _ _ o_h0
        obtain ⟨z_22, ez_22⟩ : ∃ y : Int32, (r_16 : Int64).toInt32 = y := ⟨_, rfl⟩
        refine lv_l2i (v := z_22) hx hb dX5_isJumpTaken_132 ez_22 ?_
        refine lv_lload_n hx hb dX5_isJumpTaken_133 rfl (lv_at hl 0 rfl) ?_
        obtain ⟨z_23, ez_23⟩ : ∃ y : Int32, (r_3 : Int64).toInt32 = y := ⟨_, rfl⟩
        refine lv_l2i (v := z_23) hx hb dX5_isJumpTaken_134 ez_23 ?_
        have hFc := gfree hD hS hA
        refine va_calli (va_runS (As := [.int x1, .int z_22, .int z_23]) (rest := []) ⟨hx, hb, hml, hown, hts⟩ (m_X6_isTaken l g H.size ws_17 (x1) (z_22) (z_23) hG ) (va_cwS 3 hts (gd_S kw_1081 kw_1235 kw_1207 kw_1234) rfl rfl rfl (by decide +kernel) ⟨Nat.le_of_ble_eq_true rfl, Nat.le_of_ble_eq_true rfl⟩) ⟨gblind, fun U hU hW9 => gmk hU hW9 hP hK hD hex hE hS hFc⟩ rfl rfl hl.1 rfl (lv_room (Nat.le_of_ble_eq_true rfl)) dX5_isJumpTaken_135 ⟨Nat.le_of_ble_eq_true rfl, Nat.le_of_ble_eq_true rfl⟩) hS (fun q _ h => hFc q h) hFc (fun r_24 u9 t9 H1 locs ht9 hvm9 hw9 hB9 hz9 hk9 hS => ?_)
        have hP : va_P (gD g) cl0 ws_17 H1 := by rw [← ht9]; exact hB9.1
        have hz_r_24 : r_24 = 0 ∨ r_24 = 1 := hw9
        clear hB9 hz9 hk9 hvm9 ht9 hw9
        generalize H1 = H at hP hS ⊢
        exact J_138 (r_24) ws_17 H locs ls hz_r_24 (E_18) (Fr_19) hG hP hD hS (lv_sub hl [] rfl)
      · refine lv_iload_n hx hb dX5_isJumpTaken_117 rfl (lv_at hl 2 rfl) ?_
        refine lv_lload_n hx hb dX5_isJumpTaken_118 rfl (lv_at hl 0 rfl) ?_
        obtain ⟨z_25, ez_25⟩ : ∃ y : Int32, (r_3 : Int64).toInt32 = y := ⟨_, rfl⟩
        refine lv_l2i (v := z_25) hx hb dX5_isJumpTaken_119 ez_25 ?_
        refine lv_iconst (v := 0) hx hb dX5_isJumpTaken_120 (by decide) ?_
        have hFc := gfree hD hS hA
        refine va_calli (va_runS (As := [.int x1, .int z_25, .int 0]) (rest := []) ⟨hx, hb, hml, hown, hts⟩ (m_X6_isTaken l g H.size ws_4 (x1) (z_25) (0) hG ) (va_cwS 3 hts (gd_S kw_1081 kw_1235 kw_1207 kw_1234) rfl rfl rfl (by decide +kernel) ⟨Nat.le_of_ble_eq_true rfl, Nat.le_of_ble_eq_true rfl⟩) ⟨gblind, fun U hU hW9 => gmk hU hW9 hP hK hD hex hE hS hFc⟩ rfl rfl hl.1 rfl (lv_room (Nat.le_of_ble_eq_true rfl)) dX5_isJumpTaken_121 ⟨Nat.le_of_ble_eq_true rfl, Nat.le_of_ble_eq_true rfl⟩) hS (fun q _ h => hFc q h) hFc (fun r_26 u9 t9 H1 locs ht9 hvm9 hw9 hB9 hz9 hk9 hS => ?_)
        have hP : va_P (gD g) cl0 ws_4 H1 := by rw [← ht9]; exact hB9.1
        have hz_r_26 : r_26 = 0 ∨ r_26 = 1 := hw9
        clear hB9 hz9 hk9 hvm9 ht9 hw9
        generalize H1 = H at hP hS ⊢
        refine lv_goto (tgt := 138) hx hb dX5_isJumpTaken_124 (by decide) ?_
        exact J_138 (r_26) ws_4 H locs ls hz_r_26 (gE.rf) (gF.rf) hG hP hD hS (lv_sub hl [] rfl)
    have K_15_80 : W p l e (headSpec (wt yX5_isJumpTaken cX5_isJumpTaken 4 (some .boolean)) ({ frames := 1, cells := 0, slots := 0, locals := 22 })).room s m ([.ref h0, .int x1] : List Value).toArray below meth c H locs (0) (0) (MQ below (va_Qi (fun (r : Int32) (u9 : va_W) => r = 0 ∨ r = 1) (gQ1 g [(5, 14), (5, 19)] [] none A ws) A) ([.ref h0, .int x1] : List Value).toArray s (0) (0) A) (F0 m 80 ls []) := by
      refine lv_aload_n hx hb dX5_isJumpTaken_80 rfl (lv_at hl 1 rfl) ?_
      have hFc := gfree hD hS hA
      obtain ⟨k_27, fs_27, hk_27⟩ := gC_of o_h0
      refine va_calll (va_runV (As := []) (rest := []) ⟨hx, hb, hml, hown, hts⟩ (m_X5_pop l g H.size ws_4 h0 hG o_h0) (cwV 0 hts (gd_V kw_1080 kw_1124 kw_1125 kw_398 kw_1123) rfl rfl rfl (by decide +kernel) ⟨Nat.le_of_ble_eq_true rfl, Nat.le_of_ble_eq_true rfl⟩) ⟨gblind, va_recv hK hP (ci := 5) (q0 := k_27) rfl hk_27, fun U hU hW9 => gmk hU hW9 hP hK hD hex hE hS hFc⟩ rfl rfl hl.1 rfl (lv_room (Nat.le_of_ble_eq_true rfl)) dX5_isJumpTaken_81 ⟨Nat.le_of_ble_eq_true rfl, Nat.le_of_ble_eq_true rfl⟩) hS (fun q _ h => hFc q h) hFc (fun r_28 ws_29 t9 H1 locs ht9 hvm9 hw9 hB9 hz9 hk9 hS => ?_)
      obtain ⟨E_30, Fr_31, hG, hP1, hD1⟩ := hB9
      have hP : va_P (gD g) cl0 ws_29 H1 := by rw [← ht9]; exact hP1
      have hD : va_D A ws_29 := hD1.weaken (fun _ _ _ h => hFc _ h)
      clear hP1 hD1 hz9 hk9 hvm9 ht9 hw9
      generalize H1 = H at hP hS ⊢
      have o_h0 := E_30.1 _ _ o_h0
      refine lv_lload_n hx hb dX5_isJumpTaken_84 rfl (lv_at hl 0 rfl) ?_
      refine W.lcmp hx hb dX5_isJumpTaken_85 ?_
      refine lv_topi (fun z_34 ez_34 => ?_)
      have J_94 : ∀ (t_35 : Int32) (H : Heap) (locs : List Loc) (ls : Array Slot), t_35 = 0 ∨ t_35 = 1 → va_P (gD g) cl0 ws_29 H → va_D A ws_29 → va_S A s.heap H locs → lv_has ls 4 [] → W p l e (headSpec (wt yX5_isJumpTaken cX5_isJumpTaken 4 (some .boolean)) ({ frames := 1, cells := 0, slots := 0, locals := 22 })).room s m ([.ref h0, .int x1] : List Value).toArray below meth c H locs (0) (0) (MQ below (va_Qi (fun (r : Int32) (u9 : va_W) => r = 0 ∨ r = 1) (gQ1 g [(5, 14), (5, 19)] [] none A ws) A) ([.ref h0, .int x1] : List Value).toArray s (0) (0) A) (F0 m 94 ls [.int t_35]) := by
        intro t_35 H locs ls iv_36 hP hD hS hl
        have hz_t_35 := iv_36
        refine W.widen (k := 0) (n := 0) (Nat.le_of_ble_eq_true rfl) (Nat.le_of_ble_eq_true rfl) ?_
        exact W.zret (v := t_35) hx hb hr (nz hz_t_35) (fun t9 ht9 hW9 => ⟨⟨_, ws_29, rfl, hz_t_35, ⟨(E_5.tr E_30), (gF.tr Fr_6 Fr_31), hG, by rw [ht9]; exact hP, hD⟩⟩, hS.F ht9⟩) hS.2.2 dX5_isJumpTaken_94
      refine lv_if_ne (tgt := 93) hx hb dX5_isJumpTaken_86 (by decide) (fun c_39 => ?_) (fun c_39 => ?_)
      · refine lv_iconst (v := 0) hx hb dX5_isJumpTaken_93 (by decide) ?_
        exact J_94 (0) H locs ls (Or.inl rfl) hP hD hS (lv_sub hl [] rfl)
      · refine lv_iconst (v := 1) hx hb dX5_isJumpTaken_89 (by decide) ?_
        refine lv_goto (tgt := 94) hx hb dX5_isJumpTaken_90 (by decide) ?_
        exact J_94 (1) H locs ls (Or.inr rfl) hP hD hS (lv_sub hl [] rfl)
    have K_15_95 : W p l e (headSpec (wt yX5_isJumpTaken cX5_isJumpTaken 4 (some .boolean)) ({ frames := 1, cells := 0, slots := 0, locals := 22 })).room s m ([.ref h0, .int x1] : List Value).toArray below meth c H locs (0) (0) (MQ below (va_Qi (fun (r : Int32) (u9 : va_W) => r = 0 ∨ r = 1) (gQ1 g [(5, 14), (5, 19)] [] none A ws) A) ([.ref h0, .int x1] : List Value).toArray s (0) (0) A) (F0 m 95 ls []) := by
      refine lv_aload_n hx hb dX5_isJumpTaken_95 rfl (lv_at hl 1 rfl) ?_
      have hFc := gfree hD hS hA
      obtain ⟨k_40, fs_40, hk_40⟩ := gC_of o_h0
      refine va_calll (va_runV (As := []) (rest := []) ⟨hx, hb, hml, hown, hts⟩ (m_X5_pop l g H.size ws_4 h0 hG o_h0) (cwV 0 hts (gd_V kw_1080 kw_1124 kw_1125 kw_398 kw_1123) rfl rfl rfl (by decide +kernel) ⟨Nat.le_of_ble_eq_true rfl, Nat.le_of_ble_eq_true rfl⟩) ⟨gblind, va_recv hK hP (ci := 5) (q0 := k_40) rfl hk_40, fun U hU hW9 => gmk hU hW9 hP hK hD hex hE hS hFc⟩ rfl rfl hl.1 rfl (lv_room (Nat.le_of_ble_eq_true rfl)) dX5_isJumpTaken_96 ⟨Nat.le_of_ble_eq_true rfl, Nat.le_of_ble_eq_true rfl⟩) hS (fun q _ h => hFc q h) hFc (fun r_41 ws_42 t9 H1 locs ht9 hvm9 hw9 hB9 hz9 hk9 hS => ?_)
      obtain ⟨E_43, Fr_44, hG, hP1, hD1⟩ := hB9
      have hP : va_P (gD g) cl0 ws_42 H1 := by rw [← ht9]; exact hP1
      have hD : va_D A ws_42 := hD1.weaken (fun _ _ _ h => hFc _ h)
      clear hP1 hD1 hz9 hk9 hvm9 ht9 hw9
      generalize H1 = H at hP hS ⊢
      have o_h0 := E_43.1 _ _ o_h0
      refine lv_lload_n hx hb dX5_isJumpTaken_99 rfl (lv_at hl 0 rfl) ?_
      refine W.lcmp hx hb dX5_isJumpTaken_100 ?_
      refine lv_topi (fun z_47 ez_47 => ?_)
      have J_109 : ∀ (t_48 : Int32) (H : Heap) (locs : List Loc) (ls : Array Slot), t_48 = 0 ∨ t_48 = 1 → va_P (gD g) cl0 ws_42 H → va_D A ws_42 → va_S A s.heap H locs → lv_has ls 4 [] → W p l e (headSpec (wt yX5_isJumpTaken cX5_isJumpTaken 4 (some .boolean)) ({ frames := 1, cells := 0, slots := 0, locals := 22 })).room s m ([.ref h0, .int x1] : List Value).toArray below meth c H locs (0) (0) (MQ below (va_Qi (fun (r : Int32) (u9 : va_W) => r = 0 ∨ r = 1) (gQ1 g [(5, 14), (5, 19)] [] none A ws) A) ([.ref h0, .int x1] : List Value).toArray s (0) (0) A) (F0 m 109 ls [.int t_48]) := by
        intro t_48 H locs ls iv_49 hP hD hS hl
        have hz_t_48 := iv_49
        refine W.widen (k := 0) (n := 0) (Nat.le_of_ble_eq_true rfl) (Nat.le_of_ble_eq_true rfl) ?_
        exact W.zret (v := t_48) hx hb hr (nz hz_t_48) (fun t9 ht9 hW9 => ⟨⟨_, ws_42, rfl, hz_t_48, ⟨(E_5.tr E_43), (gF.tr Fr_6 Fr_44), hG, by rw [ht9]; exact hP, hD⟩⟩, hS.F ht9⟩) hS.2.2 dX5_isJumpTaken_109
      refine lv_if_eq (tgt := 108) hx hb dX5_isJumpTaken_101 (by decide) (fun c_52 => ?_) (fun c_52 => ?_)
      · refine lv_iconst (v := 0) hx hb dX5_isJumpTaken_108 (by decide) ?_
        exact J_109 (0) H locs ls (Or.inl rfl) hP hD hS (lv_sub hl [] rfl)
      · refine lv_iconst (v := 1) hx hb dX5_isJumpTaken_104 (by decide) ?_
        refine lv_goto (tgt := 109) hx hb dX5_isJumpTaken_105 (by decide) ?_
        exact J_109 (1) H locs ls (Or.inr rfl) hP hD hS (lv_sub hl [] rfl)
    have K_15_56 : W p l e (headSpec (wt yX5_isJumpTaken cX5_isJumpTaken 4 (some .boolean)) ({ frames := 1, cells := 0, slots := 0, locals := 22 })).room s m ([.ref h0, .int x1] : List Value).toArray below meth c H locs (0) (0) (MQ below (va_Qi (fun (r : Int32) (u9 : va_W) => r = 0 ∨ r = 1) (gQ1 g [(5, 14), (5, 19)] [] none A ws) A) ([.ref h0, .int x1] : List Value).toArray s (0) (0) A) (F0 m 56 ls []) := by
      refine lv_lload_n hx hb dX5_isJumpTaken_56 rfl (lv_at hl 0 rfl) ?_
      refine lv_lconst (v := 0) hx hb dX5_isJumpTaken_57 (by decide) ?_
      refine W.lcmp hx hb dX5_isJumpTaken_58 ?_
      refine lv_topi (fun z_53 ez_53 => ?_)
      have J_67 : ∀ (t_54 : Int32) (H : Heap) (locs : List Loc) (ls : Array Slot), t_54 = 0 ∨ t_54 = 1 → va_P (gD g) cl0 ws_4 H → va_D A ws_4 → va_S A s.heap H locs → lv_has ls 4 [] → W p l e (headSpec (wt yX5_isJumpTaken cX5_isJumpTaken 4 (some .boolean)) ({ frames := 1, cells := 0, slots := 0, locals := 22 })).room s m ([.ref h0, .int x1] : List Value).toArray below meth c H locs (0) (0) (MQ below (va_Qi (fun (r : Int32) (u9 : va_W) => r = 0 ∨ r = 1) (gQ1 g [(5, 14), (5, 19)] [] none A ws) A) ([.ref h0, .int x1] : List Value).toArray s (0) (0) A) (F0 m 67 ls [.int t_54]) := by
        intro t_54 H locs ls iv_55 hP hD hS hl
        have hz_t_54 := iv_55
        refine W.widen (k := 0) (n := 0) (Nat.le_of_ble_eq_true rfl) (Nat.le_of_ble_eq_true rfl) ?_
        exact W.zret (v := t_54) hx hb hr (nz hz_t_54) (fun t9 ht9 hW9 => ⟨⟨_, ws_4, rfl, hz_t_54, ⟨E_5, Fr_6, hG, by rw [ht9]; exact hP, hD⟩⟩, hS.F ht9⟩) hS.2.2 dX5_isJumpTaken_67
      refine lv_if_ne (tgt := 66) hx hb dX5_isJumpTaken_59 (by decide) (fun c_58 => ?_) (fun c_58 => ?_)
      · refine lv_iconst (v := 0) hx hb dX5_isJumpTaken_66 (by decide) ?_
        exact J_67 (0) H locs ls (Or.inl rfl) hP hD hS (lv_sub hl [] rfl)
      · refine lv_iconst (v := 1) hx hb dX5_isJumpTaken_62 (by decide) ?_
        refine lv_goto (tgt := 67) hx hb dX5_isJumpTaken_63 (by decide) ?_
        exact J_67 (1) H locs ls (Or.inr rfl) hP hD hS (lv_sub hl [] rfl)
    have K_15_68 : W p l e (headSpec (wt yX5_isJumpTaken cX5_isJumpTaken 4 (some .boolean)) ({ frames := 1, cells := 0, slots := 0, locals := 22 })).room s m ([.ref h0, .int x1] : List Value).toArray below meth c H locs (0) (0) (MQ below (va_Qi (fun (r : Int32) (u9 : va_W) => r = 0 ∨ r = 1) (gQ1 g [(5, 14), (5, 19)] [] none A ws) A) ([.ref h0, .int x1] : List Value).toArray s (0) (0) A) (F0 m 68 ls []) := by
      refine lv_lload_n hx hb dX5_isJumpTaken_68 rfl (lv_at hl 0 rfl) ?_
      refine lv_lconst (v := 0) hx hb dX5_isJumpTaken_69 (by decide) ?_
      refine W.lcmp hx hb dX5_isJumpTaken_70 ?_
      refine lv_topi (fun z_59 ez_59 => ?_)
      have J_79 : ∀ (t_60 : Int32) (H : Heap) (locs : List Loc) (ls : Array Slot), t_60 = 0 ∨ t_60 = 1 → va_P (gD g) cl0 ws_4 H → va_D A ws_4 → va_S A s.heap H locs → lv_has ls 4 [] → W p l e (headSpec (wt yX5_isJumpTaken cX5_isJumpTaken 4 (some .boolean)) ({ frames := 1, cells := 0, slots := 0, locals := 22 })).room s m ([.ref h0, .int x1] : List Value).toArray below meth c H locs (0) (0) (MQ below (va_Qi (fun (r : Int32) (u9 : va_W) => r = 0 ∨ r = 1) (gQ1 g [(5, 14), (5, 19)] [] none A ws) A) ([.ref h0, .int x1] : List Value).toArray s (0) (0) A) (F0 m 79 ls [.int t_60]) := by
        intro t_60 H locs ls iv_61 hP hD hS hl
        have hz_t_60 := iv_61
        refine W.widen (k := 0) (n := 0) (Nat.le_of_ble_eq_true rfl) (Nat.le_of_ble_eq_true rfl) ?_
        exact W.zret (v := t_60) hx hb hr (nz hz_t_60) (fun t9 ht9 hW9 => ⟨⟨_, ws_4, rfl, hz_t_60, ⟨E_5, Fr_6, hG, by rw [ht9]; exact hP, hD⟩⟩, hS.F ht9⟩) hS.2.2 dX5_isJumpTaken_79
      refine lv_if_eq (tgt := 78) hx hb dX5_isJumpTaken_71 (by decide) (fun c_64 => ?_) (fun c_64 => ?_)
      · refine lv_iconst (v := 0) hx hb dX5_isJumpTaken_78 (by decide) ?_
        exact J_79 (0) H locs ls (Or.inl rfl) hP hD hS (lv_sub hl [] rfl)
      · refine lv_iconst (v := 1) hx hb dX5_isJumpTaken_74 (by decide) ?_
        refine lv_goto (tgt := 79) hx hb dX5_isJumpTaken_75 (by decide) ?_
        exact J_79 (1) H locs ls (Or.inr rfl) hP hD hS (lv_sub hl [] rfl)
    by_cases c9_165 : (x1 : Int32).toInt = 165
    · exact lv_lookup (off := 65) (tgt := 80) hx hb dX5_isJumpTaken_15 (by decide) (by rw [c9_165]; decide) (by decide) K_15_80
    by_cases c9_166 : (x1 : Int32).toInt = 166
    · exact lv_lookup (off := 80) (tgt := 95) hx hb dX5_isJumpTaken_15 (by decide) (by rw [c9_166]; decide) (by decide) K_15_95
    by_cases c9_198 : (x1 : Int32).toInt = 198
    · exact lv_lookup (off := 41) (tgt := 56) hx hb dX5_isJumpTaken_15 (by decide) (by rw [c9_198]; decide) (by decide) K_15_56
    by_cases c9_199 : (x1 : Int32).toInt = 199
    · exact lv_lookup (off := 53) (tgt := 68) hx hb dX5_isJumpTaken_15 (by decide) (by rw [c9_199]; decide) (by decide) K_15_68
    exact lv_lookup (off := 95) (tgt := 110) hx hb dX5_isJumpTaken_15 (by decide) (lk_cons c9_165 (lk_cons c9_166 (lk_cons c9_198 (lk_cons c9_199 lk_nil)))) (by decide) K_15_110
  · refine lv_iconst (v := 1) hx hb dX5_isJumpTaken_7 (by decide) ?_
    refine W.widen (k := 0) (n := 0) (Nat.le_of_ble_eq_true rfl) (Nat.le_of_ble_eq_true rfl) ?_
    exact W.zret (v := 1) hx hb hr (nz (Or.inr rfl)) (fun t9 ht9 hW9 => ⟨⟨_, ws, rfl, (Or.inr rfl), ⟨gE.rf, gF.rf, hG, by rw [ht9]; exact hP, hD⟩⟩, hS.F ht9⟩) hS.2.2 dX5_isJumpTaken_8
set_option maxHeartbeats 1000000 in
set_option maxRecDepth 100000 in
theorem m_X5_shuffle (l : Launch) (g : Gm) (sz : Nat) (ws : va_W) (h0 : Nat) (x1 : Int32) (hG : Good g ws) (o_h0 : gC ws h0 5) : Met l yX5_shuffle (wt yX5_shuffle cX5_shuffle 6 none) ({ frames := 1, cells := 0, slots := 0, locals := 23 }) (va_Pc [.ref h0, .int x1] (st_G g sz ws)) (va_Qv (fun (u9 : va_W) => True) (gQ1 g [(5, 14), (5, 19)] [(5, 9)] none (va_A ws sz) ws) (va_A ws sz)) (0) (0) (va_A ws sz) := by
  refine Met.ofW (cc := cX5_shuffle) (maxL := 6) (ret := none) (by decide) rfl ?_
  intro p e s m args below meth c s₁ B hml hv
  obtain ⟨rfl, hsz, hP, hK, hD0, hex, hE⟩ := hv
  have hx := B.exec
  have hb := B.bytes
  have hr := B.returns
  have hts0 := atoms_spec (ws := wt yX5_shuffle cX5_shuffle 6 none) B.pre
  have hts : ∀ w ∈ tb, w.before _ s = true := fun w h => hts0 w (List.mem_cons_of_mem _ h)
  have hown : s.vm.findClass RX5 = some m.cls := findClass_of_methodNamed B.named
  subst hsz
  have hD := hD0.self (sz := s.heap.size)
  generalize hAe : va_A ws s.heap.size = A at hD hE ⊢
  have hA : ∀ q : Nat, s.heap.size ≤ q → A q := fun q h => by rw [← hAe]; exact Or.inr h
  have hS : va_S A s.heap s.heap [] := va_S.rf
  have hl := lv_entry ([.ref h0, .int x1]) (n := 6) (Nat.le_of_ble_eq_true rfl)
  rw [lg_entry_eq]
  generalize (lg_sl ([.ref h0, .int x1]) ++ List.replicate (6 - (lg_sl ([.ref h0, .int x1])).length) Slot.unset).toArray = ls at hl ⊢
  have hl : lv_has ls 6 [(0, .ref h0), (1, .int x1)] := hl
  refine lv_aload_n hx hb dX5_shuffle_0 rfl (lv_at hl 0 rfl) ?_
  have hFc := gfree hD hS hA
  obtain ⟨k_1, fs_1, hk_1⟩ := gC_of o_h0
  refine va_calll (va_runV (As := []) (rest := []) ⟨hx, hb, hml, hown, hts⟩ (m_X5_pop l g s.heap.size ws h0 hG o_h0) (cwV 0 hts (gd_V kw_1080 kw_1124 kw_1125 kw_398 kw_1123) rfl rfl rfl (by decide +kernel) ⟨Nat.le_of_ble_eq_true rfl, Nat.le_of_ble_eq_true rfl⟩) ⟨gblind, va_recv hK hP (ci := 5) (q0 := k_1) rfl hk_1, fun U hU hW9 => gmk hU hW9 hP hK hD hex hE hS hFc⟩ rfl rfl hl.1 rfl (lv_room (Nat.le_of_ble_eq_true rfl)) dX5_shuffle_1 ⟨Nat.le_of_ble_eq_true rfl, Nat.le_of_ble_eq_true rfl⟩) hS (fun q _ h => hFc q h) hFc (fun r_2 ws_3 t9 H1 locs ht9 hvm9 hw9 hB9 hz9 hk9 hS => ?_)
  obtain ⟨E_4, Fr_5, hG, hP1, hD1⟩ := hB9
  have hP : va_P (gD g) cl0 ws_3 H1 := by rw [← ht9]; exact hP1
  have hD : va_D A ws_3 := hD1.weaken (fun _ _ _ h => hFc _ h)
  clear hP1 hD1 hz9 hk9 hvm9 ht9 hw9
  generalize H1 = H at hP hS ⊢
  have o_h0 := E_4.1 _ _ o_h0
  refine lv_lstore_n (lv' := [(2, .long r_2), (0, .ref h0), (1, .int x1)]) hx hb dX5_shuffle_4 rfl hl (by decide) rfl (fun ls hl => ?_)
  refine lv_iload_n hx hb dX5_shuffle_5 rfl (lv_at hl 2 rfl) ?_
  refine lv_bipush (v := 87) hx hb dX5_shuffle_6 (by decide) ?_
  have J_25 : ∀ (t_8 : Int64) (ws_9 : va_W) (H : Heap) (locs : List Loc) (ls : Array Slot), gE ws_3 ws_9 → gF [(5, 14), (5, 19)] [] none ws_3 ws_9 → Good g ws_9 → va_P (gD g) cl0 ws_9 H → va_D A ws_9 → va_S A s.heap H locs → lv_has ls 6 [(0, .ref h0), (1, .int x1), (2, .long r_2)] → W p l e (headSpec (wt yX5_shuffle cX5_shuffle 6 none) ({ frames := 1, cells := 0, slots := 0, locals := 23 })).room s m ([.ref h0, .int x1] : List Value).toArray below meth c H locs (0) (0) (MQ below (va_Qv (fun (u9 : va_W) => True) (gQ1 g [(5, 14), (5, 19)] [(5, 9)] none A ws) A) ([.ref h0, .int x1] : List Value).toArray s (0) (0) A) (F0 m 25 ls [.long t_8]) := by
    intro t_8 ws_9 H locs ls  E_10 Fr_11 hG hP hD hS hl
    have o_h0 := E_10.1 _ _ o_h0
    refine lv_lstore (lv' := [(4, .long t_8), (0, .ref h0), (1, .int x1), (2, .long r_2)]) hx hb dX5_shuffle_25 hl (by decide) rfl (fun ls hl => ?_)
    refine lv_iload_n hx hb dX5_shuffle_27 rfl (lv_at hl 2 rfl) ?_
    have J_143 : ∀ (ws_12 : va_W) (H : Heap) (locs : List Loc) (ls : Array Slot), gE ws_9 ws_12 → gF [(5, 14), (5, 19)] [(5, 9)] none ws_9 ws_12 → Good g ws_12 → va_P (gD g) cl0 ws_12 H → va_D A ws_12 → va_S A s.heap H locs → lv_has ls 6 [] → W p l e (headSpec (wt yX5_shuffle cX5_shuffle 6 none) ({ frames := 1, cells := 0, slots := 0, locals := 23 })).room s m ([.ref h0, .int x1] : List Value).toArray below meth c H locs (0) (0) (MQ below (va_Qv (fun (u9 : va_W) => True) (gQ1 g [(5, 14), (5, 19)] [(5, 9)] none A ws) A) ([.ref h0, .int x1] : List Value).toArray s (0) (0) A) (F0 m 143 ls []) := by
      intro ws_12 H locs ls  E_13 Fr_14 hG hP hD hS hl
      have o_h0 := E_13.1 _ _ o_h0
      refine W.widen (k := 0) (n := 0) (Nat.le_of_ble_eq_true rfl) (Nat.le_of_ble_eq_true rfl) ?_
      exact W.vret hx hb hr (fun t9 ht9 hW9 => ⟨⟨ws_12, rfl, trivial, ⟨(E_4.tr (E_10.tr E_13)), (gF.tr (gF.mo (F' := [(5, 14), (5, 19)]) (C' := [(5, 9)]) (S' := none) Fr_5 (fun _ h => h) (fun _ h => absurd h List.not_mem_nil) (Or.inr rfl)) (gF.tr (gF.mo (F' := [(5, 14), (5, 19)]) (C' := [(5, 9)]) (S' := none) Fr_11 (fun _ h => h) (fun _ h => absurd h List.not_mem_nil) (Or.inr rfl)) Fr_14)), hG, by rw [ht9]; exact hP, hD⟩⟩, hS.F ht9⟩) hS.2.2 dX5_shuffle_143
    have K_28_143 : W p l e (headSpec (wt yX5_shuffle cX5_shuffle 6 none) ({ frames := 1, cells := 0, slots := 0, locals := 23 })).room s m ([.ref h0, .int x1] : List Value).toArray below meth c H locs (0) (0) (MQ below (va_Qv (fun (u9 : va_W) => True) (gQ1 g [(5, 14), (5, 19)] [(5, 9)] none A ws) A) ([.ref h0, .int x1] : List Value).toArray s (0) (0) A) (F0 m 143 ls []) := by
      exact J_143 ws_9 H locs ls (gE.rf) (gF.rf) hG hP hD hS (lv_sub hl [] rfl)
    have K_28_72 : W p l e (headSpec (wt yX5_shuffle cX5_shuffle 6 none) ({ frames := 1, cells := 0, slots := 0, locals := 23 })).room s m ([.ref h0, .int x1] : List Value).toArray below meth c H locs (0) (0) (MQ below (va_Qv (fun (u9 : va_W) => True) (gQ1 g [(5, 14), (5, 19)] [(5, 9)] none A ws) A) ([.ref h0, .int x1] : List Value).toArray s (0) (0) A) (F0 m 72 ls []) := by
      refine lv_aload_n hx hb dX5_shuffle_72 rfl (lv_at hl 1 rfl) ?_
      refine lv_lload_n hx hb dX5_shuffle_73 rfl (lv_at hl 3 rfl) ?_
      have hFc := gfree hD hS hA
      obtain ⟨k_15, fs_15, hk_15⟩ := gC_of o_h0
      refine va_callv (va_runV (As := [.long r_2]) (rest := []) ⟨hx, hb, hml, hown, hts⟩ (m_X5_push l g H.size ws_9 h0 (r_2) hG o_h0) (cwV 1 hts (gd_V kw_1099 kw_1130 kw_1131 kw_398 kw_1129) rfl rfl rfl (by decide +kernel) ⟨Nat.le_of_ble_eq_true rfl, Nat.le_of_ble_eq_true rfl⟩) ⟨gblind, va_recv hK hP (ci := 5) (q0 := k_15) rfl hk_15, fun U hU hW9 => gmk hU hW9 hP hK hD hex hE hS hFc⟩ rfl rfl hl.1 rfl (lv_room (Nat.le_of_ble_eq_true rfl)) dX5_shuffle_74 ⟨Nat.le_of_ble_eq_true rfl, Nat.le_of_ble_eq_true rfl⟩) hS (fun q _ h => hFc q h) hFc (fun  ws_16 t9 H1 locs ht9 hvm9 hw9 hB9 hz9 hk9 hS => ?_)
      obtain ⟨E_17, Fr_18, hG, hP1, hD1⟩ := hB9
      have hP : va_P (gD g) cl0 ws_16 H1 := by rw [← ht9]; exact hP1
      have hD : va_D A ws_16 := hD1.weaken (fun _ _ _ h => hFc _ h)
      clear hP1 hD1 hz9 hk9 hvm9 ht9 hw9
      generalize H1 = H at hP hS ⊢
      have o_h0 := E_17.1 _ _ o_h0
      refine lv_aload_n hx hb dX5_shuffle_77 rfl (lv_at hl 1 rfl) ?_
      refine lv_lload_n hx hb dX5_shuffle_78 rfl (lv_at hl 3 rfl) ?_
      have hFc := gfree hD hS hA
      obtain ⟨k_21, fs_21, hk_21⟩ := gC_of o_h0
      refine va_callv (va_runV (As := [.long r_2]) (rest := []) ⟨hx, hb, hml, hown, hts⟩ (m_X5_push l g H.size ws_16 h0 (r_2) hG o_h0) (cwV 1 hts (gd_V kw_1099 kw_1130 kw_1131 kw_398 kw_1129) rfl rfl rfl (by decide +kernel) ⟨Nat.le_of_ble_eq_true rfl, Nat.le_of_ble_eq_true rfl⟩) ⟨gblind, va_recv hK hP (ci := 5) (q0 := k_21) rfl hk_21, fun U hU hW9 => gmk hU hW9 hP hK hD hex hE hS hFc⟩ rfl rfl hl.1 rfl (lv_room (Nat.le_of_ble_eq_true rfl)) dX5_shuffle_79 ⟨Nat.le_of_ble_eq_true rfl, Nat.le_of_ble_eq_true rfl⟩) hS (fun q _ h => hFc q h) hFc (fun  ws_22 t9 H1 locs ht9 hvm9 hw9 hB9 hz9 hk9 hS => ?_)
      obtain ⟨E_23, Fr_24, hG, hP1, hD1⟩ := hB9
      have hP : va_P (gD g) cl0 ws_22 H1 := by rw [← ht9]; exact hP1
      have hD : va_D A ws_22 := hD1.weaken (fun _ _ _ h => hFc _ h)
      clear hP1 hD1 hz9 hk9 hvm9 ht9 hw9
      generalize H1 = H at hP hS ⊢
      have o_h0 := E_23.1 _ _ o_h0
      refine lv_goto (tgt := 143) hx hb dX5_shuffle_82 (by decide) ?_
      exact J_143 ws_22 H locs ls ((E_17.tr E_23)) ((gF.tr Fr_18 Fr_24)) hG hP hD hS (lv_sub hl [] rfl)
    have K_28_85 : W p l e (headSpec (wt yX5_shuffle cX5_shuffle 6 none) ({ frames := 1, cells := 0, slots := 0, locals := 23 })).room s m ([.ref h0, .int x1] : List Value).toArray below meth c H locs (0) (0) (MQ below (va_Qv (fun (u9 : va_W) => True) (gQ1 g [(5, 14), (5, 19)] [(5, 9)] none A ws) A) ([.ref h0, .int x1] : List Value).toArray s (0) (0) A) (F0 m 85 ls []) := by
      refine lv_aload_n hx hb dX5_shuffle_85 rfl (lv_at hl 1 rfl) ?_
      refine lv_lload_n hx hb dX5_shuffle_86 rfl (lv_at hl 3 rfl) ?_
      have hFc := gfree hD hS hA
      obtain ⟨k_27, fs_27, hk_27⟩ := gC_of o_h0
      refine va_callv (va_runV (As := [.long r_2]) (rest := []) ⟨hx, hb, hml, hown, hts⟩ (m_X5_push l g H.size ws_9 h0 (r_2) hG o_h0) (cwV 1 hts (gd_V kw_1099 kw_1130 kw_1131 kw_398 kw_1129) rfl rfl rfl (by decide +kernel) ⟨Nat.le_of_ble_eq_true rfl, Nat.le_of_ble_eq_true rfl⟩) ⟨gblind, va_recv hK hP (ci := 5) (q0 := k_27) rfl hk_27, fun U hU hW9 => gmk hU hW9 hP hK hD hex hE hS hFc⟩ rfl rfl hl.1 rfl (lv_room (Nat.le_of_ble_eq_true rfl)) dX5_shuffle_87 ⟨Nat.le_of_ble_eq_true rfl, Nat.le_of_ble_eq_true rfl⟩) hS (fun q _ h => hFc q h) hFc (fun  ws_28 t9 H1 locs ht9 hvm9 hw9 hB9 hz9 hk9 hS => ?_)
      obtain ⟨E_29, Fr_30, hG, hP1, hD1⟩ := hB9
      have hP : va_P (gD g) cl0 ws_28 H1 := by rw [← ht9]; exact hP1
      have hD : va_D A ws_28 := hD1.weaken (fun _ _ _ h => hFc _ h)
      clear hP1 hD1 hz9 hk9 hvm9 ht9 hw9
      generalize H1 = H at hP hS ⊢
      have o_h0 := E_29.1 _ _ o_h0
      refine lv_aload_n hx hb dX5_shuffle_90 rfl (lv_at hl 1 rfl) ?_
      refine lv_lload hx hb dX5_shuffle_91 (lv_at hl 0 rfl) ?_
      have hFc := gfree hD hS hA
      obtain ⟨k_33, fs_33, hk_33⟩ := gC_of o_h0
      refine va_callv (va_runV (As := [.long t_8]) (rest := []) ⟨hx, hb, hml, hown, hts⟩ (m_X5_push l g H.size ws_28 h0 (t_8) hG o_h0) (cwV 1 hts (gd_V kw_1099 kw_1130 kw_1131 kw_398 kw_1129) rfl rfl rfl (by decide +kernel) ⟨Nat.le_of_ble_eq_true rfl, Nat.le_of_ble_eq_true rfl⟩) ⟨gblind, va_recv hK hP (ci := 5) (q0 := k_33) rfl hk_33, fun U hU hW9 => gmk hU hW9 hP hK hD hex hE hS hFc⟩ rfl rfl hl.1 rfl (lv_room (Nat.le_of_ble_eq_true rfl)) dX5_shuffle_93 ⟨Nat.le_of_ble_eq_true rfl, Nat.le_of_ble_eq_true rfl⟩) hS (fun q _ h => hFc q h) hFc (fun  ws_34 t9 H1 locs ht9 hvm9 hw9 hB9 hz9 hk9 hS => ?_)
      obtain ⟨E_35, Fr_36, hG, hP1, hD1⟩ := hB9
      have hP : va_P (gD g) cl0 ws_34 H1 := by rw [← ht9]; exact hP1
      have hD : va_D A ws_34 := hD1.weaken (fun _ _ _ h => hFc _ h)
      clear hP1 hD1 hz9 hk9 hvm9 ht9 hw9
      generalize H1 = H at hP hS ⊢
      have o_h0 := E_35.1 _ _ o_h0
      refine lv_aload_n hx hb dX5_shuffle_96 rfl (lv_at hl 1 rfl) ?_
      refine lv_lload_n hx hb dX5_shuffle_97 rfl (lv_at hl 3 rfl) ?_
      have hFc := gfree hD hS hA
      obtain ⟨k_39, fs_39, hk_39⟩ := gC_of o_h0
      refine va_callv (va_runV (As := [.long r_2]) (rest := []) ⟨hx, hb, hml, hown, hts⟩ (m_X5_push l g H.size ws_34 h0 (r_2) hG o_h0) (cwV 1 hts (gd_V kw_1099 kw_1130 kw_1131 kw_398 kw_1129) rfl rfl rfl (by decide +kernel) ⟨Nat.le_of_ble_eq_true rfl, Nat.le_of_ble_eq_true rfl⟩) ⟨gblind, va_recv hK hP (ci := 5) (q0 := k_39) rfl hk_39, fun U hU hW9 => gmk hU hW9 hP hK hD hex hE hS hFc⟩ rfl rfl hl.1 rfl (lv_room (Nat.le_of_ble_eq_true rfl)) dX5_shuffle_98 ⟨Nat.le_of_ble_eq_true rfl, Nat.le_of_ble_eq_true rfl⟩) hS (fun q _ h => hFc q h) hFc (fun  ws_40 t9 H1 locs ht9 hvm9 hw9 hB9 hz9 hk9 hS => ?_)
      obtain ⟨E_41, Fr_42, hG, hP1, hD1⟩ := hB9
      have hP : va_P (gD g) cl0 ws_40 H1 := by rw [← ht9]; exact hP1
      have hD : va_D A ws_40 := hD1.weaken (fun _ _ _ h => hFc _ h)
      clear hP1 hD1 hz9 hk9 hvm9 ht9 hw9
      generalize H1 = H at hP hS ⊢
      have o_h0 := E_41.1 _ _ o_h0
      refine lv_goto (tgt := 143) hx hb dX5_shuffle_101 (by decide) ?_
      exact J_143 ws_40 H locs ls ((E_29.tr (E_35.tr E_41))) ((gF.tr Fr_30 (gF.tr Fr_36 Fr_42))) hG hP hD hS (lv_sub hl [] rfl)
    have K_28_104 : W p l e (headSpec (wt yX5_shuffle cX5_shuffle 6 none) ({ frames := 1, cells := 0, slots := 0, locals := 23 })).room s m ([.ref h0, .int x1] : List Value).toArray below meth c H locs (0) (0) (MQ below (va_Qv (fun (u9 : va_W) => True) (gQ1 g [(5, 14), (5, 19)] [(5, 9)] none A ws) A) ([.ref h0, .int x1] : List Value).toArray s (0) (0) A) (F0 m 104 ls []) := by
      refine lv_aload_n hx hb dX5_shuffle_104 rfl (lv_at hl 1 rfl) ?_
      refine lv_lload hx hb dX5_shuffle_105 (lv_at hl 0 rfl) ?_
      have hFc := gfree hD hS hA
      obtain ⟨k_45, fs_45, hk_45⟩ := gC_of o_h0
      refine va_callv (va_runV (As := [.long t_8]) (rest := []) ⟨hx, hb, hml, hown, hts⟩ (m_X5_push l g H.size ws_9 h0 (t_8) hG o_h0) (cwV 1 hts (gd_V kw_1099 kw_1130 kw_1131 kw_398 kw_1129) rfl rfl rfl (by decide +kernel) ⟨Nat.le_of_ble_eq_true rfl, Nat.le_of_ble_eq_true rfl⟩) ⟨gblind, va_recv hK hP (ci := 5) (q0 := k_45) rfl hk_45, fun U hU hW9 => gmk hU hW9 hP hK hD hex hE hS hFc⟩ rfl rfl hl.1 rfl (lv_room (Nat.le_of_ble_eq_true rfl)) dX5_shuffle_107 ⟨Nat.le_of_ble_eq_true rfl, Nat.le_of_ble_eq_true rfl⟩) hS (fun q _ h => hFc q h) hFc (fun  ws_46 t9 H1 locs ht9 hvm9 hw9 hB9 hz9 hk9 hS => ?_)
      obtain ⟨E_47, Fr_48, hG, hP1, hD1⟩ := hB9
      have hP : va_P (gD g) cl0 ws_46 H1 := by rw [← ht9]; exact hP1
      have hD : va_D A ws_46 := hD1.weaken (fun _ _ _ h => hFc _ h)
      clear hP1 hD1 hz9 hk9 hvm9 ht9 hw9
      generalize H1 = H at hP hS ⊢
      have o_h0 := E_47.1 _ _ o_h0
      refine lv_aload_n hx hb dX5_shuffle_110 rfl (lv_at hl 1 rfl) ?_
      refine lv_lload_n hx hb dX5_shuffle_111 rfl (lv_at hl 3 rfl) ?_
      have hFc := gfree hD hS hA
      obtain ⟨k_51, fs_51, hk_51⟩ := gC_of o_h0
      refine va_callv (va_runV (As := [.long r_2]) (rest := []) ⟨hx, hb, hml, hown, hts⟩ (m_X5_push l g H.size ws_46 h0 (r_2) hG o_h0) (cwV 1 hts (gd_V kw_1099 kw_1130 kw_1131 kw_398 kw_1129) rfl rfl rfl (by decide +kernel) ⟨Nat.le_of_ble_eq_true rfl, Nat.le_of_ble_eq_true rfl⟩) ⟨gblind, va_recv hK hP (ci := 5) (q0 := k_51) rfl hk_51, fun U hU hW9 => gmk hU hW9 hP hK hD hex hE hS hFc⟩ rfl rfl hl.1 rfl (lv_room (Nat.le_of_ble_eq_true rfl)) dX5_shuffle_112 ⟨Nat.le_of_ble_eq_true rfl, Nat.le_of_ble_eq_true rfl⟩) hS (fun q _ h => hFc q h) hFc (fun  ws_52 t9 H1 locs ht9 hvm9 hw9 hB9 hz9 hk9 hS => ?_)
      obtain ⟨E_53, Fr_54, hG, hP1, hD1⟩ := hB9
      have hP : va_P (gD g) cl0 ws_52 H1 := by rw [← ht9]; exact hP1
      have hD : va_D A ws_52 := hD1.weaken (fun _ _ _ h => hFc _ h)
      clear hP1 hD1 hz9 hk9 hvm9 ht9 hw9
      generalize H1 = H at hP hS ⊢
      have o_h0 := E_53.1 _ _ o_h0
      refine lv_aload_n hx hb dX5_shuffle_115 rfl (lv_at hl 1 rfl) ?_
      refine lv_lload hx hb dX5_shuffle_116 (lv_at hl 0 rfl) ?_
      have hFc := gfree hD hS hA
      obtain ⟨k_57, fs_57, hk_57⟩ := gC_of o_h0
      refine va_callv (va_runV (As := [.long t_8]) (rest := []) ⟨hx, hb, hml, hown, hts⟩ (m_X5_push l g H.size ws_52 h0 (t_8) hG o_h0) (cwV 1 hts (gd_V kw_1099 kw_1130 kw_1131 kw_398 kw_1129) rfl rfl rfl (by decide +kernel) ⟨Nat.le_of_ble_eq_true rfl, Nat.le_of_ble_eq_true rfl⟩) ⟨gblind, va_recv hK hP (ci := 5) (q0 := k_57) rfl hk_57, fun U hU hW9 => gmk hU hW9 hP hK hD hex hE hS hFc⟩ rfl rfl hl.1 rfl (lv_room (Nat.le_of_ble_eq_true rfl)) dX5_shuffle_118 ⟨Nat.le_of_ble_eq_true rfl, Nat.le_of_ble_eq_true rfl⟩) hS (fun q _ h => hFc q h) hFc (fun  ws_58 t9 H1 locs ht9 hvm9 hw9 hB9 hz9 hk9 hS => ?_)
      obtain ⟨E_59, Fr_60, hG, hP1, hD1⟩ := hB9
      have hP : va_P (gD g) cl0 ws_58 H1 := by rw [← ht9]; exact hP1
      have hD : va_D A ws_58 := hD1.weaken (fun _ _ _ h => hFc _ h)
      clear hP1 hD1 hz9 hk9 hvm9 ht9 hw9
      generalize H1 = H at hP hS ⊢
      have o_h0 := E_59.1 _ _ o_h0
      refine lv_aload_n hx hb dX5_shuffle_121 rfl (lv_at hl 1 rfl) ?_
      refine lv_lload_n hx hb dX5_shuffle_122 rfl (lv_at hl 3 rfl) ?_
      have hFc := gfree hD hS hA
      obtain ⟨k_63, fs_63, hk_63⟩ := gC_of o_h0
      refine va_callv (va_runV (As := [.long r_2]) (rest := []) ⟨hx, hb, hml, hown, hts⟩ (m_X5_push l g H.size ws_58 h0 (r_2) hG o_h0) (cwV 1 hts (gd_V kw_1099 kw_1130 kw_1131 kw_398 kw_1129) rfl rfl rfl (by decide +kernel) ⟨Nat.le_of_ble_eq_true rfl, Nat.le_of_ble_eq_true rfl⟩) ⟨gblind, va_recv hK hP (ci := 5) (q0 := k_63) rfl hk_63, fun U hU hW9 => gmk hU hW9 hP hK hD hex hE hS hFc⟩ rfl rfl hl.1 rfl (lv_room (Nat.le_of_ble_eq_true rfl)) dX5_shuffle_123 ⟨Nat.le_of_ble_eq_true rfl, Nat.le_of_ble_eq_true rfl⟩) hS (fun q _ h => hFc q h) hFc (fun  ws_64 t9 H1 locs ht9 hvm9 hw9 hB9 hz9 hk9 hS => ?_)
      obtain ⟨E_65, Fr_66, hG, hP1, hD1⟩ := hB9
      have hP : va_P (gD g) cl0 ws_64 H1 := by rw [← ht9]; exact hP1
      have hD : va_D A ws_64 := hD1.weaken (fun _ _ _ h => hFc _ h)
      clear hP1 hD1 hz9 hk9 hvm9 ht9 hw9
      generalize H1 = H at hP hS ⊢
      have o_h0 := E_65.1 _ _ o_h0
      refine lv_goto (tgt := 143) hx hb dX5_shuffle_126 (by decide) ?_
      exact J_143 ws_64 H locs ls ((E_47.tr (E_53.tr (E_59.tr E_65)))) ((gF.tr Fr_48 (gF.tr Fr_54 (gF.tr Fr_60 Fr_66)))) hG hP hD hS (lv_sub hl [] rfl)
    have K_28_129 : W p l e (headSpec (wt yX5_shuffle cX5_shuffle 6 none) ({ frames := 1, cells := 0, slots := 0, locals := 23 })).room s m ([.ref h0, .int x1] : List Value).toArray below meth c H locs (0) (0) (MQ below (va_Qv (fun (u9 : va_W) => True) (gQ1 g [(5, 14), (5, 19)] [(5, 9)] none A ws) A) ([.ref h0, .int x1] : List Value).toArray s (0) (0) A) (F0 m 129 ls []) := by
      refine lv_aload_n hx hb dX5_shuffle_129 rfl (lv_at hl 1 rfl) ?_
      refine lv_lload_n hx hb dX5_shuffle_130 rfl (lv_at hl 3 rfl) ?_
      have hFc := gfree hD hS hA
      obtain ⟨k_69, fs_69, hk_69⟩ := gC_of o_h0
      refine va_callv (va_runV (As := [.long r_2]) (rest := []) ⟨hx, hb, hml, hown, hts⟩ (m_X5_push l g H.size ws_9 h0 (r_2) hG o_h0) (cwV 1 hts (gd_V kw_1099 kw_1130 kw_1131 kw_398 kw_1129) rfl rfl rfl (by decide +kernel) ⟨Nat.le_of_ble_eq_true rfl, Nat.le_of_ble_eq_true rfl⟩) ⟨gblind, va_recv hK hP (ci := 5) (q0 := k_69) rfl hk_69, fun U hU hW9 => gmk hU hW9 hP hK hD hex hE hS hFc⟩ rfl rfl hl.1 rfl (lv_room (Nat.le_of_ble_eq_true rfl)) dX5_shuffle_131 ⟨Nat.le_of_ble_eq_true rfl, Nat.le_of_ble_eq_true rfl⟩) hS (fun q _ h => hFc q h) hFc (fun  ws_70 t9 H1 locs ht9 hvm9 hw9 hB9 hz9 hk9 hS => ?_)
      obtain ⟨E_71, Fr_72, hG, hP1, hD1⟩ := hB9
      have hP : va_P (gD g) cl0 ws_70 H1 := by rw [← ht9]; exact hP1
      have hD : va_D A ws_70 := hD1.weaken (fun _ _ _ h => hFc _ h)
      clear hP1 hD1 hz9 hk9 hvm9 ht9 hw9
      generalize H1 = H at hP hS ⊢
      have o_h0 := E_71.1 _ _ o_h0
      refine lv_aload_n hx hb dX5_shuffle_134 rfl (lv_at hl 1 rfl) ?_
      refine lv_lload hx hb dX5_shuffle_135 (lv_at hl 0 rfl) ?_
      have hFc := gfree hD hS hA
      obtain ⟨k_75, fs_75, hk_75⟩ := gC_of o_h0
      refine va_callv (va_runV (As := [.long t_8]) (rest := []) ⟨hx, hb, hml, hown, hts⟩ (m_X5_push l g H.size ws_70 h0 (t_8) hG o_h0) (cwV 1 hts (gd_V kw_1099 kw_1130 kw_1131 kw_398 kw_1129) rfl rfl rfl (by decide +kernel) ⟨Nat.le_of_ble_eq_true rfl, Nat.le_of_ble_eq_true rfl⟩) ⟨gblind, va_recv hK hP (ci := 5) (q0 := k_75) rfl hk_75, fun U hU hW9 => gmk hU hW9 hP hK hD hex hE hS hFc⟩ rfl rfl hl.1 rfl (lv_room (Nat.le_of_ble_eq_true rfl)) dX5_shuffle_137 ⟨Nat.le_of_ble_eq_true rfl, Nat.le_of_ble_eq_true rfl⟩) hS (fun q _ h => hFc q h) hFc (fun  ws_76 t9 H1 locs ht9 hvm9 hw9 hB9 hz9 hk9 hS => ?_)
      obtain ⟨E_77, Fr_78, hG, hP1, hD1⟩ := hB9
      have hP : va_P (gD g) cl0 ws_76 H1 := by rw [← ht9]; exact hP1
      have hD : va_D A ws_76 := hD1.weaken (fun _ _ _ h => hFc _ h)
      clear hP1 hD1 hz9 hk9 hvm9 ht9 hw9
      generalize H1 = H at hP hS ⊢
      have o_h0 := E_77.1 _ _ o_h0
      refine lv_goto (tgt := 143) hx hb dX5_shuffle_140 (by decide) ?_
      exact J_143 ws_76 H locs ls ((E_71.tr E_77)) ((gF.tr Fr_72 Fr_78)) hG hP hD hS (lv_sub hl [] rfl)
    rcases Classical.em ((x1 : Int32).toInt < 89 ∨ 95 < (x1 : Int32).toInt) with c9 | c9
    · exact lv_tableOut (tgt := 143) hx hb dX5_shuffle_28 c9 (by decide) K_28_143
    · rcases (show (x1 : Int32).toInt = 89 ∨ (x1 : Int32).toInt = 90 ∨ (x1 : Int32).toInt = 91 ∨ (x1 : Int32).toInt = 92 ∨ (x1 : Int32).toInt = 93 ∨ (x1 : Int32).toInt = 94 ∨ (x1 : Int32).toInt = 95 by omega) with c9 | c9 | c9 | c9 | c9 | c9 | c9
      · exact lv_tableIn (off := 44) (tgt := 72) hx hb dX5_shuffle_28 (by rw [c9]; decide) (by rw [c9]; decide) (by rw [c9]; rfl) (by decide) K_28_72
      · exact lv_tableIn (off := 57) (tgt := 85) hx hb dX5_shuffle_28 (by rw [c9]; decide) (by rw [c9]; decide) (by rw [c9]; rfl) (by decide) K_28_85
      · exact lv_tableIn (off := 115) (tgt := 143) hx hb dX5_shuffle_28 (by rw [c9]; decide) (by rw [c9]; decide) (by rw [c9]; rfl) (by decide) K_28_143
      · exact lv_tableIn (off := 76) (tgt := 104) hx hb dX5_shuffle_28 (by rw [c9]; decide) (by rw [c9]; decide) (by rw [c9]; rfl) (by decide) K_28_104
      · exact lv_tableIn (off := 115) (tgt := 143) hx hb dX5_shuffle_28 (by rw [c9]; decide) (by rw [c9]; decide) (by rw [c9]; rfl) (by decide) K_28_143
      · exact lv_tableIn (off := 115) (tgt := 143) hx hb dX5_shuffle_28 (by rw [c9]; decide) (by rw [c9]; decide) (by rw [c9]; rfl) (by decide) K_28_143
      · exact lv_tableIn (off := 101) (tgt := 129) hx hb dX5_shuffle_28 (by rw [c9]; decide) (by rw [c9]; decide) (by rw [c9]; rfl) (by decide) K_28_129
  have J_17 : ∀  (H : Heap) (locs : List Loc) (ls : Array Slot), va_P (gD g) cl0 ws_3 H → va_D A ws_3 → va_S A s.heap H locs → lv_has ls 6 [(0, .ref h0), (1, .int x1), (2, .long r_2)] → W p l e (headSpec (wt yX5_shuffle cX5_shuffle 6 none) ({ frames := 1, cells := 0, slots := 0, locals := 23 })).room s m ([.ref h0, .int x1] : List Value).toArray below meth c H locs (0) (0) (MQ below (va_Qv (fun (u9 : va_W) => True) (gQ1 g [(5, 14), (5, 19)] [(5, 9)] none A ws) A) ([.ref h0, .int x1] : List Value).toArray s (0) (0) A) (F0 m 17 ls []) := by
    intro  H locs ls  hP hD hS hl
    refine lv_lconst (v := 0) hx hb dX5_shuffle_17 (by decide) ?_
    refine lv_goto (tgt := 25) hx hb dX5_shuffle_18 (by decide) ?_
    exact J_25 (0) ws_3 H locs ls (gE.rf) (gF.rf) hG hP hD hS (lv_sub hl [0, 1, 2] rfl)
  refine lv_icmp_eq (tgt := 17) hx hb dX5_shuffle_8 (by decide) (fun c_83 => ?_) (fun c_83 => ?_)
  · exact J_17  H locs ls  hP hD hS (lv_sub hl [1, 2, 0] rfl)
  · refine lv_iload_n hx hb dX5_shuffle_11 rfl (lv_at hl 2 rfl) ?_
    refine lv_bipush (v := 89) hx hb dX5_shuffle_12 (by decide) ?_
    refine lv_icmp_ne (tgt := 21) hx hb dX5_shuffle_14 (by decide) (fun c_84 => ?_) (fun c_84 => ?_)
    · refine lv_aload_n hx hb dX5_shuffle_21 rfl (lv_at hl 1 rfl) ?_
      have hFc := gfree hD hS hA
      obtain ⟨k_85, fs_85, hk_85⟩ := gC_of o_h0
      refine va_calll (va_runV (As := []) (rest := []) ⟨hx, hb, hml, hown, hts⟩ (m_X5_pop l g H.size ws_3 h0 hG o_h0) (cwV 0 hts (gd_V kw_1080 kw_1124 kw_1125 kw_398 kw_1123) rfl rfl rfl (by decide +kernel) ⟨Nat.le_of_ble_eq_true rfl, Nat.le_of_ble_eq_true rfl⟩) ⟨gblind, va_recv hK hP (ci := 5) (q0 := k_85) rfl hk_85, fun U hU hW9 => gmk hU hW9 hP hK hD hex hE hS hFc⟩ rfl rfl hl.1 rfl (lv_room (Nat.le_of_ble_eq_true rfl)) dX5_shuffle_22 ⟨Nat.le_of_ble_eq_true rfl, Nat.le_of_ble_eq_true rfl⟩) hS (fun q _ h => hFc q h) hFc (fun r_86 ws_87 t9 H1 locs ht9 hvm9 hw9 hB9 hz9 hk9 hS => ?_)
      obtain ⟨E_88, Fr_89, hG, hP1, hD1⟩ := hB9
      have hP : va_P (gD g) cl0 ws_87 H1 := by rw [← ht9]; exact hP1
      have hD : va_D A ws_87 := hD1.weaken (fun _ _ _ h => hFc _ h)
      clear hP1 hD1 hz9 hk9 hvm9 ht9 hw9
      generalize H1 = H at hP hS ⊢
      have o_h0 := E_88.1 _ _ o_h0
      exact J_25 (r_86) ws_87 H locs ls (E_88) (Fr_89) hG hP hD hS (lv_sub hl [1, 2, 0] rfl)
    · exact J_17  H locs ls  hP hD hS (lv_sub hl [1, 2, 0] rfl)
set_option maxHeartbeats 1000000 in
set_option maxRecDepth 100000 in
theorem m_X5_setField (l : Launch) (g : Gm) (sz : Nat) (ws : va_W) (h0 : Nat) (x1 : Int32) (y2 : Int64) (hG : Good g ws) (o_h0 : gC ws h0 5) : Met l yX5_setField (wt yX5_setField cX5_setField 4 none) ({ frames := 0, cells := 0, slots := 0, locals := 0 }) (va_Pc [.ref h0, .int x1, .long y2] (st_G g sz ws)) (va_Qv (fun (u9 : va_W) => True) (gQ1 g [(5, 19)] [(5, 1)] none (va_A ws sz) ws) (va_A ws sz)) (0) (0) (va_A ws sz) := by
  refine Met.ofW (cc := cX5_setField) (maxL := 4) (ret := none) (by decide) rfl ?_
  intro p e s m args below meth c s₁ B hml hv
  obtain ⟨rfl, hsz, hP, hK, hD0, hex, hE⟩ := hv
  have hx := B.exec
  have hb := B.bytes
  have hr := B.returns
  have hts0 := atoms_spec (ws := wt yX5_setField cX5_setField 4 none) B.pre
  have hts : ∀ w ∈ tb, w.before _ s = true := fun w h => hts0 w (List.mem_cons_of_mem _ h)
  have hown : s.vm.findClass RX5 = some m.cls := findClass_of_methodNamed B.named
  subst hsz
  have hD := hD0.self (sz := s.heap.size)
  generalize hAe : va_A ws s.heap.size = A at hD hE ⊢
  have hA : ∀ q : Nat, s.heap.size ≤ q → A q := fun q h => by rw [← hAe]; exact Or.inr h
  have hS : va_S A s.heap s.heap [] := va_S.rf
  have hl := lv_entry ([.ref h0, .int x1, .long y2]) (n := 4) (Nat.le_of_ble_eq_true rfl)
  rw [lg_entry_eq]
  generalize (lg_sl ([.ref h0, .int x1, .long y2]) ++ List.replicate (4 - (lg_sl ([.ref h0, .int x1, .long y2])).length) Slot.unset).toArray = ls at hl ⊢
  have hl : lv_has ls 4 [(0, .ref h0), (1, .int x1), (2, .long y2)] := hl
  refine lv_iload_n hx hb dX5_setField_0 rfl (lv_at hl 1 rfl) ?_
  have J_10 : ∀  (H : Heap) (locs : List Loc) (ls : Array Slot), va_P (gD g) cl0 ws H → va_D A ws → va_S A s.heap H locs → lv_has ls 4 [(0, .ref h0)] → W p l e (headSpec (wt yX5_setField cX5_setField 4 none) ({ frames := 0, cells := 0, slots := 0, locals := 0 })).room s m ([.ref h0, .int x1, .long y2] : List Value).toArray below meth c H locs (0) (0) (MQ below (va_Qv (fun (u9 : va_W) => True) (gQ1 g [(5, 19)] [(5, 1)] none A ws) A) ([.ref h0, .int x1, .long y2] : List Value).toArray s (0) (0) A) (F0 m 10 ls []) := by
    intro  H locs ls  hP hD hS hl
    refine lv_aload_n hx hb dX5_setField_10 rfl (lv_at hl 0 rfl) ?_
    refine lv_dup hx hb dX5_setField_11 rfl ?_
    obtain ⟨k_3, fs9, hk_3⟩ := gC_of o_h0
    obtain ⟨v0_3, r1_3, n1_3, r2_3, n2_3, c3_3, r4_3, n4_3, c5_3, r6_3, n6_3, c7_3, r8_3, n8_3, r9_3, n9_3, r10_3, n10_3, c11_3, v12_3, c13_3, c14_3, c15_3, l16_3, c17_3, c18_3, c19_3, rfl, o_v0_3, F_v0_3, a_r1_3, f3_3, a_r2_3, f5_3, a_r4_3, f7_3, a_r6_3, f9_3, a_r8_3, f11_3, a_r9_3, f13_3, a_r10_3, f15_3, o_v12_3, f17_3, f18_3, f19_3, f20_3, f21_3, f22_3, f23_3, f24_3, f25_3, f26_3, f27_3, f28_3, f29_3, f30_3, f31_3, -⟩ := (hG.1 _ _ _ _ hk_3).hX5 rfl
    refine va_get (D := gD g) (ci := 5) (v := .int c19_3) (C := RX5) (T := TX5) (N := 20) hx hb hts inX5 hown hK hP k_3 hk_3 rfl 19 (by decide) (hts _ kw_1045) (fun _ h9 => h9) rfl dX5_setField_12 ?_
    refine lv_iconst (v := 1) hx hb dX5_setField_15 (by decide) ?_
    refine lv_iadd hx hb dX5_setField_16 ?_
    refine lv_topi (fun z_4 ez_4 => ?_)
    have hV9 : okv ws 5 19 (.int z_4) := okv_i
    refine va_put (D := gD g) (ci := 5) (v := .int z_4) (ty := .int) (C := RX5) (T := TX5) (N := 20) hx hb hts inX5 tyX5 tyX5_ok nmX5 hown hK hP hD hS k_3 hk_3 rfl 19 (by decide) (hts _ kw_1045) (fun _ h9 => h9) rfl (by decide +kernel) rfl rfl (Nat.le_of_ble_eq_true rfl) dX5_setField_17 (fun H locs hP hD hS => ?_)
    have hi_5 : invX5 g ws h0 [va_rf v0_3, .ref r1_3, .ref r2_3, .int c3_3, .ref r4_3, .int c5_3, .ref r6_3, .int c7_3, .ref r8_3, .ref r9_3, .ref r10_3, .int c11_3, va_rf v12_3, .int c13_3, .int c14_3, .int c15_3, .long l16_3, .int c17_3, .int c18_3, .int z_4] := ⟨v0_3, r1_3, (n1_3), r2_3, (n2_3), (c3_3), r4_3, (n4_3), (c5_3), r6_3, (n6_3), (c7_3), r8_3, (n8_3), r9_3, (n9_3), r10_3, (n10_3), (c11_3), v12_3, (c13_3), (c14_3), (c15_3), (l16_3), (c17_3), (c18_3), (z_4), rfl, o_v0_3, F_v0_3, a_r1_3, f3_3, a_r2_3, f5_3, a_r4_3, f7_3, a_r6_3, f9_3, a_r8_3, f11_3, a_r9_3, f13_3, a_r10_3, f15_3, o_v12_3, f17_3, f18_3, f19_3, f20_3, f21_3, f22_3, f23_3, f24_3, f25_3, f26_3, f27_3, f28_3, f29_3, f30_3, f31_3, trivial⟩
    obtain ⟨ws_6, e_ws_6⟩ : ∃ z, z = ws.set k_3 (h0, .inr (5, [va_rf v0_3, .ref r1_3, .ref r2_3, .int c3_3, .ref r4_3, .int c5_3, .ref r6_3, .int c7_3, .ref r8_3, .ref r9_3, .ref r10_3, .int c11_3, va_rf v12_3, .int c13_3, .int c14_3, .int c15_3, .long l16_3, .int c17_3, .int c18_3, .int z_4])) := ⟨_, rfl⟩
    have hP : va_P (gD g) cl0 ws_6 H := by rw [e_ws_6]; exact hP
    have hD : va_D A ws_6 := by rw [e_ws_6]; exact hD
    have E_7 : gE ws ws_6 := gE_set e_ws_6 hk_3 (cw_o (fi := 19) (v := .int z_4) rfl (by decide))
    have hG : Good g ws_6 := Good_set (fi := 19) (v := .int z_4) e_ws_6 hk_3 E_7 rfl hV9 hG (ivX5 hi_5)
    have Fr_8 : gF [(5, 19)] [] (some h0) ws ws_6 := gF_put (fi := 19) (v := .int z_4) e_ws_6 hk_3 rfl (by decide)
    have hkN := gset_self e_ws_6 hk_3
    have hk_3 := hkN
    have o_h0 := E_7.1 _ _ o_h0
    have o_v0_3 : ∀ b, v0_3 = some b → gC ws_6 b 9 := fun b h => E_7.1 _ _ (o_v0_3 b h)
    have F_v0_3 : ∀ b, v0_3 = some b → full ws_6 b := fun b h => (F_v0_3 b h).mo E_7
    have a_r1_3 := E_7.1 _ _ a_r1_3
    have a_r2_3 := E_7.1 _ _ a_r2_3
    have a_r4_3 := E_7.1 _ _ a_r4_3
    have a_r6_3 := E_7.1 _ _ a_r6_3
    have a_r8_3 := E_7.1 _ _ a_r8_3
    have a_r9_3 := E_7.1 _ _ a_r9_3
    have a_r10_3 := E_7.1 _ _ a_r10_3
    have o_v12_3 : ∀ b, v12_3 = some b → gC ws_6 b 7 := fun b h => E_7.1 _ _ (o_v12_3 b h)
    refine W.widen (k := 0) (n := 0) (Nat.le_of_ble_eq_true rfl) (Nat.le_of_ble_eq_true rfl) ?_
    exact W.vret hx hb hr (fun t9 ht9 hW9 => ⟨⟨ws_6, rfl, trivial, ⟨E_7, (gF.mo (F' := [(5, 19)]) (C' := [(5, 1)]) (S' := none) Fr_8 (fun _ h => h) (fun _ h => absurd h List.not_mem_nil) (Or.inl rfl)), hG, by rw [ht9]; exact hP, hD⟩⟩, hS.F ht9⟩) hS.2.2 dX5_setField_20
  refine lv_if_lt (tgt := 10) hx hb dX5_setField_1 (by decide) (fun c_9 => ?_) (fun c_9 => ?_)
  · exact J_10  _ _ ls  hP hD hS (lv_sub hl [0] rfl)
  · refine lv_iload_n hx hb dX5_setField_4 rfl (lv_at hl 1 rfl) ?_
    refine lv_bipush (v := 24) hx hb dX5_setField_5 (by decide) ?_
    refine lv_icmp_lt (tgt := 21) hx hb dX5_setField_7 (by decide) (fun c_10 => ?_) (fun c_10 => ?_)
    · refine lv_aload_n hx hb dX5_setField_21 rfl (lv_at hl 0 rfl) ?_
      obtain ⟨k_11, fs9, hk_11⟩ := gC_of o_h0
      obtain ⟨v0_11, r1_11, n1_11, r2_11, n2_11, c3_11, r4_11, n4_11, c5_11, r6_11, n6_11, c7_11, r8_11, n8_11, r9_11, n9_11, r10_11, n10_11, c11_11, v12_11, c13_11, c14_11, c15_11, l16_11, c17_11, c18_11, c19_11, rfl, o_v0_11, F_v0_11, a_r1_11, f3_11, a_r2_11, f5_11, a_r4_11, f7_11, a_r6_11, f9_11, a_r8_11, f11_11, a_r9_11, f13_11, a_r10_11, f15_11, o_v12_11, f17_11, f18_11, f19_11, f20_11, f21_11, f22_11, f23_11, f24_11, f25_11, f26_11, f27_11, f28_11, f29_11, f30_11, f31_11, -⟩ := (hG.1 _ _ _ _ hk_11).hX5 rfl
      refine va_get (D := gD g) (ci := 5) (v := .ref r1_11) (C := RX5) (T := TX5) (N := 20) hx hb hts inX5 hown hK hP k_11 hk_11 rfl 1 (by decide) (hts _ kw_1054) (fun _ h9 => h9) rfl dX5_setField_22 ?_
      refine lv_iload_n hx hb dX5_setField_25 rfl (lv_at hl 1 rfl) ?_
      refine lv_lload_n hx hb dX5_setField_26 rfl (lv_at hl 2 rfl) ?_
      obtain ⟨k_12, f_12, hk_12⟩ := gJ_of a_r1_11
      have hC9 : hol ws r1_11 [(5, 1)] := (hol_u hG.u hk_11 (j := 1) rfl a_r1_11 (by decide))
      have hS9 : holS ws r1_11 none := holS_n
      refine va_last hx hb hK hP hD hS k_12 3 hk_12 rfl (i_in2 (by have e0 : (0 : Int32).toInt = 0 := (by decide); have e24 : (24 : Int32).toInt = 24 := (by decide); have q_c_9 := i_nlt c_9; have q_c_10 := i_lt c_10; have q_f3_11 := f3_11; have q_f17_11 := f17_11; have g_x1 := i_rg x1; omega)) dX5_setField_27 (fun H locs hP hD hS => ?_)
      obtain ⟨ws_13, e_ws_13⟩ : ∃ z, z = ws.set k_12 (r1_11, .inl (g.cL, n1_11, .inr (.inl (vp_updL f_12 (x1 : Int32).toNatClampNeg y2)))) := ⟨_, rfl⟩
      have hP : va_P (gD g) cl0 ws_13 H := by rw [e_ws_13]; exact hP
      have hD : va_D A ws_13 := by rw [e_ws_13]; exact hD
      have E_14 : gE ws ws_13 := gE_arj e_ws_13 hk_12
      have hG : Good g ws_13 := Good_arj e_ws_13 hk_12 hG
      have Fr_15 : gF [] [(5, 1)] none ws ws_13 := gF_ar e_ws_13 hk_12 rfl hC9 hS9
      have hk_11 := gset_arO e_ws_13 hk_12 hk_11
      have o_h0 := E_14.1 _ _ o_h0
      have o_v0_11 : ∀ b, v0_11 = some b → gC ws_13 b 9 := fun b h => E_14.1 _ _ (o_v0_11 b h)
      have F_v0_11 : ∀ b, v0_11 = some b → full ws_13 b := fun b h => (F_v0_11 b h).mo E_14
      have a_r1_11 := E_14.1 _ _ a_r1_11
      have a_r2_11 := E_14.1 _ _ a_r2_11
      have a_r4_11 := E_14.1 _ _ a_r4_11
      have a_r6_11 := E_14.1 _ _ a_r6_11
      have a_r8_11 := E_14.1 _ _ a_r8_11
      have a_r9_11 := E_14.1 _ _ a_r9_11
      have a_r10_11 := E_14.1 _ _ a_r10_11
      have o_v12_11 : ∀ b, v12_11 = some b → gC ws_13 b 7 := fun b h => E_14.1 _ _ (o_v12_11 b h)
      refine W.widen (k := 0) (n := 0) (Nat.le_of_ble_eq_true rfl) (Nat.le_of_ble_eq_true rfl) ?_
      exact W.vret hx hb hr (fun t9 ht9 hW9 => ⟨⟨ws_13, rfl, trivial, ⟨E_14, (gF.mo (F' := [(5, 19)]) (C' := [(5, 1)]) (S' := none) Fr_15 (fun _ h => absurd h List.not_mem_nil) (fun _ h => h) (Or.inr rfl)), hG, by rw [ht9]; exact hP, hD⟩⟩, hS.F ht9⟩) hS.2.2 dX5_setField_28
    · exact J_10  _ _ ls  hP hD hS (lv_sub hl [0] rfl)
set_option maxHeartbeats 1000000 in
set_option maxRecDepth 100000 in
theorem m_X5_handlerOf (l : Launch) (g : Gm) (sz : Nat) (ws : va_W) (h0 : Nat) (x1 : Int32) (hG : Good g ws) (o_h0 : gC ws h0 5) (nn_h0_12 : gN ws h0 12) : Met l yX5_handlerOf (wt yX5_handlerOf cX5_handlerOf 3 (some .int)) ({ frames := 1, cells := 0, slots := 0, locals := 22 }) (va_Pc [.ref h0, .int x1] (st_G g sz ws)) (va_Qi (fun (r : Int32) (u9 : Unit) => True) (gQ0 g (va_A ws sz) ws) (va_A ws sz)) (0) (0) (va_A ws sz) := by
  refine Met.ofW (cc := cX5_handlerOf) (maxL := 3) (ret := (some .int)) (by decide) rfl ?_
  intro p e s m args below meth c s₁ B hml hv
  obtain ⟨rfl, hsz, hP, hK, hD0, hex, hE⟩ := hv
  have hx := B.exec
  have hb := B.bytes
  have hr := B.returns
  have hts0 := atoms_spec (ws := wt yX5_handlerOf cX5_handlerOf 3 (some .int)) B.pre
  have hts : ∀ w ∈ tb, w.before _ s = true := fun w h => hts0 w (List.mem_cons_of_mem _ h)
  have hown : s.vm.findClass RX5 = some m.cls := findClass_of_methodNamed B.named
  subst hsz
  have hD := hD0.self (sz := s.heap.size)
  generalize hAe : va_A ws s.heap.size = A at hD hE ⊢
  have hA : ∀ q : Nat, s.heap.size ≤ q → A q := fun q h => by rw [← hAe]; exact Or.inr h
  have hS : va_S A s.heap s.heap [] := va_S.rf
  have hl := lv_entry ([.ref h0, .int x1]) (n := 3) (Nat.le_of_ble_eq_true rfl)
  rw [lg_entry_eq]
  generalize (lg_sl ([.ref h0, .int x1]) ++ List.replicate (3 - (lg_sl ([.ref h0, .int x1])).length) Slot.unset).toArray = ls at hl ⊢
  have hl : lv_has ls 3 [(0, .ref h0), (1, .int x1)] := hl
  obtain ⟨k_1, fs9, hk_1⟩ := gC_of o_h0
  obtain ⟨v0_1, r1_1, n1_1, r2_1, n2_1, c3_1, r4_1, n4_1, c5_1, r6_1, n6_1, c7_1, r8_1, n8_1, r9_1, n9_1, r10_1, n10_1, c11_1, v12_1, c13_1, c14_1, c15_1, l16_1, c17_1, c18_1, c19_1, rfl, o_v0_1, F_v0_1, a_r1_1, f3_1, a_r2_1, f5_1, a_r4_1, f7_1, a_r6_1, f9_1, a_r8_1, f11_1, a_r9_1, f13_1, a_r10_1, f15_1, o_v12_1, f17_1, f18_1, f19_1, f20_1, f21_1, f22_1, f23_1, f24_1, f25_1, f26_1, f27_1, f28_1, f29_1, f30_1, f31_1, -⟩ := (hG.1 _ _ _ _ hk_1).hX5 rfl
  obtain ⟨b_2, hn9⟩ := nn_h0_12 _ _ _ hk_1
  have hn9 := fe_qr hn9
  subst hn9
  have o_b_2 := o_v12_1 _ rfl
  refine lv_iconst (v := 0) hx hb dX5_handlerOf_0 (by decide) ?_
  refine lv_istore_n (lv' := [(2, .int 0), (0, .ref h0), (1, .int x1)]) hx hb dX5_handlerOf_1 rfl hl (by decide) rfl (fun ls hl => ?_)
  have J_2 : ∀ (n9 : Nat) (v2_3 : Int32) (H : Heap) (locs : List Loc) (ls : Array Slot), (2147483647 - v2_3.toInt).toNat = n9 → 0 ≤ v2_3.toInt → va_P (gD g) cl0 ws H → va_D A ws → va_S A s.heap H locs → lv_has ls 3 [(0, .ref h0), (1, .int x1), (2, .int v2_3)] → W p l e (headSpec (wt yX5_handlerOf cX5_handlerOf 3 (some .int)) ({ frames := 1, cells := 0, slots := 0, locals := 22 })).room s m ([.ref h0, .int x1] : List Value).toArray below meth c H locs (0) (0) (MQ below (va_Qi (fun (r : Int32) (u9 : Unit) => True) (gQ0 g A ws) A) ([.ref h0, .int x1] : List Value).toArray s (0) (0) A) (F0 m 2 ls []) := by
    intro n9
    induction n9 using Nat.strongRecOn with
    | ind n9 ih_2 =>
      intro v2_3 H locs ls hm9 iv_4 hP hD hS hl
      subst hm9
      refine lv_iload_n hx hb dX5_handlerOf_2 rfl (lv_at hl 2 rfl) ?_
      refine lv_aload_n hx hb dX5_handlerOf_3 rfl (lv_at hl 0 rfl) ?_
      refine va_get (D := gD g) (ci := 5) (v := .ref b_2) (C := RX5) (T := TX5) (N := 20) hx hb hts inX5 hown hK hP k_1 hk_1 rfl 12 (by decide) (hts _ kw_1030) (fun _ h9 => h9) rfl dX5_handlerOf_4 ?_
      obtain ⟨k_7, fs9, hk_7⟩ := gC_of o_b_2
      obtain ⟨r0_7, n0_7, r1_7, n1_7, c2_7, r3_7, n3_7, c4_7, r5_7, n5_7, r6_7, n6_7, r7_7, n7_7, r8_7, n8_7, c9_7, c10_7, c11_7, v12_7, v13_7, v14_7, rfl, a_r0_7, f1_7, a_r1_7, f3_7, a_r3_7, f5_7, a_r5_7, f7_7, a_r6_7, f9_7, a_r7_7, f11_7, a_r8_7, f13_7, o_v12_7, o_v13_7, o_v14_7, f17_7, f18_7, f19_7, f20_7, f21_7, f22_7, f23_7, f24_7, f25_7, f26_7, f27_7, f28_7, f29_7, -⟩ := (hG.1 _ _ _ _ hk_7).hX8 rfl
      refine va_get (D := gD g) (ci := 7) (v := .int c9_7) (C := RX8) (T := TX8) (N := 15) hx hb hts inX8 hown hK hP k_7 hk_7 rfl 9 (by decide) (hts _ kw_1062) (fun _ h9 => h9) rfl dX5_handlerOf_7 ?_
      refine lv_icmp_ge (tgt := 70) hx hb dX5_handlerOf_10 (by decide) (fun c_8 => ?_) (fun c_8 => ?_)
      · refine lv_iconst (v := (-1)) hx hb dX5_handlerOf_70 (by decide) ?_
        refine W.widen (k := 0) (n := 0) (Nat.le_of_ble_eq_true rfl) (Nat.le_of_ble_eq_true rfl) ?_
        exact W.iret (v := (-1)) hx hb hr (fun t9 ht9 hW9 => ⟨⟨_, (), rfl, trivial, ⟨by rw [ht9]; exact hP, hD⟩⟩, hS.F ht9⟩) hS.2.2 dX5_handlerOf_71
      · refine lv_aload_n hx hb dX5_handlerOf_13 rfl (lv_at hl 0 rfl) ?_
        refine va_get (D := gD g) (ci := 5) (v := .ref b_2) (C := RX5) (T := TX5) (N := 20) hx hb hts inX5 hown hK hP k_1 hk_1 rfl 12 (by decide) (hts _ kw_1030) (fun _ h9 => h9) rfl dX5_handlerOf_14 ?_
        refine lv_iload_n hx hb dX5_handlerOf_17 rfl (lv_at hl 2 rfl) ?_
        refine lv_aload_n hx hb dX5_handlerOf_18 rfl (lv_at hl 0 rfl) ?_
        refine va_get (D := gD g) (ci := 5) (v := .int c13_1) (C := RX5) (T := TX5) (N := 20) hx hb hts inX5 hown hK hP k_1 hk_1 rfl 13 (by decide) (hts _ kw_1021) (fun _ h9 => h9) rfl dX5_handlerOf_19 ?_
        have hFc := gfree hD hS hA
        refine va_calli (va_runV (As := [.int v2_3, .int c13_1]) (rest := []) ⟨hx, hb, hml, hown, hts⟩ (m_X8_catchHas l g H.size ws b_2 (v2_3) (c13_1) hG o_b_2) (cwV 2 hts (gd_V kw_1063 kw_1483 kw_1484 kw_782 kw_1482) rfl rfl rfl (by decide +kernel) ⟨Nat.le_of_ble_eq_true rfl, Nat.le_of_ble_eq_true rfl⟩) ⟨gblind, va_recv hK hP (ci := 7) (q0 := k_7) rfl hk_7, fun U hU hW9 => gmk hU hW9 hP hK hD hex hE hS hFc⟩ rfl rfl hl.1 rfl (lv_room (Nat.le_of_ble_eq_true rfl)) dX5_handlerOf_22 ⟨Nat.le_of_ble_eq_true rfl, Nat.le_of_ble_eq_true rfl⟩) hS (fun q _ h => hFc q h) hFc (fun r_9 u9 t9 H1 locs ht9 hvm9 hw9 hB9 hz9 hk9 hS => ?_)
        have hP : va_P (gD g) cl0 ws H1 := by rw [← ht9]; exact hB9.1
        have hz_r_9 : r_9 = 0 ∨ r_9 = 1 := hw9
        clear hB9 hz9 hk9 hvm9 ht9 hw9
        generalize H1 = H at hP hS ⊢
        have J_64 : ∀  (H : Heap) (locs : List Loc) (ls : Array Slot), va_P (gD g) cl0 ws H → va_D A ws → va_S A s.heap H locs → lv_has ls 3 [(0, .ref h0), (1, .int x1), (2, .int v2_3)] → W p l e (headSpec (wt yX5_handlerOf cX5_handlerOf 3 (some .int)) ({ frames := 1, cells := 0, slots := 0, locals := 22 })).room s m ([.ref h0, .int x1] : List Value).toArray below meth c H locs (0) (0) (MQ below (va_Qi (fun (r : Int32) (u9 : Unit) => True) (gQ0 g A ws) A) ([.ref h0, .int x1] : List Value).toArray s (0) (0) A) (F0 m 64 ls []) := by
          intro  H locs ls  hP hD hS hl
          obtain ⟨z_12, ez_12⟩ : ∃ z : Int32, v2_3 + Int32.ofInt 1 = z := ⟨_, rfl⟩
          refine lv_iinc (v := z_12) (lv' := [(2, .int z_12), (0, .ref h0), (1, .int x1)]) hx hb dX5_handlerOf_64 hl (k := 2) rfl ez_12 (by decide) rfl (fun ls hl => ?_)
          refine lv_goto (tgt := 2) hx hb dX5_handlerOf_67 (by decide) ?_
          exact ih_2 _ (by obtain ⟨u_z_12, q_z_12⟩ := i_iz ez_12 (by decide) (by decide); have q_iv_4 := iv_4; have q_c_8 := i_nle c_8; have g_c9_7 := i_rg c9_7; have g_v2_3 := i_rg v2_3; have g_z_12 := i_rg z_12; omega) (z_12) H locs ls rfl (by obtain ⟨u_z_12, q_z_12⟩ := i_iz ez_12 (by decide) (by decide); have q_iv_4 := iv_4; have q_c_8 := i_nle c_8; have g_c9_7 := i_rg c9_7; have g_v2_3 := i_rg v2_3; have g_z_12 := i_rg z_12; omega) hP hD hS (lv_sub hl [1, 2, 0] rfl)
        refine lv_if_eq (tgt := 64) hx hb dX5_handlerOf_25 (by decide) (fun c_13 => ?_) (fun c_13 => ?_)
        · exact J_64  H locs ls  hP hD hS (lv_sub hl [0, 1, 2] rfl)
        · refine lv_aload_n hx hb dX5_handlerOf_28 rfl (lv_at hl 0 rfl) ?_
          refine va_get (D := gD g) (ci := 5) (v := .ref b_2) (C := RX5) (T := TX5) (N := 20) hx hb hts inX5 hown hK hP k_1 hk_1 rfl 12 (by decide) (hts _ kw_1030) (fun _ h9 => h9) rfl dX5_handlerOf_29 ?_
          refine va_get (D := gD g) (ci := 7) (v := .ref r8_7) (C := RX8) (T := TX8) (N := 15) hx hb hts inX8 hown hK hP k_7 hk_7 rfl 8 (by decide) (hts _ kw_1064) (fun _ h9 => h9) rfl dX5_handlerOf_32 ?_
          refine lv_iload_n hx hb dX5_handlerOf_35 rfl (lv_at hl 2 rfl) ?_
          obtain ⟨k_14, f_14, hk_14⟩ := gI_of a_r8_7
          refine va_iald hx hb hK hP k_14 1 hk_14 rfl (i_in2 (by have q_iv_4 := iv_4; have q_f13_7 := f13_7; have q_f25_7 := f25_7; have q_c_8 := i_nle c_8; have q_f7_7 := f7_7; have q_f23_7 := f23_7; have q_f24_7 := f24_7; have q_f26_7 := f26_7; have q_f27_7 := f27_7; have q_f29_7 := f29_7; have g_c9_7 := i_rg c9_7; have g_v2_3 := i_rg v2_3; omega)) dX5_handlerOf_36 ?_
          refine lv_topi (fun z_15 ez_15 => ?_)
          refine lv_iload_n hx hb dX5_handlerOf_37 rfl (lv_at hl 1 rfl) ?_
          have J_54 : ∀  (H : Heap) (locs : List Loc) (ls : Array Slot), va_P (gD g) cl0 ws H → va_D A ws → va_S A s.heap H locs → lv_has ls 3 [(0, .ref h0), (2, .int v2_3)] → W p l e (headSpec (wt yX5_handlerOf cX5_handlerOf 3 (some .int)) ({ frames := 1, cells := 0, slots := 0, locals := 22 })).room s m ([.ref h0, .int x1] : List Value).toArray below meth c H locs (0) (0) (MQ below (va_Qi (fun (r : Int32) (u9 : Unit) => True) (gQ0 g A ws) A) ([.ref h0, .int x1] : List Value).toArray s (0) (0) A) (F0 m 54 ls []) := by
            intro  H locs ls  hP hD hS hl
            refine lv_aload_n hx hb dX5_handlerOf_54 rfl (lv_at hl 0 rfl) ?_
            refine va_get (D := gD g) (ci := 5) (v := .ref b_2) (C := RX5) (T := TX5) (N := 20) hx hb hts inX5 hown hK hP k_1 hk_1 rfl 12 (by decide) (hts _ kw_1030) (fun _ h9 => h9) rfl dX5_handlerOf_55 ?_
            refine va_get (D := gD g) (ci := 7) (v := .ref r7_7) (C := RX8) (T := TX8) (N := 15) hx hb hts inX8 hown hK hP k_7 hk_7 rfl 7 (by decide) (hts _ kw_1065) (fun _ h9 => h9) rfl dX5_handlerOf_58 ?_
            refine lv_iload_n hx hb dX5_handlerOf_61 rfl (lv_at hl 1 rfl) ?_
            obtain ⟨k_18, f_18, hk_18⟩ := gI_of a_r7_7
            refine va_iald hx hb hK hP k_18 1 hk_18 rfl (i_in2 (by have q_iv_4 := iv_4; have q_f11_7 := f11_7; have q_f24_7 := f24_7; have q_c_8 := i_nle c_8; have q_f7_7 := f7_7; have q_f23_7 := f23_7; have q_f25_7 := f25_7; have q_f26_7 := f26_7; have q_f27_7 := f27_7; have q_f29_7 := f29_7; have g_c9_7 := i_rg c9_7; have g_v2_3 := i_rg v2_3; omega)) dX5_handlerOf_62 ?_
            refine lv_topi (fun z_19 ez_19 => ?_)
            refine W.widen (k := 0) (n := 0) (Nat.le_of_ble_eq_true rfl) (Nat.le_of_ble_eq_true rfl) ?_
            exact W.iret (v := z_19) hx hb hr (fun t9 ht9 hW9 => ⟨⟨_, (), rfl, trivial, ⟨by rw [ht9]; exact hP, hD⟩⟩, hS.F ht9⟩) hS.2.2 dX5_handlerOf_63
          refine lv_icmp_eq (tgt := 54) hx hb dX5_handlerOf_38 (by decide) (fun c_20 => ?_) (fun c_20 => ?_)
          · exact J_54  H locs ls  hP hD hS (lv_sub hl [0, 2] rfl)
          · refine lv_aload_n hx hb dX5_handlerOf_41 rfl (lv_at hl 0 rfl) ?_
            refine va_get (D := gD g) (ci := 5) (v := .ref b_2) (C := RX5) (T := TX5) (N := 20) hx hb hts inX5 hown hK hP k_1 hk_1 rfl 12 (by decide) (hts _ kw_1030) (fun _ h9 => h9) rfl dX5_handlerOf_42 ?_
            refine va_get (D := gD g) (ci := 7) (v := .ref r8_7) (C := RX8) (T := TX8) (N := 15) hx hb hts inX8 hown hK hP k_7 hk_7 rfl 8 (by decide) (hts _ kw_1064) (fun _ h9 => h9) rfl dX5_handlerOf_45 ?_
            refine lv_iload_n hx hb dX5_handlerOf_48 rfl (lv_at hl 2 rfl) ?_
            refine va_iald hx hb hK hP k_14 1 hk_14 rfl (i_in2 (by have q_iv_4 := iv_4; have q_f13_7 := f13_7; have q_f25_7 := f25_7; have q_c_8 := i_nle c_8; have q_f7_7 := f7_7; have q_f23_7 := f23_7; have q_f24_7 := f24_7; have q_f26_7 := f26_7; have q_f27_7 := f27_7; have q_f29_7 := f29_7; have g_c9_7 := i_rg c9_7; have g_v2_3 := i_rg v2_3; omega)) dX5_handlerOf_49 ?_
            refine lv_topi (fun z_21 ez_21 => ?_)
            refine lv_iconst (v := (-1)) hx hb dX5_handlerOf_50 (by decide) ?_
            refine lv_icmp_ne (tgt := 64) hx hb dX5_handlerOf_51 (by decide) (fun c_22 => ?_) (fun c_22 => ?_)
            · exact J_64  H locs ls  hP hD hS (lv_sub hl [0, 1, 2] rfl)
            · exact J_54  H locs ls  hP hD hS (lv_sub hl [0, 2] rfl)
  exact J_2 _ (0) _ _ ls rfl (by have e0 : (0 : Int32).toInt = 0 := (by decide); omega) hP hD hS (lv_sub hl [1, 2, 0] rfl)
set_option maxHeartbeats 1000000 in
set_option maxRecDepth 100000 in
theorem m_X5_lengthOf (l : Launch) (g : Gm) (sz : Nat) (ws : va_W) (h0 : Nat) (x1 : Int32) (hG : Good g ws) (o_h0 : gC ws h0 5) : Met l yX5_lengthOf (wt yX5_lengthOf cX5_lengthOf 2 (some .int)) ({ frames := 1, cells := 0, slots := 0, locals := 22 }) (va_Pc [.ref h0, .int x1] (st_G g sz ws)) (va_Qi (fun (r : Int32) (u9 : Unit) => True) (gQ0 g (va_A ws sz) ws) (va_A ws sz)) (0) (0) (va_A ws sz) := by
  refine Met.ofW (cc := cX5_lengthOf) (maxL := 2) (ret := (some .int)) (by decide) rfl ?_
  intro p e s m args below meth c s₁ B hml hv
  obtain ⟨rfl, hsz, hP, hK, hD0, hex, hE⟩ := hv
  have hx := B.exec
  have hb := B.bytes
  have hr := B.returns
  have hts0 := atoms_spec (ws := wt yX5_lengthOf cX5_lengthOf 2 (some .int)) B.pre
  have hts : ∀ w ∈ tb, w.before _ s = true := fun w h => hts0 w (List.mem_cons_of_mem _ h)
  have hown : s.vm.findClass RX5 = some m.cls := findClass_of_methodNamed B.named
  subst hsz
  have hD := hD0.self (sz := s.heap.size)
  generalize hAe : va_A ws s.heap.size = A at hD hE ⊢
  have hA : ∀ q : Nat, s.heap.size ≤ q → A q := fun q h => by rw [← hAe]; exact Or.inr h
  have hS : va_S A s.heap s.heap [] := va_S.rf
  have hl := lv_entry ([.ref h0, .int x1]) (n := 2) (Nat.le_of_ble_eq_true rfl)
  rw [lg_entry_eq]
  generalize (lg_sl ([.ref h0, .int x1]) ++ List.replicate (2 - (lg_sl ([.ref h0, .int x1])).length) Slot.unset).toArray = ls at hl ⊢
  have hl : lv_has ls 2 [(0, .ref h0), (1, .int x1)] := hl
  refine lv_aload_n hx hb dX5_lengthOf_0 rfl (lv_at hl 0 rfl) ?_
  refine lv_iload_n hx hb dX5_lengthOf_1 rfl (lv_at hl 1 rfl) ?_
  obtain ⟨z_1, ez_1⟩ : ∃ y : Int64, (x1 : Int32).toInt64 = y := ⟨_, rfl⟩
  refine lv_i2l (v := z_1) hx hb dX5_lengthOf_2 ez_1 ?_
  have hFc := gfree hD hS hA
  obtain ⟨k_2, fs_2, hk_2⟩ := gC_of o_h0
  refine va_calli (va_runV (As := [.long z_1]) (rest := []) ⟨hx, hb, hml, hown, hts⟩ (m_X5_isArray l g s.heap.size ws h0 (z_1) hG o_h0) (cwV 1 hts (gd_V kw_1090 kw_1075 kw_1076 kw_398 kw_1074) rfl rfl rfl (by decide +kernel) ⟨Nat.le_of_ble_eq_true rfl, Nat.le_of_ble_eq_true rfl⟩) ⟨gblind, va_recv hK hP (ci := 5) (q0 := k_2) rfl hk_2, fun U hU hW9 => gmk hU hW9 hP hK hD hex hE hS hFc⟩ rfl rfl hl.1 rfl (lv_room (Nat.le_of_ble_eq_true rfl)) dX5_lengthOf_3 ⟨Nat.le_of_ble_eq_true rfl, Nat.le_of_ble_eq_true rfl⟩) hS (fun q _ h => hFc q h) hFc (fun r_3 u9 t9 H1 locs ht9 hvm9 hw9 hB9 hz9 hk9 hS => ?_)
  have hP : va_P (gD g) cl0 ws H1 := by rw [← ht9]; exact hB9.1
  have hz_r_3 : r_3 = 0 ∨ r_3 = 1 := hw9
  clear hB9 hz9 hk9 hvm9 ht9 hw9
  generalize H1 = H at hP hS ⊢
  have J_26 : ∀ (t_4 : Int32) (H : Heap) (locs : List Loc) (ls : Array Slot), va_P (gD g) cl0 ws H → va_D A ws → va_S A s.heap H locs → lv_has ls 2 [] → W p l e (headSpec (wt yX5_lengthOf cX5_lengthOf 2 (some .int)) ({ frames := 1, cells := 0, slots := 0, locals := 22 })).room s m ([.ref h0, .int x1] : List Value).toArray below meth c H locs (0) (0) (MQ below (va_Qi (fun (r : Int32) (u9 : Unit) => True) (gQ0 g A ws) A) ([.ref h0, .int x1] : List Value).toArray s (0) (0) A) (F0 m 26 ls [.int t_4]) := by
    intro t_4 H locs ls  hP hD hS hl
    refine W.widen (k := 0) (n := 0) (Nat.le_of_ble_eq_true rfl) (Nat.le_of_ble_eq_true rfl) ?_
    exact W.iret (v := t_4) hx hb hr (fun t9 ht9 hW9 => ⟨⟨_, (), rfl, trivial, ⟨by rw [ht9]; exact hP, hD⟩⟩, hS.F ht9⟩) hS.2.2 dX5_lengthOf_26
  refine lv_if_eq (tgt := 25) hx hb dX5_lengthOf_6 (by decide) (fun c_7 => ?_) (fun c_7 => ?_)
  · refine lv_iconst (v := (-1)) hx hb dX5_lengthOf_25 (by decide) ?_
    exact J_26 ((-1)) H locs ls  hP hD hS (lv_sub hl [] rfl)
  · refine lv_aload_n hx hb dX5_lengthOf_9 rfl (lv_at hl 0 rfl) ?_
    refine lv_iload_n hx hb dX5_lengthOf_10 rfl (lv_at hl 1 rfl) ?_
    refine lv_iconst (v := 1) hx hb dX5_lengthOf_11 (by decide) ?_
    refine lv_iadd hx hb dX5_lengthOf_12 ?_
    refine lv_topi (fun z_8 ez_8 => ?_)
    have hFc := gfree hD hS hA
    obtain ⟨k_9, fs_9, hk_9⟩ := gC_of o_h0
    refine va_calli (va_runV (As := [.int z_8]) (rest := []) ⟨hx, hb, hml, hown, hts⟩ (m_X5_arrayStart l g H.size ws h0 (z_8) hG o_h0) (cwV 1 hts (gd_V kw_1036 kw_1006 kw_1007 kw_398 kw_1005) rfl rfl rfl (by decide +kernel) ⟨Nat.le_of_ble_eq_true rfl, Nat.le_of_ble_eq_true rfl⟩) ⟨gblind, va_recv hK hP (ci := 5) (q0 := k_9) rfl hk_9, fun U hU hW9 => gmk hU hW9 hP hK hD hex hE hS hFc⟩ rfl rfl hl.1 rfl (lv_room (Nat.le_of_ble_eq_true rfl)) dX5_lengthOf_13 ⟨Nat.le_of_ble_eq_true rfl, Nat.le_of_ble_eq_true rfl⟩) hS (fun q _ h => hFc q h) hFc (fun r_10 u9 t9 H1 locs ht9 hvm9 hw9 hB9 hz9 hk9 hS => ?_)
    have hP : va_P (gD g) cl0 ws H1 := by rw [← ht9]; exact hB9.1
    clear hB9 hz9 hk9 hvm9 ht9 hw9
    generalize H1 = H at hP hS ⊢
    refine lv_aload_n hx hb dX5_lengthOf_16 rfl (lv_at hl 0 rfl) ?_
    refine lv_iload_n hx hb dX5_lengthOf_17 rfl (lv_at hl 1 rfl) ?_
    have hFc := gfree hD hS hA
    obtain ⟨k_11, fs_11, hk_11⟩ := gC_of o_h0
    refine va_calli (va_runV (As := [.int x1]) (rest := [.int r_10]) ⟨hx, hb, hml, hown, hts⟩ (m_X5_arrayStart l g H.size ws h0 (x1) hG o_h0) (cwV 1 hts (gd_V kw_1036 kw_1006 kw_1007 kw_398 kw_1005) rfl rfl rfl (by decide +kernel) ⟨Nat.le_of_ble_eq_true rfl, Nat.le_of_ble_eq_true rfl⟩) ⟨gblind, va_recv hK hP (ci := 5) (q0 := k_11) rfl hk_11, fun U hU hW9 => gmk hU hW9 hP hK hD hex hE hS hFc⟩ rfl rfl hl.1 rfl (lv_room (Nat.le_of_ble_eq_true rfl)) dX5_lengthOf_18 ⟨Nat.le_of_ble_eq_true rfl, Nat.le_of_ble_eq_true rfl⟩) hS (fun q _ h => hFc q h) hFc (fun r_12 u9 t9 H1 locs ht9 hvm9 hw9 hB9 hz9 hk9 hS => ?_)
    have hP : va_P (gD g) cl0 ws H1 := by rw [← ht9]; exact hB9.1
    clear hB9 hz9 hk9 hvm9 ht9 hw9
    generalize H1 = H at hP hS ⊢
    refine lv_isub hx hb dX5_lengthOf_21 ?_
    refine lv_topi (fun z_13 ez_13 => ?_)
    refine lv_goto (tgt := 26) hx hb dX5_lengthOf_22 (by decide) ?_
    exact J_26 (z_13) H locs ls  hP hD hS (lv_sub hl [] rfl)
set_option maxHeartbeats 1000000 in
set_option maxRecDepth 100000 in
theorem m_X5_elementAt (l : Launch) (g : Gm) (sz : Nat) (ws : va_W) (h0 : Nat) (x1 : Int32) (x2 : Int32) (hG : Good g ws) (o_h0 : gC ws h0 5) : Met l yX5_elementAt (wt yX5_elementAt cX5_elementAt 3 (some .int)) ({ frames := 2, cells := 0, slots := 0, locals := 43 }) (va_Pc [.ref h0, .int x1, .int x2] (st_G g sz ws)) (va_Qi (fun (r : Int32) (u9 : va_W) => True) (gQ1 g [(5, 19)] [] none (va_A ws sz) ws) (va_A ws sz)) (0) (0) (va_A ws sz) := by
  refine Met.ofW (cc := cX5_elementAt) (maxL := 3) (ret := (some .int)) (by decide) rfl ?_
  intro p e s m args below meth c s₁ B hml hv
  obtain ⟨rfl, hsz, hP, hK, hD0, hex, hE⟩ := hv
  have hx := B.exec
  have hb := B.bytes
  have hr := B.returns
  have hts0 := atoms_spec (ws := wt yX5_elementAt cX5_elementAt 3 (some .int)) B.pre
  have hts : ∀ w ∈ tb, w.before _ s = true := fun w h => hts0 w (List.mem_cons_of_mem _ h)
  have hown : s.vm.findClass RX5 = some m.cls := findClass_of_methodNamed B.named
  subst hsz
  have hD := hD0.self (sz := s.heap.size)
  generalize hAe : va_A ws s.heap.size = A at hD hE ⊢
  have hA : ∀ q : Nat, s.heap.size ≤ q → A q := fun q h => by rw [← hAe]; exact Or.inr h
  have hS : va_S A s.heap s.heap [] := va_S.rf
  have hl := lv_entry ([.ref h0, .int x1, .int x2]) (n := 3) (Nat.le_of_ble_eq_true rfl)
  rw [lg_entry_eq]
  generalize (lg_sl ([.ref h0, .int x1, .int x2]) ++ List.replicate (3 - (lg_sl ([.ref h0, .int x1, .int x2])).length) Slot.unset).toArray = ls at hl ⊢
  have hl : lv_has ls 3 [(0, .ref h0), (1, .int x1), (2, .int x2)] := hl
  refine lv_iload_n hx hb dX5_elementAt_0 rfl (lv_at hl 2 rfl) ?_
  have J_28 : ∀ (t_1 : Int32) (ws_2 : va_W) (H : Heap) (locs : List Loc) (ls : Array Slot), gE ws ws_2 → gF [(5, 19)] [] none ws ws_2 → Good g ws_2 → va_P (gD g) cl0 ws_2 H → va_D A ws_2 → va_S A s.heap H locs → lv_has ls 3 [] → W p l e (headSpec (wt yX5_elementAt cX5_elementAt 3 (some .int)) ({ frames := 2, cells := 0, slots := 0, locals := 43 })).room s m ([.ref h0, .int x1, .int x2] : List Value).toArray below meth c H locs (0) (0) (MQ below (va_Qi (fun (r : Int32) (u9 : va_W) => True) (gQ1 g [(5, 19)] [] none A ws) A) ([.ref h0, .int x1, .int x2] : List Value).toArray s (0) (0) A) (F0 m 28 ls [.int t_1]) := by
    intro t_1 ws_2 H locs ls  E_3 Fr_4 hG hP hD hS hl
    have o_h0 := E_3.1 _ _ o_h0
    refine W.widen (k := 0) (n := 0) (Nat.le_of_ble_eq_true rfl) (Nat.le_of_ble_eq_true rfl) ?_
    exact W.iret (v := t_1) hx hb hr (fun t9 ht9 hW9 => ⟨⟨_, ws_2, rfl, trivial, ⟨E_3, Fr_4, hG, by rw [ht9]; exact hP, hD⟩⟩, hS.F ht9⟩) hS.2.2 dX5_elementAt_28
  have J_13 : ∀  (H : Heap) (locs : List Loc) (ls : Array Slot), va_P (gD g) cl0 ws H → va_D A ws → va_S A s.heap H locs → lv_has ls 3 [] → W p l e (headSpec (wt yX5_elementAt cX5_elementAt 3 (some .int)) ({ frames := 2, cells := 0, slots := 0, locals := 43 })).room s m ([.ref h0, .int x1, .int x2] : List Value).toArray below meth c H locs (0) (0) (MQ below (va_Qi (fun (r : Int32) (u9 : va_W) => True) (gQ1 g [(5, 19)] [] none A ws) A) ([.ref h0, .int x1, .int x2] : List Value).toArray s (0) (0) A) (F0 m 13 ls []) := by
    intro  H locs ls  hP hD hS hl
    refine lv_iconst (v := 0) hx hb dX5_elementAt_13 (by decide) ?_
    refine lv_goto (tgt := 28) hx hb dX5_elementAt_14 (by decide) ?_
    exact J_28 (0) ws H locs ls (gE.rf) (gF.rf) hG hP hD hS (lv_sub hl [] rfl)
  refine lv_if_lt (tgt := 13) hx hb dX5_elementAt_1 (by decide) (fun c_7 => ?_) (fun c_7 => ?_)
  · exact J_13  _ _ ls  hP hD hS (lv_sub hl [] rfl)
  · refine lv_iload_n hx hb dX5_elementAt_4 rfl (lv_at hl 2 rfl) ?_
    refine lv_aload_n hx hb dX5_elementAt_5 rfl (lv_at hl 0 rfl) ?_
    refine lv_iload_n hx hb dX5_elementAt_6 rfl (lv_at hl 1 rfl) ?_
    have hFc := gfree hD hS hA
    obtain ⟨k_8, fs_8, hk_8⟩ := gC_of o_h0
    refine va_calli (va_runV (As := [.int x1]) (rest := [.int x2]) ⟨hx, hb, hml, hown, hts⟩ (m_X5_lengthOf l g s.heap.size ws h0 (x1) hG o_h0) (cwV 1 hts (gd_V kw_1035 kw_1088 kw_1089 kw_398 kw_1087) rfl rfl rfl (by decide +kernel) ⟨Nat.le_of_ble_eq_true rfl, Nat.le_of_ble_eq_true rfl⟩) ⟨gblind, va_recv hK hP (ci := 5) (q0 := k_8) rfl hk_8, fun U hU hW9 => gmk hU hW9 hP hK hD hex hE hS hFc⟩ rfl rfl hl.1 rfl (lv_room (Nat.le_of_ble_eq_true rfl)) dX5_elementAt_7 ⟨Nat.le_of_ble_eq_true rfl, Nat.le_of_ble_eq_true rfl⟩) hS (fun q _ h => hFc q h) hFc (fun r_9 u9 t9 H1 locs ht9 hvm9 hw9 hB9 hz9 hk9 hS => ?_)
    have hP : va_P (gD g) cl0 ws H1 := by rw [← ht9]; exact hB9.1
    clear hB9 hz9 hk9 hvm9 ht9 hw9
    generalize H1 = H at hP hS ⊢
    refine lv_icmp_lt (tgt := 17) hx hb dX5_elementAt_10 (by decide) (fun c_10 => ?_) (fun c_10 => ?_)
    · refine lv_aload_n hx hb dX5_elementAt_17 rfl (lv_at hl 0 rfl) ?_
      refine lv_aload_n hx hb dX5_elementAt_18 rfl (lv_at hl 0 rfl) ?_
      refine lv_iload_n hx hb dX5_elementAt_19 rfl (lv_at hl 1 rfl) ?_
      have hFc := gfree hD hS hA
      obtain ⟨k_11, fs_11, hk_11⟩ := gC_of o_h0
      refine va_calli (va_runV (As := [.int x1]) (rest := [.ref h0]) ⟨hx, hb, hml, hown, hts⟩ (m_X5_arrayStart l g H.size ws h0 (x1) hG o_h0) (cwV 1 hts (gd_V kw_1036 kw_1006 kw_1007 kw_398 kw_1005) rfl rfl rfl (by decide +kernel) ⟨Nat.le_of_ble_eq_true rfl, Nat.le_of_ble_eq_true rfl⟩) ⟨gblind, va_recv hK hP (ci := 5) (q0 := k_11) rfl hk_11, fun U hU hW9 => gmk hU hW9 hP hK hD hex hE hS hFc⟩ rfl rfl hl.1 rfl (lv_room (Nat.le_of_ble_eq_true rfl)) dX5_elementAt_20 ⟨Nat.le_of_ble_eq_true rfl, Nat.le_of_ble_eq_true rfl⟩) hS (fun q _ h => hFc q h) hFc (fun r_12 u9 t9 H1 locs ht9 hvm9 hw9 hB9 hz9 hk9 hS => ?_)
      have hP : va_P (gD g) cl0 ws H1 := by rw [← ht9]; exact hB9.1
      clear hB9 hz9 hk9 hvm9 ht9 hw9
      generalize H1 = H at hP hS ⊢
      refine lv_iload_n hx hb dX5_elementAt_23 rfl (lv_at hl 2 rfl) ?_
      refine lv_iadd hx hb dX5_elementAt_24 ?_
      refine lv_topi (fun z_13 ez_13 => ?_)
      have hFc := gfree hD hS hA
      obtain ⟨k_14, fs_14, hk_14⟩ := gC_of o_h0
      refine va_calli (va_runV (As := [.int z_13]) (rest := []) ⟨hx, hb, hml, hown, hts⟩ (m_X5_heapAt l g H.size ws h0 (z_13) hG o_h0) (cwV 1 hts (gd_V kw_1037 kw_1067 kw_1068 kw_398 kw_1066) rfl rfl rfl (by decide +kernel) ⟨Nat.le_of_ble_eq_true rfl, Nat.le_of_ble_eq_true rfl⟩) ⟨gblind, va_recv hK hP (ci := 5) (q0 := k_14) rfl hk_14, fun U hU hW9 => gmk hU hW9 hP hK hD hex hE hS hFc⟩ rfl rfl hl.1 rfl (lv_room (Nat.le_of_ble_eq_true rfl)) dX5_elementAt_25 ⟨Nat.le_of_ble_eq_true rfl, Nat.le_of_ble_eq_true rfl⟩) hS (fun q _ h => hFc q h) hFc (fun r_15 ws_16 t9 H1 locs ht9 hvm9 hw9 hB9 hz9 hk9 hS => ?_)
      obtain ⟨E_17, Fr_18, hG, hP1, hD1⟩ := hB9
      have hP : va_P (gD g) cl0 ws_16 H1 := by rw [← ht9]; exact hP1
      have hD : va_D A ws_16 := hD1.weaken (fun _ _ _ h => hFc _ h)
      clear hP1 hD1 hz9 hk9 hvm9 ht9 hw9
      generalize H1 = H at hP hS ⊢
      have o_h0 := E_17.1 _ _ o_h0
      exact J_28 (r_15) ws_16 H locs ls (E_17) (Fr_18) hG hP hD hS (lv_sub hl [] rfl)
    · exact J_13  H locs ls  hP hD hS (lv_sub hl [] rfl)
set_option maxHeartbeats 1000000 in
set_option maxRecDepth 100000 in
theorem m_X5_passArguments (l : Launch) (g : Gm) (sz : Nat) (ws : va_W) (h0 : Nat) (x1 : Int32) (hG : Good g ws) (o_h0 : gC ws h0 5) : Met l yX5_passArguments (wt yX5_passArguments cX5_passArguments 5 none) ({ frames := 2, cells := 0, slots := 0, locals := 43 }) (va_Pc [.ref h0, .int x1] (st_G g sz ws)) (va_Qv (fun (u9 : va_W) => True) (gQ1 g [(5, 19)] [(5, 8)] none (va_A ws sz) ws) (va_A ws sz)) (0) (0) (va_A ws sz) := by
  refine Met.ofW (cc := cX5_passArguments) (maxL := 5) (ret := none) (by decide) rfl ?_
  intro p e s m args below meth c s₁ B hml hv
  obtain ⟨rfl, hsz, hP, hK, hD0, hex, hE⟩ := hv
  have hx := B.exec
  have hb := B.bytes
  have hr := B.returns
  have hts0 := atoms_spec (ws := wt yX5_passArguments cX5_passArguments 5 none) B.pre
  have hts : ∀ w ∈ tb, w.before _ s = true := fun w h => hts0 w (List.mem_cons_of_mem _ h)
  have hown : s.vm.findClass RX5 = some m.cls := findClass_of_methodNamed B.named
  subst hsz
  have hD := hD0.self (sz := s.heap.size)
  generalize hAe : va_A ws s.heap.size = A at hD hE ⊢
  have hA : ∀ q : Nat, s.heap.size ≤ q → A q := fun q h => by rw [← hAe]; exact Or.inr h
  have hS : va_S A s.heap s.heap [] := va_S.rf
  have hl := lv_entry ([.ref h0, .int x1]) (n := 5) (Nat.le_of_ble_eq_true rfl)
  rw [lg_entry_eq]
  generalize (lg_sl ([.ref h0, .int x1]) ++ List.replicate (5 - (lg_sl ([.ref h0, .int x1])).length) Slot.unset).toArray = ls at hl ⊢
  have hl : lv_has ls 5 [(0, .ref h0), (1, .int x1)] := hl
  refine lv_iconst (v := 0) hx hb dX5_passArguments_0 (by decide) ?_
  refine lv_istore_n (lv' := [(2, .int 0), (0, .ref h0), (1, .int x1)]) hx hb dX5_passArguments_1 rfl hl (by decide) rfl (fun ls hl => ?_)
  refine lv_iconst (v := 0) hx hb dX5_passArguments_2 (by decide) ?_
  refine lv_istore_n (lv' := [(3, .int 0), (2, .int 0), (0, .ref h0), (1, .int x1)]) hx hb dX5_passArguments_3 rfl hl (by decide) rfl (fun ls hl => ?_)
  have J_4 : ∀ (n9 : Nat) (v2_1 : Int32) (v3_2 : Int32) (ws_4 : va_W) (H : Heap) (locs : List Loc) (ls : Array Slot), (2147483647 - v3_2.toInt).toNat = n9 → 0 ≤ v3_2.toInt → gE ws ws_4 → gF [(5, 19)] [(5, 8)] none ws ws_4 → Good g ws_4 → va_P (gD g) cl0 ws_4 H → va_D A ws_4 → va_S A s.heap H locs → lv_has ls 5 [(0, .ref h0), (1, .int x1), (2, .int v2_1), (3, .int v3_2)] → W p l e (headSpec (wt yX5_passArguments cX5_passArguments 5 none) ({ frames := 2, cells := 0, slots := 0, locals := 43 })).room s m ([.ref h0, .int x1] : List Value).toArray below meth c H locs (0) (0) (MQ below (va_Qv (fun (u9 : va_W) => True) (gQ1 g [(5, 19)] [(5, 8)] none A ws) A) ([.ref h0, .int x1] : List Value).toArray s (0) (0) A) (F0 m 4 ls []) := by
    intro n9
    induction n9 using Nat.strongRecOn with
    | ind n9 ih_4 =>
      intro v2_1 v3_2 ws_4 H locs ls hm9 iv_3 E_5 Fr_6 hG hP hD hS hl
      subst hm9
      have o_h0 := E_5.1 _ _ o_h0
      refine lv_iload_n hx hb dX5_passArguments_4 rfl (lv_at hl 3 rfl) ?_
      refine lv_aload_n hx hb dX5_passArguments_5 rfl (lv_at hl 0 rfl) ?_
      obtain ⟨k_7, fs9, hk_7⟩ := gC_of o_h0
      obtain ⟨v0_7, r1_7, n1_7, r2_7, n2_7, c3_7, r4_7, n4_7, c5_7, r6_7, n6_7, c7_7, r8_7, n8_7, r9_7, n9_7, r10_7, n10_7, c11_7, v12_7, c13_7, c14_7, c15_7, l16_7, c17_7, c18_7, c19_7, rfl, o_v0_7, F_v0_7, a_r1_7, f3_7, a_r2_7, f5_7, a_r4_7, f7_7, a_r6_7, f9_7, a_r8_7, f11_7, a_r9_7, f13_7, a_r10_7, f15_7, o_v12_7, f17_7, f18_7, f19_7, f20_7, f21_7, f22_7, f23_7, f24_7, f25_7, f26_7, f27_7, f28_7, f29_7, f30_7, f31_7, -⟩ := (hG.1 _ _ _ _ hk_7).hX5 rfl
      refine va_get (D := gD g) (ci := 5) (v := .int c7_7) (C := RX5) (T := TX5) (N := 20) hx hb hts inX5 hown hK hP k_7 hk_7 rfl 7 (by decide) (hts _ kw_1003) (fun _ h9 => h9) rfl dX5_passArguments_6 ?_
      refine lv_icmp_ge (tgt := 67) hx hb dX5_passArguments_9 (by decide) (fun c_8 => ?_) (fun c_8 => ?_)
      · refine W.widen (k := 0) (n := 0) (Nat.le_of_ble_eq_true rfl) (Nat.le_of_ble_eq_true rfl) ?_
        exact W.vret hx hb hr (fun t9 ht9 hW9 => ⟨⟨ws_4, rfl, trivial, ⟨E_5, Fr_6, hG, by rw [ht9]; exact hP, hD⟩⟩, hS.F ht9⟩) hS.2.2 dX5_passArguments_67
      · refine lv_iload_n hx hb dX5_passArguments_12 rfl (lv_at hl 1 rfl) ?_
        refine lv_iload_n hx hb dX5_passArguments_13 rfl (lv_at hl 3 rfl) ?_
        have hFc := gfree hD hS hA
        refine va_calli (va_runS (As := [.int x1, .int v3_2]) (rest := []) ⟨hx, hb, hml, hown, hts⟩ (m_X6_kindAt l g H.size ws_4 (x1) (v3_2) hG ) (va_cwS 2 hts (gd_S kw_1116 kw_1239 kw_1207 kw_1238) rfl rfl rfl (by decide +kernel) ⟨Nat.le_of_ble_eq_true rfl, Nat.le_of_ble_eq_true rfl⟩) ⟨gblind, fun U hU hW9 => gmk hU hW9 hP hK hD hex hE hS hFc⟩ rfl rfl hl.1 rfl (lv_room (Nat.le_of_ble_eq_true rfl)) dX5_passArguments_14 ⟨Nat.le_of_ble_eq_true rfl, Nat.le_of_ble_eq_true rfl⟩) hS (fun q _ h => hFc q h) hFc (fun r_9 u9 t9 H1 locs ht9 hvm9 hw9 hB9 hz9 hk9 hS => ?_)
        have hP : va_P (gD g) cl0 ws_4 H1 := by rw [← ht9]; exact hB9.1
        clear hB9 hz9 hk9 hvm9 ht9 hw9
        generalize H1 = H at hP hS ⊢
        refine lv_istore (lv' := [(4, .int r_9), (0, .ref h0), (1, .int x1), (2, .int v2_1), (3, .int v3_2)]) hx hb dX5_passArguments_17 hl (by decide) rfl (fun ls hl => ?_)
        refine lv_aload_n hx hb dX5_passArguments_19 rfl (lv_at hl 1 rfl) ?_
        refine lv_iload_n hx hb dX5_passArguments_20 rfl (lv_at hl 3 rfl) ?_
        refine lv_iload hx hb dX5_passArguments_21 (lv_at hl 0 rfl) ?_
        refine lv_iconst (v := 1) hx hb dX5_passArguments_23 (by decide) ?_
        have J_44 : ∀ (t_10 : Int64) (H : Heap) (locs : List Loc) (ls : Array Slot), va_P (gD g) cl0 ws_4 H → va_D A ws_4 → va_S A s.heap H locs → lv_has ls 5 [(0, .ref h0), (1, .int x1), (2, .int v2_1), (3, .int v3_2), (4, .int r_9)] → W p l e (headSpec (wt yX5_passArguments cX5_passArguments 5 none) ({ frames := 2, cells := 0, slots := 0, locals := 43 })).room s m ([.ref h0, .int x1] : List Value).toArray below meth c H locs (0) (0) (MQ below (va_Qv (fun (u9 : va_W) => True) (gQ1 g [(5, 19)] [(5, 8)] none A ws) A) ([.ref h0, .int x1] : List Value).toArray s (0) (0) A) (F0 m 44 ls [.long t_10, .int v2_1, .ref h0]) := by
          intro t_10 H locs ls  hP hD hS hl
          have hFc := gfree hD hS hA
          refine va_callv (va_runV (As := [.int v2_1, .long t_10]) (rest := []) ⟨hx, hb, hml, hown, hts⟩ (m_X5_setLocal l g H.size ws_4 h0 (v2_1) (t_10) hG o_h0) (cwV 2 hts (gd_V kw_1108 kw_1151 kw_1152 kw_398 kw_1150) rfl rfl rfl (by decide +kernel) ⟨Nat.le_of_ble_eq_true rfl, Nat.le_of_ble_eq_true rfl⟩) ⟨gblind, va_recv hK hP (ci := 5) (q0 := k_7) rfl hk_7, fun U hU hW9 => gmk hU hW9 hP hK hD hex hE hS hFc⟩ rfl rfl hl.1 rfl (lv_room (Nat.le_of_ble_eq_true rfl)) dX5_passArguments_44 ⟨Nat.le_of_ble_eq_true rfl, Nat.le_of_ble_eq_true rfl⟩) hS (fun q _ h => hFc q h) hFc (fun  ws_13 t9 H1 locs ht9 hvm9 hw9 hB9 hz9 hk9 hS => ?_)
          obtain ⟨E_14, Fr_15, hG, hP1, hD1⟩ := hB9
          have hP : va_P (gD g) cl0 ws_13 H1 := by rw [← ht9]; exact hP1
          have hD : va_D A ws_13 := hD1.weaken (fun _ _ _ h => hFc _ h)
          clear hP1 hD1 hz9 hk9 hvm9 ht9 hw9
          generalize H1 = H at hP hS ⊢
          have aa_18 := a_r1_7
          have aa_19 := a_r2_7
          have aa_20 := a_r4_7
          have aa_21 := a_r6_7
          have aa_22 := a_r8_7
          have aa_23 := a_r9_7
          have aa_24 := a_r10_7
          have o_h0 := E_14.1 _ _ o_h0
          refine lv_iload_n hx hb dX5_passArguments_47 rfl (lv_at hl 2 rfl) ?_
          refine lv_iload hx hb dX5_passArguments_48 (lv_at hl 4 rfl) ?_
          refine lv_iconst (v := 2) hx hb dX5_passArguments_50 (by decide) ?_
          have J_59 : ∀ (t_25 : Int32) (H : Heap) (locs : List Loc) (ls : Array Slot), 1 ≤ t_25.toInt ∧ t_25.toInt ≤ 2 → va_P (gD g) cl0 ws_13 H → va_D A ws_13 → va_S A s.heap H locs → lv_has ls 5 [(0, .ref h0), (1, .int x1), (3, .int v3_2)] → W p l e (headSpec (wt yX5_passArguments cX5_passArguments 5 none) ({ frames := 2, cells := 0, slots := 0, locals := 43 })).room s m ([.ref h0, .int x1] : List Value).toArray below meth c H locs (0) (0) (MQ below (va_Qv (fun (u9 : va_W) => True) (gQ1 g [(5, 19)] [(5, 8)] none A ws) A) ([.ref h0, .int x1] : List Value).toArray s (0) (0) A) (F0 m 59 ls [.int t_25, .int v2_1]) := by
            intro t_25 H locs ls iv_26 hP hD hS hl
            refine lv_iadd hx hb dX5_passArguments_59 ?_
            refine lv_topi (fun z_29 ez_29 => ?_)
            refine lv_istore_n (lv' := [(2, .int z_29), (0, .ref h0), (1, .int x1), (3, .int v3_2)]) hx hb dX5_passArguments_60 rfl hl (by decide) rfl (fun ls hl => ?_)
            obtain ⟨z_30, ez_30⟩ : ∃ z : Int32, v3_2 + Int32.ofInt 1 = z := ⟨_, rfl⟩
            refine lv_iinc (v := z_30) (lv' := [(3, .int z_30), (2, .int z_29), (0, .ref h0), (1, .int x1)]) hx hb dX5_passArguments_61 hl (k := 3) rfl ez_30 (by decide) rfl (fun ls hl => ?_)
            refine lv_goto (tgt := 4) hx hb dX5_passArguments_64 (by decide) ?_
            exact ih_4 _ (by obtain ⟨u_z_29, q_z_29⟩ := i_add ez_29; obtain ⟨u_z_30, q_z_30⟩ := i_iz ez_30 (by decide) (by decide); have q_iv_3 := iv_3; have q_c_8 := i_nle c_8; have q_iv_26 := iv_26; have g_c7_7 := i_rg c7_7; have g_t_25 := i_rg t_25; have g_v2_1 := i_rg v2_1; have g_v3_2 := i_rg v3_2; have g_z_29 := i_rg z_29; have g_z_30 := i_rg z_30; omega) (z_29) (z_30) ws_13 H locs ls rfl (by obtain ⟨u_z_30, q_z_30⟩ := i_iz ez_30 (by decide) (by decide); have q_iv_3 := iv_3; have q_c_8 := i_nle c_8; have g_c7_7 := i_rg c7_7; have g_v3_2 := i_rg v3_2; have g_z_30 := i_rg z_30; omega) ((E_5.tr E_14)) ((gF.tr Fr_6 Fr_15)) hG hP hD hS (lv_sub hl [2, 3, 1, 0] rfl)
          refine lv_icmp_ne (tgt := 58) hx hb dX5_passArguments_51 (by decide) (fun c_31 => ?_) (fun c_31 => ?_)
          · refine lv_iconst (v := 1) hx hb dX5_passArguments_58 (by decide) ?_
            exact J_59 (1) H locs ls (by have e1 : (1 : Int32).toInt = 1 := (by decide); have g_x1 := i_rg x1; omega) hP hD hS (lv_sub hl [0, 1, 3] rfl)
          · refine lv_iconst (v := 2) hx hb dX5_passArguments_54 (by decide) ?_
            refine lv_goto (tgt := 59) hx hb dX5_passArguments_55 (by decide) ?_
            exact J_59 (2) H locs ls (by have e2 : (2 : Int32).toInt = 2 := (by decide); have g_x1 := i_rg x1; omega) hP hD hS (lv_sub hl [0, 1, 3] rfl)
        refine lv_icmp_ne (tgt := 38) hx hb dX5_passArguments_24 (by decide) (fun c_32 => ?_) (fun c_32 => ?_)
        · refine lv_aload_n hx hb dX5_passArguments_38 rfl (lv_at hl 1 rfl) ?_
          refine va_get (D := gD g) (ci := 5) (v := .ref r6_7) (C := RX5) (T := TX5) (N := 20) hx hb hts inX5 hown hK hP k_7 hk_7 rfl 6 (by decide) (hts _ kw_1004) (fun _ h9 => h9) rfl dX5_passArguments_39 ?_
          refine lv_iload_n hx hb dX5_passArguments_42 rfl (lv_at hl 4 rfl) ?_
          obtain ⟨k_33, f_33, hk_33⟩ := gJ_of a_r6_7
          refine va_lald hx hb hK hP k_33 3 hk_33 rfl (i_in2 (by have q_iv_3 := iv_3; have q_f9_7 := f9_7; have q_f18_7 := f18_7; have q_c_8 := i_nle c_8; have q_f19_7 := f19_7; have q_f20_7 := f20_7; have g_c7_7 := i_rg c7_7; have g_v3_2 := i_rg v3_2; omega)) dX5_passArguments_43 ?_
          refine lv_topl (fun z_34 ez_34 => ?_)
          exact J_44 (z_34) H locs ls  hP hD hS (lv_sub hl [1, 2, 3, 4, 0] rfl)
        · refine lv_aload_n hx hb dX5_passArguments_27 rfl (lv_at hl 1 rfl) ?_
          refine va_get (D := gD g) (ci := 5) (v := .ref r6_7) (C := RX5) (T := TX5) (N := 20) hx hb hts inX5 hown hK hP k_7 hk_7 rfl 6 (by decide) (hts _ kw_1004) (fun _ h9 => h9) rfl dX5_passArguments_28 ?_
          refine lv_iload_n hx hb dX5_passArguments_31 rfl (lv_at hl 4 rfl) ?_
          obtain ⟨k_35, f_35, hk_35⟩ := gJ_of a_r6_7
          refine va_lald hx hb hK hP k_35 3 hk_35 rfl (i_in2 (by have q_iv_3 := iv_3; have q_f9_7 := f9_7; have q_f18_7 := f18_7; have q_c_8 := i_nle c_8; have q_f19_7 := f19_7; have q_f20_7 := f20_7; have g_c7_7 := i_rg c7_7; have g_v3_2 := i_rg v3_2; omega)) dX5_passArguments_32 ?_
          refine lv_topl (fun z_36 ez_36 => ?_)
          obtain ⟨z_37, ez_37⟩ : ∃ y : Int32, (z_36 : Int64).toInt32 = y := ⟨_, rfl⟩
          refine lv_l2i (v := z_37) hx hb dX5_passArguments_33 ez_37 ?_
          obtain ⟨z_38, ez_38⟩ : ∃ y : Int64, (z_37 : Int32).toInt64 = y := ⟨_, rfl⟩
          refine lv_i2l (v := z_38) hx hb dX5_passArguments_34 ez_38 ?_
          refine lv_goto (tgt := 44) hx hb dX5_passArguments_35 (by decide) ?_
          exact J_44 (z_38) H locs ls  hP hD hS (lv_sub hl [1, 2, 3, 4, 0] rfl)
  exact J_4 _ (0) (0) ws _ _ ls rfl (by have e0 : (0 : Int32).toInt = 0 := (by decide); omega) (gE.rf) (gF.rf) hG hP hD hS (lv_sub hl [2, 3, 1, 0] rfl)
