set_option maxHeartbeats 1000000 in
set_option maxRecDepth 100000 in
theorem m_X9_putCounters (l : Launch) (g : Gm) (H0 : Heap) (ws : va_W) (h0 : Nat) (b1 : Nat) (b2 : Nat) (x3 : Int32) (hG : Good g ws) (o_h0 : gC ws h0 8) (o_b1 : gC ws b1 7) (o_b2 : gC ws b2 3) (nn_b2_0 : gN ws b2 0) (fp_k : gP ws b2 (fun fs => ∀ c : Int32, fs[1]? = some (.int c) → ∀ (rn n : Nat), fs[8]? = some (.ref rn) → gI ws rn g.cZ n → c.toInt ≤ n)) (fp_s : gP ws b2 (fun fs => ∀ c : Int32, fs[1]? = some (.int c) → ∀ (rn n : Nat), fs[2]? = some (.ref rn) → gI ws rn g.cI n → c.toInt ≤ n)) (f2_r : ∀ (k k2 b : Nat) (fs gs : List Value), ows ws k h0 8 fs → fs[0]? = some (.ref b) → ows ws k2 b 7 gs → ∀ (ra a : Nat), fs[2]? = some (.ref ra) → gI ws ra g.cZ a → ∀ (rb b : Nat), fs[3]? = some (.ref rb) → gI ws rb g.cZ b → ∀ (rc c : Nat), fs[4]? = some (.ref rc) → gI ws rc g.cI c → ∀ (rd d : Nat), fs[5]? = some (.ref rd) → gI ws rd g.cI d → ∀ (rm m : Nat), gs[0]? = some (.ref rm) → gI ws rm g.cI m → m < 1296 ∨ (1297 ≤ a ∧ 1297 ≤ b ∧ 1297 ≤ c ∧ 1297 ≤ d)) : Met l yX9_putCounters (wt yX9_putCounters cX9_putCounters 8 none) ({ frames := 3, cells := PC ws + (12), slots := PS ws + (9059), locals := 56 }) (va_Pc [.ref h0, .ref b1, .ref b2, .int x3] (st_H g H0 ws)) (va_Qv (fun (u9 : va_W) => True) (gQ2 g [(7, 0), (7, 1), (7, 2), (7, 3), (7, 4), (7, 5), (7, 6), (7, 7), (7, 8), (7, 9), (7, 11), (8, 0), (8, 2), (8, 3), (8, 4), (8, 5)] [(7, 0), (7, 1), (7, 3), (7, 5), (7, 6), (7, 7), (7, 8), (8, 5)] none (va_A ws H0.size) ws H0 (12) (9059)) (va_A ws H0.size)) (PC ws + (12)) (PS ws + (9059)) (va_A ws H0.size) := by
  refine Met.ofW (cc := cX9_putCounters) (maxL := 8) (ret := none) (by decide) rfl ?_
  intro p e s m args below meth c s₁ B hml hv
  obtain ⟨rfl, hH0, hsz, hP, hK, hD0, hex, hE⟩ := hv
  have hx := B.exec
  have hb := B.bytes
  have hr := B.returns
  have hts0 := atoms_spec (ws := wt yX9_putCounters cX9_putCounters 8 none) B.pre
  have hts : ∀ w ∈ tb, w.before _ s = true := fun w h => hts0 w (List.mem_cons_of_mem _ h)
  have hown : s.vm.findClass RX9 = some m.cls := findClass_of_methodNamed B.named
  subst hH0
  have hD := hD0.self (sz := s.heap.size)
  generalize hAe : va_A ws s.heap.size = A at hD hE ⊢
  have hA : ∀ q : Nat, s.heap.size ≤ q → A q := fun q h => by rw [← hAe]; exact Or.inr h
  have hS : va_S A s.heap s.heap [] := va_S.rf
  have hl := lv_entry ([.ref h0, .ref b1, .ref b2, .int x3]) (n := 8) (Nat.le_of_ble_eq_true rfl)
  rw [lg_entry_eq]
  generalize (lg_sl ([.ref h0, .ref b1, .ref b2, .int x3]) ++ List.replicate (8 - (lg_sl ([.ref h0, .ref b1, .ref b2, .int x3])).length) Slot.unset).toArray = ls at hl ⊢
  have hl : lv_has ls 8 [(0, .ref h0), (1, .ref b1), (2, .ref b2), (3, .int x3)] := hl
  obtain ⟨k_1, fs9, hk_1⟩ := gC_of o_b2
  obtain ⟨v0_1, c1_1, r2_1, n2_1, r3_1, n3_1, r4_1, n4_1, r5_1, n5_1, r6_1, n6_1, r7_1, n7_1, r8_1, n8_1, r9_1, n9_1, c10_1, r11_1, n11_1, r12_1, n12_1, r13_1, n13_1, r14_1, n14_1, r15_1, n15_1, rfl, o_v0_1, a_r2_1, f2_1, a_r3_1, f4_1, a_r4_1, f6_1, a_r5_1, f8_1, a_r6_1, f10_1, a_r7_1, f12_1, a_r8_1, f14_1, a_r9_1, f16_1, a_r11_1, f18_1, a_r12_1, f20_1, a_r13_1, f22_1, a_r14_1, f24_1, a_r15_1, f26_1, f27_1, f28_1, f29_1, f30_1, f31_1, f32_1, f33_1, f34_1, f35_1, f36_1, f37_1, f38_1, -⟩ := (hG.1 _ _ _ _ hk_1).hX3 rfl
  have fq_k := fp_k _ _ _ hk_1 _ rfl _ _ rfl a_r8_1
  have fq_s := fp_s _ _ _ hk_1 _ rfl _ _ rfl a_r2_1
  obtain ⟨b_2, hn9⟩ := nn_b2_0 _ _ _ hk_1
  have hn9 := fe_qr hn9
  subst hn9
  have o_b_2 := o_v0_1 _ rfl
  obtain ⟨k_3, fs9, hk_3⟩ := gC_of o_h0
  obtain ⟨r0_3, r1_3, n1_3, r2_3, n2_3, r3_3, n3_3, r4_3, n4_3, r5_3, n5_3, rfl, o_r0_3, a_r1_3, f2_3, a_r2_3, f4_3, a_r3_3, f6_3, a_r4_3, f8_3, a_r5_3, f10_3, f11_3, -⟩ := (hG.1 _ _ _ _ hk_3).hX9 rfl
  obtain ⟨k_4, fs9, hk_4⟩ := gC_of o_r0_3
  obtain ⟨r0_4, n0_4, r1_4, n1_4, c2_4, r3_4, n3_4, c4_4, r5_4, n5_4, r6_4, n6_4, r7_4, n7_4, r8_4, n8_4, c9_4, c10_4, c11_4, v12_4, v13_4, v14_4, rfl, a_r0_4, f1_4, a_r1_4, f3_4, a_r3_4, f5_4, a_r5_4, f7_4, a_r6_4, f9_4, a_r7_4, f11_4, a_r8_4, f13_4, o_v12_4, o_v13_4, o_v14_4, f17_4, f18_4, f19_4, f20_4, f21_4, f22_4, f23_4, f24_4, f25_4, f26_4, f27_4, -⟩ := (hG.1 _ _ _ _ hk_4).hX8 rfl
  have fq2_r := f2_r _ _ _ _ _ hk_3 rfl hk_4 _ _ rfl a_r2_3 _ _ rfl a_r3_3 _ _ rfl a_r4_3 _ _ rfl a_r5_3 _ _ rfl a_r0_4
  refine lv_aload_n hx hb dX9_putCounters_0 rfl (lv_at hl 0 rfl) ?_
  refine lv_aload_n hx hb dX9_putCounters_1 rfl (lv_at hl 1 rfl) ?_
  have hFc := gfree hD hS hA
  refine W_led (fun hL0 => ?_)
  refine va_callv (va_runV (As := [.ref b1]) (rest := []) ⟨hx, hb, hml, hown, hts⟩ (m_X9_makeRoom l g s.heap ws h0 b1 hG o_h0 o_b1 (fun k9 k8 b9 fs gs e1 e2 e3 p90 m90 e50 g90 p91 m91 e51 g91 p92 m92 e52 g92 p93 m93 e53 g93 p80 m80 e60 g80 => by obtain rfl := gO_un hD hk_3 e1; cases e2; obtain rfl := gO_un hD hk_4 e3; cases e50; have z90 := gI_n hD a_r2_3 g90; subst z90; cases e51; have z91 := gI_n hD a_r3_3 g91; subst z91; cases e52; have z92 := gI_n hD a_r4_3 g92; subst z92; cases e53; have z93 := gI_n hD a_r5_3 g93; subst z93; cases e60; have z80 := gI_n hD a_r0_4 g80; subst z80; exact (by have q_f4_3 := f4_3; have q_f6_3 := f6_3; have q_f8_3 := f8_3; have q_f10_3 := f10_3; have q_f1_4 := f1_4; have q_f17_4 := f17_4; have q_f18_4 := f18_4; have q_f20_4 := f20_4; have q_fq2_r := fq2_r; have q_f3_4 := f3_4; have q_f19_4 := f19_4; have g_c2_4 := i_rg c2_4; omega))) (cwV 1 hts (gd_V kw_1680 kw_1685 kw_1686 kw_404 kw_1684) rfl rfl rfl (by decide +kernel) ⟨Nat.le_of_ble_eq_true rfl, Nat.le_of_ble_eq_true rfl⟩) ⟨gblindH, va_recv hK hP (ci := 8) (q0 := k_3) rfl hk_3, fun U hU hW9 => gmkH hU hW9 hP hK hD hex hE hS hFc⟩ rfl rfl hl.1 rfl (lv_room (Nat.le_of_ble_eq_true rfl)) dX9_putCounters_2 ⟨(show 0 + (PC ws + (12)) ≤ PC ws + (12) from (by have e0 : (0 : Int32).toInt = 0 := (by decide); have e12 : (12 : Int32).toInt = 12 := (by decide); have e9059 : (9059 : Int32).toInt = 9059 := (by decide); omega)), (show 0 + (PS ws + (9059)) ≤ PS ws + (9059) from (by have e0 : (0 : Int32).toInt = 0 := (by decide); have e12 : (12 : Int32).toInt = 12 := (by decide); have e9059 : (9059 : Int32).toInt = 9059 := (by decide); omega))⟩) hS (fun q _ h => hFc q h) hFc (fun  ws_5 t9 H1 locs ht9 hvm9 hw9 hB9 hz9 hk9 hS => ?_)
  obtain ⟨E_6, Fr_7, hG, hP1, hD1, dc_8, ds_9, hLd, hdc_8, hds_9⟩ := hB9
  rw [ht9] at hLd
  refine W_tight (hL0.tr hLd).1 (hL0.tr hLd).2.1 ?_
  clear hL0 hLd
  have hP : va_P (gD g) cl0 ws_5 H1 := by rw [← ht9]; exact hP1
  have hD : va_D A ws_5 := hD1.weaken (fun _ _ _ h => hFc _ h)
  obtain ⟨kf_10, kf_11, kf_12, kf_13⟩ := id hw9
  clear hP1 hD1 hz9 hk9 hvm9 ht9 hw9
  generalize H1 = H at hP hS ⊢
  have aa_14 := a_r2_1
  have aa_15 := a_r3_1
  have aa_16 := a_r4_1
  have aa_17 := a_r5_1
  have aa_18 := a_r6_1
  have aa_19 := a_r7_1
  have aa_20 := a_r8_1
  have aa_21 := a_r9_1
  have aa_22 := a_r11_1
  have aa_23 := a_r12_1
  have aa_24 := a_r13_1
  have aa_25 := a_r14_1
  have aa_26 := a_r15_1
  have aa_27 := a_r1_3
  have aa_28 := a_r2_3
  have aa_29 := a_r3_3
  have aa_30 := a_r4_3
  have aa_31 := a_r5_3
  have aa_32 := a_r0_4
  have aa_33 := a_r1_4
  have aa_34 := a_r3_4
  have aa_35 := a_r5_4
  have aa_36 := a_r6_4
  have aa_37 := a_r7_4
  have aa_38 := a_r8_4
  have o_h0 := E_6.1 _ _ o_h0
  have o_b1 := E_6.1 _ _ o_b1
  have o_b2 := E_6.1 _ _ o_b2
  refine lv_aload_n hx hb dX9_putCounters_5 rfl (lv_at hl 0 rfl) ?_
  obtain ⟨fs9, hk_39, hq_39⟩ := ((gF.a (F' := [(7, 0), (7, 1), (7, 3), (7, 5), (7, 6), (7, 7), (7, 8), (7, 11), (8, 0), (8, 2), (8, 3), (8, 4), (8, 5)]) Fr_7 (fun _ h => h))) _ _ _ hk_3
  obtain ⟨r0_39, r1_39, n1_39, r2_39, n2_39, r3_39, n3_39, r4_39, n4_39, r5_39, n5_39, rfl, o_r0_39, a_r1_39, f2_39, a_r2_39, f4_39, a_r3_39, f6_39, a_r4_39, f8_39, a_r5_39, f10_39, f11_39, -⟩ := (hG.1 _ _ _ _ hk_39).hX9 rfl
  have kq_40 := kf_10 _ _ _ hk_39 _ _ rfl a_r2_39
  have kq_41 := kf_11 _ _ _ hk_39 _ _ rfl a_r3_39
  have kq_42 := kf_12 _ _ _ hk_39 _ _ rfl a_r4_39
  have kq_43 := kf_13 _ _ _ hk_39 _ _ rfl a_r5_39
  refine va_get (D := gD g) (ci := 8) (v := .ref r0_39) (C := RX9) (T := TX9) (N := 6) hx hb hts inX9 hown hK hP k_3 hk_39 rfl 0 (by decide) (hts _ kw_1552) (fun _ h9 => h9) rfl dX9_putCounters_6 ?_
  refine lv_iconst (v := 0) hx hb dX9_putCounters_9 (by decide) ?_
  obtain ⟨k_44, fs9, hk_44⟩ := gC_of o_r0_39
  obtain ⟨r0_44, n0_44, r1_44, n1_44, c2_44, r3_44, n3_44, c4_44, r5_44, n5_44, r6_44, n6_44, r7_44, n7_44, r8_44, n8_44, c9_44, c10_44, c11_44, v12_44, v13_44, v14_44, rfl, a_r0_44, f1_44, a_r1_44, f3_44, a_r3_44, f5_44, a_r5_44, f7_44, a_r6_44, f9_44, a_r7_44, f11_44, a_r8_44, f13_44, o_v12_44, o_v13_44, o_v14_44, f17_44, f18_44, f19_44, f20_44, f21_44, f22_44, f23_44, f24_44, f25_44, f26_44, f27_44, -⟩ := (hG.1 _ _ _ _ hk_44).hX8 rfl
  have hV9 : okv ws_5 7 2 (.int 0) := okv_i
  refine va_put (D := gD g) (ci := 7) (v := .int 0) (ty := .int) (C := RX8) (T := TX8) (N := 15) hx hb hts inX8 tyX8 tyX8_ok nmX8 hown hK hP hD hS k_44 hk_44 rfl 2 (by decide) (hts _ kw_1553) (fun _ h9 => h9) rfl (by decide +kernel) rfl rfl (Nat.le_of_ble_eq_true rfl) dX9_putCounters_10 (fun H locs hP hD hS => ?_)
  have f_45 : 0 ≤ (0 : Int32).toInt := (by have e0 : (0 : Int32).toInt = 0 := (by decide); omega)
  have f_46 : (0 : Int32).toInt ≤ n0_44 := (by have e0 : (0 : Int32).toInt = 0 := (by decide); have q_f1_44 := f1_44; have q_f17_44 := f17_44; have q_f18_44 := f18_44; have q_f20_44 := f20_44; have q_f_45 := f_45; have q_f3_44 := f3_44; have q_f19_44 := f19_44; have g_c2_44 := i_rg c2_44; omega)
  have hi_47 : invX8 g ws_5 r0_39 [.ref r0_44, .ref r1_44, .int 0, .ref r3_44, .int c4_44, .ref r5_44, .ref r6_44, .ref r7_44, .ref r8_44, .int c9_44, .int c10_44, .int c11_44, va_rf v12_44, va_rf v13_44, va_rf v14_44] := ⟨r0_44, (n0_44), r1_44, (n1_44), (0), r3_44, (n3_44), (c4_44), r5_44, (n5_44), r6_44, (n6_44), r7_44, (n7_44), r8_44, (n8_44), (c9_44), (c10_44), (c11_44), v12_44, v13_44, v14_44, rfl, a_r0_44, f1_44, a_r1_44, f3_44, a_r3_44, f5_44, a_r5_44, f7_44, a_r6_44, f9_44, a_r7_44, f11_44, a_r8_44, f13_44, o_v12_44, o_v13_44, o_v14_44, f17_44, f18_44, f_45, f_46, f21_44, f22_44, f23_44, f24_44, f25_44, f26_44, f27_44, trivial⟩
  obtain ⟨ws_48, e_ws_48⟩ : ∃ z, z = ws_5.set k_44 (r0_39, .inr (7, [.ref r0_44, .ref r1_44, .int 0, .ref r3_44, .int c4_44, .ref r5_44, .ref r6_44, .ref r7_44, .ref r8_44, .int c9_44, .int c10_44, .int c11_44, va_rf v12_44, va_rf v13_44, va_rf v14_44])) := ⟨_, rfl⟩
  have hP : va_P (gD g) cl0 ws_48 H := by rw [e_ws_48]; exact hP
  have hD : va_D A ws_48 := by rw [e_ws_48]; exact hD
  have E_49 : gE ws_5 ws_48 := gE_set e_ws_48 hk_44 (cw_o (fi := 2) (v := .int 0) rfl (by decide))
  have hG : Good g ws_48 := Good_set (fi := 2) (v := .int 0) e_ws_48 hk_44 E_49 rfl hV9 hG (ivX8 hi_47)
  have Fr_50 : gF [(7, 2)] [] (some r0_39) ws_5 ws_48 := gF_put (fi := 2) (v := .int 0) e_ws_48 hk_44 rfl (by decide)
  have pp_51 := Fr_50.pp
  have hkN := gset_self e_ws_48 hk_44
  have hk_39 := gset_ob e_ws_48 hk_44 hk_39 (by decide)
  have hk_44 := hkN
  have o_h0 := E_49.1 _ _ o_h0
  have o_b1 := E_49.1 _ _ o_b1
  have o_b2 := E_49.1 _ _ o_b2
  have o_r0_39 := E_49.1 _ _ o_r0_39
  have a_r1_39 := E_49.1 _ _ a_r1_39
  have a_r2_39 := E_49.1 _ _ a_r2_39
  have a_r3_39 := E_49.1 _ _ a_r3_39
  have a_r4_39 := E_49.1 _ _ a_r4_39
  have a_r5_39 := E_49.1 _ _ a_r5_39
  have a_r0_44 := E_49.1 _ _ a_r0_44
  have a_r1_44 := E_49.1 _ _ a_r1_44
  have a_r3_44 := E_49.1 _ _ a_r3_44
  have a_r5_44 := E_49.1 _ _ a_r5_44
  have a_r6_44 := E_49.1 _ _ a_r6_44
  have a_r7_44 := E_49.1 _ _ a_r7_44
  have a_r8_44 := E_49.1 _ _ a_r8_44
  have o_v12_44 : ∀ b, v12_44 = some b → ∃ n, gI ws_48 b g.cB n ∧ n < 2147483648 := fun b h => (o_v12_44 b h).imp (fun n h => ⟨E_49.1 _ _ h.1, h.2⟩)
  have o_v13_44 : ∀ b, v13_44 = some b → ∃ n, gJ ws_48 b g.cL n ∧ n < 2147483648 := fun b h => (o_v13_44 b h).imp (fun n h => ⟨E_49.1 _ _ h.1, h.2⟩)
  have o_v14_44 : ∀ b, v14_44 = some b → ∃ n, gJ ws_48 b g.cL n ∧ n < 2147483648 := fun b h => (o_v14_44 b h).imp (fun n h => ⟨E_49.1 _ _ h.1, h.2⟩)
  refine lv_iload_n hx hb dX9_putCounters_13 rfl (lv_at hl 3 rfl) ?_
  refine lv_istore (lv' := [(4, .int x3), (0, .ref h0), (1, .ref b1), (2, .ref b2), (3, .int x3)]) hx hb dX9_putCounters_14 hl (by decide) rfl (fun ls hl => ?_)
  refine lv_iconst (v := 0) hx hb dX9_putCounters_16 (by decide) ?_
  refine lv_istore (lv' := [(5, .int 0), (4, .int x3), (0, .ref h0), (1, .ref b1), (2, .ref b2), (3, .int x3)]) hx hb dX9_putCounters_17 hl (by decide) rfl (fun ls hl => ?_)
  have J_19 : ∀ (n9 : Nat) (v4_52 : Int32) (v5_53 : Int32) (dc_19_1 : Nat) (ds_19_1 : Nat) (ws_55 : va_W) (H : Heap) (locs : List Loc) (ls : Array Slot), (2147483647 - v5_53.toInt).toNat = n9 → 0 ≤ v5_53.toInt → gE ws_48 ws_55 → gF [(7, 2)] [(7, 0), (7, 1), (8, 5)] none ws_48 ws_55 → Good g ws_55 → dc_19_1 + PC ws_55 ≤ PC ws + (12) → ds_19_1 + PS ws_55 ≤ PS ws + (9059) → va_P (gD g) cl0 ws_55 H → va_D A ws_55 → va_S A s.heap H locs → lv_has ls 8 [(0, .ref h0), (1, .ref b1), (2, .ref b2), (4, .int v4_52), (5, .int v5_53)] → W p l e (headSpec (wt yX9_putCounters cX9_putCounters 8 none) ({ frames := 3, cells := PC ws + (12), slots := PS ws + (9059), locals := 56 })).room s m ([.ref h0, .ref b1, .ref b2, .int x3] : List Value).toArray below meth c H locs (dc_19_1) (ds_19_1) (MQ below (va_Qv (fun (u9 : va_W) => True) (gQ2 g [(7, 0), (7, 1), (7, 2), (7, 3), (7, 4), (7, 5), (7, 6), (7, 7), (7, 8), (7, 9), (7, 11), (8, 0), (8, 2), (8, 3), (8, 4), (8, 5)] [(7, 0), (7, 1), (7, 3), (7, 5), (7, 6), (7, 7), (7, 8), (8, 5)] none A ws s.heap (12) (9059)) A) ([.ref h0, .ref b1, .ref b2, .int x3] : List Value).toArray s (PC ws + (12)) (PS ws + (9059)) A) (F0 m 19 ls []) := by
    intro n9
    induction n9 using Nat.strongRecOn with
    | ind n9 ih_19 =>
      intro v4_52 v5_53 dc_19_1 ds_19_1 ws_55 H locs ls hm9 iv_54 E_56 Fr_57 hG hc9 hs9 hP hD hS hl
      subst hm9
      have aa_58 := a_r1_39
      have aa_59 := a_r2_39
      have aa_60 := a_r3_39
      have aa_61 := a_r4_39
      have aa_62 := a_r5_39
      have aa_63 := a_r0_44
      have aa_64 := a_r1_44
      have aa_65 := a_r3_44
      have aa_66 := a_r5_44
      have aa_67 := a_r6_44
      have aa_68 := a_r7_44
      have aa_69 := a_r8_44
      have o_h0 := E_56.1 _ _ o_h0
      have o_b1 := E_56.1 _ _ o_b1
      have o_b2 := E_56.1 _ _ o_b2
      refine lv_iload hx hb dX9_putCounters_19 (lv_at hl 4 rfl) ?_
      refine lv_aload_n hx hb dX9_putCounters_21 rfl (lv_at hl 1 rfl) ?_
      obtain ⟨k_70, fs9, hk_70⟩ := gC_of o_b1
      obtain ⟨r0_70, n0_70, r1_70, n1_70, c2_70, r3_70, n3_70, c4_70, r5_70, n5_70, r6_70, n6_70, r7_70, n7_70, r8_70, n8_70, c9_70, c10_70, c11_70, v12_70, v13_70, v14_70, rfl, a_r0_70, f1_70, a_r1_70, f3_70, a_r3_70, f5_70, a_r5_70, f7_70, a_r6_70, f9_70, a_r7_70, f11_70, a_r8_70, f13_70, o_v12_70, o_v13_70, o_v14_70, f17_70, f18_70, f19_70, f20_70, f21_70, f22_70, f23_70, f24_70, f25_70, f26_70, f27_70, -⟩ := (hG.1 _ _ _ _ hk_70).hX8 rfl
      refine va_get (D := gD g) (ci := 7) (v := .int c2_70) (C := RX8) (T := TX8) (N := 15) hx hb hts inX8 hown hK hP k_70 hk_70 rfl 2 (by decide) (hts _ kw_1553) (fun _ h9 => h9) rfl dX9_putCounters_22 ?_
      have J_139 : ∀ (dc_139_2 : Nat) (ds_139_2 : Nat) (H : Heap) (locs : List Loc) (ls : Array Slot), dc_139_2 + PC ws_55 ≤ PC ws + (12) → ds_139_2 + PS ws_55 ≤ PS ws + (9059) → va_P (gD g) cl0 ws_55 H → va_D A ws_55 → va_S A s.heap H locs → lv_has ls 8 [(0, .ref h0), (1, .ref b1)] → W p l e (headSpec (wt yX9_putCounters cX9_putCounters 8 none) ({ frames := 3, cells := PC ws + (12), slots := PS ws + (9059), locals := 56 })).room s m ([.ref h0, .ref b1, .ref b2, .int x3] : List Value).toArray below meth c H locs (dc_139_2) (ds_139_2) (MQ below (va_Qv (fun (u9 : va_W) => True) (gQ2 g [(7, 0), (7, 1), (7, 2), (7, 3), (7, 4), (7, 5), (7, 6), (7, 7), (7, 8), (7, 9), (7, 11), (8, 0), (8, 2), (8, 3), (8, 4), (8, 5)] [(7, 0), (7, 1), (7, 3), (7, 5), (7, 6), (7, 7), (7, 8), (8, 5)] none A ws s.heap (12) (9059)) A) ([.ref h0, .ref b1, .ref b2, .int x3] : List Value).toArray s (PC ws + (12)) (PS ws + (9059)) A) (F0 m 139 ls []) := by
        intro dc_139_2 ds_139_2 H locs ls  hc9 hs9 hP hD hS hl
        refine lv_aload_n hx hb dX9_putCounters_139 rfl (lv_at hl 0 rfl) ?_
        obtain ⟨fs9, hk_73, hq_73⟩ := ((gF.a (F' := [(7, 2)]) Fr_57 (fun _ h => h))) _ _ _ hk_39
        obtain ⟨r0_73, r1_73, n1_73, r2_73, n2_73, r3_73, n3_73, r4_73, n4_73, r5_73, n5_73, rfl, o_r0_73, a_r1_73, f2_73, a_r2_73, f4_73, a_r3_73, f6_73, a_r4_73, f8_73, a_r5_73, f10_73, f11_73, -⟩ := (hG.1 _ _ _ _ hk_73).hX9 rfl
        obtain rfl := fe_r (hq_73 0 (by decide))
        have o_r0_39 := o_r0_73
        obtain rfl := fe_r (hq_73 2 (by decide))
        have hn9 := gI_n hD ((E_56).1 _ _ aa_59) a_r2_73
        subst hn9
        have a_r2_39 := a_r2_73
        obtain rfl := fe_r (hq_73 3 (by decide))
        have hn9 := gI_n hD ((E_56).1 _ _ aa_60) a_r3_73
        subst hn9
        have a_r3_39 := a_r3_73
        obtain rfl := fe_r (hq_73 4 (by decide))
        have hn9 := gI_n hD ((E_56).1 _ _ aa_61) a_r4_73
        subst hn9
        have a_r4_39 := a_r4_73
        obtain rfl := fe_r (hq_73 5 (by decide))
        have hn9 := gI_n hD ((E_56).1 _ _ aa_62) a_r5_73
        subst hn9
        have a_r5_39 := a_r5_73
        refine va_get (D := gD g) (ci := 8) (v := .ref r5_39) (C := RX9) (T := TX9) (N := 6) hx hb hts inX9 hown hK hP k_3 hk_73 rfl 5 (by decide) (hts _ kw_1592) (fun _ h9 => h9) rfl dX9_putCounters_140 ?_
        refine lv_aload_n hx hb dX9_putCounters_143 rfl (lv_at hl 1 rfl) ?_
        refine va_get (D := gD g) (ci := 7) (v := .int c2_70) (C := RX8) (T := TX8) (N := 15) hx hb hts inX8 hown hK hP k_70 hk_70 rfl 2 (by decide) (hts _ kw_1553) (fun _ h9 => h9) rfl dX9_putCounters_144 ?_
        refine lv_aload_n hx hb dX9_putCounters_147 rfl (lv_at hl 0 rfl) ?_
        refine va_get (D := gD g) (ci := 8) (v := .ref r5_39) (C := RX9) (T := TX9) (N := 6) hx hb hts inX9 hown hK hP k_3 hk_73 rfl 5 (by decide) (hts _ kw_1592) (fun _ h9 => h9) rfl dX9_putCounters_148 ?_
        obtain ⟨k_74, f_74, hk_74⟩ := gI_of a_r5_39
        obtain ⟨z_75, ez_75⟩ : ∃ z : Int32, Int32.ofNat n5_39 = z := ⟨_, rfl⟩
        refine va_alen (v := z_75) hx hb hK hP k_74 1 hk_74 rfl ez_75 dX9_putCounters_151 ?_
        refine lv_iconst (v := 1) hx hb dX9_putCounters_152 (by decide) ?_
        refine lv_isub hx hb dX9_putCounters_153 ?_
        refine lv_topi (fun z_76 ez_76 => ?_)
        refine va_mmin hx hb (by rw [hml]; exact hl.1.symm) hown (hts _ kw_1704) (hts _ kw_1750) (hts _ kw_1748) (hts _ kw_1749) (Nat.le_of_ble_eq_true rfl) (Nat.le_of_ble_eq_true rfl) (show dc_139_2 ≤ PC ws + (12) from (by have e0 : (0 : Int32).toInt = 0 := (by decide); have q_f_45 := f_45; omega)) (show ds_139_2 ≤ PS ws + (9059) from (by have e0 : (0 : Int32).toInt = 0 := (by decide); have q_f_45 := f_45; omega)) dX9_putCounters_154 ?_
        refine lv_topi (fun z_77 ez_77 => ?_)
        refine lv_aload_n hx hb dX9_putCounters_157 rfl (lv_at hl 0 rfl) ?_
        refine va_get (D := gD g) (ci := 8) (v := .ref r0_39) (C := RX9) (T := TX9) (N := 6) hx hb hts inX9 hown hK hP k_3 hk_73 rfl 0 (by decide) (hts _ kw_1552) (fun _ h9 => h9) rfl dX9_putCounters_158 ?_
        obtain ⟨fs9, hk_78, hq_78⟩ := ((gF.a (F' := [(7, 2)]) Fr_57 (fun _ h => h))) _ _ _ hk_44
        obtain ⟨r0_78, n0_78, r1_78, n1_78, c2_78, r3_78, n3_78, c4_78, r5_78, n5_78, r6_78, n6_78, r7_78, n7_78, r8_78, n8_78, c9_78, c10_78, c11_78, v12_78, v13_78, v14_78, rfl, a_r0_78, f1_78, a_r1_78, f3_78, a_r3_78, f5_78, a_r5_78, f7_78, a_r6_78, f9_78, a_r7_78, f11_78, a_r8_78, f13_78, o_v12_78, o_v13_78, o_v14_78, f17_78, f18_78, f19_78, f20_78, f21_78, f22_78, f23_78, f24_78, f25_78, f26_78, f27_78, -⟩ := (hG.1 _ _ _ _ hk_78).hX8 rfl
        obtain rfl := fe_r (hq_78 3 (by decide))
        have hn9 := gI_n hD ((E_56).1 _ _ aa_65) a_r3_78
        subst hn9
        have a_r3_44 := a_r3_78
        obtain rfl := fe_i (hq_78 4 (by decide))
        obtain rfl := fe_r (hq_78 5 (by decide))
        have hn9 := gI_n hD ((E_56).1 _ _ aa_66) a_r5_78
        subst hn9
        have a_r5_44 := a_r5_78
        obtain rfl := fe_r (hq_78 6 (by decide))
        have hn9 := gI_n hD ((E_56).1 _ _ aa_67) a_r6_78
        subst hn9
        have a_r6_44 := a_r6_78
        obtain rfl := fe_r (hq_78 7 (by decide))
        have hn9 := gI_n hD ((E_56).1 _ _ aa_68) a_r7_78
        subst hn9
        have a_r7_44 := a_r7_78
        obtain rfl := fe_r (hq_78 8 (by decide))
        have hn9 := gI_n hD ((E_56).1 _ _ aa_69) a_r8_78
        subst hn9
        have a_r8_44 := a_r8_78
        obtain rfl := fe_i (hq_78 9 (by decide))
        refine va_get (D := gD g) (ci := 7) (v := .int c2_78) (C := RX8) (T := TX8) (N := 15) hx hb hts inX8 hown hK hP k_44 hk_78 rfl 2 (by decide) (hts _ kw_1553) (fun _ h9 => h9) rfl dX9_putCounters_161 ?_
        have hC9 : hol ws_55 r5_39 [(8, 5)] := (hol_u hG.u hk_73 (j := 5) rfl a_r5_39 (by decide))
        have hS9 : holS ws_55 r5_39 none := holS_n
        refine va_iast hx hb hK hP hD hS k_74 1 hk_74 rfl (i_in2 (by have e0 : (0 : Int32).toInt = 0 := (by decide); have e1 : (1 : Int32).toInt = 1 := (by decide); have q_f10_39 := f10_39; have q_kq_43 := kq_43; have q_f_45 := f_45; have q_z_75 := i_len ez_75 f10_73; have q_z_77 := i_min ez_77; have q_f19_70 := f19_70; have q_f20_70 := f20_70; obtain ⟨u_z_76, q_z_76⟩ := i_sub ez_76; have q_f1_70 := f1_70; have q_f17_70 := f17_70; have q_f18_70 := f18_70; have g_c2_70 := i_rg c2_70; have g_z_75 := i_rg z_75; have g_z_76 := i_rg z_76; have g_z_77 := i_rg z_77; omega)) dX9_putCounters_164 (fun H locs hP hD hS => ?_)
        obtain ⟨ws_79, e_ws_79⟩ : ∃ z, z = ws_55.set k_74 (r5_39, .inl (g.cI, n5_39, .inl (upd f_74 (z_77 : Int32).toNatClampNeg c2_78))) := ⟨_, rfl⟩
        have hP : va_P (gD g) cl0 ws_79 H := by rw [e_ws_79]; exact hP
        have hD : va_D A ws_79 := by rw [e_ws_79]; exact hD
        have E_80 : gE ws_55 ws_79 := gE_ari e_ws_79 hk_74
        have hG : Good g ws_79 := Good_arI e_ws_79 hk_74 hG
        have Fr_81 : gF [] [(8, 5)] none ws_55 ws_79 := gF_ar e_ws_79 hk_74 rfl hC9 hS9
        have pp_82 := Fr_81.pp
        have hk_70 := gset_arO e_ws_79 hk_74 hk_70
        have hk_73 := gset_arO e_ws_79 hk_74 hk_73
        have hk_78 := gset_arO e_ws_79 hk_74 hk_78
        have o_h0 := E_80.1 _ _ o_h0
        have o_b1 := E_80.1 _ _ o_b1
        have a_r0_70 := E_80.1 _ _ a_r0_70
        have a_r1_70 := E_80.1 _ _ a_r1_70
        have a_r3_70 := E_80.1 _ _ a_r3_70
        have a_r5_70 := E_80.1 _ _ a_r5_70
        have a_r6_70 := E_80.1 _ _ a_r6_70
        have a_r7_70 := E_80.1 _ _ a_r7_70
        have a_r8_70 := E_80.1 _ _ a_r8_70
        have o_v12_70 : ∀ b, v12_70 = some b → ∃ n, gI ws_79 b g.cB n ∧ n < 2147483648 := fun b h => (o_v12_70 b h).imp (fun n h => ⟨E_80.1 _ _ h.1, h.2⟩)
        have o_v13_70 : ∀ b, v13_70 = some b → ∃ n, gJ ws_79 b g.cL n ∧ n < 2147483648 := fun b h => (o_v13_70 b h).imp (fun n h => ⟨E_80.1 _ _ h.1, h.2⟩)
        have o_v14_70 : ∀ b, v14_70 = some b → ∃ n, gJ ws_79 b g.cL n ∧ n < 2147483648 := fun b h => (o_v14_70 b h).imp (fun n h => ⟨E_80.1 _ _ h.1, h.2⟩)
        have a_r1_73 := E_80.1 _ _ a_r1_73
        have o_r0_39 := E_80.1 _ _ o_r0_39
        have a_r2_39 := E_80.1 _ _ a_r2_39
        have a_r3_39 := E_80.1 _ _ a_r3_39
        have a_r4_39 := E_80.1 _ _ a_r4_39
        have a_r5_39 := E_80.1 _ _ a_r5_39
        have a_r0_78 := E_80.1 _ _ a_r0_78
        have a_r1_78 := E_80.1 _ _ a_r1_78
        have o_v12_78 : ∀ b, v12_78 = some b → ∃ n, gI ws_79 b g.cB n ∧ n < 2147483648 := fun b h => (o_v12_78 b h).imp (fun n h => ⟨E_80.1 _ _ h.1, h.2⟩)
        have o_v13_78 : ∀ b, v13_78 = some b → ∃ n, gJ ws_79 b g.cL n ∧ n < 2147483648 := fun b h => (o_v13_78 b h).imp (fun n h => ⟨E_80.1 _ _ h.1, h.2⟩)
        have o_v14_78 : ∀ b, v14_78 = some b → ∃ n, gJ ws_79 b g.cL n ∧ n < 2147483648 := fun b h => (o_v14_78 b h).imp (fun n h => ⟨E_80.1 _ _ h.1, h.2⟩)
        have a_r3_44 := E_80.1 _ _ a_r3_44
        have a_r5_44 := E_80.1 _ _ a_r5_44
        have a_r6_44 := E_80.1 _ _ a_r6_44
        have a_r7_44 := E_80.1 _ _ a_r7_44
        have a_r8_44 := E_80.1 _ _ a_r8_44
        refine lv_aload_n hx hb dX9_putCounters_165 rfl (lv_at hl 0 rfl) ?_
        refine va_get (D := gD g) (ci := 8) (v := .ref r0_39) (C := RX9) (T := TX9) (N := 6) hx hb hts inX9 hown hK hP k_3 hk_73 rfl 0 (by decide) (hts _ kw_1552) (fun _ h9 => h9) rfl dX9_putCounters_166 ?_
        refine lv_iconst (v := 0) hx hb dX9_putCounters_169 (by decide) ?_
        have hV9 : okv ws_79 7 4 (.int 0) := okv_i
        refine va_put (D := gD g) (ci := 7) (v := .int 0) (ty := .int) (C := RX8) (T := TX8) (N := 15) hx hb hts inX8 tyX8 tyX8_ok nmX8 hown hK hP hD hS k_44 hk_78 rfl 4 (by decide) (hts _ kw_1705) (fun _ h9 => h9) rfl (by decide +kernel) rfl rfl (Nat.le_of_ble_eq_true rfl) dX9_putCounters_170 (fun H locs hP hD hS => ?_)
        have f_83 : 0 ≤ (0 : Int32).toInt := (by have e0 : (0 : Int32).toInt = 0 := (by decide); have q_f_45 := f_45; omega)
        have f_84 : (0 : Int32).toInt ≤ n3_44 := (by have e0 : (0 : Int32).toInt = 0 := (by decide); have q_f5_44 := f5_44; have q_f22_44 := f22_44; have q_f_45 := f_45; have q_f_83 := f_83; have q_f21_44 := f21_44; have g_c4_44 := i_rg c4_44; omega)
        have hi_85 : invX8 g ws_79 r0_39 [.ref r0_78, .ref r1_78, .int c2_78, .ref r3_44, .int 0, .ref r5_44, .ref r6_44, .ref r7_44, .ref r8_44, .int c9_44, .int c10_78, .int c11_78, va_rf v12_78, va_rf v13_78, va_rf v14_78] := ⟨r0_78, (n0_78), r1_78, (n1_78), (c2_78), r3_44, (n3_44), (0), r5_44, (n5_44), r6_44, (n6_44), r7_44, (n7_44), r8_44, (n8_44), (c9_44), (c10_78), (c11_78), v12_78, v13_78, v14_78, rfl, a_r0_78, f1_78, a_r1_78, f3_78, a_r3_44, f5_78, a_r5_44, f7_78, a_r6_44, f9_78, a_r7_44, f11_78, a_r8_44, f13_78, o_v12_78, o_v13_78, o_v14_78, f17_78, f18_78, f19_78, f20_78, f_83, f_84, f23_78, f24_78, f25_78, f26_78, f27_78, trivial⟩
        obtain ⟨ws_86, e_ws_86⟩ : ∃ z, z = ws_79.set k_44 (r0_39, .inr (7, [.ref r0_78, .ref r1_78, .int c2_78, .ref r3_44, .int 0, .ref r5_44, .ref r6_44, .ref r7_44, .ref r8_44, .int c9_44, .int c10_78, .int c11_78, va_rf v12_78, va_rf v13_78, va_rf v14_78])) := ⟨_, rfl⟩
        have hP : va_P (gD g) cl0 ws_86 H := by rw [e_ws_86]; exact hP
        have hD : va_D A ws_86 := by rw [e_ws_86]; exact hD
        have E_87 : gE ws_79 ws_86 := gE_set e_ws_86 hk_78 (cw_o (fi := 4) (v := .int 0) rfl (by decide))
        have hG : Good g ws_86 := Good_set (fi := 4) (v := .int 0) e_ws_86 hk_78 E_87 rfl hV9 hG (ivX8 hi_85)
        have Fr_88 : gF [(7, 4)] [] (some r0_39) ws_79 ws_86 := gF_put (fi := 4) (v := .int 0) e_ws_86 hk_78 rfl (by decide)
        have pp_89 := Fr_88.pp
        have hkN := gset_self e_ws_86 hk_78
        have aa_90 := a_r0_70
        have aa_91 := a_r1_70
        have aa_92 := a_r3_70
        have aa_93 := a_r5_70
        have aa_94 := a_r6_70
        have aa_95 := a_r7_70
        have aa_96 := a_r8_70
        have hk_73 := gset_ob e_ws_86 hk_78 hk_73 (by decide)
        have hk_78 := hkN
        have o_h0 := E_87.1 _ _ o_h0
        have o_b1 := E_87.1 _ _ o_b1
        have a_r1_73 := E_87.1 _ _ a_r1_73
        have o_r0_39 := E_87.1 _ _ o_r0_39
        have a_r2_39 := E_87.1 _ _ a_r2_39
        have a_r3_39 := E_87.1 _ _ a_r3_39
        have a_r4_39 := E_87.1 _ _ a_r4_39
        have a_r5_39 := E_87.1 _ _ a_r5_39
        have a_r0_78 := E_87.1 _ _ a_r0_78
        have a_r1_78 := E_87.1 _ _ a_r1_78
        have o_v12_78 : ∀ b, v12_78 = some b → ∃ n, gI ws_86 b g.cB n ∧ n < 2147483648 := fun b h => (o_v12_78 b h).imp (fun n h => ⟨E_87.1 _ _ h.1, h.2⟩)
        have o_v13_78 : ∀ b, v13_78 = some b → ∃ n, gJ ws_86 b g.cL n ∧ n < 2147483648 := fun b h => (o_v13_78 b h).imp (fun n h => ⟨E_87.1 _ _ h.1, h.2⟩)
        have o_v14_78 : ∀ b, v14_78 = some b → ∃ n, gJ ws_86 b g.cL n ∧ n < 2147483648 := fun b h => (o_v14_78 b h).imp (fun n h => ⟨E_87.1 _ _ h.1, h.2⟩)
        have a_r3_44 := E_87.1 _ _ a_r3_44
        have a_r5_44 := E_87.1 _ _ a_r5_44
        have a_r6_44 := E_87.1 _ _ a_r6_44
        have a_r7_44 := E_87.1 _ _ a_r7_44
        have a_r8_44 := E_87.1 _ _ a_r8_44
        refine lv_iconst (v := 0) hx hb dX9_putCounters_173 (by decide) ?_
        refine lv_istore (lv' := [(5, .int 0), (0, .ref h0), (1, .ref b1)]) hx hb dX9_putCounters_174 hl (by decide) rfl (fun ls hl => ?_)
        have J_176 : ∀ (n9 : Nat) (v5_97 : Int32) (dc_176_3 : Nat) (ds_176_3 : Nat) (ws_99 : va_W) (H : Heap) (locs : List Loc) (ls : Array Slot), (2147483647 - v5_97.toInt).toNat = n9 → 0 ≤ v5_97.toInt → gE ws_86 ws_99 → gF [(7, 4)] [(7, 3)] none ws_86 ws_99 → Good g ws_99 → dc_176_3 + PC ws_99 ≤ PC ws + (12) → ds_176_3 + PS ws_99 ≤ PS ws + (9059) → va_P (gD g) cl0 ws_99 H → va_D A ws_99 → va_S A s.heap H locs → lv_has ls 8 [(0, .ref h0), (1, .ref b1), (5, .int v5_97)] → W p l e (headSpec (wt yX9_putCounters cX9_putCounters 8 none) ({ frames := 3, cells := PC ws + (12), slots := PS ws + (9059), locals := 56 })).room s m ([.ref h0, .ref b1, .ref b2, .int x3] : List Value).toArray below meth c H locs (dc_176_3) (ds_176_3) (MQ below (va_Qv (fun (u9 : va_W) => True) (gQ2 g [(7, 0), (7, 1), (7, 2), (7, 3), (7, 4), (7, 5), (7, 6), (7, 7), (7, 8), (7, 9), (7, 11), (8, 0), (8, 2), (8, 3), (8, 4), (8, 5)] [(7, 0), (7, 1), (7, 3), (7, 5), (7, 6), (7, 7), (7, 8), (8, 5)] none A ws s.heap (12) (9059)) A) ([.ref h0, .ref b1, .ref b2, .int x3] : List Value).toArray s (PC ws + (12)) (PS ws + (9059)) A) (F0 m 176 ls []) := by
          intro n9
          induction n9 using Nat.strongRecOn with
          | ind n9 ih_176 =>
            intro v5_97 dc_176_3 ds_176_3 ws_99 H locs ls hm9 iv_98 E_100 Fr_101 hG hc9 hs9 hP hD hS hl
            subst hm9
            have aa_102 := a_r1_73
            have aa_103 := a_r2_39
            have aa_104 := a_r3_39
            have aa_105 := a_r4_39
            have aa_106 := a_r5_39
            have aa_107 := a_r0_78
            have aa_108 := a_r1_78
            have aa_109 := a_r3_44
            have aa_110 := a_r5_44
            have aa_111 := a_r6_44
            have aa_112 := a_r7_44
            have aa_113 := a_r8_44
            have o_h0 := E_100.1 _ _ o_h0
            have o_b1 := E_100.1 _ _ o_b1
            refine lv_iload hx hb dX9_putCounters_176 (lv_at hl 2 rfl) ?_
            refine lv_aload_n hx hb dX9_putCounters_178 rfl (lv_at hl 1 rfl) ?_
            obtain ⟨fs9, hk_114, hq_114⟩ := ((gA.tr (gF.a (F' := [(7, 4)]) Fr_88 (fun _ h => h)) (gF.a (F' := [(7, 4)]) Fr_101 (fun _ h => h)))) _ _ _ hk_70
            obtain ⟨r0_114, n0_114, r1_114, n1_114, c2_114, r3_114, n3_114, c4_114, r5_114, n5_114, r6_114, n6_114, r7_114, n7_114, r8_114, n8_114, c9_114, c10_114, c11_114, v12_114, v13_114, v14_114, rfl, a_r0_114, f1_114, a_r1_114, f3_114, a_r3_114, f5_114, a_r5_114, f7_114, a_r6_114, f9_114, a_r7_114, f11_114, a_r8_114, f13_114, o_v12_114, o_v13_114, o_v14_114, f17_114, f18_114, f19_114, f20_114, f21_114, f22_114, f23_114, f24_114, f25_114, f26_114, f27_114, -⟩ := (hG.1 _ _ _ _ hk_114).hX8 rfl
            obtain rfl := fe_i (hq_114 2 (by decide))
            obtain rfl := fe_r (hq_114 3 (by decide))
            have hn9 := gI_n hD (((E_87.tr E_100)).1 _ _ aa_92) a_r3_114
            subst hn9
            have a_r3_70 := a_r3_114
            obtain rfl := fe_r (hq_114 5 (by decide))
            have hn9 := gI_n hD (((E_87.tr E_100)).1 _ _ aa_93) a_r5_114
            subst hn9
            have a_r5_70 := a_r5_114
            obtain rfl := fe_r (hq_114 6 (by decide))
            have hn9 := gI_n hD (((E_87.tr E_100)).1 _ _ aa_94) a_r6_114
            subst hn9
            have a_r6_70 := a_r6_114
            obtain rfl := fe_r (hq_114 7 (by decide))
            have hn9 := gI_n hD (((E_87.tr E_100)).1 _ _ aa_95) a_r7_114
            subst hn9
            have a_r7_70 := a_r7_114
            obtain rfl := fe_r (hq_114 8 (by decide))
            have hn9 := gI_n hD (((E_87.tr E_100)).1 _ _ aa_96) a_r8_114
            subst hn9
            have a_r8_70 := a_r8_114
            obtain rfl := fe_i (hq_114 9 (by decide))
            refine va_get (D := gD g) (ci := 7) (v := .int c4_114) (C := RX8) (T := TX8) (N := 15) hx hb hts inX8 hown hK hP k_70 hk_114 rfl 4 (by decide) (hts _ kw_1705) (fun _ h9 => h9) rfl dX9_putCounters_179 ?_
            refine lv_icmp_ge (tgt := 205) hx hb dX9_putCounters_182 (by decide) (fun c_115 => ?_) (fun c_115 => ?_)
            · refine lv_iconst (v := 0) hx hb dX9_putCounters_205 (by decide) ?_
              refine lv_istore (lv' := [(5, .int 0), (0, .ref h0), (1, .ref b1)]) hx hb dX9_putCounters_206 hl (by decide) rfl (fun ls hl => ?_)
              have J_208 : ∀ (n9 : Nat) (v5_116 : Int32) (dc_208_4 : Nat) (ds_208_4 : Nat) (ws_118 : va_W) (H : Heap) (locs : List Loc) (ls : Array Slot), (2147483647 - v5_116.toInt).toNat = n9 → 0 ≤ v5_116.toInt → gE ws_99 ws_118 → gF [] [(7, 0), (7, 1), (7, 3)] none ws_99 ws_118 → Good g ws_118 → dc_208_4 + PC ws_118 ≤ PC ws + (12) → ds_208_4 + PS ws_118 ≤ PS ws + (9059) → va_P (gD g) cl0 ws_118 H → va_D A ws_118 → va_S A s.heap H locs → lv_has ls 8 [(0, .ref h0), (1, .ref b1), (5, .int v5_116)] → W p l e (headSpec (wt yX9_putCounters cX9_putCounters 8 none) ({ frames := 3, cells := PC ws + (12), slots := PS ws + (9059), locals := 56 })).room s m ([.ref h0, .ref b1, .ref b2, .int x3] : List Value).toArray below meth c H locs (dc_208_4) (ds_208_4) (MQ below (va_Qv (fun (u9 : va_W) => True) (gQ2 g [(7, 0), (7, 1), (7, 2), (7, 3), (7, 4), (7, 5), (7, 6), (7, 7), (7, 8), (7, 9), (7, 11), (8, 0), (8, 2), (8, 3), (8, 4), (8, 5)] [(7, 0), (7, 1), (7, 3), (7, 5), (7, 6), (7, 7), (7, 8), (8, 5)] none A ws s.heap (12) (9059)) A) ([.ref h0, .ref b1, .ref b2, .int x3] : List Value).toArray s (PC ws + (12)) (PS ws + (9059)) A) (F0 m 208 ls []) := by
                intro n9
                induction n9 using Nat.strongRecOn with
                | ind n9 ih_208 =>
                  intro v5_116 dc_208_4 ds_208_4 ws_118 H locs ls hm9 iv_117 E_119 Fr_120 hG hc9 hs9 hP hD hS hl
                  subst hm9
                  have aa_121 := a_r0_114
                  have aa_122 := a_r1_114
                  have aa_123 := a_r3_70
                  have aa_124 := a_r5_70
                  have aa_125 := a_r6_70
                  have aa_126 := a_r7_70
                  have aa_127 := a_r8_70
                  have o_h0 := E_119.1 _ _ o_h0
                  have o_b1 := E_119.1 _ _ o_b1
                  refine lv_iload hx hb dX9_putCounters_208 (lv_at hl 2 rfl) ?_
                  refine lv_aload_n hx hb dX9_putCounters_210 rfl (lv_at hl 0 rfl) ?_
                  obtain ⟨fs9, hk_128, hq_128⟩ := ((gA.tr (gF.a (F' := [(7, 4)]) Fr_101 (fun _ h => h)) (gF.a (F' := [(7, 4)]) Fr_120 (fun _ h => absurd h List.not_mem_nil)))) _ _ _ hk_73
                  obtain ⟨r0_128, r1_128, n1_128, r2_128, n2_128, r3_128, n3_128, r4_128, n4_128, r5_128, n5_128, rfl, o_r0_128, a_r1_128, f2_128, a_r2_128, f4_128, a_r3_128, f6_128, a_r4_128, f8_128, a_r5_128, f10_128, f11_128, -⟩ := (hG.1 _ _ _ _ hk_128).hX9 rfl
                  obtain rfl := fe_r (hq_128 0 (by decide))
                  have o_r0_39 := o_r0_128
                  obtain rfl := fe_r (hq_128 2 (by decide))
                  have hn9 := gI_n hD (((E_100.tr E_119)).1 _ _ aa_103) a_r2_128
                  subst hn9
                  have a_r2_39 := a_r2_128
                  obtain rfl := fe_r (hq_128 3 (by decide))
                  have hn9 := gI_n hD (((E_100.tr E_119)).1 _ _ aa_104) a_r3_128
                  subst hn9
                  have a_r3_39 := a_r3_128
                  obtain rfl := fe_r (hq_128 4 (by decide))
                  have hn9 := gI_n hD (((E_100.tr E_119)).1 _ _ aa_105) a_r4_128
                  subst hn9
                  have a_r4_39 := a_r4_128
                  obtain rfl := fe_r (hq_128 5 (by decide))
                  have hn9 := gI_n hD (((E_100.tr E_119)).1 _ _ aa_106) a_r5_128
                  subst hn9
                  have a_r5_39 := a_r5_128
                  refine va_get (D := gD g) (ci := 8) (v := .ref r0_39) (C := RX9) (T := TX9) (N := 6) hx hb hts inX9 hown hK hP k_3 hk_128 rfl 0 (by decide) (hts _ kw_1552) (fun _ h9 => h9) rfl dX9_putCounters_211 ?_
                  obtain ⟨fs9, hk_129, hq_129⟩ := ((gA.tr (gF.a (F' := [(7, 4)]) Fr_101 (fun _ h => h)) (gF.a (F' := [(7, 4)]) Fr_120 (fun _ h => absurd h List.not_mem_nil)))) _ _ _ hk_78
                  obtain ⟨r0_129, n0_129, r1_129, n1_129, c2_129, r3_129, n3_129, c4_129, r5_129, n5_129, r6_129, n6_129, r7_129, n7_129, r8_129, n8_129, c9_129, c10_129, c11_129, v12_129, v13_129, v14_129, rfl, a_r0_129, f1_129, a_r1_129, f3_129, a_r3_129, f5_129, a_r5_129, f7_129, a_r6_129, f9_129, a_r7_129, f11_129, a_r8_129, f13_129, o_v12_129, o_v13_129, o_v14_129, f17_129, f18_129, f19_129, f20_129, f21_129, f22_129, f23_129, f24_129, f25_129, f26_129, f27_129, -⟩ := (hG.1 _ _ _ _ hk_129).hX8 rfl
                  obtain rfl := fe_i (hq_129 2 (by decide))
                  obtain rfl := fe_r (hq_129 3 (by decide))
                  have hn9 := gI_n hD (((E_100.tr E_119)).1 _ _ aa_109) a_r3_129
                  subst hn9
                  have a_r3_44 := a_r3_129
                  obtain rfl := fe_r (hq_129 5 (by decide))
                  have hn9 := gI_n hD (((E_100.tr E_119)).1 _ _ aa_110) a_r5_129
                  subst hn9
                  have a_r5_44 := a_r5_129
                  obtain rfl := fe_r (hq_129 6 (by decide))
                  have hn9 := gI_n hD (((E_100.tr E_119)).1 _ _ aa_111) a_r6_129
                  subst hn9
                  have a_r6_44 := a_r6_129
                  obtain rfl := fe_r (hq_129 7 (by decide))
                  have hn9 := gI_n hD (((E_100.tr E_119)).1 _ _ aa_112) a_r7_129
                  subst hn9
                  have a_r7_44 := a_r7_129
                  obtain rfl := fe_r (hq_129 8 (by decide))
                  have hn9 := gI_n hD (((E_100.tr E_119)).1 _ _ aa_113) a_r8_129
                  subst hn9
                  have a_r8_44 := a_r8_129
                  obtain rfl := fe_i (hq_129 9 (by decide))
                  refine va_get (D := gD g) (ci := 7) (v := .int c2_78) (C := RX8) (T := TX8) (N := 15) hx hb hts inX8 hown hK hP k_44 hk_129 rfl 2 (by decide) (hts _ kw_1553) (fun _ h9 => h9) rfl dX9_putCounters_214 ?_
                  refine lv_icmp_ge (tgt := 279) hx hb dX9_putCounters_217 (by decide) (fun c_130 => ?_) (fun c_130 => ?_)
                  · refine lv_aload_n hx hb dX9_putCounters_279 rfl (lv_at hl 0 rfl) ?_
                    refine va_get (D := gD g) (ci := 8) (v := .ref r0_39) (C := RX9) (T := TX9) (N := 6) hx hb hts inX9 hown hK hP k_3 hk_128 rfl 0 (by decide) (hts _ kw_1552) (fun _ h9 => h9) rfl dX9_putCounters_280 ?_
                    refine lv_iconst (v := 0) hx hb dX9_putCounters_283 (by decide) ?_
                    have hV9 : okv ws_118 7 9 (.int 0) := okv_i
                    refine va_put (D := gD g) (ci := 7) (v := .int 0) (ty := .int) (C := RX8) (T := TX8) (N := 15) hx hb hts inX8 tyX8 tyX8_ok nmX8 hown hK hP hD hS k_44 hk_129 rfl 9 (by decide) (hts _ kw_1570) (fun _ h9 => h9) rfl (by decide +kernel) rfl rfl (Nat.le_of_ble_eq_true rfl) dX9_putCounters_284 (fun H locs hP hD hS => ?_)
                    have f_131 : 0 ≤ (0 : Int32).toInt := (by have e0 : (0 : Int32).toInt = 0 := (by decide); have q_f_45 := f_45; have q_f_83 := f_83; omega)
                    have f_132 : (0 : Int32).toInt ≤ n5_44 := (by have e0 : (0 : Int32).toInt = 0 := (by decide); have q_f7_44 := f7_44; have q_f23_44 := f23_44; have q_f24_44 := f24_44; have q_f25_44 := f25_44; have q_f27_44 := f27_44; have q_f_45 := f_45; have q_f_83 := f_83; have q_f_131 := f_131; have q_f9_44 := f9_44; have q_f11_44 := f11_44; have q_f13_44 := f13_44; have q_f26_44 := f26_44; have g_c9_44 := i_rg c9_44; omega)
                    have hi_133 : invX8 g ws_118 r0_39 [.ref r0_129, .ref r1_129, .int c2_78, .ref r3_44, .int c4_129, .ref r5_44, .ref r6_44, .ref r7_44, .ref r8_44, .int 0, .int c10_129, .int c11_129, va_rf v12_129, va_rf v13_129, va_rf v14_129] := ⟨r0_129, (n0_129), r1_129, (n1_129), (c2_78), r3_44, (n3_44), (c4_129), r5_44, (n5_44), r6_44, (n6_44), r7_44, (n7_44), r8_44, (n8_44), (0), (c10_129), (c11_129), v12_129, v13_129, v14_129, rfl, a_r0_129, f1_129, a_r1_129, f3_129, a_r3_44, f5_129, a_r5_44, f7_129, a_r6_44, f9_129, a_r7_44, f11_129, a_r8_44, f13_129, o_v12_129, o_v13_129, o_v14_129, f17_129, f18_129, f19_129, f20_129, f21_129, f22_129, f23_129, f24_129, f25_129, f_131, f_132, trivial⟩
                    obtain ⟨ws_134, e_ws_134⟩ : ∃ z, z = ws_118.set k_44 (r0_39, .inr (7, [.ref r0_129, .ref r1_129, .int c2_78, .ref r3_44, .int c4_129, .ref r5_44, .ref r6_44, .ref r7_44, .ref r8_44, .int 0, .int c10_129, .int c11_129, va_rf v12_129, va_rf v13_129, va_rf v14_129])) := ⟨_, rfl⟩
                    have hP : va_P (gD g) cl0 ws_134 H := by rw [e_ws_134]; exact hP
                    have hD : va_D A ws_134 := by rw [e_ws_134]; exact hD
                    have E_135 : gE ws_118 ws_134 := gE_set e_ws_134 hk_129 (cw_o (fi := 9) (v := .int 0) rfl (by decide))
                    have hG : Good g ws_134 := Good_set (fi := 9) (v := .int 0) e_ws_134 hk_129 E_135 rfl hV9 hG (ivX8 hi_133)
                    have Fr_136 : gF [(7, 9)] [] (some r0_39) ws_118 ws_134 := gF_put (fi := 9) (v := .int 0) e_ws_134 hk_129 rfl (by decide)
                    have pp_137 := Fr_136.pp
                    have hkN := gset_self e_ws_134 hk_129
                    have hk_128 := gset_ob e_ws_134 hk_129 hk_128 (by decide)
                    have hk_129 := hkN
                    have o_h0 := E_135.1 _ _ o_h0
                    have o_b1 := E_135.1 _ _ o_b1
                    have a_r1_128 := E_135.1 _ _ a_r1_128
                    have o_r0_39 := E_135.1 _ _ o_r0_39
                    have a_r2_39 := E_135.1 _ _ a_r2_39
                    have a_r3_39 := E_135.1 _ _ a_r3_39
                    have a_r4_39 := E_135.1 _ _ a_r4_39
                    have a_r5_39 := E_135.1 _ _ a_r5_39
                    have a_r0_129 := E_135.1 _ _ a_r0_129
                    have a_r1_129 := E_135.1 _ _ a_r1_129
                    have o_v12_129 : ∀ b, v12_129 = some b → ∃ n, gI ws_134 b g.cB n ∧ n < 2147483648 := fun b h => (o_v12_129 b h).imp (fun n h => ⟨E_135.1 _ _ h.1, h.2⟩)
                    have o_v13_129 : ∀ b, v13_129 = some b → ∃ n, gJ ws_134 b g.cL n ∧ n < 2147483648 := fun b h => (o_v13_129 b h).imp (fun n h => ⟨E_135.1 _ _ h.1, h.2⟩)
                    have o_v14_129 : ∀ b, v14_129 = some b → ∃ n, gJ ws_134 b g.cL n ∧ n < 2147483648 := fun b h => (o_v14_129 b h).imp (fun n h => ⟨E_135.1 _ _ h.1, h.2⟩)
                    have a_r3_44 := E_135.1 _ _ a_r3_44
                    have a_r5_44 := E_135.1 _ _ a_r5_44
                    have a_r6_44 := E_135.1 _ _ a_r6_44
                    have a_r7_44 := E_135.1 _ _ a_r7_44
                    have a_r8_44 := E_135.1 _ _ a_r8_44
                    refine lv_iconst (v := 0) hx hb dX9_putCounters_287 (by decide) ?_
                    refine lv_istore (lv' := [(5, .int 0), (0, .ref h0), (1, .ref b1)]) hx hb dX9_putCounters_288 hl (by decide) rfl (fun ls hl => ?_)
                    have J_290 : ∀ (n9 : Nat) (v5_138 : Int32) (dc_290_5 : Nat) (ds_290_5 : Nat) (ws_140 : va_W) (H : Heap) (locs : List Loc) (ls : Array Slot), (2147483647 - v5_138.toInt).toNat = n9 → 0 ≤ v5_138.toInt → gE ws_134 ws_140 → gF [(7, 9)] [(7, 5), (7, 6), (7, 7), (7, 8)] none ws_134 ws_140 → Good g ws_140 → dc_290_5 + PC ws_140 ≤ PC ws + (12) → ds_290_5 + PS ws_140 ≤ PS ws + (9059) → va_P (gD g) cl0 ws_140 H → va_D A ws_140 → va_S A s.heap H locs → lv_has ls 8 [(0, .ref h0), (1, .ref b1), (5, .int v5_138)] → W p l e (headSpec (wt yX9_putCounters cX9_putCounters 8 none) ({ frames := 3, cells := PC ws + (12), slots := PS ws + (9059), locals := 56 })).room s m ([.ref h0, .ref b1, .ref b2, .int x3] : List Value).toArray below meth c H locs (dc_290_5) (ds_290_5) (MQ below (va_Qv (fun (u9 : va_W) => True) (gQ2 g [(7, 0), (7, 1), (7, 2), (7, 3), (7, 4), (7, 5), (7, 6), (7, 7), (7, 8), (7, 9), (7, 11), (8, 0), (8, 2), (8, 3), (8, 4), (8, 5)] [(7, 0), (7, 1), (7, 3), (7, 5), (7, 6), (7, 7), (7, 8), (8, 5)] none A ws s.heap (12) (9059)) A) ([.ref h0, .ref b1, .ref b2, .int x3] : List Value).toArray s (PC ws + (12)) (PS ws + (9059)) A) (F0 m 290 ls []) := by
                      intro n9
                      induction n9 using Nat.strongRecOn with
                      | ind n9 ih_290 =>
                        intro v5_138 dc_290_5 ds_290_5 ws_140 H locs ls hm9 iv_139 E_141 Fr_142 hG hc9 hs9 hP hD hS hl
                        subst hm9
                        have aa_143 := a_r1_128
                        have aa_144 := a_r2_39
                        have aa_145 := a_r3_39
                        have aa_146 := a_r4_39
                        have aa_147 := a_r5_39
                        have aa_148 := a_r0_129
                        have aa_149 := a_r1_129
                        have aa_150 := a_r3_44
                        have aa_151 := a_r5_44
                        have aa_152 := a_r6_44
                        have aa_153 := a_r7_44
                        have aa_154 := a_r8_44
                        have o_h0 := E_141.1 _ _ o_h0
                        have o_b1 := E_141.1 _ _ o_b1
                        refine lv_iload hx hb dX9_putCounters_290 (lv_at hl 2 rfl) ?_
                        refine lv_aload_n hx hb dX9_putCounters_292 rfl (lv_at hl 1 rfl) ?_
                        obtain ⟨fs9, hk_155, hq_155⟩ := ((gA.tr (gF.a (F' := [(7, 9)]) Fr_120 (fun _ h => absurd h List.not_mem_nil)) (gA.tr (gF.a (F' := [(7, 9)]) Fr_136 (fun _ h => h)) (gF.a (F' := [(7, 9)]) Fr_142 (fun _ h => h))))) _ _ _ hk_114
                        obtain ⟨r0_155, n0_155, r1_155, n1_155, c2_155, r3_155, n3_155, c4_155, r5_155, n5_155, r6_155, n6_155, r7_155, n7_155, r8_155, n8_155, c9_155, c10_155, c11_155, v12_155, v13_155, v14_155, rfl, a_r0_155, f1_155, a_r1_155, f3_155, a_r3_155, f5_155, a_r5_155, f7_155, a_r6_155, f9_155, a_r7_155, f11_155, a_r8_155, f13_155, o_v12_155, o_v13_155, o_v14_155, f17_155, f18_155, f19_155, f20_155, f21_155, f22_155, f23_155, f24_155, f25_155, f26_155, f27_155, -⟩ := (hG.1 _ _ _ _ hk_155).hX8 rfl
                        obtain rfl := fe_i (hq_155 2 (by decide))
                        obtain rfl := fe_r (hq_155 3 (by decide))
                        have hn9 := gI_n hD (((E_119.tr (E_135.tr E_141))).1 _ _ aa_123) a_r3_155
                        subst hn9
                        have a_r3_70 := a_r3_155
                        obtain rfl := fe_i (hq_155 4 (by decide))
                        obtain rfl := fe_r (hq_155 5 (by decide))
                        have hn9 := gI_n hD (((E_119.tr (E_135.tr E_141))).1 _ _ aa_124) a_r5_155
                        subst hn9
                        have a_r5_70 := a_r5_155
                        obtain rfl := fe_r (hq_155 6 (by decide))
                        have hn9 := gI_n hD (((E_119.tr (E_135.tr E_141))).1 _ _ aa_125) a_r6_155
                        subst hn9
                        have a_r6_70 := a_r6_155
                        obtain rfl := fe_r (hq_155 7 (by decide))
                        have hn9 := gI_n hD (((E_119.tr (E_135.tr E_141))).1 _ _ aa_126) a_r7_155
                        subst hn9
                        have a_r7_70 := a_r7_155
                        obtain rfl := fe_r (hq_155 8 (by decide))
                        have hn9 := gI_n hD (((E_119.tr (E_135.tr E_141))).1 _ _ aa_127) a_r8_155
                        subst hn9
                        have a_r8_70 := a_r8_155
                        refine va_get (D := gD g) (ci := 7) (v := .int c9_155) (C := RX8) (T := TX8) (N := 15) hx hb hts inX8 hown hK hP k_70 hk_155 rfl 9 (by decide) (hts _ kw_1570) (fun _ h9 => h9) rfl dX9_putCounters_293 ?_
                        refine lv_icmp_ge (tgt := 352) hx hb dX9_putCounters_296 (by decide) (fun c_156 => ?_) (fun c_156 => ?_)
                        · refine W_led (fun hLd => ?_)
                          have hcl : dc_290_5 + PC ws_140 ≤ PC ws + (12) := (by have e0 : (0 : Int32).toInt = 0 := (by decide); have q_f_45 := f_45; have q_f_83 := f_83; have q_f_131 := f_131; omega)
                          have hsl : ds_290_5 + PS ws_140 ≤ PS ws + (9059) := (by have e0 : (0 : Int32).toInt = 0 := (by decide); have q_f_45 := f_45; have q_f_83 := f_83; have q_f_131 := f_131; omega)
                          refine W.widen (k := PC ws + (12)) (n := PS ws + (9059)) (by omega) (by omega) ?_
                          exact W.vret hx hb hr (fun t9 ht9 hW9 => ⟨⟨ws_140, rfl, trivial, ⟨(E_6.tr (E_49.tr (E_56.tr (E_80.tr (E_87.tr (E_100.tr (E_119.tr (E_135.tr E_141)))))))), (gF.tr (gF.mo (F' := [(7, 0), (7, 1), (7, 2), (7, 3), (7, 4), (7, 5), (7, 6), (7, 7), (7, 8), (7, 9), (7, 11), (8, 0), (8, 2), (8, 3), (8, 4), (8, 5)]) (C' := [(7, 0), (7, 1), (7, 3), (7, 5), (7, 6), (7, 7), (7, 8), (8, 5)]) (S' := none) Fr_7 (by decide) (fun _ h => absurd h List.not_mem_nil) (Or.inr rfl)) (gF.tr (gF.mo (F' := [(7, 0), (7, 1), (7, 2), (7, 3), (7, 4), (7, 5), (7, 6), (7, 7), (7, 8), (7, 9), (7, 11), (8, 0), (8, 2), (8, 3), (8, 4), (8, 5)]) (C' := [(7, 0), (7, 1), (7, 3), (7, 5), (7, 6), (7, 7), (7, 8), (8, 5)]) (S' := none) Fr_50 (by decide) (fun _ h => absurd h List.not_mem_nil) (Or.inl rfl)) (gF.tr (gF.mo (F' := [(7, 0), (7, 1), (7, 2), (7, 3), (7, 4), (7, 5), (7, 6), (7, 7), (7, 8), (7, 9), (7, 11), (8, 0), (8, 2), (8, 3), (8, 4), (8, 5)]) (C' := [(7, 0), (7, 1), (7, 3), (7, 5), (7, 6), (7, 7), (7, 8), (8, 5)]) (S' := none) Fr_57 (by decide) (by decide) (Or.inr rfl)) (gF.tr (gF.mo (F' := [(7, 0), (7, 1), (7, 2), (7, 3), (7, 4), (7, 5), (7, 6), (7, 7), (7, 8), (7, 9), (7, 11), (8, 0), (8, 2), (8, 3), (8, 4), (8, 5)]) (C' := [(7, 0), (7, 1), (7, 3), (7, 5), (7, 6), (7, 7), (7, 8), (8, 5)]) (S' := none) Fr_81 (fun _ h => absurd h List.not_mem_nil) (by decide) (Or.inr rfl)) (gF.tr (gF.mo (F' := [(7, 0), (7, 1), (7, 2), (7, 3), (7, 4), (7, 5), (7, 6), (7, 7), (7, 8), (7, 9), (7, 11), (8, 0), (8, 2), (8, 3), (8, 4), (8, 5)]) (C' := [(7, 0), (7, 1), (7, 3), (7, 5), (7, 6), (7, 7), (7, 8), (8, 5)]) (S' := none) Fr_88 (by decide) (fun _ h => absurd h List.not_mem_nil) (Or.inl rfl)) (gF.tr (gF.mo (F' := [(7, 0), (7, 1), (7, 2), (7, 3), (7, 4), (7, 5), (7, 6), (7, 7), (7, 8), (7, 9), (7, 11), (8, 0), (8, 2), (8, 3), (8, 4), (8, 5)]) (C' := [(7, 0), (7, 1), (7, 3), (7, 5), (7, 6), (7, 7), (7, 8), (8, 5)]) (S' := none) Fr_101 (by decide) (by decide) (Or.inr rfl)) (gF.tr (gF.mo (F' := [(7, 0), (7, 1), (7, 2), (7, 3), (7, 4), (7, 5), (7, 6), (7, 7), (7, 8), (7, 9), (7, 11), (8, 0), (8, 2), (8, 3), (8, 4), (8, 5)]) (C' := [(7, 0), (7, 1), (7, 3), (7, 5), (7, 6), (7, 7), (7, 8), (8, 5)]) (S' := none) Fr_120 (fun _ h => absurd h List.not_mem_nil) (by decide) (Or.inr rfl)) (gF.tr (gF.mo (F' := [(7, 0), (7, 1), (7, 2), (7, 3), (7, 4), (7, 5), (7, 6), (7, 7), (7, 8), (7, 9), (7, 11), (8, 0), (8, 2), (8, 3), (8, 4), (8, 5)]) (C' := [(7, 0), (7, 1), (7, 3), (7, 5), (7, 6), (7, 7), (7, 8), (8, 5)]) (S' := none) Fr_136 (by decide) (fun _ h => absurd h List.not_mem_nil) (Or.inl rfl)) (gF.mo (F' := [(7, 0), (7, 1), (7, 2), (7, 3), (7, 4), (7, 5), (7, 6), (7, 7), (7, 8), (7, 9), (7, 11), (8, 0), (8, 2), (8, 3), (8, 4), (8, 5)]) (C' := [(7, 0), (7, 1), (7, 3), (7, 5), (7, 6), (7, 7), (7, 8), (8, 5)]) (S' := none) Fr_142 (by decide) (by decide) (Or.inr rfl)))))))))), hG, by rw [ht9]; exact hP, hD, _, _, by rw [ht9]; exact hLd, hcl, hsl⟩⟩, hS.F ht9⟩) hS.2.2 dX9_putCounters_352
                        · refine lv_aload_n hx hb dX9_putCounters_299 rfl (lv_at hl 0 rfl) ?_
                          obtain ⟨fs9, hk_157, hq_157⟩ := ((gF.a (F' := [(7, 9)]) Fr_142 (fun _ h => h))) _ _ _ hk_128
                          obtain ⟨r0_157, r1_157, n1_157, r2_157, n2_157, r3_157, n3_157, r4_157, n4_157, r5_157, n5_157, rfl, o_r0_157, a_r1_157, f2_157, a_r2_157, f4_157, a_r3_157, f6_157, a_r4_157, f8_157, a_r5_157, f10_157, f11_157, -⟩ := (hG.1 _ _ _ _ hk_157).hX9 rfl
                          obtain rfl := fe_r (hq_157 0 (by decide))
                          have o_r0_39 := o_r0_157
                          obtain rfl := fe_r (hq_157 2 (by decide))
                          have hn9 := gI_n hD ((E_141).1 _ _ aa_144) a_r2_157
                          subst hn9
                          have a_r2_39 := a_r2_157
                          obtain rfl := fe_r (hq_157 3 (by decide))
                          have hn9 := gI_n hD ((E_141).1 _ _ aa_145) a_r3_157
                          subst hn9
                          have a_r3_39 := a_r3_157
                          obtain rfl := fe_r (hq_157 4 (by decide))
                          have hn9 := gI_n hD ((E_141).1 _ _ aa_146) a_r4_157
                          subst hn9
                          have a_r4_39 := a_r4_157
                          obtain rfl := fe_r (hq_157 5 (by decide))
                          have hn9 := gI_n hD ((E_141).1 _ _ aa_147) a_r5_157
                          subst hn9
                          have a_r5_39 := a_r5_157
                          refine va_get (D := gD g) (ci := 8) (v := .ref r0_39) (C := RX9) (T := TX9) (N := 6) hx hb hts inX9 hown hK hP k_3 hk_157 rfl 0 (by decide) (hts _ kw_1552) (fun _ h9 => h9) rfl dX9_putCounters_300 ?_
                          refine lv_aload_n hx hb dX9_putCounters_303 rfl (lv_at hl 0 rfl) ?_
                          refine lv_aload_n hx hb dX9_putCounters_304 rfl (lv_at hl 1 rfl) ?_
                          refine va_get (D := gD g) (ci := 7) (v := .ref r5_70) (C := RX8) (T := TX8) (N := 15) hx hb hts inX8 hown hK hP k_70 hk_155 rfl 5 (by decide) (hts _ kw_1571) (fun _ h9 => h9) rfl dX9_putCounters_305 ?_
                          refine lv_iload hx hb dX9_putCounters_308 (lv_at hl 2 rfl) ?_
                          obtain ⟨k_158, f_158, hk_158⟩ := gI_of a_r5_70
                          refine va_iald hx hb hK hP k_158 1 hk_158 rfl (i_in2 (by have e0 : (0 : Int32).toInt = 0 := (by decide); have q_f_45 := f_45; have q_f7_70 := f7_70; have q_f23_70 := f23_70; have q_f24_70 := f24_70; have q_f25_70 := f25_70; have q_f27_70 := f27_70; have q_f_83 := f_83; have q_f_131 := f_131; have q_iv_139 := iv_139; have q_f27_155 := f27_155; have q_c_156 := i_nle c_156; have q_f9_70 := f9_70; have q_f11_70 := f11_70; have q_f13_70 := f13_70; have q_f26_70 := f26_70; have q_f26_155 := f26_155; have g_c9_155 := i_rg c9_155; have g_c9_70 := i_rg c9_70; have g_v5_138 := i_rg v5_138; omega)) dX9_putCounters_310 ?_
                          refine lv_topi (fun z_159 ez_159 => ?_)
                          have hFc := gfree hD hS hA
                          refine va_calli (va_runV (As := [.int z_159]) (rest := [.ref r0_39]) ⟨hx, hb, hml, hown, hts⟩ (m_X9_placeOf l g H.size ws_140 h0 (z_159) hG o_h0 (gP_of hD hk_157 (fun p90 q90 e90 g90 => by cases e90; have z90 := gI_n hD a_r2_39 g90; subst z90; exact (by have e0 : (0 : Int32).toInt = 0 := (by decide); have q_f4_39 := f4_39; have q_kq_40 := kq_40; have q_f_45 := f_45; have q_f_83 := f_83; have q_f_131 := f_131; omega))) (gP_of hD hk_157 (fun p90 q90 e90 g90 => by cases e90; have z90 := gI_n hD a_r3_39 g90; subst z90; exact (by have e0 : (0 : Int32).toInt = 0 := (by decide); have q_f6_39 := f6_39; have q_kq_41 := kq_41; have q_f_45 := f_45; have q_f_83 := f_83; have q_f_131 := f_131; omega))) (gP_of hD hk_157 (fun p90 q90 e90 g90 => by cases e90; have z90 := gI_n hD a_r4_39 g90; subst z90; exact (by have e0 : (0 : Int32).toInt = 0 := (by decide); have q_f8_39 := f8_39; have q_kq_42 := kq_42; have q_f_45 := f_45; have q_f_83 := f_83; have q_f_131 := f_131; omega))) (gP_of hD hk_157 (fun p90 q90 e90 g90 => by cases e90; have z90 := gI_n hD a_r5_39 g90; subst z90; exact (by have e0 : (0 : Int32).toInt = 0 := (by decide); have e1 : (1 : Int32).toInt = 1 := (by decide); have q_f10_39 := f10_39; have q_kq_43 := kq_43; have q_f_45 := f_45; have q_z_75 := i_len ez_75 f10_73; have q_f_83 := f_83; have q_f_131 := f_131; obtain ⟨u_z_76, q_z_76⟩ := i_sub ez_76; have q_z_77 := i_min ez_77; have g_c2_70 := i_rg c2_70; have g_z_75 := i_rg z_75; have g_z_76 := i_rg z_76; have g_z_77 := i_rg z_77; omega)))) (cwV 1 hts (gd_V kw_1708 kw_1693 kw_1694 kw_404 kw_1692) rfl rfl rfl (by decide +kernel) ⟨Nat.le_of_ble_eq_true rfl, Nat.le_of_ble_eq_true rfl⟩) ⟨gblind, va_recv hK hP (ci := 8) (q0 := k_3) rfl hk_157, fun U hU hW9 => gmk hU hW9 hP hK hD hex hE hS hFc⟩ rfl rfl hl.1 rfl (lv_room (Nat.le_of_ble_eq_true rfl)) dX9_putCounters_311 ⟨(show dc_290_5 + 0 ≤ PC ws + (12) from (by have e0 : (0 : Int32).toInt = 0 := (by decide); have q_f_45 := f_45; have q_f_83 := f_83; have q_f_131 := f_131; omega)), (show ds_290_5 + 0 ≤ PS ws + (9059) from (by have e0 : (0 : Int32).toInt = 0 := (by decide); have q_f_45 := f_45; have q_f_83 := f_83; have q_f_131 := f_131; omega))⟩) hS (fun q _ h => hFc q h) hFc (fun r_160 u9 t9 H1 locs ht9 hvm9 hw9 hB9 hz9 hk9 hS => ?_)
                          have hP : va_P (gD g) cl0 ws_140 H1 := by rw [← ht9]; exact hB9.1
                          clear hB9 hz9 hk9 hvm9 ht9 hw9
                          generalize H1 = H at hP hS ⊢
                          refine lv_aload_n hx hb dX9_putCounters_314 rfl (lv_at hl 0 rfl) ?_
                          refine lv_aload_n hx hb dX9_putCounters_315 rfl (lv_at hl 1 rfl) ?_
                          refine va_get (D := gD g) (ci := 7) (v := .ref r6_70) (C := RX8) (T := TX8) (N := 15) hx hb hts inX8 hown hK hP k_70 hk_155 rfl 6 (by decide) (hts _ kw_1572) (fun _ h9 => h9) rfl dX9_putCounters_316 ?_
                          refine lv_iload hx hb dX9_putCounters_319 (lv_at hl 2 rfl) ?_
                          obtain ⟨k_161, f_161, hk_161⟩ := gI_of a_r6_70
                          refine va_iald hx hb hK hP k_161 1 hk_161 rfl (i_in2 (by have e0 : (0 : Int32).toInt = 0 := (by decide); have q_f_45 := f_45; have q_f9_70 := f9_70; have q_f23_70 := f23_70; have q_f_83 := f_83; have q_f_131 := f_131; have q_iv_139 := iv_139; have q_c_156 := i_nle c_156; have q_f7_70 := f7_70; have q_f24_70 := f24_70; have q_f25_70 := f25_70; have q_f27_70 := f27_70; have q_f26_155 := f26_155; have q_f27_155 := f27_155; have q_f11_70 := f11_70; have q_f13_70 := f13_70; have q_f26_70 := f26_70; have g_c9_155 := i_rg c9_155; have g_c9_70 := i_rg c9_70; have g_v5_138 := i_rg v5_138; omega)) dX9_putCounters_321 ?_
                          refine lv_topi (fun z_162 ez_162 => ?_)
                          have hFc := gfree hD hS hA
                          refine va_calli (va_runV (As := [.int z_162]) (rest := [.int r_160, .ref r0_39]) ⟨hx, hb, hml, hown, hts⟩ (m_X9_placeOf l g H.size ws_140 h0 (z_162) hG o_h0 (gP_of hD hk_157 (fun p90 q90 e90 g90 => by cases e90; have z90 := gI_n hD a_r2_39 g90; subst z90; exact (by have e0 : (0 : Int32).toInt = 0 := (by decide); have q_f4_39 := f4_39; have q_kq_40 := kq_40; have q_f_45 := f_45; have q_f_83 := f_83; have q_f_131 := f_131; omega))) (gP_of hD hk_157 (fun p90 q90 e90 g90 => by cases e90; have z90 := gI_n hD a_r3_39 g90; subst z90; exact (by have e0 : (0 : Int32).toInt = 0 := (by decide); have q_f6_39 := f6_39; have q_kq_41 := kq_41; have q_f_45 := f_45; have q_f_83 := f_83; have q_f_131 := f_131; omega))) (gP_of hD hk_157 (fun p90 q90 e90 g90 => by cases e90; have z90 := gI_n hD a_r4_39 g90; subst z90; exact (by have e0 : (0 : Int32).toInt = 0 := (by decide); have q_f8_39 := f8_39; have q_kq_42 := kq_42; have q_f_45 := f_45; have q_f_83 := f_83; have q_f_131 := f_131; omega))) (gP_of hD hk_157 (fun p90 q90 e90 g90 => by cases e90; have z90 := gI_n hD a_r5_39 g90; subst z90; exact (by have e0 : (0 : Int32).toInt = 0 := (by decide); have e1 : (1 : Int32).toInt = 1 := (by decide); have q_f10_39 := f10_39; have q_kq_43 := kq_43; have q_f_45 := f_45; have q_z_75 := i_len ez_75 f10_73; have q_f_83 := f_83; have q_f_131 := f_131; obtain ⟨u_z_76, q_z_76⟩ := i_sub ez_76; have q_z_77 := i_min ez_77; have g_c2_70 := i_rg c2_70; have g_z_75 := i_rg z_75; have g_z_76 := i_rg z_76; have g_z_77 := i_rg z_77; omega)))) (cwV 1 hts (gd_V kw_1708 kw_1693 kw_1694 kw_404 kw_1692) rfl rfl rfl (by decide +kernel) ⟨Nat.le_of_ble_eq_true rfl, Nat.le_of_ble_eq_true rfl⟩) ⟨gblind, va_recv hK hP (ci := 8) (q0 := k_3) rfl hk_157, fun U hU hW9 => gmk hU hW9 hP hK hD hex hE hS hFc⟩ rfl rfl hl.1 rfl (lv_room (Nat.le_of_ble_eq_true rfl)) dX9_putCounters_322 ⟨(show dc_290_5 + 0 ≤ PC ws + (12) from (by have e0 : (0 : Int32).toInt = 0 := (by decide); have q_f_45 := f_45; have q_f_83 := f_83; have q_f_131 := f_131; omega)), (show ds_290_5 + 0 ≤ PS ws + (9059) from (by have e0 : (0 : Int32).toInt = 0 := (by decide); have q_f_45 := f_45; have q_f_83 := f_83; have q_f_131 := f_131; omega))⟩) hS (fun q _ h => hFc q h) hFc (fun r_163 u9 t9 H1 locs ht9 hvm9 hw9 hB9 hz9 hk9 hS => ?_)
                          have hP : va_P (gD g) cl0 ws_140 H1 := by rw [← ht9]; exact hB9.1
                          clear hB9 hz9 hk9 hvm9 ht9 hw9
                          generalize H1 = H at hP hS ⊢
                          refine lv_aload_n hx hb dX9_putCounters_325 rfl (lv_at hl 0 rfl) ?_
                          refine lv_aload_n hx hb dX9_putCounters_326 rfl (lv_at hl 1 rfl) ?_
                          refine va_get (D := gD g) (ci := 7) (v := .ref r7_70) (C := RX8) (T := TX8) (N := 15) hx hb hts inX8 hown hK hP k_70 hk_155 rfl 7 (by decide) (hts _ kw_1573) (fun _ h9 => h9) rfl dX9_putCounters_327 ?_
                          refine lv_iload hx hb dX9_putCounters_330 (lv_at hl 2 rfl) ?_
                          obtain ⟨k_164, f_164, hk_164⟩ := gI_of a_r7_70
                          refine va_iald hx hb hK hP k_164 1 hk_164 rfl (i_in2 (by have e0 : (0 : Int32).toInt = 0 := (by decide); have q_f_45 := f_45; have q_f11_70 := f11_70; have q_f24_70 := f24_70; have q_f_83 := f_83; have q_f_131 := f_131; have q_iv_139 := iv_139; have q_c_156 := i_nle c_156; have q_f7_70 := f7_70; have q_f23_70 := f23_70; have q_f25_70 := f25_70; have q_f27_70 := f27_70; have q_f26_155 := f26_155; have q_f27_155 := f27_155; have q_f9_70 := f9_70; have q_f13_70 := f13_70; have q_f26_70 := f26_70; have g_c9_155 := i_rg c9_155; have g_c9_70 := i_rg c9_70; have g_v5_138 := i_rg v5_138; omega)) dX9_putCounters_332 ?_
                          refine lv_topi (fun z_165 ez_165 => ?_)
                          have hFc := gfree hD hS hA
                          refine va_calli (va_runV (As := [.int z_165]) (rest := [.int r_163, .int r_160, .ref r0_39]) ⟨hx, hb, hml, hown, hts⟩ (m_X9_placeOf l g H.size ws_140 h0 (z_165) hG o_h0 (gP_of hD hk_157 (fun p90 q90 e90 g90 => by cases e90; have z90 := gI_n hD a_r2_39 g90; subst z90; exact (by have e0 : (0 : Int32).toInt = 0 := (by decide); have q_f4_39 := f4_39; have q_kq_40 := kq_40; have q_f_45 := f_45; have q_f_83 := f_83; have q_f_131 := f_131; omega))) (gP_of hD hk_157 (fun p90 q90 e90 g90 => by cases e90; have z90 := gI_n hD a_r3_39 g90; subst z90; exact (by have e0 : (0 : Int32).toInt = 0 := (by decide); have q_f6_39 := f6_39; have q_kq_41 := kq_41; have q_f_45 := f_45; have q_f_83 := f_83; have q_f_131 := f_131; omega))) (gP_of hD hk_157 (fun p90 q90 e90 g90 => by cases e90; have z90 := gI_n hD a_r4_39 g90; subst z90; exact (by have e0 : (0 : Int32).toInt = 0 := (by decide); have q_f8_39 := f8_39; have q_kq_42 := kq_42; have q_f_45 := f_45; have q_f_83 := f_83; have q_f_131 := f_131; omega))) (gP_of hD hk_157 (fun p90 q90 e90 g90 => by cases e90; have z90 := gI_n hD a_r5_39 g90; subst z90; exact (by have e0 : (0 : Int32).toInt = 0 := (by decide); have e1 : (1 : Int32).toInt = 1 := (by decide); have q_f10_39 := f10_39; have q_kq_43 := kq_43; have q_f_45 := f_45; have q_z_75 := i_len ez_75 f10_73; have q_f_83 := f_83; have q_f_131 := f_131; obtain ⟨u_z_76, q_z_76⟩ := i_sub ez_76; have q_z_77 := i_min ez_77; have g_c2_70 := i_rg c2_70; have g_z_75 := i_rg z_75; have g_z_76 := i_rg z_76; have g_z_77 := i_rg z_77; omega)))) (cwV 1 hts (gd_V kw_1708 kw_1693 kw_1694 kw_404 kw_1692) rfl rfl rfl (by decide +kernel) ⟨Nat.le_of_ble_eq_true rfl, Nat.le_of_ble_eq_true rfl⟩) ⟨gblind, va_recv hK hP (ci := 8) (q0 := k_3) rfl hk_157, fun U hU hW9 => gmk hU hW9 hP hK hD hex hE hS hFc⟩ rfl rfl hl.1 rfl (lv_room (Nat.le_of_ble_eq_true rfl)) dX9_putCounters_333 ⟨(show dc_290_5 + 0 ≤ PC ws + (12) from (by have e0 : (0 : Int32).toInt = 0 := (by decide); have q_f_45 := f_45; have q_f_83 := f_83; have q_f_131 := f_131; omega)), (show ds_290_5 + 0 ≤ PS ws + (9059) from (by have e0 : (0 : Int32).toInt = 0 := (by decide); have q_f_45 := f_45; have q_f_83 := f_83; have q_f_131 := f_131; omega))⟩) hS (fun q _ h => hFc q h) hFc (fun r_166 u9 t9 H1 locs ht9 hvm9 hw9 hB9 hz9 hk9 hS => ?_)
                          have hP : va_P (gD g) cl0 ws_140 H1 := by rw [← ht9]; exact hB9.1
                          clear hB9 hz9 hk9 hvm9 ht9 hw9
                          generalize H1 = H at hP hS ⊢
                          refine lv_aload_n hx hb dX9_putCounters_336 rfl (lv_at hl 1 rfl) ?_
                          refine va_get (D := gD g) (ci := 7) (v := .ref r8_70) (C := RX8) (T := TX8) (N := 15) hx hb hts inX8 hown hK hP k_70 hk_155 rfl 8 (by decide) (hts _ kw_1709) (fun _ h9 => h9) rfl dX9_putCounters_337 ?_
                          refine lv_iload hx hb dX9_putCounters_340 (lv_at hl 2 rfl) ?_
                          obtain ⟨k_167, f_167, hk_167⟩ := gI_of a_r8_70
                          refine va_iald hx hb hK hP k_167 1 hk_167 rfl (i_in2 (by have e0 : (0 : Int32).toInt = 0 := (by decide); have q_f_45 := f_45; have q_f13_70 := f13_70; have q_f25_70 := f25_70; have q_f_83 := f_83; have q_f_131 := f_131; have q_iv_139 := iv_139; have q_c_156 := i_nle c_156; have q_f7_70 := f7_70; have q_f23_70 := f23_70; have q_f24_70 := f24_70; have q_f27_70 := f27_70; have q_f26_155 := f26_155; have q_f27_155 := f27_155; have q_f9_70 := f9_70; have q_f11_70 := f11_70; have q_f26_70 := f26_70; have g_c9_155 := i_rg c9_155; have g_c9_70 := i_rg c9_70; have g_v5_138 := i_rg v5_138; omega)) dX9_putCounters_342 ?_
                          refine lv_topi (fun z_168 ez_168 => ?_)
                          have hFc := gfree hD hS hA
                          obtain ⟨k_169, fs_169, hk_169⟩ := gC_of o_r0_39
                          refine va_callv (va_runV (As := [.int r_160, .int r_163, .int r_166, .int z_168]) (rest := []) ⟨hx, hb, hml, hown, hts⟩ (m_X8_addCatch l g H.size ws_140 r0_39 (r_160) (r_163) (r_166) (z_168) hG o_r0_39) (cwV 4 hts (gd_V kw_1710 kw_1463 kw_1464 kw_782 kw_1462) rfl rfl rfl (by decide +kernel) ⟨Nat.le_of_ble_eq_true rfl, Nat.le_of_ble_eq_true rfl⟩) ⟨gblind, va_recv hK hP (ci := 7) (q0 := k_169) rfl hk_169, fun U hU hW9 => gmk hU hW9 hP hK hD hex hE hS hFc⟩ rfl rfl hl.1 rfl (lv_room (Nat.le_of_ble_eq_true rfl)) dX9_putCounters_343 ⟨(show dc_290_5 + 0 ≤ PC ws + (12) from (by have e0 : (0 : Int32).toInt = 0 := (by decide); have q_f_45 := f_45; have q_f_83 := f_83; have q_f_131 := f_131; omega)), (show ds_290_5 + 0 ≤ PS ws + (9059) from (by have e0 : (0 : Int32).toInt = 0 := (by decide); have q_f_45 := f_45; have q_f_83 := f_83; have q_f_131 := f_131; omega))⟩) hS (fun q _ h => hFc q h) hFc (fun  ws_170 t9 H1 locs ht9 hvm9 hw9 hB9 hz9 hk9 hS => ?_)
                          obtain ⟨E_171, Fr_172, hG, hP1, hD1⟩ := hB9
                          have hP : va_P (gD g) cl0 ws_170 H1 := by rw [← ht9]; exact hP1
                          have hD : va_D A ws_170 := hD1.weaken (fun _ _ _ h => hFc _ h)
                          clear hP1 hD1 hz9 hk9 hvm9 ht9 hw9
                          generalize H1 = H at hP hS ⊢
                          have aa_175 := a_r0_155
                          have aa_176 := a_r1_155
                          have aa_177 := a_r3_70
                          have aa_178 := a_r5_70
                          have aa_179 := a_r6_70
                          have aa_180 := a_r7_70
                          have aa_181 := a_r8_70
                          have aa_182 := a_r1_157
                          have aa_183 := a_r2_39
                          have aa_184 := a_r3_39
                          have aa_185 := a_r4_39
                          have aa_186 := a_r5_39
                          have o_h0 := E_171.1 _ _ o_h0
                          have o_b1 := E_171.1 _ _ o_b1
                          have pp_187 := Fr_172.pp
                          obtain ⟨z_188, ez_188⟩ : ∃ z : Int32, v5_138 + Int32.ofInt 1 = z := ⟨_, rfl⟩
                          refine lv_iinc (v := z_188) (lv' := [(5, .int z_188), (0, .ref h0), (1, .ref b1)]) hx hb dX9_putCounters_346 hl (k := 2) rfl ez_188 (by decide) rfl (fun ls hl => ?_)
                          refine lv_goto (tgt := 290) hx hb dX9_putCounters_349 (by decide) ?_
                          exact ih_290 _ (by have e0 : (0 : Int32).toInt = 0 := (by decide); have q_f_45 := f_45; have q_f_83 := f_83; have q_f_131 := f_131; obtain ⟨u_z_188, q_z_188⟩ := i_iz ez_188 (by decide) (by decide); have q_iv_139 := iv_139; have q_c_156 := i_nle c_156; have q_f26_155 := f26_155; have q_f27_155 := f27_155; have g_c9_155 := i_rg c9_155; have g_v5_138 := i_rg v5_138; have g_z_188 := i_rg z_188; omega) (z_188) (dc_290_5) (ds_290_5) ws_170 H locs ls rfl (by have e0 : (0 : Int32).toInt = 0 := (by decide); have q_f_45 := f_45; have q_f_83 := f_83; have q_f_131 := f_131; obtain ⟨u_z_188, q_z_188⟩ := i_iz ez_188 (by decide) (by decide); have q_iv_139 := iv_139; have q_c_156 := i_nle c_156; have q_f26_155 := f26_155; have q_f27_155 := f27_155; have g_c9_155 := i_rg c9_155; have g_v5_138 := i_rg v5_138; have g_z_188 := i_rg z_188; omega) ((E_141.tr E_171)) ((gF.tr Fr_142 (gF.mo (F' := [(7, 9)]) (C' := [(7, 5), (7, 6), (7, 7), (7, 8)]) (S' := none) Fr_172 (fun _ h => h) (fun _ h => h) (Or.inl rfl)))) hG (by have e0 : (0 : Int32).toInt = 0 := (by decide); have q_f_45 := f_45; have q_f_83 := f_83; have q_f_131 := f_131; omega) (by have e0 : (0 : Int32).toInt = 0 := (by decide); have q_f_45 := f_45; have q_f_83 := f_83; have q_f_131 := f_131; omega) hP hD hS (lv_sub hl [1, 2, 0] rfl)
                    exact J_290 _ (0) (dc_208_4) (ds_208_4) ws_134 H locs ls rfl (by have e0 : (0 : Int32).toInt = 0 := (by decide); have q_f_45 := f_45; have q_f_83 := f_83; have q_f_131 := f_131; omega) (gE.rf) (gF.rf) hG (by have e0 : (0 : Int32).toInt = 0 := (by decide); have q_f_45 := f_45; have q_f_83 := f_83; have q_f_131 := f_131; omega) (by have e0 : (0 : Int32).toInt = 0 := (by decide); have q_f_45 := f_45; have q_f_83 := f_83; have q_f_131 := f_131; omega) hP hD hS (lv_sub hl [1, 2, 0] rfl)
                  · refine lv_aload_n hx hb dX9_putCounters_220 rfl (lv_at hl 0 rfl) ?_
                    refine va_get (D := gD g) (ci := 8) (v := .ref r0_39) (C := RX9) (T := TX9) (N := 6) hx hb hts inX9 hown hK hP k_3 hk_128 rfl 0 (by decide) (hts _ kw_1552) (fun _ h9 => h9) rfl dX9_putCounters_221 ?_
                    refine lv_iload hx hb dX9_putCounters_224 (lv_at hl 2 rfl) ?_
                    have hFc := gfree hD hS hA
                    refine va_calli (va_runV (As := [.int v5_116]) (rest := []) ⟨hx, hb, hml, hown, hts⟩ (m_X8_targetCount l g H.size ws_118 r0_39 (v5_116) hG o_r0_39) (cwV 1 hts (gd_V kw_1567 kw_1541 kw_1542 kw_782 kw_1540) rfl rfl rfl (by decide +kernel) ⟨Nat.le_of_ble_eq_true rfl, Nat.le_of_ble_eq_true rfl⟩) ⟨gblind, va_recv hK hP (ci := 7) (q0 := k_44) rfl hk_129, fun U hU hW9 => gmk hU hW9 hP hK hD hex hE hS hFc⟩ rfl rfl hl.1 rfl (lv_room (Nat.le_of_ble_eq_true rfl)) dX9_putCounters_226 ⟨(show dc_208_4 + 0 ≤ PC ws + (12) from (by have e0 : (0 : Int32).toInt = 0 := (by decide); have q_f_45 := f_45; have q_f_83 := f_83; omega)), (show ds_208_4 + 0 ≤ PS ws + (9059) from (by have e0 : (0 : Int32).toInt = 0 := (by decide); have q_f_45 := f_45; have q_f_83 := f_83; omega))⟩) hS (fun q _ h => hFc q h) hFc (fun r_189 u9 t9 H1 locs ht9 hvm9 hw9 hB9 hz9 hk9 hS => ?_)
                    have hP : va_P (gD g) cl0 ws_118 H1 := by rw [← ht9]; exact hB9.1
                    clear hB9 hz9 hk9 hvm9 ht9 hw9
                    generalize H1 = H at hP hS ⊢
                    refine lv_istore (lv' := [(6, .int r_189), (0, .ref h0), (1, .ref b1), (5, .int v5_116)]) hx hb dX9_putCounters_229 hl (by decide) rfl (fun ls hl => ?_)
                    refine lv_iconst (v := 0) hx hb dX9_putCounters_231 (by decide) ?_
                    refine lv_istore (lv' := [(7, .int 0), (6, .int r_189), (0, .ref h0), (1, .ref b1), (5, .int v5_116)]) hx hb dX9_putCounters_232 hl (by decide) rfl (fun ls hl => ?_)
                    have J_234 : ∀ (n9 : Nat) (v7_190 : Int32) (dc_234_6 : Nat) (ds_234_6 : Nat) (ws_192 : va_W) (H : Heap) (locs : List Loc) (ls : Array Slot), (2147483647 - v7_190.toInt).toNat = n9 → 0 ≤ v7_190.toInt → gE ws_118 ws_192 → gF [] [(7, 0), (7, 1), (7, 3)] none ws_118 ws_192 → Good g ws_192 → dc_234_6 + PC ws_192 ≤ PC ws + (12) → ds_234_6 + PS ws_192 ≤ PS ws + (9059) → va_P (gD g) cl0 ws_192 H → va_D A ws_192 → va_S A s.heap H locs → lv_has ls 8 [(0, .ref h0), (1, .ref b1), (5, .int v5_116), (6, .int r_189), (7, .int v7_190)] → W p l e (headSpec (wt yX9_putCounters cX9_putCounters 8 none) ({ frames := 3, cells := PC ws + (12), slots := PS ws + (9059), locals := 56 })).room s m ([.ref h0, .ref b1, .ref b2, .int x3] : List Value).toArray below meth c H locs (dc_234_6) (ds_234_6) (MQ below (va_Qv (fun (u9 : va_W) => True) (gQ2 g [(7, 0), (7, 1), (7, 2), (7, 3), (7, 4), (7, 5), (7, 6), (7, 7), (7, 8), (7, 9), (7, 11), (8, 0), (8, 2), (8, 3), (8, 4), (8, 5)] [(7, 0), (7, 1), (7, 3), (7, 5), (7, 6), (7, 7), (7, 8), (8, 5)] none A ws s.heap (12) (9059)) A) ([.ref h0, .ref b1, .ref b2, .int x3] : List Value).toArray s (PC ws + (12)) (PS ws + (9059)) A) (F0 m 234 ls []) := by
                      intro n9
                      induction n9 using Nat.strongRecOn with
                      | ind n9 ih_234 =>
                        intro v7_190 dc_234_6 ds_234_6 ws_192 H locs ls hm9 iv_191 E_193 Fr_194 hG hc9 hs9 hP hD hS hl
                        subst hm9
                        have aa_195 := a_r1_128
                        have aa_196 := a_r2_39
                        have aa_197 := a_r3_39
                        have aa_198 := a_r4_39
                        have aa_199 := a_r5_39
                        have aa_200 := a_r0_129
                        have aa_201 := a_r1_129
                        have aa_202 := a_r3_44
                        have aa_203 := a_r5_44
                        have aa_204 := a_r6_44
                        have aa_205 := a_r7_44
                        have aa_206 := a_r8_44
                        have o_h0 := E_193.1 _ _ o_h0
                        have o_b1 := E_193.1 _ _ o_b1
                        refine lv_iload hx hb dX9_putCounters_234 (lv_at hl 4 rfl) ?_
                        refine lv_iload hx hb dX9_putCounters_236 (lv_at hl 3 rfl) ?_
                        refine lv_icmp_ge (tgt := 273) hx hb dX9_putCounters_238 (by decide) (fun c_207 => ?_) (fun c_207 => ?_)
                        · obtain ⟨z_208, ez_208⟩ : ∃ z : Int32, v5_116 + Int32.ofInt 1 = z := ⟨_, rfl⟩
                          refine lv_iinc (v := z_208) (lv' := [(5, .int z_208), (0, .ref h0), (1, .ref b1), (6, .int r_189), (7, .int v7_190)]) hx hb dX9_putCounters_273 hl (k := 2) rfl ez_208 (by decide) rfl (fun ls hl => ?_)
                          refine lv_goto (tgt := 208) hx hb dX9_putCounters_276 (by decide) ?_
                          exact ih_208 _ (by have e0 : (0 : Int32).toInt = 0 := (by decide); have q_f_45 := f_45; have q_f_83 := f_83; obtain ⟨u_z_208, q_z_208⟩ := i_iz ez_208 (by decide) (by decide); have q_iv_117 := iv_117; have q_c_130 := i_nle c_130; have q_f19_78 := f19_78; have q_f20_78 := f20_78; have q_f20_129 := f20_129; have g_c2_78 := i_rg c2_78; have g_v5_116 := i_rg v5_116; have g_z_208 := i_rg z_208; omega) (z_208) (dc_234_6) (ds_234_6) ws_192 H locs ls rfl (by have e0 : (0 : Int32).toInt = 0 := (by decide); have q_f_45 := f_45; have q_f_83 := f_83; obtain ⟨u_z_208, q_z_208⟩ := i_iz ez_208 (by decide) (by decide); have q_iv_117 := iv_117; have q_c_130 := i_nle c_130; have q_f19_78 := f19_78; have q_f20_78 := f20_78; have q_f20_129 := f20_129; have g_c2_78 := i_rg c2_78; have g_v5_116 := i_rg v5_116; have g_z_208 := i_rg z_208; omega) ((E_119.tr E_193)) ((gF.tr Fr_120 Fr_194)) hG (by have e0 : (0 : Int32).toInt = 0 := (by decide); have q_f_45 := f_45; have q_f_83 := f_83; omega) (by have e0 : (0 : Int32).toInt = 0 := (by decide); have q_f_45 := f_45; have q_f_83 := f_83; omega) hP hD hS (lv_sub hl [1, 2, 0] rfl)
                        · refine lv_aload_n hx hb dX9_putCounters_241 rfl (lv_at hl 0 rfl) ?_
                          obtain ⟨fs9, hk_209, hq_209⟩ := ((gF.a (F' := []) Fr_194 (fun _ h => h))) _ _ _ hk_128
                          obtain ⟨r0_209, r1_209, n1_209, r2_209, n2_209, r3_209, n3_209, r4_209, n4_209, r5_209, n5_209, rfl, o_r0_209, a_r1_209, f2_209, a_r2_209, f4_209, a_r3_209, f6_209, a_r4_209, f8_209, a_r5_209, f10_209, f11_209, -⟩ := (hG.1 _ _ _ _ hk_209).hX9 rfl
                          obtain rfl := fe_r (hq_209 0 (by decide))
                          have o_r0_39 := o_r0_209
                          obtain rfl := fe_r (hq_209 2 (by decide))
                          have hn9 := gI_n hD ((E_193).1 _ _ aa_196) a_r2_209
                          subst hn9
                          have a_r2_39 := a_r2_209
                          obtain rfl := fe_r (hq_209 3 (by decide))
                          have hn9 := gI_n hD ((E_193).1 _ _ aa_197) a_r3_209
                          subst hn9
                          have a_r3_39 := a_r3_209
                          obtain rfl := fe_r (hq_209 4 (by decide))
                          have hn9 := gI_n hD ((E_193).1 _ _ aa_198) a_r4_209
                          subst hn9
                          have a_r4_39 := a_r4_209
                          obtain rfl := fe_r (hq_209 5 (by decide))
                          have hn9 := gI_n hD ((E_193).1 _ _ aa_199) a_r5_209
                          subst hn9
                          have a_r5_39 := a_r5_209
                          refine va_get (D := gD g) (ci := 8) (v := .ref r0_39) (C := RX9) (T := TX9) (N := 6) hx hb hts inX9 hown hK hP k_3 hk_209 rfl 0 (by decide) (hts _ kw_1552) (fun _ h9 => h9) rfl dX9_putCounters_242 ?_
                          refine lv_iload hx hb dX9_putCounters_245 (lv_at hl 2 rfl) ?_
                          refine lv_iload hx hb dX9_putCounters_247 (lv_at hl 4 rfl) ?_
                          refine lv_aload_n hx hb dX9_putCounters_249 rfl (lv_at hl 0 rfl) ?_
                          refine lv_aload_n hx hb dX9_putCounters_250 rfl (lv_at hl 0 rfl) ?_
                          refine va_get (D := gD g) (ci := 8) (v := .ref r0_39) (C := RX9) (T := TX9) (N := 6) hx hb hts inX9 hown hK hP k_3 hk_209 rfl 0 (by decide) (hts _ kw_1552) (fun _ h9 => h9) rfl dX9_putCounters_251 ?_
                          refine lv_iload hx hb dX9_putCounters_254 (lv_at hl 2 rfl) ?_
                          refine lv_iload hx hb dX9_putCounters_256 (lv_at hl 4 rfl) ?_
                          have hFc := gfree hD hS hA
                          obtain ⟨k_210, fs_210, hk_210⟩ := gC_of o_r0_39
                          refine va_calli (va_runV (As := [.int v5_116, .int v7_190]) (rest := [.ref h0, .int v7_190, .int v5_116, .ref r0_39]) ⟨hx, hb, hml, hown, hts⟩ (m_X8_targetAt l g H.size ws_192 r0_39 (v5_116) (v7_190) hG o_r0_39) (cwV 2 hts (gd_V kw_1568 kw_1537 kw_1538 kw_782 kw_1536) rfl rfl rfl (by decide +kernel) ⟨Nat.le_of_ble_eq_true rfl, Nat.le_of_ble_eq_true rfl⟩) ⟨gblind, va_recv hK hP (ci := 7) (q0 := k_210) rfl hk_210, fun U hU hW9 => gmk hU hW9 hP hK hD hex hE hS hFc⟩ rfl rfl hl.1 rfl (lv_room (Nat.le_of_ble_eq_true rfl)) dX9_putCounters_258 ⟨(show dc_234_6 + 0 ≤ PC ws + (12) from (by have e0 : (0 : Int32).toInt = 0 := (by decide); have q_f_45 := f_45; have q_f_83 := f_83; omega)), (show ds_234_6 + 0 ≤ PS ws + (9059) from (by have e0 : (0 : Int32).toInt = 0 := (by decide); have q_f_45 := f_45; have q_f_83 := f_83; omega))⟩) hS (fun q _ h => hFc q h) hFc (fun r_211 u9 t9 H1 locs ht9 hvm9 hw9 hB9 hz9 hk9 hS => ?_)
                          have hP : va_P (gD g) cl0 ws_192 H1 := by rw [← ht9]; exact hB9.1
                          clear hB9 hz9 hk9 hvm9 ht9 hw9
                          generalize H1 = H at hP hS ⊢
                          have hFc := gfree hD hS hA
                          refine va_calli (va_runV (As := [.int r_211]) (rest := [.int v7_190, .int v5_116, .ref r0_39]) ⟨hx, hb, hml, hown, hts⟩ (m_X9_placeOf l g H.size ws_192 h0 (r_211) hG o_h0 (gP_of hD hk_209 (fun p90 q90 e90 g90 => by cases e90; have z90 := gI_n hD a_r2_39 g90; subst z90; exact (by have e0 : (0 : Int32).toInt = 0 := (by decide); have q_f4_39 := f4_39; have q_kq_40 := kq_40; have q_f_45 := f_45; have q_f_83 := f_83; omega))) (gP_of hD hk_209 (fun p90 q90 e90 g90 => by cases e90; have z90 := gI_n hD a_r3_39 g90; subst z90; exact (by have e0 : (0 : Int32).toInt = 0 := (by decide); have q_f6_39 := f6_39; have q_kq_41 := kq_41; have q_f_45 := f_45; have q_f_83 := f_83; omega))) (gP_of hD hk_209 (fun p90 q90 e90 g90 => by cases e90; have z90 := gI_n hD a_r4_39 g90; subst z90; exact (by have e0 : (0 : Int32).toInt = 0 := (by decide); have q_f8_39 := f8_39; have q_kq_42 := kq_42; have q_f_45 := f_45; have q_f_83 := f_83; omega))) (gP_of hD hk_209 (fun p90 q90 e90 g90 => by cases e90; have z90 := gI_n hD a_r5_39 g90; subst z90; exact (by have e0 : (0 : Int32).toInt = 0 := (by decide); have e1 : (1 : Int32).toInt = 1 := (by decide); have q_f10_39 := f10_39; have q_kq_43 := kq_43; have q_f_45 := f_45; have q_z_75 := i_len ez_75 f10_73; have q_f_83 := f_83; obtain ⟨u_z_76, q_z_76⟩ := i_sub ez_76; have q_z_77 := i_min ez_77; have g_c2_70 := i_rg c2_70; have g_z_75 := i_rg z_75; have g_z_76 := i_rg z_76; have g_z_77 := i_rg z_77; omega)))) (cwV 1 hts (gd_V kw_1708 kw_1693 kw_1694 kw_404 kw_1692) rfl rfl rfl (by decide +kernel) ⟨Nat.le_of_ble_eq_true rfl, Nat.le_of_ble_eq_true rfl⟩) ⟨gblind, va_recv hK hP (ci := 8) (q0 := k_3) rfl hk_209, fun U hU hW9 => gmk hU hW9 hP hK hD hex hE hS hFc⟩ rfl rfl hl.1 rfl (lv_room (Nat.le_of_ble_eq_true rfl)) dX9_putCounters_261 ⟨(show dc_234_6 + 0 ≤ PC ws + (12) from (by have e0 : (0 : Int32).toInt = 0 := (by decide); have q_f_45 := f_45; have q_f_83 := f_83; omega)), (show ds_234_6 + 0 ≤ PS ws + (9059) from (by have e0 : (0 : Int32).toInt = 0 := (by decide); have q_f_45 := f_45; have q_f_83 := f_83; omega))⟩) hS (fun q _ h => hFc q h) hFc (fun r_212 u9 t9 H1 locs ht9 hvm9 hw9 hB9 hz9 hk9 hS => ?_)
                          have hP : va_P (gD g) cl0 ws_192 H1 := by rw [← ht9]; exact hB9.1
                          clear hB9 hz9 hk9 hvm9 ht9 hw9
                          generalize H1 = H at hP hS ⊢
                          have hFc := gfree hD hS hA
                          obtain ⟨k_213, fs_213, hk_213⟩ := gC_of o_r0_39
                          refine va_callv (va_runV (As := [.int v5_116, .int v7_190, .int r_212]) (rest := []) ⟨hx, hb, hml, hown, hts⟩ (m_X8_setTarget l g H.size ws_192 r0_39 (v5_116) (v7_190) (r_212) hG o_r0_39) (cwV 3 hts (gd_V kw_1651 kw_1526 kw_1527 kw_782 kw_1525) rfl rfl rfl (by decide +kernel) ⟨Nat.le_of_ble_eq_true rfl, Nat.le_of_ble_eq_true rfl⟩) ⟨gblind, va_recv hK hP (ci := 7) (q0 := k_213) rfl hk_213, fun U hU hW9 => gmk hU hW9 hP hK hD hex hE hS hFc⟩ rfl rfl hl.1 rfl (lv_room (Nat.le_of_ble_eq_true rfl)) dX9_putCounters_264 ⟨(show dc_234_6 + 0 ≤ PC ws + (12) from (by have e0 : (0 : Int32).toInt = 0 := (by decide); have q_f_45 := f_45; have q_f_83 := f_83; omega)), (show ds_234_6 + 0 ≤ PS ws + (9059) from (by have e0 : (0 : Int32).toInt = 0 := (by decide); have q_f_45 := f_45; have q_f_83 := f_83; omega))⟩) hS (fun q _ h => hFc q h) hFc (fun  ws_214 t9 H1 locs ht9 hvm9 hw9 hB9 hz9 hk9 hS => ?_)
                          obtain ⟨E_215, Fr_216, hG, hP1, hD1⟩ := hB9
                          have hP : va_P (gD g) cl0 ws_214 H1 := by rw [← ht9]; exact hP1
                          have hD : va_D A ws_214 := hD1.weaken (fun _ _ _ h => hFc _ h)
                          clear hP1 hD1 hz9 hk9 hvm9 ht9 hw9
                          generalize H1 = H at hP hS ⊢
                          have aa_219 := a_r1_209
                          have aa_220 := a_r2_39
                          have aa_221 := a_r3_39
                          have aa_222 := a_r4_39
                          have aa_223 := a_r5_39
                          have o_h0 := E_215.1 _ _ o_h0
                          have o_b1 := E_215.1 _ _ o_b1
                          have pp_224 := Fr_216.pp
                          obtain ⟨z_225, ez_225⟩ : ∃ z : Int32, v7_190 + Int32.ofInt 1 = z := ⟨_, rfl⟩
                          refine lv_iinc (v := z_225) (lv' := [(7, .int z_225), (0, .ref h0), (1, .ref b1), (5, .int v5_116), (6, .int r_189)]) hx hb dX9_putCounters_267 hl (k := 4) rfl ez_225 (by decide) rfl (fun ls hl => ?_)
                          refine lv_goto (tgt := 234) hx hb dX9_putCounters_270 (by decide) ?_
                          exact ih_234 _ (by have e0 : (0 : Int32).toInt = 0 := (by decide); have q_f_45 := f_45; have q_f_83 := f_83; obtain ⟨u_z_225, q_z_225⟩ := i_iz ez_225 (by decide) (by decide); have q_iv_191 := iv_191; have q_c_207 := i_nle c_207; have g_r_189 := i_rg r_189; have g_v7_190 := i_rg v7_190; have g_z_225 := i_rg z_225; omega) (z_225) (dc_234_6) (ds_234_6) ws_214 H locs ls rfl (by have e0 : (0 : Int32).toInt = 0 := (by decide); have q_f_45 := f_45; have q_f_83 := f_83; obtain ⟨u_z_225, q_z_225⟩ := i_iz ez_225 (by decide) (by decide); have q_iv_191 := iv_191; have q_c_207 := i_nle c_207; have g_r_189 := i_rg r_189; have g_v7_190 := i_rg v7_190; have g_z_225 := i_rg z_225; omega) ((E_193.tr E_215)) ((gF.tr Fr_194 (gF.mo (F' := []) (C' := [(7, 0), (7, 1), (7, 3)]) (S' := none) Fr_216 (fun _ h => h) (fun _ h => h) (Or.inl rfl)))) hG (by have e0 : (0 : Int32).toInt = 0 := (by decide); have q_f_45 := f_45; have q_f_83 := f_83; omega) (by have e0 : (0 : Int32).toInt = 0 := (by decide); have q_f_45 := f_45; have q_f_83 := f_83; omega) hP hD hS (lv_sub hl [1, 2, 3, 4, 0] rfl)
                    exact J_234 _ (0) (dc_208_4) (ds_208_4) ws_118 H locs ls rfl (by have e0 : (0 : Int32).toInt = 0 := (by decide); have q_f_45 := f_45; have q_f_83 := f_83; omega) (gE.rf) (gF.rf) hG (by have e0 : (0 : Int32).toInt = 0 := (by decide); have q_f_45 := f_45; have q_f_83 := f_83; omega) (by have e0 : (0 : Int32).toInt = 0 := (by decide); have q_f_45 := f_45; have q_f_83 := f_83; omega) hP hD hS (lv_sub hl [2, 3, 4, 1, 0] rfl)
              exact J_208 _ (0) (dc_176_3) (ds_176_3) ws_99 H locs ls rfl (by have e0 : (0 : Int32).toInt = 0 := (by decide); have q_f_45 := f_45; have q_f_83 := f_83; omega) (gE.rf) (gF.rf) hG (by have e0 : (0 : Int32).toInt = 0 := (by decide); have q_f_45 := f_45; have q_f_83 := f_83; omega) (by have e0 : (0 : Int32).toInt = 0 := (by decide); have q_f_45 := f_45; have q_f_83 := f_83; omega) hP hD hS (lv_sub hl [1, 2, 0] rfl)
            · refine lv_aload_n hx hb dX9_putCounters_185 rfl (lv_at hl 0 rfl) ?_
              obtain ⟨fs9, hk_226, hq_226⟩ := ((gF.a (F' := [(7, 4)]) Fr_101 (fun _ h => h))) _ _ _ hk_73
              obtain ⟨r0_226, r1_226, n1_226, r2_226, n2_226, r3_226, n3_226, r4_226, n4_226, r5_226, n5_226, rfl, o_r0_226, a_r1_226, f2_226, a_r2_226, f4_226, a_r3_226, f6_226, a_r4_226, f8_226, a_r5_226, f10_226, f11_226, -⟩ := (hG.1 _ _ _ _ hk_226).hX9 rfl
              obtain rfl := fe_r (hq_226 0 (by decide))
              have o_r0_39 := o_r0_226
              obtain rfl := fe_r (hq_226 2 (by decide))
              have hn9 := gI_n hD ((E_100).1 _ _ aa_103) a_r2_226
              subst hn9
              have a_r2_39 := a_r2_226
              obtain rfl := fe_r (hq_226 3 (by decide))
              have hn9 := gI_n hD ((E_100).1 _ _ aa_104) a_r3_226
              subst hn9
              have a_r3_39 := a_r3_226
              obtain rfl := fe_r (hq_226 4 (by decide))
              have hn9 := gI_n hD ((E_100).1 _ _ aa_105) a_r4_226
              subst hn9
              have a_r4_39 := a_r4_226
              obtain rfl := fe_r (hq_226 5 (by decide))
              have hn9 := gI_n hD ((E_100).1 _ _ aa_106) a_r5_226
              subst hn9
              have a_r5_39 := a_r5_226
              refine va_get (D := gD g) (ci := 8) (v := .ref r0_39) (C := RX9) (T := TX9) (N := 6) hx hb hts inX9 hown hK hP k_3 hk_226 rfl 0 (by decide) (hts _ kw_1552) (fun _ h9 => h9) rfl dX9_putCounters_186 ?_
              refine lv_aload_n hx hb dX9_putCounters_189 rfl (lv_at hl 1 rfl) ?_
              refine va_get (D := gD g) (ci := 7) (v := .ref r3_70) (C := RX8) (T := TX8) (N := 15) hx hb hts inX8 hown hK hP k_70 hk_114 rfl 3 (by decide) (hts _ kw_1706) (fun _ h9 => h9) rfl dX9_putCounters_190 ?_
              refine lv_iload hx hb dX9_putCounters_193 (lv_at hl 2 rfl) ?_
              obtain ⟨k_227, f_227, hk_227⟩ := gI_of a_r3_70
              refine va_iald hx hb hK hP k_227 1 hk_227 rfl (i_in2 (by have e0 : (0 : Int32).toInt = 0 := (by decide); have q_f_45 := f_45; have q_f5_70 := f5_70; have q_f22_70 := f22_70; have q_f_83 := f_83; have q_iv_98 := iv_98; have q_f22_114 := f22_114; have q_c_115 := i_nle c_115; have q_f21_70 := f21_70; have q_f21_114 := f21_114; have g_c4_114 := i_rg c4_114; have g_c4_70 := i_rg c4_70; have g_v5_97 := i_rg v5_97; omega)) dX9_putCounters_195 ?_
              refine lv_topi (fun z_228 ez_228 => ?_)
              have hFc := gfree hD hS hA
              obtain ⟨k_229, fs_229, hk_229⟩ := gC_of o_r0_39
              refine va_callv (va_runV (As := [.int z_228]) (rest := []) ⟨hx, hb, hml, hown, hts⟩ (m_X8_addToTable l g H.size ws_99 r0_39 (z_228) hG o_r0_39) (cwV 1 hts (gd_V kw_1707 kw_1471 kw_1472 kw_782 kw_1470) rfl rfl rfl (by decide +kernel) ⟨Nat.le_of_ble_eq_true rfl, Nat.le_of_ble_eq_true rfl⟩) ⟨gblind, va_recv hK hP (ci := 7) (q0 := k_229) rfl hk_229, fun U hU hW9 => gmk hU hW9 hP hK hD hex hE hS hFc⟩ rfl rfl hl.1 rfl (lv_room (Nat.le_of_ble_eq_true rfl)) dX9_putCounters_196 ⟨(show dc_176_3 + 0 ≤ PC ws + (12) from (by have e0 : (0 : Int32).toInt = 0 := (by decide); have q_f_45 := f_45; have q_f_83 := f_83; omega)), (show ds_176_3 + 0 ≤ PS ws + (9059) from (by have e0 : (0 : Int32).toInt = 0 := (by decide); have q_f_45 := f_45; have q_f_83 := f_83; omega))⟩) hS (fun q _ h => hFc q h) hFc (fun  ws_230 t9 H1 locs ht9 hvm9 hw9 hB9 hz9 hk9 hS => ?_)
              obtain ⟨E_231, Fr_232, hG, hP1, hD1⟩ := hB9
              have hP : va_P (gD g) cl0 ws_230 H1 := by rw [← ht9]; exact hP1
              have hD : va_D A ws_230 := hD1.weaken (fun _ _ _ h => hFc _ h)
              clear hP1 hD1 hz9 hk9 hvm9 ht9 hw9
              generalize H1 = H at hP hS ⊢
              have aa_235 := a_r0_114
              have aa_236 := a_r1_114
              have aa_237 := a_r3_70
              have aa_238 := a_r5_70
              have aa_239 := a_r6_70
              have aa_240 := a_r7_70
              have aa_241 := a_r8_70
              have aa_242 := a_r1_226
              have aa_243 := a_r2_39
              have aa_244 := a_r3_39
              have aa_245 := a_r4_39
              have aa_246 := a_r5_39
              have o_h0 := E_231.1 _ _ o_h0
              have o_b1 := E_231.1 _ _ o_b1
              have pp_247 := Fr_232.pp
              obtain ⟨z_248, ez_248⟩ : ∃ z : Int32, v5_97 + Int32.ofInt 1 = z := ⟨_, rfl⟩
              refine lv_iinc (v := z_248) (lv' := [(5, .int z_248), (0, .ref h0), (1, .ref b1)]) hx hb dX9_putCounters_199 hl (k := 2) rfl ez_248 (by decide) rfl (fun ls hl => ?_)
              refine lv_goto (tgt := 176) hx hb dX9_putCounters_202 (by decide) ?_
              exact ih_176 _ (by have e0 : (0 : Int32).toInt = 0 := (by decide); have q_f_45 := f_45; have q_f_83 := f_83; obtain ⟨u_z_248, q_z_248⟩ := i_iz ez_248 (by decide) (by decide); have q_iv_98 := iv_98; have q_c_115 := i_nle c_115; have q_f21_114 := f21_114; have q_f22_114 := f22_114; have g_c4_114 := i_rg c4_114; have g_v5_97 := i_rg v5_97; have g_z_248 := i_rg z_248; omega) (z_248) (dc_176_3) (ds_176_3) ws_230 H locs ls rfl (by have e0 : (0 : Int32).toInt = 0 := (by decide); have q_f_45 := f_45; have q_f_83 := f_83; obtain ⟨u_z_248, q_z_248⟩ := i_iz ez_248 (by decide) (by decide); have q_iv_98 := iv_98; have q_c_115 := i_nle c_115; have q_f21_114 := f21_114; have q_f22_114 := f22_114; have g_c4_114 := i_rg c4_114; have g_v5_97 := i_rg v5_97; have g_z_248 := i_rg z_248; omega) ((E_100.tr E_231)) ((gF.tr Fr_101 (gF.mo (F' := [(7, 4)]) (C' := [(7, 3)]) (S' := none) Fr_232 (fun _ h => h) (fun _ h => h) (Or.inl rfl)))) hG (by have e0 : (0 : Int32).toInt = 0 := (by decide); have q_f_45 := f_45; have q_f_83 := f_83; omega) (by have e0 : (0 : Int32).toInt = 0 := (by decide); have q_f_45 := f_45; have q_f_83 := f_83; omega) hP hD hS (lv_sub hl [1, 2, 0] rfl)
        exact J_176 _ (0) (dc_139_2) (ds_139_2) ws_86 H locs ls rfl (by have e0 : (0 : Int32).toInt = 0 := (by decide); have q_f_45 := f_45; have q_f_83 := f_83; omega) (gE.rf) (gF.rf) hG (by have e0 : (0 : Int32).toInt = 0 := (by decide); have q_f_45 := f_45; have q_f_83 := f_83; omega) (by have e0 : (0 : Int32).toInt = 0 := (by decide); have q_f_45 := f_45; have q_f_83 := f_83; omega) hP hD hS (lv_sub hl [1, 2, 0] rfl)
      refine lv_icmp_ge (tgt := 139) hx hb dX9_putCounters_25 (by decide) (fun c_249 => ?_) (fun c_249 => ?_)
      · exact J_139 (dc_19_1) (ds_19_1) H locs ls (by have e0 : (0 : Int32).toInt = 0 := (by decide); have q_f_45 := f_45; omega) (by have e0 : (0 : Int32).toInt = 0 := (by decide); have q_f_45 := f_45; omega) hP hD hS (lv_sub hl [0, 1] rfl)
      · refine lv_iload hx hb dX9_putCounters_28 (lv_at hl 4 rfl) ?_
        refine lv_aload_n hx hb dX9_putCounters_30 rfl (lv_at hl 0 rfl) ?_
        obtain ⟨fs9, hk_250, hq_250⟩ := ((gF.a (F' := [(7, 2)]) Fr_57 (fun _ h => h))) _ _ _ hk_39
        obtain ⟨r0_250, r1_250, n1_250, r2_250, n2_250, r3_250, n3_250, r4_250, n4_250, r5_250, n5_250, rfl, o_r0_250, a_r1_250, f2_250, a_r2_250, f4_250, a_r3_250, f6_250, a_r4_250, f8_250, a_r5_250, f10_250, f11_250, -⟩ := (hG.1 _ _ _ _ hk_250).hX9 rfl
        obtain rfl := fe_r (hq_250 0 (by decide))
        have o_r0_39 := o_r0_250
        obtain rfl := fe_r (hq_250 2 (by decide))
        have hn9 := gI_n hD ((E_56).1 _ _ aa_59) a_r2_250
        subst hn9
        have a_r2_39 := a_r2_250
        obtain rfl := fe_r (hq_250 3 (by decide))
        have hn9 := gI_n hD ((E_56).1 _ _ aa_60) a_r3_250
        subst hn9
        have a_r3_39 := a_r3_250
        obtain rfl := fe_r (hq_250 4 (by decide))
        have hn9 := gI_n hD ((E_56).1 _ _ aa_61) a_r4_250
        subst hn9
        have a_r4_39 := a_r4_250
        obtain rfl := fe_r (hq_250 5 (by decide))
        have hn9 := gI_n hD ((E_56).1 _ _ aa_62) a_r5_250
        subst hn9
        have a_r5_39 := a_r5_250
        refine va_get (D := gD g) (ci := 8) (v := .ref r5_39) (C := RX9) (T := TX9) (N := 6) hx hb hts inX9 hown hK hP k_3 hk_250 rfl 5 (by decide) (hts _ kw_1592) (fun _ h9 => h9) rfl dX9_putCounters_31 ?_
        obtain ⟨k_251, f_251, hk_251⟩ := gI_of a_r5_39
        obtain ⟨z_252, ez_252⟩ : ∃ z : Int32, Int32.ofNat n5_39 = z := ⟨_, rfl⟩
        refine va_alen (v := z_252) hx hb hK hP k_251 1 hk_251 rfl ez_252 dX9_putCounters_34 ?_
        refine lv_icmp_ge (tgt := 139) hx hb dX9_putCounters_35 (by decide) (fun c_253 => ?_) (fun c_253 => ?_)
        · exact J_139 (dc_19_1) (ds_19_1) H locs ls (by have e0 : (0 : Int32).toInt = 0 := (by decide); have q_f_45 := f_45; omega) (by have e0 : (0 : Int32).toInt = 0 := (by decide); have q_f_45 := f_45; omega) hP hD hS (lv_sub hl [0, 1] rfl)
        · refine lv_aload_n hx hb dX9_putCounters_38 rfl (lv_at hl 0 rfl) ?_
          refine va_get (D := gD g) (ci := 8) (v := .ref r5_39) (C := RX9) (T := TX9) (N := 6) hx hb hts inX9 hown hK hP k_3 hk_250 rfl 5 (by decide) (hts _ kw_1592) (fun _ h9 => h9) rfl dX9_putCounters_39 ?_
          refine lv_iload hx hb dX9_putCounters_42 (lv_at hl 4 rfl) ?_
          refine lv_aload_n hx hb dX9_putCounters_44 rfl (lv_at hl 0 rfl) ?_
          refine va_get (D := gD g) (ci := 8) (v := .ref r0_39) (C := RX9) (T := TX9) (N := 6) hx hb hts inX9 hown hK hP k_3 hk_250 rfl 0 (by decide) (hts _ kw_1552) (fun _ h9 => h9) rfl dX9_putCounters_45 ?_
          obtain ⟨fs9, hk_254, hq_254⟩ := ((gF.a (F' := [(7, 2)]) Fr_57 (fun _ h => h))) _ _ _ hk_44
          obtain ⟨r0_254, n0_254, r1_254, n1_254, c2_254, r3_254, n3_254, c4_254, r5_254, n5_254, r6_254, n6_254, r7_254, n7_254, r8_254, n8_254, c9_254, c10_254, c11_254, v12_254, v13_254, v14_254, rfl, a_r0_254, f1_254, a_r1_254, f3_254, a_r3_254, f5_254, a_r5_254, f7_254, a_r6_254, f9_254, a_r7_254, f11_254, a_r8_254, f13_254, o_v12_254, o_v13_254, o_v14_254, f17_254, f18_254, f19_254, f20_254, f21_254, f22_254, f23_254, f24_254, f25_254, f26_254, f27_254, -⟩ := (hG.1 _ _ _ _ hk_254).hX8 rfl
          obtain rfl := fe_r (hq_254 3 (by decide))
          have hn9 := gI_n hD ((E_56).1 _ _ aa_65) a_r3_254
          subst hn9
          have a_r3_44 := a_r3_254
          obtain rfl := fe_i (hq_254 4 (by decide))
          obtain rfl := fe_r (hq_254 5 (by decide))
          have hn9 := gI_n hD ((E_56).1 _ _ aa_66) a_r5_254
          subst hn9
          have a_r5_44 := a_r5_254
          obtain rfl := fe_r (hq_254 6 (by decide))
          have hn9 := gI_n hD ((E_56).1 _ _ aa_67) a_r6_254
          subst hn9
          have a_r6_44 := a_r6_254
          obtain rfl := fe_r (hq_254 7 (by decide))
          have hn9 := gI_n hD ((E_56).1 _ _ aa_68) a_r7_254
          subst hn9
          have a_r7_44 := a_r7_254
          obtain rfl := fe_r (hq_254 8 (by decide))
          have hn9 := gI_n hD ((E_56).1 _ _ aa_69) a_r8_254
          subst hn9
          have a_r8_44 := a_r8_254
          obtain rfl := fe_i (hq_254 9 (by decide))
          refine va_get (D := gD g) (ci := 7) (v := .int c2_254) (C := RX8) (T := TX8) (N := 15) hx hb hts inX8 hown hK hP k_44 hk_254 rfl 2 (by decide) (hts _ kw_1553) (fun _ h9 => h9) rfl dX9_putCounters_48 ?_
          have hC9 : hol ws_55 r5_39 [(8, 5)] := (hol_u hG.u hk_250 (j := 5) rfl a_r5_39 (by decide))
          have hS9 : holS ws_55 r5_39 none := holS_n
          refine va_iast hx hb hK hP hD hS k_251 1 hk_251 rfl (i_in2 (by have e0 : (0 : Int32).toInt = 0 := (by decide); have q_f10_39 := f10_39; have q_kq_43 := kq_43; have q_f_45 := f_45; have q_iv_54 := iv_54; have q_c_249 := i_nle c_249; have q_z_252 := i_len ez_252 f10_250; have q_c_253 := i_nle c_253; have q_f19_70 := f19_70; have q_f20_70 := f20_70; have q_f1_70 := f1_70; have q_f17_70 := f17_70; have q_f18_70 := f18_70; have g_c2_70 := i_rg c2_70; have g_v5_53 := i_rg v5_53; have g_z_252 := i_rg z_252; omega)) dX9_putCounters_51 (fun H locs hP hD hS => ?_)
          obtain ⟨ws_255, e_ws_255⟩ : ∃ z, z = ws_55.set k_251 (r5_39, .inl (g.cI, n5_39, .inl (upd f_251 (v5_53 : Int32).toNatClampNeg c2_254))) := ⟨_, rfl⟩
          have hP : va_P (gD g) cl0 ws_255 H := by rw [e_ws_255]; exact hP
          have hD : va_D A ws_255 := by rw [e_ws_255]; exact hD
          have E_256 : gE ws_55 ws_255 := gE_ari e_ws_255 hk_251
          have hG : Good g ws_255 := Good_arI e_ws_255 hk_251 hG
          have Fr_257 : gF [] [(8, 5)] none ws_55 ws_255 := gF_ar e_ws_255 hk_251 rfl hC9 hS9
          have pp_258 := Fr_257.pp
          have hk_70 := gset_arO e_ws_255 hk_251 hk_70
          have hk_250 := gset_arO e_ws_255 hk_251 hk_250
          have hk_254 := gset_arO e_ws_255 hk_251 hk_254
          have o_h0 := E_256.1 _ _ o_h0
          have o_b1 := E_256.1 _ _ o_b1
          have o_b2 := E_256.1 _ _ o_b2
          have a_r0_70 := E_256.1 _ _ a_r0_70
          have a_r1_70 := E_256.1 _ _ a_r1_70
          have a_r3_70 := E_256.1 _ _ a_r3_70
          have a_r5_70 := E_256.1 _ _ a_r5_70
          have a_r6_70 := E_256.1 _ _ a_r6_70
          have a_r7_70 := E_256.1 _ _ a_r7_70
          have a_r8_70 := E_256.1 _ _ a_r8_70
          have o_v12_70 : ∀ b, v12_70 = some b → ∃ n, gI ws_255 b g.cB n ∧ n < 2147483648 := fun b h => (o_v12_70 b h).imp (fun n h => ⟨E_256.1 _ _ h.1, h.2⟩)
          have o_v13_70 : ∀ b, v13_70 = some b → ∃ n, gJ ws_255 b g.cL n ∧ n < 2147483648 := fun b h => (o_v13_70 b h).imp (fun n h => ⟨E_256.1 _ _ h.1, h.2⟩)
          have o_v14_70 : ∀ b, v14_70 = some b → ∃ n, gJ ws_255 b g.cL n ∧ n < 2147483648 := fun b h => (o_v14_70 b h).imp (fun n h => ⟨E_256.1 _ _ h.1, h.2⟩)
          have a_r1_250 := E_256.1 _ _ a_r1_250
          have o_r0_39 := E_256.1 _ _ o_r0_39
          have a_r2_39 := E_256.1 _ _ a_r2_39
          have a_r3_39 := E_256.1 _ _ a_r3_39
          have a_r4_39 := E_256.1 _ _ a_r4_39
          have a_r5_39 := E_256.1 _ _ a_r5_39
          have a_r0_254 := E_256.1 _ _ a_r0_254
          have a_r1_254 := E_256.1 _ _ a_r1_254
          have o_v12_254 : ∀ b, v12_254 = some b → ∃ n, gI ws_255 b g.cB n ∧ n < 2147483648 := fun b h => (o_v12_254 b h).imp (fun n h => ⟨E_256.1 _ _ h.1, h.2⟩)
          have o_v13_254 : ∀ b, v13_254 = some b → ∃ n, gJ ws_255 b g.cL n ∧ n < 2147483648 := fun b h => (o_v13_254 b h).imp (fun n h => ⟨E_256.1 _ _ h.1, h.2⟩)
          have o_v14_254 : ∀ b, v14_254 = some b → ∃ n, gJ ws_255 b g.cL n ∧ n < 2147483648 := fun b h => (o_v14_254 b h).imp (fun n h => ⟨E_256.1 _ _ h.1, h.2⟩)
          have a_r3_44 := E_256.1 _ _ a_r3_44
          have a_r5_44 := E_256.1 _ _ a_r5_44
          have a_r6_44 := E_256.1 _ _ a_r6_44
          have a_r7_44 := E_256.1 _ _ a_r7_44
          have a_r8_44 := E_256.1 _ _ a_r8_44
          refine lv_aload_n hx hb dX9_putCounters_52 rfl (lv_at hl 2 rfl) ?_
          refine lv_aload_n hx hb dX9_putCounters_53 rfl (lv_at hl 2 rfl) ?_
          refine lv_iload hx hb dX9_putCounters_54 (lv_at hl 4 rfl) ?_
          obtain ⟨fs9, hk_259, hq_259⟩ := ((gA.tr (gF.a (F' := [(7, 0), (7, 1), (7, 2), (7, 3), (7, 5), (7, 6), (7, 7), (7, 8), (7, 11), (8, 0), (8, 2), (8, 3), (8, 4), (8, 5)]) Fr_7 (by decide)) (gA.tr (gF.a (F' := [(7, 0), (7, 1), (7, 2), (7, 3), (7, 5), (7, 6), (7, 7), (7, 8), (7, 11), (8, 0), (8, 2), (8, 3), (8, 4), (8, 5)]) Fr_50 (by decide)) (gA.tr (gF.a (F' := [(7, 0), (7, 1), (7, 2), (7, 3), (7, 5), (7, 6), (7, 7), (7, 8), (7, 11), (8, 0), (8, 2), (8, 3), (8, 4), (8, 5)]) Fr_57 (by decide)) (gF.a (F' := [(7, 0), (7, 1), (7, 2), (7, 3), (7, 5), (7, 6), (7, 7), (7, 8), (7, 11), (8, 0), (8, 2), (8, 3), (8, 4), (8, 5)]) Fr_257 (fun _ h => absurd h List.not_mem_nil)))))) _ _ _ hk_1
          obtain ⟨v0_259, c1_259, r2_259, n2_259, r3_259, n3_259, r4_259, n4_259, r5_259, n5_259, r6_259, n6_259, r7_259, n7_259, r8_259, n8_259, r9_259, n9_259, c10_259, r11_259, n11_259, r12_259, n12_259, r13_259, n13_259, r14_259, n14_259, r15_259, n15_259, rfl, o_v0_259, a_r2_259, f2_259, a_r3_259, f4_259, a_r4_259, f6_259, a_r5_259, f8_259, a_r6_259, f10_259, a_r7_259, f12_259, a_r8_259, f14_259, a_r9_259, f16_259, a_r11_259, f18_259, a_r12_259, f20_259, a_r13_259, f22_259, a_r14_259, f24_259, a_r15_259, f26_259, f27_259, f28_259, f29_259, f30_259, f31_259, f32_259, f33_259, f34_259, f35_259, f36_259, f37_259, f38_259, -⟩ := (hG.1 _ _ _ _ hk_259).hX3 rfl
          have hn9 := fe_qr (hq_259 0 (by decide))
          subst hn9
          have o_b_2 := o_v0_259 _ rfl
          obtain rfl := fe_i (hq_259 1 (by decide))
          obtain rfl := fe_r (hq_259 2 (by decide))
          have hn9 := gI_n hD (((E_6.tr (E_49.tr (E_56.tr E_256)))).1 _ _ aa_14) a_r2_259
          subst hn9
          have a_r2_1 := a_r2_259
          obtain rfl := fe_r (hq_259 3 (by decide))
          have hn9 := gI_n hD (((E_6.tr (E_49.tr (E_56.tr E_256)))).1 _ _ aa_15) a_r3_259
          subst hn9
          have a_r3_1 := a_r3_259
          obtain rfl := fe_r (hq_259 8 (by decide))
          have hn9 := gI_n hD (((E_6.tr (E_49.tr (E_56.tr E_256)))).1 _ _ aa_20) a_r8_259
          subst hn9
          have a_r8_1 := a_r8_259
          have hFc := gfree hD hS hA
          refine va_calli (va_runV (As := [.int v5_53]) (rest := [.ref b2]) ⟨hx, hb, hml, hown, hts⟩ (m_X3_blockAt l g H.size ws_255 b2 (v5_53) hG o_b2 (gN_of hD hk_259 (j := 0) rfl) (gP_of hD hk_259 (fun q90 e90 p91 q91 e91 g91 => by cases e90; cases e91; have z91 := gI_n hD a_r2_1 g91; subst z91; exact (by have e0 : (0 : Int32).toInt = 0 := (by decide); have q_f2_1 := f2_1; have q_f27_1 := f27_1; have q_fq_k := fq_k; have q_fq_s := fq_s; have q_f_45 := f_45; have q_f4_1 := f4_1; have q_f14_1 := f14_1; have q_f29_1 := f29_1; have q_f30_1 := f30_1; have q_f31_1 := f31_1; have q_f32_1 := f32_1; have q_f33_1 := f33_1; have q_f34_1 := f34_1; have q_f35_1 := f35_1; have q_f37_1 := f37_1; have q_f38_1 := f38_1; have q_f29_259 := f29_259; have q_f30_259 := f30_259; have q_f31_259 := f31_259; have q_f32_259 := f32_259; have q_f33_259 := f33_259; have q_f34_259 := f34_259; have q_f35_259 := f35_259; have q_f6_1 := f6_1; have q_f18_1 := f18_1; have q_f20_1 := f20_1; have q_f22_1 := f22_1; have q_f24_1 := f24_1; have q_f26_1 := f26_1; have q_f28_1 := f28_1; have q_f6_259 := f6_259; have q_f18_259 := f18_259; have q_f20_259 := f20_259; have q_f22_259 := f22_259; have q_f24_259 := f24_259; have q_f26_259 := f26_259; have q_f28_259 := f28_259; have g_c1_1 := i_rg c1_1; omega)))) (cwV 1 hts (gd_V kw_1701 kw_860 kw_861 kw_401 kw_859) rfl rfl rfl (by decide +kernel) ⟨Nat.le_of_ble_eq_true rfl, Nat.le_of_ble_eq_true rfl⟩) ⟨gblind, va_recv hK hP (ci := 3) (q0 := k_1) rfl hk_259, fun U hU hW9 => gmk hU hW9 hP hK hD hex hE hS hFc⟩ rfl rfl hl.1 rfl (lv_room (Nat.le_of_ble_eq_true rfl)) dX9_putCounters_56 ⟨(show dc_19_1 + 0 ≤ PC ws + (12) from (by have e0 : (0 : Int32).toInt = 0 := (by decide); have q_f_45 := f_45; omega)), (show ds_19_1 + 0 ≤ PS ws + (9059) from (by have e0 : (0 : Int32).toInt = 0 := (by decide); have q_f_45 := f_45; omega))⟩) hS (fun q _ h => hFc q h) hFc (fun r_260 u9 t9 H1 locs ht9 hvm9 hw9 hB9 hz9 hk9 hS => ?_)
          have hP : va_P (gD g) cl0 ws_255 H1 := by rw [← ht9]; exact hB9.1
          clear hB9 hz9 hk9 hvm9 ht9 hw9
          generalize H1 = H at hP hS ⊢
          have hFc := gfree hD hS hA
          refine va_calli (va_runV (As := [.int r_260]) (rest := []) ⟨hx, hb, hml, hown, hts⟩ (m_X3_isReached l g H.size ws_255 b2 (r_260) hG o_b2 (gP_of hD hk_259 (fun q90 e90 p91 q91 e91 g91 => by cases e90; cases e91; have z91 := gI_n hD a_r8_1 g91; subst z91; exact (by have e0 : (0 : Int32).toInt = 0 := (by decide); have q_f14_1 := f14_1; have q_f29_1 := f29_1; have q_f30_1 := f30_1; have q_f31_1 := f31_1; have q_f32_1 := f32_1; have q_f33_1 := f33_1; have q_f34_1 := f34_1; have q_f35_1 := f35_1; have q_f38_1 := f38_1; have q_fq_k := fq_k; have q_fq_s := fq_s; have q_f_45 := f_45; have q_f29_259 := f29_259; have q_f30_259 := f30_259; have q_f31_259 := f31_259; have q_f32_259 := f32_259; have q_f33_259 := f33_259; have q_f34_259 := f34_259; have q_f35_259 := f35_259; have q_f2_1 := f2_1; have q_f6_1 := f6_1; have q_f18_1 := f18_1; have q_f20_1 := f20_1; have q_f22_1 := f22_1; have q_f24_1 := f24_1; have q_f26_1 := f26_1; have q_f27_1 := f27_1; have q_f28_1 := f28_1; have q_f6_259 := f6_259; have q_f18_259 := f18_259; have q_f20_259 := f20_259; have q_f22_259 := f22_259; have q_f24_259 := f24_259; have q_f26_259 := f26_259; have q_f28_259 := f28_259; have q_f4_1 := f4_1; have q_f10_1 := f10_1; have q_f37_1 := f37_1; have q_f10_259 := f10_259; have g_c1_1 := i_rg c1_1; omega)))) (cwV 1 hts (gd_V kw_1702 kw_930 kw_931 kw_401 kw_929) rfl rfl rfl (by decide +kernel) ⟨Nat.le_of_ble_eq_true rfl, Nat.le_of_ble_eq_true rfl⟩) ⟨gblind, va_recv hK hP (ci := 3) (q0 := k_1) rfl hk_259, fun U hU hW9 => gmk hU hW9 hP hK hD hex hE hS hFc⟩ rfl rfl hl.1 rfl (lv_room (Nat.le_of_ble_eq_true rfl)) dX9_putCounters_59 ⟨(show dc_19_1 + 0 ≤ PC ws + (12) from (by have e0 : (0 : Int32).toInt = 0 := (by decide); have q_f_45 := f_45; omega)), (show ds_19_1 + 0 ≤ PS ws + (9059) from (by have e0 : (0 : Int32).toInt = 0 := (by decide); have q_f_45 := f_45; omega))⟩) hS (fun q _ h => hFc q h) hFc (fun r_261 u9 t9 H1 locs ht9 hvm9 hw9 hB9 hz9 hk9 hS => ?_)
          have hP : va_P (gD g) cl0 ws_255 H1 := by rw [← ht9]; exact hB9.1
          have hz_r_261 : r_261 = 0 ∨ r_261 = 1 := hw9
          clear hB9 hz9 hk9 hvm9 ht9 hw9
          generalize H1 = H at hP hS ⊢
          have J_114 : ∀ (v4_262 : Int32) (dc_114_7 : Nat) (ds_114_7 : Nat) (ws_263 : va_W) (H : Heap) (locs : List Loc) (ls : Array Slot), gE ws_255 ws_263 → gF [(7, 2)] [(7, 0), (7, 1)] none ws_255 ws_263 → Good g ws_263 → dc_114_7 + PC ws_263 ≤ PC ws + (12) → ds_114_7 + PS ws_263 ≤ PS ws + (9059) → va_P (gD g) cl0 ws_263 H → va_D A ws_263 → va_S A s.heap H locs → lv_has ls 8 [(0, .ref h0), (1, .ref b1), (2, .ref b2), (4, .int v4_262), (5, .int v5_53)] → W p l e (headSpec (wt yX9_putCounters cX9_putCounters 8 none) ({ frames := 3, cells := PC ws + (12), slots := PS ws + (9059), locals := 56 })).room s m ([.ref h0, .ref b1, .ref b2, .int x3] : List Value).toArray below meth c H locs (dc_114_7) (ds_114_7) (MQ below (va_Qv (fun (u9 : va_W) => True) (gQ2 g [(7, 0), (7, 1), (7, 2), (7, 3), (7, 4), (7, 5), (7, 6), (7, 7), (7, 8), (7, 9), (7, 11), (8, 0), (8, 2), (8, 3), (8, 4), (8, 5)] [(7, 0), (7, 1), (7, 3), (7, 5), (7, 6), (7, 7), (7, 8), (8, 5)] none A ws s.heap (12) (9059)) A) ([.ref h0, .ref b1, .ref b2, .int x3] : List Value).toArray s (PC ws + (12)) (PS ws + (9059)) A) (F0 m 114 ls []) := by
            intro v4_262 dc_114_7 ds_114_7 ws_263 H locs ls  E_264 Fr_265 hG hc9 hs9 hP hD hS hl
            have aa_266 := a_r0_70
            have aa_267 := a_r1_70
            have aa_268 := a_r3_70
            have aa_269 := a_r5_70
            have aa_270 := a_r6_70
            have aa_271 := a_r7_70
            have aa_272 := a_r8_70
            have aa_273 := a_r1_250
            have aa_274 := a_r2_39
            have aa_275 := a_r3_39
            have aa_276 := a_r4_39
            have aa_277 := a_r5_39
            have aa_278 := a_r0_254
            have aa_279 := a_r1_254
            have aa_280 := a_r3_44
            have aa_281 := a_r5_44
            have aa_282 := a_r6_44
            have aa_283 := a_r7_44
            have aa_284 := a_r8_44
            have aa_285 := a_r2_1
            have aa_286 := a_r3_1
            have aa_287 := a_r4_259
            have aa_288 := a_r5_259
            have aa_289 := a_r6_259
            have aa_290 := a_r7_259
            have aa_291 := a_r8_1
            have aa_292 := a_r9_259
            have aa_293 := a_r11_259
            have aa_294 := a_r12_259
            have aa_295 := a_r13_259
            have aa_296 := a_r14_259
            have aa_297 := a_r15_259
            have o_h0 := E_264.1 _ _ o_h0
            have o_b1 := E_264.1 _ _ o_b1
            have o_b2 := E_264.1 _ _ o_b2
            refine lv_aload_n hx hb dX9_putCounters_114 rfl (lv_at hl 0 rfl) ?_
            obtain ⟨fs9, hk_298, hq_298⟩ := ((gF.a (F' := [(7, 2)]) Fr_265 (fun _ h => h))) _ _ _ hk_250
            obtain ⟨r0_298, r1_298, n1_298, r2_298, n2_298, r3_298, n3_298, r4_298, n4_298, r5_298, n5_298, rfl, o_r0_298, a_r1_298, f2_298, a_r2_298, f4_298, a_r3_298, f6_298, a_r4_298, f8_298, a_r5_298, f10_298, f11_298, -⟩ := (hG.1 _ _ _ _ hk_298).hX9 rfl
            obtain rfl := fe_r (hq_298 0 (by decide))
            have o_r0_39 := o_r0_298
            obtain rfl := fe_r (hq_298 2 (by decide))
            have hn9 := gI_n hD ((E_264).1 _ _ aa_274) a_r2_298
            subst hn9
            have a_r2_39 := a_r2_298
            obtain rfl := fe_r (hq_298 3 (by decide))
            have hn9 := gI_n hD ((E_264).1 _ _ aa_275) a_r3_298
            subst hn9
            have a_r3_39 := a_r3_298
            obtain rfl := fe_r (hq_298 4 (by decide))
            have hn9 := gI_n hD ((E_264).1 _ _ aa_276) a_r4_298
            subst hn9
            have a_r4_39 := a_r4_298
            obtain rfl := fe_r (hq_298 5 (by decide))
            have hn9 := gI_n hD ((E_264).1 _ _ aa_277) a_r5_298
            subst hn9
            have a_r5_39 := a_r5_298
            refine va_get (D := gD g) (ci := 8) (v := .ref r0_39) (C := RX9) (T := TX9) (N := 6) hx hb hts inX9 hown hK hP k_3 hk_298 rfl 0 (by decide) (hts _ kw_1552) (fun _ h9 => h9) rfl dX9_putCounters_115 ?_
            refine lv_aload_n hx hb dX9_putCounters_118 rfl (lv_at hl 1 rfl) ?_
            refine lv_iload hx hb dX9_putCounters_119 (lv_at hl 4 rfl) ?_
            have hFc := gfree hD hS hA
            obtain ⟨k_299, fs_299, hk_299⟩ := gC_of o_b1
            refine va_calli (va_runV (As := [.int v5_53]) (rest := [.ref r0_39]) ⟨hx, hb, hml, hown, hts⟩ (m_X8_opAt l g H.size ws_263 b1 (v5_53) hG o_b1) (cwV 1 hts (gd_V kw_1596 kw_1513 kw_1514 kw_782 kw_1512) rfl rfl rfl (by decide +kernel) ⟨Nat.le_of_ble_eq_true rfl, Nat.le_of_ble_eq_true rfl⟩) ⟨gblind, va_recv hK hP (ci := 7) (q0 := k_299) rfl hk_299, fun U hU hW9 => gmk hU hW9 hP hK hD hex hE hS hFc⟩ rfl rfl hl.1 rfl (lv_room (Nat.le_of_ble_eq_true rfl)) dX9_putCounters_121 ⟨(show dc_114_7 + 0 ≤ PC ws + (12) from (by have e0 : (0 : Int32).toInt = 0 := (by decide); have q_f_45 := f_45; omega)), (show ds_114_7 + 0 ≤ PS ws + (9059) from (by have e0 : (0 : Int32).toInt = 0 := (by decide); have q_f_45 := f_45; omega))⟩) hS (fun q _ h => hFc q h) hFc (fun r_300 u9 t9 H1 locs ht9 hvm9 hw9 hB9 hz9 hk9 hS => ?_)
            have hP : va_P (gD g) cl0 ws_263 H1 := by rw [← ht9]; exact hB9.1
            clear hB9 hz9 hk9 hvm9 ht9 hw9
            generalize H1 = H at hP hS ⊢
            refine lv_aload_n hx hb dX9_putCounters_124 rfl (lv_at hl 1 rfl) ?_
            refine lv_iload hx hb dX9_putCounters_125 (lv_at hl 4 rfl) ?_
            have hFc := gfree hD hS hA
            obtain ⟨k_301, fs_301, hk_301⟩ := gC_of o_b1
            refine va_calll (va_runV (As := [.int v5_53]) (rest := [.int r_300, .ref r0_39]) ⟨hx, hb, hml, hown, hts⟩ (m_X8_argAt l g H.size ws_263 b1 (v5_53) hG o_b1) (cwV 1 hts (gd_V kw_1605 kw_1476 kw_1477 kw_782 kw_1475) rfl rfl rfl (by decide +kernel) ⟨Nat.le_of_ble_eq_true rfl, Nat.le_of_ble_eq_true rfl⟩) ⟨gblind, va_recv hK hP (ci := 7) (q0 := k_301) rfl hk_301, fun U hU hW9 => gmk hU hW9 hP hK hD hex hE hS hFc⟩ rfl rfl hl.1 rfl (lv_room (Nat.le_of_ble_eq_true rfl)) dX9_putCounters_127 ⟨(show dc_114_7 + 0 ≤ PC ws + (12) from (by have e0 : (0 : Int32).toInt = 0 := (by decide); have q_f_45 := f_45; omega)), (show ds_114_7 + 0 ≤ PS ws + (9059) from (by have e0 : (0 : Int32).toInt = 0 := (by decide); have q_f_45 := f_45; omega))⟩) hS (fun q _ h => hFc q h) hFc (fun r_302 u9 t9 H1 locs ht9 hvm9 hw9 hB9 hz9 hk9 hS => ?_)
            have hP : va_P (gD g) cl0 ws_263 H1 := by rw [← ht9]; exact hB9.1
            clear hB9 hz9 hk9 hvm9 ht9 hw9
            generalize H1 = H at hP hS ⊢
            have hFc := gfree hD hS hA
            obtain ⟨k_303, fs_303, hk_303⟩ := gC_of o_r0_39
            refine va_callv (va_runV (As := [.int r_300, .long r_302]) (rest := []) ⟨hx, hb, hml, hown, hts⟩ (m_X8_add l g H.size ws_263 r0_39 (r_300) (r_302) hG o_r0_39) (cwV 2 hts (gd_V kw_1703 kw_1457 kw_1458 kw_782 kw_1456) rfl rfl rfl (by decide +kernel) ⟨Nat.le_of_ble_eq_true rfl, Nat.le_of_ble_eq_true rfl⟩) ⟨gblind, va_recv hK hP (ci := 7) (q0 := k_303) rfl hk_303, fun U hU hW9 => gmk hU hW9 hP hK hD hex hE hS hFc⟩ rfl rfl hl.1 rfl (lv_room (Nat.le_of_ble_eq_true rfl)) dX9_putCounters_130 ⟨(show dc_114_7 + 0 ≤ PC ws + (12) from (by have e0 : (0 : Int32).toInt = 0 := (by decide); have q_f_45 := f_45; omega)), (show ds_114_7 + 0 ≤ PS ws + (9059) from (by have e0 : (0 : Int32).toInt = 0 := (by decide); have q_f_45 := f_45; omega))⟩) hS (fun q _ h => hFc q h) hFc (fun  ws_304 t9 H1 locs ht9 hvm9 hw9 hB9 hz9 hk9 hS => ?_)
            obtain ⟨E_305, Fr_306, hG, hP1, hD1⟩ := hB9
            have hP : va_P (gD g) cl0 ws_304 H1 := by rw [← ht9]; exact hP1
            have hD : va_D A ws_304 := hD1.weaken (fun _ _ _ h => hFc _ h)
            clear hP1 hD1 hz9 hk9 hvm9 ht9 hw9
            generalize H1 = H at hP hS ⊢
            have aa_309 := a_r1_298
            have aa_310 := a_r2_39
            have aa_311 := a_r3_39
            have aa_312 := a_r4_39
            have aa_313 := a_r5_39
            have o_h0 := E_305.1 _ _ o_h0
            have o_b1 := E_305.1 _ _ o_b1
            have o_b2 := E_305.1 _ _ o_b2
            have pp_314 := Fr_306.pp
            obtain ⟨z_315, ez_315⟩ : ∃ z : Int32, v5_53 + Int32.ofInt 1 = z := ⟨_, rfl⟩
            refine lv_iinc (v := z_315) (lv' := [(5, .int z_315), (0, .ref h0), (1, .ref b1), (2, .ref b2), (4, .int v4_262)]) hx hb dX9_putCounters_133 hl (k := 4) rfl ez_315 (by decide) rfl (fun ls hl => ?_)
            refine lv_goto (tgt := 19) hx hb dX9_putCounters_136 (by decide) ?_
            exact ih_19 _ (by have e0 : (0 : Int32).toInt = 0 := (by decide); have q_f_45 := f_45; obtain ⟨u_z_315, q_z_315⟩ := i_iz ez_315 (by decide) (by decide); have q_iv_54 := iv_54; have q_c_249 := i_nle c_249; have q_c_253 := i_nle c_253; have q_f19_70 := f19_70; have q_f20_70 := f20_70; have q_z_252 := i_len ez_252 f10_250; have g_c2_70 := i_rg c2_70; have g_v4_262 := i_rg v4_262; have g_v5_53 := i_rg v5_53; have g_z_252 := i_rg z_252; have g_z_315 := i_rg z_315; omega) (v4_262) (z_315) (dc_114_7) (ds_114_7) ws_304 H locs ls rfl (by have e0 : (0 : Int32).toInt = 0 := (by decide); have q_f_45 := f_45; obtain ⟨u_z_315, q_z_315⟩ := i_iz ez_315 (by decide) (by decide); have q_iv_54 := iv_54; have q_c_249 := i_nle c_249; have q_c_253 := i_nle c_253; have q_f19_70 := f19_70; have q_f20_70 := f20_70; have q_z_252 := i_len ez_252 f10_250; have g_c2_70 := i_rg c2_70; have g_v5_53 := i_rg v5_53; have g_z_252 := i_rg z_252; have g_z_315 := i_rg z_315; omega) ((E_56.tr (E_256.tr (E_264.tr E_305)))) ((gF.tr Fr_57 (gF.tr (gF.mo (F' := [(7, 2)]) (C' := [(7, 0), (7, 1), (8, 5)]) (S' := none) Fr_257 (fun _ h => absurd h List.not_mem_nil) (by decide) (Or.inr rfl)) (gF.tr (gF.mo (F' := [(7, 2)]) (C' := [(7, 0), (7, 1), (8, 5)]) (S' := none) Fr_265 (fun _ h => h) (by decide) (Or.inr rfl)) (gF.mo (F' := [(7, 2)]) (C' := [(7, 0), (7, 1), (8, 5)]) (S' := none) Fr_306 (fun _ h => h) (by decide) (Or.inl rfl)))))) hG (by have e0 : (0 : Int32).toInt = 0 := (by decide); have q_f_45 := f_45; omega) (by have e0 : (0 : Int32).toInt = 0 := (by decide); have q_f_45 := f_45; omega) hP hD hS (lv_sub hl [1, 2, 3, 4, 0] rfl)
          refine lv_if_eq (tgt := 114) hx hb dX9_putCounters_62 (by decide) (fun c_316 => ?_) (fun c_316 => ?_)
          · exact J_114 (v4_52) (dc_19_1) (ds_19_1) ws_255 H locs ls (gE.rf) (gF.rf) hG (by have e0 : (0 : Int32).toInt = 0 := (by decide); have q_f_45 := f_45; omega) (by have e0 : (0 : Int32).toInt = 0 := (by decide); have q_f_45 := f_45; omega) hP hD hS (lv_sub hl [0, 1, 2, 3, 4] rfl)
          · refine lv_aload_n hx hb dX9_putCounters_65 rfl (lv_at hl 0 rfl) ?_
            refine va_get (D := gD g) (ci := 8) (v := .ref r0_39) (C := RX9) (T := TX9) (N := 6) hx hb hts inX9 hown hK hP k_3 hk_250 rfl 0 (by decide) (hts _ kw_1552) (fun _ h9 => h9) rfl dX9_putCounters_66 ?_
            refine lv_sipush (v := 178) hx hb dX9_putCounters_69 (by decide) ?_
            refine lv_iload hx hb dX9_putCounters_72 (lv_at hl 3 rfl) ?_
            obtain ⟨z_317, ez_317⟩ : ∃ y : Int64, (v4_52 : Int32).toInt64 = y := ⟨_, rfl⟩
            refine lv_i2l (v := z_317) hx hb dX9_putCounters_74 ez_317 ?_
            have hFc := gfree hD hS hA
            refine va_callv (va_runV (As := [.int 178, .long z_317]) (rest := []) ⟨hx, hb, hml, hown, hts⟩ (m_X8_add l g H.size ws_255 r0_39 (178) (z_317) hG o_r0_39) (cwV 2 hts (gd_V kw_1703 kw_1457 kw_1458 kw_782 kw_1456) rfl rfl rfl (by decide +kernel) ⟨Nat.le_of_ble_eq_true rfl, Nat.le_of_ble_eq_true rfl⟩) ⟨gblind, va_recv hK hP (ci := 7) (q0 := k_44) rfl hk_254, fun U hU hW9 => gmk hU hW9 hP hK hD hex hE hS hFc⟩ rfl rfl hl.1 rfl (lv_room (Nat.le_of_ble_eq_true rfl)) dX9_putCounters_75 ⟨(show dc_19_1 + 0 ≤ PC ws + (12) from (by have e0 : (0 : Int32).toInt = 0 := (by decide); have q_f_45 := f_45; omega)), (show ds_19_1 + 0 ≤ PS ws + (9059) from (by have e0 : (0 : Int32).toInt = 0 := (by decide); have q_f_45 := f_45; omega))⟩) hS (fun q _ h => hFc q h) hFc (fun  ws_318 t9 H1 locs ht9 hvm9 hw9 hB9 hz9 hk9 hS => ?_)
            obtain ⟨E_319, Fr_320, hG, hP1, hD1⟩ := hB9
            have hP : va_P (gD g) cl0 ws_318 H1 := by rw [← ht9]; exact hP1
            have hD : va_D A ws_318 := hD1.weaken (fun _ _ _ h => hFc _ h)
            clear hP1 hD1 hz9 hk9 hvm9 ht9 hw9
            generalize H1 = H at hP hS ⊢
            have aa_323 := a_r0_70
            have aa_324 := a_r1_70
            have aa_325 := a_r3_70
            have aa_326 := a_r5_70
            have aa_327 := a_r6_70
            have aa_328 := a_r7_70
            have aa_329 := a_r8_70
            have aa_330 := a_r1_250
            have aa_331 := a_r2_39
            have aa_332 := a_r3_39
            have aa_333 := a_r4_39
            have aa_334 := a_r5_39
            have aa_335 := a_r0_254
            have aa_336 := a_r1_254
            have aa_337 := a_r3_44
            have aa_338 := a_r5_44
            have aa_339 := a_r6_44
            have aa_340 := a_r7_44
            have aa_341 := a_r8_44
            have aa_342 := a_r2_1
            have aa_343 := a_r3_1
            have aa_344 := a_r4_259
            have aa_345 := a_r5_259
            have aa_346 := a_r6_259
            have aa_347 := a_r7_259
            have aa_348 := a_r8_1
            have aa_349 := a_r9_259
            have aa_350 := a_r11_259
            have aa_351 := a_r12_259
            have aa_352 := a_r13_259
            have aa_353 := a_r14_259
            have aa_354 := a_r15_259
            have o_h0 := E_319.1 _ _ o_h0
            have o_b1 := E_319.1 _ _ o_b1
            have o_b2 := E_319.1 _ _ o_b2
            have pp_355 := Fr_320.pp
            refine lv_aload_n hx hb dX9_putCounters_78 rfl (lv_at hl 0 rfl) ?_
            obtain ⟨fs9, hk_356, hq_356⟩ := ((gF.a (F' := [(7, 2)]) Fr_320 (fun _ h => h))) _ _ _ hk_250
            obtain ⟨r0_356, r1_356, n1_356, r2_356, n2_356, r3_356, n3_356, r4_356, n4_356, r5_356, n5_356, rfl, o_r0_356, a_r1_356, f2_356, a_r2_356, f4_356, a_r3_356, f6_356, a_r4_356, f8_356, a_r5_356, f10_356, f11_356, -⟩ := (hG.1 _ _ _ _ hk_356).hX9 rfl
            obtain rfl := fe_r (hq_356 0 (by decide))
            have o_r0_39 := o_r0_356
            obtain rfl := fe_r (hq_356 2 (by decide))
            have hn9 := gI_n hD ((E_319).1 _ _ aa_331) a_r2_356
            subst hn9
            have a_r2_39 := a_r2_356
            obtain rfl := fe_r (hq_356 3 (by decide))
            have hn9 := gI_n hD ((E_319).1 _ _ aa_332) a_r3_356
            subst hn9
            have a_r3_39 := a_r3_356
            obtain rfl := fe_r (hq_356 4 (by decide))
            have hn9 := gI_n hD ((E_319).1 _ _ aa_333) a_r4_356
            subst hn9
            have a_r4_39 := a_r4_356
            obtain rfl := fe_r (hq_356 5 (by decide))
            have hn9 := gI_n hD ((E_319).1 _ _ aa_334) a_r5_356
            subst hn9
            have a_r5_39 := a_r5_356
            refine va_get (D := gD g) (ci := 8) (v := .ref r0_39) (C := RX9) (T := TX9) (N := 6) hx hb hts inX9 hown hK hP k_3 hk_356 rfl 0 (by decide) (hts _ kw_1552) (fun _ h9 => h9) rfl dX9_putCounters_79 ?_
            refine lv_bipush (v := 20) hx hb dX9_putCounters_82 (by decide) ?_
            refine lv_lconst (v := 1) hx hb dX9_putCounters_84 (by decide) ?_
            have hFc := gfree hD hS hA
            obtain ⟨k_357, fs_357, hk_357⟩ := gC_of o_r0_39
            refine va_callv (va_runV (As := [.int 20, .long 1]) (rest := []) ⟨hx, hb, hml, hown, hts⟩ (m_X8_add l g H.size ws_318 r0_39 (20) (1) hG o_r0_39) (cwV 2 hts (gd_V kw_1703 kw_1457 kw_1458 kw_782 kw_1456) rfl rfl rfl (by decide +kernel) ⟨Nat.le_of_ble_eq_true rfl, Nat.le_of_ble_eq_true rfl⟩) ⟨gblind, va_recv hK hP (ci := 7) (q0 := k_357) rfl hk_357, fun U hU hW9 => gmk hU hW9 hP hK hD hex hE hS hFc⟩ rfl rfl hl.1 rfl (lv_room (Nat.le_of_ble_eq_true rfl)) dX9_putCounters_85 ⟨(show dc_19_1 + 0 ≤ PC ws + (12) from (by have e0 : (0 : Int32).toInt = 0 := (by decide); have q_f_45 := f_45; omega)), (show ds_19_1 + 0 ≤ PS ws + (9059) from (by have e0 : (0 : Int32).toInt = 0 := (by decide); have q_f_45 := f_45; omega))⟩) hS (fun q _ h => hFc q h) hFc (fun  ws_358 t9 H1 locs ht9 hvm9 hw9 hB9 hz9 hk9 hS => ?_)
            obtain ⟨E_359, Fr_360, hG, hP1, hD1⟩ := hB9
            have hP : va_P (gD g) cl0 ws_358 H1 := by rw [← ht9]; exact hP1
            have hD : va_D A ws_358 := hD1.weaken (fun _ _ _ h => hFc _ h)
            clear hP1 hD1 hz9 hk9 hvm9 ht9 hw9
            generalize H1 = H at hP hS ⊢
            have aa_363 := a_r1_356
            have aa_364 := a_r2_39
            have aa_365 := a_r3_39
            have aa_366 := a_r4_39
            have aa_367 := a_r5_39
            have o_h0 := E_359.1 _ _ o_h0
            have o_b1 := E_359.1 _ _ o_b1
            have o_b2 := E_359.1 _ _ o_b2
            have pp_368 := Fr_360.pp
            refine lv_aload_n hx hb dX9_putCounters_88 rfl (lv_at hl 0 rfl) ?_
            obtain ⟨fs9, hk_369, hq_369⟩ := ((gF.a (F' := [(7, 2)]) Fr_360 (fun _ h => h))) _ _ _ hk_356
            obtain ⟨r0_369, r1_369, n1_369, r2_369, n2_369, r3_369, n3_369, r4_369, n4_369, r5_369, n5_369, rfl, o_r0_369, a_r1_369, f2_369, a_r2_369, f4_369, a_r3_369, f6_369, a_r4_369, f8_369, a_r5_369, f10_369, f11_369, -⟩ := (hG.1 _ _ _ _ hk_369).hX9 rfl
            obtain rfl := fe_r (hq_369 0 (by decide))
            have o_r0_39 := o_r0_369
            obtain rfl := fe_r (hq_369 2 (by decide))
            have hn9 := gI_n hD ((E_359).1 _ _ aa_364) a_r2_369
            subst hn9
            have a_r2_39 := a_r2_369
            obtain rfl := fe_r (hq_369 3 (by decide))
            have hn9 := gI_n hD ((E_359).1 _ _ aa_365) a_r3_369
            subst hn9
            have a_r3_39 := a_r3_369
            obtain rfl := fe_r (hq_369 4 (by decide))
            have hn9 := gI_n hD ((E_359).1 _ _ aa_366) a_r4_369
            subst hn9
            have a_r4_39 := a_r4_369
            obtain rfl := fe_r (hq_369 5 (by decide))
            have hn9 := gI_n hD ((E_359).1 _ _ aa_367) a_r5_369
            subst hn9
            have a_r5_39 := a_r5_369
            refine va_get (D := gD g) (ci := 8) (v := .ref r0_39) (C := RX9) (T := TX9) (N := 6) hx hb hts inX9 hown hK hP k_3 hk_369 rfl 0 (by decide) (hts _ kw_1552) (fun _ h9 => h9) rfl dX9_putCounters_89 ?_
            refine lv_bipush (v := 97) hx hb dX9_putCounters_92 (by decide) ?_
            refine lv_lconst (v := 0) hx hb dX9_putCounters_94 (by decide) ?_
            have hFc := gfree hD hS hA
            obtain ⟨k_370, fs_370, hk_370⟩ := gC_of o_r0_39
            refine va_callv (va_runV (As := [.int 97, .long 0]) (rest := []) ⟨hx, hb, hml, hown, hts⟩ (m_X8_add l g H.size ws_358 r0_39 (97) (0) hG o_r0_39) (cwV 2 hts (gd_V kw_1703 kw_1457 kw_1458 kw_782 kw_1456) rfl rfl rfl (by decide +kernel) ⟨Nat.le_of_ble_eq_true rfl, Nat.le_of_ble_eq_true rfl⟩) ⟨gblind, va_recv hK hP (ci := 7) (q0 := k_370) rfl hk_370, fun U hU hW9 => gmk hU hW9 hP hK hD hex hE hS hFc⟩ rfl rfl hl.1 rfl (lv_room (Nat.le_of_ble_eq_true rfl)) dX9_putCounters_95 ⟨(show dc_19_1 + 0 ≤ PC ws + (12) from (by have e0 : (0 : Int32).toInt = 0 := (by decide); have q_f_45 := f_45; omega)), (show ds_19_1 + 0 ≤ PS ws + (9059) from (by have e0 : (0 : Int32).toInt = 0 := (by decide); have q_f_45 := f_45; omega))⟩) hS (fun q _ h => hFc q h) hFc (fun  ws_371 t9 H1 locs ht9 hvm9 hw9 hB9 hz9 hk9 hS => ?_)
            obtain ⟨E_372, Fr_373, hG, hP1, hD1⟩ := hB9
            have hP : va_P (gD g) cl0 ws_371 H1 := by rw [← ht9]; exact hP1
            have hD : va_D A ws_371 := hD1.weaken (fun _ _ _ h => hFc _ h)
            clear hP1 hD1 hz9 hk9 hvm9 ht9 hw9
            generalize H1 = H at hP hS ⊢
            have aa_376 := a_r1_369
            have aa_377 := a_r2_39
            have aa_378 := a_r3_39
            have aa_379 := a_r4_39
            have aa_380 := a_r5_39
            have o_h0 := E_372.1 _ _ o_h0
            have o_b1 := E_372.1 _ _ o_b1
            have o_b2 := E_372.1 _ _ o_b2
            have pp_381 := Fr_373.pp
            refine lv_aload_n hx hb dX9_putCounters_98 rfl (lv_at hl 0 rfl) ?_
            obtain ⟨fs9, hk_382, hq_382⟩ := ((gF.a (F' := [(7, 2)]) Fr_373 (fun _ h => h))) _ _ _ hk_369
            obtain ⟨r0_382, r1_382, n1_382, r2_382, n2_382, r3_382, n3_382, r4_382, n4_382, r5_382, n5_382, rfl, o_r0_382, a_r1_382, f2_382, a_r2_382, f4_382, a_r3_382, f6_382, a_r4_382, f8_382, a_r5_382, f10_382, f11_382, -⟩ := (hG.1 _ _ _ _ hk_382).hX9 rfl
            obtain rfl := fe_r (hq_382 0 (by decide))
            have o_r0_39 := o_r0_382
            obtain rfl := fe_r (hq_382 2 (by decide))
            have hn9 := gI_n hD ((E_372).1 _ _ aa_377) a_r2_382
            subst hn9
            have a_r2_39 := a_r2_382
            obtain rfl := fe_r (hq_382 3 (by decide))
            have hn9 := gI_n hD ((E_372).1 _ _ aa_378) a_r3_382
            subst hn9
            have a_r3_39 := a_r3_382
            obtain rfl := fe_r (hq_382 4 (by decide))
            have hn9 := gI_n hD ((E_372).1 _ _ aa_379) a_r4_382
            subst hn9
            have a_r4_39 := a_r4_382
            obtain rfl := fe_r (hq_382 5 (by decide))
            have hn9 := gI_n hD ((E_372).1 _ _ aa_380) a_r5_382
            subst hn9
            have a_r5_39 := a_r5_382
            refine va_get (D := gD g) (ci := 8) (v := .ref r0_39) (C := RX9) (T := TX9) (N := 6) hx hb hts inX9 hown hK hP k_3 hk_382 rfl 0 (by decide) (hts _ kw_1552) (fun _ h9 => h9) rfl dX9_putCounters_99 ?_
            refine lv_sipush (v := 179) hx hb dX9_putCounters_102 (by decide) ?_
            refine lv_iload hx hb dX9_putCounters_105 (lv_at hl 3 rfl) ?_
            obtain ⟨z_383, ez_383⟩ : ∃ y : Int64, (v4_52 : Int32).toInt64 = y := ⟨_, rfl⟩
            refine lv_i2l (v := z_383) hx hb dX9_putCounters_107 ez_383 ?_
            have hFc := gfree hD hS hA
            obtain ⟨k_384, fs_384, hk_384⟩ := gC_of o_r0_39
            refine va_callv (va_runV (As := [.int 179, .long z_383]) (rest := []) ⟨hx, hb, hml, hown, hts⟩ (m_X8_add l g H.size ws_371 r0_39 (179) (z_383) hG o_r0_39) (cwV 2 hts (gd_V kw_1703 kw_1457 kw_1458 kw_782 kw_1456) rfl rfl rfl (by decide +kernel) ⟨Nat.le_of_ble_eq_true rfl, Nat.le_of_ble_eq_true rfl⟩) ⟨gblind, va_recv hK hP (ci := 7) (q0 := k_384) rfl hk_384, fun U hU hW9 => gmk hU hW9 hP hK hD hex hE hS hFc⟩ rfl rfl hl.1 rfl (lv_room (Nat.le_of_ble_eq_true rfl)) dX9_putCounters_108 ⟨(show dc_19_1 + 0 ≤ PC ws + (12) from (by have e0 : (0 : Int32).toInt = 0 := (by decide); have q_f_45 := f_45; omega)), (show ds_19_1 + 0 ≤ PS ws + (9059) from (by have e0 : (0 : Int32).toInt = 0 := (by decide); have q_f_45 := f_45; omega))⟩) hS (fun q _ h => hFc q h) hFc (fun  ws_385 t9 H1 locs ht9 hvm9 hw9 hB9 hz9 hk9 hS => ?_)
            obtain ⟨E_386, Fr_387, hG, hP1, hD1⟩ := hB9
            have hP : va_P (gD g) cl0 ws_385 H1 := by rw [← ht9]; exact hP1
            have hD : va_D A ws_385 := hD1.weaken (fun _ _ _ h => hFc _ h)
            clear hP1 hD1 hz9 hk9 hvm9 ht9 hw9
            generalize H1 = H at hP hS ⊢
            have aa_390 := a_r1_382
            have aa_391 := a_r2_39
            have aa_392 := a_r3_39
            have aa_393 := a_r4_39
            have aa_394 := a_r5_39
            have o_h0 := E_386.1 _ _ o_h0
            have o_b1 := E_386.1 _ _ o_b1
            have o_b2 := E_386.1 _ _ o_b2
            have pp_395 := Fr_387.pp
            obtain ⟨z_396, ez_396⟩ : ∃ z : Int32, v4_52 + Int32.ofInt 1 = z := ⟨_, rfl⟩
            refine lv_iinc (v := z_396) (lv' := [(4, .int z_396), (0, .ref h0), (1, .ref b1), (2, .ref b2), (5, .int v5_53)]) hx hb dX9_putCounters_111 hl (k := 3) rfl ez_396 (by decide) rfl (fun ls hl => ?_)
            exact J_114 (z_396) (dc_19_1) (ds_19_1) ws_385 H locs ls ((E_319.tr (E_359.tr (E_372.tr E_386)))) ((gF.tr (gF.mo (F' := [(7, 2)]) (C' := [(7, 0), (7, 1)]) (S' := none) Fr_320 (fun _ h => h) (fun _ h => h) (Or.inl rfl)) (gF.tr (gF.mo (F' := [(7, 2)]) (C' := [(7, 0), (7, 1)]) (S' := none) Fr_360 (fun _ h => h) (fun _ h => h) (Or.inl rfl)) (gF.tr (gF.mo (F' := [(7, 2)]) (C' := [(7, 0), (7, 1)]) (S' := none) Fr_373 (fun _ h => h) (fun _ h => h) (Or.inl rfl)) (gF.mo (F' := [(7, 2)]) (C' := [(7, 0), (7, 1)]) (S' := none) Fr_387 (fun _ h => h) (fun _ h => h) (Or.inl rfl)))))) hG (by have e0 : (0 : Int32).toInt = 0 := (by decide); have q_f_45 := f_45; omega) (by have e0 : (0 : Int32).toInt = 0 := (by decide); have q_f_45 := f_45; omega) hP hD hS (lv_sub hl [1, 2, 3, 0, 4] rfl)
  exact J_19 _ (x3) (0) (0 + dc_8) (0 + ds_9) ws_48 H locs ls rfl (by have e0 : (0 : Int32).toInt = 0 := (by decide); have q_f_45 := f_45; omega) (gE.rf) (gF.rf) hG (by have e0 : (0 : Int32).toInt = 0 := (by decide); have q_f_45 := f_45; omega) (by have e0 : (0 : Int32).toInt = 0 := (by decide); have q_f_45 := f_45; omega) hP hD hS (lv_sub hl [2, 3, 4, 1, 0] rfl)
