set_option maxHeartbeats 1000000 in
set_option maxRecDepth 100000 in
theorem m_X9_putCounters (l : Launch) (g : Gm) (H0 : Heap) (ws : va_W) (h0 : Nat) (b1 : Nat) (b2 : Nat) (x3 : Int32) (hG : Good g ws) (o_h0 : gC ws h0 8) (o_b1 : gC ws b1 7) (o_b2 : gC ws b2 3) (nn_b2_0 : gN ws b2 0) (fp_k : gP ws b2 (fun fs => ∀ c : Int32, fs[1]? = some (.int c) → ∀ (rn n : Nat), fs[8]? = some (.ref rn) → gI ws rn g.cZ n → c.toInt ≤ n)) (fp_s : gP ws b2 (fun fs => ∀ c : Int32, fs[1]? = some (.int c) → ∀ (rn n : Nat), fs[2]? = some (.ref rn) → gI ws rn g.cI n → c.toInt ≤ n)) (f2_r : ∀ (k k2 b : Nat) (fs gs : List Value), ows ws k h0 8 fs → fs[0]? = some (.ref b) → ows ws k2 b 7 gs → ∀ (ra a : Nat), fs[2]? = some (.ref ra) → gI ws ra g.cZ a → ∀ (rb b : Nat), fs[3]? = some (.ref rb) → gI ws rb g.cZ b → ∀ (rc c : Nat), fs[4]? = some (.ref rc) → gI ws rc g.cI c → ∀ (rd d : Nat), fs[5]? = some (.ref rd) → gI ws rd g.cI d → ∀ (rm m : Nat), gs[0]? = some (.ref rm) → gI ws rm g.cI m → m < 1296 ∨ (1297 ≤ a ∧ 1297 ≤ b ∧ 1297 ≤ c ∧ 1297 ≤ d)) : Met l yX9_putCounters (wt yX9_putCounters cX9_putCounters 8 none) ({ frames := 3, cells := PC ws + (12), slots := PS ws + (9059), locals := 56 }) (va_Pc [.ref h0, .ref b1, .ref b2, .int x3] (st_H g H0 ws)) (va_Qv (fun (u9 : va_W) => True) (gQ2 g [(7, 0), (7, 1), (7, 2), (7, 3), (7, 4), (7, 5), (7, 6), (7, 7), (7, 8), (7, 9), (7, 11), (8, 0), (8, 2), (8, 3), (8, 4), (8, 5)] [(7, 0), (7, 1), (7, 3), (7, 5), (7, 6), (7, 7), (7, 8), (8, 5)] none (va_A ws H0.size) ws H0 (12) (9059)) (va_A ws H0.size)) (PC ws + (12)) (PS ws + (9059)) (va_A ws H0.size) := by
  refine Met.ofW (cc := cX9_putCounters) (maxL := 8) (ret := none) (by decide) rfl ?_
  intro p e s m args below meth c s₁ B hml hv
  obtain ⟨rfl, hH0, hsz, hP, hK, hD0, hex, hE⟩ := hv
  have hx := B.exec
  have hb := B.bytes
  have hr := B.returns
  have hts0 := atoms_spec (ws := wt yX9_putCounters cX9_putCounters 8 none) B.pre
  have hts : ∀ w ∈ tb, w.before _ s = true := fun w h => hts0 w (List.mem_cons_of_mem _ h)
  have hown : s.vm.findClass RX9 = some m.cls := findClass_of_methodNamed B.named
  subst hH0
  have hD := hD0.self (sz := s.heap.size)
  generalize hAe : va_A ws s.heap.size = A at hD hE ⊢
  have hA : ∀ q : Nat, s.heap.size ≤ q → A q := fun q h => by rw [← hAe]; exact Or.inr h
  have hS : va_S A s.heap s.heap [] := va_S.rf
  have hl := lv_entry ([.ref h0, .ref b1, .ref b2, .int x3]) (n := 8) (Nat.le_of_ble_eq_true rfl)
  rw [lg_entry_eq]
  generalize (lg_sl ([.ref h0, .ref b1, .ref b2, .int x3]) ++ List.replicate (8 - (lg_sl ([.ref h0, .ref b1, .ref b2, .int x3])).length) Slot.unset).toArray = ls at hl ⊢
  have hl : lv_has ls 8 [(0, .ref h0), (1, .ref b1), (2, .ref b2), (3, .int x3)] := hl
  obtain ⟨k_1, fs9, hk_1⟩ := gC_of o_b2
  obtain ⟨v0_1, c1_1, r2_1, n2_1, r3_1, n3_1, r4_1, n4_1, r5_1, n5_1, r6_1, n6_1, r7_1, n7_1, r8_1, n8_1, r9_1, n9_1, c10_1, r11_1, n11_1, r12_1, n12_1, r13_1, n13_1, r14_1, n14_1, r15_1, n15_1, rfl, o_v0_1, a_r2_1, f2_1, a_r3_1, f4_1, a_r4_1, f6_1, a_r5_1, f8_1, a_r6_1, f10_1, a_r7_1, f12_1, a_r8_1, f14_1, a_r9_1, f16_1, a_r11_1, f18_1, a_r12_1, f20_1, a_r13_1, f22_1, a_r14_1, f24_1, a_r15_1, f26_1, f27_1, f28_1, f29_1, f30_1, f31_1, f32_1, f33_1, f34_1, f35_1, f36_1, f37_1, f38_1, f39_1, f40_1, -⟩ := (hG.1 _ _ _ _ hk_1).hX3 rfl
  have fq_k := fp_k _ _ _ hk_1 _ rfl _ _ rfl a_r8_1
  have fq_s := fp_s _ _ _ hk_1 _ rfl _ _ rfl a_r2_1
  obtain ⟨b_2, hn9⟩ := nn_b2_0 _ _ _ hk_1
  have hn9 := fe_qr hn9
  subst hn9
  have o_b_2 := o_v0_1 _ rfl
  obtain ⟨k_3, fs9, hk_3⟩ := gC_of o_h0
  obtain ⟨r0_3, r1_3, n1_3, r2_3, n2_3, r3_3, n3_3, r4_3, n4_3, r5_3, n5_3, rfl, o_r0_3, a_r1_3, f2_3, a_r2_3, f4_3, a_r3_3, f6_3, a_r4_3, f8_3, a_r5_3, f10_3, f11_3, -⟩ := (hG.1 _ _ _ _ hk_3).hX9 rfl
  obtain ⟨k_4, fs9, hk_4⟩ := gC_of o_r0_3
  obtain ⟨r0_4, n0_4, r1_4, n1_4, c2_4, r3_4, n3_4, c4_4, r5_4, n5_4, r6_4, n6_4, r7_4, n7_4, r8_4, n8_4, c9_4, c10_4, c11_4, v12_4, v13_4, v14_4, rfl, a_r0_4, f1_4, a_r1_4, f3_4, a_r3_4, f5_4, a_r5_4, f7_4, a_r6_4, f9_4, a_r7_4, f11_4, a_r8_4, f13_4, o_v12_4, o_v13_4, o_v14_4, f17_4, f18_4, f19_4, f20_4, f21_4, f22_4, f23_4, f24_4, f25_4, f26_4, f27_4, f28_4, f29_4, -⟩ := (hG.1 _ _ _ _ hk_4).hX8 rfl
  have fq2_r := f2_r _ _ _ _ _ hk_3 rfl hk_4 _ _ rfl a_r2_3 _ _ rfl a_r3_3 _ _ rfl a_r4_3 _ _ rfl a_r5_3 _ _ rfl a_r0_4
  refine lv_aload_n hx hb dX9_putCounters_0 rfl (lv_at hl 0 rfl) ?_
  refine lv_aload_n hx hb dX9_putCounters_1 rfl (lv_at hl 1 rfl) ?_
  have hFc := gfree hD hS hA
  have pg_5 := ge_3_3 hD hk_1 rfl a_r3_1
  have pg_6 := ge_3_13 hD hk_1 rfl a_r13_1
  have pg_7 := ge_3_9 hD hk_1 rfl a_r9_1
  have pg_8 := ge_3_5 hD hk_1 rfl a_r5_1
  have pg_9 := ge_3_7 hD hk_1 rfl a_r7_1
  refine W_led (fun hL0 => ?_)
  refine va_callv (va_runV (As := [.ref b1]) (rest := []) ⟨hx, hb, hml, hown, hts⟩ (m_X9_makeRoom l g s.heap ws h0 b1 hG o_h0 o_b1 (fun k9 k8 b9 fs gs e1 e2 e3 p90 m90 e50 g90 p91 m91 e51 g91 p92 m92 e52 g92 p93 m93 e53 g93 p80 m80 e60 g80 => by obtain rfl := gO_un hD hk_3 e1; cases e2; obtain rfl := gO_un hD hk_4 e3; cases e50; have z90 := gI_n hD a_r2_3 g90; subst z90; cases e51; have z91 := gI_n hD a_r3_3 g91; subst z91; cases e52; have z92 := gI_n hD a_r4_3 g92; subst z92; cases e53; have z93 := gI_n hD a_r5_3 g93; subst z93; cases e60; have z80 := gI_n hD a_r0_4 g80; subst z80; exact (by have q_f4_3 := f4_3; have q_f6_3 := f6_3; have q_f8_3 := f8_3; have q_f10_3 := f10_3; have q_f1_4 := f1_4; have q_f17_4 := f17_4; have q_f18_4 := f18_4; have q_f20_4 := f20_4; have q_fq2_r := fq2_r; have q_f3_4 := f3_4; have q_f19_4 := f19_4; have g_c2_4 := i_rg c2_4; omega))) (cwV 1 hts (gd_V kw_1680 kw_1685 kw_1686 kw_404 kw_1684) rfl rfl rfl (by decide +kernel) ⟨Nat.le_of_ble_eq_true rfl, Nat.le_of_ble_eq_true rfl⟩) ⟨gblindH, va_recv hK hP (ci := 8) (q0 := k_3) rfl hk_3, fun U hU hW9 => gmkH hU hW9 hP hK hD hex hE hS hFc⟩ rfl rfl hl.1 rfl (lv_room (Nat.le_of_ble_eq_true rfl)) dX9_putCounters_2 ⟨(show 0 + (PC ws + (12)) ≤ PC ws + (12) from (by have e0 : (0 : Int32).toInt = 0 := (by decide); have e12 : (12 : Int32).toInt = 12 := (by decide); have e9059 : (9059 : Int32).toInt = 9059 := (by decide); omega)), (show 0 + (PS ws + (9059)) ≤ PS ws + (9059) from (by have e0 : (0 : Int32).toInt = 0 := (by decide); have e12 : (12 : Int32).toInt = 12 := (by decide); have e9059 : (9059 : Int32).toInt = 9059 := (by decide); omega))⟩) hS (fun q _ h => hFc q h) hFc (fun  ws_10 t9 H1 locs ht9 hvm9 hw9 hB9 hz9 hk9 hS => ?_)
  obtain ⟨E_11, Fr_12, hG, hP1, hD1, dc_13, ds_14, hLd, hdc_13, hds_14⟩ := hB9
  rw [ht9] at hLd
  refine W_tight (hL0.tr hLd).1 (hL0.tr hLd).2.1 ?_
  clear hL0 hLd
  have hP : va_P (gD g) cl0 ws_10 H1 := by rw [← ht9]; exact hP1
  have hD : va_D A ws_10 := hD1.weaken (fun _ _ _ h => hFc _ h)
  obtain ⟨kf_15, kf_16, kf_17, kf_18⟩ := id hw9
  clear hP1 hD1 hz9 hk9 hvm9 ht9 hw9
  generalize H1 = H at hP hS ⊢
  have aa_19 := a_r2_1
  have aa_20 := a_r3_1
  have aa_21 := a_r4_1
  have aa_22 := a_r5_1
  have aa_23 := a_r6_1
  have aa_24 := a_r7_1
  have aa_25 := a_r8_1
  have aa_26 := a_r9_1
  have aa_27 := a_r11_1
  have aa_28 := a_r12_1
  have aa_29 := a_r13_1
  have aa_30 := a_r14_1
  have aa_31 := a_r15_1
  have aa_32 := a_r1_3
  have aa_33 := a_r2_3
  have aa_34 := a_r3_3
  have aa_35 := a_r4_3
  have aa_36 := a_r5_3
  have aa_37 := a_r0_4
  have aa_38 := a_r1_4
  have aa_39 := a_r3_4
  have aa_40 := a_r5_4
  have aa_41 := a_r6_4
  have aa_42 := a_r7_4
  have aa_43 := a_r8_4
  have o_h0 := E_11.1 _ _ o_h0
  have o_b1 := E_11.1 _ _ o_b1
  have o_b2 := E_11.1 _ _ o_b2
  refine lv_aload_n hx hb dX9_putCounters_5 rfl (lv_at hl 0 rfl) ?_
  obtain ⟨fs9, hk_44, hq_44⟩ := ((gF.a (F' := [(7, 0), (7, 1), (7, 3), (7, 5), (7, 6), (7, 7), (7, 8), (7, 11), (8, 0), (8, 2), (8, 3), (8, 4), (8, 5)]) Fr_12 (fun _ h => h))) _ _ _ hk_3
  obtain ⟨r0_44, r1_44, n1_44, r2_44, n2_44, r3_44, n3_44, r4_44, n4_44, r5_44, n5_44, rfl, o_r0_44, a_r1_44, f2_44, a_r2_44, f4_44, a_r3_44, f6_44, a_r4_44, f8_44, a_r5_44, f10_44, f11_44, -⟩ := (hG.1 _ _ _ _ hk_44).hX9 rfl
  have kq_45 := kf_15 _ _ _ hk_44 _ _ rfl a_r2_44
  have kq_46 := kf_16 _ _ _ hk_44 _ _ rfl a_r3_44
  have kq_47 := kf_17 _ _ _ hk_44 _ _ rfl a_r4_44
  have kq_48 := kf_18 _ _ _ hk_44 _ _ rfl a_r5_44
  refine va_get (D := gD g) (ci := 8) (v := .ref r0_44) (C := RX9) (T := TX9) (N := 6) hx hb hts inX9 hown hK hP k_3 hk_44 rfl 0 (by decide) (hts _ kw_1552) (fun _ h9 => h9) rfl dX9_putCounters_6 ?_
  refine lv_iconst (v := 0) hx hb dX9_putCounters_9 (by decide) ?_
  obtain ⟨k_49, fs9, hk_49⟩ := gC_of o_r0_44
  obtain ⟨r0_49, n0_49, r1_49, n1_49, c2_49, r3_49, n3_49, c4_49, r5_49, n5_49, r6_49, n6_49, r7_49, n7_49, r8_49, n8_49, c9_49, c10_49, c11_49, v12_49, v13_49, v14_49, rfl, a_r0_49, f1_49, a_r1_49, f3_49, a_r3_49, f5_49, a_r5_49, f7_49, a_r6_49, f9_49, a_r7_49, f11_49, a_r8_49, f13_49, o_v12_49, o_v13_49, o_v14_49, f17_49, f18_49, f19_49, f20_49, f21_49, f22_49, f23_49, f24_49, f25_49, f26_49, f27_49, f28_49, f29_49, -⟩ := (hG.1 _ _ _ _ hk_49).hX8 rfl
  have hV9 : okv ws_10 7 2 (.int 0) := okv_i
  refine va_put (D := gD g) (ci := 7) (v := .int 0) (ty := .int) (C := RX8) (T := TX8) (N := 15) hx hb hts inX8 tyX8 tyX8_ok nmX8 hown hK hP hD hS k_49 hk_49 rfl 2 (by decide) (hts _ kw_1553) (fun _ h9 => h9) rfl (by decide +kernel) rfl rfl (Nat.le_of_ble_eq_true rfl) dX9_putCounters_10 (fun H locs hP hD hS => ?_)
  have f_50 : 0 ≤ (0 : Int32).toInt := (by have e0 : (0 : Int32).toInt = 0 := (by decide); omega)
  have f_51 : (0 : Int32).toInt ≤ n0_49 := (by have e0 : (0 : Int32).toInt = 0 := (by decide); have q_f1_49 := f1_49; have q_f17_49 := f17_49; have q_f18_49 := f18_49; have q_f20_49 := f20_49; have q_f_50 := f_50; have q_f3_49 := f3_49; have q_f19_49 := f19_49; have g_c2_49 := i_rg c2_49; omega)
  have hi_52 : invX8 g ws_10 r0_44 [.ref r0_49, .ref r1_49, .int 0, .ref r3_49, .int c4_49, .ref r5_49, .ref r6_49, .ref r7_49, .ref r8_49, .int c9_49, .int c10_49, .int c11_49, va_rf v12_49, va_rf v13_49, va_rf v14_49] := ⟨r0_49, (n0_49), r1_49, (n1_49), (0), r3_49, (n3_49), (c4_49), r5_49, (n5_49), r6_49, (n6_49), r7_49, (n7_49), r8_49, (n8_49), (c9_49), (c10_49), (c11_49), v12_49, v13_49, v14_49, rfl, a_r0_49, f1_49, a_r1_49, f3_49, a_r3_49, f5_49, a_r5_49, f7_49, a_r6_49, f9_49, a_r7_49, f11_49, a_r8_49, f13_49, o_v12_49, o_v13_49, o_v14_49, f17_49, f18_49, f_50, f_51, f21_49, f22_49, f23_49, f24_49, f25_49, f26_49, f27_49, f28_49, f29_49, trivial⟩
  obtain ⟨ws_53, e_ws_53⟩ : ∃ z, z = ws_10.set k_49 (r0_44, .inr (7, [.ref r0_49, .ref r1_49, .int 0, .ref r3_49, .int c4_49, .ref r5_49, .ref r6_49, .ref r7_49, .ref r8_49, .int c9_49, .int c10_49, .int c11_49, va_rf v12_49, va_rf v13_49, va_rf v14_49])) := ⟨_, rfl⟩
  have hP : va_P (gD g) cl0 ws_53 H := by rw [e_ws_53]; exact hP
  have hD : va_D A ws_53 := by rw [e_ws_53]; exact hD
  have E_54 : gE ws_10 ws_53 := gE_set e_ws_53 hk_49 (cw_o (fi := 2) (v := .int 0) rfl (by decide))
  have hG : Good g ws_53 := Good_set (fi := 2) (v := .int 0) e_ws_53 hk_49 E_54 rfl hV9 hG (ivX8 hi_52)
  have Fr_55 : gF [(7, 2)] [] (some r0_44) ws_10 ws_53 := gF_put (fi := 2) (v := .int 0) e_ws_53 hk_49 rfl (by decide)
  have pp_56 := Fr_55.pp
  have hkN := gset_self e_ws_53 hk_49
  have hk_44 := gset_ob e_ws_53 hk_49 hk_44 (by decide)
  have hk_49 := hkN
  have o_h0 := E_54.1 _ _ o_h0
  have o_b1 := E_54.1 _ _ o_b1
  have o_b2 := E_54.1 _ _ o_b2
  have o_r0_44 := E_54.1 _ _ o_r0_44
  have a_r1_44 := E_54.1 _ _ a_r1_44
  have a_r2_44 := E_54.1 _ _ a_r2_44
  have a_r3_44 := E_54.1 _ _ a_r3_44
  have a_r4_44 := E_54.1 _ _ a_r4_44
  have a_r5_44 := E_54.1 _ _ a_r5_44
  have a_r0_49 := E_54.1 _ _ a_r0_49
  have a_r1_49 := E_54.1 _ _ a_r1_49
  have a_r3_49 := E_54.1 _ _ a_r3_49
  have a_r5_49 := E_54.1 _ _ a_r5_49
  have a_r6_49 := E_54.1 _ _ a_r6_49
  have a_r7_49 := E_54.1 _ _ a_r7_49
  have a_r8_49 := E_54.1 _ _ a_r8_49
  have o_v12_49 : ∀ b, v12_49 = some b → ∃ n, gI ws_53 b g.cB n ∧ n < 2147483648 := fun b h => (o_v12_49 b h).imp (fun n h => ⟨E_54.1 _ _ h.1, h.2⟩)
  have o_v13_49 : ∀ b, v13_49 = some b → ∃ n, gJ ws_53 b g.cL n ∧ n < 2147483648 := fun b h => (o_v13_49 b h).imp (fun n h => ⟨E_54.1 _ _ h.1, h.2⟩)
  have o_v14_49 : ∀ b, v14_49 = some b → ∃ n, gJ ws_53 b g.cL n ∧ n < 2147483648 := fun b h => (o_v14_49 b h).imp (fun n h => ⟨E_54.1 _ _ h.1, h.2⟩)
  refine lv_iload_n hx hb dX9_putCounters_13 rfl (lv_at hl 3 rfl) ?_
  refine lv_istore (lv' := [(4, .int x3), (0, .ref h0), (1, .ref b1), (2, .ref b2), (3, .int x3)]) hx hb dX9_putCounters_14 hl (by decide) rfl (fun ls hl => ?_)
  refine lv_iconst (v := 0) hx hb dX9_putCounters_16 (by decide) ?_
  refine lv_istore (lv' := [(5, .int 0), (4, .int x3), (0, .ref h0), (1, .ref b1), (2, .ref b2), (3, .int x3)]) hx hb dX9_putCounters_17 hl (by decide) rfl (fun ls hl => ?_)
  have J_19 : ∀ (n9 : Nat) (v4_57 : Int32) (v5_58 : Int32) (dc_19_1 : Nat) (ds_19_1 : Nat) (ws_60 : va_W) (H : Heap) (locs : List Loc) (ls : Array Slot), (2147483647 - v5_58.toInt).toNat = n9 → 0 ≤ v5_58.toInt → gE ws_53 ws_60 → gF [(7, 2)] [(7, 0), (7, 1), (8, 5)] none ws_53 ws_60 → Good g ws_60 → dc_19_1 + PC ws_60 ≤ PC ws + (12) → ds_19_1 + PS ws_60 ≤ PS ws + (9059) → va_P (gD g) cl0 ws_60 H → va_D A ws_60 → va_S A s.heap H locs → lv_has ls 8 [(0, .ref h0), (1, .ref b1), (2, .ref b2), (4, .int v4_57), (5, .int v5_58)] → W p l e (headSpec (wt yX9_putCounters cX9_putCounters 8 none) ({ frames := 3, cells := PC ws + (12), slots := PS ws + (9059), locals := 56 })).room s m ([.ref h0, .ref b1, .ref b2, .int x3] : List Value).toArray below meth c H locs (dc_19_1) (ds_19_1) (MQ below (va_Qv (fun (u9 : va_W) => True) (gQ2 g [(7, 0), (7, 1), (7, 2), (7, 3), (7, 4), (7, 5), (7, 6), (7, 7), (7, 8), (7, 9), (7, 11), (8, 0), (8, 2), (8, 3), (8, 4), (8, 5)] [(7, 0), (7, 1), (7, 3), (7, 5), (7, 6), (7, 7), (7, 8), (8, 5)] none A ws s.heap (12) (9059)) A) ([.ref h0, .ref b1, .ref b2, .int x3] : List Value).toArray s (PC ws + (12)) (PS ws + (9059)) A) (F0 m 19 ls []) := by
    intro n9
    induction n9 using Nat.strongRecOn with
    | ind n9 ih_19 =>
      intro v4_57 v5_58 dc_19_1 ds_19_1 ws_60 H locs ls hm9 iv_59 E_61 Fr_62 hG hc9 hs9 hP hD hS hl
      subst hm9
      have aa_63 := a_r1_44
      have aa_64 := a_r2_44
      have aa_65 := a_r3_44
      have aa_66 := a_r4_44
      have aa_67 := a_r5_44
      have aa_68 := a_r0_49
      have aa_69 := a_r1_49
      have aa_70 := a_r3_49
      have aa_71 := a_r5_49
      have aa_72 := a_r6_49
      have aa_73 := a_r7_49
      have aa_74 := a_r8_49
      have o_h0 := E_61.1 _ _ o_h0
      have o_b1 := E_61.1 _ _ o_b1
      have o_b2 := E_61.1 _ _ o_b2
      refine lv_iload hx hb dX9_putCounters_19 (lv_at hl 4 rfl) ?_
      refine lv_aload_n hx hb dX9_putCounters_21 rfl (lv_at hl 1 rfl) ?_
      obtain ⟨k_75, fs9, hk_75⟩ := gC_of o_b1
      obtain ⟨r0_75, n0_75, r1_75, n1_75, c2_75, r3_75, n3_75, c4_75, r5_75, n5_75, r6_75, n6_75, r7_75, n7_75, r8_75, n8_75, c9_75, c10_75, c11_75, v12_75, v13_75, v14_75, rfl, a_r0_75, f1_75, a_r1_75, f3_75, a_r3_75, f5_75, a_r5_75, f7_75, a_r6_75, f9_75, a_r7_75, f11_75, a_r8_75, f13_75, o_v12_75, o_v13_75, o_v14_75, f17_75, f18_75, f19_75, f20_75, f21_75, f22_75, f23_75, f24_75, f25_75, f26_75, f27_75, f28_75, f29_75, -⟩ := (hG.1 _ _ _ _ hk_75).hX8 rfl
      refine va_get (D := gD g) (ci := 7) (v := .int c2_75) (C := RX8) (T := TX8) (N := 15) hx hb hts inX8 hown hK hP k_75 hk_75 rfl 2 (by decide) (hts _ kw_1553) (fun _ h9 => h9) rfl dX9_putCounters_22 ?_
      have J_139 : ∀ (dc_139_2 : Nat) (ds_139_2 : Nat) (H : Heap) (locs : List Loc) (ls : Array Slot), dc_139_2 + PC ws_60 ≤ PC ws + (12) → ds_139_2 + PS ws_60 ≤ PS ws + (9059) → va_P (gD g) cl0 ws_60 H → va_D A ws_60 → va_S A s.heap H locs → lv_has ls 8 [(0, .ref h0), (1, .ref b1)] → W p l e (headSpec (wt yX9_putCounters cX9_putCounters 8 none) ({ frames := 3, cells := PC ws + (12), slots := PS ws + (9059), locals := 56 })).room s m ([.ref h0, .ref b1, .ref b2, .int x3] : List Value).toArray below meth c H locs (dc_139_2) (ds_139_2) (MQ below (va_Qv (fun (u9 : va_W) => True) (gQ2 g [(7, 0), (7, 1), (7, 2), (7, 3), (7, 4), (7, 5), (7, 6), (7, 7), (7, 8), (7, 9), (7, 11), (8, 0), (8, 2), (8, 3), (8, 4), (8, 5)] [(7, 0), (7, 1), (7, 3), (7, 5), (7, 6), (7, 7), (7, 8), (8, 5)] none A ws s.heap (12) (9059)) A) ([.ref h0, .ref b1, .ref b2, .int x3] : List Value).toArray s (PC ws + (12)) (PS ws + (9059)) A) (F0 m 139 ls []) := by
        intro dc_139_2 ds_139_2 H locs ls  hc9 hs9 hP hD hS hl
        refine lv_aload_n hx hb dX9_putCounters_139 rfl (lv_at hl 0 rfl) ?_
        obtain ⟨fs9, hk_78, hq_78⟩ := ((gF.a (F' := [(7, 2)]) Fr_62 (fun _ h => h))) _ _ _ hk_44
        obtain ⟨r0_78, r1_78, n1_78, r2_78, n2_78, r3_78, n3_78, r4_78, n4_78, r5_78, n5_78, rfl, o_r0_78, a_r1_78, f2_78, a_r2_78, f4_78, a_r3_78, f6_78, a_r4_78, f8_78, a_r5_78, f10_78, f11_78, -⟩ := (hG.1 _ _ _ _ hk_78).hX9 rfl
        obtain rfl := fe_r (hq_78 0 (by decide))
        have o_r0_44 := o_r0_78
        obtain rfl := fe_r (hq_78 2 (by decide))
        have hn9 := gI_n hD ((E_61).1 _ _ aa_64) a_r2_78
        subst hn9
        have a_r2_44 := a_r2_78
        obtain rfl := fe_r (hq_78 3 (by decide))
        have hn9 := gI_n hD ((E_61).1 _ _ aa_65) a_r3_78
        subst hn9
        have a_r3_44 := a_r3_78
        obtain rfl := fe_r (hq_78 4 (by decide))
        have hn9 := gI_n hD ((E_61).1 _ _ aa_66) a_r4_78
        subst hn9
        have a_r4_44 := a_r4_78
        obtain rfl := fe_r (hq_78 5 (by decide))
        have hn9 := gI_n hD ((E_61).1 _ _ aa_67) a_r5_78
        subst hn9
        have a_r5_44 := a_r5_78
        refine va_get (D := gD g) (ci := 8) (v := .ref r5_44) (C := RX9) (T := TX9) (N := 6) hx hb hts inX9 hown hK hP k_3 hk_78 rfl 5 (by decide) (hts _ kw_1592) (fun _ h9 => h9) rfl dX9_putCounters_140 ?_
        refine lv_aload_n hx hb dX9_putCounters_143 rfl (lv_at hl 1 rfl) ?_
        refine va_get (D := gD g) (ci := 7) (v := .int c2_75) (C := RX8) (T := TX8) (N := 15) hx hb hts inX8 hown hK hP k_75 hk_75 rfl 2 (by decide) (hts _ kw_1553) (fun _ h9 => h9) rfl dX9_putCounters_144 ?_
        refine lv_aload_n hx hb dX9_putCounters_147 rfl (lv_at hl 0 rfl) ?_
        refine va_get (D := gD g) (ci := 8) (v := .ref r5_44) (C := RX9) (T := TX9) (N := 6) hx hb hts inX9 hown hK hP k_3 hk_78 rfl 5 (by decide) (hts _ kw_1592) (fun _ h9 => h9) rfl dX9_putCounters_148 ?_
        obtain ⟨k_79, f_79, hk_79⟩ := gI_of a_r5_44
        obtain ⟨z_80, ez_80⟩ : ∃ z : Int32, Int32.ofNat n5_44 = z := ⟨_, rfl⟩
        refine va_alen (v := z_80) hx hb hK hP k_79 1 hk_79 rfl ez_80 dX9_putCounters_151 ?_
        refine lv_iconst (v := 1) hx hb dX9_putCounters_152 (by decide) ?_
        refine lv_isub hx hb dX9_putCounters_153 ?_
        refine lv_topi (fun z_81 ez_81 => ?_)
        refine va_mmin hx hb (by rw [hml]; exact hl.1.symm) hown (hts _ kw_1704) (hts _ kw_1750) (hts _ kw_1748) (hts _ kw_1749) (Nat.le_of_ble_eq_true rfl) (Nat.le_of_ble_eq_true rfl) (show dc_139_2 ≤ PC ws + (12) from (by have e0 : (0 : Int32).toInt = 0 := (by decide); have q_f_50 := f_50; omega)) (show ds_139_2 ≤ PS ws + (9059) from (by have e0 : (0 : Int32).toInt = 0 := (by decide); have q_f_50 := f_50; omega)) dX9_putCounters_154 ?_
        refine lv_topi (fun z_82 ez_82 => ?_)
        refine lv_aload_n hx hb dX9_putCounters_157 rfl (lv_at hl 0 rfl) ?_
        refine va_get (D := gD g) (ci := 8) (v := .ref r0_44) (C := RX9) (T := TX9) (N := 6) hx hb hts inX9 hown hK hP k_3 hk_78 rfl 0 (by decide) (hts _ kw_1552) (fun _ h9 => h9) rfl dX9_putCounters_158 ?_
        obtain ⟨fs9, hk_83, hq_83⟩ := ((gF.a (F' := [(7, 2)]) Fr_62 (fun _ h => h))) _ _ _ hk_49
        obtain ⟨r0_83, n0_83, r1_83, n1_83, c2_83, r3_83, n3_83, c4_83, r5_83, n5_83, r6_83, n6_83, r7_83, n7_83, r8_83, n8_83, c9_83, c10_83, c11_83, v12_83, v13_83, v14_83, rfl, a_r0_83, f1_83, a_r1_83, f3_83, a_r3_83, f5_83, a_r5_83, f7_83, a_r6_83, f9_83, a_r7_83, f11_83, a_r8_83, f13_83, o_v12_83, o_v13_83, o_v14_83, f17_83, f18_83, f19_83, f20_83, f21_83, f22_83, f23_83, f24_83, f25_83, f26_83, f27_83, f28_83, f29_83, -⟩ := (hG.1 _ _ _ _ hk_83).hX8 rfl
        obtain rfl := fe_r (hq_83 3 (by decide))
        have hn9 := gI_n hD ((E_61).1 _ _ aa_70) a_r3_83
        subst hn9
        have a_r3_49 := a_r3_83
        obtain rfl := fe_i (hq_83 4 (by decide))
        obtain rfl := fe_r (hq_83 5 (by decide))
        have hn9 := gI_n hD ((E_61).1 _ _ aa_71) a_r5_83
        subst hn9
        have a_r5_49 := a_r5_83
        obtain rfl := fe_r (hq_83 6 (by decide))
        have hn9 := gI_n hD ((E_61).1 _ _ aa_72) a_r6_83
        subst hn9
        have a_r6_49 := a_r6_83
        obtain rfl := fe_r (hq_83 7 (by decide))
        have hn9 := gI_n hD ((E_61).1 _ _ aa_73) a_r7_83
        subst hn9
        have a_r7_49 := a_r7_83
        obtain rfl := fe_r (hq_83 8 (by decide))
        have hn9 := gI_n hD ((E_61).1 _ _ aa_74) a_r8_83
        subst hn9
        have a_r8_49 := a_r8_83
        obtain rfl := fe_i (hq_83 9 (by decide))
        refine va_get (D := gD g) (ci := 7) (v := .int c2_83) (C := RX8) (T := TX8) (N := 15) hx hb hts inX8 hown hK hP k_49 hk_83 rfl 2 (by decide) (hts _ kw_1553) (fun _ h9 => h9) rfl dX9_putCounters_161 ?_
        have hC9 : hol ws_60 r5_44 [(8, 5)] := (hol_u hG.u hk_78 (j := 5) rfl a_r5_44 (by decide))
        have hS9 : holS ws_60 r5_44 none := holS_n
        refine va_iast hx hb hK hP hD hS k_79 1 hk_79 rfl (i_in2 (by have e0 : (0 : Int32).toInt = 0 := (by decide); have e1 : (1 : Int32).toInt = 1 := (by decide); have q_f10_44 := f10_44; have q_kq_48 := kq_48; have q_f_50 := f_50; have q_z_80 := i_len ez_80 f10_78; have q_z_82 := i_min ez_82; have q_f19_75 := f19_75; have q_f20_75 := f20_75; obtain ⟨u_z_81, q_z_81⟩ := i_sub ez_81; have q_f1_75 := f1_75; have q_f17_75 := f17_75; have q_f18_75 := f18_75; have g_c2_75 := i_rg c2_75; have g_z_80 := i_rg z_80; have g_z_81 := i_rg z_81; have g_z_82 := i_rg z_82; omega)) dX9_putCounters_164 (fun H locs hP hD hS => ?_)
        obtain ⟨ws_84, e_ws_84⟩ : ∃ z, z = ws_60.set k_79 (r5_44, .inl (g.cI, n5_44, .inl (upd f_79 (z_82 : Int32).toNatClampNeg c2_83))) := ⟨_, rfl⟩
        have hP : va_P (gD g) cl0 ws_84 H := by rw [e_ws_84]; exact hP
        have hD : va_D A ws_84 := by rw [e_ws_84]; exact hD
        have E_85 : gE ws_60 ws_84 := gE_ari e_ws_84 hk_79
        have hG : Good g ws_84 := Good_arI e_ws_84 hk_79 hG
        have Fr_86 : gF [] [(8, 5)] none ws_60 ws_84 := gF_ar e_ws_84 hk_79 rfl hC9 hS9
        have pp_87 := Fr_86.pp
        have hk_75 := gset_arO e_ws_84 hk_79 hk_75
        have hk_78 := gset_arO e_ws_84 hk_79 hk_78
        have hk_83 := gset_arO e_ws_84 hk_79 hk_83
        have o_h0 := E_85.1 _ _ o_h0
        have o_b1 := E_85.1 _ _ o_b1
        have a_r0_75 := E_85.1 _ _ a_r0_75
        have a_r1_75 := E_85.1 _ _ a_r1_75
        have a_r3_75 := E_85.1 _ _ a_r3_75
        have a_r5_75 := E_85.1 _ _ a_r5_75
        have a_r6_75 := E_85.1 _ _ a_r6_75
        have a_r7_75 := E_85.1 _ _ a_r7_75
        have a_r8_75 := E_85.1 _ _ a_r8_75
        have o_v12_75 : ∀ b, v12_75 = some b → ∃ n, gI ws_84 b g.cB n ∧ n < 2147483648 := fun b h => (o_v12_75 b h).imp (fun n h => ⟨E_85.1 _ _ h.1, h.2⟩)
        have o_v13_75 : ∀ b, v13_75 = some b → ∃ n, gJ ws_84 b g.cL n ∧ n < 2147483648 := fun b h => (o_v13_75 b h).imp (fun n h => ⟨E_85.1 _ _ h.1, h.2⟩)
        have o_v14_75 : ∀ b, v14_75 = some b → ∃ n, gJ ws_84 b g.cL n ∧ n < 2147483648 := fun b h => (o_v14_75 b h).imp (fun n h => ⟨E_85.1 _ _ h.1, h.2⟩)
        have a_r1_78 := E_85.1 _ _ a_r1_78
        have o_r0_44 := E_85.1 _ _ o_r0_44
        have a_r2_44 := E_85.1 _ _ a_r2_44
        have a_r3_44 := E_85.1 _ _ a_r3_44
        have a_r4_44 := E_85.1 _ _ a_r4_44
        have a_r5_44 := E_85.1 _ _ a_r5_44
        have a_r0_83 := E_85.1 _ _ a_r0_83
        have a_r1_83 := E_85.1 _ _ a_r1_83
        have o_v12_83 : ∀ b, v12_83 = some b → ∃ n, gI ws_84 b g.cB n ∧ n < 2147483648 := fun b h => (o_v12_83 b h).imp (fun n h => ⟨E_85.1 _ _ h.1, h.2⟩)
        have o_v13_83 : ∀ b, v13_83 = some b → ∃ n, gJ ws_84 b g.cL n ∧ n < 2147483648 := fun b h => (o_v13_83 b h).imp (fun n h => ⟨E_85.1 _ _ h.1, h.2⟩)
        have o_v14_83 : ∀ b, v14_83 = some b → ∃ n, gJ ws_84 b g.cL n ∧ n < 2147483648 := fun b h => (o_v14_83 b h).imp (fun n h => ⟨E_85.1 _ _ h.1, h.2⟩)
        have a_r3_49 := E_85.1 _ _ a_r3_49
        have a_r5_49 := E_85.1 _ _ a_r5_49
        have a_r6_49 := E_85.1 _ _ a_r6_49
        have a_r7_49 := E_85.1 _ _ a_r7_49
        have a_r8_49 := E_85.1 _ _ a_r8_49
        refine lv_aload_n hx hb dX9_putCounters_165 rfl (lv_at hl 0 rfl) ?_
        refine va_get (D := gD g) (ci := 8) (v := .ref r0_44) (C := RX9) (T := TX9) (N := 6) hx hb hts inX9 hown hK hP k_3 hk_78 rfl 0 (by decide) (hts _ kw_1552) (fun _ h9 => h9) rfl dX9_putCounters_166 ?_
        refine lv_iconst (v := 0) hx hb dX9_putCounters_169 (by decide) ?_
        have hV9 : okv ws_84 7 4 (.int 0) := okv_i
        refine va_put (D := gD g) (ci := 7) (v := .int 0) (ty := .int) (C := RX8) (T := TX8) (N := 15) hx hb hts inX8 tyX8 tyX8_ok nmX8 hown hK hP hD hS k_49 hk_83 rfl 4 (by decide) (hts _ kw_1705) (fun _ h9 => h9) rfl (by decide +kernel) rfl rfl (Nat.le_of_ble_eq_true rfl) dX9_putCounters_170 (fun H locs hP hD hS => ?_)
        have f_88 : 0 ≤ (0 : Int32).toInt := (by have e0 : (0 : Int32).toInt = 0 := (by decide); have q_f_50 := f_50; omega)
        have f_89 : (0 : Int32).toInt ≤ n3_49 := (by have e0 : (0 : Int32).toInt = 0 := (by decide); have q_f5_49 := f5_49; have q_f22_49 := f22_49; have q_f28_49 := f28_49; have q_f_50 := f_50; have q_f_88 := f_88; have q_f21_49 := f21_49; have g_c4_49 := i_rg c4_49; omega)
        have hi_90 : invX8 g ws_84 r0_44 [.ref r0_83, .ref r1_83, .int c2_83, .ref r3_49, .int 0, .ref r5_49, .ref r6_49, .ref r7_49, .ref r8_49, .int c9_49, .int c10_83, .int c11_83, va_rf v12_83, va_rf v13_83, va_rf v14_83] := ⟨r0_83, (n0_83), r1_83, (n1_83), (c2_83), r3_49, (n3_49), (0), r5_49, (n5_49), r6_49, (n6_49), r7_49, (n7_49), r8_49, (n8_49), (c9_49), (c10_83), (c11_83), v12_83, v13_83, v14_83, rfl, a_r0_83, f1_83, a_r1_83, f3_83, a_r3_49, f5_83, a_r5_49, f7_83, a_r6_49, f9_83, a_r7_49, f11_83, a_r8_49, f13_83, o_v12_83, o_v13_83, o_v14_83, f17_83, f18_83, f19_83, f20_83, f_88, f_89, f23_83, f24_83, f25_83, f26_83, f27_83, f28_83, f29_83, trivial⟩
        obtain ⟨ws_91, e_ws_91⟩ : ∃ z, z = ws_84.set k_49 (r0_44, .inr (7, [.ref r0_83, .ref r1_83, .int c2_83, .ref r3_49, .int 0, .ref r5_49, .ref r6_49, .ref r7_49, .ref r8_49, .int c9_49, .int c10_83, .int c11_83, va_rf v12_83, va_rf v13_83, va_rf v14_83])) := ⟨_, rfl⟩
        have hP : va_P (gD g) cl0 ws_91 H := by rw [e_ws_91]; exact hP
        have hD : va_D A ws_91 := by rw [e_ws_91]; exact hD
        have E_92 : gE ws_84 ws_91 := gE_set e_ws_91 hk_83 (cw_o (fi := 4) (v := .int 0) rfl (by decide))
        have hG : Good g ws_91 := Good_set (fi := 4) (v := .int 0) e_ws_91 hk_83 E_92 rfl hV9 hG (ivX8 hi_90)
        have Fr_93 : gF [(7, 4)] [] (some r0_44) ws_84 ws_91 := gF_put (fi := 4) (v := .int 0) e_ws_91 hk_83 rfl (by decide)
        have pp_94 := Fr_93.pp
        have hkN := gset_self e_ws_91 hk_83
        have aa_95 := a_r0_75
        have aa_96 := a_r1_75
        have aa_97 := a_r3_75
        have aa_98 := a_r5_75
        have aa_99 := a_r6_75
        have aa_100 := a_r7_75
        have aa_101 := a_r8_75
        have hk_78 := gset_ob e_ws_91 hk_83 hk_78 (by decide)
        have hk_83 := hkN
        have o_h0 := E_92.1 _ _ o_h0
        have o_b1 := E_92.1 _ _ o_b1
        have a_r1_78 := E_92.1 _ _ a_r1_78
        have o_r0_44 := E_92.1 _ _ o_r0_44
        have a_r2_44 := E_92.1 _ _ a_r2_44
        have a_r3_44 := E_92.1 _ _ a_r3_44
        have a_r4_44 := E_92.1 _ _ a_r4_44
        have a_r5_44 := E_92.1 _ _ a_r5_44
        have a_r0_83 := E_92.1 _ _ a_r0_83
        have a_r1_83 := E_92.1 _ _ a_r1_83
        have o_v12_83 : ∀ b, v12_83 = some b → ∃ n, gI ws_91 b g.cB n ∧ n < 2147483648 := fun b h => (o_v12_83 b h).imp (fun n h => ⟨E_92.1 _ _ h.1, h.2⟩)
        have o_v13_83 : ∀ b, v13_83 = some b → ∃ n, gJ ws_91 b g.cL n ∧ n < 2147483648 := fun b h => (o_v13_83 b h).imp (fun n h => ⟨E_92.1 _ _ h.1, h.2⟩)
        have o_v14_83 : ∀ b, v14_83 = some b → ∃ n, gJ ws_91 b g.cL n ∧ n < 2147483648 := fun b h => (o_v14_83 b h).imp (fun n h => ⟨E_92.1 _ _ h.1, h.2⟩)
        have a_r3_49 := E_92.1 _ _ a_r3_49
        have a_r5_49 := E_92.1 _ _ a_r5_49
        have a_r6_49 := E_92.1 _ _ a_r6_49
        have a_r7_49 := E_92.1 _ _ a_r7_49
        have a_r8_49 := E_92.1 _ _ a_r8_49
        refine lv_iconst (v := 0) hx hb dX9_putCounters_173 (by decide) ?_
        refine lv_istore (lv' := [(5, .int 0), (0, .ref h0), (1, .ref b1)]) hx hb dX9_putCounters_174 hl (by decide) rfl (fun ls hl => ?_)
        have J_176 : ∀ (n9 : Nat) (v5_102 : Int32) (dc_176_3 : Nat) (ds_176_3 : Nat) (ws_104 : va_W) (H : Heap) (locs : List Loc) (ls : Array Slot), (2147483647 - v5_102.toInt).toNat = n9 → 0 ≤ v5_102.toInt → gE ws_91 ws_104 → gF [(7, 4)] [(7, 3)] none ws_91 ws_104 → Good g ws_104 → dc_176_3 + PC ws_104 ≤ PC ws + (12) → ds_176_3 + PS ws_104 ≤ PS ws + (9059) → va_P (gD g) cl0 ws_104 H → va_D A ws_104 → va_S A s.heap H locs → lv_has ls 8 [(0, .ref h0), (1, .ref b1), (5, .int v5_102)] → W p l e (headSpec (wt yX9_putCounters cX9_putCounters 8 none) ({ frames := 3, cells := PC ws + (12), slots := PS ws + (9059), locals := 56 })).room s m ([.ref h0, .ref b1, .ref b2, .int x3] : List Value).toArray below meth c H locs (dc_176_3) (ds_176_3) (MQ below (va_Qv (fun (u9 : va_W) => True) (gQ2 g [(7, 0), (7, 1), (7, 2), (7, 3), (7, 4), (7, 5), (7, 6), (7, 7), (7, 8), (7, 9), (7, 11), (8, 0), (8, 2), (8, 3), (8, 4), (8, 5)] [(7, 0), (7, 1), (7, 3), (7, 5), (7, 6), (7, 7), (7, 8), (8, 5)] none A ws s.heap (12) (9059)) A) ([.ref h0, .ref b1, .ref b2, .int x3] : List Value).toArray s (PC ws + (12)) (PS ws + (9059)) A) (F0 m 176 ls []) := by
          intro n9
          induction n9 using Nat.strongRecOn with
          | ind n9 ih_176 =>
            intro v5_102 dc_176_3 ds_176_3 ws_104 H locs ls hm9 iv_103 E_105 Fr_106 hG hc9 hs9 hP hD hS hl
            subst hm9
            have aa_107 := a_r1_78
            have aa_108 := a_r2_44
            have aa_109 := a_r3_44
            have aa_110 := a_r4_44
            have aa_111 := a_r5_44
            have aa_112 := a_r0_83
            have aa_113 := a_r1_83
            have aa_114 := a_r3_49
            have aa_115 := a_r5_49
            have aa_116 := a_r6_49
            have aa_117 := a_r7_49
            have aa_118 := a_r8_49
            have o_h0 := E_105.1 _ _ o_h0
            have o_b1 := E_105.1 _ _ o_b1
            refine lv_iload hx hb dX9_putCounters_176 (lv_at hl 2 rfl) ?_
            refine lv_aload_n hx hb dX9_putCounters_178 rfl (lv_at hl 1 rfl) ?_
            obtain ⟨fs9, hk_119, hq_119⟩ := ((gA.tr (gF.a (F' := [(7, 4)]) Fr_93 (fun _ h => h)) (gF.a (F' := [(7, 4)]) Fr_106 (fun _ h => h)))) _ _ _ hk_75
            obtain ⟨r0_119, n0_119, r1_119, n1_119, c2_119, r3_119, n3_119, c4_119, r5_119, n5_119, r6_119, n6_119, r7_119, n7_119, r8_119, n8_119, c9_119, c10_119, c11_119, v12_119, v13_119, v14_119, rfl, a_r0_119, f1_119, a_r1_119, f3_119, a_r3_119, f5_119, a_r5_119, f7_119, a_r6_119, f9_119, a_r7_119, f11_119, a_r8_119, f13_119, o_v12_119, o_v13_119, o_v14_119, f17_119, f18_119, f19_119, f20_119, f21_119, f22_119, f23_119, f24_119, f25_119, f26_119, f27_119, f28_119, f29_119, -⟩ := (hG.1 _ _ _ _ hk_119).hX8 rfl
            obtain rfl := fe_i (hq_119 2 (by decide))
            obtain rfl := fe_r (hq_119 3 (by decide))
            have hn9 := gI_n hD (((E_92.tr E_105)).1 _ _ aa_97) a_r3_119
            subst hn9
            have a_r3_75 := a_r3_119
            obtain rfl := fe_r (hq_119 5 (by decide))
            have hn9 := gI_n hD (((E_92.tr E_105)).1 _ _ aa_98) a_r5_119
            subst hn9
            have a_r5_75 := a_r5_119
            obtain rfl := fe_r (hq_119 6 (by decide))
            have hn9 := gI_n hD (((E_92.tr E_105)).1 _ _ aa_99) a_r6_119
            subst hn9
            have a_r6_75 := a_r6_119
            obtain rfl := fe_r (hq_119 7 (by decide))
            have hn9 := gI_n hD (((E_92.tr E_105)).1 _ _ aa_100) a_r7_119
            subst hn9
            have a_r7_75 := a_r7_119
            obtain rfl := fe_r (hq_119 8 (by decide))
            have hn9 := gI_n hD (((E_92.tr E_105)).1 _ _ aa_101) a_r8_119
            subst hn9
            have a_r8_75 := a_r8_119
            obtain rfl := fe_i (hq_119 9 (by decide))
            refine va_get (D := gD g) (ci := 7) (v := .int c4_119) (C := RX8) (T := TX8) (N := 15) hx hb hts inX8 hown hK hP k_75 hk_119 rfl 4 (by decide) (hts _ kw_1705) (fun _ h9 => h9) rfl dX9_putCounters_179 ?_
            refine lv_icmp_ge (tgt := 205) hx hb dX9_putCounters_182 (by decide) (fun c_120 => ?_) (fun c_120 => ?_)
            · refine lv_iconst (v := 0) hx hb dX9_putCounters_205 (by decide) ?_
              refine lv_istore (lv' := [(5, .int 0), (0, .ref h0), (1, .ref b1)]) hx hb dX9_putCounters_206 hl (by decide) rfl (fun ls hl => ?_)
              have J_208 : ∀ (n9 : Nat) (v5_121 : Int32) (dc_208_4 : Nat) (ds_208_4 : Nat) (ws_123 : va_W) (H : Heap) (locs : List Loc) (ls : Array Slot), (2147483647 - v5_121.toInt).toNat = n9 → 0 ≤ v5_121.toInt → gE ws_104 ws_123 → gF [] [(7, 0), (7, 1), (7, 3)] none ws_104 ws_123 → Good g ws_123 → dc_208_4 + PC ws_123 ≤ PC ws + (12) → ds_208_4 + PS ws_123 ≤ PS ws + (9059) → va_P (gD g) cl0 ws_123 H → va_D A ws_123 → va_S A s.heap H locs → lv_has ls 8 [(0, .ref h0), (1, .ref b1), (5, .int v5_121)] → W p l e (headSpec (wt yX9_putCounters cX9_putCounters 8 none) ({ frames := 3, cells := PC ws + (12), slots := PS ws + (9059), locals := 56 })).room s m ([.ref h0, .ref b1, .ref b2, .int x3] : List Value).toArray below meth c H locs (dc_208_4) (ds_208_4) (MQ below (va_Qv (fun (u9 : va_W) => True) (gQ2 g [(7, 0), (7, 1), (7, 2), (7, 3), (7, 4), (7, 5), (7, 6), (7, 7), (7, 8), (7, 9), (7, 11), (8, 0), (8, 2), (8, 3), (8, 4), (8, 5)] [(7, 0), (7, 1), (7, 3), (7, 5), (7, 6), (7, 7), (7, 8), (8, 5)] none A ws s.heap (12) (9059)) A) ([.ref h0, .ref b1, .ref b2, .int x3] : List Value).toArray s (PC ws + (12)) (PS ws + (9059)) A) (F0 m 208 ls []) := by
                intro n9
                induction n9 using Nat.strongRecOn with
                | ind n9 ih_208 =>
                  intro v5_121 dc_208_4 ds_208_4 ws_123 H locs ls hm9 iv_122 E_124 Fr_125 hG hc9 hs9 hP hD hS hl
                  subst hm9
                  have aa_126 := a_r0_119
                  have aa_127 := a_r1_119
                  have aa_128 := a_r3_75
                  have aa_129 := a_r5_75
                  have aa_130 := a_r6_75
                  have aa_131 := a_r7_75
                  have aa_132 := a_r8_75
                  have o_h0 := E_124.1 _ _ o_h0
                  have o_b1 := E_124.1 _ _ o_b1
                  refine lv_iload hx hb dX9_putCounters_208 (lv_at hl 2 rfl) ?_
                  refine lv_aload_n hx hb dX9_putCounters_210 rfl (lv_at hl 0 rfl) ?_
                  obtain ⟨fs9, hk_133, hq_133⟩ := ((gA.tr (gF.a (F' := [(7, 4)]) Fr_106 (fun _ h => h)) (gF.a (F' := [(7, 4)]) Fr_125 (fun _ h => absurd h List.not_mem_nil)))) _ _ _ hk_78
                  obtain ⟨r0_133, r1_133, n1_133, r2_133, n2_133, r3_133, n3_133, r4_133, n4_133, r5_133, n5_133, rfl, o_r0_133, a_r1_133, f2_133, a_r2_133, f4_133, a_r3_133, f6_133, a_r4_133, f8_133, a_r5_133, f10_133, f11_133, -⟩ := (hG.1 _ _ _ _ hk_133).hX9 rfl
                  obtain rfl := fe_r (hq_133 0 (by decide))
                  have o_r0_44 := o_r0_133
                  obtain rfl := fe_r (hq_133 2 (by decide))
                  have hn9 := gI_n hD (((E_105.tr E_124)).1 _ _ aa_108) a_r2_133
                  subst hn9
                  have a_r2_44 := a_r2_133
                  obtain rfl := fe_r (hq_133 3 (by decide))
                  have hn9 := gI_n hD (((E_105.tr E_124)).1 _ _ aa_109) a_r3_133
                  subst hn9
                  have a_r3_44 := a_r3_133
                  obtain rfl := fe_r (hq_133 4 (by decide))
                  have hn9 := gI_n hD (((E_105.tr E_124)).1 _ _ aa_110) a_r4_133
                  subst hn9
                  have a_r4_44 := a_r4_133
                  obtain rfl := fe_r (hq_133 5 (by decide))
                  have hn9 := gI_n hD (((E_105.tr E_124)).1 _ _ aa_111) a_r5_133
                  subst hn9
                  have a_r5_44 := a_r5_133
                  refine va_get (D := gD g) (ci := 8) (v := .ref r0_44) (C := RX9) (T := TX9) (N := 6) hx hb hts inX9 hown hK hP k_3 hk_133 rfl 0 (by decide) (hts _ kw_1552) (fun _ h9 => h9) rfl dX9_putCounters_211 ?_
                  obtain ⟨fs9, hk_134, hq_134⟩ := ((gA.tr (gF.a (F' := [(7, 4)]) Fr_106 (fun _ h => h)) (gF.a (F' := [(7, 4)]) Fr_125 (fun _ h => absurd h List.not_mem_nil)))) _ _ _ hk_83
                  obtain ⟨r0_134, n0_134, r1_134, n1_134, c2_134, r3_134, n3_134, c4_134, r5_134, n5_134, r6_134, n6_134, r7_134, n7_134, r8_134, n8_134, c9_134, c10_134, c11_134, v12_134, v13_134, v14_134, rfl, a_r0_134, f1_134, a_r1_134, f3_134, a_r3_134, f5_134, a_r5_134, f7_134, a_r6_134, f9_134, a_r7_134, f11_134, a_r8_134, f13_134, o_v12_134, o_v13_134, o_v14_134, f17_134, f18_134, f19_134, f20_134, f21_134, f22_134, f23_134, f24_134, f25_134, f26_134, f27_134, f28_134, f29_134, -⟩ := (hG.1 _ _ _ _ hk_134).hX8 rfl
                  obtain rfl := fe_i (hq_134 2 (by decide))
                  obtain rfl := fe_r (hq_134 3 (by decide))
                  have hn9 := gI_n hD (((E_105.tr E_124)).1 _ _ aa_114) a_r3_134
                  subst hn9
                  have a_r3_49 := a_r3_134
                  obtain rfl := fe_r (hq_134 5 (by decide))
                  have hn9 := gI_n hD (((E_105.tr E_124)).1 _ _ aa_115) a_r5_134
                  subst hn9
                  have a_r5_49 := a_r5_134
                  obtain rfl := fe_r (hq_134 6 (by decide))
                  have hn9 := gI_n hD (((E_105.tr E_124)).1 _ _ aa_116) a_r6_134
                  subst hn9
                  have a_r6_49 := a_r6_134
                  obtain rfl := fe_r (hq_134 7 (by decide))
                  have hn9 := gI_n hD (((E_105.tr E_124)).1 _ _ aa_117) a_r7_134
                  subst hn9
                  have a_r7_49 := a_r7_134
                  obtain rfl := fe_r (hq_134 8 (by decide))
                  have hn9 := gI_n hD (((E_105.tr E_124)).1 _ _ aa_118) a_r8_134
                  subst hn9
                  have a_r8_49 := a_r8_134
                  obtain rfl := fe_i (hq_134 9 (by decide))
                  refine va_get (D := gD g) (ci := 7) (v := .int c2_83) (C := RX8) (T := TX8) (N := 15) hx hb hts inX8 hown hK hP k_49 hk_134 rfl 2 (by decide) (hts _ kw_1553) (fun _ h9 => h9) rfl dX9_putCounters_214 ?_
                  refine lv_icmp_ge (tgt := 279) hx hb dX9_putCounters_217 (by decide) (fun c_135 => ?_) (fun c_135 => ?_)
                  · refine lv_aload_n hx hb dX9_putCounters_279 rfl (lv_at hl 0 rfl) ?_
                    refine va_get (D := gD g) (ci := 8) (v := .ref r0_44) (C := RX9) (T := TX9) (N := 6) hx hb hts inX9 hown hK hP k_3 hk_133 rfl 0 (by decide) (hts _ kw_1552) (fun _ h9 => h9) rfl dX9_putCounters_280 ?_
                    refine lv_iconst (v := 0) hx hb dX9_putCounters_283 (by decide) ?_
                    have hV9 : okv ws_123 7 9 (.int 0) := okv_i
                    refine va_put (D := gD g) (ci := 7) (v := .int 0) (ty := .int) (C := RX8) (T := TX8) (N := 15) hx hb hts inX8 tyX8 tyX8_ok nmX8 hown hK hP hD hS k_49 hk_134 rfl 9 (by decide) (hts _ kw_1570) (fun _ h9 => h9) rfl (by decide +kernel) rfl rfl (Nat.le_of_ble_eq_true rfl) dX9_putCounters_284 (fun H locs hP hD hS => ?_)
                    have f_136 : 0 ≤ (0 : Int32).toInt := (by have e0 : (0 : Int32).toInt = 0 := (by decide); have q_f_50 := f_50; have q_f_88 := f_88; omega)
                    have f_137 : (0 : Int32).toInt ≤ n5_49 := (by have e0 : (0 : Int32).toInt = 0 := (by decide); have q_f7_49 := f7_49; have q_f23_49 := f23_49; have q_f24_49 := f24_49; have q_f25_49 := f25_49; have q_f27_49 := f27_49; have q_f29_49 := f29_49; have q_f_50 := f_50; have q_f_88 := f_88; have q_f_136 := f_136; have q_f9_49 := f9_49; have q_f11_49 := f11_49; have q_f13_49 := f13_49; have q_f26_49 := f26_49; have g_c9_49 := i_rg c9_49; omega)
                    have hi_138 : invX8 g ws_123 r0_44 [.ref r0_134, .ref r1_134, .int c2_83, .ref r3_49, .int c4_134, .ref r5_49, .ref r6_49, .ref r7_49, .ref r8_49, .int 0, .int c10_134, .int c11_134, va_rf v12_134, va_rf v13_134, va_rf v14_134] := ⟨r0_134, (n0_134), r1_134, (n1_134), (c2_83), r3_49, (n3_49), (c4_134), r5_49, (n5_49), r6_49, (n6_49), r7_49, (n7_49), r8_49, (n8_49), (0), (c10_134), (c11_134), v12_134, v13_134, v14_134, rfl, a_r0_134, f1_134, a_r1_134, f3_134, a_r3_49, f5_134, a_r5_49, f7_134, a_r6_49, f9_134, a_r7_49, f11_134, a_r8_49, f13_134, o_v12_134, o_v13_134, o_v14_134, f17_134, f18_134, f19_134, f20_134, f21_134, f22_134, f23_134, f24_134, f25_134, f_136, f_137, f28_134, f29_134, trivial⟩
                    obtain ⟨ws_139, e_ws_139⟩ : ∃ z, z = ws_123.set k_49 (r0_44, .inr (7, [.ref r0_134, .ref r1_134, .int c2_83, .ref r3_49, .int c4_134, .ref r5_49, .ref r6_49, .ref r7_49, .ref r8_49, .int 0, .int c10_134, .int c11_134, va_rf v12_134, va_rf v13_134, va_rf v14_134])) := ⟨_, rfl⟩
                    have hP : va_P (gD g) cl0 ws_139 H := by rw [e_ws_139]; exact hP
                    have hD : va_D A ws_139 := by rw [e_ws_139]; exact hD
                    have E_140 : gE ws_123 ws_139 := gE_set e_ws_139 hk_134 (cw_o (fi := 9) (v := .int 0) rfl (by decide))
                    have hG : Good g ws_139 := Good_set (fi := 9) (v := .int 0) e_ws_139 hk_134 E_140 rfl hV9 hG (ivX8 hi_138)
                    have Fr_141 : gF [(7, 9)] [] (some r0_44) ws_123 ws_139 := gF_put (fi := 9) (v := .int 0) e_ws_139 hk_134 rfl (by decide)
                    have pp_142 := Fr_141.pp
                    have hkN := gset_self e_ws_139 hk_134
                    have hk_133 := gset_ob e_ws_139 hk_134 hk_133 (by decide)
                    have hk_134 := hkN
                    have o_h0 := E_140.1 _ _ o_h0
                    have o_b1 := E_140.1 _ _ o_b1
                    have a_r1_133 := E_140.1 _ _ a_r1_133
                    have o_r0_44 := E_140.1 _ _ o_r0_44
                    have a_r2_44 := E_140.1 _ _ a_r2_44
                    have a_r3_44 := E_140.1 _ _ a_r3_44
                    have a_r4_44 := E_140.1 _ _ a_r4_44
                    have a_r5_44 := E_140.1 _ _ a_r5_44
                    have a_r0_134 := E_140.1 _ _ a_r0_134
                    have a_r1_134 := E_140.1 _ _ a_r1_134
                    have o_v12_134 : ∀ b, v12_134 = some b → ∃ n, gI ws_139 b g.cB n ∧ n < 2147483648 := fun b h => (o_v12_134 b h).imp (fun n h => ⟨E_140.1 _ _ h.1, h.2⟩)
                    have o_v13_134 : ∀ b, v13_134 = some b → ∃ n, gJ ws_139 b g.cL n ∧ n < 2147483648 := fun b h => (o_v13_134 b h).imp (fun n h => ⟨E_140.1 _ _ h.1, h.2⟩)
                    have o_v14_134 : ∀ b, v14_134 = some b → ∃ n, gJ ws_139 b g.cL n ∧ n < 2147483648 := fun b h => (o_v14_134 b h).imp (fun n h => ⟨E_140.1 _ _ h.1, h.2⟩)
                    have a_r3_49 := E_140.1 _ _ a_r3_49
                    have a_r5_49 := E_140.1 _ _ a_r5_49
                    have a_r6_49 := E_140.1 _ _ a_r6_49
                    have a_r7_49 := E_140.1 _ _ a_r7_49
                    have a_r8_49 := E_140.1 _ _ a_r8_49
                    refine lv_iconst (v := 0) hx hb dX9_putCounters_287 (by decide) ?_
                    refine lv_istore (lv' := [(5, .int 0), (0, .ref h0), (1, .ref b1)]) hx hb dX9_putCounters_288 hl (by decide) rfl (fun ls hl => ?_)
                    have J_290 : ∀ (n9 : Nat) (v5_143 : Int32) (dc_290_5 : Nat) (ds_290_5 : Nat) (ws_145 : va_W) (H : Heap) (locs : List Loc) (ls : Array Slot), (2147483647 - v5_143.toInt).toNat = n9 → 0 ≤ v5_143.toInt → gE ws_139 ws_145 → gF [(7, 9)] [(7, 5), (7, 6), (7, 7), (7, 8)] none ws_139 ws_145 → Good g ws_145 → dc_290_5 + PC ws_145 ≤ PC ws + (12) → ds_290_5 + PS ws_145 ≤ PS ws + (9059) → va_P (gD g) cl0 ws_145 H → va_D A ws_145 → va_S A s.heap H locs → lv_has ls 8 [(0, .ref h0), (1, .ref b1), (5, .int v5_143)] → W p l e (headSpec (wt yX9_putCounters cX9_putCounters 8 none) ({ frames := 3, cells := PC ws + (12), slots := PS ws + (9059), locals := 56 })).room s m ([.ref h0, .ref b1, .ref b2, .int x3] : List Value).toArray below meth c H locs (dc_290_5) (ds_290_5) (MQ below (va_Qv (fun (u9 : va_W) => True) (gQ2 g [(7, 0), (7, 1), (7, 2), (7, 3), (7, 4), (7, 5), (7, 6), (7, 7), (7, 8), (7, 9), (7, 11), (8, 0), (8, 2), (8, 3), (8, 4), (8, 5)] [(7, 0), (7, 1), (7, 3), (7, 5), (7, 6), (7, 7), (7, 8), (8, 5)] none A ws s.heap (12) (9059)) A) ([.ref h0, .ref b1, .ref b2, .int x3] : List Value).toArray s (PC ws + (12)) (PS ws + (9059)) A) (F0 m 290 ls []) := by
                      intro n9
                      induction n9 using Nat.strongRecOn with
                      | ind n9 ih_290 =>
                        intro v5_143 dc_290_5 ds_290_5 ws_145 H locs ls hm9 iv_144 E_146 Fr_147 hG hc9 hs9 hP hD hS hl
                        subst hm9
                        have aa_148 := a_r1_133
                        have aa_149 := a_r2_44
                        have aa_150 := a_r3_44
                        have aa_151 := a_r4_44
                        have aa_152 := a_r5_44
                        have aa_153 := a_r0_134
                        have aa_154 := a_r1_134
                        have aa_155 := a_r3_49
                        have aa_156 := a_r5_49
                        have aa_157 := a_r6_49
                        have aa_158 := a_r7_49
                        have aa_159 := a_r8_49
                        have o_h0 := E_146.1 _ _ o_h0
                        have o_b1 := E_146.1 _ _ o_b1
                        refine lv_iload hx hb dX9_putCounters_290 (lv_at hl 2 rfl) ?_
                        refine lv_aload_n hx hb dX9_putCounters_292 rfl (lv_at hl 1 rfl) ?_
                        obtain ⟨fs9, hk_160, hq_160⟩ := ((gA.tr (gF.a (F' := [(7, 9)]) Fr_125 (fun _ h => absurd h List.not_mem_nil)) (gA.tr (gF.a (F' := [(7, 9)]) Fr_141 (fun _ h => h)) (gF.a (F' := [(7, 9)]) Fr_147 (fun _ h => h))))) _ _ _ hk_119
                        obtain ⟨r0_160, n0_160, r1_160, n1_160, c2_160, r3_160, n3_160, c4_160, r5_160, n5_160, r6_160, n6_160, r7_160, n7_160, r8_160, n8_160, c9_160, c10_160, c11_160, v12_160, v13_160, v14_160, rfl, a_r0_160, f1_160, a_r1_160, f3_160, a_r3_160, f5_160, a_r5_160, f7_160, a_r6_160, f9_160, a_r7_160, f11_160, a_r8_160, f13_160, o_v12_160, o_v13_160, o_v14_160, f17_160, f18_160, f19_160, f20_160, f21_160, f22_160, f23_160, f24_160, f25_160, f26_160, f27_160, f28_160, f29_160, -⟩ := (hG.1 _ _ _ _ hk_160).hX8 rfl
                        obtain rfl := fe_i (hq_160 2 (by decide))
                        obtain rfl := fe_r (hq_160 3 (by decide))
                        have hn9 := gI_n hD (((E_124.tr (E_140.tr E_146))).1 _ _ aa_128) a_r3_160
                        subst hn9
                        have a_r3_75 := a_r3_160
                        obtain rfl := fe_i (hq_160 4 (by decide))
                        obtain rfl := fe_r (hq_160 5 (by decide))
                        have hn9 := gI_n hD (((E_124.tr (E_140.tr E_146))).1 _ _ aa_129) a_r5_160
                        subst hn9
                        have a_r5_75 := a_r5_160
                        obtain rfl := fe_r (hq_160 6 (by decide))
                        have hn9 := gI_n hD (((E_124.tr (E_140.tr E_146))).1 _ _ aa_130) a_r6_160
                        subst hn9
                        have a_r6_75 := a_r6_160
                        obtain rfl := fe_r (hq_160 7 (by decide))
                        have hn9 := gI_n hD (((E_124.tr (E_140.tr E_146))).1 _ _ aa_131) a_r7_160
                        subst hn9
                        have a_r7_75 := a_r7_160
                        obtain rfl := fe_r (hq_160 8 (by decide))
                        have hn9 := gI_n hD (((E_124.tr (E_140.tr E_146))).1 _ _ aa_132) a_r8_160
                        subst hn9
                        have a_r8_75 := a_r8_160
                        refine va_get (D := gD g) (ci := 7) (v := .int c9_160) (C := RX8) (T := TX8) (N := 15) hx hb hts inX8 hown hK hP k_75 hk_160 rfl 9 (by decide) (hts _ kw_1570) (fun _ h9 => h9) rfl dX9_putCounters_293 ?_
                        refine lv_icmp_ge (tgt := 352) hx hb dX9_putCounters_296 (by decide) (fun c_161 => ?_) (fun c_161 => ?_)
                        · refine W_led (fun hLd => ?_)
                          have hcl : dc_290_5 + PC ws_145 ≤ PC ws + (12) := (by have e0 : (0 : Int32).toInt = 0 := (by decide); have q_f_50 := f_50; have q_f_88 := f_88; have q_f_136 := f_136; omega)
                          have hsl : ds_290_5 + PS ws_145 ≤ PS ws + (9059) := (by have e0 : (0 : Int32).toInt = 0 := (by decide); have q_f_50 := f_50; have q_f_88 := f_88; have q_f_136 := f_136; omega)
                          refine W.widen (k := PC ws + (12)) (n := PS ws + (9059)) (by omega) (by omega) ?_
                          exact W.vret hx hb hr (fun t9 ht9 hW9 => ⟨⟨ws_145, rfl, trivial, ⟨(E_11.tr (E_54.tr (E_61.tr (E_85.tr (E_92.tr (E_105.tr (E_124.tr (E_140.tr E_146)))))))), (gF.tr (gF.mo (F' := [(7, 0), (7, 1), (7, 2), (7, 3), (7, 4), (7, 5), (7, 6), (7, 7), (7, 8), (7, 9), (7, 11), (8, 0), (8, 2), (8, 3), (8, 4), (8, 5)]) (C' := [(7, 0), (7, 1), (7, 3), (7, 5), (7, 6), (7, 7), (7, 8), (8, 5)]) (S' := none) Fr_12 (by decide) (fun _ h => absurd h List.not_mem_nil) (Or.inr rfl)) (gF.tr (gF.mo (F' := [(7, 0), (7, 1), (7, 2), (7, 3), (7, 4), (7, 5), (7, 6), (7, 7), (7, 8), (7, 9), (7, 11), (8, 0), (8, 2), (8, 3), (8, 4), (8, 5)]) (C' := [(7, 0), (7, 1), (7, 3), (7, 5), (7, 6), (7, 7), (7, 8), (8, 5)]) (S' := none) Fr_55 (by decide) (fun _ h => absurd h List.not_mem_nil) (Or.inl rfl)) (gF.tr (gF.mo (F' := [(7, 0), (7, 1), (7, 2), (7, 3), (7, 4), (7, 5), (7, 6), (7, 7), (7, 8), (7, 9), (7, 11), (8, 0), (8, 2), (8, 3), (8, 4), (8, 5)]) (C' := [(7, 0), (7, 1), (7, 3), (7, 5), (7, 6), (7, 7), (7, 8), (8, 5)]) (S' := none) Fr_62 (by decide) (by decide) (Or.inr rfl)) (gF.tr (gF.mo (F' := [(7, 0), (7, 1), (7, 2), (7, 3), (7, 4), (7, 5), (7, 6), (7, 7), (7, 8), (7, 9), (7, 11), (8, 0), (8, 2), (8, 3), (8, 4), (8, 5)]) (C' := [(7, 0), (7, 1), (7, 3), (7, 5), (7, 6), (7, 7), (7, 8), (8, 5)]) (S' := none) Fr_86 (fun _ h => absurd h List.not_mem_nil) (by decide) (Or.inr rfl)) (gF.tr (gF.mo (F' := [(7, 0), (7, 1), (7, 2), (7, 3), (7, 4), (7, 5), (7, 6), (7, 7), (7, 8), (7, 9), (7, 11), (8, 0), (8, 2), (8, 3), (8, 4), (8, 5)]) (C' := [(7, 0), (7, 1), (7, 3), (7, 5), (7, 6), (7, 7), (7, 8), (8, 5)]) (S' := none) Fr_93 (by decide) (fun _ h => absurd h List.not_mem_nil) (Or.inl rfl)) (gF.tr (gF.mo (F' := [(7, 0), (7, 1), (7, 2), (7, 3), (7, 4), (7, 5), (7, 6), (7, 7), (7, 8), (7, 9), (7, 11), (8, 0), (8, 2), (8, 3), (8, 4), (8, 5)]) (C' := [(7, 0), (7, 1), (7, 3), (7, 5), (7, 6), (7, 7), (7, 8), (8, 5)]) (S' := none) Fr_106 (by decide) (by decide) (Or.inr rfl)) (gF.tr (gF.mo (F' := [(7, 0), (7, 1), (7, 2), (7, 3), (7, 4), (7, 5), (7, 6), (7, 7), (7, 8), (7, 9), (7, 11), (8, 0), (8, 2), (8, 3), (8, 4), (8, 5)]) (C' := [(7, 0), (7, 1), (7, 3), (7, 5), (7, 6), (7, 7), (7, 8), (8, 5)]) (S' := none) Fr_125 (fun _ h => absurd h List.not_mem_nil) (by decide) (Or.inr rfl)) (gF.tr (gF.mo (F' := [(7, 0), (7, 1), (7, 2), (7, 3), (7, 4), (7, 5), (7, 6), (7, 7), (7, 8), (7, 9), (7, 11), (8, 0), (8, 2), (8, 3), (8, 4), (8, 5)]) (C' := [(7, 0), (7, 1), (7, 3), (7, 5), (7, 6), (7, 7), (7, 8), (8, 5)]) (S' := none) Fr_141 (by decide) (fun _ h => absurd h List.not_mem_nil) (Or.inl rfl)) (gF.mo (F' := [(7, 0), (7, 1), (7, 2), (7, 3), (7, 4), (7, 5), (7, 6), (7, 7), (7, 8), (7, 9), (7, 11), (8, 0), (8, 2), (8, 3), (8, 4), (8, 5)]) (C' := [(7, 0), (7, 1), (7, 3), (7, 5), (7, 6), (7, 7), (7, 8), (8, 5)]) (S' := none) Fr_147 (by decide) (by decide) (Or.inr rfl)))))))))), hG, by rw [ht9]; exact hP, hD, _, _, by rw [ht9]; exact hLd, hcl, hsl⟩⟩, hS.F ht9⟩) hS.2.2 dX9_putCounters_352
                        · refine lv_aload_n hx hb dX9_putCounters_299 rfl (lv_at hl 0 rfl) ?_
                          obtain ⟨fs9, hk_162, hq_162⟩ := ((gF.a (F' := [(7, 9)]) Fr_147 (fun _ h => h))) _ _ _ hk_133
                          obtain ⟨r0_162, r1_162, n1_162, r2_162, n2_162, r3_162, n3_162, r4_162, n4_162, r5_162, n5_162, rfl, o_r0_162, a_r1_162, f2_162, a_r2_162, f4_162, a_r3_162, f6_162, a_r4_162, f8_162, a_r5_162, f10_162, f11_162, -⟩ := (hG.1 _ _ _ _ hk_162).hX9 rfl
                          obtain rfl := fe_r (hq_162 0 (by decide))
                          have o_r0_44 := o_r0_162
                          obtain rfl := fe_r (hq_162 2 (by decide))
                          have hn9 := gI_n hD ((E_146).1 _ _ aa_149) a_r2_162
                          subst hn9
                          have a_r2_44 := a_r2_162
                          obtain rfl := fe_r (hq_162 3 (by decide))
                          have hn9 := gI_n hD ((E_146).1 _ _ aa_150) a_r3_162
                          subst hn9
                          have a_r3_44 := a_r3_162
                          obtain rfl := fe_r (hq_162 4 (by decide))
                          have hn9 := gI_n hD ((E_146).1 _ _ aa_151) a_r4_162
                          subst hn9
                          have a_r4_44 := a_r4_162
                          obtain rfl := fe_r (hq_162 5 (by decide))
                          have hn9 := gI_n hD ((E_146).1 _ _ aa_152) a_r5_162
                          subst hn9
                          have a_r5_44 := a_r5_162
                          refine va_get (D := gD g) (ci := 8) (v := .ref r0_44) (C := RX9) (T := TX9) (N := 6) hx hb hts inX9 hown hK hP k_3 hk_162 rfl 0 (by decide) (hts _ kw_1552) (fun _ h9 => h9) rfl dX9_putCounters_300 ?_
                          refine lv_aload_n hx hb dX9_putCounters_303 rfl (lv_at hl 0 rfl) ?_
                          refine lv_aload_n hx hb dX9_putCounters_304 rfl (lv_at hl 1 rfl) ?_
                          refine va_get (D := gD g) (ci := 7) (v := .ref r5_75) (C := RX8) (T := TX8) (N := 15) hx hb hts inX8 hown hK hP k_75 hk_160 rfl 5 (by decide) (hts _ kw_1571) (fun _ h9 => h9) rfl dX9_putCounters_305 ?_
                          refine lv_iload hx hb dX9_putCounters_308 (lv_at hl 2 rfl) ?_
                          obtain ⟨k_163, f_163, hk_163⟩ := gI_of a_r5_75
                          refine va_iald hx hb hK hP k_163 1 hk_163 rfl (i_in2 (by have e0 : (0 : Int32).toInt = 0 := (by decide); have q_f_50 := f_50; have q_f7_75 := f7_75; have q_f23_75 := f23_75; have q_f24_75 := f24_75; have q_f25_75 := f25_75; have q_f27_75 := f27_75; have q_f29_75 := f29_75; have q_f_88 := f_88; have q_f_136 := f_136; have q_iv_144 := iv_144; have q_f27_160 := f27_160; have q_c_161 := i_nle c_161; have q_f9_75 := f9_75; have q_f11_75 := f11_75; have q_f13_75 := f13_75; have q_f26_75 := f26_75; have q_f26_160 := f26_160; have g_c9_160 := i_rg c9_160; have g_c9_75 := i_rg c9_75; have g_v5_143 := i_rg v5_143; omega)) dX9_putCounters_310 ?_
                          refine lv_topi (fun z_164 ez_164 => ?_)
                          have hFc := gfree hD hS hA
                          refine va_calli (va_runV (As := [.int z_164]) (rest := [.ref r0_44]) ⟨hx, hb, hml, hown, hts⟩ (m_X9_placeOf l g H.size ws_145 h0 (z_164) hG o_h0 (gP_of hD hk_162 (fun p90 q90 e90 g90 => by cases e90; have z90 := gI_n hD a_r2_44 g90; subst z90; exact (by have e0 : (0 : Int32).toInt = 0 := (by decide); have q_f4_44 := f4_44; have q_kq_45 := kq_45; have q_f_50 := f_50; have q_f_88 := f_88; have q_f_136 := f_136; omega))) (gP_of hD hk_162 (fun p90 q90 e90 g90 => by cases e90; have z90 := gI_n hD a_r3_44 g90; subst z90; exact (by have e0 : (0 : Int32).toInt = 0 := (by decide); have q_f6_44 := f6_44; have q_kq_46 := kq_46; have q_f_50 := f_50; have q_f_88 := f_88; have q_f_136 := f_136; omega))) (gP_of hD hk_162 (fun p90 q90 e90 g90 => by cases e90; have z90 := gI_n hD a_r4_44 g90; subst z90; exact (by have e0 : (0 : Int32).toInt = 0 := (by decide); have q_f8_44 := f8_44; have q_kq_47 := kq_47; have q_f_50 := f_50; have q_f_88 := f_88; have q_f_136 := f_136; omega))) (gP_of hD hk_162 (fun p90 q90 e90 g90 => by cases e90; have z90 := gI_n hD a_r5_44 g90; subst z90; exact (by have e0 : (0 : Int32).toInt = 0 := (by decide); have e1 : (1 : Int32).toInt = 1 := (by decide); have q_f10_44 := f10_44; have q_kq_48 := kq_48; have q_f_50 := f_50; have q_z_80 := i_len ez_80 f10_78; have q_f_88 := f_88; have q_f_136 := f_136; obtain ⟨u_z_81, q_z_81⟩ := i_sub ez_81; have q_z_82 := i_min ez_82; have g_c2_75 := i_rg c2_75; have g_z_80 := i_rg z_80; have g_z_81 := i_rg z_81; have g_z_82 := i_rg z_82; omega)))) (cwV 1 hts (gd_V kw_1708 kw_1693 kw_1694 kw_404 kw_1692) rfl rfl rfl (by decide +kernel) ⟨Nat.le_of_ble_eq_true rfl, Nat.le_of_ble_eq_true rfl⟩) ⟨gblind, va_recv hK hP (ci := 8) (q0 := k_3) rfl hk_162, fun U hU hW9 => gmk hU hW9 hP hK hD hex hE hS hFc⟩ rfl rfl hl.1 rfl (lv_room (Nat.le_of_ble_eq_true rfl)) dX9_putCounters_311 ⟨(show dc_290_5 + 0 ≤ PC ws + (12) from (by have e0 : (0 : Int32).toInt = 0 := (by decide); have q_f_50 := f_50; have q_f_88 := f_88; have q_f_136 := f_136; omega)), (show ds_290_5 + 0 ≤ PS ws + (9059) from (by have e0 : (0 : Int32).toInt = 0 := (by decide); have q_f_50 := f_50; have q_f_88 := f_88; have q_f_136 := f_136; omega))⟩) hS (fun q _ h => hFc q h) hFc (fun r_165 u9 t9 H1 locs ht9 hvm9 hw9 hB9 hz9 hk9 hS => ?_)
                          have hP : va_P (gD g) cl0 ws_145 H1 := by rw [← ht9]; exact hB9.1
                          clear hB9 hz9 hk9 hvm9 ht9 hw9
                          generalize H1 = H at hP hS ⊢
                          refine lv_aload_n hx hb dX9_putCounters_314 rfl (lv_at hl 0 rfl) ?_
                          refine lv_aload_n hx hb dX9_putCounters_315 rfl (lv_at hl 1 rfl) ?_
                          refine va_get (D := gD g) (ci := 7) (v := .ref r6_75) (C := RX8) (T := TX8) (N := 15) hx hb hts inX8 hown hK hP k_75 hk_160 rfl 6 (by decide) (hts _ kw_1572) (fun _ h9 => h9) rfl dX9_putCounters_316 ?_
                          refine lv_iload hx hb dX9_putCounters_319 (lv_at hl 2 rfl) ?_
                          obtain ⟨k_166, f_166, hk_166⟩ := gI_of a_r6_75
                          refine va_iald hx hb hK hP k_166 1 hk_166 rfl (i_in2 (by have e0 : (0 : Int32).toInt = 0 := (by decide); have q_f_50 := f_50; have q_f9_75 := f9_75; have q_f23_75 := f23_75; have q_f_88 := f_88; have q_f_136 := f_136; have q_iv_144 := iv_144; have q_c_161 := i_nle c_161; have q_f7_75 := f7_75; have q_f24_75 := f24_75; have q_f25_75 := f25_75; have q_f27_75 := f27_75; have q_f29_75 := f29_75; have q_f26_160 := f26_160; have q_f27_160 := f27_160; have q_f11_75 := f11_75; have q_f13_75 := f13_75; have q_f26_75 := f26_75; have g_c9_160 := i_rg c9_160; have g_c9_75 := i_rg c9_75; have g_v5_143 := i_rg v5_143; omega)) dX9_putCounters_321 ?_
                          refine lv_topi (fun z_167 ez_167 => ?_)
                          have hFc := gfree hD hS hA
                          refine va_calli (va_runV (As := [.int z_167]) (rest := [.int r_165, .ref r0_44]) ⟨hx, hb, hml, hown, hts⟩ (m_X9_placeOf l g H.size ws_145 h0 (z_167) hG o_h0 (gP_of hD hk_162 (fun p90 q90 e90 g90 => by cases e90; have z90 := gI_n hD a_r2_44 g90; subst z90; exact (by have e0 : (0 : Int32).toInt = 0 := (by decide); have q_f4_44 := f4_44; have q_kq_45 := kq_45; have q_f_50 := f_50; have q_f_88 := f_88; have q_f_136 := f_136; omega))) (gP_of hD hk_162 (fun p90 q90 e90 g90 => by cases e90; have z90 := gI_n hD a_r3_44 g90; subst z90; exact (by have e0 : (0 : Int32).toInt = 0 := (by decide); have q_f6_44 := f6_44; have q_kq_46 := kq_46; have q_f_50 := f_50; have q_f_88 := f_88; have q_f_136 := f_136; omega))) (gP_of hD hk_162 (fun p90 q90 e90 g90 => by cases e90; have z90 := gI_n hD a_r4_44 g90; subst z90; exact (by have e0 : (0 : Int32).toInt = 0 := (by decide); have q_f8_44 := f8_44; have q_kq_47 := kq_47; have q_f_50 := f_50; have q_f_88 := f_88; have q_f_136 := f_136; omega))) (gP_of hD hk_162 (fun p90 q90 e90 g90 => by cases e90; have z90 := gI_n hD a_r5_44 g90; subst z90; exact (by have e0 : (0 : Int32).toInt = 0 := (by decide); have e1 : (1 : Int32).toInt = 1 := (by decide); have q_f10_44 := f10_44; have q_kq_48 := kq_48; have q_f_50 := f_50; have q_z_80 := i_len ez_80 f10_78; have q_f_88 := f_88; have q_f_136 := f_136; obtain ⟨u_z_81, q_z_81⟩ := i_sub ez_81; have q_z_82 := i_min ez_82; have g_c2_75 := i_rg c2_75; have g_z_80 := i_rg z_80; have g_z_81 := i_rg z_81; have g_z_82 := i_rg z_82; omega)))) (cwV 1 hts (gd_V kw_1708 kw_1693 kw_1694 kw_404 kw_1692) rfl rfl rfl (by decide +kernel) ⟨Nat.le_of_ble_eq_true rfl, Nat.le_of_ble_eq_true rfl⟩) ⟨gblind, va_recv hK hP (ci := 8) (q0 := k_3) rfl hk_162, fun U hU hW9 => gmk hU hW9 hP hK hD hex hE hS hFc⟩ rfl rfl hl.1 rfl (lv_room (Nat.le_of_ble_eq_true rfl)) dX9_putCounters_322 ⟨(show dc_290_5 + 0 ≤ PC ws + (12) from (by have e0 : (0 : Int32).toInt = 0 := (by decide); have q_f_50 := f_50; have q_f_88 := f_88; have q_f_136 := f_136; omega)), (show ds_290_5 + 0 ≤ PS ws + (9059) from (by have e0 : (0 : Int32).toInt = 0 := (by decide); have q_f_50 := f_50; have q_f_88 := f_88; have q_f_136 := f_136; omega))⟩) hS (fun q _ h => hFc q h) hFc (fun r_168 u9 t9 H1 locs ht9 hvm9 hw9 hB9 hz9 hk9 hS => ?_)
                          have hP : va_P (gD g) cl0 ws_145 H1 := by rw [← ht9]; exact hB9.1
                          clear hB9 hz9 hk9 hvm9 ht9 hw9
                          generalize H1 = H at hP hS ⊢
                          refine lv_aload_n hx hb dX9_putCounters_325 rfl (lv_at hl 0 rfl) ?_
                          refine lv_aload_n hx hb dX9_putCounters_326 rfl (lv_at hl 1 rfl) ?_
                          refine va_get (D := gD g) (ci := 7) (v := .ref r7_75) (C := RX8) (T := TX8) (N := 15) hx hb hts inX8 hown hK hP k_75 hk_160 rfl 7 (by decide) (hts _ kw_1573) (fun _ h9 => h9) rfl dX9_putCounters_327 ?_
                          refine lv_iload hx hb dX9_putCounters_330 (lv_at hl 2 rfl) ?_
                          obtain ⟨k_169, f_169, hk_169⟩ := gI_of a_r7_75
                          refine va_iald hx hb hK hP k_169 1 hk_169 rfl (i_in2 (by have e0 : (0 : Int32).toInt = 0 := (by decide); have q_f_50 := f_50; have q_f11_75 := f11_75; have q_f24_75 := f24_75; have q_f_88 := f_88; have q_f_136 := f_136; have q_iv_144 := iv_144; have q_c_161 := i_nle c_161; have q_f7_75 := f7_75; have q_f23_75 := f23_75; have q_f25_75 := f25_75; have q_f27_75 := f27_75; have q_f29_75 := f29_75; have q_f26_160 := f26_160; have q_f27_160 := f27_160; have q_f9_75 := f9_75; have q_f13_75 := f13_75; have q_f26_75 := f26_75; have g_c9_160 := i_rg c9_160; have g_c9_75 := i_rg c9_75; have g_v5_143 := i_rg v5_143; omega)) dX9_putCounters_332 ?_
                          refine lv_topi (fun z_170 ez_170 => ?_)
                          have hFc := gfree hD hS hA
                          refine va_calli (va_runV (As := [.int z_170]) (rest := [.int r_168, .int r_165, .ref r0_44]) ⟨hx, hb, hml, hown, hts⟩ (m_X9_placeOf l g H.size ws_145 h0 (z_170) hG o_h0 (gP_of hD hk_162 (fun p90 q90 e90 g90 => by cases e90; have z90 := gI_n hD a_r2_44 g90; subst z90; exact (by have e0 : (0 : Int32).toInt = 0 := (by decide); have q_f4_44 := f4_44; have q_kq_45 := kq_45; have q_f_50 := f_50; have q_f_88 := f_88; have q_f_136 := f_136; omega))) (gP_of hD hk_162 (fun p90 q90 e90 g90 => by cases e90; have z90 := gI_n hD a_r3_44 g90; subst z90; exact (by have e0 : (0 : Int32).toInt = 0 := (by decide); have q_f6_44 := f6_44; have q_kq_46 := kq_46; have q_f_50 := f_50; have q_f_88 := f_88; have q_f_136 := f_136; omega))) (gP_of hD hk_162 (fun p90 q90 e90 g90 => by cases e90; have z90 := gI_n hD a_r4_44 g90; subst z90; exact (by have e0 : (0 : Int32).toInt = 0 := (by decide); have q_f8_44 := f8_44; have q_kq_47 := kq_47; have q_f_50 := f_50; have q_f_88 := f_88; have q_f_136 := f_136; omega))) (gP_of hD hk_162 (fun p90 q90 e90 g90 => by cases e90; have z90 := gI_n hD a_r5_44 g90; subst z90; exact (by have e0 : (0 : Int32).toInt = 0 := (by decide); have e1 : (1 : Int32).toInt = 1 := (by decide); have q_f10_44 := f10_44; have q_kq_48 := kq_48; have q_f_50 := f_50; have q_z_80 := i_len ez_80 f10_78; have q_f_88 := f_88; have q_f_136 := f_136; obtain ⟨u_z_81, q_z_81⟩ := i_sub ez_81; have q_z_82 := i_min ez_82; have g_c2_75 := i_rg c2_75; have g_z_80 := i_rg z_80; have g_z_81 := i_rg z_81; have g_z_82 := i_rg z_82; omega)))) (cwV 1 hts (gd_V kw_1708 kw_1693 kw_1694 kw_404 kw_1692) rfl rfl rfl (by decide +kernel) ⟨Nat.le_of_ble_eq_true rfl, Nat.le_of_ble_eq_true rfl⟩) ⟨gblind, va_recv hK hP (ci := 8) (q0 := k_3) rfl hk_162, fun U hU hW9 => gmk hU hW9 hP hK hD hex hE hS hFc⟩ rfl rfl hl.1 rfl (lv_room (Nat.le_of_ble_eq_true rfl)) dX9_putCounters_333 ⟨(show dc_290_5 + 0 ≤ PC ws + (12) from (by have e0 : (0 : Int32).toInt = 0 := (by decide); have q_f_50 := f_50; have q_f_88 := f_88; have q_f_136 := f_136; omega)), (show ds_290_5 + 0 ≤ PS ws + (9059) from (by have e0 : (0 : Int32).toInt = 0 := (by decide); have q_f_50 := f_50; have q_f_88 := f_88; have q_f_136 := f_136; omega))⟩) hS (fun q _ h => hFc q h) hFc (fun r_171 u9 t9 H1 locs ht9 hvm9 hw9 hB9 hz9 hk9 hS => ?_)
                          have hP : va_P (gD g) cl0 ws_145 H1 := by rw [← ht9]; exact hB9.1
                          clear hB9 hz9 hk9 hvm9 ht9 hw9
                          generalize H1 = H at hP hS ⊢
                          refine lv_aload_n hx hb dX9_putCounters_336 rfl (lv_at hl 1 rfl) ?_
                          refine va_get (D := gD g) (ci := 7) (v := .ref r8_75) (C := RX8) (T := TX8) (N := 15) hx hb hts inX8 hown hK hP k_75 hk_160 rfl 8 (by decide) (hts _ kw_1709) (fun _ h9 => h9) rfl dX9_putCounters_337 ?_
                          refine lv_iload hx hb dX9_putCounters_340 (lv_at hl 2 rfl) ?_
                          obtain ⟨k_172, f_172, hk_172⟩ := gI_of a_r8_75
                          refine va_iald hx hb hK hP k_172 1 hk_172 rfl (i_in2 (by have e0 : (0 : Int32).toInt = 0 := (by decide); have q_f_50 := f_50; have q_f13_75 := f13_75; have q_f25_75 := f25_75; have q_f_88 := f_88; have q_f_136 := f_136; have q_iv_144 := iv_144; have q_c_161 := i_nle c_161; have q_f7_75 := f7_75; have q_f23_75 := f23_75; have q_f24_75 := f24_75; have q_f27_75 := f27_75; have q_f29_75 := f29_75; have q_f26_160 := f26_160; have q_f27_160 := f27_160; have q_f9_75 := f9_75; have q_f11_75 := f11_75; have q_f26_75 := f26_75; have g_c9_160 := i_rg c9_160; have g_c9_75 := i_rg c9_75; have g_v5_143 := i_rg v5_143; omega)) dX9_putCounters_342 ?_
                          refine lv_topi (fun z_173 ez_173 => ?_)
                          have hFc := gfree hD hS hA
                          obtain ⟨k_174, fs_174, hk_174⟩ := gC_of o_r0_44
                          refine va_callv (va_runV (As := [.int r_165, .int r_168, .int r_171, .int z_173]) (rest := []) ⟨hx, hb, hml, hown, hts⟩ (m_X8_addCatch l g H.size ws_145 r0_44 (r_165) (r_168) (r_171) (z_173) hG o_r0_44) (cwV 4 hts (gd_V kw_1710 kw_1463 kw_1464 kw_782 kw_1462) rfl rfl rfl (by decide +kernel) ⟨Nat.le_of_ble_eq_true rfl, Nat.le_of_ble_eq_true rfl⟩) ⟨gblind, va_recv hK hP (ci := 7) (q0 := k_174) rfl hk_174, fun U hU hW9 => gmk hU hW9 hP hK hD hex hE hS hFc⟩ rfl rfl hl.1 rfl (lv_room (Nat.le_of_ble_eq_true rfl)) dX9_putCounters_343 ⟨(show dc_290_5 + 0 ≤ PC ws + (12) from (by have e0 : (0 : Int32).toInt = 0 := (by decide); have q_f_50 := f_50; have q_f_88 := f_88; have q_f_136 := f_136; omega)), (show ds_290_5 + 0 ≤ PS ws + (9059) from (by have e0 : (0 : Int32).toInt = 0 := (by decide); have q_f_50 := f_50; have q_f_88 := f_88; have q_f_136 := f_136; omega))⟩) hS (fun q _ h => hFc q h) hFc (fun  ws_175 t9 H1 locs ht9 hvm9 hw9 hB9 hz9 hk9 hS => ?_)
                          obtain ⟨E_176, Fr_177, hG, hP1, hD1⟩ := hB9
                          have hP : va_P (gD g) cl0 ws_175 H1 := by rw [← ht9]; exact hP1
                          have hD : va_D A ws_175 := hD1.weaken (fun _ _ _ h => hFc _ h)
                          clear hP1 hD1 hz9 hk9 hvm9 ht9 hw9
                          generalize H1 = H at hP hS ⊢
                          have aa_180 := a_r0_160
                          have aa_181 := a_r1_160
                          have aa_182 := a_r3_75
                          have aa_183 := a_r5_75
                          have aa_184 := a_r6_75
                          have aa_185 := a_r7_75
                          have aa_186 := a_r8_75
                          have aa_187 := a_r1_162
                          have aa_188 := a_r2_44
                          have aa_189 := a_r3_44
                          have aa_190 := a_r4_44
                          have aa_191 := a_r5_44
                          have o_h0 := E_176.1 _ _ o_h0
                          have o_b1 := E_176.1 _ _ o_b1
                          have pp_192 := Fr_177.pp
                          obtain ⟨z_193, ez_193⟩ : ∃ z : Int32, v5_143 + Int32.ofInt 1 = z := ⟨_, rfl⟩
                          refine lv_iinc (v := z_193) (lv' := [(5, .int z_193), (0, .ref h0), (1, .ref b1)]) hx hb dX9_putCounters_346 hl (k := 2) rfl ez_193 (by decide) rfl (fun ls hl => ?_)
                          refine lv_goto (tgt := 290) hx hb dX9_putCounters_349 (by decide) ?_
                          exact ih_290 _ (by have e0 : (0 : Int32).toInt = 0 := (by decide); have q_f_50 := f_50; have q_f_88 := f_88; have q_f_136 := f_136; obtain ⟨u_z_193, q_z_193⟩ := i_iz ez_193 (by decide) (by decide); have q_iv_144 := iv_144; have q_c_161 := i_nle c_161; have q_f26_160 := f26_160; have q_f27_160 := f27_160; have g_c9_160 := i_rg c9_160; have g_v5_143 := i_rg v5_143; have g_z_193 := i_rg z_193; omega) (z_193) (dc_290_5) (ds_290_5) ws_175 H locs ls rfl (by have e0 : (0 : Int32).toInt = 0 := (by decide); have q_f_50 := f_50; have q_f_88 := f_88; have q_f_136 := f_136; obtain ⟨u_z_193, q_z_193⟩ := i_iz ez_193 (by decide) (by decide); have q_iv_144 := iv_144; have q_c_161 := i_nle c_161; have q_f26_160 := f26_160; have q_f27_160 := f27_160; have g_c9_160 := i_rg c9_160; have g_v5_143 := i_rg v5_143; have g_z_193 := i_rg z_193; omega) ((E_146.tr E_176)) ((gF.tr Fr_147 (gF.mo (F' := [(7, 9)]) (C' := [(7, 5), (7, 6), (7, 7), (7, 8)]) (S' := none) Fr_177 (fun _ h => h) (fun _ h => h) (Or.inl rfl)))) hG (by have e0 : (0 : Int32).toInt = 0 := (by decide); have q_f_50 := f_50; have q_f_88 := f_88; have q_f_136 := f_136; omega) (by have e0 : (0 : Int32).toInt = 0 := (by decide); have q_f_50 := f_50; have q_f_88 := f_88; have q_f_136 := f_136; omega) hP hD hS (lv_sub hl [1, 2, 0] rfl)
                    exact J_290 _ (0) (dc_208_4) (ds_208_4) ws_139 H locs ls rfl (by have e0 : (0 : Int32).toInt = 0 := (by decide); have q_f_50 := f_50; have q_f_88 := f_88; have q_f_136 := f_136; omega) (gE.rf) (gF.rf) hG (by have e0 : (0 : Int32).toInt = 0 := (by decide); have q_f_50 := f_50; have q_f_88 := f_88; have q_f_136 := f_136; omega) (by have e0 : (0 : Int32).toInt = 0 := (by decide); have q_f_50 := f_50; have q_f_88 := f_88; have q_f_136 := f_136; omega) hP hD hS (lv_sub hl [1, 2, 0] rfl)
                  · refine lv_aload_n hx hb dX9_putCounters_220 rfl (lv_at hl 0 rfl) ?_
                    refine va_get (D := gD g) (ci := 8) (v := .ref r0_44) (C := RX9) (T := TX9) (N := 6) hx hb hts inX9 hown hK hP k_3 hk_133 rfl 0 (by decide) (hts _ kw_1552) (fun _ h9 => h9) rfl dX9_putCounters_221 ?_
                    refine lv_iload hx hb dX9_putCounters_224 (lv_at hl 2 rfl) ?_
                    have hFc := gfree hD hS hA
                    refine va_calli (va_runV (As := [.int v5_121]) (rest := []) ⟨hx, hb, hml, hown, hts⟩ (m_X8_targetCount l g H.size ws_123 r0_44 (v5_121) hG o_r0_44) (cwV 1 hts (gd_V kw_1567 kw_1541 kw_1542 kw_782 kw_1540) rfl rfl rfl (by decide +kernel) ⟨Nat.le_of_ble_eq_true rfl, Nat.le_of_ble_eq_true rfl⟩) ⟨gblind, va_recv hK hP (ci := 7) (q0 := k_49) rfl hk_134, fun U hU hW9 => gmk hU hW9 hP hK hD hex hE hS hFc⟩ rfl rfl hl.1 rfl (lv_room (Nat.le_of_ble_eq_true rfl)) dX9_putCounters_226 ⟨(show dc_208_4 + 0 ≤ PC ws + (12) from (by have e0 : (0 : Int32).toInt = 0 := (by decide); have q_f_50 := f_50; have q_f_88 := f_88; omega)), (show ds_208_4 + 0 ≤ PS ws + (9059) from (by have e0 : (0 : Int32).toInt = 0 := (by decide); have q_f_50 := f_50; have q_f_88 := f_88; omega))⟩) hS (fun q _ h => hFc q h) hFc (fun r_194 u9 t9 H1 locs ht9 hvm9 hw9 hB9 hz9 hk9 hS => ?_)
                    have hP : va_P (gD g) cl0 ws_123 H1 := by rw [← ht9]; exact hB9.1
                    clear hB9 hz9 hk9 hvm9 ht9 hw9
                    generalize H1 = H at hP hS ⊢
                    refine lv_istore (lv' := [(6, .int r_194), (0, .ref h0), (1, .ref b1), (5, .int v5_121)]) hx hb dX9_putCounters_229 hl (by decide) rfl (fun ls hl => ?_)
                    refine lv_iconst (v := 0) hx hb dX9_putCounters_231 (by decide) ?_
                    refine lv_istore (lv' := [(7, .int 0), (6, .int r_194), (0, .ref h0), (1, .ref b1), (5, .int v5_121)]) hx hb dX9_putCounters_232 hl (by decide) rfl (fun ls hl => ?_)
                    have J_234 : ∀ (n9 : Nat) (v7_195 : Int32) (dc_234_6 : Nat) (ds_234_6 : Nat) (ws_197 : va_W) (H : Heap) (locs : List Loc) (ls : Array Slot), (2147483647 - v7_195.toInt).toNat = n9 → 0 ≤ v7_195.toInt → gE ws_123 ws_197 → gF [] [(7, 0), (7, 1), (7, 3)] none ws_123 ws_197 → Good g ws_197 → dc_234_6 + PC ws_197 ≤ PC ws + (12) → ds_234_6 + PS ws_197 ≤ PS ws + (9059) → va_P (gD g) cl0 ws_197 H → va_D A ws_197 → va_S A s.heap H locs → lv_has ls 8 [(0, .ref h0), (1, .ref b1), (5, .int v5_121), (6, .int r_194), (7, .int v7_195)] → W p l e (headSpec (wt yX9_putCounters cX9_putCounters 8 none) ({ frames := 3, cells := PC ws + (12), slots := PS ws + (9059), locals := 56 })).room s m ([.ref h0, .ref b1, .ref b2, .int x3] : List Value).toArray below meth c H locs (dc_234_6) (ds_234_6) (MQ below (va_Qv (fun (u9 : va_W) => True) (gQ2 g [(7, 0), (7, 1), (7, 2), (7, 3), (7, 4), (7, 5), (7, 6), (7, 7), (7, 8), (7, 9), (7, 11), (8, 0), (8, 2), (8, 3), (8, 4), (8, 5)] [(7, 0), (7, 1), (7, 3), (7, 5), (7, 6), (7, 7), (7, 8), (8, 5)] none A ws s.heap (12) (9059)) A) ([.ref h0, .ref b1, .ref b2, .int x3] : List Value).toArray s (PC ws + (12)) (PS ws + (9059)) A) (F0 m 234 ls []) := by
                      intro n9
                      induction n9 using Nat.strongRecOn with
                      | ind n9 ih_234 =>
                        intro v7_195 dc_234_6 ds_234_6 ws_197 H locs ls hm9 iv_196 E_198 Fr_199 hG hc9 hs9 hP hD hS hl
                        subst hm9
                        have aa_200 := a_r1_133
                        have aa_201 := a_r2_44
                        have aa_202 := a_r3_44
                        have aa_203 := a_r4_44
                        have aa_204 := a_r5_44
                        have aa_205 := a_r0_134
                        have aa_206 := a_r1_134
                        have aa_207 := a_r3_49
                        have aa_208 := a_r5_49
                        have aa_209 := a_r6_49
                        have aa_210 := a_r7_49
                        have aa_211 := a_r8_49
                        have o_h0 := E_198.1 _ _ o_h0
                        have o_b1 := E_198.1 _ _ o_b1
                        refine lv_iload hx hb dX9_putCounters_234 (lv_at hl 4 rfl) ?_
                        refine lv_iload hx hb dX9_putCounters_236 (lv_at hl 3 rfl) ?_
                        refine lv_icmp_ge (tgt := 273) hx hb dX9_putCounters_238 (by decide) (fun c_212 => ?_) (fun c_212 => ?_)
                        · obtain ⟨z_213, ez_213⟩ : ∃ z : Int32, v5_121 + Int32.ofInt 1 = z := ⟨_, rfl⟩
                          refine lv_iinc (v := z_213) (lv' := [(5, .int z_213), (0, .ref h0), (1, .ref b1), (6, .int r_194), (7, .int v7_195)]) hx hb dX9_putCounters_273 hl (k := 2) rfl ez_213 (by decide) rfl (fun ls hl => ?_)
                          refine lv_goto (tgt := 208) hx hb dX9_putCounters_276 (by decide) ?_
                          exact ih_208 _ (by have e0 : (0 : Int32).toInt = 0 := (by decide); have q_f_50 := f_50; have q_f_88 := f_88; obtain ⟨u_z_213, q_z_213⟩ := i_iz ez_213 (by decide) (by decide); have q_iv_122 := iv_122; have q_c_135 := i_nle c_135; have q_f19_83 := f19_83; have q_f20_83 := f20_83; have q_f20_134 := f20_134; have g_c2_83 := i_rg c2_83; have g_v5_121 := i_rg v5_121; have g_z_213 := i_rg z_213; omega) (z_213) (dc_234_6) (ds_234_6) ws_197 H locs ls rfl (by have e0 : (0 : Int32).toInt = 0 := (by decide); have q_f_50 := f_50; have q_f_88 := f_88; obtain ⟨u_z_213, q_z_213⟩ := i_iz ez_213 (by decide) (by decide); have q_iv_122 := iv_122; have q_c_135 := i_nle c_135; have q_f19_83 := f19_83; have q_f20_83 := f20_83; have q_f20_134 := f20_134; have g_c2_83 := i_rg c2_83; have g_v5_121 := i_rg v5_121; have g_z_213 := i_rg z_213; omega) ((E_124.tr E_198)) ((gF.tr Fr_125 Fr_199)) hG (by have e0 : (0 : Int32).toInt = 0 := (by decide); have q_f_50 := f_50; have q_f_88 := f_88; omega) (by have e0 : (0 : Int32).toInt = 0 := (by decide); have q_f_50 := f_50; have q_f_88 := f_88; omega) hP hD hS (lv_sub hl [1, 2, 0] rfl)
                        · refine lv_aload_n hx hb dX9_putCounters_241 rfl (lv_at hl 0 rfl) ?_
                          obtain ⟨fs9, hk_214, hq_214⟩ := ((gF.a (F' := []) Fr_199 (fun _ h => h))) _ _ _ hk_133
                          obtain ⟨r0_214, r1_214, n1_214, r2_214, n2_214, r3_214, n3_214, r4_214, n4_214, r5_214, n5_214, rfl, o_r0_214, a_r1_214, f2_214, a_r2_214, f4_214, a_r3_214, f6_214, a_r4_214, f8_214, a_r5_214, f10_214, f11_214, -⟩ := (hG.1 _ _ _ _ hk_214).hX9 rfl
                          obtain rfl := fe_r (hq_214 0 (by decide))
                          have o_r0_44 := o_r0_214
                          obtain rfl := fe_r (hq_214 2 (by decide))
                          have hn9 := gI_n hD ((E_198).1 _ _ aa_201) a_r2_214
                          subst hn9
                          have a_r2_44 := a_r2_214
                          obtain rfl := fe_r (hq_214 3 (by decide))
                          have hn9 := gI_n hD ((E_198).1 _ _ aa_202) a_r3_214
                          subst hn9
                          have a_r3_44 := a_r3_214
                          obtain rfl := fe_r (hq_214 4 (by decide))
                          have hn9 := gI_n hD ((E_198).1 _ _ aa_203) a_r4_214
                          subst hn9
                          have a_r4_44 := a_r4_214
                          obtain rfl := fe_r (hq_214 5 (by decide))
                          have hn9 := gI_n hD ((E_198).1 _ _ aa_204) a_r5_214
                          subst hn9
                          have a_r5_44 := a_r5_214
                          refine va_get (D := gD g) (ci := 8) (v := .ref r0_44) (C := RX9) (T := TX9) (N := 6) hx hb hts inX9 hown hK hP k_3 hk_214 rfl 0 (by decide) (hts _ kw_1552) (fun _ h9 => h9) rfl dX9_putCounters_242 ?_
                          refine lv_iload hx hb dX9_putCounters_245 (lv_at hl 2 rfl) ?_
                          refine lv_iload hx hb dX9_putCounters_247 (lv_at hl 4 rfl) ?_
                          refine lv_aload_n hx hb dX9_putCounters_249 rfl (lv_at hl 0 rfl) ?_
                          refine lv_aload_n hx hb dX9_putCounters_250 rfl (lv_at hl 0 rfl) ?_
                          refine va_get (D := gD g) (ci := 8) (v := .ref r0_44) (C := RX9) (T := TX9) (N := 6) hx hb hts inX9 hown hK hP k_3 hk_214 rfl 0 (by decide) (hts _ kw_1552) (fun _ h9 => h9) rfl dX9_putCounters_251 ?_
                          refine lv_iload hx hb dX9_putCounters_254 (lv_at hl 2 rfl) ?_
                          refine lv_iload hx hb dX9_putCounters_256 (lv_at hl 4 rfl) ?_
                          have hFc := gfree hD hS hA
                          obtain ⟨k_215, fs_215, hk_215⟩ := gC_of o_r0_44
                          refine va_calli (va_runV (As := [.int v5_121, .int v7_195]) (rest := [.ref h0, .int v7_195, .int v5_121, .ref r0_44]) ⟨hx, hb, hml, hown, hts⟩ (m_X8_targetAt l g H.size ws_197 r0_44 (v5_121) (v7_195) hG o_r0_44) (cwV 2 hts (gd_V kw_1568 kw_1537 kw_1538 kw_782 kw_1536) rfl rfl rfl (by decide +kernel) ⟨Nat.le_of_ble_eq_true rfl, Nat.le_of_ble_eq_true rfl⟩) ⟨gblind, va_recv hK hP (ci := 7) (q0 := k_215) rfl hk_215, fun U hU hW9 => gmk hU hW9 hP hK hD hex hE hS hFc⟩ rfl rfl hl.1 rfl (lv_room (Nat.le_of_ble_eq_true rfl)) dX9_putCounters_258 ⟨(show dc_234_6 + 0 ≤ PC ws + (12) from (by have e0 : (0 : Int32).toInt = 0 := (by decide); have q_f_50 := f_50; have q_f_88 := f_88; omega)), (show ds_234_6 + 0 ≤ PS ws + (9059) from (by have e0 : (0 : Int32).toInt = 0 := (by decide); have q_f_50 := f_50; have q_f_88 := f_88; omega))⟩) hS (fun q _ h => hFc q h) hFc (fun r_216 u9 t9 H1 locs ht9 hvm9 hw9 hB9 hz9 hk9 hS => ?_)
                          have hP : va_P (gD g) cl0 ws_197 H1 := by rw [← ht9]; exact hB9.1
                          clear hB9 hz9 hk9 hvm9 ht9 hw9
                          generalize H1 = H at hP hS ⊢
                          have hFc := gfree hD hS hA
                          refine va_calli (va_runV (As := [.int r_216]) (rest := [.int v7_195, .int v5_121, .ref r0_44]) ⟨hx, hb, hml, hown, hts⟩ (m_X9_placeOf l g H.size ws_197 h0 (r_216) hG o_h0 (gP_of hD hk_214 (fun p90 q90 e90 g90 => by cases e90; have z90 := gI_n hD a_r2_44 g90; subst z90; exact (by have e0 : (0 : Int32).toInt = 0 := (by decide); have q_f4_44 := f4_44; have q_kq_45 := kq_45; have q_f_50 := f_50; have q_f_88 := f_88; omega))) (gP_of hD hk_214 (fun p90 q90 e90 g90 => by cases e90; have z90 := gI_n hD a_r3_44 g90; subst z90; exact (by have e0 : (0 : Int32).toInt = 0 := (by decide); have q_f6_44 := f6_44; have q_kq_46 := kq_46; have q_f_50 := f_50; have q_f_88 := f_88; omega))) (gP_of hD hk_214 (fun p90 q90 e90 g90 => by cases e90; have z90 := gI_n hD a_r4_44 g90; subst z90; exact (by have e0 : (0 : Int32).toInt = 0 := (by decide); have q_f8_44 := f8_44; have q_kq_47 := kq_47; have q_f_50 := f_50; have q_f_88 := f_88; omega))) (gP_of hD hk_214 (fun p90 q90 e90 g90 => by cases e90; have z90 := gI_n hD a_r5_44 g90; subst z90; exact (by have e0 : (0 : Int32).toInt = 0 := (by decide); have e1 : (1 : Int32).toInt = 1 := (by decide); have q_f10_44 := f10_44; have q_kq_48 := kq_48; have q_f_50 := f_50; have q_z_80 := i_len ez_80 f10_78; have q_f_88 := f_88; obtain ⟨u_z_81, q_z_81⟩ := i_sub ez_81; have q_z_82 := i_min ez_82; have g_c2_75 := i_rg c2_75; have g_z_80 := i_rg z_80; have g_z_81 := i_rg z_81; have g_z_82 := i_rg z_82; omega)))) (cwV 1 hts (gd_V kw_1708 kw_1693 kw_1694 kw_404 kw_1692) rfl rfl rfl (by decide +kernel) ⟨Nat.le_of_ble_eq_true rfl, Nat.le_of_ble_eq_true rfl⟩) ⟨gblind, va_recv hK hP (ci := 8) (q0 := k_3) rfl hk_214, fun U hU hW9 => gmk hU hW9 hP hK hD hex hE hS hFc⟩ rfl rfl hl.1 rfl (lv_room (Nat.le_of_ble_eq_true rfl)) dX9_putCounters_261 ⟨(show dc_234_6 + 0 ≤ PC ws + (12) from (by have e0 : (0 : Int32).toInt = 0 := (by decide); have q_f_50 := f_50; have q_f_88 := f_88; omega)), (show ds_234_6 + 0 ≤ PS ws + (9059) from (by have e0 : (0 : Int32).toInt = 0 := (by decide); have q_f_50 := f_50; have q_f_88 := f_88; omega))⟩) hS (fun q _ h => hFc q h) hFc (fun r_217 u9 t9 H1 locs ht9 hvm9 hw9 hB9 hz9 hk9 hS => ?_)
                          have hP : va_P (gD g) cl0 ws_197 H1 := by rw [← ht9]; exact hB9.1
                          clear hB9 hz9 hk9 hvm9 ht9 hw9
                          generalize H1 = H at hP hS ⊢
                          have hFc := gfree hD hS hA
                          obtain ⟨k_218, fs_218, hk_218⟩ := gC_of o_r0_44
                          refine va_callv (va_runV (As := [.int v5_121, .int v7_195, .int r_217]) (rest := []) ⟨hx, hb, hml, hown, hts⟩ (m_X8_setTarget l g H.size ws_197 r0_44 (v5_121) (v7_195) (r_217) hG o_r0_44) (cwV 3 hts (gd_V kw_1651 kw_1526 kw_1527 kw_782 kw_1525) rfl rfl rfl (by decide +kernel) ⟨Nat.le_of_ble_eq_true rfl, Nat.le_of_ble_eq_true rfl⟩) ⟨gblind, va_recv hK hP (ci := 7) (q0 := k_218) rfl hk_218, fun U hU hW9 => gmk hU hW9 hP hK hD hex hE hS hFc⟩ rfl rfl hl.1 rfl (lv_room (Nat.le_of_ble_eq_true rfl)) dX9_putCounters_264 ⟨(show dc_234_6 + 0 ≤ PC ws + (12) from (by have e0 : (0 : Int32).toInt = 0 := (by decide); have q_f_50 := f_50; have q_f_88 := f_88; omega)), (show ds_234_6 + 0 ≤ PS ws + (9059) from (by have e0 : (0 : Int32).toInt = 0 := (by decide); have q_f_50 := f_50; have q_f_88 := f_88; omega))⟩) hS (fun q _ h => hFc q h) hFc (fun  ws_219 t9 H1 locs ht9 hvm9 hw9 hB9 hz9 hk9 hS => ?_)
                          obtain ⟨E_220, Fr_221, hG, hP1, hD1⟩ := hB9
                          have hP : va_P (gD g) cl0 ws_219 H1 := by rw [← ht9]; exact hP1
                          have hD : va_D A ws_219 := hD1.weaken (fun _ _ _ h => hFc _ h)
                          clear hP1 hD1 hz9 hk9 hvm9 ht9 hw9
                          generalize H1 = H at hP hS ⊢
                          have aa_224 := a_r1_214
                          have aa_225 := a_r2_44
                          have aa_226 := a_r3_44
                          have aa_227 := a_r4_44
                          have aa_228 := a_r5_44
                          have o_h0 := E_220.1 _ _ o_h0
                          have o_b1 := E_220.1 _ _ o_b1
                          have pp_229 := Fr_221.pp
                          obtain ⟨z_230, ez_230⟩ : ∃ z : Int32, v7_195 + Int32.ofInt 1 = z := ⟨_, rfl⟩
                          refine lv_iinc (v := z_230) (lv' := [(7, .int z_230), (0, .ref h0), (1, .ref b1), (5, .int v5_121), (6, .int r_194)]) hx hb dX9_putCounters_267 hl (k := 4) rfl ez_230 (by decide) rfl (fun ls hl => ?_)
                          refine lv_goto (tgt := 234) hx hb dX9_putCounters_270 (by decide) ?_
                          exact ih_234 _ (by have e0 : (0 : Int32).toInt = 0 := (by decide); have q_f_50 := f_50; have q_f_88 := f_88; obtain ⟨u_z_230, q_z_230⟩ := i_iz ez_230 (by decide) (by decide); have q_iv_196 := iv_196; have q_c_212 := i_nle c_212; have g_r_194 := i_rg r_194; have g_v7_195 := i_rg v7_195; have g_z_230 := i_rg z_230; omega) (z_230) (dc_234_6) (ds_234_6) ws_219 H locs ls rfl (by have e0 : (0 : Int32).toInt = 0 := (by decide); have q_f_50 := f_50; have q_f_88 := f_88; obtain ⟨u_z_230, q_z_230⟩ := i_iz ez_230 (by decide) (by decide); have q_iv_196 := iv_196; have q_c_212 := i_nle c_212; have g_r_194 := i_rg r_194; have g_v7_195 := i_rg v7_195; have g_z_230 := i_rg z_230; omega) ((E_198.tr E_220)) ((gF.tr Fr_199 (gF.mo (F' := []) (C' := [(7, 0), (7, 1), (7, 3)]) (S' := none) Fr_221 (fun _ h => h) (fun _ h => h) (Or.inl rfl)))) hG (by have e0 : (0 : Int32).toInt = 0 := (by decide); have q_f_50 := f_50; have q_f_88 := f_88; omega) (by have e0 : (0 : Int32).toInt = 0 := (by decide); have q_f_50 := f_50; have q_f_88 := f_88; omega) hP hD hS (lv_sub hl [1, 2, 3, 4, 0] rfl)
                    exact J_234 _ (0) (dc_208_4) (ds_208_4) ws_123 H locs ls rfl (by have e0 : (0 : Int32).toInt = 0 := (by decide); have q_f_50 := f_50; have q_f_88 := f_88; omega) (gE.rf) (gF.rf) hG (by have e0 : (0 : Int32).toInt = 0 := (by decide); have q_f_50 := f_50; have q_f_88 := f_88; omega) (by have e0 : (0 : Int32).toInt = 0 := (by decide); have q_f_50 := f_50; have q_f_88 := f_88; omega) hP hD hS (lv_sub hl [2, 3, 4, 1, 0] rfl)
              exact J_208 _ (0) (dc_176_3) (ds_176_3) ws_104 H locs ls rfl (by have e0 : (0 : Int32).toInt = 0 := (by decide); have q_f_50 := f_50; have q_f_88 := f_88; omega) (gE.rf) (gF.rf) hG (by have e0 : (0 : Int32).toInt = 0 := (by decide); have q_f_50 := f_50; have q_f_88 := f_88; omega) (by have e0 : (0 : Int32).toInt = 0 := (by decide); have q_f_50 := f_50; have q_f_88 := f_88; omega) hP hD hS (lv_sub hl [1, 2, 0] rfl)
            · refine lv_aload_n hx hb dX9_putCounters_185 rfl (lv_at hl 0 rfl) ?_
              obtain ⟨fs9, hk_231, hq_231⟩ := ((gF.a (F' := [(7, 4)]) Fr_106 (fun _ h => h))) _ _ _ hk_78
              obtain ⟨r0_231, r1_231, n1_231, r2_231, n2_231, r3_231, n3_231, r4_231, n4_231, r5_231, n5_231, rfl, o_r0_231, a_r1_231, f2_231, a_r2_231, f4_231, a_r3_231, f6_231, a_r4_231, f8_231, a_r5_231, f10_231, f11_231, -⟩ := (hG.1 _ _ _ _ hk_231).hX9 rfl
              obtain rfl := fe_r (hq_231 0 (by decide))
              have o_r0_44 := o_r0_231
              obtain rfl := fe_r (hq_231 2 (by decide))
              have hn9 := gI_n hD ((E_105).1 _ _ aa_108) a_r2_231
              subst hn9
              have a_r2_44 := a_r2_231
              obtain rfl := fe_r (hq_231 3 (by decide))
              have hn9 := gI_n hD ((E_105).1 _ _ aa_109) a_r3_231
              subst hn9
              have a_r3_44 := a_r3_231
              obtain rfl := fe_r (hq_231 4 (by decide))
              have hn9 := gI_n hD ((E_105).1 _ _ aa_110) a_r4_231
              subst hn9
              have a_r4_44 := a_r4_231
              obtain rfl := fe_r (hq_231 5 (by decide))
              have hn9 := gI_n hD ((E_105).1 _ _ aa_111) a_r5_231
              subst hn9
              have a_r5_44 := a_r5_231
              refine va_get (D := gD g) (ci := 8) (v := .ref r0_44) (C := RX9) (T := TX9) (N := 6) hx hb hts inX9 hown hK hP k_3 hk_231 rfl 0 (by decide) (hts _ kw_1552) (fun _ h9 => h9) rfl dX9_putCounters_186 ?_
              refine lv_aload_n hx hb dX9_putCounters_189 rfl (lv_at hl 1 rfl) ?_
              refine va_get (D := gD g) (ci := 7) (v := .ref r3_75) (C := RX8) (T := TX8) (N := 15) hx hb hts inX8 hown hK hP k_75 hk_119 rfl 3 (by decide) (hts _ kw_1706) (fun _ h9 => h9) rfl dX9_putCounters_190 ?_
              refine lv_iload hx hb dX9_putCounters_193 (lv_at hl 2 rfl) ?_
              obtain ⟨k_232, f_232, hk_232⟩ := gI_of a_r3_75
              refine va_iald hx hb hK hP k_232 1 hk_232 rfl (i_in2 (by have e0 : (0 : Int32).toInt = 0 := (by decide); have q_f_50 := f_50; have q_f5_75 := f5_75; have q_f22_75 := f22_75; have q_f28_75 := f28_75; have q_f_88 := f_88; have q_iv_103 := iv_103; have q_f22_119 := f22_119; have q_c_120 := i_nle c_120; have q_f21_75 := f21_75; have q_f21_119 := f21_119; have g_c4_119 := i_rg c4_119; have g_c4_75 := i_rg c4_75; have g_v5_102 := i_rg v5_102; omega)) dX9_putCounters_195 ?_
              refine lv_topi (fun z_233 ez_233 => ?_)
              have hFc := gfree hD hS hA
              obtain ⟨k_234, fs_234, hk_234⟩ := gC_of o_r0_44
              refine va_callv (va_runV (As := [.int z_233]) (rest := []) ⟨hx, hb, hml, hown, hts⟩ (m_X8_addToTable l g H.size ws_104 r0_44 (z_233) hG o_r0_44) (cwV 1 hts (gd_V kw_1707 kw_1471 kw_1472 kw_782 kw_1470) rfl rfl rfl (by decide +kernel) ⟨Nat.le_of_ble_eq_true rfl, Nat.le_of_ble_eq_true rfl⟩) ⟨gblind, va_recv hK hP (ci := 7) (q0 := k_234) rfl hk_234, fun U hU hW9 => gmk hU hW9 hP hK hD hex hE hS hFc⟩ rfl rfl hl.1 rfl (lv_room (Nat.le_of_ble_eq_true rfl)) dX9_putCounters_196 ⟨(show dc_176_3 + 0 ≤ PC ws + (12) from (by have e0 : (0 : Int32).toInt = 0 := (by decide); have q_f_50 := f_50; have q_f_88 := f_88; omega)), (show ds_176_3 + 0 ≤ PS ws + (9059) from (by have e0 : (0 : Int32).toInt = 0 := (by decide); have q_f_50 := f_50; have q_f_88 := f_88; omega))⟩) hS (fun q _ h => hFc q h) hFc (fun  ws_235 t9 H1 locs ht9 hvm9 hw9 hB9 hz9 hk9 hS => ?_)
              obtain ⟨E_236, Fr_237, hG, hP1, hD1⟩ := hB9
              have hP : va_P (gD g) cl0 ws_235 H1 := by rw [← ht9]; exact hP1
              have hD : va_D A ws_235 := hD1.weaken (fun _ _ _ h => hFc _ h)
              clear hP1 hD1 hz9 hk9 hvm9 ht9 hw9
              generalize H1 = H at hP hS ⊢
              have aa_240 := a_r0_119
              have aa_241 := a_r1_119
              have aa_242 := a_r3_75
              have aa_243 := a_r5_75
              have aa_244 := a_r6_75
              have aa_245 := a_r7_75
              have aa_246 := a_r8_75
              have aa_247 := a_r1_231
              have aa_248 := a_r2_44
              have aa_249 := a_r3_44
              have aa_250 := a_r4_44
              have aa_251 := a_r5_44
              have o_h0 := E_236.1 _ _ o_h0
              have o_b1 := E_236.1 _ _ o_b1
              have pp_252 := Fr_237.pp
              obtain ⟨z_253, ez_253⟩ : ∃ z : Int32, v5_102 + Int32.ofInt 1 = z := ⟨_, rfl⟩
              refine lv_iinc (v := z_253) (lv' := [(5, .int z_253), (0, .ref h0), (1, .ref b1)]) hx hb dX9_putCounters_199 hl (k := 2) rfl ez_253 (by decide) rfl (fun ls hl => ?_)
              refine lv_goto (tgt := 176) hx hb dX9_putCounters_202 (by decide) ?_
              exact ih_176 _ (by have e0 : (0 : Int32).toInt = 0 := (by decide); have q_f_50 := f_50; have q_f_88 := f_88; obtain ⟨u_z_253, q_z_253⟩ := i_iz ez_253 (by decide) (by decide); have q_iv_103 := iv_103; have q_c_120 := i_nle c_120; have q_f21_119 := f21_119; have q_f22_119 := f22_119; have g_c4_119 := i_rg c4_119; have g_v5_102 := i_rg v5_102; have g_z_253 := i_rg z_253; omega) (z_253) (dc_176_3) (ds_176_3) ws_235 H locs ls rfl (by have e0 : (0 : Int32).toInt = 0 := (by decide); have q_f_50 := f_50; have q_f_88 := f_88; obtain ⟨u_z_253, q_z_253⟩ := i_iz ez_253 (by decide) (by decide); have q_iv_103 := iv_103; have q_c_120 := i_nle c_120; have q_f21_119 := f21_119; have q_f22_119 := f22_119; have g_c4_119 := i_rg c4_119; have g_v5_102 := i_rg v5_102; have g_z_253 := i_rg z_253; omega) ((E_105.tr E_236)) ((gF.tr Fr_106 (gF.mo (F' := [(7, 4)]) (C' := [(7, 3)]) (S' := none) Fr_237 (fun _ h => h) (fun _ h => h) (Or.inl rfl)))) hG (by have e0 : (0 : Int32).toInt = 0 := (by decide); have q_f_50 := f_50; have q_f_88 := f_88; omega) (by have e0 : (0 : Int32).toInt = 0 := (by decide); have q_f_50 := f_50; have q_f_88 := f_88; omega) hP hD hS (lv_sub hl [1, 2, 0] rfl)
        exact J_176 _ (0) (dc_139_2) (ds_139_2) ws_91 H locs ls rfl (by have e0 : (0 : Int32).toInt = 0 := (by decide); have q_f_50 := f_50; have q_f_88 := f_88; omega) (gE.rf) (gF.rf) hG (by have e0 : (0 : Int32).toInt = 0 := (by decide); have q_f_50 := f_50; have q_f_88 := f_88; omega) (by have e0 : (0 : Int32).toInt = 0 := (by decide); have q_f_50 := f_50; have q_f_88 := f_88; omega) hP hD hS (lv_sub hl [1, 2, 0] rfl)
      refine lv_icmp_ge (tgt := 139) hx hb dX9_putCounters_25 (by decide) (fun c_254 => ?_) (fun c_254 => ?_)
      · exact J_139 (dc_19_1) (ds_19_1) H locs ls (by have e0 : (0 : Int32).toInt = 0 := (by decide); have q_f_50 := f_50; omega) (by have e0 : (0 : Int32).toInt = 0 := (by decide); have q_f_50 := f_50; omega) hP hD hS (lv_sub hl [0, 1] rfl)
      · refine lv_iload hx hb dX9_putCounters_28 (lv_at hl 4 rfl) ?_
        refine lv_aload_n hx hb dX9_putCounters_30 rfl (lv_at hl 0 rfl) ?_
        obtain ⟨fs9, hk_255, hq_255⟩ := ((gF.a (F' := [(7, 2)]) Fr_62 (fun _ h => h))) _ _ _ hk_44
        obtain ⟨r0_255, r1_255, n1_255, r2_255, n2_255, r3_255, n3_255, r4_255, n4_255, r5_255, n5_255, rfl, o_r0_255, a_r1_255, f2_255, a_r2_255, f4_255, a_r3_255, f6_255, a_r4_255, f8_255, a_r5_255, f10_255, f11_255, -⟩ := (hG.1 _ _ _ _ hk_255).hX9 rfl
        obtain rfl := fe_r (hq_255 0 (by decide))
        have o_r0_44 := o_r0_255
        obtain rfl := fe_r (hq_255 2 (by decide))
        have hn9 := gI_n hD ((E_61).1 _ _ aa_64) a_r2_255
        subst hn9
        have a_r2_44 := a_r2_255
        obtain rfl := fe_r (hq_255 3 (by decide))
        have hn9 := gI_n hD ((E_61).1 _ _ aa_65) a_r3_255
        subst hn9
        have a_r3_44 := a_r3_255
        obtain rfl := fe_r (hq_255 4 (by decide))
        have hn9 := gI_n hD ((E_61).1 _ _ aa_66) a_r4_255
        subst hn9
        have a_r4_44 := a_r4_255
        obtain rfl := fe_r (hq_255 5 (by decide))
        have hn9 := gI_n hD ((E_61).1 _ _ aa_67) a_r5_255
        subst hn9
        have a_r5_44 := a_r5_255
        refine va_get (D := gD g) (ci := 8) (v := .ref r5_44) (C := RX9) (T := TX9) (N := 6) hx hb hts inX9 hown hK hP k_3 hk_255 rfl 5 (by decide) (hts _ kw_1592) (fun _ h9 => h9) rfl dX9_putCounters_31 ?_
        obtain ⟨k_256, f_256, hk_256⟩ := gI_of a_r5_44
        obtain ⟨z_257, ez_257⟩ : ∃ z : Int32, Int32.ofNat n5_44 = z := ⟨_, rfl⟩
        refine va_alen (v := z_257) hx hb hK hP k_256 1 hk_256 rfl ez_257 dX9_putCounters_34 ?_
        refine lv_icmp_ge (tgt := 139) hx hb dX9_putCounters_35 (by decide) (fun c_258 => ?_) (fun c_258 => ?_)
        · exact J_139 (dc_19_1) (ds_19_1) H locs ls (by have e0 : (0 : Int32).toInt = 0 := (by decide); have q_f_50 := f_50; omega) (by have e0 : (0 : Int32).toInt = 0 := (by decide); have q_f_50 := f_50; omega) hP hD hS (lv_sub hl [0, 1] rfl)
        · refine lv_aload_n hx hb dX9_putCounters_38 rfl (lv_at hl 0 rfl) ?_
          refine va_get (D := gD g) (ci := 8) (v := .ref r5_44) (C := RX9) (T := TX9) (N := 6) hx hb hts inX9 hown hK hP k_3 hk_255 rfl 5 (by decide) (hts _ kw_1592) (fun _ h9 => h9) rfl dX9_putCounters_39 ?_
          refine lv_iload hx hb dX9_putCounters_42 (lv_at hl 4 rfl) ?_
          refine lv_aload_n hx hb dX9_putCounters_44 rfl (lv_at hl 0 rfl) ?_
          refine va_get (D := gD g) (ci := 8) (v := .ref r0_44) (C := RX9) (T := TX9) (N := 6) hx hb hts inX9 hown hK hP k_3 hk_255 rfl 0 (by decide) (hts _ kw_1552) (fun _ h9 => h9) rfl dX9_putCounters_45 ?_
          obtain ⟨fs9, hk_259, hq_259⟩ := ((gF.a (F' := [(7, 2)]) Fr_62 (fun _ h => h))) _ _ _ hk_49
          obtain ⟨r0_259, n0_259, r1_259, n1_259, c2_259, r3_259, n3_259, c4_259, r5_259, n5_259, r6_259, n6_259, r7_259, n7_259, r8_259, n8_259, c9_259, c10_259, c11_259, v12_259, v13_259, v14_259, rfl, a_r0_259, f1_259, a_r1_259, f3_259, a_r3_259, f5_259, a_r5_259, f7_259, a_r6_259, f9_259, a_r7_259, f11_259, a_r8_259, f13_259, o_v12_259, o_v13_259, o_v14_259, f17_259, f18_259, f19_259, f20_259, f21_259, f22_259, f23_259, f24_259, f25_259, f26_259, f27_259, f28_259, f29_259, -⟩ := (hG.1 _ _ _ _ hk_259).hX8 rfl
          obtain rfl := fe_r (hq_259 3 (by decide))
          have hn9 := gI_n hD ((E_61).1 _ _ aa_70) a_r3_259
          subst hn9
          have a_r3_49 := a_r3_259
          obtain rfl := fe_i (hq_259 4 (by decide))
          obtain rfl := fe_r (hq_259 5 (by decide))
          have hn9 := gI_n hD ((E_61).1 _ _ aa_71) a_r5_259
          subst hn9
          have a_r5_49 := a_r5_259
          obtain rfl := fe_r (hq_259 6 (by decide))
          have hn9 := gI_n hD ((E_61).1 _ _ aa_72) a_r6_259
          subst hn9
          have a_r6_49 := a_r6_259
          obtain rfl := fe_r (hq_259 7 (by decide))
          have hn9 := gI_n hD ((E_61).1 _ _ aa_73) a_r7_259
          subst hn9
          have a_r7_49 := a_r7_259
          obtain rfl := fe_r (hq_259 8 (by decide))
          have hn9 := gI_n hD ((E_61).1 _ _ aa_74) a_r8_259
          subst hn9
          have a_r8_49 := a_r8_259
          obtain rfl := fe_i (hq_259 9 (by decide))
          refine va_get (D := gD g) (ci := 7) (v := .int c2_259) (C := RX8) (T := TX8) (N := 15) hx hb hts inX8 hown hK hP k_49 hk_259 rfl 2 (by decide) (hts _ kw_1553) (fun _ h9 => h9) rfl dX9_putCounters_48 ?_
          have hC9 : hol ws_60 r5_44 [(8, 5)] := (hol_u hG.u hk_255 (j := 5) rfl a_r5_44 (by decide))
          have hS9 : holS ws_60 r5_44 none := holS_n
          refine va_iast hx hb hK hP hD hS k_256 1 hk_256 rfl (i_in2 (by have e0 : (0 : Int32).toInt = 0 := (by decide); have q_f10_44 := f10_44; have q_kq_48 := kq_48; have q_f_50 := f_50; have q_iv_59 := iv_59; have q_c_254 := i_nle c_254; have q_z_257 := i_len ez_257 f10_255; have q_c_258 := i_nle c_258; have q_f19_75 := f19_75; have q_f20_75 := f20_75; have q_f1_75 := f1_75; have q_f17_75 := f17_75; have q_f18_75 := f18_75; have g_c2_75 := i_rg c2_75; have g_v5_58 := i_rg v5_58; have g_z_257 := i_rg z_257; omega)) dX9_putCounters_51 (fun H locs hP hD hS => ?_)
          obtain ⟨ws_260, e_ws_260⟩ : ∃ z, z = ws_60.set k_256 (r5_44, .inl (g.cI, n5_44, .inl (upd f_256 (v5_58 : Int32).toNatClampNeg c2_259))) := ⟨_, rfl⟩
          have hP : va_P (gD g) cl0 ws_260 H := by rw [e_ws_260]; exact hP
          have hD : va_D A ws_260 := by rw [e_ws_260]; exact hD
          have E_261 : gE ws_60 ws_260 := gE_ari e_ws_260 hk_256
          have hG : Good g ws_260 := Good_arI e_ws_260 hk_256 hG
          have Fr_262 : gF [] [(8, 5)] none ws_60 ws_260 := gF_ar e_ws_260 hk_256 rfl hC9 hS9
          have pp_263 := Fr_262.pp
          have hk_75 := gset_arO e_ws_260 hk_256 hk_75
          have hk_255 := gset_arO e_ws_260 hk_256 hk_255
          have hk_259 := gset_arO e_ws_260 hk_256 hk_259
          have o_h0 := E_261.1 _ _ o_h0
          have o_b1 := E_261.1 _ _ o_b1
          have o_b2 := E_261.1 _ _ o_b2
          have a_r0_75 := E_261.1 _ _ a_r0_75
          have a_r1_75 := E_261.1 _ _ a_r1_75
          have a_r3_75 := E_261.1 _ _ a_r3_75
          have a_r5_75 := E_261.1 _ _ a_r5_75
          have a_r6_75 := E_261.1 _ _ a_r6_75
          have a_r7_75 := E_261.1 _ _ a_r7_75
          have a_r8_75 := E_261.1 _ _ a_r8_75
          have o_v12_75 : ∀ b, v12_75 = some b → ∃ n, gI ws_260 b g.cB n ∧ n < 2147483648 := fun b h => (o_v12_75 b h).imp (fun n h => ⟨E_261.1 _ _ h.1, h.2⟩)
          have o_v13_75 : ∀ b, v13_75 = some b → ∃ n, gJ ws_260 b g.cL n ∧ n < 2147483648 := fun b h => (o_v13_75 b h).imp (fun n h => ⟨E_261.1 _ _ h.1, h.2⟩)
          have o_v14_75 : ∀ b, v14_75 = some b → ∃ n, gJ ws_260 b g.cL n ∧ n < 2147483648 := fun b h => (o_v14_75 b h).imp (fun n h => ⟨E_261.1 _ _ h.1, h.2⟩)
          have a_r1_255 := E_261.1 _ _ a_r1_255
          have o_r0_44 := E_261.1 _ _ o_r0_44
          have a_r2_44 := E_261.1 _ _ a_r2_44
          have a_r3_44 := E_261.1 _ _ a_r3_44
          have a_r4_44 := E_261.1 _ _ a_r4_44
          have a_r5_44 := E_261.1 _ _ a_r5_44
          have a_r0_259 := E_261.1 _ _ a_r0_259
          have a_r1_259 := E_261.1 _ _ a_r1_259
          have o_v12_259 : ∀ b, v12_259 = some b → ∃ n, gI ws_260 b g.cB n ∧ n < 2147483648 := fun b h => (o_v12_259 b h).imp (fun n h => ⟨E_261.1 _ _ h.1, h.2⟩)
          have o_v13_259 : ∀ b, v13_259 = some b → ∃ n, gJ ws_260 b g.cL n ∧ n < 2147483648 := fun b h => (o_v13_259 b h).imp (fun n h => ⟨E_261.1 _ _ h.1, h.2⟩)
          have o_v14_259 : ∀ b, v14_259 = some b → ∃ n, gJ ws_260 b g.cL n ∧ n < 2147483648 := fun b h => (o_v14_259 b h).imp (fun n h => ⟨E_261.1 _ _ h.1, h.2⟩)
          have a_r3_49 := E_261.1 _ _ a_r3_49
          have a_r5_49 := E_261.1 _ _ a_r5_49
          have a_r6_49 := E_261.1 _ _ a_r6_49
          have a_r7_49 := E_261.1 _ _ a_r7_49
          have a_r8_49 := E_261.1 _ _ a_r8_49
          refine lv_aload_n hx hb dX9_putCounters_52 rfl (lv_at hl 2 rfl) ?_
          refine lv_aload_n hx hb dX9_putCounters_53 rfl (lv_at hl 2 rfl) ?_
          refine lv_iload hx hb dX9_putCounters_54 (lv_at hl 4 rfl) ?_
          obtain ⟨fs9, hk_264, hq_264⟩ := ((gA.tr (gF.a (F' := [(7, 0), (7, 1), (7, 2), (7, 3), (7, 5), (7, 6), (7, 7), (7, 8), (7, 11), (8, 0), (8, 2), (8, 3), (8, 4), (8, 5)]) Fr_12 (by decide)) (gA.tr (gF.a (F' := [(7, 0), (7, 1), (7, 2), (7, 3), (7, 5), (7, 6), (7, 7), (7, 8), (7, 11), (8, 0), (8, 2), (8, 3), (8, 4), (8, 5)]) Fr_55 (by decide)) (gA.tr (gF.a (F' := [(7, 0), (7, 1), (7, 2), (7, 3), (7, 5), (7, 6), (7, 7), (7, 8), (7, 11), (8, 0), (8, 2), (8, 3), (8, 4), (8, 5)]) Fr_62 (by decide)) (gF.a (F' := [(7, 0), (7, 1), (7, 2), (7, 3), (7, 5), (7, 6), (7, 7), (7, 8), (7, 11), (8, 0), (8, 2), (8, 3), (8, 4), (8, 5)]) Fr_262 (fun _ h => absurd h List.not_mem_nil)))))) _ _ _ hk_1
          obtain ⟨v0_264, c1_264, r2_264, n2_264, r3_264, n3_264, r4_264, n4_264, r5_264, n5_264, r6_264, n6_264, r7_264, n7_264, r8_264, n8_264, r9_264, n9_264, c10_264, r11_264, n11_264, r12_264, n12_264, r13_264, n13_264, r14_264, n14_264, r15_264, n15_264, rfl, o_v0_264, a_r2_264, f2_264, a_r3_264, f4_264, a_r4_264, f6_264, a_r5_264, f8_264, a_r6_264, f10_264, a_r7_264, f12_264, a_r8_264, f14_264, a_r9_264, f16_264, a_r11_264, f18_264, a_r12_264, f20_264, a_r13_264, f22_264, a_r14_264, f24_264, a_r15_264, f26_264, f27_264, f28_264, f29_264, f30_264, f31_264, f32_264, f33_264, f34_264, f35_264, f36_264, f37_264, f38_264, f39_264, f40_264, -⟩ := (hG.1 _ _ _ _ hk_264).hX3 rfl
          have hn9 := fe_qr (hq_264 0 (by decide))
          subst hn9
          have o_b_2 := o_v0_264 _ rfl
          obtain rfl := fe_i (hq_264 1 (by decide))
          obtain rfl := fe_r (hq_264 2 (by decide))
          have hn9 := gI_n hD (((E_11.tr (E_54.tr (E_61.tr E_261)))).1 _ _ aa_19) a_r2_264
          subst hn9
          have a_r2_1 := a_r2_264
          obtain rfl := fe_r (hq_264 3 (by decide))
          have hn9 := gI_n hD (((E_11.tr (E_54.tr (E_61.tr E_261)))).1 _ _ aa_20) a_r3_264
          subst hn9
          have a_r3_1 := a_r3_264
          obtain rfl := fe_r (hq_264 8 (by decide))
          have hn9 := gI_n hD (((E_11.tr (E_54.tr (E_61.tr E_261)))).1 _ _ aa_25) a_r8_264
          subst hn9
          have a_r8_1 := a_r8_264
          have hFc := gfree hD hS hA
          refine va_calli (va_runV (As := [.int v5_58]) (rest := [.ref b2]) ⟨hx, hb, hml, hown, hts⟩ (m_X3_blockAt l g H.size ws_260 b2 (v5_58) hG o_b2 (gN_of hD hk_264 (j := 0) rfl) (gP_of hD hk_264 (fun q90 e90 p91 q91 e91 g91 => by cases e90; cases e91; have z91 := gI_n hD a_r2_1 g91; subst z91; exact (by have e0 : (0 : Int32).toInt = 0 := (by decide); have q_f2_1 := f2_1; have q_f27_1 := f27_1; have q_fq_k := fq_k; have q_fq_s := fq_s; have q_f_50 := f_50; have q_f4_1 := f4_1; have q_f14_1 := f14_1; have q_f29_1 := f29_1; have q_f30_1 := f30_1; have q_f31_1 := f31_1; have q_f32_1 := f32_1; have q_f33_1 := f33_1; have q_f34_1 := f34_1; have q_f36_1 := f36_1; have q_f37_1 := f37_1; have q_f29_264 := f29_264; have q_f30_264 := f30_264; have q_f31_264 := f31_264; have q_f32_264 := f32_264; have q_f33_264 := f33_264; have q_f34_264 := f34_264; have q_f6_1 := f6_1; have q_f18_1 := f18_1; have q_f20_1 := f20_1; have q_f22_1 := f22_1; have q_f24_1 := f24_1; have q_f26_1 := f26_1; have q_f28_1 := f28_1; have q_f6_264 := f6_264; have q_f18_264 := f18_264; have q_f20_264 := f20_264; have q_f22_264 := f22_264; have q_f24_264 := f24_264; have q_f26_264 := f26_264; have q_f28_264 := f28_264; have g_c1_1 := i_rg c1_1; omega)))) (cwV 1 hts (gd_V kw_1701 kw_860 kw_861 kw_401 kw_859) rfl rfl rfl (by decide +kernel) ⟨Nat.le_of_ble_eq_true rfl, Nat.le_of_ble_eq_true rfl⟩) ⟨gblind, va_recv hK hP (ci := 3) (q0 := k_1) rfl hk_264, fun U hU hW9 => gmk hU hW9 hP hK hD hex hE hS hFc⟩ rfl rfl hl.1 rfl (lv_room (Nat.le_of_ble_eq_true rfl)) dX9_putCounters_56 ⟨(show dc_19_1 + 0 ≤ PC ws + (12) from (by have e0 : (0 : Int32).toInt = 0 := (by decide); have q_f_50 := f_50; omega)), (show ds_19_1 + 0 ≤ PS ws + (9059) from (by have e0 : (0 : Int32).toInt = 0 := (by decide); have q_f_50 := f_50; omega))⟩) hS (fun q _ h => hFc q h) hFc (fun r_265 u9 t9 H1 locs ht9 hvm9 hw9 hB9 hz9 hk9 hS => ?_)
          have hP : va_P (gD g) cl0 ws_260 H1 := by rw [← ht9]; exact hB9.1
          clear hB9 hz9 hk9 hvm9 ht9 hw9
          generalize H1 = H at hP hS ⊢
          have hFc := gfree hD hS hA
          refine va_calli (va_runV (As := [.int r_265]) (rest := []) ⟨hx, hb, hml, hown, hts⟩ (m_X3_isReached l g H.size ws_260 b2 (r_265) hG o_b2 (gP_of hD hk_264 (fun q90 e90 p91 q91 e91 g91 => by cases e90; cases e91; have z91 := gI_n hD a_r8_1 g91; subst z91; exact (by have e0 : (0 : Int32).toInt = 0 := (by decide); have q_f14_1 := f14_1; have q_f29_1 := f29_1; have q_f30_1 := f30_1; have q_f31_1 := f31_1; have q_f32_1 := f32_1; have q_f33_1 := f33_1; have q_f34_1 := f34_1; have q_f37_1 := f37_1; have q_fq_k := fq_k; have q_fq_s := fq_s; have q_f_50 := f_50; have q_f29_264 := f29_264; have q_f30_264 := f30_264; have q_f31_264 := f31_264; have q_f32_264 := f32_264; have q_f33_264 := f33_264; have q_f34_264 := f34_264; have q_f2_1 := f2_1; have q_f6_1 := f6_1; have q_f18_1 := f18_1; have q_f20_1 := f20_1; have q_f22_1 := f22_1; have q_f24_1 := f24_1; have q_f26_1 := f26_1; have q_f27_1 := f27_1; have q_f28_1 := f28_1; have q_f6_264 := f6_264; have q_f18_264 := f18_264; have q_f20_264 := f20_264; have q_f22_264 := f22_264; have q_f24_264 := f24_264; have q_f26_264 := f26_264; have q_f28_264 := f28_264; have q_f4_1 := f4_1; have q_f10_1 := f10_1; have q_f36_1 := f36_1; have q_f10_264 := f10_264; have g_c1_1 := i_rg c1_1; omega)))) (cwV 1 hts (gd_V kw_1702 kw_930 kw_931 kw_401 kw_929) rfl rfl rfl (by decide +kernel) ⟨Nat.le_of_ble_eq_true rfl, Nat.le_of_ble_eq_true rfl⟩) ⟨gblind, va_recv hK hP (ci := 3) (q0 := k_1) rfl hk_264, fun U hU hW9 => gmk hU hW9 hP hK hD hex hE hS hFc⟩ rfl rfl hl.1 rfl (lv_room (Nat.le_of_ble_eq_true rfl)) dX9_putCounters_59 ⟨(show dc_19_1 + 0 ≤ PC ws + (12) from (by have e0 : (0 : Int32).toInt = 0 := (by decide); have q_f_50 := f_50; omega)), (show ds_19_1 + 0 ≤ PS ws + (9059) from (by have e0 : (0 : Int32).toInt = 0 := (by decide); have q_f_50 := f_50; omega))⟩) hS (fun q _ h => hFc q h) hFc (fun r_266 u9 t9 H1 locs ht9 hvm9 hw9 hB9 hz9 hk9 hS => ?_)
          have hP : va_P (gD g) cl0 ws_260 H1 := by rw [← ht9]; exact hB9.1
          have hz_r_266 : r_266 = 0 ∨ r_266 = 1 := hw9
          clear hB9 hz9 hk9 hvm9 ht9 hw9
          generalize H1 = H at hP hS ⊢
          have J_114 : ∀ (v4_267 : Int32) (dc_114_7 : Nat) (ds_114_7 : Nat) (ws_268 : va_W) (H : Heap) (locs : List Loc) (ls : Array Slot), gE ws_260 ws_268 → gF [(7, 2)] [(7, 0), (7, 1)] none ws_260 ws_268 → Good g ws_268 → dc_114_7 + PC ws_268 ≤ PC ws + (12) → ds_114_7 + PS ws_268 ≤ PS ws + (9059) → va_P (gD g) cl0 ws_268 H → va_D A ws_268 → va_S A s.heap H locs → lv_has ls 8 [(0, .ref h0), (1, .ref b1), (2, .ref b2), (4, .int v4_267), (5, .int v5_58)] → W p l e (headSpec (wt yX9_putCounters cX9_putCounters 8 none) ({ frames := 3, cells := PC ws + (12), slots := PS ws + (9059), locals := 56 })).room s m ([.ref h0, .ref b1, .ref b2, .int x3] : List Value).toArray below meth c H locs (dc_114_7) (ds_114_7) (MQ below (va_Qv (fun (u9 : va_W) => True) (gQ2 g [(7, 0), (7, 1), (7, 2), (7, 3), (7, 4), (7, 5), (7, 6), (7, 7), (7, 8), (7, 9), (7, 11), (8, 0), (8, 2), (8, 3), (8, 4), (8, 5)] [(7, 0), (7, 1), (7, 3), (7, 5), (7, 6), (7, 7), (7, 8), (8, 5)] none A ws s.heap (12) (9059)) A) ([.ref h0, .ref b1, .ref b2, .int x3] : List Value).toArray s (PC ws + (12)) (PS ws + (9059)) A) (F0 m 114 ls []) := by
            intro v4_267 dc_114_7 ds_114_7 ws_268 H locs ls  E_269 Fr_270 hG hc9 hs9 hP hD hS hl
            have aa_271 := a_r0_75
            have aa_272 := a_r1_75
            have aa_273 := a_r3_75
            have aa_274 := a_r5_75
            have aa_275 := a_r6_75
            have aa_276 := a_r7_75
            have aa_277 := a_r8_75
            have aa_278 := a_r1_255
            have aa_279 := a_r2_44
            have aa_280 := a_r3_44
            have aa_281 := a_r4_44
            have aa_282 := a_r5_44
            have aa_283 := a_r0_259
            have aa_284 := a_r1_259
            have aa_285 := a_r3_49
            have aa_286 := a_r5_49
            have aa_287 := a_r6_49
            have aa_288 := a_r7_49
            have aa_289 := a_r8_49
            have aa_290 := a_r2_1
            have aa_291 := a_r3_1
            have aa_292 := a_r4_264
            have aa_293 := a_r5_264
            have aa_294 := a_r6_264
            have aa_295 := a_r7_264
            have aa_296 := a_r8_1
            have aa_297 := a_r9_264
            have aa_298 := a_r11_264
            have aa_299 := a_r12_264
            have aa_300 := a_r13_264
            have aa_301 := a_r14_264
            have aa_302 := a_r15_264
            have o_h0 := E_269.1 _ _ o_h0
            have o_b1 := E_269.1 _ _ o_b1
            have o_b2 := E_269.1 _ _ o_b2
            refine lv_aload_n hx hb dX9_putCounters_114 rfl (lv_at hl 0 rfl) ?_
            obtain ⟨fs9, hk_303, hq_303⟩ := ((gF.a (F' := [(7, 2)]) Fr_270 (fun _ h => h))) _ _ _ hk_255
            obtain ⟨r0_303, r1_303, n1_303, r2_303, n2_303, r3_303, n3_303, r4_303, n4_303, r5_303, n5_303, rfl, o_r0_303, a_r1_303, f2_303, a_r2_303, f4_303, a_r3_303, f6_303, a_r4_303, f8_303, a_r5_303, f10_303, f11_303, -⟩ := (hG.1 _ _ _ _ hk_303).hX9 rfl
            obtain rfl := fe_r (hq_303 0 (by decide))
            have o_r0_44 := o_r0_303
            obtain rfl := fe_r (hq_303 2 (by decide))
            have hn9 := gI_n hD ((E_269).1 _ _ aa_279) a_r2_303
            subst hn9
            have a_r2_44 := a_r2_303
            obtain rfl := fe_r (hq_303 3 (by decide))
            have hn9 := gI_n hD ((E_269).1 _ _ aa_280) a_r3_303
            subst hn9
            have a_r3_44 := a_r3_303
            obtain rfl := fe_r (hq_303 4 (by decide))
            have hn9 := gI_n hD ((E_269).1 _ _ aa_281) a_r4_303
            subst hn9
            have a_r4_44 := a_r4_303
            obtain rfl := fe_r (hq_303 5 (by decide))
            have hn9 := gI_n hD ((E_269).1 _ _ aa_282) a_r5_303
            subst hn9
            have a_r5_44 := a_r5_303
            refine va_get (D := gD g) (ci := 8) (v := .ref r0_44) (C := RX9) (T := TX9) (N := 6) hx hb hts inX9 hown hK hP k_3 hk_303 rfl 0 (by decide) (hts _ kw_1552) (fun _ h9 => h9) rfl dX9_putCounters_115 ?_
            refine lv_aload_n hx hb dX9_putCounters_118 rfl (lv_at hl 1 rfl) ?_
            refine lv_iload hx hb dX9_putCounters_119 (lv_at hl 4 rfl) ?_
            have hFc := gfree hD hS hA
            obtain ⟨k_304, fs_304, hk_304⟩ := gC_of o_b1
            refine va_calli (va_runV (As := [.int v5_58]) (rest := [.ref r0_44]) ⟨hx, hb, hml, hown, hts⟩ (m_X8_opAt l g H.size ws_268 b1 (v5_58) hG o_b1) (cwV 1 hts (gd_V kw_1596 kw_1513 kw_1514 kw_782 kw_1512) rfl rfl rfl (by decide +kernel) ⟨Nat.le_of_ble_eq_true rfl, Nat.le_of_ble_eq_true rfl⟩) ⟨gblind, va_recv hK hP (ci := 7) (q0 := k_304) rfl hk_304, fun U hU hW9 => gmk hU hW9 hP hK hD hex hE hS hFc⟩ rfl rfl hl.1 rfl (lv_room (Nat.le_of_ble_eq_true rfl)) dX9_putCounters_121 ⟨(show dc_114_7 + 0 ≤ PC ws + (12) from (by have e0 : (0 : Int32).toInt = 0 := (by decide); have q_f_50 := f_50; omega)), (show ds_114_7 + 0 ≤ PS ws + (9059) from (by have e0 : (0 : Int32).toInt = 0 := (by decide); have q_f_50 := f_50; omega))⟩) hS (fun q _ h => hFc q h) hFc (fun r_305 u9 t9 H1 locs ht9 hvm9 hw9 hB9 hz9 hk9 hS => ?_)
            have hP : va_P (gD g) cl0 ws_268 H1 := by rw [← ht9]; exact hB9.1
            clear hB9 hz9 hk9 hvm9 ht9 hw9
            generalize H1 = H at hP hS ⊢
            refine lv_aload_n hx hb dX9_putCounters_124 rfl (lv_at hl 1 rfl) ?_
            refine lv_iload hx hb dX9_putCounters_125 (lv_at hl 4 rfl) ?_
            have hFc := gfree hD hS hA
            obtain ⟨k_306, fs_306, hk_306⟩ := gC_of o_b1
            refine va_calll (va_runV (As := [.int v5_58]) (rest := [.int r_305, .ref r0_44]) ⟨hx, hb, hml, hown, hts⟩ (m_X8_argAt l g H.size ws_268 b1 (v5_58) hG o_b1) (cwV 1 hts (gd_V kw_1605 kw_1476 kw_1477 kw_782 kw_1475) rfl rfl rfl (by decide +kernel) ⟨Nat.le_of_ble_eq_true rfl, Nat.le_of_ble_eq_true rfl⟩) ⟨gblind, va_recv hK hP (ci := 7) (q0 := k_306) rfl hk_306, fun U hU hW9 => gmk hU hW9 hP hK hD hex hE hS hFc⟩ rfl rfl hl.1 rfl (lv_room (Nat.le_of_ble_eq_true rfl)) dX9_putCounters_127 ⟨(show dc_114_7 + 0 ≤ PC ws + (12) from (by have e0 : (0 : Int32).toInt = 0 := (by decide); have q_f_50 := f_50; omega)), (show ds_114_7 + 0 ≤ PS ws + (9059) from (by have e0 : (0 : Int32).toInt = 0 := (by decide); have q_f_50 := f_50; omega))⟩) hS (fun q _ h => hFc q h) hFc (fun r_307 u9 t9 H1 locs ht9 hvm9 hw9 hB9 hz9 hk9 hS => ?_)
            have hP : va_P (gD g) cl0 ws_268 H1 := by rw [← ht9]; exact hB9.1
            clear hB9 hz9 hk9 hvm9 ht9 hw9
            generalize H1 = H at hP hS ⊢
            have hFc := gfree hD hS hA
            obtain ⟨k_308, fs_308, hk_308⟩ := gC_of o_r0_44
            refine va_callv (va_runV (As := [.int r_305, .long r_307]) (rest := []) ⟨hx, hb, hml, hown, hts⟩ (m_X8_add l g H.size ws_268 r0_44 (r_305) (r_307) hG o_r0_44) (cwV 2 hts (gd_V kw_1703 kw_1457 kw_1458 kw_782 kw_1456) rfl rfl rfl (by decide +kernel) ⟨Nat.le_of_ble_eq_true rfl, Nat.le_of_ble_eq_true rfl⟩) ⟨gblind, va_recv hK hP (ci := 7) (q0 := k_308) rfl hk_308, fun U hU hW9 => gmk hU hW9 hP hK hD hex hE hS hFc⟩ rfl rfl hl.1 rfl (lv_room (Nat.le_of_ble_eq_true rfl)) dX9_putCounters_130 ⟨(show dc_114_7 + 0 ≤ PC ws + (12) from (by have e0 : (0 : Int32).toInt = 0 := (by decide); have q_f_50 := f_50; omega)), (show ds_114_7 + 0 ≤ PS ws + (9059) from (by have e0 : (0 : Int32).toInt = 0 := (by decide); have q_f_50 := f_50; omega))⟩) hS (fun q _ h => hFc q h) hFc (fun  ws_309 t9 H1 locs ht9 hvm9 hw9 hB9 hz9 hk9 hS => ?_)
            obtain ⟨E_310, Fr_311, hG, hP1, hD1⟩ := hB9
            have hP : va_P (gD g) cl0 ws_309 H1 := by rw [← ht9]; exact hP1
            have hD : va_D A ws_309 := hD1.weaken (fun _ _ _ h => hFc _ h)
            clear hP1 hD1 hz9 hk9 hvm9 ht9 hw9
            generalize H1 = H at hP hS ⊢
            have aa_314 := a_r1_303
            have aa_315 := a_r2_44
            have aa_316 := a_r3_44
            have aa_317 := a_r4_44
            have aa_318 := a_r5_44
            have o_h0 := E_310.1 _ _ o_h0
            have o_b1 := E_310.1 _ _ o_b1
            have o_b2 := E_310.1 _ _ o_b2
            have pp_319 := Fr_311.pp
            obtain ⟨z_320, ez_320⟩ : ∃ z : Int32, v5_58 + Int32.ofInt 1 = z := ⟨_, rfl⟩
            refine lv_iinc (v := z_320) (lv' := [(5, .int z_320), (0, .ref h0), (1, .ref b1), (2, .ref b2), (4, .int v4_267)]) hx hb dX9_putCounters_133 hl (k := 4) rfl ez_320 (by decide) rfl (fun ls hl => ?_)
            refine lv_goto (tgt := 19) hx hb dX9_putCounters_136 (by decide) ?_
            exact ih_19 _ (by have e0 : (0 : Int32).toInt = 0 := (by decide); have q_f_50 := f_50; obtain ⟨u_z_320, q_z_320⟩ := i_iz ez_320 (by decide) (by decide); have q_iv_59 := iv_59; have q_c_254 := i_nle c_254; have q_c_258 := i_nle c_258; have q_f19_75 := f19_75; have q_f20_75 := f20_75; have q_z_257 := i_len ez_257 f10_255; have g_c2_75 := i_rg c2_75; have g_v4_267 := i_rg v4_267; have g_v5_58 := i_rg v5_58; have g_z_257 := i_rg z_257; have g_z_320 := i_rg z_320; omega) (v4_267) (z_320) (dc_114_7) (ds_114_7) ws_309 H locs ls rfl (by have e0 : (0 : Int32).toInt = 0 := (by decide); have q_f_50 := f_50; obtain ⟨u_z_320, q_z_320⟩ := i_iz ez_320 (by decide) (by decide); have q_iv_59 := iv_59; have q_c_254 := i_nle c_254; have q_c_258 := i_nle c_258; have q_f19_75 := f19_75; have q_f20_75 := f20_75; have q_z_257 := i_len ez_257 f10_255; have g_c2_75 := i_rg c2_75; have g_v5_58 := i_rg v5_58; have g_z_257 := i_rg z_257; have g_z_320 := i_rg z_320; omega) ((E_61.tr (E_261.tr (E_269.tr E_310)))) ((gF.tr Fr_62 (gF.tr (gF.mo (F' := [(7, 2)]) (C' := [(7, 0), (7, 1), (8, 5)]) (S' := none) Fr_262 (fun _ h => absurd h List.not_mem_nil) (by decide) (Or.inr rfl)) (gF.tr (gF.mo (F' := [(7, 2)]) (C' := [(7, 0), (7, 1), (8, 5)]) (S' := none) Fr_270 (fun _ h => h) (by decide) (Or.inr rfl)) (gF.mo (F' := [(7, 2)]) (C' := [(7, 0), (7, 1), (8, 5)]) (S' := none) Fr_311 (fun _ h => h) (by decide) (Or.inl rfl)))))) hG (by have e0 : (0 : Int32).toInt = 0 := (by decide); have q_f_50 := f_50; omega) (by have e0 : (0 : Int32).toInt = 0 := (by decide); have q_f_50 := f_50; omega) hP hD hS (lv_sub hl [1, 2, 3, 4, 0] rfl)
          refine lv_if_eq (tgt := 114) hx hb dX9_putCounters_62 (by decide) (fun c_321 => ?_) (fun c_321 => ?_)
          · exact J_114 (v4_57) (dc_19_1) (ds_19_1) ws_260 H locs ls (gE.rf) (gF.rf) hG (by have e0 : (0 : Int32).toInt = 0 := (by decide); have q_f_50 := f_50; omega) (by have e0 : (0 : Int32).toInt = 0 := (by decide); have q_f_50 := f_50; omega) hP hD hS (lv_sub hl [0, 1, 2, 3, 4] rfl)
          · refine lv_aload_n hx hb dX9_putCounters_65 rfl (lv_at hl 0 rfl) ?_
            refine va_get (D := gD g) (ci := 8) (v := .ref r0_44) (C := RX9) (T := TX9) (N := 6) hx hb hts inX9 hown hK hP k_3 hk_255 rfl 0 (by decide) (hts _ kw_1552) (fun _ h9 => h9) rfl dX9_putCounters_66 ?_
            refine lv_sipush (v := 178) hx hb dX9_putCounters_69 (by decide) ?_
            refine lv_iload hx hb dX9_putCounters_72 (lv_at hl 3 rfl) ?_
            obtain ⟨z_322, ez_322⟩ : ∃ y : Int64, (v4_57 : Int32).toInt64 = y := ⟨_, rfl⟩
            refine lv_i2l (v := z_322) hx hb dX9_putCounters_74 ez_322 ?_
            have hFc := gfree hD hS hA
            refine va_callv (va_runV (As := [.int 178, .long z_322]) (rest := []) ⟨hx, hb, hml, hown, hts⟩ (m_X8_add l g H.size ws_260 r0_44 (178) (z_322) hG o_r0_44) (cwV 2 hts (gd_V kw_1703 kw_1457 kw_1458 kw_782 kw_1456) rfl rfl rfl (by decide +kernel) ⟨Nat.le_of_ble_eq_true rfl, Nat.le_of_ble_eq_true rfl⟩) ⟨gblind, va_recv hK hP (ci := 7) (q0 := k_49) rfl hk_259, fun U hU hW9 => gmk hU hW9 hP hK hD hex hE hS hFc⟩ rfl rfl hl.1 rfl (lv_room (Nat.le_of_ble_eq_true rfl)) dX9_putCounters_75 ⟨(show dc_19_1 + 0 ≤ PC ws + (12) from (by have e0 : (0 : Int32).toInt = 0 := (by decide); have q_f_50 := f_50; omega)), (show ds_19_1 + 0 ≤ PS ws + (9059) from (by have e0 : (0 : Int32).toInt = 0 := (by decide); have q_f_50 := f_50; omega))⟩) hS (fun q _ h => hFc q h) hFc (fun  ws_323 t9 H1 locs ht9 hvm9 hw9 hB9 hz9 hk9 hS => ?_)
            obtain ⟨E_324, Fr_325, hG, hP1, hD1⟩ := hB9
            have hP : va_P (gD g) cl0 ws_323 H1 := by rw [← ht9]; exact hP1
            have hD : va_D A ws_323 := hD1.weaken (fun _ _ _ h => hFc _ h)
            clear hP1 hD1 hz9 hk9 hvm9 ht9 hw9
            generalize H1 = H at hP hS ⊢
            have aa_328 := a_r0_75
            have aa_329 := a_r1_75
            have aa_330 := a_r3_75
            have aa_331 := a_r5_75
            have aa_332 := a_r6_75
            have aa_333 := a_r7_75
            have aa_334 := a_r8_75
            have aa_335 := a_r1_255
            have aa_336 := a_r2_44
            have aa_337 := a_r3_44
            have aa_338 := a_r4_44
            have aa_339 := a_r5_44
            have aa_340 := a_r0_259
            have aa_341 := a_r1_259
            have aa_342 := a_r3_49
            have aa_343 := a_r5_49
            have aa_344 := a_r6_49
            have aa_345 := a_r7_49
            have aa_346 := a_r8_49
            have aa_347 := a_r2_1
            have aa_348 := a_r3_1
            have aa_349 := a_r4_264
            have aa_350 := a_r5_264
            have aa_351 := a_r6_264
            have aa_352 := a_r7_264
            have aa_353 := a_r8_1
            have aa_354 := a_r9_264
            have aa_355 := a_r11_264
            have aa_356 := a_r12_264
            have aa_357 := a_r13_264
            have aa_358 := a_r14_264
            have aa_359 := a_r15_264
            have o_h0 := E_324.1 _ _ o_h0
            have o_b1 := E_324.1 _ _ o_b1
            have o_b2 := E_324.1 _ _ o_b2
            have pp_360 := Fr_325.pp
            refine lv_aload_n hx hb dX9_putCounters_78 rfl (lv_at hl 0 rfl) ?_
            obtain ⟨fs9, hk_361, hq_361⟩ := ((gF.a (F' := [(7, 2)]) Fr_325 (fun _ h => h))) _ _ _ hk_255
            obtain ⟨r0_361, r1_361, n1_361, r2_361, n2_361, r3_361, n3_361, r4_361, n4_361, r5_361, n5_361, rfl, o_r0_361, a_r1_361, f2_361, a_r2_361, f4_361, a_r3_361, f6_361, a_r4_361, f8_361, a_r5_361, f10_361, f11_361, -⟩ := (hG.1 _ _ _ _ hk_361).hX9 rfl
            obtain rfl := fe_r (hq_361 0 (by decide))
            have o_r0_44 := o_r0_361
            obtain rfl := fe_r (hq_361 2 (by decide))
            have hn9 := gI_n hD ((E_324).1 _ _ aa_336) a_r2_361
            subst hn9
            have a_r2_44 := a_r2_361
            obtain rfl := fe_r (hq_361 3 (by decide))
            have hn9 := gI_n hD ((E_324).1 _ _ aa_337) a_r3_361
            subst hn9
            have a_r3_44 := a_r3_361
            obtain rfl := fe_r (hq_361 4 (by decide))
            have hn9 := gI_n hD ((E_324).1 _ _ aa_338) a_r4_361
            subst hn9
            have a_r4_44 := a_r4_361
            obtain rfl := fe_r (hq_361 5 (by decide))
            have hn9 := gI_n hD ((E_324).1 _ _ aa_339) a_r5_361
            subst hn9
            have a_r5_44 := a_r5_361
            refine va_get (D := gD g) (ci := 8) (v := .ref r0_44) (C := RX9) (T := TX9) (N := 6) hx hb hts inX9 hown hK hP k_3 hk_361 rfl 0 (by decide) (hts _ kw_1552) (fun _ h9 => h9) rfl dX9_putCounters_79 ?_
            refine lv_bipush (v := 20) hx hb dX9_putCounters_82 (by decide) ?_
            refine lv_lconst (v := 1) hx hb dX9_putCounters_84 (by decide) ?_
            have hFc := gfree hD hS hA
            obtain ⟨k_362, fs_362, hk_362⟩ := gC_of o_r0_44
            refine va_callv (va_runV (As := [.int 20, .long 1]) (rest := []) ⟨hx, hb, hml, hown, hts⟩ (m_X8_add l g H.size ws_323 r0_44 (20) (1) hG o_r0_44) (cwV 2 hts (gd_V kw_1703 kw_1457 kw_1458 kw_782 kw_1456) rfl rfl rfl (by decide +kernel) ⟨Nat.le_of_ble_eq_true rfl, Nat.le_of_ble_eq_true rfl⟩) ⟨gblind, va_recv hK hP (ci := 7) (q0 := k_362) rfl hk_362, fun U hU hW9 => gmk hU hW9 hP hK hD hex hE hS hFc⟩ rfl rfl hl.1 rfl (lv_room (Nat.le_of_ble_eq_true rfl)) dX9_putCounters_85 ⟨(show dc_19_1 + 0 ≤ PC ws + (12) from (by have e0 : (0 : Int32).toInt = 0 := (by decide); have q_f_50 := f_50; omega)), (show ds_19_1 + 0 ≤ PS ws + (9059) from (by have e0 : (0 : Int32).toInt = 0 := (by decide); have q_f_50 := f_50; omega))⟩) hS (fun q _ h => hFc q h) hFc (fun  ws_363 t9 H1 locs ht9 hvm9 hw9 hB9 hz9 hk9 hS => ?_)
            obtain ⟨E_364, Fr_365, hG, hP1, hD1⟩ := hB9
            have hP : va_P (gD g) cl0 ws_363 H1 := by rw [← ht9]; exact hP1
            have hD : va_D A ws_363 := hD1.weaken (fun _ _ _ h => hFc _ h)
            clear hP1 hD1 hz9 hk9 hvm9 ht9 hw9
            generalize H1 = H at hP hS ⊢
            have aa_368 := a_r1_361
            have aa_369 := a_r2_44
            have aa_370 := a_r3_44
            have aa_371 := a_r4_44
            have aa_372 := a_r5_44
            have o_h0 := E_364.1 _ _ o_h0
            have o_b1 := E_364.1 _ _ o_b1
            have o_b2 := E_364.1 _ _ o_b2
            have pp_373 := Fr_365.pp
            refine lv_aload_n hx hb dX9_putCounters_88 rfl (lv_at hl 0 rfl) ?_
            obtain ⟨fs9, hk_374, hq_374⟩ := ((gF.a (F' := [(7, 2)]) Fr_365 (fun _ h => h))) _ _ _ hk_361
            obtain ⟨r0_374, r1_374, n1_374, r2_374, n2_374, r3_374, n3_374, r4_374, n4_374, r5_374, n5_374, rfl, o_r0_374, a_r1_374, f2_374, a_r2_374, f4_374, a_r3_374, f6_374, a_r4_374, f8_374, a_r5_374, f10_374, f11_374, -⟩ := (hG.1 _ _ _ _ hk_374).hX9 rfl
            obtain rfl := fe_r (hq_374 0 (by decide))
            have o_r0_44 := o_r0_374
            obtain rfl := fe_r (hq_374 2 (by decide))
            have hn9 := gI_n hD ((E_364).1 _ _ aa_369) a_r2_374
            subst hn9
            have a_r2_44 := a_r2_374
            obtain rfl := fe_r (hq_374 3 (by decide))
            have hn9 := gI_n hD ((E_364).1 _ _ aa_370) a_r3_374
            subst hn9
            have a_r3_44 := a_r3_374
            obtain rfl := fe_r (hq_374 4 (by decide))
            have hn9 := gI_n hD ((E_364).1 _ _ aa_371) a_r4_374
            subst hn9
            have a_r4_44 := a_r4_374
            obtain rfl := fe_r (hq_374 5 (by decide))
            have hn9 := gI_n hD ((E_364).1 _ _ aa_372) a_r5_374
            subst hn9
            have a_r5_44 := a_r5_374
            refine va_get (D := gD g) (ci := 8) (v := .ref r0_44) (C := RX9) (T := TX9) (N := 6) hx hb hts inX9 hown hK hP k_3 hk_374 rfl 0 (by decide) (hts _ kw_1552) (fun _ h9 => h9) rfl dX9_putCounters_89 ?_
            refine lv_bipush (v := 97) hx hb dX9_putCounters_92 (by decide) ?_
            refine lv_lconst (v := 0) hx hb dX9_putCounters_94 (by decide) ?_
            have hFc := gfree hD hS hA
            obtain ⟨k_375, fs_375, hk_375⟩ := gC_of o_r0_44
            refine va_callv (va_runV (As := [.int 97, .long 0]) (rest := []) ⟨hx, hb, hml, hown, hts⟩ (m_X8_add l g H.size ws_363 r0_44 (97) (0) hG o_r0_44) (cwV 2 hts (gd_V kw_1703 kw_1457 kw_1458 kw_782 kw_1456) rfl rfl rfl (by decide +kernel) ⟨Nat.le_of_ble_eq_true rfl, Nat.le_of_ble_eq_true rfl⟩) ⟨gblind, va_recv hK hP (ci := 7) (q0 := k_375) rfl hk_375, fun U hU hW9 => gmk hU hW9 hP hK hD hex hE hS hFc⟩ rfl rfl hl.1 rfl (lv_room (Nat.le_of_ble_eq_true rfl)) dX9_putCounters_95 ⟨(show dc_19_1 + 0 ≤ PC ws + (12) from (by have e0 : (0 : Int32).toInt = 0 := (by decide); have q_f_50 := f_50; omega)), (show ds_19_1 + 0 ≤ PS ws + (9059) from (by have e0 : (0 : Int32).toInt = 0 := (by decide); have q_f_50 := f_50; omega))⟩) hS (fun q _ h => hFc q h) hFc (fun  ws_376 t9 H1 locs ht9 hvm9 hw9 hB9 hz9 hk9 hS => ?_)
            obtain ⟨E_377, Fr_378, hG, hP1, hD1⟩ := hB9
            have hP : va_P (gD g) cl0 ws_376 H1 := by rw [← ht9]; exact hP1
            have hD : va_D A ws_376 := hD1.weaken (fun _ _ _ h => hFc _ h)
            clear hP1 hD1 hz9 hk9 hvm9 ht9 hw9
            generalize H1 = H at hP hS ⊢
            have aa_381 := a_r1_374
            have aa_382 := a_r2_44
            have aa_383 := a_r3_44
            have aa_384 := a_r4_44
            have aa_385 := a_r5_44
            have o_h0 := E_377.1 _ _ o_h0
            have o_b1 := E_377.1 _ _ o_b1
            have o_b2 := E_377.1 _ _ o_b2
            have pp_386 := Fr_378.pp
            refine lv_aload_n hx hb dX9_putCounters_98 rfl (lv_at hl 0 rfl) ?_
            obtain ⟨fs9, hk_387, hq_387⟩ := ((gF.a (F' := [(7, 2)]) Fr_378 (fun _ h => h))) _ _ _ hk_374
            obtain ⟨r0_387, r1_387, n1_387, r2_387, n2_387, r3_387, n3_387, r4_387, n4_387, r5_387, n5_387, rfl, o_r0_387, a_r1_387, f2_387, a_r2_387, f4_387, a_r3_387, f6_387, a_r4_387, f8_387, a_r5_387, f10_387, f11_387, -⟩ := (hG.1 _ _ _ _ hk_387).hX9 rfl
            obtain rfl := fe_r (hq_387 0 (by decide))
            have o_r0_44 := o_r0_387
            obtain rfl := fe_r (hq_387 2 (by decide))
            have hn9 := gI_n hD ((E_377).1 _ _ aa_382) a_r2_387
            subst hn9
            have a_r2_44 := a_r2_387
            obtain rfl := fe_r (hq_387 3 (by decide))
            have hn9 := gI_n hD ((E_377).1 _ _ aa_383) a_r3_387
            subst hn9
            have a_r3_44 := a_r3_387
            obtain rfl := fe_r (hq_387 4 (by decide))
            have hn9 := gI_n hD ((E_377).1 _ _ aa_384) a_r4_387
            subst hn9
            have a_r4_44 := a_r4_387
            obtain rfl := fe_r (hq_387 5 (by decide))
            have hn9 := gI_n hD ((E_377).1 _ _ aa_385) a_r5_387
            subst hn9
            have a_r5_44 := a_r5_387
            refine va_get (D := gD g) (ci := 8) (v := .ref r0_44) (C := RX9) (T := TX9) (N := 6) hx hb hts inX9 hown hK hP k_3 hk_387 rfl 0 (by decide) (hts _ kw_1552) (fun _ h9 => h9) rfl dX9_putCounters_99 ?_
            refine lv_sipush (v := 179) hx hb dX9_putCounters_102 (by decide) ?_
            refine lv_iload hx hb dX9_putCounters_105 (lv_at hl 3 rfl) ?_
            obtain ⟨z_388, ez_388⟩ : ∃ y : Int64, (v4_57 : Int32).toInt64 = y := ⟨_, rfl⟩
            refine lv_i2l (v := z_388) hx hb dX9_putCounters_107 ez_388 ?_
            have hFc := gfree hD hS hA
            obtain ⟨k_389, fs_389, hk_389⟩ := gC_of o_r0_44
            refine va_callv (va_runV (As := [.int 179, .long z_388]) (rest := []) ⟨hx, hb, hml, hown, hts⟩ (m_X8_add l g H.size ws_376 r0_44 (179) (z_388) hG o_r0_44) (cwV 2 hts (gd_V kw_1703 kw_1457 kw_1458 kw_782 kw_1456) rfl rfl rfl (by decide +kernel) ⟨Nat.le_of_ble_eq_true rfl, Nat.le_of_ble_eq_true rfl⟩) ⟨gblind, va_recv hK hP (ci := 7) (q0 := k_389) rfl hk_389, fun U hU hW9 => gmk hU hW9 hP hK hD hex hE hS hFc⟩ rfl rfl hl.1 rfl (lv_room (Nat.le_of_ble_eq_true rfl)) dX9_putCounters_108 ⟨(show dc_19_1 + 0 ≤ PC ws + (12) from (by have e0 : (0 : Int32).toInt = 0 := (by decide); have q_f_50 := f_50; omega)), (show ds_19_1 + 0 ≤ PS ws + (9059) from (by have e0 : (0 : Int32).toInt = 0 := (by decide); have q_f_50 := f_50; omega))⟩) hS (fun q _ h => hFc q h) hFc (fun  ws_390 t9 H1 locs ht9 hvm9 hw9 hB9 hz9 hk9 hS => ?_)
            obtain ⟨E_391, Fr_392, hG, hP1, hD1⟩ := hB9
            have hP : va_P (gD g) cl0 ws_390 H1 := by rw [← ht9]; exact hP1
            have hD : va_D A ws_390 := hD1.weaken (fun _ _ _ h => hFc _ h)
            clear hP1 hD1 hz9 hk9 hvm9 ht9 hw9
            generalize H1 = H at hP hS ⊢
            have aa_395 := a_r1_387
            have aa_396 := a_r2_44
            have aa_397 := a_r3_44
            have aa_398 := a_r4_44
            have aa_399 := a_r5_44
            have o_h0 := E_391.1 _ _ o_h0
            have o_b1 := E_391.1 _ _ o_b1
            have o_b2 := E_391.1 _ _ o_b2
            have pp_400 := Fr_392.pp
            obtain ⟨z_401, ez_401⟩ : ∃ z : Int32, v4_57 + Int32.ofInt 1 = z := ⟨_, rfl⟩
            refine lv_iinc (v := z_401) (lv' := [(4, .int z_401), (0, .ref h0), (1, .ref b1), (2, .ref b2), (5, .int v5_58)]) hx hb dX9_putCounters_111 hl (k := 3) rfl ez_401 (by decide) rfl (fun ls hl => ?_)
            exact J_114 (z_401) (dc_19_1) (ds_19_1) ws_390 H locs ls ((E_324.tr (E_364.tr (E_377.tr E_391)))) ((gF.tr (gF.mo (F' := [(7, 2)]) (C' := [(7, 0), (7, 1)]) (S' := none) Fr_325 (fun _ h => h) (fun _ h => h) (Or.inl rfl)) (gF.tr (gF.mo (F' := [(7, 2)]) (C' := [(7, 0), (7, 1)]) (S' := none) Fr_365 (fun _ h => h) (fun _ h => h) (Or.inl rfl)) (gF.tr (gF.mo (F' := [(7, 2)]) (C' := [(7, 0), (7, 1)]) (S' := none) Fr_378 (fun _ h => h) (fun _ h => h) (Or.inl rfl)) (gF.mo (F' := [(7, 2)]) (C' := [(7, 0), (7, 1)]) (S' := none) Fr_392 (fun _ h => h) (fun _ h => h) (Or.inl rfl)))))) hG (by have e0 : (0 : Int32).toInt = 0 := (by decide); have q_f_50 := f_50; omega) (by have e0 : (0 : Int32).toInt = 0 := (by decide); have q_f_50 := f_50; omega) hP hD hS (lv_sub hl [1, 2, 3, 0, 4] rfl)
  exact J_19 _ (x3) (0) (0 + dc_13) (0 + ds_14) ws_53 H locs ls rfl (by have e0 : (0 : Int32).toInt = 0 := (by decide); have q_f_50 := f_50; omega) (gE.rf) (gF.rf) hG (by have e0 : (0 : Int32).toInt = 0 := (by decide); have q_f_50 := f_50; omega) (by have e0 : (0 : Int32).toInt = 0 := (by decide); have q_f_50 := f_50; omega) hP hD hS (lv_sub hl [2, 3, 4, 1, 0] rfl)
