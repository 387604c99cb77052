set_option maxHeartbeats 1000000 in
set_option maxRecDepth 100000 in
theorem m_X1_keepTypes (l : Launch) (g : Gm) (H0 : Heap) (ws : va_W) (h0 : Nat) (hG : Good g ws) (o_h0 : gC ws h0 1) (nn_h0_9 : gN ws h0 9) (f2_c : ∀ (k k2 b : Nat) (fs gs : List Value), ows ws k h0 1 fs → fs[9]? = some (.ref b) → ows ws k2 b 7 gs → ∀ c : Int32, gs[2]? = some (.int c) → ∀ (rn n : Nat), fs[2]? = some (.ref rn) → gI ws rn g.cZ n → c.toInt ≤ n) : Met l yX1_keepTypes (wt yX1_keepTypes cX1_keepTypes 5 none) ({ frames := 2, cells := PC ws + (3), slots := PS ws + (3888), locals := 42 }) (va_Pc [.ref h0] (st_H g H0 ws)) (va_Qv (fun (u9 : va_W) => True) (gQ2 g [(7, 12), (7, 13), (7, 14)] [(7, 12), (7, 13), (7, 14)] none (va_A ws H0.size) ws H0 (3) (3888)) (va_A ws H0.size)) (PC ws + (3)) (PS ws + (3888)) (va_A ws H0.size) := by
  refine Met.ofW (cc := cX1_keepTypes) (maxL := 5) (ret := none) (by decide) rfl ?_
  intro p e s m args below meth c s₁ B hml hv
  obtain ⟨rfl, hH0, hsz, hP, hK, hD0, hex, hE⟩ := hv
  have hx := B.exec
  have hb := B.bytes
  have hr := B.returns
  have hts0 := atoms_spec (ws := wt yX1_keepTypes cX1_keepTypes 5 none) B.pre
  have hts : ∀ w ∈ tb, w.before _ s = true := fun w h => hts0 w (List.mem_cons_of_mem _ h)
  have hown : s.vm.findClass RX1 = some m.cls := findClass_of_methodNamed B.named
  subst hH0
  have hD := hD0.self (sz := s.heap.size)
  generalize hAe : va_A ws s.heap.size = A at hD hE ⊢
  have hA : ∀ q : Nat, s.heap.size ≤ q → A q := fun q h => by rw [← hAe]; exact Or.inr h
  have hS : va_S A s.heap s.heap [] := va_S.rf
  have hl := lv_entry ([.ref h0]) (n := 5) (Nat.le_of_ble_eq_true rfl)
  rw [lg_entry_eq]
  generalize (lg_sl ([.ref h0]) ++ List.replicate (5 - (lg_sl ([.ref h0])).length) Slot.unset).toArray = ls at hl ⊢
  have hl : lv_has ls 5 [(0, .ref h0)] := hl
  obtain ⟨k_1, fs9, hk_1⟩ := gC_of o_h0
  obtain ⟨r0_1, r1_1, n1_1, r2_1, n2_1, r3_1, n3_1, r4_1, n4_1, c5_1, c6_1, c7_1, v8_1, v9_1, rfl, o_r0_1, a_r1_1, f2_1, a_r2_1, f4_1, a_r3_1, f6_1, a_r4_1, f8_1, hz_c6_1, hz_c7_1, o_v8_1, o_v9_1, f13_1, f14_1, f15_1, f16_1, -⟩ := (hG.1 _ _ _ _ hk_1).hX1 rfl
  obtain ⟨b_2, hn9⟩ := nn_h0_9 _ _ _ hk_1
  have hn9 := fe_qr hn9
  subst hn9
  have o_b_2 := o_v9_1 _ rfl
  obtain ⟨k_3, fs9, hk_3⟩ := gC_of o_b_2
  obtain ⟨r0_3, n0_3, r1_3, n1_3, c2_3, r3_3, n3_3, c4_3, r5_3, n5_3, r6_3, n6_3, r7_3, n7_3, r8_3, n8_3, c9_3, c10_3, c11_3, v12_3, v13_3, v14_3, rfl, a_r0_3, f1_3, a_r1_3, f3_3, a_r3_3, f5_3, a_r5_3, f7_3, a_r6_3, f9_3, a_r7_3, f11_3, a_r8_3, f13_3, o_v12_3, o_v13_3, o_v14_3, f17_3, f18_3, f19_3, f20_3, f21_3, f22_3, f23_3, f24_3, f25_3, f26_3, f27_3, f28_3, f29_3, -⟩ := (hG.1 _ _ _ _ hk_3).hX8 rfl
  have fq2_c := f2_c _ _ _ _ _ hk_1 rfl hk_3 _ rfl _ _ rfl a_r2_1
  refine lv_aload_n hx hb dX1_keepTypes_0 rfl (lv_at hl 0 rfl) ?_
  refine va_get (D := gD g) (ci := 1) (v := .ref b_2) (C := RX1) (T := TX1) (N := 10) hx hb hts inX1 hown hK hP k_1 hk_1 rfl 9 (by decide) (hts _ kw_479) (fun _ h9 => h9) rfl dX1_keepTypes_1 ?_
  refine lv_aload_n hx hb dX1_keepTypes_4 rfl (lv_at hl 0 rfl) ?_
  refine va_get (D := gD g) (ci := 1) (v := .ref b_2) (C := RX1) (T := TX1) (N := 10) hx hb hts inX1 hown hK hP k_1 hk_1 rfl 9 (by decide) (hts _ kw_479) (fun _ h9 => h9) rfl dX1_keepTypes_5 ?_
  refine va_get (D := gD g) (ci := 7) (v := .int c2_3) (C := RX8) (T := TX8) (N := 15) hx hb hts inX8 hown hK hP k_3 hk_3 rfl 2 (by decide) (hts _ kw_491) (fun _ h9 => h9) rfl dX1_keepTypes_8 ?_
  obtain ⟨n_5, en_5⟩ : ∃ y : Nat, (c2_3 : Int32).toNatClampNeg = y := ⟨_, rfl⟩
  have bn_5 : n_5 ≤ 1296 := i_cl en_5 (by have q_f19_3 := f19_3; have q_f20_3 := f20_3; have q_fq2_c := fq2_c; have q_f4_1 := f4_1; have q_f14_1 := f14_1; have q_f15_1 := f15_1; have q_f16_1 := f16_1; have q_f1_3 := f1_3; have q_f17_3 := f17_3; have q_f18_3 := f18_3; have q_f2_1 := f2_1; have q_f6_1 := f6_1; have q_f3_3 := f3_3; have g_c2_3 := i_rg c2_3; omega)
  have zn_5 : 0 ≤ (c2_3 : Int32).toInt := (by have q_f19_3 := f19_3; have q_f20_3 := f20_3; have q_fq2_c := fq2_c; have q_f4_1 := f4_1; have q_f14_1 := f14_1; have q_f15_1 := f15_1; have q_f16_1 := f16_1; have q_f1_3 := f1_3; have q_f17_3 := f17_3; have q_f18_3 := f18_3; have q_f2_1 := f2_1; have q_f6_1 := f6_1; have q_f3_3 := f3_3; have g_c2_3 := i_rg c2_3; omega)
  have q_n_5 := i_nn en_5 zn_5
  have pg_6 := ge_1_2 hD hk_1 rfl a_r2_1
  refine va_newa (atype := .byte) (ty := .byte) (a0 := (n_5, .inl (fun _ => 0))) (N' := n_5) hx hb (hts (.arrayClass .byte) kw_11) rfl hK hP hD hS hA (fun _ => rfl) (i_nl0 zn_5) en_5 (i_by bn_5 (by decide)) (show 0 + 1 ≤ PC ws + (3) from (by have e0 : (0 : Int32).toInt = 0 := (by decide); have q_f19_3 := f19_3; have q_f20_3 := f20_3; have q_fq2_c := fq2_c; have q_f4_1 := f4_1; have q_f14_1 := f14_1; have q_f15_1 := f15_1; have q_f16_1 := f16_1; have q_f1_3 := f1_3; have q_f17_3 := f17_3; have q_f18_3 := f18_3; have q_f2_1 := f2_1; have q_f6_1 := f6_1; have q_f3_3 := f3_3; have g_c2_3 := i_rg c2_3; omega)) (show 0 + n_5 ≤ PS ws + (3888) from (by have e0 : (0 : Int32).toInt = 0 := (by decide); have q_f19_3 := f19_3; have q_f20_3 := f20_3; have q_fq2_c := fq2_c; have q_f4_1 := f4_1; have q_f14_1 := f14_1; have q_f15_1 := f15_1; have q_f16_1 := f16_1; have q_f1_3 := f1_3; have q_f17_3 := f17_3; have q_f18_3 := f18_3; have q_f2_1 := f2_1; have q_f6_1 := f6_1; have q_f3_3 := f3_3; have g_c2_3 := i_rg c2_3; omega)) dX1_keepTypes_11 (fun q_4 cA9 H hK9 hP hD hS => ?_)
  obtain rfl := cls_new hK hK9 (k := 0) rfl (fun _ h => by cases h)
  clear hK9
  have hD9 := hD
  obtain ⟨ws_7, e_ws_7⟩ : ∃ z, z = ws ++ [(q_4, .inl (g.cB, n_5, .inl (fun _ => 0)))] := ⟨_, rfl⟩
  have hP : va_P (gD g) cl0 ws_7 H := by rw [e_ws_7]; exact hP
  have hD : va_D A ws_7 := by rw [e_ws_7]; exact hD
  have E_8 : gE ws ws_7 := by rw [e_ws_7]; exact gE_push
  have Fr_9 : gF [] [] none ws ws_7 := by rw [e_ws_7]; exact gF_push
  have fr_q_4 : frs ws_7 q_4 := by rw [e_ws_7]; exact frs_new hD9 hG.u
  have hG : Good g ws_7 := by rw [e_ws_7]; exact Good_pushI hD9 hG
  have a_q_4 : gI ws_7 q_4 g.cB n_5 := by rw [e_ws_7]; exact gS_new
  have s_q_4 : n_5 < 2147483648 := Nat.lt_of_le_of_lt bn_5 (by decide)
  have pp_10 := Fr_9.pp
  have hk_1 := get_oldE e_ws_7 hk_1
  have hk_3 := get_oldE e_ws_7 hk_3
  have o_h0 := E_8.1 _ _ o_h0
  have o_r0_1 := E_8.1 _ _ o_r0_1
  have a_r1_1 := E_8.1 _ _ a_r1_1
  have a_r2_1 := E_8.1 _ _ a_r2_1
  have a_r3_1 := E_8.1 _ _ a_r3_1
  have a_r4_1 := E_8.1 _ _ a_r4_1
  have o_v8_1 : ∀ b, v8_1 = some b → gC ws_7 b 9 := fun b h => E_8.1 _ _ (o_v8_1 b h)
  have o_b_2 := E_8.1 _ _ o_b_2
  have a_r0_3 := E_8.1 _ _ a_r0_3
  have a_r1_3 := E_8.1 _ _ a_r1_3
  have a_r3_3 := E_8.1 _ _ a_r3_3
  have a_r5_3 := E_8.1 _ _ a_r5_3
  have a_r6_3 := E_8.1 _ _ a_r6_3
  have a_r7_3 := E_8.1 _ _ a_r7_3
  have a_r8_3 := E_8.1 _ _ a_r8_3
  have o_v12_3 : ∀ b, v12_3 = some b → ∃ n, gI ws_7 b g.cB n ∧ n < 2147483648 := fun b h => (o_v12_3 b h).imp (fun n h => ⟨E_8.1 _ _ h.1, h.2⟩)
  have o_v13_3 : ∀ b, v13_3 = some b → ∃ n, gJ ws_7 b g.cL n ∧ n < 2147483648 := fun b h => (o_v13_3 b h).imp (fun n h => ⟨E_8.1 _ _ h.1, h.2⟩)
  have o_v14_3 : ∀ b, v14_3 = some b → ∃ n, gJ ws_7 b g.cL n ∧ n < 2147483648 := fun b h => (o_v14_3 b h).imp (fun n h => ⟨E_8.1 _ _ h.1, h.2⟩)
  have hV9 : okv ws_7 7 12 (.ref q_4) := (okv_a a_q_4 fr_q_4)
  refine va_put (D := gD g) (ci := 7) (v := .ref q_4) (ty := (.array .byte)) (C := RX8) (T := TX8) (N := 15) hx hb hts inX8 tyX8 tyX8_ok nmX8 hown hK hP hD hS k_3 hk_3 rfl 12 (by decide) (hts _ kw_563) (fun _ h9 => h9) rfl (by decide +kernel) rfl rfl (Nat.le_of_ble_eq_true rfl) dX1_keepTypes_13 (fun H locs hP hD hS => ?_)
  have hi_11 : invX8 g ws_7 b_2 [.ref r0_3, .ref r1_3, .int c2_3, .ref r3_3, .int c4_3, .ref r5_3, .ref r6_3, .ref r7_3, .ref r8_3, .int c9_3, .int c10_3, .int c11_3, .ref q_4, va_rf v13_3, va_rf v14_3] := ⟨r0_3, (n0_3), r1_3, (n1_3), (c2_3), r3_3, (n3_3), (c4_3), r5_3, (n5_3), r6_3, (n6_3), r7_3, (n7_3), r8_3, (n8_3), (c9_3), (c10_3), (c11_3), (some q_4), v13_3, v14_3, rfl, a_r0_3, f1_3, a_r1_3, f3_3, a_r3_3, f5_3, a_r5_3, f7_3, a_r6_3, f9_3, a_r7_3, f11_3, a_r8_3, f13_3, (fun b h9 => by cases h9; exact ⟨_, a_q_4, s_q_4⟩), o_v13_3, o_v14_3, f17_3, f18_3, f19_3, f20_3, f21_3, f22_3, f23_3, f24_3, f25_3, f26_3, f27_3, f28_3, f29_3, trivial⟩
  obtain ⟨ws_12, e_ws_12⟩ : ∃ z, z = ws_7.set k_3 (b_2, .inr (7, [.ref r0_3, .ref r1_3, .int c2_3, .ref r3_3, .int c4_3, .ref r5_3, .ref r6_3, .ref r7_3, .ref r8_3, .int c9_3, .int c10_3, .int c11_3, .ref q_4, va_rf v13_3, va_rf v14_3])) := ⟨_, rfl⟩
  have hP : va_P (gD g) cl0 ws_12 H := by rw [e_ws_12]; exact hP
  have hD : va_D A ws_12 := by rw [e_ws_12]; exact hD
  have E_13 : gE ws_7 ws_12 := gE_set e_ws_12 hk_3 (cw_o (fi := 12) (v := .ref q_4) rfl (by decide))
  have hG : Good g ws_12 := Good_set (fi := 12) (v := .ref q_4) e_ws_12 hk_3 E_13 rfl hV9 hG (ivX8 hi_11)
  have Fr_14 : gF [(7, 12)] [] (some b_2) ws_7 ws_12 := gF_put (fi := 12) (v := .ref q_4) e_ws_12 hk_3 rfl (by decide)
  have pp_15 := Fr_14.pp
  have hkN := gset_self e_ws_12 hk_3
  have hk_1 := gset_ob e_ws_12 hk_3 hk_1 (by decide)
  have hk_3 := hkN
  have o_h0 := E_13.1 _ _ o_h0
  have o_r0_1 := E_13.1 _ _ o_r0_1
  have a_r1_1 := E_13.1 _ _ a_r1_1
  have a_r2_1 := E_13.1 _ _ a_r2_1
  have a_r3_1 := E_13.1 _ _ a_r3_1
  have a_r4_1 := E_13.1 _ _ a_r4_1
  have o_v8_1 : ∀ b, v8_1 = some b → gC ws_12 b 9 := fun b h => E_13.1 _ _ (o_v8_1 b h)
  have o_b_2 := E_13.1 _ _ o_b_2
  have a_r0_3 := E_13.1 _ _ a_r0_3
  have a_r1_3 := E_13.1 _ _ a_r1_3
  have a_r3_3 := E_13.1 _ _ a_r3_3
  have a_r5_3 := E_13.1 _ _ a_r5_3
  have a_r6_3 := E_13.1 _ _ a_r6_3
  have a_r7_3 := E_13.1 _ _ a_r7_3
  have a_r8_3 := E_13.1 _ _ a_r8_3
  have o_v13_3 : ∀ b, v13_3 = some b → ∃ n, gJ ws_12 b g.cL n ∧ n < 2147483648 := fun b h => (o_v13_3 b h).imp (fun n h => ⟨E_13.1 _ _ h.1, h.2⟩)
  have o_v14_3 : ∀ b, v14_3 = some b → ∃ n, gJ ws_12 b g.cL n ∧ n < 2147483648 := fun b h => (o_v14_3 b h).imp (fun n h => ⟨E_13.1 _ _ h.1, h.2⟩)
  have a_q_4 := E_13.1 _ _ a_q_4
  refine lv_aload_n hx hb dX1_keepTypes_16 rfl (lv_at hl 0 rfl) ?_
  refine va_get (D := gD g) (ci := 1) (v := .ref b_2) (C := RX1) (T := TX1) (N := 10) hx hb hts inX1 hown hK hP k_1 hk_1 rfl 9 (by decide) (hts _ kw_479) (fun _ h9 => h9) rfl dX1_keepTypes_17 ?_
  refine lv_aload_n hx hb dX1_keepTypes_20 rfl (lv_at hl 0 rfl) ?_
  refine va_get (D := gD g) (ci := 1) (v := .ref b_2) (C := RX1) (T := TX1) (N := 10) hx hb hts inX1 hown hK hP k_1 hk_1 rfl 9 (by decide) (hts _ kw_479) (fun _ h9 => h9) rfl dX1_keepTypes_21 ?_
  refine va_get (D := gD g) (ci := 7) (v := .int c2_3) (C := RX8) (T := TX8) (N := 15) hx hb hts inX8 hown hK hP k_3 hk_3 rfl 2 (by decide) (hts _ kw_491) (fun _ h9 => h9) rfl dX1_keepTypes_24 ?_
  obtain ⟨n_17, en_17⟩ : ∃ y : Nat, (c2_3 : Int32).toNatClampNeg = y := ⟨_, rfl⟩
  have bn_17 : n_17 ≤ 1296 := i_cl en_17 (by have q_f19_3 := f19_3; have q_f20_3 := f20_3; have q_fq2_c := fq2_c; have q_n_5 := i_nn en_5 zn_5; have q_f4_1 := f4_1; have q_f14_1 := f14_1; have q_f15_1 := f15_1; have q_f16_1 := f16_1; have q_f1_3 := f1_3; have q_f17_3 := f17_3; have q_f18_3 := f18_3; have q2_n_5 := bn_5; have q_f2_1 := f2_1; have q_f6_1 := f6_1; have q_f3_3 := f3_3; have g_c2_3 := i_rg c2_3; omega)
  have zn_17 : 0 ≤ (c2_3 : Int32).toInt := (by have q_f19_3 := f19_3; have q_f20_3 := f20_3; have q_fq2_c := fq2_c; have q_n_5 := i_nn en_5 zn_5; have q_f4_1 := f4_1; have q_f14_1 := f14_1; have q_f15_1 := f15_1; have q_f16_1 := f16_1; have q_f1_3 := f1_3; have q_f17_3 := f17_3; have q_f18_3 := f18_3; have q2_n_5 := bn_5; have q_f2_1 := f2_1; have q_f6_1 := f6_1; have q_f3_3 := f3_3; have g_c2_3 := i_rg c2_3; omega)
  have q_n_17 := i_nn en_17 zn_17
  have pg_18 := ge_1_2 hD hk_1 rfl a_r2_1
  refine va_newa (atype := .long) (ty := .long) (a0 := (n_17, .inr (.inl (fun _ => 0)))) (N' := n_17) hx hb (hts (.arrayClass .long) kw_564) rfl hK hP hD hS hA (fun _ => rfl) (i_nl0 zn_17) en_17 (i_by bn_17 (by decide)) (show 0 + 1 + 1 ≤ PC ws + (3) from (by have q_f19_3 := f19_3; have q_f20_3 := f20_3; have q_fq2_c := fq2_c; have q_n_5 := i_nn en_5 zn_5; have q2_n_5 := bn_5; have q_f4_1 := f4_1; have q_f14_1 := f14_1; have q_f15_1 := f15_1; have q_f16_1 := f16_1; have q_f1_3 := f1_3; have q_f17_3 := f17_3; have q_f18_3 := f18_3; have q_f2_1 := f2_1; have q_f6_1 := f6_1; have q_f3_3 := f3_3; have g_c2_3 := i_rg c2_3; omega)) (show 0 + n_5 + n_17 ≤ PS ws + (3888) from (by have q_f19_3 := f19_3; have q_f20_3 := f20_3; have q_fq2_c := fq2_c; have q_n_5 := i_nn en_5 zn_5; have q2_n_5 := bn_5; have q_f4_1 := f4_1; have q_f14_1 := f14_1; have q_f15_1 := f15_1; have q_f16_1 := f16_1; have q_f1_3 := f1_3; have q_f17_3 := f17_3; have q_f18_3 := f18_3; have q_f2_1 := f2_1; have q_f6_1 := f6_1; have q_f3_3 := f3_3; have g_c2_3 := i_rg c2_3; omega)) dX1_keepTypes_27 (fun q_16 cA9 H hK9 hP hD hS => ?_)
  obtain rfl := cls_new hK hK9 (k := 3) rfl (fun _ h => by cases h)
  clear hK9
  have hD9 := hD
  obtain ⟨ws_19, e_ws_19⟩ : ∃ z, z = ws_12 ++ [(q_16, .inl (g.cL, n_17, .inr (.inl (fun _ => 0))))] := ⟨_, rfl⟩
  have hP : va_P (gD g) cl0 ws_19 H := by rw [e_ws_19]; exact hP
  have hD : va_D A ws_19 := by rw [e_ws_19]; exact hD
  have E_20 : gE ws_12 ws_19 := by rw [e_ws_19]; exact gE_push
  have Fr_21 : gF [] [] none ws_12 ws_19 := by rw [e_ws_19]; exact gF_push
  have fr_q_16 : frs ws_19 q_16 := by rw [e_ws_19]; exact frs_new hD9 hG.u
  have hG : Good g ws_19 := by rw [e_ws_19]; exact Good_pushJ hD9 hG
  have a_q_16 : gJ ws_19 q_16 g.cL n_17 := by rw [e_ws_19]; exact gS_new
  have s_q_16 : n_17 < 2147483648 := Nat.lt_of_le_of_lt bn_17 (by decide)
  have pp_22 := Fr_21.pp
  have hk_1 := get_oldE e_ws_19 hk_1
  have hk_3 := get_oldE e_ws_19 hk_3
  have o_h0 := E_20.1 _ _ o_h0
  have o_r0_1 := E_20.1 _ _ o_r0_1
  have a_r1_1 := E_20.1 _ _ a_r1_1
  have a_r2_1 := E_20.1 _ _ a_r2_1
  have a_r3_1 := E_20.1 _ _ a_r3_1
  have a_r4_1 := E_20.1 _ _ a_r4_1
  have o_v8_1 : ∀ b, v8_1 = some b → gC ws_19 b 9 := fun b h => E_20.1 _ _ (o_v8_1 b h)
  have o_b_2 := E_20.1 _ _ o_b_2
  have a_r0_3 := E_20.1 _ _ a_r0_3
  have a_r1_3 := E_20.1 _ _ a_r1_3
  have a_r3_3 := E_20.1 _ _ a_r3_3
  have a_r5_3 := E_20.1 _ _ a_r5_3
  have a_r6_3 := E_20.1 _ _ a_r6_3
  have a_r7_3 := E_20.1 _ _ a_r7_3
  have a_r8_3 := E_20.1 _ _ a_r8_3
  have o_v13_3 : ∀ b, v13_3 = some b → ∃ n, gJ ws_19 b g.cL n ∧ n < 2147483648 := fun b h => (o_v13_3 b h).imp (fun n h => ⟨E_20.1 _ _ h.1, h.2⟩)
  have o_v14_3 : ∀ b, v14_3 = some b → ∃ n, gJ ws_19 b g.cL n ∧ n < 2147483648 := fun b h => (o_v14_3 b h).imp (fun n h => ⟨E_20.1 _ _ h.1, h.2⟩)
  have a_q_4 := E_20.1 _ _ a_q_4
  have hV9 : okv ws_19 7 13 (.ref q_16) := (okv_a a_q_16 fr_q_16)
  refine va_put (D := gD g) (ci := 7) (v := .ref q_16) (ty := (.array .long)) (C := RX8) (T := TX8) (N := 15) hx hb hts inX8 tyX8 tyX8_ok nmX8 hown hK hP hD hS k_3 hk_3 rfl 13 (by decide) (hts _ kw_565) (fun _ h9 => h9) rfl (by decide +kernel) rfl rfl (Nat.le_of_ble_eq_true rfl) dX1_keepTypes_29 (fun H locs hP hD hS => ?_)
  have hi_23 : invX8 g ws_19 b_2 [.ref r0_3, .ref r1_3, .int c2_3, .ref r3_3, .int c4_3, .ref r5_3, .ref r6_3, .ref r7_3, .ref r8_3, .int c9_3, .int c10_3, .int c11_3, .ref q_4, .ref q_16, va_rf v14_3] := ⟨r0_3, (n0_3), r1_3, (n1_3), (c2_3), r3_3, (n3_3), (c4_3), r5_3, (n5_3), r6_3, (n6_3), r7_3, (n7_3), r8_3, (n8_3), (c9_3), (c10_3), (c11_3), (some q_4), (some q_16), v14_3, rfl, a_r0_3, f1_3, a_r1_3, f3_3, a_r3_3, f5_3, a_r5_3, f7_3, a_r6_3, f9_3, a_r7_3, f11_3, a_r8_3, f13_3, (fun b h9 => by cases h9; exact ⟨_, a_q_4, s_q_4⟩), (fun b h9 => by cases h9; exact ⟨_, a_q_16, s_q_16⟩), o_v14_3, f17_3, f18_3, f19_3, f20_3, f21_3, f22_3, f23_3, f24_3, f25_3, f26_3, f27_3, f28_3, f29_3, trivial⟩
  obtain ⟨ws_24, e_ws_24⟩ : ∃ z, z = ws_19.set k_3 (b_2, .inr (7, [.ref r0_3, .ref r1_3, .int c2_3, .ref r3_3, .int c4_3, .ref r5_3, .ref r6_3, .ref r7_3, .ref r8_3, .int c9_3, .int c10_3, .int c11_3, .ref q_4, .ref q_16, va_rf v14_3])) := ⟨_, rfl⟩
  have hP : va_P (gD g) cl0 ws_24 H := by rw [e_ws_24]; exact hP
  have hD : va_D A ws_24 := by rw [e_ws_24]; exact hD
  have E_25 : gE ws_19 ws_24 := gE_set e_ws_24 hk_3 (cw_o (fi := 13) (v := .ref q_16) rfl (by decide))
  have hG : Good g ws_24 := Good_set (fi := 13) (v := .ref q_16) e_ws_24 hk_3 E_25 rfl hV9 hG (ivX8 hi_23)
  have Fr_26 : gF [(7, 13)] [] (some b_2) ws_19 ws_24 := gF_put (fi := 13) (v := .ref q_16) e_ws_24 hk_3 rfl (by decide)
  have pp_27 := Fr_26.pp
  have hkN := gset_self e_ws_24 hk_3
  have hk_1 := gset_ob e_ws_24 hk_3 hk_1 (by decide)
  have hk_3 := hkN
  have o_h0 := E_25.1 _ _ o_h0
  have o_r0_1 := E_25.1 _ _ o_r0_1
  have a_r1_1 := E_25.1 _ _ a_r1_1
  have a_r2_1 := E_25.1 _ _ a_r2_1
  have a_r3_1 := E_25.1 _ _ a_r3_1
  have a_r4_1 := E_25.1 _ _ a_r4_1
  have o_v8_1 : ∀ b, v8_1 = some b → gC ws_24 b 9 := fun b h => E_25.1 _ _ (o_v8_1 b h)
  have o_b_2 := E_25.1 _ _ o_b_2
  have a_r0_3 := E_25.1 _ _ a_r0_3
  have a_r1_3 := E_25.1 _ _ a_r1_3
  have a_r3_3 := E_25.1 _ _ a_r3_3
  have a_r5_3 := E_25.1 _ _ a_r5_3
  have a_r6_3 := E_25.1 _ _ a_r6_3
  have a_r7_3 := E_25.1 _ _ a_r7_3
  have a_r8_3 := E_25.1 _ _ a_r8_3
  have o_v14_3 : ∀ b, v14_3 = some b → ∃ n, gJ ws_24 b g.cL n ∧ n < 2147483648 := fun b h => (o_v14_3 b h).imp (fun n h => ⟨E_25.1 _ _ h.1, h.2⟩)
  have a_q_4 := E_25.1 _ _ a_q_4
  have a_q_16 := E_25.1 _ _ a_q_16
  refine lv_aload_n hx hb dX1_keepTypes_32 rfl (lv_at hl 0 rfl) ?_
  refine va_get (D := gD g) (ci := 1) (v := .ref b_2) (C := RX1) (T := TX1) (N := 10) hx hb hts inX1 hown hK hP k_1 hk_1 rfl 9 (by decide) (hts _ kw_479) (fun _ h9 => h9) rfl dX1_keepTypes_33 ?_
  refine lv_aload_n hx hb dX1_keepTypes_36 rfl (lv_at hl 0 rfl) ?_
  refine va_get (D := gD g) (ci := 1) (v := .ref b_2) (C := RX1) (T := TX1) (N := 10) hx hb hts inX1 hown hK hP k_1 hk_1 rfl 9 (by decide) (hts _ kw_479) (fun _ h9 => h9) rfl dX1_keepTypes_37 ?_
  refine va_get (D := gD g) (ci := 7) (v := .int c2_3) (C := RX8) (T := TX8) (N := 15) hx hb hts inX8 hown hK hP k_3 hk_3 rfl 2 (by decide) (hts _ kw_491) (fun _ h9 => h9) rfl dX1_keepTypes_40 ?_
  obtain ⟨n_29, en_29⟩ : ∃ y : Nat, (c2_3 : Int32).toNatClampNeg = y := ⟨_, rfl⟩
  have bn_29 : n_29 ≤ 1296 := i_cl en_29 (by have q_f19_3 := f19_3; have q_f20_3 := f20_3; have q_fq2_c := fq2_c; have q_n_5 := i_nn en_5 zn_5; have q_n_17 := i_nn en_17 zn_17; have q_f4_1 := f4_1; have q_f14_1 := f14_1; have q_f15_1 := f15_1; have q_f16_1 := f16_1; have q_f1_3 := f1_3; have q_f17_3 := f17_3; have q_f18_3 := f18_3; have q2_n_5 := bn_5; have q2_n_17 := bn_17; have q_f2_1 := f2_1; have q_f6_1 := f6_1; have q_f3_3 := f3_3; have g_c2_3 := i_rg c2_3; omega)
  have zn_29 : 0 ≤ (c2_3 : Int32).toInt := (by have q_f19_3 := f19_3; have q_f20_3 := f20_3; have q_fq2_c := fq2_c; have q_n_5 := i_nn en_5 zn_5; have q_n_17 := i_nn en_17 zn_17; have q_f4_1 := f4_1; have q_f14_1 := f14_1; have q_f15_1 := f15_1; have q_f16_1 := f16_1; have q_f1_3 := f1_3; have q_f17_3 := f17_3; have q_f18_3 := f18_3; have q2_n_5 := bn_5; have q2_n_17 := bn_17; have q_f2_1 := f2_1; have q_f6_1 := f6_1; have q_f3_3 := f3_3; have g_c2_3 := i_rg c2_3; omega)
  have q_n_29 := i_nn en_29 zn_29
  have pg_30 := ge_1_2 hD hk_1 rfl a_r2_1
  refine va_newa (atype := .long) (ty := .long) (a0 := (n_29, .inr (.inl (fun _ => 0)))) (N' := n_29) hx hb (hts (.arrayClass .long) kw_564) rfl hK hP hD hS hA (fun _ => rfl) (i_nl0 zn_29) en_29 (i_by bn_29 (by decide)) (show 0 + 1 + 1 + 1 ≤ PC ws + (3) from (by have q_f19_3 := f19_3; have q_f20_3 := f20_3; have q_fq2_c := fq2_c; have q_n_5 := i_nn en_5 zn_5; have q2_n_5 := bn_5; have q_n_17 := i_nn en_17 zn_17; have q2_n_17 := bn_17; have q_f4_1 := f4_1; have q_f14_1 := f14_1; have q_f15_1 := f15_1; have q_f16_1 := f16_1; have q_f1_3 := f1_3; have q_f17_3 := f17_3; have q_f18_3 := f18_3; have q_f2_1 := f2_1; have q_f6_1 := f6_1; have q_f3_3 := f3_3; have g_c2_3 := i_rg c2_3; omega)) (show 0 + n_5 + n_17 + n_29 ≤ PS ws + (3888) from (by have q_f19_3 := f19_3; have q_f20_3 := f20_3; have q_fq2_c := fq2_c; have q_n_5 := i_nn en_5 zn_5; have q2_n_5 := bn_5; have q_n_17 := i_nn en_17 zn_17; have q2_n_17 := bn_17; have q_f4_1 := f4_1; have q_f14_1 := f14_1; have q_f15_1 := f15_1; have q_f16_1 := f16_1; have q_f1_3 := f1_3; have q_f17_3 := f17_3; have q_f18_3 := f18_3; have q_f2_1 := f2_1; have q_f6_1 := f6_1; have q_f3_3 := f3_3; have g_c2_3 := i_rg c2_3; omega)) dX1_keepTypes_43 (fun q_28 cA9 H hK9 hP hD hS => ?_)
  obtain rfl := cls_new hK hK9 (k := 3) rfl (fun _ h => by cases h)
  clear hK9
  have hD9 := hD
  obtain ⟨ws_31, e_ws_31⟩ : ∃ z, z = ws_24 ++ [(q_28, .inl (g.cL, n_29, .inr (.inl (fun _ => 0))))] := ⟨_, rfl⟩
  have hP : va_P (gD g) cl0 ws_31 H := by rw [e_ws_31]; exact hP
  have hD : va_D A ws_31 := by rw [e_ws_31]; exact hD
  have E_32 : gE ws_24 ws_31 := by rw [e_ws_31]; exact gE_push
  have Fr_33 : gF [] [] none ws_24 ws_31 := by rw [e_ws_31]; exact gF_push
  have fr_q_28 : frs ws_31 q_28 := by rw [e_ws_31]; exact frs_new hD9 hG.u
  have hG : Good g ws_31 := by rw [e_ws_31]; exact Good_pushJ hD9 hG
  have a_q_28 : gJ ws_31 q_28 g.cL n_29 := by rw [e_ws_31]; exact gS_new
  have s_q_28 : n_29 < 2147483648 := Nat.lt_of_le_of_lt bn_29 (by decide)
  have pp_34 := Fr_33.pp
  have hk_1 := get_oldE e_ws_31 hk_1
  have hk_3 := get_oldE e_ws_31 hk_3
  have o_h0 := E_32.1 _ _ o_h0
  have o_r0_1 := E_32.1 _ _ o_r0_1
  have a_r1_1 := E_32.1 _ _ a_r1_1
  have a_r2_1 := E_32.1 _ _ a_r2_1
  have a_r3_1 := E_32.1 _ _ a_r3_1
  have a_r4_1 := E_32.1 _ _ a_r4_1
  have o_v8_1 : ∀ b, v8_1 = some b → gC ws_31 b 9 := fun b h => E_32.1 _ _ (o_v8_1 b h)
  have o_b_2 := E_32.1 _ _ o_b_2
  have a_r0_3 := E_32.1 _ _ a_r0_3
  have a_r1_3 := E_32.1 _ _ a_r1_3
  have a_r3_3 := E_32.1 _ _ a_r3_3
  have a_r5_3 := E_32.1 _ _ a_r5_3
  have a_r6_3 := E_32.1 _ _ a_r6_3
  have a_r7_3 := E_32.1 _ _ a_r7_3
  have a_r8_3 := E_32.1 _ _ a_r8_3
  have o_v14_3 : ∀ b, v14_3 = some b → ∃ n, gJ ws_31 b g.cL n ∧ n < 2147483648 := fun b h => (o_v14_3 b h).imp (fun n h => ⟨E_32.1 _ _ h.1, h.2⟩)
  have a_q_4 := E_32.1 _ _ a_q_4
  have a_q_16 := E_32.1 _ _ a_q_16
  have hV9 : okv ws_31 7 14 (.ref q_28) := (okv_a a_q_28 fr_q_28)
  refine va_put (D := gD g) (ci := 7) (v := .ref q_28) (ty := (.array .long)) (C := RX8) (T := TX8) (N := 15) hx hb hts inX8 tyX8 tyX8_ok nmX8 hown hK hP hD hS k_3 hk_3 rfl 14 (by decide) (hts _ kw_566) (fun _ h9 => h9) rfl (by decide +kernel) rfl rfl (Nat.le_of_ble_eq_true rfl) dX1_keepTypes_45 (fun H locs hP hD hS => ?_)
  have hi_35 : invX8 g ws_31 b_2 [.ref r0_3, .ref r1_3, .int c2_3, .ref r3_3, .int c4_3, .ref r5_3, .ref r6_3, .ref r7_3, .ref r8_3, .int c9_3, .int c10_3, .int c11_3, .ref q_4, .ref q_16, .ref q_28] := ⟨r0_3, (n0_3), r1_3, (n1_3), (c2_3), r3_3, (n3_3), (c4_3), r5_3, (n5_3), r6_3, (n6_3), r7_3, (n7_3), r8_3, (n8_3), (c9_3), (c10_3), (c11_3), (some q_4), (some q_16), (some q_28), rfl, a_r0_3, f1_3, a_r1_3, f3_3, a_r3_3, f5_3, a_r5_3, f7_3, a_r6_3, f9_3, a_r7_3, f11_3, a_r8_3, f13_3, (fun b h9 => by cases h9; exact ⟨_, a_q_4, s_q_4⟩), (fun b h9 => by cases h9; exact ⟨_, a_q_16, s_q_16⟩), (fun b h9 => by cases h9; exact ⟨_, a_q_28, s_q_28⟩), f17_3, f18_3, f19_3, f20_3, f21_3, f22_3, f23_3, f24_3, f25_3, f26_3, f27_3, f28_3, f29_3, trivial⟩
  obtain ⟨ws_36, e_ws_36⟩ : ∃ z, z = ws_31.set k_3 (b_2, .inr (7, [.ref r0_3, .ref r1_3, .int c2_3, .ref r3_3, .int c4_3, .ref r5_3, .ref r6_3, .ref r7_3, .ref r8_3, .int c9_3, .int c10_3, .int c11_3, .ref q_4, .ref q_16, .ref q_28])) := ⟨_, rfl⟩
  have hP : va_P (gD g) cl0 ws_36 H := by rw [e_ws_36]; exact hP
  have hD : va_D A ws_36 := by rw [e_ws_36]; exact hD
  have E_37 : gE ws_31 ws_36 := gE_set e_ws_36 hk_3 (cw_o (fi := 14) (v := .ref q_28) rfl (by decide))
  have hG : Good g ws_36 := Good_set (fi := 14) (v := .ref q_28) e_ws_36 hk_3 E_37 rfl hV9 hG (ivX8 hi_35)
  have Fr_38 : gF [(7, 14)] [] (some b_2) ws_31 ws_36 := gF_put (fi := 14) (v := .ref q_28) e_ws_36 hk_3 rfl (by decide)
  have pp_39 := Fr_38.pp
  have hkN := gset_self e_ws_36 hk_3
  have hk_1 := gset_ob e_ws_36 hk_3 hk_1 (by decide)
  have hk_3 := hkN
  have o_h0 := E_37.1 _ _ o_h0
  have o_r0_1 := E_37.1 _ _ o_r0_1
  have a_r1_1 := E_37.1 _ _ a_r1_1
  have a_r2_1 := E_37.1 _ _ a_r2_1
  have a_r3_1 := E_37.1 _ _ a_r3_1
  have a_r4_1 := E_37.1 _ _ a_r4_1
  have o_v8_1 : ∀ b, v8_1 = some b → gC ws_36 b 9 := fun b h => E_37.1 _ _ (o_v8_1 b h)
  have o_b_2 := E_37.1 _ _ o_b_2
  have a_r0_3 := E_37.1 _ _ a_r0_3
  have a_r1_3 := E_37.1 _ _ a_r1_3
  have a_r3_3 := E_37.1 _ _ a_r3_3
  have a_r5_3 := E_37.1 _ _ a_r5_3
  have a_r6_3 := E_37.1 _ _ a_r6_3
  have a_r7_3 := E_37.1 _ _ a_r7_3
  have a_r8_3 := E_37.1 _ _ a_r8_3
  have a_q_4 := E_37.1 _ _ a_q_4
  have a_q_16 := E_37.1 _ _ a_q_16
  have a_q_28 := E_37.1 _ _ a_q_28
  refine lv_iconst (v := 0) hx hb dX1_keepTypes_48 (by decide) ?_
  refine lv_istore_n (lv' := [(1, .int 0), (0, .ref h0)]) hx hb dX1_keepTypes_49 rfl hl (by decide) rfl (fun ls hl => ?_)
  have J_50 : ∀ (n9 : Nat) (v1_40 : Int32) (dc_50_1 : Nat) (ds_50_1 : Nat) (ws_42 : va_W) (H : Heap) (locs : List Loc) (ls : Array Slot), (2147483647 - v1_40.toInt).toNat = n9 → 0 ≤ v1_40.toInt → gE ws_36 ws_42 → gF [] [(7, 12), (7, 13), (7, 14)] none ws_36 ws_42 → Good g ws_42 → dc_50_1 + PC ws_42 ≤ PC ws + (3) → ds_50_1 + PS ws_42 ≤ PS ws + (3888) → va_P (gD g) cl0 ws_42 H → va_D A ws_42 → va_S A s.heap H locs → lv_has ls 5 [(0, .ref h0), (1, .int v1_40)] → W p l e (headSpec (wt yX1_keepTypes cX1_keepTypes 5 none) ({ frames := 2, cells := PC ws + (3), slots := PS ws + (3888), locals := 42 })).room s m ([.ref h0] : List Value).toArray below meth c H locs (dc_50_1) (ds_50_1) (MQ below (va_Qv (fun (u9 : va_W) => True) (gQ2 g [(7, 12), (7, 13), (7, 14)] [(7, 12), (7, 13), (7, 14)] none A ws s.heap (3) (3888)) A) ([.ref h0] : List Value).toArray s (PC ws + (3)) (PS ws + (3888)) A) (F0 m 50 ls []) := by
    intro n9
    induction n9 using Nat.strongRecOn with
    | ind n9 ih_50 =>
      intro v1_40 dc_50_1 ds_50_1 ws_42 H locs ls hm9 iv_41 E_43 Fr_44 hG hc9 hs9 hP hD hS hl
      subst hm9
      have aa_45 := a_r1_1
      have aa_46 := a_r2_1
      have aa_47 := a_r3_1
      have aa_48 := a_r4_1
      have aa_49 := a_r0_3
      have aa_50 := a_r1_3
      have aa_51 := a_r3_3
      have aa_52 := a_r5_3
      have aa_53 := a_r6_3
      have aa_54 := a_r7_3
      have aa_55 := a_r8_3
      have aa_56 := a_q_4
      have aa_57 := a_q_16
      have aa_58 := a_q_28
      have o_h0 := E_43.1 _ _ o_h0
      refine lv_iload_n hx hb dX1_keepTypes_50 rfl (lv_at hl 1 rfl) ?_
      refine lv_aload_n hx hb dX1_keepTypes_51 rfl (lv_at hl 0 rfl) ?_
      obtain ⟨fs9, hk_59, hq_59⟩ := ((gF.a (F' := []) Fr_44 (fun _ h => h))) _ _ _ hk_1
      obtain ⟨r0_59, r1_59, n1_59, r2_59, n2_59, r3_59, n3_59, r4_59, n4_59, c5_59, c6_59, c7_59, v8_59, v9_59, rfl, o_r0_59, a_r1_59, f2_59, a_r2_59, f4_59, a_r3_59, f6_59, a_r4_59, f8_59, hz_c6_59, hz_c7_59, o_v8_59, o_v9_59, f13_59, f14_59, f15_59, f16_59, -⟩ := (hG.1 _ _ _ _ hk_59).hX1 rfl
      obtain rfl := fe_r (hq_59 0 (by decide))
      have o_r0_1 := o_r0_59
      obtain rfl := fe_r (hq_59 1 (by decide))
      have hn9 := gI_n hD ((E_43).1 _ _ aa_45) a_r1_59
      subst hn9
      have a_r1_1 := a_r1_59
      obtain rfl := fe_r (hq_59 2 (by decide))
      have hn9 := gI_n hD ((E_43).1 _ _ aa_46) a_r2_59
      subst hn9
      have a_r2_1 := a_r2_59
      obtain rfl := fe_q (hq_59 8 (by decide))
      have o_v8_1 := o_v8_59
      have hn9 := fe_qr (hq_59 9 (by decide))
      subst hn9
      have o_b_2 := o_v9_59 _ rfl
      refine va_get (D := gD g) (ci := 1) (v := .ref b_2) (C := RX1) (T := TX1) (N := 10) hx hb hts inX1 hown hK hP k_1 hk_59 rfl 9 (by decide) (hts _ kw_479) (fun _ h9 => h9) rfl dX1_keepTypes_52 ?_
      obtain ⟨fs9, hk_60, hq_60⟩ := ((gF.a (F' := []) Fr_44 (fun _ h => h))) _ _ _ hk_3
      obtain ⟨r0_60, n0_60, r1_60, n1_60, c2_60, r3_60, n3_60, c4_60, r5_60, n5_60, r6_60, n6_60, r7_60, n7_60, r8_60, n8_60, c9_60, c10_60, c11_60, v12_60, v13_60, v14_60, rfl, a_r0_60, f1_60, a_r1_60, f3_60, a_r3_60, f5_60, a_r5_60, f7_60, a_r6_60, f9_60, a_r7_60, f11_60, a_r8_60, f13_60, o_v12_60, o_v13_60, o_v14_60, f17_60, f18_60, f19_60, f20_60, f21_60, f22_60, f23_60, f24_60, f25_60, f26_60, f27_60, f28_60, f29_60, -⟩ := (hG.1 _ _ _ _ hk_60).hX8 rfl
      obtain rfl := fe_i (hq_60 2 (by decide))
      have hn9 := fe_qr (hq_60 12 (by decide))
      subst hn9
      obtain ⟨n_q_4_60, a_q_4, s_q_4_60⟩ := o_v12_60 _ rfl
      have hn9 := gI_n hD ((E_43).1 _ _ aa_56) a_q_4
      subst hn9
      have hn9 := fe_qr (hq_60 13 (by decide))
      subst hn9
      obtain ⟨n_q_16_60, a_q_16, s_q_16_60⟩ := o_v13_60 _ rfl
      have hn9 := gI_n hD ((E_43).1 _ _ aa_57) a_q_16
      subst hn9
      have hn9 := fe_qr (hq_60 14 (by decide))
      subst hn9
      obtain ⟨n_q_28_60, a_q_28, s_q_28_60⟩ := o_v14_60 _ rfl
      have hn9 := gI_n hD ((E_43).1 _ _ aa_58) a_q_28
      subst hn9
      refine va_get (D := gD g) (ci := 7) (v := .int c2_3) (C := RX8) (T := TX8) (N := 15) hx hb hts inX8 hown hK hP k_3 hk_60 rfl 2 (by decide) (hts _ kw_491) (fun _ h9 => h9) rfl dX1_keepTypes_55 ?_
      refine lv_icmp_ge (tgt := 167) hx hb dX1_keepTypes_58 (by decide) (fun c_61 => ?_) (fun c_61 => ?_)
      · refine W_led (fun hLd => ?_)
        have hcl : dc_50_1 + PC ws_42 ≤ PC ws + (3) := (by have q_f19_3 := f19_3; have q_f20_3 := f20_3; have q_fq2_c := fq2_c; have q_n_5 := i_nn en_5 zn_5; have q2_n_5 := bn_5; have q_n_17 := i_nn en_17 zn_17; have q2_n_17 := bn_17; have q_n_29 := i_nn en_29 zn_29; have q2_n_29 := bn_29; have q_f20_60 := f20_60; have q_c_61 := i_le c_61; have q_f4_1 := f4_1; have q_f14_1 := f14_1; have q_f15_1 := f15_1; have q_f16_1 := f16_1; have q_f1_3 := f1_3; have q_f17_3 := f17_3; have q_f18_3 := f18_3; have q_iv_41 := iv_41; have q_f14_59 := f14_59; have q_f1_60 := f1_60; have q_f17_60 := f17_60; have q_f18_60 := f18_60; have q_f2_1 := f2_1; have q_f6_1 := f6_1; have q_f3_3 := f3_3; have q_f6_59 := f6_59; have q_f3_60 := f3_60; have g_c2_3 := i_rg c2_3; have g_v1_40 := i_rg v1_40; omega)
        have hsl : ds_50_1 + PS ws_42 ≤ PS ws + (3888) := (by have q_f19_3 := f19_3; have q_f20_3 := f20_3; have q_fq2_c := fq2_c; have q_n_5 := i_nn en_5 zn_5; have q2_n_5 := bn_5; have q_n_17 := i_nn en_17 zn_17; have q2_n_17 := bn_17; have q_n_29 := i_nn en_29 zn_29; have q2_n_29 := bn_29; have q_f20_60 := f20_60; have q_c_61 := i_le c_61; have q_f4_1 := f4_1; have q_f14_1 := f14_1; have q_f15_1 := f15_1; have q_f16_1 := f16_1; have q_f1_3 := f1_3; have q_f17_3 := f17_3; have q_f18_3 := f18_3; have q_iv_41 := iv_41; have q_f14_59 := f14_59; have q_f1_60 := f1_60; have q_f17_60 := f17_60; have q_f18_60 := f18_60; have q_f2_1 := f2_1; have q_f6_1 := f6_1; have q_f3_3 := f3_3; have q_f6_59 := f6_59; have q_f3_60 := f3_60; have g_c2_3 := i_rg c2_3; have g_v1_40 := i_rg v1_40; omega)
        refine W.widen (k := PC ws + (3)) (n := PS ws + (3888)) (by omega) (by omega) ?_
        exact W.vret hx hb hr (fun t9 ht9 hW9 => ⟨⟨ws_42, rfl, trivial, ⟨(E_8.tr (E_13.tr (E_20.tr (E_25.tr (E_32.tr (E_37.tr E_43)))))), (gF.tr (gF.mo (F' := [(7, 12), (7, 13), (7, 14)]) (C' := [(7, 12), (7, 13), (7, 14)]) (S' := none) Fr_9 (fun _ h => absurd h List.not_mem_nil) (fun _ h => absurd h List.not_mem_nil) (Or.inr rfl)) (gF.tr (gF.mo (F' := [(7, 12), (7, 13), (7, 14)]) (C' := [(7, 12), (7, 13), (7, 14)]) (S' := none) Fr_14 (by decide) (fun _ h => absurd h List.not_mem_nil) (Or.inl rfl)) (gF.tr (gF.mo (F' := [(7, 12), (7, 13), (7, 14)]) (C' := [(7, 12), (7, 13), (7, 14)]) (S' := none) Fr_21 (fun _ h => absurd h List.not_mem_nil) (fun _ h => absurd h List.not_mem_nil) (Or.inr rfl)) (gF.tr (gF.mo (F' := [(7, 12), (7, 13), (7, 14)]) (C' := [(7, 12), (7, 13), (7, 14)]) (S' := none) Fr_26 (by decide) (fun _ h => absurd h List.not_mem_nil) (Or.inl rfl)) (gF.tr (gF.mo (F' := [(7, 12), (7, 13), (7, 14)]) (C' := [(7, 12), (7, 13), (7, 14)]) (S' := none) Fr_33 (fun _ h => absurd h List.not_mem_nil) (fun _ h => absurd h List.not_mem_nil) (Or.inr rfl)) (gF.tr (gF.mo (F' := [(7, 12), (7, 13), (7, 14)]) (C' := [(7, 12), (7, 13), (7, 14)]) (S' := none) Fr_38 (by decide) (fun _ h => absurd h List.not_mem_nil) (Or.inl rfl)) (gF.mo (F' := [(7, 12), (7, 13), (7, 14)]) (C' := [(7, 12), (7, 13), (7, 14)]) (S' := none) Fr_44 (fun _ h => absurd h List.not_mem_nil) (fun _ h => h) (Or.inr rfl)))))))), hG, by rw [ht9]; exact hP, hD, _, _, by rw [ht9]; exact hLd, hcl, hsl⟩⟩, hS.F ht9⟩) hS.2.2 dX1_keepTypes_167
      · refine lv_aload_n hx hb dX1_keepTypes_61 rfl (lv_at hl 0 rfl) ?_
        refine va_get (D := gD g) (ci := 1) (v := .ref b_2) (C := RX1) (T := TX1) (N := 10) hx hb hts inX1 hown hK hP k_1 hk_59 rfl 9 (by decide) (hts _ kw_479) (fun _ h9 => h9) rfl dX1_keepTypes_62 ?_
        refine va_get (D := gD g) (ci := 7) (v := .ref q_4) (C := RX8) (T := TX8) (N := 15) hx hb hts inX8 hown hK hP k_3 hk_60 rfl 12 (by decide) (hts _ kw_563) (fun _ h9 => h9) rfl dX1_keepTypes_65 ?_
        refine lv_iload_n hx hb dX1_keepTypes_68 rfl (lv_at hl 1 rfl) ?_
        refine lv_aload_n hx hb dX1_keepTypes_69 rfl (lv_at hl 0 rfl) ?_
        refine va_get (D := gD g) (ci := 1) (v := .ref r0_1) (C := RX1) (T := TX1) (N := 10) hx hb hts inX1 hown hK hP k_1 hk_59 rfl 0 (by decide) (hts _ kw_492) (fun _ h9 => h9) rfl dX1_keepTypes_70 ?_
        refine lv_iload_n hx hb dX1_keepTypes_73 rfl (lv_at hl 1 rfl) ?_
        have hFc := gfree hD hS hA
        obtain ⟨k_62, fs_62, hk_62⟩ := gC_of o_r0_1
        refine va_calli (va_runV (As := [.int v1_40]) (rest := [.int v1_40, .ref q_4]) ⟨hx, hb, hml, hown, hts⟩ (m_X4_heightAt l g H.size ws_42 r0_1 (v1_40) hG o_r0_1) (cwV 1 hts (gd_V kw_567 kw_960 kw_961 kw_167 kw_959) rfl rfl rfl (by decide +kernel) ⟨Nat.le_of_ble_eq_true rfl, Nat.le_of_ble_eq_true rfl⟩) ⟨gblind, va_recv hK hP (ci := 4) (q0 := k_62) rfl hk_62, fun U hU hW9 => gmk hU hW9 hP hK hD hex hE hS hFc⟩ rfl rfl hl.1 rfl (lv_room (Nat.le_of_ble_eq_true rfl)) dX1_keepTypes_74 ⟨(show dc_50_1 + 0 ≤ PC ws + (3) from (by have q_f19_3 := f19_3; have q_f20_3 := f20_3; have q_fq2_c := fq2_c; have q_n_5 := i_nn en_5 zn_5; have q2_n_5 := bn_5; have q_n_17 := i_nn en_17 zn_17; have q2_n_17 := bn_17; have q_n_29 := i_nn en_29 zn_29; have q2_n_29 := bn_29; have q_f20_60 := f20_60; have q_c_61 := i_nle c_61; have q_f4_1 := f4_1; have q_f14_1 := f14_1; have q_f15_1 := f15_1; have q_f16_1 := f16_1; have q_f1_3 := f1_3; have q_f17_3 := f17_3; have q_f18_3 := f18_3; have q_iv_41 := iv_41; have q_f14_59 := f14_59; have q_f1_60 := f1_60; have q_f17_60 := f17_60; have q_f18_60 := f18_60; have q_f2_1 := f2_1; have q_f6_1 := f6_1; have q_f3_3 := f3_3; have q_f6_59 := f6_59; have q_f3_60 := f3_60; have g_c2_3 := i_rg c2_3; have g_v1_40 := i_rg v1_40; omega)), (show ds_50_1 + 0 ≤ PS ws + (3888) from (by have q_f19_3 := f19_3; have q_f20_3 := f20_3; have q_fq2_c := fq2_c; have q_n_5 := i_nn en_5 zn_5; have q2_n_5 := bn_5; have q_n_17 := i_nn en_17 zn_17; have q2_n_17 := bn_17; have q_n_29 := i_nn en_29 zn_29; have q2_n_29 := bn_29; have q_f20_60 := f20_60; have q_c_61 := i_nle c_61; have q_f4_1 := f4_1; have q_f14_1 := f14_1; have q_f15_1 := f15_1; have q_f16_1 := f16_1; have q_f1_3 := f1_3; have q_f17_3 := f17_3; have q_f18_3 := f18_3; have q_iv_41 := iv_41; have q_f14_59 := f14_59; have q_f1_60 := f1_60; have q_f17_60 := f17_60; have q_f18_60 := f18_60; have q_f2_1 := f2_1; have q_f6_1 := f6_1; have q_f3_3 := f3_3; have q_f6_59 := f6_59; have q_f3_60 := f3_60; have g_c2_3 := i_rg c2_3; have g_v1_40 := i_rg v1_40; omega))⟩) hS (fun q _ h => hFc q h) hFc (fun r_63 u9 t9 H1 locs ht9 hvm9 hw9 hB9 hz9 hk9 hS => ?_)
        have hP : va_P (gD g) cl0 ws_42 H1 := by rw [← ht9]; exact hB9.1
        clear hB9 hz9 hk9 hvm9 ht9 hw9
        generalize H1 = H at hP hS ⊢
        obtain ⟨z_64, ez_64⟩ : ∃ y : Int32, (r_63 : Int32).toInt8.toInt32 = y := ⟨_, rfl⟩
        refine lv_i2b (v := z_64) hx hb dX1_keepTypes_77 ez_64 ?_
        obtain ⟨k_65, f_65, hk_65⟩ := gI_of a_q_4
        have hC9 : hol ws_42 q_4 [(7, 12)] := (hol_u hG.u hk_60 (j := 12) rfl a_q_4 (by decide))
        have hS9 : holS ws_42 q_4 none := holS_n
        refine va_bast hx hb hK hP hD hS k_65 0 hk_65 rfl (i_in2 (by have q_n_5 := i_nn en_5 zn_5; have q2_n_5 := bn_5; have q_iv_41 := iv_41; have q_c_61 := i_nle c_61; have q_f19_3 := f19_3; have q_f20_3 := f20_3; have q_fq2_c := fq2_c; have q_n_17 := i_nn en_17 zn_17; have q_n_29 := i_nn en_29 zn_29; have q_f20_60 := f20_60; have q_f4_1 := f4_1; have q_f14_1 := f14_1; have q_f15_1 := f15_1; have q_f16_1 := f16_1; have q_f1_3 := f1_3; have q_f17_3 := f17_3; have q_f18_3 := f18_3; have q2_n_17 := bn_17; have q2_n_29 := bn_29; have q_f14_59 := f14_59; have q_f1_60 := f1_60; have q_f17_60 := f17_60; have q_f18_60 := f18_60; have g_c2_3 := i_rg c2_3; have g_v1_40 := i_rg v1_40; omega)) dX1_keepTypes_78 (fun H locs hP hD hS => ?_)
        obtain ⟨ws_66, e_ws_66⟩ : ∃ z, z = ws_42.set k_65 (q_4, .inl (g.cB, n_5, .inl (upd f_65 (v1_40 : Int32).toNatClampNeg (vp_nar .byte z_64)))) := ⟨_, rfl⟩
        have hP : va_P (gD g) cl0 ws_66 H := by rw [e_ws_66]; exact hP
        have hD : va_D A ws_66 := by rw [e_ws_66]; exact hD
        have E_67 : gE ws_42 ws_66 := gE_ari e_ws_66 hk_65
        have hG : Good g ws_66 := Good_arB e_ws_66 hk_65 hG
        have Fr_68 : gF [] [(7, 12)] none ws_42 ws_66 := gF_ar e_ws_66 hk_65 rfl hC9 hS9
        have pp_69 := Fr_68.pp
        have hk_59 := gset_arO e_ws_66 hk_65 hk_59
        have hk_60 := gset_arO e_ws_66 hk_65 hk_60
        have o_h0 := E_67.1 _ _ o_h0
        have a_r3_59 := E_67.1 _ _ a_r3_59
        have a_r4_59 := E_67.1 _ _ a_r4_59
        have o_r0_1 := E_67.1 _ _ o_r0_1
        have a_r1_1 := E_67.1 _ _ a_r1_1
        have a_r2_1 := E_67.1 _ _ a_r2_1
        have o_v8_1 : ∀ b, v8_1 = some b → gC ws_66 b 9 := fun b h => E_67.1 _ _ (o_v8_1 b h)
        have o_b_2 := E_67.1 _ _ o_b_2
        have a_r0_60 := E_67.1 _ _ a_r0_60
        have a_r1_60 := E_67.1 _ _ a_r1_60
        have a_r3_60 := E_67.1 _ _ a_r3_60
        have a_r5_60 := E_67.1 _ _ a_r5_60
        have a_r6_60 := E_67.1 _ _ a_r6_60
        have a_r7_60 := E_67.1 _ _ a_r7_60
        have a_r8_60 := E_67.1 _ _ a_r8_60
        have a_q_4 := E_67.1 _ _ a_q_4
        have a_q_16 := E_67.1 _ _ a_q_16
        have a_q_28 := E_67.1 _ _ a_q_28
        refine lv_iconst (v := 0) hx hb dX1_keepTypes_79 (by decide) ?_
        refine lv_istore_n (lv' := [(2, .int 0), (0, .ref h0), (1, .int v1_40)]) hx hb dX1_keepTypes_80 rfl hl (by decide) rfl (fun ls hl => ?_)
        have J_81 : ∀ (n9 : Nat) (v2_70 : Int32) (dc_81_2 : Nat) (ds_81_2 : Nat) (ws_72 : va_W) (H : Heap) (locs : List Loc) (ls : Array Slot), (2147483647 - v2_70.toInt).toNat = n9 → 0 ≤ v2_70.toInt → gE ws_66 ws_72 → gF [] [(7, 13), (7, 14)] none ws_66 ws_72 → Good g ws_72 → dc_81_2 + PC ws_72 ≤ PC ws + (3) → ds_81_2 + PS ws_72 ≤ PS ws + (3888) → va_P (gD g) cl0 ws_72 H → va_D A ws_72 → va_S A s.heap H locs → lv_has ls 5 [(0, .ref h0), (1, .int v1_40), (2, .int v2_70)] → W p l e (headSpec (wt yX1_keepTypes cX1_keepTypes 5 none) ({ frames := 2, cells := PC ws + (3), slots := PS ws + (3888), locals := 42 })).room s m ([.ref h0] : List Value).toArray below meth c H locs (dc_81_2) (ds_81_2) (MQ below (va_Qv (fun (u9 : va_W) => True) (gQ2 g [(7, 12), (7, 13), (7, 14)] [(7, 12), (7, 13), (7, 14)] none A ws s.heap (3) (3888)) A) ([.ref h0] : List Value).toArray s (PC ws + (3)) (PS ws + (3888)) A) (F0 m 81 ls []) := by
          intro n9
          induction n9 using Nat.strongRecOn with
          | ind n9 ih_81 =>
            intro v2_70 dc_81_2 ds_81_2 ws_72 H locs ls hm9 iv_71 E_73 Fr_74 hG hc9 hs9 hP hD hS hl
            subst hm9
            have aa_75 := a_r1_1
            have aa_76 := a_r2_1
            have aa_77 := a_r3_59
            have aa_78 := a_r4_59
            have aa_79 := a_r0_60
            have aa_80 := a_r1_60
            have aa_81 := a_r3_60
            have aa_82 := a_r5_60
            have aa_83 := a_r6_60
            have aa_84 := a_r7_60
            have aa_85 := a_r8_60
            have aa_86 := a_q_4
            have aa_87 := a_q_16
            have aa_88 := a_q_28
            have o_h0 := E_73.1 _ _ o_h0
            refine lv_aload_n hx hb dX1_keepTypes_81 rfl (lv_at hl 0 rfl) ?_
            obtain ⟨fs9, hk_89, hq_89⟩ := ((gF.a (F' := []) Fr_74 (fun _ h => h))) _ _ _ hk_59
            obtain ⟨r0_89, r1_89, n1_89, r2_89, n2_89, r3_89, n3_89, r4_89, n4_89, c5_89, c6_89, c7_89, v8_89, v9_89, rfl, o_r0_89, a_r1_89, f2_89, a_r2_89, f4_89, a_r3_89, f6_89, a_r4_89, f8_89, hz_c6_89, hz_c7_89, o_v8_89, o_v9_89, f13_89, f14_89, f15_89, f16_89, -⟩ := (hG.1 _ _ _ _ hk_89).hX1 rfl
            obtain rfl := fe_r (hq_89 0 (by decide))
            have o_r0_1 := o_r0_89
            obtain rfl := fe_r (hq_89 1 (by decide))
            have hn9 := gI_n hD ((E_73).1 _ _ aa_75) a_r1_89
            subst hn9
            have a_r1_1 := a_r1_89
            obtain rfl := fe_r (hq_89 2 (by decide))
            have hn9 := gI_n hD ((E_73).1 _ _ aa_76) a_r2_89
            subst hn9
            have a_r2_1 := a_r2_89
            obtain rfl := fe_q (hq_89 8 (by decide))
            have o_v8_1 := o_v8_89
            have hn9 := fe_qr (hq_89 9 (by decide))
            subst hn9
            have o_b_2 := o_v9_89 _ rfl
            refine va_get (D := gD g) (ci := 1) (v := .ref r2_1) (C := RX1) (T := TX1) (N := 10) hx hb hts inX1 hown hK hP k_1 hk_89 rfl 2 (by decide) (hts _ kw_494) (fun _ h9 => h9) rfl dX1_keepTypes_82 ?_
            refine lv_iload_n hx hb dX1_keepTypes_85 rfl (lv_at hl 1 rfl) ?_
            obtain ⟨k_90, f_90, hk_90⟩ := gI_of a_r2_1
            refine va_zald hx hb hK hP k_90 2 hk_90 rfl (i_in2 (by have q_f4_1 := f4_1; have q_f14_1 := f14_1; have q_f15_1 := f15_1; have q_f16_1 := f16_1; have q_fq2_c := fq2_c; have q_iv_41 := iv_41; have q_f14_59 := f14_59; have q_c_61 := i_nle c_61; have q_f14_89 := f14_89; have q_f2_1 := f2_1; have q_f6_1 := f6_1; have q_f19_3 := f19_3; have q_f20_3 := f20_3; have q_n_5 := i_nn en_5 zn_5; have q_n_17 := i_nn en_17 zn_17; have q_n_29 := i_nn en_29 zn_29; have q_f6_59 := f6_59; have q_f20_60 := f20_60; have q_f6_89 := f6_89; have q_f1_3 := f1_3; have q_f17_3 := f17_3; have q_f18_3 := f18_3; have q2_n_5 := bn_5; have q2_n_17 := bn_17; have q2_n_29 := bn_29; have q_f1_60 := f1_60; have q_f17_60 := f17_60; have q_f18_60 := f18_60; have g_c2_3 := i_rg c2_3; have g_v1_40 := i_rg v1_40; omega)) dX1_keepTypes_86 ?_
            refine lv_topi (fun z_91 ez_91 => ?_)
            have J_161 : ∀ (dc_161_3 : Nat) (ds_161_3 : Nat) (H : Heap) (locs : List Loc) (ls : Array Slot), dc_161_3 + PC ws_72 ≤ PC ws + (3) → ds_161_3 + PS ws_72 ≤ PS ws + (3888) → va_P (gD g) cl0 ws_72 H → va_D A ws_72 → va_S A s.heap H locs → lv_has ls 5 [(0, .ref h0), (1, .int v1_40)] → W p l e (headSpec (wt yX1_keepTypes cX1_keepTypes 5 none) ({ frames := 2, cells := PC ws + (3), slots := PS ws + (3888), locals := 42 })).room s m ([.ref h0] : List Value).toArray below meth c H locs (dc_161_3) (ds_161_3) (MQ below (va_Qv (fun (u9 : va_W) => True) (gQ2 g [(7, 12), (7, 13), (7, 14)] [(7, 12), (7, 13), (7, 14)] none A ws s.heap (3) (3888)) A) ([.ref h0] : List Value).toArray s (PC ws + (3)) (PS ws + (3888)) A) (F0 m 161 ls []) := by
              intro dc_161_3 ds_161_3 H locs ls  hc9 hs9 hP hD hS hl
              obtain ⟨z_94, ez_94⟩ : ∃ z : Int32, v1_40 + Int32.ofInt 1 = z := ⟨_, rfl⟩
              refine lv_iinc (v := z_94) (lv' := [(1, .int z_94), (0, .ref h0)]) hx hb dX1_keepTypes_161 hl (k := 1) rfl ez_94 (by decide) rfl (fun ls hl => ?_)
              refine lv_goto (tgt := 50) hx hb dX1_keepTypes_164 (by decide) ?_
              exact ih_50 _ (by obtain ⟨u_z_94, q_z_94⟩ := i_iz ez_94 (by decide) (by decide); have q_iv_41 := iv_41; have q_c_61 := i_nle c_61; have q_f19_3 := f19_3; have q_f20_3 := f20_3; have q_fq2_c := fq2_c; have q_n_5 := i_nn en_5 zn_5; have q_n_17 := i_nn en_17 zn_17; have q_n_29 := i_nn en_29 zn_29; have q_f20_60 := f20_60; have g_c2_3 := i_rg c2_3; have g_v1_40 := i_rg v1_40; have g_z_94 := i_rg z_94; omega) (z_94) (dc_161_3) (ds_161_3) ws_72 H locs ls rfl (by obtain ⟨u_z_94, q_z_94⟩ := i_iz ez_94 (by decide) (by decide); have q_iv_41 := iv_41; have q_c_61 := i_nle c_61; have q_f19_3 := f19_3; have q_f20_3 := f20_3; have q_fq2_c := fq2_c; have q_n_5 := i_nn en_5 zn_5; have q_n_17 := i_nn en_17 zn_17; have q_n_29 := i_nn en_29 zn_29; have q_f20_60 := f20_60; have g_c2_3 := i_rg c2_3; have g_v1_40 := i_rg v1_40; have g_z_94 := i_rg z_94; omega) ((E_43.tr (E_67.tr E_73))) ((gF.tr Fr_44 (gF.tr (gF.mo (F' := []) (C' := [(7, 12), (7, 13), (7, 14)]) (S' := none) Fr_68 (fun _ h => h) (by decide) (Or.inr rfl)) (gF.mo (F' := []) (C' := [(7, 12), (7, 13), (7, 14)]) (S' := none) Fr_74 (fun _ h => h) (by decide) (Or.inr rfl))))) hG (by have q_f19_3 := f19_3; have q_f20_3 := f20_3; have q_fq2_c := fq2_c; have q_n_5 := i_nn en_5 zn_5; have q2_n_5 := bn_5; have q_n_17 := i_nn en_17 zn_17; have q2_n_17 := bn_17; have q_n_29 := i_nn en_29 zn_29; have q2_n_29 := bn_29; have q_f20_60 := f20_60; have q_c_61 := i_nle c_61; have q_f4_1 := f4_1; have q_f14_1 := f14_1; have q_f15_1 := f15_1; have q_f16_1 := f16_1; have q_f1_3 := f1_3; have q_f17_3 := f17_3; have q_f18_3 := f18_3; have q_iv_41 := iv_41; have q_f14_59 := f14_59; have q_f1_60 := f1_60; have q_f17_60 := f17_60; have q_f18_60 := f18_60; have q_f14_89 := f14_89; obtain ⟨u_z_94, q_z_94⟩ := i_iz ez_94 (by decide) (by decide); have q_f2_1 := f2_1; have q_f6_1 := f6_1; have q_f3_3 := f3_3; have q_f6_59 := f6_59; have q_f3_60 := f3_60; have q_f6_89 := f6_89; have g_c2_3 := i_rg c2_3; have g_v1_40 := i_rg v1_40; have g_z_94 := i_rg z_94; omega) (by have q_f19_3 := f19_3; have q_f20_3 := f20_3; have q_fq2_c := fq2_c; have q_n_5 := i_nn en_5 zn_5; have q2_n_5 := bn_5; have q_n_17 := i_nn en_17 zn_17; have q2_n_17 := bn_17; have q_n_29 := i_nn en_29 zn_29; have q2_n_29 := bn_29; have q_f20_60 := f20_60; have q_c_61 := i_nle c_61; have q_f4_1 := f4_1; have q_f14_1 := f14_1; have q_f15_1 := f15_1; have q_f16_1 := f16_1; have q_f1_3 := f1_3; have q_f17_3 := f17_3; have q_f18_3 := f18_3; have q_iv_41 := iv_41; have q_f14_59 := f14_59; have q_f1_60 := f1_60; have q_f17_60 := f17_60; have q_f18_60 := f18_60; have q_f14_89 := f14_89; obtain ⟨u_z_94, q_z_94⟩ := i_iz ez_94 (by decide) (by decide); have q_f2_1 := f2_1; have q_f6_1 := f6_1; have q_f3_3 := f3_3; have q_f6_59 := f6_59; have q_f3_60 := f3_60; have q_f6_89 := f6_89; have g_c2_3 := i_rg c2_3; have g_v1_40 := i_rg v1_40; have g_z_94 := i_rg z_94; omega) hP hD hS (lv_sub hl [1, 0] rfl)
            refine lv_if_eq (tgt := 161) hx hb dX1_keepTypes_87 (by decide) (fun c_95 => ?_) (fun c_95 => ?_)
            · exact J_161 (dc_81_2) (ds_81_2) H locs ls (by have q_f19_3 := f19_3; have q_f20_3 := f20_3; have q_fq2_c := fq2_c; have q_n_5 := i_nn en_5 zn_5; have q2_n_5 := bn_5; have q_n_17 := i_nn en_17 zn_17; have q2_n_17 := bn_17; have q_n_29 := i_nn en_29 zn_29; have q2_n_29 := bn_29; have q_f20_60 := f20_60; have q_c_61 := i_nle c_61; have q_f4_1 := f4_1; have q_f14_1 := f14_1; have q_f15_1 := f15_1; have q_f16_1 := f16_1; have q_f1_3 := f1_3; have q_f17_3 := f17_3; have q_f18_3 := f18_3; have q_iv_41 := iv_41; have q_f14_59 := f14_59; have q_f1_60 := f1_60; have q_f17_60 := f17_60; have q_f18_60 := f18_60; have q_f14_89 := f14_89; have q_f2_1 := f2_1; have q_f6_1 := f6_1; have q_f3_3 := f3_3; have q_f6_59 := f6_59; have q_f3_60 := f3_60; have q_f6_89 := f6_89; have g_c2_3 := i_rg c2_3; have g_v1_40 := i_rg v1_40; omega) (by have q_f19_3 := f19_3; have q_f20_3 := f20_3; have q_fq2_c := fq2_c; have q_n_5 := i_nn en_5 zn_5; have q2_n_5 := bn_5; have q_n_17 := i_nn en_17 zn_17; have q2_n_17 := bn_17; have q_n_29 := i_nn en_29 zn_29; have q2_n_29 := bn_29; have q_f20_60 := f20_60; have q_c_61 := i_nle c_61; have q_f4_1 := f4_1; have q_f14_1 := f14_1; have q_f15_1 := f15_1; have q_f16_1 := f16_1; have q_f1_3 := f1_3; have q_f17_3 := f17_3; have q_f18_3 := f18_3; have q_iv_41 := iv_41; have q_f14_59 := f14_59; have q_f1_60 := f1_60; have q_f17_60 := f17_60; have q_f18_60 := f18_60; have q_f14_89 := f14_89; have q_f2_1 := f2_1; have q_f6_1 := f6_1; have q_f3_3 := f3_3; have q_f6_59 := f6_59; have q_f3_60 := f3_60; have q_f6_89 := f6_89; have g_c2_3 := i_rg c2_3; have g_v1_40 := i_rg v1_40; omega) hP hD hS (lv_sub hl [0, 1] rfl)
            · refine lv_iload_n hx hb dX1_keepTypes_90 rfl (lv_at hl 2 rfl) ?_
              refine lv_bipush (v := 24) hx hb dX1_keepTypes_91 (by decide) ?_
              refine lv_icmp_ge (tgt := 161) hx hb dX1_keepTypes_93 (by decide) (fun c_96 => ?_) (fun c_96 => ?_)
              · exact J_161 (dc_81_2) (ds_81_2) H locs ls (by have q_f19_3 := f19_3; have q_f20_3 := f20_3; have q_fq2_c := fq2_c; have q_n_5 := i_nn en_5 zn_5; have q2_n_5 := bn_5; have q_n_17 := i_nn en_17 zn_17; have q2_n_17 := bn_17; have q_n_29 := i_nn en_29 zn_29; have q2_n_29 := bn_29; have q_f20_60 := f20_60; have q_c_61 := i_nle c_61; have q_f4_1 := f4_1; have q_f14_1 := f14_1; have q_f15_1 := f15_1; have q_f16_1 := f16_1; have q_f1_3 := f1_3; have q_f17_3 := f17_3; have q_f18_3 := f18_3; have q_iv_41 := iv_41; have q_f14_59 := f14_59; have q_f1_60 := f1_60; have q_f17_60 := f17_60; have q_f18_60 := f18_60; have q_f14_89 := f14_89; have q_f2_1 := f2_1; have q_f6_1 := f6_1; have q_f3_3 := f3_3; have q_f6_59 := f6_59; have q_f3_60 := f3_60; have q_f6_89 := f6_89; have g_c2_3 := i_rg c2_3; have g_v1_40 := i_rg v1_40; omega) (by have q_f19_3 := f19_3; have q_f20_3 := f20_3; have q_fq2_c := fq2_c; have q_n_5 := i_nn en_5 zn_5; have q2_n_5 := bn_5; have q_n_17 := i_nn en_17 zn_17; have q2_n_17 := bn_17; have q_n_29 := i_nn en_29 zn_29; have q2_n_29 := bn_29; have q_f20_60 := f20_60; have q_c_61 := i_nle c_61; have q_f4_1 := f4_1; have q_f14_1 := f14_1; have q_f15_1 := f15_1; have q_f16_1 := f16_1; have q_f1_3 := f1_3; have q_f17_3 := f17_3; have q_f18_3 := f18_3; have q_iv_41 := iv_41; have q_f14_59 := f14_59; have q_f1_60 := f1_60; have q_f17_60 := f17_60; have q_f18_60 := f18_60; have q_f14_89 := f14_89; have q_f2_1 := f2_1; have q_f6_1 := f6_1; have q_f3_3 := f3_3; have q_f6_59 := f6_59; have q_f3_60 := f3_60; have q_f6_89 := f6_89; have g_c2_3 := i_rg c2_3; have g_v1_40 := i_rg v1_40; omega) hP hD hS (lv_sub hl [0, 1] rfl)
              · refine lv_aload_n hx hb dX1_keepTypes_96 rfl (lv_at hl 0 rfl) ?_
                refine va_get (D := gD g) (ci := 1) (v := .ref r1_1) (C := RX1) (T := TX1) (N := 10) hx hb hts inX1 hown hK hP k_1 hk_89 rfl 1 (by decide) (hts _ kw_495) (fun _ h9 => h9) rfl dX1_keepTypes_97 ?_
                refine lv_iload_n hx hb dX1_keepTypes_100 rfl (lv_at hl 1 rfl) ?_
                refine lv_bipush (v := 48) hx hb dX1_keepTypes_101 (by decide) ?_
                refine lv_imul hx hb dX1_keepTypes_103 ?_
                refine lv_topi (fun z_97 ez_97 => ?_)
                refine lv_iload_n hx hb dX1_keepTypes_104 rfl (lv_at hl 2 rfl) ?_
                refine lv_iadd hx hb dX1_keepTypes_105 ?_
                refine lv_topi (fun z_98 ez_98 => ?_)
                obtain ⟨k_99, f_99, hk_99⟩ := gI_of a_r1_1
                refine va_bald hx hb hK hP k_99 0 hk_99 rfl (i_in2 (by have e24 : (24 : Int32).toInt = 24 := (by decide); have q_f2_1 := f2_1; have q_f15_1 := f15_1; have q_z_98 := i_addD ez_98; have q_f4_1 := f4_1; have q_f14_1 := f14_1; have q_f16_1 := f16_1; have q_fq2_c := fq2_c; have q_f14_59 := f14_59; have q_iv_71 := iv_71; have q_f14_89 := f14_89; have q_c_96 := i_nle c_96; have q_z_97 := i_mulR (c := 48) (K := 44739242) ez_97 (by decide) (by decide) (by decide) (by decide); have q_f6_1 := f6_1; have q_f19_3 := f19_3; have q_f20_3 := f20_3; have q_n_5 := i_nn en_5 zn_5; have q_n_17 := i_nn en_17 zn_17; have q_n_29 := i_nn en_29 zn_29; have q_iv_41 := iv_41; have q_f6_59 := f6_59; have q_f20_60 := f20_60; have q_c_61 := i_nle c_61; have q_f6_89 := f6_89; have g_c2_3 := i_rg c2_3; have g_v1_40 := i_rg v1_40; have g_v2_70 := i_rg v2_70; have g_z_97 := i_rg z_97; have g_z_98 := i_rg z_98; omega)) dX1_keepTypes_106 ?_
                refine lv_topi (fun z_100 ez_100 => ?_)
                obtain ⟨z_101, ez_101⟩ : ∃ y : Int64, (z_100 : Int32).toInt64 = y := ⟨_, rfl⟩
                refine lv_i2l (v := z_101) hx hb dX1_keepTypes_107 ez_101 ?_
                refine lv_lstore_n (lv' := [(3, .long z_101), (0, .ref h0), (1, .int v1_40), (2, .int v2_70)]) hx hb dX1_keepTypes_108 rfl hl (by decide) rfl (fun ls hl => ?_)
                refine lv_iload_n hx hb dX1_keepTypes_109 rfl (lv_at hl 3 rfl) ?_
                refine lv_bipush (v := 16) hx hb dX1_keepTypes_110 (by decide) ?_
                have J_155 : ∀ (dc_155_4 : Nat) (ds_155_4 : Nat) (ws_102 : va_W) (H : Heap) (locs : List Loc) (ls : Array Slot), gE ws_72 ws_102 → gF [] [(7, 13), (7, 14)] none ws_72 ws_102 → Good g ws_102 → dc_155_4 + PC ws_102 ≤ PC ws + (3) → ds_155_4 + PS ws_102 ≤ PS ws + (3888) → va_P (gD g) cl0 ws_102 H → va_D A ws_102 → va_S A s.heap H locs → lv_has ls 5 [(0, .ref h0), (1, .int v1_40), (2, .int v2_70)] → W p l e (headSpec (wt yX1_keepTypes cX1_keepTypes 5 none) ({ frames := 2, cells := PC ws + (3), slots := PS ws + (3888), locals := 42 })).room s m ([.ref h0] : List Value).toArray below meth c H locs (dc_155_4) (ds_155_4) (MQ below (va_Qv (fun (u9 : va_W) => True) (gQ2 g [(7, 12), (7, 13), (7, 14)] [(7, 12), (7, 13), (7, 14)] none A ws s.heap (3) (3888)) A) ([.ref h0] : List Value).toArray s (PC ws + (3)) (PS ws + (3888)) A) (F0 m 155 ls []) := by
                  intro dc_155_4 ds_155_4 ws_102 H locs ls  E_103 Fr_104 hG hc9 hs9 hP hD hS hl
                  have aa_105 := a_r1_1
                  have aa_106 := a_r2_1
                  have aa_107 := a_r3_89
                  have aa_108 := a_r4_89
                  have o_h0 := E_103.1 _ _ o_h0
                  obtain ⟨z_109, ez_109⟩ : ∃ z : Int32, v2_70 + Int32.ofInt 1 = z := ⟨_, rfl⟩
                  refine lv_iinc (v := z_109) (lv' := [(2, .int z_109), (0, .ref h0), (1, .int v1_40)]) hx hb dX1_keepTypes_155 hl (k := 2) rfl ez_109 (by decide) rfl (fun ls hl => ?_)
                  refine lv_goto (tgt := 81) hx hb dX1_keepTypes_158 (by decide) ?_
                  exact ih_81 _ (by have e24 : (24 : Int32).toInt = 24 := (by decide); obtain ⟨u_z_109, q_z_109⟩ := i_iz ez_109 (by decide) (by decide); have q_iv_71 := iv_71; have q_c_96 := i_nle c_96; have q_z_98 := i_addD ez_98; have q_z_97 := i_mulR (c := 48) (K := 44739242) ez_97 (by decide) (by decide) (by decide) (by decide); have g_v1_40 := i_rg v1_40; have g_v2_70 := i_rg v2_70; have g_z_109 := i_rg z_109; have g_z_97 := i_rg z_97; have g_z_98 := i_rg z_98; omega) (z_109) (dc_155_4) (ds_155_4) ws_102 H locs ls rfl (by have e24 : (24 : Int32).toInt = 24 := (by decide); obtain ⟨u_z_109, q_z_109⟩ := i_iz ez_109 (by decide) (by decide); have q_iv_71 := iv_71; have q_c_96 := i_nle c_96; have q_z_98 := i_addD ez_98; have q_z_97 := i_mulR (c := 48) (K := 44739242) ez_97 (by decide) (by decide) (by decide) (by decide); have g_v1_40 := i_rg v1_40; have g_v2_70 := i_rg v2_70; have g_z_109 := i_rg z_109; have g_z_97 := i_rg z_97; have g_z_98 := i_rg z_98; omega) ((E_73.tr E_103)) ((gF.tr Fr_74 Fr_104)) hG (by have q_f19_3 := f19_3; have q_f20_3 := f20_3; have q_fq2_c := fq2_c; have q_n_5 := i_nn en_5 zn_5; have q2_n_5 := bn_5; have q_n_17 := i_nn en_17 zn_17; have q2_n_17 := bn_17; have q_n_29 := i_nn en_29 zn_29; have q2_n_29 := bn_29; have q_f20_60 := f20_60; have q_c_61 := i_nle c_61; have q_f4_1 := f4_1; have q_f14_1 := f14_1; have q_f15_1 := f15_1; have q_f16_1 := f16_1; have q_f1_3 := f1_3; have q_f17_3 := f17_3; have q_f18_3 := f18_3; have q_iv_41 := iv_41; have q_f14_59 := f14_59; have q_f1_60 := f1_60; have q_f17_60 := f17_60; have q_f18_60 := f18_60; have q_f14_89 := f14_89; have q_z_97 := i_mulR (c := 48) (K := 44739242) ez_97 (by decide) (by decide) (by decide) (by decide); have q_f2_1 := f2_1; have q_f6_1 := f6_1; have q_f3_3 := f3_3; have q_f6_59 := f6_59; have q_f3_60 := f3_60; have q_f6_89 := f6_89; have q_z_98 := i_addD ez_98; have g_c2_3 := i_rg c2_3; have g_v1_40 := i_rg v1_40; have g_v2_70 := i_rg v2_70; have g_z_97 := i_rg z_97; have g_z_98 := i_rg z_98; omega) (by have q_f19_3 := f19_3; have q_f20_3 := f20_3; have q_fq2_c := fq2_c; have q_n_5 := i_nn en_5 zn_5; have q2_n_5 := bn_5; have q_n_17 := i_nn en_17 zn_17; have q2_n_17 := bn_17; have q_n_29 := i_nn en_29 zn_29; have q2_n_29 := bn_29; have q_f20_60 := f20_60; have q_c_61 := i_nle c_61; have q_f4_1 := f4_1; have q_f14_1 := f14_1; have q_f15_1 := f15_1; have q_f16_1 := f16_1; have q_f1_3 := f1_3; have q_f17_3 := f17_3; have q_f18_3 := f18_3; have q_iv_41 := iv_41; have q_f14_59 := f14_59; have q_f1_60 := f1_60; have q_f17_60 := f17_60; have q_f18_60 := f18_60; have q_f14_89 := f14_89; have q_z_97 := i_mulR (c := 48) (K := 44739242) ez_97 (by decide) (by decide) (by decide) (by decide); have q_f2_1 := f2_1; have q_f6_1 := f6_1; have q_f3_3 := f3_3; have q_f6_59 := f6_59; have q_f3_60 := f3_60; have q_f6_89 := f6_89; have q_z_98 := i_addD ez_98; have g_c2_3 := i_rg c2_3; have g_v1_40 := i_rg v1_40; have g_v2_70 := i_rg v2_70; have g_z_97 := i_rg z_97; have g_z_98 := i_rg z_98; omega) hP hD hS (lv_sub hl [1, 2, 0] rfl)
                refine lv_icmp_ge (tgt := 135) hx hb dX1_keepTypes_112 (by decide) (fun c_110 => ?_) (fun c_110 => ?_)
                · refine lv_aload_n hx hb dX1_keepTypes_135 rfl (lv_at hl 1 rfl) ?_
                  refine va_get (D := gD g) (ci := 1) (v := .ref b_2) (C := RX1) (T := TX1) (N := 10) hx hb hts inX1 hown hK hP k_1 hk_89 rfl 9 (by decide) (hts _ kw_479) (fun _ h9 => h9) rfl dX1_keepTypes_136 ?_
                  obtain ⟨fs9, hk_111, hq_111⟩ := ((gF.a (F' := []) Fr_74 (fun _ h => h))) _ _ _ hk_60
                  obtain ⟨r0_111, n0_111, r1_111, n1_111, c2_111, r3_111, n3_111, c4_111, r5_111, n5_111, r6_111, n6_111, r7_111, n7_111, r8_111, n8_111, c9_111, c10_111, c11_111, v12_111, v13_111, v14_111, rfl, a_r0_111, f1_111, a_r1_111, f3_111, a_r3_111, f5_111, a_r5_111, f7_111, a_r6_111, f9_111, a_r7_111, f11_111, a_r8_111, f13_111, o_v12_111, o_v13_111, o_v14_111, f17_111, f18_111, f19_111, f20_111, f21_111, f22_111, f23_111, f24_111, f25_111, f26_111, f27_111, f28_111, f29_111, -⟩ := (hG.1 _ _ _ _ hk_111).hX8 rfl
                  obtain rfl := fe_i (hq_111 2 (by decide))
                  have hn9 := fe_qr (hq_111 12 (by decide))
                  subst hn9
                  obtain ⟨n_q_4_111, a_q_4, s_q_4_111⟩ := o_v12_111 _ rfl
                  have hn9 := gI_n hD ((E_73).1 _ _ aa_86) a_q_4
                  subst hn9
                  have hn9 := fe_qr (hq_111 13 (by decide))
                  subst hn9
                  obtain ⟨n_q_16_111, a_q_16, s_q_16_111⟩ := o_v13_111 _ rfl
                  have hn9 := gI_n hD ((E_73).1 _ _ aa_87) a_q_16
                  subst hn9
                  have hn9 := fe_qr (hq_111 14 (by decide))
                  subst hn9
                  obtain ⟨n_q_28_111, a_q_28, s_q_28_111⟩ := o_v14_111 _ rfl
                  have hn9 := gI_n hD ((E_73).1 _ _ aa_88) a_q_28
                  subst hn9
                  refine va_get (D := gD g) (ci := 7) (v := .ref q_28) (C := RX8) (T := TX8) (N := 15) hx hb hts inX8 hown hK hP k_3 hk_111 rfl 14 (by decide) (hts _ kw_566) (fun _ h9 => h9) rfl dX1_keepTypes_139 ?_
                  refine lv_iload_n hx hb dX1_keepTypes_142 rfl (lv_at hl 2 rfl) ?_
                  refine lv_dup2_11 hx hb dX1_keepTypes_143 rfl rfl ?_
                  obtain ⟨k_112, f_112, hk_112⟩ := gJ_of a_q_28
                  refine va_lald hx hb hK hP k_112 3 hk_112 rfl (i_in2 (by have e16 : (16 : Int32).toInt = 16 := (by decide); have e24 : (24 : Int32).toInt = 24 := (by decide); have q_n_29 := i_nn en_29 zn_29; have q2_n_29 := bn_29; have q_iv_41 := iv_41; have q_c_61 := i_nle c_61; have q_z_97 := i_mulR (c := 48) (K := 44739242) ez_97 (by decide) (by decide) (by decide) (by decide); have q_f19_3 := f19_3; have q_f20_3 := f20_3; have q_fq2_c := fq2_c; have q_n_5 := i_nn en_5 zn_5; have q_n_17 := i_nn en_17 zn_17; have q_f20_60 := f20_60; have q_z_98 := i_addD ez_98; have q_f20_111 := f20_111; have q_f4_1 := f4_1; have q_f14_1 := f14_1; have q_f15_1 := f15_1; have q_f16_1 := f16_1; have q_f1_3 := f1_3; have q_f17_3 := f17_3; have q_f18_3 := f18_3; have q2_n_5 := bn_5; have q2_n_17 := bn_17; have q_f14_59 := f14_59; have q_f1_60 := f1_60; have q_f17_60 := f17_60; have q_f18_60 := f18_60; have q_iv_71 := iv_71; have q_f14_89 := f14_89; have q_c_96 := i_nle c_96; have q_c_110 := i_le c_110; have q_f1_111 := f1_111; have q_f17_111 := f17_111; have q_f18_111 := f18_111; have g_c2_3 := i_rg c2_3; have g_v1_40 := i_rg v1_40; have g_v2_70 := i_rg v2_70; have g_z_97 := i_rg z_97; have g_z_98 := i_rg z_98; omega)) dX1_keepTypes_144 ?_
                  refine lv_topl (fun z_113 ez_113 => ?_)
                  refine lv_lload_n hx hb dX1_keepTypes_145 rfl (lv_at hl 0 rfl) ?_
                  refine lv_iconst (v := 4) hx hb dX1_keepTypes_146 (by decide) ?_
                  refine lv_iload_n hx hb dX1_keepTypes_147 rfl (lv_at hl 3 rfl) ?_
                  refine lv_bipush (v := 16) hx hb dX1_keepTypes_148 (by decide) ?_
                  refine lv_isub hx hb dX1_keepTypes_150 ?_
                  refine lv_topi (fun z_114 ez_114 => ?_)
                  refine lv_imul hx hb dX1_keepTypes_151 ?_
                  refine lv_topi (fun z_115 ez_115 => ?_)
                  refine lv_lshl hx hb dX1_keepTypes_152 rfl ?_
                  refine lv_topl (fun z_116 ez_116 => ?_)
                  refine lv_lor hx hb dX1_keepTypes_153 ?_
                  refine lv_topl (fun z_117 ez_117 => ?_)
                  have hC9 : hol ws_72 q_28 [(7, 14)] := (hol_u hG.u hk_111 (j := 14) rfl a_q_28 (by decide))
                  have hS9 : holS ws_72 q_28 none := holS_n
                  refine va_last hx hb hK hP hD hS k_112 3 hk_112 rfl (i_in2 (by have e16 : (16 : Int32).toInt = 16 := (by decide); have e24 : (24 : Int32).toInt = 24 := (by decide); have q_n_29 := i_nn en_29 zn_29; have q2_n_29 := bn_29; have q_iv_41 := iv_41; have q_c_61 := i_nle c_61; have q_z_97 := i_mulR (c := 48) (K := 44739242) ez_97 (by decide) (by decide) (by decide) (by decide); have q_f19_3 := f19_3; have q_f20_3 := f20_3; have q_fq2_c := fq2_c; have q_n_5 := i_nn en_5 zn_5; have q_n_17 := i_nn en_17 zn_17; have q_f20_60 := f20_60; have q_z_98 := i_addD ez_98; have q_f20_111 := f20_111; have q_f4_1 := f4_1; have q_f14_1 := f14_1; have q_f15_1 := f15_1; have q_f16_1 := f16_1; have q_f1_3 := f1_3; have q_f17_3 := f17_3; have q_f18_3 := f18_3; have q2_n_5 := bn_5; have q2_n_17 := bn_17; have q_f14_59 := f14_59; have q_f1_60 := f1_60; have q_f17_60 := f17_60; have q_f18_60 := f18_60; have q_iv_71 := iv_71; have q_f14_89 := f14_89; have q_c_96 := i_nle c_96; have q_c_110 := i_le c_110; have q_f1_111 := f1_111; have q_f17_111 := f17_111; have q_f18_111 := f18_111; have q_z_114 := i_subD ez_114; have g_c2_3 := i_rg c2_3; have g_v1_40 := i_rg v1_40; have g_v2_70 := i_rg v2_70; have g_z_114 := i_rg z_114; have g_z_97 := i_rg z_97; have g_z_98 := i_rg z_98; omega)) dX1_keepTypes_154 (fun H locs hP hD hS => ?_)
                  obtain ⟨ws_118, e_ws_118⟩ : ∃ z, z = ws_72.set k_112 (q_28, .inl (g.cL, n_29, .inr (.inl (vp_updL f_112 (v1_40 : Int32).toNatClampNeg z_117)))) := ⟨_, rfl⟩
                  have hP : va_P (gD g) cl0 ws_118 H := by rw [e_ws_118]; exact hP
                  have hD : va_D A ws_118 := by rw [e_ws_118]; exact hD
                  have E_119 : gE ws_72 ws_118 := gE_arj e_ws_118 hk_112
                  have hG : Good g ws_118 := Good_arj e_ws_118 hk_112 hG
                  have Fr_120 : gF [] [(7, 14)] none ws_72 ws_118 := gF_ar e_ws_118 hk_112 rfl hC9 hS9
                  have pp_121 := Fr_120.pp
                  have hk_89 := gset_arO e_ws_118 hk_112 hk_89
                  have hk_111 := gset_arO e_ws_118 hk_112 hk_111
                  have o_h0 := E_119.1 _ _ o_h0
                  have a_r3_89 := E_119.1 _ _ a_r3_89
                  have a_r4_89 := E_119.1 _ _ a_r4_89
                  have o_r0_1 := E_119.1 _ _ o_r0_1
                  have a_r1_1 := E_119.1 _ _ a_r1_1
                  have a_r2_1 := E_119.1 _ _ a_r2_1
                  have o_v8_1 : ∀ b, v8_1 = some b → gC ws_118 b 9 := fun b h => E_119.1 _ _ (o_v8_1 b h)
                  have o_b_2 := E_119.1 _ _ o_b_2
                  have a_r0_111 := E_119.1 _ _ a_r0_111
                  have a_r1_111 := E_119.1 _ _ a_r1_111
                  have a_r3_111 := E_119.1 _ _ a_r3_111
                  have a_r5_111 := E_119.1 _ _ a_r5_111
                  have a_r6_111 := E_119.1 _ _ a_r6_111
                  have a_r7_111 := E_119.1 _ _ a_r7_111
                  have a_r8_111 := E_119.1 _ _ a_r8_111
                  have a_q_4 := E_119.1 _ _ a_q_4
                  have a_q_16 := E_119.1 _ _ a_q_16
                  have a_q_28 := E_119.1 _ _ a_q_28
                  exact J_155 (dc_81_2) (ds_81_2) ws_118 H locs ls (E_119) ((gF.mo (F' := []) (C' := [(7, 13), (7, 14)]) (S' := none) Fr_120 (fun _ h => h) (by decide) (Or.inr rfl))) hG (by have q_f19_3 := f19_3; have q_f20_3 := f20_3; have q_fq2_c := fq2_c; have q_n_5 := i_nn en_5 zn_5; have q2_n_5 := bn_5; have q_n_17 := i_nn en_17 zn_17; have q2_n_17 := bn_17; have q_n_29 := i_nn en_29 zn_29; have q2_n_29 := bn_29; have q_f20_60 := f20_60; have q_c_61 := i_nle c_61; have q_f20_111 := f20_111; have q_f4_1 := f4_1; have q_f14_1 := f14_1; have q_f15_1 := f15_1; have q_f16_1 := f16_1; have q_f1_3 := f1_3; have q_f17_3 := f17_3; have q_f18_3 := f18_3; have q_iv_41 := iv_41; have q_f14_59 := f14_59; have q_f1_60 := f1_60; have q_f17_60 := f17_60; have q_f18_60 := f18_60; have q_f14_89 := f14_89; have q_z_97 := i_mulR (c := 48) (K := 44739242) ez_97 (by decide) (by decide) (by decide) (by decide); have q_f1_111 := f1_111; have q_f17_111 := f17_111; have q_f18_111 := f18_111; have q_f2_1 := f2_1; have q_f6_1 := f6_1; have q_f3_3 := f3_3; have q_f6_59 := f6_59; have q_f3_60 := f3_60; have q_f6_89 := f6_89; have q_z_98 := i_addD ez_98; have q_f3_111 := f3_111; have g_c2_3 := i_rg c2_3; have g_v1_40 := i_rg v1_40; have g_v2_70 := i_rg v2_70; have g_z_97 := i_rg z_97; have g_z_98 := i_rg z_98; omega) (by have q_f19_3 := f19_3; have q_f20_3 := f20_3; have q_fq2_c := fq2_c; have q_n_5 := i_nn en_5 zn_5; have q2_n_5 := bn_5; have q_n_17 := i_nn en_17 zn_17; have q2_n_17 := bn_17; have q_n_29 := i_nn en_29 zn_29; have q2_n_29 := bn_29; have q_f20_60 := f20_60; have q_c_61 := i_nle c_61; have q_f20_111 := f20_111; have q_f4_1 := f4_1; have q_f14_1 := f14_1; have q_f15_1 := f15_1; have q_f16_1 := f16_1; have q_f1_3 := f1_3; have q_f17_3 := f17_3; have q_f18_3 := f18_3; have q_iv_41 := iv_41; have q_f14_59 := f14_59; have q_f1_60 := f1_60; have q_f17_60 := f17_60; have q_f18_60 := f18_60; have q_f14_89 := f14_89; have q_z_97 := i_mulR (c := 48) (K := 44739242) ez_97 (by decide) (by decide) (by decide) (by decide); have q_f1_111 := f1_111; have q_f17_111 := f17_111; have q_f18_111 := f18_111; have q_f2_1 := f2_1; have q_f6_1 := f6_1; have q_f3_3 := f3_3; have q_f6_59 := f6_59; have q_f3_60 := f3_60; have q_f6_89 := f6_89; have q_z_98 := i_addD ez_98; have q_f3_111 := f3_111; have g_c2_3 := i_rg c2_3; have g_v1_40 := i_rg v1_40; have g_v2_70 := i_rg v2_70; have g_z_97 := i_rg z_97; have g_z_98 := i_rg z_98; omega) hP hD hS (lv_sub hl [1, 2, 3] rfl)
                · refine lv_aload_n hx hb dX1_keepTypes_115 rfl (lv_at hl 1 rfl) ?_
                  refine va_get (D := gD g) (ci := 1) (v := .ref b_2) (C := RX1) (T := TX1) (N := 10) hx hb hts inX1 hown hK hP k_1 hk_89 rfl 9 (by decide) (hts _ kw_479) (fun _ h9 => h9) rfl dX1_keepTypes_116 ?_
                  obtain ⟨fs9, hk_122, hq_122⟩ := ((gF.a (F' := []) Fr_74 (fun _ h => h))) _ _ _ hk_60
                  obtain ⟨r0_122, n0_122, r1_122, n1_122, c2_122, r3_122, n3_122, c4_122, r5_122, n5_122, r6_122, n6_122, r7_122, n7_122, r8_122, n8_122, c9_122, c10_122, c11_122, v12_122, v13_122, v14_122, rfl, a_r0_122, f1_122, a_r1_122, f3_122, a_r3_122, f5_122, a_r5_122, f7_122, a_r6_122, f9_122, a_r7_122, f11_122, a_r8_122, f13_122, o_v12_122, o_v13_122, o_v14_122, f17_122, f18_122, f19_122, f20_122, f21_122, f22_122, f23_122, f24_122, f25_122, f26_122, f27_122, f28_122, f29_122, -⟩ := (hG.1 _ _ _ _ hk_122).hX8 rfl
                  obtain rfl := fe_i (hq_122 2 (by decide))
                  have hn9 := fe_qr (hq_122 12 (by decide))
                  subst hn9
                  obtain ⟨n_q_4_122, a_q_4, s_q_4_122⟩ := o_v12_122 _ rfl
                  have hn9 := gI_n hD ((E_73).1 _ _ aa_86) a_q_4
                  subst hn9
                  have hn9 := fe_qr (hq_122 13 (by decide))
                  subst hn9
                  obtain ⟨n_q_16_122, a_q_16, s_q_16_122⟩ := o_v13_122 _ rfl
                  have hn9 := gI_n hD ((E_73).1 _ _ aa_87) a_q_16
                  subst hn9
                  have hn9 := fe_qr (hq_122 14 (by decide))
                  subst hn9
                  obtain ⟨n_q_28_122, a_q_28, s_q_28_122⟩ := o_v14_122 _ rfl
                  have hn9 := gI_n hD ((E_73).1 _ _ aa_88) a_q_28
                  subst hn9
                  refine va_get (D := gD g) (ci := 7) (v := .ref q_16) (C := RX8) (T := TX8) (N := 15) hx hb hts inX8 hown hK hP k_3 hk_122 rfl 13 (by decide) (hts _ kw_565) (fun _ h9 => h9) rfl dX1_keepTypes_119 ?_
                  refine lv_iload_n hx hb dX1_keepTypes_122 rfl (lv_at hl 2 rfl) ?_
                  refine lv_dup2_11 hx hb dX1_keepTypes_123 rfl rfl ?_
                  obtain ⟨k_123, f_123, hk_123⟩ := gJ_of a_q_16
                  refine va_lald hx hb hK hP k_123 3 hk_123 rfl (i_in2 (by have e16 : (16 : Int32).toInt = 16 := (by decide); have e24 : (24 : Int32).toInt = 24 := (by decide); have q_n_17 := i_nn en_17 zn_17; have q2_n_17 := bn_17; have q_iv_41 := iv_41; have q_c_61 := i_nle c_61; have q_z_97 := i_mulR (c := 48) (K := 44739242) ez_97 (by decide) (by decide) (by decide) (by decide); have q_f19_3 := f19_3; have q_f20_3 := f20_3; have q_fq2_c := fq2_c; have q_n_5 := i_nn en_5 zn_5; have q_n_29 := i_nn en_29 zn_29; have q_f20_60 := f20_60; have q_z_98 := i_addD ez_98; have q_f20_122 := f20_122; have q_f4_1 := f4_1; have q_f14_1 := f14_1; have q_f15_1 := f15_1; have q_f16_1 := f16_1; have q_f1_3 := f1_3; have q_f17_3 := f17_3; have q_f18_3 := f18_3; have q2_n_5 := bn_5; have q2_n_29 := bn_29; have q_f14_59 := f14_59; have q_f1_60 := f1_60; have q_f17_60 := f17_60; have q_f18_60 := f18_60; have q_iv_71 := iv_71; have q_f14_89 := f14_89; have q_c_96 := i_nle c_96; have q_c_110 := i_nle c_110; have q_f1_122 := f1_122; have q_f17_122 := f17_122; have q_f18_122 := f18_122; have g_c2_3 := i_rg c2_3; have g_v1_40 := i_rg v1_40; have g_v2_70 := i_rg v2_70; have g_z_97 := i_rg z_97; have g_z_98 := i_rg z_98; omega)) dX1_keepTypes_124 ?_
                  refine lv_topl (fun z_124 ez_124 => ?_)
                  refine lv_lload_n hx hb dX1_keepTypes_125 rfl (lv_at hl 0 rfl) ?_
                  refine lv_iconst (v := 4) hx hb dX1_keepTypes_126 (by decide) ?_
                  refine lv_iload_n hx hb dX1_keepTypes_127 rfl (lv_at hl 3 rfl) ?_
                  refine lv_imul hx hb dX1_keepTypes_128 ?_
                  refine lv_topi (fun z_125 ez_125 => ?_)
                  refine lv_lshl hx hb dX1_keepTypes_129 rfl ?_
                  refine lv_topl (fun z_126 ez_126 => ?_)
                  refine lv_lor hx hb dX1_keepTypes_130 ?_
                  refine lv_topl (fun z_127 ez_127 => ?_)
                  have hC9 : hol ws_72 q_16 [(7, 13)] := (hol_u hG.u hk_122 (j := 13) rfl a_q_16 (by decide))
                  have hS9 : holS ws_72 q_16 none := holS_n
                  refine va_last hx hb hK hP hD hS k_123 3 hk_123 rfl (i_in2 (by have e16 : (16 : Int32).toInt = 16 := (by decide); have e24 : (24 : Int32).toInt = 24 := (by decide); have q_n_17 := i_nn en_17 zn_17; have q2_n_17 := bn_17; have q_iv_41 := iv_41; have q_c_61 := i_nle c_61; have q_z_97 := i_mulR (c := 48) (K := 44739242) ez_97 (by decide) (by decide) (by decide) (by decide); have q_f19_3 := f19_3; have q_f20_3 := f20_3; have q_fq2_c := fq2_c; have q_n_5 := i_nn en_5 zn_5; have q_n_29 := i_nn en_29 zn_29; have q_f20_60 := f20_60; have q_z_98 := i_addD ez_98; have q_f20_122 := f20_122; have q_f4_1 := f4_1; have q_f14_1 := f14_1; have q_f15_1 := f15_1; have q_f16_1 := f16_1; have q_f1_3 := f1_3; have q_f17_3 := f17_3; have q_f18_3 := f18_3; have q2_n_5 := bn_5; have q2_n_29 := bn_29; have q_f14_59 := f14_59; have q_f1_60 := f1_60; have q_f17_60 := f17_60; have q_f18_60 := f18_60; have q_iv_71 := iv_71; have q_f14_89 := f14_89; have q_c_96 := i_nle c_96; have q_c_110 := i_nle c_110; have q_f1_122 := f1_122; have q_f17_122 := f17_122; have q_f18_122 := f18_122; have q_z_125 := i_mulL (c := 4) (K := 536870911) ez_125 (by decide) (by decide) (by decide) (by decide); have g_c2_3 := i_rg c2_3; have g_v1_40 := i_rg v1_40; have g_v2_70 := i_rg v2_70; have g_z_125 := i_rg z_125; have g_z_97 := i_rg z_97; have g_z_98 := i_rg z_98; omega)) dX1_keepTypes_131 (fun H locs hP hD hS => ?_)
                  obtain ⟨ws_128, e_ws_128⟩ : ∃ z, z = ws_72.set k_123 (q_16, .inl (g.cL, n_17, .inr (.inl (vp_updL f_123 (v1_40 : Int32).toNatClampNeg z_127)))) := ⟨_, rfl⟩
                  have hP : va_P (gD g) cl0 ws_128 H := by rw [e_ws_128]; exact hP
                  have hD : va_D A ws_128 := by rw [e_ws_128]; exact hD
                  have E_129 : gE ws_72 ws_128 := gE_arj e_ws_128 hk_123
                  have hG : Good g ws_128 := Good_arj e_ws_128 hk_123 hG
                  have Fr_130 : gF [] [(7, 13)] none ws_72 ws_128 := gF_ar e_ws_128 hk_123 rfl hC9 hS9
                  have pp_131 := Fr_130.pp
                  have hk_89 := gset_arO e_ws_128 hk_123 hk_89
                  have hk_122 := gset_arO e_ws_128 hk_123 hk_122
                  have o_h0 := E_129.1 _ _ o_h0
                  have a_r3_89 := E_129.1 _ _ a_r3_89
                  have a_r4_89 := E_129.1 _ _ a_r4_89
                  have o_r0_1 := E_129.1 _ _ o_r0_1
                  have a_r1_1 := E_129.1 _ _ a_r1_1
                  have a_r2_1 := E_129.1 _ _ a_r2_1
                  have o_v8_1 : ∀ b, v8_1 = some b → gC ws_128 b 9 := fun b h => E_129.1 _ _ (o_v8_1 b h)
                  have o_b_2 := E_129.1 _ _ o_b_2
                  have a_r0_122 := E_129.1 _ _ a_r0_122
                  have a_r1_122 := E_129.1 _ _ a_r1_122
                  have a_r3_122 := E_129.1 _ _ a_r3_122
                  have a_r5_122 := E_129.1 _ _ a_r5_122
                  have a_r6_122 := E_129.1 _ _ a_r6_122
                  have a_r7_122 := E_129.1 _ _ a_r7_122
                  have a_r8_122 := E_129.1 _ _ a_r8_122
                  have a_q_4 := E_129.1 _ _ a_q_4
                  have a_q_16 := E_129.1 _ _ a_q_16
                  have a_q_28 := E_129.1 _ _ a_q_28
                  refine lv_goto (tgt := 155) hx hb dX1_keepTypes_132 (by decide) ?_
                  exact J_155 (dc_81_2) (ds_81_2) ws_128 H locs ls (E_129) ((gF.mo (F' := []) (C' := [(7, 13), (7, 14)]) (S' := none) Fr_130 (fun _ h => h) (by decide) (Or.inr rfl))) hG (by have q_f19_3 := f19_3; have q_f20_3 := f20_3; have q_fq2_c := fq2_c; have q_n_5 := i_nn en_5 zn_5; have q2_n_5 := bn_5; have q_n_17 := i_nn en_17 zn_17; have q2_n_17 := bn_17; have q_n_29 := i_nn en_29 zn_29; have q2_n_29 := bn_29; have q_f20_60 := f20_60; have q_c_61 := i_nle c_61; have q_f20_122 := f20_122; have q_f4_1 := f4_1; have q_f14_1 := f14_1; have q_f15_1 := f15_1; have q_f16_1 := f16_1; have q_f1_3 := f1_3; have q_f17_3 := f17_3; have q_f18_3 := f18_3; have q_iv_41 := iv_41; have q_f14_59 := f14_59; have q_f1_60 := f1_60; have q_f17_60 := f17_60; have q_f18_60 := f18_60; have q_f14_89 := f14_89; have q_z_97 := i_mulR (c := 48) (K := 44739242) ez_97 (by decide) (by decide) (by decide) (by decide); have q_f1_122 := f1_122; have q_f17_122 := f17_122; have q_f18_122 := f18_122; have q_f2_1 := f2_1; have q_f6_1 := f6_1; have q_f3_3 := f3_3; have q_f6_59 := f6_59; have q_f3_60 := f3_60; have q_f6_89 := f6_89; have q_z_98 := i_addD ez_98; have q_f3_122 := f3_122; have g_c2_3 := i_rg c2_3; have g_v1_40 := i_rg v1_40; have g_v2_70 := i_rg v2_70; have g_z_97 := i_rg z_97; have g_z_98 := i_rg z_98; omega) (by have q_f19_3 := f19_3; have q_f20_3 := f20_3; have q_fq2_c := fq2_c; have q_n_5 := i_nn en_5 zn_5; have q2_n_5 := bn_5; have q_n_17 := i_nn en_17 zn_17; have q2_n_17 := bn_17; have q_n_29 := i_nn en_29 zn_29; have q2_n_29 := bn_29; have q_f20_60 := f20_60; have q_c_61 := i_nle c_61; have q_f20_122 := f20_122; have q_f4_1 := f4_1; have q_f14_1 := f14_1; have q_f15_1 := f15_1; have q_f16_1 := f16_1; have q_f1_3 := f1_3; have q_f17_3 := f17_3; have q_f18_3 := f18_3; have q_iv_41 := iv_41; have q_f14_59 := f14_59; have q_f1_60 := f1_60; have q_f17_60 := f17_60; have q_f18_60 := f18_60; have q_f14_89 := f14_89; have q_z_97 := i_mulR (c := 48) (K := 44739242) ez_97 (by decide) (by decide) (by decide) (by decide); have q_f1_122 := f1_122; have q_f17_122 := f17_122; have q_f18_122 := f18_122; have q_f2_1 := f2_1; have q_f6_1 := f6_1; have q_f3_3 := f3_3; have q_f6_59 := f6_59; have q_f3_60 := f3_60; have q_f6_89 := f6_89; have q_z_98 := i_addD ez_98; have q_f3_122 := f3_122; have g_c2_3 := i_rg c2_3; have g_v1_40 := i_rg v1_40; have g_v2_70 := i_rg v2_70; have g_z_97 := i_rg z_97; have g_z_98 := i_rg z_98; omega) hP hD hS (lv_sub hl [1, 2, 3] rfl)
        exact J_81 _ (0) (dc_50_1) (ds_50_1) ws_66 H locs ls rfl (by have e0 : (0 : Int32).toInt = 0 := (by decide); omega) (gE.rf) (gF.rf) hG (by have q_f19_3 := f19_3; have q_f20_3 := f20_3; have q_fq2_c := fq2_c; have q_n_5 := i_nn en_5 zn_5; have q2_n_5 := bn_5; have q_n_17 := i_nn en_17 zn_17; have q2_n_17 := bn_17; have q_n_29 := i_nn en_29 zn_29; have q2_n_29 := bn_29; have q_f20_60 := f20_60; have q_c_61 := i_nle c_61; have q_f4_1 := f4_1; have q_f14_1 := f14_1; have q_f15_1 := f15_1; have q_f16_1 := f16_1; have q_f1_3 := f1_3; have q_f17_3 := f17_3; have q_f18_3 := f18_3; have q_iv_41 := iv_41; have q_f14_59 := f14_59; have q_f1_60 := f1_60; have q_f17_60 := f17_60; have q_f18_60 := f18_60; have q_f2_1 := f2_1; have q_f6_1 := f6_1; have q_f3_3 := f3_3; have q_f6_59 := f6_59; have q_f3_60 := f3_60; have g_c2_3 := i_rg c2_3; have g_v1_40 := i_rg v1_40; omega) (by have q_f19_3 := f19_3; have q_f20_3 := f20_3; have q_fq2_c := fq2_c; have q_n_5 := i_nn en_5 zn_5; have q2_n_5 := bn_5; have q_n_17 := i_nn en_17 zn_17; have q2_n_17 := bn_17; have q_n_29 := i_nn en_29 zn_29; have q2_n_29 := bn_29; have q_f20_60 := f20_60; have q_c_61 := i_nle c_61; have q_f4_1 := f4_1; have q_f14_1 := f14_1; have q_f15_1 := f15_1; have q_f16_1 := f16_1; have q_f1_3 := f1_3; have q_f17_3 := f17_3; have q_f18_3 := f18_3; have q_iv_41 := iv_41; have q_f14_59 := f14_59; have q_f1_60 := f1_60; have q_f17_60 := f17_60; have q_f18_60 := f18_60; have q_f2_1 := f2_1; have q_f6_1 := f6_1; have q_f3_3 := f3_3; have q_f6_59 := f6_59; have q_f3_60 := f3_60; have g_c2_3 := i_rg c2_3; have g_v1_40 := i_rg v1_40; omega) hP hD hS (lv_sub hl [1, 2, 0] rfl)
  exact J_50 _ (0) (0 + 1 + 1 + 1) (0 + n_5 + n_17 + n_29) ws_36 H locs ls rfl (by have e0 : (0 : Int32).toInt = 0 := (by decide); omega) (gE.rf) (gF.rf) hG (by have q_f19_3 := f19_3; have q_f20_3 := f20_3; have q_fq2_c := fq2_c; have q_n_5 := i_nn en_5 zn_5; have q2_n_5 := bn_5; have q_n_17 := i_nn en_17 zn_17; have q2_n_17 := bn_17; have q_n_29 := i_nn en_29 zn_29; have q2_n_29 := bn_29; have q_f4_1 := f4_1; have q_f14_1 := f14_1; have q_f15_1 := f15_1; have q_f16_1 := f16_1; have q_f1_3 := f1_3; have q_f17_3 := f17_3; have q_f18_3 := f18_3; have q_f2_1 := f2_1; have q_f6_1 := f6_1; have q_f3_3 := f3_3; have g_c2_3 := i_rg c2_3; omega) (by have q_f19_3 := f19_3; have q_f20_3 := f20_3; have q_fq2_c := fq2_c; have q_n_5 := i_nn en_5 zn_5; have q2_n_5 := bn_5; have q_n_17 := i_nn en_17 zn_17; have q2_n_17 := bn_17; have q_n_29 := i_nn en_29 zn_29; have q2_n_29 := bn_29; have q_f4_1 := f4_1; have q_f14_1 := f14_1; have q_f15_1 := f15_1; have q_f16_1 := f16_1; have q_f1_3 := f1_3; have q_f17_3 := f17_3; have q_f18_3 := f18_3; have q_f2_1 := f2_1; have q_f6_1 := f6_1; have q_f3_3 := f3_3; have g_c2_3 := i_rg c2_3; omega) hP hD hS (lv_sub hl [1, 0] rfl)
set_option maxHeartbeats 1000000 in
set_option maxRecDepth 100000 in
theorem m_X1_makeRoom (l : Launch) (g : Gm) (H0 : Heap) (ws : va_W) (h0 : Nat) (x1 : Int32) (hG : Good g ws) (o_h0 : gC ws h0 1) (p0 : 0 ≤ x1.toInt ∧ x1.toInt ≤ 1296) : Met l yX1_makeRoom (wt yX1_makeRoom cX1_makeRoom 3 none) ({ frames := 0, cells := PC ws + (0), slots := PS ws + (0), locals := 0 }) (va_Pc [.ref h0, .int x1] (st_H g H0 ws)) (va_Qv (fun (u9 : va_W) => gP u9 h0 (fun fs => ∀ (rn n : Nat), fs[2]? = some (.ref rn) → gI u9 rn g.cZ n → x1.toInt ≤ n)) (gQ2 g [(1, 1), (1, 2), (1, 3)] [(1, 2), (1, 3)] none (va_A ws H0.size) ws H0 (0) (0)) (va_A ws H0.size)) (PC ws + (0)) (PS ws + (0)) (va_A ws H0.size) := by
  refine Met.ofW (cc := cX1_makeRoom) (maxL := 3) (ret := none) (by decide) rfl ?_
  intro p e s m args below meth c s₁ B hml hv
  obtain ⟨rfl, hH0, hsz, hP, hK, hD0, hex, hE⟩ := hv
  have hx := B.exec
  have hb := B.bytes
  have hr := B.returns
  have hts0 := atoms_spec (ws := wt yX1_makeRoom cX1_makeRoom 3 none) B.pre
  have hts : ∀ w ∈ tb, w.before _ s = true := fun w h => hts0 w (List.mem_cons_of_mem _ h)
  have hown : s.vm.findClass RX1 = some m.cls := findClass_of_methodNamed B.named
  subst hH0
  have hD := hD0.self (sz := s.heap.size)
  generalize hAe : va_A ws s.heap.size = A at hD hE ⊢
  have hA : ∀ q : Nat, s.heap.size ≤ q → A q := fun q h => by rw [← hAe]; exact Or.inr h
  have hS : va_S A s.heap s.heap [] := va_S.rf
  have hl := lv_entry ([.ref h0, .int x1]) (n := 3) (Nat.le_of_ble_eq_true rfl)
  rw [lg_entry_eq]
  generalize (lg_sl ([.ref h0, .int x1]) ++ List.replicate (3 - (lg_sl ([.ref h0, .int x1])).length) Slot.unset).toArray = ls at hl ⊢
  have hl : lv_has ls 3 [(0, .ref h0), (1, .int x1)] := hl
  refine lv_aload_n hx hb dX1_makeRoom_0 rfl (lv_at hl 0 rfl) ?_
  obtain ⟨k_1, fs9, hk_1⟩ := gC_of o_h0
  obtain ⟨r0_1, r1_1, n1_1, r2_1, n2_1, r3_1, n3_1, r4_1, n4_1, c5_1, c6_1, c7_1, v8_1, v9_1, rfl, o_r0_1, a_r1_1, f2_1, a_r2_1, f4_1, a_r3_1, f6_1, a_r4_1, f8_1, hz_c6_1, hz_c7_1, o_v8_1, o_v9_1, f13_1, f14_1, f15_1, f16_1, -⟩ := (hG.1 _ _ _ _ hk_1).hX1 rfl
  refine va_get (D := gD g) (ci := 1) (v := .ref r2_1) (C := RX1) (T := TX1) (N := 10) hx hb hts inX1 hown hK hP k_1 hk_1 rfl 2 (by decide) (hts _ kw_494) (fun _ h9 => h9) rfl dX1_makeRoom_1 ?_
  obtain ⟨k_2, f_2, hk_2⟩ := gI_of a_r2_1
  obtain ⟨z_3, ez_3⟩ : ∃ z : Int32, Int32.ofNat n2_1 = z := ⟨_, rfl⟩
  refine va_alen (v := z_3) hx hb hK hP k_2 2 hk_2 rfl ez_3 dX1_makeRoom_4 ?_
  refine lv_iload_n hx hb dX1_makeRoom_5 rfl (lv_at hl 1 rfl) ?_
  have J_37 : ∀ (dc_37_1 : Nat) (ds_37_1 : Nat) (ws_4 : va_W) (H : Heap) (locs : List Loc) (ls : Array Slot), gE ws ws_4 → gF [(1, 1), (1, 2), (1, 3)] [] none ws ws_4 → Good g ws_4 → dc_37_1 + PC ws_4 ≤ PC ws + (0) → ds_37_1 + PS ws_4 ≤ PS ws + (0) → gP ws_4 h0 (fun fs => ∀ (rn n : Nat), fs[2]? = some (.ref rn) → gI ws_4 rn g.cZ n → x1.toInt ≤ n) → va_P (gD g) cl0 ws_4 H → va_D A ws_4 → va_S A s.heap H locs → lv_has ls 3 [(0, .ref h0)] → W p l e (headSpec (wt yX1_makeRoom cX1_makeRoom 3 none) ({ frames := 0, cells := PC ws + (0), slots := PS ws + (0), locals := 0 })).room s m ([.ref h0, .int x1] : List Value).toArray below meth c H locs (dc_37_1) (ds_37_1) (MQ below (va_Qv (fun (u9 : va_W) => gP u9 h0 (fun fs => ∀ (rn n : Nat), fs[2]? = some (.ref rn) → gI u9 rn g.cZ n → x1.toInt ≤ n)) (gQ2 g [(1, 1), (1, 2), (1, 3)] [(1, 2), (1, 3)] none A ws s.heap (0) (0)) A) ([.ref h0, .int x1] : List Value).toArray s (PC ws + (0)) (PS ws + (0)) A) (F0 m 37 ls []) := by
    intro dc_37_1 ds_37_1 ws_4 H locs ls  E_5 Fr_6 hG hc9 hs9 jf_37_k hP hD hS hl
    have aa_7 := a_r1_1
    have aa_8 := a_r2_1
    have aa_9 := a_r3_1
    have aa_10 := a_r4_1
    have o_h0 := E_5.1 _ _ o_h0
    refine lv_iconst (v := 0) hx hb dX1_makeRoom_37 (by decide) ?_
    refine lv_istore_n (lv' := [(2, .int 0), (0, .ref h0)]) hx hb dX1_makeRoom_38 rfl hl (by decide) rfl (fun ls hl => ?_)
    have J_39 : ∀ (n9 : Nat) (v2_11 : Int32) (dc_39_2 : Nat) (ds_39_2 : Nat) (ws_13 : va_W) (H : Heap) (locs : List Loc) (ls : Array Slot), (2147483647 - v2_11.toInt).toNat = n9 → 0 ≤ v2_11.toInt → gE ws_4 ws_13 → gF [] [(1, 2), (1, 3)] none ws_4 ws_13 → Good g ws_13 → dc_39_2 + PC ws_13 ≤ PC ws + (0) → ds_39_2 + PS ws_13 ≤ PS ws + (0) → gP ws_13 h0 (fun fs => ∀ (rn n : Nat), fs[2]? = some (.ref rn) → gI ws_13 rn g.cZ n → x1.toInt ≤ n) → va_P (gD g) cl0 ws_13 H → va_D A ws_13 → va_S A s.heap H locs → lv_has ls 3 [(0, .ref h0), (2, .int v2_11)] → W p l e (headSpec (wt yX1_makeRoom cX1_makeRoom 3 none) ({ frames := 0, cells := PC ws + (0), slots := PS ws + (0), locals := 0 })).room s m ([.ref h0, .int x1] : List Value).toArray below meth c H locs (dc_39_2) (ds_39_2) (MQ below (va_Qv (fun (u9 : va_W) => gP u9 h0 (fun fs => ∀ (rn n : Nat), fs[2]? = some (.ref rn) → gI u9 rn g.cZ n → x1.toInt ≤ n)) (gQ2 g [(1, 1), (1, 2), (1, 3)] [(1, 2), (1, 3)] none A ws s.heap (0) (0)) A) ([.ref h0, .int x1] : List Value).toArray s (PC ws + (0)) (PS ws + (0)) A) (F0 m 39 ls []) := by
      intro n9
      induction n9 using Nat.strongRecOn with
      | ind n9 ih_39 =>
        intro v2_11 dc_39_2 ds_39_2 ws_13 H locs ls hm9 iv_12 E_14 Fr_15 hG hc9 hs9 jf_39_k hP hD hS hl
        subst hm9
        have o_h0 := E_14.1 _ _ o_h0
        refine lv_iload_n hx hb dX1_makeRoom_39 rfl (lv_at hl 1 rfl) ?_
        refine lv_aload_n hx hb dX1_makeRoom_40 rfl (lv_at hl 0 rfl) ?_
        obtain ⟨fs9, hk_16, hq_16⟩ := ((gA.tr (gF.a (F' := [(1, 1), (1, 2), (1, 3)]) Fr_6 (fun _ h => h)) (gF.a (F' := [(1, 1), (1, 2), (1, 3)]) Fr_15 (fun _ h => absurd h List.not_mem_nil)))) _ _ _ hk_1
        obtain ⟨r0_16, r1_16, n1_16, r2_16, n2_16, r3_16, n3_16, r4_16, n4_16, c5_16, c6_16, c7_16, v8_16, v9_16, rfl, o_r0_16, a_r1_16, f2_16, a_r2_16, f4_16, a_r3_16, f6_16, a_r4_16, f8_16, hz_c6_16, hz_c7_16, o_v8_16, o_v9_16, f13_16, f14_16, f15_16, f16_16, -⟩ := (hG.1 _ _ _ _ hk_16).hX1 rfl
        obtain rfl := fe_q (hq_16 8 (by decide))
        have o_v8_1 := o_v8_16
        obtain rfl := fe_q (hq_16 9 (by decide))
        have o_v9_1 := o_v9_16
        have kq_17 := jf_39_k _ _ _ hk_16 _ _ rfl a_r2_16
        refine va_get (D := gD g) (ci := 1) (v := .ref r2_16) (C := RX1) (T := TX1) (N := 10) hx hb hts inX1 hown hK hP k_1 hk_16 rfl 2 (by decide) (hts _ kw_494) (fun _ h9 => h9) rfl dX1_makeRoom_41 ?_
        obtain ⟨k_18, f_18, hk_18⟩ := gI_of a_r2_16
        obtain ⟨z_19, ez_19⟩ : ∃ z : Int32, Int32.ofNat n2_16 = z := ⟨_, rfl⟩
        refine va_alen (v := z_19) hx hb hK hP k_18 2 hk_18 rfl ez_19 dX1_makeRoom_44 ?_
        refine lv_icmp_ge (tgt := 68) hx hb dX1_makeRoom_45 (by decide) (fun c_20 => ?_) (fun c_20 => ?_)
        · refine W_led (fun hLd => ?_)
          have hcl : dc_39_2 + PC ws_13 ≤ PC ws + (0) := (by omega)
          have hsl : ds_39_2 + PS ws_13 ≤ PS ws + (0) := (by omega)
          refine W.widen (k := PC ws + (0)) (n := PS ws + (0)) (by omega) (by omega) ?_
          exact W.vret hx hb hr (fun t9 ht9 hW9 => ⟨⟨ws_13, rfl, (gP_of hD hk_16 (fun p90 q90 e90 g90 => by cases e90; have z90 := gI_n hD a_r2_16 g90; subst z90; exact (by have q_p0 := p0; have q_f4_16 := f4_16; have q_f14_16 := f14_16; have q_f15_16 := f15_16; have q_f16_16 := f16_16; have q_kq_17 := kq_17; have q_z_19 := i_len ez_19 f4_16; have q_f2_16 := f2_16; have q_f6_16 := f6_16; have q_c_20 := i_le c_20; have q_iv_12 := iv_12; have g_v2_11 := i_rg v2_11; have g_x1 := i_rg x1; have g_z_19 := i_rg z_19; omega))), ⟨(E_5.tr E_14), (gF.tr (gF.mo (F' := [(1, 1), (1, 2), (1, 3)]) (C' := [(1, 2), (1, 3)]) (S' := none) Fr_6 (fun _ h => h) (fun _ h => absurd h List.not_mem_nil) (Or.inr rfl)) (gF.mo (F' := [(1, 1), (1, 2), (1, 3)]) (C' := [(1, 2), (1, 3)]) (S' := none) Fr_15 (fun _ h => absurd h List.not_mem_nil) (fun _ h => h) (Or.inr rfl))), hG, by rw [ht9]; exact hP, hD, _, _, by rw [ht9]; exact hLd, hcl, hsl⟩⟩, hS.F ht9⟩) hS.2.2 dX1_makeRoom_68
        · refine lv_aload_n hx hb dX1_makeRoom_48 rfl (lv_at hl 0 rfl) ?_
          refine va_get (D := gD g) (ci := 1) (v := .ref r2_16) (C := RX1) (T := TX1) (N := 10) hx hb hts inX1 hown hK hP k_1 hk_16 rfl 2 (by decide) (hts _ kw_494) (fun _ h9 => h9) rfl dX1_makeRoom_49 ?_
          refine lv_iload_n hx hb dX1_makeRoom_52 rfl (lv_at hl 1 rfl) ?_
          refine lv_iconst (v := 0) hx hb dX1_makeRoom_53 (by decide) ?_
          have hC9 : hol ws_13 r2_16 [(1, 2)] := (hol_u hG.u hk_16 (j := 2) rfl a_r2_16 (by decide))
          have hS9 : holS ws_13 r2_16 none := holS_n
          refine va_zast hx hb hK hP hD hS k_18 2 hk_18 rfl (i_in2 (by have q_iv_12 := iv_12; have q_f4_16 := f4_16; have q_f14_16 := f14_16; have q_f15_16 := f15_16; have q_f16_16 := f16_16; have q_kq_17 := kq_17; have q_z_19 := i_len ez_19 f4_16; have q_c_20 := i_nle c_20; have q_p0 := p0; have q_f2_16 := f2_16; have q_f6_16 := f6_16; have g_v2_11 := i_rg v2_11; have g_x1 := i_rg x1; have g_z_19 := i_rg z_19; omega)) dX1_makeRoom_54 (fun H locs hP hD hS => ?_)
          obtain ⟨ws_21, e_ws_21⟩ : ∃ z, z = ws_13.set k_18 (r2_16, .inl (g.cZ, n2_16, .inl (upd f_18 (v2_11 : Int32).toNatClampNeg (vp_nar .boolean 0)))) := ⟨_, rfl⟩
          have hP : va_P (gD g) cl0 ws_21 H := by rw [e_ws_21]; exact hP
          have hD : va_D A ws_21 := by rw [e_ws_21]; exact hD
          have E_22 : gE ws_13 ws_21 := gE_ari e_ws_21 hk_18
          have hG : Good g ws_21 := Good_arZ e_ws_21 hk_18 hG
          have Fr_23 : gF [] [(1, 2)] none ws_13 ws_21 := gF_ar e_ws_21 hk_18 rfl hC9 hS9
          have pp_24 := Fr_23.pp
          have hk_16 := gset_arO e_ws_21 hk_18 hk_16
          have o_h0 := E_22.1 _ _ o_h0
          have o_r0_16 := E_22.1 _ _ o_r0_16
          have a_r1_16 := E_22.1 _ _ a_r1_16
          have a_r2_16 := E_22.1 _ _ a_r2_16
          have a_r3_16 := E_22.1 _ _ a_r3_16
          have a_r4_16 := E_22.1 _ _ a_r4_16
          have o_v8_1 : ∀ b, v8_1 = some b → gC ws_21 b 9 := fun b h => E_22.1 _ _ (o_v8_1 b h)
          have o_v9_1 : ∀ b, v9_1 = some b → gC ws_21 b 7 := fun b h => E_22.1 _ _ (o_v9_1 b h)
          refine lv_aload_n hx hb dX1_makeRoom_55 rfl (lv_at hl 0 rfl) ?_
          refine va_get (D := gD g) (ci := 1) (v := .ref r3_16) (C := RX1) (T := TX1) (N := 10) hx hb hts inX1 hown hK hP k_1 hk_16 rfl 3 (by decide) (hts _ kw_497) (fun _ h9 => h9) rfl dX1_makeRoom_56 ?_
          refine lv_iload_n hx hb dX1_makeRoom_59 rfl (lv_at hl 1 rfl) ?_
          refine lv_iconst (v := 0) hx hb dX1_makeRoom_60 (by decide) ?_
          obtain ⟨k_25, f_25, hk_25⟩ := gI_of a_r3_16
          have hC9 : hol ws_21 r3_16 [(1, 3)] := (hol_u hG.u hk_16 (j := 3) rfl a_r3_16 (by decide))
          have hS9 : holS ws_21 r3_16 none := holS_n
          refine va_zast hx hb hK hP hD hS k_25 2 hk_25 rfl (i_in2 (by have q_iv_12 := iv_12; have q_f6_16 := f6_16; have q_f14_16 := f14_16; have q_c_20 := i_nle c_20; have q_f4_16 := f4_16; have q_f15_16 := f15_16; have q_f16_16 := f16_16; have q_kq_17 := kq_17; have q_z_19 := i_len ez_19 f4_16; have q_p0 := p0; have q_f2_16 := f2_16; have g_v2_11 := i_rg v2_11; have g_x1 := i_rg x1; have g_z_19 := i_rg z_19; omega)) dX1_makeRoom_61 (fun H locs hP hD hS => ?_)
          obtain ⟨ws_26, e_ws_26⟩ : ∃ z, z = ws_21.set k_25 (r3_16, .inl (g.cZ, n3_16, .inl (upd f_25 (v2_11 : Int32).toNatClampNeg (vp_nar .boolean 0)))) := ⟨_, rfl⟩
          have hP : va_P (gD g) cl0 ws_26 H := by rw [e_ws_26]; exact hP
          have hD : va_D A ws_26 := by rw [e_ws_26]; exact hD
          have E_27 : gE ws_21 ws_26 := gE_ari e_ws_26 hk_25
          have hG : Good g ws_26 := Good_arZ e_ws_26 hk_25 hG
          have Fr_28 : gF [] [(1, 3)] none ws_21 ws_26 := gF_ar e_ws_26 hk_25 rfl hC9 hS9
          have pp_29 := Fr_28.pp
          have hk_16 := gset_arO e_ws_26 hk_25 hk_16
          have o_h0 := E_27.1 _ _ o_h0
          have o_r0_16 := E_27.1 _ _ o_r0_16
          have a_r1_16 := E_27.1 _ _ a_r1_16
          have a_r2_16 := E_27.1 _ _ a_r2_16
          have a_r3_16 := E_27.1 _ _ a_r3_16
          have a_r4_16 := E_27.1 _ _ a_r4_16
          have o_v8_1 : ∀ b, v8_1 = some b → gC ws_26 b 9 := fun b h => E_27.1 _ _ (o_v8_1 b h)
          have o_v9_1 : ∀ b, v9_1 = some b → gC ws_26 b 7 := fun b h => E_27.1 _ _ (o_v9_1 b h)
          obtain ⟨z_30, ez_30⟩ : ∃ z : Int32, v2_11 + Int32.ofInt 1 = z := ⟨_, rfl⟩
          refine lv_iinc (v := z_30) (lv' := [(2, .int z_30), (0, .ref h0)]) hx hb dX1_makeRoom_62 hl (k := 1) rfl ez_30 (by decide) rfl (fun ls hl => ?_)
          refine lv_goto (tgt := 39) hx hb dX1_makeRoom_65 (by decide) ?_
          exact ih_39 _ (by obtain ⟨u_z_30, q_z_30⟩ := i_iz ez_30 (by decide) (by decide); have q_iv_12 := iv_12; have q_c_20 := i_nle c_20; have q_z_19 := i_len ez_19 f4_16; have q_f4_16 := f4_16; have q_f14_16 := f14_16; have q_f15_16 := f15_16; have q_f16_16 := f16_16; have q_kq_17 := kq_17; have g_v2_11 := i_rg v2_11; have g_x1 := i_rg x1; have g_z_19 := i_rg z_19; have g_z_30 := i_rg z_30; omega) (z_30) (dc_39_2) (ds_39_2) ws_26 H locs ls rfl (by obtain ⟨u_z_30, q_z_30⟩ := i_iz ez_30 (by decide) (by decide); have q_iv_12 := iv_12; have q_c_20 := i_nle c_20; have q_z_19 := i_len ez_19 f4_16; have q_f4_16 := f4_16; have q_f14_16 := f14_16; have q_f15_16 := f15_16; have q_f16_16 := f16_16; have q_kq_17 := kq_17; have g_v2_11 := i_rg v2_11; have g_x1 := i_rg x1; have g_z_19 := i_rg z_19; have g_z_30 := i_rg z_30; omega) ((E_14.tr (E_22.tr E_27))) ((gF.tr Fr_15 (gF.tr (gF.mo (F' := []) (C' := [(1, 2), (1, 3)]) (S' := none) Fr_23 (fun _ h => h) (by decide) (Or.inr rfl)) (gF.mo (F' := []) (C' := [(1, 2), (1, 3)]) (S' := none) Fr_28 (fun _ h => h) (by decide) (Or.inr rfl))))) hG (by omega) (by omega) (gP_of hD hk_16 (fun p90 q90 e90 g90 => by cases e90; have z90 := gI_n hD a_r2_16 g90; subst z90; exact (by have q_p0 := p0; have q_f4_16 := f4_16; have q_f14_16 := f14_16; have q_f15_16 := f15_16; have q_f16_16 := f16_16; have q_kq_17 := kq_17; have q_z_19 := i_len ez_19 f4_16; have q_f2_16 := f2_16; have q_f6_16 := f6_16; have q_c_20 := i_nle c_20; have q_iv_12 := iv_12; obtain ⟨u_z_30, q_z_30⟩ := i_iz ez_30 (by decide) (by decide); have g_v2_11 := i_rg v2_11; have g_x1 := i_rg x1; have g_z_19 := i_rg z_19; have g_z_30 := i_rg z_30; omega))) hP hD hS (lv_sub hl [1, 0] rfl)
    obtain ⟨fs9, hk_31, hq_31⟩ := ((gF.a (F' := [(1, 1), (1, 2), (1, 3)]) Fr_6 (fun _ h => h))) _ _ _ hk_1
    obtain ⟨r0_31, r1_31, n1_31, r2_31, n2_31, r3_31, n3_31, r4_31, n4_31, c5_31, c6_31, c7_31, v8_31, v9_31, rfl, o_r0_31, a_r1_31, f2_31, a_r2_31, f4_31, a_r3_31, f6_31, a_r4_31, f8_31, hz_c6_31, hz_c7_31, o_v8_31, o_v9_31, f13_31, f14_31, f15_31, f16_31, -⟩ := (hG.1 _ _ _ _ hk_31).hX1 rfl
    obtain rfl := fe_q (hq_31 8 (by decide))
    have o_v8_1 := o_v8_31
    obtain rfl := fe_q (hq_31 9 (by decide))
    have o_v9_1 := o_v9_31
    have kq_32 := jf_37_k _ _ _ hk_31 _ _ rfl a_r2_31
    exact J_39 _ (0) (dc_37_1) (ds_37_1) ws_4 H locs ls rfl (by have e0 : (0 : Int32).toInt = 0 := (by decide); omega) (gE.rf) (gF.rf) hG (by omega) (by omega) (gP_of hD hk_31 (fun p90 q90 e90 g90 => by cases e90; have z90 := gI_n hD a_r2_31 g90; subst z90; exact (by have q_p0 := p0; have q_f4_31 := f4_31; have q_f14_31 := f14_31; have q_f15_31 := f15_31; have q_f16_31 := f16_31; have q_kq_32 := kq_32; have q_f2_31 := f2_31; have q_f6_31 := f6_31; have g_x1 := i_rg x1; omega))) hP hD hS (lv_sub hl [1, 0] rfl)
  refine lv_icmp_ge (tgt := 37) hx hb dX1_makeRoom_6 (by decide) (fun c_33 => ?_) (fun c_33 => ?_)
  · exact J_37 (0) (0) ws _ _ ls (gE.rf) (gF.rf) hG (by have e0 : (0 : Int32).toInt = 0 := (by decide); omega) (by have e0 : (0 : Int32).toInt = 0 := (by decide); omega) (gP_of hD hk_1 (fun p90 q90 e90 g90 => by cases e90; have z90 := gI_n hD a_r2_1 g90; subst z90; exact (by have q_p0 := p0; have q_f4_1 := f4_1; have q_f14_1 := f14_1; have q_f15_1 := f15_1; have q_f16_1 := f16_1; have q_z_3 := i_len ez_3 f4_1; have q_c_33 := i_le c_33; have q_f2_1 := f2_1; have q_f6_1 := f6_1; have g_x1 := i_rg x1; have g_z_3 := i_rg z_3; omega))) hP hD hS (lv_sub hl [0] rfl)
  · refine lv_aload_n hx hb dX1_makeRoom_9 rfl (lv_at hl 0 rfl) ?_
    refine lv_bipush (v := 96) hx hb dX1_makeRoom_10 (by decide) ?_
    refine lv_iload_n hx hb dX1_makeRoom_12 rfl (lv_at hl 1 rfl) ?_
    refine lv_imul hx hb dX1_makeRoom_13 ?_
    refine lv_topi (fun z_34 ez_34 => ?_)
    obtain ⟨n_36, en_36⟩ : ∃ y : Nat, (z_34 : Int32).toNatClampNeg = y := ⟨_, rfl⟩
    have bn_36 : n_36 ≤ 124416 := i_cl en_36 (by have q_z_34 := i_mulL (c := 96) (K := 22369621) ez_34 (by decide) (by decide) (by decide) (by decide); have q_p0 := p0; have q_c_33 := i_nle c_33; have q_z_3 := i_len ez_3 f4_1; have q_f4_1 := f4_1; have q_f14_1 := f14_1; have q_f15_1 := f15_1; have q_f16_1 := f16_1; have g_x1 := i_rg x1; have g_z_3 := i_rg z_3; have g_z_34 := i_rg z_34; omega)
    have zn_36 : 0 ≤ (z_34 : Int32).toInt := (by have q_z_34 := i_mulL (c := 96) (K := 22369621) ez_34 (by decide) (by decide) (by decide) (by decide); have q_p0 := p0; have q_c_33 := i_nle c_33; have q_z_3 := i_len ez_3 f4_1; have q_f4_1 := f4_1; have q_f14_1 := f14_1; have q_f15_1 := f15_1; have q_f16_1 := f16_1; have g_x1 := i_rg x1; have g_z_3 := i_rg z_3; have g_z_34 := i_rg z_34; omega)
    have q_n_36 := i_nn en_36 zn_36
    have pg_37 := ge_1_2 hD hk_1 rfl a_r2_1
    refine va_newa (atype := .byte) (ty := .byte) (a0 := (n_36, .inl (fun _ => 0))) (N' := n_36) hx hb (hts (.arrayClass .byte) kw_11) rfl hK hP hD hS hA (fun _ => rfl) (i_nl0 zn_36) en_36 (i_by bn_36 (by decide)) (show 0 + 1 ≤ PC ws + (0) from (by have e0 : (0 : Int32).toInt = 0 := (by decide); have q_z_34 := i_mulL (c := 96) (K := 22369621) ez_34 (by decide) (by decide) (by decide) (by decide); have q_p0 := p0; have q_c_33 := i_nle c_33; have q_z_3 := i_len ez_3 f4_1; have q_f4_1 := f4_1; have q_f14_1 := f14_1; have q_f15_1 := f15_1; have q_f16_1 := f16_1; have g_x1 := i_rg x1; have g_z_3 := i_rg z_3; have g_z_34 := i_rg z_34; omega)) (show 0 + n_36 ≤ PS ws + (0) from (by have e0 : (0 : Int32).toInt = 0 := (by decide); have q_z_34 := i_mulL (c := 96) (K := 22369621) ez_34 (by decide) (by decide) (by decide) (by decide); have q_p0 := p0; have q_c_33 := i_nle c_33; have q_z_3 := i_len ez_3 f4_1; have q_f4_1 := f4_1; have q_f14_1 := f14_1; have q_f15_1 := f15_1; have q_f16_1 := f16_1; have g_x1 := i_rg x1; have g_z_3 := i_rg z_3; have g_z_34 := i_rg z_34; omega)) dX1_makeRoom_14 (fun q_35 cA9 H hK9 hP hD hS => ?_)
    obtain rfl := cls_new hK hK9 (k := 0) rfl (fun _ h => by cases h)
    clear hK9
    have hD9 := hD
    obtain ⟨ws_38, e_ws_38⟩ : ∃ z, z = ws ++ [(q_35, .inl (g.cB, n_36, .inl (fun _ => 0)))] := ⟨_, rfl⟩
    have hP : va_P (gD g) cl0 ws_38 H := by rw [e_ws_38]; exact hP
    have hD : va_D A ws_38 := by rw [e_ws_38]; exact hD
    have E_39 : gE ws ws_38 := by rw [e_ws_38]; exact gE_push
    have Fr_40 : gF [] [] none ws ws_38 := by rw [e_ws_38]; exact gF_push
    have fr_q_35 : frs ws_38 q_35 := by rw [e_ws_38]; exact frs_new hD9 hG.u
    have hG : Good g ws_38 := by rw [e_ws_38]; exact Good_pushI hD9 hG
    have a_q_35 : gI ws_38 q_35 g.cB n_36 := by rw [e_ws_38]; exact gS_new
    have s_q_35 : n_36 < 2147483648 := Nat.lt_of_le_of_lt bn_36 (by decide)
    have pp_41 := Fr_40.pp
    have hk_1 := get_oldE e_ws_38 hk_1
    have hk_2 := get_oldE e_ws_38 hk_2
    have o_h0 := E_39.1 _ _ o_h0
    have o_r0_1 := E_39.1 _ _ o_r0_1
    have a_r1_1 := E_39.1 _ _ a_r1_1
    have a_r2_1 := E_39.1 _ _ a_r2_1
    have a_r3_1 := E_39.1 _ _ a_r3_1
    have a_r4_1 := E_39.1 _ _ a_r4_1
    have o_v8_1 : ∀ b, v8_1 = some b → gC ws_38 b 9 := fun b h => E_39.1 _ _ (o_v8_1 b h)
    have o_v9_1 : ∀ b, v9_1 = some b → gC ws_38 b 7 := fun b h => E_39.1 _ _ (o_v9_1 b h)
    have hV9 : okv ws_38 1 1 (.ref q_35) := (okv_a a_q_35 fr_q_35)
    refine va_put (D := gD g) (ci := 1) (v := .ref q_35) (ty := (.array .byte)) (C := RX1) (T := TX1) (N := 10) hx hb hts inX1 tyX1 tyX1_ok nmX1 hown hK hP hD hS k_1 hk_1 rfl 1 (by decide) (hts _ kw_495) (fun _ h9 => h9) rfl (by decide +kernel) rfl rfl (Nat.le_of_ble_eq_true rfl) dX1_makeRoom_16 (fun H locs hP hD hS => ?_)
    obtain ⟨ws_42, e_ws_42⟩ : ∃ z, z = ws_38.set k_1 (h0, .inr (1, [.ref r0_1, .ref q_35, .ref r2_1, .ref r3_1, .ref r4_1, .int c5_1, .int c6_1, .int c7_1, va_rf v8_1, va_rf v9_1])) := ⟨_, rfl⟩
    have hP : va_P (gD g) cl0 ws_42 H := by rw [e_ws_42]; exact hP
    have hD : va_D A ws_42 := by rw [e_ws_42]; exact hD
    have E_43 : gE ws_38 ws_42 := gE_set e_ws_42 hk_1 (cw_o (fi := 1) (v := .ref q_35) rfl (by decide))
    have hX : GoodX g k_1 ws_42 := GoodX.set (fi := 1) (v := .ref q_35) e_ws_42 hk_1 E_43 rfl hV9 (hG.x _)
    have Fr_44 : gF [(1, 1)] [] (some h0) ws_38 ws_42 := gF_put (fi := 1) (v := .ref q_35) e_ws_42 hk_1 rfl (by decide)
    have pp_45 := Fr_44.pp
    have hkN := gset_self e_ws_42 hk_1
    have hk_2 := gset_obI e_ws_42 hk_1 hk_2
    have hk_1 := hkN
    have o_h0 := E_43.1 _ _ o_h0
    have o_r0_1 := E_43.1 _ _ o_r0_1
    have a_r2_1 := E_43.1 _ _ a_r2_1
    have a_r3_1 := E_43.1 _ _ a_r3_1
    have a_r4_1 := E_43.1 _ _ a_r4_1
    have o_v8_1 : ∀ b, v8_1 = some b → gC ws_42 b 9 := fun b h => E_43.1 _ _ (o_v8_1 b h)
    have o_v9_1 : ∀ b, v9_1 = some b → gC ws_42 b 7 := fun b h => E_43.1 _ _ (o_v9_1 b h)
    have a_q_35 := E_43.1 _ _ a_q_35
    refine lv_aload_n hx hb dX1_makeRoom_19 rfl (lv_at hl 0 rfl) ?_
    refine lv_iconst (v := 2) hx hb dX1_makeRoom_20 (by decide) ?_
    refine lv_iload_n hx hb dX1_makeRoom_21 rfl (lv_at hl 1 rfl) ?_
    refine lv_imul hx hb dX1_makeRoom_22 ?_
    refine lv_topi (fun z_46 ez_46 => ?_)
    obtain ⟨n_48, en_48⟩ : ∃ y : Nat, (z_46 : Int32).toNatClampNeg = y := ⟨_, rfl⟩
    have bn_48 : n_48 ≤ 2592 := i_cl en_48 (by have q_z_46 := i_mulL (c := 2) (K := 1073741823) ez_46 (by decide) (by decide) (by decide) (by decide); have q_p0 := p0; have q_c_33 := i_nle c_33; have q_z_34 := i_mulL (c := 96) (K := 22369621) ez_34 (by decide) (by decide) (by decide) (by decide); have q_z_3 := i_len ez_3 f4_1; have q_n_36 := i_nn en_36 zn_36; have q_f4_1 := f4_1; have q_f14_1 := f14_1; have q_f15_1 := f15_1; have q_f16_1 := f16_1; have q2_n_36 := bn_36; have g_x1 := i_rg x1; have g_z_3 := i_rg z_3; have g_z_34 := i_rg z_34; have g_z_46 := i_rg z_46; omega)
    have zn_48 : 0 ≤ (z_46 : Int32).toInt := (by have q_z_46 := i_mulL (c := 2) (K := 1073741823) ez_46 (by decide) (by decide) (by decide) (by decide); have q_p0 := p0; have q_c_33 := i_nle c_33; have q_z_34 := i_mulL (c := 96) (K := 22369621) ez_34 (by decide) (by decide) (by decide) (by decide); have q_z_3 := i_len ez_3 f4_1; have q_n_36 := i_nn en_36 zn_36; have q_f4_1 := f4_1; have q_f14_1 := f14_1; have q_f15_1 := f15_1; have q_f16_1 := f16_1; have q2_n_36 := bn_36; have g_x1 := i_rg x1; have g_z_3 := i_rg z_3; have g_z_34 := i_rg z_34; have g_z_46 := i_rg z_46; omega)
    have q_n_48 := i_nn en_48 zn_48
    have pg_49 := ge_1_2 hD hk_1 rfl a_r2_1
    refine va_newa (atype := .boolean) (ty := .boolean) (a0 := (n_48, .inl (fun _ => 0))) (N' := n_48) hx hb (hts (.arrayClass .boolean) kw_553) rfl hK hP hD hS hA (fun _ => rfl) (i_nl0 zn_48) en_48 (i_by bn_48 (by decide)) (show 0 + 1 + 1 ≤ PC ws + (0) from (by have q_z_34 := i_mulL (c := 96) (K := 22369621) ez_34 (by decide) (by decide) (by decide) (by decide); have q_n_36 := i_nn en_36 zn_36; have q2_n_36 := bn_36; have q_z_46 := i_mulL (c := 2) (K := 1073741823) ez_46 (by decide) (by decide) (by decide) (by decide); have q_p0 := p0; have q_c_33 := i_nle c_33; have q_z_3 := i_len ez_3 f4_1; have q_f4_1 := f4_1; have q_f14_1 := f14_1; have q_f15_1 := f15_1; have q_f16_1 := f16_1; have g_x1 := i_rg x1; have g_z_3 := i_rg z_3; have g_z_34 := i_rg z_34; have g_z_46 := i_rg z_46; omega)) (show 0 + n_36 + n_48 ≤ PS ws + (0) from (by have q_z_34 := i_mulL (c := 96) (K := 22369621) ez_34 (by decide) (by decide) (by decide) (by decide); have q_n_36 := i_nn en_36 zn_36; have q2_n_36 := bn_36; have q_z_46 := i_mulL (c := 2) (K := 1073741823) ez_46 (by decide) (by decide) (by decide) (by decide); have q_p0 := p0; have q_c_33 := i_nle c_33; have q_z_3 := i_len ez_3 f4_1; have q_f4_1 := f4_1; have q_f14_1 := f14_1; have q_f15_1 := f15_1; have q_f16_1 := f16_1; have g_x1 := i_rg x1; have g_z_3 := i_rg z_3; have g_z_34 := i_rg z_34; have g_z_46 := i_rg z_46; omega)) dX1_makeRoom_23 (fun q_47 cA9 H hK9 hP hD hS => ?_)
    obtain rfl := cls_new hK hK9 (k := 2) rfl (fun _ h => by cases h)
    clear hK9
    have hD9 := hD
    obtain ⟨ws_50, e_ws_50⟩ : ∃ z, z = ws_42 ++ [(q_47, .inl (g.cZ, n_48, .inl (fun _ => 0)))] := ⟨_, rfl⟩
    have hP : va_P (gD g) cl0 ws_50 H := by rw [e_ws_50]; exact hP
    have hD : va_D A ws_50 := by rw [e_ws_50]; exact hD
    have E_51 : gE ws_42 ws_50 := by rw [e_ws_50]; exact gE_push
    have Fr_52 : gF [] [] none ws_42 ws_50 := by rw [e_ws_50]; exact gF_push
    have fr_q_47 : frs ws_50 q_47 := by rw [e_ws_50]; exact frs_new hD9 hX.u
    have hX : GoodX g k_1 ws_50 := by rw [e_ws_50]; exact hX.pushI hD9 (ows_lt hk_1)
    have a_q_47 : gI ws_50 q_47 g.cZ n_48 := by rw [e_ws_50]; exact gS_new
    have s_q_47 : n_48 < 2147483648 := Nat.lt_of_le_of_lt bn_48 (by decide)
    have pp_53 := Fr_52.pp
    have hk_1 := get_oldE e_ws_50 hk_1
    have hk_2 := get_oldE e_ws_50 hk_2
    have o_h0 := E_51.1 _ _ o_h0
    have o_r0_1 := E_51.1 _ _ o_r0_1
    have a_r2_1 := E_51.1 _ _ a_r2_1
    have a_r3_1 := E_51.1 _ _ a_r3_1
    have a_r4_1 := E_51.1 _ _ a_r4_1
    have o_v8_1 : ∀ b, v8_1 = some b → gC ws_50 b 9 := fun b h => E_51.1 _ _ (o_v8_1 b h)
    have o_v9_1 : ∀ b, v9_1 = some b → gC ws_50 b 7 := fun b h => E_51.1 _ _ (o_v9_1 b h)
    have a_q_35 := E_51.1 _ _ a_q_35
    have hV9 : okv ws_50 1 2 (.ref q_47) := (okv_a a_q_47 fr_q_47)
    have hD8 := hD
    refine va_put (D := gD g) (ci := 1) (v := .ref q_47) (ty := (.array .boolean)) (C := RX1) (T := TX1) (N := 10) hx hb hts inX1 tyX1 tyX1_ok nmX1 hown hK hP hD hS k_1 hk_1 rfl 2 (by decide) (hts _ kw_494) (fun _ h9 => h9) rfl (by decide +kernel) rfl rfl (Nat.le_of_ble_eq_true rfl) dX1_makeRoom_25 (fun H locs hP hD hS => ?_)
    obtain ⟨ws_55, e_ws_55⟩ : ∃ z, z = ws_50.set k_1 (h0, .inr (1, [.ref r0_1, .ref q_35, .ref q_47, .ref r3_1, .ref r4_1, .int c5_1, .int c6_1, .int c7_1, va_rf v8_1, va_rf v9_1])) := ⟨_, rfl⟩
    have hP : va_P (gD g) cl0 ws_55 H := by rw [e_ws_55]; exact hP
    have hD : va_D A ws_55 := by rw [e_ws_55]; exact hD
    have E_56 : gE ws_50 ws_55 := gE_set e_ws_55 hk_1 (cw_o (fi := 2) (v := .ref q_47) rfl (by decide))
    have hX : GoodX g k_1 ws_55 := GoodX.set (fi := 2) (v := .ref q_47) e_ws_55 hk_1 E_56 rfl hV9 hX
    have Fr_57 : gF [(1, 2)] [] (some h0) ws_50 ws_55 := gF_put0 (fi := 2) (v := .ref q_47) e_ws_55 hk_1 rfl (gr_1_2 hD8 hk_1 rfl a_r2_1 e_ws_55 rfl a_q_47 (by have q_f4_1 := f4_1; have q_f14_1 := f14_1; have q_f15_1 := f15_1; have q_f16_1 := f16_1; have q_z_3 := i_len ez_3 f4_1; have q_n_48 := i_nn en_48 zn_48; have q2_n_48 := bn_48; have q_f2_1 := f2_1; have q_f6_1 := f6_1; have q_c_33 := i_nle c_33; have q_z_46 := i_mulL (c := 2) (K := 1073741823) ez_46 (by decide) (by decide) (by decide) (by decide); have q_p0 := p0; have q_z_34 := i_mulL (c := 96) (K := 22369621) ez_34 (by decide) (by decide) (by decide) (by decide); have q_n_36 := i_nn en_36 zn_36; have g_x1 := i_rg x1; have g_z_3 := i_rg z_3; have g_z_34 := i_rg z_34; have g_z_46 := i_rg z_46; omega)).1
    have pg_54 := (gr_1_2 (ws := ws_50) hD8 hk_1 rfl a_r2_1 e_ws_55 rfl a_q_47 (by have q_f4_1 := f4_1; have q_f14_1 := f14_1; have q_f15_1 := f15_1; have q_f16_1 := f16_1; have q_z_3 := i_len ez_3 f4_1; have q_n_48 := i_nn en_48 zn_48; have q2_n_48 := bn_48; have q_f2_1 := f2_1; have q_f6_1 := f6_1; have q_c_33 := i_nle c_33; have q_z_46 := i_mulL (c := 2) (K := 1073741823) ez_46 (by decide) (by decide) (by decide) (by decide); have q_p0 := p0; have q_z_34 := i_mulL (c := 96) (K := 22369621) ez_34 (by decide) (by decide) (by decide) (by decide); have q_n_36 := i_nn en_36 zn_36; have g_x1 := i_rg x1; have g_z_3 := i_rg z_3; have g_z_34 := i_rg z_34; have g_z_46 := i_rg z_46; omega)).2
    have hkN := gset_self e_ws_55 hk_1
    have hk_2 := gset_obI e_ws_55 hk_1 hk_2
    have hk_1 := hkN
    have o_h0 := E_56.1 _ _ o_h0
    have o_r0_1 := E_56.1 _ _ o_r0_1
    have a_r3_1 := E_56.1 _ _ a_r3_1
    have a_r4_1 := E_56.1 _ _ a_r4_1
    have o_v8_1 : ∀ b, v8_1 = some b → gC ws_55 b 9 := fun b h => E_56.1 _ _ (o_v8_1 b h)
    have o_v9_1 : ∀ b, v9_1 = some b → gC ws_55 b 7 := fun b h => E_56.1 _ _ (o_v9_1 b h)
    have a_q_35 := E_56.1 _ _ a_q_35
    have a_q_47 := E_56.1 _ _ a_q_47
    refine lv_aload_n hx hb dX1_makeRoom_28 rfl (lv_at hl 0 rfl) ?_
    refine lv_iconst (v := 2) hx hb dX1_makeRoom_29 (by decide) ?_
    refine lv_iload_n hx hb dX1_makeRoom_30 rfl (lv_at hl 1 rfl) ?_
    refine lv_imul hx hb dX1_makeRoom_31 ?_
    refine lv_topi (fun z_58 ez_58 => ?_)
    obtain ⟨n_60, en_60⟩ : ∃ y : Nat, (z_58 : Int32).toNatClampNeg = y := ⟨_, rfl⟩
    have bn_60 : n_60 ≤ 2592 := i_cl en_60 (by have q_z_58 := i_mulL (c := 2) (K := 1073741823) ez_58 (by decide) (by decide) (by decide) (by decide); have q_p0 := p0; have q_c_33 := i_nle c_33; have q_z_34 := i_mulL (c := 96) (K := 22369621) ez_34 (by decide) (by decide) (by decide) (by decide); have q_z_46 := i_mulL (c := 2) (K := 1073741823) ez_46 (by decide) (by decide) (by decide) (by decide); have q_z_3 := i_len ez_3 f4_1; have q_n_36 := i_nn en_36 zn_36; have q_n_48 := i_nn en_48 zn_48; have q_f4_1 := f4_1; have q_f14_1 := f14_1; have q_f15_1 := f15_1; have q_f16_1 := f16_1; have q2_n_36 := bn_36; have q2_n_48 := bn_48; have g_x1 := i_rg x1; have g_z_3 := i_rg z_3; have g_z_34 := i_rg z_34; have g_z_46 := i_rg z_46; have g_z_58 := i_rg z_58; omega)
    have zn_60 : 0 ≤ (z_58 : Int32).toInt := (by have q_z_58 := i_mulL (c := 2) (K := 1073741823) ez_58 (by decide) (by decide) (by decide) (by decide); have q_p0 := p0; have q_c_33 := i_nle c_33; have q_z_34 := i_mulL (c := 96) (K := 22369621) ez_34 (by decide) (by decide) (by decide) (by decide); have q_z_46 := i_mulL (c := 2) (K := 1073741823) ez_46 (by decide) (by decide) (by decide) (by decide); have q_z_3 := i_len ez_3 f4_1; have q_n_36 := i_nn en_36 zn_36; have q_n_48 := i_nn en_48 zn_48; have q_f4_1 := f4_1; have q_f14_1 := f14_1; have q_f15_1 := f15_1; have q_f16_1 := f16_1; have q2_n_36 := bn_36; have q2_n_48 := bn_48; have g_x1 := i_rg x1; have g_z_3 := i_rg z_3; have g_z_34 := i_rg z_34; have g_z_46 := i_rg z_46; have g_z_58 := i_rg z_58; omega)
    have q_n_60 := i_nn en_60 zn_60
    have pg_61 := ge_1_2 hD hk_1 rfl a_q_47
    refine va_newa (atype := .boolean) (ty := .boolean) (a0 := (n_60, .inl (fun _ => 0))) (N' := n_60) hx hb (hts (.arrayClass .boolean) kw_553) rfl hK hP hD hS hA (fun _ => rfl) (i_nl0 zn_60) en_60 (i_by bn_60 (by decide)) (show 0 + 1 + 1 + 1 ≤ PC ws + (0) from (by have q_f4_1 := f4_1; have q_f14_1 := f14_1; have q_f15_1 := f15_1; have q_f16_1 := f16_1; have q_z_3 := i_len ez_3 f4_1; have q_z_34 := i_mulL (c := 96) (K := 22369621) ez_34 (by decide) (by decide) (by decide) (by decide); have q_n_36 := i_nn en_36 zn_36; have q2_n_36 := bn_36; have q_z_46 := i_mulL (c := 2) (K := 1073741823) ez_46 (by decide) (by decide) (by decide) (by decide); have q_n_48 := i_nn en_48 zn_48; have q2_n_48 := bn_48; have q_z_58 := i_mulL (c := 2) (K := 1073741823) ez_58 (by decide) (by decide) (by decide) (by decide); have q_p0 := p0; have q_f2_1 := f2_1; have q_f6_1 := f6_1; have q_c_33 := i_nle c_33; have g_x1 := i_rg x1; have g_z_3 := i_rg z_3; have g_z_34 := i_rg z_34; have g_z_46 := i_rg z_46; have g_z_58 := i_rg z_58; omega)) (show 0 + n_36 + n_48 + n_60 ≤ PS ws + (0) from (by have q_f4_1 := f4_1; have q_f14_1 := f14_1; have q_f15_1 := f15_1; have q_f16_1 := f16_1; have q_z_3 := i_len ez_3 f4_1; have q_z_34 := i_mulL (c := 96) (K := 22369621) ez_34 (by decide) (by decide) (by decide) (by decide); have q_n_36 := i_nn en_36 zn_36; have q2_n_36 := bn_36; have q_z_46 := i_mulL (c := 2) (K := 1073741823) ez_46 (by decide) (by decide) (by decide) (by decide); have q_n_48 := i_nn en_48 zn_48; have q2_n_48 := bn_48; have q_z_58 := i_mulL (c := 2) (K := 1073741823) ez_58 (by decide) (by decide) (by decide) (by decide); have q_p0 := p0; have q_f2_1 := f2_1; have q_f6_1 := f6_1; have q_c_33 := i_nle c_33; have g_x1 := i_rg x1; have g_z_3 := i_rg z_3; have g_z_34 := i_rg z_34; have g_z_46 := i_rg z_46; have g_z_58 := i_rg z_58; omega)) dX1_makeRoom_32 (fun q_59 cA9 H hK9 hP hD hS => ?_)
    obtain rfl := cls_new hK hK9 (k := 2) rfl (fun _ h => by cases h)
    clear hK9
    have hD9 := hD
    obtain ⟨ws_62, e_ws_62⟩ : ∃ z, z = ws_55 ++ [(q_59, .inl (g.cZ, n_60, .inl (fun _ => 0)))] := ⟨_, rfl⟩
    have hP : va_P (gD g) cl0 ws_62 H := by rw [e_ws_62]; exact hP
    have hD : va_D A ws_62 := by rw [e_ws_62]; exact hD
    have E_63 : gE ws_55 ws_62 := by rw [e_ws_62]; exact gE_push
    have Fr_64 : gF [] [] none ws_55 ws_62 := by rw [e_ws_62]; exact gF_push
    have fr_q_59 : frs ws_62 q_59 := by rw [e_ws_62]; exact frs_new hD9 hX.u
    have hX : GoodX g k_1 ws_62 := by rw [e_ws_62]; exact hX.pushI hD9 (ows_lt hk_1)
    have a_q_59 : gI ws_62 q_59 g.cZ n_60 := by rw [e_ws_62]; exact gS_new
    have s_q_59 : n_60 < 2147483648 := Nat.lt_of_le_of_lt bn_60 (by decide)
    have pp_65 := Fr_64.pp
    have hk_1 := get_oldE e_ws_62 hk_1
    have hk_2 := get_oldE e_ws_62 hk_2
    have o_h0 := E_63.1 _ _ o_h0
    have o_r0_1 := E_63.1 _ _ o_r0_1
    have a_r3_1 := E_63.1 _ _ a_r3_1
    have a_r4_1 := E_63.1 _ _ a_r4_1
    have o_v8_1 : ∀ b, v8_1 = some b → gC ws_62 b 9 := fun b h => E_63.1 _ _ (o_v8_1 b h)
    have o_v9_1 : ∀ b, v9_1 = some b → gC ws_62 b 7 := fun b h => E_63.1 _ _ (o_v9_1 b h)
    have a_q_35 := E_63.1 _ _ a_q_35
    have a_q_47 := E_63.1 _ _ a_q_47
    have hV9 : okv ws_62 1 3 (.ref q_59) := (okv_a a_q_59 fr_q_59)
    refine va_put (D := gD g) (ci := 1) (v := .ref q_59) (ty := (.array .boolean)) (C := RX1) (T := TX1) (N := 10) hx hb hts inX1 tyX1 tyX1_ok nmX1 hown hK hP hD hS k_1 hk_1 rfl 3 (by decide) (hts _ kw_497) (fun _ h9 => h9) rfl (by decide +kernel) rfl rfl (Nat.le_of_ble_eq_true rfl) dX1_makeRoom_34 (fun H locs hP hD hS => ?_)
    have f_66 : n_60 = n_48 := (by have q_n_48 := i_nn en_48 zn_48; have q2_n_48 := bn_48; have q_n_60 := i_nn en_60 zn_60; have q2_n_60 := bn_60; have q_z_46 := i_mulL (c := 2) (K := 1073741823) ez_46 (by decide) (by decide) (by decide) (by decide); have q_z_58 := i_mulL (c := 2) (K := 1073741823) ez_58 (by decide) (by decide) (by decide) (by decide); have q_p0 := p0; have q_c_33 := i_nle c_33; have q_z_34 := i_mulL (c := 96) (K := 22369621) ez_34 (by decide) (by decide) (by decide) (by decide); have q_z_3 := i_len ez_3 f4_1; have q_n_36 := i_nn en_36 zn_36; have g_x1 := i_rg x1; have g_z_3 := i_rg z_3; have g_z_34 := i_rg z_34; have g_z_46 := i_rg z_46; have g_z_58 := i_rg z_58; omega)
    have f_67 : n_36 = 48 * n_48 := (by have q_n_36 := i_nn en_36 zn_36; have q2_n_36 := bn_36; have q_n_48 := i_nn en_48 zn_48; have q2_n_48 := bn_48; have q_f_66 := f_66; have q_z_34 := i_mulL (c := 96) (K := 22369621) ez_34 (by decide) (by decide) (by decide) (by decide); have q_z_46 := i_mulL (c := 2) (K := 1073741823) ez_46 (by decide) (by decide) (by decide) (by decide); have q_n_60 := i_nn en_60 zn_60; have q2_n_60 := bn_60; have q_p0 := p0; have q_c_33 := i_nle c_33; have q_z_58 := i_mulL (c := 2) (K := 1073741823) ez_58 (by decide) (by decide) (by decide) (by decide); have q_z_3 := i_len ez_3 f4_1; have g_x1 := i_rg x1; have g_z_3 := i_rg z_3; have g_z_34 := i_rg z_34; have g_z_46 := i_rg z_46; have g_z_58 := i_rg z_58; omega)
    have f_68 : n_48 ≤ 4000 := (by have q_n_48 := i_nn en_48 zn_48; have q2_n_48 := bn_48; have q_f_66 := f_66; have q_f_67 := f_67; have q_n_36 := i_nn en_36 zn_36; have q2_n_36 := bn_36; have q_z_46 := i_mulL (c := 2) (K := 1073741823) ez_46 (by decide) (by decide) (by decide) (by decide); have q_n_60 := i_nn en_60 zn_60; have q2_n_60 := bn_60; have q_p0 := p0; have q_c_33 := i_nle c_33; have q_z_34 := i_mulL (c := 96) (K := 22369621) ez_34 (by decide) (by decide) (by decide) (by decide); have q_z_58 := i_mulL (c := 2) (K := 1073741823) ez_58 (by decide) (by decide) (by decide) (by decide); have q_z_3 := i_len ez_3 f4_1; have g_x1 := i_rg x1; have g_z_3 := i_rg z_3; have g_z_34 := i_rg z_34; have g_z_46 := i_rg z_46; have g_z_58 := i_rg z_58; omega)
    have hi_69 : invX1 g ws_62 h0 [.ref r0_1, .ref q_35, .ref q_47, .ref q_59, .ref r4_1, .int c5_1, .int c6_1, .int c7_1, va_rf v8_1, va_rf v9_1] := ⟨r0_1, q_35, (n_36), q_47, (n_48), q_59, (n_60), r4_1, (n4_1), (c5_1), (c6_1), (c7_1), v8_1, v9_1, rfl, o_r0_1, a_q_35, s_q_35, a_q_47, s_q_47, a_q_59, s_q_59, a_r4_1, f8_1, hz_c6_1, hz_c7_1, o_v8_1, o_v9_1, f13_1, f_66, f_67, f_68, trivial⟩
    obtain ⟨ws_70, e_ws_70⟩ : ∃ z, z = ws_62.set k_1 (h0, .inr (1, [.ref r0_1, .ref q_35, .ref q_47, .ref q_59, .ref r4_1, .int c5_1, .int c6_1, .int c7_1, va_rf v8_1, va_rf v9_1])) := ⟨_, rfl⟩
    have hP : va_P (gD g) cl0 ws_70 H := by rw [e_ws_70]; exact hP
    have hD : va_D A ws_70 := by rw [e_ws_70]; exact hD
    have E_71 : gE ws_62 ws_70 := gE_set e_ws_70 hk_1 (cw_o (fi := 3) (v := .ref q_59) rfl (by decide))
    have hG : Good g ws_70 := GoodX.goodS (fi := 3) (v := .ref q_59) e_ws_70 hk_1 E_71 rfl hV9 hX (ivX1 hi_69)
    have Fr_72 : gF [(1, 3)] [] (some h0) ws_62 ws_70 := gF_put (fi := 3) (v := .ref q_59) e_ws_70 hk_1 rfl (by decide)
    have pp_73 := Fr_72.pp
    have hkN := gset_self e_ws_70 hk_1
    have hk_2 := gset_obI e_ws_70 hk_1 hk_2
    have hk_1 := hkN
    have o_h0 := E_71.1 _ _ o_h0
    have o_r0_1 := E_71.1 _ _ o_r0_1
    have a_r4_1 := E_71.1 _ _ a_r4_1
    have o_v8_1 : ∀ b, v8_1 = some b → gC ws_70 b 9 := fun b h => E_71.1 _ _ (o_v8_1 b h)
    have o_v9_1 : ∀ b, v9_1 = some b → gC ws_70 b 7 := fun b h => E_71.1 _ _ (o_v9_1 b h)
    have a_q_35 := E_71.1 _ _ a_q_35
    have a_q_47 := E_71.1 _ _ a_q_47
    have a_q_59 := E_71.1 _ _ a_q_59
    exact J_37 (0 + 1 + 1 + 1) (0 + n_36 + n_48 + n_60) ws_70 H locs ls ((E_39.tr (E_43.tr (E_51.tr (E_56.tr (E_63.tr E_71)))))) ((gF.tr (gF.mo (F' := [(1, 1), (1, 2), (1, 3)]) (C' := []) (S' := none) Fr_40 (fun _ h => absurd h List.not_mem_nil) (fun _ h => h) (Or.inr rfl)) (gF.tr (gF.mo (F' := [(1, 1), (1, 2), (1, 3)]) (C' := []) (S' := none) Fr_44 (by decide) (fun _ h => h) (Or.inl rfl)) (gF.tr (gF.mo (F' := [(1, 1), (1, 2), (1, 3)]) (C' := []) (S' := none) Fr_52 (fun _ h => absurd h List.not_mem_nil) (fun _ h => h) (Or.inr rfl)) (gF.tr (gF.mo (F' := [(1, 1), (1, 2), (1, 3)]) (C' := []) (S' := none) Fr_57 (by decide) (fun _ h => h) (Or.inl rfl)) (gF.tr (gF.mo (F' := [(1, 1), (1, 2), (1, 3)]) (C' := []) (S' := none) Fr_64 (fun _ h => absurd h List.not_mem_nil) (fun _ h => h) (Or.inr rfl)) (gF.mo (F' := [(1, 1), (1, 2), (1, 3)]) (C' := []) (S' := none) Fr_72 (by decide) (fun _ h => h) (Or.inl rfl)))))))) hG (by have q_f4_1 := f4_1; have q_f14_1 := f14_1; have q_f15_1 := f15_1; have q_f16_1 := f16_1; have q_z_3 := i_len ez_3 f4_1; have q_z_34 := i_mulL (c := 96) (K := 22369621) ez_34 (by decide) (by decide) (by decide) (by decide); have q_n_36 := i_nn en_36 zn_36; have q2_n_36 := bn_36; have q_z_46 := i_mulL (c := 2) (K := 1073741823) ez_46 (by decide) (by decide) (by decide) (by decide); have q_n_48 := i_nn en_48 zn_48; have q2_n_48 := bn_48; have q_z_58 := i_mulL (c := 2) (K := 1073741823) ez_58 (by decide) (by decide) (by decide) (by decide); have q_n_60 := i_nn en_60 zn_60; have q2_n_60 := bn_60; have q_f_66 := f_66; have q_f_67 := f_67; have q_f_68 := f_68; have q_p0 := p0; have q_f2_1 := f2_1; have q_f6_1 := f6_1; have q_c_33 := i_nle c_33; have g_x1 := i_rg x1; have g_z_3 := i_rg z_3; have g_z_34 := i_rg z_34; have g_z_46 := i_rg z_46; have g_z_58 := i_rg z_58; omega) (by have q_f4_1 := f4_1; have q_f14_1 := f14_1; have q_f15_1 := f15_1; have q_f16_1 := f16_1; have q_z_3 := i_len ez_3 f4_1; have q_z_34 := i_mulL (c := 96) (K := 22369621) ez_34 (by decide) (by decide) (by decide) (by decide); have q_n_36 := i_nn en_36 zn_36; have q2_n_36 := bn_36; have q_z_46 := i_mulL (c := 2) (K := 1073741823) ez_46 (by decide) (by decide) (by decide) (by decide); have q_n_48 := i_nn en_48 zn_48; have q2_n_48 := bn_48; have q_z_58 := i_mulL (c := 2) (K := 1073741823) ez_58 (by decide) (by decide) (by decide) (by decide); have q_n_60 := i_nn en_60 zn_60; have q2_n_60 := bn_60; have q_f_66 := f_66; have q_f_67 := f_67; have q_f_68 := f_68; have q_p0 := p0; have q_f2_1 := f2_1; have q_f6_1 := f6_1; have q_c_33 := i_nle c_33; have g_x1 := i_rg x1; have g_z_3 := i_rg z_3; have g_z_34 := i_rg z_34; have g_z_46 := i_rg z_46; have g_z_58 := i_rg z_58; omega) (gP_of hD hk_1 (fun p90 q90 e90 g90 => by cases e90; have z90 := gI_n hD a_q_47 g90; subst z90; exact (by have q_p0 := p0; have q_c_33 := i_nle c_33; have q_z_34 := i_mulL (c := 96) (K := 22369621) ez_34 (by decide) (by decide) (by decide) (by decide); have q_z_46 := i_mulL (c := 2) (K := 1073741823) ez_46 (by decide) (by decide) (by decide) (by decide); have q_n_48 := i_nn en_48 zn_48; have q2_n_48 := bn_48; have q_z_58 := i_mulL (c := 2) (K := 1073741823) ez_58 (by decide) (by decide) (by decide) (by decide); have q_f_66 := f_66; have q_f_67 := f_67; have q_f_68 := f_68; have q_z_3 := i_len ez_3 f4_1; have q_n_36 := i_nn en_36 zn_36; have q2_n_36 := bn_36; have q_n_60 := i_nn en_60 zn_60; have q2_n_60 := bn_60; have q_f4_1 := f4_1; have q_f14_1 := f14_1; have q_f15_1 := f15_1; have q_f16_1 := f16_1; have q_f2_1 := f2_1; have q_f6_1 := f6_1; have g_x1 := i_rg x1; have g_z_3 := i_rg z_3; have g_z_34 := i_rg z_34; have g_z_46 := i_rg z_46; have g_z_58 := i_rg z_58; omega))) hP hD hS (lv_sub hl [0] rfl)
set_option maxHeartbeats 1000000 in
set_option maxRecDepth 100000 in
theorem m_X1_firstFault (l : Launch) (g : Gm) (H0 : Heap) (ws : va_W) (h0 : Nat) (b1 : Nat) (b2 : Nat) (hG : Good g ws) (o_h0 : gC ws h0 1) (o_b1 : gC ws b1 9) (o_b2 : gC ws b2 7) : Met l yX1_firstFault (wt yX1_firstFault cX1_firstFault 5 (some .int)) ({ frames := 6, cells := PC ws + (3), slots := PS ws + (3888), locals := 133 }) (va_Pc [.ref h0, .ref b1, .ref b2] (st_H g H0 ws)) (va_Qi (fun (r : Int32) (u9 : va_W) => True) (gQ2 g [(1, 1), (1, 2), (1, 3), (1, 5), (1, 6), (1, 7), (1, 8), (1, 9), (4, 0), (4, 1), (4, 2), (4, 3), (4, 4), (4, 5), (4, 6), (4, 7), (7, 12), (7, 13), (7, 14)] [(1, 1), (1, 2), (1, 3), (1, 4), (4, 0), (4, 1), (4, 2), (7, 12), (7, 13), (7, 14)] none (va_A ws H0.size) ws H0 (3) (3888)) (va_A ws H0.size)) (PC ws + (3)) (PS ws + (3888)) (va_A ws H0.size) := by
  refine Met.ofW (cc := cX1_firstFault) (maxL := 5) (ret := (some .int)) (by decide) rfl ?_
  intro p e s m args below meth c s₁ B hml hv
  obtain ⟨rfl, hH0, hsz, hP, hK, hD0, hex, hE⟩ := hv
  have hx := B.exec
  have hb := B.bytes
  have hr := B.returns
  have hts0 := atoms_spec (ws := wt yX1_firstFault cX1_firstFault 5 (some .int)) B.pre
  have hts : ∀ w ∈ tb, w.before _ s = true := fun w h => hts0 w (List.mem_cons_of_mem _ h)
  have hown : s.vm.findClass RX1 = some m.cls := findClass_of_methodNamed B.named
  subst hH0
  have hD := hD0.self (sz := s.heap.size)
  generalize hAe : va_A ws s.heap.size = A at hD hE ⊢
  have hA : ∀ q : Nat, s.heap.size ≤ q → A q := fun q h => by rw [← hAe]; exact Or.inr h
  have hS : va_S A s.heap s.heap [] := va_S.rf
  have hl := lv_entry ([.ref h0, .ref b1, .ref b2]) (n := 5) (Nat.le_of_ble_eq_true rfl)
  rw [lg_entry_eq]
  generalize (lg_sl ([.ref h0, .ref b1, .ref b2]) ++ List.replicate (5 - (lg_sl ([.ref h0, .ref b1, .ref b2])).length) Slot.unset).toArray = ls at hl ⊢
  have hl : lv_has ls 5 [(0, .ref h0), (1, .ref b1), (2, .ref b2)] := hl
  refine lv_aload_n hx hb dX1_firstFault_0 rfl (lv_at hl 2 rfl) ?_
  refine lv_ifnonnull (tgt := 6) hx hb dX1_firstFault_1 (by decide) ?_
  refine lv_aload_n hx hb dX1_firstFault_6 rfl (lv_at hl 0 rfl) ?_
  refine lv_aload_n hx hb dX1_firstFault_7 rfl (lv_at hl 1 rfl) ?_
  obtain ⟨k_1, fs9, hk_1⟩ := gC_of o_h0
  obtain ⟨r0_1, r1_1, n1_1, r2_1, n2_1, r3_1, n3_1, r4_1, n4_1, c5_1, c6_1, c7_1, v8_1, v9_1, rfl, o_r0_1, a_r1_1, f2_1, a_r2_1, f4_1, a_r3_1, f6_1, a_r4_1, f8_1, hz_c6_1, hz_c7_1, o_v8_1, o_v9_1, f13_1, f14_1, f15_1, f16_1, -⟩ := (hG.1 _ _ _ _ hk_1).hX1 rfl
  have hV9 : okv ws 1 8 (.ref b1) := (okv_o hD o_b1)
  refine va_put (D := gD g) (ci := 1) (v := .ref b1) (ty := (.object "CodeFoundry$Unit")) (C := RX1) (T := TX1) (N := 10) hx hb hts inX1 tyX1 tyX1_ok nmX1 hown hK hP hD hS k_1 hk_1 rfl 8 (by decide) (hts _ kw_478) (fun _ h9 => h9) rfl (by decide +kernel) rfl rfl (Nat.le_of_ble_eq_true rfl) dX1_firstFault_8 (fun H locs hP hD hS => ?_)
  have hi_2 : invX1 g ws h0 [.ref r0_1, .ref r1_1, .ref r2_1, .ref r3_1, .ref r4_1, .int c5_1, .int c6_1, .int c7_1, .ref b1, va_rf v9_1] := ⟨r0_1, r1_1, (n1_1), r2_1, (n2_1), r3_1, (n3_1), r4_1, (n4_1), (c5_1), (c6_1), (c7_1), (some b1), v9_1, rfl, o_r0_1, a_r1_1, f2_1, a_r2_1, f4_1, a_r3_1, f6_1, a_r4_1, f8_1, hz_c6_1, hz_c7_1, (fun b h9 => by cases h9; exact o_b1), o_v9_1, f13_1, f14_1, f15_1, f16_1, trivial⟩
  obtain ⟨ws_3, e_ws_3⟩ : ∃ z, z = ws.set k_1 (h0, .inr (1, [.ref r0_1, .ref r1_1, .ref r2_1, .ref r3_1, .ref r4_1, .int c5_1, .int c6_1, .int c7_1, .ref b1, va_rf v9_1])) := ⟨_, rfl⟩
  have hP : va_P (gD g) cl0 ws_3 H := by rw [e_ws_3]; exact hP
  have hD : va_D A ws_3 := by rw [e_ws_3]; exact hD
  have E_4 : gE ws ws_3 := gE_set e_ws_3 hk_1 (cw_o (fi := 8) (v := .ref b1) rfl (by decide))
  have hG : Good g ws_3 := Good_set (fi := 8) (v := .ref b1) e_ws_3 hk_1 E_4 rfl hV9 hG (ivX1 hi_2)
  have Fr_5 : gF [(1, 8)] [] (some h0) ws ws_3 := gF_put (fi := 8) (v := .ref b1) e_ws_3 hk_1 rfl (by decide)
  have pp_6 := Fr_5.pp
  have hkN := gset_self e_ws_3 hk_1
  have hk_1 := hkN
  have o_h0 := E_4.1 _ _ o_h0
  have o_b1 := E_4.1 _ _ o_b1
  have o_b2 := E_4.1 _ _ o_b2
  have o_r0_1 := E_4.1 _ _ o_r0_1
  have a_r1_1 := E_4.1 _ _ a_r1_1
  have a_r2_1 := E_4.1 _ _ a_r2_1
  have a_r3_1 := E_4.1 _ _ a_r3_1
  have a_r4_1 := E_4.1 _ _ a_r4_1
  have o_v9_1 : ∀ b, v9_1 = some b → gC ws_3 b 7 := fun b h => E_4.1 _ _ (o_v9_1 b h)
  refine lv_aload_n hx hb dX1_firstFault_11 rfl (lv_at hl 0 rfl) ?_
  refine lv_aload_n hx hb dX1_firstFault_12 rfl (lv_at hl 2 rfl) ?_
  have hV9 : okv ws_3 1 9 (.ref b2) := (okv_o hD o_b2)
  refine va_put (D := gD g) (ci := 1) (v := .ref b2) (ty := (.object "CodeFoundry$Row")) (C := RX1) (T := TX1) (N := 10) hx hb hts inX1 tyX1 tyX1_ok nmX1 hown hK hP hD hS k_1 hk_1 rfl 9 (by decide) (hts _ kw_479) (fun _ h9 => h9) rfl (by decide +kernel) rfl rfl (Nat.le_of_ble_eq_true rfl) dX1_firstFault_13 (fun H locs hP hD hS => ?_)
  have hi_7 : invX1 g ws_3 h0 [.ref r0_1, .ref r1_1, .ref r2_1, .ref r3_1, .ref r4_1, .int c5_1, .int c6_1, .int c7_1, .ref b1, .ref b2] := ⟨r0_1, r1_1, (n1_1), r2_1, (n2_1), r3_1, (n3_1), r4_1, (n4_1), (c5_1), (c6_1), (c7_1), (some b1), (some b2), rfl, o_r0_1, a_r1_1, f2_1, a_r2_1, f4_1, a_r3_1, f6_1, a_r4_1, f8_1, hz_c6_1, hz_c7_1, (fun b h9 => by cases h9; exact o_b1), (fun b h9 => by cases h9; exact o_b2), f13_1, f14_1, f15_1, f16_1, trivial⟩
  obtain ⟨ws_8, e_ws_8⟩ : ∃ z, z = ws_3.set k_1 (h0, .inr (1, [.ref r0_1, .ref r1_1, .ref r2_1, .ref r3_1, .ref r4_1, .int c5_1, .int c6_1, .int c7_1, .ref b1, .ref b2])) := ⟨_, rfl⟩
  have hP : va_P (gD g) cl0 ws_8 H := by rw [e_ws_8]; exact hP
  have hD : va_D A ws_8 := by rw [e_ws_8]; exact hD
  have E_9 : gE ws_3 ws_8 := gE_set e_ws_8 hk_1 (cw_o (fi := 9) (v := .ref b2) rfl (by decide))
  have hG : Good g ws_8 := Good_set (fi := 9) (v := .ref b2) e_ws_8 hk_1 E_9 rfl hV9 hG (ivX1 hi_7)
  have Fr_10 : gF [(1, 9)] [] (some h0) ws_3 ws_8 := gF_put (fi := 9) (v := .ref b2) e_ws_8 hk_1 rfl (by decide)
  have pp_11 := Fr_10.pp
  have hkN := gset_self e_ws_8 hk_1
  have hk_1 := hkN
  have o_h0 := E_9.1 _ _ o_h0
  have o_b1 := E_9.1 _ _ o_b1
  have o_b2 := E_9.1 _ _ o_b2
  have o_r0_1 := E_9.1 _ _ o_r0_1
  have a_r1_1 := E_9.1 _ _ a_r1_1
  have a_r2_1 := E_9.1 _ _ a_r2_1
  have a_r3_1 := E_9.1 _ _ a_r3_1
  have a_r4_1 := E_9.1 _ _ a_r4_1
  refine lv_aload_n hx hb dX1_firstFault_16 rfl (lv_at hl 0 rfl) ?_
  refine va_get (D := gD g) (ci := 1) (v := .ref r0_1) (C := RX1) (T := TX1) (N := 10) hx hb hts inX1 hown hK hP k_1 hk_1 rfl 0 (by decide) (hts _ kw_492) (fun _ h9 => h9) rfl dX1_firstFault_17 ?_
  refine lv_aload_n hx hb dX1_firstFault_20 rfl (lv_at hl 0 rfl) ?_
  refine va_get (D := gD g) (ci := 1) (v := .ref b1) (C := RX1) (T := TX1) (N := 10) hx hb hts inX1 hown hK hP k_1 hk_1 rfl 8 (by decide) (hts _ kw_478) (fun _ h9 => h9) rfl dX1_firstFault_21 ?_
  refine lv_aload_n hx hb dX1_firstFault_24 rfl (lv_at hl 0 rfl) ?_
  refine va_get (D := gD g) (ci := 1) (v := .ref b2) (C := RX1) (T := TX1) (N := 10) hx hb hts inX1 hown hK hP k_1 hk_1 rfl 9 (by decide) (hts _ kw_479) (fun _ h9 => h9) rfl dX1_firstFault_25 ?_
  refine lv_aload_n hx hb dX1_firstFault_28 rfl (lv_at hl 0 rfl) ?_
  refine va_get (D := gD g) (ci := 1) (v := .ref b2) (C := RX1) (T := TX1) (N := 10) hx hb hts inX1 hown hK hP k_1 hk_1 rfl 9 (by decide) (hts _ kw_479) (fun _ h9 => h9) rfl dX1_firstFault_29 ?_
  obtain ⟨k_12, fs9, hk_12⟩ := gC_of o_b2
  obtain ⟨r0_12, n0_12, r1_12, n1_12, c2_12, r3_12, n3_12, c4_12, r5_12, n5_12, r6_12, n6_12, r7_12, n7_12, r8_12, n8_12, c9_12, c10_12, c11_12, v12_12, v13_12, v14_12, rfl, a_r0_12, f1_12, a_r1_12, f3_12, a_r3_12, f5_12, a_r5_12, f7_12, a_r6_12, f9_12, a_r7_12, f11_12, a_r8_12, f13_12, o_v12_12, o_v13_12, o_v14_12, f17_12, f18_12, f19_12, f20_12, f21_12, f22_12, f23_12, f24_12, f25_12, f26_12, f27_12, f28_12, f29_12, -⟩ := (hG.1 _ _ _ _ hk_12).hX8 rfl
  refine va_get (D := gD g) (ci := 7) (v := .int c10_12) (C := RX8) (T := TX8) (N := 15) hx hb hts inX8 hown hK hP k_12 hk_12 rfl 10 (by decide) (hts _ kw_502) (fun _ h9 => h9) rfl dX1_firstFault_32 ?_
  have hFc := gfree hD hS hA
  have pg_13 := ge_1_2 hD hk_1 rfl a_r2_1
  refine W_led (fun hL0 => ?_)
  obtain ⟨k_14, fs_14, hk_14⟩ := gC_of o_r0_1
  refine va_callv (va_runV (As := [.ref b1, .ref b2, .int c10_12]) (rest := []) ⟨hx, hb, hml, hown, hts⟩ (m_X4_seek l g H ws_8 r0_1 b1 b2 (c10_12) hG o_r0_1 o_b1 o_b2) (cwV 3 hts (gd_V kw_503 kw_976 kw_977 kw_167 kw_975) rfl rfl rfl (by decide +kernel) ⟨Nat.le_of_ble_eq_true rfl, Nat.le_of_ble_eq_true rfl⟩) ⟨gblindH, va_recv hK hP (ci := 4) (q0 := k_14) rfl hk_14, fun U hU hW9 => gmkH hU hW9 hP hK hD hex hE hS hFc⟩ rfl rfl hl.1 rfl (lv_room (Nat.le_of_ble_eq_true rfl)) dX1_firstFault_35 ⟨(show 0 + (PC ws_8 + (0)) ≤ PC ws + (3) from (by have e0 : (0 : Int32).toInt = 0 := (by decide); omega)), (show 0 + (PS ws_8 + (0)) ≤ PS ws + (3888) from (by have e0 : (0 : Int32).toInt = 0 := (by decide); omega))⟩) hS (fun q _ h => hFc q h) hFc (fun  ws_15 t9 H1 locs ht9 hvm9 hw9 hB9 hz9 hk9 hS => ?_)
  obtain ⟨E_16, Fr_17, hG, hP1, hD1, dc_18, ds_19, hLd, hdc_18, hds_19⟩ := hB9
  rw [ht9] at hLd
  refine W_tight (hL0.tr hLd).1 (hL0.tr hLd).2.1 ?_
  clear hL0 hLd
  have hP : va_P (gD g) cl0 ws_15 H1 := by rw [← ht9]; exact hP1
  have hD : va_D A ws_15 := hD1.weaken (fun _ _ _ h => hFc _ h)
  clear hP1 hD1 hz9 hk9 hvm9 ht9 hw9
  generalize H1 = H at hP hS ⊢
  have aa_20 := a_r1_1
  have aa_21 := a_r2_1
  have aa_22 := a_r3_1
  have aa_23 := a_r4_1
  have aa_24 := a_r0_12
  have aa_25 := a_r1_12
  have aa_26 := a_r3_12
  have aa_27 := a_r5_12
  have aa_28 := a_r6_12
  have aa_29 := a_r7_12
  have aa_30 := a_r8_12
  have o_h0 := E_16.1 _ _ o_h0
  have o_b1 := E_16.1 _ _ o_b1
  have o_b2 := E_16.1 _ _ o_b2
  refine lv_aload_n hx hb dX1_firstFault_38 rfl (lv_at hl 0 rfl) ?_
  refine lv_aload_n hx hb dX1_firstFault_39 rfl (lv_at hl 0 rfl) ?_
  obtain ⟨fs9, hk_31, hq_31⟩ := ((gF.a (F' := [(4, 0), (4, 1), (4, 2), (4, 3), (4, 4), (4, 5), (4, 6), (4, 7)]) Fr_17 (fun _ h => h))) _ _ _ hk_1
  obtain ⟨r0_31, r1_31, n1_31, r2_31, n2_31, r3_31, n3_31, r4_31, n4_31, c5_31, c6_31, c7_31, v8_31, v9_31, rfl, o_r0_31, a_r1_31, f2_31, a_r2_31, f4_31, a_r3_31, f6_31, a_r4_31, f8_31, hz_c6_31, hz_c7_31, o_v8_31, o_v9_31, f13_31, f14_31, f15_31, f16_31, -⟩ := (hG.1 _ _ _ _ hk_31).hX1 rfl
  obtain rfl := fe_r (hq_31 0 (by decide))
  have o_r0_1 := o_r0_31
  obtain rfl := fe_r (hq_31 2 (by decide))
  have hn9 := gI_n hD ((E_16).1 _ _ aa_21) a_r2_31
  subst hn9
  have a_r2_1 := a_r2_31
  obtain rfl := fe_r (hq_31 3 (by decide))
  have hn9 := gI_n hD ((E_16).1 _ _ aa_22) a_r3_31
  subst hn9
  have a_r3_1 := a_r3_31
  obtain rfl := fe_i (hq_31 7 (by decide))
  have hz_c7_1 := hz_c7_31
  have hn9 := fe_qr (hq_31 8 (by decide))
  subst hn9
  have o_b1 := o_v8_31 _ rfl
  have hn9 := fe_qr (hq_31 9 (by decide))
  subst hn9
  have o_b2 := o_v9_31 _ rfl
  refine va_get (D := gD g) (ci := 1) (v := .ref b2) (C := RX1) (T := TX1) (N := 10) hx hb hts inX1 hown hK hP k_1 hk_31 rfl 9 (by decide) (hts _ kw_479) (fun _ h9 => h9) rfl dX1_firstFault_40 ?_
  obtain ⟨fs9, hk_32, hq_32⟩ := ((gF.a (F' := [(4, 0), (4, 1), (4, 2), (4, 3), (4, 4), (4, 5), (4, 6), (4, 7)]) Fr_17 (fun _ h => h))) _ _ _ hk_12
  obtain ⟨r0_32, n0_32, r1_32, n1_32, c2_32, r3_32, n3_32, c4_32, r5_32, n5_32, r6_32, n6_32, r7_32, n7_32, r8_32, n8_32, c9_32, c10_32, c11_32, v12_32, v13_32, v14_32, rfl, a_r0_32, f1_32, a_r1_32, f3_32, a_r3_32, f5_32, a_r5_32, f7_32, a_r6_32, f9_32, a_r7_32, f11_32, a_r8_32, f13_32, o_v12_32, o_v13_32, o_v14_32, f17_32, f18_32, f19_32, f20_32, f21_32, f22_32, f23_32, f24_32, f25_32, f26_32, f27_32, f28_32, f29_32, -⟩ := (hG.1 _ _ _ _ hk_32).hX8 rfl
  obtain rfl := fe_i (hq_32 2 (by decide))
  obtain rfl := fe_i (hq_32 10 (by decide))
  refine va_get (D := gD g) (ci := 7) (v := .int c2_12) (C := RX8) (T := TX8) (N := 15) hx hb hts inX8 hown hK hP k_12 hk_32 rfl 2 (by decide) (hts _ kw_491) (fun _ h9 => h9) rfl dX1_firstFault_43 ?_
  have hFc := gfree hD hS hA
  have pg_33 := ge_1_2 hD hk_31 rfl a_r2_1
  refine W_led (fun hL0 => ?_)
  refine va_callv (va_runV (As := [.int c2_12]) (rest := []) ⟨hx, hb, hml, hown, hts⟩ (m_X1_makeRoom l g H ws_15 h0 (c2_12) hG o_h0 (by have q_f19_12 := f19_12; have q_f20_12 := f20_12; have q_f20_32 := f20_32; have q_f1_12 := f1_12; have q_f17_12 := f17_12; have q_f18_12 := f18_12; have q_f1_32 := f1_32; have q_f17_32 := f17_32; have q_f18_32 := f18_32; have g_c2_12 := i_rg c2_12; omega)) (cwV 1 hts (gd_V kw_504 kw_576 kw_577 kw_392 kw_575) rfl rfl rfl (by decide +kernel) ⟨Nat.le_of_ble_eq_true rfl, Nat.le_of_ble_eq_true rfl⟩) ⟨gblindH, va_recv hK hP (ci := 1) (q0 := k_1) rfl hk_31, fun U hU hW9 => gmkH hU hW9 hP hK hD hex hE hS hFc⟩ rfl rfl hl.1 rfl (lv_room (Nat.le_of_ble_eq_true rfl)) dX1_firstFault_46 ⟨(show 0 + dc_18 + (PC ws_15 + (0)) ≤ PC ws + (3) from (by have e0 : (0 : Int32).toInt = 0 := (by decide); omega)), (show 0 + ds_19 + (PS ws_15 + (0)) ≤ PS ws + (3888) from (by have e0 : (0 : Int32).toInt = 0 := (by decide); omega))⟩) hS (fun q _ h => hFc q h) hFc (fun  ws_34 t9 H1 locs ht9 hvm9 hw9 hB9 hz9 hk9 hS => ?_)
  obtain ⟨E_35, Fr_36, hG, hP1, hD1, dc_37, ds_38, hLd, hdc_37, hds_38⟩ := hB9
  rw [ht9] at hLd
  refine W_tight (hL0.tr hLd).1 (hL0.tr hLd).2.1 ?_
  clear hL0 hLd
  have hP : va_P (gD g) cl0 ws_34 H1 := by rw [← ht9]; exact hP1
  have hD : va_D A ws_34 := hD1.weaken (fun _ _ _ h => hFc _ h)
  have kf_39 := hw9
  clear hP1 hD1 hz9 hk9 hvm9 ht9 hw9
  generalize H1 = H at hP hS ⊢
  have aa_40 := a_r1_31
  have aa_41 := a_r2_1
  have aa_42 := a_r3_1
  have aa_43 := a_r4_31
  have aa_44 := a_r0_32
  have aa_45 := a_r1_32
  have aa_46 := a_r3_32
  have aa_47 := a_r5_32
  have aa_48 := a_r6_32
  have aa_49 := a_r7_32
  have aa_50 := a_r8_32
  have o_h0 := E_35.1 _ _ o_h0
  have o_b1 := E_35.1 _ _ o_b1
  have o_b2 := E_35.1 _ _ o_b2
  refine lv_aload_n hx hb dX1_firstFault_49 rfl (lv_at hl 0 rfl) ?_
  obtain ⟨fs9, hk_51, hq_51⟩ := ((gF.a (F' := [(1, 1), (1, 2), (1, 3)]) Fr_36 (fun _ h => h))) _ _ _ hk_31
  obtain ⟨r0_51, r1_51, n1_51, r2_51, n2_51, r3_51, n3_51, r4_51, n4_51, c5_51, c6_51, c7_51, v8_51, v9_51, rfl, o_r0_51, a_r1_51, f2_51, a_r2_51, f4_51, a_r3_51, f6_51, a_r4_51, f8_51, hz_c6_51, hz_c7_51, o_v8_51, o_v9_51, f13_51, f14_51, f15_51, f16_51, -⟩ := (hG.1 _ _ _ _ hk_51).hX1 rfl
  obtain rfl := fe_r (hq_51 0 (by decide))
  have o_r0_1 := o_r0_51
  obtain rfl := fe_i (hq_51 7 (by decide))
  have hz_c7_1 := hz_c7_51
  have hn9 := fe_qr (hq_51 8 (by decide))
  subst hn9
  have o_b1 := o_v8_51 _ rfl
  have hn9 := fe_qr (hq_51 9 (by decide))
  subst hn9
  have o_b2 := o_v9_51 _ rfl
  have kq_52 := kf_39 _ _ _ hk_51 _ _ rfl a_r2_51
  obtain ⟨fs9, hk_53, hq_53⟩ := ((gF.a (F' := [(1, 1), (1, 2), (1, 3)]) Fr_36 (fun _ h => h))) _ _ _ hk_32
  obtain ⟨r0_53, n0_53, r1_53, n1_53, c2_53, r3_53, n3_53, c4_53, r5_53, n5_53, r6_53, n6_53, r7_53, n7_53, r8_53, n8_53, c9_53, c10_53, c11_53, v12_53, v13_53, v14_53, rfl, a_r0_53, f1_53, a_r1_53, f3_53, a_r3_53, f5_53, a_r5_53, f7_53, a_r6_53, f9_53, a_r7_53, f11_53, a_r8_53, f13_53, o_v12_53, o_v13_53, o_v14_53, f17_53, f18_53, f19_53, f20_53, f21_53, f22_53, f23_53, f24_53, f25_53, f26_53, f27_53, f28_53, f29_53, -⟩ := (hG.1 _ _ _ _ hk_53).hX8 rfl
  obtain rfl := fe_i (hq_53 2 (by decide))
  obtain rfl := fe_i (hq_53 10 (by decide))
  have hFc := gfree hD hS hA
  refine va_callv (va_runV (As := []) (rest := []) ⟨hx, hb, hml, hown, hts⟩ (m_X1_beginBody l g H.size ws_34 h0 hG o_h0 (gN_of hD hk_51 (j := 8) rfl) (gN_of hD hk_51 (j := 9) rfl) (fun k9 k8 b9 fs gs e1 e2 e3 q0 e40 p90 m90 e50 g90 => by obtain rfl := gO_un hD hk_51 e1; cases e2; obtain rfl := gO_un hD hk_53 e3; cases e40; cases e50; have z90 := gI_n hD a_r2_51 g90; subst z90; exact (by have q_f19_12 := f19_12; have q_f20_12 := f20_12; have q_f20_32 := f20_32; have q_f4_51 := f4_51; have q_f14_51 := f14_51; have q_f15_51 := f15_51; have q_f16_51 := f16_51; have q_kq_52 := kq_52; have q_f20_53 := f20_53; have q_f1_12 := f1_12; have q_f17_12 := f17_12; have q_f18_12 := f18_12; have q_f1_32 := f1_32; have q_f17_32 := f17_32; have q_f18_32 := f18_32; have q_f2_51 := f2_51; have q_f6_51 := f6_51; have q_f1_53 := f1_53; have q_f17_53 := f17_53; have q_f18_53 := f18_53; have g_c2_12 := i_rg c2_12; omega))) (cwV 0 hts (gd_V kw_505 kw_475 kw_476 kw_392 kw_474) rfl rfl rfl (by decide +kernel) ⟨Nat.le_of_ble_eq_true rfl, Nat.le_of_ble_eq_true rfl⟩) ⟨gblind, va_recv hK hP (ci := 1) (q0 := k_1) rfl hk_51, fun U hU hW9 => gmk hU hW9 hP hK hD hex hE hS hFc⟩ rfl rfl hl.1 rfl (lv_room (Nat.le_of_ble_eq_true rfl)) dX1_firstFault_50 ⟨(show 0 + dc_18 + dc_37 + 0 ≤ PC ws + (3) from (by omega)), (show 0 + ds_19 + ds_38 + 0 ≤ PS ws + (3888) from (by omega))⟩) hS (fun q _ h => hFc q h) hFc (fun  ws_54 t9 H1 locs ht9 hvm9 hw9 hB9 hz9 hk9 hS => ?_)
  obtain ⟨E_55, Fr_56, hG, hP1, hD1⟩ := hB9
  have hP : va_P (gD g) cl0 ws_54 H1 := by rw [← ht9]; exact hP1
  have hD : va_D A ws_54 := hD1.weaken (fun _ _ _ h => hFc _ h)
  clear hP1 hD1 hz9 hk9 hvm9 ht9 hw9
  generalize H1 = H at hP hS ⊢
  have aa_59 := a_r1_51
  have aa_60 := a_r2_51
  have aa_61 := a_r3_51
  have aa_62 := a_r4_51
  have aa_63 := a_r0_53
  have aa_64 := a_r1_53
  have aa_65 := a_r3_53
  have aa_66 := a_r5_53
  have aa_67 := a_r6_53
  have aa_68 := a_r7_53
  have aa_69 := a_r8_53
  have o_h0 := E_55.1 _ _ o_h0
  have o_b1 := E_55.1 _ _ o_b1
  have o_b2 := E_55.1 _ _ o_b2
  have pp_70 := Fr_56.pp
  refine lv_aload_n hx hb dX1_firstFault_53 rfl (lv_at hl 0 rfl) ?_
  refine lv_iconst (v := 1) hx hb dX1_firstFault_54 (by decide) ?_
  obtain ⟨fs9, hk_71, hq_71⟩ := ((gF.a (F' := [(1, 5), (1, 7)]) Fr_56 (fun _ h => h))) _ _ _ hk_51
  obtain ⟨r0_71, r1_71, n1_71, r2_71, n2_71, r3_71, n3_71, r4_71, n4_71, c5_71, c6_71, c7_71, v8_71, v9_71, rfl, o_r0_71, a_r1_71, f2_71, a_r2_71, f4_71, a_r3_71, f6_71, a_r4_71, f8_71, hz_c6_71, hz_c7_71, o_v8_71, o_v9_71, f13_71, f14_71, f15_71, f16_71, -⟩ := (hG.1 _ _ _ _ hk_71).hX1 rfl
  obtain rfl := fe_r (hq_71 0 (by decide))
  have o_r0_1 := o_r0_71
  obtain rfl := fe_r (hq_71 2 (by decide))
  have hn9 := gI_n hD ((E_55).1 _ _ aa_60) a_r2_71
  subst hn9
  have a_r2_51 := a_r2_71
  obtain rfl := fe_r (hq_71 3 (by decide))
  have hn9 := gI_n hD ((E_55).1 _ _ aa_61) a_r3_71
  subst hn9
  have a_r3_51 := a_r3_71
  have hn9 := fe_qr (hq_71 8 (by decide))
  subst hn9
  have o_b1 := o_v8_71 _ rfl
  have hn9 := fe_qr (hq_71 9 (by decide))
  subst hn9
  have o_b2 := o_v9_71 _ rfl
  have hV9 : okv ws_54 1 7 (.int 1) := okv_i
  refine va_put (D := gD g) (ci := 1) (v := .int 1) (ty := .boolean) (C := RX1) (T := TX1) (N := 10) hx hb hts inX1 tyX1 tyX1_ok nmX1 hown hK hP hD hS k_1 hk_71 rfl 7 (by decide) (hts _ kw_498) (fun _ h9 => h9) rfl (by decide +kernel) rfl rfl (Nat.le_of_ble_eq_true rfl) dX1_firstFault_55 (fun H locs hP hD hS => ?_)
  have hi_72 : invX1 g ws_54 h0 [.ref r0_1, .ref r1_71, .ref r2_51, .ref r3_51, .ref r4_71, .int c5_71, .int c6_71, .int 1, .ref b1, .ref b2] := ⟨r0_1, r1_71, (n1_71), r2_51, (n2_51), r3_51, (n3_51), r4_71, (n4_71), (c5_71), (c6_71), (1), (some b1), (some b2), rfl, o_r0_1, a_r1_71, f2_71, a_r2_51, f4_71, a_r3_51, f6_71, a_r4_71, f8_71, hz_c6_71, (Or.inr rfl), (fun b h9 => by cases h9; exact o_b1), (fun b h9 => by cases h9; exact o_b2), f13_71, f14_71, f15_71, f16_71, trivial⟩
  obtain ⟨ws_73, e_ws_73⟩ : ∃ z, z = ws_54.set k_1 (h0, .inr (1, [.ref r0_1, .ref r1_71, .ref r2_51, .ref r3_51, .ref r4_71, .int c5_71, .int c6_71, .int 1, .ref b1, .ref b2])) := ⟨_, rfl⟩
  have hP : va_P (gD g) cl0 ws_73 H := by rw [e_ws_73]; exact hP
  have hD : va_D A ws_73 := by rw [e_ws_73]; exact hD
  have E_74 : gE ws_54 ws_73 := gE_set e_ws_73 hk_71 (cw_o (fi := 7) (v := .int 1) rfl (by decide))
  have hG : Good g ws_73 := Good_set (fi := 7) (v := .int 1) e_ws_73 hk_71 E_74 rfl hV9 hG (ivX1 hi_72)
  have Fr_75 : gF [(1, 7)] [] (some h0) ws_54 ws_73 := gF_put (fi := 7) (v := .int 1) e_ws_73 hk_71 rfl (by decide)
  have pp_76 := Fr_75.pp
  have hkN := gset_self e_ws_73 hk_71
  have hk_71 := hkN
  have o_h0 := E_74.1 _ _ o_h0
  have o_b1 := E_74.1 _ _ o_b1
  have o_b2 := E_74.1 _ _ o_b2
  have a_r1_71 := E_74.1 _ _ a_r1_71
  have a_r4_71 := E_74.1 _ _ a_r4_71
  have o_r0_1 := E_74.1 _ _ o_r0_1
  have a_r2_51 := E_74.1 _ _ a_r2_51
  have a_r3_51 := E_74.1 _ _ a_r3_51
  refine lv_iconst (v := 0) hx hb dX1_firstFault_58 (by decide) ?_
  refine lv_istore_n (lv' := [(3, .int 0), (0, .ref h0), (1, .ref b1), (2, .ref b2)]) hx hb dX1_firstFault_59 rfl hl (by decide) rfl (fun ls hl => ?_)
  have J_60 : ∀ (n9 : Nat) (v3_77 : Int32) (dc_60_1 : Nat) (ds_60_1 : Nat) (ws_79 : va_W) (H : Heap) (locs : List Loc) (ls : Array Slot), (2147483647 - v3_77.toInt).toNat = n9 → 0 ≤ v3_77.toInt → gE ws_73 ws_79 → gF [(1, 5), (1, 6), (1, 7)] [(1, 1), (1, 2), (1, 3), (1, 4)] none ws_73 ws_79 → Good g ws_79 → dc_60_1 + PC ws_79 ≤ PC ws + (0) → ds_60_1 + PS ws_79 ≤ PS ws + (0) → va_P (gD g) cl0 ws_79 H → va_D A ws_79 → va_S A s.heap H locs → lv_has ls 5 [(0, .ref h0), (3, .int v3_77)] → W p l e (headSpec (wt yX1_firstFault cX1_firstFault 5 (some .int)) ({ frames := 6, cells := PC ws + (3), slots := PS ws + (3888), locals := 133 })).room s m ([.ref h0, .ref b1, .ref b2] : List Value).toArray below meth c H locs (dc_60_1) (ds_60_1) (MQ below (va_Qi (fun (r : Int32) (u9 : va_W) => True) (gQ2 g [(1, 1), (1, 2), (1, 3), (1, 5), (1, 6), (1, 7), (1, 8), (1, 9), (4, 0), (4, 1), (4, 2), (4, 3), (4, 4), (4, 5), (4, 6), (4, 7), (7, 12), (7, 13), (7, 14)] [(1, 1), (1, 2), (1, 3), (1, 4), (4, 0), (4, 1), (4, 2), (7, 12), (7, 13), (7, 14)] none A ws s.heap (3) (3888)) A) ([.ref h0, .ref b1, .ref b2] : List Value).toArray s (PC ws + (3)) (PS ws + (3888)) A) (F0 m 60 ls []) := by
    intro n9
    induction n9 using Nat.strongRecOn with
    | ind n9 ih_60 =>
      intro v3_77 dc_60_1 ds_60_1 ws_79 H locs ls hm9 iv_78 E_80 Fr_81 hG hc9 hs9 hP hD hS hl
      subst hm9
      have aa_82 := a_r1_71
      have aa_83 := a_r2_51
      have aa_84 := a_r3_51
      have aa_85 := a_r4_71
      have o_h0 := E_80.1 _ _ o_h0
      refine lv_aload_n hx hb dX1_firstFault_60 rfl (lv_at hl 0 rfl) ?_
      obtain ⟨fs9, hk_86, hq_86⟩ := ((gF.a (F' := [(1, 5), (1, 6), (1, 7)]) Fr_81 (fun _ h => h))) _ _ _ hk_71
      obtain ⟨r0_86, r1_86, n1_86, r2_86, n2_86, r3_86, n3_86, r4_86, n4_86, c5_86, c6_86, c7_86, v8_86, v9_86, rfl, o_r0_86, a_r1_86, f2_86, a_r2_86, f4_86, a_r3_86, f6_86, a_r4_86, f8_86, hz_c6_86, hz_c7_86, o_v8_86, o_v9_86, f13_86, f14_86, f15_86, f16_86, -⟩ := (hG.1 _ _ _ _ hk_86).hX1 rfl
      obtain rfl := fe_r (hq_86 0 (by decide))
      have o_r0_1 := o_r0_86
      obtain rfl := fe_r (hq_86 2 (by decide))
      have hn9 := gI_n hD ((E_80).1 _ _ aa_83) a_r2_86
      subst hn9
      have a_r2_51 := a_r2_86
      obtain rfl := fe_r (hq_86 3 (by decide))
      have hn9 := gI_n hD ((E_80).1 _ _ aa_84) a_r3_86
      subst hn9
      have a_r3_51 := a_r3_86
      have hn9 := fe_qr (hq_86 8 (by decide))
      subst hn9
      have o_b1 := o_v8_86 _ rfl
      have hn9 := fe_qr (hq_86 9 (by decide))
      subst hn9
      have o_b2 := o_v9_86 _ rfl
      refine va_get (D := gD g) (ci := 1) (v := .int c7_86) (C := RX1) (T := TX1) (N := 10) hx hb hts inX1 hown hK hP k_1 hk_86 rfl 7 (by decide) (hts _ kw_498) (fun _ h9 => h9) rfl dX1_firstFault_61 ?_
      have J_129 : ∀ (dc_129_2 : Nat) (ds_129_2 : Nat) (H : Heap) (locs : List Loc) (ls : Array Slot), dc_129_2 + PC ws_79 ≤ PC ws + (0) → ds_129_2 + PS ws_79 ≤ PS ws + (0) → va_P (gD g) cl0 ws_79 H → va_D A ws_79 → va_S A s.heap H locs → lv_has ls 5 [(0, .ref h0)] → W p l e (headSpec (wt yX1_firstFault cX1_firstFault 5 (some .int)) ({ frames := 6, cells := PC ws + (3), slots := PS ws + (3888), locals := 133 })).room s m ([.ref h0, .ref b1, .ref b2] : List Value).toArray below meth c H locs (dc_129_2) (ds_129_2) (MQ below (va_Qi (fun (r : Int32) (u9 : va_W) => True) (gQ2 g [(1, 1), (1, 2), (1, 3), (1, 5), (1, 6), (1, 7), (1, 8), (1, 9), (4, 0), (4, 1), (4, 2), (4, 3), (4, 4), (4, 5), (4, 6), (4, 7), (7, 12), (7, 13), (7, 14)] [(1, 1), (1, 2), (1, 3), (1, 4), (4, 0), (4, 1), (4, 2), (7, 12), (7, 13), (7, 14)] none A ws s.heap (3) (3888)) A) ([.ref h0, .ref b1, .ref b2] : List Value).toArray s (PC ws + (3)) (PS ws + (3888)) A) (F0 m 129 ls []) := by
        intro dc_129_2 ds_129_2 H locs ls  hc9 hs9 hP hD hS hl
        refine lv_iconst (v := 0) hx hb dX1_firstFault_129 (by decide) ?_
        refine lv_istore_n (lv' := [(3, .int 0), (0, .ref h0)]) hx hb dX1_firstFault_130 rfl hl (by decide) rfl (fun ls hl => ?_)
        have J_131 : ∀ (n9 : Nat) (v3_89 : Int32) (dc_131_3 : Nat) (ds_131_3 : Nat) (ws_91 : va_W) (H : Heap) (locs : List Loc) (ls : Array Slot), (2147483647 - v3_89.toInt).toNat = n9 → 0 ≤ v3_89.toInt → gE ws_79 ws_91 → gF [(1, 5), (1, 6)] [(1, 4)] none ws_79 ws_91 → Good g ws_91 → dc_131_3 + PC ws_91 ≤ PC ws + (0) → ds_131_3 + PS ws_91 ≤ PS ws + (0) → va_P (gD g) cl0 ws_91 H → va_D A ws_91 → va_S A s.heap H locs → lv_has ls 5 [(0, .ref h0), (3, .int v3_89)] → W p l e (headSpec (wt yX1_firstFault cX1_firstFault 5 (some .int)) ({ frames := 6, cells := PC ws + (3), slots := PS ws + (3888), locals := 133 })).room s m ([.ref h0, .ref b1, .ref b2] : List Value).toArray below meth c H locs (dc_131_3) (ds_131_3) (MQ below (va_Qi (fun (r : Int32) (u9 : va_W) => True) (gQ2 g [(1, 1), (1, 2), (1, 3), (1, 5), (1, 6), (1, 7), (1, 8), (1, 9), (4, 0), (4, 1), (4, 2), (4, 3), (4, 4), (4, 5), (4, 6), (4, 7), (7, 12), (7, 13), (7, 14)] [(1, 1), (1, 2), (1, 3), (1, 4), (4, 0), (4, 1), (4, 2), (7, 12), (7, 13), (7, 14)] none A ws s.heap (3) (3888)) A) ([.ref h0, .ref b1, .ref b2] : List Value).toArray s (PC ws + (3)) (PS ws + (3888)) A) (F0 m 131 ls []) := by
          intro n9
          induction n9 using Nat.strongRecOn with
          | ind n9 ih_131 =>
            intro v3_89 dc_131_3 ds_131_3 ws_91 H locs ls hm9 iv_90 E_92 Fr_93 hG hc9 hs9 hP hD hS hl
            subst hm9
            have aa_94 := a_r1_86
            have aa_95 := a_r2_51
            have aa_96 := a_r3_51
            have aa_97 := a_r4_86
            have o_h0 := E_92.1 _ _ o_h0
            refine lv_iload_n hx hb dX1_firstFault_131 rfl (lv_at hl 1 rfl) ?_
            refine lv_aload_n hx hb dX1_firstFault_132 rfl (lv_at hl 0 rfl) ?_
            obtain ⟨fs9, hk_98, hq_98⟩ := ((gF.a (F' := [(1, 5), (1, 6)]) Fr_93 (fun _ h => h))) _ _ _ hk_86
            obtain ⟨r0_98, r1_98, n1_98, r2_98, n2_98, r3_98, n3_98, r4_98, n4_98, c5_98, c6_98, c7_98, v8_98, v9_98, rfl, o_r0_98, a_r1_98, f2_98, a_r2_98, f4_98, a_r3_98, f6_98, a_r4_98, f8_98, hz_c6_98, hz_c7_98, o_v8_98, o_v9_98, f13_98, f14_98, f15_98, f16_98, -⟩ := (hG.1 _ _ _ _ hk_98).hX1 rfl
            obtain rfl := fe_r (hq_98 0 (by decide))
            have o_r0_1 := o_r0_98
            obtain rfl := fe_r (hq_98 2 (by decide))
            have hn9 := gI_n hD ((E_92).1 _ _ aa_95) a_r2_98
            subst hn9
            have a_r2_51 := a_r2_98
            obtain rfl := fe_r (hq_98 3 (by decide))
            have hn9 := gI_n hD ((E_92).1 _ _ aa_96) a_r3_98
            subst hn9
            have a_r3_51 := a_r3_98
            obtain rfl := fe_i (hq_98 7 (by decide))
            have hz_c7_86 := hz_c7_98
            have hn9 := fe_qr (hq_98 8 (by decide))
            subst hn9
            have o_b1 := o_v8_98 _ rfl
            have hn9 := fe_qr (hq_98 9 (by decide))
            subst hn9
            have o_b2 := o_v9_98 _ rfl
            refine va_get (D := gD g) (ci := 1) (v := .ref b2) (C := RX1) (T := TX1) (N := 10) hx hb hts inX1 hown hK hP k_1 hk_98 rfl 9 (by decide) (hts _ kw_479) (fun _ h9 => h9) rfl dX1_firstFault_133 ?_
            obtain ⟨fs9, hk_99, hq_99⟩ := ((gA.tr (gF.a (F' := [(1, 5), (1, 6), (1, 7)]) Fr_56 (by decide)) (gA.tr (gF.a (F' := [(1, 5), (1, 6), (1, 7)]) Fr_75 (by decide)) (gA.tr (gF.a (F' := [(1, 5), (1, 6), (1, 7)]) Fr_81 (fun _ h => h)) (gF.a (F' := [(1, 5), (1, 6), (1, 7)]) Fr_93 (by decide)))))) _ _ _ hk_53
            obtain ⟨r0_99, n0_99, r1_99, n1_99, c2_99, r3_99, n3_99, c4_99, r5_99, n5_99, r6_99, n6_99, r7_99, n7_99, r8_99, n8_99, c9_99, c10_99, c11_99, v12_99, v13_99, v14_99, rfl, a_r0_99, f1_99, a_r1_99, f3_99, a_r3_99, f5_99, a_r5_99, f7_99, a_r6_99, f9_99, a_r7_99, f11_99, a_r8_99, f13_99, o_v12_99, o_v13_99, o_v14_99, f17_99, f18_99, f19_99, f20_99, f21_99, f22_99, f23_99, f24_99, f25_99, f26_99, f27_99, f28_99, f29_99, -⟩ := (hG.1 _ _ _ _ hk_99).hX8 rfl
            obtain rfl := fe_i (hq_99 2 (by decide))
            obtain rfl := fe_i (hq_99 10 (by decide))
            refine va_get (D := gD g) (ci := 7) (v := .int c2_12) (C := RX8) (T := TX8) (N := 15) hx hb hts inX8 hown hK hP k_12 hk_99 rfl 2 (by decide) (hts _ kw_491) (fun _ h9 => h9) rfl dX1_firstFault_136 ?_
            refine lv_icmp_ge (tgt := 169) hx hb dX1_firstFault_139 (by decide) (fun c_100 => ?_) (fun c_100 => ?_)
            · refine lv_aload_n hx hb dX1_firstFault_169 rfl (lv_at hl 0 rfl) ?_
              have hFc := gfree hD hS hA
              have pg_101 := ge_1_2 hD hk_98 rfl a_r2_51
              refine W_led (fun hL0 => ?_)
              refine va_callv (va_runV (As := []) (rest := []) ⟨hx, hb, hml, hown, hts⟩ (m_X1_keepTypes l g H ws_91 h0 hG o_h0 (gN_of hD hk_98 (j := 9) rfl) (fun k9 k8 b9 fs gs e1 e2 e3 q0 e40 p90 m90 e50 g90 => by obtain rfl := gO_un hD hk_98 e1; cases e2; obtain rfl := gO_un hD hk_99 e3; cases e40; cases e50; have z90 := gI_n hD a_r2_51 g90; subst z90; exact (by have q_f19_12 := f19_12; have q_f20_12 := f20_12; have q_f20_32 := f20_32; have q_f4_51 := f4_51; have q_f14_51 := f14_51; have q_f15_51 := f15_51; have q_f16_51 := f16_51; have q_kq_52 := kq_52; have q_f20_53 := f20_53; have q_f15_71 := f15_71; have q_f15_86 := f15_86; have q_f15_98 := f15_98; have q_f20_99 := f20_99; have q_c_100 := i_le c_100; have q_f1_12 := f1_12; have q_f17_12 := f17_12; have q_f18_12 := f18_12; have q_f1_32 := f1_32; have q_f17_32 := f17_32; have q_f18_32 := f18_32; have q_f2_51 := f2_51; have q_f6_51 := f6_51; have q_f1_53 := f1_53; have q_f17_53 := f17_53; have q_f18_53 := f18_53; have q_f2_71 := f2_71; have q_f2_86 := f2_86; have q_iv_90 := iv_90; have q_f2_98 := f2_98; have q_f1_99 := f1_99; have q_f17_99 := f17_99; have q_f18_99 := f18_99; have g_c2_12 := i_rg c2_12; have g_v3_89 := i_rg v3_89; omega))) (cwV 0 hts (gd_V kw_509 kw_561 kw_562 kw_392 kw_560) rfl rfl rfl (by decide +kernel) ⟨Nat.le_of_ble_eq_true rfl, Nat.le_of_ble_eq_true rfl⟩) ⟨gblindH, va_recv hK hP (ci := 1) (q0 := k_1) rfl hk_98, fun U hU hW9 => gmkH hU hW9 hP hK hD hex hE hS hFc⟩ rfl rfl hl.1 rfl (lv_room (Nat.le_of_ble_eq_true rfl)) dX1_firstFault_170 ⟨(show dc_131_3 + (PC ws_91 + (3)) ≤ PC ws + (3) from (by have e3 : (3 : Int32).toInt = 3 := (by decide); have e3888 : (3888 : Int32).toInt = 3888 := (by decide); omega)), (show ds_131_3 + (PS ws_91 + (3888)) ≤ PS ws + (3888) from (by have e3 : (3 : Int32).toInt = 3 := (by decide); have e3888 : (3888 : Int32).toInt = 3888 := (by decide); omega))⟩) hS (fun q _ h => hFc q h) hFc (fun  ws_102 t9 H1 locs ht9 hvm9 hw9 hB9 hz9 hk9 hS => ?_)
              obtain ⟨E_103, Fr_104, hG, hP1, hD1, dc_105, ds_106, hLd, hdc_105, hds_106⟩ := hB9
              rw [ht9] at hLd
              refine W_tight (hL0.tr hLd).1 (hL0.tr hLd).2.1 ?_
              clear hL0 hLd
              have hP : va_P (gD g) cl0 ws_102 H1 := by rw [← ht9]; exact hP1
              have hD : va_D A ws_102 := hD1.weaken (fun _ _ _ h => hFc _ h)
              clear hP1 hD1 hz9 hk9 hvm9 ht9 hw9
              generalize H1 = H at hP hS ⊢
              have aa_107 := a_r1_98
              have aa_108 := a_r2_51
              have aa_109 := a_r3_51
              have aa_110 := a_r4_98
              have aa_111 := a_r0_99
              have aa_112 := a_r1_99
              have aa_113 := a_r3_99
              have aa_114 := a_r5_99
              have aa_115 := a_r6_99
              have aa_116 := a_r7_99
              have aa_117 := a_r8_99
              have o_h0 := E_103.1 _ _ o_h0
              refine lv_iconst (v := (-1)) hx hb dX1_firstFault_173 (by decide) ?_
              refine W_led (fun hLd => ?_)
              have hcl : dc_131_3 + dc_105 + PC ws_102 ≤ PC ws + (3) := (by omega)
              have hsl : ds_131_3 + ds_106 + PS ws_102 ≤ PS ws + (3888) := (by omega)
              refine W.widen (k := PC ws + (3)) (n := PS ws + (3888)) (by omega) (by omega) ?_
              exact W.iret (v := (-1)) hx hb hr (fun t9 ht9 hW9 => ⟨⟨_, ws_102, rfl, trivial, ⟨(E_4.tr (E_9.tr (E_16.tr (E_35.tr (E_55.tr (E_74.tr (E_80.tr (E_92.tr E_103)))))))), (gF.tr (gF.mo (F' := [(1, 1), (1, 2), (1, 3), (1, 5), (1, 6), (1, 7), (1, 8), (1, 9), (4, 0), (4, 1), (4, 2), (4, 3), (4, 4), (4, 5), (4, 6), (4, 7), (7, 12), (7, 13), (7, 14)]) (C' := [(1, 1), (1, 2), (1, 3), (1, 4), (4, 0), (4, 1), (4, 2), (7, 12), (7, 13), (7, 14)]) (S' := none) Fr_5 (by decide) (fun _ h => absurd h List.not_mem_nil) (Or.inl rfl)) (gF.tr (gF.mo (F' := [(1, 1), (1, 2), (1, 3), (1, 5), (1, 6), (1, 7), (1, 8), (1, 9), (4, 0), (4, 1), (4, 2), (4, 3), (4, 4), (4, 5), (4, 6), (4, 7), (7, 12), (7, 13), (7, 14)]) (C' := [(1, 1), (1, 2), (1, 3), (1, 4), (4, 0), (4, 1), (4, 2), (7, 12), (7, 13), (7, 14)]) (S' := none) Fr_10 (by decide) (fun _ h => absurd h List.not_mem_nil) (Or.inl rfl)) (gF.tr (gF.mo (F' := [(1, 1), (1, 2), (1, 3), (1, 5), (1, 6), (1, 7), (1, 8), (1, 9), (4, 0), (4, 1), (4, 2), (4, 3), (4, 4), (4, 5), (4, 6), (4, 7), (7, 12), (7, 13), (7, 14)]) (C' := [(1, 1), (1, 2), (1, 3), (1, 4), (4, 0), (4, 1), (4, 2), (7, 12), (7, 13), (7, 14)]) (S' := none) Fr_17 (by decide) (by decide) (Or.inr rfl)) (gF.tr (gF.mo (F' := [(1, 1), (1, 2), (1, 3), (1, 5), (1, 6), (1, 7), (1, 8), (1, 9), (4, 0), (4, 1), (4, 2), (4, 3), (4, 4), (4, 5), (4, 6), (4, 7), (7, 12), (7, 13), (7, 14)]) (C' := [(1, 1), (1, 2), (1, 3), (1, 4), (4, 0), (4, 1), (4, 2), (7, 12), (7, 13), (7, 14)]) (S' := none) Fr_36 (by decide) (by decide) (Or.inr rfl)) (gF.tr (gF.mo (F' := [(1, 1), (1, 2), (1, 3), (1, 5), (1, 6), (1, 7), (1, 8), (1, 9), (4, 0), (4, 1), (4, 2), (4, 3), (4, 4), (4, 5), (4, 6), (4, 7), (7, 12), (7, 13), (7, 14)]) (C' := [(1, 1), (1, 2), (1, 3), (1, 4), (4, 0), (4, 1), (4, 2), (7, 12), (7, 13), (7, 14)]) (S' := none) Fr_56 (by decide) (by decide) (Or.inr rfl)) (gF.tr (gF.mo (F' := [(1, 1), (1, 2), (1, 3), (1, 5), (1, 6), (1, 7), (1, 8), (1, 9), (4, 0), (4, 1), (4, 2), (4, 3), (4, 4), (4, 5), (4, 6), (4, 7), (7, 12), (7, 13), (7, 14)]) (C' := [(1, 1), (1, 2), (1, 3), (1, 4), (4, 0), (4, 1), (4, 2), (7, 12), (7, 13), (7, 14)]) (S' := none) Fr_75 (by decide) (fun _ h => absurd h List.not_mem_nil) (Or.inl rfl)) (gF.tr (gF.mo (F' := [(1, 1), (1, 2), (1, 3), (1, 5), (1, 6), (1, 7), (1, 8), (1, 9), (4, 0), (4, 1), (4, 2), (4, 3), (4, 4), (4, 5), (4, 6), (4, 7), (7, 12), (7, 13), (7, 14)]) (C' := [(1, 1), (1, 2), (1, 3), (1, 4), (4, 0), (4, 1), (4, 2), (7, 12), (7, 13), (7, 14)]) (S' := none) Fr_81 (by decide) (by decide) (Or.inr rfl)) (gF.tr (gF.mo (F' := [(1, 1), (1, 2), (1, 3), (1, 5), (1, 6), (1, 7), (1, 8), (1, 9), (4, 0), (4, 1), (4, 2), (4, 3), (4, 4), (4, 5), (4, 6), (4, 7), (7, 12), (7, 13), (7, 14)]) (C' := [(1, 1), (1, 2), (1, 3), (1, 4), (4, 0), (4, 1), (4, 2), (7, 12), (7, 13), (7, 14)]) (S' := none) Fr_93 (by decide) (by decide) (Or.inr rfl)) (gF.mo (F' := [(1, 1), (1, 2), (1, 3), (1, 5), (1, 6), (1, 7), (1, 8), (1, 9), (4, 0), (4, 1), (4, 2), (4, 3), (4, 4), (4, 5), (4, 6), (4, 7), (7, 12), (7, 13), (7, 14)]) (C' := [(1, 1), (1, 2), (1, 3), (1, 4), (4, 0), (4, 1), (4, 2), (7, 12), (7, 13), (7, 14)]) (S' := none) Fr_104 (by decide) (by decide) (Or.inr rfl)))))))))), hG, by rw [ht9]; exact hP, hD, _, _, by rw [ht9]; exact hLd, hcl, hsl⟩⟩, hS.F ht9⟩) hS.2.2 dX1_firstFault_174
            · refine lv_aload_n hx hb dX1_firstFault_142 rfl (lv_at hl 0 rfl) ?_
              refine va_get (D := gD g) (ci := 1) (v := .ref r0_1) (C := RX1) (T := TX1) (N := 10) hx hb hts inX1 hown hK hP k_1 hk_98 rfl 0 (by decide) (hts _ kw_492) (fun _ h9 => h9) rfl dX1_firstFault_143 ?_
              refine lv_iload_n hx hb dX1_firstFault_146 rfl (lv_at hl 1 rfl) ?_
              have hFc := gfree hD hS hA
              obtain ⟨k_118, fs_118, hk_118⟩ := gC_of o_r0_1
              refine va_calli (va_runV (As := [.int v3_89]) (rest := []) ⟨hx, hb, hml, hown, hts⟩ (m_X4_isWrong l g H.size ws_91 r0_1 (v3_89) hG o_r0_1) (cwV 1 hts (gd_V kw_493 kw_968 kw_969 kw_167 kw_967) rfl rfl rfl (by decide +kernel) ⟨Nat.le_of_ble_eq_true rfl, Nat.le_of_ble_eq_true rfl⟩) ⟨gblind, va_recv hK hP (ci := 4) (q0 := k_118) rfl hk_118, fun U hU hW9 => gmk hU hW9 hP hK hD hex hE hS hFc⟩ rfl rfl hl.1 rfl (lv_room (Nat.le_of_ble_eq_true rfl)) dX1_firstFault_147 ⟨(show dc_131_3 + 0 ≤ PC ws + (3) from (by omega)), (show ds_131_3 + 0 ≤ PS ws + (3888) from (by omega))⟩) hS (fun q _ h => hFc q h) hFc (fun r_119 u9 t9 H1 locs ht9 hvm9 hw9 hB9 hz9 hk9 hS => ?_)
              have hP : va_P (gD g) cl0 ws_91 H1 := by rw [← ht9]; exact hB9.1
              have hz_r_119 : r_119 = 0 ∨ r_119 = 1 := hw9
              clear hB9 hz9 hk9 hvm9 ht9 hw9
              generalize H1 = H at hP hS ⊢
              have J_161 : ∀ (dc_161_4 : Nat) (ds_161_4 : Nat) (ws_120 : va_W) (H : Heap) (locs : List Loc) (ls : Array Slot), gE ws_91 ws_120 → gF [(1, 5), (1, 6)] [(1, 4)] none ws_91 ws_120 → Good g ws_120 → dc_161_4 + PC ws_120 ≤ PC ws + (0) → ds_161_4 + PS ws_120 ≤ PS ws + (0) → va_P (gD g) cl0 ws_120 H → va_D A ws_120 → va_S A s.heap H locs → lv_has ls 5 [(3, .int v3_89)] → W p l e (headSpec (wt yX1_firstFault cX1_firstFault 5 (some .int)) ({ frames := 6, cells := PC ws + (3), slots := PS ws + (3888), locals := 133 })).room s m ([.ref h0, .ref b1, .ref b2] : List Value).toArray below meth c H locs (dc_161_4) (ds_161_4) (MQ below (va_Qi (fun (r : Int32) (u9 : va_W) => True) (gQ2 g [(1, 1), (1, 2), (1, 3), (1, 5), (1, 6), (1, 7), (1, 8), (1, 9), (4, 0), (4, 1), (4, 2), (4, 3), (4, 4), (4, 5), (4, 6), (4, 7), (7, 12), (7, 13), (7, 14)] [(1, 1), (1, 2), (1, 3), (1, 4), (4, 0), (4, 1), (4, 2), (7, 12), (7, 13), (7, 14)] none A ws s.heap (3) (3888)) A) ([.ref h0, .ref b1, .ref b2] : List Value).toArray s (PC ws + (3)) (PS ws + (3888)) A) (F0 m 161 ls []) := by
                intro dc_161_4 ds_161_4 ws_120 H locs ls  E_121 Fr_122 hG hc9 hs9 hP hD hS hl
                have aa_123 := a_r1_98
                have aa_124 := a_r2_51
                have aa_125 := a_r3_51
                have aa_126 := a_r4_98
                have aa_127 := a_r0_99
                have aa_128 := a_r1_99
                have aa_129 := a_r3_99
                have aa_130 := a_r5_99
                have aa_131 := a_r6_99
                have aa_132 := a_r7_99
                have aa_133 := a_r8_99
                have o_h0 := E_121.1 _ _ o_h0
                refine lv_iload_n hx hb dX1_firstFault_161 rfl (lv_at hl 0 rfl) ?_
                refine W_led (fun hLd => ?_)
                have hcl : dc_161_4 + PC ws_120 ≤ PC ws + (3) := (by omega)
                have hsl : ds_161_4 + PS ws_120 ≤ PS ws + (3888) := (by omega)
                refine W.widen (k := PC ws + (3)) (n := PS ws + (3888)) (by omega) (by omega) ?_
                exact W.iret (v := v3_89) hx hb hr (fun t9 ht9 hW9 => ⟨⟨_, ws_120, rfl, trivial, ⟨(E_4.tr (E_9.tr (E_16.tr (E_35.tr (E_55.tr (E_74.tr (E_80.tr (E_92.tr E_121)))))))), (gF.tr (gF.mo (F' := [(1, 1), (1, 2), (1, 3), (1, 5), (1, 6), (1, 7), (1, 8), (1, 9), (4, 0), (4, 1), (4, 2), (4, 3), (4, 4), (4, 5), (4, 6), (4, 7), (7, 12), (7, 13), (7, 14)]) (C' := [(1, 1), (1, 2), (1, 3), (1, 4), (4, 0), (4, 1), (4, 2), (7, 12), (7, 13), (7, 14)]) (S' := none) Fr_5 (by decide) (fun _ h => absurd h List.not_mem_nil) (Or.inl rfl)) (gF.tr (gF.mo (F' := [(1, 1), (1, 2), (1, 3), (1, 5), (1, 6), (1, 7), (1, 8), (1, 9), (4, 0), (4, 1), (4, 2), (4, 3), (4, 4), (4, 5), (4, 6), (4, 7), (7, 12), (7, 13), (7, 14)]) (C' := [(1, 1), (1, 2), (1, 3), (1, 4), (4, 0), (4, 1), (4, 2), (7, 12), (7, 13), (7, 14)]) (S' := none) Fr_10 (by decide) (fun _ h => absurd h List.not_mem_nil) (Or.inl rfl)) (gF.tr (gF.mo (F' := [(1, 1), (1, 2), (1, 3), (1, 5), (1, 6), (1, 7), (1, 8), (1, 9), (4, 0), (4, 1), (4, 2), (4, 3), (4, 4), (4, 5), (4, 6), (4, 7), (7, 12), (7, 13), (7, 14)]) (C' := [(1, 1), (1, 2), (1, 3), (1, 4), (4, 0), (4, 1), (4, 2), (7, 12), (7, 13), (7, 14)]) (S' := none) Fr_17 (by decide) (by decide) (Or.inr rfl)) (gF.tr (gF.mo (F' := [(1, 1), (1, 2), (1, 3), (1, 5), (1, 6), (1, 7), (1, 8), (1, 9), (4, 0), (4, 1), (4, 2), (4, 3), (4, 4), (4, 5), (4, 6), (4, 7), (7, 12), (7, 13), (7, 14)]) (C' := [(1, 1), (1, 2), (1, 3), (1, 4), (4, 0), (4, 1), (4, 2), (7, 12), (7, 13), (7, 14)]) (S' := none) Fr_36 (by decide) (by decide) (Or.inr rfl)) (gF.tr (gF.mo (F' := [(1, 1), (1, 2), (1, 3), (1, 5), (1, 6), (1, 7), (1, 8), (1, 9), (4, 0), (4, 1), (4, 2), (4, 3), (4, 4), (4, 5), (4, 6), (4, 7), (7, 12), (7, 13), (7, 14)]) (C' := [(1, 1), (1, 2), (1, 3), (1, 4), (4, 0), (4, 1), (4, 2), (7, 12), (7, 13), (7, 14)]) (S' := none) Fr_56 (by decide) (by decide) (Or.inr rfl)) (gF.tr (gF.mo (F' := [(1, 1), (1, 2), (1, 3), (1, 5), (1, 6), (1, 7), (1, 8), (1, 9), (4, 0), (4, 1), (4, 2), (4, 3), (4, 4), (4, 5), (4, 6), (4, 7), (7, 12), (7, 13), (7, 14)]) (C' := [(1, 1), (1, 2), (1, 3), (1, 4), (4, 0), (4, 1), (4, 2), (7, 12), (7, 13), (7, 14)]) (S' := none) Fr_75 (by decide) (fun _ h => absurd h List.not_mem_nil) (Or.inl rfl)) (gF.tr (gF.mo (F' := [(1, 1), (1, 2), (1, 3), (1, 5), (1, 6), (1, 7), (1, 8), (1, 9), (4, 0), (4, 1), (4, 2), (4, 3), (4, 4), (4, 5), (4, 6), (4, 7), (7, 12), (7, 13), (7, 14)]) (C' := [(1, 1), (1, 2), (1, 3), (1, 4), (4, 0), (4, 1), (4, 2), (7, 12), (7, 13), (7, 14)]) (S' := none) Fr_81 (by decide) (by decide) (Or.inr rfl)) (gF.tr (gF.mo (F' := [(1, 1), (1, 2), (1, 3), (1, 5), (1, 6), (1, 7), (1, 8), (1, 9), (4, 0), (4, 1), (4, 2), (4, 3), (4, 4), (4, 5), (4, 6), (4, 7), (7, 12), (7, 13), (7, 14)]) (C' := [(1, 1), (1, 2), (1, 3), (1, 4), (4, 0), (4, 1), (4, 2), (7, 12), (7, 13), (7, 14)]) (S' := none) Fr_93 (by decide) (by decide) (Or.inr rfl)) (gF.mo (F' := [(1, 1), (1, 2), (1, 3), (1, 5), (1, 6), (1, 7), (1, 8), (1, 9), (4, 0), (4, 1), (4, 2), (4, 3), (4, 4), (4, 5), (4, 6), (4, 7), (7, 12), (7, 13), (7, 14)]) (C' := [(1, 1), (1, 2), (1, 3), (1, 4), (4, 0), (4, 1), (4, 2), (7, 12), (7, 13), (7, 14)]) (S' := none) Fr_122 (by decide) (by decide) (Or.inr rfl)))))))))), hG, by rw [ht9]; exact hP, hD, _, _, by rw [ht9]; exact hLd, hcl, hsl⟩⟩, hS.F ht9⟩) hS.2.2 dX1_firstFault_162
              refine lv_if_ne (tgt := 161) hx hb dX1_firstFault_150 (by decide) (fun c_134 => ?_) (fun c_134 => ?_)
              · exact J_161 (dc_131_3) (ds_131_3) ws_91 H locs ls (gE.rf) (gF.rf) hG (by omega) (by omega) hP hD hS (lv_sub hl [1] rfl)
              · refine lv_aload_n hx hb dX1_firstFault_153 rfl (lv_at hl 0 rfl) ?_
                refine lv_iload_n hx hb dX1_firstFault_154 rfl (lv_at hl 1 rfl) ?_
                have hFc := gfree hD hS hA
                refine va_calli (va_runV (As := [.int v3_89]) (rest := []) ⟨hx, hb, hml, hown, hts⟩ (m_X1_hasBadTypes l g H.size ws_91 h0 (v3_89) hG o_h0 (gN_of hD hk_98 (j := 8) rfl) (gN_of hD hk_98 (j := 9) rfl) (gP_of hD hk_98 (fun p90 q90 e90 g90 => by cases e90; have z90 := gI_n hD a_r2_51 g90; subst z90; exact (by have q_f4_51 := f4_51; have q_f14_51 := f14_51; have q_f15_51 := f15_51; have q_f16_51 := f16_51; have q_kq_52 := kq_52; have q_f15_71 := f15_71; have q_f15_86 := f15_86; have q_iv_90 := iv_90; have q_f15_98 := f15_98; have q_c_100 := i_nle c_100; have q_f19_12 := f19_12; have q_f20_12 := f20_12; have q_f20_32 := f20_32; have q_f2_51 := f2_51; have q_f6_51 := f6_51; have q_f20_53 := f20_53; have q_f2_71 := f2_71; have q_f2_86 := f2_86; have q_f2_98 := f2_98; have q_f20_99 := f20_99; have g_c2_12 := i_rg c2_12; have g_v3_89 := i_rg v3_89; omega)))) (cwV 1 hts (gd_V kw_508 kw_544 kw_545 kw_392 kw_543) rfl rfl rfl (by decide +kernel) ⟨Nat.le_of_ble_eq_true rfl, Nat.le_of_ble_eq_true rfl⟩) ⟨gblind, va_recv hK hP (ci := 1) (q0 := k_1) rfl hk_98, fun U hU hW9 => gmk hU hW9 hP hK hD hex hE hS hFc⟩ rfl rfl hl.1 rfl (lv_room (Nat.le_of_ble_eq_true rfl)) dX1_firstFault_155 ⟨(show dc_131_3 + 0 ≤ PC ws + (3) from (by omega)), (show ds_131_3 + 0 ≤ PS ws + (3888) from (by omega))⟩) hS (fun q _ h => hFc q h) hFc (fun r_135 ws_136 t9 H1 locs ht9 hvm9 hw9 hB9 hz9 hk9 hS => ?_)
                obtain ⟨E_137, Fr_138, hG, hP1, hD1⟩ := hB9
                have hP : va_P (gD g) cl0 ws_136 H1 := by rw [← ht9]; exact hP1
                have hD : va_D A ws_136 := hD1.weaken (fun _ _ _ h => hFc _ h)
                have hz_r_135 : r_135 = 0 ∨ r_135 = 1 := hw9
                clear hP1 hD1 hz9 hk9 hvm9 ht9 hw9
                generalize H1 = H at hP hS ⊢
                have aa_141 := a_r1_98
                have aa_142 := a_r2_51
                have aa_143 := a_r3_51
                have aa_144 := a_r4_98
                have aa_145 := a_r0_99
                have aa_146 := a_r1_99
                have aa_147 := a_r3_99
                have aa_148 := a_r5_99
                have aa_149 := a_r6_99
                have aa_150 := a_r7_99
                have aa_151 := a_r8_99
                have o_h0 := E_137.1 _ _ o_h0
                have pp_152 := Fr_138.pp
                refine lv_if_eq (tgt := 163) hx hb dX1_firstFault_158 (by decide) (fun c_153 => ?_) (fun c_153 => ?_)
                · obtain ⟨z_154, ez_154⟩ : ∃ z : Int32, v3_89 + Int32.ofInt 1 = z := ⟨_, rfl⟩
                  refine lv_iinc (v := z_154) (lv' := [(3, .int z_154), (0, .ref h0)]) hx hb dX1_firstFault_163 hl (k := 1) rfl ez_154 (by decide) rfl (fun ls hl => ?_)
                  refine lv_goto (tgt := 131) hx hb dX1_firstFault_166 (by decide) ?_
                  exact ih_131 _ (by obtain ⟨u_z_154, q_z_154⟩ := i_iz ez_154 (by decide) (by decide); have q_iv_90 := iv_90; have q_c_100 := i_nle c_100; have g_c2_12 := i_rg c2_12; have g_v3_89 := i_rg v3_89; have g_z_154 := i_rg z_154; omega) (z_154) (dc_131_3) (ds_131_3) ws_136 H locs ls rfl (by obtain ⟨u_z_154, q_z_154⟩ := i_iz ez_154 (by decide) (by decide); have q_iv_90 := iv_90; have q_c_100 := i_nle c_100; have g_c2_12 := i_rg c2_12; have g_v3_89 := i_rg v3_89; have g_z_154 := i_rg z_154; omega) ((E_92.tr E_137)) ((gF.tr Fr_93 Fr_138)) hG (by omega) (by omega) hP hD hS (lv_sub hl [1, 0] rfl)
                · exact J_161 (dc_131_3) (ds_131_3) ws_136 H locs ls (E_137) (Fr_138) hG (by omega) (by omega) hP hD hS (lv_sub hl [1] rfl)
        exact J_131 _ (0) (dc_129_2) (ds_129_2) ws_79 H locs ls rfl (by have e0 : (0 : Int32).toInt = 0 := (by decide); omega) (gE.rf) (gF.rf) hG (by omega) (by omega) hP hD hS (lv_sub hl [1, 0] rfl)
      refine lv_if_eq (tgt := 129) hx hb dX1_firstFault_64 (by decide) (fun c_155 => ?_) (fun c_155 => ?_)
      · exact J_129 (dc_60_1) (ds_60_1) H locs ls (by omega) (by omega) hP hD hS (lv_sub hl [0] rfl)
      · refine lv_iload_n hx hb dX1_firstFault_67 rfl (lv_at hl 1 rfl) ?_
        refine lv_ldc hx hb hown (hts _ kw_506) dX1_firstFault_68 ?_
        refine lv_icmp_ge (tgt := 129) hx hb dX1_firstFault_70 (by decide) (fun c_156 => ?_) (fun c_156 => ?_)
        · exact J_129 (dc_60_1) (ds_60_1) H locs ls (by omega) (by omega) hP hD hS (lv_sub hl [0] rfl)
        · refine lv_aload_n hx hb dX1_firstFault_73 rfl (lv_at hl 0 rfl) ?_
          refine lv_iconst (v := 0) hx hb dX1_firstFault_74 (by decide) ?_
          have hV9 : okv ws_79 1 7 (.int 0) := okv_i
          refine va_put (D := gD g) (ci := 1) (v := .int 0) (ty := .boolean) (C := RX1) (T := TX1) (N := 10) hx hb hts inX1 tyX1 tyX1_ok nmX1 hown hK hP hD hS k_1 hk_86 rfl 7 (by decide) (hts _ kw_498) (fun _ h9 => h9) rfl (by decide +kernel) rfl rfl (Nat.le_of_ble_eq_true rfl) dX1_firstFault_75 (fun H locs hP hD hS => ?_)
          have hi_157 : invX1 g ws_79 h0 [.ref r0_1, .ref r1_86, .ref r2_51, .ref r3_51, .ref r4_86, .int c5_86, .int c6_86, .int 0, .ref b1, .ref b2] := ⟨r0_1, r1_86, (n1_86), r2_51, (n2_51), r3_51, (n3_51), r4_86, (n4_86), (c5_86), (c6_86), (0), (some b1), (some b2), rfl, o_r0_1, a_r1_86, f2_86, a_r2_51, f4_86, a_r3_51, f6_86, a_r4_86, f8_86, hz_c6_86, (Or.inl rfl), (fun b h9 => by cases h9; exact o_b1), (fun b h9 => by cases h9; exact o_b2), f13_86, f14_86, f15_86, f16_86, trivial⟩
          obtain ⟨ws_158, e_ws_158⟩ : ∃ z, z = ws_79.set k_1 (h0, .inr (1, [.ref r0_1, .ref r1_86, .ref r2_51, .ref r3_51, .ref r4_86, .int c5_86, .int c6_86, .int 0, .ref b1, .ref b2])) := ⟨_, rfl⟩
          have hP : va_P (gD g) cl0 ws_158 H := by rw [e_ws_158]; exact hP
          have hD : va_D A ws_158 := by rw [e_ws_158]; exact hD
          have E_159 : gE ws_79 ws_158 := gE_set e_ws_158 hk_86 (cw_o (fi := 7) (v := .int 0) rfl (by decide))
          have hG : Good g ws_158 := Good_set (fi := 7) (v := .int 0) e_ws_158 hk_86 E_159 rfl hV9 hG (ivX1 hi_157)
          have Fr_160 : gF [(1, 7)] [] (some h0) ws_79 ws_158 := gF_put (fi := 7) (v := .int 0) e_ws_158 hk_86 rfl (by decide)
          have pp_161 := Fr_160.pp
          have hkN := gset_self e_ws_158 hk_86
          have hk_86 := hkN
          have o_h0 := E_159.1 _ _ o_h0
          have a_r1_86 := E_159.1 _ _ a_r1_86
          have a_r4_86 := E_159.1 _ _ a_r4_86
          have o_r0_1 := E_159.1 _ _ o_r0_1
          have a_r2_51 := E_159.1 _ _ a_r2_51
          have a_r3_51 := E_159.1 _ _ a_r3_51
          have o_b1 := E_159.1 _ _ o_b1
          have o_b2 := E_159.1 _ _ o_b2
          refine lv_iconst (v := 0) hx hb dX1_firstFault_78 (by decide) ?_
          refine lv_istore (lv' := [(4, .int 0), (0, .ref h0), (3, .int v3_77)]) hx hb dX1_firstFault_79 hl (by decide) rfl (fun ls hl => ?_)
          have J_81 : ∀ (n9 : Nat) (v4_162 : Int32) (dc_81_5 : Nat) (ds_81_5 : Nat) (ws_164 : va_W) (H : Heap) (locs : List Loc) (ls : Array Slot), (2147483647 - v4_162.toInt).toNat = n9 → 0 ≤ v4_162.toInt → gE ws_158 ws_164 → gF [(1, 5), (1, 6), (1, 7)] [(1, 1), (1, 2), (1, 3), (1, 4)] none ws_158 ws_164 → Good g ws_164 → dc_81_5 + PC ws_164 ≤ PC ws + (0) → ds_81_5 + PS ws_164 ≤ PS ws + (0) → va_P (gD g) cl0 ws_164 H → va_D A ws_164 → va_S A s.heap H locs → lv_has ls 5 [(0, .ref h0), (3, .int v3_77), (4, .int v4_162)] → W p l e (headSpec (wt yX1_firstFault cX1_firstFault 5 (some .int)) ({ frames := 6, cells := PC ws + (3), slots := PS ws + (3888), locals := 133 })).room s m ([.ref h0, .ref b1, .ref b2] : List Value).toArray below meth c H locs (dc_81_5) (ds_81_5) (MQ below (va_Qi (fun (r : Int32) (u9 : va_W) => True) (gQ2 g [(1, 1), (1, 2), (1, 3), (1, 5), (1, 6), (1, 7), (1, 8), (1, 9), (4, 0), (4, 1), (4, 2), (4, 3), (4, 4), (4, 5), (4, 6), (4, 7), (7, 12), (7, 13), (7, 14)] [(1, 1), (1, 2), (1, 3), (1, 4), (4, 0), (4, 1), (4, 2), (7, 12), (7, 13), (7, 14)] none A ws s.heap (3) (3888)) A) ([.ref h0, .ref b1, .ref b2] : List Value).toArray s (PC ws + (3)) (PS ws + (3888)) A) (F0 m 81 ls []) := by
            intro n9
            induction n9 using Nat.strongRecOn with
            | ind n9 ih_81 =>
              intro v4_162 dc_81_5 ds_81_5 ws_164 H locs ls hm9 iv_163 E_165 Fr_166 hG hc9 hs9 hP hD hS hl
              subst hm9
              have aa_167 := a_r1_86
              have aa_168 := a_r2_51
              have aa_169 := a_r3_51
              have aa_170 := a_r4_86
              have o_h0 := E_165.1 _ _ o_h0
              refine lv_iload hx hb dX1_firstFault_81 (lv_at hl 2 rfl) ?_
              refine lv_aload_n hx hb dX1_firstFault_83 rfl (lv_at hl 0 rfl) ?_
              obtain ⟨fs9, hk_171, hq_171⟩ := ((gF.a (F' := [(1, 5), (1, 6), (1, 7)]) Fr_166 (fun _ h => h))) _ _ _ hk_86
              obtain ⟨r0_171, r1_171, n1_171, r2_171, n2_171, r3_171, n3_171, r4_171, n4_171, c5_171, c6_171, c7_171, v8_171, v9_171, rfl, o_r0_171, a_r1_171, f2_171, a_r2_171, f4_171, a_r3_171, f6_171, a_r4_171, f8_171, hz_c6_171, hz_c7_171, o_v8_171, o_v9_171, f13_171, f14_171, f15_171, f16_171, -⟩ := (hG.1 _ _ _ _ hk_171).hX1 rfl
              obtain rfl := fe_r (hq_171 0 (by decide))
              have o_r0_1 := o_r0_171
              obtain rfl := fe_r (hq_171 2 (by decide))
              have hn9 := gI_n hD ((E_165).1 _ _ aa_168) a_r2_171
              subst hn9
              have a_r2_51 := a_r2_171
              obtain rfl := fe_r (hq_171 3 (by decide))
              have hn9 := gI_n hD ((E_165).1 _ _ aa_169) a_r3_171
              subst hn9
              have a_r3_51 := a_r3_171
              have hn9 := fe_qr (hq_171 8 (by decide))
              subst hn9
              have o_b1 := o_v8_171 _ rfl
              have hn9 := fe_qr (hq_171 9 (by decide))
              subst hn9
              have o_b2 := o_v9_171 _ rfl
              refine va_get (D := gD g) (ci := 1) (v := .ref b2) (C := RX1) (T := TX1) (N := 10) hx hb hts inX1 hown hK hP k_1 hk_171 rfl 9 (by decide) (hts _ kw_479) (fun _ h9 => h9) rfl dX1_firstFault_84 ?_
              obtain ⟨fs9, hk_172, hq_172⟩ := ((gA.tr (gF.a (F' := [(1, 5), (1, 6), (1, 7)]) Fr_56 (by decide)) (gA.tr (gF.a (F' := [(1, 5), (1, 6), (1, 7)]) Fr_75 (by decide)) (gA.tr (gF.a (F' := [(1, 5), (1, 6), (1, 7)]) Fr_81 (fun _ h => h)) (gA.tr (gF.a (F' := [(1, 5), (1, 6), (1, 7)]) Fr_160 (by decide)) (gF.a (F' := [(1, 5), (1, 6), (1, 7)]) Fr_166 (fun _ h => h))))))) _ _ _ hk_53
              obtain ⟨r0_172, n0_172, r1_172, n1_172, c2_172, r3_172, n3_172, c4_172, r5_172, n5_172, r6_172, n6_172, r7_172, n7_172, r8_172, n8_172, c9_172, c10_172, c11_172, v12_172, v13_172, v14_172, rfl, a_r0_172, f1_172, a_r1_172, f3_172, a_r3_172, f5_172, a_r5_172, f7_172, a_r6_172, f9_172, a_r7_172, f11_172, a_r8_172, f13_172, o_v12_172, o_v13_172, o_v14_172, f17_172, f18_172, f19_172, f20_172, f21_172, f22_172, f23_172, f24_172, f25_172, f26_172, f27_172, f28_172, f29_172, -⟩ := (hG.1 _ _ _ _ hk_172).hX8 rfl
              obtain rfl := fe_i (hq_172 2 (by decide))
              obtain rfl := fe_i (hq_172 10 (by decide))
              refine va_get (D := gD g) (ci := 7) (v := .int c2_12) (C := RX8) (T := TX8) (N := 15) hx hb hts inX8 hown hK hP k_12 hk_172 rfl 2 (by decide) (hts _ kw_491) (fun _ h9 => h9) rfl dX1_firstFault_87 ?_
              refine lv_icmp_ge (tgt := 123) hx hb dX1_firstFault_90 (by decide) (fun c_173 => ?_) (fun c_173 => ?_)
              · obtain ⟨z_174, ez_174⟩ : ∃ z : Int32, v3_77 + Int32.ofInt 1 = z := ⟨_, rfl⟩
                refine lv_iinc (v := z_174) (lv' := [(3, .int z_174), (0, .ref h0), (4, .int v4_162)]) hx hb dX1_firstFault_123 hl (k := 1) rfl ez_174 (by decide) rfl (fun ls hl => ?_)
                refine lv_goto (tgt := 60) hx hb dX1_firstFault_126 (by decide) ?_
                exact ih_60 _ (by have e1000000 : (1000000 : Int32).toInt = 1000000 := (by decide); obtain ⟨u_z_174, q_z_174⟩ := i_iz ez_174 (by decide) (by decide); have q_iv_78 := iv_78; have q_c_156 := i_nle c_156; have g_v3_77 := i_rg v3_77; have g_z_174 := i_rg z_174; omega) (z_174) (dc_81_5) (ds_81_5) ws_164 H locs ls rfl (by have e1000000 : (1000000 : Int32).toInt = 1000000 := (by decide); obtain ⟨u_z_174, q_z_174⟩ := i_iz ez_174 (by decide) (by decide); have q_iv_78 := iv_78; have q_c_156 := i_nle c_156; have g_v3_77 := i_rg v3_77; have g_z_174 := i_rg z_174; omega) ((E_80.tr (E_159.tr E_165))) ((gF.tr Fr_81 (gF.tr (gF.mo (F' := [(1, 5), (1, 6), (1, 7)]) (C' := [(1, 1), (1, 2), (1, 3), (1, 4)]) (S' := none) Fr_160 (by decide) (fun _ h => absurd h List.not_mem_nil) (Or.inl rfl)) Fr_166))) hG (by omega) (by omega) hP hD hS (lv_sub hl [1, 0] rfl)
              · refine lv_aload_n hx hb dX1_firstFault_93 rfl (lv_at hl 0 rfl) ?_
                refine va_get (D := gD g) (ci := 1) (v := .ref r3_51) (C := RX1) (T := TX1) (N := 10) hx hb hts inX1 hown hK hP k_1 hk_171 rfl 3 (by decide) (hts _ kw_497) (fun _ h9 => h9) rfl dX1_firstFault_94 ?_
                refine lv_iload hx hb dX1_firstFault_97 (lv_at hl 2 rfl) ?_
                obtain ⟨k_175, f_175, hk_175⟩ := gI_of a_r3_51
                refine va_zald hx hb hK hP k_175 2 hk_175 rfl (i_in2 (by have q_f6_51 := f6_51; have q_f14_51 := f14_51; have q_iv_163 := iv_163; have q_c_173 := i_nle c_173; have q_f19_12 := f19_12; have q_f20_12 := f20_12; have q_f20_32 := f20_32; have q_f4_51 := f4_51; have q_f15_51 := f15_51; have q_f16_51 := f16_51; have q_kq_52 := kq_52; have q_f20_53 := f20_53; have q_f15_71 := f15_71; have q_f15_86 := f15_86; have q_f15_171 := f15_171; have q_f20_172 := f20_172; have g_c2_12 := i_rg c2_12; have g_v4_162 := i_rg v4_162; omega)) dX1_firstFault_99 ?_
                refine lv_topi (fun z_176 ez_176 => ?_)
                have J_117 : ∀ (dc_117_6 : Nat) (ds_117_6 : Nat) (ws_177 : va_W) (H : Heap) (locs : List Loc) (ls : Array Slot), gE ws_164 ws_177 → gF [(1, 5), (1, 6), (1, 7)] [(1, 1), (1, 2), (1, 3), (1, 4)] none ws_164 ws_177 → Good g ws_177 → dc_117_6 + PC ws_177 ≤ PC ws + (0) → ds_117_6 + PS ws_177 ≤ PS ws + (0) → va_P (gD g) cl0 ws_177 H → va_D A ws_177 → va_S A s.heap H locs → lv_has ls 5 [(0, .ref h0), (3, .int v3_77), (4, .int v4_162)] → W p l e (headSpec (wt yX1_firstFault cX1_firstFault 5 (some .int)) ({ frames := 6, cells := PC ws + (3), slots := PS ws + (3888), locals := 133 })).room s m ([.ref h0, .ref b1, .ref b2] : List Value).toArray below meth c H locs (dc_117_6) (ds_117_6) (MQ below (va_Qi (fun (r : Int32) (u9 : va_W) => True) (gQ2 g [(1, 1), (1, 2), (1, 3), (1, 5), (1, 6), (1, 7), (1, 8), (1, 9), (4, 0), (4, 1), (4, 2), (4, 3), (4, 4), (4, 5), (4, 6), (4, 7), (7, 12), (7, 13), (7, 14)] [(1, 1), (1, 2), (1, 3), (1, 4), (4, 0), (4, 1), (4, 2), (7, 12), (7, 13), (7, 14)] none A ws s.heap (3) (3888)) A) ([.ref h0, .ref b1, .ref b2] : List Value).toArray s (PC ws + (3)) (PS ws + (3888)) A) (F0 m 117 ls []) := by
                  intro dc_117_6 ds_117_6 ws_177 H locs ls  E_178 Fr_179 hG hc9 hs9 hP hD hS hl
                  have aa_180 := a_r1_171
                  have aa_181 := a_r2_51
                  have aa_182 := a_r3_51
                  have aa_183 := a_r4_171
                  have aa_184 := a_r0_172
                  have aa_185 := a_r1_172
                  have aa_186 := a_r3_172
                  have aa_187 := a_r5_172
                  have aa_188 := a_r6_172
                  have aa_189 := a_r7_172
                  have aa_190 := a_r8_172
                  have o_h0 := E_178.1 _ _ o_h0
                  obtain ⟨z_191, ez_191⟩ : ∃ z : Int32, v4_162 + Int32.ofInt 1 = z := ⟨_, rfl⟩
                  refine lv_iinc (v := z_191) (lv' := [(4, .int z_191), (0, .ref h0), (3, .int v3_77)]) hx hb dX1_firstFault_117 hl (k := 2) rfl ez_191 (by decide) rfl (fun ls hl => ?_)
                  refine lv_goto (tgt := 81) hx hb dX1_firstFault_120 (by decide) ?_
                  exact ih_81 _ (by obtain ⟨u_z_191, q_z_191⟩ := i_iz ez_191 (by decide) (by decide); have q_iv_163 := iv_163; have q_c_173 := i_nle c_173; have g_c2_12 := i_rg c2_12; have g_v4_162 := i_rg v4_162; have g_z_191 := i_rg z_191; omega) (z_191) (dc_117_6) (ds_117_6) ws_177 H locs ls rfl (by obtain ⟨u_z_191, q_z_191⟩ := i_iz ez_191 (by decide) (by decide); have q_iv_163 := iv_163; have q_c_173 := i_nle c_173; have g_c2_12 := i_rg c2_12; have g_v4_162 := i_rg v4_162; have g_z_191 := i_rg z_191; omega) ((E_165.tr E_178)) ((gF.tr Fr_166 Fr_179)) hG (by omega) (by omega) hP hD hS (lv_sub hl [1, 2, 0] rfl)
                refine lv_if_eq (tgt := 117) hx hb dX1_firstFault_100 (by decide) (fun c_192 => ?_) (fun c_192 => ?_)
                · exact J_117 (dc_81_5) (ds_81_5) ws_164 H locs ls (gE.rf) (gF.rf) hG (by omega) (by omega) hP hD hS (lv_sub hl [0, 1, 2] rfl)
                · refine lv_aload_n hx hb dX1_firstFault_103 rfl (lv_at hl 0 rfl) ?_
                  refine va_get (D := gD g) (ci := 1) (v := .ref r3_51) (C := RX1) (T := TX1) (N := 10) hx hb hts inX1 hown hK hP k_1 hk_171 rfl 3 (by decide) (hts _ kw_497) (fun _ h9 => h9) rfl dX1_firstFault_104 ?_
                  refine lv_iload hx hb dX1_firstFault_107 (lv_at hl 2 rfl) ?_
                  refine lv_iconst (v := 0) hx hb dX1_firstFault_109 (by decide) ?_
                  have hC9 : hol ws_164 r3_51 [(1, 3)] := (hol_u hG.u hk_171 (j := 3) rfl a_r3_51 (by decide))
                  have hS9 : holS ws_164 r3_51 none := holS_n
                  refine va_zast hx hb hK hP hD hS k_175 2 hk_175 rfl (i_in2 (by have q_f6_51 := f6_51; have q_f14_51 := f14_51; have q_iv_163 := iv_163; have q_c_173 := i_nle c_173; have q_f19_12 := f19_12; have q_f20_12 := f20_12; have q_f20_32 := f20_32; have q_f4_51 := f4_51; have q_f15_51 := f15_51; have q_f16_51 := f16_51; have q_kq_52 := kq_52; have q_f20_53 := f20_53; have q_f15_71 := f15_71; have q_f15_86 := f15_86; have q_f15_171 := f15_171; have q_f20_172 := f20_172; have g_c2_12 := i_rg c2_12; have g_v4_162 := i_rg v4_162; omega)) dX1_firstFault_110 (fun H locs hP hD hS => ?_)
                  obtain ⟨ws_193, e_ws_193⟩ : ∃ z, z = ws_164.set k_175 (r3_51, .inl (g.cZ, n3_51, .inl (upd f_175 (v4_162 : Int32).toNatClampNeg (vp_nar .boolean 0)))) := ⟨_, rfl⟩
                  have hP : va_P (gD g) cl0 ws_193 H := by rw [e_ws_193]; exact hP
                  have hD : va_D A ws_193 := by rw [e_ws_193]; exact hD
                  have E_194 : gE ws_164 ws_193 := gE_ari e_ws_193 hk_175
                  have hG : Good g ws_193 := Good_arZ e_ws_193 hk_175 hG
                  have Fr_195 : gF [] [(1, 3)] none ws_164 ws_193 := gF_ar e_ws_193 hk_175 rfl hC9 hS9
                  have pp_196 := Fr_195.pp
                  have hk_171 := gset_arO e_ws_193 hk_175 hk_171
                  have hk_172 := gset_arO e_ws_193 hk_175 hk_172
                  have o_h0 := E_194.1 _ _ o_h0
                  have a_r1_171 := E_194.1 _ _ a_r1_171
                  have a_r4_171 := E_194.1 _ _ a_r4_171
                  have o_r0_1 := E_194.1 _ _ o_r0_1
                  have a_r2_51 := E_194.1 _ _ a_r2_51
                  have a_r3_51 := E_194.1 _ _ a_r3_51
                  have o_b1 := E_194.1 _ _ o_b1
                  have o_b2 := E_194.1 _ _ o_b2
                  have a_r0_172 := E_194.1 _ _ a_r0_172
                  have a_r1_172 := E_194.1 _ _ a_r1_172
                  have a_r3_172 := E_194.1 _ _ a_r3_172
                  have a_r5_172 := E_194.1 _ _ a_r5_172
                  have a_r6_172 := E_194.1 _ _ a_r6_172
                  have a_r7_172 := E_194.1 _ _ a_r7_172
                  have a_r8_172 := E_194.1 _ _ a_r8_172
                  have o_v12_172 : ∀ b, v12_172 = some b → ∃ n, gI ws_193 b g.cB n ∧ n < 2147483648 := fun b h => (o_v12_172 b h).imp (fun n h => ⟨E_194.1 _ _ h.1, h.2⟩)
                  have o_v13_172 : ∀ b, v13_172 = some b → ∃ n, gJ ws_193 b g.cL n ∧ n < 2147483648 := fun b h => (o_v13_172 b h).imp (fun n h => ⟨E_194.1 _ _ h.1, h.2⟩)
                  have o_v14_172 : ∀ b, v14_172 = some b → ∃ n, gJ ws_193 b g.cL n ∧ n < 2147483648 := fun b h => (o_v14_172 b h).imp (fun n h => ⟨E_194.1 _ _ h.1, h.2⟩)
                  refine lv_aload_n hx hb dX1_firstFault_111 rfl (lv_at hl 0 rfl) ?_
                  refine lv_iload hx hb dX1_firstFault_112 (lv_at hl 2 rfl) ?_
                  have hFc := gfree hD hS hA
                  refine va_callv (va_runV (As := [.int v4_162]) (rest := []) ⟨hx, hb, hml, hown, hts⟩ (m_X1_flowFrom l g H.size ws_193 h0 (v4_162) hG o_h0 (gN_of hD hk_171 (j := 8) rfl) (gN_of hD hk_171 (j := 9) rfl) (gP_of hD hk_171 (fun p90 q90 e90 g90 => by cases e90; have z90 := gI_n hD a_r2_51 g90; subst z90; exact (by have q_f4_51 := f4_51; have q_f14_51 := f14_51; have q_f15_51 := f15_51; have q_f16_51 := f16_51; have q_kq_52 := kq_52; have q_f15_71 := f15_71; have q_f15_86 := f15_86; have q_iv_163 := iv_163; have q_f15_171 := f15_171; have q_c_173 := i_nle c_173; have q_f19_12 := f19_12; have q_f20_12 := f20_12; have q_f20_32 := f20_32; have q_f2_51 := f2_51; have q_f6_51 := f6_51; have q_f20_53 := f20_53; have q_f2_71 := f2_71; have q_f2_86 := f2_86; have q_f2_171 := f2_171; have q_f20_172 := f20_172; have g_c2_12 := i_rg c2_12; have g_v4_162 := i_rg v4_162; omega))) (fun k9 k8 b9 fs gs e1 e2 e3 q0 e40 p90 m90 e50 g90 => by obtain rfl := gO_un hD hk_171 e1; cases e2; obtain rfl := gO_un hD hk_172 e3; cases e40; cases e50; have z90 := gI_n hD a_r2_51 g90; subst z90; exact (by have q_f19_12 := f19_12; have q_f20_12 := f20_12; have q_f20_32 := f20_32; have q_f4_51 := f4_51; have q_f14_51 := f14_51; have q_f15_51 := f15_51; have q_f16_51 := f16_51; have q_kq_52 := kq_52; have q_f20_53 := f20_53; have q_f15_71 := f15_71; have q_f15_86 := f15_86; have q_f15_171 := f15_171; have q_f20_172 := f20_172; have q_c_173 := i_nle c_173; have q_f1_12 := f1_12; have q_f17_12 := f17_12; have q_f18_12 := f18_12; have q_f1_32 := f1_32; have q_f17_32 := f17_32; have q_f18_32 := f18_32; have q_f2_51 := f2_51; have q_f6_51 := f6_51; have q_f1_53 := f1_53; have q_f17_53 := f17_53; have q_f18_53 := f18_53; have q_f2_71 := f2_71; have q_f2_86 := f2_86; have q_iv_163 := iv_163; have q_f2_171 := f2_171; have q_f1_172 := f1_172; have q_f17_172 := f17_172; have q_f18_172 := f18_172; have g_c2_12 := i_rg c2_12; have g_v4_162 := i_rg v4_162; omega)) (by have q_iv_163 := iv_163; have q_c_173 := i_nle c_173; have q_f19_12 := f19_12; have q_f20_12 := f20_12; have q_f20_32 := f20_32; have q_kq_52 := kq_52; have q_f20_53 := f20_53; have q_f20_172 := f20_172; have g_c2_12 := i_rg c2_12; have g_v4_162 := i_rg v4_162; omega)) (cwV 1 hts (gd_V kw_507 kw_511 kw_512 kw_392 kw_510) rfl rfl rfl (by decide +kernel) ⟨Nat.le_of_ble_eq_true rfl, Nat.le_of_ble_eq_true rfl⟩) ⟨gblind, va_recv hK hP (ci := 1) (q0 := k_1) rfl hk_171, fun U hU hW9 => gmk hU hW9 hP hK hD hex hE hS hFc⟩ rfl rfl hl.1 rfl (lv_room (Nat.le_of_ble_eq_true rfl)) dX1_firstFault_114 ⟨(show dc_81_5 + 0 ≤ PC ws + (3) from (by omega)), (show ds_81_5 + 0 ≤ PS ws + (3888) from (by omega))⟩) hS (fun q _ h => hFc q h) hFc (fun  ws_197 t9 H1 locs ht9 hvm9 hw9 hB9 hz9 hk9 hS => ?_)
                  obtain ⟨E_198, Fr_199, hG, hP1, hD1⟩ := hB9
                  have hP : va_P (gD g) cl0 ws_197 H1 := by rw [← ht9]; exact hP1
                  have hD : va_D A ws_197 := hD1.weaken (fun _ _ _ h => hFc _ h)
                  clear hP1 hD1 hz9 hk9 hvm9 ht9 hw9
                  generalize H1 = H at hP hS ⊢
                  have aa_202 := a_r1_171
                  have aa_203 := a_r2_51
                  have aa_204 := a_r3_51
                  have aa_205 := a_r4_171
                  have aa_206 := a_r0_172
                  have aa_207 := a_r1_172
                  have aa_208 := a_r3_172
                  have aa_209 := a_r5_172
                  have aa_210 := a_r6_172
                  have aa_211 := a_r7_172
                  have aa_212 := a_r8_172
                  have o_h0 := E_198.1 _ _ o_h0
                  have pp_213 := Fr_199.pp
                  exact J_117 (dc_81_5) (ds_81_5) ws_197 H locs ls ((E_194.tr E_198)) ((gF.tr (gF.mo (F' := [(1, 5), (1, 6), (1, 7)]) (C' := [(1, 1), (1, 2), (1, 3), (1, 4)]) (S' := none) Fr_195 (fun _ h => absurd h List.not_mem_nil) (by decide) (Or.inr rfl)) Fr_199)) hG (by omega) (by omega) hP hD hS (lv_sub hl [0, 1, 2] rfl)
          exact J_81 _ (0) (dc_60_1) (ds_60_1) ws_158 H locs ls rfl (by have e0 : (0 : Int32).toInt = 0 := (by decide); omega) (gE.rf) (gF.rf) hG (by omega) (by omega) hP hD hS (lv_sub hl [1, 2, 0] rfl)
  exact J_60 _ (0) (0 + dc_18 + dc_37) (0 + ds_19 + ds_38) ws_73 H locs ls rfl (by have e0 : (0 : Int32).toInt = 0 := (by decide); omega) (gE.rf) (gF.rf) hG (by omega) (by omega) hP hD hS (lv_sub hl [1, 0] rfl)
set_option maxHeartbeats 1000000 in
set_option maxRecDepth 100000 in
theorem m_X1_firstFault_N (l : Launch) (g : Gm) (H0 : Heap) (ws : va_W) (h0 : Nat) (b1 : Nat) (hG : Good g ws) (o_h0 : gC ws h0 1) (o_b1 : gC ws b1 9) : Met l yX1_firstFault (wt yX1_firstFault cX1_firstFault 5 (some .int)) ({ frames := 0, cells := PC ws + (0), slots := PS ws + (0), locals := 0 }) (va_Pc [.ref h0, .ref b1, .null] (st_H g H0 ws)) (va_Qi (fun (r : Int32) (u9 : va_W) => True) (gQ2 g [(1, 1), (1, 2), (1, 3), (1, 5), (1, 6), (1, 7), (1, 8), (1, 9), (4, 0), (4, 1), (4, 2), (4, 3), (4, 4), (4, 5), (4, 6), (4, 7), (7, 12), (7, 13), (7, 14)] [(1, 1), (1, 2), (1, 3), (1, 4), (4, 0), (4, 1), (4, 2), (7, 12), (7, 13), (7, 14)] none (va_A ws H0.size) ws H0 (0) (0)) (va_A ws H0.size)) (PC ws + (0)) (PS ws + (0)) (va_A ws H0.size) := by
  refine Met.ofW (cc := cX1_firstFault) (maxL := 5) (ret := (some .int)) (by decide) rfl ?_
  intro p e s m args below meth c s₁ B hml hv
  obtain ⟨rfl, hH0, hsz, hP, hK, hD0, hex, hE⟩ := hv
  have hx := B.exec
  have hb := B.bytes
  have hr := B.returns
  have hts0 := atoms_spec (ws := wt yX1_firstFault cX1_firstFault 5 (some .int)) B.pre
  have hts : ∀ w ∈ tb, w.before _ s = true := fun w h => hts0 w (List.mem_cons_of_mem _ h)
  have hown : s.vm.findClass RX1 = some m.cls := findClass_of_methodNamed B.named
  subst hH0
  have hD := hD0.self (sz := s.heap.size)
  generalize hAe : va_A ws s.heap.size = A at hD hE ⊢
  have hA : ∀ q : Nat, s.heap.size ≤ q → A q := fun q h => by rw [← hAe]; exact Or.inr h
  have hS : va_S A s.heap s.heap [] := va_S.rf
  have hl := lv_entry ([.ref h0, .ref b1, .null]) (n := 5) (Nat.le_of_ble_eq_true rfl)
  rw [lg_entry_eq]
  generalize (lg_sl ([.ref h0, .ref b1, .null]) ++ List.replicate (5 - (lg_sl ([.ref h0, .ref b1, .null])).length) Slot.unset).toArray = ls at hl ⊢
  have hl : lv_has ls 5 [(0, .ref h0), (1, .ref b1), (2, .null)] := hl
  refine lv_aload_nN hx hb dX1_firstFault_0 rfl (lv_at hl 2 rfl) ?_
  refine lv_ifnonnullN hx hb dX1_firstFault_1 ?_
  refine lv_iconst (v := (-1)) hx hb dX1_firstFault_4 (by decide) ?_
  refine W_led (fun hLd => ?_)
  have hcl : 0 + PC ws ≤ PC ws + (0) := (by have e0 : (0 : Int32).toInt = 0 := (by decide); omega)
  have hsl : 0 + PS ws ≤ PS ws + (0) := (by have e0 : (0 : Int32).toInt = 0 := (by decide); omega)
  refine W.widen (k := PC ws + (0)) (n := PS ws + (0)) (by omega) (by omega) ?_
  exact W.iret (v := (-1)) hx hb hr (fun t9 ht9 hW9 => ⟨⟨_, ws, rfl, trivial, ⟨gE.rf, gF.rf, hG, by rw [ht9]; exact hP, hD, _, _, by rw [ht9]; exact hLd, hcl, hsl⟩⟩, hS.F ht9⟩) hS.2.2 dX1_firstFault_5
