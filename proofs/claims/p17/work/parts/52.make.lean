set_option maxHeartbeats 1000000 in
set_option maxRecDepth 100000 in
theorem m_X1_keepTypes (l : Launch) (g : Gm) (sz : Nat) (ws : va_W) (h0 : Nat) (hG : Good g ws) (o_h0 : gC ws h0 1) (nn_h0_9 : gN ws h0 9) (f2_c : ∀ (k k2 b : Nat) (fs gs : List Value), ows ws k h0 1 fs → fs[9]? = some (.ref b) → ows ws k2 b 7 gs → ∀ c : Int32, gs[2]? = some (.int c) → ∀ (rn n : Nat), fs[2]? = some (.ref rn) → gI ws rn g.cZ n → c.toInt ≤ n) : Met l yX1_keepTypes (wt yX1_keepTypes cX1_keepTypes 5 none) ({ frames := 2, cells := 3, slots := 3888, locals := 42 }) (va_Pc [.ref h0] (st_G g sz ws)) (va_Qv (fun (u9 : va_W) => True) (gQ1 g [(7, 12), (7, 13), (7, 14)] (va_A ws sz) ws) (va_A ws sz)) 3 3888 (va_A ws sz) := by
  refine Met.ofW (cc := cX1_keepTypes) (maxL := 5) (ret := none) (by decide) rfl ?_
  intro p e s m args below meth c s₁ B hml hv
  obtain ⟨rfl, hsz, hP, hK, hD0, hex, hE⟩ := hv
  have hx := B.exec
  have hb := B.bytes
  have hr := B.returns
  have hts0 := atoms_spec (ws := wt yX1_keepTypes cX1_keepTypes 5 none) B.pre
  have hts : ∀ w ∈ tb, w.before _ s = true := fun w h => hts0 w (List.mem_cons_of_mem _ h)
  have hown : s.vm.findClass RX1 = some m.cls := findClass_of_methodNamed B.named
  subst hsz
  have hD := hD0.self (sz := s.heap.size)
  generalize hAe : va_A ws s.heap.size = A at hD hE ⊢
  have hA : ∀ q : Nat, s.heap.size ≤ q → A q := fun q h => by rw [← hAe]; exact Or.inr h
  have hS : va_S A s.heap s.heap [] := va_S.rf
  have hl := lv_entry ([.ref h0]) (n := 5) (Nat.le_of_ble_eq_true rfl)
  rw [lg_entry_eq]
  generalize (lg_sl ([.ref h0]) ++ List.replicate (5 - (lg_sl ([.ref h0])).length) Slot.unset).toArray = ls at hl ⊢
  have hl : lv_has ls 5 [(0, .ref h0)] := hl
  obtain ⟨k_1, fs9, hk_1⟩ := gC_of o_h0
  obtain ⟨r0_1, r1_1, n1_1, r2_1, n2_1, r3_1, n3_1, r4_1, n4_1, c5_1, c6_1, c7_1, v8_1, v9_1, rfl, o_r0_1, a_r1_1, f2_1, a_r2_1, f4_1, a_r3_1, f6_1, a_r4_1, f8_1, hz_c6_1, hz_c7_1, o_v8_1, o_v9_1, f13_1, f14_1, f15_1, f16_1, -⟩ := (hG.1 _ _ _ _ hk_1).hX1 rfl
  obtain ⟨b_2, hn9⟩ := nn_h0_9 _ _ _ hk_1
  have hn9 := fe_qr hn9
  subst hn9
  have o_b_2 := o_v9_1 _ rfl
  obtain ⟨k_3, fs9, hk_3⟩ := gC_of o_b_2
  obtain ⟨r0_3, n0_3, r1_3, n1_3, c2_3, r3_3, n3_3, c4_3, r5_3, n5_3, r6_3, n6_3, r7_3, n7_3, r8_3, n8_3, c9_3, c10_3, c11_3, v12_3, v13_3, v14_3, rfl, a_r0_3, f1_3, a_r1_3, f3_3, a_r3_3, f5_3, a_r5_3, f7_3, a_r6_3, f9_3, a_r7_3, f11_3, a_r8_3, f13_3, o_v12_3, o_v13_3, o_v14_3, f17_3, f18_3, f19_3, f20_3, f21_3, f22_3, f23_3, f24_3, f25_3, f26_3, f27_3, -⟩ := (hG.1 _ _ _ _ hk_3).hX8 rfl
  have fq2_c := f2_c _ _ _ _ _ hk_1 rfl hk_3 _ rfl _ _ rfl a_r2_1
  refine lv_aload_n hx hb dX1_keepTypes_0 rfl (lv_at hl 0 rfl) ?_
  refine va_get (D := gD g) (ci := 1) (v := .ref b_2) (C := RX1) (T := TX1) (N := 10) hx hb hts inX1 hown hK hP k_1 hk_1 rfl 9 (by decide) (hts _ kw_479) (fun _ h9 => h9) rfl dX1_keepTypes_1 ?_
  refine lv_aload_n hx hb dX1_keepTypes_4 rfl (lv_at hl 0 rfl) ?_
  refine va_get (D := gD g) (ci := 1) (v := .ref b_2) (C := RX1) (T := TX1) (N := 10) hx hb hts inX1 hown hK hP k_1 hk_1 rfl 9 (by decide) (hts _ kw_479) (fun _ h9 => h9) rfl dX1_keepTypes_5 ?_
  refine va_get (D := gD g) (ci := 7) (v := .int c2_3) (C := RX8) (T := TX8) (N := 15) hx hb hts inX8 hown hK hP k_3 hk_3 rfl 2 (by decide) (hts _ kw_491) (fun _ h9 => h9) rfl dX1_keepTypes_8 ?_
  obtain ⟨n_5, en_5⟩ : ∃ y : Nat, (c2_3 : Int32).toNatClampNeg = y := ⟨_, rfl⟩
  have bn_5 : n_5 ≤ 1296 := i_cl en_5 (by have q_f19_3 := f19_3; have q_f20_3 := f20_3; have q_fq2_c := fq2_c; have q_f4_1 := f4_1; have q_f14_1 := f14_1; have q_f15_1 := f15_1; have q_f16_1 := f16_1; have q_f1_3 := f1_3; have q_f17_3 := f17_3; have q_f18_3 := f18_3; have q_f2_1 := f2_1; have q_f6_1 := f6_1; have q_f3_3 := f3_3; have g_c2_3 := i_rg c2_3; omega)
  have zn_5 : 0 ≤ (c2_3 : Int32).toInt := (by have q_f19_3 := f19_3; have q_f20_3 := f20_3; have q_fq2_c := fq2_c; have q_f4_1 := f4_1; have q_f14_1 := f14_1; have q_f15_1 := f15_1; have q_f16_1 := f16_1; have q_f1_3 := f1_3; have q_f17_3 := f17_3; have q_f18_3 := f18_3; have q_f2_1 := f2_1; have q_f6_1 := f6_1; have q_f3_3 := f3_3; have g_c2_3 := i_rg c2_3; omega)
  refine va_newa (atype := .byte) (ty := .byte) (a0 := (n_5, .inl (fun _ => 0))) (N' := n_5) hx hb (hts (.arrayClass .byte) kw_11) rfl hK hP hD hS hA (fun _ => rfl) (i_nl0 zn_5) en_5 (i_by bn_5 (by decide)) (Nat.le_of_ble_eq_true rfl) (i_sl bn_5 (Nat.le_of_ble_eq_true rfl)) dX1_keepTypes_11 (fun q_4 cA9 H hK9 hP hD hS => ?_)
  obtain rfl := cls_new hK hK9 (k := 0) rfl (fun _ h => by cases h)
  clear hK9
  obtain ⟨ws_6, e_ws_6⟩ : ∃ z, z = ws ++ [(q_4, .inl (g.cB, n_5, .inl (fun _ => 0)))] := ⟨_, rfl⟩
  have hP : va_P (gD g) cl0 ws_6 H := by rw [e_ws_6]; exact hP
  have hD : va_D A ws_6 := by rw [e_ws_6]; exact hD
  have E_7 : gE ws ws_6 := by rw [e_ws_6]; exact gE_push
  have Fr_8 : gF [] ws ws_6 := by rw [e_ws_6]; exact gF_push
  have hG : Good g ws_6 := by rw [e_ws_6]; exact Good_pushI hG
  have a_q_4 : gI ws_6 q_4 g.cB n_5 := by rw [e_ws_6]; exact gS_new
  have s_q_4 : n_5 < 2147483648 := Nat.lt_of_le_of_lt bn_5 (by decide)
  have hk_1 := get_oldE e_ws_6 hk_1
  have hk_3 := get_oldE e_ws_6 hk_3
  have o_h0 := E_7 _ _ o_h0
  have o_r0_1 := E_7 _ _ o_r0_1
  have a_r1_1 := E_7 _ _ a_r1_1
  have a_r2_1 := E_7 _ _ a_r2_1
  have a_r3_1 := E_7 _ _ a_r3_1
  have a_r4_1 := E_7 _ _ a_r4_1
  have o_v8_1 : ∀ b, v8_1 = some b → gC ws_6 b 9 := fun b h => E_7 _ _ (o_v8_1 b h)
  have o_b_2 := E_7 _ _ o_b_2
  have a_r0_3 := E_7 _ _ a_r0_3
  have a_r1_3 := E_7 _ _ a_r1_3
  have a_r3_3 := E_7 _ _ a_r3_3
  have a_r5_3 := E_7 _ _ a_r5_3
  have a_r6_3 := E_7 _ _ a_r6_3
  have a_r7_3 := E_7 _ _ a_r7_3
  have a_r8_3 := E_7 _ _ a_r8_3
  have o_v12_3 : ∀ b, v12_3 = some b → ∃ n, gI ws_6 b g.cB n ∧ n < 2147483648 := fun b h => (o_v12_3 b h).imp (fun n h => ⟨E_7 _ _ h.1, h.2⟩)
  have o_v13_3 : ∀ b, v13_3 = some b → ∃ n, gJ ws_6 b g.cL n ∧ n < 2147483648 := fun b h => (o_v13_3 b h).imp (fun n h => ⟨E_7 _ _ h.1, h.2⟩)
  have o_v14_3 : ∀ b, v14_3 = some b → ∃ n, gJ ws_6 b g.cL n ∧ n < 2147483648 := fun b h => (o_v14_3 b h).imp (fun n h => ⟨E_7 _ _ h.1, h.2⟩)
  refine W.widen (k := 1) (n := 1296) (Nat.le_of_ble_eq_true rfl) (i_sl bn_5 (Nat.le_refl _)) ?_
  refine va_put (D := gD g) (ci := 7) (v := .ref q_4) (ty := (.array .byte)) (C := RX8) (T := TX8) (N := 15) hx hb hts inX8 tyX8 tyX8_ok nmX8 hown hK hP hD hS k_3 hk_3 rfl 12 (by decide) (hts _ kw_563) (fun _ h9 => h9) rfl (by decide +kernel) rfl rfl (Nat.le_of_ble_eq_true rfl) dX1_keepTypes_13 (fun H locs hP hD hS => ?_)
  have hi_9 : invX8 g ws_6 b_2 [.ref r0_3, .ref r1_3, .int c2_3, .ref r3_3, .int c4_3, .ref r5_3, .ref r6_3, .ref r7_3, .ref r8_3, .int c9_3, .int c10_3, .int c11_3, .ref q_4, va_rf v13_3, va_rf v14_3] := ⟨r0_3, (n0_3), r1_3, (n1_3), (c2_3), r3_3, (n3_3), (c4_3), r5_3, (n5_3), r6_3, (n6_3), r7_3, (n7_3), r8_3, (n8_3), (c9_3), (c10_3), (c11_3), (some q_4), v13_3, v14_3, rfl, a_r0_3, f1_3, a_r1_3, f3_3, a_r3_3, f5_3, a_r5_3, f7_3, a_r6_3, f9_3, a_r7_3, f11_3, a_r8_3, f13_3, (fun b h9 => by cases h9; exact ⟨_, a_q_4, s_q_4⟩), o_v13_3, o_v14_3, f17_3, f18_3, f19_3, f20_3, f21_3, f22_3, f23_3, f24_3, f25_3, f26_3, f27_3, trivial⟩
  obtain ⟨ws_10, e_ws_10⟩ : ∃ z, z = ws_6.set k_3 (b_2, .inr (7, [.ref r0_3, .ref r1_3, .int c2_3, .ref r3_3, .int c4_3, .ref r5_3, .ref r6_3, .ref r7_3, .ref r8_3, .int c9_3, .int c10_3, .int c11_3, .ref q_4, va_rf v13_3, va_rf v14_3])) := ⟨_, rfl⟩
  have hP : va_P (gD g) cl0 ws_10 H := by rw [e_ws_10]; exact hP
  have hD : va_D A ws_10 := by rw [e_ws_10]; exact hD
  have E_11 : gE ws_6 ws_10 := gE_set e_ws_10 hk_3 rfl
  have hG : Good g ws_10 := Good_set e_ws_10 hk_3 hG (ivX8 hi_9)
  have Fr_12 : gF [(7, 12)] ws_6 ws_10 := gF_put (fi := 12) (v := .ref q_4) e_ws_10 hk_3 rfl
  have hkN := gset_self e_ws_10 hk_3
  have hk_1 := gset_ob e_ws_10 hk_3 hk_1 (by decide)
  have hk_3 := hkN
  have o_h0 := E_11 _ _ o_h0
  have o_r0_1 := E_11 _ _ o_r0_1
  have a_r1_1 := E_11 _ _ a_r1_1
  have a_r2_1 := E_11 _ _ a_r2_1
  have a_r3_1 := E_11 _ _ a_r3_1
  have a_r4_1 := E_11 _ _ a_r4_1
  have o_v8_1 : ∀ b, v8_1 = some b → gC ws_10 b 9 := fun b h => E_11 _ _ (o_v8_1 b h)
  have o_b_2 := E_11 _ _ o_b_2
  have a_r0_3 := E_11 _ _ a_r0_3
  have a_r1_3 := E_11 _ _ a_r1_3
  have a_r3_3 := E_11 _ _ a_r3_3
  have a_r5_3 := E_11 _ _ a_r5_3
  have a_r6_3 := E_11 _ _ a_r6_3
  have a_r7_3 := E_11 _ _ a_r7_3
  have a_r8_3 := E_11 _ _ a_r8_3
  have o_v13_3 : ∀ b, v13_3 = some b → ∃ n, gJ ws_10 b g.cL n ∧ n < 2147483648 := fun b h => (o_v13_3 b h).imp (fun n h => ⟨E_11 _ _ h.1, h.2⟩)
  have o_v14_3 : ∀ b, v14_3 = some b → ∃ n, gJ ws_10 b g.cL n ∧ n < 2147483648 := fun b h => (o_v14_3 b h).imp (fun n h => ⟨E_11 _ _ h.1, h.2⟩)
  have a_q_4 := E_11 _ _ a_q_4
  refine lv_aload_n hx hb dX1_keepTypes_16 rfl (lv_at hl 0 rfl) ?_
  refine va_get (D := gD g) (ci := 1) (v := .ref b_2) (C := RX1) (T := TX1) (N := 10) hx hb hts inX1 hown hK hP k_1 hk_1 rfl 9 (by decide) (hts _ kw_479) (fun _ h9 => h9) rfl dX1_keepTypes_17 ?_
  refine lv_aload_n hx hb dX1_keepTypes_20 rfl (lv_at hl 0 rfl) ?_
  refine va_get (D := gD g) (ci := 1) (v := .ref b_2) (C := RX1) (T := TX1) (N := 10) hx hb hts inX1 hown hK hP k_1 hk_1 rfl 9 (by decide) (hts _ kw_479) (fun _ h9 => h9) rfl dX1_keepTypes_21 ?_
  refine va_get (D := gD g) (ci := 7) (v := .int c2_3) (C := RX8) (T := TX8) (N := 15) hx hb hts inX8 hown hK hP k_3 hk_3 rfl 2 (by decide) (hts _ kw_491) (fun _ h9 => h9) rfl dX1_keepTypes_24 ?_
  obtain ⟨n_14, en_14⟩ : ∃ y : Nat, (c2_3 : Int32).toNatClampNeg = y := ⟨_, rfl⟩
  have bn_14 : n_14 ≤ 1296 := i_cl en_14 (by have q_f19_3 := f19_3; have q_f20_3 := f20_3; have q_fq2_c := fq2_c; have q_n_5 := i_nn en_5 zn_5; have q_f4_1 := f4_1; have q_f14_1 := f14_1; have q_f15_1 := f15_1; have q_f16_1 := f16_1; have q_f1_3 := f1_3; have q_f17_3 := f17_3; have q_f18_3 := f18_3; have q2_n_5 := bn_5; have q_f2_1 := f2_1; have q_f6_1 := f6_1; have q_f3_3 := f3_3; have g_c2_3 := i_rg c2_3; omega)
  have zn_14 : 0 ≤ (c2_3 : Int32).toInt := (by have q_f19_3 := f19_3; have q_f20_3 := f20_3; have q_fq2_c := fq2_c; have q_n_5 := i_nn en_5 zn_5; have q_f4_1 := f4_1; have q_f14_1 := f14_1; have q_f15_1 := f15_1; have q_f16_1 := f16_1; have q_f1_3 := f1_3; have q_f17_3 := f17_3; have q_f18_3 := f18_3; have q2_n_5 := bn_5; have q_f2_1 := f2_1; have q_f6_1 := f6_1; have q_f3_3 := f3_3; have g_c2_3 := i_rg c2_3; omega)
  refine va_newa (atype := .long) (ty := .long) (a0 := (n_14, .inr (.inl (fun _ => 0)))) (N' := n_14) hx hb (hts (.arrayClass .long) kw_564) rfl hK hP hD hS hA (fun _ => rfl) (i_nl0 zn_14) en_14 (i_by bn_14 (by decide)) (Nat.le_of_ble_eq_true rfl) (i_sl bn_14 (Nat.le_of_ble_eq_true rfl)) dX1_keepTypes_27 (fun q_13 cA9 H hK9 hP hD hS => ?_)
  obtain rfl := cls_new hK hK9 (k := 3) rfl (fun _ h => by cases h)
  clear hK9
  obtain ⟨ws_15, e_ws_15⟩ : ∃ z, z = ws_10 ++ [(q_13, .inl (g.cL, n_14, .inr (.inl (fun _ => 0))))] := ⟨_, rfl⟩
  have hP : va_P (gD g) cl0 ws_15 H := by rw [e_ws_15]; exact hP
  have hD : va_D A ws_15 := by rw [e_ws_15]; exact hD
  have E_16 : gE ws_10 ws_15 := by rw [e_ws_15]; exact gE_push
  have Fr_17 : gF [] ws_10 ws_15 := by rw [e_ws_15]; exact gF_push
  have hG : Good g ws_15 := by rw [e_ws_15]; exact Good_pushJ hG
  have a_q_13 : gJ ws_15 q_13 g.cL n_14 := by rw [e_ws_15]; exact gS_new
  have s_q_13 : n_14 < 2147483648 := Nat.lt_of_le_of_lt bn_14 (by decide)
  have hk_1 := get_oldE e_ws_15 hk_1
  have hk_3 := get_oldE e_ws_15 hk_3
  have o_h0 := E_16 _ _ o_h0
  have o_r0_1 := E_16 _ _ o_r0_1
  have a_r1_1 := E_16 _ _ a_r1_1
  have a_r2_1 := E_16 _ _ a_r2_1
  have a_r3_1 := E_16 _ _ a_r3_1
  have a_r4_1 := E_16 _ _ a_r4_1
  have o_v8_1 : ∀ b, v8_1 = some b → gC ws_15 b 9 := fun b h => E_16 _ _ (o_v8_1 b h)
  have o_b_2 := E_16 _ _ o_b_2
  have a_r0_3 := E_16 _ _ a_r0_3
  have a_r1_3 := E_16 _ _ a_r1_3
  have a_r3_3 := E_16 _ _ a_r3_3
  have a_r5_3 := E_16 _ _ a_r5_3
  have a_r6_3 := E_16 _ _ a_r6_3
  have a_r7_3 := E_16 _ _ a_r7_3
  have a_r8_3 := E_16 _ _ a_r8_3
  have o_v13_3 : ∀ b, v13_3 = some b → ∃ n, gJ ws_15 b g.cL n ∧ n < 2147483648 := fun b h => (o_v13_3 b h).imp (fun n h => ⟨E_16 _ _ h.1, h.2⟩)
  have o_v14_3 : ∀ b, v14_3 = some b → ∃ n, gJ ws_15 b g.cL n ∧ n < 2147483648 := fun b h => (o_v14_3 b h).imp (fun n h => ⟨E_16 _ _ h.1, h.2⟩)
  have a_q_4 := E_16 _ _ a_q_4
  refine W.widen (k := 2) (n := 2592) (Nat.le_of_ble_eq_true rfl) (i_sl bn_14 (Nat.le_refl _)) ?_
  refine va_put (D := gD g) (ci := 7) (v := .ref q_13) (ty := (.array .long)) (C := RX8) (T := TX8) (N := 15) hx hb hts inX8 tyX8 tyX8_ok nmX8 hown hK hP hD hS k_3 hk_3 rfl 13 (by decide) (hts _ kw_565) (fun _ h9 => h9) rfl (by decide +kernel) rfl rfl (Nat.le_of_ble_eq_true rfl) dX1_keepTypes_29 (fun H locs hP hD hS => ?_)
  have hi_18 : invX8 g ws_15 b_2 [.ref r0_3, .ref r1_3, .int c2_3, .ref r3_3, .int c4_3, .ref r5_3, .ref r6_3, .ref r7_3, .ref r8_3, .int c9_3, .int c10_3, .int c11_3, .ref q_4, .ref q_13, va_rf v14_3] := ⟨r0_3, (n0_3), r1_3, (n1_3), (c2_3), r3_3, (n3_3), (c4_3), r5_3, (n5_3), r6_3, (n6_3), r7_3, (n7_3), r8_3, (n8_3), (c9_3), (c10_3), (c11_3), (some q_4), (some q_13), v14_3, rfl, a_r0_3, f1_3, a_r1_3, f3_3, a_r3_3, f5_3, a_r5_3, f7_3, a_r6_3, f9_3, a_r7_3, f11_3, a_r8_3, f13_3, (fun b h9 => by cases h9; exact ⟨_, a_q_4, s_q_4⟩), (fun b h9 => by cases h9; exact ⟨_, a_q_13, s_q_13⟩), o_v14_3, f17_3, f18_3, f19_3, f20_3, f21_3, f22_3, f23_3, f24_3, f25_3, f26_3, f27_3, trivial⟩
  obtain ⟨ws_19, e_ws_19⟩ : ∃ z, z = ws_15.set k_3 (b_2, .inr (7, [.ref r0_3, .ref r1_3, .int c2_3, .ref r3_3, .int c4_3, .ref r5_3, .ref r6_3, .ref r7_3, .ref r8_3, .int c9_3, .int c10_3, .int c11_3, .ref q_4, .ref q_13, va_rf v14_3])) := ⟨_, rfl⟩
  have hP : va_P (gD g) cl0 ws_19 H := by rw [e_ws_19]; exact hP
  have hD : va_D A ws_19 := by rw [e_ws_19]; exact hD
  have E_20 : gE ws_15 ws_19 := gE_set e_ws_19 hk_3 rfl
  have hG : Good g ws_19 := Good_set e_ws_19 hk_3 hG (ivX8 hi_18)
  have Fr_21 : gF [(7, 13)] ws_15 ws_19 := gF_put (fi := 13) (v := .ref q_13) e_ws_19 hk_3 rfl
  have hkN := gset_self e_ws_19 hk_3
  have hk_1 := gset_ob e_ws_19 hk_3 hk_1 (by decide)
  have hk_3 := hkN
  have o_h0 := E_20 _ _ o_h0
  have o_r0_1 := E_20 _ _ o_r0_1
  have a_r1_1 := E_20 _ _ a_r1_1
  have a_r2_1 := E_20 _ _ a_r2_1
  have a_r3_1 := E_20 _ _ a_r3_1
  have a_r4_1 := E_20 _ _ a_r4_1
  have o_v8_1 : ∀ b, v8_1 = some b → gC ws_19 b 9 := fun b h => E_20 _ _ (o_v8_1 b h)
  have o_b_2 := E_20 _ _ o_b_2
  have a_r0_3 := E_20 _ _ a_r0_3
  have a_r1_3 := E_20 _ _ a_r1_3
  have a_r3_3 := E_20 _ _ a_r3_3
  have a_r5_3 := E_20 _ _ a_r5_3
  have a_r6_3 := E_20 _ _ a_r6_3
  have a_r7_3 := E_20 _ _ a_r7_3
  have a_r8_3 := E_20 _ _ a_r8_3
  have o_v14_3 : ∀ b, v14_3 = some b → ∃ n, gJ ws_19 b g.cL n ∧ n < 2147483648 := fun b h => (o_v14_3 b h).imp (fun n h => ⟨E_20 _ _ h.1, h.2⟩)
  have a_q_4 := E_20 _ _ a_q_4
  have a_q_13 := E_20 _ _ a_q_13
  refine lv_aload_n hx hb dX1_keepTypes_32 rfl (lv_at hl 0 rfl) ?_
  refine va_get (D := gD g) (ci := 1) (v := .ref b_2) (C := RX1) (T := TX1) (N := 10) hx hb hts inX1 hown hK hP k_1 hk_1 rfl 9 (by decide) (hts _ kw_479) (fun _ h9 => h9) rfl dX1_keepTypes_33 ?_
  refine lv_aload_n hx hb dX1_keepTypes_36 rfl (lv_at hl 0 rfl) ?_
  refine va_get (D := gD g) (ci := 1) (v := .ref b_2) (C := RX1) (T := TX1) (N := 10) hx hb hts inX1 hown hK hP k_1 hk_1 rfl 9 (by decide) (hts _ kw_479) (fun _ h9 => h9) rfl dX1_keepTypes_37 ?_
  refine va_get (D := gD g) (ci := 7) (v := .int c2_3) (C := RX8) (T := TX8) (N := 15) hx hb hts inX8 hown hK hP k_3 hk_3 rfl 2 (by decide) (hts _ kw_491) (fun _ h9 => h9) rfl dX1_keepTypes_40 ?_
  obtain ⟨n_23, en_23⟩ : ∃ y : Nat, (c2_3 : Int32).toNatClampNeg = y := ⟨_, rfl⟩
  have bn_23 : n_23 ≤ 1296 := i_cl en_23 (by have q_f19_3 := f19_3; have q_f20_3 := f20_3; have q_fq2_c := fq2_c; have q_n_5 := i_nn en_5 zn_5; have q_n_14 := i_nn en_14 zn_14; have q_f4_1 := f4_1; have q_f14_1 := f14_1; have q_f15_1 := f15_1; have q_f16_1 := f16_1; have q_f1_3 := f1_3; have q_f17_3 := f17_3; have q_f18_3 := f18_3; have q2_n_5 := bn_5; have q2_n_14 := bn_14; have q_f2_1 := f2_1; have q_f6_1 := f6_1; have q_f3_3 := f3_3; have g_c2_3 := i_rg c2_3; omega)
  have zn_23 : 0 ≤ (c2_3 : Int32).toInt := (by have q_f19_3 := f19_3; have q_f20_3 := f20_3; have q_fq2_c := fq2_c; have q_n_5 := i_nn en_5 zn_5; have q_n_14 := i_nn en_14 zn_14; have q_f4_1 := f4_1; have q_f14_1 := f14_1; have q_f15_1 := f15_1; have q_f16_1 := f16_1; have q_f1_3 := f1_3; have q_f17_3 := f17_3; have q_f18_3 := f18_3; have q2_n_5 := bn_5; have q2_n_14 := bn_14; have q_f2_1 := f2_1; have q_f6_1 := f6_1; have q_f3_3 := f3_3; have g_c2_3 := i_rg c2_3; omega)
  refine va_newa (atype := .long) (ty := .long) (a0 := (n_23, .inr (.inl (fun _ => 0)))) (N' := n_23) hx hb (hts (.arrayClass .long) kw_564) rfl hK hP hD hS hA (fun _ => rfl) (i_nl0 zn_23) en_23 (i_by bn_23 (by decide)) (Nat.le_of_ble_eq_true rfl) (i_sl bn_23 (Nat.le_of_ble_eq_true rfl)) dX1_keepTypes_43 (fun q_22 cA9 H hK9 hP hD hS => ?_)
  obtain rfl := cls_new hK hK9 (k := 3) rfl (fun _ h => by cases h)
  clear hK9
  obtain ⟨ws_24, e_ws_24⟩ : ∃ z, z = ws_19 ++ [(q_22, .inl (g.cL, n_23, .inr (.inl (fun _ => 0))))] := ⟨_, rfl⟩
  have hP : va_P (gD g) cl0 ws_24 H := by rw [e_ws_24]; exact hP
  have hD : va_D A ws_24 := by rw [e_ws_24]; exact hD
  have E_25 : gE ws_19 ws_24 := by rw [e_ws_24]; exact gE_push
  have Fr_26 : gF [] ws_19 ws_24 := by rw [e_ws_24]; exact gF_push
  have hG : Good g ws_24 := by rw [e_ws_24]; exact Good_pushJ hG
  have a_q_22 : gJ ws_24 q_22 g.cL n_23 := by rw [e_ws_24]; exact gS_new
  have s_q_22 : n_23 < 2147483648 := Nat.lt_of_le_of_lt bn_23 (by decide)
  have hk_1 := get_oldE e_ws_24 hk_1
  have hk_3 := get_oldE e_ws_24 hk_3
  have o_h0 := E_25 _ _ o_h0
  have o_r0_1 := E_25 _ _ o_r0_1
  have a_r1_1 := E_25 _ _ a_r1_1
  have a_r2_1 := E_25 _ _ a_r2_1
  have a_r3_1 := E_25 _ _ a_r3_1
  have a_r4_1 := E_25 _ _ a_r4_1
  have o_v8_1 : ∀ b, v8_1 = some b → gC ws_24 b 9 := fun b h => E_25 _ _ (o_v8_1 b h)
  have o_b_2 := E_25 _ _ o_b_2
  have a_r0_3 := E_25 _ _ a_r0_3
  have a_r1_3 := E_25 _ _ a_r1_3
  have a_r3_3 := E_25 _ _ a_r3_3
  have a_r5_3 := E_25 _ _ a_r5_3
  have a_r6_3 := E_25 _ _ a_r6_3
  have a_r7_3 := E_25 _ _ a_r7_3
  have a_r8_3 := E_25 _ _ a_r8_3
  have o_v14_3 : ∀ b, v14_3 = some b → ∃ n, gJ ws_24 b g.cL n ∧ n < 2147483648 := fun b h => (o_v14_3 b h).imp (fun n h => ⟨E_25 _ _ h.1, h.2⟩)
  have a_q_4 := E_25 _ _ a_q_4
  have a_q_13 := E_25 _ _ a_q_13
  refine W.widen (k := 3) (n := 3888) (Nat.le_of_ble_eq_true rfl) (i_sl bn_23 (Nat.le_refl _)) ?_
  refine va_put (D := gD g) (ci := 7) (v := .ref q_22) (ty := (.array .long)) (C := RX8) (T := TX8) (N := 15) hx hb hts inX8 tyX8 tyX8_ok nmX8 hown hK hP hD hS k_3 hk_3 rfl 14 (by decide) (hts _ kw_566) (fun _ h9 => h9) rfl (by decide +kernel) rfl rfl (Nat.le_of_ble_eq_true rfl) dX1_keepTypes_45 (fun H locs hP hD hS => ?_)
  have hi_27 : invX8 g ws_24 b_2 [.ref r0_3, .ref r1_3, .int c2_3, .ref r3_3, .int c4_3, .ref r5_3, .ref r6_3, .ref r7_3, .ref r8_3, .int c9_3, .int c10_3, .int c11_3, .ref q_4, .ref q_13, .ref q_22] := ⟨r0_3, (n0_3), r1_3, (n1_3), (c2_3), r3_3, (n3_3), (c4_3), r5_3, (n5_3), r6_3, (n6_3), r7_3, (n7_3), r8_3, (n8_3), (c9_3), (c10_3), (c11_3), (some q_4), (some q_13), (some q_22), rfl, a_r0_3, f1_3, a_r1_3, f3_3, a_r3_3, f5_3, a_r5_3, f7_3, a_r6_3, f9_3, a_r7_3, f11_3, a_r8_3, f13_3, (fun b h9 => by cases h9; exact ⟨_, a_q_4, s_q_4⟩), (fun b h9 => by cases h9; exact ⟨_, a_q_13, s_q_13⟩), (fun b h9 => by cases h9; exact ⟨_, a_q_22, s_q_22⟩), f17_3, f18_3, f19_3, f20_3, f21_3, f22_3, f23_3, f24_3, f25_3, f26_3, f27_3, trivial⟩
  obtain ⟨ws_28, e_ws_28⟩ : ∃ z, z = ws_24.set k_3 (b_2, .inr (7, [.ref r0_3, .ref r1_3, .int c2_3, .ref r3_3, .int c4_3, .ref r5_3, .ref r6_3, .ref r7_3, .ref r8_3, .int c9_3, .int c10_3, .int c11_3, .ref q_4, .ref q_13, .ref q_22])) := ⟨_, rfl⟩
  have hP : va_P (gD g) cl0 ws_28 H := by rw [e_ws_28]; exact hP
  have hD : va_D A ws_28 := by rw [e_ws_28]; exact hD
  have E_29 : gE ws_24 ws_28 := gE_set e_ws_28 hk_3 rfl
  have hG : Good g ws_28 := Good_set e_ws_28 hk_3 hG (ivX8 hi_27)
  have Fr_30 : gF [(7, 14)] ws_24 ws_28 := gF_put (fi := 14) (v := .ref q_22) e_ws_28 hk_3 rfl
  have hkN := gset_self e_ws_28 hk_3
  have hk_1 := gset_ob e_ws_28 hk_3 hk_1 (by decide)
  have hk_3 := hkN
  have o_h0 := E_29 _ _ o_h0
  have o_r0_1 := E_29 _ _ o_r0_1
  have a_r1_1 := E_29 _ _ a_r1_1
  have a_r2_1 := E_29 _ _ a_r2_1
  have a_r3_1 := E_29 _ _ a_r3_1
  have a_r4_1 := E_29 _ _ a_r4_1
  have o_v8_1 : ∀ b, v8_1 = some b → gC ws_28 b 9 := fun b h => E_29 _ _ (o_v8_1 b h)
  have o_b_2 := E_29 _ _ o_b_2
  have a_r0_3 := E_29 _ _ a_r0_3
  have a_r1_3 := E_29 _ _ a_r1_3
  have a_r3_3 := E_29 _ _ a_r3_3
  have a_r5_3 := E_29 _ _ a_r5_3
  have a_r6_3 := E_29 _ _ a_r6_3
  have a_r7_3 := E_29 _ _ a_r7_3
  have a_r8_3 := E_29 _ _ a_r8_3
  have a_q_4 := E_29 _ _ a_q_4
  have a_q_13 := E_29 _ _ a_q_13
  have a_q_22 := E_29 _ _ a_q_22
  refine lv_iconst (v := 0) hx hb dX1_keepTypes_48 (by decide) ?_
  refine lv_istore_n (lv' := [(1, .int 0), (0, .ref h0)]) hx hb dX1_keepTypes_49 rfl hl (by decide) rfl (fun ls hl => ?_)
  have J_50 : ∀ (n9 : Nat) (v1_31 : Int32) (ws_33 : va_W) (H : Heap) (locs : List Loc) (ls : Array Slot), (2147483647 - v1_31.toInt).toNat = n9 → 0 ≤ v1_31.toInt → gE ws_28 ws_33 → gF [] ws_28 ws_33 → Good g ws_33 → va_P (gD g) cl0 ws_33 H → va_D A ws_33 → va_S A s.heap H locs → lv_has ls 5 [(0, .ref h0), (1, .int v1_31)] → W p l e (headSpec (wt yX1_keepTypes cX1_keepTypes 5 none) ({ frames := 2, cells := 3, slots := 3888, locals := 42 })).room s m ([.ref h0] : List Value).toArray below meth c H locs 3 3888 (MQ below (va_Qv (fun (u9 : va_W) => True) (gQ1 g [(7, 12), (7, 13), (7, 14)] A ws) A) ([.ref h0] : List Value).toArray s 3 3888 A) (F0 m 50 ls []) := by
    intro n9
    induction n9 using Nat.strongRecOn with
    | ind n9 ih_50 =>
      intro v1_31 ws_33 H locs ls hm9 iv_32 E_34 Fr_35 hG hP hD hS hl
      subst hm9
      have aa_36 := a_r1_1
      have aa_37 := a_r2_1
      have aa_38 := a_r3_1
      have aa_39 := a_r4_1
      have aa_40 := a_r0_3
      have aa_41 := a_r1_3
      have aa_42 := a_r3_3
      have aa_43 := a_r5_3
      have aa_44 := a_r6_3
      have aa_45 := a_r7_3
      have aa_46 := a_r8_3
      have aa_47 := a_q_4
      have aa_48 := a_q_13
      have aa_49 := a_q_22
      have o_h0 := E_34 _ _ o_h0
      refine lv_iload_n hx hb dX1_keepTypes_50 rfl (lv_at hl 1 rfl) ?_
      refine lv_aload_n hx hb dX1_keepTypes_51 rfl (lv_at hl 0 rfl) ?_
      obtain ⟨fs9, hk_50, hq_50⟩ := (Fr_35) _ _ _ _ hk_1
      obtain ⟨r0_50, r1_50, n1_50, r2_50, n2_50, r3_50, n3_50, r4_50, n4_50, c5_50, c6_50, c7_50, v8_50, v9_50, rfl, o_r0_50, a_r1_50, f2_50, a_r2_50, f4_50, a_r3_50, f6_50, a_r4_50, f8_50, hz_c6_50, hz_c7_50, o_v8_50, o_v9_50, f13_50, f14_50, f15_50, f16_50, -⟩ := (hG.1 _ _ _ _ hk_50).hX1 rfl
      obtain rfl := fe_r (hq_50 0 (by decide))
      have o_r0_1 := o_r0_50
      obtain rfl := fe_r (hq_50 1 (by decide))
      have hn9 := gI_n hD ((E_34) _ _ aa_36) a_r1_50
      subst hn9
      have a_r1_1 := a_r1_50
      obtain rfl := fe_r (hq_50 2 (by decide))
      have hn9 := gI_n hD ((E_34) _ _ aa_37) a_r2_50
      subst hn9
      have a_r2_1 := a_r2_50
      obtain rfl := fe_q (hq_50 8 (by decide))
      have o_v8_1 := o_v8_50
      have hn9 := fe_qr (hq_50 9 (by decide))
      subst hn9
      have o_b_2 := o_v9_50 _ rfl
      refine va_get (D := gD g) (ci := 1) (v := .ref b_2) (C := RX1) (T := TX1) (N := 10) hx hb hts inX1 hown hK hP k_1 hk_50 rfl 9 (by decide) (hts _ kw_479) (fun _ h9 => h9) rfl dX1_keepTypes_52 ?_
      obtain ⟨fs9, hk_51, hq_51⟩ := (Fr_35) _ _ _ _ hk_3
      obtain ⟨r0_51, n0_51, r1_51, n1_51, c2_51, r3_51, n3_51, c4_51, r5_51, n5_51, r6_51, n6_51, r7_51, n7_51, r8_51, n8_51, c9_51, c10_51, c11_51, v12_51, v13_51, v14_51, rfl, a_r0_51, f1_51, a_r1_51, f3_51, a_r3_51, f5_51, a_r5_51, f7_51, a_r6_51, f9_51, a_r7_51, f11_51, a_r8_51, f13_51, o_v12_51, o_v13_51, o_v14_51, f17_51, f18_51, f19_51, f20_51, f21_51, f22_51, f23_51, f24_51, f25_51, f26_51, f27_51, -⟩ := (hG.1 _ _ _ _ hk_51).hX8 rfl
      obtain rfl := fe_i (hq_51 2 (by decide))
      have hn9 := fe_qr (hq_51 12 (by decide))
      subst hn9
      obtain ⟨n_q_4_51, a_q_4, s_q_4_51⟩ := o_v12_51 _ rfl
      have hn9 := gI_n hD ((E_34) _ _ aa_47) a_q_4
      subst hn9
      have hn9 := fe_qr (hq_51 13 (by decide))
      subst hn9
      obtain ⟨n_q_13_51, a_q_13, s_q_13_51⟩ := o_v13_51 _ rfl
      have hn9 := gI_n hD ((E_34) _ _ aa_48) a_q_13
      subst hn9
      have hn9 := fe_qr (hq_51 14 (by decide))
      subst hn9
      obtain ⟨n_q_22_51, a_q_22, s_q_22_51⟩ := o_v14_51 _ rfl
      have hn9 := gI_n hD ((E_34) _ _ aa_49) a_q_22
      subst hn9
      refine va_get (D := gD g) (ci := 7) (v := .int c2_3) (C := RX8) (T := TX8) (N := 15) hx hb hts inX8 hown hK hP k_3 hk_51 rfl 2 (by decide) (hts _ kw_491) (fun _ h9 => h9) rfl dX1_keepTypes_55 ?_
      refine lv_icmp_ge (tgt := 167) hx hb dX1_keepTypes_58 (by decide) (fun c_52 => ?_) (fun c_52 => ?_)
      · refine W.widen (k := 3) (n := 3888) (Nat.le_of_ble_eq_true rfl) (Nat.le_of_ble_eq_true rfl) ?_
        exact W.vret hx hb hr (fun t9 ht9 hW9 => ⟨⟨ws_33, rfl, trivial, ⟨(E_7.tr (E_11.tr (E_16.tr (E_20.tr (E_25.tr (E_29.tr E_34)))))), (gF.tr (gF.mo (F' := [(7, 12), (7, 13), (7, 14)]) Fr_8 (by decide)) (gF.tr (gF.mo (F' := [(7, 12), (7, 13), (7, 14)]) Fr_12 (by decide)) (gF.tr (gF.mo (F' := [(7, 12), (7, 13), (7, 14)]) Fr_17 (by decide)) (gF.tr (gF.mo (F' := [(7, 12), (7, 13), (7, 14)]) Fr_21 (by decide)) (gF.tr (gF.mo (F' := [(7, 12), (7, 13), (7, 14)]) Fr_26 (by decide)) (gF.tr (gF.mo (F' := [(7, 12), (7, 13), (7, 14)]) Fr_30 (by decide)) (gF.mo (F' := [(7, 12), (7, 13), (7, 14)]) Fr_35 (by decide)))))))), hG, by rw [ht9]; exact hP, hD⟩⟩, hS.F ht9⟩) hS.2.2 dX1_keepTypes_167
      · refine lv_aload_n hx hb dX1_keepTypes_61 rfl (lv_at hl 0 rfl) ?_
        refine va_get (D := gD g) (ci := 1) (v := .ref b_2) (C := RX1) (T := TX1) (N := 10) hx hb hts inX1 hown hK hP k_1 hk_50 rfl 9 (by decide) (hts _ kw_479) (fun _ h9 => h9) rfl dX1_keepTypes_62 ?_
        refine va_get (D := gD g) (ci := 7) (v := .ref q_4) (C := RX8) (T := TX8) (N := 15) hx hb hts inX8 hown hK hP k_3 hk_51 rfl 12 (by decide) (hts _ kw_563) (fun _ h9 => h9) rfl dX1_keepTypes_65 ?_
        refine lv_iload_n hx hb dX1_keepTypes_68 rfl (lv_at hl 1 rfl) ?_
        refine lv_aload_n hx hb dX1_keepTypes_69 rfl (lv_at hl 0 rfl) ?_
        refine va_get (D := gD g) (ci := 1) (v := .ref r0_1) (C := RX1) (T := TX1) (N := 10) hx hb hts inX1 hown hK hP k_1 hk_50 rfl 0 (by decide) (hts _ kw_492) (fun _ h9 => h9) rfl dX1_keepTypes_70 ?_
        refine lv_iload_n hx hb dX1_keepTypes_73 rfl (lv_at hl 1 rfl) ?_
        have hFc := gfree hD hS hA
        obtain ⟨k_53, fs_53, hk_53⟩ := gC_of o_r0_1
        refine va_calli (va_runV (As := [.int v1_31]) (rest := [.int v1_31, .ref q_4]) ⟨hx, hb, hml, hown, hts⟩ (m_X4_heightAt l g H.size ws_33 r0_1 (v1_31) hG o_r0_1) (cwV 1 hts (gd_V kw_567 kw_960 kw_961 kw_167 kw_959) rfl rfl rfl (by decide +kernel) ⟨Nat.le_of_ble_eq_true rfl, Nat.le_of_ble_eq_true rfl⟩) ⟨gblind, va_recv hK hP (ci := 4) (q0 := k_53) rfl hk_53, fun U hU hW9 => gmk hU hW9 hP hK hD hex hE hS hFc⟩ rfl rfl hl.1 rfl (lv_room (Nat.le_of_ble_eq_true rfl)) dX1_keepTypes_74 ⟨Nat.le_of_ble_eq_true rfl, Nat.le_of_ble_eq_true rfl⟩) hS (fun q _ h => hFc q h) hFc (fun r_54 u9 t9 H1 locs ht9 hvm9 hw9 hB9 hz9 hk9 hS => ?_)
        have hP : va_P (gD g) cl0 ws_33 H1 := by rw [← ht9]; exact hB9.1
        clear hB9 hz9 hk9 hvm9 ht9 hw9
        generalize H1 = H at hP hS ⊢
        obtain ⟨z_55, ez_55⟩ : ∃ y : Int32, (r_54 : Int32).toInt8.toInt32 = y := ⟨_, rfl⟩
        refine lv_i2b (v := z_55) hx hb dX1_keepTypes_77 ez_55 ?_
        obtain ⟨k_56, f_56, hk_56⟩ := gI_of a_q_4
        refine va_bast hx hb hK hP hD hS k_56 0 hk_56 rfl (i_in2 (by have q_n_5 := i_nn en_5 zn_5; have q2_n_5 := bn_5; have q_iv_32 := iv_32; have q_c_52 := i_nle c_52; have q_f19_3 := f19_3; have q_f20_3 := f20_3; have q_fq2_c := fq2_c; have q_n_14 := i_nn en_14 zn_14; have q_n_23 := i_nn en_23 zn_23; have q_f20_51 := f20_51; have q_f4_1 := f4_1; have q_f14_1 := f14_1; have q_f15_1 := f15_1; have q_f16_1 := f16_1; have q_f1_3 := f1_3; have q_f17_3 := f17_3; have q_f18_3 := f18_3; have q2_n_14 := bn_14; have q2_n_23 := bn_23; have q_f14_50 := f14_50; have q_f1_51 := f1_51; have q_f17_51 := f17_51; have q_f18_51 := f18_51; have g_c2_3 := i_rg c2_3; have g_v1_31 := i_rg v1_31; omega)) dX1_keepTypes_78 (fun H locs hP hD hS => ?_)
        obtain ⟨ws_57, e_ws_57⟩ : ∃ z, z = ws_33.set k_56 (q_4, .inl (g.cB, n_5, .inl (upd f_56 (v1_31 : Int32).toNatClampNeg (vp_nar .byte z_55)))) := ⟨_, rfl⟩
        have hP : va_P (gD g) cl0 ws_57 H := by rw [e_ws_57]; exact hP
        have hD : va_D A ws_57 := by rw [e_ws_57]; exact hD
        have E_58 : gE ws_33 ws_57 := gE_ari e_ws_57 hk_56
        have hG : Good g ws_57 := Good_arB e_ws_57 hk_56 hG
        have Fr_59 : gF [] ws_33 ws_57 := gF_ar e_ws_57 hk_56
        have hk_50 := gset_arO e_ws_57 hk_56 hk_50
        have hk_51 := gset_arO e_ws_57 hk_56 hk_51
        have o_h0 := E_58 _ _ o_h0
        have a_r3_50 := E_58 _ _ a_r3_50
        have a_r4_50 := E_58 _ _ a_r4_50
        have o_r0_1 := E_58 _ _ o_r0_1
        have a_r1_1 := E_58 _ _ a_r1_1
        have a_r2_1 := E_58 _ _ a_r2_1
        have o_v8_1 : ∀ b, v8_1 = some b → gC ws_57 b 9 := fun b h => E_58 _ _ (o_v8_1 b h)
        have o_b_2 := E_58 _ _ o_b_2
        have a_r0_51 := E_58 _ _ a_r0_51
        have a_r1_51 := E_58 _ _ a_r1_51
        have a_r3_51 := E_58 _ _ a_r3_51
        have a_r5_51 := E_58 _ _ a_r5_51
        have a_r6_51 := E_58 _ _ a_r6_51
        have a_r7_51 := E_58 _ _ a_r7_51
        have a_r8_51 := E_58 _ _ a_r8_51
        have a_q_4 := E_58 _ _ a_q_4
        have a_q_13 := E_58 _ _ a_q_13
        have a_q_22 := E_58 _ _ a_q_22
        refine lv_iconst (v := 0) hx hb dX1_keepTypes_79 (by decide) ?_
        refine lv_istore_n (lv' := [(2, .int 0), (0, .ref h0), (1, .int v1_31)]) hx hb dX1_keepTypes_80 rfl hl (by decide) rfl (fun ls hl => ?_)
        have J_81 : ∀ (n9 : Nat) (v2_60 : Int32) (ws_62 : va_W) (H : Heap) (locs : List Loc) (ls : Array Slot), (2147483647 - v2_60.toInt).toNat = n9 → 0 ≤ v2_60.toInt → gE ws_57 ws_62 → gF [] ws_57 ws_62 → Good g ws_62 → va_P (gD g) cl0 ws_62 H → va_D A ws_62 → va_S A s.heap H locs → lv_has ls 5 [(0, .ref h0), (1, .int v1_31), (2, .int v2_60)] → W p l e (headSpec (wt yX1_keepTypes cX1_keepTypes 5 none) ({ frames := 2, cells := 3, slots := 3888, locals := 42 })).room s m ([.ref h0] : List Value).toArray below meth c H locs 3 3888 (MQ below (va_Qv (fun (u9 : va_W) => True) (gQ1 g [(7, 12), (7, 13), (7, 14)] A ws) A) ([.ref h0] : List Value).toArray s 3 3888 A) (F0 m 81 ls []) := by
          intro n9
          induction n9 using Nat.strongRecOn with
          | ind n9 ih_81 =>
            intro v2_60 ws_62 H locs ls hm9 iv_61 E_63 Fr_64 hG hP hD hS hl
            subst hm9
            have aa_65 := a_r1_1
            have aa_66 := a_r2_1
            have aa_67 := a_r3_50
            have aa_68 := a_r4_50
            have aa_69 := a_r0_51
            have aa_70 := a_r1_51
            have aa_71 := a_r3_51
            have aa_72 := a_r5_51
            have aa_73 := a_r6_51
            have aa_74 := a_r7_51
            have aa_75 := a_r8_51
            have aa_76 := a_q_4
            have aa_77 := a_q_13
            have aa_78 := a_q_22
            have o_h0 := E_63 _ _ o_h0
            refine lv_aload_n hx hb dX1_keepTypes_81 rfl (lv_at hl 0 rfl) ?_
            obtain ⟨fs9, hk_79, hq_79⟩ := (Fr_64) _ _ _ _ hk_50
            obtain ⟨r0_79, r1_79, n1_79, r2_79, n2_79, r3_79, n3_79, r4_79, n4_79, c5_79, c6_79, c7_79, v8_79, v9_79, rfl, o_r0_79, a_r1_79, f2_79, a_r2_79, f4_79, a_r3_79, f6_79, a_r4_79, f8_79, hz_c6_79, hz_c7_79, o_v8_79, o_v9_79, f13_79, f14_79, f15_79, f16_79, -⟩ := (hG.1 _ _ _ _ hk_79).hX1 rfl
            obtain rfl := fe_r (hq_79 0 (by decide))
            have o_r0_1 := o_r0_79
            obtain rfl := fe_r (hq_79 1 (by decide))
            have hn9 := gI_n hD ((E_63) _ _ aa_65) a_r1_79
            subst hn9
            have a_r1_1 := a_r1_79
            obtain rfl := fe_r (hq_79 2 (by decide))
            have hn9 := gI_n hD ((E_63) _ _ aa_66) a_r2_79
            subst hn9
            have a_r2_1 := a_r2_79
            obtain rfl := fe_q (hq_79 8 (by decide))
            have o_v8_1 := o_v8_79
            have hn9 := fe_qr (hq_79 9 (by decide))
            subst hn9
            have o_b_2 := o_v9_79 _ rfl
            refine va_get (D := gD g) (ci := 1) (v := .ref r2_1) (C := RX1) (T := TX1) (N := 10) hx hb hts inX1 hown hK hP k_1 hk_79 rfl 2 (by decide) (hts _ kw_494) (fun _ h9 => h9) rfl dX1_keepTypes_82 ?_
            refine lv_iload_n hx hb dX1_keepTypes_85 rfl (lv_at hl 1 rfl) ?_
            obtain ⟨k_80, f_80, hk_80⟩ := gI_of a_r2_1
            refine va_zald hx hb hK hP k_80 2 hk_80 rfl (i_in2 (by have q_f4_1 := f4_1; have q_f14_1 := f14_1; have q_f15_1 := f15_1; have q_f16_1 := f16_1; have q_fq2_c := fq2_c; have q_iv_32 := iv_32; have q_f14_50 := f14_50; have q_c_52 := i_nle c_52; have q_f14_79 := f14_79; have q_f2_1 := f2_1; have q_f6_1 := f6_1; have q_f19_3 := f19_3; have q_f20_3 := f20_3; have q_n_5 := i_nn en_5 zn_5; have q_n_14 := i_nn en_14 zn_14; have q_n_23 := i_nn en_23 zn_23; have q_f6_50 := f6_50; have q_f20_51 := f20_51; have q_f6_79 := f6_79; have q_f1_3 := f1_3; have q_f17_3 := f17_3; have q_f18_3 := f18_3; have q2_n_5 := bn_5; have q2_n_14 := bn_14; have q2_n_23 := bn_23; have q_f1_51 := f1_51; have q_f17_51 := f17_51; have q_f18_51 := f18_51; have g_c2_3 := i_rg c2_3; have g_v1_31 := i_rg v1_31; omega)) dX1_keepTypes_86 ?_
            refine lv_topi (fun z_81 ez_81 => ?_)
            have J_161 : ∀  (H : Heap) (locs : List Loc) (ls : Array Slot), va_P (gD g) cl0 ws_62 H → va_D A ws_62 → va_S A s.heap H locs → lv_has ls 5 [(0, .ref h0), (1, .int v1_31)] → W p l e (headSpec (wt yX1_keepTypes cX1_keepTypes 5 none) ({ frames := 2, cells := 3, slots := 3888, locals := 42 })).room s m ([.ref h0] : List Value).toArray below meth c H locs 3 3888 (MQ below (va_Qv (fun (u9 : va_W) => True) (gQ1 g [(7, 12), (7, 13), (7, 14)] A ws) A) ([.ref h0] : List Value).toArray s 3 3888 A) (F0 m 161 ls []) := by
              intro  H locs ls  hP hD hS hl
              obtain ⟨z_84, ez_84⟩ : ∃ z : Int32, v1_31 + Int32.ofInt 1 = z := ⟨_, rfl⟩
              refine lv_iinc (v := z_84) (lv' := [(1, .int z_84), (0, .ref h0)]) hx hb dX1_keepTypes_161 hl (k := 1) rfl ez_84 (by decide) rfl (fun ls hl => ?_)
              refine lv_goto (tgt := 50) hx hb dX1_keepTypes_164 (by decide) ?_
              exact ih_50 _ (by obtain ⟨u_z_84, q_z_84⟩ := i_iz ez_84 (by decide) (by decide); have q_iv_32 := iv_32; have q_c_52 := i_nle c_52; have q_f19_3 := f19_3; have q_f20_3 := f20_3; have q_fq2_c := fq2_c; have q_n_5 := i_nn en_5 zn_5; have q_n_14 := i_nn en_14 zn_14; have q_n_23 := i_nn en_23 zn_23; have q_f20_51 := f20_51; have g_c2_3 := i_rg c2_3; have g_v1_31 := i_rg v1_31; have g_z_84 := i_rg z_84; omega) (z_84) ws_62 H locs ls rfl (by obtain ⟨u_z_84, q_z_84⟩ := i_iz ez_84 (by decide) (by decide); have q_iv_32 := iv_32; have q_c_52 := i_nle c_52; have q_f19_3 := f19_3; have q_f20_3 := f20_3; have q_fq2_c := fq2_c; have q_n_5 := i_nn en_5 zn_5; have q_n_14 := i_nn en_14 zn_14; have q_n_23 := i_nn en_23 zn_23; have q_f20_51 := f20_51; have g_c2_3 := i_rg c2_3; have g_v1_31 := i_rg v1_31; have g_z_84 := i_rg z_84; omega) ((E_34.tr (E_58.tr E_63))) ((gF.tr Fr_35 (gF.tr Fr_59 Fr_64))) hG hP hD hS (lv_sub hl [1, 0] rfl)
            refine lv_if_eq (tgt := 161) hx hb dX1_keepTypes_87 (by decide) (fun c_85 => ?_) (fun c_85 => ?_)
            · exact J_161  H locs ls  hP hD hS (lv_sub hl [0, 1] rfl)
            · refine lv_iload_n hx hb dX1_keepTypes_90 rfl (lv_at hl 2 rfl) ?_
              refine lv_bipush (v := 24) hx hb dX1_keepTypes_91 (by decide) ?_
              refine lv_icmp_ge (tgt := 161) hx hb dX1_keepTypes_93 (by decide) (fun c_86 => ?_) (fun c_86 => ?_)
              · exact J_161  H locs ls  hP hD hS (lv_sub hl [0, 1] rfl)
              · refine lv_aload_n hx hb dX1_keepTypes_96 rfl (lv_at hl 0 rfl) ?_
                refine va_get (D := gD g) (ci := 1) (v := .ref r1_1) (C := RX1) (T := TX1) (N := 10) hx hb hts inX1 hown hK hP k_1 hk_79 rfl 1 (by decide) (hts _ kw_495) (fun _ h9 => h9) rfl dX1_keepTypes_97 ?_
                refine lv_iload_n hx hb dX1_keepTypes_100 rfl (lv_at hl 1 rfl) ?_
                refine lv_bipush (v := 48) hx hb dX1_keepTypes_101 (by decide) ?_
                refine lv_imul hx hb dX1_keepTypes_103 ?_
                refine lv_topi (fun z_87 ez_87 => ?_)
                refine lv_iload_n hx hb dX1_keepTypes_104 rfl (lv_at hl 2 rfl) ?_
                refine lv_iadd hx hb dX1_keepTypes_105 ?_
                refine lv_topi (fun z_88 ez_88 => ?_)
                obtain ⟨k_89, f_89, hk_89⟩ := gI_of a_r1_1
                refine va_bald hx hb hK hP k_89 0 hk_89 rfl (i_in2 (by have e24 : (24 : Int32).toInt = 24 := (by decide); have q_f2_1 := f2_1; have q_f15_1 := f15_1; have q_z_88 := i_addD ez_88; have q_f4_1 := f4_1; have q_f14_1 := f14_1; have q_f16_1 := f16_1; have q_fq2_c := fq2_c; have q_f14_50 := f14_50; have q_iv_61 := iv_61; have q_f14_79 := f14_79; have q_c_86 := i_nle c_86; have q_z_87 := i_mulR (c := 48) (K := 44739242) ez_87 (by decide) (by decide) (by decide) (by decide); have q_f6_1 := f6_1; have q_f19_3 := f19_3; have q_f20_3 := f20_3; have q_n_5 := i_nn en_5 zn_5; have q_n_14 := i_nn en_14 zn_14; have q_n_23 := i_nn en_23 zn_23; have q_iv_32 := iv_32; have q_f6_50 := f6_50; have q_f20_51 := f20_51; have q_c_52 := i_nle c_52; have q_f6_79 := f6_79; have g_c2_3 := i_rg c2_3; have g_v1_31 := i_rg v1_31; have g_v2_60 := i_rg v2_60; have g_z_87 := i_rg z_87; have g_z_88 := i_rg z_88; omega)) dX1_keepTypes_106 ?_
                refine lv_topi (fun z_90 ez_90 => ?_)
                obtain ⟨z_91, ez_91⟩ : ∃ y : Int64, (z_90 : Int32).toInt64 = y := ⟨_, rfl⟩
                refine lv_i2l (v := z_91) hx hb dX1_keepTypes_107 ez_91 ?_
                refine lv_lstore_n (lv' := [(3, .long z_91), (0, .ref h0), (1, .int v1_31), (2, .int v2_60)]) hx hb dX1_keepTypes_108 rfl hl (by decide) rfl (fun ls hl => ?_)
                refine lv_iload_n hx hb dX1_keepTypes_109 rfl (lv_at hl 3 rfl) ?_
                refine lv_bipush (v := 16) hx hb dX1_keepTypes_110 (by decide) ?_
                have J_155 : ∀ (ws_92 : va_W) (H : Heap) (locs : List Loc) (ls : Array Slot), gE ws_62 ws_92 → gF [] ws_62 ws_92 → Good g ws_92 → va_P (gD g) cl0 ws_92 H → va_D A ws_92 → va_S A s.heap H locs → lv_has ls 5 [(0, .ref h0), (1, .int v1_31), (2, .int v2_60)] → W p l e (headSpec (wt yX1_keepTypes cX1_keepTypes 5 none) ({ frames := 2, cells := 3, slots := 3888, locals := 42 })).room s m ([.ref h0] : List Value).toArray below meth c H locs 3 3888 (MQ below (va_Qv (fun (u9 : va_W) => True) (gQ1 g [(7, 12), (7, 13), (7, 14)] A ws) A) ([.ref h0] : List Value).toArray s 3 3888 A) (F0 m 155 ls []) := by
                  intro ws_92 H locs ls  E_93 Fr_94 hG hP hD hS hl
                  have aa_95 := a_r1_1
                  have aa_96 := a_r2_1
                  have aa_97 := a_r3_79
                  have aa_98 := a_r4_79
                  have o_h0 := E_93 _ _ o_h0
                  obtain ⟨z_99, ez_99⟩ : ∃ z : Int32, v2_60 + Int32.ofInt 1 = z := ⟨_, rfl⟩
                  refine lv_iinc (v := z_99) (lv' := [(2, .int z_99), (0, .ref h0), (1, .int v1_31)]) hx hb dX1_keepTypes_155 hl (k := 2) rfl ez_99 (by decide) rfl (fun ls hl => ?_)
                  refine lv_goto (tgt := 81) hx hb dX1_keepTypes_158 (by decide) ?_
                  exact ih_81 _ (by have e24 : (24 : Int32).toInt = 24 := (by decide); obtain ⟨u_z_99, q_z_99⟩ := i_iz ez_99 (by decide) (by decide); have q_iv_61 := iv_61; have q_c_86 := i_nle c_86; have q_z_88 := i_addD ez_88; have q_z_87 := i_mulR (c := 48) (K := 44739242) ez_87 (by decide) (by decide) (by decide) (by decide); have g_v1_31 := i_rg v1_31; have g_v2_60 := i_rg v2_60; have g_z_87 := i_rg z_87; have g_z_88 := i_rg z_88; have g_z_99 := i_rg z_99; omega) (z_99) ws_92 H locs ls rfl (by have e24 : (24 : Int32).toInt = 24 := (by decide); obtain ⟨u_z_99, q_z_99⟩ := i_iz ez_99 (by decide) (by decide); have q_iv_61 := iv_61; have q_c_86 := i_nle c_86; have q_z_88 := i_addD ez_88; have q_z_87 := i_mulR (c := 48) (K := 44739242) ez_87 (by decide) (by decide) (by decide) (by decide); have g_v1_31 := i_rg v1_31; have g_v2_60 := i_rg v2_60; have g_z_87 := i_rg z_87; have g_z_88 := i_rg z_88; have g_z_99 := i_rg z_99; omega) ((E_63.tr E_93)) ((gF.tr Fr_64 Fr_94)) hG hP hD hS (lv_sub hl [1, 2, 0] rfl)
                refine lv_icmp_ge (tgt := 135) hx hb dX1_keepTypes_112 (by decide) (fun c_100 => ?_) (fun c_100 => ?_)
                · refine lv_aload_n hx hb dX1_keepTypes_135 rfl (lv_at hl 1 rfl) ?_
                  refine va_get (D := gD g) (ci := 1) (v := .ref b_2) (C := RX1) (T := TX1) (N := 10) hx hb hts inX1 hown hK hP k_1 hk_79 rfl 9 (by decide) (hts _ kw_479) (fun _ h9 => h9) rfl dX1_keepTypes_136 ?_
                  obtain ⟨fs9, hk_101, hq_101⟩ := (Fr_64) _ _ _ _ hk_51
                  obtain ⟨r0_101, n0_101, r1_101, n1_101, c2_101, r3_101, n3_101, c4_101, r5_101, n5_101, r6_101, n6_101, r7_101, n7_101, r8_101, n8_101, c9_101, c10_101, c11_101, v12_101, v13_101, v14_101, rfl, a_r0_101, f1_101, a_r1_101, f3_101, a_r3_101, f5_101, a_r5_101, f7_101, a_r6_101, f9_101, a_r7_101, f11_101, a_r8_101, f13_101, o_v12_101, o_v13_101, o_v14_101, f17_101, f18_101, f19_101, f20_101, f21_101, f22_101, f23_101, f24_101, f25_101, f26_101, f27_101, -⟩ := (hG.1 _ _ _ _ hk_101).hX8 rfl
                  obtain rfl := fe_i (hq_101 2 (by decide))
                  have hn9 := fe_qr (hq_101 12 (by decide))
                  subst hn9
                  obtain ⟨n_q_4_101, a_q_4, s_q_4_101⟩ := o_v12_101 _ rfl
                  have hn9 := gI_n hD ((E_63) _ _ aa_76) a_q_4
                  subst hn9
                  have hn9 := fe_qr (hq_101 13 (by decide))
                  subst hn9
                  obtain ⟨n_q_13_101, a_q_13, s_q_13_101⟩ := o_v13_101 _ rfl
                  have hn9 := gI_n hD ((E_63) _ _ aa_77) a_q_13
                  subst hn9
                  have hn9 := fe_qr (hq_101 14 (by decide))
                  subst hn9
                  obtain ⟨n_q_22_101, a_q_22, s_q_22_101⟩ := o_v14_101 _ rfl
                  have hn9 := gI_n hD ((E_63) _ _ aa_78) a_q_22
                  subst hn9
                  refine va_get (D := gD g) (ci := 7) (v := .ref q_22) (C := RX8) (T := TX8) (N := 15) hx hb hts inX8 hown hK hP k_3 hk_101 rfl 14 (by decide) (hts _ kw_566) (fun _ h9 => h9) rfl dX1_keepTypes_139 ?_
                  refine lv_iload_n hx hb dX1_keepTypes_142 rfl (lv_at hl 2 rfl) ?_
                  refine lv_dup2_11 hx hb dX1_keepTypes_143 rfl rfl ?_
                  obtain ⟨k_102, f_102, hk_102⟩ := gJ_of a_q_22
                  refine va_lald hx hb hK hP k_102 3 hk_102 rfl (i_in2 (by have e16 : (16 : Int32).toInt = 16 := (by decide); have e24 : (24 : Int32).toInt = 24 := (by decide); have q_n_23 := i_nn en_23 zn_23; have q2_n_23 := bn_23; have q_iv_32 := iv_32; have q_c_52 := i_nle c_52; have q_z_87 := i_mulR (c := 48) (K := 44739242) ez_87 (by decide) (by decide) (by decide) (by decide); have q_f19_3 := f19_3; have q_f20_3 := f20_3; have q_fq2_c := fq2_c; have q_n_5 := i_nn en_5 zn_5; have q_n_14 := i_nn en_14 zn_14; have q_f20_51 := f20_51; have q_z_88 := i_addD ez_88; have q_f20_101 := f20_101; have q_f4_1 := f4_1; have q_f14_1 := f14_1; have q_f15_1 := f15_1; have q_f16_1 := f16_1; have q_f1_3 := f1_3; have q_f17_3 := f17_3; have q_f18_3 := f18_3; have q2_n_5 := bn_5; have q2_n_14 := bn_14; have q_f14_50 := f14_50; have q_f1_51 := f1_51; have q_f17_51 := f17_51; have q_f18_51 := f18_51; have q_iv_61 := iv_61; have q_f14_79 := f14_79; have q_c_86 := i_nle c_86; have q_c_100 := i_le c_100; have q_f1_101 := f1_101; have q_f17_101 := f17_101; have q_f18_101 := f18_101; have g_c2_3 := i_rg c2_3; have g_v1_31 := i_rg v1_31; have g_v2_60 := i_rg v2_60; have g_z_87 := i_rg z_87; have g_z_88 := i_rg z_88; omega)) dX1_keepTypes_144 ?_
                  refine lv_topl (fun z_103 ez_103 => ?_)
                  refine lv_lload_n hx hb dX1_keepTypes_145 rfl (lv_at hl 0 rfl) ?_
                  refine lv_iconst (v := 4) hx hb dX1_keepTypes_146 (by decide) ?_
                  refine lv_iload_n hx hb dX1_keepTypes_147 rfl (lv_at hl 3 rfl) ?_
                  refine lv_bipush (v := 16) hx hb dX1_keepTypes_148 (by decide) ?_
                  refine lv_isub hx hb dX1_keepTypes_150 ?_
                  refine lv_topi (fun z_104 ez_104 => ?_)
                  refine lv_imul hx hb dX1_keepTypes_151 ?_
                  refine lv_topi (fun z_105 ez_105 => ?_)
                  refine lv_lshl hx hb dX1_keepTypes_152 rfl ?_
                  refine lv_topl (fun z_106 ez_106 => ?_)
                  refine lv_lor hx hb dX1_keepTypes_153 ?_
                  refine lv_topl (fun z_107 ez_107 => ?_)
                  refine va_last hx hb hK hP hD hS k_102 3 hk_102 rfl (i_in2 (by have e16 : (16 : Int32).toInt = 16 := (by decide); have e24 : (24 : Int32).toInt = 24 := (by decide); have q_n_23 := i_nn en_23 zn_23; have q2_n_23 := bn_23; have q_iv_32 := iv_32; have q_c_52 := i_nle c_52; have q_z_87 := i_mulR (c := 48) (K := 44739242) ez_87 (by decide) (by decide) (by decide) (by decide); have q_f19_3 := f19_3; have q_f20_3 := f20_3; have q_fq2_c := fq2_c; have q_n_5 := i_nn en_5 zn_5; have q_n_14 := i_nn en_14 zn_14; have q_f20_51 := f20_51; have q_z_88 := i_addD ez_88; have q_f20_101 := f20_101; have q_f4_1 := f4_1; have q_f14_1 := f14_1; have q_f15_1 := f15_1; have q_f16_1 := f16_1; have q_f1_3 := f1_3; have q_f17_3 := f17_3; have q_f18_3 := f18_3; have q2_n_5 := bn_5; have q2_n_14 := bn_14; have q_f14_50 := f14_50; have q_f1_51 := f1_51; have q_f17_51 := f17_51; have q_f18_51 := f18_51; have q_iv_61 := iv_61; have q_f14_79 := f14_79; have q_c_86 := i_nle c_86; have q_c_100 := i_le c_100; have q_f1_101 := f1_101; have q_f17_101 := f17_101; have q_f18_101 := f18_101; have q_z_104 := i_subD ez_104; have g_c2_3 := i_rg c2_3; have g_v1_31 := i_rg v1_31; have g_v2_60 := i_rg v2_60; have g_z_104 := i_rg z_104; have g_z_87 := i_rg z_87; have g_z_88 := i_rg z_88; omega)) dX1_keepTypes_154 (fun H locs hP hD hS => ?_)
                  obtain ⟨ws_108, e_ws_108⟩ : ∃ z, z = ws_62.set k_102 (q_22, .inl (g.cL, n_23, .inr (.inl (vp_updL f_102 (v1_31 : Int32).toNatClampNeg z_107)))) := ⟨_, rfl⟩
                  have hP : va_P (gD g) cl0 ws_108 H := by rw [e_ws_108]; exact hP
                  have hD : va_D A ws_108 := by rw [e_ws_108]; exact hD
                  have E_109 : gE ws_62 ws_108 := gE_arj e_ws_108 hk_102
                  have hG : Good g ws_108 := Good_arj e_ws_108 hk_102 hG
                  have Fr_110 : gF [] ws_62 ws_108 := gF_ar e_ws_108 hk_102
                  have hk_79 := gset_arO e_ws_108 hk_102 hk_79
                  have hk_101 := gset_arO e_ws_108 hk_102 hk_101
                  have o_h0 := E_109 _ _ o_h0
                  have a_r3_79 := E_109 _ _ a_r3_79
                  have a_r4_79 := E_109 _ _ a_r4_79
                  have o_r0_1 := E_109 _ _ o_r0_1
                  have a_r1_1 := E_109 _ _ a_r1_1
                  have a_r2_1 := E_109 _ _ a_r2_1
                  have o_v8_1 : ∀ b, v8_1 = some b → gC ws_108 b 9 := fun b h => E_109 _ _ (o_v8_1 b h)
                  have o_b_2 := E_109 _ _ o_b_2
                  have a_r0_101 := E_109 _ _ a_r0_101
                  have a_r1_101 := E_109 _ _ a_r1_101
                  have a_r3_101 := E_109 _ _ a_r3_101
                  have a_r5_101 := E_109 _ _ a_r5_101
                  have a_r6_101 := E_109 _ _ a_r6_101
                  have a_r7_101 := E_109 _ _ a_r7_101
                  have a_r8_101 := E_109 _ _ a_r8_101
                  have a_q_4 := E_109 _ _ a_q_4
                  have a_q_13 := E_109 _ _ a_q_13
                  have a_q_22 := E_109 _ _ a_q_22
                  exact J_155 ws_108 H locs ls (E_109) (Fr_110) hG hP hD hS (lv_sub hl [1, 2, 3] rfl)
                · refine lv_aload_n hx hb dX1_keepTypes_115 rfl (lv_at hl 1 rfl) ?_
                  refine va_get (D := gD g) (ci := 1) (v := .ref b_2) (C := RX1) (T := TX1) (N := 10) hx hb hts inX1 hown hK hP k_1 hk_79 rfl 9 (by decide) (hts _ kw_479) (fun _ h9 => h9) rfl dX1_keepTypes_116 ?_
                  obtain ⟨fs9, hk_111, hq_111⟩ := (Fr_64) _ _ _ _ hk_51
                  obtain ⟨r0_111, n0_111, r1_111, n1_111, c2_111, r3_111, n3_111, c4_111, r5_111, n5_111, r6_111, n6_111, r7_111, n7_111, r8_111, n8_111, c9_111, c10_111, c11_111, v12_111, v13_111, v14_111, rfl, a_r0_111, f1_111, a_r1_111, f3_111, a_r3_111, f5_111, a_r5_111, f7_111, a_r6_111, f9_111, a_r7_111, f11_111, a_r8_111, f13_111, o_v12_111, o_v13_111, o_v14_111, f17_111, f18_111, f19_111, f20_111, f21_111, f22_111, f23_111, f24_111, f25_111, f26_111, f27_111, -⟩ := (hG.1 _ _ _ _ hk_111).hX8 rfl
                  obtain rfl := fe_i (hq_111 2 (by decide))
                  have hn9 := fe_qr (hq_111 12 (by decide))
                  subst hn9
                  obtain ⟨n_q_4_111, a_q_4, s_q_4_111⟩ := o_v12_111 _ rfl
                  have hn9 := gI_n hD ((E_63) _ _ aa_76) a_q_4
                  subst hn9
                  have hn9 := fe_qr (hq_111 13 (by decide))
                  subst hn9
                  obtain ⟨n_q_13_111, a_q_13, s_q_13_111⟩ := o_v13_111 _ rfl
                  have hn9 := gI_n hD ((E_63) _ _ aa_77) a_q_13
                  subst hn9
                  have hn9 := fe_qr (hq_111 14 (by decide))
                  subst hn9
                  obtain ⟨n_q_22_111, a_q_22, s_q_22_111⟩ := o_v14_111 _ rfl
                  have hn9 := gI_n hD ((E_63) _ _ aa_78) a_q_22
                  subst hn9
                  refine va_get (D := gD g) (ci := 7) (v := .ref q_13) (C := RX8) (T := TX8) (N := 15) hx hb hts inX8 hown hK hP k_3 hk_111 rfl 13 (by decide) (hts _ kw_565) (fun _ h9 => h9) rfl dX1_keepTypes_119 ?_
                  refine lv_iload_n hx hb dX1_keepTypes_122 rfl (lv_at hl 2 rfl) ?_
                  refine lv_dup2_11 hx hb dX1_keepTypes_123 rfl rfl ?_
                  obtain ⟨k_112, f_112, hk_112⟩ := gJ_of a_q_13
                  refine va_lald hx hb hK hP k_112 3 hk_112 rfl (i_in2 (by have e16 : (16 : Int32).toInt = 16 := (by decide); have e24 : (24 : Int32).toInt = 24 := (by decide); have q_n_14 := i_nn en_14 zn_14; have q2_n_14 := bn_14; have q_iv_32 := iv_32; have q_c_52 := i_nle c_52; have q_z_87 := i_mulR (c := 48) (K := 44739242) ez_87 (by decide) (by decide) (by decide) (by decide); have q_f19_3 := f19_3; have q_f20_3 := f20_3; have q_fq2_c := fq2_c; have q_n_5 := i_nn en_5 zn_5; have q_n_23 := i_nn en_23 zn_23; have q_f20_51 := f20_51; have q_z_88 := i_addD ez_88; have q_f20_111 := f20_111; have q_f4_1 := f4_1; have q_f14_1 := f14_1; have q_f15_1 := f15_1; have q_f16_1 := f16_1; have q_f1_3 := f1_3; have q_f17_3 := f17_3; have q_f18_3 := f18_3; have q2_n_5 := bn_5; have q2_n_23 := bn_23; have q_f14_50 := f14_50; have q_f1_51 := f1_51; have q_f17_51 := f17_51; have q_f18_51 := f18_51; have q_iv_61 := iv_61; have q_f14_79 := f14_79; have q_c_86 := i_nle c_86; have q_c_100 := i_nle c_100; have q_f1_111 := f1_111; have q_f17_111 := f17_111; have q_f18_111 := f18_111; have g_c2_3 := i_rg c2_3; have g_v1_31 := i_rg v1_31; have g_v2_60 := i_rg v2_60; have g_z_87 := i_rg z_87; have g_z_88 := i_rg z_88; omega)) dX1_keepTypes_124 ?_
                  refine lv_topl (fun z_113 ez_113 => ?_)
                  refine lv_lload_n hx hb dX1_keepTypes_125 rfl (lv_at hl 0 rfl) ?_
                  refine lv_iconst (v := 4) hx hb dX1_keepTypes_126 (by decide) ?_
                  refine lv_iload_n hx hb dX1_keepTypes_127 rfl (lv_at hl 3 rfl) ?_
                  refine lv_imul hx hb dX1_keepTypes_128 ?_
                  refine lv_topi (fun z_114 ez_114 => ?_)
                  refine lv_lshl hx hb dX1_keepTypes_129 rfl ?_
                  refine lv_topl (fun z_115 ez_115 => ?_)
                  refine lv_lor hx hb dX1_keepTypes_130 ?_
                  refine lv_topl (fun z_116 ez_116 => ?_)
                  refine va_last hx hb hK hP hD hS k_112 3 hk_112 rfl (i_in2 (by have e16 : (16 : Int32).toInt = 16 := (by decide); have e24 : (24 : Int32).toInt = 24 := (by decide); have q_n_14 := i_nn en_14 zn_14; have q2_n_14 := bn_14; have q_iv_32 := iv_32; have q_c_52 := i_nle c_52; have q_z_87 := i_mulR (c := 48) (K := 44739242) ez_87 (by decide) (by decide) (by decide) (by decide); have q_f19_3 := f19_3; have q_f20_3 := f20_3; have q_fq2_c := fq2_c; have q_n_5 := i_nn en_5 zn_5; have q_n_23 := i_nn en_23 zn_23; have q_f20_51 := f20_51; have q_z_88 := i_addD ez_88; have q_f20_111 := f20_111; have q_f4_1 := f4_1; have q_f14_1 := f14_1; have q_f15_1 := f15_1; have q_f16_1 := f16_1; have q_f1_3 := f1_3; have q_f17_3 := f17_3; have q_f18_3 := f18_3; have q2_n_5 := bn_5; have q2_n_23 := bn_23; have q_f14_50 := f14_50; have q_f1_51 := f1_51; have q_f17_51 := f17_51; have q_f18_51 := f18_51; have q_iv_61 := iv_61; have q_f14_79 := f14_79; have q_c_86 := i_nle c_86; have q_c_100 := i_nle c_100; have q_f1_111 := f1_111; have q_f17_111 := f17_111; have q_f18_111 := f18_111; have q_z_114 := i_mulL (c := 4) (K := 536870911) ez_114 (by decide) (by decide) (by decide) (by decide); have g_c2_3 := i_rg c2_3; have g_v1_31 := i_rg v1_31; have g_v2_60 := i_rg v2_60; have g_z_114 := i_rg z_114; have g_z_87 := i_rg z_87; have g_z_88 := i_rg z_88; omega)) dX1_keepTypes_131 (fun H locs hP hD hS => ?_)
                  obtain ⟨ws_117, e_ws_117⟩ : ∃ z, z = ws_62.set k_112 (q_13, .inl (g.cL, n_14, .inr (.inl (vp_updL f_112 (v1_31 : Int32).toNatClampNeg z_116)))) := ⟨_, rfl⟩
                  have hP : va_P (gD g) cl0 ws_117 H := by rw [e_ws_117]; exact hP
                  have hD : va_D A ws_117 := by rw [e_ws_117]; exact hD
                  have E_118 : gE ws_62 ws_117 := gE_arj e_ws_117 hk_112
                  have hG : Good g ws_117 := Good_arj e_ws_117 hk_112 hG
                  have Fr_119 : gF [] ws_62 ws_117 := gF_ar e_ws_117 hk_112
                  have hk_79 := gset_arO e_ws_117 hk_112 hk_79
                  have hk_111 := gset_arO e_ws_117 hk_112 hk_111
                  have o_h0 := E_118 _ _ o_h0
                  have a_r3_79 := E_118 _ _ a_r3_79
                  have a_r4_79 := E_118 _ _ a_r4_79
                  have o_r0_1 := E_118 _ _ o_r0_1
                  have a_r1_1 := E_118 _ _ a_r1_1
                  have a_r2_1 := E_118 _ _ a_r2_1
                  have o_v8_1 : ∀ b, v8_1 = some b → gC ws_117 b 9 := fun b h => E_118 _ _ (o_v8_1 b h)
                  have o_b_2 := E_118 _ _ o_b_2
                  have a_r0_111 := E_118 _ _ a_r0_111
                  have a_r1_111 := E_118 _ _ a_r1_111
                  have a_r3_111 := E_118 _ _ a_r3_111
                  have a_r5_111 := E_118 _ _ a_r5_111
                  have a_r6_111 := E_118 _ _ a_r6_111
                  have a_r7_111 := E_118 _ _ a_r7_111
                  have a_r8_111 := E_118 _ _ a_r8_111
                  have a_q_4 := E_118 _ _ a_q_4
                  have a_q_13 := E_118 _ _ a_q_13
                  have a_q_22 := E_118 _ _ a_q_22
                  refine lv_goto (tgt := 155) hx hb dX1_keepTypes_132 (by decide) ?_
                  exact J_155 ws_117 H locs ls (E_118) (Fr_119) hG hP hD hS (lv_sub hl [1, 2, 3] rfl)
        exact J_81 _ (0) ws_57 H locs ls rfl (by have e0 : (0 : Int32).toInt = 0 := (by decide); omega) (gE.rf) (gF.rf) hG hP hD hS (lv_sub hl [1, 2, 0] rfl)
  exact J_50 _ (0) ws_28 H locs ls rfl (by have e0 : (0 : Int32).toInt = 0 := (by decide); omega) (gE.rf) (gF.rf) hG hP hD hS (lv_sub hl [1, 0] rfl)
