set_option maxHeartbeats 1000000 in
set_option maxRecDepth 100000 in
theorem m_X5_play (l : Launch) (g : Gm) (H0 : Heap) (ws : va_W) (h0 : Nat) (x1 : Int32) (x2 : Int32) (hG : Good g ws) (o_h0 : gC ws h0 5) (nn_h0_0 : gN ws h0 0) (tk0 : inU ws h0 x1) (tk1 : swU ws h0) (tk2 : arP g ws h0) : Met l yX5_play (wt yX5_play cX5_play 3 (some .int)) ({ frames := 6, cells := PC ws + (0), slots := PS ws + (0), locals := 135 }) (va_Pc [.ref h0, .int x1, .int x2] (st_H g H0 ws)) (va_Qi (fun (r : Int32) (u9 : va_W) => (True) ∧ (swU u9 h0) ∧ (arP g u9 h0)) (gQ2 g [(5, 2), (5, 3), (5, 4), (5, 5), (5, 8), (5, 9), (5, 11), (5, 12), (5, 13), (5, 14), (5, 15), (5, 16), (5, 17), (5, 18), (5, 19)] [(5, 1), (5, 2), (5, 4), (5, 8), (5, 9), (5, 10)] none (va_A ws H0.size) ws H0 (0) (0)) (va_A ws H0.size)) (PC ws + (0)) (PS ws + (0)) (va_A ws H0.size) := by
  refine Met.ofW (cc := cX5_play) (maxL := 3) (ret := (some .int)) (by decide) rfl ?_
  intro p e s m args below meth c s₁ B hml hv
  obtain ⟨rfl, hH0, hsz, hP, hK, hD0, hex, hE⟩ := hv
  have hx := B.exec
  have hb := B.bytes
  have hr := B.returns
  have hts0 := atoms_spec (ws := wt yX5_play cX5_play 3 (some .int)) B.pre
  have hts : ∀ w ∈ tb, w.before _ s = true := fun w h => hts0 w (List.mem_cons_of_mem _ h)
  have hown : s.vm.findClass RX5 = some m.cls := findClass_of_methodNamed B.named
  subst hH0
  have hD := hD0.self (sz := s.heap.size)
  generalize hAe : va_A ws s.heap.size = A at hD hE ⊢
  have hA : ∀ q : Nat, s.heap.size ≤ q → A q := fun q h => by rw [← hAe]; exact Or.inr h
  have hS : va_S A s.heap s.heap [] := va_S.rf
  have hl := lv_entry ([.ref h0, .int x1, .int x2]) (n := 3) (Nat.le_of_ble_eq_true rfl)
  rw [lg_entry_eq]
  generalize (lg_sl ([.ref h0, .int x1, .int x2]) ++ List.replicate (3 - (lg_sl ([.ref h0, .int x1, .int x2])).length) Slot.unset).toArray = ls at hl ⊢
  have hl : lv_has ls 3 [(0, .ref h0), (1, .int x1), (2, .int x2)] := hl
  obtain ⟨k_1, fs9, hk_1⟩ := gC_of o_h0
  obtain ⟨v0_1, r1_1, n1_1, r2_1, n2_1, c3_1, r4_1, n4_1, c5_1, r6_1, n6_1, c7_1, r8_1, n8_1, r9_1, n9_1, r10_1, n10_1, c11_1, v12_1, c13_1, c14_1, c15_1, l16_1, c17_1, c18_1, c19_1, rfl, o_v0_1, F_v0_1, a_r1_1, f3_1, a_r2_1, f5_1, a_r4_1, f7_1, a_r6_1, f9_1, a_r8_1, f11_1, a_r9_1, f13_1, a_r10_1, f15_1, o_v12_1, f17_1, f18_1, f19_1, f20_1, f21_1, f22_1, f23_1, f24_1, f25_1, f26_1, f27_1, f28_1, f29_1, f30_1, f31_1, -⟩ := (hG.1 _ _ _ _ hk_1).hX5 rfl
  obtain ⟨b_2, hn9⟩ := nn_h0_0 _ _ _ hk_1
  have hn9 := fe_qr hn9
  subst hn9
  have o_b_2 := o_v0_1 _ rfl
  have F_b_2 := F_v0_1 _ rfl
  refine lv_aload_n hx hb dX5_play_0 rfl (lv_at hl 0 rfl) ?_
  refine va_get (D := gD g) (ci := 5) (v := .ref r9_1) (C := RX5) (T := TX5) (N := 20) hx hb hts inX5 hown hK hP k_1 hk_1 rfl 9 (by decide) (hts _ kw_1046) (fun _ h9 => h9) rfl dX5_play_1 ?_
  obtain ⟨k_3, f_3, hk_3⟩ := gJ_of a_r9_1
  obtain ⟨z_4, ez_4⟩ : ∃ z : Int32, Int32.ofNat n9_1 = z := ⟨_, rfl⟩
  refine va_alen (v := z_4) hx hb hK hP k_3 3 hk_3 rfl ez_4 dX5_play_4 ?_
  have J_26 : ∀ (dc_26_1 : Nat) (ds_26_1 : Nat) (ws_5 : va_W) (H : Heap) (locs : List Loc) (ls : Array Slot), gE ws ws_5 → gF [(5, 8), (5, 9)] [] none ws ws_5 → Good g ws_5 → dc_26_1 + PC ws_5 ≤ PC ws + (0) → ds_26_1 + PS ws_5 ≤ PS ws + (0) → va_P (gD g) cl0 ws_5 H → va_D A ws_5 → va_S A s.heap H locs → lv_has ls 3 [(0, .ref h0), (1, .int x1), (2, .int x2)] → W p l e (headSpec (wt yX5_play cX5_play 3 (some .int)) ({ frames := 6, cells := PC ws + (0), slots := PS ws + (0), locals := 135 })).room s m ([.ref h0, .int x1, .int x2] : List Value).toArray below meth c H locs (dc_26_1) (ds_26_1) (MQ below (va_Qi (fun (r : Int32) (u9 : va_W) => (True) ∧ (swU u9 h0) ∧ (arP g u9 h0)) (gQ2 g [(5, 2), (5, 3), (5, 4), (5, 5), (5, 8), (5, 9), (5, 11), (5, 12), (5, 13), (5, 14), (5, 15), (5, 16), (5, 17), (5, 18), (5, 19)] [(5, 1), (5, 2), (5, 4), (5, 8), (5, 9), (5, 10)] none A ws s.heap (0) (0)) A) ([.ref h0, .int x1, .int x2] : List Value).toArray s (PC ws + (0)) (PS ws + (0)) A) (F0 m 26 ls []) := by
    intro dc_26_1 ds_26_1 ws_5 H locs ls  E_6 Fr_7 hG hc9 hs9 hP hD hS hl
    have aa_8 := a_r1_1
    have aa_9 := a_r2_1
    have aa_10 := a_r4_1
    have aa_11 := a_r6_1
    have aa_12 := a_r8_1
    have aa_13 := a_r9_1
    have aa_14 := a_r10_1
    have o_h0 := E_6.1 _ _ o_h0
    refine lv_aload_n hx hb dX5_play_26 rfl (lv_at hl 0 rfl) ?_
    refine lv_lconst (v := 0) hx hb dX5_play_27 (by decide) ?_
    obtain ⟨fs9, hk_15, hq_15⟩ := ((gF.a (F' := [(5, 8), (5, 9)]) Fr_7 (fun _ h => h))) _ _ _ hk_1
    obtain ⟨v0_15, r1_15, n1_15, r2_15, n2_15, c3_15, r4_15, n4_15, c5_15, r6_15, n6_15, c7_15, r8_15, n8_15, r9_15, n9_15, r10_15, n10_15, c11_15, v12_15, c13_15, c14_15, c15_15, l16_15, c17_15, c18_15, c19_15, rfl, o_v0_15, F_v0_15, a_r1_15, f3_15, a_r2_15, f5_15, a_r4_15, f7_15, a_r6_15, f9_15, a_r8_15, f11_15, a_r9_15, f13_15, a_r10_15, f15_15, o_v12_15, f17_15, f18_15, f19_15, f20_15, f21_15, f22_15, f23_15, f24_15, f25_15, f26_15, f27_15, f28_15, f29_15, f30_15, f31_15, -⟩ := (hG.1 _ _ _ _ hk_15).hX5 rfl
    have hn9 := fe_qr (hq_15 0 (by decide))
    subst hn9
    have o_b_2 := o_v0_15 _ rfl
    have F_b_2 := F_v0_15 _ rfl
    obtain rfl := fe_q (hq_15 12 (by decide))
    have o_v12_1 := o_v12_15
    obtain rfl := fe_i (hq_15 15 (by decide))
    obtain rfl := fe_i (hq_15 18 (by decide))
    have hV9 : okv ws_5 5 16 (.long 0) := okv_l
    refine va_put (D := gD g) (ci := 5) (v := .long 0) (ty := .long) (C := RX5) (T := TX5) (N := 20) hx hb hts inX5 tyX5 tyX5_ok nmX5 hown hK hP hD hS k_1 hk_15 rfl 16 (by decide) (hts _ kw_1085) (fun _ h9 => h9) rfl (by decide +kernel) rfl rfl (Nat.le_of_ble_eq_true rfl) dX5_play_28 (fun H locs hP hD hS => ?_)
    have hi_16 : invX5 g ws_5 h0 [.ref b_2, .ref r1_15, .ref r2_15, .int c3_15, .ref r4_15, .int c5_15, .ref r6_15, .int c7_15, .ref r8_15, .ref r9_15, .ref r10_15, .int c11_15, va_rf v12_1, .int c13_15, .int c14_15, .int c15_1, .long 0, .int c17_15, .int c18_1, .int c19_15] := ⟨(some b_2), r1_15, (n1_15), r2_15, (n2_15), (c3_15), r4_15, (n4_15), (c5_15), r6_15, (n6_15), (c7_15), r8_15, (n8_15), r9_15, (n9_15), r10_15, (n10_15), (c11_15), v12_1, (c13_15), (c14_15), (c15_1), (0), (c17_15), (c18_1), (c19_15), rfl, (fun b h9 => by cases h9; exact o_b_2), (fun b h9 => by cases h9; exact F_b_2), a_r1_15, f3_15, a_r2_15, f5_15, a_r4_15, f7_15, a_r6_15, f9_15, a_r8_15, f11_15, a_r9_15, f13_15, a_r10_15, f15_15, o_v12_1, f17_15, f18_15, f19_15, f20_15, f21_15, f22_15, f23_15, f24_15, f25_15, f26_15, f27_15, f28_15, f29_15, f30_15, f31_15, trivial⟩
    obtain ⟨ws_17, e_ws_17⟩ : ∃ z, z = ws_5.set k_1 (h0, .inr (5, [.ref b_2, .ref r1_15, .ref r2_15, .int c3_15, .ref r4_15, .int c5_15, .ref r6_15, .int c7_15, .ref r8_15, .ref r9_15, .ref r10_15, .int c11_15, va_rf v12_1, .int c13_15, .int c14_15, .int c15_1, .long 0, .int c17_15, .int c18_1, .int c19_15])) := ⟨_, rfl⟩
    have hP : va_P (gD g) cl0 ws_17 H := by rw [e_ws_17]; exact hP
    have hD : va_D A ws_17 := by rw [e_ws_17]; exact hD
    have E_18 : gE ws_5 ws_17 := gE_set e_ws_17 hk_15 (cw_o (fi := 16) (v := .long 0) rfl (by decide))
    have hG : Good g ws_17 := Good_set (fi := 16) (v := .long 0) e_ws_17 hk_15 E_18 rfl hV9 hG (ivX5 hi_16)
    have Fr_19 : gF [(5, 16)] [] (some h0) ws_5 ws_17 := gF_put (fi := 16) (v := .long 0) e_ws_17 hk_15 rfl (by decide)
    have pp_20 := Fr_19.pp
    have hkN := gset_self e_ws_17 hk_15
    have hk_15 := hkN
    have o_h0 := E_18.1 _ _ o_h0
    have a_r1_15 := E_18.1 _ _ a_r1_15
    have a_r2_15 := E_18.1 _ _ a_r2_15
    have a_r4_15 := E_18.1 _ _ a_r4_15
    have a_r6_15 := E_18.1 _ _ a_r6_15
    have a_r8_15 := E_18.1 _ _ a_r8_15
    have a_r9_15 := E_18.1 _ _ a_r9_15
    have a_r10_15 := E_18.1 _ _ a_r10_15
    have o_b_2 := E_18.1 _ _ o_b_2
    have F_b_2 := F_b_2.mo E_18
    have o_v12_1 : ∀ b, v12_1 = some b → gC ws_17 b 7 := fun b h => E_18.1 _ _ (o_v12_1 b h)
    refine lv_aload_n hx hb dX5_play_31 rfl (lv_at hl 0 rfl) ?_
    refine lv_iconst (v := (-1)) hx hb dX5_play_32 (by decide) ?_
    have hV9 : okv ws_17 5 17 (.int (-1)) := okv_i
    refine va_put (D := gD g) (ci := 5) (v := .int (-1)) (ty := .int) (C := RX5) (T := TX5) (N := 20) hx hb hts inX5 tyX5 tyX5_ok nmX5 hown hK hP hD hS k_1 hk_15 rfl 17 (by decide) (hts _ kw_1073) (fun _ h9 => h9) rfl (by decide +kernel) rfl rfl (Nat.le_of_ble_eq_true rfl) dX5_play_33 (fun H locs hP hD hS => ?_)
    have hi_21 : invX5 g ws_17 h0 [.ref b_2, .ref r1_15, .ref r2_15, .int c3_15, .ref r4_15, .int c5_15, .ref r6_15, .int c7_15, .ref r8_15, .ref r9_15, .ref r10_15, .int c11_15, va_rf v12_1, .int c13_15, .int c14_15, .int c15_1, .long 0, .int (-1), .int c18_1, .int c19_15] := ⟨(some b_2), r1_15, (n1_15), r2_15, (n2_15), (c3_15), r4_15, (n4_15), (c5_15), r6_15, (n6_15), (c7_15), r8_15, (n8_15), r9_15, (n9_15), r10_15, (n10_15), (c11_15), v12_1, (c13_15), (c14_15), (c15_1), (0), ((-1)), (c18_1), (c19_15), rfl, (fun b h9 => by cases h9; exact o_b_2), (fun b h9 => by cases h9; exact F_b_2), a_r1_15, f3_15, a_r2_15, f5_15, a_r4_15, f7_15, a_r6_15, f9_15, a_r8_15, f11_15, a_r9_15, f13_15, a_r10_15, f15_15, o_v12_1, f17_15, f18_15, f19_15, f20_15, f21_15, f22_15, f23_15, f24_15, f25_15, f26_15, f27_15, f28_15, f29_15, f30_15, f31_15, trivial⟩
    obtain ⟨ws_22, e_ws_22⟩ : ∃ z, z = ws_17.set k_1 (h0, .inr (5, [.ref b_2, .ref r1_15, .ref r2_15, .int c3_15, .ref r4_15, .int c5_15, .ref r6_15, .int c7_15, .ref r8_15, .ref r9_15, .ref r10_15, .int c11_15, va_rf v12_1, .int c13_15, .int c14_15, .int c15_1, .long 0, .int (-1), .int c18_1, .int c19_15])) := ⟨_, rfl⟩
    have hP : va_P (gD g) cl0 ws_22 H := by rw [e_ws_22]; exact hP
    have hD : va_D A ws_22 := by rw [e_ws_22]; exact hD
    have E_23 : gE ws_17 ws_22 := gE_set e_ws_22 hk_15 (cw_o (fi := 17) (v := .int (-1)) rfl (by decide))
    have hG : Good g ws_22 := Good_set (fi := 17) (v := .int (-1)) e_ws_22 hk_15 E_23 rfl hV9 hG (ivX5 hi_21)
    have Fr_24 : gF [(5, 17)] [] (some h0) ws_17 ws_22 := gF_put (fi := 17) (v := .int (-1)) e_ws_22 hk_15 rfl (by decide)
    have pp_25 := Fr_24.pp
    have hkN := gset_self e_ws_22 hk_15
    have hk_15 := hkN
    have o_h0 := E_23.1 _ _ o_h0
    have a_r1_15 := E_23.1 _ _ a_r1_15
    have a_r2_15 := E_23.1 _ _ a_r2_15
    have a_r4_15 := E_23.1 _ _ a_r4_15
    have a_r6_15 := E_23.1 _ _ a_r6_15
    have a_r8_15 := E_23.1 _ _ a_r8_15
    have a_r9_15 := E_23.1 _ _ a_r9_15
    have a_r10_15 := E_23.1 _ _ a_r10_15
    have o_b_2 := E_23.1 _ _ o_b_2
    have F_b_2 := F_b_2.mo E_23
    have o_v12_1 : ∀ b, v12_1 = some b → gC ws_22 b 7 := fun b h => E_23.1 _ _ (o_v12_1 b h)
    refine lv_aload_n hx hb dX5_play_36 rfl (lv_at hl 0 rfl) ?_
    refine lv_iconst (v := 0) hx hb dX5_play_37 (by decide) ?_
    have hV9 : okv ws_22 5 18 (.int 0) := okv_i
    refine va_put (D := gD g) (ci := 5) (v := .int 0) (ty := .int) (C := RX5) (T := TX5) (N := 20) hx hb hts inX5 tyX5 tyX5_ok nmX5 hown hK hP hD hS k_1 hk_15 rfl 18 (by decide) (hts _ kw_1120) (fun _ h9 => h9) rfl (by decide +kernel) rfl rfl (Nat.le_of_ble_eq_true rfl) dX5_play_38 (fun H locs hP hD hS => ?_)
    have hi_26 : invX5 g ws_22 h0 [.ref b_2, .ref r1_15, .ref r2_15, .int c3_15, .ref r4_15, .int c5_15, .ref r6_15, .int c7_15, .ref r8_15, .ref r9_15, .ref r10_15, .int c11_15, va_rf v12_1, .int c13_15, .int c14_15, .int c15_1, .long 0, .int (-1), .int 0, .int c19_15] := ⟨(some b_2), r1_15, (n1_15), r2_15, (n2_15), (c3_15), r4_15, (n4_15), (c5_15), r6_15, (n6_15), (c7_15), r8_15, (n8_15), r9_15, (n9_15), r10_15, (n10_15), (c11_15), v12_1, (c13_15), (c14_15), (c15_1), (0), ((-1)), (0), (c19_15), rfl, (fun b h9 => by cases h9; exact o_b_2), (fun b h9 => by cases h9; exact F_b_2), a_r1_15, f3_15, a_r2_15, f5_15, a_r4_15, f7_15, a_r6_15, f9_15, a_r8_15, f11_15, a_r9_15, f13_15, a_r10_15, f15_15, o_v12_1, f17_15, f18_15, f19_15, f20_15, f21_15, f22_15, f23_15, f24_15, f25_15, f26_15, f27_15, f28_15, f29_15, f30_15, f31_15, trivial⟩
    obtain ⟨ws_27, e_ws_27⟩ : ∃ z, z = ws_22.set k_1 (h0, .inr (5, [.ref b_2, .ref r1_15, .ref r2_15, .int c3_15, .ref r4_15, .int c5_15, .ref r6_15, .int c7_15, .ref r8_15, .ref r9_15, .ref r10_15, .int c11_15, va_rf v12_1, .int c13_15, .int c14_15, .int c15_1, .long 0, .int (-1), .int 0, .int c19_15])) := ⟨_, rfl⟩
    have hP : va_P (gD g) cl0 ws_27 H := by rw [e_ws_27]; exact hP
    have hD : va_D A ws_27 := by rw [e_ws_27]; exact hD
    have E_28 : gE ws_22 ws_27 := gE_set e_ws_27 hk_15 (cw_o (fi := 18) (v := .int 0) rfl (by decide))
    have hG : Good g ws_27 := Good_set (fi := 18) (v := .int 0) e_ws_27 hk_15 E_28 rfl hV9 hG (ivX5 hi_26)
    have Fr_29 : gF [(5, 18)] [] (some h0) ws_22 ws_27 := gF_put (fi := 18) (v := .int 0) e_ws_27 hk_15 rfl (by decide)
    have pp_30 := Fr_29.pp
    have hkN := gset_self e_ws_27 hk_15
    have hk_15 := hkN
    have o_h0 := E_28.1 _ _ o_h0
    have a_r1_15 := E_28.1 _ _ a_r1_15
    have a_r2_15 := E_28.1 _ _ a_r2_15
    have a_r4_15 := E_28.1 _ _ a_r4_15
    have a_r6_15 := E_28.1 _ _ a_r6_15
    have a_r8_15 := E_28.1 _ _ a_r8_15
    have a_r9_15 := E_28.1 _ _ a_r9_15
    have a_r10_15 := E_28.1 _ _ a_r10_15
    have o_b_2 := E_28.1 _ _ o_b_2
    have F_b_2 := F_b_2.mo E_28
    have o_v12_1 : ∀ b, v12_1 = some b → gC ws_27 b 7 := fun b h => E_28.1 _ _ (o_v12_1 b h)
    refine lv_aload_n hx hb dX5_play_41 rfl (lv_at hl 0 rfl) ?_
    refine lv_iconst (v := (-1)) hx hb dX5_play_42 (by decide) ?_
    have hV9 : okv ws_27 5 15 (.int (-1)) := okv_i
    refine va_put (D := gD g) (ci := 5) (v := .int (-1)) (ty := .int) (C := RX5) (T := TX5) (N := 20) hx hb hts inX5 tyX5 tyX5_ok nmX5 hown hK hP hD hS k_1 hk_15 rfl 15 (by decide) (hts _ kw_1041) (fun _ h9 => h9) rfl (by decide +kernel) rfl rfl (Nat.le_of_ble_eq_true rfl) dX5_play_43 (fun H locs hP hD hS => ?_)
    have hi_31 : invX5 g ws_27 h0 [.ref b_2, .ref r1_15, .ref r2_15, .int c3_15, .ref r4_15, .int c5_15, .ref r6_15, .int c7_15, .ref r8_15, .ref r9_15, .ref r10_15, .int c11_15, va_rf v12_1, .int c13_15, .int c14_15, .int (-1), .long 0, .int (-1), .int 0, .int c19_15] := ⟨(some b_2), r1_15, (n1_15), r2_15, (n2_15), (c3_15), r4_15, (n4_15), (c5_15), r6_15, (n6_15), (c7_15), r8_15, (n8_15), r9_15, (n9_15), r10_15, (n10_15), (c11_15), v12_1, (c13_15), (c14_15), ((-1)), (0), ((-1)), (0), (c19_15), rfl, (fun b h9 => by cases h9; exact o_b_2), (fun b h9 => by cases h9; exact F_b_2), a_r1_15, f3_15, a_r2_15, f5_15, a_r4_15, f7_15, a_r6_15, f9_15, a_r8_15, f11_15, a_r9_15, f13_15, a_r10_15, f15_15, o_v12_1, f17_15, f18_15, f19_15, f20_15, f21_15, f22_15, f23_15, f24_15, f25_15, f26_15, f27_15, f28_15, f29_15, f30_15, f31_15, trivial⟩
    obtain ⟨ws_32, e_ws_32⟩ : ∃ z, z = ws_27.set k_1 (h0, .inr (5, [.ref b_2, .ref r1_15, .ref r2_15, .int c3_15, .ref r4_15, .int c5_15, .ref r6_15, .int c7_15, .ref r8_15, .ref r9_15, .ref r10_15, .int c11_15, va_rf v12_1, .int c13_15, .int c14_15, .int (-1), .long 0, .int (-1), .int 0, .int c19_15])) := ⟨_, rfl⟩
    have hP : va_P (gD g) cl0 ws_32 H := by rw [e_ws_32]; exact hP
    have hD : va_D A ws_32 := by rw [e_ws_32]; exact hD
    have E_33 : gE ws_27 ws_32 := gE_set e_ws_32 hk_15 (cw_o (fi := 15) (v := .int (-1)) rfl (by decide))
    have hG : Good g ws_32 := Good_set (fi := 15) (v := .int (-1)) e_ws_32 hk_15 E_33 rfl hV9 hG (ivX5 hi_31)
    have Fr_34 : gF [(5, 15)] [] (some h0) ws_27 ws_32 := gF_put (fi := 15) (v := .int (-1)) e_ws_32 hk_15 rfl (by decide)
    have pp_35 := Fr_34.pp
    have hkN := gset_self e_ws_32 hk_15
    have hk_15 := hkN
    have o_h0 := E_33.1 _ _ o_h0
    have a_r1_15 := E_33.1 _ _ a_r1_15
    have a_r2_15 := E_33.1 _ _ a_r2_15
    have a_r4_15 := E_33.1 _ _ a_r4_15
    have a_r6_15 := E_33.1 _ _ a_r6_15
    have a_r8_15 := E_33.1 _ _ a_r8_15
    have a_r9_15 := E_33.1 _ _ a_r9_15
    have a_r10_15 := E_33.1 _ _ a_r10_15
    have o_b_2 := E_33.1 _ _ o_b_2
    have F_b_2 := F_b_2.mo E_33
    have o_v12_1 : ∀ b, v12_1 = some b → gC ws_32 b 7 := fun b h => E_33.1 _ _ (o_v12_1 b h)
    refine lv_aload_n hx hb dX5_play_46 rfl (lv_at hl 0 rfl) ?_
    refine lv_iconst (v := 0) hx hb dX5_play_47 (by decide) ?_
    have hV9 : okv ws_32 5 11 (.int 0) := okv_i
    refine va_put (D := gD g) (ci := 5) (v := .int 0) (ty := .int) (C := RX5) (T := TX5) (N := 20) hx hb hts inX5 tyX5 tyX5_ok nmX5 hown hK hP hD hS k_1 hk_15 rfl 11 (by decide) (hts _ kw_1025) (fun _ h9 => h9) rfl (by decide +kernel) rfl rfl (Nat.le_of_ble_eq_true rfl) dX5_play_48 (fun H locs hP hD hS => ?_)
    have f_36 : 0 ≤ (0 : Int32).toInt := (by have e0 : (0 : Int32).toInt = 0 := (by decide); omega)
    have f_37 : (0 : Int32).toInt ≤ 59 := (by have e0 : (0 : Int32).toInt = 0 := (by decide); have q_f_36 := f_36; omega)
    have hi_38 : invX5 g ws_32 h0 [.ref b_2, .ref r1_15, .ref r2_15, .int c3_15, .ref r4_15, .int c5_15, .ref r6_15, .int c7_15, .ref r8_15, .ref r9_15, .ref r10_15, .int 0, va_rf v12_1, .int c13_15, .int c14_15, .int (-1), .long 0, .int (-1), .int 0, .int c19_15] := ⟨(some b_2), r1_15, (n1_15), r2_15, (n2_15), (c3_15), r4_15, (n4_15), (c5_15), r6_15, (n6_15), (c7_15), r8_15, (n8_15), r9_15, (n9_15), r10_15, (n10_15), (0), v12_1, (c13_15), (c14_15), ((-1)), (0), ((-1)), (0), (c19_15), rfl, (fun b h9 => by cases h9; exact o_b_2), (fun b h9 => by cases h9; exact F_b_2), a_r1_15, f3_15, a_r2_15, f5_15, a_r4_15, f7_15, a_r6_15, f9_15, a_r8_15, f11_15, a_r9_15, f13_15, a_r10_15, f15_15, o_v12_1, f17_15, f18_15, f19_15, f20_15, f21_15, f22_15, f_36, f_37, f25_15, f26_15, f27_15, f28_15, f29_15, f30_15, f31_15, trivial⟩
    obtain ⟨ws_39, e_ws_39⟩ : ∃ z, z = ws_32.set k_1 (h0, .inr (5, [.ref b_2, .ref r1_15, .ref r2_15, .int c3_15, .ref r4_15, .int c5_15, .ref r6_15, .int c7_15, .ref r8_15, .ref r9_15, .ref r10_15, .int 0, va_rf v12_1, .int c13_15, .int c14_15, .int (-1), .long 0, .int (-1), .int 0, .int c19_15])) := ⟨_, rfl⟩
    have hP : va_P (gD g) cl0 ws_39 H := by rw [e_ws_39]; exact hP
    have hD : va_D A ws_39 := by rw [e_ws_39]; exact hD
    have E_40 : gE ws_32 ws_39 := gE_set e_ws_39 hk_15 (cw_o (fi := 11) (v := .int 0) rfl (by decide))
    have hG : Good g ws_39 := Good_set (fi := 11) (v := .int 0) e_ws_39 hk_15 E_40 rfl hV9 hG (ivX5 hi_38)
    have Fr_41 : gF [(5, 11)] [] (some h0) ws_32 ws_39 := gF_put (fi := 11) (v := .int 0) e_ws_39 hk_15 rfl (by decide)
    have pp_42 := Fr_41.pp
    have hkN := gset_self e_ws_39 hk_15
    have hk_15 := hkN
    have o_h0 := E_40.1 _ _ o_h0
    have a_r1_15 := E_40.1 _ _ a_r1_15
    have a_r2_15 := E_40.1 _ _ a_r2_15
    have a_r4_15 := E_40.1 _ _ a_r4_15
    have a_r6_15 := E_40.1 _ _ a_r6_15
    have a_r8_15 := E_40.1 _ _ a_r8_15
    have a_r9_15 := E_40.1 _ _ a_r9_15
    have a_r10_15 := E_40.1 _ _ a_r10_15
    have o_b_2 := E_40.1 _ _ o_b_2
    have F_b_2 := F_b_2.mo E_40
    have o_v12_1 : ∀ b, v12_1 = some b → gC ws_39 b 7 := fun b h => E_40.1 _ _ (o_v12_1 b h)
    obtain ⟨k_43, fs9, hk_43⟩ := gC_of o_b_2
    obtain ⟨r0_43, n0_43, c1_43, c2_43, c3_43, c4_43, r5_43, n5_43, r6_43, n6_43, r7_43, n7_43, c8_43, r9_43, n9_43, r10_43, n10_43, r11_43, n11_43, r12_43, n12_43, r13_43, n13_43, c14_43, c15_43, c16_43, c17_43, rfl, a_r0_43, f1_43, a_r5_43, f3_43, a_r6_43, f5_43, a_r7_43, f7_43, a_r9_43, f9_43, a_r10_43, f11_43, a_r11_43, f13_43, a_r12_43, f15_43, a_r13_43, f17_43, hz_c15_43, f19_43, f20_43, f21_43, f22_43, f23_43, f24_43, f25_43, f26_43, f27_43, f28_43, -⟩ := (hG.1 _ _ _ _ hk_43).hX10 rfl
    obtain ⟨k_44, f_44, hk_44⟩ := gI_of a_r10_15
    have tq_45 : frB g ws_39 h0 := frB_0 hk_15 (u := b_2) rfl rfl rfl (by decide) hk_44 hk_43 rfl
    refine lv_aload_n hx hb dX5_play_51 rfl (lv_at hl 0 rfl) ?_
    refine lv_iload_n hx hb dX5_play_52 rfl (lv_at hl 1 rfl) ?_
    have tq_46 : inU ws_39 h0 x1 := inU_mo ((gF.tr (gF.mo (F' := [(5, 8), (5, 9), (5, 11), (5, 15), (5, 16), (5, 17), (5, 18)]) (C' := []) (S' := none) Fr_7 (by decide) (fun _ h => h) (Or.inr rfl)) (gF.tr (gF.mo (F' := [(5, 8), (5, 9), (5, 11), (5, 15), (5, 16), (5, 17), (5, 18)]) (C' := []) (S' := none) Fr_19 (by decide) (fun _ h => h) (Or.inl rfl)) (gF.tr (gF.mo (F' := [(5, 8), (5, 9), (5, 11), (5, 15), (5, 16), (5, 17), (5, 18)]) (C' := []) (S' := none) Fr_24 (by decide) (fun _ h => h) (Or.inl rfl)) (gF.tr (gF.mo (F' := [(5, 8), (5, 9), (5, 11), (5, 15), (5, 16), (5, 17), (5, 18)]) (C' := []) (S' := none) Fr_29 (by decide) (fun _ h => h) (Or.inl rfl)) (gF.tr (gF.mo (F' := [(5, 8), (5, 9), (5, 11), (5, 15), (5, 16), (5, 17), (5, 18)]) (C' := []) (S' := none) Fr_34 (by decide) (fun _ h => h) (Or.inl rfl)) (gF.mo (F' := [(5, 8), (5, 9), (5, 11), (5, 15), (5, 16), (5, 17), (5, 18)]) (C' := []) (S' := none) Fr_41 (by decide) (fun _ h => h) (Or.inl rfl)))))))) (by decide) (by decide) tk0
    have tq_47 : swU ws_39 h0 := swU_mo ((gF.tr (gF.mo (F' := [(5, 8), (5, 9), (5, 11), (5, 15), (5, 16), (5, 17), (5, 18)]) (C' := []) (S' := none) Fr_7 (by decide) (fun _ h => h) (Or.inr rfl)) (gF.tr (gF.mo (F' := [(5, 8), (5, 9), (5, 11), (5, 15), (5, 16), (5, 17), (5, 18)]) (C' := []) (S' := none) Fr_19 (by decide) (fun _ h => h) (Or.inl rfl)) (gF.tr (gF.mo (F' := [(5, 8), (5, 9), (5, 11), (5, 15), (5, 16), (5, 17), (5, 18)]) (C' := []) (S' := none) Fr_24 (by decide) (fun _ h => h) (Or.inl rfl)) (gF.tr (gF.mo (F' := [(5, 8), (5, 9), (5, 11), (5, 15), (5, 16), (5, 17), (5, 18)]) (C' := []) (S' := none) Fr_29 (by decide) (fun _ h => h) (Or.inl rfl)) (gF.tr (gF.mo (F' := [(5, 8), (5, 9), (5, 11), (5, 15), (5, 16), (5, 17), (5, 18)]) (C' := []) (S' := none) Fr_34 (by decide) (fun _ h => h) (Or.inl rfl)) (gF.mo (F' := [(5, 8), (5, 9), (5, 11), (5, 15), (5, 16), (5, 17), (5, 18)]) (C' := []) (S' := none) Fr_41 (by decide) (fun _ h => h) (Or.inl rfl)))))))) (by decide) (by decide) (by decide) (by decide) (by decide) (by decide) (by decide) (by decide) (by decide) (by decide) (by decide) tk1
    have hFc := gfree hD hS hA
    refine va_callv (va_runV (As := [.int x1]) (rest := []) ⟨hx, hb, hml, hown, hts⟩ (m_X5_openFrame l g H.size ws_39 h0 (x1) hG o_h0 (gN_of hD hk_15 (j := 0) rfl) tq_45 tq_46 tq_47) (cwV 1 hts (gd_V kw_1049 kw_1111 kw_1112 kw_398 kw_1110) rfl rfl rfl (by decide +kernel) ⟨Nat.le_of_ble_eq_true rfl, Nat.le_of_ble_eq_true rfl⟩) ⟨gblind, va_recv hK hP (ci := 5) (q0 := k_1) rfl hk_15, fun U hU hW9 => gmk hU hW9 hP hK hD hex hE hS hFc⟩ rfl rfl hl.1 rfl (lv_room (Nat.le_of_ble_eq_true rfl)) dX5_play_53 ⟨(show dc_26_1 + 0 ≤ PC ws + (0) from (by have e0 : (0 : Int32).toInt = 0 := (by decide); have q_f_36 := f_36; have q_f_37 := f_37; omega)), (show ds_26_1 + 0 ≤ PS ws + (0) from (by have e0 : (0 : Int32).toInt = 0 := (by decide); have q_f_36 := f_36; have q_f_37 := f_37; omega))⟩) hS (fun q _ h => hFc q h) hFc (fun  ws_48 t9 H1 locs ht9 hvm9 hw9 hB9 hz9 hk9 hS => ?_)
    obtain ⟨E_49, Fr_50, hG, hP1, hD1⟩ := hB9
    have hP : va_P (gD g) cl0 ws_48 H1 := by rw [← ht9]; exact hP1
    have hD : va_D A ws_48 := hD1.weaken (fun _ _ _ h => hFc _ h)
    obtain ⟨hw9, xp_53, xp_54, xp_55, xp_56, xp_57⟩ := hw9
    clear hP1 hD1 hz9 hk9 hvm9 ht9 hw9
    generalize H1 = H at hP hS ⊢
    have aa_58 := a_r1_15
    have aa_59 := a_r2_15
    have aa_60 := a_r4_15
    have aa_61 := a_r6_15
    have aa_62 := a_r8_15
    have aa_63 := a_r9_15
    have aa_64 := a_r10_15
    have aa_65 := a_r0_43
    have aa_66 := a_r5_43
    have aa_67 := a_r6_43
    have aa_68 := a_r7_43
    have aa_69 := a_r9_43
    have aa_70 := a_r10_43
    have aa_71 := a_r11_43
    have aa_72 := a_r12_43
    have aa_73 := a_r13_43
    have o_h0 := E_49.1 _ _ o_h0
    have pp_74 := Fr_50.pp
    obtain ⟨fs9, hk_75, hq_75⟩ := ((gF.a (F' := [(5, 12), (5, 13), (5, 14)]) Fr_50 (fun _ h => h))) _ _ _ hk_15
    obtain ⟨v0_75, r1_75, n1_75, r2_75, n2_75, c3_75, r4_75, n4_75, c5_75, r6_75, n6_75, c7_75, r8_75, n8_75, r9_75, n9_75, r10_75, n10_75, c11_75, v12_75, c13_75, c14_75, c15_75, l16_75, c17_75, c18_75, c19_75, rfl, o_v0_75, F_v0_75, a_r1_75, f3_75, a_r2_75, f5_75, a_r4_75, f7_75, a_r6_75, f9_75, a_r8_75, f11_75, a_r9_75, f13_75, a_r10_75, f15_75, o_v12_75, f17_75, f18_75, f19_75, f20_75, f21_75, f22_75, f23_75, f24_75, f25_75, f26_75, f27_75, f28_75, f29_75, f30_75, f31_75, -⟩ := (hG.1 _ _ _ _ hk_75).hX5 rfl
    have hn9 := fe_qr (hq_75 0 (by decide))
    subst hn9
    have o_b_2 := o_v0_75 _ rfl
    have F_b_2 := F_v0_75 _ rfl
    obtain rfl := fe_r (hq_75 9 (by decide))
    have hn9 := gI_n hD ((E_49).1 _ _ aa_63) a_r9_75
    subst hn9
    have a_r9_15 := a_r9_75
    obtain rfl := fe_i (hq_75 15 (by decide))
    obtain rfl := fe_i (hq_75 18 (by decide))
    obtain ⟨b_76, hn9⟩ := xp_54 _ _ _ hk_75
    have hn9 := fe_qr hn9
    subst hn9
    have o_b_76 := o_v12_75 _ rfl
    refine lv_aload_n hx hb dX5_play_56 rfl (lv_at hl 0 rfl) ?_
    refine lv_aload_n hx hb dX5_play_57 rfl (lv_at hl 0 rfl) ?_
    refine va_get (D := gD g) (ci := 5) (v := .ref b_2) (C := RX5) (T := TX5) (N := 20) hx hb hts inX5 hown hK hP k_1 hk_75 rfl 0 (by decide) (hts _ kw_1027) (fun _ h9 => h9) rfl dX5_play_58 ?_
    refine lv_iload_n hx hb dX5_play_61 rfl (lv_at hl 1 rfl) ?_
    have hFc := gfree hD hS hA
    obtain ⟨k_77, fs_77, hk_77⟩ := gC_of o_b_2
    refine va_calli (va_runV (As := [.int x1]) (rest := [.ref h0]) ⟨hx, hb, hml, hown, hts⟩ (m_X10_takesOfMethod l g H.size ws_48 b_2 (x1) hG o_b_2) (cwV 1 hts (gd_V kw_1042 kw_78 kw_79 kw_34 kw_77) rfl rfl rfl (by decide +kernel) ⟨Nat.le_of_ble_eq_true rfl, Nat.le_of_ble_eq_true rfl⟩) ⟨gblind, va_recv hK hP (ci := 9) (q0 := k_77) rfl hk_77, fun U hU hW9 => gmk hU hW9 hP hK hD hex hE hS hFc⟩ rfl rfl hl.1 rfl (lv_room (Nat.le_of_ble_eq_true rfl)) dX5_play_62 ⟨(show dc_26_1 + 0 ≤ PC ws + (0) from (by have e0 : (0 : Int32).toInt = 0 := (by decide); have q_f_36 := f_36; have q_f_37 := f_37; omega)), (show ds_26_1 + 0 ≤ PS ws + (0) from (by have e0 : (0 : Int32).toInt = 0 := (by decide); have q_f_36 := f_36; have q_f_37 := f_37; omega))⟩) hS (fun q _ h => hFc q h) hFc (fun r_78 u9 t9 H1 locs ht9 hvm9 hw9 hB9 hz9 hk9 hS => ?_)
    have hP : va_P (gD g) cl0 ws_48 H1 := by rw [← ht9]; exact hB9.1
    clear hB9 hz9 hk9 hvm9 ht9 hw9
    generalize H1 = H at hP hS ⊢
    have hFc := gfree hD hS hA
    refine va_callv (va_runV (As := [.int r_78]) (rest := []) ⟨hx, hb, hml, hown, hts⟩ (m_X5_passArguments l g H.size ws_48 h0 (r_78) hG o_h0) (cwV 1 hts (gd_V kw_1121 kw_1114 kw_1115 kw_398 kw_1113) rfl rfl rfl (by decide +kernel) ⟨Nat.le_of_ble_eq_true rfl, Nat.le_of_ble_eq_true rfl⟩) ⟨gblind, va_recv hK hP (ci := 5) (q0 := k_1) rfl hk_75, fun U hU hW9 => gmk hU hW9 hP hK hD hex hE hS hFc⟩ rfl rfl hl.1 rfl (lv_room (Nat.le_of_ble_eq_true rfl)) dX5_play_65 ⟨(show dc_26_1 + 0 ≤ PC ws + (0) from (by have e0 : (0 : Int32).toInt = 0 := (by decide); have q_f_36 := f_36; have q_f_37 := f_37; omega)), (show ds_26_1 + 0 ≤ PS ws + (0) from (by have e0 : (0 : Int32).toInt = 0 := (by decide); have q_f_36 := f_36; have q_f_37 := f_37; omega))⟩) hS (fun q _ h => hFc q h) hFc (fun  ws_79 t9 H1 locs ht9 hvm9 hw9 hB9 hz9 hk9 hS => ?_)
    obtain ⟨E_80, Fr_81, hG, hP1, hD1⟩ := hB9
    have hP : va_P (gD g) cl0 ws_79 H1 := by rw [← ht9]; exact hP1
    have hD : va_D A ws_79 := hD1.weaken (fun _ _ _ h => hFc _ h)
    clear hP1 hD1 hz9 hk9 hvm9 ht9 hw9
    generalize H1 = H at hP hS ⊢
    have aa_84 := a_r1_75
    have aa_85 := a_r2_75
    have aa_86 := a_r4_75
    have aa_87 := a_r6_75
    have aa_88 := a_r8_75
    have aa_89 := a_r9_15
    have aa_90 := a_r10_75
    have o_h0 := E_80.1 _ _ o_h0
    have pp_91 := Fr_81.pp
    have J_68 : ∀ (n9 : Nat) (dc_68_2 : Nat) (ds_68_2 : Nat) (ws_92 : va_W) (H : Heap) (locs : List Loc) (ls : Array Slot), (x2.toInt - fI ws_92 h0 18).toNat = n9 → gE ws_79 ws_92 → gF [(5, 2), (5, 3), (5, 4), (5, 5), (5, 11), (5, 12), (5, 13), (5, 14), (5, 15), (5, 16), (5, 17), (5, 18), (5, 19)] [(5, 1), (5, 2), (5, 4), (5, 8), (5, 9), (5, 10)] none ws_79 ws_92 → Good g ws_92 → dc_68_2 + PC ws_92 ≤ PC ws + (0) → ds_68_2 + PS ws_92 ≤ PS ws + (0) → frP g ws_92 h0 → swU ws_92 h0 → swC ws_92 h0 → arP g ws_92 h0 → gN ws_92 h0 12 → va_P (gD g) cl0 ws_92 H → va_D A ws_92 → va_S A s.heap H locs → lv_has ls 3 [(0, .ref h0), (2, .int x2)] → W p l e (headSpec (wt yX5_play cX5_play 3 (some .int)) ({ frames := 6, cells := PC ws + (0), slots := PS ws + (0), locals := 135 })).room s m ([.ref h0, .int x1, .int x2] : List Value).toArray below meth c H locs (dc_68_2) (ds_68_2) (MQ below (va_Qi (fun (r : Int32) (u9 : va_W) => (True) ∧ (swU u9 h0) ∧ (arP g u9 h0)) (gQ2 g [(5, 2), (5, 3), (5, 4), (5, 5), (5, 8), (5, 9), (5, 11), (5, 12), (5, 13), (5, 14), (5, 15), (5, 16), (5, 17), (5, 18), (5, 19)] [(5, 1), (5, 2), (5, 4), (5, 8), (5, 9), (5, 10)] none A ws s.heap (0) (0)) A) ([.ref h0, .int x1, .int x2] : List Value).toArray s (PC ws + (0)) (PS ws + (0)) A) (F0 m 68 ls []) := by
      intro n9
      induction n9 using Nat.strongRecOn with
      | ind n9 ih_68 =>
        intro dc_68_2 ds_68_2 ws_92 H locs ls hm9  E_93 Fr_94 hG hc9 hs9 jx_68_0 jx_68_1 jx_68_2 jx_68_3 jx_68_4 hP hD hS hl
        subst hm9
        have o_h0 := E_93.1 _ _ o_h0
        refine lv_aload_n hx hb dX5_play_68 rfl (lv_at hl 0 rfl) ?_
        obtain ⟨fs9, hk_95, hq_95⟩ := ((gA.tr (gF.a (F' := [(5, 2), (5, 3), (5, 4), (5, 5), (5, 11), (5, 12), (5, 13), (5, 14), (5, 15), (5, 16), (5, 17), (5, 18), (5, 19)]) Fr_81 (by decide)) (gF.a (F' := [(5, 2), (5, 3), (5, 4), (5, 5), (5, 11), (5, 12), (5, 13), (5, 14), (5, 15), (5, 16), (5, 17), (5, 18), (5, 19)]) Fr_94 (fun _ h => h)))) _ _ _ hk_75
        obtain ⟨v0_95, r1_95, n1_95, r2_95, n2_95, c3_95, r4_95, n4_95, c5_95, r6_95, n6_95, c7_95, r8_95, n8_95, r9_95, n9_95, r10_95, n10_95, c11_95, v12_95, c13_95, c14_95, c15_95, l16_95, c17_95, c18_95, c19_95, rfl, o_v0_95, F_v0_95, a_r1_95, f3_95, a_r2_95, f5_95, a_r4_95, f7_95, a_r6_95, f9_95, a_r8_95, f11_95, a_r9_95, f13_95, a_r10_95, f15_95, o_v12_95, f17_95, f18_95, f19_95, f20_95, f21_95, f22_95, f23_95, f24_95, f25_95, f26_95, f27_95, f28_95, f29_95, f30_95, f31_95, -⟩ := (hG.1 _ _ _ _ hk_95).hX5 rfl
        have hn9 := fe_qr (hq_95 0 (by decide))
        subst hn9
        have o_b_2 := o_v0_95 _ rfl
        have F_b_2 := F_v0_95 _ rfl
        obtain rfl := fe_r (hq_95 9 (by decide))
        have hn9 := gI_n hD (((E_80.tr E_93)).1 _ _ aa_89) a_r9_95
        subst hn9
        have a_r9_15 := a_r9_95
        obtain ⟨b_96, hn9⟩ := jx_68_4 _ _ _ hk_95
        have hn9 := fe_qr hn9
        subst hn9
        have o_b_96 := o_v12_95 _ rfl
        refine va_get (D := gD g) (ci := 5) (v := .int c15_95) (C := RX5) (T := TX5) (N := 20) hx hb hts inX5 hown hK hP k_1 hk_95 rfl 15 (by decide) (hts _ kw_1041) (fun _ h9 => h9) rfl dX5_play_69 ?_
        have J_100 : ∀ (dc_100_3 : Nat) (ds_100_3 : Nat) (H : Heap) (locs : List Loc) (ls : Array Slot), dc_100_3 + PC ws_92 ≤ PC ws + (0) → ds_100_3 + PS ws_92 ≤ PS ws + (0) → va_P (gD g) cl0 ws_92 H → va_D A ws_92 → va_S A s.heap H locs → lv_has ls 3 [(0, .ref h0)] → W p l e (headSpec (wt yX5_play cX5_play 3 (some .int)) ({ frames := 6, cells := PC ws + (0), slots := PS ws + (0), locals := 135 })).room s m ([.ref h0, .int x1, .int x2] : List Value).toArray below meth c H locs (dc_100_3) (ds_100_3) (MQ below (va_Qi (fun (r : Int32) (u9 : va_W) => (True) ∧ (swU u9 h0) ∧ (arP g u9 h0)) (gQ2 g [(5, 2), (5, 3), (5, 4), (5, 5), (5, 8), (5, 9), (5, 11), (5, 12), (5, 13), (5, 14), (5, 15), (5, 16), (5, 17), (5, 18), (5, 19)] [(5, 1), (5, 2), (5, 4), (5, 8), (5, 9), (5, 10)] none A ws s.heap (0) (0)) A) ([.ref h0, .int x1, .int x2] : List Value).toArray s (PC ws + (0)) (PS ws + (0)) A) (F0 m 100 ls []) := by
          intro dc_100_3 ds_100_3 H locs ls  hc9 hs9 hP hD hS hl
          refine lv_aload_n hx hb dX5_play_100 rfl (lv_at hl 0 rfl) ?_
          refine va_get (D := gD g) (ci := 5) (v := .int c15_95) (C := RX5) (T := TX5) (N := 20) hx hb hts inX5 hown hK hP k_1 hk_95 rfl 15 (by decide) (hts _ kw_1041) (fun _ h9 => h9) rfl dX5_play_101 ?_
          have J_115 : ∀ (t_99 : Int32) (dc_115_4 : Nat) (ds_115_4 : Nat) (H : Heap) (locs : List Loc) (ls : Array Slot), dc_115_4 + PC ws_92 ≤ PC ws + (0) → ds_115_4 + PS ws_92 ≤ PS ws + (0) → va_P (gD g) cl0 ws_92 H → va_D A ws_92 → va_S A s.heap H locs → lv_has ls 3 [] → W p l e (headSpec (wt yX5_play cX5_play 3 (some .int)) ({ frames := 6, cells := PC ws + (0), slots := PS ws + (0), locals := 135 })).room s m ([.ref h0, .int x1, .int x2] : List Value).toArray below meth c H locs (dc_115_4) (ds_115_4) (MQ below (va_Qi (fun (r : Int32) (u9 : va_W) => (True) ∧ (swU u9 h0) ∧ (arP g u9 h0)) (gQ2 g [(5, 2), (5, 3), (5, 4), (5, 5), (5, 8), (5, 9), (5, 11), (5, 12), (5, 13), (5, 14), (5, 15), (5, 16), (5, 17), (5, 18), (5, 19)] [(5, 1), (5, 2), (5, 4), (5, 8), (5, 9), (5, 10)] none A ws s.heap (0) (0)) A) ([.ref h0, .int x1, .int x2] : List Value).toArray s (PC ws + (0)) (PS ws + (0)) A) (F0 m 115 ls [.int t_99]) := by
            intro t_99 dc_115_4 ds_115_4 H locs ls  hc9 hs9 hP hD hS hl
            refine W_led (fun hLd => ?_)
            have hcl : dc_115_4 + PC ws_92 ≤ PC ws + (0) := (by have e0 : (0 : Int32).toInt = 0 := (by decide); have q_f_36 := f_36; have q_f_37 := f_37; omega)
            have hsl : ds_115_4 + PS ws_92 ≤ PS ws + (0) := (by have e0 : (0 : Int32).toInt = 0 := (by decide); have q_f_36 := f_36; have q_f_37 := f_37; omega)
            refine W.widen (k := PC ws + (0)) (n := PS ws + (0)) (by omega) (by omega) ?_
            exact W.iret (v := t_99) hx hb hr (fun t9 ht9 hW9 => ⟨⟨_, ws_92, rfl, ⟨trivial, jx_68_1, jx_68_3⟩, ⟨(E_6.tr (E_18.tr (E_23.tr (E_28.tr (E_33.tr (E_40.tr (E_49.tr (E_80.tr E_93)))))))), (gF.tr (gF.mo (F' := [(5, 2), (5, 3), (5, 4), (5, 5), (5, 8), (5, 9), (5, 11), (5, 12), (5, 13), (5, 14), (5, 15), (5, 16), (5, 17), (5, 18), (5, 19)]) (C' := [(5, 1), (5, 2), (5, 4), (5, 8), (5, 9), (5, 10)]) (S' := none) Fr_7 (by decide) (fun _ h => absurd h List.not_mem_nil) (Or.inr rfl)) (gF.tr (gF.mo (F' := [(5, 2), (5, 3), (5, 4), (5, 5), (5, 8), (5, 9), (5, 11), (5, 12), (5, 13), (5, 14), (5, 15), (5, 16), (5, 17), (5, 18), (5, 19)]) (C' := [(5, 1), (5, 2), (5, 4), (5, 8), (5, 9), (5, 10)]) (S' := none) Fr_19 (by decide) (fun _ h => absurd h List.not_mem_nil) (Or.inl rfl)) (gF.tr (gF.mo (F' := [(5, 2), (5, 3), (5, 4), (5, 5), (5, 8), (5, 9), (5, 11), (5, 12), (5, 13), (5, 14), (5, 15), (5, 16), (5, 17), (5, 18), (5, 19)]) (C' := [(5, 1), (5, 2), (5, 4), (5, 8), (5, 9), (5, 10)]) (S' := none) Fr_24 (by decide) (fun _ h => absurd h List.not_mem_nil) (Or.inl rfl)) (gF.tr (gF.mo (F' := [(5, 2), (5, 3), (5, 4), (5, 5), (5, 8), (5, 9), (5, 11), (5, 12), (5, 13), (5, 14), (5, 15), (5, 16), (5, 17), (5, 18), (5, 19)]) (C' := [(5, 1), (5, 2), (5, 4), (5, 8), (5, 9), (5, 10)]) (S' := none) Fr_29 (by decide) (fun _ h => absurd h List.not_mem_nil) (Or.inl rfl)) (gF.tr (gF.mo (F' := [(5, 2), (5, 3), (5, 4), (5, 5), (5, 8), (5, 9), (5, 11), (5, 12), (5, 13), (5, 14), (5, 15), (5, 16), (5, 17), (5, 18), (5, 19)]) (C' := [(5, 1), (5, 2), (5, 4), (5, 8), (5, 9), (5, 10)]) (S' := none) Fr_34 (by decide) (fun _ h => absurd h List.not_mem_nil) (Or.inl rfl)) (gF.tr (gF.mo (F' := [(5, 2), (5, 3), (5, 4), (5, 5), (5, 8), (5, 9), (5, 11), (5, 12), (5, 13), (5, 14), (5, 15), (5, 16), (5, 17), (5, 18), (5, 19)]) (C' := [(5, 1), (5, 2), (5, 4), (5, 8), (5, 9), (5, 10)]) (S' := none) Fr_41 (by decide) (fun _ h => absurd h List.not_mem_nil) (Or.inl rfl)) (gF.tr (gF.mo (F' := [(5, 2), (5, 3), (5, 4), (5, 5), (5, 8), (5, 9), (5, 11), (5, 12), (5, 13), (5, 14), (5, 15), (5, 16), (5, 17), (5, 18), (5, 19)]) (C' := [(5, 1), (5, 2), (5, 4), (5, 8), (5, 9), (5, 10)]) (S' := none) Fr_50 (by decide) (by decide) (Or.inr rfl)) (gF.tr (gF.mo (F' := [(5, 2), (5, 3), (5, 4), (5, 5), (5, 8), (5, 9), (5, 11), (5, 12), (5, 13), (5, 14), (5, 15), (5, 16), (5, 17), (5, 18), (5, 19)]) (C' := [(5, 1), (5, 2), (5, 4), (5, 8), (5, 9), (5, 10)]) (S' := none) Fr_81 (by decide) (by decide) (Or.inr rfl)) (gF.mo (F' := [(5, 2), (5, 3), (5, 4), (5, 5), (5, 8), (5, 9), (5, 11), (5, 12), (5, 13), (5, 14), (5, 15), (5, 16), (5, 17), (5, 18), (5, 19)]) (C' := [(5, 1), (5, 2), (5, 4), (5, 8), (5, 9), (5, 10)]) (S' := none) Fr_94 (by decide) (fun _ h => h) (Or.inr rfl)))))))))), hG, by rw [ht9]; exact hP, hD, _, _, by rw [ht9]; exact hLd, hcl, hsl⟩⟩, hS.F ht9⟩) hS.2.2 dX5_play_115
          refine lv_if_ge (tgt := 111) hx hb dX5_play_104 (by decide) (fun c_102 => ?_) (fun c_102 => ?_)
          · refine lv_aload_n hx hb dX5_play_111 rfl (lv_at hl 0 rfl) ?_
            refine va_get (D := gD g) (ci := 5) (v := .int c15_95) (C := RX5) (T := TX5) (N := 20) hx hb hts inX5 hown hK hP k_1 hk_95 rfl 15 (by decide) (hts _ kw_1041) (fun _ h9 => h9) rfl dX5_play_112 ?_
            exact J_115 (c15_95) (dc_100_3) (ds_100_3) H locs ls (by have e0 : (0 : Int32).toInt = 0 := (by decide); have q_f_36 := f_36; have q_f_37 := f_37; omega) (by have e0 : (0 : Int32).toInt = 0 := (by decide); have q_f_36 := f_36; have q_f_37 := f_37; omega) hP hD hS (lv_sub hl [] rfl)
          · refine lv_iconst (v := 2) hx hb dX5_play_107 (by decide) ?_
            refine lv_goto (tgt := 115) hx hb dX5_play_108 (by decide) ?_
            exact J_115 (2) (dc_100_3) (ds_100_3) H locs ls (by have e0 : (0 : Int32).toInt = 0 := (by decide); have q_f_36 := f_36; have q_f_37 := f_37; omega) (by have e0 : (0 : Int32).toInt = 0 := (by decide); have q_f_36 := f_36; have q_f_37 := f_37; omega) hP hD hS (lv_sub hl [] rfl)
        refine lv_if_ge (tgt := 100) hx hb dX5_play_72 (by decide) (fun c_103 => ?_) (fun c_103 => ?_)
        · exact J_100 (dc_68_2) (ds_68_2) H locs ls (by have e0 : (0 : Int32).toInt = 0 := (by decide); have q_f_36 := f_36; have q_f_37 := f_37; omega) (by have e0 : (0 : Int32).toInt = 0 := (by decide); have q_f_36 := f_36; have q_f_37 := f_37; omega) hP hD hS (lv_sub hl [0] rfl)
        · refine lv_aload_n hx hb dX5_play_75 rfl (lv_at hl 0 rfl) ?_
          refine va_get (D := gD g) (ci := 5) (v := .int c18_95) (C := RX5) (T := TX5) (N := 20) hx hb hts inX5 hown hK hP k_1 hk_95 rfl 18 (by decide) (hts _ kw_1120) (fun _ h9 => h9) rfl dX5_play_76 ?_
          refine lv_iload_n hx hb dX5_play_79 rfl (lv_at hl 1 rfl) ?_
          refine lv_icmp_ge (tgt := 100) hx hb dX5_play_80 (by decide) (fun c_104 => ?_) (fun c_104 => ?_)
          · exact J_100 (dc_68_2) (ds_68_2) H locs ls (by have e0 : (0 : Int32).toInt = 0 := (by decide); have q_f_36 := f_36; have q_f_37 := f_37; omega) (by have e0 : (0 : Int32).toInt = 0 := (by decide); have q_f_36 := f_36; have q_f_37 := f_37; omega) hP hD hS (lv_sub hl [0] rfl)
          · refine lv_aload_n hx hb dX5_play_83 rfl (lv_at hl 0 rfl) ?_
            refine lv_dup hx hb dX5_play_84 rfl ?_
            refine va_get (D := gD g) (ci := 5) (v := .int c18_95) (C := RX5) (T := TX5) (N := 20) hx hb hts inX5 hown hK hP k_1 hk_95 rfl 18 (by decide) (hts _ kw_1120) (fun _ h9 => h9) rfl dX5_play_85 ?_
            refine lv_iconst (v := 1) hx hb dX5_play_88 (by decide) ?_
            refine lv_iadd hx hb dX5_play_89 ?_
            refine lv_topi (fun z_105 ez_105 => ?_)
            have fi_106 := fI_of hD hk_95 (j := 18) rfl
            have hV9 : okv ws_92 5 18 (.int z_105) := okv_i
            refine va_put (D := gD g) (ci := 5) (v := .int z_105) (ty := .int) (C := RX5) (T := TX5) (N := 20) hx hb hts inX5 tyX5 tyX5_ok nmX5 hown hK hP hD hS k_1 hk_95 rfl 18 (by decide) (hts _ kw_1120) (fun _ h9 => h9) rfl (by decide +kernel) rfl rfl (Nat.le_of_ble_eq_true rfl) dX5_play_90 (fun H locs hP hD hS => ?_)
            have hi_107 : invX5 g ws_92 h0 [.ref b_2, .ref r1_95, .ref r2_95, .int c3_95, .ref r4_95, .int c5_95, .ref r6_95, .int c7_95, .ref r8_95, .ref r9_15, .ref r10_95, .int c11_95, .ref b_96, .int c13_95, .int c14_95, .int c15_95, .long l16_95, .int c17_95, .int z_105, .int c19_95] := ⟨(some b_2), r1_95, (n1_95), r2_95, (n2_95), (c3_95), r4_95, (n4_95), (c5_95), r6_95, (n6_95), (c7_95), r8_95, (n8_95), r9_15, (n9_15), r10_95, (n10_95), (c11_95), (some b_96), (c13_95), (c14_95), (c15_95), (l16_95), (c17_95), (z_105), (c19_95), rfl, (fun b h9 => by cases h9; exact o_b_2), (fun b h9 => by cases h9; exact F_b_2), a_r1_95, f3_95, a_r2_95, f5_95, a_r4_95, f7_95, a_r6_95, f9_95, a_r8_95, f11_95, a_r9_15, f13_95, a_r10_95, f15_95, (fun b h9 => by cases h9; exact o_b_96), f17_95, f18_95, f19_95, f20_95, f21_95, f22_95, f23_95, f24_95, f25_95, f26_95, f27_95, f28_95, f29_95, f30_95, f31_95, trivial⟩
            obtain ⟨ws_108, e_ws_108⟩ : ∃ z, z = ws_92.set k_1 (h0, .inr (5, [.ref b_2, .ref r1_95, .ref r2_95, .int c3_95, .ref r4_95, .int c5_95, .ref r6_95, .int c7_95, .ref r8_95, .ref r9_15, .ref r10_95, .int c11_95, .ref b_96, .int c13_95, .int c14_95, .int c15_95, .long l16_95, .int c17_95, .int z_105, .int c19_95])) := ⟨_, rfl⟩
            have hP : va_P (gD g) cl0 ws_108 H := by rw [e_ws_108]; exact hP
            have hD : va_D A ws_108 := by rw [e_ws_108]; exact hD
            have E_109 : gE ws_92 ws_108 := gE_set e_ws_108 hk_95 (cw_o (fi := 18) (v := .int z_105) rfl (by decide))
            have hG : Good g ws_108 := Good_set (fi := 18) (v := .int z_105) e_ws_108 hk_95 E_109 rfl hV9 hG (ivX5 hi_107)
            have Fr_110 : gF [(5, 18)] [] (some h0) ws_92 ws_108 := gF_put (fi := 18) (v := .int z_105) e_ws_108 hk_95 rfl (by decide)
            have pp_111 := Fr_110.pp
            have hkN := gset_self e_ws_108 hk_95
            have hk_95 := hkN
            have o_h0 := E_109.1 _ _ o_h0
            have a_r1_95 := E_109.1 _ _ a_r1_95
            have a_r2_95 := E_109.1 _ _ a_r2_95
            have a_r4_95 := E_109.1 _ _ a_r4_95
            have a_r6_95 := E_109.1 _ _ a_r6_95
            have a_r8_95 := E_109.1 _ _ a_r8_95
            have a_r10_95 := E_109.1 _ _ a_r10_95
            have o_b_2 := E_109.1 _ _ o_b_2
            have F_b_2 := F_b_2.mo E_109
            have a_r9_15 := E_109.1 _ _ a_r9_15
            have o_b_96 := E_109.1 _ _ o_b_96
            refine lv_aload_n hx hb dX5_play_93 rfl (lv_at hl 0 rfl) ?_
            have tq_112 : frP g ws_108 h0 := frP_mo ((gF.mo (F' := [(5, 18)]) (C' := []) (S' := none) Fr_110 (fun _ h => h) (fun _ h => h) (Or.inl rfl))) (by decide) (by decide) (by decide) (by decide) (by decide) jx_68_0
            have tq_113 : swU ws_108 h0 := swU_mo ((gF.mo (F' := [(5, 18)]) (C' := []) (S' := none) Fr_110 (fun _ h => h) (fun _ h => h) (Or.inl rfl))) (by decide) (by decide) (by decide) (by decide) (by decide) (by decide) (by decide) (by decide) (by decide) (by decide) (by decide) jx_68_1
            have tq_114 : swC ws_108 h0 := swC_mo ((gF.mo (F' := [(5, 18)]) (C' := []) (S' := none) Fr_110 (fun _ h => h) (fun _ h => h) (Or.inl rfl))) (by decide) (by decide) (by decide) (by decide) (by decide) (by decide) (by decide) (by decide) (by decide) jx_68_2
            have tq_115 : arP g ws_108 h0 := arP_mo ((gF.mo (F' := [(5, 18)]) (C' := []) (S' := none) Fr_110 (fun _ h => h) (fun _ h => h) (Or.inl rfl))) (E_109) (by decide) (by decide) jx_68_3
            have hFc := gfree hD hS hA
            have pg_116 := ge_5_9 hD hk_95 rfl a_r9_15
            have pg_117 := ge_5_2 hD hk_95 rfl a_r2_95
            have pg_118 := ge_5_4 hD hk_95 rfl a_r4_95
            refine W_led (fun hL0 => ?_)
            refine va_callv (va_runV (As := []) (rest := []) ⟨hx, hb, hml, hown, hts⟩ (m_X5_step l g H ws_108 h0 hG o_h0 (gN_of hD hk_95 (j := 0) rfl) (gN_of hD hk_95 (j := 12) rfl) tq_112 tq_113 tq_114 tq_115) (cwV 0 hts (gd_V kw_1122 kw_1161 kw_1162 kw_398 kw_1160) rfl rfl rfl (by decide +kernel) ⟨Nat.le_of_ble_eq_true rfl, Nat.le_of_ble_eq_true rfl⟩) ⟨gblindH, va_recv hK hP (ci := 5) (q0 := k_1) rfl hk_95, fun U hU hW9 => gmkH hU hW9 hP hK hD hex hE hS hFc⟩ rfl rfl hl.1 rfl (lv_room (Nat.le_of_ble_eq_true rfl)) dX5_play_94 ⟨(show dc_68_2 + (PC ws_108 + (0)) ≤ PC ws + (0) from (by have e0 : (0 : Int32).toInt = 0 := (by decide); have q_f_36 := f_36; have q_f_37 := f_37; omega)), (show ds_68_2 + (PS ws_108 + (0)) ≤ PS ws + (0) from (by have e0 : (0 : Int32).toInt = 0 := (by decide); have q_f_36 := f_36; have q_f_37 := f_37; omega))⟩) hS (fun q _ h => hFc q h) hFc (fun  ws_119 t9 H1 locs ht9 hvm9 hw9 hB9 hz9 hk9 hS => ?_)
            obtain ⟨E_120, Fr_121, hG, hP1, hD1, dc_122, ds_123, hLd, hdc_122, hds_123⟩ := hB9
            rw [ht9] at hLd
            refine W_tight (hL0.tr hLd).1 (hL0.tr hLd).2.1 ?_
            clear hL0 hLd
            have hP : va_P (gD g) cl0 ws_119 H1 := by rw [← ht9]; exact hP1
            have hD : va_D A ws_119 := hD1.weaken (fun _ _ _ h => hFc _ h)
            obtain ⟨hw9, xp_124, xp_125, xp_126, xp_127, xp_128, xp_129⟩ := hw9
            clear hP1 hD1 hz9 hk9 hvm9 ht9 hw9
            generalize H1 = H at hP hS ⊢
            have aa_130 := a_r1_95
            have aa_131 := a_r2_95
            have aa_132 := a_r4_95
            have aa_133 := a_r6_95
            have aa_134 := a_r8_95
            have aa_135 := a_r9_15
            have aa_136 := a_r10_95
            have o_h0 := E_120.1 _ _ o_h0
            obtain ⟨fs9, hk_137, hq_137⟩ := ((gF.a (F' := [(5, 2), (5, 3), (5, 4), (5, 5), (5, 11), (5, 12), (5, 13), (5, 14), (5, 15), (5, 16), (5, 17), (5, 19)]) Fr_121 (fun _ h => h))) _ _ _ hk_95
            obtain ⟨v0_137, r1_137, n1_137, r2_137, n2_137, c3_137, r4_137, n4_137, c5_137, r6_137, n6_137, c7_137, r8_137, n8_137, r9_137, n9_137, r10_137, n10_137, c11_137, v12_137, c13_137, c14_137, c15_137, l16_137, c17_137, c18_137, c19_137, rfl, o_v0_137, F_v0_137, a_r1_137, f3_137, a_r2_137, f5_137, a_r4_137, f7_137, a_r6_137, f9_137, a_r8_137, f11_137, a_r9_137, f13_137, a_r10_137, f15_137, o_v12_137, f17_137, f18_137, f19_137, f20_137, f21_137, f22_137, f23_137, f24_137, f25_137, f26_137, f27_137, f28_137, f29_137, f30_137, f31_137, -⟩ := (hG.1 _ _ _ _ hk_137).hX5 rfl
            have hn9 := fe_qr (hq_137 0 (by decide))
            subst hn9
            have o_b_2 := o_v0_137 _ rfl
            have F_b_2 := F_v0_137 _ rfl
            obtain rfl := fe_r (hq_137 9 (by decide))
            have hn9 := gI_n hD ((E_120).1 _ _ aa_135) a_r9_137
            subst hn9
            have a_r9_15 := a_r9_137
            obtain rfl := fe_i (hq_137 18 (by decide))
            obtain ⟨b_138, hn9⟩ := xp_125 _ _ _ hk_137
            have hn9 := fe_qr hn9
            subst hn9
            have o_b_138 := o_v12_137 _ rfl
            refine lv_goto (tgt := 68) hx hb dX5_play_97 (by decide) ?_
            exact ih_68 _ (by have e0 : (0 : Int32).toInt = 0 := (by decide); have e1 : (1 : Int32).toInt = 1 := (by decide); have q_f_36 := f_36; have q_f_37 := f_37; have q_c_104 := i_nle c_104; obtain ⟨u_z_105, q_z_105⟩ := i_add ez_105; have g_c18_95 := i_rg c18_95; have g_x2 := i_rg x2; have g_z_105 := i_rg z_105; rw [fI_of hD hk_137 rfl]; have w9 := fi_106; omega) (dc_68_2 + dc_122) (ds_68_2 + ds_123) ws_119 H locs ls rfl ((E_93.tr (E_109.tr E_120))) ((gF.tr Fr_94 (gF.tr (gF.mo (F' := [(5, 2), (5, 3), (5, 4), (5, 5), (5, 11), (5, 12), (5, 13), (5, 14), (5, 15), (5, 16), (5, 17), (5, 18), (5, 19)]) (C' := [(5, 1), (5, 2), (5, 4), (5, 8), (5, 9), (5, 10)]) (S' := none) Fr_110 (by decide) (fun _ h => absurd h List.not_mem_nil) (Or.inl rfl)) (gF.mo (F' := [(5, 2), (5, 3), (5, 4), (5, 5), (5, 11), (5, 12), (5, 13), (5, 14), (5, 15), (5, 16), (5, 17), (5, 18), (5, 19)]) (C' := [(5, 1), (5, 2), (5, 4), (5, 8), (5, 9), (5, 10)]) (S' := none) Fr_121 (by decide) (fun _ h => h) (Or.inr rfl))))) hG (by have e0 : (0 : Int32).toInt = 0 := (by decide); have q_f_36 := f_36; have q_f_37 := f_37; omega) (by have e0 : (0 : Int32).toInt = 0 := (by decide); have q_f_36 := f_36; have q_f_37 := f_37; omega) xp_126 xp_127 xp_128 xp_129 (gN_of hD hk_137 (j := 12) rfl) hP hD hS (lv_sub hl [0, 1] rfl)
    have tq_139 : frP g ws_79 h0 := frP_mo (Fr_81) (by decide) (by decide) (by decide) (by decide) (by decide) xp_55
    have tq_140 : swU ws_79 h0 := swU_mo (Fr_81) (by decide) (by decide) (by decide) (by decide) (by decide) (by decide) (by decide) (by decide) (by decide) (by decide) (by decide) xp_56
    have tq_141 : swC ws_79 h0 := swC_mo (Fr_81) (by decide) (by decide) (by decide) (by decide) (by decide) (by decide) (by decide) (by decide) (by decide) xp_57
    have tq_142 : arP g ws_79 h0 := arP_mo ((gF.tr (gF.mo (F' := [(5, 8), (5, 9), (5, 11), (5, 12), (5, 13), (5, 14), (5, 15), (5, 16), (5, 17), (5, 18), (5, 19)]) (C' := [(5, 8), (5, 10)]) (S' := none) Fr_7 (by decide) (fun _ h => absurd h List.not_mem_nil) (Or.inr rfl)) (gF.tr (gF.mo (F' := [(5, 8), (5, 9), (5, 11), (5, 12), (5, 13), (5, 14), (5, 15), (5, 16), (5, 17), (5, 18), (5, 19)]) (C' := [(5, 8), (5, 10)]) (S' := none) Fr_19 (by decide) (fun _ h => absurd h List.not_mem_nil) (Or.inl rfl)) (gF.tr (gF.mo (F' := [(5, 8), (5, 9), (5, 11), (5, 12), (5, 13), (5, 14), (5, 15), (5, 16), (5, 17), (5, 18), (5, 19)]) (C' := [(5, 8), (5, 10)]) (S' := none) Fr_24 (by decide) (fun _ h => absurd h List.not_mem_nil) (Or.inl rfl)) (gF.tr (gF.mo (F' := [(5, 8), (5, 9), (5, 11), (5, 12), (5, 13), (5, 14), (5, 15), (5, 16), (5, 17), (5, 18), (5, 19)]) (C' := [(5, 8), (5, 10)]) (S' := none) Fr_29 (by decide) (fun _ h => absurd h List.not_mem_nil) (Or.inl rfl)) (gF.tr (gF.mo (F' := [(5, 8), (5, 9), (5, 11), (5, 12), (5, 13), (5, 14), (5, 15), (5, 16), (5, 17), (5, 18), (5, 19)]) (C' := [(5, 8), (5, 10)]) (S' := none) Fr_34 (by decide) (fun _ h => absurd h List.not_mem_nil) (Or.inl rfl)) (gF.tr (gF.mo (F' := [(5, 8), (5, 9), (5, 11), (5, 12), (5, 13), (5, 14), (5, 15), (5, 16), (5, 17), (5, 18), (5, 19)]) (C' := [(5, 8), (5, 10)]) (S' := none) Fr_41 (by decide) (fun _ h => absurd h List.not_mem_nil) (Or.inl rfl)) (gF.tr (gF.mo (F' := [(5, 8), (5, 9), (5, 11), (5, 12), (5, 13), (5, 14), (5, 15), (5, 16), (5, 17), (5, 18), (5, 19)]) (C' := [(5, 8), (5, 10)]) (S' := none) Fr_50 (by decide) (by decide) (Or.inr rfl)) (gF.mo (F' := [(5, 8), (5, 9), (5, 11), (5, 12), (5, 13), (5, 14), (5, 15), (5, 16), (5, 17), (5, 18), (5, 19)]) (C' := [(5, 8), (5, 10)]) (S' := none) Fr_81 (by decide) (by decide) (Or.inr rfl)))))))))) ((E_6.tr (E_18.tr (E_23.tr (E_28.tr (E_33.tr (E_40.tr (E_49.tr E_80)))))))) (by decide) (by decide) tk2
    obtain ⟨fs9, hk_143, hq_143⟩ := ((gF.a (F' := [(5, 19)]) Fr_81 (fun _ h => h))) _ _ _ hk_75
    obtain ⟨v0_143, r1_143, n1_143, r2_143, n2_143, c3_143, r4_143, n4_143, c5_143, r6_143, n6_143, c7_143, r8_143, n8_143, r9_143, n9_143, r10_143, n10_143, c11_143, v12_143, c13_143, c14_143, c15_143, l16_143, c17_143, c18_143, c19_143, rfl, o_v0_143, F_v0_143, a_r1_143, f3_143, a_r2_143, f5_143, a_r4_143, f7_143, a_r6_143, f9_143, a_r8_143, f11_143, a_r9_143, f13_143, a_r10_143, f15_143, o_v12_143, f17_143, f18_143, f19_143, f20_143, f21_143, f22_143, f23_143, f24_143, f25_143, f26_143, f27_143, f28_143, f29_143, f30_143, f31_143, -⟩ := (hG.1 _ _ _ _ hk_143).hX5 rfl
    have hn9 := fe_qr (hq_143 0 (by decide))
    subst hn9
    have o_b_2 := o_v0_143 _ rfl
    have F_b_2 := F_v0_143 _ rfl
    obtain rfl := fe_r (hq_143 9 (by decide))
    have hn9 := gI_n hD ((E_80).1 _ _ aa_89) a_r9_143
    subst hn9
    have a_r9_15 := a_r9_143
    have hn9 := fe_qr (hq_143 12 (by decide))
    subst hn9
    have o_b_76 := o_v12_143 _ rfl
    obtain rfl := fe_i (hq_143 15 (by decide))
    obtain rfl := fe_i (hq_143 18 (by decide))
    exact J_68 _ (dc_26_1) (ds_26_1) ws_79 H locs ls rfl (gE.rf) (gF.rf) hG (by have e0 : (0 : Int32).toInt = 0 := (by decide); have q_f_36 := f_36; have q_f_37 := f_37; omega) (by have e0 : (0 : Int32).toInt = 0 := (by decide); have q_f_36 := f_36; have q_f_37 := f_37; omega) tq_139 tq_140 tq_141 tq_142 (gN_of hD hk_143 (j := 12) rfl) hP hD hS (lv_sub hl [0, 2] rfl)
  refine lv_if_ne (tgt := 26) hx hb dX5_play_5 (by decide) (fun c_144 => ?_) (fun c_144 => ?_)
  · exact J_26 (0) (0) ws _ _ ls (gE.rf) (gF.rf) hG (by have e0 : (0 : Int32).toInt = 0 := (by decide); omega) (by have e0 : (0 : Int32).toInt = 0 := (by decide); omega) hP hD hS (lv_sub hl [0, 1, 2] rfl)
  · refine lv_aload_n hx hb dX5_play_8 rfl (lv_at hl 0 rfl) ?_
    refine lv_sipush (v := 1440) hx hb dX5_play_9 (by decide) ?_
    obtain ⟨n_146, en_146⟩ : ∃ y : Nat, (1440 : Int32).toNatClampNeg = y := ⟨_, rfl⟩
    have bn_146 : n_146 ≤ 1440 := i_cl en_146 (by have e1440 : (1440 : Int32).toInt = 1440 := (by decide); omega)
    have zn_146 : 0 ≤ (1440 : Int32).toInt := (by have e1440 : (1440 : Int32).toInt = 1440 := (by decide); omega)
    have q_n_146 := i_nn en_146 zn_146
    have pg_147 := ge_5_9 hD hk_1 rfl a_r9_1
    have pg_148 := ge_5_2 hD hk_1 rfl a_r2_1
    have pg_149 := ge_5_4 hD hk_1 rfl a_r4_1
    refine va_newa (atype := .long) (ty := .long) (a0 := (n_146, .inr (.inl (fun _ => 0)))) (N' := n_146) hx hb (hts (.arrayClass .long) kw_564) rfl hK hP hD hS hA (fun _ => rfl) (i_nl0 zn_146) en_146 (i_by bn_146 (by decide)) (show 0 + 1 ≤ PC ws + (0) from (by have e0 : (0 : Int32).toInt = 0 := (by decide); have e1440 : (1440 : Int32).toInt = 1440 := (by decide); have q_f13_1 := f13_1; have q_f22_1 := f22_1; have q_z_4 := i_len ez_4 f13_1; have q_f11_1 := f11_1; have q_c_144 := i_eq c_144; have g_z_4 := i_rg z_4; omega)) (show 0 + n_146 ≤ PS ws + (0) from (by have e0 : (0 : Int32).toInt = 0 := (by decide); have e1440 : (1440 : Int32).toInt = 1440 := (by decide); have q_f13_1 := f13_1; have q_f22_1 := f22_1; have q_z_4 := i_len ez_4 f13_1; have q_f11_1 := f11_1; have q_c_144 := i_eq c_144; have g_z_4 := i_rg z_4; omega)) dX5_play_12 (fun q_145 cA9 H hK9 hP hD hS => ?_)
    obtain rfl := cls_new hK hK9 (k := 3) rfl (fun _ h => by cases h)
    clear hK9
    have hD9 := hD
    obtain ⟨ws_150, e_ws_150⟩ : ∃ z, z = ws ++ [(q_145, .inl (g.cL, n_146, .inr (.inl (fun _ => 0))))] := ⟨_, rfl⟩
    have hP : va_P (gD g) cl0 ws_150 H := by rw [e_ws_150]; exact hP
    have hD : va_D A ws_150 := by rw [e_ws_150]; exact hD
    have E_151 : gE ws ws_150 := by rw [e_ws_150]; exact gE_push
    have Fr_152 : gF [] [] none ws ws_150 := by rw [e_ws_150]; exact gF_push
    have fr_q_145 : frs ws_150 q_145 := by rw [e_ws_150]; exact frs_new hD9 hG.u
    have hG : Good g ws_150 := by rw [e_ws_150]; exact Good_pushJ hD9 hG
    have a_q_145 : gJ ws_150 q_145 g.cL n_146 := by rw [e_ws_150]; exact gS_new
    have s_q_145 : n_146 < 2147483648 := Nat.lt_of_le_of_lt bn_146 (by decide)
    have pp_153 := Fr_152.pp
    have hk_1 := get_oldE e_ws_150 hk_1
    have hk_3 := get_oldE e_ws_150 hk_3
    have o_h0 := E_151.1 _ _ o_h0
    have a_r1_1 := E_151.1 _ _ a_r1_1
    have a_r2_1 := E_151.1 _ _ a_r2_1
    have a_r4_1 := E_151.1 _ _ a_r4_1
    have a_r6_1 := E_151.1 _ _ a_r6_1
    have a_r8_1 := E_151.1 _ _ a_r8_1
    have a_r9_1 := E_151.1 _ _ a_r9_1
    have a_r10_1 := E_151.1 _ _ a_r10_1
    have o_v12_1 : ∀ b, v12_1 = some b → gC ws_150 b 7 := fun b h => E_151.1 _ _ (o_v12_1 b h)
    have o_b_2 := E_151.1 _ _ o_b_2
    have F_b_2 := F_b_2.mo E_151
    have hV9 : okv ws_150 5 9 (.ref q_145) := (okv_a a_q_145 fr_q_145)
    have hD8 := hD
    refine va_put (D := gD g) (ci := 5) (v := .ref q_145) (ty := (.array .long)) (C := RX5) (T := TX5) (N := 20) hx hb hts inX5 tyX5 tyX5_ok nmX5 hown hK hP hD hS k_1 hk_1 rfl 9 (by decide) (hts _ kw_1046) (fun _ h9 => h9) rfl (by decide +kernel) rfl rfl (Nat.le_of_ble_eq_true rfl) dX5_play_14 (fun H locs hP hD hS => ?_)
    obtain ⟨ws_155, e_ws_155⟩ : ∃ z, z = ws_150.set k_1 (h0, .inr (5, [.ref b_2, .ref r1_1, .ref r2_1, .int c3_1, .ref r4_1, .int c5_1, .ref r6_1, .int c7_1, .ref r8_1, .ref q_145, .ref r10_1, .int c11_1, va_rf v12_1, .int c13_1, .int c14_1, .int c15_1, .long l16_1, .int c17_1, .int c18_1, .int c19_1])) := ⟨_, rfl⟩
    have hP : va_P (gD g) cl0 ws_155 H := by rw [e_ws_155]; exact hP
    have hD : va_D A ws_155 := by rw [e_ws_155]; exact hD
    have E_156 : gE ws_150 ws_155 := gE_set e_ws_155 hk_1 (cw_o (fi := 9) (v := .ref q_145) rfl (by decide))
    have hX : GoodX g k_1 ws_155 := GoodX.set (fi := 9) (v := .ref q_145) e_ws_155 hk_1 E_156 rfl hV9 (hG.x _)
    have Fr_157 : gF [(5, 9)] [] (some h0) ws_150 ws_155 := gF_put0 (fi := 9) (v := .ref q_145) e_ws_155 hk_1 rfl (gr_5_9 hD8 hk_1 rfl a_r9_1 e_ws_155 rfl a_q_145 (by have e0 : (0 : Int32).toInt = 0 := (by decide); have e1440 : (1440 : Int32).toInt = 1440 := (by decide); have q_f13_1 := f13_1; have q_f22_1 := f22_1; have q_z_4 := i_len ez_4 f13_1; have q_n_146 := i_nn en_146 zn_146; have q2_n_146 := bn_146; have q_f11_1 := f11_1; have q_c_144 := i_eq c_144; have g_z_4 := i_rg z_4; omega)).1
    have pg_154 := (gr_5_9 (ws := ws_150) hD8 hk_1 rfl a_r9_1 e_ws_155 rfl a_q_145 (by have e0 : (0 : Int32).toInt = 0 := (by decide); have e1440 : (1440 : Int32).toInt = 1440 := (by decide); have q_f13_1 := f13_1; have q_f22_1 := f22_1; have q_z_4 := i_len ez_4 f13_1; have q_n_146 := i_nn en_146 zn_146; have q2_n_146 := bn_146; have q_f11_1 := f11_1; have q_c_144 := i_eq c_144; have g_z_4 := i_rg z_4; omega)).2
    have hkN := gset_self e_ws_155 hk_1
    have hk_3 := gset_obI e_ws_155 hk_1 hk_3
    have hk_1 := hkN
    have o_h0 := E_156.1 _ _ o_h0
    have a_r1_1 := E_156.1 _ _ a_r1_1
    have a_r2_1 := E_156.1 _ _ a_r2_1
    have a_r4_1 := E_156.1 _ _ a_r4_1
    have a_r6_1 := E_156.1 _ _ a_r6_1
    have a_r8_1 := E_156.1 _ _ a_r8_1
    have a_r10_1 := E_156.1 _ _ a_r10_1
    have o_v12_1 : ∀ b, v12_1 = some b → gC ws_155 b 7 := fun b h => E_156.1 _ _ (o_v12_1 b h)
    have o_b_2 := E_156.1 _ _ o_b_2
    have F_b_2 := F_b_2.mo E_156
    have a_q_145 := E_156.1 _ _ a_q_145
    refine lv_aload_n hx hb dX5_play_17 rfl (lv_at hl 0 rfl) ?_
    refine lv_sipush (v := 1440) hx hb dX5_play_18 (by decide) ?_
    obtain ⟨n_159, en_159⟩ : ∃ y : Nat, (1440 : Int32).toNatClampNeg = y := ⟨_, rfl⟩
    have bn_159 : n_159 ≤ 1440 := i_cl en_159 (by have e1440 : (1440 : Int32).toInt = 1440 := (by decide); omega)
    have zn_159 : 0 ≤ (1440 : Int32).toInt := (by have e1440 : (1440 : Int32).toInt = 1440 := (by decide); omega)
    have q_n_159 := i_nn en_159 zn_159
    have pg_160 := ge_5_9 hD hk_1 rfl a_q_145
    have pg_161 := ge_5_2 hD hk_1 rfl a_r2_1
    have pg_162 := ge_5_4 hD hk_1 rfl a_r4_1
    refine va_newa (atype := .long) (ty := .long) (a0 := (n_159, .inr (.inl (fun _ => 0)))) (N' := n_159) hx hb (hts (.arrayClass .long) kw_564) rfl hK hP hD hS hA (fun _ => rfl) (i_nl0 zn_159) en_159 (i_by bn_159 (by decide)) (show 0 + 1 + 1 ≤ PC ws + (0) from (by have e0 : (0 : Int32).toInt = 0 := (by decide); have e1440 : (1440 : Int32).toInt = 1440 := (by decide); have q_f13_1 := f13_1; have q_f22_1 := f22_1; have q_z_4 := i_len ez_4 f13_1; have q_n_146 := i_nn en_146 zn_146; have q2_n_146 := bn_146; have q_f11_1 := f11_1; have q_c_144 := i_eq c_144; have g_z_4 := i_rg z_4; omega)) (show 0 + n_146 + n_159 ≤ PS ws + (0) from (by have e0 : (0 : Int32).toInt = 0 := (by decide); have e1440 : (1440 : Int32).toInt = 1440 := (by decide); have q_f13_1 := f13_1; have q_f22_1 := f22_1; have q_z_4 := i_len ez_4 f13_1; have q_n_146 := i_nn en_146 zn_146; have q2_n_146 := bn_146; have q_f11_1 := f11_1; have q_c_144 := i_eq c_144; have g_z_4 := i_rg z_4; omega)) dX5_play_21 (fun q_158 cA9 H hK9 hP hD hS => ?_)
    obtain rfl := cls_new hK hK9 (k := 3) rfl (fun _ h => by cases h)
    clear hK9
    have hD9 := hD
    obtain ⟨ws_163, e_ws_163⟩ : ∃ z, z = ws_155 ++ [(q_158, .inl (g.cL, n_159, .inr (.inl (fun _ => 0))))] := ⟨_, rfl⟩
    have hP : va_P (gD g) cl0 ws_163 H := by rw [e_ws_163]; exact hP
    have hD : va_D A ws_163 := by rw [e_ws_163]; exact hD
    have E_164 : gE ws_155 ws_163 := by rw [e_ws_163]; exact gE_push
    have Fr_165 : gF [] [] none ws_155 ws_163 := by rw [e_ws_163]; exact gF_push
    have fr_q_158 : frs ws_163 q_158 := by rw [e_ws_163]; exact frs_new hD9 hX.u
    have hX : GoodX g k_1 ws_163 := by rw [e_ws_163]; exact hX.pushJ hD9 (ows_lt hk_1)
    have a_q_158 : gJ ws_163 q_158 g.cL n_159 := by rw [e_ws_163]; exact gS_new
    have s_q_158 : n_159 < 2147483648 := Nat.lt_of_le_of_lt bn_159 (by decide)
    have pp_166 := Fr_165.pp
    have hk_1 := get_oldE e_ws_163 hk_1
    have hk_3 := get_oldE e_ws_163 hk_3
    have o_h0 := E_164.1 _ _ o_h0
    have a_r1_1 := E_164.1 _ _ a_r1_1
    have a_r2_1 := E_164.1 _ _ a_r2_1
    have a_r4_1 := E_164.1 _ _ a_r4_1
    have a_r6_1 := E_164.1 _ _ a_r6_1
    have a_r8_1 := E_164.1 _ _ a_r8_1
    have a_r10_1 := E_164.1 _ _ a_r10_1
    have o_v12_1 : ∀ b, v12_1 = some b → gC ws_163 b 7 := fun b h => E_164.1 _ _ (o_v12_1 b h)
    have o_b_2 := E_164.1 _ _ o_b_2
    have F_b_2 := F_b_2.mo E_164
    have a_q_145 := E_164.1 _ _ a_q_145
    have hV9 : okv ws_163 5 8 (.ref q_158) := (okv_a a_q_158 fr_q_158)
    refine va_put (D := gD g) (ci := 5) (v := .ref q_158) (ty := (.array .long)) (C := RX5) (T := TX5) (N := 20) hx hb hts inX5 tyX5 tyX5_ok nmX5 hown hK hP hD hS k_1 hk_1 rfl 8 (by decide) (hts _ kw_1044) (fun _ h9 => h9) rfl (by decide +kernel) rfl rfl (Nat.le_of_ble_eq_true rfl) dX5_play_23 (fun H locs hP hD hS => ?_)
    have f_167 : n_159 = n_146 := (by have e1440 : (1440 : Int32).toInt = 1440 := (by decide); have q_n_146 := i_nn en_146 zn_146; have q2_n_146 := bn_146; have q_n_159 := i_nn en_159 zn_159; have q2_n_159 := bn_159; omega)
    have hi_168 : invX5 g ws_163 h0 [.ref b_2, .ref r1_1, .ref r2_1, .int c3_1, .ref r4_1, .int c5_1, .ref r6_1, .int c7_1, .ref q_158, .ref q_145, .ref r10_1, .int c11_1, va_rf v12_1, .int c13_1, .int c14_1, .int c15_1, .long l16_1, .int c17_1, .int c18_1, .int c19_1] := ⟨(some b_2), r1_1, (n1_1), r2_1, (n2_1), (c3_1), r4_1, (n4_1), (c5_1), r6_1, (n6_1), (c7_1), q_158, (n_159), q_145, (n_146), r10_1, (n10_1), (c11_1), v12_1, (c13_1), (c14_1), (c15_1), (l16_1), (c17_1), (c18_1), (c19_1), rfl, (fun b h9 => by cases h9; exact o_b_2), (fun b h9 => by cases h9; exact F_b_2), a_r1_1, f3_1, a_r2_1, f5_1, a_r4_1, f7_1, a_r6_1, f9_1, a_q_158, s_q_158, a_q_145, s_q_145, a_r10_1, f15_1, o_v12_1, f17_1, f18_1, f19_1, f20_1, f21_1, f_167, f23_1, f24_1, f25_1, f26_1, f27_1, f28_1, f29_1, f30_1, f31_1, trivial⟩
    obtain ⟨ws_169, e_ws_169⟩ : ∃ z, z = ws_163.set k_1 (h0, .inr (5, [.ref b_2, .ref r1_1, .ref r2_1, .int c3_1, .ref r4_1, .int c5_1, .ref r6_1, .int c7_1, .ref q_158, .ref q_145, .ref r10_1, .int c11_1, va_rf v12_1, .int c13_1, .int c14_1, .int c15_1, .long l16_1, .int c17_1, .int c18_1, .int c19_1])) := ⟨_, rfl⟩
    have hP : va_P (gD g) cl0 ws_169 H := by rw [e_ws_169]; exact hP
    have hD : va_D A ws_169 := by rw [e_ws_169]; exact hD
    have E_170 : gE ws_163 ws_169 := gE_set e_ws_169 hk_1 (cw_o (fi := 8) (v := .ref q_158) rfl (by decide))
    have hG : Good g ws_169 := GoodX.goodS (fi := 8) (v := .ref q_158) e_ws_169 hk_1 E_170 rfl hV9 hX (ivX5 hi_168)
    have Fr_171 : gF [(5, 8)] [] (some h0) ws_163 ws_169 := gF_put (fi := 8) (v := .ref q_158) e_ws_169 hk_1 rfl (by decide)
    have pp_172 := Fr_171.pp
    have hkN := gset_self e_ws_169 hk_1
    have hk_3 := gset_obI e_ws_169 hk_1 hk_3
    have hk_1 := hkN
    have o_h0 := E_170.1 _ _ o_h0
    have a_r1_1 := E_170.1 _ _ a_r1_1
    have a_r2_1 := E_170.1 _ _ a_r2_1
    have a_r4_1 := E_170.1 _ _ a_r4_1
    have a_r6_1 := E_170.1 _ _ a_r6_1
    have a_r10_1 := E_170.1 _ _ a_r10_1
    have o_v12_1 : ∀ b, v12_1 = some b → gC ws_169 b 7 := fun b h => E_170.1 _ _ (o_v12_1 b h)
    have o_b_2 := E_170.1 _ _ o_b_2
    have F_b_2 := F_b_2.mo E_170
    have a_q_145 := E_170.1 _ _ a_q_145
    have a_q_158 := E_170.1 _ _ a_q_158
    exact J_26 (0 + 1 + 1) (0 + n_146 + n_159) ws_169 H locs ls ((E_151.tr (E_156.tr (E_164.tr E_170)))) ((gF.tr (gF.mo (F' := [(5, 8), (5, 9)]) (C' := []) (S' := none) Fr_152 (fun _ h => absurd h List.not_mem_nil) (fun _ h => h) (Or.inr rfl)) (gF.tr (gF.mo (F' := [(5, 8), (5, 9)]) (C' := []) (S' := none) Fr_157 (by decide) (fun _ h => h) (Or.inl rfl)) (gF.tr (gF.mo (F' := [(5, 8), (5, 9)]) (C' := []) (S' := none) Fr_165 (fun _ h => absurd h List.not_mem_nil) (fun _ h => h) (Or.inr rfl)) (gF.mo (F' := [(5, 8), (5, 9)]) (C' := []) (S' := none) Fr_171 (by decide) (fun _ h => h) (Or.inl rfl)))))) hG (by have e0 : (0 : Int32).toInt = 0 := (by decide); have e1440 : (1440 : Int32).toInt = 1440 := (by decide); have q_f13_1 := f13_1; have q_f22_1 := f22_1; have q_z_4 := i_len ez_4 f13_1; have q_n_146 := i_nn en_146 zn_146; have q2_n_146 := bn_146; have q_n_159 := i_nn en_159 zn_159; have q2_n_159 := bn_159; have q_f_167 := f_167; have q_f11_1 := f11_1; have q_c_144 := i_eq c_144; have g_z_4 := i_rg z_4; omega) (by have e0 : (0 : Int32).toInt = 0 := (by decide); have e1440 : (1440 : Int32).toInt = 1440 := (by decide); have q_f13_1 := f13_1; have q_f22_1 := f22_1; have q_z_4 := i_len ez_4 f13_1; have q_n_146 := i_nn en_146 zn_146; have q2_n_146 := bn_146; have q_n_159 := i_nn en_159 zn_159; have q2_n_159 := bn_159; have q_f_167 := f_167; have q_f11_1 := f11_1; have q_c_144 := i_eq c_144; have g_z_4 := i_rg z_4; omega) hP hD hS (lv_sub hl [0, 1, 2] rfl)
