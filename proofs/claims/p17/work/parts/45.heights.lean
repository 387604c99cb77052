set_option maxHeartbeats 1000000 in
set_option maxRecDepth 100000 in
theorem m_X4_comeTo (l : Launch) (g : Gm) (sz : Nat) (ws : va_W) (h0 : Nat) (x1 : Int32) (x2 : Int32) (hG : Good g ws) (o_h0 : gC ws h0 4) (nn_h0_4 : gN ws h0 4) : Met l yX4_comeTo (wt yX4_comeTo cX4_comeTo 3 none) ({ frames := 0, cells := 0, slots := 0, locals := 0 }) (va_Pc [.ref h0, .int x1, .int x2] (st_G g sz ws)) (va_Qv (fun (u9 : va_W) => True) (gQ1 g [(4, 6)] (va_A ws sz) ws) (va_A ws sz)) 0 0 (va_A ws sz) := by
  refine Met.ofW (cc := cX4_comeTo) (maxL := 3) (ret := none) (by decide) rfl ?_
  intro p e s m args below meth c s₁ B hml hv
  obtain ⟨rfl, hsz, hP, hK, hD0, hex, hE⟩ := hv
  have hx := B.exec
  have hb := B.bytes
  have hr := B.returns
  have hts0 := atoms_spec (ws := wt yX4_comeTo cX4_comeTo 3 none) B.pre
  have hts : ∀ w ∈ tb, w.before _ s = true := fun w h => hts0 w (List.mem_cons_of_mem _ h)
  have hown : s.vm.findClass RX4 = some m.cls := findClass_of_methodNamed B.named
  subst hsz
  have hD := hD0.self (sz := s.heap.size)
  generalize hAe : va_A ws s.heap.size = A at hD hE ⊢
  have hA : ∀ q : Nat, s.heap.size ≤ q → A q := fun q h => by rw [← hAe]; exact Or.inr h
  have hS : va_S A s.heap s.heap [] := va_S.rf
  have hl := lv_entry ([.ref h0, .int x1, .int x2]) (n := 3) (Nat.le_of_ble_eq_true rfl)
  rw [lg_entry_eq]
  generalize (lg_sl ([.ref h0, .int x1, .int x2]) ++ List.replicate (3 - (lg_sl ([.ref h0, .int x1, .int x2])).length) Slot.unset).toArray = ls at hl ⊢
  have hl : lv_has ls 3 [(0, .ref h0), (1, .int x1), (2, .int x2)] := hl
  obtain ⟨k_1, fs9, hk_1⟩ := gC_of o_h0
  obtain ⟨r0_1, n0_1, r1_1, n1_1, r2_1, n2_1, v3_1, v4_1, c5_1, c6_1, c7_1, rfl, a_r0_1, f1_1, a_r1_1, f3_1, a_r2_1, f5_1, o_v3_1, o_v4_1, hz_c6_1, f9_1, f10_1, f11_1, -⟩ := (hG.1 _ _ _ _ hk_1).hX4 rfl
  obtain ⟨b_2, hn9⟩ := nn_h0_4 _ _ _ hk_1
  have hn9 := fe_qr hn9
  subst hn9
  have o_b_2 := o_v4_1 _ rfl
  refine lv_iload_n hx hb dX4_comeTo_0 rfl (lv_at hl 1 rfl) ?_
  have J_47 : ∀  (H : Heap) (locs : List Loc) (ls : Array Slot), va_P (gD g) cl0 ws H → va_D A ws → va_S A s.heap H locs → lv_has ls 3 [] → W p l e (headSpec (wt yX4_comeTo cX4_comeTo 3 none) ({ frames := 0, cells := 0, slots := 0, locals := 0 })).room s m ([.ref h0, .int x1, .int x2] : List Value).toArray below meth c H locs 0 0 (MQ below (va_Qv (fun (u9 : va_W) => True) (gQ1 g [(4, 6)] A ws) A) ([.ref h0, .int x1, .int x2] : List Value).toArray s 0 0 A) (F0 m 47 ls []) := by
    intro  H locs ls  hP hD hS hl
    refine W.widen (k := 0) (n := 0) (Nat.le_of_ble_eq_true rfl) (Nat.le_of_ble_eq_true rfl) ?_
    exact W.vret hx hb hr (fun t9 ht9 hW9 => ⟨⟨ws, rfl, trivial, ⟨gE.rf, gF.rf, hG, by rw [ht9]; exact hP, hD⟩⟩, hS.F ht9⟩) hS.2.2 dX4_comeTo_47
  refine lv_if_lt (tgt := 47) hx hb dX4_comeTo_1 (by decide) (fun c_5 => ?_) (fun c_5 => ?_)
  · exact J_47  _ _ ls  hP hD hS (lv_sub hl [] rfl)
  · refine lv_iload_n hx hb dX4_comeTo_4 rfl (lv_at hl 1 rfl) ?_
    refine lv_aload_n hx hb dX4_comeTo_5 rfl (lv_at hl 0 rfl) ?_
    refine va_get (D := gD g) (ci := 4) (v := .ref b_2) (C := RX4) (T := TX4) (N := 8) hx hb hts inX4 hown hK hP k_1 hk_1 rfl 4 (by decide) (hts _ kw_954) (fun _ h9 => h9) rfl dX4_comeTo_6 ?_
    obtain ⟨k_6, fs9, hk_6⟩ := gC_of o_b_2
    obtain ⟨r0_6, n0_6, r1_6, n1_6, c2_6, r3_6, n3_6, c4_6, r5_6, n5_6, r6_6, n6_6, r7_6, n7_6, r8_6, n8_6, c9_6, c10_6, c11_6, v12_6, v13_6, v14_6, rfl, a_r0_6, f1_6, a_r1_6, f3_6, a_r3_6, f5_6, a_r5_6, f7_6, a_r6_6, f9_6, a_r7_6, f11_6, a_r8_6, f13_6, o_v12_6, o_v13_6, o_v14_6, f17_6, f18_6, f19_6, f20_6, f21_6, f22_6, f23_6, f24_6, f25_6, f26_6, f27_6, -⟩ := (hG.1 _ _ _ _ hk_6).hX8 rfl
    refine va_get (D := gD g) (ci := 7) (v := .int c2_6) (C := RX8) (T := TX8) (N := 15) hx hb hts inX8 hown hK hP k_6 hk_6 rfl 2 (by decide) (hts _ kw_955) (fun _ h9 => h9) rfl dX4_comeTo_9 ?_
    refine lv_icmp_ge (tgt := 47) hx hb dX4_comeTo_12 (by decide) (fun c_7 => ?_) (fun c_7 => ?_)
    · exact J_47  _ _ ls  hP hD hS (lv_sub hl [] rfl)
    · refine lv_iload_n hx hb dX4_comeTo_15 rfl (lv_at hl 1 rfl) ?_
      refine lv_aload_n hx hb dX4_comeTo_16 rfl (lv_at hl 0 rfl) ?_
      refine va_get (D := gD g) (ci := 4) (v := .ref r0_1) (C := RX4) (T := TX4) (N := 8) hx hb hts inX4 hown hK hP k_1 hk_1 rfl 0 (by decide) (hts _ kw_956) (fun _ h9 => h9) rfl dX4_comeTo_17 ?_
      obtain ⟨k_8, f_8, hk_8⟩ := gI_of a_r0_1
      obtain ⟨z_9, ez_9⟩ : ∃ z : Int32, Int32.ofNat n0_1 = z := ⟨_, rfl⟩
      refine va_alen (v := z_9) hx hb hK hP k_8 1 hk_8 rfl ez_9 dX4_comeTo_20 ?_
      refine lv_icmp_ge (tgt := 47) hx hb dX4_comeTo_21 (by decide) (fun c_10 => ?_) (fun c_10 => ?_)
      · exact J_47  _ _ ls  hP hD hS (lv_sub hl [] rfl)
      · refine lv_iload_n hx hb dX4_comeTo_24 rfl (lv_at hl 2 rfl) ?_
        refine lv_if_lt (tgt := 47) hx hb dX4_comeTo_25 (by decide) (fun c_11 => ?_) (fun c_11 => ?_)
        · exact J_47  _ _ ls  hP hD hS (lv_sub hl [] rfl)
        · refine lv_iload_n hx hb dX4_comeTo_28 rfl (lv_at hl 2 rfl) ?_
          refine lv_bipush (v := 30) hx hb dX4_comeTo_29 (by decide) ?_
          refine lv_icmp_gt (tgt := 47) hx hb dX4_comeTo_31 (by decide) (fun c_12 => ?_) (fun c_12 => ?_)
          · exact J_47  _ _ ls  hP hD hS (lv_sub hl [] rfl)
          · refine lv_aload_n hx hb dX4_comeTo_34 rfl (lv_at hl 0 rfl) ?_
            refine va_get (D := gD g) (ci := 4) (v := .ref r0_1) (C := RX4) (T := TX4) (N := 8) hx hb hts inX4 hown hK hP k_1 hk_1 rfl 0 (by decide) (hts _ kw_956) (fun _ h9 => h9) rfl dX4_comeTo_35 ?_
            refine lv_iload_n hx hb dX4_comeTo_38 rfl (lv_at hl 1 rfl) ?_
            refine va_iald hx hb hK hP k_8 1 hk_8 rfl (i_in2 (by have e0 : (0 : Int32).toInt = 0 := (by decide); have q_f1_1 := f1_1; have q_f9_1 := f9_1; have q_f10_1 := f10_1; have q_f11_1 := f11_1; have q_c_5 := i_nlt c_5; have q_c_7 := i_nle c_7; have q_z_9 := i_len ez_9 f1_1; have q_c_10 := i_nle c_10; have q_f3_1 := f3_1; have q_f5_1 := f5_1; have q_f19_6 := f19_6; have q_f20_6 := f20_6; have g_c2_6 := i_rg c2_6; have g_x1 := i_rg x1; have g_z_9 := i_rg z_9; omega)) dX4_comeTo_39 ?_
            refine lv_topi (fun z_13 ez_13 => ?_)
            refine lv_iload_n hx hb dX4_comeTo_40 rfl (lv_at hl 2 rfl) ?_
            refine lv_ishr hx hb dX4_comeTo_41 ?_
            refine lv_topi (fun z_14 ez_14 => ?_)
            refine lv_iconst (v := 1) hx hb dX4_comeTo_42 (by decide) ?_
            refine lv_iand hx hb dX4_comeTo_43 ?_
            refine lv_topi (fun z_15 ez_15 => ?_)
            refine lv_if_eq (tgt := 48) hx hb dX4_comeTo_44 (by decide) (fun c_16 => ?_) (fun c_16 => ?_)
            · refine lv_aload_n hx hb dX4_comeTo_48 rfl (lv_at hl 0 rfl) ?_
              refine va_get (D := gD g) (ci := 4) (v := .ref r0_1) (C := RX4) (T := TX4) (N := 8) hx hb hts inX4 hown hK hP k_1 hk_1 rfl 0 (by decide) (hts _ kw_956) (fun _ h9 => h9) rfl dX4_comeTo_49 ?_
              refine lv_iload_n hx hb dX4_comeTo_52 rfl (lv_at hl 1 rfl) ?_
              refine lv_dup2_11 hx hb dX4_comeTo_53 rfl rfl ?_
              refine va_iald hx hb hK hP k_8 1 hk_8 rfl (i_in2 (by have e0 : (0 : Int32).toInt = 0 := (by decide); have q_f1_1 := f1_1; have q_f9_1 := f9_1; have q_f10_1 := f10_1; have q_f11_1 := f11_1; have q_c_5 := i_nlt c_5; have q_c_7 := i_nle c_7; have q_z_9 := i_len ez_9 f1_1; have q_c_10 := i_nle c_10; have q_f3_1 := f3_1; have q_f5_1 := f5_1; have q_f19_6 := f19_6; have q_f20_6 := f20_6; have g_c2_6 := i_rg c2_6; have g_x1 := i_rg x1; have g_z_9 := i_rg z_9; omega)) dX4_comeTo_54 ?_
              refine lv_topi (fun z_17 ez_17 => ?_)
              refine lv_iconst (v := 1) hx hb dX4_comeTo_55 (by decide) ?_
              refine lv_iload_n hx hb dX4_comeTo_56 rfl (lv_at hl 2 rfl) ?_
              refine lv_ishl hx hb dX4_comeTo_57 ?_
              refine lv_topi (fun z_18 ez_18 => ?_)
              refine lv_ior hx hb dX4_comeTo_58 ?_
              refine lv_topi (fun z_19 ez_19 => ?_)
              refine va_iast hx hb hK hP hD hS k_8 1 hk_8 rfl (i_in2 (by have e0 : (0 : Int32).toInt = 0 := (by decide); have q_f1_1 := f1_1; have q_f9_1 := f9_1; have q_f10_1 := f10_1; have q_f11_1 := f11_1; have q_c_5 := i_nlt c_5; have q_c_7 := i_nle c_7; have q_z_9 := i_len ez_9 f1_1; have q_c_10 := i_nle c_10; have q_f3_1 := f3_1; have q_f5_1 := f5_1; have q_f19_6 := f19_6; have q_f20_6 := f20_6; have g_c2_6 := i_rg c2_6; have g_x1 := i_rg x1; have g_z_9 := i_rg z_9; omega)) dX4_comeTo_59 (fun H locs hP hD hS => ?_)
              obtain ⟨ws_20, e_ws_20⟩ : ∃ z, z = ws.set k_8 (r0_1, .inl (g.cI, n0_1, .inl (upd f_8 (x1 : Int32).toNatClampNeg z_19))) := ⟨_, rfl⟩
              have hP : va_P (gD g) cl0 ws_20 H := by rw [e_ws_20]; exact hP
              have hD : va_D A ws_20 := by rw [e_ws_20]; exact hD
              have E_21 : gE ws ws_20 := gE_ari e_ws_20 hk_8
              have hG : Good g ws_20 := Good_arI e_ws_20 hk_8 hG
              have Fr_22 : gF [] ws ws_20 := gF_ar e_ws_20 hk_8
              have hk_1 := gset_arO e_ws_20 hk_8 hk_1
              have hk_6 := gset_arO e_ws_20 hk_8 hk_6
              have o_h0 := E_21 _ _ o_h0
              have a_r0_1 := E_21 _ _ a_r0_1
              have a_r1_1 := E_21 _ _ a_r1_1
              have a_r2_1 := E_21 _ _ a_r2_1
              have o_v3_1 : ∀ b, v3_1 = some b → gC ws_20 b 9 := fun b h => E_21 _ _ (o_v3_1 b h)
              have o_b_2 := E_21 _ _ o_b_2
              have a_r0_6 := E_21 _ _ a_r0_6
              have a_r1_6 := E_21 _ _ a_r1_6
              have a_r3_6 := E_21 _ _ a_r3_6
              have a_r5_6 := E_21 _ _ a_r5_6
              have a_r6_6 := E_21 _ _ a_r6_6
              have a_r7_6 := E_21 _ _ a_r7_6
              have a_r8_6 := E_21 _ _ a_r8_6
              have o_v12_6 : ∀ b, v12_6 = some b → ∃ n, gI ws_20 b g.cB n ∧ n < 2147483648 := fun b h => (o_v12_6 b h).imp (fun n h => ⟨E_21 _ _ h.1, h.2⟩)
              have o_v13_6 : ∀ b, v13_6 = some b → ∃ n, gJ ws_20 b g.cL n ∧ n < 2147483648 := fun b h => (o_v13_6 b h).imp (fun n h => ⟨E_21 _ _ h.1, h.2⟩)
              have o_v14_6 : ∀ b, v14_6 = some b → ∃ n, gJ ws_20 b g.cL n ∧ n < 2147483648 := fun b h => (o_v14_6 b h).imp (fun n h => ⟨E_21 _ _ h.1, h.2⟩)
              refine lv_aload_n hx hb dX4_comeTo_60 rfl (lv_at hl 0 rfl) ?_
              refine va_get (D := gD g) (ci := 4) (v := .ref r1_1) (C := RX4) (T := TX4) (N := 8) hx hb hts inX4 hown hK hP k_1 hk_1 rfl 1 (by decide) (hts _ kw_957) (fun _ h9 => h9) rfl dX4_comeTo_61 ?_
              refine lv_iload_n hx hb dX4_comeTo_64 rfl (lv_at hl 1 rfl) ?_
              refine lv_dup2_11 hx hb dX4_comeTo_65 rfl rfl ?_
              obtain ⟨k_23, f_23, hk_23⟩ := gI_of a_r1_1
              refine va_iald hx hb hK hP k_23 1 hk_23 rfl (i_in2 (by have e0 : (0 : Int32).toInt = 0 := (by decide); have q_f3_1 := f3_1; have q_f9_1 := f9_1; have q_c_5 := i_nlt c_5; have q_c_7 := i_nle c_7; have q_c_10 := i_nle c_10; have q_f1_1 := f1_1; have q_f10_1 := f10_1; have q_f11_1 := f11_1; have q_f19_6 := f19_6; have q_f20_6 := f20_6; have q_z_9 := i_len ez_9 f1_1; have g_c2_6 := i_rg c2_6; have g_x1 := i_rg x1; have g_z_9 := i_rg z_9; omega)) dX4_comeTo_66 ?_
              refine lv_topi (fun z_24 ez_24 => ?_)
              refine lv_iconst (v := 1) hx hb dX4_comeTo_67 (by decide) ?_
              refine lv_iload_n hx hb dX4_comeTo_68 rfl (lv_at hl 2 rfl) ?_
              refine lv_ishl hx hb dX4_comeTo_69 ?_
              refine lv_topi (fun z_25 ez_25 => ?_)
              refine lv_ior hx hb dX4_comeTo_70 ?_
              refine lv_topi (fun z_26 ez_26 => ?_)
              refine va_iast hx hb hK hP hD hS k_23 1 hk_23 rfl (i_in2 (by have e0 : (0 : Int32).toInt = 0 := (by decide); have q_f3_1 := f3_1; have q_f9_1 := f9_1; have q_c_5 := i_nlt c_5; have q_c_7 := i_nle c_7; have q_c_10 := i_nle c_10; have q_f1_1 := f1_1; have q_f10_1 := f10_1; have q_f11_1 := f11_1; have q_f19_6 := f19_6; have q_f20_6 := f20_6; have q_z_9 := i_len ez_9 f1_1; have g_c2_6 := i_rg c2_6; have g_x1 := i_rg x1; have g_z_9 := i_rg z_9; omega)) dX4_comeTo_71 (fun H locs hP hD hS => ?_)
              obtain ⟨ws_27, e_ws_27⟩ : ∃ z, z = ws_20.set k_23 (r1_1, .inl (g.cI, n1_1, .inl (upd f_23 (x1 : Int32).toNatClampNeg z_26))) := ⟨_, rfl⟩
              have hP : va_P (gD g) cl0 ws_27 H := by rw [e_ws_27]; exact hP
              have hD : va_D A ws_27 := by rw [e_ws_27]; exact hD
              have E_28 : gE ws_20 ws_27 := gE_ari e_ws_27 hk_23
              have hG : Good g ws_27 := Good_arI e_ws_27 hk_23 hG
              have Fr_29 : gF [] ws_20 ws_27 := gF_ar e_ws_27 hk_23
              have hk_1 := gset_arO e_ws_27 hk_23 hk_1
              have hk_6 := gset_arO e_ws_27 hk_23 hk_6
              have o_h0 := E_28 _ _ o_h0
              have a_r0_1 := E_28 _ _ a_r0_1
              have a_r1_1 := E_28 _ _ a_r1_1
              have a_r2_1 := E_28 _ _ a_r2_1
              have o_v3_1 : ∀ b, v3_1 = some b → gC ws_27 b 9 := fun b h => E_28 _ _ (o_v3_1 b h)
              have o_b_2 := E_28 _ _ o_b_2
              have a_r0_6 := E_28 _ _ a_r0_6
              have a_r1_6 := E_28 _ _ a_r1_6
              have a_r3_6 := E_28 _ _ a_r3_6
              have a_r5_6 := E_28 _ _ a_r5_6
              have a_r6_6 := E_28 _ _ a_r6_6
              have a_r7_6 := E_28 _ _ a_r7_6
              have a_r8_6 := E_28 _ _ a_r8_6
              have o_v12_6 : ∀ b, v12_6 = some b → ∃ n, gI ws_27 b g.cB n ∧ n < 2147483648 := fun b h => (o_v12_6 b h).imp (fun n h => ⟨E_28 _ _ h.1, h.2⟩)
              have o_v13_6 : ∀ b, v13_6 = some b → ∃ n, gJ ws_27 b g.cL n ∧ n < 2147483648 := fun b h => (o_v13_6 b h).imp (fun n h => ⟨E_28 _ _ h.1, h.2⟩)
              have o_v14_6 : ∀ b, v14_6 = some b → ∃ n, gJ ws_27 b g.cL n ∧ n < 2147483648 := fun b h => (o_v14_6 b h).imp (fun n h => ⟨E_28 _ _ h.1, h.2⟩)
              refine lv_aload_n hx hb dX4_comeTo_72 rfl (lv_at hl 0 rfl) ?_
              refine lv_iconst (v := 1) hx hb dX4_comeTo_73 (by decide) ?_
              refine va_put (D := gD g) (ci := 4) (v := .int 1) (ty := .boolean) (C := RX4) (T := TX4) (N := 8) hx hb hts inX4 tyX4 tyX4_ok nmX4 hown hK hP hD hS k_1 hk_1 rfl 6 (by decide) (hts _ kw_958) (fun _ h9 => h9) rfl (by decide +kernel) rfl rfl (Nat.le_of_ble_eq_true rfl) dX4_comeTo_74 (fun H locs hP hD hS => ?_)
              have hi_30 : invX4 g ws_27 h0 [.ref r0_1, .ref r1_1, .ref r2_1, va_rf v3_1, .ref b_2, .int c5_1, .int 1, .int c7_1] := ⟨r0_1, (n0_1), r1_1, (n1_1), r2_1, (n2_1), v3_1, (some b_2), (c5_1), (1), (c7_1), rfl, a_r0_1, f1_1, a_r1_1, f3_1, a_r2_1, f5_1, o_v3_1, (fun b h9 => by cases h9; exact o_b_2), (Or.inr rfl), f9_1, f10_1, f11_1, trivial⟩
              obtain ⟨ws_31, e_ws_31⟩ : ∃ z, z = ws_27.set k_1 (h0, .inr (4, [.ref r0_1, .ref r1_1, .ref r2_1, va_rf v3_1, .ref b_2, .int c5_1, .int 1, .int c7_1])) := ⟨_, rfl⟩
              have hP : va_P (gD g) cl0 ws_31 H := by rw [e_ws_31]; exact hP
              have hD : va_D A ws_31 := by rw [e_ws_31]; exact hD
              have E_32 : gE ws_27 ws_31 := gE_set e_ws_31 hk_1 rfl
              have hG : Good g ws_31 := Good_set e_ws_31 hk_1 hG (ivX4 hi_30)
              have Fr_33 : gF [(4, 6)] ws_27 ws_31 := gF_put (fi := 6) (v := .int 1) e_ws_31 hk_1 rfl
              have hkN := gset_self e_ws_31 hk_1
              have hk_6 := gset_ob e_ws_31 hk_1 hk_6 (by decide)
              have hk_1 := hkN
              have o_h0 := E_32 _ _ o_h0
              have a_r0_1 := E_32 _ _ a_r0_1
              have a_r1_1 := E_32 _ _ a_r1_1
              have a_r2_1 := E_32 _ _ a_r2_1
              have o_v3_1 : ∀ b, v3_1 = some b → gC ws_31 b 9 := fun b h => E_32 _ _ (o_v3_1 b h)
              have o_b_2 := E_32 _ _ o_b_2
              have a_r0_6 := E_32 _ _ a_r0_6
              have a_r1_6 := E_32 _ _ a_r1_6
              have a_r3_6 := E_32 _ _ a_r3_6
              have a_r5_6 := E_32 _ _ a_r5_6
              have a_r6_6 := E_32 _ _ a_r6_6
              have a_r7_6 := E_32 _ _ a_r7_6
              have a_r8_6 := E_32 _ _ a_r8_6
              have o_v12_6 : ∀ b, v12_6 = some b → ∃ n, gI ws_31 b g.cB n ∧ n < 2147483648 := fun b h => (o_v12_6 b h).imp (fun n h => ⟨E_32 _ _ h.1, h.2⟩)
              have o_v13_6 : ∀ b, v13_6 = some b → ∃ n, gJ ws_31 b g.cL n ∧ n < 2147483648 := fun b h => (o_v13_6 b h).imp (fun n h => ⟨E_32 _ _ h.1, h.2⟩)
              have o_v14_6 : ∀ b, v14_6 = some b → ∃ n, gJ ws_31 b g.cL n ∧ n < 2147483648 := fun b h => (o_v14_6 b h).imp (fun n h => ⟨E_32 _ _ h.1, h.2⟩)
              refine W.widen (k := 0) (n := 0) (Nat.le_of_ble_eq_true rfl) (Nat.le_of_ble_eq_true rfl) ?_
              exact W.vret hx hb hr (fun t9 ht9 hW9 => ⟨⟨ws_31, rfl, trivial, ⟨(E_21.tr (E_28.tr E_32)), (gF.tr (gF.mo (F' := [(4, 6)]) Fr_22 (by decide)) (gF.tr (gF.mo (F' := [(4, 6)]) Fr_29 (by decide)) Fr_33)), hG, by rw [ht9]; exact hP, hD⟩⟩, hS.F ht9⟩) hS.2.2 dX4_comeTo_77
            · exact J_47  _ _ ls  hP hD hS (lv_sub hl [] rfl)
set_option maxHeartbeats 1000000 in
set_option maxRecDepth 100000 in
theorem m_X4_spread (l : Launch) (g : Gm) (sz : Nat) (ws : va_W) (h0 : Nat) (x1 : Int32) (x2 : Int32) (hG : Good g ws) (o_h0 : gC ws h0 4) (nn_h0_3 : gN ws h0 3) (nn_h0_4 : gN ws h0 4) (fp_w : gP ws h0 (fun fs => ∀ (rn n : Nat), fs[2]? = some (.ref rn) → gI ws rn g.cZ n → x1.toInt < n)) (p0 : 0 ≤ x1.toInt) : Met l yX4_spread (wt yX4_spread cX4_spread 9 none) ({ frames := 3, cells := 0, slots := 0, locals := 66 }) (va_Pc [.ref h0, .int x1, .int x2] (st_G g sz ws)) (va_Qv (fun (u9 : va_W) => True) (gQ1 g [(4, 6), (4, 7)] (va_A ws sz) ws) (va_A ws sz)) 0 0 (va_A ws sz) := by
  refine Met.ofW (cc := cX4_spread) (maxL := 9) (ret := none) (by decide) rfl ?_
  intro p e s m args below meth c s₁ B hml hv
  obtain ⟨rfl, hsz, hP, hK, hD0, hex, hE⟩ := hv
  have hx := B.exec
  have hb := B.bytes
  have hr := B.returns
  have hts0 := atoms_spec (ws := wt yX4_spread cX4_spread 9 none) B.pre
  have hts : ∀ w ∈ tb, w.before _ s = true := fun w h => hts0 w (List.mem_cons_of_mem _ h)
  have hown : s.vm.findClass RX4 = some m.cls := findClass_of_methodNamed B.named
  subst hsz
  have hD := hD0.self (sz := s.heap.size)
  generalize hAe : va_A ws s.heap.size = A at hD hE ⊢
  have hA : ∀ q : Nat, s.heap.size ≤ q → A q := fun q h => by rw [← hAe]; exact Or.inr h
  have hS : va_S A s.heap s.heap [] := va_S.rf
  have hl := lv_entry ([.ref h0, .int x1, .int x2]) (n := 9) (Nat.le_of_ble_eq_true rfl)
  rw [lg_entry_eq]
  generalize (lg_sl ([.ref h0, .int x1, .int x2]) ++ List.replicate (9 - (lg_sl ([.ref h0, .int x1, .int x2])).length) Slot.unset).toArray = ls at hl ⊢
  have hl : lv_has ls 9 [(0, .ref h0), (1, .int x1), (2, .int x2)] := hl
  obtain ⟨k_1, fs9, hk_1⟩ := gC_of o_h0
  obtain ⟨r0_1, n0_1, r1_1, n1_1, r2_1, n2_1, v3_1, v4_1, c5_1, c6_1, c7_1, rfl, a_r0_1, f1_1, a_r1_1, f3_1, a_r2_1, f5_1, o_v3_1, o_v4_1, hz_c6_1, f9_1, f10_1, f11_1, -⟩ := (hG.1 _ _ _ _ hk_1).hX4 rfl
  have fq_w := fp_w _ _ _ hk_1 _ _ rfl a_r2_1
  obtain ⟨b_2, hn9⟩ := nn_h0_3 _ _ _ hk_1
  have hn9 := fe_qr hn9
  subst hn9
  have o_b_2 := o_v3_1 _ rfl
  obtain ⟨b_3, hn9⟩ := nn_h0_4 _ _ _ hk_1
  have hn9 := fe_qr hn9
  subst hn9
  have o_b_3 := o_v4_1 _ rfl
  refine lv_aload_n hx hb dX4_spread_0 rfl (lv_at hl 0 rfl) ?_
  refine va_get (D := gD g) (ci := 4) (v := .ref b_2) (C := RX4) (T := TX4) (N := 8) hx hb hts inX4 hown hK hP k_1 hk_1 rfl 3 (by decide) (hts _ kw_978) (fun _ h9 => h9) rfl dX4_spread_1 ?_
  refine lv_aload_n hx hb dX4_spread_4 rfl (lv_at hl 0 rfl) ?_
  refine va_get (D := gD g) (ci := 4) (v := .ref b_3) (C := RX4) (T := TX4) (N := 8) hx hb hts inX4 hown hK hP k_1 hk_1 rfl 4 (by decide) (hts _ kw_954) (fun _ h9 => h9) rfl dX4_spread_5 ?_
  refine lv_iload_n hx hb dX4_spread_8 rfl (lv_at hl 1 rfl) ?_
  have hFc := gfree hD hS hA
  obtain ⟨k_4, fs_4, hk_4⟩ := gC_of o_b_2
  refine va_calli (va_runV (As := [.ref b_3, .int x1]) (rest := []) ⟨hx, hb, hml, hown, hts⟩ (m_X10_takes l g s.heap.size ws b_2 b_3 (x1) hG o_b_2 o_b_3) (cwV 2 hts (gd_V kw_988 kw_73 kw_74 kw_34 kw_72) rfl rfl rfl (by decide +kernel) ⟨Nat.le_of_ble_eq_true rfl, Nat.le_of_ble_eq_true rfl⟩) ⟨gblind, va_recv hK hP (ci := 9) (q0 := k_4) rfl hk_4, fun U hU hW9 => gmk hU hW9 hP hK hD hex hE hS hFc⟩ rfl rfl hl.1 rfl (lv_room (Nat.le_of_ble_eq_true rfl)) dX4_spread_9 ⟨Nat.le_of_ble_eq_true rfl, Nat.le_of_ble_eq_true rfl⟩) hS (fun q _ h => hFc q h) hFc (fun r_5 u9 t9 H1 locs ht9 hvm9 hw9 hB9 hz9 hk9 hS => ?_)
  have hP : va_P (gD g) cl0 ws H1 := by rw [← ht9]; exact hB9.1
  clear hB9 hz9 hk9 hvm9 ht9 hw9
  generalize H1 = H at hP hS ⊢
  have hFc := gfree hD hS hA
  refine va_calli (va_runS (As := [.int r_5]) (rest := []) ⟨hx, hb, hml, hown, hts⟩ (m_X6_placesOf l g H.size ws (r_5) hG ) (va_cwS 1 hts (gd_S kw_989 kw_1253 kw_1207 kw_1252) rfl rfl rfl (by decide +kernel) ⟨Nat.le_of_ble_eq_true rfl, Nat.le_of_ble_eq_true rfl⟩) ⟨gblind, fun U hU hW9 => gmk hU hW9 hP hK hD hex hE hS hFc⟩ rfl rfl hl.1 rfl (lv_room (Nat.le_of_ble_eq_true rfl)) dX4_spread_12 ⟨Nat.le_of_ble_eq_true rfl, Nat.le_of_ble_eq_true rfl⟩) hS (fun q _ h => hFc q h) hFc (fun r_6 u9 t9 H1 locs ht9 hvm9 hw9 hB9 hz9 hk9 hS => ?_)
  have hP : va_P (gD g) cl0 ws H1 := by rw [← ht9]; exact hB9.1
  clear hB9 hz9 hk9 hvm9 ht9 hw9
  generalize H1 = H at hP hS ⊢
  refine lv_istore_n (lv' := [(3, .int r_6), (0, .ref h0), (1, .int x1), (2, .int x2)]) hx hb dX4_spread_15 rfl hl (by decide) rfl (fun ls hl => ?_)
  refine lv_iload_n hx hb dX4_spread_16 rfl (lv_at hl 3 rfl) ?_
  refine lv_iload_n hx hb dX4_spread_17 rfl (lv_at hl 0 rfl) ?_
  refine lv_isub hx hb dX4_spread_18 ?_
  refine lv_topi (fun z_7 ez_7 => ?_)
  refine lv_aload_n hx hb dX4_spread_19 rfl (lv_at hl 1 rfl) ?_
  refine va_get (D := gD g) (ci := 4) (v := .ref b_2) (C := RX4) (T := TX4) (N := 8) hx hb hts inX4 hown hK hP k_1 hk_1 rfl 3 (by decide) (hts _ kw_978) (fun _ h9 => h9) rfl dX4_spread_20 ?_
  refine lv_aload_n hx hb dX4_spread_23 rfl (lv_at hl 1 rfl) ?_
  refine va_get (D := gD g) (ci := 4) (v := .ref b_3) (C := RX4) (T := TX4) (N := 8) hx hb hts inX4 hown hK hP k_1 hk_1 rfl 4 (by decide) (hts _ kw_954) (fun _ h9 => h9) rfl dX4_spread_24 ?_
  refine lv_iload_n hx hb dX4_spread_27 rfl (lv_at hl 2 rfl) ?_
  have hFc := gfree hD hS hA
  obtain ⟨k_8, fs_8, hk_8⟩ := gC_of o_b_2
  refine va_calli (va_runV (As := [.ref b_3, .int x1]) (rest := [.int z_7]) ⟨hx, hb, hml, hown, hts⟩ (m_X10_placesGiven l g H.size ws b_2 b_3 (x1) hG o_b_2 o_b_3) (cwV 2 hts (gd_V kw_990 kw_65 kw_66 kw_34 kw_64) rfl rfl rfl (by decide +kernel) ⟨Nat.le_of_ble_eq_true rfl, Nat.le_of_ble_eq_true rfl⟩) ⟨gblind, va_recv hK hP (ci := 9) (q0 := k_8) rfl hk_8, fun U hU hW9 => gmk hU hW9 hP hK hD hex hE hS hFc⟩ rfl rfl hl.1 rfl (lv_room (Nat.le_of_ble_eq_true rfl)) dX4_spread_28 ⟨Nat.le_of_ble_eq_true rfl, Nat.le_of_ble_eq_true rfl⟩) hS (fun q _ h => hFc q h) hFc (fun r_9 u9 t9 H1 locs ht9 hvm9 hw9 hB9 hz9 hk9 hS => ?_)
  have hP : va_P (gD g) cl0 ws H1 := by rw [← ht9]; exact hB9.1
  clear hB9 hz9 hk9 hvm9 ht9 hw9
  generalize H1 = H at hP hS ⊢
  refine lv_iadd hx hb dX4_spread_31 ?_
  refine lv_topi (fun z_10 ez_10 => ?_)
  refine lv_istore (lv' := [(4, .int z_10), (3, .int r_6), (0, .ref h0), (1, .int x1), (2, .int x2)]) hx hb dX4_spread_32 hl (by decide) rfl (fun ls hl => ?_)
  refine lv_aload_n hx hb dX4_spread_34 rfl (lv_at hl 2 rfl) ?_
  refine va_get (D := gD g) (ci := 4) (v := .ref b_3) (C := RX4) (T := TX4) (N := 8) hx hb hts inX4 hown hK hP k_1 hk_1 rfl 4 (by decide) (hts _ kw_954) (fun _ h9 => h9) rfl dX4_spread_35 ?_
  refine lv_iload_n hx hb dX4_spread_38 rfl (lv_at hl 3 rfl) ?_
  have hFc := gfree hD hS hA
  obtain ⟨k_11, fs_11, hk_11⟩ := gC_of o_b_3
  refine va_calli (va_runV (As := [.int x1]) (rest := []) ⟨hx, hb, hml, hown, hts⟩ (m_X8_isCaught l g H.size ws b_3 (x1) hG o_b_3) (cwV 1 hts (gd_V kw_991 kw_1500 kw_1501 kw_782 kw_1499) rfl rfl rfl (by decide +kernel) ⟨Nat.le_of_ble_eq_true rfl, Nat.le_of_ble_eq_true rfl⟩) ⟨gblind, va_recv hK hP (ci := 7) (q0 := k_11) rfl hk_11, fun U hU hW9 => gmk hU hW9 hP hK hD hex hE hS hFc⟩ rfl rfl hl.1 rfl (lv_room (Nat.le_of_ble_eq_true rfl)) dX4_spread_39 ⟨Nat.le_of_ble_eq_true rfl, Nat.le_of_ble_eq_true rfl⟩) hS (fun q _ h => hFc q h) hFc (fun r_12 u9 t9 H1 locs ht9 hvm9 hw9 hB9 hz9 hk9 hS => ?_)
  have hP : va_P (gD g) cl0 ws H1 := by rw [← ht9]; exact hB9.1
  have hz_r_12 : r_12 = 0 ∨ r_12 = 1 := hw9
  clear hB9 hz9 hk9 hvm9 ht9 hw9
  generalize H1 = H at hP hS ⊢
  refine lv_istore (lv' := [(5, .int r_12), (4, .int z_10), (3, .int r_6), (0, .ref h0), (1, .int x1), (2, .int x2)]) hx hb dX4_spread_42 hl (by decide) rfl (fun ls hl => ?_)
  refine lv_aload_n hx hb dX4_spread_44 rfl (lv_at hl 3 rfl) ?_
  refine va_get (D := gD g) (ci := 4) (v := .ref b_3) (C := RX4) (T := TX4) (N := 8) hx hb hts inX4 hown hK hP k_1 hk_1 rfl 4 (by decide) (hts _ kw_954) (fun _ h9 => h9) rfl dX4_spread_45 ?_
  refine lv_iload_n hx hb dX4_spread_48 rfl (lv_at hl 4 rfl) ?_
  have hFc := gfree hD hS hA
  obtain ⟨k_13, fs_13, hk_13⟩ := gC_of o_b_3
  refine va_calli (va_runV (As := [.int x1]) (rest := []) ⟨hx, hb, hml, hown, hts⟩ (m_X8_opAt l g H.size ws b_3 (x1) hG o_b_3) (cwV 1 hts (gd_V kw_992 kw_1513 kw_1514 kw_782 kw_1512) rfl rfl rfl (by decide +kernel) ⟨Nat.le_of_ble_eq_true rfl, Nat.le_of_ble_eq_true rfl⟩) ⟨gblind, va_recv hK hP (ci := 7) (q0 := k_13) rfl hk_13, fun U hU hW9 => gmk hU hW9 hP hK hD hex hE hS hFc⟩ rfl rfl hl.1 rfl (lv_room (Nat.le_of_ble_eq_true rfl)) dX4_spread_49 ⟨Nat.le_of_ble_eq_true rfl, Nat.le_of_ble_eq_true rfl⟩) hS (fun q _ h => hFc q h) hFc (fun r_14 u9 t9 H1 locs ht9 hvm9 hw9 hB9 hz9 hk9 hS => ?_)
  have hP : va_P (gD g) cl0 ws H1 := by rw [← ht9]; exact hB9.1
  clear hB9 hz9 hk9 hvm9 ht9 hw9
  generalize H1 = H at hP hS ⊢
  have hFc := gfree hD hS hA
  refine va_calli (va_runS (As := [.int r_14]) (rest := []) ⟨hx, hb, hml, hown, hts⟩ (m_X6_goesOn l g H.size ws (r_14) hG ) (va_cwS 1 hts (gd_S kw_993 kw_1219 kw_1207 kw_1218) rfl rfl rfl (by decide +kernel) ⟨Nat.le_of_ble_eq_true rfl, Nat.le_of_ble_eq_true rfl⟩) ⟨gblind, fun U hU hW9 => gmk hU hW9 hP hK hD hex hE hS hFc⟩ rfl rfl hl.1 rfl (lv_room (Nat.le_of_ble_eq_true rfl)) dX4_spread_52 ⟨Nat.le_of_ble_eq_true rfl, Nat.le_of_ble_eq_true rfl⟩) hS (fun q _ h => hFc q h) hFc (fun r_15 u9 t9 H1 locs ht9 hvm9 hw9 hB9 hz9 hk9 hS => ?_)
  have hP : va_P (gD g) cl0 ws H1 := by rw [← ht9]; exact hB9.1
  have hz_r_15 : r_15 = 0 ∨ r_15 = 1 := hw9
  clear hB9 hz9 hk9 hvm9 ht9 hw9
  generalize H1 = H at hP hS ⊢
  refine lv_istore (lv' := [(6, .int r_15), (5, .int r_12), (4, .int z_10), (3, .int r_6), (0, .ref h0), (1, .int x1), (2, .int x2)]) hx hb dX4_spread_55 hl (by decide) rfl (fun ls hl => ?_)
  refine lv_iload_n hx hb dX4_spread_57 rfl (lv_at hl 6 rfl) ?_
  refine lv_iload_n hx hb dX4_spread_58 rfl (lv_at hl 3 rfl) ?_
  have J_102 : ∀  (H : Heap) (locs : List Loc) (ls : Array Slot), va_P (gD g) cl0 ws H → va_D A ws → va_S A s.heap H locs → lv_has ls 9 [(0, .ref h0), (1, .int x1)] → W p l e (headSpec (wt yX4_spread cX4_spread 9 none) ({ frames := 3, cells := 0, slots := 0, locals := 66 })).room s m ([.ref h0, .int x1, .int x2] : List Value).toArray below meth c H locs 0 0 (MQ below (va_Qv (fun (u9 : va_W) => True) (gQ1 g [(4, 6), (4, 7)] A ws) A) ([.ref h0, .int x1, .int x2] : List Value).toArray s 0 0 A) (F0 m 102 ls []) := by
    intro  H locs ls  hP hD hS hl
    refine lv_aload_n hx hb dX4_spread_102 rfl (lv_at hl 0 rfl) ?_
    refine va_get (D := gD g) (ci := 4) (v := .ref r2_1) (C := RX4) (T := TX4) (N := 8) hx hb hts inX4 hown hK hP k_1 hk_1 rfl 2 (by decide) (hts _ kw_966) (fun _ h9 => h9) rfl dX4_spread_103 ?_
    refine lv_iload_n hx hb dX4_spread_106 rfl (lv_at hl 1 rfl) ?_
    refine lv_iconst (v := 1) hx hb dX4_spread_107 (by decide) ?_
    obtain ⟨k_18, f_18, hk_18⟩ := gI_of a_r2_1
    refine va_zast hx hb hK hP hD hS k_18 2 hk_18 rfl (i_in2 (by have q_p0 := p0; have q_f5_1 := f5_1; have q_f10_1 := f10_1; have q_fq_w := fq_w; have q_f1_1 := f1_1; have q_f9_1 := f9_1; have q_f11_1 := f11_1; have g_x1 := i_rg x1; omega)) dX4_spread_108 (fun H locs hP hD hS => ?_)
    obtain ⟨ws_19, e_ws_19⟩ : ∃ z, z = ws.set k_18 (r2_1, .inl (g.cZ, n2_1, .inl (upd f_18 (x1 : Int32).toNatClampNeg (vp_nar .boolean 1)))) := ⟨_, rfl⟩
    have hP : va_P (gD g) cl0 ws_19 H := by rw [e_ws_19]; exact hP
    have hD : va_D A ws_19 := by rw [e_ws_19]; exact hD
    have E_20 : gE ws ws_19 := gE_ari e_ws_19 hk_18
    have hG : Good g ws_19 := Good_arZ e_ws_19 hk_18 hG
    have Fr_21 : gF [] ws ws_19 := gF_ar e_ws_19 hk_18
    have hk_1 := gset_arO e_ws_19 hk_18 hk_1
    have o_h0 := E_20 _ _ o_h0
    have a_r0_1 := E_20 _ _ a_r0_1
    have a_r1_1 := E_20 _ _ a_r1_1
    have a_r2_1 := E_20 _ _ a_r2_1
    have o_b_2 := E_20 _ _ o_b_2
    have o_b_3 := E_20 _ _ o_b_3
    refine W.widen (k := 0) (n := 0) (Nat.le_of_ble_eq_true rfl) (Nat.le_of_ble_eq_true rfl) ?_
    exact W.vret hx hb hr (fun t9 ht9 hW9 => ⟨⟨ws_19, rfl, trivial, ⟨E_20, (gF.mo (F' := [(4, 6), (4, 7)]) Fr_21 (by decide)), hG, by rw [ht9]; exact hP, hD⟩⟩, hS.F ht9⟩) hS.2.2 dX4_spread_109
  refine lv_icmp_lt (tgt := 102) hx hb dX4_spread_59 (by decide) (fun c_22 => ?_) (fun c_22 => ?_)
  · exact J_102  H locs ls  hP hD hS (lv_sub hl [4, 5] rfl)
  · refine lv_iload hx hb dX4_spread_62 (lv_at hl 2 rfl) ?_
    refine lv_aload_n hx hb dX4_spread_64 rfl (lv_at hl 4 rfl) ?_
    refine va_get (D := gD g) (ci := 4) (v := .int c5_1) (C := RX4) (T := TX4) (N := 8) hx hb hts inX4 hown hK hP k_1 hk_1 rfl 5 (by decide) (hts _ kw_979) (fun _ h9 => h9) rfl dX4_spread_65 ?_
    refine lv_icmp_gt (tgt := 102) hx hb dX4_spread_68 (by decide) (fun c_23 => ?_) (fun c_23 => ?_)
    · exact J_102  H locs ls  hP hD hS (lv_sub hl [4, 5] rfl)
    · refine lv_iload hx hb dX4_spread_71 (lv_at hl 1 rfl) ?_
      have J_84 : ∀  (H : Heap) (locs : List Loc) (ls : Array Slot), va_P (gD g) cl0 ws H → va_D A ws → va_S A s.heap H locs → lv_has ls 9 [(0, .ref h0), (1, .int x1), (4, .int z_10), (5, .int r_12), (6, .int r_15)] → W p l e (headSpec (wt yX4_spread cX4_spread 9 none) ({ frames := 3, cells := 0, slots := 0, locals := 66 })).room s m ([.ref h0, .int x1, .int x2] : List Value).toArray below meth c H locs 0 0 (MQ below (va_Qv (fun (u9 : va_W) => True) (gQ1 g [(4, 6), (4, 7)] A ws) A) ([.ref h0, .int x1, .int x2] : List Value).toArray s 0 0 A) (F0 m 84 ls []) := by
        intro  H locs ls  hP hD hS hl
        refine lv_iload hx hb dX4_spread_84 (lv_at hl 4 rfl) ?_
        have J_110 : ∀  (H : Heap) (locs : List Loc) (ls : Array Slot), va_P (gD g) cl0 ws H → va_D A ws → va_S A s.heap H locs → lv_has ls 9 [(0, .ref h0), (1, .int x1), (4, .int z_10), (5, .int r_12), (6, .int r_15)] → W p l e (headSpec (wt yX4_spread cX4_spread 9 none) ({ frames := 3, cells := 0, slots := 0, locals := 66 })).room s m ([.ref h0, .int x1, .int x2] : List Value).toArray below meth c H locs 0 0 (MQ below (va_Qv (fun (u9 : va_W) => True) (gQ1 g [(4, 6), (4, 7)] A ws) A) ([.ref h0, .int x1, .int x2] : List Value).toArray s 0 0 A) (F0 m 110 ls []) := by
          intro  H locs ls  hP hD hS hl
          refine lv_aload_n hx hb dX4_spread_110 rfl (lv_at hl 0 rfl) ?_
          refine lv_aload_n hx hb dX4_spread_111 rfl (lv_at hl 0 rfl) ?_
          refine va_get (D := gD g) (ci := 4) (v := .int c7_1) (C := RX4) (T := TX4) (N := 8) hx hb hts inX4 hown hK hP k_1 hk_1 rfl 7 (by decide) (hts _ kw_980) (fun _ h9 => h9) rfl dX4_spread_112 ?_
          refine lv_iload hx hb dX4_spread_115 (lv_at hl 2 rfl) ?_
          refine lv_iload hx hb dX4_spread_117 (lv_at hl 3 rfl) ?_
          have J_127 : ∀ (t_28 : Int32) (H : Heap) (locs : List Loc) (ls : Array Slot), t_28 = 0 ∨ t_28 = 1 → va_P (gD g) cl0 ws H → va_D A ws → va_S A s.heap H locs → lv_has ls 9 [(0, .ref h0), (1, .int x1), (4, .int z_10), (5, .int r_12), (6, .int r_15)] → W p l e (headSpec (wt yX4_spread cX4_spread 9 none) ({ frames := 3, cells := 0, slots := 0, locals := 66 })).room s m ([.ref h0, .int x1, .int x2] : List Value).toArray below meth c H locs 0 0 (MQ below (va_Qv (fun (u9 : va_W) => True) (gQ1 g [(4, 6), (4, 7)] A ws) A) ([.ref h0, .int x1, .int x2] : List Value).toArray s 0 0 A) (F0 m 127 ls [.int t_28, .int z_10, .int c7_1, .ref h0]) := by
            intro t_28 H locs ls iv_29 hP hD hS hl
            have hz_t_28 := iv_29
            refine va_mmax hx hb (by rw [hml]; exact hl.1.symm) hown (hts _ kw_994) (hts _ kw_1747) (hts _ kw_1748) (hts _ kw_1746) (Nat.le_of_ble_eq_true rfl) (Nat.le_of_ble_eq_true rfl) (Nat.le_of_ble_eq_true rfl) (Nat.le_of_ble_eq_true rfl) dX4_spread_127 ?_
            refine lv_topi (fun z_32 ez_32 => ?_)
            refine va_mmax hx hb (by rw [hml]; exact hl.1.symm) hown (hts _ kw_994) (hts _ kw_1747) (hts _ kw_1748) (hts _ kw_1746) (Nat.le_of_ble_eq_true rfl) (Nat.le_of_ble_eq_true rfl) (Nat.le_of_ble_eq_true rfl) (Nat.le_of_ble_eq_true rfl) dX4_spread_130 ?_
            refine lv_topi (fun z_33 ez_33 => ?_)
            refine va_put (D := gD g) (ci := 4) (v := .int z_33) (ty := .int) (C := RX4) (T := TX4) (N := 8) hx hb hts inX4 tyX4 tyX4_ok nmX4 hown hK hP hD hS k_1 hk_1 rfl 7 (by decide) (hts _ kw_980) (fun _ h9 => h9) rfl (by decide +kernel) rfl rfl (Nat.le_of_ble_eq_true rfl) dX4_spread_133 (fun H locs hP hD hS => ?_)
            have hi_34 : invX4 g ws h0 [.ref r0_1, .ref r1_1, .ref r2_1, .ref b_2, .ref b_3, .int c5_1, .int c6_1, .int z_33] := ⟨r0_1, (n0_1), r1_1, (n1_1), r2_1, (n2_1), (some b_2), (some b_3), (c5_1), (c6_1), (z_33), rfl, a_r0_1, f1_1, a_r1_1, f3_1, a_r2_1, f5_1, (fun b h9 => by cases h9; exact o_b_2), (fun b h9 => by cases h9; exact o_b_3), hz_c6_1, f9_1, f10_1, f11_1, trivial⟩
            obtain ⟨ws_35, e_ws_35⟩ : ∃ z, z = ws.set k_1 (h0, .inr (4, [.ref r0_1, .ref r1_1, .ref r2_1, .ref b_2, .ref b_3, .int c5_1, .int c6_1, .int z_33])) := ⟨_, rfl⟩
            have hP : va_P (gD g) cl0 ws_35 H := by rw [e_ws_35]; exact hP
            have hD : va_D A ws_35 := by rw [e_ws_35]; exact hD
            have E_36 : gE ws ws_35 := gE_set e_ws_35 hk_1 rfl
            have hG : Good g ws_35 := Good_set e_ws_35 hk_1 hG (ivX4 hi_34)
            have Fr_37 : gF [(4, 7)] ws ws_35 := gF_put (fi := 7) (v := .int z_33) e_ws_35 hk_1 rfl
            have hkN := gset_self e_ws_35 hk_1
            have hk_1 := hkN
            have o_h0 := E_36 _ _ o_h0
            have a_r0_1 := E_36 _ _ a_r0_1
            have a_r1_1 := E_36 _ _ a_r1_1
            have a_r2_1 := E_36 _ _ a_r2_1
            have o_b_2 := E_36 _ _ o_b_2
            have o_b_3 := E_36 _ _ o_b_3
            refine lv_iload hx hb dX4_spread_136 (lv_at hl 4 rfl) ?_
            have J_150 : ∀ (ws_38 : va_W) (H : Heap) (locs : List Loc) (ls : Array Slot), gE ws_35 ws_38 → gF [(4, 6)] ws_35 ws_38 → Good g ws_38 → va_P (gD g) cl0 ws_38 H → va_D A ws_38 → va_S A s.heap H locs → lv_has ls 9 [(0, .ref h0), (1, .int x1), (4, .int z_10), (5, .int r_12)] → W p l e (headSpec (wt yX4_spread cX4_spread 9 none) ({ frames := 3, cells := 0, slots := 0, locals := 66 })).room s m ([.ref h0, .int x1, .int x2] : List Value).toArray below meth c H locs 0 0 (MQ below (va_Qv (fun (u9 : va_W) => True) (gQ1 g [(4, 6), (4, 7)] A ws) A) ([.ref h0, .int x1, .int x2] : List Value).toArray s 0 0 A) (F0 m 150 ls []) := by
              intro ws_38 H locs ls  E_39 Fr_40 hG hP hD hS hl
              have aa_41 := a_r0_1
              have aa_42 := a_r1_1
              have aa_43 := a_r2_1
              have o_h0 := E_39 _ _ o_h0
              refine lv_aload_n hx hb dX4_spread_150 rfl (lv_at hl 0 rfl) ?_
              obtain ⟨fs9, hk_44, hq_44⟩ := (Fr_40) _ _ _ _ hk_1
              obtain ⟨r0_44, n0_44, r1_44, n1_44, r2_44, n2_44, v3_44, v4_44, c5_44, c6_44, c7_44, rfl, a_r0_44, f1_44, a_r1_44, f3_44, a_r2_44, f5_44, o_v3_44, o_v4_44, hz_c6_44, f9_44, f10_44, f11_44, -⟩ := (hG.1 _ _ _ _ hk_44).hX4 rfl
              obtain rfl := fe_r (hq_44 2 (by decide))
              have hn9 := gI_n hD ((E_39) _ _ aa_43) a_r2_44
              subst hn9
              have a_r2_1 := a_r2_44
              have hn9 := fe_qr (hq_44 3 (by decide))
              subst hn9
              have o_b_2 := o_v3_44 _ rfl
              have hn9 := fe_qr (hq_44 4 (by decide))
              subst hn9
              have o_b_3 := o_v4_44 _ rfl
              obtain rfl := fe_i (hq_44 5 (by decide))
              obtain rfl := fe_i (hq_44 7 (by decide))
              refine va_get (D := gD g) (ci := 4) (v := .ref b_3) (C := RX4) (T := TX4) (N := 8) hx hb hts inX4 hown hK hP k_1 hk_44 rfl 4 (by decide) (hts _ kw_954) (fun _ h9 => h9) rfl dX4_spread_151 ?_
              refine lv_iload_n hx hb dX4_spread_154 rfl (lv_at hl 1 rfl) ?_
              have hFc := gfree hD hS hA
              obtain ⟨k_45, fs_45, hk_45⟩ := gC_of o_b_3
              refine va_calli (va_runV (As := [.int x1]) (rest := []) ⟨hx, hb, hml, hown, hts⟩ (m_X8_targetCount l g H.size ws_38 b_3 (x1) hG o_b_3) (cwV 1 hts (gd_V kw_995 kw_1541 kw_1542 kw_782 kw_1540) rfl rfl rfl (by decide +kernel) ⟨Nat.le_of_ble_eq_true rfl, Nat.le_of_ble_eq_true rfl⟩) ⟨gblind, va_recv hK hP (ci := 7) (q0 := k_45) rfl hk_45, fun U hU hW9 => gmk hU hW9 hP hK hD hex hE hS hFc⟩ rfl rfl hl.1 rfl (lv_room (Nat.le_of_ble_eq_true rfl)) dX4_spread_155 ⟨Nat.le_of_ble_eq_true rfl, Nat.le_of_ble_eq_true rfl⟩) hS (fun q _ h => hFc q h) hFc (fun r_46 u9 t9 H1 locs ht9 hvm9 hw9 hB9 hz9 hk9 hS => ?_)
              have hP : va_P (gD g) cl0 ws_38 H1 := by rw [← ht9]; exact hB9.1
              clear hB9 hz9 hk9 hvm9 ht9 hw9
              generalize H1 = H at hP hS ⊢
              refine lv_istore (lv' := [(7, .int r_46), (0, .ref h0), (1, .int x1), (4, .int z_10), (5, .int r_12)]) hx hb dX4_spread_158 hl (by decide) rfl (fun ls hl => ?_)
              refine lv_iconst (v := 0) hx hb dX4_spread_160 (by decide) ?_
              refine lv_istore (lv' := [(8, .int 0), (7, .int r_46), (0, .ref h0), (1, .int x1), (4, .int z_10), (5, .int r_12)]) hx hb dX4_spread_161 hl (by decide) rfl (fun ls hl => ?_)
              have J_163 : ∀ (n9 : Nat) (v8_47 : Int32) (ws_49 : va_W) (H : Heap) (locs : List Loc) (ls : Array Slot), (2147483647 - v8_47.toInt).toNat = n9 → 0 ≤ v8_47.toInt → gE ws_38 ws_49 → gF [(4, 6)] ws_38 ws_49 → Good g ws_49 → va_P (gD g) cl0 ws_49 H → va_D A ws_49 → va_S A s.heap H locs → lv_has ls 9 [(0, .ref h0), (1, .int x1), (4, .int z_10), (5, .int r_12), (7, .int r_46), (8, .int v8_47)] → W p l e (headSpec (wt yX4_spread cX4_spread 9 none) ({ frames := 3, cells := 0, slots := 0, locals := 66 })).room s m ([.ref h0, .int x1, .int x2] : List Value).toArray below meth c H locs 0 0 (MQ below (va_Qv (fun (u9 : va_W) => True) (gQ1 g [(4, 6), (4, 7)] A ws) A) ([.ref h0, .int x1, .int x2] : List Value).toArray s 0 0 A) (F0 m 163 ls []) := by
                intro n9
                induction n9 using Nat.strongRecOn with
                | ind n9 ih_163 =>
                  intro v8_47 ws_49 H locs ls hm9 iv_48 E_50 Fr_51 hG hP hD hS hl
                  subst hm9
                  have aa_52 := a_r0_44
                  have aa_53 := a_r1_44
                  have aa_54 := a_r2_1
                  have o_h0 := E_50 _ _ o_h0
                  refine lv_iload hx hb dX4_spread_163 (lv_at hl 5 rfl) ?_
                  refine lv_iload hx hb dX4_spread_165 (lv_at hl 4 rfl) ?_
                  refine lv_icmp_ge (tgt := 192) hx hb dX4_spread_167 (by decide) (fun c_55 => ?_) (fun c_55 => ?_)
                  · refine lv_iconst (v := 0) hx hb dX4_spread_192 (by decide) ?_
                    refine lv_istore (lv' := [(8, .int 0), (0, .ref h0), (1, .int x1), (4, .int z_10), (5, .int r_12), (7, .int r_46)]) hx hb dX4_spread_193 hl (by decide) rfl (fun ls hl => ?_)
                    have J_195 : ∀ (n9 : Nat) (v8_56 : Int32) (ws_58 : va_W) (H : Heap) (locs : List Loc) (ls : Array Slot), (2147483647 - v8_56.toInt).toNat = n9 → 0 ≤ v8_56.toInt → gE ws_49 ws_58 → gF [(4, 6)] ws_49 ws_58 → Good g ws_58 → va_P (gD g) cl0 ws_58 H → va_D A ws_58 → va_S A s.heap H locs → lv_has ls 9 [(0, .ref h0), (1, .int x1), (5, .int r_12), (8, .int v8_56)] → W p l e (headSpec (wt yX4_spread cX4_spread 9 none) ({ frames := 3, cells := 0, slots := 0, locals := 66 })).room s m ([.ref h0, .int x1, .int x2] : List Value).toArray below meth c H locs 0 0 (MQ below (va_Qv (fun (u9 : va_W) => True) (gQ1 g [(4, 6), (4, 7)] A ws) A) ([.ref h0, .int x1, .int x2] : List Value).toArray s 0 0 A) (F0 m 195 ls []) := by
                      intro n9
                      induction n9 using Nat.strongRecOn with
                      | ind n9 ih_195 =>
                        intro v8_56 ws_58 H locs ls hm9 iv_57 E_59 Fr_60 hG hP hD hS hl
                        subst hm9
                        have o_h0 := E_59 _ _ o_h0
                        refine lv_iload hx hb dX4_spread_195 (lv_at hl 2 rfl) ?_
                        have J_246 : ∀  (H : Heap) (locs : List Loc) (ls : Array Slot), va_P (gD g) cl0 ws_58 H → va_D A ws_58 → va_S A s.heap H locs → lv_has ls 9 [] → W p l e (headSpec (wt yX4_spread cX4_spread 9 none) ({ frames := 3, cells := 0, slots := 0, locals := 66 })).room s m ([.ref h0, .int x1, .int x2] : List Value).toArray below meth c H locs 0 0 (MQ below (va_Qv (fun (u9 : va_W) => True) (gQ1 g [(4, 6), (4, 7)] A ws) A) ([.ref h0, .int x1, .int x2] : List Value).toArray s 0 0 A) (F0 m 246 ls []) := by
                          intro  H locs ls  hP hD hS hl
                          refine W.widen (k := 0) (n := 0) (Nat.le_of_ble_eq_true rfl) (Nat.le_of_ble_eq_true rfl) ?_
                          exact W.vret hx hb hr (fun t9 ht9 hW9 => ⟨⟨ws_58, rfl, trivial, ⟨(E_36.tr (E_39.tr (E_50.tr E_59))), (gF.tr (gF.mo (F' := [(4, 6), (4, 7)]) Fr_37 (by decide)) (gF.tr (gF.mo (F' := [(4, 6), (4, 7)]) Fr_40 (by decide)) (gF.tr (gF.mo (F' := [(4, 6), (4, 7)]) Fr_51 (by decide)) (gF.mo (F' := [(4, 6), (4, 7)]) Fr_60 (by decide))))), hG, by rw [ht9]; exact hP, hD⟩⟩, hS.F ht9⟩) hS.2.2 dX4_spread_246
                        refine lv_if_eq (tgt := 246) hx hb dX4_spread_197 (by decide) (fun c_63 => ?_) (fun c_63 => ?_)
                        · exact J_246  H locs ls  hP hD hS (lv_sub hl [] rfl)
                        · refine lv_iload hx hb dX4_spread_200 (lv_at hl 3 rfl) ?_
                          refine lv_aload_n hx hb dX4_spread_202 rfl (lv_at hl 0 rfl) ?_
                          obtain ⟨fs9, hk_64, hq_64⟩ := ((gF.tr Fr_51 Fr_60)) _ _ _ _ hk_44
                          obtain ⟨r0_64, n0_64, r1_64, n1_64, r2_64, n2_64, v3_64, v4_64, c5_64, c6_64, c7_64, rfl, a_r0_64, f1_64, a_r1_64, f3_64, a_r2_64, f5_64, o_v3_64, o_v4_64, hz_c6_64, f9_64, f10_64, f11_64, -⟩ := (hG.1 _ _ _ _ hk_64).hX4 rfl
                          obtain rfl := fe_r (hq_64 2 (by decide))
                          have hn9 := gI_n hD (((E_50.tr E_59)) _ _ aa_54) a_r2_64
                          subst hn9
                          have a_r2_1 := a_r2_64
                          have hn9 := fe_qr (hq_64 3 (by decide))
                          subst hn9
                          have o_b_2 := o_v3_64 _ rfl
                          have hn9 := fe_qr (hq_64 4 (by decide))
                          subst hn9
                          have o_b_3 := o_v4_64 _ rfl
                          obtain rfl := fe_i (hq_64 5 (by decide))
                          obtain rfl := fe_i (hq_64 7 (by decide))
                          refine va_get (D := gD g) (ci := 4) (v := .ref b_3) (C := RX4) (T := TX4) (N := 8) hx hb hts inX4 hown hK hP k_1 hk_64 rfl 4 (by decide) (hts _ kw_954) (fun _ h9 => h9) rfl dX4_spread_203 ?_
                          obtain ⟨k_65, fs9, hk_65⟩ := gC_of o_b_3
                          obtain ⟨r0_65, n0_65, r1_65, n1_65, c2_65, r3_65, n3_65, c4_65, r5_65, n5_65, r6_65, n6_65, r7_65, n7_65, r8_65, n8_65, c9_65, c10_65, c11_65, v12_65, v13_65, v14_65, rfl, a_r0_65, f1_65, a_r1_65, f3_65, a_r3_65, f5_65, a_r5_65, f7_65, a_r6_65, f9_65, a_r7_65, f11_65, a_r8_65, f13_65, o_v12_65, o_v13_65, o_v14_65, f17_65, f18_65, f19_65, f20_65, f21_65, f22_65, f23_65, f24_65, f25_65, f26_65, f27_65, -⟩ := (hG.1 _ _ _ _ hk_65).hX8 rfl
                          refine va_get (D := gD g) (ci := 7) (v := .int c9_65) (C := RX8) (T := TX8) (N := 15) hx hb hts inX8 hown hK hP k_65 hk_65 rfl 9 (by decide) (hts _ kw_997) (fun _ h9 => h9) rfl dX4_spread_206 ?_
                          refine lv_icmp_ge (tgt := 246) hx hb dX4_spread_209 (by decide) (fun c_66 => ?_) (fun c_66 => ?_)
                          · exact J_246  H locs ls  hP hD hS (lv_sub hl [] rfl)
                          · refine lv_aload_n hx hb dX4_spread_212 rfl (lv_at hl 0 rfl) ?_
                            refine va_get (D := gD g) (ci := 4) (v := .ref b_3) (C := RX4) (T := TX4) (N := 8) hx hb hts inX4 hown hK hP k_1 hk_64 rfl 4 (by decide) (hts _ kw_954) (fun _ h9 => h9) rfl dX4_spread_213 ?_
                            refine lv_iload hx hb dX4_spread_216 (lv_at hl 3 rfl) ?_
                            refine lv_iload_n hx hb dX4_spread_218 rfl (lv_at hl 1 rfl) ?_
                            have hFc := gfree hD hS hA
                            refine va_calli (va_runV (As := [.int v8_56, .int x1]) (rest := []) ⟨hx, hb, hml, hown, hts⟩ (m_X8_catchHas l g H.size ws_58 b_3 (v8_56) (x1) hG o_b_3) (cwV 2 hts (gd_V kw_998 kw_1483 kw_1484 kw_782 kw_1482) rfl rfl rfl (by decide +kernel) ⟨Nat.le_of_ble_eq_true rfl, Nat.le_of_ble_eq_true rfl⟩) ⟨gblind, va_recv hK hP (ci := 7) (q0 := k_65) rfl hk_65, fun U hU hW9 => gmk hU hW9 hP hK hD hex hE hS hFc⟩ rfl rfl hl.1 rfl (lv_room (Nat.le_of_ble_eq_true rfl)) dX4_spread_219 ⟨Nat.le_of_ble_eq_true rfl, Nat.le_of_ble_eq_true rfl⟩) hS (fun q _ h => hFc q h) hFc (fun r_67 u9 t9 H1 locs ht9 hvm9 hw9 hB9 hz9 hk9 hS => ?_)
                            have hP : va_P (gD g) cl0 ws_58 H1 := by rw [← ht9]; exact hB9.1
                            have hz_r_67 : r_67 = 0 ∨ r_67 = 1 := hw9
                            clear hB9 hz9 hk9 hvm9 ht9 hw9
                            generalize H1 = H at hP hS ⊢
                            have J_240 : ∀ (ws_68 : va_W) (H : Heap) (locs : List Loc) (ls : Array Slot), gE ws_58 ws_68 → gF [(4, 6)] ws_58 ws_68 → Good g ws_68 → va_P (gD g) cl0 ws_68 H → va_D A ws_68 → va_S A s.heap H locs → lv_has ls 9 [(0, .ref h0), (1, .int x1), (5, .int r_12), (8, .int v8_56)] → W p l e (headSpec (wt yX4_spread cX4_spread 9 none) ({ frames := 3, cells := 0, slots := 0, locals := 66 })).room s m ([.ref h0, .int x1, .int x2] : List Value).toArray below meth c H locs 0 0 (MQ below (va_Qv (fun (u9 : va_W) => True) (gQ1 g [(4, 6), (4, 7)] A ws) A) ([.ref h0, .int x1, .int x2] : List Value).toArray s 0 0 A) (F0 m 240 ls []) := by
                              intro ws_68 H locs ls  E_69 Fr_70 hG hP hD hS hl
                              have aa_71 := a_r0_64
                              have aa_72 := a_r1_64
                              have aa_73 := a_r2_1
                              have aa_74 := a_r0_65
                              have aa_75 := a_r1_65
                              have aa_76 := a_r3_65
                              have aa_77 := a_r5_65
                              have aa_78 := a_r6_65
                              have aa_79 := a_r7_65
                              have aa_80 := a_r8_65
                              have o_h0 := E_69 _ _ o_h0
                              obtain ⟨z_81, ez_81⟩ : ∃ z : Int32, v8_56 + Int32.ofInt 1 = z := ⟨_, rfl⟩
                              refine lv_iinc (v := z_81) (lv' := [(8, .int z_81), (0, .ref h0), (1, .int x1), (5, .int r_12)]) hx hb dX4_spread_240 hl (k := 3) rfl ez_81 (by decide) rfl (fun ls hl => ?_)
                              refine lv_goto (tgt := 195) hx hb dX4_spread_243 (by decide) ?_
                              exact ih_195 _ (by obtain ⟨u_z_81, q_z_81⟩ := i_iz ez_81 (by decide) (by decide); have q_iv_57 := iv_57; have q_c_66 := i_nle c_66; have g_c9_65 := i_rg c9_65; have g_v8_56 := i_rg v8_56; have g_z_81 := i_rg z_81; omega) (z_81) ws_68 H locs ls rfl (by obtain ⟨u_z_81, q_z_81⟩ := i_iz ez_81 (by decide) (by decide); have q_iv_57 := iv_57; have q_c_66 := i_nle c_66; have g_c9_65 := i_rg c9_65; have g_v8_56 := i_rg v8_56; have g_z_81 := i_rg z_81; omega) ((E_59.tr E_69)) ((gF.tr Fr_60 Fr_70)) hG hP hD hS (lv_sub hl [1, 2, 3, 0] rfl)
                            refine lv_if_eq (tgt := 240) hx hb dX4_spread_222 (by decide) (fun c_82 => ?_) (fun c_82 => ?_)
                            · exact J_240 ws_58 H locs ls (gE.rf) (gF.rf) hG hP hD hS (lv_sub hl [0, 1, 2, 3] rfl)
                            · refine lv_aload_n hx hb dX4_spread_225 rfl (lv_at hl 0 rfl) ?_
                              refine lv_aload_n hx hb dX4_spread_226 rfl (lv_at hl 0 rfl) ?_
                              refine va_get (D := gD g) (ci := 4) (v := .ref b_3) (C := RX4) (T := TX4) (N := 8) hx hb hts inX4 hown hK hP k_1 hk_64 rfl 4 (by decide) (hts _ kw_954) (fun _ h9 => h9) rfl dX4_spread_227 ?_
                              refine va_get (D := gD g) (ci := 7) (v := .ref r7_65) (C := RX8) (T := TX8) (N := 15) hx hb hts inX8 hown hK hP k_65 hk_65 rfl 7 (by decide) (hts _ kw_999) (fun _ h9 => h9) rfl dX4_spread_230 ?_
                              refine lv_iload hx hb dX4_spread_233 (lv_at hl 3 rfl) ?_
                              obtain ⟨k_83, f_83, hk_83⟩ := gI_of a_r7_65
                              refine va_iald hx hb hK hP k_83 1 hk_83 rfl (i_in2 (by have q_iv_57 := iv_57; have q_f11_65 := f11_65; have q_f24_65 := f24_65; have q_c_66 := i_nle c_66; have q_f7_65 := f7_65; have q_f23_65 := f23_65; have q_f25_65 := f25_65; have q_f26_65 := f26_65; have q_f27_65 := f27_65; have g_c9_65 := i_rg c9_65; have g_v8_56 := i_rg v8_56; omega)) dX4_spread_235 ?_
                              refine lv_topi (fun z_84 ez_84 => ?_)
                              refine lv_iconst (v := 1) hx hb dX4_spread_236 (by decide) ?_
                              have hFc := gfree hD hS hA
                              refine va_callv (va_runV (As := [.int z_84, .int 1]) (rest := []) ⟨hx, hb, hml, hown, hts⟩ (m_X4_comeTo l g H.size ws_58 h0 (z_84) (1) hG o_h0 (gN_of hD hk_64 (j := 4) rfl)) (cwV 2 hts (gd_V kw_982 kw_952 kw_953 kw_167 kw_951) rfl rfl rfl (by decide +kernel) ⟨Nat.le_of_ble_eq_true rfl, Nat.le_of_ble_eq_true rfl⟩) ⟨gblind, va_recv hK hP (ci := 4) (q0 := k_1) rfl hk_64, fun U hU hW9 => gmk hU hW9 hP hK hD hex hE hS hFc⟩ rfl rfl hl.1 rfl (lv_room (Nat.le_of_ble_eq_true rfl)) dX4_spread_237 ⟨Nat.le_of_ble_eq_true rfl, Nat.le_of_ble_eq_true rfl⟩) hS (fun q _ h => hFc q h) hFc (fun  ws_85 t9 H1 locs ht9 hvm9 hw9 hB9 hz9 hk9 hS => ?_)
                              obtain ⟨E_86, Fr_87, hG, hP1, hD1⟩ := hB9
                              have hP : va_P (gD g) cl0 ws_85 H1 := by rw [← ht9]; exact hP1
                              have hD : va_D A ws_85 := hD1.weaken (fun _ _ _ h => hFc _ h)
                              clear hP1 hD1 hz9 hk9 hvm9 ht9 hw9
                              generalize H1 = H at hP hS ⊢
                              have aa_88 := a_r0_64
                              have aa_89 := a_r1_64
                              have aa_90 := a_r2_1
                              have aa_91 := a_r0_65
                              have aa_92 := a_r1_65
                              have aa_93 := a_r3_65
                              have aa_94 := a_r5_65
                              have aa_95 := a_r6_65
                              have aa_96 := a_r7_65
                              have aa_97 := a_r8_65
                              have o_h0 := E_86 _ _ o_h0
                              exact J_240 ws_85 H locs ls (E_86) (Fr_87) hG hP hD hS (lv_sub hl [0, 1, 2, 3] rfl)
                    exact J_195 _ (0) ws_49 H locs ls rfl (by have e0 : (0 : Int32).toInt = 0 := (by decide); omega) (gE.rf) (gF.rf) hG hP hD hS (lv_sub hl [1, 2, 4, 0] rfl)
                  · refine lv_aload_n hx hb dX4_spread_170 rfl (lv_at hl 0 rfl) ?_
                    refine lv_aload_n hx hb dX4_spread_171 rfl (lv_at hl 0 rfl) ?_
                    obtain ⟨fs9, hk_98, hq_98⟩ := (Fr_51) _ _ _ _ hk_44
                    obtain ⟨r0_98, n0_98, r1_98, n1_98, r2_98, n2_98, v3_98, v4_98, c5_98, c6_98, c7_98, rfl, a_r0_98, f1_98, a_r1_98, f3_98, a_r2_98, f5_98, o_v3_98, o_v4_98, hz_c6_98, f9_98, f10_98, f11_98, -⟩ := (hG.1 _ _ _ _ hk_98).hX4 rfl
                    obtain rfl := fe_r (hq_98 2 (by decide))
                    have hn9 := gI_n hD ((E_50) _ _ aa_54) a_r2_98
                    subst hn9
                    have a_r2_1 := a_r2_98
                    have hn9 := fe_qr (hq_98 3 (by decide))
                    subst hn9
                    have o_b_2 := o_v3_98 _ rfl
                    have hn9 := fe_qr (hq_98 4 (by decide))
                    subst hn9
                    have o_b_3 := o_v4_98 _ rfl
                    obtain rfl := fe_i (hq_98 5 (by decide))
                    obtain rfl := fe_i (hq_98 7 (by decide))
                    refine va_get (D := gD g) (ci := 4) (v := .ref b_3) (C := RX4) (T := TX4) (N := 8) hx hb hts inX4 hown hK hP k_1 hk_98 rfl 4 (by decide) (hts _ kw_954) (fun _ h9 => h9) rfl dX4_spread_172 ?_
                    refine lv_iload_n hx hb dX4_spread_175 rfl (lv_at hl 1 rfl) ?_
                    refine lv_iload hx hb dX4_spread_176 (lv_at hl 5 rfl) ?_
                    have hFc := gfree hD hS hA
                    obtain ⟨k_99, fs_99, hk_99⟩ := gC_of o_b_3
                    refine va_calli (va_runV (As := [.int x1, .int v8_47]) (rest := [.ref h0]) ⟨hx, hb, hml, hown, hts⟩ (m_X8_targetAt l g H.size ws_49 b_3 (x1) (v8_47) hG o_b_3) (cwV 2 hts (gd_V kw_996 kw_1537 kw_1538 kw_782 kw_1536) rfl rfl rfl (by decide +kernel) ⟨Nat.le_of_ble_eq_true rfl, Nat.le_of_ble_eq_true rfl⟩) ⟨gblind, va_recv hK hP (ci := 7) (q0 := k_99) rfl hk_99, fun U hU hW9 => gmk hU hW9 hP hK hD hex hE hS hFc⟩ rfl rfl hl.1 rfl (lv_room (Nat.le_of_ble_eq_true rfl)) dX4_spread_178 ⟨Nat.le_of_ble_eq_true rfl, Nat.le_of_ble_eq_true rfl⟩) hS (fun q _ h => hFc q h) hFc (fun r_100 u9 t9 H1 locs ht9 hvm9 hw9 hB9 hz9 hk9 hS => ?_)
                    have hP : va_P (gD g) cl0 ws_49 H1 := by rw [← ht9]; exact hB9.1
                    clear hB9 hz9 hk9 hvm9 ht9 hw9
                    generalize H1 = H at hP hS ⊢
                    refine lv_iload hx hb dX4_spread_181 (lv_at hl 2 rfl) ?_
                    have hFc := gfree hD hS hA
                    refine va_callv (va_runV (As := [.int r_100, .int z_10]) (rest := []) ⟨hx, hb, hml, hown, hts⟩ (m_X4_comeTo l g H.size ws_49 h0 (r_100) (z_10) hG o_h0 (gN_of hD hk_98 (j := 4) rfl)) (cwV 2 hts (gd_V kw_982 kw_952 kw_953 kw_167 kw_951) rfl rfl rfl (by decide +kernel) ⟨Nat.le_of_ble_eq_true rfl, Nat.le_of_ble_eq_true rfl⟩) ⟨gblind, va_recv hK hP (ci := 4) (q0 := k_1) rfl hk_98, fun U hU hW9 => gmk hU hW9 hP hK hD hex hE hS hFc⟩ rfl rfl hl.1 rfl (lv_room (Nat.le_of_ble_eq_true rfl)) dX4_spread_183 ⟨Nat.le_of_ble_eq_true rfl, Nat.le_of_ble_eq_true rfl⟩) hS (fun q _ h => hFc q h) hFc (fun  ws_101 t9 H1 locs ht9 hvm9 hw9 hB9 hz9 hk9 hS => ?_)
                    obtain ⟨E_102, Fr_103, hG, hP1, hD1⟩ := hB9
                    have hP : va_P (gD g) cl0 ws_101 H1 := by rw [← ht9]; exact hP1
                    have hD : va_D A ws_101 := hD1.weaken (fun _ _ _ h => hFc _ h)
                    clear hP1 hD1 hz9 hk9 hvm9 ht9 hw9
                    generalize H1 = H at hP hS ⊢
                    have aa_104 := a_r0_98
                    have aa_105 := a_r1_98
                    have aa_106 := a_r2_1
                    have o_h0 := E_102 _ _ o_h0
                    obtain ⟨z_107, ez_107⟩ : ∃ z : Int32, v8_47 + Int32.ofInt 1 = z := ⟨_, rfl⟩
                    refine lv_iinc (v := z_107) (lv' := [(8, .int z_107), (0, .ref h0), (1, .int x1), (4, .int z_10), (5, .int r_12), (7, .int r_46)]) hx hb dX4_spread_186 hl (k := 5) rfl ez_107 (by decide) rfl (fun ls hl => ?_)
                    refine lv_goto (tgt := 163) hx hb dX4_spread_189 (by decide) ?_
                    exact ih_163 _ (by obtain ⟨u_z_107, q_z_107⟩ := i_iz ez_107 (by decide) (by decide); have q_iv_48 := iv_48; have q_c_55 := i_nle c_55; have g_r_46 := i_rg r_46; have g_v8_47 := i_rg v8_47; have g_z_107 := i_rg z_107; omega) (z_107) ws_101 H locs ls rfl (by obtain ⟨u_z_107, q_z_107⟩ := i_iz ez_107 (by decide) (by decide); have q_iv_48 := iv_48; have q_c_55 := i_nle c_55; have g_r_46 := i_rg r_46; have g_v8_47 := i_rg v8_47; have g_z_107 := i_rg z_107; omega) ((E_50.tr E_102)) ((gF.tr Fr_51 Fr_103)) hG hP hD hS (lv_sub hl [1, 2, 3, 4, 5, 0] rfl)
              exact J_163 _ (0) ws_38 H locs ls rfl (by have e0 : (0 : Int32).toInt = 0 := (by decide); omega) (gE.rf) (gF.rf) hG hP hD hS (lv_sub hl [2, 3, 4, 5, 1, 0] rfl)
            refine lv_if_eq (tgt := 150) hx hb dX4_spread_138 (by decide) (fun c_108 => ?_) (fun c_108 => ?_)
            · exact J_150 ws_35 H locs ls (gE.rf) (gF.rf) hG hP hD hS (lv_sub hl [0, 1, 2, 3] rfl)
            · refine lv_aload_n hx hb dX4_spread_141 rfl (lv_at hl 0 rfl) ?_
              refine lv_iload_n hx hb dX4_spread_142 rfl (lv_at hl 1 rfl) ?_
              refine lv_iconst (v := 1) hx hb dX4_spread_143 (by decide) ?_
              refine lv_iadd hx hb dX4_spread_144 ?_
              refine lv_topi (fun z_109 ez_109 => ?_)
              refine lv_iload hx hb dX4_spread_145 (lv_at hl 2 rfl) ?_
              have hFc := gfree hD hS hA
              refine va_callv (va_runV (As := [.int z_109, .int z_10]) (rest := []) ⟨hx, hb, hml, hown, hts⟩ (m_X4_comeTo l g H.size ws_35 h0 (z_109) (z_10) hG o_h0 (gN_of hD hk_1 (j := 4) rfl)) (cwV 2 hts (gd_V kw_982 kw_952 kw_953 kw_167 kw_951) rfl rfl rfl (by decide +kernel) ⟨Nat.le_of_ble_eq_true rfl, Nat.le_of_ble_eq_true rfl⟩) ⟨gblind, va_recv hK hP (ci := 4) (q0 := k_1) rfl hk_1, fun U hU hW9 => gmk hU hW9 hP hK hD hex hE hS hFc⟩ rfl rfl hl.1 rfl (lv_room (Nat.le_of_ble_eq_true rfl)) dX4_spread_147 ⟨Nat.le_of_ble_eq_true rfl, Nat.le_of_ble_eq_true rfl⟩) hS (fun q _ h => hFc q h) hFc (fun  ws_110 t9 H1 locs ht9 hvm9 hw9 hB9 hz9 hk9 hS => ?_)
              obtain ⟨E_111, Fr_112, hG, hP1, hD1⟩ := hB9
              have hP : va_P (gD g) cl0 ws_110 H1 := by rw [← ht9]; exact hP1
              have hD : va_D A ws_110 := hD1.weaken (fun _ _ _ h => hFc _ h)
              clear hP1 hD1 hz9 hk9 hvm9 ht9 hw9
              generalize H1 = H at hP hS ⊢
              have aa_113 := a_r0_1
              have aa_114 := a_r1_1
              have aa_115 := a_r2_1
              have o_h0 := E_111 _ _ o_h0
              exact J_150 ws_110 H locs ls (E_111) (Fr_112) hG hP hD hS (lv_sub hl [0, 1, 2, 3] rfl)
          refine lv_if_eq (tgt := 126) hx hb dX4_spread_119 (by decide) (fun c_116 => ?_) (fun c_116 => ?_)
          · refine lv_iconst (v := 0) hx hb dX4_spread_126 (by decide) ?_
            exact J_127 (0) H locs ls (Or.inl rfl) hP hD hS (lv_sub hl [0, 1, 2, 3, 4] rfl)
          · refine lv_iconst (v := 1) hx hb dX4_spread_122 (by decide) ?_
            refine lv_goto (tgt := 127) hx hb dX4_spread_123 (by decide) ?_
            exact J_127 (1) H locs ls (Or.inr rfl) hP hD hS (lv_sub hl [0, 1, 2, 3, 4] rfl)
        refine lv_if_eq (tgt := 110) hx hb dX4_spread_86 (by decide) (fun c_117 => ?_) (fun c_117 => ?_)
        · exact J_110  H locs ls  hP hD hS (lv_sub hl [0, 1, 2, 3, 4] rfl)
        · refine lv_iload_n hx hb dX4_spread_89 rfl (lv_at hl 1 rfl) ?_
          refine lv_iconst (v := 1) hx hb dX4_spread_90 (by decide) ?_
          refine lv_iadd hx hb dX4_spread_91 ?_
          refine lv_topi (fun z_118 ez_118 => ?_)
          refine lv_aload_n hx hb dX4_spread_92 rfl (lv_at hl 0 rfl) ?_
          refine va_get (D := gD g) (ci := 4) (v := .ref b_3) (C := RX4) (T := TX4) (N := 8) hx hb hts inX4 hown hK hP k_1 hk_1 rfl 4 (by decide) (hts _ kw_954) (fun _ h9 => h9) rfl dX4_spread_93 ?_
          obtain ⟨k_119, fs9, hk_119⟩ := gC_of o_b_3
          obtain ⟨r0_119, n0_119, r1_119, n1_119, c2_119, r3_119, n3_119, c4_119, r5_119, n5_119, r6_119, n6_119, r7_119, n7_119, r8_119, n8_119, c9_119, c10_119, c11_119, v12_119, v13_119, v14_119, rfl, a_r0_119, f1_119, a_r1_119, f3_119, a_r3_119, f5_119, a_r5_119, f7_119, a_r6_119, f9_119, a_r7_119, f11_119, a_r8_119, f13_119, o_v12_119, o_v13_119, o_v14_119, f17_119, f18_119, f19_119, f20_119, f21_119, f22_119, f23_119, f24_119, f25_119, f26_119, f27_119, -⟩ := (hG.1 _ _ _ _ hk_119).hX8 rfl
          refine va_get (D := gD g) (ci := 7) (v := .int c2_119) (C := RX8) (T := TX8) (N := 15) hx hb hts inX8 hown hK hP k_119 hk_119 rfl 2 (by decide) (hts _ kw_955) (fun _ h9 => h9) rfl dX4_spread_96 ?_
          refine lv_icmp_lt (tgt := 110) hx hb dX4_spread_99 (by decide) (fun c_120 => ?_) (fun c_120 => ?_)
          · exact J_110  H locs ls  hP hD hS (lv_sub hl [0, 1, 2, 3, 4] rfl)
          · exact J_102  H locs ls  hP hD hS (lv_sub hl [0, 1] rfl)
      refine lv_if_eq (tgt := 84) hx hb dX4_spread_73 (by decide) (fun c_121 => ?_) (fun c_121 => ?_)
      · exact J_84  H locs ls  hP hD hS (lv_sub hl [4, 5, 2, 1, 0] rfl)
      · refine lv_aload_n hx hb dX4_spread_76 rfl (lv_at hl 4 rfl) ?_
        refine va_get (D := gD g) (ci := 4) (v := .int c5_1) (C := RX4) (T := TX4) (N := 8) hx hb hts inX4 hown hK hP k_1 hk_1 rfl 5 (by decide) (hts _ kw_979) (fun _ h9 => h9) rfl dX4_spread_77 ?_
        refine lv_iconst (v := 1) hx hb dX4_spread_80 (by decide) ?_
        refine lv_icmp_lt (tgt := 102) hx hb dX4_spread_81 (by decide) (fun c_122 => ?_) (fun c_122 => ?_)
        · exact J_102  H locs ls  hP hD hS (lv_sub hl [4, 5] rfl)
        · exact J_84  H locs ls  hP hD hS (lv_sub hl [4, 5, 2, 1, 0] rfl)
set_option maxHeartbeats 1000000 in
set_option maxRecDepth 100000 in
theorem m_X4_isWrong (l : Launch) (g : Gm) (sz : Nat) (ws : va_W) (h0 : Nat) (x1 : Int32) (hG : Good g ws) (o_h0 : gC ws h0 4) : Met l yX4_isWrong (wt yX4_isWrong cX4_isWrong 2 (some .boolean)) ({ frames := 1, cells := 0, slots := 0, locals := 20 }) (va_Pc [.ref h0, .int x1] (st_G g sz ws)) (va_Qi (fun (r : Int32) (u9 : Unit) => r = 0 ∨ r = 1) (gQ0 g (va_A ws sz) ws) (va_A ws sz)) 0 0 (va_A ws sz) := by
  refine Met.ofW (cc := cX4_isWrong) (maxL := 2) (ret := (some .boolean)) (by decide) rfl ?_
  intro p e s m args below meth c s₁ B hml hv
  obtain ⟨rfl, hsz, hP, hK, hD0, hex, hE⟩ := hv
  have hx := B.exec
  have hb := B.bytes
  have hr := B.returns
  have hts0 := atoms_spec (ws := wt yX4_isWrong cX4_isWrong 2 (some .boolean)) B.pre
  have hts : ∀ w ∈ tb, w.before _ s = true := fun w h => hts0 w (List.mem_cons_of_mem _ h)
  have hown : s.vm.findClass RX4 = some m.cls := findClass_of_methodNamed B.named
  subst hsz
  have hD := hD0.self (sz := s.heap.size)
  generalize hAe : va_A ws s.heap.size = A at hD hE ⊢
  have hA : ∀ q : Nat, s.heap.size ≤ q → A q := fun q h => by rw [← hAe]; exact Or.inr h
  have hS : va_S A s.heap s.heap [] := va_S.rf
  have hl := lv_entry ([.ref h0, .int x1]) (n := 2) (Nat.le_of_ble_eq_true rfl)
  rw [lg_entry_eq]
  generalize (lg_sl ([.ref h0, .int x1]) ++ List.replicate (2 - (lg_sl ([.ref h0, .int x1])).length) Slot.unset).toArray = ls at hl ⊢
  have hl : lv_has ls 2 [(0, .ref h0), (1, .int x1)] := hl
  refine lv_iload_n hx hb dX4_isWrong_0 rfl (lv_at hl 1 rfl) ?_
  have J_40 : ∀ (t_1 : Int32) (H : Heap) (locs : List Loc) (ls : Array Slot), t_1 = 0 ∨ t_1 = 1 → va_P (gD g) cl0 ws H → va_D A ws → va_S A s.heap H locs → lv_has ls 2 [] → W p l e (headSpec (wt yX4_isWrong cX4_isWrong 2 (some .boolean)) ({ frames := 1, cells := 0, slots := 0, locals := 20 })).room s m ([.ref h0, .int x1] : List Value).toArray below meth c H locs 0 0 (MQ below (va_Qi (fun (r : Int32) (u9 : Unit) => r = 0 ∨ r = 1) (gQ0 g A ws) A) ([.ref h0, .int x1] : List Value).toArray s 0 0 A) (F0 m 40 ls [.int t_1]) := by
    intro t_1 H locs ls iv_2 hP hD hS hl
    have hz_t_1 := iv_2
    refine W.widen (k := 0) (n := 0) (Nat.le_of_ble_eq_true rfl) (Nat.le_of_ble_eq_true rfl) ?_
    exact W.zret (v := t_1) hx hb hr (nz hz_t_1) (fun t9 ht9 hW9 => ⟨⟨_, (), rfl, hz_t_1, ⟨by rw [ht9]; exact hP, hD⟩⟩, hS.F ht9⟩) hS.2.2 dX4_isWrong_40
  have J_39 : ∀  (H : Heap) (locs : List Loc) (ls : Array Slot), va_P (gD g) cl0 ws H → va_D A ws → va_S A s.heap H locs → lv_has ls 2 [] → W p l e (headSpec (wt yX4_isWrong cX4_isWrong 2 (some .boolean)) ({ frames := 1, cells := 0, slots := 0, locals := 20 })).room s m ([.ref h0, .int x1] : List Value).toArray below meth c H locs 0 0 (MQ below (va_Qi (fun (r : Int32) (u9 : Unit) => r = 0 ∨ r = 1) (gQ0 g A ws) A) ([.ref h0, .int x1] : List Value).toArray s 0 0 A) (F0 m 39 ls []) := by
    intro  H locs ls  hP hD hS hl
    refine lv_iconst (v := 0) hx hb dX4_isWrong_39 (by decide) ?_
    exact J_40 (0) H locs ls (Or.inl rfl) hP hD hS (lv_sub hl [] rfl)
  refine lv_if_lt (tgt := 39) hx hb dX4_isWrong_1 (by decide) (fun c_7 => ?_) (fun c_7 => ?_)
  · exact J_39  _ _ ls  hP hD hS (lv_sub hl [] rfl)
  · refine lv_iload_n hx hb dX4_isWrong_4 rfl (lv_at hl 1 rfl) ?_
    refine lv_aload_n hx hb dX4_isWrong_5 rfl (lv_at hl 0 rfl) ?_
    obtain ⟨k_8, fs9, hk_8⟩ := gC_of o_h0
    obtain ⟨r0_8, n0_8, r1_8, n1_8, r2_8, n2_8, v3_8, v4_8, c5_8, c6_8, c7_8, rfl, a_r0_8, f1_8, a_r1_8, f3_8, a_r2_8, f5_8, o_v3_8, o_v4_8, hz_c6_8, f9_8, f10_8, f11_8, -⟩ := (hG.1 _ _ _ _ hk_8).hX4 rfl
    refine va_get (D := gD g) (ci := 4) (v := .ref r2_8) (C := RX4) (T := TX4) (N := 8) hx hb hts inX4 hown hK hP k_8 hk_8 rfl 2 (by decide) (hts _ kw_966) (fun _ h9 => h9) rfl dX4_isWrong_6 ?_
    obtain ⟨k_9, f_9, hk_9⟩ := gI_of a_r2_8
    obtain ⟨z_10, ez_10⟩ : ∃ z : Int32, Int32.ofNat n2_8 = z := ⟨_, rfl⟩
    refine va_alen (v := z_10) hx hb hK hP k_9 2 hk_9 rfl ez_10 dX4_isWrong_9 ?_
    refine lv_icmp_ge (tgt := 39) hx hb dX4_isWrong_10 (by decide) (fun c_11 => ?_) (fun c_11 => ?_)
    · exact J_39  _ _ ls  hP hD hS (lv_sub hl [] rfl)
    · refine lv_aload_n hx hb dX4_isWrong_13 rfl (lv_at hl 0 rfl) ?_
      refine va_get (D := gD g) (ci := 4) (v := .ref r2_8) (C := RX4) (T := TX4) (N := 8) hx hb hts inX4 hown hK hP k_8 hk_8 rfl 2 (by decide) (hts _ kw_966) (fun _ h9 => h9) rfl dX4_isWrong_14 ?_
      refine lv_iload_n hx hb dX4_isWrong_17 rfl (lv_at hl 1 rfl) ?_
      refine va_zald hx hb hK hP k_9 2 hk_9 rfl (i_in2 (by have e0 : (0 : Int32).toInt = 0 := (by decide); have q_c_7 := i_nlt c_7; have q_f5_8 := f5_8; have q_f10_8 := f10_8; have q_z_10 := i_len ez_10 f5_8; have q_c_11 := i_nle c_11; have q_f1_8 := f1_8; have q_f9_8 := f9_8; have q_f11_8 := f11_8; have g_x1 := i_rg x1; have g_z_10 := i_rg z_10; omega)) dX4_isWrong_18 ?_
      refine lv_topi (fun z_12 ez_12 => ?_)
      have J_35 : ∀  (H : Heap) (locs : List Loc) (ls : Array Slot), va_P (gD g) cl0 ws H → va_D A ws → va_S A s.heap H locs → lv_has ls 2 [] → W p l e (headSpec (wt yX4_isWrong cX4_isWrong 2 (some .boolean)) ({ frames := 1, cells := 0, slots := 0, locals := 20 })).room s m ([.ref h0, .int x1] : List Value).toArray below meth c H locs 0 0 (MQ below (va_Qi (fun (r : Int32) (u9 : Unit) => r = 0 ∨ r = 1) (gQ0 g A ws) A) ([.ref h0, .int x1] : List Value).toArray s 0 0 A) (F0 m 35 ls []) := by
        intro  H locs ls  hP hD hS hl
        refine lv_iconst (v := 1) hx hb dX4_isWrong_35 (by decide) ?_
        refine lv_goto (tgt := 40) hx hb dX4_isWrong_36 (by decide) ?_
        exact J_40 (1) H locs ls (Or.inr rfl) hP hD hS (lv_sub hl [] rfl)
      refine lv_if_ne (tgt := 35) hx hb dX4_isWrong_19 (by decide) (fun c_15 => ?_) (fun c_15 => ?_)
      · exact J_35  _ _ ls  hP hD hS (lv_sub hl [] rfl)
      · refine lv_aload_n hx hb dX4_isWrong_22 rfl (lv_at hl 0 rfl) ?_
        refine va_get (D := gD g) (ci := 4) (v := .ref r0_8) (C := RX4) (T := TX4) (N := 8) hx hb hts inX4 hown hK hP k_8 hk_8 rfl 0 (by decide) (hts _ kw_956) (fun _ h9 => h9) rfl dX4_isWrong_23 ?_
        refine lv_iload_n hx hb dX4_isWrong_26 rfl (lv_at hl 1 rfl) ?_
        obtain ⟨k_16, f_16, hk_16⟩ := gI_of a_r0_8
        refine va_iald hx hb hK hP k_16 1 hk_16 rfl (i_in2 (by have e0 : (0 : Int32).toInt = 0 := (by decide); have q_c_7 := i_nlt c_7; have q_f1_8 := f1_8; have q_f9_8 := f9_8; have q_f10_8 := f10_8; have q_f11_8 := f11_8; have q_c_11 := i_nle c_11; have q_f3_8 := f3_8; have q_f5_8 := f5_8; have q_z_10 := i_len ez_10 f5_8; have g_x1 := i_rg x1; have g_z_10 := i_rg z_10; omega)) dX4_isWrong_27 ?_
        refine lv_topi (fun z_17 ez_17 => ?_)
        have hFc := gfree hD hS hA
        refine va_calli (va_runS (As := [.int z_17]) (rest := []) ⟨hx, hb, hml, hown, hts⟩ (m_J6_bitCount_0f7a4 l g s.heap.size ws (z_17) hG ) (va_cwS 1 hts (gd_S kw_970 kw_1727 kw_1728 kw_1726) rfl rfl rfl (by decide +kernel) ⟨Nat.le_of_ble_eq_true rfl, Nat.le_of_ble_eq_true rfl⟩) ⟨gblind, fun U hU hW9 => gmk hU hW9 hP hK hD hex hE hS hFc⟩ rfl rfl hl.1 rfl (lv_room (Nat.le_of_ble_eq_true rfl)) dX4_isWrong_28 ⟨Nat.le_of_ble_eq_true rfl, Nat.le_of_ble_eq_true rfl⟩) hS (fun q _ h => hFc q h) hFc (fun r_18 u9 t9 H1 locs ht9 hvm9 hw9 hB9 hz9 hk9 hS => ?_)
        have hP : va_P (gD g) cl0 ws H1 := by rw [← ht9]; exact hB9.1
        clear hB9 hz9 hk9 hvm9 ht9 hw9
        generalize H1 = H at hP hS ⊢
        refine lv_iconst (v := 1) hx hb dX4_isWrong_31 (by decide) ?_
        refine lv_icmp_le (tgt := 39) hx hb dX4_isWrong_32 (by decide) (fun c_19 => ?_) (fun c_19 => ?_)
        · exact J_39  H locs ls  hP hD hS (lv_sub hl [] rfl)
        · exact J_35  H locs ls  hP hD hS (lv_sub hl [] rfl)
set_option maxHeartbeats 1000000 in
set_option maxRecDepth 100000 in
theorem m_X4_heightAt (l : Launch) (g : Gm) (sz : Nat) (ws : va_W) (h0 : Nat) (x1 : Int32) (hG : Good g ws) (o_h0 : gC ws h0 4) : Met l yX4_heightAt (wt yX4_heightAt cX4_heightAt 2 (some .int)) ({ frames := 1, cells := 0, slots := 0, locals := 21 }) (va_Pc [.ref h0, .int x1] (st_G g sz ws)) (va_Qi (fun (r : Int32) (u9 : Unit) => True) (gQ0 g (va_A ws sz) ws) (va_A ws sz)) 0 0 (va_A ws sz) := by
  refine Met.ofW (cc := cX4_heightAt) (maxL := 2) (ret := (some .int)) (by decide) rfl ?_
  intro p e s m args below meth c s₁ B hml hv
  obtain ⟨rfl, hsz, hP, hK, hD0, hex, hE⟩ := hv
  have hx := B.exec
  have hb := B.bytes
  have hr := B.returns
  have hts0 := atoms_spec (ws := wt yX4_heightAt cX4_heightAt 2 (some .int)) B.pre
  have hts : ∀ w ∈ tb, w.before _ s = true := fun w h => hts0 w (List.mem_cons_of_mem _ h)
  have hown : s.vm.findClass RX4 = some m.cls := findClass_of_methodNamed B.named
  subst hsz
  have hD := hD0.self (sz := s.heap.size)
  generalize hAe : va_A ws s.heap.size = A at hD hE ⊢
  have hA : ∀ q : Nat, s.heap.size ≤ q → A q := fun q h => by rw [← hAe]; exact Or.inr h
  have hS : va_S A s.heap s.heap [] := va_S.rf
  have hl := lv_entry ([.ref h0, .int x1]) (n := 2) (Nat.le_of_ble_eq_true rfl)
  rw [lg_entry_eq]
  generalize (lg_sl ([.ref h0, .int x1]) ++ List.replicate (2 - (lg_sl ([.ref h0, .int x1])).length) Slot.unset).toArray = ls at hl ⊢
  have hl : lv_has ls 2 [(0, .ref h0), (1, .int x1)] := hl
  refine lv_iload_n hx hb dX4_heightAt_0 rfl (lv_at hl 1 rfl) ?_
  have J_35 : ∀ (t_1 : Int32) (H : Heap) (locs : List Loc) (ls : Array Slot), va_P (gD g) cl0 ws H → va_D A ws → va_S A s.heap H locs → lv_has ls 2 [] → W p l e (headSpec (wt yX4_heightAt cX4_heightAt 2 (some .int)) ({ frames := 1, cells := 0, slots := 0, locals := 21 })).room s m ([.ref h0, .int x1] : List Value).toArray below meth c H locs 0 0 (MQ below (va_Qi (fun (r : Int32) (u9 : Unit) => True) (gQ0 g A ws) A) ([.ref h0, .int x1] : List Value).toArray s 0 0 A) (F0 m 35 ls [.int t_1]) := by
    intro t_1 H locs ls  hP hD hS hl
    refine W.widen (k := 0) (n := 0) (Nat.le_of_ble_eq_true rfl) (Nat.le_of_ble_eq_true rfl) ?_
    exact W.iret (v := t_1) hx hb hr (fun t9 ht9 hW9 => ⟨⟨_, (), rfl, trivial, ⟨by rw [ht9]; exact hP, hD⟩⟩, hS.F ht9⟩) hS.2.2 dX4_heightAt_35
  have J_22 : ∀  (H : Heap) (locs : List Loc) (ls : Array Slot), va_P (gD g) cl0 ws H → va_D A ws → va_S A s.heap H locs → lv_has ls 2 [] → W p l e (headSpec (wt yX4_heightAt cX4_heightAt 2 (some .int)) ({ frames := 1, cells := 0, slots := 0, locals := 21 })).room s m ([.ref h0, .int x1] : List Value).toArray below meth c H locs 0 0 (MQ below (va_Qi (fun (r : Int32) (u9 : Unit) => True) (gQ0 g A ws) A) ([.ref h0, .int x1] : List Value).toArray s 0 0 A) (F0 m 22 ls []) := by
    intro  H locs ls  hP hD hS hl
    refine lv_iconst (v := (-1)) hx hb dX4_heightAt_22 (by decide) ?_
    refine lv_goto (tgt := 35) hx hb dX4_heightAt_23 (by decide) ?_
    exact J_35 ((-1)) H locs ls  hP hD hS (lv_sub hl [] rfl)
  refine lv_if_lt (tgt := 22) hx hb dX4_heightAt_1 (by decide) (fun c_6 => ?_) (fun c_6 => ?_)
  · exact J_22  _ _ ls  hP hD hS (lv_sub hl [] rfl)
  · refine lv_iload_n hx hb dX4_heightAt_4 rfl (lv_at hl 1 rfl) ?_
    refine lv_aload_n hx hb dX4_heightAt_5 rfl (lv_at hl 0 rfl) ?_
    obtain ⟨k_7, fs9, hk_7⟩ := gC_of o_h0
    obtain ⟨r0_7, n0_7, r1_7, n1_7, r2_7, n2_7, v3_7, v4_7, c5_7, c6_7, c7_7, rfl, a_r0_7, f1_7, a_r1_7, f3_7, a_r2_7, f5_7, o_v3_7, o_v4_7, hz_c6_7, f9_7, f10_7, f11_7, -⟩ := (hG.1 _ _ _ _ hk_7).hX4 rfl
    refine va_get (D := gD g) (ci := 4) (v := .ref r0_7) (C := RX4) (T := TX4) (N := 8) hx hb hts inX4 hown hK hP k_7 hk_7 rfl 0 (by decide) (hts _ kw_956) (fun _ h9 => h9) rfl dX4_heightAt_6 ?_
    obtain ⟨k_8, f_8, hk_8⟩ := gI_of a_r0_7
    obtain ⟨z_9, ez_9⟩ : ∃ z : Int32, Int32.ofNat n0_7 = z := ⟨_, rfl⟩
    refine va_alen (v := z_9) hx hb hK hP k_8 1 hk_8 rfl ez_9 dX4_heightAt_9 ?_
    refine lv_icmp_ge (tgt := 22) hx hb dX4_heightAt_10 (by decide) (fun c_10 => ?_) (fun c_10 => ?_)
    · exact J_22  _ _ ls  hP hD hS (lv_sub hl [] rfl)
    · refine lv_aload_n hx hb dX4_heightAt_13 rfl (lv_at hl 0 rfl) ?_
      refine va_get (D := gD g) (ci := 4) (v := .ref r0_7) (C := RX4) (T := TX4) (N := 8) hx hb hts inX4 hown hK hP k_7 hk_7 rfl 0 (by decide) (hts _ kw_956) (fun _ h9 => h9) rfl dX4_heightAt_14 ?_
      refine lv_iload_n hx hb dX4_heightAt_17 rfl (lv_at hl 1 rfl) ?_
      refine va_iald hx hb hK hP k_8 1 hk_8 rfl (i_in2 (by have e0 : (0 : Int32).toInt = 0 := (by decide); have q_c_6 := i_nlt c_6; have q_f1_7 := f1_7; have q_f9_7 := f9_7; have q_f10_7 := f10_7; have q_f11_7 := f11_7; have q_z_9 := i_len ez_9 f1_7; have q_c_10 := i_nle c_10; have q_f3_7 := f3_7; have q_f5_7 := f5_7; have g_x1 := i_rg x1; have g_z_9 := i_rg z_9; omega)) dX4_heightAt_18 ?_
      refine lv_topi (fun z_11 ez_11 => ?_)
      refine lv_if_ne (tgt := 26) hx hb dX4_heightAt_19 (by decide) (fun c_12 => ?_) (fun c_12 => ?_)
      · refine lv_aload_n hx hb dX4_heightAt_26 rfl (lv_at hl 0 rfl) ?_
        refine va_get (D := gD g) (ci := 4) (v := .ref r0_7) (C := RX4) (T := TX4) (N := 8) hx hb hts inX4 hown hK hP k_7 hk_7 rfl 0 (by decide) (hts _ kw_956) (fun _ h9 => h9) rfl dX4_heightAt_27 ?_
        refine lv_iload_n hx hb dX4_heightAt_30 rfl (lv_at hl 1 rfl) ?_
        refine va_iald hx hb hK hP k_8 1 hk_8 rfl (i_in2 (by have e0 : (0 : Int32).toInt = 0 := (by decide); have q_c_6 := i_nlt c_6; have q_f1_7 := f1_7; have q_f9_7 := f9_7; have q_f10_7 := f10_7; have q_f11_7 := f11_7; have q_z_9 := i_len ez_9 f1_7; have q_c_10 := i_nle c_10; have q_f3_7 := f3_7; have q_f5_7 := f5_7; have g_x1 := i_rg x1; have g_z_9 := i_rg z_9; omega)) dX4_heightAt_31 ?_
        refine lv_topi (fun z_13 ez_13 => ?_)
        have hFc := gfree hD hS hA
        refine va_calli (va_runS (As := [.int z_13]) (rest := []) ⟨hx, hb, hml, hown, hts⟩ (m_J6_numberOfTrailingZeros_0f7a4 l g s.heap.size ws (z_13) hG ) (va_cwS 1 hts (gd_S kw_962 kw_1738 kw_1728 kw_1737) rfl rfl rfl (by decide +kernel) ⟨Nat.le_of_ble_eq_true rfl, Nat.le_of_ble_eq_true rfl⟩) ⟨gblind, fun U hU hW9 => gmk hU hW9 hP hK hD hex hE hS hFc⟩ rfl rfl hl.1 rfl (lv_room (Nat.le_of_ble_eq_true rfl)) dX4_heightAt_32 ⟨Nat.le_of_ble_eq_true rfl, Nat.le_of_ble_eq_true rfl⟩) hS (fun q _ h => hFc q h) hFc (fun r_14 u9 t9 H1 locs ht9 hvm9 hw9 hB9 hz9 hk9 hS => ?_)
        have hP : va_P (gD g) cl0 ws H1 := by rw [← ht9]; exact hB9.1
        clear hB9 hz9 hk9 hvm9 ht9 hw9
        generalize H1 = H at hP hS ⊢
        exact J_35 (r_14) H locs ls  hP hD hS (lv_sub hl [] rfl)
      · exact J_22  _ _ ls  hP hD hS (lv_sub hl [] rfl)
