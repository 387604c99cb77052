set_option maxHeartbeats 1000000 in
set_option maxRecDepth 100000 in
theorem m_X11_layOut (l : Launch) (g : Gm) (H0 : Heap) (ws : va_W) (h0 : Nat) (rc : Int32) (wb : Int) (wc : Int) (hG : Good g ws) (o_h0 : gC ws h0 10) (nn_h0_7 : gN ws h0 7) (nn_h0_15 : gN ws h0 15) (fp_e : gP ws h0 (fun fs => ∀ (rn n : Nat), fs[16]? = some (.ref rn) → gI ws rn g.cI n → ∀ (rm m : Nat), fs[17]? = some (.ref rm) → gI ws rm g.cI m → n = m)) (f2_grc : ∀ (k k2 b : Nat) (fs gs : List Value), ows ws k h0 10 fs → fs[15]? = some (.ref b) → ows ws k2 b 7 gs → ∀ c : Int32, gs[2]? = some (.int c) → c.toInt = rc.toInt) (tk0 : enP g ws h0) (tk1 : nlA9 ws h0) (tk2 : nlA10 ws h0) (tk3 : wcP ws h0 0 wb wc) (pw3 : wc ≤ 103) (pwc : 0 ≤ wb ∧ 0 ≤ wc ∧ (wb) ≤ 131072 ∧ (103) ≤ 131072) : Met l yX11_layOut (wt yX11_layOut cX11_layOut 3 (some .int)) ({ frames := 7, cells := PC ws + (0), slots := PS ws + (0), locals := 175 }) (va_Pc [.ref h0] (st_H g H0 ws)) (va_Qi (fun (r : Int32) (u9 : va_W) => (gP u9 h0 (fun fs => ∀ (rn n : Nat), fs[16]? = some (.ref rn) → gI u9 rn g.cI n → ∀ (rm m : Nat), fs[17]? = some (.ref rm) → gI u9 rm g.cI m → n = m) ∧ gP u9 h0 (fun fs => ∀ (rn n : Nat), fs[17]? = some (.ref rn) → gI u9 rn g.cI n → rc.toInt < n)) ∧ (enP g u9 h0) ∧ (wcP u9 h0 0 (wb) (103))) (gQ2 g [(0, 0), (0, 1), (10, 5), (10, 6), (10, 16), (10, 17)] [(0, 0), (6, 0), (10, 3), (10, 4), (10, 12), (10, 13), (10, 16), (10, 17)] none (va_A ws H0.size) ws H0 (0) (0)) (va_A ws H0.size)) (PC ws + (0)) (PS ws + (0)) (va_A ws H0.size) := by
  refine Met.ofW (cc := cX11_layOut) (maxL := 3) (ret := (some .int)) (by decide) rfl ?_
  intro p e s m args below meth c s₁ B hml hv
  obtain ⟨rfl, hH0, hsz, hP, hK, hD0, hex, hE⟩ := hv
  have hx := B.exec
  have hb := B.bytes
  have hr := B.returns
  have hts0 := atoms_spec (ws := wt yX11_layOut cX11_layOut 3 (some .int)) B.pre
  have hts : ∀ w ∈ tb, w.before _ s = true := fun w h => hts0 w (List.mem_cons_of_mem _ h)
  have hown : s.vm.findClass RX11 = some m.cls := findClass_of_methodNamed B.named
  subst hH0
  have hD := hD0.self (sz := s.heap.size)
  generalize hAe : va_A ws s.heap.size = A at hD hE ⊢
  have hA : ∀ q : Nat, s.heap.size ≤ q → A q := fun q h => by rw [← hAe]; exact Or.inr h
  have hS : va_S A s.heap s.heap [] := va_S.rf
  have hl := lv_entry ([.ref h0]) (n := 3) (Nat.le_of_ble_eq_true rfl)
  rw [lg_entry_eq]
  generalize (lg_sl ([.ref h0]) ++ List.replicate (3 - (lg_sl ([.ref h0])).length) Slot.unset).toArray = ls at hl ⊢
  have hl : lv_has ls 3 [(0, .ref h0)] := hl
  obtain ⟨k_1, fs9, hk_1⟩ := gC_of o_h0
  obtain ⟨r0_1, r1_1, r2_1, r3_1, n3_1, r4_1, n4_1, c5_1, c6_1, v7_1, c8_1, c9_1, r10_1, n10_1, r11_1, n11_1, r12_1, n12_1, r13_1, n13_1, r14_1, v15_1, r16_1, n16_1, r17_1, n17_1, rfl, o_r0_1, o_r1_1, o_r2_1, a_r3_1, f4_1, a_r4_1, f6_1, hz_c6_1, o_v7_1, a_r10_1, f10_1, a_r11_1, f12_1, a_r12_1, f14_1, a_r13_1, f16_1, o_r14_1, o_v15_1, a_r16_1, f20_1, a_r17_1, f22_1, f23_1, f24_1, f25_1, f26_1, f27_1, f28_1, -⟩ := (hG.1 _ _ _ _ hk_1).hX11 rfl
  have fq_e := fp_e _ _ _ hk_1 _ _ rfl a_r16_1 _ _ rfl a_r17_1
  obtain ⟨b_2, hn9⟩ := nn_h0_7 _ _ _ hk_1
  have hn9 := fe_qr hn9
  subst hn9
  have o_b_2 := o_v7_1 _ rfl
  obtain ⟨b_3, hn9⟩ := nn_h0_15 _ _ _ hk_1
  have hn9 := fe_qr hn9
  subst hn9
  have o_b_3 := o_v15_1 _ rfl
  obtain ⟨k_4, fs9, hk_4⟩ := gC_of o_b_3
  obtain ⟨r0_4, n0_4, r1_4, n1_4, c2_4, r3_4, n3_4, c4_4, r5_4, n5_4, r6_4, n6_4, r7_4, n7_4, r8_4, n8_4, c9_4, c10_4, c11_4, v12_4, v13_4, v14_4, rfl, a_r0_4, f1_4, a_r1_4, f3_4, a_r3_4, f5_4, a_r5_4, f7_4, a_r6_4, f9_4, a_r7_4, f11_4, a_r8_4, f13_4, o_v12_4, o_v13_4, o_v14_4, f17_4, f18_4, f19_4, f20_4, f21_4, f22_4, f23_4, f24_4, f25_4, f26_4, f27_4, f28_4, f29_4, -⟩ := (hG.1 _ _ _ _ hk_4).hX8 rfl
  have fq2_grc := f2_grc _ _ _ _ _ hk_1 rfl hk_4 _ rfl
  refine lv_aload_n hx hb dX11_layOut_0 rfl (lv_at hl 0 rfl) ?_
  refine va_get (D := gD g) (ci := 10) (v := .ref r17_1) (C := RX11) (T := TX11) (N := 18) hx hb hts inX11 hown hK hP k_1 hk_1 rfl 17 (by decide) (hts _ kw_169) (fun _ h9 => h9) rfl dX11_layOut_1 ?_
  obtain ⟨k_5, f_5, hk_5⟩ := gI_of a_r17_1
  obtain ⟨z_6, ez_6⟩ : ∃ z : Int32, Int32.ofNat n17_1 = z := ⟨_, rfl⟩
  refine va_alen (v := z_6) hx hb hK hP k_5 1 hk_5 rfl ez_6 dX11_layOut_4 ?_
  refine lv_aload_n hx hb dX11_layOut_5 rfl (lv_at hl 0 rfl) ?_
  refine va_get (D := gD g) (ci := 10) (v := .ref b_3) (C := RX11) (T := TX11) (N := 18) hx hb hts inX11 hown hK hP k_1 hk_1 rfl 15 (by decide) (hts _ kw_84) (fun _ h9 => h9) rfl dX11_layOut_6 ?_
  refine va_get (D := gD g) (ci := 7) (v := .int c2_4) (C := RX8) (T := TX8) (N := 15) hx hb hts inX8 hown hK hP k_4 hk_4 rfl 2 (by decide) (hts _ kw_102) (fun _ h9 => h9) rfl dX11_layOut_9 ?_
  refine lv_icmp_gt (tgt := 49) hx hb dX11_layOut_12 (by decide) (fun c_7 => ?_) (fun c_7 => ?_)
  · refine lv_iconst (v := 0) hx hb dX11_layOut_49 (by decide) ?_
    refine lv_istore_n (lv' := [(1, .int 0), (0, .ref h0)]) hx hb dX11_layOut_50 rfl hl (by decide) rfl (fun ls hl => ?_)
    refine lv_iconst (v := 0) hx hb dX11_layOut_51 (by decide) ?_
    refine lv_istore_n (lv' := [(2, .int 0), (1, .int 0), (0, .ref h0)]) hx hb dX11_layOut_52 rfl hl (by decide) rfl (fun ls hl => ?_)
    have J_53 : ∀ (n9 : Nat) (v1_8 : Int32) (v2_9 : Int32) (dc_53_1 : Nat) (ds_53_1 : Nat) (ws_11 : va_W) (H : Heap) (locs : List Loc) (ls : Array Slot), (2147483647 - v2_9.toInt).toNat = n9 → 0 ≤ v2_9.toInt → gE ws ws_11 → gF [(0, 0), (0, 1), (10, 5), (10, 6)] [(0, 0), (6, 0), (10, 3), (10, 4), (10, 12), (10, 13), (10, 16), (10, 17)] none ws ws_11 → Good g ws_11 → dc_53_1 + PC ws_11 ≤ PC ws + (0) → ds_53_1 + PS ws_11 ≤ PS ws + (0) → enP g ws_11 h0 → wcP ws_11 h0 0 (wb) (103) → gP ws_11 h0 (fun fs => ∀ (rn n : Nat), fs[16]? = some (.ref rn) → gI ws_11 rn g.cI n → ∀ (rm m : Nat), fs[17]? = some (.ref rm) → gI ws_11 rm g.cI m → n = m) → gP ws_11 h0 (fun fs => ∀ (rn n : Nat), fs[17]? = some (.ref rn) → gI ws_11 rn g.cI n → rc.toInt < n) → va_P (gD g) cl0 ws_11 H → va_D A ws_11 → va_S A s.heap H locs → lv_has ls 3 [(0, .ref h0), (1, .int v1_8), (2, .int v2_9)] → W p l e (headSpec (wt yX11_layOut cX11_layOut 3 (some .int)) ({ frames := 7, cells := PC ws + (0), slots := PS ws + (0), locals := 175 })).room s m ([.ref h0] : List Value).toArray below meth c H locs (dc_53_1) (ds_53_1) (MQ below (va_Qi (fun (r : Int32) (u9 : va_W) => (gP u9 h0 (fun fs => ∀ (rn n : Nat), fs[16]? = some (.ref rn) → gI u9 rn g.cI n → ∀ (rm m : Nat), fs[17]? = some (.ref rm) → gI u9 rm g.cI m → n = m) ∧ gP u9 h0 (fun fs => ∀ (rn n : Nat), fs[17]? = some (.ref rn) → gI u9 rn g.cI n → rc.toInt < n)) ∧ (enP g u9 h0) ∧ (wcP u9 h0 0 (wb) (103))) (gQ2 g [(0, 0), (0, 1), (10, 5), (10, 6), (10, 16), (10, 17)] [(0, 0), (6, 0), (10, 3), (10, 4), (10, 12), (10, 13), (10, 16), (10, 17)] none A ws s.heap (0) (0)) A) ([.ref h0] : List Value).toArray s (PC ws + (0)) (PS ws + (0)) A) (F0 m 53 ls []) := by
      intro n9
      induction n9 using Nat.strongRecOn with
      | ind n9 ih_53 =>
        intro v1_8 v2_9 dc_53_1 ds_53_1 ws_11 H locs ls hm9 iv_10 E_12 Fr_13 hG hc9 hs9 jx_53_0 jx_53_1 jf_53_e jf_53_o hP hD hS hl
        subst hm9
        have aa_14 := a_r3_1
        have aa_15 := a_r4_1
        have aa_16 := a_r10_1
        have aa_17 := a_r11_1
        have aa_18 := a_r12_1
        have aa_19 := a_r13_1
        have aa_20 := a_r16_1
        have aa_21 := a_r17_1
        have aa_22 := a_r0_4
        have aa_23 := a_r1_4
        have aa_24 := a_r3_4
        have aa_25 := a_r5_4
        have aa_26 := a_r6_4
        have aa_27 := a_r7_4
        have aa_28 := a_r8_4
        have o_h0 := E_12.1 _ _ o_h0
        refine lv_iload_n hx hb dX11_layOut_53 rfl (lv_at hl 2 rfl) ?_
        refine lv_aload_n hx hb dX11_layOut_54 rfl (lv_at hl 0 rfl) ?_
        obtain ⟨fs9, hk_29, hq_29⟩ := ((gF.a (F' := [(0, 0), (0, 1), (10, 5), (10, 6)]) Fr_13 (fun _ h => h))) _ _ _ hk_1
        obtain ⟨r0_29, r1_29, r2_29, r3_29, n3_29, r4_29, n4_29, c5_29, c6_29, v7_29, c8_29, c9_29, r10_29, n10_29, r11_29, n11_29, r12_29, n12_29, r13_29, n13_29, r14_29, v15_29, r16_29, n16_29, r17_29, n17_29, rfl, o_r0_29, o_r1_29, o_r2_29, a_r3_29, f4_29, a_r4_29, f6_29, hz_c6_29, o_v7_29, a_r10_29, f10_29, a_r11_29, f12_29, a_r12_29, f14_29, a_r13_29, f16_29, o_r14_29, o_v15_29, a_r16_29, f20_29, a_r17_29, f22_29, f23_29, f24_29, f25_29, f26_29, f27_29, f28_29, -⟩ := (hG.1 _ _ _ _ hk_29).hX11 rfl
        have hn9 := fe_qr (hq_29 7 (by decide))
        subst hn9
        have o_b_2 := o_v7_29 _ rfl
        have hn9 := fe_qr (hq_29 15 (by decide))
        subst hn9
        have o_b_3 := o_v15_29 _ rfl
        obtain rfl := fe_r (hq_29 16 (by decide))
        have hn9 := gI_n hD ((E_12).1 _ _ aa_20) a_r16_29
        subst hn9
        have a_r16_1 := a_r16_29
        obtain rfl := fe_r (hq_29 17 (by decide))
        have hn9 := gI_n hD ((E_12).1 _ _ aa_21) a_r17_29
        subst hn9
        have a_r17_1 := a_r17_29
        have kq_30 := jf_53_e _ _ _ hk_29 _ _ rfl a_r16_1 _ _ rfl a_r17_1
        have kq_31 := jf_53_o _ _ _ hk_29 _ _ rfl a_r17_1
        refine va_get (D := gD g) (ci := 10) (v := .ref b_3) (C := RX11) (T := TX11) (N := 18) hx hb hts inX11 hown hK hP k_1 hk_29 rfl 15 (by decide) (hts _ kw_84) (fun _ h9 => h9) rfl dX11_layOut_55 ?_
        obtain ⟨fs9, hk_32, hq_32⟩ := ((gF.a (F' := [(0, 0), (0, 1), (10, 5), (10, 6)]) Fr_13 (fun _ h => h))) _ _ _ hk_4
        obtain ⟨r0_32, n0_32, r1_32, n1_32, c2_32, r3_32, n3_32, c4_32, r5_32, n5_32, r6_32, n6_32, r7_32, n7_32, r8_32, n8_32, c9_32, c10_32, c11_32, v12_32, v13_32, v14_32, rfl, a_r0_32, f1_32, a_r1_32, f3_32, a_r3_32, f5_32, a_r5_32, f7_32, a_r6_32, f9_32, a_r7_32, f11_32, a_r8_32, f13_32, o_v12_32, o_v13_32, o_v14_32, f17_32, f18_32, f19_32, f20_32, f21_32, f22_32, f23_32, f24_32, f25_32, f26_32, f27_32, f28_32, f29_32, -⟩ := (hG.1 _ _ _ _ hk_32).hX8 rfl
        obtain rfl := fe_i (hq_32 2 (by decide))
        refine va_get (D := gD g) (ci := 7) (v := .int c2_4) (C := RX8) (T := TX8) (N := 15) hx hb hts inX8 hown hK hP k_4 hk_32 rfl 2 (by decide) (hts _ kw_102) (fun _ h9 => h9) rfl dX11_layOut_58 ?_
        refine lv_icmp_ge (tgt := 97) hx hb dX11_layOut_61 (by decide) (fun c_33 => ?_) (fun c_33 => ?_)
        · refine lv_aload_n hx hb dX11_layOut_97 rfl (lv_at hl 0 rfl) ?_
          refine va_get (D := gD g) (ci := 10) (v := .ref r17_1) (C := RX11) (T := TX11) (N := 18) hx hb hts inX11 hown hK hP k_1 hk_29 rfl 17 (by decide) (hts _ kw_169) (fun _ h9 => h9) rfl dX11_layOut_98 ?_
          refine lv_aload_n hx hb dX11_layOut_101 rfl (lv_at hl 0 rfl) ?_
          refine va_get (D := gD g) (ci := 10) (v := .ref b_3) (C := RX11) (T := TX11) (N := 18) hx hb hts inX11 hown hK hP k_1 hk_29 rfl 15 (by decide) (hts _ kw_84) (fun _ h9 => h9) rfl dX11_layOut_102 ?_
          refine va_get (D := gD g) (ci := 7) (v := .int c2_4) (C := RX8) (T := TX8) (N := 15) hx hb hts inX8 hown hK hP k_4 hk_32 rfl 2 (by decide) (hts _ kw_102) (fun _ h9 => h9) rfl dX11_layOut_105 ?_
          refine lv_iload_n hx hb dX11_layOut_108 rfl (lv_at hl 1 rfl) ?_
          obtain ⟨k_34, f_34, hk_34⟩ := gI_of a_r17_1
          have hC9 : hol ws_11 r17_1 [(10, 17)] := (hol_u hG.u hk_29 (j := 17) rfl a_r17_1 (by decide))
          have hS9 : holS ws_11 r17_1 none := holS_n
          refine va_iast hx hb hK hP hD hS k_34 1 hk_34 rfl (i_in2 (by have q_f22_1 := f22_1; have q_fq_e := fq_e; have q_f19_4 := f19_4; have q_f20_4 := f20_4; have q_fq2_grc := fq2_grc; have q_z_6 := i_len ez_6 f22_1; have q_c_7 := i_lt c_7; have q_kq_30 := kq_30; have q_kq_31 := kq_31; have q_f20_32 := f20_32; have q_c_33 := i_le c_33; have q_f20_1 := f20_1; have q_f1_4 := f1_4; have q_f17_4 := f17_4; have q_f18_4 := f18_4; have q_iv_10 := iv_10; have q_f1_32 := f1_32; have q_f17_32 := f17_32; have q_f18_32 := f18_32; have q_f3_4 := f3_4; have q_f3_32 := f3_32; have g_c2_4 := i_rg c2_4; have g_rc := i_rg rc; have g_v2_9 := i_rg v2_9; have g_z_6 := i_rg z_6; omega)) dX11_layOut_109 (fun H locs hP hD hS => ?_)
          obtain ⟨ws_35, e_ws_35⟩ : ∃ z, z = ws_11.set k_34 (r17_1, .inl (g.cI, n17_1, .inl (upd f_34 (c2_4 : Int32).toNatClampNeg v1_8))) := ⟨_, rfl⟩
          have hP : va_P (gD g) cl0 ws_35 H := by rw [e_ws_35]; exact hP
          have hD : va_D A ws_35 := by rw [e_ws_35]; exact hD
          have E_36 : gE ws_11 ws_35 := gE_ari e_ws_35 hk_34
          have hG : Good g ws_35 := Good_arI e_ws_35 hk_34 hG
          have Fr_37 : gF [] [(10, 17)] none ws_11 ws_35 := gF_ar e_ws_35 hk_34 rfl hC9 hS9
          have pp_38 := Fr_37.pp
          have hk_29 := gset_arO e_ws_35 hk_34 hk_29
          have hk_32 := gset_arO e_ws_35 hk_34 hk_32
          have o_h0 := E_36.1 _ _ o_h0
          have o_r0_29 := E_36.1 _ _ o_r0_29
          have o_r1_29 := E_36.1 _ _ o_r1_29
          have o_r2_29 := E_36.1 _ _ o_r2_29
          have a_r3_29 := E_36.1 _ _ a_r3_29
          have a_r4_29 := E_36.1 _ _ a_r4_29
          have a_r10_29 := E_36.1 _ _ a_r10_29
          have a_r11_29 := E_36.1 _ _ a_r11_29
          have a_r12_29 := E_36.1 _ _ a_r12_29
          have a_r13_29 := E_36.1 _ _ a_r13_29
          have o_r14_29 := E_36.1 _ _ o_r14_29
          have o_b_2 := E_36.1 _ _ o_b_2
          have o_b_3 := E_36.1 _ _ o_b_3
          have a_r16_1 := E_36.1 _ _ a_r16_1
          have a_r17_1 := E_36.1 _ _ a_r17_1
          have a_r0_32 := E_36.1 _ _ a_r0_32
          have a_r1_32 := E_36.1 _ _ a_r1_32
          have a_r3_32 := E_36.1 _ _ a_r3_32
          have a_r5_32 := E_36.1 _ _ a_r5_32
          have a_r6_32 := E_36.1 _ _ a_r6_32
          have a_r7_32 := E_36.1 _ _ a_r7_32
          have a_r8_32 := E_36.1 _ _ a_r8_32
          have o_v12_32 : ∀ b, v12_32 = some b → ∃ n, gI ws_35 b g.cB n ∧ n < 2147483648 := fun b h => (o_v12_32 b h).imp (fun n h => ⟨E_36.1 _ _ h.1, h.2⟩)
          have o_v13_32 : ∀ b, v13_32 = some b → ∃ n, gJ ws_35 b g.cL n ∧ n < 2147483648 := fun b h => (o_v13_32 b h).imp (fun n h => ⟨E_36.1 _ _ h.1, h.2⟩)
          have o_v14_32 : ∀ b, v14_32 = some b → ∃ n, gJ ws_35 b g.cL n ∧ n < 2147483648 := fun b h => (o_v14_32 b h).imp (fun n h => ⟨E_36.1 _ _ h.1, h.2⟩)
          refine lv_iload_n hx hb dX11_layOut_110 rfl (lv_at hl 1 rfl) ?_
          refine W_led (fun hLd => ?_)
          have hcl : dc_53_1 + PC ws_35 ≤ PC ws + (0) := (by omega)
          have hsl : ds_53_1 + PS ws_35 ≤ PS ws + (0) := (by omega)
          refine W.widen (k := PC ws + (0)) (n := PS ws + (0)) (by omega) (by omega) ?_
          have tq_39 : enP g ws_35 h0 := enP_mo (Fr_37) (by decide) (by decide) (by decide) jx_53_0
          have tq_40 : wcP ws_35 h0 0 (wb) (103) := wcP_mo (Fr_37) (by decide) (by decide) (by decide) (by decide) (by decide) jx_53_1
          exact W.iret (v := v1_8) hx hb hr (fun t9 ht9 hW9 => ⟨⟨_, ws_35, rfl, ⟨⟨(gP_of hD hk_29 (fun p90 q90 e90 g90 p91 q91 e91 g91 => by cases e90; have z90 := gI_n hD a_r16_1 g90; subst z90; cases e91; have z91 := gI_n hD a_r17_1 g91; subst z91; exact (by have q_f20_1 := f20_1; have q_f22_1 := f22_1; have q_fq_e := fq_e; have q_z_6 := i_len ez_6 f22_1; have q_kq_30 := kq_30; have q_kq_31 := kq_31; have q_c_7 := i_lt c_7; have q_f19_4 := f19_4; have q_f20_4 := f20_4; have q_fq2_grc := fq2_grc; have q_f20_32 := f20_32; have q_c_33 := i_le c_33; have q_f1_4 := f1_4; have q_f17_4 := f17_4; have q_f18_4 := f18_4; have q_iv_10 := iv_10; have q_f1_32 := f1_32; have q_f17_32 := f17_32; have q_f18_32 := f18_32; have q_f3_4 := f3_4; have q_f3_32 := f3_32; have g_c2_4 := i_rg c2_4; have g_rc := i_rg rc; have g_v1_8 := i_rg v1_8; have g_v2_9 := i_rg v2_9; have g_z_6 := i_rg z_6; omega))), (gP_of hD hk_29 (fun p90 q90 e90 g90 => by cases e90; have z90 := gI_n hD a_r17_1 g90; subst z90; exact (by have q_f22_1 := f22_1; have q_fq_e := fq_e; have q_z_6 := i_len ez_6 f22_1; have q_kq_30 := kq_30; have q_kq_31 := kq_31; have q_f20_1 := f20_1; have q_c_7 := i_lt c_7; have q_f19_4 := f19_4; have q_f20_4 := f20_4; have q_fq2_grc := fq2_grc; have q_f20_32 := f20_32; have q_c_33 := i_le c_33; have q_f1_4 := f1_4; have q_f17_4 := f17_4; have q_f18_4 := f18_4; have q_iv_10 := iv_10; have q_f1_32 := f1_32; have q_f17_32 := f17_32; have q_f18_32 := f18_32; have q_f3_4 := f3_4; have q_f3_32 := f3_32; have g_c2_4 := i_rg c2_4; have g_rc := i_rg rc; have g_v1_8 := i_rg v1_8; have g_v2_9 := i_rg v2_9; have g_z_6 := i_rg z_6; omega)))⟩, tq_39, tq_40⟩, ⟨(E_12.tr E_36), (gF.tr (gF.mo (F' := [(0, 0), (0, 1), (10, 5), (10, 6), (10, 16), (10, 17)]) (C' := [(0, 0), (6, 0), (10, 3), (10, 4), (10, 12), (10, 13), (10, 16), (10, 17)]) (S' := none) Fr_13 (by decide) (fun _ h => h) (Or.inr rfl)) (gF.mo (F' := [(0, 0), (0, 1), (10, 5), (10, 6), (10, 16), (10, 17)]) (C' := [(0, 0), (6, 0), (10, 3), (10, 4), (10, 12), (10, 13), (10, 16), (10, 17)]) (S' := none) Fr_37 (fun _ h => absurd h List.not_mem_nil) (by decide) (Or.inr rfl))), hG, by rw [ht9]; exact hP, hD, _, _, by rw [ht9]; exact hLd, hcl, hsl⟩⟩, hS.F ht9⟩) hS.2.2 dX11_layOut_111
        · refine lv_aload_n hx hb dX11_layOut_64 rfl (lv_at hl 0 rfl) ?_
          refine va_get (D := gD g) (ci := 10) (v := .ref r17_1) (C := RX11) (T := TX11) (N := 18) hx hb hts inX11 hown hK hP k_1 hk_29 rfl 17 (by decide) (hts _ kw_169) (fun _ h9 => h9) rfl dX11_layOut_65 ?_
          refine lv_iload_n hx hb dX11_layOut_68 rfl (lv_at hl 2 rfl) ?_
          refine lv_iload_n hx hb dX11_layOut_69 rfl (lv_at hl 1 rfl) ?_
          obtain ⟨k_41, f_41, hk_41⟩ := gI_of a_r17_1
          have hC9 : hol ws_11 r17_1 [(10, 17)] := (hol_u hG.u hk_29 (j := 17) rfl a_r17_1 (by decide))
          have hS9 : holS ws_11 r17_1 none := holS_n
          refine va_iast hx hb hK hP hD hS k_41 1 hk_41 rfl (i_in2 (by have q_f22_1 := f22_1; have q_fq_e := fq_e; have q_z_6 := i_len ez_6 f22_1; have q_iv_10 := iv_10; have q_kq_30 := kq_30; have q_kq_31 := kq_31; have q_c_33 := i_nle c_33; have q_f20_1 := f20_1; have q_f19_4 := f19_4; have q_f20_4 := f20_4; have q_fq2_grc := fq2_grc; have q_c_7 := i_lt c_7; have q_f20_32 := f20_32; have q_f1_4 := f1_4; have q_f17_4 := f17_4; have q_f18_4 := f18_4; have q_f1_32 := f1_32; have q_f17_32 := f17_32; have q_f18_32 := f18_32; have q_f3_4 := f3_4; have q_f3_32 := f3_32; have g_c2_4 := i_rg c2_4; have g_rc := i_rg rc; have g_v2_9 := i_rg v2_9; have g_z_6 := i_rg z_6; omega)) dX11_layOut_70 (fun H locs hP hD hS => ?_)
          obtain ⟨ws_42, e_ws_42⟩ : ∃ z, z = ws_11.set k_41 (r17_1, .inl (g.cI, n17_1, .inl (upd f_41 (v2_9 : Int32).toNatClampNeg v1_8))) := ⟨_, rfl⟩
          have hP : va_P (gD g) cl0 ws_42 H := by rw [e_ws_42]; exact hP
          have hD : va_D A ws_42 := by rw [e_ws_42]; exact hD
          have E_43 : gE ws_11 ws_42 := gE_ari e_ws_42 hk_41
          have hG : Good g ws_42 := Good_arI e_ws_42 hk_41 hG
          have Fr_44 : gF [] [(10, 17)] none ws_11 ws_42 := gF_ar e_ws_42 hk_41 rfl hC9 hS9
          have pp_45 := Fr_44.pp
          have hk_29 := gset_arO e_ws_42 hk_41 hk_29
          have hk_32 := gset_arO e_ws_42 hk_41 hk_32
          have o_h0 := E_43.1 _ _ o_h0
          have o_r0_29 := E_43.1 _ _ o_r0_29
          have o_r1_29 := E_43.1 _ _ o_r1_29
          have o_r2_29 := E_43.1 _ _ o_r2_29
          have a_r3_29 := E_43.1 _ _ a_r3_29
          have a_r4_29 := E_43.1 _ _ a_r4_29
          have a_r10_29 := E_43.1 _ _ a_r10_29
          have a_r11_29 := E_43.1 _ _ a_r11_29
          have a_r12_29 := E_43.1 _ _ a_r12_29
          have a_r13_29 := E_43.1 _ _ a_r13_29
          have o_r14_29 := E_43.1 _ _ o_r14_29
          have o_b_2 := E_43.1 _ _ o_b_2
          have o_b_3 := E_43.1 _ _ o_b_3
          have a_r16_1 := E_43.1 _ _ a_r16_1
          have a_r17_1 := E_43.1 _ _ a_r17_1
          have a_r0_32 := E_43.1 _ _ a_r0_32
          have a_r1_32 := E_43.1 _ _ a_r1_32
          have a_r3_32 := E_43.1 _ _ a_r3_32
          have a_r5_32 := E_43.1 _ _ a_r5_32
          have a_r6_32 := E_43.1 _ _ a_r6_32
          have a_r7_32 := E_43.1 _ _ a_r7_32
          have a_r8_32 := E_43.1 _ _ a_r8_32
          have o_v12_32 : ∀ b, v12_32 = some b → ∃ n, gI ws_42 b g.cB n ∧ n < 2147483648 := fun b h => (o_v12_32 b h).imp (fun n h => ⟨E_43.1 _ _ h.1, h.2⟩)
          have o_v13_32 : ∀ b, v13_32 = some b → ∃ n, gJ ws_42 b g.cL n ∧ n < 2147483648 := fun b h => (o_v13_32 b h).imp (fun n h => ⟨E_43.1 _ _ h.1, h.2⟩)
          have o_v14_32 : ∀ b, v14_32 = some b → ∃ n, gJ ws_42 b g.cL n ∧ n < 2147483648 := fun b h => (o_v14_32 b h).imp (fun n h => ⟨E_43.1 _ _ h.1, h.2⟩)
          refine lv_aload_n hx hb dX11_layOut_71 rfl (lv_at hl 0 rfl) ?_
          refine va_get (D := gD g) (ci := 10) (v := .ref r16_1) (C := RX11) (T := TX11) (N := 18) hx hb hts inX11 hown hK hP k_1 hk_29 rfl 16 (by decide) (hts _ kw_168) (fun _ h9 => h9) rfl dX11_layOut_72 ?_
          refine lv_iload_n hx hb dX11_layOut_75 rfl (lv_at hl 2 rfl) ?_
          refine lv_aload_n hx hb dX11_layOut_76 rfl (lv_at hl 0 rfl) ?_
          refine lv_iload_n hx hb dX11_layOut_77 rfl (lv_at hl 2 rfl) ?_
          have tq_46 : enP g ws_42 h0 := enP_mo (Fr_44) (by decide) (by decide) (by decide) jx_53_0
          have tq_47 : nlA9 ws_42 h0 := nlA9_mo ((gF.tr Fr_13 (gF.mo (F' := [(0, 0), (0, 1), (10, 5), (10, 6)]) (C' := [(0, 0), (6, 0), (10, 3), (10, 4), (10, 12), (10, 13), (10, 16), (10, 17)]) (S' := none) Fr_44 (fun _ h => absurd h List.not_mem_nil) (by decide) (Or.inr rfl)))) (by decide) (by decide) (by decide) (by decide) (by decide) tk1
          have tq_48 : nlA10 ws_42 h0 := nlA10_mo ((gF.tr Fr_13 (gF.mo (F' := [(0, 0), (0, 1), (10, 5), (10, 6)]) (C' := [(0, 0), (6, 0), (10, 3), (10, 4), (10, 12), (10, 13), (10, 16), (10, 17)]) (S' := none) Fr_44 (fun _ h => absurd h List.not_mem_nil) (by decide) (Or.inr rfl)))) (by decide) (by decide) (by decide) (by decide) (by decide) tk2
          have tq_49 : wcP ws_42 h0 0 (wb) (103) := wcP_mo (Fr_44) (by decide) (by decide) (by decide) (by decide) (by decide) jx_53_1
          have hFc := gfree hD hS hA
          have pg_50 := ge_10_17 hD hk_29 rfl a_r17_1
          refine W_led (fun hL0 => ?_)
          refine va_calli (va_runV (As := [.int v2_9]) (rest := [.int v2_9, .ref r16_1]) ⟨hx, hb, hml, hown, hts⟩ (m_X11_needOf_x l g H ws_42 h0 (v2_9) (wb) (103) hG o_h0 (gN_of hD hk_29 (j := 7) rfl) (gN_of hD hk_29 (j := 15) rfl) tq_46 tq_47 tq_48 tq_49 (by have e103 : (103 : Int32).toInt = 103 := (by decide); omega) (by have e103 : (103 : Int32).toInt = 103 := (by decide); have q_pwc := pwc; have q_pw3 := pw3; omega)) (cwV 1 hts (gd_V kw_182 kw_221 kw_222 kw_83 kw_220) rfl rfl rfl (by decide +kernel) ⟨Nat.le_of_ble_eq_true rfl, Nat.le_of_ble_eq_true rfl⟩) ⟨gblindH, va_recv hK hP (ci := 10) (q0 := k_1) rfl hk_29, fun U hU hW9 => gmkH hU hW9 hP hK hD hex hE hS hFc⟩ rfl rfl hl.1 rfl (lv_room (Nat.le_of_ble_eq_true rfl)) dX11_layOut_78 ⟨(show dc_53_1 + (PC ws_42 + (0)) ≤ PC ws + (0) from (by have e0 : (0 : Int32).toInt = 0 := (by decide); omega)), (show ds_53_1 + (PS ws_42 + (0)) ≤ PS ws + (0) from (by have e0 : (0 : Int32).toInt = 0 := (by decide); omega))⟩) hS (fun q _ h => hFc q h) hFc (fun r_51 ws_52 t9 H1 locs ht9 hvm9 hw9 hB9 hz9 hk9 hS => ?_)
          obtain ⟨E_53, Fr_54, hG, hP1, hD1, dc_55, ds_56, hLd, hdc_55, hds_56⟩ := hB9
          rw [ht9] at hLd
          refine W_tight (hL0.tr hLd).1 (hL0.tr hLd).2.1 ?_
          clear hL0 hLd
          have hP : va_P (gD g) cl0 ws_52 H1 := by rw [← ht9]; exact hP1
          have hD : va_D A ws_52 := hD1.weaken (fun _ _ _ h => hFc _ h)
          obtain ⟨hw9, xp_57, xp_58⟩ := hw9
          clear hP1 hD1 hz9 hk9 hvm9 ht9 hw9
          generalize H1 = H at hP hS ⊢
          have aa_59 := a_r3_29
          have aa_60 := a_r4_29
          have aa_61 := a_r10_29
          have aa_62 := a_r11_29
          have aa_63 := a_r12_29
          have aa_64 := a_r13_29
          have aa_65 := a_r16_1
          have aa_66 := a_r17_1
          have aa_67 := a_r0_32
          have aa_68 := a_r1_32
          have aa_69 := a_r3_32
          have aa_70 := a_r5_32
          have aa_71 := a_r6_32
          have aa_72 := a_r7_32
          have aa_73 := a_r8_32
          have o_h0 := E_53.1 _ _ o_h0
          have a_r16_1 := E_53.1 _ _ a_r16_1
          obtain ⟨k_74, f_74, hk_74⟩ := gI_of a_r16_1
          obtain ⟨fs9, hk_75, hq_75⟩ := ((gF.a (F' := [(0, 0), (0, 1), (10, 5), (10, 6)]) Fr_54 (fun _ h => h))) _ _ _ hk_29
          obtain ⟨r0_75, r1_75, r2_75, r3_75, n3_75, r4_75, n4_75, c5_75, c6_75, v7_75, c8_75, c9_75, r10_75, n10_75, r11_75, n11_75, r12_75, n12_75, r13_75, n13_75, r14_75, v15_75, r16_75, n16_75, r17_75, n17_75, rfl, o_r0_75, o_r1_75, o_r2_75, a_r3_75, f4_75, a_r4_75, f6_75, hz_c6_75, o_v7_75, a_r10_75, f10_75, a_r11_75, f12_75, a_r12_75, f14_75, a_r13_75, f16_75, o_r14_75, o_v15_75, a_r16_75, f20_75, a_r17_75, f22_75, f23_75, f24_75, f25_75, f26_75, f27_75, f28_75, -⟩ := (hG.1 _ _ _ _ hk_75).hX11 rfl
          have hn9 := fe_qr (hq_75 7 (by decide))
          subst hn9
          have o_b_2 := o_v7_75 _ rfl
          have hn9 := fe_qr (hq_75 15 (by decide))
          subst hn9
          have o_b_3 := o_v15_75 _ rfl
          obtain rfl := fe_r (hq_75 16 (by decide))
          have hn9 := gI_n hD ((E_53).1 _ _ aa_65) a_r16_75
          subst hn9
          have a_r16_1 := a_r16_75
          obtain rfl := fe_r (hq_75 17 (by decide))
          have hn9 := gI_n hD ((E_53).1 _ _ aa_66) a_r17_75
          subst hn9
          have a_r17_1 := a_r17_75
          have hC9 : hol ws_52 r16_1 [(10, 16)] := (hol_u hG.u hk_75 (j := 16) rfl a_r16_1 (by decide))
          have hS9 : holS ws_52 r16_1 none := holS_n
          refine va_iast hx hb hK hP hD hS k_74 1 hk_74 rfl (i_in2 (by have q_f20_1 := f20_1; have q_fq_e := fq_e; have q_iv_10 := iv_10; have q_kq_30 := kq_30; have q_c_33 := i_nle c_33; have q_f22_1 := f22_1; have q_f19_4 := f19_4; have q_f20_4 := f20_4; have q_fq2_grc := fq2_grc; have q_z_6 := i_len ez_6 f22_1; have q_c_7 := i_lt c_7; have q_kq_31 := kq_31; have q_f20_32 := f20_32; have q_f1_4 := f1_4; have q_f17_4 := f17_4; have q_f18_4 := f18_4; have q_f1_32 := f1_32; have q_f17_32 := f17_32; have q_f18_32 := f18_32; have q_f3_4 := f3_4; have q_f3_32 := f3_32; have g_c2_4 := i_rg c2_4; have g_rc := i_rg rc; have g_v2_9 := i_rg v2_9; have g_z_6 := i_rg z_6; omega)) dX11_layOut_81 (fun H locs hP hD hS => ?_)
          obtain ⟨ws_76, e_ws_76⟩ : ∃ z, z = ws_52.set k_74 (r16_1, .inl (g.cI, n16_1, .inl (upd f_74 (v2_9 : Int32).toNatClampNeg r_51))) := ⟨_, rfl⟩
          have hP : va_P (gD g) cl0 ws_76 H := by rw [e_ws_76]; exact hP
          have hD : va_D A ws_76 := by rw [e_ws_76]; exact hD
          have E_77 : gE ws_52 ws_76 := gE_ari e_ws_76 hk_74
          have hG : Good g ws_76 := Good_arI e_ws_76 hk_74 hG
          have Fr_78 : gF [] [(10, 16)] none ws_52 ws_76 := gF_ar e_ws_76 hk_74 rfl hC9 hS9
          have pp_79 := Fr_78.pp
          have hk_75 := gset_arO e_ws_76 hk_74 hk_75
          have o_h0 := E_77.1 _ _ o_h0
          have a_r16_1 := E_77.1 _ _ a_r16_1
          have o_r0_75 := E_77.1 _ _ o_r0_75
          have o_r1_75 := E_77.1 _ _ o_r1_75
          have o_r2_75 := E_77.1 _ _ o_r2_75
          have a_r3_75 := E_77.1 _ _ a_r3_75
          have a_r4_75 := E_77.1 _ _ a_r4_75
          have a_r10_75 := E_77.1 _ _ a_r10_75
          have a_r11_75 := E_77.1 _ _ a_r11_75
          have a_r12_75 := E_77.1 _ _ a_r12_75
          have a_r13_75 := E_77.1 _ _ a_r13_75
          have o_r14_75 := E_77.1 _ _ o_r14_75
          have o_b_2 := E_77.1 _ _ o_b_2
          have o_b_3 := E_77.1 _ _ o_b_3
          have a_r17_1 := E_77.1 _ _ a_r17_1
          refine lv_iload_n hx hb dX11_layOut_82 rfl (lv_at hl 1 rfl) ?_
          refine lv_aload_n hx hb dX11_layOut_83 rfl (lv_at hl 0 rfl) ?_
          refine lv_iload_n hx hb dX11_layOut_84 rfl (lv_at hl 2 rfl) ?_
          refine lv_iload_n hx hb dX11_layOut_85 rfl (lv_at hl 1 rfl) ?_
          have hFc := gfree hD hS hA
          refine va_calli (va_runV (As := [.int v2_9, .int v1_8]) (rest := [.int v1_8]) ⟨hx, hb, hml, hown, hts⟩ (m_X11_lengthOf l g H.size ws_76 h0 (v2_9) (v1_8) hG o_h0 (gN_of hD hk_75 (j := 15) rfl) (gP_of hD hk_75 (fun p90 q90 e90 g90 => by cases e90; have z90 := gI_n hD a_r16_1 g90; subst z90; exact (by have q_f20_1 := f20_1; have q_fq_e := fq_e; have q_iv_10 := iv_10; have q_kq_30 := kq_30; have q_c_33 := i_nle c_33; have q_f22_1 := f22_1; have q_f19_4 := f19_4; have q_f20_4 := f20_4; have q_fq2_grc := fq2_grc; have q_z_6 := i_len ez_6 f22_1; have q_c_7 := i_lt c_7; have q_kq_31 := kq_31; have q_f20_32 := f20_32; have q_f1_4 := f1_4; have q_f17_4 := f17_4; have q_f18_4 := f18_4; have q_f1_32 := f1_32; have q_f17_32 := f17_32; have q_f18_32 := f18_32; have q_f3_4 := f3_4; have q_f3_32 := f3_32; have g_c2_4 := i_rg c2_4; have g_rc := i_rg rc; have g_v2_9 := i_rg v2_9; have g_z_6 := i_rg z_6; omega))) (by have q_iv_10 := iv_10; have q_c_33 := i_nle c_33; have q_f19_4 := f19_4; have q_f20_4 := f20_4; have q_fq2_grc := fq2_grc; have q_c_7 := i_lt c_7; have q_f20_32 := f20_32; have q_f1_4 := f1_4; have q_f17_4 := f17_4; have q_f18_4 := f18_4; have q_z_6 := i_len ez_6 f22_1; have q_f1_32 := f1_32; have q_f17_32 := f17_32; have q_f18_32 := f18_32; have q_f22_1 := f22_1; have q_fq_e := fq_e; have q_f3_4 := f3_4; have q_kq_30 := kq_30; have q_kq_31 := kq_31; have q_f3_32 := f3_32; have q_f20_1 := f20_1; have g_c2_4 := i_rg c2_4; have g_rc := i_rg rc; have g_v2_9 := i_rg v2_9; have g_z_6 := i_rg z_6; omega)) (cwV 2 hts (gd_V kw_183 kw_195 kw_196 kw_83 kw_194) rfl rfl rfl (by decide +kernel) ⟨Nat.le_of_ble_eq_true rfl, Nat.le_of_ble_eq_true rfl⟩) ⟨gblind, va_recv hK hP (ci := 10) (q0 := k_1) rfl hk_75, fun U hU hW9 => gmk hU hW9 hP hK hD hex hE hS hFc⟩ rfl rfl hl.1 rfl (lv_room (Nat.le_of_ble_eq_true rfl)) dX11_layOut_86 ⟨(show dc_53_1 + dc_55 + 0 ≤ PC ws + (0) from (by omega)), (show ds_53_1 + ds_56 + 0 ≤ PS ws + (0) from (by omega))⟩) hS (fun q _ h => hFc q h) hFc (fun r_80 u9 t9 H1 locs ht9 hvm9 hw9 hB9 hz9 hk9 hS => ?_)
          have hP : va_P (gD g) cl0 ws_76 H1 := by rw [← ht9]; exact hB9.1
          clear hB9 hz9 hk9 hvm9 ht9 hw9
          generalize H1 = H at hP hS ⊢
          refine lv_iadd hx hb dX11_layOut_89 ?_
          refine lv_topi (fun z_81 ez_81 => ?_)
          refine lv_istore_n (lv' := [(1, .int z_81), (0, .ref h0), (2, .int v2_9)]) hx hb dX11_layOut_90 rfl hl (by decide) rfl (fun ls hl => ?_)
          obtain ⟨z_82, ez_82⟩ : ∃ z : Int32, v2_9 + Int32.ofInt 1 = z := ⟨_, rfl⟩
          refine lv_iinc (v := z_82) (lv' := [(2, .int z_82), (1, .int z_81), (0, .ref h0)]) hx hb dX11_layOut_91 hl (k := 2) rfl ez_82 (by decide) rfl (fun ls hl => ?_)
          refine lv_goto (tgt := 53) hx hb dX11_layOut_94 (by decide) ?_
          have tq_83 : enP g ws_76 h0 := enP_mo (Fr_78) (by decide) (by decide) (by decide) xp_57
          have tq_84 : wcP ws_76 h0 0 ((wb)) (103) := wcP_mo (Fr_78) (by decide) (by decide) (by decide) (by decide) (by decide) xp_58
          have tq_85 : wcP ws_76 h0 0 (wb) (103) := wcP_le (by have e0 : (0 : Int32).toInt = 0 := (by decide); have e09 : (0 : Int32).toInt = 0 := rfl; omega) (by have q_pwc := pwc; have q_pw3 := pw3; have e09 : (0 : Int32).toInt = 0 := rfl; omega) (by have e103 : (103 : Int32).toInt = 103 := (by decide); have e09 : (0 : Int32).toInt = 0 := rfl; omega) tq_84
          exact ih_53 _ (by obtain ⟨u_z_81, q_z_81⟩ := i_add ez_81; obtain ⟨u_z_82, q_z_82⟩ := i_iz ez_82 (by decide) (by decide); have q_iv_10 := iv_10; have q_c_33 := i_nle c_33; have q_f19_4 := f19_4; have q_f20_4 := f20_4; have q_fq2_grc := fq2_grc; have q_c_7 := i_lt c_7; have q_f20_32 := f20_32; have q_f1_4 := f1_4; have q_f17_4 := f17_4; have q_f18_4 := f18_4; have q_z_6 := i_len ez_6 f22_1; have q_f1_32 := f1_32; have q_f17_32 := f17_32; have q_f18_32 := f18_32; have q_f22_1 := f22_1; have q_fq_e := fq_e; have q_f3_4 := f3_4; have q_kq_30 := kq_30; have q_kq_31 := kq_31; have q_f3_32 := f3_32; have g_c2_4 := i_rg c2_4; have g_r_80 := i_rg r_80; have g_rc := i_rg rc; have g_v1_8 := i_rg v1_8; have g_v2_9 := i_rg v2_9; have g_z_6 := i_rg z_6; have g_z_81 := i_rg z_81; have g_z_82 := i_rg z_82; omega) (z_81) (z_82) (dc_53_1 + dc_55) (ds_53_1 + ds_56) ws_76 H locs ls rfl (by obtain ⟨u_z_82, q_z_82⟩ := i_iz ez_82 (by decide) (by decide); have q_iv_10 := iv_10; have q_c_33 := i_nle c_33; have q_f19_4 := f19_4; have q_f20_4 := f20_4; have q_fq2_grc := fq2_grc; have q_c_7 := i_lt c_7; have q_f20_32 := f20_32; have q_f1_4 := f1_4; have q_f17_4 := f17_4; have q_f18_4 := f18_4; have q_z_6 := i_len ez_6 f22_1; have q_f1_32 := f1_32; have q_f17_32 := f17_32; have q_f18_32 := f18_32; have q_f22_1 := f22_1; have q_fq_e := fq_e; have q_f3_4 := f3_4; have q_kq_30 := kq_30; have q_kq_31 := kq_31; have q_f3_32 := f3_32; have g_c2_4 := i_rg c2_4; have g_rc := i_rg rc; have g_v2_9 := i_rg v2_9; have g_z_6 := i_rg z_6; have g_z_82 := i_rg z_82; omega) ((E_12.tr (E_43.tr (E_53.tr E_77)))) ((gF.tr Fr_13 (gF.tr (gF.mo (F' := [(0, 0), (0, 1), (10, 5), (10, 6)]) (C' := [(0, 0), (6, 0), (10, 3), (10, 4), (10, 12), (10, 13), (10, 16), (10, 17)]) (S' := none) Fr_44 (fun _ h => absurd h List.not_mem_nil) (by decide) (Or.inr rfl)) (gF.tr (gF.mo (F' := [(0, 0), (0, 1), (10, 5), (10, 6)]) (C' := [(0, 0), (6, 0), (10, 3), (10, 4), (10, 12), (10, 13), (10, 16), (10, 17)]) (S' := none) Fr_54 (fun _ h => h) (by decide) (Or.inr rfl)) (gF.mo (F' := [(0, 0), (0, 1), (10, 5), (10, 6)]) (C' := [(0, 0), (6, 0), (10, 3), (10, 4), (10, 12), (10, 13), (10, 16), (10, 17)]) (S' := none) Fr_78 (fun _ h => absurd h List.not_mem_nil) (by decide) (Or.inr rfl)))))) hG (by omega) (by omega) tq_83 tq_85 (gP_of hD hk_75 (fun p90 q90 e90 g90 p91 q91 e91 g91 => by cases e90; have z90 := gI_n hD a_r16_1 g90; subst z90; cases e91; have z91 := gI_n hD a_r17_1 g91; subst z91; exact (by have q_f20_1 := f20_1; have q_f22_1 := f22_1; have q_fq_e := fq_e; have q_z_6 := i_len ez_6 f22_1; have q_kq_30 := kq_30; have q_kq_31 := kq_31; have q_c_7 := i_lt c_7; have q_f19_4 := f19_4; have q_f20_4 := f20_4; have q_fq2_grc := fq2_grc; have q_f20_32 := f20_32; have q_c_33 := i_nle c_33; have q_f1_4 := f1_4; have q_f17_4 := f17_4; have q_f18_4 := f18_4; have q_iv_10 := iv_10; have q_f1_32 := f1_32; have q_f17_32 := f17_32; have q_f18_32 := f18_32; obtain ⟨u_z_82, q_z_82⟩ := i_iz ez_82 (by decide) (by decide); have q_f3_4 := f3_4; have q_f3_32 := f3_32; have g_c2_4 := i_rg c2_4; have g_rc := i_rg rc; have g_v2_9 := i_rg v2_9; have g_z_6 := i_rg z_6; have g_z_82 := i_rg z_82; omega))) (gP_of hD hk_75 (fun p90 q90 e90 g90 => by cases e90; have z90 := gI_n hD a_r17_1 g90; subst z90; exact (by have q_f22_1 := f22_1; have q_fq_e := fq_e; have q_z_6 := i_len ez_6 f22_1; have q_kq_30 := kq_30; have q_kq_31 := kq_31; have q_f20_1 := f20_1; have q_c_7 := i_lt c_7; have q_f19_4 := f19_4; have q_f20_4 := f20_4; have q_fq2_grc := fq2_grc; have q_f20_32 := f20_32; have q_c_33 := i_nle c_33; have q_f1_4 := f1_4; have q_f17_4 := f17_4; have q_f18_4 := f18_4; have q_iv_10 := iv_10; have q_f1_32 := f1_32; have q_f17_32 := f17_32; have q_f18_32 := f18_32; obtain ⟨u_z_82, q_z_82⟩ := i_iz ez_82 (by decide) (by decide); have q_f3_4 := f3_4; have q_f3_32 := f3_32; have g_c2_4 := i_rg c2_4; have g_rc := i_rg rc; have g_v2_9 := i_rg v2_9; have g_z_6 := i_rg z_6; have g_z_82 := i_rg z_82; omega))) hP hD hS (lv_sub hl [2, 1, 0] rfl)
    have tq_86 : wcP ws h0 0 (wb) (103) := wcP_le (by have e0 : (0 : Int32).toInt = 0 := (by decide); have e09 : (0 : Int32).toInt = 0 := rfl; omega) (by have q_pwc := pwc; have q_pw3 := pw3; have e09 : (0 : Int32).toInt = 0 := rfl; omega) (by have e103 : (103 : Int32).toInt = 103 := (by decide); have q_pw3 := pw3; have q_pwc := pwc; have e09 : (0 : Int32).toInt = 0 := rfl; omega) tk3
    exact J_53 _ (0) (0) (0) (0) ws _ _ ls rfl (by have e0 : (0 : Int32).toInt = 0 := (by decide); omega) (gE.rf) (gF.rf) hG (by have e0 : (0 : Int32).toInt = 0 := (by decide); omega) (by have e0 : (0 : Int32).toInt = 0 := (by decide); omega) tk0 tq_86 (gP_of hD hk_1 (fun p90 q90 e90 g90 p91 q91 e91 g91 => by cases e90; have z90 := gI_n hD a_r16_1 g90; subst z90; cases e91; have z91 := gI_n hD a_r17_1 g91; subst z91; exact (by have q_f20_1 := f20_1; have q_f22_1 := f22_1; have q_fq_e := fq_e; have q_z_6 := i_len ez_6 f22_1; have q_c_7 := i_lt c_7; have q_f19_4 := f19_4; have q_f20_4 := f20_4; have q_fq2_grc := fq2_grc; have q_f1_4 := f1_4; have q_f17_4 := f17_4; have q_f18_4 := f18_4; have q_f3_4 := f3_4; have g_c2_4 := i_rg c2_4; have g_z_6 := i_rg z_6; omega))) (gP_of hD hk_1 (fun p90 q90 e90 g90 => by cases e90; have z90 := gI_n hD a_r17_1 g90; subst z90; exact (by have q_f22_1 := f22_1; have q_fq_e := fq_e; have q_z_6 := i_len ez_6 f22_1; have q_f20_1 := f20_1; have q_c_7 := i_lt c_7; have q_f19_4 := f19_4; have q_f20_4 := f20_4; have q_fq2_grc := fq2_grc; have q_f1_4 := f1_4; have q_f17_4 := f17_4; have q_f18_4 := f18_4; have q_f3_4 := f3_4; have g_c2_4 := i_rg c2_4; have g_rc := i_rg rc; have g_z_6 := i_rg z_6; omega))) hP hD hS (lv_sub hl [2, 1, 0] rfl)
  · refine lv_aload_n hx hb dX11_layOut_15 rfl (lv_at hl 0 rfl) ?_
    refine lv_iconst (v := 2) hx hb dX11_layOut_16 (by decide) ?_
    refine lv_aload_n hx hb dX11_layOut_17 rfl (lv_at hl 0 rfl) ?_
    refine va_get (D := gD g) (ci := 10) (v := .ref b_3) (C := RX11) (T := TX11) (N := 18) hx hb hts inX11 hown hK hP k_1 hk_1 rfl 15 (by decide) (hts _ kw_84) (fun _ h9 => h9) rfl dX11_layOut_18 ?_
    refine va_get (D := gD g) (ci := 7) (v := .int c2_4) (C := RX8) (T := TX8) (N := 15) hx hb hts inX8 hown hK hP k_4 hk_4 rfl 2 (by decide) (hts _ kw_102) (fun _ h9 => h9) rfl dX11_layOut_21 ?_
    refine lv_imul hx hb dX11_layOut_24 ?_
    refine lv_topi (fun z_87 ez_87 => ?_)
    refine lv_iconst (v := 2) hx hb dX11_layOut_25 (by decide) ?_
    refine lv_iadd hx hb dX11_layOut_26 ?_
    refine lv_topi (fun z_88 ez_88 => ?_)
    obtain ⟨n_90, en_90⟩ : ∃ y : Nat, (z_88 : Int32).toNatClampNeg = y := ⟨_, rfl⟩
    have bn_90 : n_90 ≤ 2594 := i_cl en_90 (by have e2 : (2 : Int32).toInt = 2 := (by decide); obtain ⟨u_z_88, q_z_88⟩ := i_add ez_88; have q_z_87 := i_mulL (c := 2) (K := 1073741823) ez_87 (by decide) (by decide) (by decide) (by decide); have q_f19_4 := f19_4; have q_f20_4 := f20_4; have q_fq2_grc := fq2_grc; have q_c_7 := i_nlt c_7; have q_f1_4 := f1_4; have q_f17_4 := f17_4; have q_f18_4 := f18_4; have q_z_6 := i_len ez_6 f22_1; have q_f22_1 := f22_1; have q_fq_e := fq_e; have q_f3_4 := f3_4; have g_c2_4 := i_rg c2_4; have g_z_6 := i_rg z_6; have g_z_87 := i_rg z_87; have g_z_88 := i_rg z_88; omega)
    have zn_90 : 0 ≤ (z_88 : Int32).toInt := (by have e2 : (2 : Int32).toInt = 2 := (by decide); obtain ⟨u_z_88, q_z_88⟩ := i_add ez_88; have q_z_87 := i_mulL (c := 2) (K := 1073741823) ez_87 (by decide) (by decide) (by decide) (by decide); have q_f19_4 := f19_4; have q_f20_4 := f20_4; have q_fq2_grc := fq2_grc; have q_c_7 := i_nlt c_7; have q_f1_4 := f1_4; have q_f17_4 := f17_4; have q_f18_4 := f18_4; have q_z_6 := i_len ez_6 f22_1; have q_f22_1 := f22_1; have q_fq_e := fq_e; have q_f3_4 := f3_4; have g_c2_4 := i_rg c2_4; have g_z_6 := i_rg z_6; have g_z_87 := i_rg z_87; have g_z_88 := i_rg z_88; omega)
    have q_n_90 := i_nn en_90 zn_90
    have pg_91 := ge_10_17 hD hk_1 rfl a_r17_1
    refine va_newa (atype := .int) (ty := .int) (a0 := (n_90, .inl (fun _ => 0))) (N' := n_90) hx hb (hts (.arrayClass .int) kw_51) rfl hK hP hD hS hA (fun _ => rfl) (i_nl0 zn_90) en_90 (i_by bn_90 (by decide)) (show 0 + 1 ≤ PC ws + (0) from (by have e0 : (0 : Int32).toInt = 0 := (by decide); have e2 : (2 : Int32).toInt = 2 := (by decide); obtain ⟨u_z_88, q_z_88⟩ := i_add ez_88; have q_z_87 := i_mulL (c := 2) (K := 1073741823) ez_87 (by decide) (by decide) (by decide) (by decide); have q_f19_4 := f19_4; have q_f20_4 := f20_4; have q_fq2_grc := fq2_grc; have q_c_7 := i_nlt c_7; have q_f1_4 := f1_4; have q_f17_4 := f17_4; have q_f18_4 := f18_4; have q_z_6 := i_len ez_6 f22_1; have q_f22_1 := f22_1; have q_fq_e := fq_e; have q_f3_4 := f3_4; have g_c2_4 := i_rg c2_4; have g_z_6 := i_rg z_6; have g_z_87 := i_rg z_87; have g_z_88 := i_rg z_88; omega)) (show 0 + n_90 ≤ PS ws + (0) from (by have e0 : (0 : Int32).toInt = 0 := (by decide); have e2 : (2 : Int32).toInt = 2 := (by decide); obtain ⟨u_z_88, q_z_88⟩ := i_add ez_88; have q_z_87 := i_mulL (c := 2) (K := 1073741823) ez_87 (by decide) (by decide) (by decide) (by decide); have q_f19_4 := f19_4; have q_f20_4 := f20_4; have q_fq2_grc := fq2_grc; have q_c_7 := i_nlt c_7; have q_f1_4 := f1_4; have q_f17_4 := f17_4; have q_f18_4 := f18_4; have q_z_6 := i_len ez_6 f22_1; have q_f22_1 := f22_1; have q_fq_e := fq_e; have q_f3_4 := f3_4; have g_c2_4 := i_rg c2_4; have g_z_6 := i_rg z_6; have g_z_87 := i_rg z_87; have g_z_88 := i_rg z_88; omega)) dX11_layOut_27 (fun q_89 cA9 H hK9 hP hD hS => ?_)
    obtain rfl := cls_new hK hK9 (k := 1) rfl (fun _ h => by cases h)
    clear hK9
    have hD9 := hD
    obtain ⟨ws_92, e_ws_92⟩ : ∃ z, z = ws ++ [(q_89, .inl (g.cI, n_90, .inl (fun _ => 0)))] := ⟨_, rfl⟩
    have hP : va_P (gD g) cl0 ws_92 H := by rw [e_ws_92]; exact hP
    have hD : va_D A ws_92 := by rw [e_ws_92]; exact hD
    have E_93 : gE ws ws_92 := by rw [e_ws_92]; exact gE_push
    have Fr_94 : gF [] [] none ws ws_92 := by rw [e_ws_92]; exact gF_push
    have fr_q_89 : frs ws_92 q_89 := by rw [e_ws_92]; exact frs_new hD9 hG.u
    have hG : Good g ws_92 := by rw [e_ws_92]; exact Good_pushI hD9 hG
    have a_q_89 : gI ws_92 q_89 g.cI n_90 := by rw [e_ws_92]; exact gS_new
    have s_q_89 : n_90 < 2147483648 := Nat.lt_of_le_of_lt bn_90 (by decide)
    have pp_95 := Fr_94.pp
    have hk_1 := get_oldE e_ws_92 hk_1
    have hk_4 := get_oldE e_ws_92 hk_4
    have hk_5 := get_oldE e_ws_92 hk_5
    have o_h0 := E_93.1 _ _ o_h0
    have o_r0_1 := E_93.1 _ _ o_r0_1
    have o_r1_1 := E_93.1 _ _ o_r1_1
    have o_r2_1 := E_93.1 _ _ o_r2_1
    have a_r3_1 := E_93.1 _ _ a_r3_1
    have a_r4_1 := E_93.1 _ _ a_r4_1
    have a_r10_1 := E_93.1 _ _ a_r10_1
    have a_r11_1 := E_93.1 _ _ a_r11_1
    have a_r12_1 := E_93.1 _ _ a_r12_1
    have a_r13_1 := E_93.1 _ _ a_r13_1
    have o_r14_1 := E_93.1 _ _ o_r14_1
    have a_r16_1 := E_93.1 _ _ a_r16_1
    have a_r17_1 := E_93.1 _ _ a_r17_1
    have o_b_2 := E_93.1 _ _ o_b_2
    have o_b_3 := E_93.1 _ _ o_b_3
    have a_r0_4 := E_93.1 _ _ a_r0_4
    have a_r1_4 := E_93.1 _ _ a_r1_4
    have a_r3_4 := E_93.1 _ _ a_r3_4
    have a_r5_4 := E_93.1 _ _ a_r5_4
    have a_r6_4 := E_93.1 _ _ a_r6_4
    have a_r7_4 := E_93.1 _ _ a_r7_4
    have a_r8_4 := E_93.1 _ _ a_r8_4
    have o_v12_4 : ∀ b, v12_4 = some b → ∃ n, gI ws_92 b g.cB n ∧ n < 2147483648 := fun b h => (o_v12_4 b h).imp (fun n h => ⟨E_93.1 _ _ h.1, h.2⟩)
    have o_v13_4 : ∀ b, v13_4 = some b → ∃ n, gJ ws_92 b g.cL n ∧ n < 2147483648 := fun b h => (o_v13_4 b h).imp (fun n h => ⟨E_93.1 _ _ h.1, h.2⟩)
    have o_v14_4 : ∀ b, v14_4 = some b → ∃ n, gJ ws_92 b g.cL n ∧ n < 2147483648 := fun b h => (o_v14_4 b h).imp (fun n h => ⟨E_93.1 _ _ h.1, h.2⟩)
    have hV9 : okv ws_92 10 17 (.ref q_89) := (okv_a a_q_89 fr_q_89)
    have hD8 := hD
    refine va_put (D := gD g) (ci := 10) (v := .ref q_89) (ty := (.array .int)) (C := RX11) (T := TX11) (N := 18) hx hb hts inX11 tyX11 tyX11_ok nmX11 hown hK hP hD hS k_1 hk_1 rfl 17 (by decide) (hts _ kw_169) (fun _ h9 => h9) rfl (by decide +kernel) rfl rfl (Nat.le_of_ble_eq_true rfl) dX11_layOut_29 (fun H locs hP hD hS => ?_)
    have hi_96 : invX11 g ws_92 h0 [.ref r0_1, .ref r1_1, .ref r2_1, .ref r3_1, .ref r4_1, .int c5_1, .int c6_1, .ref b_2, .int c8_1, .int c9_1, .ref r10_1, .ref r11_1, .ref r12_1, .ref r13_1, .ref r14_1, .ref b_3, .ref r16_1, .ref q_89] := ⟨r0_1, r1_1, r2_1, r3_1, (n3_1), r4_1, (n4_1), (c5_1), (c6_1), (some b_2), (c8_1), (c9_1), r10_1, (n10_1), r11_1, (n11_1), r12_1, (n12_1), r13_1, (n13_1), r14_1, (some b_3), r16_1, (n16_1), q_89, (n_90), rfl, o_r0_1, o_r1_1, o_r2_1, a_r3_1, f4_1, a_r4_1, f6_1, hz_c6_1, (fun b h9 => by cases h9; exact o_b_2), a_r10_1, f10_1, a_r11_1, f12_1, a_r12_1, f14_1, a_r13_1, f16_1, o_r14_1, (fun b h9 => by cases h9; exact o_b_3), a_r16_1, f20_1, a_q_89, s_q_89, f23_1, f24_1, f25_1, f26_1, f27_1, f28_1, trivial⟩
    obtain ⟨ws_98, e_ws_98⟩ : ∃ z, z = ws_92.set k_1 (h0, .inr (10, [.ref r0_1, .ref r1_1, .ref r2_1, .ref r3_1, .ref r4_1, .int c5_1, .int c6_1, .ref b_2, .int c8_1, .int c9_1, .ref r10_1, .ref r11_1, .ref r12_1, .ref r13_1, .ref r14_1, .ref b_3, .ref r16_1, .ref q_89])) := ⟨_, rfl⟩
    have hP : va_P (gD g) cl0 ws_98 H := by rw [e_ws_98]; exact hP
    have hD : va_D A ws_98 := by rw [e_ws_98]; exact hD
    have E_99 : gE ws_92 ws_98 := gE_set e_ws_98 hk_1 (cw_o (fi := 17) (v := .ref q_89) rfl (by decide))
    have hG : Good g ws_98 := Good_set (fi := 17) (v := .ref q_89) e_ws_98 hk_1 E_99 rfl hV9 hG (ivX11 hi_96)
    have Fr_100 : gF [(10, 17)] [] (some h0) ws_92 ws_98 := gF_put0 (fi := 17) (v := .ref q_89) e_ws_98 hk_1 rfl (gr_10_17 hD8 hk_1 rfl a_r17_1 e_ws_98 rfl a_q_89 (by have e2 : (2 : Int32).toInt = 2 := (by decide); have q_f22_1 := f22_1; have q_fq_e := fq_e; have q_z_6 := i_len ez_6 f22_1; have q_n_90 := i_nn en_90 zn_90; have q2_n_90 := bn_90; have q_f20_1 := f20_1; have q_c_7 := i_nlt c_7; obtain ⟨u_z_88, q_z_88⟩ := i_add ez_88; have q_f19_4 := f19_4; have q_f20_4 := f20_4; have q_fq2_grc := fq2_grc; have q_z_87 := i_mulL (c := 2) (K := 1073741823) ez_87 (by decide) (by decide) (by decide) (by decide); have q_f1_4 := f1_4; have q_f17_4 := f17_4; have q_f18_4 := f18_4; have q_f3_4 := f3_4; have g_c2_4 := i_rg c2_4; have g_z_6 := i_rg z_6; have g_z_87 := i_rg z_87; have g_z_88 := i_rg z_88; omega)).1
    have pg_97 := (gr_10_17 (ws := ws_92) hD8 hk_1 rfl a_r17_1 e_ws_98 rfl a_q_89 (by have e2 : (2 : Int32).toInt = 2 := (by decide); have q_f22_1 := f22_1; have q_fq_e := fq_e; have q_z_6 := i_len ez_6 f22_1; have q_n_90 := i_nn en_90 zn_90; have q2_n_90 := bn_90; have q_f20_1 := f20_1; have q_c_7 := i_nlt c_7; obtain ⟨u_z_88, q_z_88⟩ := i_add ez_88; have q_f19_4 := f19_4; have q_f20_4 := f20_4; have q_fq2_grc := fq2_grc; have q_z_87 := i_mulL (c := 2) (K := 1073741823) ez_87 (by decide) (by decide) (by decide) (by decide); have q_f1_4 := f1_4; have q_f17_4 := f17_4; have q_f18_4 := f18_4; have q_f3_4 := f3_4; have g_c2_4 := i_rg c2_4; have g_z_6 := i_rg z_6; have g_z_87 := i_rg z_87; have g_z_88 := i_rg z_88; omega)).2
    have hkN := gset_self e_ws_98 hk_1
    have hk_4 := gset_ob e_ws_98 hk_1 hk_4 (by decide)
    have hk_5 := gset_obI e_ws_98 hk_1 hk_5
    have hk_1 := hkN
    have o_h0 := E_99.1 _ _ o_h0
    have o_r0_1 := E_99.1 _ _ o_r0_1
    have o_r1_1 := E_99.1 _ _ o_r1_1
    have o_r2_1 := E_99.1 _ _ o_r2_1
    have a_r3_1 := E_99.1 _ _ a_r3_1
    have a_r4_1 := E_99.1 _ _ a_r4_1
    have a_r10_1 := E_99.1 _ _ a_r10_1
    have a_r11_1 := E_99.1 _ _ a_r11_1
    have a_r12_1 := E_99.1 _ _ a_r12_1
    have a_r13_1 := E_99.1 _ _ a_r13_1
    have o_r14_1 := E_99.1 _ _ o_r14_1
    have a_r16_1 := E_99.1 _ _ a_r16_1
    have o_b_2 := E_99.1 _ _ o_b_2
    have o_b_3 := E_99.1 _ _ o_b_3
    have a_r0_4 := E_99.1 _ _ a_r0_4
    have a_r1_4 := E_99.1 _ _ a_r1_4
    have a_r3_4 := E_99.1 _ _ a_r3_4
    have a_r5_4 := E_99.1 _ _ a_r5_4
    have a_r6_4 := E_99.1 _ _ a_r6_4
    have a_r7_4 := E_99.1 _ _ a_r7_4
    have a_r8_4 := E_99.1 _ _ a_r8_4
    have o_v12_4 : ∀ b, v12_4 = some b → ∃ n, gI ws_98 b g.cB n ∧ n < 2147483648 := fun b h => (o_v12_4 b h).imp (fun n h => ⟨E_99.1 _ _ h.1, h.2⟩)
    have o_v13_4 : ∀ b, v13_4 = some b → ∃ n, gJ ws_98 b g.cL n ∧ n < 2147483648 := fun b h => (o_v13_4 b h).imp (fun n h => ⟨E_99.1 _ _ h.1, h.2⟩)
    have o_v14_4 : ∀ b, v14_4 = some b → ∃ n, gJ ws_98 b g.cL n ∧ n < 2147483648 := fun b h => (o_v14_4 b h).imp (fun n h => ⟨E_99.1 _ _ h.1, h.2⟩)
    have a_q_89 := E_99.1 _ _ a_q_89
    refine lv_aload_n hx hb dX11_layOut_32 rfl (lv_at hl 0 rfl) ?_
    refine lv_iconst (v := 2) hx hb dX11_layOut_33 (by decide) ?_
    refine lv_aload_n hx hb dX11_layOut_34 rfl (lv_at hl 0 rfl) ?_
    refine va_get (D := gD g) (ci := 10) (v := .ref b_3) (C := RX11) (T := TX11) (N := 18) hx hb hts inX11 hown hK hP k_1 hk_1 rfl 15 (by decide) (hts _ kw_84) (fun _ h9 => h9) rfl dX11_layOut_35 ?_
    refine va_get (D := gD g) (ci := 7) (v := .int c2_4) (C := RX8) (T := TX8) (N := 15) hx hb hts inX8 hown hK hP k_4 hk_4 rfl 2 (by decide) (hts _ kw_102) (fun _ h9 => h9) rfl dX11_layOut_38 ?_
    refine lv_imul hx hb dX11_layOut_41 ?_
    refine lv_topi (fun z_101 ez_101 => ?_)
    refine lv_iconst (v := 2) hx hb dX11_layOut_42 (by decide) ?_
    refine lv_iadd hx hb dX11_layOut_43 ?_
    refine lv_topi (fun z_102 ez_102 => ?_)
    obtain ⟨n_104, en_104⟩ : ∃ y : Nat, (z_102 : Int32).toNatClampNeg = y := ⟨_, rfl⟩
    have bn_104 : n_104 ≤ 2594 := i_cl en_104 (by have e2 : (2 : Int32).toInt = 2 := (by decide); obtain ⟨u_z_102, q_z_102⟩ := i_add ez_102; have q_z_101 := i_mulL (c := 2) (K := 1073741823) ez_101 (by decide) (by decide) (by decide) (by decide); have q_f19_4 := f19_4; have q_f20_4 := f20_4; have q_fq2_grc := fq2_grc; have q_c_7 := i_nlt c_7; have q_z_87 := i_mulL (c := 2) (K := 1073741823) ez_87 (by decide) (by decide) (by decide) (by decide); have q_f1_4 := f1_4; have q_f17_4 := f17_4; have q_f18_4 := f18_4; have q_z_6 := i_len ez_6 f22_1; obtain ⟨u_z_88, q_z_88⟩ := i_add ez_88; have q_f22_1 := f22_1; have q_fq_e := fq_e; have q_f3_4 := f3_4; have q_n_90 := i_nn en_90 zn_90; have g_c2_4 := i_rg c2_4; have g_z_101 := i_rg z_101; have g_z_102 := i_rg z_102; have g_z_6 := i_rg z_6; have g_z_87 := i_rg z_87; have g_z_88 := i_rg z_88; omega)
    have zn_104 : 0 ≤ (z_102 : Int32).toInt := (by have e2 : (2 : Int32).toInt = 2 := (by decide); obtain ⟨u_z_102, q_z_102⟩ := i_add ez_102; have q_z_101 := i_mulL (c := 2) (K := 1073741823) ez_101 (by decide) (by decide) (by decide) (by decide); have q_f19_4 := f19_4; have q_f20_4 := f20_4; have q_fq2_grc := fq2_grc; have q_c_7 := i_nlt c_7; have q_z_87 := i_mulL (c := 2) (K := 1073741823) ez_87 (by decide) (by decide) (by decide) (by decide); have q_f1_4 := f1_4; have q_f17_4 := f17_4; have q_f18_4 := f18_4; have q_z_6 := i_len ez_6 f22_1; obtain ⟨u_z_88, q_z_88⟩ := i_add ez_88; have q_f22_1 := f22_1; have q_fq_e := fq_e; have q_f3_4 := f3_4; have q_n_90 := i_nn en_90 zn_90; have g_c2_4 := i_rg c2_4; have g_z_101 := i_rg z_101; have g_z_102 := i_rg z_102; have g_z_6 := i_rg z_6; have g_z_87 := i_rg z_87; have g_z_88 := i_rg z_88; omega)
    have q_n_104 := i_nn en_104 zn_104
    have pg_105 := ge_10_17 hD hk_1 rfl a_q_89
    refine va_newa (atype := .int) (ty := .int) (a0 := (n_104, .inl (fun _ => 0))) (N' := n_104) hx hb (hts (.arrayClass .int) kw_51) rfl hK hP hD hS hA (fun _ => rfl) (i_nl0 zn_104) en_104 (i_by bn_104 (by decide)) (show 0 + 1 + 1 ≤ PC ws + (0) from (by have e2 : (2 : Int32).toInt = 2 := (by decide); have q_f22_1 := f22_1; have q_fq_e := fq_e; have q_z_6 := i_len ez_6 f22_1; obtain ⟨u_z_88, q_z_88⟩ := i_add ez_88; have q_n_90 := i_nn en_90 zn_90; have q2_n_90 := bn_90; obtain ⟨u_z_102, q_z_102⟩ := i_add ez_102; have q_f20_1 := f20_1; have q_c_7 := i_nlt c_7; have q_z_87 := i_mulL (c := 2) (K := 1073741823) ez_87 (by decide) (by decide) (by decide) (by decide); have q_z_101 := i_mulL (c := 2) (K := 1073741823) ez_101 (by decide) (by decide) (by decide) (by decide); have q_f19_4 := f19_4; have q_f20_4 := f20_4; have q_fq2_grc := fq2_grc; have q_f1_4 := f1_4; have q_f17_4 := f17_4; have q_f18_4 := f18_4; have q_f3_4 := f3_4; have g_c2_4 := i_rg c2_4; have g_z_101 := i_rg z_101; have g_z_102 := i_rg z_102; have g_z_6 := i_rg z_6; have g_z_87 := i_rg z_87; have g_z_88 := i_rg z_88; omega)) (show 0 + n_90 + n_104 ≤ PS ws + (0) from (by have e2 : (2 : Int32).toInt = 2 := (by decide); have q_f22_1 := f22_1; have q_fq_e := fq_e; have q_z_6 := i_len ez_6 f22_1; obtain ⟨u_z_88, q_z_88⟩ := i_add ez_88; have q_n_90 := i_nn en_90 zn_90; have q2_n_90 := bn_90; obtain ⟨u_z_102, q_z_102⟩ := i_add ez_102; have q_f20_1 := f20_1; have q_c_7 := i_nlt c_7; have q_z_87 := i_mulL (c := 2) (K := 1073741823) ez_87 (by decide) (by decide) (by decide) (by decide); have q_z_101 := i_mulL (c := 2) (K := 1073741823) ez_101 (by decide) (by decide) (by decide) (by decide); have q_f19_4 := f19_4; have q_f20_4 := f20_4; have q_fq2_grc := fq2_grc; have q_f1_4 := f1_4; have q_f17_4 := f17_4; have q_f18_4 := f18_4; have q_f3_4 := f3_4; have g_c2_4 := i_rg c2_4; have g_z_101 := i_rg z_101; have g_z_102 := i_rg z_102; have g_z_6 := i_rg z_6; have g_z_87 := i_rg z_87; have g_z_88 := i_rg z_88; omega)) dX11_layOut_44 (fun q_103 cA9 H hK9 hP hD hS => ?_)
    obtain rfl := cls_new hK hK9 (k := 1) rfl (fun _ h => by cases h)
    clear hK9
    have hD9 := hD
    obtain ⟨ws_106, e_ws_106⟩ : ∃ z, z = ws_98 ++ [(q_103, .inl (g.cI, n_104, .inl (fun _ => 0)))] := ⟨_, rfl⟩
    have hP : va_P (gD g) cl0 ws_106 H := by rw [e_ws_106]; exact hP
    have hD : va_D A ws_106 := by rw [e_ws_106]; exact hD
    have E_107 : gE ws_98 ws_106 := by rw [e_ws_106]; exact gE_push
    have Fr_108 : gF [] [] none ws_98 ws_106 := by rw [e_ws_106]; exact gF_push
    have fr_q_103 : frs ws_106 q_103 := by rw [e_ws_106]; exact frs_new hD9 hG.u
    have hG : Good g ws_106 := by rw [e_ws_106]; exact Good_pushI hD9 hG
    have a_q_103 : gI ws_106 q_103 g.cI n_104 := by rw [e_ws_106]; exact gS_new
    have s_q_103 : n_104 < 2147483648 := Nat.lt_of_le_of_lt bn_104 (by decide)
    have pp_109 := Fr_108.pp
    have hk_1 := get_oldE e_ws_106 hk_1
    have hk_4 := get_oldE e_ws_106 hk_4
    have hk_5 := get_oldE e_ws_106 hk_5
    have o_h0 := E_107.1 _ _ o_h0
    have o_r0_1 := E_107.1 _ _ o_r0_1
    have o_r1_1 := E_107.1 _ _ o_r1_1
    have o_r2_1 := E_107.1 _ _ o_r2_1
    have a_r3_1 := E_107.1 _ _ a_r3_1
    have a_r4_1 := E_107.1 _ _ a_r4_1
    have a_r10_1 := E_107.1 _ _ a_r10_1
    have a_r11_1 := E_107.1 _ _ a_r11_1
    have a_r12_1 := E_107.1 _ _ a_r12_1
    have a_r13_1 := E_107.1 _ _ a_r13_1
    have o_r14_1 := E_107.1 _ _ o_r14_1
    have a_r16_1 := E_107.1 _ _ a_r16_1
    have o_b_2 := E_107.1 _ _ o_b_2
    have o_b_3 := E_107.1 _ _ o_b_3
    have a_r0_4 := E_107.1 _ _ a_r0_4
    have a_r1_4 := E_107.1 _ _ a_r1_4
    have a_r3_4 := E_107.1 _ _ a_r3_4
    have a_r5_4 := E_107.1 _ _ a_r5_4
    have a_r6_4 := E_107.1 _ _ a_r6_4
    have a_r7_4 := E_107.1 _ _ a_r7_4
    have a_r8_4 := E_107.1 _ _ a_r8_4
    have o_v12_4 : ∀ b, v12_4 = some b → ∃ n, gI ws_106 b g.cB n ∧ n < 2147483648 := fun b h => (o_v12_4 b h).imp (fun n h => ⟨E_107.1 _ _ h.1, h.2⟩)
    have o_v13_4 : ∀ b, v13_4 = some b → ∃ n, gJ ws_106 b g.cL n ∧ n < 2147483648 := fun b h => (o_v13_4 b h).imp (fun n h => ⟨E_107.1 _ _ h.1, h.2⟩)
    have o_v14_4 : ∀ b, v14_4 = some b → ∃ n, gJ ws_106 b g.cL n ∧ n < 2147483648 := fun b h => (o_v14_4 b h).imp (fun n h => ⟨E_107.1 _ _ h.1, h.2⟩)
    have a_q_89 := E_107.1 _ _ a_q_89
    have hV9 : okv ws_106 10 16 (.ref q_103) := (okv_a a_q_103 fr_q_103)
    refine va_put (D := gD g) (ci := 10) (v := .ref q_103) (ty := (.array .int)) (C := RX11) (T := TX11) (N := 18) hx hb hts inX11 tyX11 tyX11_ok nmX11 hown hK hP hD hS k_1 hk_1 rfl 16 (by decide) (hts _ kw_168) (fun _ h9 => h9) rfl (by decide +kernel) rfl rfl (Nat.le_of_ble_eq_true rfl) dX11_layOut_46 (fun H locs hP hD hS => ?_)
    have hi_110 : invX11 g ws_106 h0 [.ref r0_1, .ref r1_1, .ref r2_1, .ref r3_1, .ref r4_1, .int c5_1, .int c6_1, .ref b_2, .int c8_1, .int c9_1, .ref r10_1, .ref r11_1, .ref r12_1, .ref r13_1, .ref r14_1, .ref b_3, .ref q_103, .ref q_89] := ⟨r0_1, r1_1, r2_1, r3_1, (n3_1), r4_1, (n4_1), (c5_1), (c6_1), (some b_2), (c8_1), (c9_1), r10_1, (n10_1), r11_1, (n11_1), r12_1, (n12_1), r13_1, (n13_1), r14_1, (some b_3), q_103, (n_104), q_89, (n_90), rfl, o_r0_1, o_r1_1, o_r2_1, a_r3_1, f4_1, a_r4_1, f6_1, hz_c6_1, (fun b h9 => by cases h9; exact o_b_2), a_r10_1, f10_1, a_r11_1, f12_1, a_r12_1, f14_1, a_r13_1, f16_1, o_r14_1, (fun b h9 => by cases h9; exact o_b_3), a_q_103, s_q_103, a_q_89, s_q_89, f23_1, f24_1, f25_1, f26_1, f27_1, f28_1, trivial⟩
    obtain ⟨ws_111, e_ws_111⟩ : ∃ z, z = ws_106.set k_1 (h0, .inr (10, [.ref r0_1, .ref r1_1, .ref r2_1, .ref r3_1, .ref r4_1, .int c5_1, .int c6_1, .ref b_2, .int c8_1, .int c9_1, .ref r10_1, .ref r11_1, .ref r12_1, .ref r13_1, .ref r14_1, .ref b_3, .ref q_103, .ref q_89])) := ⟨_, rfl⟩
    have hP : va_P (gD g) cl0 ws_111 H := by rw [e_ws_111]; exact hP
    have hD : va_D A ws_111 := by rw [e_ws_111]; exact hD
    have E_112 : gE ws_106 ws_111 := gE_set e_ws_111 hk_1 (cw_o (fi := 16) (v := .ref q_103) rfl (by decide))
    have hG : Good g ws_111 := Good_set (fi := 16) (v := .ref q_103) e_ws_111 hk_1 E_112 rfl hV9 hG (ivX11 hi_110)
    have Fr_113 : gF [(10, 16)] [] (some h0) ws_106 ws_111 := gF_put (fi := 16) (v := .ref q_103) e_ws_111 hk_1 rfl (by decide)
    have pp_114 := Fr_113.pp
    have hkN := gset_self e_ws_111 hk_1
    have hk_4 := gset_ob e_ws_111 hk_1 hk_4 (by decide)
    have hk_5 := gset_obI e_ws_111 hk_1 hk_5
    have hk_1 := hkN
    have o_h0 := E_112.1 _ _ o_h0
    have o_r0_1 := E_112.1 _ _ o_r0_1
    have o_r1_1 := E_112.1 _ _ o_r1_1
    have o_r2_1 := E_112.1 _ _ o_r2_1
    have a_r3_1 := E_112.1 _ _ a_r3_1
    have a_r4_1 := E_112.1 _ _ a_r4_1
    have a_r10_1 := E_112.1 _ _ a_r10_1
    have a_r11_1 := E_112.1 _ _ a_r11_1
    have a_r12_1 := E_112.1 _ _ a_r12_1
    have a_r13_1 := E_112.1 _ _ a_r13_1
    have o_r14_1 := E_112.1 _ _ o_r14_1
    have o_b_2 := E_112.1 _ _ o_b_2
    have o_b_3 := E_112.1 _ _ o_b_3
    have a_r0_4 := E_112.1 _ _ a_r0_4
    have a_r1_4 := E_112.1 _ _ a_r1_4
    have a_r3_4 := E_112.1 _ _ a_r3_4
    have a_r5_4 := E_112.1 _ _ a_r5_4
    have a_r6_4 := E_112.1 _ _ a_r6_4
    have a_r7_4 := E_112.1 _ _ a_r7_4
    have a_r8_4 := E_112.1 _ _ a_r8_4
    have o_v12_4 : ∀ b, v12_4 = some b → ∃ n, gI ws_111 b g.cB n ∧ n < 2147483648 := fun b h => (o_v12_4 b h).imp (fun n h => ⟨E_112.1 _ _ h.1, h.2⟩)
    have o_v13_4 : ∀ b, v13_4 = some b → ∃ n, gJ ws_111 b g.cL n ∧ n < 2147483648 := fun b h => (o_v13_4 b h).imp (fun n h => ⟨E_112.1 _ _ h.1, h.2⟩)
    have o_v14_4 : ∀ b, v14_4 = some b → ∃ n, gJ ws_111 b g.cL n ∧ n < 2147483648 := fun b h => (o_v14_4 b h).imp (fun n h => ⟨E_112.1 _ _ h.1, h.2⟩)
    have a_q_89 := E_112.1 _ _ a_q_89
    have a_q_103 := E_112.1 _ _ a_q_103
    refine lv_iconst (v := 0) hx hb dX11_layOut_49 (by decide) ?_
    refine lv_istore_n (lv' := [(1, .int 0), (0, .ref h0)]) hx hb dX11_layOut_50 rfl hl (by decide) rfl (fun ls hl => ?_)
    refine lv_iconst (v := 0) hx hb dX11_layOut_51 (by decide) ?_
    refine lv_istore_n (lv' := [(2, .int 0), (1, .int 0), (0, .ref h0)]) hx hb dX11_layOut_52 rfl hl (by decide) rfl (fun ls hl => ?_)
    have J_53 : ∀ (n9 : Nat) (v1_115 : Int32) (v2_116 : Int32) (dc_53_2 : Nat) (ds_53_2 : Nat) (ws_118 : va_W) (H : Heap) (locs : List Loc) (ls : Array Slot), (2147483647 - v2_116.toInt).toNat = n9 → 0 ≤ v2_116.toInt → gE ws_111 ws_118 → gF [(0, 0), (0, 1), (10, 5), (10, 6)] [(0, 0), (6, 0), (10, 3), (10, 4), (10, 12), (10, 13), (10, 16), (10, 17)] none ws_111 ws_118 → Good g ws_118 → dc_53_2 + PC ws_118 ≤ PC ws + (0) → ds_53_2 + PS ws_118 ≤ PS ws + (0) → enP g ws_118 h0 → wcP ws_118 h0 0 (wb) (103) → gP ws_118 h0 (fun fs => ∀ (rn n : Nat), fs[16]? = some (.ref rn) → gI ws_118 rn g.cI n → ∀ (rm m : Nat), fs[17]? = some (.ref rm) → gI ws_118 rm g.cI m → n = m) → gP ws_118 h0 (fun fs => ∀ (rn n : Nat), fs[17]? = some (.ref rn) → gI ws_118 rn g.cI n → rc.toInt < n) → va_P (gD g) cl0 ws_118 H → va_D A ws_118 → va_S A s.heap H locs → lv_has ls 3 [(0, .ref h0), (1, .int v1_115), (2, .int v2_116)] → W p l e (headSpec (wt yX11_layOut cX11_layOut 3 (some .int)) ({ frames := 7, cells := PC ws + (0), slots := PS ws + (0), locals := 175 })).room s m ([.ref h0] : List Value).toArray below meth c H locs (dc_53_2) (ds_53_2) (MQ below (va_Qi (fun (r : Int32) (u9 : va_W) => (gP u9 h0 (fun fs => ∀ (rn n : Nat), fs[16]? = some (.ref rn) → gI u9 rn g.cI n → ∀ (rm m : Nat), fs[17]? = some (.ref rm) → gI u9 rm g.cI m → n = m) ∧ gP u9 h0 (fun fs => ∀ (rn n : Nat), fs[17]? = some (.ref rn) → gI u9 rn g.cI n → rc.toInt < n)) ∧ (enP g u9 h0) ∧ (wcP u9 h0 0 (wb) (103))) (gQ2 g [(0, 0), (0, 1), (10, 5), (10, 6), (10, 16), (10, 17)] [(0, 0), (6, 0), (10, 3), (10, 4), (10, 12), (10, 13), (10, 16), (10, 17)] none A ws s.heap (0) (0)) A) ([.ref h0] : List Value).toArray s (PC ws + (0)) (PS ws + (0)) A) (F0 m 53 ls []) := by
      intro n9
      induction n9 using Nat.strongRecOn with
      | ind n9 ih_53 =>
        intro v1_115 v2_116 dc_53_2 ds_53_2 ws_118 H locs ls hm9 iv_117 E_119 Fr_120 hG hc9 hs9 jx_53_0 jx_53_1 jf_53_e jf_53_o hP hD hS hl
        subst hm9
        have aa_121 := a_r3_1
        have aa_122 := a_r4_1
        have aa_123 := a_r10_1
        have aa_124 := a_r11_1
        have aa_125 := a_r12_1
        have aa_126 := a_r13_1
        have aa_127 := a_q_103
        have aa_128 := a_q_89
        have aa_129 := a_r0_4
        have aa_130 := a_r1_4
        have aa_131 := a_r3_4
        have aa_132 := a_r5_4
        have aa_133 := a_r6_4
        have aa_134 := a_r7_4
        have aa_135 := a_r8_4
        have o_h0 := E_119.1 _ _ o_h0
        refine lv_iload_n hx hb dX11_layOut_53 rfl (lv_at hl 2 rfl) ?_
        refine lv_aload_n hx hb dX11_layOut_54 rfl (lv_at hl 0 rfl) ?_
        obtain ⟨fs9, hk_136, hq_136⟩ := ((gF.a (F' := [(0, 0), (0, 1), (10, 5), (10, 6)]) Fr_120 (fun _ h => h))) _ _ _ hk_1
        obtain ⟨r0_136, r1_136, r2_136, r3_136, n3_136, r4_136, n4_136, c5_136, c6_136, v7_136, c8_136, c9_136, r10_136, n10_136, r11_136, n11_136, r12_136, n12_136, r13_136, n13_136, r14_136, v15_136, r16_136, n16_136, r17_136, n17_136, rfl, o_r0_136, o_r1_136, o_r2_136, a_r3_136, f4_136, a_r4_136, f6_136, hz_c6_136, o_v7_136, a_r10_136, f10_136, a_r11_136, f12_136, a_r12_136, f14_136, a_r13_136, f16_136, o_r14_136, o_v15_136, a_r16_136, f20_136, a_r17_136, f22_136, f23_136, f24_136, f25_136, f26_136, f27_136, f28_136, -⟩ := (hG.1 _ _ _ _ hk_136).hX11 rfl
        have hn9 := fe_qr (hq_136 7 (by decide))
        subst hn9
        have o_b_2 := o_v7_136 _ rfl
        have hn9 := fe_qr (hq_136 15 (by decide))
        subst hn9
        have o_b_3 := o_v15_136 _ rfl
        obtain rfl := fe_r (hq_136 16 (by decide))
        have hn9 := gI_n hD ((E_119).1 _ _ aa_127) a_r16_136
        subst hn9
        have a_q_103 := a_r16_136
        obtain rfl := fe_r (hq_136 17 (by decide))
        have hn9 := gI_n hD ((E_119).1 _ _ aa_128) a_r17_136
        subst hn9
        have a_q_89 := a_r17_136
        have kq_137 := jf_53_e _ _ _ hk_136 _ _ rfl a_q_103 _ _ rfl a_q_89
        have kq_138 := jf_53_o _ _ _ hk_136 _ _ rfl a_q_89
        refine va_get (D := gD g) (ci := 10) (v := .ref b_3) (C := RX11) (T := TX11) (N := 18) hx hb hts inX11 hown hK hP k_1 hk_136 rfl 15 (by decide) (hts _ kw_84) (fun _ h9 => h9) rfl dX11_layOut_55 ?_
        obtain ⟨fs9, hk_139, hq_139⟩ := ((gF.a (F' := [(0, 0), (0, 1), (10, 5), (10, 6)]) Fr_120 (fun _ h => h))) _ _ _ hk_4
        obtain ⟨r0_139, n0_139, r1_139, n1_139, c2_139, r3_139, n3_139, c4_139, r5_139, n5_139, r6_139, n6_139, r7_139, n7_139, r8_139, n8_139, c9_139, c10_139, c11_139, v12_139, v13_139, v14_139, rfl, a_r0_139, f1_139, a_r1_139, f3_139, a_r3_139, f5_139, a_r5_139, f7_139, a_r6_139, f9_139, a_r7_139, f11_139, a_r8_139, f13_139, o_v12_139, o_v13_139, o_v14_139, f17_139, f18_139, f19_139, f20_139, f21_139, f22_139, f23_139, f24_139, f25_139, f26_139, f27_139, f28_139, f29_139, -⟩ := (hG.1 _ _ _ _ hk_139).hX8 rfl
        obtain rfl := fe_i (hq_139 2 (by decide))
        refine va_get (D := gD g) (ci := 7) (v := .int c2_4) (C := RX8) (T := TX8) (N := 15) hx hb hts inX8 hown hK hP k_4 hk_139 rfl 2 (by decide) (hts _ kw_102) (fun _ h9 => h9) rfl dX11_layOut_58 ?_
        refine lv_icmp_ge (tgt := 97) hx hb dX11_layOut_61 (by decide) (fun c_140 => ?_) (fun c_140 => ?_)
        · refine lv_aload_n hx hb dX11_layOut_97 rfl (lv_at hl 0 rfl) ?_
          refine va_get (D := gD g) (ci := 10) (v := .ref q_89) (C := RX11) (T := TX11) (N := 18) hx hb hts inX11 hown hK hP k_1 hk_136 rfl 17 (by decide) (hts _ kw_169) (fun _ h9 => h9) rfl dX11_layOut_98 ?_
          refine lv_aload_n hx hb dX11_layOut_101 rfl (lv_at hl 0 rfl) ?_
          refine va_get (D := gD g) (ci := 10) (v := .ref b_3) (C := RX11) (T := TX11) (N := 18) hx hb hts inX11 hown hK hP k_1 hk_136 rfl 15 (by decide) (hts _ kw_84) (fun _ h9 => h9) rfl dX11_layOut_102 ?_
          refine va_get (D := gD g) (ci := 7) (v := .int c2_4) (C := RX8) (T := TX8) (N := 15) hx hb hts inX8 hown hK hP k_4 hk_139 rfl 2 (by decide) (hts _ kw_102) (fun _ h9 => h9) rfl dX11_layOut_105 ?_
          refine lv_iload_n hx hb dX11_layOut_108 rfl (lv_at hl 1 rfl) ?_
          obtain ⟨k_141, f_141, hk_141⟩ := gI_of a_q_89
          have hC9 : hol ws_118 q_89 [(10, 17)] := (hol_u hG.u hk_136 (j := 17) rfl a_q_89 (by decide))
          have hS9 : holS ws_118 q_89 none := holS_n
          refine va_iast hx hb hK hP hD hS k_141 1 hk_141 rfl (i_in2 (by have e2 : (2 : Int32).toInt = 2 := (by decide); have q_f19_4 := f19_4; have q_f20_4 := f20_4; have q_fq2_grc := fq2_grc; have q_c_7 := i_nlt c_7; have q_z_87 := i_mulL (c := 2) (K := 1073741823) ez_87 (by decide) (by decide) (by decide) (by decide); have q_n_90 := i_nn en_90 zn_90; have q2_n_90 := bn_90; have q_z_101 := i_mulL (c := 2) (K := 1073741823) ez_101 (by decide) (by decide) (by decide) (by decide); have q_kq_137 := kq_137; have q_kq_138 := kq_138; have q_f20_139 := f20_139; have q_c_140 := i_le c_140; have q_f1_4 := f1_4; have q_f17_4 := f17_4; have q_f18_4 := f18_4; have q_z_6 := i_len ez_6 f22_1; obtain ⟨u_z_88, q_z_88⟩ := i_add ez_88; obtain ⟨u_z_102, q_z_102⟩ := i_add ez_102; have q_n_104 := i_nn en_104 zn_104; have q2_n_104 := bn_104; have q_iv_117 := iv_117; have q_f1_139 := f1_139; have q_f17_139 := f17_139; have q_f18_139 := f18_139; have q_f22_1 := f22_1; have q_fq_e := fq_e; have q_f3_4 := f3_4; have q_f3_139 := f3_139; have q_f20_1 := f20_1; have g_c2_4 := i_rg c2_4; have g_rc := i_rg rc; have g_v2_116 := i_rg v2_116; have g_z_101 := i_rg z_101; have g_z_102 := i_rg z_102; have g_z_6 := i_rg z_6; have g_z_87 := i_rg z_87; have g_z_88 := i_rg z_88; omega)) dX11_layOut_109 (fun H locs hP hD hS => ?_)
          obtain ⟨ws_142, e_ws_142⟩ : ∃ z, z = ws_118.set k_141 (q_89, .inl (g.cI, n_90, .inl (upd f_141 (c2_4 : Int32).toNatClampNeg v1_115))) := ⟨_, rfl⟩
          have hP : va_P (gD g) cl0 ws_142 H := by rw [e_ws_142]; exact hP
          have hD : va_D A ws_142 := by rw [e_ws_142]; exact hD
          have E_143 : gE ws_118 ws_142 := gE_ari e_ws_142 hk_141
          have hG : Good g ws_142 := Good_arI e_ws_142 hk_141 hG
          have Fr_144 : gF [] [(10, 17)] none ws_118 ws_142 := gF_ar e_ws_142 hk_141 rfl hC9 hS9
          have pp_145 := Fr_144.pp
          have hk_136 := gset_arO e_ws_142 hk_141 hk_136
          have hk_139 := gset_arO e_ws_142 hk_141 hk_139
          have o_h0 := E_143.1 _ _ o_h0
          have o_r0_136 := E_143.1 _ _ o_r0_136
          have o_r1_136 := E_143.1 _ _ o_r1_136
          have o_r2_136 := E_143.1 _ _ o_r2_136
          have a_r3_136 := E_143.1 _ _ a_r3_136
          have a_r4_136 := E_143.1 _ _ a_r4_136
          have a_r10_136 := E_143.1 _ _ a_r10_136
          have a_r11_136 := E_143.1 _ _ a_r11_136
          have a_r12_136 := E_143.1 _ _ a_r12_136
          have a_r13_136 := E_143.1 _ _ a_r13_136
          have o_r14_136 := E_143.1 _ _ o_r14_136
          have o_b_2 := E_143.1 _ _ o_b_2
          have o_b_3 := E_143.1 _ _ o_b_3
          have a_q_103 := E_143.1 _ _ a_q_103
          have a_q_89 := E_143.1 _ _ a_q_89
          have a_r0_139 := E_143.1 _ _ a_r0_139
          have a_r1_139 := E_143.1 _ _ a_r1_139
          have a_r3_139 := E_143.1 _ _ a_r3_139
          have a_r5_139 := E_143.1 _ _ a_r5_139
          have a_r6_139 := E_143.1 _ _ a_r6_139
          have a_r7_139 := E_143.1 _ _ a_r7_139
          have a_r8_139 := E_143.1 _ _ a_r8_139
          have o_v12_139 : ∀ b, v12_139 = some b → ∃ n, gI ws_142 b g.cB n ∧ n < 2147483648 := fun b h => (o_v12_139 b h).imp (fun n h => ⟨E_143.1 _ _ h.1, h.2⟩)
          have o_v13_139 : ∀ b, v13_139 = some b → ∃ n, gJ ws_142 b g.cL n ∧ n < 2147483648 := fun b h => (o_v13_139 b h).imp (fun n h => ⟨E_143.1 _ _ h.1, h.2⟩)
          have o_v14_139 : ∀ b, v14_139 = some b → ∃ n, gJ ws_142 b g.cL n ∧ n < 2147483648 := fun b h => (o_v14_139 b h).imp (fun n h => ⟨E_143.1 _ _ h.1, h.2⟩)
          refine lv_iload_n hx hb dX11_layOut_110 rfl (lv_at hl 1 rfl) ?_
          refine W_led (fun hLd => ?_)
          have hcl : dc_53_2 + PC ws_142 ≤ PC ws + (0) := (by have e2 : (2 : Int32).toInt = 2 := (by decide); have q_f22_1 := f22_1; have q_fq_e := fq_e; have q_z_6 := i_len ez_6 f22_1; obtain ⟨u_z_88, q_z_88⟩ := i_add ez_88; have q_n_90 := i_nn en_90 zn_90; have q2_n_90 := bn_90; obtain ⟨u_z_102, q_z_102⟩ := i_add ez_102; have q_n_104 := i_nn en_104 zn_104; have q2_n_104 := bn_104; have q_kq_137 := kq_137; have q_kq_138 := kq_138; have q_f20_1 := f20_1; have q_c_7 := i_nlt c_7; have q_z_87 := i_mulL (c := 2) (K := 1073741823) ez_87 (by decide) (by decide) (by decide) (by decide); have q_z_101 := i_mulL (c := 2) (K := 1073741823) ez_101 (by decide) (by decide) (by decide) (by decide); have q_f19_4 := f19_4; have q_f20_4 := f20_4; have q_fq2_grc := fq2_grc; have q_f20_139 := f20_139; have q_c_140 := i_le c_140; have q_f1_4 := f1_4; have q_f17_4 := f17_4; have q_f18_4 := f18_4; have q_iv_117 := iv_117; have q_f1_139 := f1_139; have q_f17_139 := f17_139; have q_f18_139 := f18_139; have q_f3_4 := f3_4; have q_f3_139 := f3_139; have g_c2_4 := i_rg c2_4; have g_rc := i_rg rc; have g_v2_116 := i_rg v2_116; have g_z_101 := i_rg z_101; have g_z_102 := i_rg z_102; have g_z_6 := i_rg z_6; have g_z_87 := i_rg z_87; have g_z_88 := i_rg z_88; omega)
          have hsl : ds_53_2 + PS ws_142 ≤ PS ws + (0) := (by have e2 : (2 : Int32).toInt = 2 := (by decide); have q_f22_1 := f22_1; have q_fq_e := fq_e; have q_z_6 := i_len ez_6 f22_1; obtain ⟨u_z_88, q_z_88⟩ := i_add ez_88; have q_n_90 := i_nn en_90 zn_90; have q2_n_90 := bn_90; obtain ⟨u_z_102, q_z_102⟩ := i_add ez_102; have q_n_104 := i_nn en_104 zn_104; have q2_n_104 := bn_104; have q_kq_137 := kq_137; have q_kq_138 := kq_138; have q_f20_1 := f20_1; have q_c_7 := i_nlt c_7; have q_z_87 := i_mulL (c := 2) (K := 1073741823) ez_87 (by decide) (by decide) (by decide) (by decide); have q_z_101 := i_mulL (c := 2) (K := 1073741823) ez_101 (by decide) (by decide) (by decide) (by decide); have q_f19_4 := f19_4; have q_f20_4 := f20_4; have q_fq2_grc := fq2_grc; have q_f20_139 := f20_139; have q_c_140 := i_le c_140; have q_f1_4 := f1_4; have q_f17_4 := f17_4; have q_f18_4 := f18_4; have q_iv_117 := iv_117; have q_f1_139 := f1_139; have q_f17_139 := f17_139; have q_f18_139 := f18_139; have q_f3_4 := f3_4; have q_f3_139 := f3_139; have g_c2_4 := i_rg c2_4; have g_rc := i_rg rc; have g_v2_116 := i_rg v2_116; have g_z_101 := i_rg z_101; have g_z_102 := i_rg z_102; have g_z_6 := i_rg z_6; have g_z_87 := i_rg z_87; have g_z_88 := i_rg z_88; omega)
          refine W.widen (k := PC ws + (0)) (n := PS ws + (0)) (by omega) (by omega) ?_
          have tq_146 : enP g ws_142 h0 := enP_mo (Fr_144) (by decide) (by decide) (by decide) jx_53_0
          have tq_147 : wcP ws_142 h0 0 (wb) (103) := wcP_mo (Fr_144) (by decide) (by decide) (by decide) (by decide) (by decide) jx_53_1
          exact W.iret (v := v1_115) hx hb hr (fun t9 ht9 hW9 => ⟨⟨_, ws_142, rfl, ⟨⟨(gP_of hD hk_136 (fun p90 q90 e90 g90 p91 q91 e91 g91 => by cases e90; have z90 := gI_n hD a_q_103 g90; subst z90; cases e91; have z91 := gI_n hD a_q_89 g91; subst z91; exact (by have e2 : (2 : Int32).toInt = 2 := (by decide); have q_n_90 := i_nn en_90 zn_90; have q2_n_90 := bn_90; have q_n_104 := i_nn en_104 zn_104; have q2_n_104 := bn_104; have q_kq_137 := kq_137; have q_kq_138 := kq_138; obtain ⟨u_z_88, q_z_88⟩ := i_add ez_88; obtain ⟨u_z_102, q_z_102⟩ := i_add ez_102; have q_z_87 := i_mulL (c := 2) (K := 1073741823) ez_87 (by decide) (by decide) (by decide) (by decide); have q_z_101 := i_mulL (c := 2) (K := 1073741823) ez_101 (by decide) (by decide) (by decide) (by decide); have q_f19_4 := f19_4; have q_f20_4 := f20_4; have q_fq2_grc := fq2_grc; have q_c_7 := i_nlt c_7; have q_f20_139 := f20_139; have q_c_140 := i_le c_140; have q_f1_4 := f1_4; have q_f17_4 := f17_4; have q_f18_4 := f18_4; have q_z_6 := i_len ez_6 f22_1; have q_iv_117 := iv_117; have q_f1_139 := f1_139; have q_f17_139 := f17_139; have q_f18_139 := f18_139; have g_c2_4 := i_rg c2_4; have g_rc := i_rg rc; have g_v1_115 := i_rg v1_115; have g_v2_116 := i_rg v2_116; have g_z_101 := i_rg z_101; have g_z_102 := i_rg z_102; have g_z_6 := i_rg z_6; have g_z_87 := i_rg z_87; have g_z_88 := i_rg z_88; omega))), (gP_of hD hk_136 (fun p90 q90 e90 g90 => by cases e90; have z90 := gI_n hD a_q_89 g90; subst z90; exact (by have e2 : (2 : Int32).toInt = 2 := (by decide); have q_n_90 := i_nn en_90 zn_90; have q2_n_90 := bn_90; have q_kq_137 := kq_137; have q_kq_138 := kq_138; obtain ⟨u_z_88, q_z_88⟩ := i_add ez_88; have q_n_104 := i_nn en_104 zn_104; have q2_n_104 := bn_104; have q_z_87 := i_mulL (c := 2) (K := 1073741823) ez_87 (by decide) (by decide) (by decide) (by decide); obtain ⟨u_z_102, q_z_102⟩ := i_add ez_102; have q_f19_4 := f19_4; have q_f20_4 := f20_4; have q_fq2_grc := fq2_grc; have q_c_7 := i_nlt c_7; have q_z_101 := i_mulL (c := 2) (K := 1073741823) ez_101 (by decide) (by decide) (by decide) (by decide); have q_f20_139 := f20_139; have q_c_140 := i_le c_140; have q_f1_4 := f1_4; have q_f17_4 := f17_4; have q_f18_4 := f18_4; have q_z_6 := i_len ez_6 f22_1; have q_iv_117 := iv_117; have q_f1_139 := f1_139; have q_f17_139 := f17_139; have q_f18_139 := f18_139; have g_c2_4 := i_rg c2_4; have g_rc := i_rg rc; have g_v1_115 := i_rg v1_115; have g_v2_116 := i_rg v2_116; have g_z_101 := i_rg z_101; have g_z_102 := i_rg z_102; have g_z_6 := i_rg z_6; have g_z_87 := i_rg z_87; have g_z_88 := i_rg z_88; omega)))⟩, tq_146, tq_147⟩, ⟨(E_93.tr (E_99.tr (E_107.tr (E_112.tr (E_119.tr E_143))))), (gF.tr (gF.mo (F' := [(0, 0), (0, 1), (10, 5), (10, 6), (10, 16), (10, 17)]) (C' := [(0, 0), (6, 0), (10, 3), (10, 4), (10, 12), (10, 13), (10, 16), (10, 17)]) (S' := none) Fr_94 (fun _ h => absurd h List.not_mem_nil) (fun _ h => absurd h List.not_mem_nil) (Or.inr rfl)) (gF.tr (gF.mo (F' := [(0, 0), (0, 1), (10, 5), (10, 6), (10, 16), (10, 17)]) (C' := [(0, 0), (6, 0), (10, 3), (10, 4), (10, 12), (10, 13), (10, 16), (10, 17)]) (S' := none) Fr_100 (by decide) (fun _ h => absurd h List.not_mem_nil) (Or.inl rfl)) (gF.tr (gF.mo (F' := [(0, 0), (0, 1), (10, 5), (10, 6), (10, 16), (10, 17)]) (C' := [(0, 0), (6, 0), (10, 3), (10, 4), (10, 12), (10, 13), (10, 16), (10, 17)]) (S' := none) Fr_108 (fun _ h => absurd h List.not_mem_nil) (fun _ h => absurd h List.not_mem_nil) (Or.inr rfl)) (gF.tr (gF.mo (F' := [(0, 0), (0, 1), (10, 5), (10, 6), (10, 16), (10, 17)]) (C' := [(0, 0), (6, 0), (10, 3), (10, 4), (10, 12), (10, 13), (10, 16), (10, 17)]) (S' := none) Fr_113 (by decide) (fun _ h => absurd h List.not_mem_nil) (Or.inl rfl)) (gF.tr (gF.mo (F' := [(0, 0), (0, 1), (10, 5), (10, 6), (10, 16), (10, 17)]) (C' := [(0, 0), (6, 0), (10, 3), (10, 4), (10, 12), (10, 13), (10, 16), (10, 17)]) (S' := none) Fr_120 (by decide) (fun _ h => h) (Or.inr rfl)) (gF.mo (F' := [(0, 0), (0, 1), (10, 5), (10, 6), (10, 16), (10, 17)]) (C' := [(0, 0), (6, 0), (10, 3), (10, 4), (10, 12), (10, 13), (10, 16), (10, 17)]) (S' := none) Fr_144 (fun _ h => absurd h List.not_mem_nil) (by decide) (Or.inr rfl))))))), hG, by rw [ht9]; exact hP, hD, _, _, by rw [ht9]; exact hLd, hcl, hsl⟩⟩, hS.F ht9⟩) hS.2.2 dX11_layOut_111
        · refine lv_aload_n hx hb dX11_layOut_64 rfl (lv_at hl 0 rfl) ?_
          refine va_get (D := gD g) (ci := 10) (v := .ref q_89) (C := RX11) (T := TX11) (N := 18) hx hb hts inX11 hown hK hP k_1 hk_136 rfl 17 (by decide) (hts _ kw_169) (fun _ h9 => h9) rfl dX11_layOut_65 ?_
          refine lv_iload_n hx hb dX11_layOut_68 rfl (lv_at hl 2 rfl) ?_
          refine lv_iload_n hx hb dX11_layOut_69 rfl (lv_at hl 1 rfl) ?_
          obtain ⟨k_148, f_148, hk_148⟩ := gI_of a_q_89
          have hC9 : hol ws_118 q_89 [(10, 17)] := (hol_u hG.u hk_136 (j := 17) rfl a_q_89 (by decide))
          have hS9 : holS ws_118 q_89 none := holS_n
          refine va_iast hx hb hK hP hD hS k_148 1 hk_148 rfl (i_in2 (by have e2 : (2 : Int32).toInt = 2 := (by decide); have q_n_90 := i_nn en_90 zn_90; have q2_n_90 := bn_90; have q_iv_117 := iv_117; have q_kq_137 := kq_137; have q_kq_138 := kq_138; have q_c_140 := i_nle c_140; have q_f19_4 := f19_4; have q_f20_4 := f20_4; have q_fq2_grc := fq2_grc; have q_c_7 := i_nlt c_7; have q_z_87 := i_mulL (c := 2) (K := 1073741823) ez_87 (by decide) (by decide) (by decide) (by decide); obtain ⟨u_z_88, q_z_88⟩ := i_add ez_88; have q_z_101 := i_mulL (c := 2) (K := 1073741823) ez_101 (by decide) (by decide) (by decide) (by decide); have q_n_104 := i_nn en_104 zn_104; have q2_n_104 := bn_104; have q_f20_139 := f20_139; have q_f1_4 := f1_4; have q_f17_4 := f17_4; have q_f18_4 := f18_4; have q_z_6 := i_len ez_6 f22_1; obtain ⟨u_z_102, q_z_102⟩ := i_add ez_102; have q_f1_139 := f1_139; have q_f17_139 := f17_139; have q_f18_139 := f18_139; have q_f22_1 := f22_1; have q_fq_e := fq_e; have q_f3_4 := f3_4; have q_f3_139 := f3_139; have q_f20_1 := f20_1; have g_c2_4 := i_rg c2_4; have g_rc := i_rg rc; have g_v2_116 := i_rg v2_116; have g_z_101 := i_rg z_101; have g_z_102 := i_rg z_102; have g_z_6 := i_rg z_6; have g_z_87 := i_rg z_87; have g_z_88 := i_rg z_88; omega)) dX11_layOut_70 (fun H locs hP hD hS => ?_)
          obtain ⟨ws_149, e_ws_149⟩ : ∃ z, z = ws_118.set k_148 (q_89, .inl (g.cI, n_90, .inl (upd f_148 (v2_116 : Int32).toNatClampNeg v1_115))) := ⟨_, rfl⟩
          have hP : va_P (gD g) cl0 ws_149 H := by rw [e_ws_149]; exact hP
          have hD : va_D A ws_149 := by rw [e_ws_149]; exact hD
          have E_150 : gE ws_118 ws_149 := gE_ari e_ws_149 hk_148
          have hG : Good g ws_149 := Good_arI e_ws_149 hk_148 hG
          have Fr_151 : gF [] [(10, 17)] none ws_118 ws_149 := gF_ar e_ws_149 hk_148 rfl hC9 hS9
          have pp_152 := Fr_151.pp
          have hk_136 := gset_arO e_ws_149 hk_148 hk_136
          have hk_139 := gset_arO e_ws_149 hk_148 hk_139
          have o_h0 := E_150.1 _ _ o_h0
          have o_r0_136 := E_150.1 _ _ o_r0_136
          have o_r1_136 := E_150.1 _ _ o_r1_136
          have o_r2_136 := E_150.1 _ _ o_r2_136
          have a_r3_136 := E_150.1 _ _ a_r3_136
          have a_r4_136 := E_150.1 _ _ a_r4_136
          have a_r10_136 := E_150.1 _ _ a_r10_136
          have a_r11_136 := E_150.1 _ _ a_r11_136
          have a_r12_136 := E_150.1 _ _ a_r12_136
          have a_r13_136 := E_150.1 _ _ a_r13_136
          have o_r14_136 := E_150.1 _ _ o_r14_136
          have o_b_2 := E_150.1 _ _ o_b_2
          have o_b_3 := E_150.1 _ _ o_b_3
          have a_q_103 := E_150.1 _ _ a_q_103
          have a_q_89 := E_150.1 _ _ a_q_89
          have a_r0_139 := E_150.1 _ _ a_r0_139
          have a_r1_139 := E_150.1 _ _ a_r1_139
          have a_r3_139 := E_150.1 _ _ a_r3_139
          have a_r5_139 := E_150.1 _ _ a_r5_139
          have a_r6_139 := E_150.1 _ _ a_r6_139
          have a_r7_139 := E_150.1 _ _ a_r7_139
          have a_r8_139 := E_150.1 _ _ a_r8_139
          have o_v12_139 : ∀ b, v12_139 = some b → ∃ n, gI ws_149 b g.cB n ∧ n < 2147483648 := fun b h => (o_v12_139 b h).imp (fun n h => ⟨E_150.1 _ _ h.1, h.2⟩)
          have o_v13_139 : ∀ b, v13_139 = some b → ∃ n, gJ ws_149 b g.cL n ∧ n < 2147483648 := fun b h => (o_v13_139 b h).imp (fun n h => ⟨E_150.1 _ _ h.1, h.2⟩)
          have o_v14_139 : ∀ b, v14_139 = some b → ∃ n, gJ ws_149 b g.cL n ∧ n < 2147483648 := fun b h => (o_v14_139 b h).imp (fun n h => ⟨E_150.1 _ _ h.1, h.2⟩)
          refine lv_aload_n hx hb dX11_layOut_71 rfl (lv_at hl 0 rfl) ?_
          refine va_get (D := gD g) (ci := 10) (v := .ref q_103) (C := RX11) (T := TX11) (N := 18) hx hb hts inX11 hown hK hP k_1 hk_136 rfl 16 (by decide) (hts _ kw_168) (fun _ h9 => h9) rfl dX11_layOut_72 ?_
          refine lv_iload_n hx hb dX11_layOut_75 rfl (lv_at hl 2 rfl) ?_
          refine lv_aload_n hx hb dX11_layOut_76 rfl (lv_at hl 0 rfl) ?_
          refine lv_iload_n hx hb dX11_layOut_77 rfl (lv_at hl 2 rfl) ?_
          have tq_153 : enP g ws_149 h0 := enP_mo (Fr_151) (by decide) (by decide) (by decide) jx_53_0
          have tq_154 : nlA9 ws_149 h0 := nlA9_mo ((gF.tr (gF.mo (F' := [(0, 0), (0, 1), (10, 5), (10, 6), (10, 16), (10, 17)]) (C' := [(0, 0), (6, 0), (10, 3), (10, 4), (10, 12), (10, 13), (10, 16), (10, 17)]) (S' := none) Fr_94 (fun _ h => absurd h List.not_mem_nil) (fun _ h => absurd h List.not_mem_nil) (Or.inr rfl)) (gF.tr (gF.mo (F' := [(0, 0), (0, 1), (10, 5), (10, 6), (10, 16), (10, 17)]) (C' := [(0, 0), (6, 0), (10, 3), (10, 4), (10, 12), (10, 13), (10, 16), (10, 17)]) (S' := none) Fr_100 (by decide) (fun _ h => absurd h List.not_mem_nil) (Or.inl rfl)) (gF.tr (gF.mo (F' := [(0, 0), (0, 1), (10, 5), (10, 6), (10, 16), (10, 17)]) (C' := [(0, 0), (6, 0), (10, 3), (10, 4), (10, 12), (10, 13), (10, 16), (10, 17)]) (S' := none) Fr_108 (fun _ h => absurd h List.not_mem_nil) (fun _ h => absurd h List.not_mem_nil) (Or.inr rfl)) (gF.tr (gF.mo (F' := [(0, 0), (0, 1), (10, 5), (10, 6), (10, 16), (10, 17)]) (C' := [(0, 0), (6, 0), (10, 3), (10, 4), (10, 12), (10, 13), (10, 16), (10, 17)]) (S' := none) Fr_113 (by decide) (fun _ h => absurd h List.not_mem_nil) (Or.inl rfl)) (gF.tr (gF.mo (F' := [(0, 0), (0, 1), (10, 5), (10, 6), (10, 16), (10, 17)]) (C' := [(0, 0), (6, 0), (10, 3), (10, 4), (10, 12), (10, 13), (10, 16), (10, 17)]) (S' := none) Fr_120 (by decide) (fun _ h => h) (Or.inr rfl)) (gF.mo (F' := [(0, 0), (0, 1), (10, 5), (10, 6), (10, 16), (10, 17)]) (C' := [(0, 0), (6, 0), (10, 3), (10, 4), (10, 12), (10, 13), (10, 16), (10, 17)]) (S' := none) Fr_151 (fun _ h => absurd h List.not_mem_nil) (by decide) (Or.inr rfl)))))))) (by decide) (by decide) (by decide) (by decide) (by decide) tk1
          have tq_155 : nlA10 ws_149 h0 := nlA10_mo ((gF.tr (gF.mo (F' := [(0, 0), (0, 1), (10, 5), (10, 6), (10, 16), (10, 17)]) (C' := [(0, 0), (6, 0), (10, 3), (10, 4), (10, 12), (10, 13), (10, 16), (10, 17)]) (S' := none) Fr_94 (fun _ h => absurd h List.not_mem_nil) (fun _ h => absurd h List.not_mem_nil) (Or.inr rfl)) (gF.tr (gF.mo (F' := [(0, 0), (0, 1), (10, 5), (10, 6), (10, 16), (10, 17)]) (C' := [(0, 0), (6, 0), (10, 3), (10, 4), (10, 12), (10, 13), (10, 16), (10, 17)]) (S' := none) Fr_100 (by decide) (fun _ h => absurd h List.not_mem_nil) (Or.inl rfl)) (gF.tr (gF.mo (F' := [(0, 0), (0, 1), (10, 5), (10, 6), (10, 16), (10, 17)]) (C' := [(0, 0), (6, 0), (10, 3), (10, 4), (10, 12), (10, 13), (10, 16), (10, 17)]) (S' := none) Fr_108 (fun _ h => absurd h List.not_mem_nil) (fun _ h => absurd h List.not_mem_nil) (Or.inr rfl)) (gF.tr (gF.mo (F' := [(0, 0), (0, 1), (10, 5), (10, 6), (10, 16), (10, 17)]) (C' := [(0, 0), (6, 0), (10, 3), (10, 4), (10, 12), (10, 13), (10, 16), (10, 17)]) (S' := none) Fr_113 (by decide) (fun _ h => absurd h List.not_mem_nil) (Or.inl rfl)) (gF.tr (gF.mo (F' := [(0, 0), (0, 1), (10, 5), (10, 6), (10, 16), (10, 17)]) (C' := [(0, 0), (6, 0), (10, 3), (10, 4), (10, 12), (10, 13), (10, 16), (10, 17)]) (S' := none) Fr_120 (by decide) (fun _ h => h) (Or.inr rfl)) (gF.mo (F' := [(0, 0), (0, 1), (10, 5), (10, 6), (10, 16), (10, 17)]) (C' := [(0, 0), (6, 0), (10, 3), (10, 4), (10, 12), (10, 13), (10, 16), (10, 17)]) (S' := none) Fr_151 (fun _ h => absurd h List.not_mem_nil) (by decide) (Or.inr rfl)))))))) (by decide) (by decide) (by decide) (by decide) (by decide) tk2
          have tq_156 : wcP ws_149 h0 0 (wb) (103) := wcP_mo (Fr_151) (by decide) (by decide) (by decide) (by decide) (by decide) jx_53_1
          have hFc := gfree hD hS hA
          have pg_157 := ge_10_17 hD hk_136 rfl a_q_89
          refine W_led (fun hL0 => ?_)
          refine va_calli (va_runV (As := [.int v2_116]) (rest := [.int v2_116, .ref q_103]) ⟨hx, hb, hml, hown, hts⟩ (m_X11_needOf_x l g H ws_149 h0 (v2_116) (wb) (103) hG o_h0 (gN_of hD hk_136 (j := 7) rfl) (gN_of hD hk_136 (j := 15) rfl) tq_153 tq_154 tq_155 tq_156 (by have e103 : (103 : Int32).toInt = 103 := (by decide); omega) (by have e103 : (103 : Int32).toInt = 103 := (by decide); have q_pwc := pwc; have q_pw3 := pw3; omega)) (cwV 1 hts (gd_V kw_182 kw_221 kw_222 kw_83 kw_220) rfl rfl rfl (by decide +kernel) ⟨Nat.le_of_ble_eq_true rfl, Nat.le_of_ble_eq_true rfl⟩) ⟨gblindH, va_recv hK hP (ci := 10) (q0 := k_1) rfl hk_136, fun U hU hW9 => gmkH hU hW9 hP hK hD hex hE hS hFc⟩ rfl rfl hl.1 rfl (lv_room (Nat.le_of_ble_eq_true rfl)) dX11_layOut_78 ⟨(show dc_53_2 + (PC ws_149 + (0)) ≤ PC ws + (0) from (by have e0 : (0 : Int32).toInt = 0 := (by decide); have e2 : (2 : Int32).toInt = 2 := (by decide); have q_f22_1 := f22_1; have q_fq_e := fq_e; have q_z_6 := i_len ez_6 f22_1; obtain ⟨u_z_88, q_z_88⟩ := i_add ez_88; have q_n_90 := i_nn en_90 zn_90; have q2_n_90 := bn_90; obtain ⟨u_z_102, q_z_102⟩ := i_add ez_102; have q_n_104 := i_nn en_104 zn_104; have q2_n_104 := bn_104; have q_kq_137 := kq_137; have q_kq_138 := kq_138; have q_f20_1 := f20_1; have q_c_7 := i_nlt c_7; have q_z_87 := i_mulL (c := 2) (K := 1073741823) ez_87 (by decide) (by decide) (by decide) (by decide); have q_z_101 := i_mulL (c := 2) (K := 1073741823) ez_101 (by decide) (by decide) (by decide) (by decide); have q_f19_4 := f19_4; have q_f20_4 := f20_4; have q_fq2_grc := fq2_grc; have q_f20_139 := f20_139; have q_c_140 := i_nle c_140; have q_f1_4 := f1_4; have q_f17_4 := f17_4; have q_f18_4 := f18_4; have q_iv_117 := iv_117; have q_f1_139 := f1_139; have q_f17_139 := f17_139; have q_f18_139 := f18_139; have q_f3_4 := f3_4; have q_f3_139 := f3_139; have g_c2_4 := i_rg c2_4; have g_rc := i_rg rc; have g_v2_116 := i_rg v2_116; have g_z_101 := i_rg z_101; have g_z_102 := i_rg z_102; have g_z_6 := i_rg z_6; have g_z_87 := i_rg z_87; have g_z_88 := i_rg z_88; omega)), (show ds_53_2 + (PS ws_149 + (0)) ≤ PS ws + (0) from (by have e0 : (0 : Int32).toInt = 0 := (by decide); have e2 : (2 : Int32).toInt = 2 := (by decide); have q_f22_1 := f22_1; have q_fq_e := fq_e; have q_z_6 := i_len ez_6 f22_1; obtain ⟨u_z_88, q_z_88⟩ := i_add ez_88; have q_n_90 := i_nn en_90 zn_90; have q2_n_90 := bn_90; obtain ⟨u_z_102, q_z_102⟩ := i_add ez_102; have q_n_104 := i_nn en_104 zn_104; have q2_n_104 := bn_104; have q_kq_137 := kq_137; have q_kq_138 := kq_138; have q_f20_1 := f20_1; have q_c_7 := i_nlt c_7; have q_z_87 := i_mulL (c := 2) (K := 1073741823) ez_87 (by decide) (by decide) (by decide) (by decide); have q_z_101 := i_mulL (c := 2) (K := 1073741823) ez_101 (by decide) (by decide) (by decide) (by decide); have q_f19_4 := f19_4; have q_f20_4 := f20_4; have q_fq2_grc := fq2_grc; have q_f20_139 := f20_139; have q_c_140 := i_nle c_140; have q_f1_4 := f1_4; have q_f17_4 := f17_4; have q_f18_4 := f18_4; have q_iv_117 := iv_117; have q_f1_139 := f1_139; have q_f17_139 := f17_139; have q_f18_139 := f18_139; have q_f3_4 := f3_4; have q_f3_139 := f3_139; have g_c2_4 := i_rg c2_4; have g_rc := i_rg rc; have g_v2_116 := i_rg v2_116; have g_z_101 := i_rg z_101; have g_z_102 := i_rg z_102; have g_z_6 := i_rg z_6; have g_z_87 := i_rg z_87; have g_z_88 := i_rg z_88; omega))⟩) hS (fun q _ h => hFc q h) hFc (fun r_158 ws_159 t9 H1 locs ht9 hvm9 hw9 hB9 hz9 hk9 hS => ?_)
          obtain ⟨E_160, Fr_161, hG, hP1, hD1, dc_162, ds_163, hLd, hdc_162, hds_163⟩ := hB9
          rw [ht9] at hLd
          refine W_tight (hL0.tr hLd).1 (hL0.tr hLd).2.1 ?_
          clear hL0 hLd
          have hP : va_P (gD g) cl0 ws_159 H1 := by rw [← ht9]; exact hP1
          have hD : va_D A ws_159 := hD1.weaken (fun _ _ _ h => hFc _ h)
          obtain ⟨hw9, xp_164, xp_165⟩ := hw9
          clear hP1 hD1 hz9 hk9 hvm9 ht9 hw9
          generalize H1 = H at hP hS ⊢
          have aa_166 := a_r3_136
          have aa_167 := a_r4_136
          have aa_168 := a_r10_136
          have aa_169 := a_r11_136
          have aa_170 := a_r12_136
          have aa_171 := a_r13_136
          have aa_172 := a_q_103
          have aa_173 := a_q_89
          have aa_174 := a_r0_139
          have aa_175 := a_r1_139
          have aa_176 := a_r3_139
          have aa_177 := a_r5_139
          have aa_178 := a_r6_139
          have aa_179 := a_r7_139
          have aa_180 := a_r8_139
          have o_h0 := E_160.1 _ _ o_h0
          have a_q_103 := E_160.1 _ _ a_q_103
          obtain ⟨k_181, f_181, hk_181⟩ := gI_of a_q_103
          obtain ⟨fs9, hk_182, hq_182⟩ := ((gF.a (F' := [(0, 0), (0, 1), (10, 5), (10, 6)]) Fr_161 (fun _ h => h))) _ _ _ hk_136
          obtain ⟨r0_182, r1_182, r2_182, r3_182, n3_182, r4_182, n4_182, c5_182, c6_182, v7_182, c8_182, c9_182, r10_182, n10_182, r11_182, n11_182, r12_182, n12_182, r13_182, n13_182, r14_182, v15_182, r16_182, n16_182, r17_182, n17_182, rfl, o_r0_182, o_r1_182, o_r2_182, a_r3_182, f4_182, a_r4_182, f6_182, hz_c6_182, o_v7_182, a_r10_182, f10_182, a_r11_182, f12_182, a_r12_182, f14_182, a_r13_182, f16_182, o_r14_182, o_v15_182, a_r16_182, f20_182, a_r17_182, f22_182, f23_182, f24_182, f25_182, f26_182, f27_182, f28_182, -⟩ := (hG.1 _ _ _ _ hk_182).hX11 rfl
          have hn9 := fe_qr (hq_182 7 (by decide))
          subst hn9
          have o_b_2 := o_v7_182 _ rfl
          have hn9 := fe_qr (hq_182 15 (by decide))
          subst hn9
          have o_b_3 := o_v15_182 _ rfl
          obtain rfl := fe_r (hq_182 16 (by decide))
          have hn9 := gI_n hD ((E_160).1 _ _ aa_172) a_r16_182
          subst hn9
          have a_q_103 := a_r16_182
          obtain rfl := fe_r (hq_182 17 (by decide))
          have hn9 := gI_n hD ((E_160).1 _ _ aa_173) a_r17_182
          subst hn9
          have a_q_89 := a_r17_182
          have hC9 : hol ws_159 q_103 [(10, 16)] := (hol_u hG.u hk_182 (j := 16) rfl a_q_103 (by decide))
          have hS9 : holS ws_159 q_103 none := holS_n
          refine va_iast hx hb hK hP hD hS k_181 1 hk_181 rfl (i_in2 (by have e2 : (2 : Int32).toInt = 2 := (by decide); have q_n_104 := i_nn en_104 zn_104; have q2_n_104 := bn_104; have q_iv_117 := iv_117; have q_kq_137 := kq_137; have q_c_140 := i_nle c_140; have q_f19_4 := f19_4; have q_f20_4 := f20_4; have q_fq2_grc := fq2_grc; have q_c_7 := i_nlt c_7; have q_z_87 := i_mulL (c := 2) (K := 1073741823) ez_87 (by decide) (by decide) (by decide) (by decide); have q_n_90 := i_nn en_90 zn_90; have q2_n_90 := bn_90; have q_z_101 := i_mulL (c := 2) (K := 1073741823) ez_101 (by decide) (by decide) (by decide) (by decide); obtain ⟨u_z_102, q_z_102⟩ := i_add ez_102; have q_kq_138 := kq_138; have q_f20_139 := f20_139; have q_f1_4 := f1_4; have q_f17_4 := f17_4; have q_f18_4 := f18_4; have q_z_6 := i_len ez_6 f22_1; obtain ⟨u_z_88, q_z_88⟩ := i_add ez_88; have q_f1_139 := f1_139; have q_f17_139 := f17_139; have q_f18_139 := f18_139; have q_f22_1 := f22_1; have q_fq_e := fq_e; have q_f3_4 := f3_4; have q_f3_139 := f3_139; have q_f20_1 := f20_1; have g_c2_4 := i_rg c2_4; have g_rc := i_rg rc; have g_v2_116 := i_rg v2_116; have g_z_101 := i_rg z_101; have g_z_102 := i_rg z_102; have g_z_6 := i_rg z_6; have g_z_87 := i_rg z_87; have g_z_88 := i_rg z_88; omega)) dX11_layOut_81 (fun H locs hP hD hS => ?_)
          obtain ⟨ws_183, e_ws_183⟩ : ∃ z, z = ws_159.set k_181 (q_103, .inl (g.cI, n_104, .inl (upd f_181 (v2_116 : Int32).toNatClampNeg r_158))) := ⟨_, rfl⟩
          have hP : va_P (gD g) cl0 ws_183 H := by rw [e_ws_183]; exact hP
          have hD : va_D A ws_183 := by rw [e_ws_183]; exact hD
          have E_184 : gE ws_159 ws_183 := gE_ari e_ws_183 hk_181
          have hG : Good g ws_183 := Good_arI e_ws_183 hk_181 hG
          have Fr_185 : gF [] [(10, 16)] none ws_159 ws_183 := gF_ar e_ws_183 hk_181 rfl hC9 hS9
          have pp_186 := Fr_185.pp
          have hk_182 := gset_arO e_ws_183 hk_181 hk_182
          have o_h0 := E_184.1 _ _ o_h0
          have a_q_103 := E_184.1 _ _ a_q_103
          have o_r0_182 := E_184.1 _ _ o_r0_182
          have o_r1_182 := E_184.1 _ _ o_r1_182
          have o_r2_182 := E_184.1 _ _ o_r2_182
          have a_r3_182 := E_184.1 _ _ a_r3_182
          have a_r4_182 := E_184.1 _ _ a_r4_182
          have a_r10_182 := E_184.1 _ _ a_r10_182
          have a_r11_182 := E_184.1 _ _ a_r11_182
          have a_r12_182 := E_184.1 _ _ a_r12_182
          have a_r13_182 := E_184.1 _ _ a_r13_182
          have o_r14_182 := E_184.1 _ _ o_r14_182
          have o_b_2 := E_184.1 _ _ o_b_2
          have o_b_3 := E_184.1 _ _ o_b_3
          have a_q_89 := E_184.1 _ _ a_q_89
          refine lv_iload_n hx hb dX11_layOut_82 rfl (lv_at hl 1 rfl) ?_
          refine lv_aload_n hx hb dX11_layOut_83 rfl (lv_at hl 0 rfl) ?_
          refine lv_iload_n hx hb dX11_layOut_84 rfl (lv_at hl 2 rfl) ?_
          refine lv_iload_n hx hb dX11_layOut_85 rfl (lv_at hl 1 rfl) ?_
          have hFc := gfree hD hS hA
          refine va_calli (va_runV (As := [.int v2_116, .int v1_115]) (rest := [.int v1_115]) ⟨hx, hb, hml, hown, hts⟩ (m_X11_lengthOf l g H.size ws_183 h0 (v2_116) (v1_115) hG o_h0 (gN_of hD hk_182 (j := 15) rfl) (gP_of hD hk_182 (fun p90 q90 e90 g90 => by cases e90; have z90 := gI_n hD a_q_103 g90; subst z90; exact (by have e2 : (2 : Int32).toInt = 2 := (by decide); have q_n_104 := i_nn en_104 zn_104; have q2_n_104 := bn_104; have q_iv_117 := iv_117; have q_kq_137 := kq_137; have q_c_140 := i_nle c_140; have q_f19_4 := f19_4; have q_f20_4 := f20_4; have q_fq2_grc := fq2_grc; have q_c_7 := i_nlt c_7; have q_z_87 := i_mulL (c := 2) (K := 1073741823) ez_87 (by decide) (by decide) (by decide) (by decide); have q_n_90 := i_nn en_90 zn_90; have q2_n_90 := bn_90; have q_z_101 := i_mulL (c := 2) (K := 1073741823) ez_101 (by decide) (by decide) (by decide) (by decide); obtain ⟨u_z_102, q_z_102⟩ := i_add ez_102; have q_kq_138 := kq_138; have q_f20_139 := f20_139; have q_f1_4 := f1_4; have q_f17_4 := f17_4; have q_f18_4 := f18_4; have q_z_6 := i_len ez_6 f22_1; obtain ⟨u_z_88, q_z_88⟩ := i_add ez_88; have q_f1_139 := f1_139; have q_f17_139 := f17_139; have q_f18_139 := f18_139; have q_f22_1 := f22_1; have q_fq_e := fq_e; have q_f3_4 := f3_4; have q_f3_139 := f3_139; have q_f20_1 := f20_1; have g_c2_4 := i_rg c2_4; have g_rc := i_rg rc; have g_v2_116 := i_rg v2_116; have g_z_101 := i_rg z_101; have g_z_102 := i_rg z_102; have g_z_6 := i_rg z_6; have g_z_87 := i_rg z_87; have g_z_88 := i_rg z_88; omega))) (by have e2 : (2 : Int32).toInt = 2 := (by decide); have q_iv_117 := iv_117; have q_c_140 := i_nle c_140; have q_f19_4 := f19_4; have q_f20_4 := f20_4; have q_fq2_grc := fq2_grc; have q_c_7 := i_nlt c_7; have q_z_87 := i_mulL (c := 2) (K := 1073741823) ez_87 (by decide) (by decide) (by decide) (by decide); have q_z_101 := i_mulL (c := 2) (K := 1073741823) ez_101 (by decide) (by decide) (by decide) (by decide); have q_f20_139 := f20_139; have q_f1_4 := f1_4; have q_f17_4 := f17_4; have q_f18_4 := f18_4; have q_z_6 := i_len ez_6 f22_1; obtain ⟨u_z_88, q_z_88⟩ := i_add ez_88; obtain ⟨u_z_102, q_z_102⟩ := i_add ez_102; have q_f1_139 := f1_139; have q_f17_139 := f17_139; have q_f18_139 := f18_139; have q_f22_1 := f22_1; have q_fq_e := fq_e; have q_f3_4 := f3_4; have q_n_90 := i_nn en_90 zn_90; have q_n_104 := i_nn en_104 zn_104; have q_f3_139 := f3_139; have q_f20_1 := f20_1; have q2_n_90 := bn_90; have q2_n_104 := bn_104; have q_kq_137 := kq_137; have q_kq_138 := kq_138; have g_c2_4 := i_rg c2_4; have g_rc := i_rg rc; have g_v2_116 := i_rg v2_116; have g_z_101 := i_rg z_101; have g_z_102 := i_rg z_102; have g_z_6 := i_rg z_6; have g_z_87 := i_rg z_87; have g_z_88 := i_rg z_88; omega)) (cwV 2 hts (gd_V kw_183 kw_195 kw_196 kw_83 kw_194) rfl rfl rfl (by decide +kernel) ⟨Nat.le_of_ble_eq_true rfl, Nat.le_of_ble_eq_true rfl⟩) ⟨gblind, va_recv hK hP (ci := 10) (q0 := k_1) rfl hk_182, fun U hU hW9 => gmk hU hW9 hP hK hD hex hE hS hFc⟩ rfl rfl hl.1 rfl (lv_room (Nat.le_of_ble_eq_true rfl)) dX11_layOut_86 ⟨(show dc_53_2 + dc_162 + 0 ≤ PC ws + (0) from (by have e2 : (2 : Int32).toInt = 2 := (by decide); have q_f22_1 := f22_1; have q_fq_e := fq_e; have q_z_6 := i_len ez_6 f22_1; obtain ⟨u_z_88, q_z_88⟩ := i_add ez_88; have q_n_90 := i_nn en_90 zn_90; have q2_n_90 := bn_90; obtain ⟨u_z_102, q_z_102⟩ := i_add ez_102; have q_n_104 := i_nn en_104 zn_104; have q2_n_104 := bn_104; have q_kq_137 := kq_137; have q_kq_138 := kq_138; have q_f20_1 := f20_1; have q_c_7 := i_nlt c_7; have q_z_87 := i_mulL (c := 2) (K := 1073741823) ez_87 (by decide) (by decide) (by decide) (by decide); have q_z_101 := i_mulL (c := 2) (K := 1073741823) ez_101 (by decide) (by decide) (by decide) (by decide); have q_f19_4 := f19_4; have q_f20_4 := f20_4; have q_fq2_grc := fq2_grc; have q_f20_139 := f20_139; have q_c_140 := i_nle c_140; have q_f1_4 := f1_4; have q_f17_4 := f17_4; have q_f18_4 := f18_4; have q_iv_117 := iv_117; have q_f1_139 := f1_139; have q_f17_139 := f17_139; have q_f18_139 := f18_139; have q_f3_4 := f3_4; have q_f3_139 := f3_139; have g_c2_4 := i_rg c2_4; have g_rc := i_rg rc; have g_v2_116 := i_rg v2_116; have g_z_101 := i_rg z_101; have g_z_102 := i_rg z_102; have g_z_6 := i_rg z_6; have g_z_87 := i_rg z_87; have g_z_88 := i_rg z_88; omega)), (show ds_53_2 + ds_163 + 0 ≤ PS ws + (0) from (by have e2 : (2 : Int32).toInt = 2 := (by decide); have q_f22_1 := f22_1; have q_fq_e := fq_e; have q_z_6 := i_len ez_6 f22_1; obtain ⟨u_z_88, q_z_88⟩ := i_add ez_88; have q_n_90 := i_nn en_90 zn_90; have q2_n_90 := bn_90; obtain ⟨u_z_102, q_z_102⟩ := i_add ez_102; have q_n_104 := i_nn en_104 zn_104; have q2_n_104 := bn_104; have q_kq_137 := kq_137; have q_kq_138 := kq_138; have q_f20_1 := f20_1; have q_c_7 := i_nlt c_7; have q_z_87 := i_mulL (c := 2) (K := 1073741823) ez_87 (by decide) (by decide) (by decide) (by decide); have q_z_101 := i_mulL (c := 2) (K := 1073741823) ez_101 (by decide) (by decide) (by decide) (by decide); have q_f19_4 := f19_4; have q_f20_4 := f20_4; have q_fq2_grc := fq2_grc; have q_f20_139 := f20_139; have q_c_140 := i_nle c_140; have q_f1_4 := f1_4; have q_f17_4 := f17_4; have q_f18_4 := f18_4; have q_iv_117 := iv_117; have q_f1_139 := f1_139; have q_f17_139 := f17_139; have q_f18_139 := f18_139; have q_f3_4 := f3_4; have q_f3_139 := f3_139; have g_c2_4 := i_rg c2_4; have g_rc := i_rg rc; have g_v2_116 := i_rg v2_116; have g_z_101 := i_rg z_101; have g_z_102 := i_rg z_102; have g_z_6 := i_rg z_6; have g_z_87 := i_rg z_87; have g_z_88 := i_rg z_88; omega))⟩) hS (fun q _ h => hFc q h) hFc (fun r_187 u9 t9 H1 locs ht9 hvm9 hw9 hB9 hz9 hk9 hS => ?_)
          have hP : va_P (gD g) cl0 ws_183 H1 := by rw [← ht9]; exact hB9.1
          clear hB9 hz9 hk9 hvm9 ht9 hw9
          generalize H1 = H at hP hS ⊢
          refine lv_iadd hx hb dX11_layOut_89 ?_
          refine lv_topi (fun z_188 ez_188 => ?_)
          refine lv_istore_n (lv' := [(1, .int z_188), (0, .ref h0), (2, .int v2_116)]) hx hb dX11_layOut_90 rfl hl (by decide) rfl (fun ls hl => ?_)
          obtain ⟨z_189, ez_189⟩ : ∃ z : Int32, v2_116 + Int32.ofInt 1 = z := ⟨_, rfl⟩
          refine lv_iinc (v := z_189) (lv' := [(2, .int z_189), (1, .int z_188), (0, .ref h0)]) hx hb dX11_layOut_91 hl (k := 2) rfl ez_189 (by decide) rfl (fun ls hl => ?_)
          refine lv_goto (tgt := 53) hx hb dX11_layOut_94 (by decide) ?_
          have tq_190 : enP g ws_183 h0 := enP_mo (Fr_185) (by decide) (by decide) (by decide) xp_164
          have tq_191 : wcP ws_183 h0 0 ((wb)) (103) := wcP_mo (Fr_185) (by decide) (by decide) (by decide) (by decide) (by decide) xp_165
          have tq_192 : wcP ws_183 h0 0 (wb) (103) := wcP_le (by have e0 : (0 : Int32).toInt = 0 := (by decide); have e09 : (0 : Int32).toInt = 0 := rfl; omega) (by have q_pwc := pwc; have q_pw3 := pw3; have e09 : (0 : Int32).toInt = 0 := rfl; omega) (by have e103 : (103 : Int32).toInt = 103 := (by decide); have e09 : (0 : Int32).toInt = 0 := rfl; omega) tq_191
          exact ih_53 _ (by have e2 : (2 : Int32).toInt = 2 := (by decide); obtain ⟨u_z_188, q_z_188⟩ := i_add ez_188; obtain ⟨u_z_189, q_z_189⟩ := i_iz ez_189 (by decide) (by decide); have q_iv_117 := iv_117; have q_c_140 := i_nle c_140; have q_f19_4 := f19_4; have q_f20_4 := f20_4; have q_fq2_grc := fq2_grc; have q_c_7 := i_nlt c_7; have q_z_87 := i_mulL (c := 2) (K := 1073741823) ez_87 (by decide) (by decide) (by decide) (by decide); have q_z_101 := i_mulL (c := 2) (K := 1073741823) ez_101 (by decide) (by decide) (by decide) (by decide); have q_f20_139 := f20_139; have q_f1_4 := f1_4; have q_f17_4 := f17_4; have q_f18_4 := f18_4; have q_z_6 := i_len ez_6 f22_1; obtain ⟨u_z_88, q_z_88⟩ := i_add ez_88; obtain ⟨u_z_102, q_z_102⟩ := i_add ez_102; have q_f1_139 := f1_139; have q_f17_139 := f17_139; have q_f18_139 := f18_139; have q_f22_1 := f22_1; have q_fq_e := fq_e; have q_f3_4 := f3_4; have q_n_90 := i_nn en_90 zn_90; have q_n_104 := i_nn en_104 zn_104; have q_f3_139 := f3_139; have g_c2_4 := i_rg c2_4; have g_r_187 := i_rg r_187; have g_v1_115 := i_rg v1_115; have g_v2_116 := i_rg v2_116; have g_z_101 := i_rg z_101; have g_z_102 := i_rg z_102; have g_z_188 := i_rg z_188; have g_z_189 := i_rg z_189; have g_z_6 := i_rg z_6; have g_z_87 := i_rg z_87; have g_z_88 := i_rg z_88; omega) (z_188) (z_189) (dc_53_2 + dc_162) (ds_53_2 + ds_163) ws_183 H locs ls rfl (by have e2 : (2 : Int32).toInt = 2 := (by decide); obtain ⟨u_z_189, q_z_189⟩ := i_iz ez_189 (by decide) (by decide); have q_iv_117 := iv_117; have q_c_140 := i_nle c_140; have q_f19_4 := f19_4; have q_f20_4 := f20_4; have q_fq2_grc := fq2_grc; have q_c_7 := i_nlt c_7; have q_z_87 := i_mulL (c := 2) (K := 1073741823) ez_87 (by decide) (by decide) (by decide) (by decide); have q_z_101 := i_mulL (c := 2) (K := 1073741823) ez_101 (by decide) (by decide) (by decide) (by decide); have q_f20_139 := f20_139; have q_f1_4 := f1_4; have q_f17_4 := f17_4; have q_f18_4 := f18_4; have q_z_6 := i_len ez_6 f22_1; obtain ⟨u_z_88, q_z_88⟩ := i_add ez_88; obtain ⟨u_z_102, q_z_102⟩ := i_add ez_102; have q_f1_139 := f1_139; have q_f17_139 := f17_139; have q_f18_139 := f18_139; have q_f22_1 := f22_1; have q_fq_e := fq_e; have q_f3_4 := f3_4; have q_n_90 := i_nn en_90 zn_90; have q_n_104 := i_nn en_104 zn_104; have q_f3_139 := f3_139; have g_c2_4 := i_rg c2_4; have g_v2_116 := i_rg v2_116; have g_z_101 := i_rg z_101; have g_z_102 := i_rg z_102; have g_z_189 := i_rg z_189; have g_z_6 := i_rg z_6; have g_z_87 := i_rg z_87; have g_z_88 := i_rg z_88; omega) ((E_119.tr (E_150.tr (E_160.tr E_184)))) ((gF.tr Fr_120 (gF.tr (gF.mo (F' := [(0, 0), (0, 1), (10, 5), (10, 6)]) (C' := [(0, 0), (6, 0), (10, 3), (10, 4), (10, 12), (10, 13), (10, 16), (10, 17)]) (S' := none) Fr_151 (fun _ h => absurd h List.not_mem_nil) (by decide) (Or.inr rfl)) (gF.tr (gF.mo (F' := [(0, 0), (0, 1), (10, 5), (10, 6)]) (C' := [(0, 0), (6, 0), (10, 3), (10, 4), (10, 12), (10, 13), (10, 16), (10, 17)]) (S' := none) Fr_161 (fun _ h => h) (by decide) (Or.inr rfl)) (gF.mo (F' := [(0, 0), (0, 1), (10, 5), (10, 6)]) (C' := [(0, 0), (6, 0), (10, 3), (10, 4), (10, 12), (10, 13), (10, 16), (10, 17)]) (S' := none) Fr_185 (fun _ h => absurd h List.not_mem_nil) (by decide) (Or.inr rfl)))))) hG (by have e2 : (2 : Int32).toInt = 2 := (by decide); have q_f22_1 := f22_1; have q_fq_e := fq_e; have q_z_6 := i_len ez_6 f22_1; obtain ⟨u_z_88, q_z_88⟩ := i_add ez_88; have q_n_90 := i_nn en_90 zn_90; have q2_n_90 := bn_90; obtain ⟨u_z_102, q_z_102⟩ := i_add ez_102; have q_n_104 := i_nn en_104 zn_104; have q2_n_104 := bn_104; have q_kq_137 := kq_137; have q_kq_138 := kq_138; have q_f20_1 := f20_1; have q_c_7 := i_nlt c_7; have q_z_87 := i_mulL (c := 2) (K := 1073741823) ez_87 (by decide) (by decide) (by decide) (by decide); have q_z_101 := i_mulL (c := 2) (K := 1073741823) ez_101 (by decide) (by decide) (by decide) (by decide); have q_f19_4 := f19_4; have q_f20_4 := f20_4; have q_fq2_grc := fq2_grc; have q_f20_139 := f20_139; have q_c_140 := i_nle c_140; have q_f1_4 := f1_4; have q_f17_4 := f17_4; have q_f18_4 := f18_4; have q_iv_117 := iv_117; have q_f1_139 := f1_139; have q_f17_139 := f17_139; have q_f18_139 := f18_139; obtain ⟨u_z_189, q_z_189⟩ := i_iz ez_189 (by decide) (by decide); have q_f3_4 := f3_4; have q_f3_139 := f3_139; have g_c2_4 := i_rg c2_4; have g_rc := i_rg rc; have g_v2_116 := i_rg v2_116; have g_z_101 := i_rg z_101; have g_z_102 := i_rg z_102; have g_z_189 := i_rg z_189; have g_z_6 := i_rg z_6; have g_z_87 := i_rg z_87; have g_z_88 := i_rg z_88; omega) (by have e2 : (2 : Int32).toInt = 2 := (by decide); have q_f22_1 := f22_1; have q_fq_e := fq_e; have q_z_6 := i_len ez_6 f22_1; obtain ⟨u_z_88, q_z_88⟩ := i_add ez_88; have q_n_90 := i_nn en_90 zn_90; have q2_n_90 := bn_90; obtain ⟨u_z_102, q_z_102⟩ := i_add ez_102; have q_n_104 := i_nn en_104 zn_104; have q2_n_104 := bn_104; have q_kq_137 := kq_137; have q_kq_138 := kq_138; have q_f20_1 := f20_1; have q_c_7 := i_nlt c_7; have q_z_87 := i_mulL (c := 2) (K := 1073741823) ez_87 (by decide) (by decide) (by decide) (by decide); have q_z_101 := i_mulL (c := 2) (K := 1073741823) ez_101 (by decide) (by decide) (by decide) (by decide); have q_f19_4 := f19_4; have q_f20_4 := f20_4; have q_fq2_grc := fq2_grc; have q_f20_139 := f20_139; have q_c_140 := i_nle c_140; have q_f1_4 := f1_4; have q_f17_4 := f17_4; have q_f18_4 := f18_4; have q_iv_117 := iv_117; have q_f1_139 := f1_139; have q_f17_139 := f17_139; have q_f18_139 := f18_139; obtain ⟨u_z_189, q_z_189⟩ := i_iz ez_189 (by decide) (by decide); have q_f3_4 := f3_4; have q_f3_139 := f3_139; have g_c2_4 := i_rg c2_4; have g_rc := i_rg rc; have g_v2_116 := i_rg v2_116; have g_z_101 := i_rg z_101; have g_z_102 := i_rg z_102; have g_z_189 := i_rg z_189; have g_z_6 := i_rg z_6; have g_z_87 := i_rg z_87; have g_z_88 := i_rg z_88; omega) tq_190 tq_192 (gP_of hD hk_182 (fun p90 q90 e90 g90 p91 q91 e91 g91 => by cases e90; have z90 := gI_n hD a_q_103 g90; subst z90; cases e91; have z91 := gI_n hD a_q_89 g91; subst z91; exact (by have e2 : (2 : Int32).toInt = 2 := (by decide); have q_n_90 := i_nn en_90 zn_90; have q2_n_90 := bn_90; have q_n_104 := i_nn en_104 zn_104; have q2_n_104 := bn_104; have q_kq_137 := kq_137; have q_kq_138 := kq_138; obtain ⟨u_z_88, q_z_88⟩ := i_add ez_88; obtain ⟨u_z_102, q_z_102⟩ := i_add ez_102; have q_z_87 := i_mulL (c := 2) (K := 1073741823) ez_87 (by decide) (by decide) (by decide) (by decide); have q_z_101 := i_mulL (c := 2) (K := 1073741823) ez_101 (by decide) (by decide) (by decide) (by decide); have q_f19_4 := f19_4; have q_f20_4 := f20_4; have q_fq2_grc := fq2_grc; have q_c_7 := i_nlt c_7; have q_f20_139 := f20_139; have q_c_140 := i_nle c_140; have q_f1_4 := f1_4; have q_f17_4 := f17_4; have q_f18_4 := f18_4; have q_z_6 := i_len ez_6 f22_1; have q_iv_117 := iv_117; have q_f1_139 := f1_139; have q_f17_139 := f17_139; have q_f18_139 := f18_139; obtain ⟨u_z_189, q_z_189⟩ := i_iz ez_189 (by decide) (by decide); have g_c2_4 := i_rg c2_4; have g_rc := i_rg rc; have g_v2_116 := i_rg v2_116; have g_z_101 := i_rg z_101; have g_z_102 := i_rg z_102; have g_z_189 := i_rg z_189; have g_z_6 := i_rg z_6; have g_z_87 := i_rg z_87; have g_z_88 := i_rg z_88; omega))) (gP_of hD hk_182 (fun p90 q90 e90 g90 => by cases e90; have z90 := gI_n hD a_q_89 g90; subst z90; exact (by have e2 : (2 : Int32).toInt = 2 := (by decide); have q_n_90 := i_nn en_90 zn_90; have q2_n_90 := bn_90; have q_kq_137 := kq_137; have q_kq_138 := kq_138; obtain ⟨u_z_88, q_z_88⟩ := i_add ez_88; have q_n_104 := i_nn en_104 zn_104; have q2_n_104 := bn_104; have q_z_87 := i_mulL (c := 2) (K := 1073741823) ez_87 (by decide) (by decide) (by decide) (by decide); obtain ⟨u_z_102, q_z_102⟩ := i_add ez_102; have q_f19_4 := f19_4; have q_f20_4 := f20_4; have q_fq2_grc := fq2_grc; have q_c_7 := i_nlt c_7; have q_z_101 := i_mulL (c := 2) (K := 1073741823) ez_101 (by decide) (by decide) (by decide) (by decide); have q_f20_139 := f20_139; have q_c_140 := i_nle c_140; have q_f1_4 := f1_4; have q_f17_4 := f17_4; have q_f18_4 := f18_4; have q_z_6 := i_len ez_6 f22_1; have q_iv_117 := iv_117; have q_f1_139 := f1_139; have q_f17_139 := f17_139; have q_f18_139 := f18_139; obtain ⟨u_z_189, q_z_189⟩ := i_iz ez_189 (by decide) (by decide); have g_c2_4 := i_rg c2_4; have g_rc := i_rg rc; have g_v2_116 := i_rg v2_116; have g_z_101 := i_rg z_101; have g_z_102 := i_rg z_102; have g_z_189 := i_rg z_189; have g_z_6 := i_rg z_6; have g_z_87 := i_rg z_87; have g_z_88 := i_rg z_88; omega))) hP hD hS (lv_sub hl [2, 1, 0] rfl)
    have tq_193 : enP g ws_111 h0 := enP_mo ((gF.tr (gF.mo (F' := [(10, 16), (10, 17)]) (C' := []) (S' := none) Fr_94 (fun _ h => absurd h List.not_mem_nil) (fun _ h => h) (Or.inr rfl)) (gF.tr (gF.mo (F' := [(10, 16), (10, 17)]) (C' := []) (S' := none) Fr_100 (by decide) (fun _ h => h) (Or.inl rfl)) (gF.tr (gF.mo (F' := [(10, 16), (10, 17)]) (C' := []) (S' := none) Fr_108 (fun _ h => absurd h List.not_mem_nil) (fun _ h => h) (Or.inr rfl)) (gF.mo (F' := [(10, 16), (10, 17)]) (C' := []) (S' := none) Fr_113 (by decide) (fun _ h => h) (Or.inl rfl)))))) (by decide) (by decide) (by decide) tk0
    have tq_194 : wcP ws_111 h0 0 wb wc := wcP_mo ((gF.tr (gF.mo (F' := [(10, 16), (10, 17)]) (C' := []) (S' := none) Fr_94 (fun _ h => absurd h List.not_mem_nil) (fun _ h => h) (Or.inr rfl)) (gF.tr (gF.mo (F' := [(10, 16), (10, 17)]) (C' := []) (S' := none) Fr_100 (by decide) (fun _ h => h) (Or.inl rfl)) (gF.tr (gF.mo (F' := [(10, 16), (10, 17)]) (C' := []) (S' := none) Fr_108 (fun _ h => absurd h List.not_mem_nil) (fun _ h => h) (Or.inr rfl)) (gF.mo (F' := [(10, 16), (10, 17)]) (C' := []) (S' := none) Fr_113 (by decide) (fun _ h => h) (Or.inl rfl)))))) (by decide) (by decide) (by decide) (by decide) (by decide) tk3
    have tq_195 : wcP ws_111 h0 0 (wb) (103) := wcP_le (by have e0 : (0 : Int32).toInt = 0 := (by decide); have e09 : (0 : Int32).toInt = 0 := rfl; omega) (by have q_pwc := pwc; have q_pw3 := pw3; have e09 : (0 : Int32).toInt = 0 := rfl; omega) (by have e103 : (103 : Int32).toInt = 103 := (by decide); have q_pw3 := pw3; have q_pwc := pwc; have e09 : (0 : Int32).toInt = 0 := rfl; omega) tq_194
    exact J_53 _ (0) (0) (0 + 1 + 1) (0 + n_90 + n_104) ws_111 H locs ls rfl (by have e0 : (0 : Int32).toInt = 0 := (by decide); omega) (gE.rf) (gF.rf) hG (by have e2 : (2 : Int32).toInt = 2 := (by decide); have q_f22_1 := f22_1; have q_fq_e := fq_e; have q_z_6 := i_len ez_6 f22_1; obtain ⟨u_z_88, q_z_88⟩ := i_add ez_88; have q_n_90 := i_nn en_90 zn_90; have q2_n_90 := bn_90; obtain ⟨u_z_102, q_z_102⟩ := i_add ez_102; have q_n_104 := i_nn en_104 zn_104; have q2_n_104 := bn_104; have q_f20_1 := f20_1; have q_c_7 := i_nlt c_7; have q_z_87 := i_mulL (c := 2) (K := 1073741823) ez_87 (by decide) (by decide) (by decide) (by decide); have q_z_101 := i_mulL (c := 2) (K := 1073741823) ez_101 (by decide) (by decide) (by decide) (by decide); have q_f19_4 := f19_4; have q_f20_4 := f20_4; have q_fq2_grc := fq2_grc; have q_f1_4 := f1_4; have q_f17_4 := f17_4; have q_f18_4 := f18_4; have q_f3_4 := f3_4; have g_c2_4 := i_rg c2_4; have g_z_101 := i_rg z_101; have g_z_102 := i_rg z_102; have g_z_6 := i_rg z_6; have g_z_87 := i_rg z_87; have g_z_88 := i_rg z_88; omega) (by have e2 : (2 : Int32).toInt = 2 := (by decide); have q_f22_1 := f22_1; have q_fq_e := fq_e; have q_z_6 := i_len ez_6 f22_1; obtain ⟨u_z_88, q_z_88⟩ := i_add ez_88; have q_n_90 := i_nn en_90 zn_90; have q2_n_90 := bn_90; obtain ⟨u_z_102, q_z_102⟩ := i_add ez_102; have q_n_104 := i_nn en_104 zn_104; have q2_n_104 := bn_104; have q_f20_1 := f20_1; have q_c_7 := i_nlt c_7; have q_z_87 := i_mulL (c := 2) (K := 1073741823) ez_87 (by decide) (by decide) (by decide) (by decide); have q_z_101 := i_mulL (c := 2) (K := 1073741823) ez_101 (by decide) (by decide) (by decide) (by decide); have q_f19_4 := f19_4; have q_f20_4 := f20_4; have q_fq2_grc := fq2_grc; have q_f1_4 := f1_4; have q_f17_4 := f17_4; have q_f18_4 := f18_4; have q_f3_4 := f3_4; have g_c2_4 := i_rg c2_4; have g_z_101 := i_rg z_101; have g_z_102 := i_rg z_102; have g_z_6 := i_rg z_6; have g_z_87 := i_rg z_87; have g_z_88 := i_rg z_88; omega) tq_193 tq_195 (gP_of hD hk_1 (fun p90 q90 e90 g90 p91 q91 e91 g91 => by cases e90; have z90 := gI_n hD a_q_103 g90; subst z90; cases e91; have z91 := gI_n hD a_q_89 g91; subst z91; exact (by have e2 : (2 : Int32).toInt = 2 := (by decide); have q_n_90 := i_nn en_90 zn_90; have q2_n_90 := bn_90; have q_n_104 := i_nn en_104 zn_104; have q2_n_104 := bn_104; obtain ⟨u_z_88, q_z_88⟩ := i_add ez_88; obtain ⟨u_z_102, q_z_102⟩ := i_add ez_102; have q_z_87 := i_mulL (c := 2) (K := 1073741823) ez_87 (by decide) (by decide) (by decide) (by decide); have q_z_101 := i_mulL (c := 2) (K := 1073741823) ez_101 (by decide) (by decide) (by decide) (by decide); have q_f19_4 := f19_4; have q_f20_4 := f20_4; have q_fq2_grc := fq2_grc; have q_c_7 := i_nlt c_7; have q_f1_4 := f1_4; have q_f17_4 := f17_4; have q_f18_4 := f18_4; have q_z_6 := i_len ez_6 f22_1; have g_c2_4 := i_rg c2_4; have g_z_101 := i_rg z_101; have g_z_102 := i_rg z_102; have g_z_6 := i_rg z_6; have g_z_87 := i_rg z_87; have g_z_88 := i_rg z_88; omega))) (gP_of hD hk_1 (fun p90 q90 e90 g90 => by cases e90; have z90 := gI_n hD a_q_89 g90; subst z90; exact (by have e2 : (2 : Int32).toInt = 2 := (by decide); have q_n_90 := i_nn en_90 zn_90; have q2_n_90 := bn_90; obtain ⟨u_z_88, q_z_88⟩ := i_add ez_88; have q_z_87 := i_mulL (c := 2) (K := 1073741823) ez_87 (by decide) (by decide) (by decide) (by decide); have q_f19_4 := f19_4; have q_f20_4 := f20_4; have q_fq2_grc := fq2_grc; have q_c_7 := i_nlt c_7; have q_z_101 := i_mulL (c := 2) (K := 1073741823) ez_101 (by decide) (by decide) (by decide) (by decide); have q_f1_4 := f1_4; have q_f17_4 := f17_4; have q_f18_4 := f18_4; have q_z_6 := i_len ez_6 f22_1; obtain ⟨u_z_102, q_z_102⟩ := i_add ez_102; have g_c2_4 := i_rg c2_4; have g_rc := i_rg rc; have g_z_101 := i_rg z_101; have g_z_102 := i_rg z_102; have g_z_6 := i_rg z_6; have g_z_87 := i_rg z_87; have g_z_88 := i_rg z_88; omega))) hP hD hS (lv_sub hl [2, 1, 0] rfl)
