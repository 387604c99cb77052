set_option maxHeartbeats 1000000 in
set_option maxRecDepth 100000 in
theorem m_X4_makeRoom (l : Launch) (g : Gm) (H0 : Heap) (ws : va_W) (h0 : Nat) (x1 : Int32) (hG : Good g ws) (o_h0 : gC ws h0 4) (p0 : 0 ≤ x1.toInt ∧ x1.toInt ≤ 1296) : Met l yX4_makeRoom (wt yX4_makeRoom cX4_makeRoom 3 none) ({ frames := 1, cells := PC ws + (0), slots := PS ws + (0), locals := 23 }) (va_Pc [.ref h0, .int x1] (st_H g H0 ws)) (va_Qv (fun (u9 : va_W) => True) (gQ2 g [(4, 0), (4, 1), (4, 2)] [(4, 0), (4, 1), (4, 2)] none (va_A ws H0.size) ws H0 (0) (0)) (va_A ws H0.size)) (PC ws + (0)) (PS ws + (0)) (va_A ws H0.size) := by
  refine Met.ofW (cc := cX4_makeRoom) (maxL := 3) (ret := none) (by decide) rfl ?_
  intro p e s m args below meth c s₁ B hml hv
  obtain ⟨rfl, hH0, hsz, hP, hK, hD0, hex, hE⟩ := hv
  have hx := B.exec
  have hb := B.bytes
  have hr := B.returns
  have hts0 := atoms_spec (ws := wt yX4_makeRoom cX4_makeRoom 3 none) B.pre
  have hts : ∀ w ∈ tb, w.before _ s = true := fun w h => hts0 w (List.mem_cons_of_mem _ h)
  have hown : s.vm.findClass RX4 = some m.cls := findClass_of_methodNamed B.named
  subst hH0
  have hD := hD0.self (sz := s.heap.size)
  generalize hAe : va_A ws s.heap.size = A at hD hE ⊢
  have hA : ∀ q : Nat, s.heap.size ≤ q → A q := fun q h => by rw [← hAe]; exact Or.inr h
  have hS : va_S A s.heap s.heap [] := va_S.rf
  have hl := lv_entry ([.ref h0, .int x1]) (n := 3) (Nat.le_of_ble_eq_true rfl)
  rw [lg_entry_eq]
  generalize (lg_sl ([.ref h0, .int x1]) ++ List.replicate (3 - (lg_sl ([.ref h0, .int x1])).length) Slot.unset).toArray = ls at hl ⊢
  have hl : lv_has ls 3 [(0, .ref h0), (1, .int x1)] := hl
  refine lv_aload_n hx hb dX4_makeRoom_0 rfl (lv_at hl 0 rfl) ?_
  obtain ⟨k_1, fs9, hk_1⟩ := gC_of o_h0
  obtain ⟨r0_1, n0_1, r1_1, n1_1, r2_1, n2_1, v3_1, v4_1, c5_1, c6_1, c7_1, rfl, a_r0_1, f1_1, a_r1_1, f3_1, a_r2_1, f5_1, o_v3_1, o_v4_1, hz_c6_1, f9_1, f10_1, f11_1, -⟩ := (hG.1 _ _ _ _ hk_1).hX4 rfl
  refine va_get (D := gD g) (ci := 4) (v := .ref r0_1) (C := RX4) (T := TX4) (N := 8) hx hb hts inX4 hown hK hP k_1 hk_1 rfl 0 (by decide) (hts _ kw_956) (fun _ h9 => h9) rfl dX4_makeRoom_1 ?_
  obtain ⟨k_2, f_2, hk_2⟩ := gI_of a_r0_1
  obtain ⟨z_3, ez_3⟩ : ∃ z : Int32, Int32.ofNat n0_1 = z := ⟨_, rfl⟩
  refine va_alen (v := z_3) hx hb hK hP k_2 1 hk_2 rfl ez_3 dX4_makeRoom_4 ?_
  refine lv_iload_n hx hb dX4_makeRoom_5 rfl (lv_at hl 1 rfl) ?_
  have J_36 : ∀ (dc_36_1 : Nat) (ds_36_1 : Nat) (ws_4 : va_W) (H : Heap) (locs : List Loc) (ls : Array Slot), gE ws ws_4 → gF [(4, 0), (4, 1), (4, 2)] [] none ws ws_4 → Good g ws_4 → dc_36_1 + PC ws_4 ≤ PC ws + (0) → ds_36_1 + PS ws_4 ≤ PS ws + (0) → va_P (gD g) cl0 ws_4 H → va_D A ws_4 → va_S A s.heap H locs → lv_has ls 3 [(0, .ref h0)] → W p l e (headSpec (wt yX4_makeRoom cX4_makeRoom 3 none) ({ frames := 1, cells := PC ws + (0), slots := PS ws + (0), locals := 23 })).room s m ([.ref h0, .int x1] : List Value).toArray below meth c H locs (dc_36_1) (ds_36_1) (MQ below (va_Qv (fun (u9 : va_W) => True) (gQ2 g [(4, 0), (4, 1), (4, 2)] [(4, 0), (4, 1), (4, 2)] none A ws s.heap (0) (0)) A) ([.ref h0, .int x1] : List Value).toArray s (PC ws + (0)) (PS ws + (0)) A) (F0 m 36 ls []) := by
    intro dc_36_1 ds_36_1 ws_4 H locs ls  E_5 Fr_6 hG hc9 hs9 hP hD hS hl
    have aa_7 := a_r0_1
    have aa_8 := a_r1_1
    have aa_9 := a_r2_1
    have o_h0 := E_5.1 _ _ o_h0
    refine lv_aload_n hx hb dX4_makeRoom_36 rfl (lv_at hl 0 rfl) ?_
    obtain ⟨fs9, hk_10, hq_10⟩ := ((gF.a (F' := [(4, 0), (4, 1), (4, 2)]) Fr_6 (fun _ h => h))) _ _ _ hk_1
    obtain ⟨r0_10, n0_10, r1_10, n1_10, r2_10, n2_10, v3_10, v4_10, c5_10, c6_10, c7_10, rfl, a_r0_10, f1_10, a_r1_10, f3_10, a_r2_10, f5_10, o_v3_10, o_v4_10, hz_c6_10, f9_10, f10_10, f11_10, -⟩ := (hG.1 _ _ _ _ hk_10).hX4 rfl
    obtain rfl := fe_q (hq_10 3 (by decide))
    have o_v3_1 := o_v3_10
    obtain rfl := fe_q (hq_10 4 (by decide))
    have o_v4_1 := o_v4_10
    refine va_get (D := gD g) (ci := 4) (v := .ref r0_10) (C := RX4) (T := TX4) (N := 8) hx hb hts inX4 hown hK hP k_1 hk_10 rfl 0 (by decide) (hts _ kw_956) (fun _ h9 => h9) rfl dX4_makeRoom_37 ?_
    refine lv_iconst (v := 0) hx hb dX4_makeRoom_40 (by decide) ?_
    have hFc := gfree hD hS hA
    refine va_callv (va_runS (As := [.ref r0_10, .int 0]) (rest := []) ⟨hx, hb, hml, hown, hts⟩ (m_J7_fill_53178 l g H.size ws_4 r0_10 (n0_10) (0) [(4, 0)] hG a_r0_10 f1_10 (hol_u hG.u hk_10 (j := 0) rfl a_r0_10 (by decide))) (va_cwS 2 hts (gd_S kw_974 kw_1722 kw_1723 kw_1721) rfl rfl rfl (by decide +kernel) ⟨Nat.le_of_ble_eq_true rfl, Nat.le_of_ble_eq_true rfl⟩) ⟨gblind, fun U hU hW9 => gmk hU hW9 hP hK hD hex hE hS hFc⟩ rfl rfl hl.1 rfl (lv_room (Nat.le_of_ble_eq_true rfl)) dX4_makeRoom_41 ⟨(show dc_36_1 + 0 ≤ PC ws + (0) from (by omega)), (show ds_36_1 + 0 ≤ PS ws + (0) from (by omega))⟩) hS (fun q _ h => hFc q h) hFc (fun  ws_11 t9 H1 locs ht9 hvm9 hw9 hB9 hz9 hk9 hS => ?_)
    obtain ⟨E_12, Fr_13, hG, hP1, hD1⟩ := hB9
    have hP : va_P (gD g) cl0 ws_11 H1 := by rw [← ht9]; exact hP1
    have hD : va_D A ws_11 := hD1.weaken (fun _ _ _ h => hFc _ h)
    clear hP1 hD1 hz9 hk9 hvm9 ht9 hw9
    generalize H1 = H at hP hS ⊢
    have aa_16 := a_r0_10
    have aa_17 := a_r1_10
    have aa_18 := a_r2_10
    have o_h0 := E_12.1 _ _ o_h0
    have pp_19 := Fr_13.pp
    refine lv_aload_n hx hb dX4_makeRoom_44 rfl (lv_at hl 0 rfl) ?_
    obtain ⟨fs9, hk_20, hq_20⟩ := ((gF.a (F' := []) Fr_13 (fun _ h => h))) _ _ _ hk_10
    obtain ⟨r0_20, n0_20, r1_20, n1_20, r2_20, n2_20, v3_20, v4_20, c5_20, c6_20, c7_20, rfl, a_r0_20, f1_20, a_r1_20, f3_20, a_r2_20, f5_20, o_v3_20, o_v4_20, hz_c6_20, f9_20, f10_20, f11_20, -⟩ := (hG.1 _ _ _ _ hk_20).hX4 rfl
    obtain rfl := fe_r (hq_20 0 (by decide))
    have hn9 := gI_n hD ((E_12).1 _ _ aa_16) a_r0_20
    subst hn9
    have a_r0_10 := a_r0_20
    obtain rfl := fe_r (hq_20 1 (by decide))
    have hn9 := gI_n hD ((E_12).1 _ _ aa_17) a_r1_20
    subst hn9
    have a_r1_10 := a_r1_20
    obtain rfl := fe_r (hq_20 2 (by decide))
    have hn9 := gI_n hD ((E_12).1 _ _ aa_18) a_r2_20
    subst hn9
    have a_r2_10 := a_r2_20
    obtain rfl := fe_q (hq_20 3 (by decide))
    have o_v3_1 := o_v3_20
    obtain rfl := fe_q (hq_20 4 (by decide))
    have o_v4_1 := o_v4_20
    refine va_get (D := gD g) (ci := 4) (v := .ref r1_10) (C := RX4) (T := TX4) (N := 8) hx hb hts inX4 hown hK hP k_1 hk_20 rfl 1 (by decide) (hts _ kw_957) (fun _ h9 => h9) rfl dX4_makeRoom_45 ?_
    refine lv_iconst (v := 0) hx hb dX4_makeRoom_48 (by decide) ?_
    have hFc := gfree hD hS hA
    refine va_callv (va_runS (As := [.ref r1_10, .int 0]) (rest := []) ⟨hx, hb, hml, hown, hts⟩ (m_J7_fill_53178 l g H.size ws_11 r1_10 (n1_10) (0) [(4, 1)] hG a_r1_10 f3_20 (hol_u hG.u hk_20 (j := 1) rfl a_r1_10 (by decide))) (va_cwS 2 hts (gd_S kw_974 kw_1722 kw_1723 kw_1721) rfl rfl rfl (by decide +kernel) ⟨Nat.le_of_ble_eq_true rfl, Nat.le_of_ble_eq_true rfl⟩) ⟨gblind, fun U hU hW9 => gmk hU hW9 hP hK hD hex hE hS hFc⟩ rfl rfl hl.1 rfl (lv_room (Nat.le_of_ble_eq_true rfl)) dX4_makeRoom_49 ⟨(show dc_36_1 + 0 ≤ PC ws + (0) from (by omega)), (show ds_36_1 + 0 ≤ PS ws + (0) from (by omega))⟩) hS (fun q _ h => hFc q h) hFc (fun  ws_21 t9 H1 locs ht9 hvm9 hw9 hB9 hz9 hk9 hS => ?_)
    obtain ⟨E_22, Fr_23, hG, hP1, hD1⟩ := hB9
    have hP : va_P (gD g) cl0 ws_21 H1 := by rw [← ht9]; exact hP1
    have hD : va_D A ws_21 := hD1.weaken (fun _ _ _ h => hFc _ h)
    clear hP1 hD1 hz9 hk9 hvm9 ht9 hw9
    generalize H1 = H at hP hS ⊢
    have aa_26 := a_r0_10
    have aa_27 := a_r1_10
    have aa_28 := a_r2_10
    have o_h0 := E_22.1 _ _ o_h0
    have pp_29 := Fr_23.pp
    refine lv_iconst (v := 0) hx hb dX4_makeRoom_52 (by decide) ?_
    refine lv_istore_n (lv' := [(2, .int 0), (0, .ref h0)]) hx hb dX4_makeRoom_53 rfl hl (by decide) rfl (fun ls hl => ?_)
    have J_54 : ∀ (n9 : Nat) (v2_30 : Int32) (dc_54_2 : Nat) (ds_54_2 : Nat) (ws_32 : va_W) (H : Heap) (locs : List Loc) (ls : Array Slot), (2147483647 - v2_30.toInt).toNat = n9 → 0 ≤ v2_30.toInt → gE ws_21 ws_32 → gF [] [(4, 2)] none ws_21 ws_32 → Good g ws_32 → dc_54_2 + PC ws_32 ≤ PC ws + (0) → ds_54_2 + PS ws_32 ≤ PS ws + (0) → va_P (gD g) cl0 ws_32 H → va_D A ws_32 → va_S A s.heap H locs → lv_has ls 3 [(0, .ref h0), (2, .int v2_30)] → W p l e (headSpec (wt yX4_makeRoom cX4_makeRoom 3 none) ({ frames := 1, cells := PC ws + (0), slots := PS ws + (0), locals := 23 })).room s m ([.ref h0, .int x1] : List Value).toArray below meth c H locs (dc_54_2) (ds_54_2) (MQ below (va_Qv (fun (u9 : va_W) => True) (gQ2 g [(4, 0), (4, 1), (4, 2)] [(4, 0), (4, 1), (4, 2)] none A ws s.heap (0) (0)) A) ([.ref h0, .int x1] : List Value).toArray s (PC ws + (0)) (PS ws + (0)) A) (F0 m 54 ls []) := by
      intro n9
      induction n9 using Nat.strongRecOn with
      | ind n9 ih_54 =>
        intro v2_30 dc_54_2 ds_54_2 ws_32 H locs ls hm9 iv_31 E_33 Fr_34 hG hc9 hs9 hP hD hS hl
        subst hm9
        have o_h0 := E_33.1 _ _ o_h0
        refine lv_iload_n hx hb dX4_makeRoom_54 rfl (lv_at hl 1 rfl) ?_
        refine lv_aload_n hx hb dX4_makeRoom_55 rfl (lv_at hl 0 rfl) ?_
        obtain ⟨fs9, hk_35, hq_35⟩ := ((gA.tr (gF.a (F' := []) Fr_23 (fun _ h => h)) (gF.a (F' := []) Fr_34 (fun _ h => h)))) _ _ _ hk_20
        obtain ⟨r0_35, n0_35, r1_35, n1_35, r2_35, n2_35, v3_35, v4_35, c5_35, c6_35, c7_35, rfl, a_r0_35, f1_35, a_r1_35, f3_35, a_r2_35, f5_35, o_v3_35, o_v4_35, hz_c6_35, f9_35, f10_35, f11_35, -⟩ := (hG.1 _ _ _ _ hk_35).hX4 rfl
        obtain rfl := fe_r (hq_35 0 (by decide))
        have hn9 := gI_n hD (((E_22.tr E_33)).1 _ _ aa_26) a_r0_35
        subst hn9
        have a_r0_10 := a_r0_35
        obtain rfl := fe_r (hq_35 1 (by decide))
        have hn9 := gI_n hD (((E_22.tr E_33)).1 _ _ aa_27) a_r1_35
        subst hn9
        have a_r1_10 := a_r1_35
        obtain rfl := fe_r (hq_35 2 (by decide))
        have hn9 := gI_n hD (((E_22.tr E_33)).1 _ _ aa_28) a_r2_35
        subst hn9
        have a_r2_10 := a_r2_35
        obtain rfl := fe_q (hq_35 3 (by decide))
        have o_v3_1 := o_v3_35
        obtain rfl := fe_q (hq_35 4 (by decide))
        have o_v4_1 := o_v4_35
        refine va_get (D := gD g) (ci := 4) (v := .ref r2_10) (C := RX4) (T := TX4) (N := 8) hx hb hts inX4 hown hK hP k_1 hk_35 rfl 2 (by decide) (hts _ kw_966) (fun _ h9 => h9) rfl dX4_makeRoom_56 ?_
        obtain ⟨k_36, f_36, hk_36⟩ := gI_of a_r2_10
        obtain ⟨z_37, ez_37⟩ : ∃ z : Int32, Int32.ofNat n2_10 = z := ⟨_, rfl⟩
        refine va_alen (v := z_37) hx hb hK hP k_36 2 hk_36 rfl ez_37 dX4_makeRoom_59 ?_
        refine lv_icmp_ge (tgt := 76) hx hb dX4_makeRoom_60 (by decide) (fun c_38 => ?_) (fun c_38 => ?_)
        · refine W_led (fun hLd => ?_)
          have hcl : dc_54_2 + PC ws_32 ≤ PC ws + (0) := (by omega)
          have hsl : ds_54_2 + PS ws_32 ≤ PS ws + (0) := (by omega)
          refine W.widen (k := PC ws + (0)) (n := PS ws + (0)) (by omega) (by omega) ?_
          exact W.vret hx hb hr (fun t9 ht9 hW9 => ⟨⟨ws_32, rfl, trivial, ⟨(E_5.tr (E_12.tr (E_22.tr E_33))), (gF.tr (gF.mo (F' := [(4, 0), (4, 1), (4, 2)]) (C' := [(4, 0), (4, 1), (4, 2)]) (S' := none) Fr_6 (fun _ h => h) (fun _ h => absurd h List.not_mem_nil) (Or.inr rfl)) (gF.tr (gF.mo (F' := [(4, 0), (4, 1), (4, 2)]) (C' := [(4, 0), (4, 1), (4, 2)]) (S' := none) Fr_13 (fun _ h => absurd h List.not_mem_nil) (by decide) (Or.inr rfl)) (gF.tr (gF.mo (F' := [(4, 0), (4, 1), (4, 2)]) (C' := [(4, 0), (4, 1), (4, 2)]) (S' := none) Fr_23 (fun _ h => absurd h List.not_mem_nil) (by decide) (Or.inr rfl)) (gF.mo (F' := [(4, 0), (4, 1), (4, 2)]) (C' := [(4, 0), (4, 1), (4, 2)]) (S' := none) Fr_34 (fun _ h => absurd h List.not_mem_nil) (by decide) (Or.inr rfl))))), hG, by rw [ht9]; exact hP, hD, _, _, by rw [ht9]; exact hLd, hcl, hsl⟩⟩, hS.F ht9⟩) hS.2.2 dX4_makeRoom_76
        · refine lv_aload_n hx hb dX4_makeRoom_63 rfl (lv_at hl 0 rfl) ?_
          refine va_get (D := gD g) (ci := 4) (v := .ref r2_10) (C := RX4) (T := TX4) (N := 8) hx hb hts inX4 hown hK hP k_1 hk_35 rfl 2 (by decide) (hts _ kw_966) (fun _ h9 => h9) rfl dX4_makeRoom_64 ?_
          refine lv_iload_n hx hb dX4_makeRoom_67 rfl (lv_at hl 1 rfl) ?_
          refine lv_iconst (v := 0) hx hb dX4_makeRoom_68 (by decide) ?_
          have hC9 : hol ws_32 r2_10 [(4, 2)] := (hol_u hG.u hk_35 (j := 2) rfl a_r2_10 (by decide))
          have hS9 : holS ws_32 r2_10 none := holS_n
          refine va_zast hx hb hK hP hD hS k_36 2 hk_36 rfl (i_in2 (by have q_f5_10 := f5_10; have q_f10_10 := f10_10; have q_iv_31 := iv_31; have q_z_37 := i_len ez_37 f5_35; have q_c_38 := i_nle c_38; have q_f1_10 := f1_10; have q_f9_10 := f9_10; have q_f11_10 := f11_10; have q_f3_10 := f3_10; have g_v2_30 := i_rg v2_30; have g_z_37 := i_rg z_37; omega)) dX4_makeRoom_69 (fun H locs hP hD hS => ?_)
          obtain ⟨ws_39, e_ws_39⟩ : ∃ z, z = ws_32.set k_36 (r2_10, .inl (g.cZ, n2_10, .inl (upd f_36 (v2_30 : Int32).toNatClampNeg (vp_nar .boolean 0)))) := ⟨_, rfl⟩
          have hP : va_P (gD g) cl0 ws_39 H := by rw [e_ws_39]; exact hP
          have hD : va_D A ws_39 := by rw [e_ws_39]; exact hD
          have E_40 : gE ws_32 ws_39 := gE_ari e_ws_39 hk_36
          have hG : Good g ws_39 := Good_arZ e_ws_39 hk_36 hG
          have Fr_41 : gF [] [(4, 2)] none ws_32 ws_39 := gF_ar e_ws_39 hk_36 rfl hC9 hS9
          have pp_42 := Fr_41.pp
          have hk_35 := gset_arO e_ws_39 hk_36 hk_35
          have o_h0 := E_40.1 _ _ o_h0
          have a_r0_10 := E_40.1 _ _ a_r0_10
          have a_r1_10 := E_40.1 _ _ a_r1_10
          have a_r2_10 := E_40.1 _ _ a_r2_10
          have o_v3_1 : ∀ b, v3_1 = some b → gC ws_39 b 9 := fun b h => E_40.1 _ _ (o_v3_1 b h)
          have o_v4_1 : ∀ b, v4_1 = some b → gC ws_39 b 7 := fun b h => E_40.1 _ _ (o_v4_1 b h)
          obtain ⟨z_43, ez_43⟩ : ∃ z : Int32, v2_30 + Int32.ofInt 1 = z := ⟨_, rfl⟩
          refine lv_iinc (v := z_43) (lv' := [(2, .int z_43), (0, .ref h0)]) hx hb dX4_makeRoom_70 hl (k := 1) rfl ez_43 (by decide) rfl (fun ls hl => ?_)
          refine lv_goto (tgt := 54) hx hb dX4_makeRoom_73 (by decide) ?_
          exact ih_54 _ (by obtain ⟨u_z_43, q_z_43⟩ := i_iz ez_43 (by decide) (by decide); have q_iv_31 := iv_31; have q_c_38 := i_nle c_38; have q_z_37 := i_len ez_37 f5_35; have q_f5_10 := f5_10; have q_f10_10 := f10_10; have g_v2_30 := i_rg v2_30; have g_z_37 := i_rg z_37; have g_z_43 := i_rg z_43; omega) (z_43) (dc_54_2) (ds_54_2) ws_39 H locs ls rfl (by obtain ⟨u_z_43, q_z_43⟩ := i_iz ez_43 (by decide) (by decide); have q_iv_31 := iv_31; have q_c_38 := i_nle c_38; have q_z_37 := i_len ez_37 f5_35; have q_f5_10 := f5_10; have q_f10_10 := f10_10; have g_v2_30 := i_rg v2_30; have g_z_37 := i_rg z_37; have g_z_43 := i_rg z_43; omega) ((E_33.tr E_40)) ((gF.tr Fr_34 Fr_41)) hG (by omega) (by omega) hP hD hS (lv_sub hl [1, 0] rfl)
    exact J_54 _ (0) (dc_36_1) (ds_36_1) ws_21 H locs ls rfl (by have e0 : (0 : Int32).toInt = 0 := (by decide); omega) (gE.rf) (gF.rf) hG (by omega) (by omega) hP hD hS (lv_sub hl [1, 0] rfl)
  refine lv_icmp_ge (tgt := 36) hx hb dX4_makeRoom_6 (by decide) (fun c_44 => ?_) (fun c_44 => ?_)
  · exact J_36 (0) (0) ws _ _ ls (gE.rf) (gF.rf) hG (by have e0 : (0 : Int32).toInt = 0 := (by decide); omega) (by have e0 : (0 : Int32).toInt = 0 := (by decide); omega) hP hD hS (lv_sub hl [0] rfl)
  · refine lv_aload_n hx hb dX4_makeRoom_9 rfl (lv_at hl 0 rfl) ?_
    refine lv_iconst (v := 2) hx hb dX4_makeRoom_10 (by decide) ?_
    refine lv_iload_n hx hb dX4_makeRoom_11 rfl (lv_at hl 1 rfl) ?_
    refine lv_imul hx hb dX4_makeRoom_12 ?_
    refine lv_topi (fun z_45 ez_45 => ?_)
    obtain ⟨n_47, en_47⟩ : ∃ y : Nat, (z_45 : Int32).toNatClampNeg = y := ⟨_, rfl⟩
    have bn_47 : n_47 ≤ 2592 := i_cl en_47 (by have q_z_45 := i_mulL (c := 2) (K := 1073741823) ez_45 (by decide) (by decide) (by decide) (by decide); have q_p0 := p0; have q_c_44 := i_nle c_44; have q_z_3 := i_len ez_3 f1_1; have q_f1_1 := f1_1; have q_f9_1 := f9_1; have q_f10_1 := f10_1; have q_f11_1 := f11_1; have g_x1 := i_rg x1; have g_z_3 := i_rg z_3; have g_z_45 := i_rg z_45; omega)
    have zn_47 : 0 ≤ (z_45 : Int32).toInt := (by have q_z_45 := i_mulL (c := 2) (K := 1073741823) ez_45 (by decide) (by decide) (by decide) (by decide); have q_p0 := p0; have q_c_44 := i_nle c_44; have q_z_3 := i_len ez_3 f1_1; have q_f1_1 := f1_1; have q_f9_1 := f9_1; have q_f10_1 := f10_1; have q_f11_1 := f11_1; have g_x1 := i_rg x1; have g_z_3 := i_rg z_3; have g_z_45 := i_rg z_45; omega)
    have q_n_47 := i_nn en_47 zn_47
    have pg_48 := ge_4_0 hD hk_1 rfl a_r0_1
    refine va_newa (atype := .int) (ty := .int) (a0 := (n_47, .inl (fun _ => 0))) (N' := n_47) hx hb (hts (.arrayClass .int) kw_51) rfl hK hP hD hS hA (fun _ => rfl) (i_nl0 zn_47) en_47 (i_by bn_47 (by decide)) (show 0 + 1 ≤ PC ws + (0) from (by have e0 : (0 : Int32).toInt = 0 := (by decide); have q_z_45 := i_mulL (c := 2) (K := 1073741823) ez_45 (by decide) (by decide) (by decide) (by decide); have q_p0 := p0; have q_c_44 := i_nle c_44; have q_z_3 := i_len ez_3 f1_1; have q_f1_1 := f1_1; have q_f9_1 := f9_1; have q_f10_1 := f10_1; have q_f11_1 := f11_1; have g_x1 := i_rg x1; have g_z_3 := i_rg z_3; have g_z_45 := i_rg z_45; omega)) (show 0 + n_47 ≤ PS ws + (0) from (by have e0 : (0 : Int32).toInt = 0 := (by decide); have q_z_45 := i_mulL (c := 2) (K := 1073741823) ez_45 (by decide) (by decide) (by decide) (by decide); have q_p0 := p0; have q_c_44 := i_nle c_44; have q_z_3 := i_len ez_3 f1_1; have q_f1_1 := f1_1; have q_f9_1 := f9_1; have q_f10_1 := f10_1; have q_f11_1 := f11_1; have g_x1 := i_rg x1; have g_z_3 := i_rg z_3; have g_z_45 := i_rg z_45; omega)) dX4_makeRoom_13 (fun q_46 cA9 H hK9 hP hD hS => ?_)
    obtain rfl := cls_new hK hK9 (k := 1) rfl (fun _ h => by cases h)
    clear hK9
    have hD9 := hD
    obtain ⟨ws_49, e_ws_49⟩ : ∃ z, z = ws ++ [(q_46, .inl (g.cI, n_47, .inl (fun _ => 0)))] := ⟨_, rfl⟩
    have hP : va_P (gD g) cl0 ws_49 H := by rw [e_ws_49]; exact hP
    have hD : va_D A ws_49 := by rw [e_ws_49]; exact hD
    have E_50 : gE ws ws_49 := by rw [e_ws_49]; exact gE_push
    have Fr_51 : gF [] [] none ws ws_49 := by rw [e_ws_49]; exact gF_push
    have fr_q_46 : frs ws_49 q_46 := by rw [e_ws_49]; exact frs_new hD9 hG.u
    have hG : Good g ws_49 := by rw [e_ws_49]; exact Good_pushI hD9 hG
    have a_q_46 : gI ws_49 q_46 g.cI n_47 := by rw [e_ws_49]; exact gS_new
    have s_q_46 : n_47 < 2147483648 := Nat.lt_of_le_of_lt bn_47 (by decide)
    have pp_52 := Fr_51.pp
    have hk_1 := get_oldE e_ws_49 hk_1
    have hk_2 := get_oldE e_ws_49 hk_2
    have o_h0 := E_50.1 _ _ o_h0
    have a_r0_1 := E_50.1 _ _ a_r0_1
    have a_r1_1 := E_50.1 _ _ a_r1_1
    have a_r2_1 := E_50.1 _ _ a_r2_1
    have o_v3_1 : ∀ b, v3_1 = some b → gC ws_49 b 9 := fun b h => E_50.1 _ _ (o_v3_1 b h)
    have o_v4_1 : ∀ b, v4_1 = some b → gC ws_49 b 7 := fun b h => E_50.1 _ _ (o_v4_1 b h)
    have hV9 : okv ws_49 4 0 (.ref q_46) := (okv_a a_q_46 fr_q_46)
    have hD8 := hD
    refine va_put (D := gD g) (ci := 4) (v := .ref q_46) (ty := (.array .int)) (C := RX4) (T := TX4) (N := 8) hx hb hts inX4 tyX4 tyX4_ok nmX4 hown hK hP hD hS k_1 hk_1 rfl 0 (by decide) (hts _ kw_956) (fun _ h9 => h9) rfl (by decide +kernel) rfl rfl (Nat.le_of_ble_eq_true rfl) dX4_makeRoom_15 (fun H locs hP hD hS => ?_)
    obtain ⟨ws_54, e_ws_54⟩ : ∃ z, z = ws_49.set k_1 (h0, .inr (4, [.ref q_46, .ref r1_1, .ref r2_1, va_rf v3_1, va_rf v4_1, .int c5_1, .int c6_1, .int c7_1])) := ⟨_, rfl⟩
    have hP : va_P (gD g) cl0 ws_54 H := by rw [e_ws_54]; exact hP
    have hD : va_D A ws_54 := by rw [e_ws_54]; exact hD
    have E_55 : gE ws_49 ws_54 := gE_set e_ws_54 hk_1 (cw_o (fi := 0) (v := .ref q_46) rfl (by decide))
    have hX : GoodX g k_1 ws_54 := GoodX.set (fi := 0) (v := .ref q_46) e_ws_54 hk_1 E_55 rfl hV9 (hG.x _)
    have Fr_56 : gF [(4, 0)] [] (some h0) ws_49 ws_54 := gF_put0 (fi := 0) (v := .ref q_46) e_ws_54 hk_1 rfl (gr_4_0 hD8 hk_1 rfl a_r0_1 e_ws_54 rfl a_q_46 (by have q_f1_1 := f1_1; have q_f9_1 := f9_1; have q_f10_1 := f10_1; have q_f11_1 := f11_1; have q_z_3 := i_len ez_3 f1_1; have q_n_47 := i_nn en_47 zn_47; have q2_n_47 := bn_47; have q_f3_1 := f3_1; have q_f5_1 := f5_1; have q_c_44 := i_nle c_44; have q_z_45 := i_mulL (c := 2) (K := 1073741823) ez_45 (by decide) (by decide) (by decide) (by decide); have q_p0 := p0; have g_x1 := i_rg x1; have g_z_3 := i_rg z_3; have g_z_45 := i_rg z_45; omega)).1
    have pg_53 := (gr_4_0 (ws := ws_49) hD8 hk_1 rfl a_r0_1 e_ws_54 rfl a_q_46 (by have q_f1_1 := f1_1; have q_f9_1 := f9_1; have q_f10_1 := f10_1; have q_f11_1 := f11_1; have q_z_3 := i_len ez_3 f1_1; have q_n_47 := i_nn en_47 zn_47; have q2_n_47 := bn_47; have q_f3_1 := f3_1; have q_f5_1 := f5_1; have q_c_44 := i_nle c_44; have q_z_45 := i_mulL (c := 2) (K := 1073741823) ez_45 (by decide) (by decide) (by decide) (by decide); have q_p0 := p0; have g_x1 := i_rg x1; have g_z_3 := i_rg z_3; have g_z_45 := i_rg z_45; omega)).2
    have hkN := gset_self e_ws_54 hk_1
    have hk_2 := gset_obI e_ws_54 hk_1 hk_2
    have hk_1 := hkN
    have o_h0 := E_55.1 _ _ o_h0
    have a_r1_1 := E_55.1 _ _ a_r1_1
    have a_r2_1 := E_55.1 _ _ a_r2_1
    have o_v3_1 : ∀ b, v3_1 = some b → gC ws_54 b 9 := fun b h => E_55.1 _ _ (o_v3_1 b h)
    have o_v4_1 : ∀ b, v4_1 = some b → gC ws_54 b 7 := fun b h => E_55.1 _ _ (o_v4_1 b h)
    have a_q_46 := E_55.1 _ _ a_q_46
    refine lv_aload_n hx hb dX4_makeRoom_18 rfl (lv_at hl 0 rfl) ?_
    refine lv_iconst (v := 2) hx hb dX4_makeRoom_19 (by decide) ?_
    refine lv_iload_n hx hb dX4_makeRoom_20 rfl (lv_at hl 1 rfl) ?_
    refine lv_imul hx hb dX4_makeRoom_21 ?_
    refine lv_topi (fun z_57 ez_57 => ?_)
    obtain ⟨n_59, en_59⟩ : ∃ y : Nat, (z_57 : Int32).toNatClampNeg = y := ⟨_, rfl⟩
    have bn_59 : n_59 ≤ 2592 := i_cl en_59 (by have q_z_57 := i_mulL (c := 2) (K := 1073741823) ez_57 (by decide) (by decide) (by decide) (by decide); have q_p0 := p0; have q_c_44 := i_nle c_44; have q_z_45 := i_mulL (c := 2) (K := 1073741823) ez_45 (by decide) (by decide) (by decide) (by decide); have q_z_3 := i_len ez_3 f1_1; have q_n_47 := i_nn en_47 zn_47; have q_f1_1 := f1_1; have q_f9_1 := f9_1; have q_f10_1 := f10_1; have q_f11_1 := f11_1; have q2_n_47 := bn_47; have g_x1 := i_rg x1; have g_z_3 := i_rg z_3; have g_z_45 := i_rg z_45; have g_z_57 := i_rg z_57; omega)
    have zn_59 : 0 ≤ (z_57 : Int32).toInt := (by have q_z_57 := i_mulL (c := 2) (K := 1073741823) ez_57 (by decide) (by decide) (by decide) (by decide); have q_p0 := p0; have q_c_44 := i_nle c_44; have q_z_45 := i_mulL (c := 2) (K := 1073741823) ez_45 (by decide) (by decide) (by decide) (by decide); have q_z_3 := i_len ez_3 f1_1; have q_n_47 := i_nn en_47 zn_47; have q_f1_1 := f1_1; have q_f9_1 := f9_1; have q_f10_1 := f10_1; have q_f11_1 := f11_1; have q2_n_47 := bn_47; have g_x1 := i_rg x1; have g_z_3 := i_rg z_3; have g_z_45 := i_rg z_45; have g_z_57 := i_rg z_57; omega)
    have q_n_59 := i_nn en_59 zn_59
    have pg_60 := ge_4_0 hD hk_1 rfl a_q_46
    refine va_newa (atype := .int) (ty := .int) (a0 := (n_59, .inl (fun _ => 0))) (N' := n_59) hx hb (hts (.arrayClass .int) kw_51) rfl hK hP hD hS hA (fun _ => rfl) (i_nl0 zn_59) en_59 (i_by bn_59 (by decide)) (show 0 + 1 + 1 ≤ PC ws + (0) from (by have q_f1_1 := f1_1; have q_f9_1 := f9_1; have q_f10_1 := f10_1; have q_f11_1 := f11_1; have q_z_3 := i_len ez_3 f1_1; have q_z_45 := i_mulL (c := 2) (K := 1073741823) ez_45 (by decide) (by decide) (by decide) (by decide); have q_n_47 := i_nn en_47 zn_47; have q2_n_47 := bn_47; have q_z_57 := i_mulL (c := 2) (K := 1073741823) ez_57 (by decide) (by decide) (by decide) (by decide); have q_p0 := p0; have q_f3_1 := f3_1; have q_f5_1 := f5_1; have q_c_44 := i_nle c_44; have g_x1 := i_rg x1; have g_z_3 := i_rg z_3; have g_z_45 := i_rg z_45; have g_z_57 := i_rg z_57; omega)) (show 0 + n_47 + n_59 ≤ PS ws + (0) from (by have q_f1_1 := f1_1; have q_f9_1 := f9_1; have q_f10_1 := f10_1; have q_f11_1 := f11_1; have q_z_3 := i_len ez_3 f1_1; have q_z_45 := i_mulL (c := 2) (K := 1073741823) ez_45 (by decide) (by decide) (by decide) (by decide); have q_n_47 := i_nn en_47 zn_47; have q2_n_47 := bn_47; have q_z_57 := i_mulL (c := 2) (K := 1073741823) ez_57 (by decide) (by decide) (by decide) (by decide); have q_p0 := p0; have q_f3_1 := f3_1; have q_f5_1 := f5_1; have q_c_44 := i_nle c_44; have g_x1 := i_rg x1; have g_z_3 := i_rg z_3; have g_z_45 := i_rg z_45; have g_z_57 := i_rg z_57; omega)) dX4_makeRoom_22 (fun q_58 cA9 H hK9 hP hD hS => ?_)
    obtain rfl := cls_new hK hK9 (k := 1) rfl (fun _ h => by cases h)
    clear hK9
    have hD9 := hD
    obtain ⟨ws_61, e_ws_61⟩ : ∃ z, z = ws_54 ++ [(q_58, .inl (g.cI, n_59, .inl (fun _ => 0)))] := ⟨_, rfl⟩
    have hP : va_P (gD g) cl0 ws_61 H := by rw [e_ws_61]; exact hP
    have hD : va_D A ws_61 := by rw [e_ws_61]; exact hD
    have E_62 : gE ws_54 ws_61 := by rw [e_ws_61]; exact gE_push
    have Fr_63 : gF [] [] none ws_54 ws_61 := by rw [e_ws_61]; exact gF_push
    have fr_q_58 : frs ws_61 q_58 := by rw [e_ws_61]; exact frs_new hD9 hX.u
    have hX : GoodX g k_1 ws_61 := by rw [e_ws_61]; exact hX.pushI hD9 (ows_lt hk_1)
    have a_q_58 : gI ws_61 q_58 g.cI n_59 := by rw [e_ws_61]; exact gS_new
    have s_q_58 : n_59 < 2147483648 := Nat.lt_of_le_of_lt bn_59 (by decide)
    have pp_64 := Fr_63.pp
    have hk_1 := get_oldE e_ws_61 hk_1
    have hk_2 := get_oldE e_ws_61 hk_2
    have o_h0 := E_62.1 _ _ o_h0
    have a_r1_1 := E_62.1 _ _ a_r1_1
    have a_r2_1 := E_62.1 _ _ a_r2_1
    have o_v3_1 : ∀ b, v3_1 = some b → gC ws_61 b 9 := fun b h => E_62.1 _ _ (o_v3_1 b h)
    have o_v4_1 : ∀ b, v4_1 = some b → gC ws_61 b 7 := fun b h => E_62.1 _ _ (o_v4_1 b h)
    have a_q_46 := E_62.1 _ _ a_q_46
    have hV9 : okv ws_61 4 1 (.ref q_58) := (okv_a a_q_58 fr_q_58)
    refine va_put (D := gD g) (ci := 4) (v := .ref q_58) (ty := (.array .int)) (C := RX4) (T := TX4) (N := 8) hx hb hts inX4 tyX4 tyX4_ok nmX4 hown hK hP hD hS k_1 hk_1 rfl 1 (by decide) (hts _ kw_957) (fun _ h9 => h9) rfl (by decide +kernel) rfl rfl (Nat.le_of_ble_eq_true rfl) dX4_makeRoom_24 (fun H locs hP hD hS => ?_)
    obtain ⟨ws_65, e_ws_65⟩ : ∃ z, z = ws_61.set k_1 (h0, .inr (4, [.ref q_46, .ref q_58, .ref r2_1, va_rf v3_1, va_rf v4_1, .int c5_1, .int c6_1, .int c7_1])) := ⟨_, rfl⟩
    have hP : va_P (gD g) cl0 ws_65 H := by rw [e_ws_65]; exact hP
    have hD : va_D A ws_65 := by rw [e_ws_65]; exact hD
    have E_66 : gE ws_61 ws_65 := gE_set e_ws_65 hk_1 (cw_o (fi := 1) (v := .ref q_58) rfl (by decide))
    have hX : GoodX g k_1 ws_65 := GoodX.set (fi := 1) (v := .ref q_58) e_ws_65 hk_1 E_66 rfl hV9 hX
    have Fr_67 : gF [(4, 1)] [] (some h0) ws_61 ws_65 := gF_put (fi := 1) (v := .ref q_58) e_ws_65 hk_1 rfl (by decide)
    have pp_68 := Fr_67.pp
    have hkN := gset_self e_ws_65 hk_1
    have hk_2 := gset_obI e_ws_65 hk_1 hk_2
    have hk_1 := hkN
    have o_h0 := E_66.1 _ _ o_h0
    have a_r2_1 := E_66.1 _ _ a_r2_1
    have o_v3_1 : ∀ b, v3_1 = some b → gC ws_65 b 9 := fun b h => E_66.1 _ _ (o_v3_1 b h)
    have o_v4_1 : ∀ b, v4_1 = some b → gC ws_65 b 7 := fun b h => E_66.1 _ _ (o_v4_1 b h)
    have a_q_46 := E_66.1 _ _ a_q_46
    have a_q_58 := E_66.1 _ _ a_q_58
    refine lv_aload_n hx hb dX4_makeRoom_27 rfl (lv_at hl 0 rfl) ?_
    refine lv_iconst (v := 2) hx hb dX4_makeRoom_28 (by decide) ?_
    refine lv_iload_n hx hb dX4_makeRoom_29 rfl (lv_at hl 1 rfl) ?_
    refine lv_imul hx hb dX4_makeRoom_30 ?_
    refine lv_topi (fun z_69 ez_69 => ?_)
    obtain ⟨n_71, en_71⟩ : ∃ y : Nat, (z_69 : Int32).toNatClampNeg = y := ⟨_, rfl⟩
    have bn_71 : n_71 ≤ 2592 := i_cl en_71 (by have q_z_69 := i_mulL (c := 2) (K := 1073741823) ez_69 (by decide) (by decide) (by decide) (by decide); have q_p0 := p0; have q_c_44 := i_nle c_44; have q_z_45 := i_mulL (c := 2) (K := 1073741823) ez_45 (by decide) (by decide) (by decide) (by decide); have q_z_57 := i_mulL (c := 2) (K := 1073741823) ez_57 (by decide) (by decide) (by decide) (by decide); have q_z_3 := i_len ez_3 f1_1; have q_n_47 := i_nn en_47 zn_47; have q_n_59 := i_nn en_59 zn_59; have q_f1_1 := f1_1; have q_f9_1 := f9_1; have q_f10_1 := f10_1; have q_f11_1 := f11_1; have q2_n_47 := bn_47; have q2_n_59 := bn_59; have g_x1 := i_rg x1; have g_z_3 := i_rg z_3; have g_z_45 := i_rg z_45; have g_z_57 := i_rg z_57; have g_z_69 := i_rg z_69; omega)
    have zn_71 : 0 ≤ (z_69 : Int32).toInt := (by have q_z_69 := i_mulL (c := 2) (K := 1073741823) ez_69 (by decide) (by decide) (by decide) (by decide); have q_p0 := p0; have q_c_44 := i_nle c_44; have q_z_45 := i_mulL (c := 2) (K := 1073741823) ez_45 (by decide) (by decide) (by decide) (by decide); have q_z_57 := i_mulL (c := 2) (K := 1073741823) ez_57 (by decide) (by decide) (by decide) (by decide); have q_z_3 := i_len ez_3 f1_1; have q_n_47 := i_nn en_47 zn_47; have q_n_59 := i_nn en_59 zn_59; have q_f1_1 := f1_1; have q_f9_1 := f9_1; have q_f10_1 := f10_1; have q_f11_1 := f11_1; have q2_n_47 := bn_47; have q2_n_59 := bn_59; have g_x1 := i_rg x1; have g_z_3 := i_rg z_3; have g_z_45 := i_rg z_45; have g_z_57 := i_rg z_57; have g_z_69 := i_rg z_69; omega)
    have q_n_71 := i_nn en_71 zn_71
    have pg_72 := ge_4_0 hD hk_1 rfl a_q_46
    refine va_newa (atype := .boolean) (ty := .boolean) (a0 := (n_71, .inl (fun _ => 0))) (N' := n_71) hx hb (hts (.arrayClass .boolean) kw_553) rfl hK hP hD hS hA (fun _ => rfl) (i_nl0 zn_71) en_71 (i_by bn_71 (by decide)) (show 0 + 1 + 1 + 1 ≤ PC ws + (0) from (by have q_f1_1 := f1_1; have q_f9_1 := f9_1; have q_f10_1 := f10_1; have q_f11_1 := f11_1; have q_z_3 := i_len ez_3 f1_1; have q_z_45 := i_mulL (c := 2) (K := 1073741823) ez_45 (by decide) (by decide) (by decide) (by decide); have q_n_47 := i_nn en_47 zn_47; have q2_n_47 := bn_47; have q_z_57 := i_mulL (c := 2) (K := 1073741823) ez_57 (by decide) (by decide) (by decide) (by decide); have q_n_59 := i_nn en_59 zn_59; have q2_n_59 := bn_59; have q_z_69 := i_mulL (c := 2) (K := 1073741823) ez_69 (by decide) (by decide) (by decide) (by decide); have q_p0 := p0; have q_f3_1 := f3_1; have q_f5_1 := f5_1; have q_c_44 := i_nle c_44; have g_x1 := i_rg x1; have g_z_3 := i_rg z_3; have g_z_45 := i_rg z_45; have g_z_57 := i_rg z_57; have g_z_69 := i_rg z_69; omega)) (show 0 + n_47 + n_59 + n_71 ≤ PS ws + (0) from (by have q_f1_1 := f1_1; have q_f9_1 := f9_1; have q_f10_1 := f10_1; have q_f11_1 := f11_1; have q_z_3 := i_len ez_3 f1_1; have q_z_45 := i_mulL (c := 2) (K := 1073741823) ez_45 (by decide) (by decide) (by decide) (by decide); have q_n_47 := i_nn en_47 zn_47; have q2_n_47 := bn_47; have q_z_57 := i_mulL (c := 2) (K := 1073741823) ez_57 (by decide) (by decide) (by decide) (by decide); have q_n_59 := i_nn en_59 zn_59; have q2_n_59 := bn_59; have q_z_69 := i_mulL (c := 2) (K := 1073741823) ez_69 (by decide) (by decide) (by decide) (by decide); have q_p0 := p0; have q_f3_1 := f3_1; have q_f5_1 := f5_1; have q_c_44 := i_nle c_44; have g_x1 := i_rg x1; have g_z_3 := i_rg z_3; have g_z_45 := i_rg z_45; have g_z_57 := i_rg z_57; have g_z_69 := i_rg z_69; omega)) dX4_makeRoom_31 (fun q_70 cA9 H hK9 hP hD hS => ?_)
    obtain rfl := cls_new hK hK9 (k := 2) rfl (fun _ h => by cases h)
    clear hK9
    have hD9 := hD
    obtain ⟨ws_73, e_ws_73⟩ : ∃ z, z = ws_65 ++ [(q_70, .inl (g.cZ, n_71, .inl (fun _ => 0)))] := ⟨_, rfl⟩
    have hP : va_P (gD g) cl0 ws_73 H := by rw [e_ws_73]; exact hP
    have hD : va_D A ws_73 := by rw [e_ws_73]; exact hD
    have E_74 : gE ws_65 ws_73 := by rw [e_ws_73]; exact gE_push
    have Fr_75 : gF [] [] none ws_65 ws_73 := by rw [e_ws_73]; exact gF_push
    have fr_q_70 : frs ws_73 q_70 := by rw [e_ws_73]; exact frs_new hD9 hX.u
    have hX : GoodX g k_1 ws_73 := by rw [e_ws_73]; exact hX.pushI hD9 (ows_lt hk_1)
    have a_q_70 : gI ws_73 q_70 g.cZ n_71 := by rw [e_ws_73]; exact gS_new
    have s_q_70 : n_71 < 2147483648 := Nat.lt_of_le_of_lt bn_71 (by decide)
    have pp_76 := Fr_75.pp
    have hk_1 := get_oldE e_ws_73 hk_1
    have hk_2 := get_oldE e_ws_73 hk_2
    have o_h0 := E_74.1 _ _ o_h0
    have a_r2_1 := E_74.1 _ _ a_r2_1
    have o_v3_1 : ∀ b, v3_1 = some b → gC ws_73 b 9 := fun b h => E_74.1 _ _ (o_v3_1 b h)
    have o_v4_1 : ∀ b, v4_1 = some b → gC ws_73 b 7 := fun b h => E_74.1 _ _ (o_v4_1 b h)
    have a_q_46 := E_74.1 _ _ a_q_46
    have a_q_58 := E_74.1 _ _ a_q_58
    have hV9 : okv ws_73 4 2 (.ref q_70) := (okv_a a_q_70 fr_q_70)
    refine va_put (D := gD g) (ci := 4) (v := .ref q_70) (ty := (.array .boolean)) (C := RX4) (T := TX4) (N := 8) hx hb hts inX4 tyX4 tyX4_ok nmX4 hown hK hP hD hS k_1 hk_1 rfl 2 (by decide) (hts _ kw_966) (fun _ h9 => h9) rfl (by decide +kernel) rfl rfl (Nat.le_of_ble_eq_true rfl) dX4_makeRoom_33 (fun H locs hP hD hS => ?_)
    have f_77 : n_59 = n_47 := (by have q_n_47 := i_nn en_47 zn_47; have q2_n_47 := bn_47; have q_n_59 := i_nn en_59 zn_59; have q2_n_59 := bn_59; have q_z_45 := i_mulL (c := 2) (K := 1073741823) ez_45 (by decide) (by decide) (by decide) (by decide); have q_z_57 := i_mulL (c := 2) (K := 1073741823) ez_57 (by decide) (by decide) (by decide) (by decide); have q_p0 := p0; have q_c_44 := i_nle c_44; have q_z_69 := i_mulL (c := 2) (K := 1073741823) ez_69 (by decide) (by decide) (by decide) (by decide); have q_z_3 := i_len ez_3 f1_1; have q_n_71 := i_nn en_71 zn_71; have g_x1 := i_rg x1; have g_z_3 := i_rg z_3; have g_z_45 := i_rg z_45; have g_z_57 := i_rg z_57; have g_z_69 := i_rg z_69; omega)
    have f_78 : n_71 = n_47 := (by have q_n_47 := i_nn en_47 zn_47; have q2_n_47 := bn_47; have q_n_71 := i_nn en_71 zn_71; have q2_n_71 := bn_71; have q_f_77 := f_77; have q_z_45 := i_mulL (c := 2) (K := 1073741823) ez_45 (by decide) (by decide) (by decide) (by decide); have q_n_59 := i_nn en_59 zn_59; have q2_n_59 := bn_59; have q_z_69 := i_mulL (c := 2) (K := 1073741823) ez_69 (by decide) (by decide) (by decide) (by decide); have q_p0 := p0; have q_c_44 := i_nle c_44; have q_z_57 := i_mulL (c := 2) (K := 1073741823) ez_57 (by decide) (by decide) (by decide) (by decide); have q_z_3 := i_len ez_3 f1_1; have g_x1 := i_rg x1; have g_z_3 := i_rg z_3; have g_z_45 := i_rg z_45; have g_z_57 := i_rg z_57; have g_z_69 := i_rg z_69; omega)
    have f_79 : n_47 ≤ 4000 := (by have q_n_47 := i_nn en_47 zn_47; have q2_n_47 := bn_47; have q_f_77 := f_77; have q_f_78 := f_78; have q_z_45 := i_mulL (c := 2) (K := 1073741823) ez_45 (by decide) (by decide) (by decide) (by decide); have q_n_59 := i_nn en_59 zn_59; have q2_n_59 := bn_59; have q_n_71 := i_nn en_71 zn_71; have q2_n_71 := bn_71; have q_p0 := p0; have q_c_44 := i_nle c_44; have q_z_57 := i_mulL (c := 2) (K := 1073741823) ez_57 (by decide) (by decide) (by decide) (by decide); have q_z_69 := i_mulL (c := 2) (K := 1073741823) ez_69 (by decide) (by decide) (by decide) (by decide); have q_z_3 := i_len ez_3 f1_1; have g_x1 := i_rg x1; have g_z_3 := i_rg z_3; have g_z_45 := i_rg z_45; have g_z_57 := i_rg z_57; have g_z_69 := i_rg z_69; omega)
    have hi_80 : invX4 g ws_73 h0 [.ref q_46, .ref q_58, .ref q_70, va_rf v3_1, va_rf v4_1, .int c5_1, .int c6_1, .int c7_1] := ⟨q_46, (n_47), q_58, (n_59), q_70, (n_71), v3_1, v4_1, (c5_1), (c6_1), (c7_1), rfl, a_q_46, s_q_46, a_q_58, s_q_58, a_q_70, s_q_70, o_v3_1, o_v4_1, hz_c6_1, f_77, f_78, f_79, trivial⟩
    obtain ⟨ws_81, e_ws_81⟩ : ∃ z, z = ws_73.set k_1 (h0, .inr (4, [.ref q_46, .ref q_58, .ref q_70, va_rf v3_1, va_rf v4_1, .int c5_1, .int c6_1, .int c7_1])) := ⟨_, rfl⟩
    have hP : va_P (gD g) cl0 ws_81 H := by rw [e_ws_81]; exact hP
    have hD : va_D A ws_81 := by rw [e_ws_81]; exact hD
    have E_82 : gE ws_73 ws_81 := gE_set e_ws_81 hk_1 (cw_o (fi := 2) (v := .ref q_70) rfl (by decide))
    have hG : Good g ws_81 := GoodX.goodS (fi := 2) (v := .ref q_70) e_ws_81 hk_1 E_82 rfl hV9 hX (ivX4 hi_80)
    have Fr_83 : gF [(4, 2)] [] (some h0) ws_73 ws_81 := gF_put (fi := 2) (v := .ref q_70) e_ws_81 hk_1 rfl (by decide)
    have pp_84 := Fr_83.pp
    have hkN := gset_self e_ws_81 hk_1
    have hk_2 := gset_obI e_ws_81 hk_1 hk_2
    have hk_1 := hkN
    have o_h0 := E_82.1 _ _ o_h0
    have o_v3_1 : ∀ b, v3_1 = some b → gC ws_81 b 9 := fun b h => E_82.1 _ _ (o_v3_1 b h)
    have o_v4_1 : ∀ b, v4_1 = some b → gC ws_81 b 7 := fun b h => E_82.1 _ _ (o_v4_1 b h)
    have a_q_46 := E_82.1 _ _ a_q_46
    have a_q_58 := E_82.1 _ _ a_q_58
    have a_q_70 := E_82.1 _ _ a_q_70
    exact J_36 (0 + 1 + 1 + 1) (0 + n_47 + n_59 + n_71) ws_81 H locs ls ((E_50.tr (E_55.tr (E_62.tr (E_66.tr (E_74.tr E_82)))))) ((gF.tr (gF.mo (F' := [(4, 0), (4, 1), (4, 2)]) (C' := []) (S' := none) Fr_51 (fun _ h => absurd h List.not_mem_nil) (fun _ h => h) (Or.inr rfl)) (gF.tr (gF.mo (F' := [(4, 0), (4, 1), (4, 2)]) (C' := []) (S' := none) Fr_56 (by decide) (fun _ h => h) (Or.inl rfl)) (gF.tr (gF.mo (F' := [(4, 0), (4, 1), (4, 2)]) (C' := []) (S' := none) Fr_63 (fun _ h => absurd h List.not_mem_nil) (fun _ h => h) (Or.inr rfl)) (gF.tr (gF.mo (F' := [(4, 0), (4, 1), (4, 2)]) (C' := []) (S' := none) Fr_67 (by decide) (fun _ h => h) (Or.inl rfl)) (gF.tr (gF.mo (F' := [(4, 0), (4, 1), (4, 2)]) (C' := []) (S' := none) Fr_75 (fun _ h => absurd h List.not_mem_nil) (fun _ h => h) (Or.inr rfl)) (gF.mo (F' := [(4, 0), (4, 1), (4, 2)]) (C' := []) (S' := none) Fr_83 (by decide) (fun _ h => h) (Or.inl rfl)))))))) hG (by have q_f1_1 := f1_1; have q_f9_1 := f9_1; have q_f10_1 := f10_1; have q_f11_1 := f11_1; have q_z_3 := i_len ez_3 f1_1; have q_z_45 := i_mulL (c := 2) (K := 1073741823) ez_45 (by decide) (by decide) (by decide) (by decide); have q_n_47 := i_nn en_47 zn_47; have q2_n_47 := bn_47; have q_z_57 := i_mulL (c := 2) (K := 1073741823) ez_57 (by decide) (by decide) (by decide) (by decide); have q_n_59 := i_nn en_59 zn_59; have q2_n_59 := bn_59; have q_z_69 := i_mulL (c := 2) (K := 1073741823) ez_69 (by decide) (by decide) (by decide) (by decide); have q_n_71 := i_nn en_71 zn_71; have q2_n_71 := bn_71; have q_f_77 := f_77; have q_f_78 := f_78; have q_f_79 := f_79; have q_p0 := p0; have q_f3_1 := f3_1; have q_f5_1 := f5_1; have q_c_44 := i_nle c_44; have g_x1 := i_rg x1; have g_z_3 := i_rg z_3; have g_z_45 := i_rg z_45; have g_z_57 := i_rg z_57; have g_z_69 := i_rg z_69; omega) (by have q_f1_1 := f1_1; have q_f9_1 := f9_1; have q_f10_1 := f10_1; have q_f11_1 := f11_1; have q_z_3 := i_len ez_3 f1_1; have q_z_45 := i_mulL (c := 2) (K := 1073741823) ez_45 (by decide) (by decide) (by decide) (by decide); have q_n_47 := i_nn en_47 zn_47; have q2_n_47 := bn_47; have q_z_57 := i_mulL (c := 2) (K := 1073741823) ez_57 (by decide) (by decide) (by decide) (by decide); have q_n_59 := i_nn en_59 zn_59; have q2_n_59 := bn_59; have q_z_69 := i_mulL (c := 2) (K := 1073741823) ez_69 (by decide) (by decide) (by decide) (by decide); have q_n_71 := i_nn en_71 zn_71; have q2_n_71 := bn_71; have q_f_77 := f_77; have q_f_78 := f_78; have q_f_79 := f_79; have q_p0 := p0; have q_f3_1 := f3_1; have q_f5_1 := f5_1; have q_c_44 := i_nle c_44; have g_x1 := i_rg x1; have g_z_3 := i_rg z_3; have g_z_45 := i_rg z_45; have g_z_57 := i_rg z_57; have g_z_69 := i_rg z_69; omega) hP hD hS (lv_sub hl [0] rfl)
set_option maxHeartbeats 1000000 in
set_option maxRecDepth 100000 in
theorem m_X4_comeTo (l : Launch) (g : Gm) (sz : Nat) (ws : va_W) (h0 : Nat) (x1 : Int32) (x2 : Int32) (hG : Good g ws) (o_h0 : gC ws h0 4) (nn_h0_4 : gN ws h0 4) : Met l yX4_comeTo (wt yX4_comeTo cX4_comeTo 3 none) ({ frames := 0, cells := 0, slots := 0, locals := 0 }) (va_Pc [.ref h0, .int x1, .int x2] (st_G g sz ws)) (va_Qv (fun (u9 : va_W) => True) (gQ1 g [(4, 6)] [(4, 0), (4, 1)] none (va_A ws sz) ws) (va_A ws sz)) (0) (0) (va_A ws sz) := by
  refine Met.ofW (cc := cX4_comeTo) (maxL := 3) (ret := none) (by decide) rfl ?_
  intro p e s m args below meth c s₁ B hml hv
  obtain ⟨rfl, hsz, hP, hK, hD0, hex, hE⟩ := hv
  have hx := B.exec
  have hb := B.bytes
  have hr := B.returns
  have hts0 := atoms_spec (ws := wt yX4_comeTo cX4_comeTo 3 none) B.pre
  have hts : ∀ w ∈ tb, w.before _ s = true := fun w h => hts0 w (List.mem_cons_of_mem _ h)
  have hown : s.vm.findClass RX4 = some m.cls := findClass_of_methodNamed B.named
  subst hsz
  have hD := hD0.self (sz := s.heap.size)
  generalize hAe : va_A ws s.heap.size = A at hD hE ⊢
  have hA : ∀ q : Nat, s.heap.size ≤ q → A q := fun q h => by rw [← hAe]; exact Or.inr h
  have hS : va_S A s.heap s.heap [] := va_S.rf
  have hl := lv_entry ([.ref h0, .int x1, .int x2]) (n := 3) (Nat.le_of_ble_eq_true rfl)
  rw [lg_entry_eq]
  generalize (lg_sl ([.ref h0, .int x1, .int x2]) ++ List.replicate (3 - (lg_sl ([.ref h0, .int x1, .int x2])).length) Slot.unset).toArray = ls at hl ⊢
  have hl : lv_has ls 3 [(0, .ref h0), (1, .int x1), (2, .int x2)] := hl
  obtain ⟨k_1, fs9, hk_1⟩ := gC_of o_h0
  obtain ⟨r0_1, n0_1, r1_1, n1_1, r2_1, n2_1, v3_1, v4_1, c5_1, c6_1, c7_1, rfl, a_r0_1, f1_1, a_r1_1, f3_1, a_r2_1, f5_1, o_v3_1, o_v4_1, hz_c6_1, f9_1, f10_1, f11_1, -⟩ := (hG.1 _ _ _ _ hk_1).hX4 rfl
  obtain ⟨b_2, hn9⟩ := nn_h0_4 _ _ _ hk_1
  have hn9 := fe_qr hn9
  subst hn9
  have o_b_2 := o_v4_1 _ rfl
  refine lv_iload_n hx hb dX4_comeTo_0 rfl (lv_at hl 1 rfl) ?_
  have J_47 : ∀  (H : Heap) (locs : List Loc) (ls : Array Slot), va_P (gD g) cl0 ws H → va_D A ws → va_S A s.heap H locs → lv_has ls 3 [] → W p l e (headSpec (wt yX4_comeTo cX4_comeTo 3 none) ({ frames := 0, cells := 0, slots := 0, locals := 0 })).room s m ([.ref h0, .int x1, .int x2] : List Value).toArray below meth c H locs (0) (0) (MQ below (va_Qv (fun (u9 : va_W) => True) (gQ1 g [(4, 6)] [(4, 0), (4, 1)] none A ws) A) ([.ref h0, .int x1, .int x2] : List Value).toArray s (0) (0) A) (F0 m 47 ls []) := by
    intro  H locs ls  hP hD hS hl
    refine W.widen (k := 0) (n := 0) (Nat.le_of_ble_eq_true rfl) (Nat.le_of_ble_eq_true rfl) ?_
    exact W.vret hx hb hr (fun t9 ht9 hW9 => ⟨⟨ws, rfl, trivial, ⟨gE.rf, gF.rf, hG, by rw [ht9]; exact hP, hD⟩⟩, hS.F ht9⟩) hS.2.2 dX4_comeTo_47
  refine lv_if_lt (tgt := 47) hx hb dX4_comeTo_1 (by decide) (fun c_5 => ?_) (fun c_5 => ?_)
  · exact J_47  _ _ ls  hP hD hS (lv_sub hl [] rfl)
  · refine lv_iload_n hx hb dX4_comeTo_4 rfl (lv_at hl 1 rfl) ?_
    refine lv_aload_n hx hb dX4_comeTo_5 rfl (lv_at hl 0 rfl) ?_
    refine va_get (D := gD g) (ci := 4) (v := .ref b_2) (C := RX4) (T := TX4) (N := 8) hx hb hts inX4 hown hK hP k_1 hk_1 rfl 4 (by decide) (hts _ kw_954) (fun _ h9 => h9) rfl dX4_comeTo_6 ?_
    obtain ⟨k_6, fs9, hk_6⟩ := gC_of o_b_2
    obtain ⟨r0_6, n0_6, r1_6, n1_6, c2_6, r3_6, n3_6, c4_6, r5_6, n5_6, r6_6, n6_6, r7_6, n7_6, r8_6, n8_6, c9_6, c10_6, c11_6, v12_6, v13_6, v14_6, rfl, a_r0_6, f1_6, a_r1_6, f3_6, a_r3_6, f5_6, a_r5_6, f7_6, a_r6_6, f9_6, a_r7_6, f11_6, a_r8_6, f13_6, o_v12_6, o_v13_6, o_v14_6, f17_6, f18_6, f19_6, f20_6, f21_6, f22_6, f23_6, f24_6, f25_6, f26_6, f27_6, f28_6, f29_6, -⟩ := (hG.1 _ _ _ _ hk_6).hX8 rfl
    refine va_get (D := gD g) (ci := 7) (v := .int c2_6) (C := RX8) (T := TX8) (N := 15) hx hb hts inX8 hown hK hP k_6 hk_6 rfl 2 (by decide) (hts _ kw_955) (fun _ h9 => h9) rfl dX4_comeTo_9 ?_
    refine lv_icmp_ge (tgt := 47) hx hb dX4_comeTo_12 (by decide) (fun c_7 => ?_) (fun c_7 => ?_)
    · exact J_47  _ _ ls  hP hD hS (lv_sub hl [] rfl)
    · refine lv_iload_n hx hb dX4_comeTo_15 rfl (lv_at hl 1 rfl) ?_
      refine lv_aload_n hx hb dX4_comeTo_16 rfl (lv_at hl 0 rfl) ?_
      refine va_get (D := gD g) (ci := 4) (v := .ref r0_1) (C := RX4) (T := TX4) (N := 8) hx hb hts inX4 hown hK hP k_1 hk_1 rfl 0 (by decide) (hts _ kw_956) (fun _ h9 => h9) rfl dX4_comeTo_17 ?_
      obtain ⟨k_8, f_8, hk_8⟩ := gI_of a_r0_1
      obtain ⟨z_9, ez_9⟩ : ∃ z : Int32, Int32.ofNat n0_1 = z := ⟨_, rfl⟩
      refine va_alen (v := z_9) hx hb hK hP k_8 1 hk_8 rfl ez_9 dX4_comeTo_20 ?_
      refine lv_icmp_ge (tgt := 47) hx hb dX4_comeTo_21 (by decide) (fun c_10 => ?_) (fun c_10 => ?_)
      · exact J_47  _ _ ls  hP hD hS (lv_sub hl [] rfl)
      · refine lv_iload_n hx hb dX4_comeTo_24 rfl (lv_at hl 2 rfl) ?_
        refine lv_if_lt (tgt := 47) hx hb dX4_comeTo_25 (by decide) (fun c_11 => ?_) (fun c_11 => ?_)
        · exact J_47  _ _ ls  hP hD hS (lv_sub hl [] rfl)
        · refine lv_iload_n hx hb dX4_comeTo_28 rfl (lv_at hl 2 rfl) ?_
          refine lv_bipush (v := 30) hx hb dX4_comeTo_29 (by decide) ?_
          refine lv_icmp_gt (tgt := 47) hx hb dX4_comeTo_31 (by decide) (fun c_12 => ?_) (fun c_12 => ?_)
          · exact J_47  _ _ ls  hP hD hS (lv_sub hl [] rfl)
          · refine lv_aload_n hx hb dX4_comeTo_34 rfl (lv_at hl 0 rfl) ?_
            refine va_get (D := gD g) (ci := 4) (v := .ref r0_1) (C := RX4) (T := TX4) (N := 8) hx hb hts inX4 hown hK hP k_1 hk_1 rfl 0 (by decide) (hts _ kw_956) (fun _ h9 => h9) rfl dX4_comeTo_35 ?_
            refine lv_iload_n hx hb dX4_comeTo_38 rfl (lv_at hl 1 rfl) ?_
            refine va_iald hx hb hK hP k_8 1 hk_8 rfl (i_in2 (by have e0 : (0 : Int32).toInt = 0 := (by decide); have q_f1_1 := f1_1; have q_f9_1 := f9_1; have q_f10_1 := f10_1; have q_f11_1 := f11_1; have q_c_5 := i_nlt c_5; have q_c_7 := i_nle c_7; have q_z_9 := i_len ez_9 f1_1; have q_c_10 := i_nle c_10; have q_f3_1 := f3_1; have q_f5_1 := f5_1; have q_f19_6 := f19_6; have q_f20_6 := f20_6; have g_c2_6 := i_rg c2_6; have g_x1 := i_rg x1; have g_z_9 := i_rg z_9; omega)) dX4_comeTo_39 ?_
            refine lv_topi (fun z_13 ez_13 => ?_)
            refine lv_iload_n hx hb dX4_comeTo_40 rfl (lv_at hl 2 rfl) ?_
            refine lv_ishr hx hb dX4_comeTo_41 ?_
            refine lv_topi (fun z_14 ez_14 => ?_)
            refine lv_iconst (v := 1) hx hb dX4_comeTo_42 (by decide) ?_
            refine lv_iand hx hb dX4_comeTo_43 ?_
            refine lv_topi (fun z_15 ez_15 => ?_)
            refine lv_if_eq (tgt := 48) hx hb dX4_comeTo_44 (by decide) (fun c_16 => ?_) (fun c_16 => ?_)
            · refine lv_aload_n hx hb dX4_comeTo_48 rfl (lv_at hl 0 rfl) ?_
              refine va_get (D := gD g) (ci := 4) (v := .ref r0_1) (C := RX4) (T := TX4) (N := 8) hx hb hts inX4 hown hK hP k_1 hk_1 rfl 0 (by decide) (hts _ kw_956) (fun _ h9 => h9) rfl dX4_comeTo_49 ?_
              refine lv_iload_n hx hb dX4_comeTo_52 rfl (lv_at hl 1 rfl) ?_
              refine lv_dup2_11 hx hb dX4_comeTo_53 rfl rfl ?_
              refine va_iald hx hb hK hP k_8 1 hk_8 rfl (i_in2 (by have e0 : (0 : Int32).toInt = 0 := (by decide); have q_f1_1 := f1_1; have q_f9_1 := f9_1; have q_f10_1 := f10_1; have q_f11_1 := f11_1; have q_c_5 := i_nlt c_5; have q_c_7 := i_nle c_7; have q_z_9 := i_len ez_9 f1_1; have q_c_10 := i_nle c_10; have q_f3_1 := f3_1; have q_f5_1 := f5_1; have q_f19_6 := f19_6; have q_f20_6 := f20_6; have g_c2_6 := i_rg c2_6; have g_x1 := i_rg x1; have g_z_9 := i_rg z_9; omega)) dX4_comeTo_54 ?_
              refine lv_topi (fun z_17 ez_17 => ?_)
              refine lv_iconst (v := 1) hx hb dX4_comeTo_55 (by decide) ?_
              refine lv_iload_n hx hb dX4_comeTo_56 rfl (lv_at hl 2 rfl) ?_
              refine lv_ishl hx hb dX4_comeTo_57 ?_
              refine lv_topi (fun z_18 ez_18 => ?_)
              refine lv_ior hx hb dX4_comeTo_58 ?_
              refine lv_topi (fun z_19 ez_19 => ?_)
              have hC9 : hol ws r0_1 [(4, 0)] := (hol_u hG.u hk_1 (j := 0) rfl a_r0_1 (by decide))
              have hS9 : holS ws r0_1 none := holS_n
              refine va_iast hx hb hK hP hD hS k_8 1 hk_8 rfl (i_in2 (by have e0 : (0 : Int32).toInt = 0 := (by decide); have q_f1_1 := f1_1; have q_f9_1 := f9_1; have q_f10_1 := f10_1; have q_f11_1 := f11_1; have q_c_5 := i_nlt c_5; have q_c_7 := i_nle c_7; have q_z_9 := i_len ez_9 f1_1; have q_c_10 := i_nle c_10; have q_f3_1 := f3_1; have q_f5_1 := f5_1; have q_f19_6 := f19_6; have q_f20_6 := f20_6; have g_c2_6 := i_rg c2_6; have g_x1 := i_rg x1; have g_z_9 := i_rg z_9; omega)) dX4_comeTo_59 (fun H locs hP hD hS => ?_)
              obtain ⟨ws_20, e_ws_20⟩ : ∃ z, z = ws.set k_8 (r0_1, .inl (g.cI, n0_1, .inl (upd f_8 (x1 : Int32).toNatClampNeg z_19))) := ⟨_, rfl⟩
              have hP : va_P (gD g) cl0 ws_20 H := by rw [e_ws_20]; exact hP
              have hD : va_D A ws_20 := by rw [e_ws_20]; exact hD
              have E_21 : gE ws ws_20 := gE_ari e_ws_20 hk_8
              have hG : Good g ws_20 := Good_arI e_ws_20 hk_8 hG
              have Fr_22 : gF [] [(4, 0)] none ws ws_20 := gF_ar e_ws_20 hk_8 rfl hC9 hS9
              have hk_1 := gset_arO e_ws_20 hk_8 hk_1
              have hk_6 := gset_arO e_ws_20 hk_8 hk_6
              have o_h0 := E_21.1 _ _ o_h0
              have a_r0_1 := E_21.1 _ _ a_r0_1
              have a_r1_1 := E_21.1 _ _ a_r1_1
              have a_r2_1 := E_21.1 _ _ a_r2_1
              have o_v3_1 : ∀ b, v3_1 = some b → gC ws_20 b 9 := fun b h => E_21.1 _ _ (o_v3_1 b h)
              have o_b_2 := E_21.1 _ _ o_b_2
              have a_r0_6 := E_21.1 _ _ a_r0_6
              have a_r1_6 := E_21.1 _ _ a_r1_6
              have a_r3_6 := E_21.1 _ _ a_r3_6
              have a_r5_6 := E_21.1 _ _ a_r5_6
              have a_r6_6 := E_21.1 _ _ a_r6_6
              have a_r7_6 := E_21.1 _ _ a_r7_6
              have a_r8_6 := E_21.1 _ _ a_r8_6
              have o_v12_6 : ∀ b, v12_6 = some b → ∃ n, gI ws_20 b g.cB n ∧ n < 2147483648 := fun b h => (o_v12_6 b h).imp (fun n h => ⟨E_21.1 _ _ h.1, h.2⟩)
              have o_v13_6 : ∀ b, v13_6 = some b → ∃ n, gJ ws_20 b g.cL n ∧ n < 2147483648 := fun b h => (o_v13_6 b h).imp (fun n h => ⟨E_21.1 _ _ h.1, h.2⟩)
              have o_v14_6 : ∀ b, v14_6 = some b → ∃ n, gJ ws_20 b g.cL n ∧ n < 2147483648 := fun b h => (o_v14_6 b h).imp (fun n h => ⟨E_21.1 _ _ h.1, h.2⟩)
              refine lv_aload_n hx hb dX4_comeTo_60 rfl (lv_at hl 0 rfl) ?_
              refine va_get (D := gD g) (ci := 4) (v := .ref r1_1) (C := RX4) (T := TX4) (N := 8) hx hb hts inX4 hown hK hP k_1 hk_1 rfl 1 (by decide) (hts _ kw_957) (fun _ h9 => h9) rfl dX4_comeTo_61 ?_
              refine lv_iload_n hx hb dX4_comeTo_64 rfl (lv_at hl 1 rfl) ?_
              refine lv_dup2_11 hx hb dX4_comeTo_65 rfl rfl ?_
              obtain ⟨k_23, f_23, hk_23⟩ := gI_of a_r1_1
              refine va_iald hx hb hK hP k_23 1 hk_23 rfl (i_in2 (by have e0 : (0 : Int32).toInt = 0 := (by decide); have q_f3_1 := f3_1; have q_f9_1 := f9_1; have q_c_5 := i_nlt c_5; have q_c_7 := i_nle c_7; have q_c_10 := i_nle c_10; have q_f1_1 := f1_1; have q_f10_1 := f10_1; have q_f11_1 := f11_1; have q_f19_6 := f19_6; have q_f20_6 := f20_6; have q_z_9 := i_len ez_9 f1_1; have g_c2_6 := i_rg c2_6; have g_x1 := i_rg x1; have g_z_9 := i_rg z_9; omega)) dX4_comeTo_66 ?_
              refine lv_topi (fun z_24 ez_24 => ?_)
              refine lv_iconst (v := 1) hx hb dX4_comeTo_67 (by decide) ?_
              refine lv_iload_n hx hb dX4_comeTo_68 rfl (lv_at hl 2 rfl) ?_
              refine lv_ishl hx hb dX4_comeTo_69 ?_
              refine lv_topi (fun z_25 ez_25 => ?_)
              refine lv_ior hx hb dX4_comeTo_70 ?_
              refine lv_topi (fun z_26 ez_26 => ?_)
              have hC9 : hol ws_20 r1_1 [(4, 1)] := (hol_u hG.u hk_1 (j := 1) rfl a_r1_1 (by decide))
              have hS9 : holS ws_20 r1_1 none := holS_n
              refine va_iast hx hb hK hP hD hS k_23 1 hk_23 rfl (i_in2 (by have e0 : (0 : Int32).toInt = 0 := (by decide); have q_f3_1 := f3_1; have q_f9_1 := f9_1; have q_c_5 := i_nlt c_5; have q_c_7 := i_nle c_7; have q_c_10 := i_nle c_10; have q_f1_1 := f1_1; have q_f10_1 := f10_1; have q_f11_1 := f11_1; have q_f19_6 := f19_6; have q_f20_6 := f20_6; have q_z_9 := i_len ez_9 f1_1; have g_c2_6 := i_rg c2_6; have g_x1 := i_rg x1; have g_z_9 := i_rg z_9; omega)) dX4_comeTo_71 (fun H locs hP hD hS => ?_)
              obtain ⟨ws_27, e_ws_27⟩ : ∃ z, z = ws_20.set k_23 (r1_1, .inl (g.cI, n1_1, .inl (upd f_23 (x1 : Int32).toNatClampNeg z_26))) := ⟨_, rfl⟩
              have hP : va_P (gD g) cl0 ws_27 H := by rw [e_ws_27]; exact hP
              have hD : va_D A ws_27 := by rw [e_ws_27]; exact hD
              have E_28 : gE ws_20 ws_27 := gE_ari e_ws_27 hk_23
              have hG : Good g ws_27 := Good_arI e_ws_27 hk_23 hG
              have Fr_29 : gF [] [(4, 1)] none ws_20 ws_27 := gF_ar e_ws_27 hk_23 rfl hC9 hS9
              have hk_1 := gset_arO e_ws_27 hk_23 hk_1
              have hk_6 := gset_arO e_ws_27 hk_23 hk_6
              have o_h0 := E_28.1 _ _ o_h0
              have a_r0_1 := E_28.1 _ _ a_r0_1
              have a_r1_1 := E_28.1 _ _ a_r1_1
              have a_r2_1 := E_28.1 _ _ a_r2_1
              have o_v3_1 : ∀ b, v3_1 = some b → gC ws_27 b 9 := fun b h => E_28.1 _ _ (o_v3_1 b h)
              have o_b_2 := E_28.1 _ _ o_b_2
              have a_r0_6 := E_28.1 _ _ a_r0_6
              have a_r1_6 := E_28.1 _ _ a_r1_6
              have a_r3_6 := E_28.1 _ _ a_r3_6
              have a_r5_6 := E_28.1 _ _ a_r5_6
              have a_r6_6 := E_28.1 _ _ a_r6_6
              have a_r7_6 := E_28.1 _ _ a_r7_6
              have a_r8_6 := E_28.1 _ _ a_r8_6
              have o_v12_6 : ∀ b, v12_6 = some b → ∃ n, gI ws_27 b g.cB n ∧ n < 2147483648 := fun b h => (o_v12_6 b h).imp (fun n h => ⟨E_28.1 _ _ h.1, h.2⟩)
              have o_v13_6 : ∀ b, v13_6 = some b → ∃ n, gJ ws_27 b g.cL n ∧ n < 2147483648 := fun b h => (o_v13_6 b h).imp (fun n h => ⟨E_28.1 _ _ h.1, h.2⟩)
              have o_v14_6 : ∀ b, v14_6 = some b → ∃ n, gJ ws_27 b g.cL n ∧ n < 2147483648 := fun b h => (o_v14_6 b h).imp (fun n h => ⟨E_28.1 _ _ h.1, h.2⟩)
              refine lv_aload_n hx hb dX4_comeTo_72 rfl (lv_at hl 0 rfl) ?_
              refine lv_iconst (v := 1) hx hb dX4_comeTo_73 (by decide) ?_
              have hV9 : okv ws_27 4 6 (.int 1) := okv_i
              refine va_put (D := gD g) (ci := 4) (v := .int 1) (ty := .boolean) (C := RX4) (T := TX4) (N := 8) hx hb hts inX4 tyX4 tyX4_ok nmX4 hown hK hP hD hS k_1 hk_1 rfl 6 (by decide) (hts _ kw_958) (fun _ h9 => h9) rfl (by decide +kernel) rfl rfl (Nat.le_of_ble_eq_true rfl) dX4_comeTo_74 (fun H locs hP hD hS => ?_)
              have hi_30 : invX4 g ws_27 h0 [.ref r0_1, .ref r1_1, .ref r2_1, va_rf v3_1, .ref b_2, .int c5_1, .int 1, .int c7_1] := ⟨r0_1, (n0_1), r1_1, (n1_1), r2_1, (n2_1), v3_1, (some b_2), (c5_1), (1), (c7_1), rfl, a_r0_1, f1_1, a_r1_1, f3_1, a_r2_1, f5_1, o_v3_1, (fun b h9 => by cases h9; exact o_b_2), (Or.inr rfl), f9_1, f10_1, f11_1, trivial⟩
              obtain ⟨ws_31, e_ws_31⟩ : ∃ z, z = ws_27.set k_1 (h0, .inr (4, [.ref r0_1, .ref r1_1, .ref r2_1, va_rf v3_1, .ref b_2, .int c5_1, .int 1, .int c7_1])) := ⟨_, rfl⟩
              have hP : va_P (gD g) cl0 ws_31 H := by rw [e_ws_31]; exact hP
              have hD : va_D A ws_31 := by rw [e_ws_31]; exact hD
              have E_32 : gE ws_27 ws_31 := gE_set e_ws_31 hk_1 (cw_o (fi := 6) (v := .int 1) rfl (by decide))
              have hG : Good g ws_31 := Good_set (fi := 6) (v := .int 1) e_ws_31 hk_1 E_32 rfl hV9 hG (ivX4 hi_30)
              have Fr_33 : gF [(4, 6)] [] (some h0) ws_27 ws_31 := gF_put (fi := 6) (v := .int 1) e_ws_31 hk_1 rfl (by decide)
              have hkN := gset_self e_ws_31 hk_1
              have hk_6 := gset_ob e_ws_31 hk_1 hk_6 (by decide)
              have hk_1 := hkN
              have o_h0 := E_32.1 _ _ o_h0
              have a_r0_1 := E_32.1 _ _ a_r0_1
              have a_r1_1 := E_32.1 _ _ a_r1_1
              have a_r2_1 := E_32.1 _ _ a_r2_1
              have o_v3_1 : ∀ b, v3_1 = some b → gC ws_31 b 9 := fun b h => E_32.1 _ _ (o_v3_1 b h)
              have o_b_2 := E_32.1 _ _ o_b_2
              have a_r0_6 := E_32.1 _ _ a_r0_6
              have a_r1_6 := E_32.1 _ _ a_r1_6
              have a_r3_6 := E_32.1 _ _ a_r3_6
              have a_r5_6 := E_32.1 _ _ a_r5_6
              have a_r6_6 := E_32.1 _ _ a_r6_6
              have a_r7_6 := E_32.1 _ _ a_r7_6
              have a_r8_6 := E_32.1 _ _ a_r8_6
              have o_v12_6 : ∀ b, v12_6 = some b → ∃ n, gI ws_31 b g.cB n ∧ n < 2147483648 := fun b h => (o_v12_6 b h).imp (fun n h => ⟨E_32.1 _ _ h.1, h.2⟩)
              have o_v13_6 : ∀ b, v13_6 = some b → ∃ n, gJ ws_31 b g.cL n ∧ n < 2147483648 := fun b h => (o_v13_6 b h).imp (fun n h => ⟨E_32.1 _ _ h.1, h.2⟩)
              have o_v14_6 : ∀ b, v14_6 = some b → ∃ n, gJ ws_31 b g.cL n ∧ n < 2147483648 := fun b h => (o_v14_6 b h).imp (fun n h => ⟨E_32.1 _ _ h.1, h.2⟩)
              refine W.widen (k := 0) (n := 0) (Nat.le_of_ble_eq_true rfl) (Nat.le_of_ble_eq_true rfl) ?_
              exact W.vret hx hb hr (fun t9 ht9 hW9 => ⟨⟨ws_31, rfl, trivial, ⟨(E_21.tr (E_28.tr E_32)), (gF.tr (gF.mo (F' := [(4, 6)]) (C' := [(4, 0), (4, 1)]) (S' := none) Fr_22 (fun _ h => absurd h List.not_mem_nil) (by decide) (Or.inr rfl)) (gF.tr (gF.mo (F' := [(4, 6)]) (C' := [(4, 0), (4, 1)]) (S' := none) Fr_29 (fun _ h => absurd h List.not_mem_nil) (by decide) (Or.inr rfl)) (gF.mo (F' := [(4, 6)]) (C' := [(4, 0), (4, 1)]) (S' := none) Fr_33 (fun _ h => h) (fun _ h => absurd h List.not_mem_nil) (Or.inl rfl)))), hG, by rw [ht9]; exact hP, hD⟩⟩, hS.F ht9⟩) hS.2.2 dX4_comeTo_77
            · exact J_47  _ _ ls  hP hD hS (lv_sub hl [] rfl)
set_option maxHeartbeats 1000000 in
set_option maxRecDepth 100000 in
theorem m_X4_spread (l : Launch) (g : Gm) (sz : Nat) (ws : va_W) (h0 : Nat) (x1 : Int32) (x2 : Int32) (hG : Good g ws) (o_h0 : gC ws h0 4) (nn_h0_3 : gN ws h0 3) (nn_h0_4 : gN ws h0 4) (fp_w : gP ws h0 (fun fs => ∀ (rn n : Nat), fs[2]? = some (.ref rn) → gI ws rn g.cZ n → x1.toInt < n)) (p0 : 0 ≤ x1.toInt) : Met l yX4_spread (wt yX4_spread cX4_spread 9 none) ({ frames := 3, cells := 0, slots := 0, locals := 66 }) (va_Pc [.ref h0, .int x1, .int x2] (st_G g sz ws)) (va_Qv (fun (u9 : va_W) => True) (gQ1 g [(4, 6), (4, 7)] [(4, 0), (4, 1), (4, 2)] none (va_A ws sz) ws) (va_A ws sz)) (0) (0) (va_A ws sz) := by
  refine Met.ofW (cc := cX4_spread) (maxL := 9) (ret := none) (by decide) rfl ?_
  intro p e s m args below meth c s₁ B hml hv
  obtain ⟨rfl, hsz, hP, hK, hD0, hex, hE⟩ := hv
  have hx := B.exec
  have hb := B.bytes
  have hr := B.returns
  have hts0 := atoms_spec (ws := wt yX4_spread cX4_spread 9 none) B.pre
  have hts : ∀ w ∈ tb, w.before _ s = true := fun w h => hts0 w (List.mem_cons_of_mem _ h)
  have hown : s.vm.findClass RX4 = some m.cls := findClass_of_methodNamed B.named
  subst hsz
  have hD := hD0.self (sz := s.heap.size)
  generalize hAe : va_A ws s.heap.size = A at hD hE ⊢
  have hA : ∀ q : Nat, s.heap.size ≤ q → A q := fun q h => by rw [← hAe]; exact Or.inr h
  have hS : va_S A s.heap s.heap [] := va_S.rf
  have hl := lv_entry ([.ref h0, .int x1, .int x2]) (n := 9) (Nat.le_of_ble_eq_true rfl)
  rw [lg_entry_eq]
  generalize (lg_sl ([.ref h0, .int x1, .int x2]) ++ List.replicate (9 - (lg_sl ([.ref h0, .int x1, .int x2])).length) Slot.unset).toArray = ls at hl ⊢
  have hl : lv_has ls 9 [(0, .ref h0), (1, .int x1), (2, .int x2)] := hl
  obtain ⟨k_1, fs9, hk_1⟩ := gC_of o_h0
  obtain ⟨r0_1, n0_1, r1_1, n1_1, r2_1, n2_1, v3_1, v4_1, c5_1, c6_1, c7_1, rfl, a_r0_1, f1_1, a_r1_1, f3_1, a_r2_1, f5_1, o_v3_1, o_v4_1, hz_c6_1, f9_1, f10_1, f11_1, -⟩ := (hG.1 _ _ _ _ hk_1).hX4 rfl
  have fq_w := fp_w _ _ _ hk_1 _ _ rfl a_r2_1
  obtain ⟨b_2, hn9⟩ := nn_h0_3 _ _ _ hk_1
  have hn9 := fe_qr hn9
  subst hn9
  have o_b_2 := o_v3_1 _ rfl
  obtain ⟨b_3, hn9⟩ := nn_h0_4 _ _ _ hk_1
  have hn9 := fe_qr hn9
  subst hn9
  have o_b_3 := o_v4_1 _ rfl
  refine lv_aload_n hx hb dX4_spread_0 rfl (lv_at hl 0 rfl) ?_
  refine va_get (D := gD g) (ci := 4) (v := .ref b_2) (C := RX4) (T := TX4) (N := 8) hx hb hts inX4 hown hK hP k_1 hk_1 rfl 3 (by decide) (hts _ kw_978) (fun _ h9 => h9) rfl dX4_spread_1 ?_
  refine lv_aload_n hx hb dX4_spread_4 rfl (lv_at hl 0 rfl) ?_
  refine va_get (D := gD g) (ci := 4) (v := .ref b_3) (C := RX4) (T := TX4) (N := 8) hx hb hts inX4 hown hK hP k_1 hk_1 rfl 4 (by decide) (hts _ kw_954) (fun _ h9 => h9) rfl dX4_spread_5 ?_
  refine lv_iload_n hx hb dX4_spread_8 rfl (lv_at hl 1 rfl) ?_
  have hFc := gfree hD hS hA
  obtain ⟨k_4, fs_4, hk_4⟩ := gC_of o_b_2
  refine va_calli (va_runV (As := [.ref b_3, .int x1]) (rest := []) ⟨hx, hb, hml, hown, hts⟩ (m_X10_takes l g s.heap.size ws b_2 b_3 (x1) hG o_b_2 o_b_3) (cwV 2 hts (gd_V kw_988 kw_73 kw_74 kw_34 kw_72) rfl rfl rfl (by decide +kernel) ⟨Nat.le_of_ble_eq_true rfl, Nat.le_of_ble_eq_true rfl⟩) ⟨gblind, va_recv hK hP (ci := 9) (q0 := k_4) rfl hk_4, fun U hU hW9 => gmk hU hW9 hP hK hD hex hE hS hFc⟩ rfl rfl hl.1 rfl (lv_room (Nat.le_of_ble_eq_true rfl)) dX4_spread_9 ⟨Nat.le_of_ble_eq_true rfl, Nat.le_of_ble_eq_true rfl⟩) hS (fun q _ h => hFc q h) hFc (fun r_5 u9 t9 H1 locs ht9 hvm9 hw9 hB9 hz9 hk9 hS => ?_)
  have hP : va_P (gD g) cl0 ws H1 := by rw [← ht9]; exact hB9.1
  clear hB9 hz9 hk9 hvm9 ht9 hw9
  generalize H1 = H at hP hS ⊢
  have hFc := gfree hD hS hA
  refine va_calli (va_runS (As := [.int r_5]) (rest := []) ⟨hx, hb, hml, hown, hts⟩ (m_X6_placesOf l g H.size ws (r_5) hG ) (va_cwS 1 hts (gd_S kw_989 kw_1253 kw_1207 kw_1252) rfl rfl rfl (by decide +kernel) ⟨Nat.le_of_ble_eq_true rfl, Nat.le_of_ble_eq_true rfl⟩) ⟨gblind, fun U hU hW9 => gmk hU hW9 hP hK hD hex hE hS hFc⟩ rfl rfl hl.1 rfl (lv_room (Nat.le_of_ble_eq_true rfl)) dX4_spread_12 ⟨Nat.le_of_ble_eq_true rfl, Nat.le_of_ble_eq_true rfl⟩) hS (fun q _ h => hFc q h) hFc (fun r_6 u9 t9 H1 locs ht9 hvm9 hw9 hB9 hz9 hk9 hS => ?_)
  have hP : va_P (gD g) cl0 ws H1 := by rw [← ht9]; exact hB9.1
  have h_r_6 := hw9
  clear hB9 hz9 hk9 hvm9 ht9 hw9
  generalize H1 = H at hP hS ⊢
  refine lv_istore_n (lv' := [(3, .int r_6), (0, .ref h0), (1, .int x1), (2, .int x2)]) hx hb dX4_spread_15 rfl hl (by decide) rfl (fun ls hl => ?_)
  refine lv_iload_n hx hb dX4_spread_16 rfl (lv_at hl 3 rfl) ?_
  refine lv_iload_n hx hb dX4_spread_17 rfl (lv_at hl 0 rfl) ?_
  refine lv_isub hx hb dX4_spread_18 ?_
  refine lv_topi (fun z_7 ez_7 => ?_)
  refine lv_aload_n hx hb dX4_spread_19 rfl (lv_at hl 1 rfl) ?_
  refine va_get (D := gD g) (ci := 4) (v := .ref b_2) (C := RX4) (T := TX4) (N := 8) hx hb hts inX4 hown hK hP k_1 hk_1 rfl 3 (by decide) (hts _ kw_978) (fun _ h9 => h9) rfl dX4_spread_20 ?_
  refine lv_aload_n hx hb dX4_spread_23 rfl (lv_at hl 1 rfl) ?_
  refine va_get (D := gD g) (ci := 4) (v := .ref b_3) (C := RX4) (T := TX4) (N := 8) hx hb hts inX4 hown hK hP k_1 hk_1 rfl 4 (by decide) (hts _ kw_954) (fun _ h9 => h9) rfl dX4_spread_24 ?_
  refine lv_iload_n hx hb dX4_spread_27 rfl (lv_at hl 2 rfl) ?_
  have hFc := gfree hD hS hA
  obtain ⟨k_8, fs_8, hk_8⟩ := gC_of o_b_2
  refine va_calli (va_runV (As := [.ref b_3, .int x1]) (rest := [.int z_7]) ⟨hx, hb, hml, hown, hts⟩ (m_X10_placesGiven l g H.size ws b_2 b_3 (x1) hG o_b_2 o_b_3) (cwV 2 hts (gd_V kw_990 kw_65 kw_66 kw_34 kw_64) rfl rfl rfl (by decide +kernel) ⟨Nat.le_of_ble_eq_true rfl, Nat.le_of_ble_eq_true rfl⟩) ⟨gblind, va_recv hK hP (ci := 9) (q0 := k_8) rfl hk_8, fun U hU hW9 => gmk hU hW9 hP hK hD hex hE hS hFc⟩ rfl rfl hl.1 rfl (lv_room (Nat.le_of_ble_eq_true rfl)) dX4_spread_28 ⟨Nat.le_of_ble_eq_true rfl, Nat.le_of_ble_eq_true rfl⟩) hS (fun q _ h => hFc q h) hFc (fun r_9 u9 t9 H1 locs ht9 hvm9 hw9 hB9 hz9 hk9 hS => ?_)
  have hP : va_P (gD g) cl0 ws H1 := by rw [← ht9]; exact hB9.1
  clear hB9 hz9 hk9 hvm9 ht9 hw9
  generalize H1 = H at hP hS ⊢
  refine lv_iadd hx hb dX4_spread_31 ?_
  refine lv_topi (fun z_10 ez_10 => ?_)
  refine lv_istore (lv' := [(4, .int z_10), (3, .int r_6), (0, .ref h0), (1, .int x1), (2, .int x2)]) hx hb dX4_spread_32 hl (by decide) rfl (fun ls hl => ?_)
  refine lv_aload_n hx hb dX4_spread_34 rfl (lv_at hl 2 rfl) ?_
  refine va_get (D := gD g) (ci := 4) (v := .ref b_3) (C := RX4) (T := TX4) (N := 8) hx hb hts inX4 hown hK hP k_1 hk_1 rfl 4 (by decide) (hts _ kw_954) (fun _ h9 => h9) rfl dX4_spread_35 ?_
  refine lv_iload_n hx hb dX4_spread_38 rfl (lv_at hl 3 rfl) ?_
  have hFc := gfree hD hS hA
  obtain ⟨k_11, fs_11, hk_11⟩ := gC_of o_b_3
  refine va_calli (va_runV (As := [.int x1]) (rest := []) ⟨hx, hb, hml, hown, hts⟩ (m_X8_isCaught l g H.size ws b_3 (x1) hG o_b_3) (cwV 1 hts (gd_V kw_991 kw_1500 kw_1501 kw_782 kw_1499) rfl rfl rfl (by decide +kernel) ⟨Nat.le_of_ble_eq_true rfl, Nat.le_of_ble_eq_true rfl⟩) ⟨gblind, va_recv hK hP (ci := 7) (q0 := k_11) rfl hk_11, fun U hU hW9 => gmk hU hW9 hP hK hD hex hE hS hFc⟩ rfl rfl hl.1 rfl (lv_room (Nat.le_of_ble_eq_true rfl)) dX4_spread_39 ⟨Nat.le_of_ble_eq_true rfl, Nat.le_of_ble_eq_true rfl⟩) hS (fun q _ h => hFc q h) hFc (fun r_12 u9 t9 H1 locs ht9 hvm9 hw9 hB9 hz9 hk9 hS => ?_)
  have hP : va_P (gD g) cl0 ws H1 := by rw [← ht9]; exact hB9.1
  have hz_r_12 : r_12 = 0 ∨ r_12 = 1 := hw9
  clear hB9 hz9 hk9 hvm9 ht9 hw9
  generalize H1 = H at hP hS ⊢
  refine lv_istore (lv' := [(5, .int r_12), (4, .int z_10), (3, .int r_6), (0, .ref h0), (1, .int x1), (2, .int x2)]) hx hb dX4_spread_42 hl (by decide) rfl (fun ls hl => ?_)
  refine lv_aload_n hx hb dX4_spread_44 rfl (lv_at hl 3 rfl) ?_
  refine va_get (D := gD g) (ci := 4) (v := .ref b_3) (C := RX4) (T := TX4) (N := 8) hx hb hts inX4 hown hK hP k_1 hk_1 rfl 4 (by decide) (hts _ kw_954) (fun _ h9 => h9) rfl dX4_spread_45 ?_
  refine lv_iload_n hx hb dX4_spread_48 rfl (lv_at hl 4 rfl) ?_
  have hFc := gfree hD hS hA
  obtain ⟨k_13, fs_13, hk_13⟩ := gC_of o_b_3
  refine va_calli (va_runV (As := [.int x1]) (rest := []) ⟨hx, hb, hml, hown, hts⟩ (m_X8_opAt l g H.size ws b_3 (x1) hG o_b_3) (cwV 1 hts (gd_V kw_992 kw_1513 kw_1514 kw_782 kw_1512) rfl rfl rfl (by decide +kernel) ⟨Nat.le_of_ble_eq_true rfl, Nat.le_of_ble_eq_true rfl⟩) ⟨gblind, va_recv hK hP (ci := 7) (q0 := k_13) rfl hk_13, fun U hU hW9 => gmk hU hW9 hP hK hD hex hE hS hFc⟩ rfl rfl hl.1 rfl (lv_room (Nat.le_of_ble_eq_true rfl)) dX4_spread_49 ⟨Nat.le_of_ble_eq_true rfl, Nat.le_of_ble_eq_true rfl⟩) hS (fun q _ h => hFc q h) hFc (fun r_14 u9 t9 H1 locs ht9 hvm9 hw9 hB9 hz9 hk9 hS => ?_)
  have hP : va_P (gD g) cl0 ws H1 := by rw [← ht9]; exact hB9.1
  clear hB9 hz9 hk9 hvm9 ht9 hw9
  generalize H1 = H at hP hS ⊢
  have hFc := gfree hD hS hA
  refine va_calli (va_runS (As := [.int r_14]) (rest := []) ⟨hx, hb, hml, hown, hts⟩ (m_X6_goesOn l g H.size ws (r_14) hG ) (va_cwS 1 hts (gd_S kw_993 kw_1219 kw_1207 kw_1218) rfl rfl rfl (by decide +kernel) ⟨Nat.le_of_ble_eq_true rfl, Nat.le_of_ble_eq_true rfl⟩) ⟨gblind, fun U hU hW9 => gmk hU hW9 hP hK hD hex hE hS hFc⟩ rfl rfl hl.1 rfl (lv_room (Nat.le_of_ble_eq_true rfl)) dX4_spread_52 ⟨Nat.le_of_ble_eq_true rfl, Nat.le_of_ble_eq_true rfl⟩) hS (fun q _ h => hFc q h) hFc (fun r_15 u9 t9 H1 locs ht9 hvm9 hw9 hB9 hz9 hk9 hS => ?_)
  have hP : va_P (gD g) cl0 ws H1 := by rw [← ht9]; exact hB9.1
  have hz_r_15 : r_15 = 0 ∨ r_15 = 1 := hw9
  clear hB9 hz9 hk9 hvm9 ht9 hw9
  generalize H1 = H at hP hS ⊢
  refine lv_istore (lv' := [(6, .int r_15), (5, .int r_12), (4, .int z_10), (3, .int r_6), (0, .ref h0), (1, .int x1), (2, .int x2)]) hx hb dX4_spread_55 hl (by decide) rfl (fun ls hl => ?_)
  refine lv_iload_n hx hb dX4_spread_57 rfl (lv_at hl 6 rfl) ?_
  refine lv_iload_n hx hb dX4_spread_58 rfl (lv_at hl 3 rfl) ?_
  have J_102 : ∀  (H : Heap) (locs : List Loc) (ls : Array Slot), va_P (gD g) cl0 ws H → va_D A ws → va_S A s.heap H locs → lv_has ls 9 [(0, .ref h0), (1, .int x1)] → W p l e (headSpec (wt yX4_spread cX4_spread 9 none) ({ frames := 3, cells := 0, slots := 0, locals := 66 })).room s m ([.ref h0, .int x1, .int x2] : List Value).toArray below meth c H locs (0) (0) (MQ below (va_Qv (fun (u9 : va_W) => True) (gQ1 g [(4, 6), (4, 7)] [(4, 0), (4, 1), (4, 2)] none A ws) A) ([.ref h0, .int x1, .int x2] : List Value).toArray s (0) (0) A) (F0 m 102 ls []) := by
    intro  H locs ls  hP hD hS hl
    refine lv_aload_n hx hb dX4_spread_102 rfl (lv_at hl 0 rfl) ?_
    refine va_get (D := gD g) (ci := 4) (v := .ref r2_1) (C := RX4) (T := TX4) (N := 8) hx hb hts inX4 hown hK hP k_1 hk_1 rfl 2 (by decide) (hts _ kw_966) (fun _ h9 => h9) rfl dX4_spread_103 ?_
    refine lv_iload_n hx hb dX4_spread_106 rfl (lv_at hl 1 rfl) ?_
    refine lv_iconst (v := 1) hx hb dX4_spread_107 (by decide) ?_
    obtain ⟨k_18, f_18, hk_18⟩ := gI_of a_r2_1
    have hC9 : hol ws r2_1 [(4, 2)] := (hol_u hG.u hk_1 (j := 2) rfl a_r2_1 (by decide))
    have hS9 : holS ws r2_1 none := holS_n
    refine va_zast hx hb hK hP hD hS k_18 2 hk_18 rfl (i_in2 (by have q_p0 := p0; have q_f5_1 := f5_1; have q_f10_1 := f10_1; have q_fq_w := fq_w; have q_f1_1 := f1_1; have q_f9_1 := f9_1; have q_f11_1 := f11_1; have g_x1 := i_rg x1; omega)) dX4_spread_108 (fun H locs hP hD hS => ?_)
    obtain ⟨ws_19, e_ws_19⟩ : ∃ z, z = ws.set k_18 (r2_1, .inl (g.cZ, n2_1, .inl (upd f_18 (x1 : Int32).toNatClampNeg (vp_nar .boolean 1)))) := ⟨_, rfl⟩
    have hP : va_P (gD g) cl0 ws_19 H := by rw [e_ws_19]; exact hP
    have hD : va_D A ws_19 := by rw [e_ws_19]; exact hD
    have E_20 : gE ws ws_19 := gE_ari e_ws_19 hk_18
    have hG : Good g ws_19 := Good_arZ e_ws_19 hk_18 hG
    have Fr_21 : gF [] [(4, 2)] none ws ws_19 := gF_ar e_ws_19 hk_18 rfl hC9 hS9
    have hk_1 := gset_arO e_ws_19 hk_18 hk_1
    have o_h0 := E_20.1 _ _ o_h0
    have a_r0_1 := E_20.1 _ _ a_r0_1
    have a_r1_1 := E_20.1 _ _ a_r1_1
    have a_r2_1 := E_20.1 _ _ a_r2_1
    have o_b_2 := E_20.1 _ _ o_b_2
    have o_b_3 := E_20.1 _ _ o_b_3
    refine W.widen (k := 0) (n := 0) (Nat.le_of_ble_eq_true rfl) (Nat.le_of_ble_eq_true rfl) ?_
    exact W.vret hx hb hr (fun t9 ht9 hW9 => ⟨⟨ws_19, rfl, trivial, ⟨E_20, (gF.mo (F' := [(4, 6), (4, 7)]) (C' := [(4, 0), (4, 1), (4, 2)]) (S' := none) Fr_21 (fun _ h => absurd h List.not_mem_nil) (by decide) (Or.inr rfl)), hG, by rw [ht9]; exact hP, hD⟩⟩, hS.F ht9⟩) hS.2.2 dX4_spread_109
  refine lv_icmp_lt (tgt := 102) hx hb dX4_spread_59 (by decide) (fun c_22 => ?_) (fun c_22 => ?_)
  · exact J_102  H locs ls  hP hD hS (lv_sub hl [4, 5] rfl)
  · refine lv_iload hx hb dX4_spread_62 (lv_at hl 2 rfl) ?_
    refine lv_aload_n hx hb dX4_spread_64 rfl (lv_at hl 4 rfl) ?_
    refine va_get (D := gD g) (ci := 4) (v := .int c5_1) (C := RX4) (T := TX4) (N := 8) hx hb hts inX4 hown hK hP k_1 hk_1 rfl 5 (by decide) (hts _ kw_979) (fun _ h9 => h9) rfl dX4_spread_65 ?_
    refine lv_icmp_gt (tgt := 102) hx hb dX4_spread_68 (by decide) (fun c_23 => ?_) (fun c_23 => ?_)
    · exact J_102  H locs ls  hP hD hS (lv_sub hl [4, 5] rfl)
    · refine lv_iload hx hb dX4_spread_71 (lv_at hl 1 rfl) ?_
      have J_84 : ∀  (H : Heap) (locs : List Loc) (ls : Array Slot), va_P (gD g) cl0 ws H → va_D A ws → va_S A s.heap H locs → lv_has ls 9 [(0, .ref h0), (1, .int x1), (4, .int z_10), (5, .int r_12), (6, .int r_15)] → W p l e (headSpec (wt yX4_spread cX4_spread 9 none) ({ frames := 3, cells := 0, slots := 0, locals := 66 })).room s m ([.ref h0, .int x1, .int x2] : List Value).toArray below meth c H locs (0) (0) (MQ below (va_Qv (fun (u9 : va_W) => True) (gQ1 g [(4, 6), (4, 7)] [(4, 0), (4, 1), (4, 2)] none A ws) A) ([.ref h0, .int x1, .int x2] : List Value).toArray s (0) (0) A) (F0 m 84 ls []) := by
        intro  H locs ls  hP hD hS hl
        refine lv_iload hx hb dX4_spread_84 (lv_at hl 4 rfl) ?_
        have J_110 : ∀  (H : Heap) (locs : List Loc) (ls : Array Slot), va_P (gD g) cl0 ws H → va_D A ws → va_S A s.heap H locs → lv_has ls 9 [(0, .ref h0), (1, .int x1), (4, .int z_10), (5, .int r_12), (6, .int r_15)] → W p l e (headSpec (wt yX4_spread cX4_spread 9 none) ({ frames := 3, cells := 0, slots := 0, locals := 66 })).room s m ([.ref h0, .int x1, .int x2] : List Value).toArray below meth c H locs (0) (0) (MQ below (va_Qv (fun (u9 : va_W) => True) (gQ1 g [(4, 6), (4, 7)] [(4, 0), (4, 1), (4, 2)] none A ws) A) ([.ref h0, .int x1, .int x2] : List Value).toArray s (0) (0) A) (F0 m 110 ls []) := by
          intro  H locs ls  hP hD hS hl
          refine lv_aload_n hx hb dX4_spread_110 rfl (lv_at hl 0 rfl) ?_
          refine lv_aload_n hx hb dX4_spread_111 rfl (lv_at hl 0 rfl) ?_
          refine va_get (D := gD g) (ci := 4) (v := .int c7_1) (C := RX4) (T := TX4) (N := 8) hx hb hts inX4 hown hK hP k_1 hk_1 rfl 7 (by decide) (hts _ kw_980) (fun _ h9 => h9) rfl dX4_spread_112 ?_
          refine lv_iload hx hb dX4_spread_115 (lv_at hl 2 rfl) ?_
          refine lv_iload hx hb dX4_spread_117 (lv_at hl 3 rfl) ?_
          have J_127 : ∀ (t_28 : Int32) (H : Heap) (locs : List Loc) (ls : Array Slot), t_28 = 0 ∨ t_28 = 1 → va_P (gD g) cl0 ws H → va_D A ws → va_S A s.heap H locs → lv_has ls 9 [(0, .ref h0), (1, .int x1), (4, .int z_10), (5, .int r_12), (6, .int r_15)] → W p l e (headSpec (wt yX4_spread cX4_spread 9 none) ({ frames := 3, cells := 0, slots := 0, locals := 66 })).room s m ([.ref h0, .int x1, .int x2] : List Value).toArray below meth c H locs (0) (0) (MQ below (va_Qv (fun (u9 : va_W) => True) (gQ1 g [(4, 6), (4, 7)] [(4, 0), (4, 1), (4, 2)] none A ws) A) ([.ref h0, .int x1, .int x2] : List Value).toArray s (0) (0) A) (F0 m 127 ls [.int t_28, .int z_10, .int c7_1, .ref h0]) := by
            intro t_28 H locs ls iv_29 hP hD hS hl
            have hz_t_28 := iv_29
            refine va_mmax hx hb (by rw [hml]; exact hl.1.symm) hown (hts _ kw_994) (hts _ kw_1747) (hts _ kw_1748) (hts _ kw_1746) (Nat.le_of_ble_eq_true rfl) (Nat.le_of_ble_eq_true rfl) (Nat.le_of_ble_eq_true rfl) (Nat.le_of_ble_eq_true rfl) dX4_spread_127 ?_
            refine lv_topi (fun z_32 ez_32 => ?_)
            refine va_mmax hx hb (by rw [hml]; exact hl.1.symm) hown (hts _ kw_994) (hts _ kw_1747) (hts _ kw_1748) (hts _ kw_1746) (Nat.le_of_ble_eq_true rfl) (Nat.le_of_ble_eq_true rfl) (Nat.le_of_ble_eq_true rfl) (Nat.le_of_ble_eq_true rfl) dX4_spread_130 ?_
            refine lv_topi (fun z_33 ez_33 => ?_)
            have hV9 : okv ws 4 7 (.int z_33) := okv_i
            refine va_put (D := gD g) (ci := 4) (v := .int z_33) (ty := .int) (C := RX4) (T := TX4) (N := 8) hx hb hts inX4 tyX4 tyX4_ok nmX4 hown hK hP hD hS k_1 hk_1 rfl 7 (by decide) (hts _ kw_980) (fun _ h9 => h9) rfl (by decide +kernel) rfl rfl (Nat.le_of_ble_eq_true rfl) dX4_spread_133 (fun H locs hP hD hS => ?_)
            have hi_34 : invX4 g ws h0 [.ref r0_1, .ref r1_1, .ref r2_1, .ref b_2, .ref b_3, .int c5_1, .int c6_1, .int z_33] := ⟨r0_1, (n0_1), r1_1, (n1_1), r2_1, (n2_1), (some b_2), (some b_3), (c5_1), (c6_1), (z_33), rfl, a_r0_1, f1_1, a_r1_1, f3_1, a_r2_1, f5_1, (fun b h9 => by cases h9; exact o_b_2), (fun b h9 => by cases h9; exact o_b_3), hz_c6_1, f9_1, f10_1, f11_1, trivial⟩
            obtain ⟨ws_35, e_ws_35⟩ : ∃ z, z = ws.set k_1 (h0, .inr (4, [.ref r0_1, .ref r1_1, .ref r2_1, .ref b_2, .ref b_3, .int c5_1, .int c6_1, .int z_33])) := ⟨_, rfl⟩
            have hP : va_P (gD g) cl0 ws_35 H := by rw [e_ws_35]; exact hP
            have hD : va_D A ws_35 := by rw [e_ws_35]; exact hD
            have E_36 : gE ws ws_35 := gE_set e_ws_35 hk_1 (cw_o (fi := 7) (v := .int z_33) rfl (by decide))
            have hG : Good g ws_35 := Good_set (fi := 7) (v := .int z_33) e_ws_35 hk_1 E_36 rfl hV9 hG (ivX4 hi_34)
            have Fr_37 : gF [(4, 7)] [] (some h0) ws ws_35 := gF_put (fi := 7) (v := .int z_33) e_ws_35 hk_1 rfl (by decide)
            have hkN := gset_self e_ws_35 hk_1
            have hk_1 := hkN
            have o_h0 := E_36.1 _ _ o_h0
            have a_r0_1 := E_36.1 _ _ a_r0_1
            have a_r1_1 := E_36.1 _ _ a_r1_1
            have a_r2_1 := E_36.1 _ _ a_r2_1
            have o_b_2 := E_36.1 _ _ o_b_2
            have o_b_3 := E_36.1 _ _ o_b_3
            refine lv_iload hx hb dX4_spread_136 (lv_at hl 4 rfl) ?_
            have J_150 : ∀ (ws_38 : va_W) (H : Heap) (locs : List Loc) (ls : Array Slot), gE ws_35 ws_38 → gF [(4, 6)] [(4, 0), (4, 1)] none ws_35 ws_38 → Good g ws_38 → va_P (gD g) cl0 ws_38 H → va_D A ws_38 → va_S A s.heap H locs → lv_has ls 9 [(0, .ref h0), (1, .int x1), (4, .int z_10), (5, .int r_12)] → W p l e (headSpec (wt yX4_spread cX4_spread 9 none) ({ frames := 3, cells := 0, slots := 0, locals := 66 })).room s m ([.ref h0, .int x1, .int x2] : List Value).toArray below meth c H locs (0) (0) (MQ below (va_Qv (fun (u9 : va_W) => True) (gQ1 g [(4, 6), (4, 7)] [(4, 0), (4, 1), (4, 2)] none A ws) A) ([.ref h0, .int x1, .int x2] : List Value).toArray s (0) (0) A) (F0 m 150 ls []) := by
              intro ws_38 H locs ls  E_39 Fr_40 hG hP hD hS hl
              have aa_41 := a_r0_1
              have aa_42 := a_r1_1
              have aa_43 := a_r2_1
              have o_h0 := E_39.1 _ _ o_h0
              refine lv_aload_n hx hb dX4_spread_150 rfl (lv_at hl 0 rfl) ?_
              obtain ⟨fs9, hk_44, hq_44⟩ := ((gF.a (F' := [(4, 6)]) Fr_40 (fun _ h => h))) _ _ _ hk_1
              obtain ⟨r0_44, n0_44, r1_44, n1_44, r2_44, n2_44, v3_44, v4_44, c5_44, c6_44, c7_44, rfl, a_r0_44, f1_44, a_r1_44, f3_44, a_r2_44, f5_44, o_v3_44, o_v4_44, hz_c6_44, f9_44, f10_44, f11_44, -⟩ := (hG.1 _ _ _ _ hk_44).hX4 rfl
              obtain rfl := fe_r (hq_44 2 (by decide))
              have hn9 := gI_n hD ((E_39).1 _ _ aa_43) a_r2_44
              subst hn9
              have a_r2_1 := a_r2_44
              have hn9 := fe_qr (hq_44 3 (by decide))
              subst hn9
              have o_b_2 := o_v3_44 _ rfl
              have hn9 := fe_qr (hq_44 4 (by decide))
              subst hn9
              have o_b_3 := o_v4_44 _ rfl
              obtain rfl := fe_i (hq_44 5 (by decide))
              obtain rfl := fe_i (hq_44 7 (by decide))
              refine va_get (D := gD g) (ci := 4) (v := .ref b_3) (C := RX4) (T := TX4) (N := 8) hx hb hts inX4 hown hK hP k_1 hk_44 rfl 4 (by decide) (hts _ kw_954) (fun _ h9 => h9) rfl dX4_spread_151 ?_
              refine lv_iload_n hx hb dX4_spread_154 rfl (lv_at hl 1 rfl) ?_
              have hFc := gfree hD hS hA
              obtain ⟨k_45, fs_45, hk_45⟩ := gC_of o_b_3
              refine va_calli (va_runV (As := [.int x1]) (rest := []) ⟨hx, hb, hml, hown, hts⟩ (m_X8_targetCount l g H.size ws_38 b_3 (x1) hG o_b_3) (cwV 1 hts (gd_V kw_995 kw_1541 kw_1542 kw_782 kw_1540) rfl rfl rfl (by decide +kernel) ⟨Nat.le_of_ble_eq_true rfl, Nat.le_of_ble_eq_true rfl⟩) ⟨gblind, va_recv hK hP (ci := 7) (q0 := k_45) rfl hk_45, fun U hU hW9 => gmk hU hW9 hP hK hD hex hE hS hFc⟩ rfl rfl hl.1 rfl (lv_room (Nat.le_of_ble_eq_true rfl)) dX4_spread_155 ⟨Nat.le_of_ble_eq_true rfl, Nat.le_of_ble_eq_true rfl⟩) hS (fun q _ h => hFc q h) hFc (fun r_46 u9 t9 H1 locs ht9 hvm9 hw9 hB9 hz9 hk9 hS => ?_)
              have hP : va_P (gD g) cl0 ws_38 H1 := by rw [← ht9]; exact hB9.1
              clear hB9 hz9 hk9 hvm9 ht9 hw9
              generalize H1 = H at hP hS ⊢
              refine lv_istore (lv' := [(7, .int r_46), (0, .ref h0), (1, .int x1), (4, .int z_10), (5, .int r_12)]) hx hb dX4_spread_158 hl (by decide) rfl (fun ls hl => ?_)
              refine lv_iconst (v := 0) hx hb dX4_spread_160 (by decide) ?_
              refine lv_istore (lv' := [(8, .int 0), (7, .int r_46), (0, .ref h0), (1, .int x1), (4, .int z_10), (5, .int r_12)]) hx hb dX4_spread_161 hl (by decide) rfl (fun ls hl => ?_)
              have J_163 : ∀ (n9 : Nat) (v8_47 : Int32) (ws_49 : va_W) (H : Heap) (locs : List Loc) (ls : Array Slot), (2147483647 - v8_47.toInt).toNat = n9 → 0 ≤ v8_47.toInt → gE ws_38 ws_49 → gF [(4, 6)] [(4, 0), (4, 1)] none ws_38 ws_49 → Good g ws_49 → va_P (gD g) cl0 ws_49 H → va_D A ws_49 → va_S A s.heap H locs → lv_has ls 9 [(0, .ref h0), (1, .int x1), (4, .int z_10), (5, .int r_12), (7, .int r_46), (8, .int v8_47)] → W p l e (headSpec (wt yX4_spread cX4_spread 9 none) ({ frames := 3, cells := 0, slots := 0, locals := 66 })).room s m ([.ref h0, .int x1, .int x2] : List Value).toArray below meth c H locs (0) (0) (MQ below (va_Qv (fun (u9 : va_W) => True) (gQ1 g [(4, 6), (4, 7)] [(4, 0), (4, 1), (4, 2)] none A ws) A) ([.ref h0, .int x1, .int x2] : List Value).toArray s (0) (0) A) (F0 m 163 ls []) := by
                intro n9
                induction n9 using Nat.strongRecOn with
                | ind n9 ih_163 =>
                  intro v8_47 ws_49 H locs ls hm9 iv_48 E_50 Fr_51 hG hP hD hS hl
                  subst hm9
                  have aa_52 := a_r0_44
                  have aa_53 := a_r1_44
                  have aa_54 := a_r2_1
                  have o_h0 := E_50.1 _ _ o_h0
                  refine lv_iload hx hb dX4_spread_163 (lv_at hl 5 rfl) ?_
                  refine lv_iload hx hb dX4_spread_165 (lv_at hl 4 rfl) ?_
                  refine lv_icmp_ge (tgt := 192) hx hb dX4_spread_167 (by decide) (fun c_55 => ?_) (fun c_55 => ?_)
                  · refine lv_iconst (v := 0) hx hb dX4_spread_192 (by decide) ?_
                    refine lv_istore (lv' := [(8, .int 0), (0, .ref h0), (1, .int x1), (4, .int z_10), (5, .int r_12), (7, .int r_46)]) hx hb dX4_spread_193 hl (by decide) rfl (fun ls hl => ?_)
                    have J_195 : ∀ (n9 : Nat) (v8_56 : Int32) (ws_58 : va_W) (H : Heap) (locs : List Loc) (ls : Array Slot), (2147483647 - v8_56.toInt).toNat = n9 → 0 ≤ v8_56.toInt → gE ws_49 ws_58 → gF [(4, 6)] [(4, 0), (4, 1)] none ws_49 ws_58 → Good g ws_58 → va_P (gD g) cl0 ws_58 H → va_D A ws_58 → va_S A s.heap H locs → lv_has ls 9 [(0, .ref h0), (1, .int x1), (5, .int r_12), (8, .int v8_56)] → W p l e (headSpec (wt yX4_spread cX4_spread 9 none) ({ frames := 3, cells := 0, slots := 0, locals := 66 })).room s m ([.ref h0, .int x1, .int x2] : List Value).toArray below meth c H locs (0) (0) (MQ below (va_Qv (fun (u9 : va_W) => True) (gQ1 g [(4, 6), (4, 7)] [(4, 0), (4, 1), (4, 2)] none A ws) A) ([.ref h0, .int x1, .int x2] : List Value).toArray s (0) (0) A) (F0 m 195 ls []) := by
                      intro n9
                      induction n9 using Nat.strongRecOn with
                      | ind n9 ih_195 =>
                        intro v8_56 ws_58 H locs ls hm9 iv_57 E_59 Fr_60 hG hP hD hS hl
                        subst hm9
                        have o_h0 := E_59.1 _ _ o_h0
                        refine lv_iload hx hb dX4_spread_195 (lv_at hl 2 rfl) ?_
                        have J_246 : ∀  (H : Heap) (locs : List Loc) (ls : Array Slot), va_P (gD g) cl0 ws_58 H → va_D A ws_58 → va_S A s.heap H locs → lv_has ls 9 [] → W p l e (headSpec (wt yX4_spread cX4_spread 9 none) ({ frames := 3, cells := 0, slots := 0, locals := 66 })).room s m ([.ref h0, .int x1, .int x2] : List Value).toArray below meth c H locs (0) (0) (MQ below (va_Qv (fun (u9 : va_W) => True) (gQ1 g [(4, 6), (4, 7)] [(4, 0), (4, 1), (4, 2)] none A ws) A) ([.ref h0, .int x1, .int x2] : List Value).toArray s (0) (0) A) (F0 m 246 ls []) := by
                          intro  H locs ls  hP hD hS hl
                          refine W.widen (k := 0) (n := 0) (Nat.le_of_ble_eq_true rfl) (Nat.le_of_ble_eq_true rfl) ?_
                          exact W.vret hx hb hr (fun t9 ht9 hW9 => ⟨⟨ws_58, rfl, trivial, ⟨(E_36.tr (E_39.tr (E_50.tr E_59))), (gF.tr (gF.mo (F' := [(4, 6), (4, 7)]) (C' := [(4, 0), (4, 1), (4, 2)]) (S' := none) Fr_37 (by decide) (fun _ h => absurd h List.not_mem_nil) (Or.inl rfl)) (gF.tr (gF.mo (F' := [(4, 6), (4, 7)]) (C' := [(4, 0), (4, 1), (4, 2)]) (S' := none) Fr_40 (by decide) (by decide) (Or.inr rfl)) (gF.tr (gF.mo (F' := [(4, 6), (4, 7)]) (C' := [(4, 0), (4, 1), (4, 2)]) (S' := none) Fr_51 (by decide) (by decide) (Or.inr rfl)) (gF.mo (F' := [(4, 6), (4, 7)]) (C' := [(4, 0), (4, 1), (4, 2)]) (S' := none) Fr_60 (by decide) (by decide) (Or.inr rfl))))), hG, by rw [ht9]; exact hP, hD⟩⟩, hS.F ht9⟩) hS.2.2 dX4_spread_246
                        refine lv_if_eq (tgt := 246) hx hb dX4_spread_197 (by decide) (fun c_63 => ?_) (fun c_63 => ?_)
                        · exact J_246  H locs ls  hP hD hS (lv_sub hl [] rfl)
                        · refine lv_iload hx hb dX4_spread_200 (lv_at hl 3 rfl) ?_
                          refine lv_aload_n hx hb dX4_spread_202 rfl (lv_at hl 0 rfl) ?_
                          obtain ⟨fs9, hk_64, hq_64⟩ := ((gA.tr (gF.a (F' := [(4, 6)]) Fr_51 (fun _ h => h)) (gF.a (F' := [(4, 6)]) Fr_60 (fun _ h => h)))) _ _ _ hk_44
                          obtain ⟨r0_64, n0_64, r1_64, n1_64, r2_64, n2_64, v3_64, v4_64, c5_64, c6_64, c7_64, rfl, a_r0_64, f1_64, a_r1_64, f3_64, a_r2_64, f5_64, o_v3_64, o_v4_64, hz_c6_64, f9_64, f10_64, f11_64, -⟩ := (hG.1 _ _ _ _ hk_64).hX4 rfl
                          obtain rfl := fe_r (hq_64 2 (by decide))
                          have hn9 := gI_n hD (((E_50.tr E_59)).1 _ _ aa_54) a_r2_64
                          subst hn9
                          have a_r2_1 := a_r2_64
                          have hn9 := fe_qr (hq_64 3 (by decide))
                          subst hn9
                          have o_b_2 := o_v3_64 _ rfl
                          have hn9 := fe_qr (hq_64 4 (by decide))
                          subst hn9
                          have o_b_3 := o_v4_64 _ rfl
                          obtain rfl := fe_i (hq_64 5 (by decide))
                          obtain rfl := fe_i (hq_64 7 (by decide))
                          refine va_get (D := gD g) (ci := 4) (v := .ref b_3) (C := RX4) (T := TX4) (N := 8) hx hb hts inX4 hown hK hP k_1 hk_64 rfl 4 (by decide) (hts _ kw_954) (fun _ h9 => h9) rfl dX4_spread_203 ?_
                          obtain ⟨k_65, fs9, hk_65⟩ := gC_of o_b_3
                          obtain ⟨r0_65, n0_65, r1_65, n1_65, c2_65, r3_65, n3_65, c4_65, r5_65, n5_65, r6_65, n6_65, r7_65, n7_65, r8_65, n8_65, c9_65, c10_65, c11_65, v12_65, v13_65, v14_65, rfl, a_r0_65, f1_65, a_r1_65, f3_65, a_r3_65, f5_65, a_r5_65, f7_65, a_r6_65, f9_65, a_r7_65, f11_65, a_r8_65, f13_65, o_v12_65, o_v13_65, o_v14_65, f17_65, f18_65, f19_65, f20_65, f21_65, f22_65, f23_65, f24_65, f25_65, f26_65, f27_65, f28_65, f29_65, -⟩ := (hG.1 _ _ _ _ hk_65).hX8 rfl
                          refine va_get (D := gD g) (ci := 7) (v := .int c9_65) (C := RX8) (T := TX8) (N := 15) hx hb hts inX8 hown hK hP k_65 hk_65 rfl 9 (by decide) (hts _ kw_997) (fun _ h9 => h9) rfl dX4_spread_206 ?_
                          refine lv_icmp_ge (tgt := 246) hx hb dX4_spread_209 (by decide) (fun c_66 => ?_) (fun c_66 => ?_)
                          · exact J_246  H locs ls  hP hD hS (lv_sub hl [] rfl)
                          · refine lv_aload_n hx hb dX4_spread_212 rfl (lv_at hl 0 rfl) ?_
                            refine va_get (D := gD g) (ci := 4) (v := .ref b_3) (C := RX4) (T := TX4) (N := 8) hx hb hts inX4 hown hK hP k_1 hk_64 rfl 4 (by decide) (hts _ kw_954) (fun _ h9 => h9) rfl dX4_spread_213 ?_
                            refine lv_iload hx hb dX4_spread_216 (lv_at hl 3 rfl) ?_
                            refine lv_iload_n hx hb dX4_spread_218 rfl (lv_at hl 1 rfl) ?_
                            have hFc := gfree hD hS hA
                            refine va_calli (va_runV (As := [.int v8_56, .int x1]) (rest := []) ⟨hx, hb, hml, hown, hts⟩ (m_X8_catchHas l g H.size ws_58 b_3 (v8_56) (x1) hG o_b_3) (cwV 2 hts (gd_V kw_998 kw_1483 kw_1484 kw_782 kw_1482) rfl rfl rfl (by decide +kernel) ⟨Nat.le_of_ble_eq_true rfl, Nat.le_of_ble_eq_true rfl⟩) ⟨gblind, va_recv hK hP (ci := 7) (q0 := k_65) rfl hk_65, fun U hU hW9 => gmk hU hW9 hP hK hD hex hE hS hFc⟩ rfl rfl hl.1 rfl (lv_room (Nat.le_of_ble_eq_true rfl)) dX4_spread_219 ⟨Nat.le_of_ble_eq_true rfl, Nat.le_of_ble_eq_true rfl⟩) hS (fun q _ h => hFc q h) hFc (fun r_67 u9 t9 H1 locs ht9 hvm9 hw9 hB9 hz9 hk9 hS => ?_)
                            have hP : va_P (gD g) cl0 ws_58 H1 := by rw [← ht9]; exact hB9.1
                            have hz_r_67 : r_67 = 0 ∨ r_67 = 1 := hw9
                            clear hB9 hz9 hk9 hvm9 ht9 hw9
                            generalize H1 = H at hP hS ⊢
                            have J_240 : ∀ (ws_68 : va_W) (H : Heap) (locs : List Loc) (ls : Array Slot), gE ws_58 ws_68 → gF [(4, 6)] [(4, 0), (4, 1)] none ws_58 ws_68 → Good g ws_68 → va_P (gD g) cl0 ws_68 H → va_D A ws_68 → va_S A s.heap H locs → lv_has ls 9 [(0, .ref h0), (1, .int x1), (5, .int r_12), (8, .int v8_56)] → W p l e (headSpec (wt yX4_spread cX4_spread 9 none) ({ frames := 3, cells := 0, slots := 0, locals := 66 })).room s m ([.ref h0, .int x1, .int x2] : List Value).toArray below meth c H locs (0) (0) (MQ below (va_Qv (fun (u9 : va_W) => True) (gQ1 g [(4, 6), (4, 7)] [(4, 0), (4, 1), (4, 2)] none A ws) A) ([.ref h0, .int x1, .int x2] : List Value).toArray s (0) (0) A) (F0 m 240 ls []) := by
                              intro ws_68 H locs ls  E_69 Fr_70 hG hP hD hS hl
                              have aa_71 := a_r0_64
                              have aa_72 := a_r1_64
                              have aa_73 := a_r2_1
                              have aa_74 := a_r0_65
                              have aa_75 := a_r1_65
                              have aa_76 := a_r3_65
                              have aa_77 := a_r5_65
                              have aa_78 := a_r6_65
                              have aa_79 := a_r7_65
                              have aa_80 := a_r8_65
                              have o_h0 := E_69.1 _ _ o_h0
                              obtain ⟨z_81, ez_81⟩ : ∃ z : Int32, v8_56 + Int32.ofInt 1 = z := ⟨_, rfl⟩
                              refine lv_iinc (v := z_81) (lv' := [(8, .int z_81), (0, .ref h0), (1, .int x1), (5, .int r_12)]) hx hb dX4_spread_240 hl (k := 3) rfl ez_81 (by decide) rfl (fun ls hl => ?_)
                              refine lv_goto (tgt := 195) hx hb dX4_spread_243 (by decide) ?_
                              exact ih_195 _ (by obtain ⟨u_z_81, q_z_81⟩ := i_iz ez_81 (by decide) (by decide); have q_iv_57 := iv_57; have q_c_66 := i_nle c_66; have g_c9_65 := i_rg c9_65; have g_v8_56 := i_rg v8_56; have g_z_81 := i_rg z_81; omega) (z_81) ws_68 H locs ls rfl (by obtain ⟨u_z_81, q_z_81⟩ := i_iz ez_81 (by decide) (by decide); have q_iv_57 := iv_57; have q_c_66 := i_nle c_66; have g_c9_65 := i_rg c9_65; have g_v8_56 := i_rg v8_56; have g_z_81 := i_rg z_81; omega) ((E_59.tr E_69)) ((gF.tr Fr_60 Fr_70)) hG hP hD hS (lv_sub hl [1, 2, 3, 0] rfl)
                            refine lv_if_eq (tgt := 240) hx hb dX4_spread_222 (by decide) (fun c_82 => ?_) (fun c_82 => ?_)
                            · exact J_240 ws_58 H locs ls (gE.rf) (gF.rf) hG hP hD hS (lv_sub hl [0, 1, 2, 3] rfl)
                            · refine lv_aload_n hx hb dX4_spread_225 rfl (lv_at hl 0 rfl) ?_
                              refine lv_aload_n hx hb dX4_spread_226 rfl (lv_at hl 0 rfl) ?_
                              refine va_get (D := gD g) (ci := 4) (v := .ref b_3) (C := RX4) (T := TX4) (N := 8) hx hb hts inX4 hown hK hP k_1 hk_64 rfl 4 (by decide) (hts _ kw_954) (fun _ h9 => h9) rfl dX4_spread_227 ?_
                              refine va_get (D := gD g) (ci := 7) (v := .ref r7_65) (C := RX8) (T := TX8) (N := 15) hx hb hts inX8 hown hK hP k_65 hk_65 rfl 7 (by decide) (hts _ kw_999) (fun _ h9 => h9) rfl dX4_spread_230 ?_
                              refine lv_iload hx hb dX4_spread_233 (lv_at hl 3 rfl) ?_
                              obtain ⟨k_83, f_83, hk_83⟩ := gI_of a_r7_65
                              refine va_iald hx hb hK hP k_83 1 hk_83 rfl (i_in2 (by have q_iv_57 := iv_57; have q_f11_65 := f11_65; have q_f24_65 := f24_65; have q_c_66 := i_nle c_66; have q_f7_65 := f7_65; have q_f23_65 := f23_65; have q_f25_65 := f25_65; have q_f26_65 := f26_65; have q_f27_65 := f27_65; have q_f29_65 := f29_65; have g_c9_65 := i_rg c9_65; have g_v8_56 := i_rg v8_56; omega)) dX4_spread_235 ?_
                              refine lv_topi (fun z_84 ez_84 => ?_)
                              refine lv_iconst (v := 1) hx hb dX4_spread_236 (by decide) ?_
                              have hFc := gfree hD hS hA
                              refine va_callv (va_runV (As := [.int z_84, .int 1]) (rest := []) ⟨hx, hb, hml, hown, hts⟩ (m_X4_comeTo l g H.size ws_58 h0 (z_84) (1) hG o_h0 (gN_of hD hk_64 (j := 4) rfl)) (cwV 2 hts (gd_V kw_982 kw_952 kw_953 kw_167 kw_951) rfl rfl rfl (by decide +kernel) ⟨Nat.le_of_ble_eq_true rfl, Nat.le_of_ble_eq_true rfl⟩) ⟨gblind, va_recv hK hP (ci := 4) (q0 := k_1) rfl hk_64, fun U hU hW9 => gmk hU hW9 hP hK hD hex hE hS hFc⟩ rfl rfl hl.1 rfl (lv_room (Nat.le_of_ble_eq_true rfl)) dX4_spread_237 ⟨Nat.le_of_ble_eq_true rfl, Nat.le_of_ble_eq_true rfl⟩) hS (fun q _ h => hFc q h) hFc (fun  ws_85 t9 H1 locs ht9 hvm9 hw9 hB9 hz9 hk9 hS => ?_)
                              obtain ⟨E_86, Fr_87, hG, hP1, hD1⟩ := hB9
                              have hP : va_P (gD g) cl0 ws_85 H1 := by rw [← ht9]; exact hP1
                              have hD : va_D A ws_85 := hD1.weaken (fun _ _ _ h => hFc _ h)
                              clear hP1 hD1 hz9 hk9 hvm9 ht9 hw9
                              generalize H1 = H at hP hS ⊢
                              have aa_90 := a_r0_64
                              have aa_91 := a_r1_64
                              have aa_92 := a_r2_1
                              have aa_93 := a_r0_65
                              have aa_94 := a_r1_65
                              have aa_95 := a_r3_65
                              have aa_96 := a_r5_65
                              have aa_97 := a_r6_65
                              have aa_98 := a_r7_65
                              have aa_99 := a_r8_65
                              have o_h0 := E_86.1 _ _ o_h0
                              exact J_240 ws_85 H locs ls (E_86) (Fr_87) hG hP hD hS (lv_sub hl [0, 1, 2, 3] rfl)
                    exact J_195 _ (0) ws_49 H locs ls rfl (by have e0 : (0 : Int32).toInt = 0 := (by decide); omega) (gE.rf) (gF.rf) hG hP hD hS (lv_sub hl [1, 2, 4, 0] rfl)
                  · refine lv_aload_n hx hb dX4_spread_170 rfl (lv_at hl 0 rfl) ?_
                    refine lv_aload_n hx hb dX4_spread_171 rfl (lv_at hl 0 rfl) ?_
                    obtain ⟨fs9, hk_100, hq_100⟩ := ((gF.a (F' := [(4, 6)]) Fr_51 (fun _ h => h))) _ _ _ hk_44
                    obtain ⟨r0_100, n0_100, r1_100, n1_100, r2_100, n2_100, v3_100, v4_100, c5_100, c6_100, c7_100, rfl, a_r0_100, f1_100, a_r1_100, f3_100, a_r2_100, f5_100, o_v3_100, o_v4_100, hz_c6_100, f9_100, f10_100, f11_100, -⟩ := (hG.1 _ _ _ _ hk_100).hX4 rfl
                    obtain rfl := fe_r (hq_100 2 (by decide))
                    have hn9 := gI_n hD ((E_50).1 _ _ aa_54) a_r2_100
                    subst hn9
                    have a_r2_1 := a_r2_100
                    have hn9 := fe_qr (hq_100 3 (by decide))
                    subst hn9
                    have o_b_2 := o_v3_100 _ rfl
                    have hn9 := fe_qr (hq_100 4 (by decide))
                    subst hn9
                    have o_b_3 := o_v4_100 _ rfl
                    obtain rfl := fe_i (hq_100 5 (by decide))
                    obtain rfl := fe_i (hq_100 7 (by decide))
                    refine va_get (D := gD g) (ci := 4) (v := .ref b_3) (C := RX4) (T := TX4) (N := 8) hx hb hts inX4 hown hK hP k_1 hk_100 rfl 4 (by decide) (hts _ kw_954) (fun _ h9 => h9) rfl dX4_spread_172 ?_
                    refine lv_iload_n hx hb dX4_spread_175 rfl (lv_at hl 1 rfl) ?_
                    refine lv_iload hx hb dX4_spread_176 (lv_at hl 5 rfl) ?_
                    have hFc := gfree hD hS hA
                    obtain ⟨k_101, fs_101, hk_101⟩ := gC_of o_b_3
                    refine va_calli (va_runV (As := [.int x1, .int v8_47]) (rest := [.ref h0]) ⟨hx, hb, hml, hown, hts⟩ (m_X8_targetAt l g H.size ws_49 b_3 (x1) (v8_47) hG o_b_3) (cwV 2 hts (gd_V kw_996 kw_1537 kw_1538 kw_782 kw_1536) rfl rfl rfl (by decide +kernel) ⟨Nat.le_of_ble_eq_true rfl, Nat.le_of_ble_eq_true rfl⟩) ⟨gblind, va_recv hK hP (ci := 7) (q0 := k_101) rfl hk_101, fun U hU hW9 => gmk hU hW9 hP hK hD hex hE hS hFc⟩ rfl rfl hl.1 rfl (lv_room (Nat.le_of_ble_eq_true rfl)) dX4_spread_178 ⟨Nat.le_of_ble_eq_true rfl, Nat.le_of_ble_eq_true rfl⟩) hS (fun q _ h => hFc q h) hFc (fun r_102 u9 t9 H1 locs ht9 hvm9 hw9 hB9 hz9 hk9 hS => ?_)
                    have hP : va_P (gD g) cl0 ws_49 H1 := by rw [← ht9]; exact hB9.1
                    clear hB9 hz9 hk9 hvm9 ht9 hw9
                    generalize H1 = H at hP hS ⊢
                    refine lv_iload hx hb dX4_spread_181 (lv_at hl 2 rfl) ?_
                    have hFc := gfree hD hS hA
                    refine va_callv (va_runV (As := [.int r_102, .int z_10]) (rest := []) ⟨hx, hb, hml, hown, hts⟩ (m_X4_comeTo l g H.size ws_49 h0 (r_102) (z_10) hG o_h0 (gN_of hD hk_100 (j := 4) rfl)) (cwV 2 hts (gd_V kw_982 kw_952 kw_953 kw_167 kw_951) rfl rfl rfl (by decide +kernel) ⟨Nat.le_of_ble_eq_true rfl, Nat.le_of_ble_eq_true rfl⟩) ⟨gblind, va_recv hK hP (ci := 4) (q0 := k_1) rfl hk_100, fun U hU hW9 => gmk hU hW9 hP hK hD hex hE hS hFc⟩ rfl rfl hl.1 rfl (lv_room (Nat.le_of_ble_eq_true rfl)) dX4_spread_183 ⟨Nat.le_of_ble_eq_true rfl, Nat.le_of_ble_eq_true rfl⟩) hS (fun q _ h => hFc q h) hFc (fun  ws_103 t9 H1 locs ht9 hvm9 hw9 hB9 hz9 hk9 hS => ?_)
                    obtain ⟨E_104, Fr_105, hG, hP1, hD1⟩ := hB9
                    have hP : va_P (gD g) cl0 ws_103 H1 := by rw [← ht9]; exact hP1
                    have hD : va_D A ws_103 := hD1.weaken (fun _ _ _ h => hFc _ h)
                    clear hP1 hD1 hz9 hk9 hvm9 ht9 hw9
                    generalize H1 = H at hP hS ⊢
                    have aa_108 := a_r0_100
                    have aa_109 := a_r1_100
                    have aa_110 := a_r2_1
                    have o_h0 := E_104.1 _ _ o_h0
                    obtain ⟨z_111, ez_111⟩ : ∃ z : Int32, v8_47 + Int32.ofInt 1 = z := ⟨_, rfl⟩
                    refine lv_iinc (v := z_111) (lv' := [(8, .int z_111), (0, .ref h0), (1, .int x1), (4, .int z_10), (5, .int r_12), (7, .int r_46)]) hx hb dX4_spread_186 hl (k := 5) rfl ez_111 (by decide) rfl (fun ls hl => ?_)
                    refine lv_goto (tgt := 163) hx hb dX4_spread_189 (by decide) ?_
                    exact ih_163 _ (by obtain ⟨u_z_111, q_z_111⟩ := i_iz ez_111 (by decide) (by decide); have q_iv_48 := iv_48; have q_c_55 := i_nle c_55; have g_r_46 := i_rg r_46; have g_v8_47 := i_rg v8_47; have g_z_111 := i_rg z_111; omega) (z_111) ws_103 H locs ls rfl (by obtain ⟨u_z_111, q_z_111⟩ := i_iz ez_111 (by decide) (by decide); have q_iv_48 := iv_48; have q_c_55 := i_nle c_55; have g_r_46 := i_rg r_46; have g_v8_47 := i_rg v8_47; have g_z_111 := i_rg z_111; omega) ((E_50.tr E_104)) ((gF.tr Fr_51 Fr_105)) hG hP hD hS (lv_sub hl [1, 2, 3, 4, 5, 0] rfl)
              exact J_163 _ (0) ws_38 H locs ls rfl (by have e0 : (0 : Int32).toInt = 0 := (by decide); omega) (gE.rf) (gF.rf) hG hP hD hS (lv_sub hl [2, 3, 4, 5, 1, 0] rfl)
            refine lv_if_eq (tgt := 150) hx hb dX4_spread_138 (by decide) (fun c_112 => ?_) (fun c_112 => ?_)
            · exact J_150 ws_35 H locs ls (gE.rf) (gF.rf) hG hP hD hS (lv_sub hl [0, 1, 2, 3] rfl)
            · refine lv_aload_n hx hb dX4_spread_141 rfl (lv_at hl 0 rfl) ?_
              refine lv_iload_n hx hb dX4_spread_142 rfl (lv_at hl 1 rfl) ?_
              refine lv_iconst (v := 1) hx hb dX4_spread_143 (by decide) ?_
              refine lv_iadd hx hb dX4_spread_144 ?_
              refine lv_topi (fun z_113 ez_113 => ?_)
              refine lv_iload hx hb dX4_spread_145 (lv_at hl 2 rfl) ?_
              have hFc := gfree hD hS hA
              refine va_callv (va_runV (As := [.int z_113, .int z_10]) (rest := []) ⟨hx, hb, hml, hown, hts⟩ (m_X4_comeTo l g H.size ws_35 h0 (z_113) (z_10) hG o_h0 (gN_of hD hk_1 (j := 4) rfl)) (cwV 2 hts (gd_V kw_982 kw_952 kw_953 kw_167 kw_951) rfl rfl rfl (by decide +kernel) ⟨Nat.le_of_ble_eq_true rfl, Nat.le_of_ble_eq_true rfl⟩) ⟨gblind, va_recv hK hP (ci := 4) (q0 := k_1) rfl hk_1, fun U hU hW9 => gmk hU hW9 hP hK hD hex hE hS hFc⟩ rfl rfl hl.1 rfl (lv_room (Nat.le_of_ble_eq_true rfl)) dX4_spread_147 ⟨Nat.le_of_ble_eq_true rfl, Nat.le_of_ble_eq_true rfl⟩) hS (fun q _ h => hFc q h) hFc (fun  ws_114 t9 H1 locs ht9 hvm9 hw9 hB9 hz9 hk9 hS => ?_)
              obtain ⟨E_115, Fr_116, hG, hP1, hD1⟩ := hB9
              have hP : va_P (gD g) cl0 ws_114 H1 := by rw [← ht9]; exact hP1
              have hD : va_D A ws_114 := hD1.weaken (fun _ _ _ h => hFc _ h)
              clear hP1 hD1 hz9 hk9 hvm9 ht9 hw9
              generalize H1 = H at hP hS ⊢
              have aa_119 := a_r0_1
              have aa_120 := a_r1_1
              have aa_121 := a_r2_1
              have o_h0 := E_115.1 _ _ o_h0
              exact J_150 ws_114 H locs ls (E_115) (Fr_116) hG hP hD hS (lv_sub hl [0, 1, 2, 3] rfl)
          refine lv_if_eq (tgt := 126) hx hb dX4_spread_119 (by decide) (fun c_122 => ?_) (fun c_122 => ?_)
          · refine lv_iconst (v := 0) hx hb dX4_spread_126 (by decide) ?_
            exact J_127 (0) H locs ls (Or.inl rfl) hP hD hS (lv_sub hl [0, 1, 2, 3, 4] rfl)
          · refine lv_iconst (v := 1) hx hb dX4_spread_122 (by decide) ?_
            refine lv_goto (tgt := 127) hx hb dX4_spread_123 (by decide) ?_
            exact J_127 (1) H locs ls (Or.inr rfl) hP hD hS (lv_sub hl [0, 1, 2, 3, 4] rfl)
        refine lv_if_eq (tgt := 110) hx hb dX4_spread_86 (by decide) (fun c_123 => ?_) (fun c_123 => ?_)
        · exact J_110  H locs ls  hP hD hS (lv_sub hl [0, 1, 2, 3, 4] rfl)
        · refine lv_iload_n hx hb dX4_spread_89 rfl (lv_at hl 1 rfl) ?_
          refine lv_iconst (v := 1) hx hb dX4_spread_90 (by decide) ?_
          refine lv_iadd hx hb dX4_spread_91 ?_
          refine lv_topi (fun z_124 ez_124 => ?_)
          refine lv_aload_n hx hb dX4_spread_92 rfl (lv_at hl 0 rfl) ?_
          refine va_get (D := gD g) (ci := 4) (v := .ref b_3) (C := RX4) (T := TX4) (N := 8) hx hb hts inX4 hown hK hP k_1 hk_1 rfl 4 (by decide) (hts _ kw_954) (fun _ h9 => h9) rfl dX4_spread_93 ?_
          obtain ⟨k_125, fs9, hk_125⟩ := gC_of o_b_3
          obtain ⟨r0_125, n0_125, r1_125, n1_125, c2_125, r3_125, n3_125, c4_125, r5_125, n5_125, r6_125, n6_125, r7_125, n7_125, r8_125, n8_125, c9_125, c10_125, c11_125, v12_125, v13_125, v14_125, rfl, a_r0_125, f1_125, a_r1_125, f3_125, a_r3_125, f5_125, a_r5_125, f7_125, a_r6_125, f9_125, a_r7_125, f11_125, a_r8_125, f13_125, o_v12_125, o_v13_125, o_v14_125, f17_125, f18_125, f19_125, f20_125, f21_125, f22_125, f23_125, f24_125, f25_125, f26_125, f27_125, f28_125, f29_125, -⟩ := (hG.1 _ _ _ _ hk_125).hX8 rfl
          refine va_get (D := gD g) (ci := 7) (v := .int c2_125) (C := RX8) (T := TX8) (N := 15) hx hb hts inX8 hown hK hP k_125 hk_125 rfl 2 (by decide) (hts _ kw_955) (fun _ h9 => h9) rfl dX4_spread_96 ?_
          refine lv_icmp_lt (tgt := 110) hx hb dX4_spread_99 (by decide) (fun c_126 => ?_) (fun c_126 => ?_)
          · exact J_110  H locs ls  hP hD hS (lv_sub hl [0, 1, 2, 3, 4] rfl)
          · exact J_102  H locs ls  hP hD hS (lv_sub hl [0, 1] rfl)
      refine lv_if_eq (tgt := 84) hx hb dX4_spread_73 (by decide) (fun c_127 => ?_) (fun c_127 => ?_)
      · exact J_84  H locs ls  hP hD hS (lv_sub hl [4, 5, 2, 1, 0] rfl)
      · refine lv_aload_n hx hb dX4_spread_76 rfl (lv_at hl 4 rfl) ?_
        refine va_get (D := gD g) (ci := 4) (v := .int c5_1) (C := RX4) (T := TX4) (N := 8) hx hb hts inX4 hown hK hP k_1 hk_1 rfl 5 (by decide) (hts _ kw_979) (fun _ h9 => h9) rfl dX4_spread_77 ?_
        refine lv_iconst (v := 1) hx hb dX4_spread_80 (by decide) ?_
        refine lv_icmp_lt (tgt := 102) hx hb dX4_spread_81 (by decide) (fun c_128 => ?_) (fun c_128 => ?_)
        · exact J_102  H locs ls  hP hD hS (lv_sub hl [4, 5] rfl)
        · exact J_84  H locs ls  hP hD hS (lv_sub hl [4, 5, 2, 1, 0] rfl)
set_option maxHeartbeats 1000000 in
set_option maxRecDepth 100000 in
theorem m_X4_isWrong (l : Launch) (g : Gm) (sz : Nat) (ws : va_W) (h0 : Nat) (x1 : Int32) (hG : Good g ws) (o_h0 : gC ws h0 4) : Met l yX4_isWrong (wt yX4_isWrong cX4_isWrong 2 (some .boolean)) ({ frames := 1, cells := 0, slots := 0, locals := 20 }) (va_Pc [.ref h0, .int x1] (st_G g sz ws)) (va_Qi (fun (r : Int32) (u9 : Unit) => r = 0 ∨ r = 1) (gQ0 g (va_A ws sz) ws) (va_A ws sz)) (0) (0) (va_A ws sz) := by
  refine Met.ofW (cc := cX4_isWrong) (maxL := 2) (ret := (some .boolean)) (by decide) rfl ?_
  intro p e s m args below meth c s₁ B hml hv
  obtain ⟨rfl, hsz, hP, hK, hD0, hex, hE⟩ := hv
  have hx := B.exec
  have hb := B.bytes
  have hr := B.returns
  have hts0 := atoms_spec (ws := wt yX4_isWrong cX4_isWrong 2 (some .boolean)) B.pre
  have hts : ∀ w ∈ tb, w.before _ s = true := fun w h => hts0 w (List.mem_cons_of_mem _ h)
  have hown : s.vm.findClass RX4 = some m.cls := findClass_of_methodNamed B.named
  subst hsz
  have hD := hD0.self (sz := s.heap.size)
  generalize hAe : va_A ws s.heap.size = A at hD hE ⊢
  have hA : ∀ q : Nat, s.heap.size ≤ q → A q := fun q h => by rw [← hAe]; exact Or.inr h
  have hS : va_S A s.heap s.heap [] := va_S.rf
  have hl := lv_entry ([.ref h0, .int x1]) (n := 2) (Nat.le_of_ble_eq_true rfl)
  rw [lg_entry_eq]
  generalize (lg_sl ([.ref h0, .int x1]) ++ List.replicate (2 - (lg_sl ([.ref h0, .int x1])).length) Slot.unset).toArray = ls at hl ⊢
  have hl : lv_has ls 2 [(0, .ref h0), (1, .int x1)] := hl
  refine lv_iload_n hx hb dX4_isWrong_0 rfl (lv_at hl 1 rfl) ?_
  have J_40 : ∀ (t_1 : Int32) (H : Heap) (locs : List Loc) (ls : Array Slot), t_1 = 0 ∨ t_1 = 1 → va_P (gD g) cl0 ws H → va_D A ws → va_S A s.heap H locs → lv_has ls 2 [] → W p l e (headSpec (wt yX4_isWrong cX4_isWrong 2 (some .boolean)) ({ frames := 1, cells := 0, slots := 0, locals := 20 })).room s m ([.ref h0, .int x1] : List Value).toArray below meth c H locs (0) (0) (MQ below (va_Qi (fun (r : Int32) (u9 : Unit) => r = 0 ∨ r = 1) (gQ0 g A ws) A) ([.ref h0, .int x1] : List Value).toArray s (0) (0) A) (F0 m 40 ls [.int t_1]) := by
    intro t_1 H locs ls iv_2 hP hD hS hl
    have hz_t_1 := iv_2
    refine W.widen (k := 0) (n := 0) (Nat.le_of_ble_eq_true rfl) (Nat.le_of_ble_eq_true rfl) ?_
    exact W.zret (v := t_1) hx hb hr (nz hz_t_1) (fun t9 ht9 hW9 => ⟨⟨_, (), rfl, hz_t_1, ⟨by rw [ht9]; exact hP, hD⟩⟩, hS.F ht9⟩) hS.2.2 dX4_isWrong_40
  have J_39 : ∀  (H : Heap) (locs : List Loc) (ls : Array Slot), va_P (gD g) cl0 ws H → va_D A ws → va_S A s.heap H locs → lv_has ls 2 [] → W p l e (headSpec (wt yX4_isWrong cX4_isWrong 2 (some .boolean)) ({ frames := 1, cells := 0, slots := 0, locals := 20 })).room s m ([.ref h0, .int x1] : List Value).toArray below meth c H locs (0) (0) (MQ below (va_Qi (fun (r : Int32) (u9 : Unit) => r = 0 ∨ r = 1) (gQ0 g A ws) A) ([.ref h0, .int x1] : List Value).toArray s (0) (0) A) (F0 m 39 ls []) := by
    intro  H locs ls  hP hD hS hl
    refine lv_iconst (v := 0) hx hb dX4_isWrong_39 (by decide) ?_
    exact J_40 (0) H locs ls (Or.inl rfl) hP hD hS (lv_sub hl [] rfl)
  refine lv_if_lt (tgt := 39) hx hb dX4_isWrong_1 (by decide) (fun c_7 => ?_) (fun c_7 => ?_)
  · exact J_39  _ _ ls  hP hD hS (lv_sub hl [] rfl)
  · refine lv_iload_n hx hb dX4_isWrong_4 rfl (lv_at hl 1 rfl) ?_
    refine lv_aload_n hx hb dX4_isWrong_5 rfl (lv_at hl 0 rfl) ?_
    obtain ⟨k_8, fs9, hk_8⟩ := gC_of o_h0
    obtain ⟨r0_8, n0_8, r1_8, n1_8, r2_8, n2_8, v3_8, v4_8, c5_8, c6_8, c7_8, rfl, a_r0_8, f1_8, a_r1_8, f3_8, a_r2_8, f5_8, o_v3_8, o_v4_8, hz_c6_8, f9_8, f10_8, f11_8, -⟩ := (hG.1 _ _ _ _ hk_8).hX4 rfl
    refine va_get (D := gD g) (ci := 4) (v := .ref r2_8) (C := RX4) (T := TX4) (N := 8) hx hb hts inX4 hown hK hP k_8 hk_8 rfl 2 (by decide) (hts _ kw_966) (fun _ h9 => h9) rfl dX4_isWrong_6 ?_
    obtain ⟨k_9, f_9, hk_9⟩ := gI_of a_r2_8
    obtain ⟨z_10, ez_10⟩ : ∃ z : Int32, Int32.ofNat n2_8 = z := ⟨_, rfl⟩
    refine va_alen (v := z_10) hx hb hK hP k_9 2 hk_9 rfl ez_10 dX4_isWrong_9 ?_
    refine lv_icmp_ge (tgt := 39) hx hb dX4_isWrong_10 (by decide) (fun c_11 => ?_) (fun c_11 => ?_)
    · exact J_39  _ _ ls  hP hD hS (lv_sub hl [] rfl)
    · refine lv_aload_n hx hb dX4_isWrong_13 rfl (lv_at hl 0 rfl) ?_
      refine va_get (D := gD g) (ci := 4) (v := .ref r2_8) (C := RX4) (T := TX4) (N := 8) hx hb hts inX4 hown hK hP k_8 hk_8 rfl 2 (by decide) (hts _ kw_966) (fun _ h9 => h9) rfl dX4_isWrong_14 ?_
      refine lv_iload_n hx hb dX4_isWrong_17 rfl (lv_at hl 1 rfl) ?_
      refine va_zald hx hb hK hP k_9 2 hk_9 rfl (i_in2 (by have e0 : (0 : Int32).toInt = 0 := (by decide); have q_c_7 := i_nlt c_7; have q_f5_8 := f5_8; have q_f10_8 := f10_8; have q_z_10 := i_len ez_10 f5_8; have q_c_11 := i_nle c_11; have q_f1_8 := f1_8; have q_f9_8 := f9_8; have q_f11_8 := f11_8; have g_x1 := i_rg x1; have g_z_10 := i_rg z_10; omega)) dX4_isWrong_18 ?_
      refine lv_topi (fun z_12 ez_12 => ?_)
      have J_35 : ∀  (H : Heap) (locs : List Loc) (ls : Array Slot), va_P (gD g) cl0 ws H → va_D A ws → va_S A s.heap H locs → lv_has ls 2 [] → W p l e (headSpec (wt yX4_isWrong cX4_isWrong 2 (some .boolean)) ({ frames := 1, cells := 0, slots := 0, locals := 20 })).room s m ([.ref h0, .int x1] : List Value).toArray below meth c H locs (0) (0) (MQ below (va_Qi (fun (r : Int32) (u9 : Unit) => r = 0 ∨ r = 1) (gQ0 g A ws) A) ([.ref h0, .int x1] : List Value).toArray s (0) (0) A) (F0 m 35 ls []) := by
        intro  H locs ls  hP hD hS hl
        refine lv_iconst (v := 1) hx hb dX4_isWrong_35 (by decide) ?_
        refine lv_goto (tgt := 40) hx hb dX4_isWrong_36 (by decide) ?_
        exact J_40 (1) H locs ls (Or.inr rfl) hP hD hS (lv_sub hl [] rfl)
      refine lv_if_ne (tgt := 35) hx hb dX4_isWrong_19 (by decide) (fun c_15 => ?_) (fun c_15 => ?_)
      · exact J_35  _ _ ls  hP hD hS (lv_sub hl [] rfl)
      · refine lv_aload_n hx hb dX4_isWrong_22 rfl (lv_at hl 0 rfl) ?_
        refine va_get (D := gD g) (ci := 4) (v := .ref r0_8) (C := RX4) (T := TX4) (N := 8) hx hb hts inX4 hown hK hP k_8 hk_8 rfl 0 (by decide) (hts _ kw_956) (fun _ h9 => h9) rfl dX4_isWrong_23 ?_
        refine lv_iload_n hx hb dX4_isWrong_26 rfl (lv_at hl 1 rfl) ?_
        obtain ⟨k_16, f_16, hk_16⟩ := gI_of a_r0_8
        refine va_iald hx hb hK hP k_16 1 hk_16 rfl (i_in2 (by have e0 : (0 : Int32).toInt = 0 := (by decide); have q_c_7 := i_nlt c_7; have q_f1_8 := f1_8; have q_f9_8 := f9_8; have q_f10_8 := f10_8; have q_f11_8 := f11_8; have q_c_11 := i_nle c_11; have q_f3_8 := f3_8; have q_f5_8 := f5_8; have q_z_10 := i_len ez_10 f5_8; have g_x1 := i_rg x1; have g_z_10 := i_rg z_10; omega)) dX4_isWrong_27 ?_
        refine lv_topi (fun z_17 ez_17 => ?_)
        have hFc := gfree hD hS hA
        refine va_calli (va_runS (As := [.int z_17]) (rest := []) ⟨hx, hb, hml, hown, hts⟩ (m_J6_bitCount_0f7a4 l g s.heap.size ws (z_17) hG ) (va_cwS 1 hts (gd_S kw_970 kw_1727 kw_1728 kw_1726) rfl rfl rfl (by decide +kernel) ⟨Nat.le_of_ble_eq_true rfl, Nat.le_of_ble_eq_true rfl⟩) ⟨gblind, fun U hU hW9 => gmk hU hW9 hP hK hD hex hE hS hFc⟩ rfl rfl hl.1 rfl (lv_room (Nat.le_of_ble_eq_true rfl)) dX4_isWrong_28 ⟨Nat.le_of_ble_eq_true rfl, Nat.le_of_ble_eq_true rfl⟩) hS (fun q _ h => hFc q h) hFc (fun r_18 u9 t9 H1 locs ht9 hvm9 hw9 hB9 hz9 hk9 hS => ?_)
        have hP : va_P (gD g) cl0 ws H1 := by rw [← ht9]; exact hB9.1
        clear hB9 hz9 hk9 hvm9 ht9 hw9
        generalize H1 = H at hP hS ⊢
        refine lv_iconst (v := 1) hx hb dX4_isWrong_31 (by decide) ?_
        refine lv_icmp_le (tgt := 39) hx hb dX4_isWrong_32 (by decide) (fun c_19 => ?_) (fun c_19 => ?_)
        · exact J_39  H locs ls  hP hD hS (lv_sub hl [] rfl)
        · exact J_35  H locs ls  hP hD hS (lv_sub hl [] rfl)
set_option maxHeartbeats 1000000 in
set_option maxRecDepth 100000 in
theorem m_X4_heightAt (l : Launch) (g : Gm) (sz : Nat) (ws : va_W) (h0 : Nat) (x1 : Int32) (hG : Good g ws) (o_h0 : gC ws h0 4) : Met l yX4_heightAt (wt yX4_heightAt cX4_heightAt 2 (some .int)) ({ frames := 1, cells := 0, slots := 0, locals := 21 }) (va_Pc [.ref h0, .int x1] (st_G g sz ws)) (va_Qi (fun (r : Int32) (u9 : Unit) => True) (gQ0 g (va_A ws sz) ws) (va_A ws sz)) (0) (0) (va_A ws sz) := by
  refine Met.ofW (cc := cX4_heightAt) (maxL := 2) (ret := (some .int)) (by decide) rfl ?_
  intro p e s m args below meth c s₁ B hml hv
  obtain ⟨rfl, hsz, hP, hK, hD0, hex, hE⟩ := hv
  have hx := B.exec
  have hb := B.bytes
  have hr := B.returns
  have hts0 := atoms_spec (ws := wt yX4_heightAt cX4_heightAt 2 (some .int)) B.pre
  have hts : ∀ w ∈ tb, w.before _ s = true := fun w h => hts0 w (List.mem_cons_of_mem _ h)
  have hown : s.vm.findClass RX4 = some m.cls := findClass_of_methodNamed B.named
  subst hsz
  have hD := hD0.self (sz := s.heap.size)
  generalize hAe : va_A ws s.heap.size = A at hD hE ⊢
  have hA : ∀ q : Nat, s.heap.size ≤ q → A q := fun q h => by rw [← hAe]; exact Or.inr h
  have hS : va_S A s.heap s.heap [] := va_S.rf
  have hl := lv_entry ([.ref h0, .int x1]) (n := 2) (Nat.le_of_ble_eq_true rfl)
  rw [lg_entry_eq]
  generalize (lg_sl ([.ref h0, .int x1]) ++ List.replicate (2 - (lg_sl ([.ref h0, .int x1])).length) Slot.unset).toArray = ls at hl ⊢
  have hl : lv_has ls 2 [(0, .ref h0), (1, .int x1)] := hl
  refine lv_iload_n hx hb dX4_heightAt_0 rfl (lv_at hl 1 rfl) ?_
  have J_35 : ∀ (t_1 : Int32) (H : Heap) (locs : List Loc) (ls : Array Slot), va_P (gD g) cl0 ws H → va_D A ws → va_S A s.heap H locs → lv_has ls 2 [] → W p l e (headSpec (wt yX4_heightAt cX4_heightAt 2 (some .int)) ({ frames := 1, cells := 0, slots := 0, locals := 21 })).room s m ([.ref h0, .int x1] : List Value).toArray below meth c H locs (0) (0) (MQ below (va_Qi (fun (r : Int32) (u9 : Unit) => True) (gQ0 g A ws) A) ([.ref h0, .int x1] : List Value).toArray s (0) (0) A) (F0 m 35 ls [.int t_1]) := by
    intro t_1 H locs ls  hP hD hS hl
    refine W.widen (k := 0) (n := 0) (Nat.le_of_ble_eq_true rfl) (Nat.le_of_ble_eq_true rfl) ?_
    exact W.iret (v := t_1) hx hb hr (fun t9 ht9 hW9 => ⟨⟨_, (), rfl, trivial, ⟨by rw [ht9]; exact hP, hD⟩⟩, hS.F ht9⟩) hS.2.2 dX4_heightAt_35
  have J_22 : ∀  (H : Heap) (locs : List Loc) (ls : Array Slot), va_P (gD g) cl0 ws H → va_D A ws → va_S A s.heap H locs → lv_has ls 2 [] → W p l e (headSpec (wt yX4_heightAt cX4_heightAt 2 (some .int)) ({ frames := 1, cells := 0, slots := 0, locals := 21 })).room s m ([.ref h0, .int x1] : List Value).toArray below meth c H locs (0) (0) (MQ below (va_Qi (fun (r : Int32) (u9 : Unit) => True) (gQ0 g A ws) A) ([.ref h0, .int x1] : List Value).toArray s (0) (0) A) (F0 m 22 ls []) := by
    intro  H locs ls  hP hD hS hl
    refine lv_iconst (v := (-1)) hx hb dX4_heightAt_22 (by decide) ?_
    refine lv_goto (tgt := 35) hx hb dX4_heightAt_23 (by decide) ?_
    exact J_35 ((-1)) H locs ls  hP hD hS (lv_sub hl [] rfl)
  refine lv_if_lt (tgt := 22) hx hb dX4_heightAt_1 (by decide) (fun c_6 => ?_) (fun c_6 => ?_)
  · exact J_22  _ _ ls  hP hD hS (lv_sub hl [] rfl)
  · refine lv_iload_n hx hb dX4_heightAt_4 rfl (lv_at hl 1 rfl) ?_
    refine lv_aload_n hx hb dX4_heightAt_5 rfl (lv_at hl 0 rfl) ?_
    obtain ⟨k_7, fs9, hk_7⟩ := gC_of o_h0
    obtain ⟨r0_7, n0_7, r1_7, n1_7, r2_7, n2_7, v3_7, v4_7, c5_7, c6_7, c7_7, rfl, a_r0_7, f1_7, a_r1_7, f3_7, a_r2_7, f5_7, o_v3_7, o_v4_7, hz_c6_7, f9_7, f10_7, f11_7, -⟩ := (hG.1 _ _ _ _ hk_7).hX4 rfl
    refine va_get (D := gD g) (ci := 4) (v := .ref r0_7) (C := RX4) (T := TX4) (N := 8) hx hb hts inX4 hown hK hP k_7 hk_7 rfl 0 (by decide) (hts _ kw_956) (fun _ h9 => h9) rfl dX4_heightAt_6 ?_
    obtain ⟨k_8, f_8, hk_8⟩ := gI_of a_r0_7
    obtain ⟨z_9, ez_9⟩ : ∃ z : Int32, Int32.ofNat n0_7 = z := ⟨_, rfl⟩
    refine va_alen (v := z_9) hx hb hK hP k_8 1 hk_8 rfl ez_9 dX4_heightAt_9 ?_
    refine lv_icmp_ge (tgt := 22) hx hb dX4_heightAt_10 (by decide) (fun c_10 => ?_) (fun c_10 => ?_)
    · exact J_22  _ _ ls  hP hD hS (lv_sub hl [] rfl)
    · refine lv_aload_n hx hb dX4_heightAt_13 rfl (lv_at hl 0 rfl) ?_
      refine va_get (D := gD g) (ci := 4) (v := .ref r0_7) (C := RX4) (T := TX4) (N := 8) hx hb hts inX4 hown hK hP k_7 hk_7 rfl 0 (by decide) (hts _ kw_956) (fun _ h9 => h9) rfl dX4_heightAt_14 ?_
      refine lv_iload_n hx hb dX4_heightAt_17 rfl (lv_at hl 1 rfl) ?_
      refine va_iald hx hb hK hP k_8 1 hk_8 rfl (i_in2 (by have e0 : (0 : Int32).toInt = 0 := (by decide); have q_c_6 := i_nlt c_6; have q_f1_7 := f1_7; have q_f9_7 := f9_7; have q_f10_7 := f10_7; have q_f11_7 := f11_7; have q_z_9 := i_len ez_9 f1_7; have q_c_10 := i_nle c_10; have q_f3_7 := f3_7; have q_f5_7 := f5_7; have g_x1 := i_rg x1; have g_z_9 := i_rg z_9; omega)) dX4_heightAt_18 ?_
      refine lv_topi (fun z_11 ez_11 => ?_)
      refine lv_if_ne (tgt := 26) hx hb dX4_heightAt_19 (by decide) (fun c_12 => ?_) (fun c_12 => ?_)
      · refine lv_aload_n hx hb dX4_heightAt_26 rfl (lv_at hl 0 rfl) ?_
        refine va_get (D := gD g) (ci := 4) (v := .ref r0_7) (C := RX4) (T := TX4) (N := 8) hx hb hts inX4 hown hK hP k_7 hk_7 rfl 0 (by decide) (hts _ kw_956) (fun _ h9 => h9) rfl dX4_heightAt_27 ?_
        refine lv_iload_n hx hb dX4_heightAt_30 rfl (lv_at hl 1 rfl) ?_
        refine va_iald hx hb hK hP k_8 1 hk_8 rfl (i_in2 (by have e0 : (0 : Int32).toInt = 0 := (by decide); have q_c_6 := i_nlt c_6; have q_f1_7 := f1_7; have q_f9_7 := f9_7; have q_f10_7 := f10_7; have q_f11_7 := f11_7; have q_z_9 := i_len ez_9 f1_7; have q_c_10 := i_nle c_10; have q_f3_7 := f3_7; have q_f5_7 := f5_7; have g_x1 := i_rg x1; have g_z_9 := i_rg z_9; omega)) dX4_heightAt_31 ?_
        refine lv_topi (fun z_13 ez_13 => ?_)
        have hFc := gfree hD hS hA
        refine va_calli (va_runS (As := [.int z_13]) (rest := []) ⟨hx, hb, hml, hown, hts⟩ (m_J6_numberOfTrailingZeros_0f7a4 l g s.heap.size ws (z_13) hG ) (va_cwS 1 hts (gd_S kw_962 kw_1738 kw_1728 kw_1737) rfl rfl rfl (by decide +kernel) ⟨Nat.le_of_ble_eq_true rfl, Nat.le_of_ble_eq_true rfl⟩) ⟨gblind, fun U hU hW9 => gmk hU hW9 hP hK hD hex hE hS hFc⟩ rfl rfl hl.1 rfl (lv_room (Nat.le_of_ble_eq_true rfl)) dX4_heightAt_32 ⟨Nat.le_of_ble_eq_true rfl, Nat.le_of_ble_eq_true rfl⟩) hS (fun q _ h => hFc q h) hFc (fun r_14 u9 t9 H1 locs ht9 hvm9 hw9 hB9 hz9 hk9 hS => ?_)
        have hP : va_P (gD g) cl0 ws H1 := by rw [← ht9]; exact hB9.1
        clear hB9 hz9 hk9 hvm9 ht9 hw9
        generalize H1 = H at hP hS ⊢
        exact J_35 (r_14) H locs ls  hP hD hS (lv_sub hl [] rfl)
      · exact J_22  _ _ ls  hP hD hS (lv_sub hl [] rfl)
set_option maxHeartbeats 1000000 in
set_option maxRecDepth 100000 in
theorem m_X4_seek (l : Launch) (g : Gm) (H0 : Heap) (ws : va_W) (h0 : Nat) (b1 : Nat) (b2 : Nat) (x3 : Int32) (hG : Good g ws) (o_h0 : gC ws h0 4) (o_b1 : gC ws b1 9) (o_b2 : gC ws b2 7) : Met l yX4_seek (wt yX4_seek cX4_seek 8 none) ({ frames := 4, cells := PC ws + (0), slots := PS ws + (0), locals := 94 }) (va_Pc [.ref h0, .ref b1, .ref b2, .int x3] (st_H g H0 ws)) (va_Qv (fun (u9 : va_W) => True) (gQ2 g [(4, 0), (4, 1), (4, 2), (4, 3), (4, 4), (4, 5), (4, 6), (4, 7)] [(4, 0), (4, 1), (4, 2)] none (va_A ws H0.size) ws H0 (0) (0)) (va_A ws H0.size)) (PC ws + (0)) (PS ws + (0)) (va_A ws H0.size) := by
  refine Met.ofW (cc := cX4_seek) (maxL := 8) (ret := none) (by decide) rfl ?_
  intro p e s m args below meth c s₁ B hml hv
  obtain ⟨rfl, hH0, hsz, hP, hK, hD0, hex, hE⟩ := hv
  have hx := B.exec
  have hb := B.bytes
  have hr := B.returns
  have hts0 := atoms_spec (ws := wt yX4_seek cX4_seek 8 none) B.pre
  have hts : ∀ w ∈ tb, w.before _ s = true := fun w h => hts0 w (List.mem_cons_of_mem _ h)
  have hown : s.vm.findClass RX4 = some m.cls := findClass_of_methodNamed B.named
  subst hH0
  have hD := hD0.self (sz := s.heap.size)
  generalize hAe : va_A ws s.heap.size = A at hD hE ⊢
  have hA : ∀ q : Nat, s.heap.size ≤ q → A q := fun q h => by rw [← hAe]; exact Or.inr h
  have hS : va_S A s.heap s.heap [] := va_S.rf
  have hl := lv_entry ([.ref h0, .ref b1, .ref b2, .int x3]) (n := 8) (Nat.le_of_ble_eq_true rfl)
  rw [lg_entry_eq]
  generalize (lg_sl ([.ref h0, .ref b1, .ref b2, .int x3]) ++ List.replicate (8 - (lg_sl ([.ref h0, .ref b1, .ref b2, .int x3])).length) Slot.unset).toArray = ls at hl ⊢
  have hl : lv_has ls 8 [(0, .ref h0), (1, .ref b1), (2, .ref b2), (3, .int x3)] := hl
  refine lv_aload_n hx hb dX4_seek_0 rfl (lv_at hl 0 rfl) ?_
  refine lv_aload_n hx hb dX4_seek_1 rfl (lv_at hl 1 rfl) ?_
  obtain ⟨k_1, fs9, hk_1⟩ := gC_of o_h0
  obtain ⟨r0_1, n0_1, r1_1, n1_1, r2_1, n2_1, v3_1, v4_1, c5_1, c6_1, c7_1, rfl, a_r0_1, f1_1, a_r1_1, f3_1, a_r2_1, f5_1, o_v3_1, o_v4_1, hz_c6_1, f9_1, f10_1, f11_1, -⟩ := (hG.1 _ _ _ _ hk_1).hX4 rfl
  have hV9 : okv ws 4 3 (.ref b1) := (okv_o hD o_b1)
  refine va_put (D := gD g) (ci := 4) (v := .ref b1) (ty := (.object "CodeFoundry$Unit")) (C := RX4) (T := TX4) (N := 8) hx hb hts inX4 tyX4 tyX4_ok nmX4 hown hK hP hD hS k_1 hk_1 rfl 3 (by decide) (hts _ kw_978) (fun _ h9 => h9) rfl (by decide +kernel) rfl rfl (Nat.le_of_ble_eq_true rfl) dX4_seek_2 (fun H locs hP hD hS => ?_)
  have hi_2 : invX4 g ws h0 [.ref r0_1, .ref r1_1, .ref r2_1, .ref b1, va_rf v4_1, .int c5_1, .int c6_1, .int c7_1] := ⟨r0_1, (n0_1), r1_1, (n1_1), r2_1, (n2_1), (some b1), v4_1, (c5_1), (c6_1), (c7_1), rfl, a_r0_1, f1_1, a_r1_1, f3_1, a_r2_1, f5_1, (fun b h9 => by cases h9; exact o_b1), o_v4_1, hz_c6_1, f9_1, f10_1, f11_1, trivial⟩
  obtain ⟨ws_3, e_ws_3⟩ : ∃ z, z = ws.set k_1 (h0, .inr (4, [.ref r0_1, .ref r1_1, .ref r2_1, .ref b1, va_rf v4_1, .int c5_1, .int c6_1, .int c7_1])) := ⟨_, rfl⟩
  have hP : va_P (gD g) cl0 ws_3 H := by rw [e_ws_3]; exact hP
  have hD : va_D A ws_3 := by rw [e_ws_3]; exact hD
  have E_4 : gE ws ws_3 := gE_set e_ws_3 hk_1 (cw_o (fi := 3) (v := .ref b1) rfl (by decide))
  have hG : Good g ws_3 := Good_set (fi := 3) (v := .ref b1) e_ws_3 hk_1 E_4 rfl hV9 hG (ivX4 hi_2)
  have Fr_5 : gF [(4, 3)] [] (some h0) ws ws_3 := gF_put (fi := 3) (v := .ref b1) e_ws_3 hk_1 rfl (by decide)
  have pp_6 := Fr_5.pp
  have hkN := gset_self e_ws_3 hk_1
  have hk_1 := hkN
  have o_h0 := E_4.1 _ _ o_h0
  have o_b1 := E_4.1 _ _ o_b1
  have o_b2 := E_4.1 _ _ o_b2
  have a_r0_1 := E_4.1 _ _ a_r0_1
  have a_r1_1 := E_4.1 _ _ a_r1_1
  have a_r2_1 := E_4.1 _ _ a_r2_1
  have o_v4_1 : ∀ b, v4_1 = some b → gC ws_3 b 7 := fun b h => E_4.1 _ _ (o_v4_1 b h)
  refine lv_aload_n hx hb dX4_seek_5 rfl (lv_at hl 0 rfl) ?_
  refine lv_aload_n hx hb dX4_seek_6 rfl (lv_at hl 2 rfl) ?_
  have hV9 : okv ws_3 4 4 (.ref b2) := (okv_o hD o_b2)
  refine va_put (D := gD g) (ci := 4) (v := .ref b2) (ty := (.object "CodeFoundry$Row")) (C := RX4) (T := TX4) (N := 8) hx hb hts inX4 tyX4 tyX4_ok nmX4 hown hK hP hD hS k_1 hk_1 rfl 4 (by decide) (hts _ kw_954) (fun _ h9 => h9) rfl (by decide +kernel) rfl rfl (Nat.le_of_ble_eq_true rfl) dX4_seek_7 (fun H locs hP hD hS => ?_)
  have hi_7 : invX4 g ws_3 h0 [.ref r0_1, .ref r1_1, .ref r2_1, .ref b1, .ref b2, .int c5_1, .int c6_1, .int c7_1] := ⟨r0_1, (n0_1), r1_1, (n1_1), r2_1, (n2_1), (some b1), (some b2), (c5_1), (c6_1), (c7_1), rfl, a_r0_1, f1_1, a_r1_1, f3_1, a_r2_1, f5_1, (fun b h9 => by cases h9; exact o_b1), (fun b h9 => by cases h9; exact o_b2), hz_c6_1, f9_1, f10_1, f11_1, trivial⟩
  obtain ⟨ws_8, e_ws_8⟩ : ∃ z, z = ws_3.set k_1 (h0, .inr (4, [.ref r0_1, .ref r1_1, .ref r2_1, .ref b1, .ref b2, .int c5_1, .int c6_1, .int c7_1])) := ⟨_, rfl⟩
  have hP : va_P (gD g) cl0 ws_8 H := by rw [e_ws_8]; exact hP
  have hD : va_D A ws_8 := by rw [e_ws_8]; exact hD
  have E_9 : gE ws_3 ws_8 := gE_set e_ws_8 hk_1 (cw_o (fi := 4) (v := .ref b2) rfl (by decide))
  have hG : Good g ws_8 := Good_set (fi := 4) (v := .ref b2) e_ws_8 hk_1 E_9 rfl hV9 hG (ivX4 hi_7)
  have Fr_10 : gF [(4, 4)] [] (some h0) ws_3 ws_8 := gF_put (fi := 4) (v := .ref b2) e_ws_8 hk_1 rfl (by decide)
  have pp_11 := Fr_10.pp
  have hkN := gset_self e_ws_8 hk_1
  have hk_1 := hkN
  have o_h0 := E_9.1 _ _ o_h0
  have o_b1 := E_9.1 _ _ o_b1
  have o_b2 := E_9.1 _ _ o_b2
  have a_r0_1 := E_9.1 _ _ a_r0_1
  have a_r1_1 := E_9.1 _ _ a_r1_1
  have a_r2_1 := E_9.1 _ _ a_r2_1
  refine lv_aload_n hx hb dX4_seek_10 rfl (lv_at hl 0 rfl) ?_
  refine lv_iload_n hx hb dX4_seek_11 rfl (lv_at hl 3 rfl) ?_
  have hV9 : okv ws_8 4 5 (.int x3) := okv_i
  refine va_put (D := gD g) (ci := 4) (v := .int x3) (ty := .int) (C := RX4) (T := TX4) (N := 8) hx hb hts inX4 tyX4 tyX4_ok nmX4 hown hK hP hD hS k_1 hk_1 rfl 5 (by decide) (hts _ kw_979) (fun _ h9 => h9) rfl (by decide +kernel) rfl rfl (Nat.le_of_ble_eq_true rfl) dX4_seek_12 (fun H locs hP hD hS => ?_)
  have hi_12 : invX4 g ws_8 h0 [.ref r0_1, .ref r1_1, .ref r2_1, .ref b1, .ref b2, .int x3, .int c6_1, .int c7_1] := ⟨r0_1, (n0_1), r1_1, (n1_1), r2_1, (n2_1), (some b1), (some b2), (x3), (c6_1), (c7_1), rfl, a_r0_1, f1_1, a_r1_1, f3_1, a_r2_1, f5_1, (fun b h9 => by cases h9; exact o_b1), (fun b h9 => by cases h9; exact o_b2), hz_c6_1, f9_1, f10_1, f11_1, trivial⟩
  obtain ⟨ws_13, e_ws_13⟩ : ∃ z, z = ws_8.set k_1 (h0, .inr (4, [.ref r0_1, .ref r1_1, .ref r2_1, .ref b1, .ref b2, .int x3, .int c6_1, .int c7_1])) := ⟨_, rfl⟩
  have hP : va_P (gD g) cl0 ws_13 H := by rw [e_ws_13]; exact hP
  have hD : va_D A ws_13 := by rw [e_ws_13]; exact hD
  have E_14 : gE ws_8 ws_13 := gE_set e_ws_13 hk_1 (cw_o (fi := 5) (v := .int x3) rfl (by decide))
  have hG : Good g ws_13 := Good_set (fi := 5) (v := .int x3) e_ws_13 hk_1 E_14 rfl hV9 hG (ivX4 hi_12)
  have Fr_15 : gF [(4, 5)] [] (some h0) ws_8 ws_13 := gF_put (fi := 5) (v := .int x3) e_ws_13 hk_1 rfl (by decide)
  have pp_16 := Fr_15.pp
  have hkN := gset_self e_ws_13 hk_1
  have hk_1 := hkN
  have o_h0 := E_14.1 _ _ o_h0
  have o_b1 := E_14.1 _ _ o_b1
  have o_b2 := E_14.1 _ _ o_b2
  have a_r0_1 := E_14.1 _ _ a_r0_1
  have a_r1_1 := E_14.1 _ _ a_r1_1
  have a_r2_1 := E_14.1 _ _ a_r2_1
  refine lv_aload_n hx hb dX4_seek_15 rfl (lv_at hl 0 rfl) ?_
  refine lv_iconst (v := 0) hx hb dX4_seek_16 (by decide) ?_
  have hV9 : okv ws_13 4 7 (.int 0) := okv_i
  refine va_put (D := gD g) (ci := 4) (v := .int 0) (ty := .int) (C := RX4) (T := TX4) (N := 8) hx hb hts inX4 tyX4 tyX4_ok nmX4 hown hK hP hD hS k_1 hk_1 rfl 7 (by decide) (hts _ kw_980) (fun _ h9 => h9) rfl (by decide +kernel) rfl rfl (Nat.le_of_ble_eq_true rfl) dX4_seek_17 (fun H locs hP hD hS => ?_)
  have hi_17 : invX4 g ws_13 h0 [.ref r0_1, .ref r1_1, .ref r2_1, .ref b1, .ref b2, .int x3, .int c6_1, .int 0] := ⟨r0_1, (n0_1), r1_1, (n1_1), r2_1, (n2_1), (some b1), (some b2), (x3), (c6_1), (0), rfl, a_r0_1, f1_1, a_r1_1, f3_1, a_r2_1, f5_1, (fun b h9 => by cases h9; exact o_b1), (fun b h9 => by cases h9; exact o_b2), hz_c6_1, f9_1, f10_1, f11_1, trivial⟩
  obtain ⟨ws_18, e_ws_18⟩ : ∃ z, z = ws_13.set k_1 (h0, .inr (4, [.ref r0_1, .ref r1_1, .ref r2_1, .ref b1, .ref b2, .int x3, .int c6_1, .int 0])) := ⟨_, rfl⟩
  have hP : va_P (gD g) cl0 ws_18 H := by rw [e_ws_18]; exact hP
  have hD : va_D A ws_18 := by rw [e_ws_18]; exact hD
  have E_19 : gE ws_13 ws_18 := gE_set e_ws_18 hk_1 (cw_o (fi := 7) (v := .int 0) rfl (by decide))
  have hG : Good g ws_18 := Good_set (fi := 7) (v := .int 0) e_ws_18 hk_1 E_19 rfl hV9 hG (ivX4 hi_17)
  have Fr_20 : gF [(4, 7)] [] (some h0) ws_13 ws_18 := gF_put (fi := 7) (v := .int 0) e_ws_18 hk_1 rfl (by decide)
  have pp_21 := Fr_20.pp
  have hkN := gset_self e_ws_18 hk_1
  have hk_1 := hkN
  have o_h0 := E_19.1 _ _ o_h0
  have o_b1 := E_19.1 _ _ o_b1
  have o_b2 := E_19.1 _ _ o_b2
  have a_r0_1 := E_19.1 _ _ a_r0_1
  have a_r1_1 := E_19.1 _ _ a_r1_1
  have a_r2_1 := E_19.1 _ _ a_r2_1
  refine lv_aload_n hx hb dX4_seek_20 rfl (lv_at hl 0 rfl) ?_
  refine lv_aload_n hx hb dX4_seek_21 rfl (lv_at hl 0 rfl) ?_
  refine va_get (D := gD g) (ci := 4) (v := .ref b2) (C := RX4) (T := TX4) (N := 8) hx hb hts inX4 hown hK hP k_1 hk_1 rfl 4 (by decide) (hts _ kw_954) (fun _ h9 => h9) rfl dX4_seek_22 ?_
  obtain ⟨k_22, fs9, hk_22⟩ := gC_of o_b2
  obtain ⟨r0_22, n0_22, r1_22, n1_22, c2_22, r3_22, n3_22, c4_22, r5_22, n5_22, r6_22, n6_22, r7_22, n7_22, r8_22, n8_22, c9_22, c10_22, c11_22, v12_22, v13_22, v14_22, rfl, a_r0_22, f1_22, a_r1_22, f3_22, a_r3_22, f5_22, a_r5_22, f7_22, a_r6_22, f9_22, a_r7_22, f11_22, a_r8_22, f13_22, o_v12_22, o_v13_22, o_v14_22, f17_22, f18_22, f19_22, f20_22, f21_22, f22_22, f23_22, f24_22, f25_22, f26_22, f27_22, f28_22, f29_22, -⟩ := (hG.1 _ _ _ _ hk_22).hX8 rfl
  refine va_get (D := gD g) (ci := 7) (v := .int c2_22) (C := RX8) (T := TX8) (N := 15) hx hb hts inX8 hown hK hP k_22 hk_22 rfl 2 (by decide) (hts _ kw_955) (fun _ h9 => h9) rfl dX4_seek_25 ?_
  have hFc := gfree hD hS hA
  have pg_23 := ge_4_0 hD hk_1 rfl a_r0_1
  refine W_led (fun hL0 => ?_)
  refine va_callv (va_runV (As := [.int c2_22]) (rest := []) ⟨hx, hb, hml, hown, hts⟩ (m_X4_makeRoom l g H ws_18 h0 (c2_22) hG o_h0 (by have q_f19_22 := f19_22; have q_f20_22 := f20_22; have q_f1_22 := f1_22; have q_f17_22 := f17_22; have q_f18_22 := f18_22; have g_c2_22 := i_rg c2_22; omega)) (cwV 1 hts (gd_V kw_981 kw_972 kw_973 kw_167 kw_971) rfl rfl rfl (by decide +kernel) ⟨Nat.le_of_ble_eq_true rfl, Nat.le_of_ble_eq_true rfl⟩) ⟨gblindH, va_recv hK hP (ci := 4) (q0 := k_1) rfl hk_1, fun U hU hW9 => gmkH hU hW9 hP hK hD hex hE hS hFc⟩ rfl rfl hl.1 rfl (lv_room (Nat.le_of_ble_eq_true rfl)) dX4_seek_28 ⟨(show 0 + (PC ws_18 + (0)) ≤ PC ws + (0) from (by have e0 : (0 : Int32).toInt = 0 := (by decide); omega)), (show 0 + (PS ws_18 + (0)) ≤ PS ws + (0) from (by have e0 : (0 : Int32).toInt = 0 := (by decide); omega))⟩) hS (fun q _ h => hFc q h) hFc (fun  ws_24 t9 H1 locs ht9 hvm9 hw9 hB9 hz9 hk9 hS => ?_)
  obtain ⟨E_25, Fr_26, hG, hP1, hD1, dc_27, ds_28, hLd, hdc_27, hds_28⟩ := hB9
  rw [ht9] at hLd
  refine W_tight (hL0.tr hLd).1 (hL0.tr hLd).2.1 ?_
  clear hL0 hLd
  have hP : va_P (gD g) cl0 ws_24 H1 := by rw [← ht9]; exact hP1
  have hD : va_D A ws_24 := hD1.weaken (fun _ _ _ h => hFc _ h)
  clear hP1 hD1 hz9 hk9 hvm9 ht9 hw9
  generalize H1 = H at hP hS ⊢
  have aa_29 := a_r0_1
  have aa_30 := a_r1_1
  have aa_31 := a_r2_1
  have aa_32 := a_r0_22
  have aa_33 := a_r1_22
  have aa_34 := a_r3_22
  have aa_35 := a_r5_22
  have aa_36 := a_r6_22
  have aa_37 := a_r7_22
  have aa_38 := a_r8_22
  have o_h0 := E_25.1 _ _ o_h0
  have o_b1 := E_25.1 _ _ o_b1
  have o_b2 := E_25.1 _ _ o_b2
  refine lv_aload_n hx hb dX4_seek_31 rfl (lv_at hl 0 rfl) ?_
  refine lv_iconst (v := 0) hx hb dX4_seek_32 (by decide) ?_
  refine lv_iconst (v := 0) hx hb dX4_seek_33 (by decide) ?_
  obtain ⟨fs9, hk_39, hq_39⟩ := ((gF.a (F' := [(4, 0), (4, 1), (4, 2)]) Fr_26 (fun _ h => h))) _ _ _ hk_1
  obtain ⟨r0_39, n0_39, r1_39, n1_39, r2_39, n2_39, v3_39, v4_39, c5_39, c6_39, c7_39, rfl, a_r0_39, f1_39, a_r1_39, f3_39, a_r2_39, f5_39, o_v3_39, o_v4_39, hz_c6_39, f9_39, f10_39, f11_39, -⟩ := (hG.1 _ _ _ _ hk_39).hX4 rfl
  have hn9 := fe_qr (hq_39 3 (by decide))
  subst hn9
  have o_b1 := o_v3_39 _ rfl
  have hn9 := fe_qr (hq_39 4 (by decide))
  subst hn9
  have o_b2 := o_v4_39 _ rfl
  obtain rfl := fe_i (hq_39 6 (by decide))
  have hz_c6_1 := hz_c6_39
  have hFc := gfree hD hS hA
  refine va_callv (va_runV (As := [.int 0, .int 0]) (rest := []) ⟨hx, hb, hml, hown, hts⟩ (m_X4_comeTo l g H.size ws_24 h0 (0) (0) hG o_h0 (gN_of hD hk_39 (j := 4) rfl)) (cwV 2 hts (gd_V kw_982 kw_952 kw_953 kw_167 kw_951) rfl rfl rfl (by decide +kernel) ⟨Nat.le_of_ble_eq_true rfl, Nat.le_of_ble_eq_true rfl⟩) ⟨gblind, va_recv hK hP (ci := 4) (q0 := k_1) rfl hk_39, fun U hU hW9 => gmk hU hW9 hP hK hD hex hE hS hFc⟩ rfl rfl hl.1 rfl (lv_room (Nat.le_of_ble_eq_true rfl)) dX4_seek_34 ⟨(show 0 + dc_27 + 0 ≤ PC ws + (0) from (by omega)), (show 0 + ds_28 + 0 ≤ PS ws + (0) from (by omega))⟩) hS (fun q _ h => hFc q h) hFc (fun  ws_40 t9 H1 locs ht9 hvm9 hw9 hB9 hz9 hk9 hS => ?_)
  obtain ⟨E_41, Fr_42, hG, hP1, hD1⟩ := hB9
  have hP : va_P (gD g) cl0 ws_40 H1 := by rw [← ht9]; exact hP1
  have hD : va_D A ws_40 := hD1.weaken (fun _ _ _ h => hFc _ h)
  clear hP1 hD1 hz9 hk9 hvm9 ht9 hw9
  generalize H1 = H at hP hS ⊢
  have aa_45 := a_r0_39
  have aa_46 := a_r1_39
  have aa_47 := a_r2_39
  have o_h0 := E_41.1 _ _ o_h0
  have o_b1 := E_41.1 _ _ o_b1
  have o_b2 := E_41.1 _ _ o_b2
  have pp_48 := Fr_42.pp
  refine lv_aload_n hx hb dX4_seek_37 rfl (lv_at hl 0 rfl) ?_
  refine lv_iconst (v := 1) hx hb dX4_seek_38 (by decide) ?_
  obtain ⟨fs9, hk_49, hq_49⟩ := ((gF.a (F' := [(4, 6)]) Fr_42 (fun _ h => h))) _ _ _ hk_39
  obtain ⟨r0_49, n0_49, r1_49, n1_49, r2_49, n2_49, v3_49, v4_49, c5_49, c6_49, c7_49, rfl, a_r0_49, f1_49, a_r1_49, f3_49, a_r2_49, f5_49, o_v3_49, o_v4_49, hz_c6_49, f9_49, f10_49, f11_49, -⟩ := (hG.1 _ _ _ _ hk_49).hX4 rfl
  obtain rfl := fe_r (hq_49 1 (by decide))
  have hn9 := gI_n hD ((E_41).1 _ _ aa_46) a_r1_49
  subst hn9
  have a_r1_39 := a_r1_49
  have hn9 := fe_qr (hq_49 3 (by decide))
  subst hn9
  have o_b1 := o_v3_49 _ rfl
  have hn9 := fe_qr (hq_49 4 (by decide))
  subst hn9
  have o_b2 := o_v4_49 _ rfl
  have hV9 : okv ws_40 4 6 (.int 1) := okv_i
  refine va_put (D := gD g) (ci := 4) (v := .int 1) (ty := .boolean) (C := RX4) (T := TX4) (N := 8) hx hb hts inX4 tyX4 tyX4_ok nmX4 hown hK hP hD hS k_1 hk_49 rfl 6 (by decide) (hts _ kw_958) (fun _ h9 => h9) rfl (by decide +kernel) rfl rfl (Nat.le_of_ble_eq_true rfl) dX4_seek_39 (fun H locs hP hD hS => ?_)
  have hi_50 : invX4 g ws_40 h0 [.ref r0_49, .ref r1_39, .ref r2_49, .ref b1, .ref b2, .int c5_49, .int 1, .int c7_49] := ⟨r0_49, (n0_49), r1_39, (n1_39), r2_49, (n2_49), (some b1), (some b2), (c5_49), (1), (c7_49), rfl, a_r0_49, f1_49, a_r1_39, f3_49, a_r2_49, f5_49, (fun b h9 => by cases h9; exact o_b1), (fun b h9 => by cases h9; exact o_b2), (Or.inr rfl), f9_49, f10_49, f11_49, trivial⟩
  obtain ⟨ws_51, e_ws_51⟩ : ∃ z, z = ws_40.set k_1 (h0, .inr (4, [.ref r0_49, .ref r1_39, .ref r2_49, .ref b1, .ref b2, .int c5_49, .int 1, .int c7_49])) := ⟨_, rfl⟩
  have hP : va_P (gD g) cl0 ws_51 H := by rw [e_ws_51]; exact hP
  have hD : va_D A ws_51 := by rw [e_ws_51]; exact hD
  have E_52 : gE ws_40 ws_51 := gE_set e_ws_51 hk_49 (cw_o (fi := 6) (v := .int 1) rfl (by decide))
  have hG : Good g ws_51 := Good_set (fi := 6) (v := .int 1) e_ws_51 hk_49 E_52 rfl hV9 hG (ivX4 hi_50)
  have Fr_53 : gF [(4, 6)] [] (some h0) ws_40 ws_51 := gF_put (fi := 6) (v := .int 1) e_ws_51 hk_49 rfl (by decide)
  have pp_54 := Fr_53.pp
  have hkN := gset_self e_ws_51 hk_49
  have hk_49 := hkN
  have o_h0 := E_52.1 _ _ o_h0
  have o_b1 := E_52.1 _ _ o_b1
  have o_b2 := E_52.1 _ _ o_b2
  have a_r0_49 := E_52.1 _ _ a_r0_49
  have a_r2_49 := E_52.1 _ _ a_r2_49
  have a_r1_39 := E_52.1 _ _ a_r1_39
  refine lv_iconst (v := 0) hx hb dX4_seek_42 (by decide) ?_
  refine lv_istore (lv' := [(4, .int 0), (0, .ref h0), (1, .ref b1), (2, .ref b2), (3, .int x3)]) hx hb dX4_seek_43 hl (by decide) rfl (fun ls hl => ?_)
  have J_45 : ∀ (n9 : Nat) (v4_55 : Int32) (dc_45_1 : Nat) (ds_45_1 : Nat) (ws_57 : va_W) (H : Heap) (locs : List Loc) (ls : Array Slot), (2147483647 - v4_55.toInt).toNat = n9 → 0 ≤ v4_55.toInt → gE ws_51 ws_57 → gF [(4, 6), (4, 7)] [(4, 0), (4, 1), (4, 2)] none ws_51 ws_57 → Good g ws_57 → dc_45_1 + PC ws_57 ≤ PC ws + (0) → ds_45_1 + PS ws_57 ≤ PS ws + (0) → va_P (gD g) cl0 ws_57 H → va_D A ws_57 → va_S A s.heap H locs → lv_has ls 8 [(0, .ref h0), (4, .int v4_55)] → W p l e (headSpec (wt yX4_seek cX4_seek 8 none) ({ frames := 4, cells := PC ws + (0), slots := PS ws + (0), locals := 94 })).room s m ([.ref h0, .ref b1, .ref b2, .int x3] : List Value).toArray below meth c H locs (dc_45_1) (ds_45_1) (MQ below (va_Qv (fun (u9 : va_W) => True) (gQ2 g [(4, 0), (4, 1), (4, 2), (4, 3), (4, 4), (4, 5), (4, 6), (4, 7)] [(4, 0), (4, 1), (4, 2)] none A ws s.heap (0) (0)) A) ([.ref h0, .ref b1, .ref b2, .int x3] : List Value).toArray s (PC ws + (0)) (PS ws + (0)) A) (F0 m 45 ls []) := by
    intro n9
    induction n9 using Nat.strongRecOn with
    | ind n9 ih_45 =>
      intro v4_55 dc_45_1 ds_45_1 ws_57 H locs ls hm9 iv_56 E_58 Fr_59 hG hc9 hs9 hP hD hS hl
      subst hm9
      have aa_60 := a_r0_49
      have aa_61 := a_r1_39
      have aa_62 := a_r2_49
      have o_h0 := E_58.1 _ _ o_h0
      refine lv_aload_n hx hb dX4_seek_45 rfl (lv_at hl 0 rfl) ?_
      obtain ⟨fs9, hk_63, hq_63⟩ := ((gF.a (F' := [(4, 6), (4, 7)]) Fr_59 (fun _ h => h))) _ _ _ hk_49
      obtain ⟨r0_63, n0_63, r1_63, n1_63, r2_63, n2_63, v3_63, v4_63, c5_63, c6_63, c7_63, rfl, a_r0_63, f1_63, a_r1_63, f3_63, a_r2_63, f5_63, o_v3_63, o_v4_63, hz_c6_63, f9_63, f10_63, f11_63, -⟩ := (hG.1 _ _ _ _ hk_63).hX4 rfl
      obtain rfl := fe_r (hq_63 1 (by decide))
      have hn9 := gI_n hD ((E_58).1 _ _ aa_61) a_r1_63
      subst hn9
      have a_r1_39 := a_r1_63
      have hn9 := fe_qr (hq_63 3 (by decide))
      subst hn9
      have o_b1 := o_v3_63 _ rfl
      have hn9 := fe_qr (hq_63 4 (by decide))
      subst hn9
      have o_b2 := o_v4_63 _ rfl
      refine va_get (D := gD g) (ci := 4) (v := .int c6_63) (C := RX4) (T := TX4) (N := 8) hx hb hts inX4 hown hK hP k_1 hk_63 rfl 6 (by decide) (hts _ kw_958) (fun _ h9 => h9) rfl dX4_seek_46 ?_
      have J_160 : ∀ (dc_160_2 : Nat) (ds_160_2 : Nat) (H : Heap) (locs : List Loc) (ls : Array Slot), dc_160_2 + PC ws_57 ≤ PC ws + (0) → ds_160_2 + PS ws_57 ≤ PS ws + (0) → va_P (gD g) cl0 ws_57 H → va_D A ws_57 → va_S A s.heap H locs → lv_has ls 8 [] → W p l e (headSpec (wt yX4_seek cX4_seek 8 none) ({ frames := 4, cells := PC ws + (0), slots := PS ws + (0), locals := 94 })).room s m ([.ref h0, .ref b1, .ref b2, .int x3] : List Value).toArray below meth c H locs (dc_160_2) (ds_160_2) (MQ below (va_Qv (fun (u9 : va_W) => True) (gQ2 g [(4, 0), (4, 1), (4, 2), (4, 3), (4, 4), (4, 5), (4, 6), (4, 7)] [(4, 0), (4, 1), (4, 2)] none A ws s.heap (0) (0)) A) ([.ref h0, .ref b1, .ref b2, .int x3] : List Value).toArray s (PC ws + (0)) (PS ws + (0)) A) (F0 m 160 ls []) := by
        intro dc_160_2 ds_160_2 H locs ls  hc9 hs9 hP hD hS hl
        refine W_led (fun hLd => ?_)
        have hcl : dc_160_2 + PC ws_57 ≤ PC ws + (0) := (by omega)
        have hsl : ds_160_2 + PS ws_57 ≤ PS ws + (0) := (by omega)
        refine W.widen (k := PC ws + (0)) (n := PS ws + (0)) (by omega) (by omega) ?_
        exact W.vret hx hb hr (fun t9 ht9 hW9 => ⟨⟨ws_57, rfl, trivial, ⟨(E_4.tr (E_9.tr (E_14.tr (E_19.tr (E_25.tr (E_41.tr (E_52.tr E_58))))))), (gF.tr (gF.mo (F' := [(4, 0), (4, 1), (4, 2), (4, 3), (4, 4), (4, 5), (4, 6), (4, 7)]) (C' := [(4, 0), (4, 1), (4, 2)]) (S' := none) Fr_5 (by decide) (fun _ h => absurd h List.not_mem_nil) (Or.inl rfl)) (gF.tr (gF.mo (F' := [(4, 0), (4, 1), (4, 2), (4, 3), (4, 4), (4, 5), (4, 6), (4, 7)]) (C' := [(4, 0), (4, 1), (4, 2)]) (S' := none) Fr_10 (by decide) (fun _ h => absurd h List.not_mem_nil) (Or.inl rfl)) (gF.tr (gF.mo (F' := [(4, 0), (4, 1), (4, 2), (4, 3), (4, 4), (4, 5), (4, 6), (4, 7)]) (C' := [(4, 0), (4, 1), (4, 2)]) (S' := none) Fr_15 (by decide) (fun _ h => absurd h List.not_mem_nil) (Or.inl rfl)) (gF.tr (gF.mo (F' := [(4, 0), (4, 1), (4, 2), (4, 3), (4, 4), (4, 5), (4, 6), (4, 7)]) (C' := [(4, 0), (4, 1), (4, 2)]) (S' := none) Fr_20 (by decide) (fun _ h => absurd h List.not_mem_nil) (Or.inl rfl)) (gF.tr (gF.mo (F' := [(4, 0), (4, 1), (4, 2), (4, 3), (4, 4), (4, 5), (4, 6), (4, 7)]) (C' := [(4, 0), (4, 1), (4, 2)]) (S' := none) Fr_26 (by decide) (fun _ h => h) (Or.inr rfl)) (gF.tr (gF.mo (F' := [(4, 0), (4, 1), (4, 2), (4, 3), (4, 4), (4, 5), (4, 6), (4, 7)]) (C' := [(4, 0), (4, 1), (4, 2)]) (S' := none) Fr_42 (by decide) (by decide) (Or.inr rfl)) (gF.tr (gF.mo (F' := [(4, 0), (4, 1), (4, 2), (4, 3), (4, 4), (4, 5), (4, 6), (4, 7)]) (C' := [(4, 0), (4, 1), (4, 2)]) (S' := none) Fr_53 (by decide) (fun _ h => absurd h List.not_mem_nil) (Or.inl rfl)) (gF.mo (F' := [(4, 0), (4, 1), (4, 2), (4, 3), (4, 4), (4, 5), (4, 6), (4, 7)]) (C' := [(4, 0), (4, 1), (4, 2)]) (S' := none) Fr_59 (by decide) (fun _ h => h) (Or.inr rfl))))))))), hG, by rw [ht9]; exact hP, hD, _, _, by rw [ht9]; exact hLd, hcl, hsl⟩⟩, hS.F ht9⟩) hS.2.2 dX4_seek_160
      refine lv_if_eq (tgt := 160) hx hb dX4_seek_49 (by decide) (fun c_66 => ?_) (fun c_66 => ?_)
      · exact J_160 (dc_45_1) (ds_45_1) H locs ls (by omega) (by omega) hP hD hS (lv_sub hl [] rfl)
      · refine lv_iload hx hb dX4_seek_52 (lv_at hl 1 rfl) ?_
        refine lv_ldc hx hb hown (hts _ kw_983) dX4_seek_54 ?_
        refine lv_icmp_ge (tgt := 160) hx hb dX4_seek_56 (by decide) (fun c_67 => ?_) (fun c_67 => ?_)
        · exact J_160 (dc_45_1) (ds_45_1) H locs ls (by omega) (by omega) hP hD hS (lv_sub hl [] rfl)
        · refine lv_aload_n hx hb dX4_seek_59 rfl (lv_at hl 0 rfl) ?_
          refine lv_iconst (v := 0) hx hb dX4_seek_60 (by decide) ?_
          have hV9 : okv ws_57 4 6 (.int 0) := okv_i
          refine va_put (D := gD g) (ci := 4) (v := .int 0) (ty := .boolean) (C := RX4) (T := TX4) (N := 8) hx hb hts inX4 tyX4 tyX4_ok nmX4 hown hK hP hD hS k_1 hk_63 rfl 6 (by decide) (hts _ kw_958) (fun _ h9 => h9) rfl (by decide +kernel) rfl rfl (Nat.le_of_ble_eq_true rfl) dX4_seek_61 (fun H locs hP hD hS => ?_)
          have hi_68 : invX4 g ws_57 h0 [.ref r0_63, .ref r1_39, .ref r2_63, .ref b1, .ref b2, .int c5_63, .int 0, .int c7_63] := ⟨r0_63, (n0_63), r1_39, (n1_39), r2_63, (n2_63), (some b1), (some b2), (c5_63), (0), (c7_63), rfl, a_r0_63, f1_63, a_r1_39, f3_63, a_r2_63, f5_63, (fun b h9 => by cases h9; exact o_b1), (fun b h9 => by cases h9; exact o_b2), (Or.inl rfl), f9_63, f10_63, f11_63, trivial⟩
          obtain ⟨ws_69, e_ws_69⟩ : ∃ z, z = ws_57.set k_1 (h0, .inr (4, [.ref r0_63, .ref r1_39, .ref r2_63, .ref b1, .ref b2, .int c5_63, .int 0, .int c7_63])) := ⟨_, rfl⟩
          have hP : va_P (gD g) cl0 ws_69 H := by rw [e_ws_69]; exact hP
          have hD : va_D A ws_69 := by rw [e_ws_69]; exact hD
          have E_70 : gE ws_57 ws_69 := gE_set e_ws_69 hk_63 (cw_o (fi := 6) (v := .int 0) rfl (by decide))
          have hG : Good g ws_69 := Good_set (fi := 6) (v := .int 0) e_ws_69 hk_63 E_70 rfl hV9 hG (ivX4 hi_68)
          have Fr_71 : gF [(4, 6)] [] (some h0) ws_57 ws_69 := gF_put (fi := 6) (v := .int 0) e_ws_69 hk_63 rfl (by decide)
          have pp_72 := Fr_71.pp
          have hkN := gset_self e_ws_69 hk_63
          have hk_63 := hkN
          have o_h0 := E_70.1 _ _ o_h0
          have a_r0_63 := E_70.1 _ _ a_r0_63
          have a_r2_63 := E_70.1 _ _ a_r2_63
          have a_r1_39 := E_70.1 _ _ a_r1_39
          have o_b1 := E_70.1 _ _ o_b1
          have o_b2 := E_70.1 _ _ o_b2
          refine lv_iconst (v := 0) hx hb dX4_seek_64 (by decide) ?_
          refine lv_istore (lv' := [(5, .int 0), (0, .ref h0), (4, .int v4_55)]) hx hb dX4_seek_65 hl (by decide) rfl (fun ls hl => ?_)
          have J_67 : ∀ (n9 : Nat) (v5_73 : Int32) (dc_67_3 : Nat) (ds_67_3 : Nat) (ws_75 : va_W) (H : Heap) (locs : List Loc) (ls : Array Slot), (2147483647 - v5_73.toInt).toNat = n9 → 0 ≤ v5_73.toInt → gE ws_69 ws_75 → gF [(4, 6), (4, 7)] [(4, 0), (4, 1), (4, 2)] none ws_69 ws_75 → Good g ws_75 → dc_67_3 + PC ws_75 ≤ PC ws + (0) → ds_67_3 + PS ws_75 ≤ PS ws + (0) → va_P (gD g) cl0 ws_75 H → va_D A ws_75 → va_S A s.heap H locs → lv_has ls 8 [(0, .ref h0), (4, .int v4_55), (5, .int v5_73)] → W p l e (headSpec (wt yX4_seek cX4_seek 8 none) ({ frames := 4, cells := PC ws + (0), slots := PS ws + (0), locals := 94 })).room s m ([.ref h0, .ref b1, .ref b2, .int x3] : List Value).toArray below meth c H locs (dc_67_3) (ds_67_3) (MQ below (va_Qv (fun (u9 : va_W) => True) (gQ2 g [(4, 0), (4, 1), (4, 2), (4, 3), (4, 4), (4, 5), (4, 6), (4, 7)] [(4, 0), (4, 1), (4, 2)] none A ws s.heap (0) (0)) A) ([.ref h0, .ref b1, .ref b2, .int x3] : List Value).toArray s (PC ws + (0)) (PS ws + (0)) A) (F0 m 67 ls []) := by
            intro n9
            induction n9 using Nat.strongRecOn with
            | ind n9 ih_67 =>
              intro v5_73 dc_67_3 ds_67_3 ws_75 H locs ls hm9 iv_74 E_76 Fr_77 hG hc9 hs9 hP hD hS hl
              subst hm9
              have aa_78 := a_r0_63
              have aa_79 := a_r1_39
              have aa_80 := a_r2_63
              have o_h0 := E_76.1 _ _ o_h0
              refine lv_iload hx hb dX4_seek_67 (lv_at hl 2 rfl) ?_
              refine lv_aload_n hx hb dX4_seek_69 rfl (lv_at hl 0 rfl) ?_
              obtain ⟨fs9, hk_81, hq_81⟩ := ((gF.a (F' := [(4, 6), (4, 7)]) Fr_77 (fun _ h => h))) _ _ _ hk_63
              obtain ⟨r0_81, n0_81, r1_81, n1_81, r2_81, n2_81, v3_81, v4_81, c5_81, c6_81, c7_81, rfl, a_r0_81, f1_81, a_r1_81, f3_81, a_r2_81, f5_81, o_v3_81, o_v4_81, hz_c6_81, f9_81, f10_81, f11_81, -⟩ := (hG.1 _ _ _ _ hk_81).hX4 rfl
              obtain rfl := fe_r (hq_81 1 (by decide))
              have hn9 := gI_n hD ((E_76).1 _ _ aa_79) a_r1_81
              subst hn9
              have a_r1_39 := a_r1_81
              have hn9 := fe_qr (hq_81 3 (by decide))
              subst hn9
              have o_b1 := o_v3_81 _ rfl
              have hn9 := fe_qr (hq_81 4 (by decide))
              subst hn9
              have o_b2 := o_v4_81 _ rfl
              refine va_get (D := gD g) (ci := 4) (v := .ref b2) (C := RX4) (T := TX4) (N := 8) hx hb hts inX4 hown hK hP k_1 hk_81 rfl 4 (by decide) (hts _ kw_954) (fun _ h9 => h9) rfl dX4_seek_70 ?_
              obtain ⟨fs9, hk_82, hq_82⟩ := ((gA.tr (gF.a (F' := [(4, 0), (4, 1), (4, 2), (4, 6), (4, 7)]) Fr_26 (by decide)) (gA.tr (gF.a (F' := [(4, 0), (4, 1), (4, 2), (4, 6), (4, 7)]) Fr_42 (by decide)) (gA.tr (gF.a (F' := [(4, 0), (4, 1), (4, 2), (4, 6), (4, 7)]) Fr_53 (by decide)) (gA.tr (gF.a (F' := [(4, 0), (4, 1), (4, 2), (4, 6), (4, 7)]) Fr_59 (by decide)) (gA.tr (gF.a (F' := [(4, 0), (4, 1), (4, 2), (4, 6), (4, 7)]) Fr_71 (by decide)) (gF.a (F' := [(4, 0), (4, 1), (4, 2), (4, 6), (4, 7)]) Fr_77 (by decide)))))))) _ _ _ hk_22
              obtain ⟨r0_82, n0_82, r1_82, n1_82, c2_82, r3_82, n3_82, c4_82, r5_82, n5_82, r6_82, n6_82, r7_82, n7_82, r8_82, n8_82, c9_82, c10_82, c11_82, v12_82, v13_82, v14_82, rfl, a_r0_82, f1_82, a_r1_82, f3_82, a_r3_82, f5_82, a_r5_82, f7_82, a_r6_82, f9_82, a_r7_82, f11_82, a_r8_82, f13_82, o_v12_82, o_v13_82, o_v14_82, f17_82, f18_82, f19_82, f20_82, f21_82, f22_82, f23_82, f24_82, f25_82, f26_82, f27_82, f28_82, f29_82, -⟩ := (hG.1 _ _ _ _ hk_82).hX8 rfl
              obtain rfl := fe_i (hq_82 2 (by decide))
              refine va_get (D := gD g) (ci := 7) (v := .int c2_22) (C := RX8) (T := TX8) (N := 15) hx hb hts inX8 hown hK hP k_22 hk_82 rfl 2 (by decide) (hts _ kw_955) (fun _ h9 => h9) rfl dX4_seek_73 ?_
              have J_154 : ∀ (dc_154_4 : Nat) (ds_154_4 : Nat) (H : Heap) (locs : List Loc) (ls : Array Slot), dc_154_4 + PC ws_75 ≤ PC ws + (0) → ds_154_4 + PS ws_75 ≤ PS ws + (0) → va_P (gD g) cl0 ws_75 H → va_D A ws_75 → va_S A s.heap H locs → lv_has ls 8 [(0, .ref h0), (4, .int v4_55)] → W p l e (headSpec (wt yX4_seek cX4_seek 8 none) ({ frames := 4, cells := PC ws + (0), slots := PS ws + (0), locals := 94 })).room s m ([.ref h0, .ref b1, .ref b2, .int x3] : List Value).toArray below meth c H locs (dc_154_4) (ds_154_4) (MQ below (va_Qv (fun (u9 : va_W) => True) (gQ2 g [(4, 0), (4, 1), (4, 2), (4, 3), (4, 4), (4, 5), (4, 6), (4, 7)] [(4, 0), (4, 1), (4, 2)] none A ws s.heap (0) (0)) A) ([.ref h0, .ref b1, .ref b2, .int x3] : List Value).toArray s (PC ws + (0)) (PS ws + (0)) A) (F0 m 154 ls []) := by
                intro dc_154_4 ds_154_4 H locs ls  hc9 hs9 hP hD hS hl
                obtain ⟨z_85, ez_85⟩ : ∃ z : Int32, v4_55 + Int32.ofInt 1 = z := ⟨_, rfl⟩
                refine lv_iinc (v := z_85) (lv' := [(4, .int z_85), (0, .ref h0)]) hx hb dX4_seek_154 hl (k := 1) rfl ez_85 (by decide) rfl (fun ls hl => ?_)
                refine lv_goto (tgt := 45) hx hb dX4_seek_157 (by decide) ?_
                exact ih_45 _ (by have e1000000 : (1000000 : Int32).toInt = 1000000 := (by decide); obtain ⟨u_z_85, q_z_85⟩ := i_iz ez_85 (by decide) (by decide); have q_iv_56 := iv_56; have q_c_67 := i_nle c_67; have g_v4_55 := i_rg v4_55; have g_z_85 := i_rg z_85; omega) (z_85) (dc_154_4) (ds_154_4) ws_75 H locs ls rfl (by have e1000000 : (1000000 : Int32).toInt = 1000000 := (by decide); obtain ⟨u_z_85, q_z_85⟩ := i_iz ez_85 (by decide) (by decide); have q_iv_56 := iv_56; have q_c_67 := i_nle c_67; have g_v4_55 := i_rg v4_55; have g_z_85 := i_rg z_85; omega) ((E_58.tr (E_70.tr E_76))) ((gF.tr Fr_59 (gF.tr (gF.mo (F' := [(4, 6), (4, 7)]) (C' := [(4, 0), (4, 1), (4, 2)]) (S' := none) Fr_71 (by decide) (fun _ h => absurd h List.not_mem_nil) (Or.inl rfl)) Fr_77))) hG (by omega) (by omega) hP hD hS (lv_sub hl [1, 0] rfl)
              refine lv_icmp_ge (tgt := 154) hx hb dX4_seek_76 (by decide) (fun c_86 => ?_) (fun c_86 => ?_)
              · exact J_154 (dc_67_3) (ds_67_3) H locs ls (by omega) (by omega) hP hD hS (lv_sub hl [0, 1] rfl)
              · refine lv_iload hx hb dX4_seek_79 (lv_at hl 2 rfl) ?_
                refine lv_aload_n hx hb dX4_seek_81 rfl (lv_at hl 0 rfl) ?_
                refine va_get (D := gD g) (ci := 4) (v := .ref r1_39) (C := RX4) (T := TX4) (N := 8) hx hb hts inX4 hown hK hP k_1 hk_81 rfl 1 (by decide) (hts _ kw_957) (fun _ h9 => h9) rfl dX4_seek_82 ?_
                obtain ⟨k_87, f_87, hk_87⟩ := gI_of a_r1_39
                obtain ⟨z_88, ez_88⟩ : ∃ z : Int32, Int32.ofNat n1_39 = z := ⟨_, rfl⟩
                refine va_alen (v := z_88) hx hb hK hP k_87 1 hk_87 rfl ez_88 dX4_seek_85 ?_
                refine lv_icmp_ge (tgt := 154) hx hb dX4_seek_86 (by decide) (fun c_89 => ?_) (fun c_89 => ?_)
                · exact J_154 (dc_67_3) (ds_67_3) H locs ls (by omega) (by omega) hP hD hS (lv_sub hl [0, 1] rfl)
                · refine lv_aload_n hx hb dX4_seek_89 rfl (lv_at hl 0 rfl) ?_
                  refine va_get (D := gD g) (ci := 4) (v := .ref r1_39) (C := RX4) (T := TX4) (N := 8) hx hb hts inX4 hown hK hP k_1 hk_81 rfl 1 (by decide) (hts _ kw_957) (fun _ h9 => h9) rfl dX4_seek_90 ?_
                  refine lv_iload hx hb dX4_seek_93 (lv_at hl 2 rfl) ?_
                  refine va_iald hx hb hK hP k_87 1 hk_87 rfl (i_in2 (by have q_f3_39 := f3_39; have q_f9_39 := f9_39; have q_f9_49 := f9_49; have q_f9_63 := f9_63; have q_iv_74 := iv_74; have q_f9_81 := f9_81; have q_c_86 := i_nle c_86; have q_z_88 := i_len ez_88 f3_81; have q_c_89 := i_nle c_89; have q_f19_22 := f19_22; have q_f20_22 := f20_22; have q_f1_39 := f1_39; have q_f10_39 := f10_39; have q_f11_39 := f11_39; have q_f1_49 := f1_49; have q_f10_49 := f10_49; have q_f11_49 := f11_49; have q_f1_63 := f1_63; have q_f10_63 := f10_63; have q_f11_63 := f11_63; have q_f1_81 := f1_81; have q_f10_81 := f10_81; have q_f11_81 := f11_81; have q_f20_82 := f20_82; have g_c2_22 := i_rg c2_22; have g_v5_73 := i_rg v5_73; have g_z_88 := i_rg z_88; omega)) dX4_seek_95 ?_
                  refine lv_topi (fun z_90 ez_90 => ?_)
                  refine lv_istore (lv' := [(6, .int z_90), (0, .ref h0), (4, .int v4_55), (5, .int v5_73)]) hx hb dX4_seek_96 hl (by decide) rfl (fun ls hl => ?_)
                  refine lv_aload_n hx hb dX4_seek_98 rfl (lv_at hl 1 rfl) ?_
                  refine va_get (D := gD g) (ci := 4) (v := .ref r1_39) (C := RX4) (T := TX4) (N := 8) hx hb hts inX4 hown hK hP k_1 hk_81 rfl 1 (by decide) (hts _ kw_957) (fun _ h9 => h9) rfl dX4_seek_99 ?_
                  refine lv_iload hx hb dX4_seek_102 (lv_at hl 3 rfl) ?_
                  refine lv_iconst (v := 0) hx hb dX4_seek_104 (by decide) ?_
                  have hC9 : hol ws_75 r1_39 [(4, 1)] := (hol_u hG.u hk_81 (j := 1) rfl a_r1_39 (by decide))
                  have hS9 : holS ws_75 r1_39 none := holS_n
                  refine va_iast hx hb hK hP hD hS k_87 1 hk_87 rfl (i_in2 (by have q_f3_39 := f3_39; have q_f9_39 := f9_39; have q_f9_49 := f9_49; have q_f9_63 := f9_63; have q_iv_74 := iv_74; have q_f9_81 := f9_81; have q_c_86 := i_nle c_86; have q_z_88 := i_len ez_88 f3_81; have q_c_89 := i_nle c_89; have q_f19_22 := f19_22; have q_f20_22 := f20_22; have q_f1_39 := f1_39; have q_f10_39 := f10_39; have q_f11_39 := f11_39; have q_f1_49 := f1_49; have q_f10_49 := f10_49; have q_f11_49 := f11_49; have q_f1_63 := f1_63; have q_f10_63 := f10_63; have q_f11_63 := f11_63; have q_f1_81 := f1_81; have q_f10_81 := f10_81; have q_f11_81 := f11_81; have q_f20_82 := f20_82; have g_c2_22 := i_rg c2_22; have g_v5_73 := i_rg v5_73; have g_z_88 := i_rg z_88; omega)) dX4_seek_105 (fun H locs hP hD hS => ?_)
                  obtain ⟨ws_91, e_ws_91⟩ : ∃ z, z = ws_75.set k_87 (r1_39, .inl (g.cI, n1_39, .inl (upd f_87 (v5_73 : Int32).toNatClampNeg 0))) := ⟨_, rfl⟩
                  have hP : va_P (gD g) cl0 ws_91 H := by rw [e_ws_91]; exact hP
                  have hD : va_D A ws_91 := by rw [e_ws_91]; exact hD
                  have E_92 : gE ws_75 ws_91 := gE_ari e_ws_91 hk_87
                  have hG : Good g ws_91 := Good_arI e_ws_91 hk_87 hG
                  have Fr_93 : gF [] [(4, 1)] none ws_75 ws_91 := gF_ar e_ws_91 hk_87 rfl hC9 hS9
                  have pp_94 := Fr_93.pp
                  have hk_81 := gset_arO e_ws_91 hk_87 hk_81
                  have hk_82 := gset_arO e_ws_91 hk_87 hk_82
                  have o_h0 := E_92.1 _ _ o_h0
                  have a_r0_81 := E_92.1 _ _ a_r0_81
                  have a_r2_81 := E_92.1 _ _ a_r2_81
                  have a_r1_39 := E_92.1 _ _ a_r1_39
                  have o_b1 := E_92.1 _ _ o_b1
                  have o_b2 := E_92.1 _ _ o_b2
                  have a_r0_82 := E_92.1 _ _ a_r0_82
                  have a_r1_82 := E_92.1 _ _ a_r1_82
                  have a_r3_82 := E_92.1 _ _ a_r3_82
                  have a_r5_82 := E_92.1 _ _ a_r5_82
                  have a_r6_82 := E_92.1 _ _ a_r6_82
                  have a_r7_82 := E_92.1 _ _ a_r7_82
                  have a_r8_82 := E_92.1 _ _ a_r8_82
                  have o_v12_82 : ∀ b, v12_82 = some b → ∃ n, gI ws_91 b g.cB n ∧ n < 2147483648 := fun b h => (o_v12_82 b h).imp (fun n h => ⟨E_92.1 _ _ h.1, h.2⟩)
                  have o_v13_82 : ∀ b, v13_82 = some b → ∃ n, gJ ws_91 b g.cL n ∧ n < 2147483648 := fun b h => (o_v13_82 b h).imp (fun n h => ⟨E_92.1 _ _ h.1, h.2⟩)
                  have o_v14_82 : ∀ b, v14_82 = some b → ∃ n, gJ ws_91 b g.cL n ∧ n < 2147483648 := fun b h => (o_v14_82 b h).imp (fun n h => ⟨E_92.1 _ _ h.1, h.2⟩)
                  refine lv_iconst (v := 0) hx hb dX4_seek_106 (by decide) ?_
                  refine lv_istore (lv' := [(7, .int 0), (6, .int z_90), (0, .ref h0), (4, .int v4_55), (5, .int v5_73)]) hx hb dX4_seek_107 hl (by decide) rfl (fun ls hl => ?_)
                  have J_109 : ∀ (n9 : Nat) (v7_95 : Int32) (dc_109_5 : Nat) (ds_109_5 : Nat) (ws_97 : va_W) (H : Heap) (locs : List Loc) (ls : Array Slot), (2147483647 - v7_95.toInt).toNat = n9 → 0 ≤ v7_95.toInt → gE ws_91 ws_97 → gF [(4, 6), (4, 7)] [(4, 0), (4, 1), (4, 2)] none ws_91 ws_97 → Good g ws_97 → dc_109_5 + PC ws_97 ≤ PC ws + (0) → ds_109_5 + PS ws_97 ≤ PS ws + (0) → va_P (gD g) cl0 ws_97 H → va_D A ws_97 → va_S A s.heap H locs → lv_has ls 8 [(0, .ref h0), (4, .int v4_55), (5, .int v5_73), (6, .int z_90), (7, .int v7_95)] → W p l e (headSpec (wt yX4_seek cX4_seek 8 none) ({ frames := 4, cells := PC ws + (0), slots := PS ws + (0), locals := 94 })).room s m ([.ref h0, .ref b1, .ref b2, .int x3] : List Value).toArray below meth c H locs (dc_109_5) (ds_109_5) (MQ below (va_Qv (fun (u9 : va_W) => True) (gQ2 g [(4, 0), (4, 1), (4, 2), (4, 3), (4, 4), (4, 5), (4, 6), (4, 7)] [(4, 0), (4, 1), (4, 2)] none A ws s.heap (0) (0)) A) ([.ref h0, .ref b1, .ref b2, .int x3] : List Value).toArray s (PC ws + (0)) (PS ws + (0)) A) (F0 m 109 ls []) := by
                    intro n9
                    induction n9 using Nat.strongRecOn with
                    | ind n9 ih_109 =>
                      intro v7_95 dc_109_5 ds_109_5 ws_97 H locs ls hm9 iv_96 E_98 Fr_99 hG hc9 hs9 hP hD hS hl
                      subst hm9
                      have aa_100 := a_r0_81
                      have aa_101 := a_r1_39
                      have aa_102 := a_r2_81
                      have aa_103 := a_r0_82
                      have aa_104 := a_r1_82
                      have aa_105 := a_r3_82
                      have aa_106 := a_r5_82
                      have aa_107 := a_r6_82
                      have aa_108 := a_r7_82
                      have aa_109 := a_r8_82
                      have o_h0 := E_98.1 _ _ o_h0
                      refine lv_iload hx hb dX4_seek_109 (lv_at hl 3 rfl) ?_
                      refine lv_iload hx hb dX4_seek_111 (lv_at hl 4 rfl) ?_
                      refine lv_iushr hx hb dX4_seek_113 rfl ?_
                      refine lv_topi (fun z_110 ez_110 => ?_)
                      have J_148 : ∀ (dc_148_6 : Nat) (ds_148_6 : Nat) (H : Heap) (locs : List Loc) (ls : Array Slot), dc_148_6 + PC ws_97 ≤ PC ws + (0) → ds_148_6 + PS ws_97 ≤ PS ws + (0) → va_P (gD g) cl0 ws_97 H → va_D A ws_97 → va_S A s.heap H locs → lv_has ls 8 [(0, .ref h0), (4, .int v4_55), (5, .int v5_73)] → W p l e (headSpec (wt yX4_seek cX4_seek 8 none) ({ frames := 4, cells := PC ws + (0), slots := PS ws + (0), locals := 94 })).room s m ([.ref h0, .ref b1, .ref b2, .int x3] : List Value).toArray below meth c H locs (dc_148_6) (ds_148_6) (MQ below (va_Qv (fun (u9 : va_W) => True) (gQ2 g [(4, 0), (4, 1), (4, 2), (4, 3), (4, 4), (4, 5), (4, 6), (4, 7)] [(4, 0), (4, 1), (4, 2)] none A ws s.heap (0) (0)) A) ([.ref h0, .ref b1, .ref b2, .int x3] : List Value).toArray s (PC ws + (0)) (PS ws + (0)) A) (F0 m 148 ls []) := by
                        intro dc_148_6 ds_148_6 H locs ls  hc9 hs9 hP hD hS hl
                        obtain ⟨z_113, ez_113⟩ : ∃ z : Int32, v5_73 + Int32.ofInt 1 = z := ⟨_, rfl⟩
                        refine lv_iinc (v := z_113) (lv' := [(5, .int z_113), (0, .ref h0), (4, .int v4_55)]) hx hb dX4_seek_148 hl (k := 2) rfl ez_113 (by decide) rfl (fun ls hl => ?_)
                        refine lv_goto (tgt := 67) hx hb dX4_seek_151 (by decide) ?_
                        exact ih_67 _ (by obtain ⟨u_z_113, q_z_113⟩ := i_iz ez_113 (by decide) (by decide); have q_iv_74 := iv_74; have q_c_86 := i_nle c_86; have q_c_89 := i_nle c_89; have g_c2_22 := i_rg c2_22; have g_v5_73 := i_rg v5_73; have g_z_113 := i_rg z_113; have g_z_88 := i_rg z_88; omega) (z_113) (dc_148_6) (ds_148_6) ws_97 H locs ls rfl (by obtain ⟨u_z_113, q_z_113⟩ := i_iz ez_113 (by decide) (by decide); have q_iv_74 := iv_74; have q_c_86 := i_nle c_86; have q_c_89 := i_nle c_89; have g_c2_22 := i_rg c2_22; have g_v5_73 := i_rg v5_73; have g_z_113 := i_rg z_113; have g_z_88 := i_rg z_88; omega) ((E_76.tr (E_92.tr E_98))) ((gF.tr Fr_77 (gF.tr (gF.mo (F' := [(4, 6), (4, 7)]) (C' := [(4, 0), (4, 1), (4, 2)]) (S' := none) Fr_93 (fun _ h => absurd h List.not_mem_nil) (by decide) (Or.inr rfl)) Fr_99))) hG (by omega) (by omega) hP hD hS (lv_sub hl [1, 2, 0] rfl)
                      refine lv_if_le (tgt := 148) hx hb dX4_seek_114 (by decide) (fun c_114 => ?_) (fun c_114 => ?_)
                      · exact J_148 (dc_109_5) (ds_109_5) H locs ls (by omega) (by omega) hP hD hS (lv_sub hl [0, 1, 2] rfl)
                      · refine lv_iload hx hb dX4_seek_117 (lv_at hl 4 rfl) ?_
                        refine lv_bipush (v := 31) hx hb dX4_seek_119 (by decide) ?_
                        refine lv_icmp_ge (tgt := 148) hx hb dX4_seek_121 (by decide) (fun c_115 => ?_) (fun c_115 => ?_)
                        · exact J_148 (dc_109_5) (ds_109_5) H locs ls (by omega) (by omega) hP hD hS (lv_sub hl [0, 1, 2] rfl)
                        · refine lv_iload hx hb dX4_seek_124 (lv_at hl 3 rfl) ?_
                          refine lv_iload hx hb dX4_seek_126 (lv_at hl 4 rfl) ?_
                          refine lv_ishr hx hb dX4_seek_128 ?_
                          refine lv_topi (fun z_116 ez_116 => ?_)
                          refine lv_iconst (v := 1) hx hb dX4_seek_129 (by decide) ?_
                          refine lv_iand hx hb dX4_seek_130 ?_
                          refine lv_topi (fun z_117 ez_117 => ?_)
                          have J_142 : ∀ (dc_142_7 : Nat) (ds_142_7 : Nat) (ws_118 : va_W) (H : Heap) (locs : List Loc) (ls : Array Slot), gE ws_97 ws_118 → gF [(4, 6), (4, 7)] [(4, 0), (4, 1), (4, 2)] none ws_97 ws_118 → Good g ws_118 → dc_142_7 + PC ws_118 ≤ PC ws + (0) → ds_142_7 + PS ws_118 ≤ PS ws + (0) → va_P (gD g) cl0 ws_118 H → va_D A ws_118 → va_S A s.heap H locs → lv_has ls 8 [(0, .ref h0), (4, .int v4_55), (5, .int v5_73), (6, .int z_90), (7, .int v7_95)] → W p l e (headSpec (wt yX4_seek cX4_seek 8 none) ({ frames := 4, cells := PC ws + (0), slots := PS ws + (0), locals := 94 })).room s m ([.ref h0, .ref b1, .ref b2, .int x3] : List Value).toArray below meth c H locs (dc_142_7) (ds_142_7) (MQ below (va_Qv (fun (u9 : va_W) => True) (gQ2 g [(4, 0), (4, 1), (4, 2), (4, 3), (4, 4), (4, 5), (4, 6), (4, 7)] [(4, 0), (4, 1), (4, 2)] none A ws s.heap (0) (0)) A) ([.ref h0, .ref b1, .ref b2, .int x3] : List Value).toArray s (PC ws + (0)) (PS ws + (0)) A) (F0 m 142 ls []) := by
                            intro dc_142_7 ds_142_7 ws_118 H locs ls  E_119 Fr_120 hG hc9 hs9 hP hD hS hl
                            have o_h0 := E_119.1 _ _ o_h0
                            obtain ⟨z_121, ez_121⟩ : ∃ z : Int32, v7_95 + Int32.ofInt 1 = z := ⟨_, rfl⟩
                            refine lv_iinc (v := z_121) (lv' := [(7, .int z_121), (0, .ref h0), (4, .int v4_55), (5, .int v5_73), (6, .int z_90)]) hx hb dX4_seek_142 hl (k := 4) rfl ez_121 (by decide) rfl (fun ls hl => ?_)
                            refine lv_goto (tgt := 109) hx hb dX4_seek_145 (by decide) ?_
                            exact ih_109 _ (by have e31 : (31 : Int32).toInt = 31 := (by decide); obtain ⟨u_z_121, q_z_121⟩ := i_iz ez_121 (by decide) (by decide); have q_iv_96 := iv_96; have q_c_115 := i_nle c_115; have g_v7_95 := i_rg v7_95; have g_z_121 := i_rg z_121; omega) (z_121) (dc_142_7) (ds_142_7) ws_118 H locs ls rfl (by have e31 : (31 : Int32).toInt = 31 := (by decide); obtain ⟨u_z_121, q_z_121⟩ := i_iz ez_121 (by decide) (by decide); have q_iv_96 := iv_96; have q_c_115 := i_nle c_115; have g_v7_95 := i_rg v7_95; have g_z_121 := i_rg z_121; omega) ((E_98.tr E_119)) ((gF.tr Fr_99 Fr_120)) hG (by omega) (by omega) hP hD hS (lv_sub hl [1, 2, 3, 4, 0] rfl)
                          refine lv_if_eq (tgt := 142) hx hb dX4_seek_131 (by decide) (fun c_122 => ?_) (fun c_122 => ?_)
                          · exact J_142 (dc_109_5) (ds_109_5) ws_97 H locs ls (gE.rf) (gF.rf) hG (by omega) (by omega) hP hD hS (lv_sub hl [0, 1, 2, 3, 4] rfl)
                          · refine lv_aload_n hx hb dX4_seek_134 rfl (lv_at hl 0 rfl) ?_
                            refine lv_iload hx hb dX4_seek_135 (lv_at hl 2 rfl) ?_
                            refine lv_iload hx hb dX4_seek_137 (lv_at hl 4 rfl) ?_
                            obtain ⟨fs9, hk_123, hq_123⟩ := ((gF.a (F' := [(4, 6), (4, 7)]) Fr_99 (fun _ h => h))) _ _ _ hk_81
                            obtain ⟨r0_123, n0_123, r1_123, n1_123, r2_123, n2_123, v3_123, v4_123, c5_123, c6_123, c7_123, rfl, a_r0_123, f1_123, a_r1_123, f3_123, a_r2_123, f5_123, o_v3_123, o_v4_123, hz_c6_123, f9_123, f10_123, f11_123, -⟩ := (hG.1 _ _ _ _ hk_123).hX4 rfl
                            obtain rfl := fe_r (hq_123 1 (by decide))
                            have hn9 := gI_n hD ((E_98).1 _ _ aa_101) a_r1_123
                            subst hn9
                            have a_r1_39 := a_r1_123
                            have hn9 := fe_qr (hq_123 3 (by decide))
                            subst hn9
                            have o_b1 := o_v3_123 _ rfl
                            have hn9 := fe_qr (hq_123 4 (by decide))
                            subst hn9
                            have o_b2 := o_v4_123 _ rfl
                            have hFc := gfree hD hS hA
                            refine va_callv (va_runV (As := [.int v5_73, .int v7_95]) (rest := []) ⟨hx, hb, hml, hown, hts⟩ (m_X4_spread l g H.size ws_97 h0 (v5_73) (v7_95) hG o_h0 (gN_of hD hk_123 (j := 3) rfl) (gN_of hD hk_123 (j := 4) rfl) (gP_of hD hk_123 (fun p90 q90 e90 g90 => by cases e90; have z90 := gI_n hD a_r2_123 g90; subst z90; exact (by have q_iv_74 := iv_74; have q_c_86 := i_nle c_86; have q_c_89 := i_nle c_89; have q_f5_123 := f5_123; have q_f10_123 := f10_123; have q_f19_22 := f19_22; have q_f20_22 := f20_22; have q_f20_82 := f20_82; have q_z_88 := i_len ez_88 f3_81; have q_f1_123 := f1_123; have q_f9_123 := f9_123; have q_f11_123 := f11_123; have g_c2_22 := i_rg c2_22; have g_v5_73 := i_rg v5_73; have g_z_88 := i_rg z_88; omega))) (by have q_iv_74 := iv_74; have q_c_86 := i_nle c_86; have q_c_89 := i_nle c_89; have q_f19_22 := f19_22; have q_f20_22 := f20_22; have q_f20_82 := f20_82; have q_z_88 := i_len ez_88 f3_81; have g_c2_22 := i_rg c2_22; have g_v5_73 := i_rg v5_73; have g_z_88 := i_rg z_88; omega)) (cwV 2 hts (gd_V kw_984 kw_986 kw_987 kw_167 kw_985) rfl rfl rfl (by decide +kernel) ⟨Nat.le_of_ble_eq_true rfl, Nat.le_of_ble_eq_true rfl⟩) ⟨gblind, va_recv hK hP (ci := 4) (q0 := k_1) rfl hk_123, fun U hU hW9 => gmk hU hW9 hP hK hD hex hE hS hFc⟩ rfl rfl hl.1 rfl (lv_room (Nat.le_of_ble_eq_true rfl)) dX4_seek_139 ⟨(show dc_109_5 + 0 ≤ PC ws + (0) from (by omega)), (show ds_109_5 + 0 ≤ PS ws + (0) from (by omega))⟩) hS (fun q _ h => hFc q h) hFc (fun  ws_124 t9 H1 locs ht9 hvm9 hw9 hB9 hz9 hk9 hS => ?_)
                            obtain ⟨E_125, Fr_126, hG, hP1, hD1⟩ := hB9
                            have hP : va_P (gD g) cl0 ws_124 H1 := by rw [← ht9]; exact hP1
                            have hD : va_D A ws_124 := hD1.weaken (fun _ _ _ h => hFc _ h)
                            clear hP1 hD1 hz9 hk9 hvm9 ht9 hw9
                            generalize H1 = H at hP hS ⊢
                            have aa_129 := a_r0_123
                            have aa_130 := a_r1_39
                            have aa_131 := a_r2_123
                            have o_h0 := E_125.1 _ _ o_h0
                            have pp_132 := Fr_126.pp
                            exact J_142 (dc_109_5) (ds_109_5) ws_124 H locs ls (E_125) (Fr_126) hG (by omega) (by omega) hP hD hS (lv_sub hl [0, 1, 2, 3, 4] rfl)
                  exact J_109 _ (0) (dc_67_3) (ds_67_3) ws_91 H locs ls rfl (by have e0 : (0 : Int32).toInt = 0 := (by decide); omega) (gE.rf) (gF.rf) hG (by omega) (by omega) hP hD hS (lv_sub hl [2, 3, 4, 1, 0] rfl)
          exact J_67 _ (0) (dc_45_1) (ds_45_1) ws_69 H locs ls rfl (by have e0 : (0 : Int32).toInt = 0 := (by decide); omega) (gE.rf) (gF.rf) hG (by omega) (by omega) hP hD hS (lv_sub hl [1, 2, 0] rfl)
  exact J_45 _ (0) (0 + dc_27) (0 + ds_28) ws_51 H locs ls rfl (by have e0 : (0 : Int32).toInt = 0 := (by decide); omega) (gE.rf) (gF.rf) hG (by omega) (by omega) hP hD hS (lv_sub hl [1, 0] rfl)
