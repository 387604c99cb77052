set_option maxHeartbeats 1000000 in
set_option maxRecDepth 100000 in
theorem m_X7_u4_x (l : Launch) (g : Gm) (sz : Nat) (ws : va_W) (h0 : Nat) (x1 : Int32) (hG : Good g ws) (o_h0 : gC ws h0 6) : Met l yX7_u4 (wt yX7_u4 cX7_u4 2 (some .long)) ({ frames := 1, cells := 0, slots := 0, locals := 21 }) (va_Pc [.ref h0, .int x1] (st_G g sz ws)) (va_Ql (fun (r : Int64) (u9 : Unit) => (True) ∧ (∀ (f : Nat → Int32) (e : Int32) (n : Nat), vw ws h0 f e n → r = (jS4 f e n x1).toInt64 &&& 4294967295)) (gQ0 g (va_A ws sz) ws) (va_A ws sz)) (0) (0) (va_A ws sz) := by
  refine Met.ofW (cc := cX7_u4) (maxL := 2) (ret := (some .long)) (by decide) rfl ?_
  intro p e s m args below meth c s₁ B hml hv
  obtain ⟨rfl, hsz, hP, hK, hD0, hex, hE⟩ := hv
  have hx := B.exec
  have hb := B.bytes
  have hr := B.returns
  have hts0 := atoms_spec (ws := wt yX7_u4 cX7_u4 2 (some .long)) B.pre
  have hts : ∀ w ∈ tb, w.before _ s = true := fun w h => hts0 w (List.mem_cons_of_mem _ h)
  have hown : s.vm.findClass RX7 = some m.cls := findClass_of_methodNamed B.named
  subst hsz
  have hD := hD0.self (sz := s.heap.size)
  generalize hAe : va_A ws s.heap.size = A at hD hE ⊢
  have hA : ∀ q : Nat, s.heap.size ≤ q → A q := fun q h => by rw [← hAe]; exact Or.inr h
  have hS : va_S A s.heap s.heap [] := va_S.rf
  have hl := lv_entry ([.ref h0, .int x1]) (n := 2) (Nat.le_of_ble_eq_true rfl)
  rw [lg_entry_eq]
  generalize (lg_sl ([.ref h0, .int x1]) ++ List.replicate (2 - (lg_sl ([.ref h0, .int x1])).length) Slot.unset).toArray = ls at hl ⊢
  have hl : lv_has ls 2 [(0, .ref h0), (1, .int x1)] := hl
  refine lv_aload_n hx hb dX7_u4_0 rfl (lv_at hl 0 rfl) ?_
  refine lv_iload_n hx hb dX7_u4_1 rfl (lv_at hl 1 rfl) ?_
  have hFc := gfree hD hS hA
  obtain ⟨k_1, fs_1, hk_1⟩ := gC_of o_h0
  refine va_calli (va_runV (As := [.int x1]) (rest := []) ⟨hx, hb, hml, hown, hts⟩ (m_X7_s4_x l g s.heap.size ws h0 (x1) hG o_h0) (cwV 1 hts (gd_V kw_1268 kw_1429 kw_1430 kw_710 kw_1428) rfl rfl rfl (by decide +kernel) ⟨Nat.le_of_ble_eq_true rfl, Nat.le_of_ble_eq_true rfl⟩) ⟨gblind, va_recv hK hP (ci := 6) (q0 := k_1) rfl hk_1, fun U hU hW9 => gmk hU hW9 hP hK hD hex hE hS hFc⟩ rfl rfl hl.1 rfl (lv_room (Nat.le_of_ble_eq_true rfl)) dX7_u4_2 ⟨Nat.le_of_ble_eq_true rfl, Nat.le_of_ble_eq_true rfl⟩) hS (fun q _ h => hFc q h) hFc (fun r_2 u9 t9 H1 locs ht9 hvm9 hw9 hB9 hz9 hk9 hS => ?_)
  have hP : va_P (gD g) cl0 ws H1 := by rw [← ht9]; exact hB9.1
  obtain ⟨hw9, xp_3⟩ := hw9
  clear hB9 hz9 hk9 hvm9 ht9 hw9
  generalize H1 = H at hP hS ⊢
  obtain ⟨z_4, ez_4⟩ : ∃ y : Int64, (r_2 : Int32).toInt64 = y := ⟨_, rfl⟩
  refine lv_i2l (v := z_4) hx hb dX7_u4_5 ez_4 ?_
  refine lv_ldc2 hx hb hown (hts _ kw_1455) dX7_u4_6 ?_
  refine lv_land hx hb dX7_u4_9 ?_
  refine lv_topl (fun z_5 ez_5 => ?_)
  refine W.widen (k := 0) (n := 0) (Nat.le_of_ble_eq_true rfl) (Nat.le_of_ble_eq_true rfl) ?_
  exact W.lret (v := z_5) hx hb hr (fun t9 ht9 hW9 => ⟨⟨_, (), rfl, ⟨trivial, (fun f9 e9 n9 q9 => by rw [← xp_3 _ _ _ q9]; simp only [ez_4, ← ez_5])⟩, ⟨by rw [ht9]; exact hP, hD⟩⟩, hS.F ht9⟩) hS.2.2 dX7_u4_10
set_option maxHeartbeats 1000000 in
set_option maxRecDepth 100000 in
theorem m_X2_catchesHold_x (l : Launch) (g : Gm) (sz : Nat) (ws : va_W) (h0 : Nat) (x1 : Int32) (x2 : Int32) (hG : Good g ws) (o_h0 : gC ws h0 2) : Met l yX2_catchesHold (wt yX2_catchesHold cX2_catchesHold 7 (some .boolean)) ({ frames := 2, cells := 0, slots := 0, locals := 42 }) (va_Pc [.ref h0, .int x1, .int x2] (st_G g sz ws)) (va_Qi (fun (r : Int32) (u9 : va_W) => (r = 0 ∨ r = 1) ∧ (r.toInt = 1 → ∀ (f : Nat → Int32) (e : Int32) (n : Nat) (fc : Nat → Int32) (mc : Int32), vm ws h0 f e n fc mc → (jU2 f e n x1).toInt ≤ 16)) (gQ1 g [(6, 2), (6, 3)] [] none (va_A ws sz) ws) (va_A ws sz)) (0) (0) (va_A ws sz) := by
  refine Met.ofW (cc := cX2_catchesHold) (maxL := 7) (ret := (some .boolean)) (by decide) rfl ?_
  intro p e s m args below meth c s₁ B hml hv
  obtain ⟨rfl, hsz, hP, hK, hD0, hex, hE⟩ := hv
  have hx := B.exec
  have hb := B.bytes
  have hr := B.returns
  have hts0 := atoms_spec (ws := wt yX2_catchesHold cX2_catchesHold 7 (some .boolean)) B.pre
  have hts : ∀ w ∈ tb, w.before _ s = true := fun w h => hts0 w (List.mem_cons_of_mem _ h)
  have hown : s.vm.findClass RX2 = some m.cls := findClass_of_methodNamed B.named
  subst hsz
  have hD := hD0.self (sz := s.heap.size)
  generalize hAe : va_A ws s.heap.size = A at hD hE ⊢
  have hA : ∀ q : Nat, s.heap.size ≤ q → A q := fun q h => by rw [← hAe]; exact Or.inr h
  have hS : va_S A s.heap s.heap [] := va_S.rf
  have hl := lv_entry ([.ref h0, .int x1, .int x2]) (n := 7) (Nat.le_of_ble_eq_true rfl)
  rw [lg_entry_eq]
  generalize (lg_sl ([.ref h0, .int x1, .int x2]) ++ List.replicate (7 - (lg_sl ([.ref h0, .int x1, .int x2])).length) Slot.unset).toArray = ls at hl ⊢
  have hl : lv_has ls 7 [(0, .ref h0), (1, .int x1), (2, .int x2)] := hl
  obtain ⟨k_1, fs9, hk_1⟩ := gC_of o_h0
  obtain ⟨r0_1, c1_1, c2_1, c3_1, c4_1, c5_1, c6_1, r7_1, n7_1, c8_1, c9_1, l10_1, c11_1, rfl, o_r0_1, a_r7_1, f2_1, f3_1, f4_1, -⟩ := (hG.1 _ _ _ _ hk_1).hX2 rfl
  have hkH := hk_1
  refine lv_iload_n hx hb dX2_catchesHold_0 rfl (lv_at hl 1 rfl) ?_
  refine lv_iconst (v := 2) hx hb dX2_catchesHold_1 (by decide) ?_
  refine lv_iadd hx hb dX2_catchesHold_2 ?_
  refine lv_topi (fun z_2 ez_2 => ?_)
  refine lv_iload_n hx hb dX2_catchesHold_3 rfl (lv_at hl 2 rfl) ?_
  refine lv_icmp_le (tgt := 18) hx hb dX2_catchesHold_4 (by decide) (fun c_3 => ?_) (fun c_3 => ?_)
  · refine lv_aload_n hx hb dX2_catchesHold_18 rfl (lv_at hl 0 rfl) ?_
    refine va_get (D := gD g) (ci := 2) (v := .ref r0_1) (C := RX2) (T := TX2) (N := 12) hx hb hts inX2 hown hK hP k_1 hk_1 rfl 0 (by decide) (hts _ kw_632) (fun _ h9 => h9) rfl dX2_catchesHold_19 ?_
    refine lv_iload_n hx hb dX2_catchesHold_22 rfl (lv_at hl 1 rfl) ?_
    have hFc := gfree hD hS hA
    obtain ⟨k_4, fs_4, hk_4⟩ := gC_of o_r0_1
    refine va_calli (va_runV (As := [.int x1]) (rest := []) ⟨hx, hb, hml, hown, hts⟩ (m_X7_u2_x l g s.heap.size ws r0_1 (x1) hG o_r0_1) (cwV 1 hts (gd_V kw_651 kw_1450 kw_1451 kw_710 kw_1449) rfl rfl rfl (by decide +kernel) ⟨Nat.le_of_ble_eq_true rfl, Nat.le_of_ble_eq_true rfl⟩) ⟨gblind, va_recv hK hP (ci := 6) (q0 := k_4) rfl hk_4, fun U hU hW9 => gmk hU hW9 hP hK hD hex hE hS hFc⟩ rfl rfl hl.1 rfl (lv_room (Nat.le_of_ble_eq_true rfl)) dX2_catchesHold_23 ⟨Nat.le_of_ble_eq_true rfl, Nat.le_of_ble_eq_true rfl⟩) hS (fun q _ h => hFc q h) hFc (fun r_5 u9 t9 H1 locs ht9 hvm9 hw9 hB9 hz9 hk9 hS => ?_)
    have hP : va_P (gD g) cl0 ws H1 := by rw [← ht9]; exact hB9.1
    obtain ⟨hw9, xp_6⟩ := hw9
    have h_r_5 := hw9
    clear hB9 hz9 hk9 hvm9 ht9 hw9
    generalize H1 = H at hP hS ⊢
    refine lv_istore_n (lv' := [(3, .int r_5), (0, .ref h0), (1, .int x1), (2, .int x2)]) hx hb dX2_catchesHold_26 rfl hl (by decide) rfl (fun ls hl => ?_)
    refine lv_iload_n hx hb dX2_catchesHold_27 rfl (lv_at hl 0 rfl) ?_
    refine lv_bipush (v := 16) hx hb dX2_catchesHold_28 (by decide) ?_
    refine lv_icmp_le (tgt := 44) hx hb dX2_catchesHold_30 (by decide) (fun c_7 => ?_) (fun c_7 => ?_)
    · refine lv_iload_n hx hb dX2_catchesHold_44 rfl (lv_at hl 2 rfl) ?_
      refine lv_iconst (v := 2) hx hb dX2_catchesHold_45 (by decide) ?_
      refine lv_iadd hx hb dX2_catchesHold_46 ?_
      refine lv_topi (fun z_8 ez_8 => ?_)
      refine lv_bipush (v := 8) hx hb dX2_catchesHold_47 (by decide) ?_
      refine lv_iload_n hx hb dX2_catchesHold_49 rfl (lv_at hl 0 rfl) ?_
      refine lv_imul hx hb dX2_catchesHold_50 ?_
      refine lv_topi (fun z_9 ez_9 => ?_)
      refine lv_iadd hx hb dX2_catchesHold_51 ?_
      refine lv_topi (fun z_10 ez_10 => ?_)
      refine lv_istore (lv' := [(4, .int z_10), (3, .int r_5), (0, .ref h0), (1, .int x1), (2, .int x2)]) hx hb dX2_catchesHold_52 hl (by decide) rfl (fun ls hl => ?_)
      refine lv_iload hx hb dX2_catchesHold_54 (lv_at hl 0 rfl) ?_
      refine lv_iconst (v := 2) hx hb dX2_catchesHold_56 (by decide) ?_
      refine lv_iadd hx hb dX2_catchesHold_57 ?_
      refine lv_topi (fun z_11 ez_11 => ?_)
      refine lv_iload_n hx hb dX2_catchesHold_58 rfl (lv_at hl 4 rfl) ?_
      refine lv_icmp_le (tgt := 73) hx hb dX2_catchesHold_59 (by decide) (fun c_12 => ?_) (fun c_12 => ?_)
      · refine lv_aload_n hx hb dX2_catchesHold_73 rfl (lv_at hl 2 rfl) ?_
        refine va_get (D := gD g) (ci := 2) (v := .ref r0_1) (C := RX2) (T := TX2) (N := 12) hx hb hts inX2 hown hK hP k_1 hk_1 rfl 0 (by decide) (hts _ kw_632) (fun _ h9 => h9) rfl dX2_catchesHold_74 ?_
        refine lv_iload hx hb dX2_catchesHold_77 (lv_at hl 0 rfl) ?_
        have hFc := gfree hD hS hA
        obtain ⟨k_13, fs_13, hk_13⟩ := gC_of o_r0_1
        refine va_calli (va_runV (As := [.int z_10]) (rest := []) ⟨hx, hb, hml, hown, hts⟩ (m_X7_u2_x l g H.size ws r0_1 (z_10) hG o_r0_1) (cwV 1 hts (gd_V kw_651 kw_1450 kw_1451 kw_710 kw_1449) rfl rfl rfl (by decide +kernel) ⟨Nat.le_of_ble_eq_true rfl, Nat.le_of_ble_eq_true rfl⟩) ⟨gblind, va_recv hK hP (ci := 6) (q0 := k_13) rfl hk_13, fun U hU hW9 => gmk hU hW9 hP hK hD hex hE hS hFc⟩ rfl rfl hl.1 rfl (lv_room (Nat.le_of_ble_eq_true rfl)) dX2_catchesHold_79 ⟨Nat.le_of_ble_eq_true rfl, Nat.le_of_ble_eq_true rfl⟩) hS (fun q _ h => hFc q h) hFc (fun r_14 u9 t9 H1 locs ht9 hvm9 hw9 hB9 hz9 hk9 hS => ?_)
        have hP : va_P (gD g) cl0 ws H1 := by rw [← ht9]; exact hB9.1
        obtain ⟨hw9, xp_15⟩ := hw9
        have h_r_14 := hw9
        clear hB9 hz9 hk9 hvm9 ht9 hw9
        generalize H1 = H at hP hS ⊢
        refine lv_istore (lv' := [(5, .int r_14), (4, .int z_10), (3, .int r_5), (0, .ref h0), (1, .int x1), (2, .int x2)]) hx hb dX2_catchesHold_82 hl (by decide) rfl (fun ls hl => ?_)
        obtain ⟨z_16, ez_16⟩ : ∃ z : Int32, z_10 + Int32.ofInt 2 = z := ⟨_, rfl⟩
        refine lv_iinc (v := z_16) (lv' := [(4, .int z_16), (5, .int r_14), (3, .int r_5), (0, .ref h0), (1, .int x1), (2, .int x2)]) hx hb dX2_catchesHold_84 hl (k := 1) rfl ez_16 (by decide) rfl (fun ls hl => ?_)
        refine lv_iconst (v := 0) hx hb dX2_catchesHold_87 (by decide) ?_
        refine lv_istore (lv' := [(6, .int 0), (4, .int z_16), (5, .int r_14), (3, .int r_5), (0, .ref h0), (1, .int x1), (2, .int x2)]) hx hb dX2_catchesHold_88 hl (by decide) rfl (fun ls hl => ?_)
        have J_90 : ∀ (n9 : Nat) (v4_17 : Int32) (v6_18 : Int32) (H : Heap) (locs : List Loc) (ls : Array Slot), (2147483647 - v6_18.toInt).toNat = n9 → 0 ≤ v6_18.toInt → va_P (gD g) cl0 ws H → va_D A ws → va_S A s.heap H locs → lv_has ls 7 [(0, .ref h0), (2, .int x2), (4, .int v4_17), (5, .int r_14), (6, .int v6_18)] → W p l e (headSpec (wt yX2_catchesHold cX2_catchesHold 7 (some .boolean)) ({ frames := 2, cells := 0, slots := 0, locals := 42 })).room s m ([.ref h0, .int x1, .int x2] : List Value).toArray below meth c H locs (0) (0) (MQ below (va_Qi (fun (r : Int32) (u9 : va_W) => (r = 0 ∨ r = 1) ∧ (r.toInt = 1 → ∀ (f : Nat → Int32) (e : Int32) (n : Nat) (fc : Nat → Int32) (mc : Int32), vm ws h0 f e n fc mc → (jU2 f e n x1).toInt ≤ 16)) (gQ1 g [(6, 2), (6, 3)] [] none A ws) A) ([.ref h0, .int x1, .int x2] : List Value).toArray s (0) (0) A) (F0 m 90 ls []) := by
          intro n9
          induction n9 using Nat.strongRecOn with
          | ind n9 ih_90 =>
            intro v4_17 v6_18 H locs ls hm9 iv_19 hP hD hS hl
            subst hm9
            refine lv_iload hx hb dX2_catchesHold_90 (lv_at hl 4 rfl) ?_
            refine lv_iload hx hb dX2_catchesHold_92 (lv_at hl 3 rfl) ?_
            refine lv_icmp_ge (tgt := 165) hx hb dX2_catchesHold_94 (by decide) (fun c_22 => ?_) (fun c_22 => ?_)
            · refine lv_iload hx hb dX2_catchesHold_165 (lv_at hl 2 rfl) ?_
              refine lv_iload_n hx hb dX2_catchesHold_167 rfl (lv_at hl 1 rfl) ?_
              refine lv_icmp_eq (tgt := 185) hx hb dX2_catchesHold_168 (by decide) (fun c_23 => ?_) (fun c_23 => ?_)
              · refine lv_iconst (v := 1) hx hb dX2_catchesHold_185 (by decide) ?_
                refine lv_goto (tgt := 190) hx hb dX2_catchesHold_186 (by decide) ?_
                refine W.widen (k := 0) (n := 0) (Nat.le_of_ble_eq_true rfl) (Nat.le_of_ble_eq_true rfl) ?_
                exact W.zret (v := 1) hx hb hr (nz (Or.inr rfl)) (fun t9 ht9 hW9 => ⟨⟨_, ws, rfl, ⟨(Or.inr rfl), (fun _ f9 e9 n9 c9 m9 q9 => by rw [← xp_6 _ _ _ (vm_vw hD0 hkH rfl q9)]; exact (by have e16 : (16 : Int32).toInt = 16 := (by decide); have q_r_5 := h_r_5; have q_c_7 := i_le c_7; have q_z_9 := i_mulL (c := 8) (K := 268435455) ez_9 (by decide) (by decide) (by decide) (by decide); obtain ⟨u_z_10, q_z_10⟩ := i_add ez_10; have g_r_5 := i_rg r_5; have g_z_10 := i_rg z_10; have g_z_8 := i_rg z_8; have g_z_9 := i_rg z_9; omega))⟩, ⟨gE.rf, gF.rf, hG, by rw [ht9]; exact hP, hD⟩⟩, hS.F ht9⟩) hS.2.2 dX2_catchesHold_190
              · refine lv_aload_n hx hb dX2_catchesHold_171 rfl (lv_at hl 0 rfl) ?_
                refine va_get (D := gD g) (ci := 2) (v := .ref r0_1) (C := RX2) (T := TX2) (N := 12) hx hb hts inX2 hown hK hP k_1 hk_1 rfl 0 (by decide) (hts _ kw_632) (fun _ h9 => h9) rfl dX2_catchesHold_172 ?_
                refine lv_bipush (v := 14) hx hb dX2_catchesHold_175 (by decide) ?_
                refine lv_iload hx hb dX2_catchesHold_177 (lv_at hl 2 rfl) ?_
                have hFc := gfree hD hS hA
                obtain ⟨k_24, fs_24, hk_24⟩ := gC_of o_r0_1
                refine va_calli (va_runV (As := [.int 14, .int v4_17]) (rest := []) ⟨hx, hb, hml, hown, hts⟩ (m_X7_breaks_z l g H.size ws r0_1 (14) (v4_17) hG o_r0_1) (cwV 2 hts (gd_V kw_677 kw_1278 kw_1279 kw_710 kw_1277) rfl rfl rfl (by decide +kernel) ⟨Nat.le_of_ble_eq_true rfl, Nat.le_of_ble_eq_true rfl⟩) ⟨gblind, va_recv hK hP (ci := 6) (q0 := k_24) rfl hk_24, fun U hU hW9 => gmk hU hW9 hP hK hD hex hE hS hFc⟩ rfl rfl hl.1 rfl (lv_room (Nat.le_of_ble_eq_true rfl)) dX2_catchesHold_179 ⟨Nat.le_of_ble_eq_true rfl, Nat.le_of_ble_eq_true rfl⟩) hS (fun q _ h => hFc q h) hFc (fun r_25 ws_26 t9 H1 locs ht9 hvm9 hw9 hB9 hz9 hk9 hS => ?_)
                obtain ⟨E_27, Fr_28, hG, hP1, hD1⟩ := hB9
                have hP : va_P (gD g) cl0 ws_26 H1 := by rw [← ht9]; exact hP1
                have hD : va_D A ws_26 := hD1.weaken (fun _ _ _ h => hFc _ h)
                obtain ⟨hw9, xp_31⟩ := hw9
                have hz_r_25 : r_25 = 0 ∨ r_25 = 1 := hw9
                clear hP1 hD1 hz9 hk9 hvm9 ht9 hw9
                generalize H1 = H at hP hS ⊢
                have aa_32 := a_r7_1
                have o_h0 := E_27.1 _ _ o_h0
                refine lv_if_eq (tgt := 189) hx hb dX2_catchesHold_182 (by decide) (fun c_33 => ?_) (fun c_33 => ?_)
                · refine lv_iconst (v := 0) hx hb dX2_catchesHold_189 (by decide) ?_
                  refine W.widen (k := 0) (n := 0) (Nat.le_of_ble_eq_true rfl) (Nat.le_of_ble_eq_true rfl) ?_
                  exact W.zret (v := 0) hx hb hr (nz (Or.inl rfl)) (fun t9 ht9 hW9 => ⟨⟨_, ws_26, rfl, ⟨(Or.inl rfl), (fun h9 => absurd h9 (by decide))⟩, ⟨E_27, Fr_28, hG, by rw [ht9]; exact hP, hD⟩⟩, hS.F ht9⟩) hS.2.2 dX2_catchesHold_190
                · refine lv_iconst (v := 1) hx hb dX2_catchesHold_185 (by decide) ?_
                  refine lv_goto (tgt := 190) hx hb dX2_catchesHold_186 (by decide) ?_
                  refine W.widen (k := 0) (n := 0) (Nat.le_of_ble_eq_true rfl) (Nat.le_of_ble_eq_true rfl) ?_
                  exact W.zret (v := 1) hx hb hr (nz (Or.inr rfl)) (fun t9 ht9 hW9 => ⟨⟨_, ws_26, rfl, ⟨(Or.inr rfl), (fun _ f9 e9 n9 c9 m9 q9 => by rw [← xp_6 _ _ _ (vm_vw hD0 hkH rfl q9)]; exact (by have e16 : (16 : Int32).toInt = 16 := (by decide); have q_r_5 := h_r_5; have q_c_7 := i_le c_7; have q_z_9 := i_mulL (c := 8) (K := 268435455) ez_9 (by decide) (by decide) (by decide) (by decide); obtain ⟨u_z_10, q_z_10⟩ := i_add ez_10; have g_r_5 := i_rg r_5; have g_z_10 := i_rg z_10; have g_z_8 := i_rg z_8; have g_z_9 := i_rg z_9; omega))⟩, ⟨E_27, Fr_28, hG, by rw [ht9]; exact hP, hD⟩⟩, hS.F ht9⟩) hS.2.2 dX2_catchesHold_190
            · refine lv_iload hx hb dX2_catchesHold_97 (lv_at hl 2 rfl) ?_
              refine lv_bipush (v := 6) hx hb dX2_catchesHold_99 (by decide) ?_
              refine lv_iadd hx hb dX2_catchesHold_101 ?_
              refine lv_topi (fun z_34 ez_34 => ?_)
              refine lv_iload_n hx hb dX2_catchesHold_102 rfl (lv_at hl 1 rfl) ?_
              refine lv_icmp_gt (tgt := 129) hx hb dX2_catchesHold_103 (by decide) (fun c_35 => ?_) (fun c_35 => ?_)
              · refine lv_aload_n hx hb dX2_catchesHold_129 rfl (lv_at hl 0 rfl) ?_
                refine va_get (D := gD g) (ci := 2) (v := .ref r0_1) (C := RX2) (T := TX2) (N := 12) hx hb hts inX2 hown hK hP k_1 hk_1 rfl 0 (by decide) (hts _ kw_632) (fun _ h9 => h9) rfl dX2_catchesHold_130 ?_
                refine lv_bipush (v := 14) hx hb dX2_catchesHold_133 (by decide) ?_
                refine lv_iload_n hx hb dX2_catchesHold_135 rfl (lv_at hl 1 rfl) ?_
                have hFc := gfree hD hS hA
                obtain ⟨k_36, fs_36, hk_36⟩ := gC_of o_r0_1
                refine va_calli (va_runV (As := [.int 14, .int x2]) (rest := []) ⟨hx, hb, hml, hown, hts⟩ (m_X7_breaks_z l g H.size ws r0_1 (14) (x2) hG o_r0_1) (cwV 2 hts (gd_V kw_677 kw_1278 kw_1279 kw_710 kw_1277) rfl rfl rfl (by decide +kernel) ⟨Nat.le_of_ble_eq_true rfl, Nat.le_of_ble_eq_true rfl⟩) ⟨gblind, va_recv hK hP (ci := 6) (q0 := k_36) rfl hk_36, fun U hU hW9 => gmk hU hW9 hP hK hD hex hE hS hFc⟩ rfl rfl hl.1 rfl (lv_room (Nat.le_of_ble_eq_true rfl)) dX2_catchesHold_136 ⟨Nat.le_of_ble_eq_true rfl, Nat.le_of_ble_eq_true rfl⟩) hS (fun q _ h => hFc q h) hFc (fun r_37 ws_38 t9 H1 locs ht9 hvm9 hw9 hB9 hz9 hk9 hS => ?_)
                obtain ⟨E_39, Fr_40, hG, hP1, hD1⟩ := hB9
                have hP : va_P (gD g) cl0 ws_38 H1 := by rw [← ht9]; exact hP1
                have hD : va_D A ws_38 := hD1.weaken (fun _ _ _ h => hFc _ h)
                obtain ⟨hw9, xp_43⟩ := hw9
                have hz_r_37 : r_37 = 0 ∨ r_37 = 1 := hw9
                clear hP1 hD1 hz9 hk9 hvm9 ht9 hw9
                generalize H1 = H at hP hS ⊢
                have aa_44 := a_r7_1
                have o_h0 := E_39.1 _ _ o_h0
                refine W.widen (k := 0) (n := 0) (Nat.le_of_ble_eq_true rfl) (Nat.le_of_ble_eq_true rfl) ?_
                exact W.zret (v := r_37) hx hb hr (nz hz_r_37) (fun t9 ht9 hW9 => ⟨⟨_, ws_38, rfl, ⟨hz_r_37, (fun h9 => absurd h9 (by have q9 := xp_43; omega))⟩, ⟨E_39, Fr_40, hG, by rw [ht9]; exact hP, hD⟩⟩, hS.F ht9⟩) hS.2.2 dX2_catchesHold_139
              · refine lv_aload_n hx hb dX2_catchesHold_106 rfl (lv_at hl 0 rfl) ?_
                refine va_get (D := gD g) (ci := 2) (v := .ref r0_1) (C := RX2) (T := TX2) (N := 12) hx hb hts inX2 hown hK hP k_1 hk_1 rfl 0 (by decide) (hts _ kw_632) (fun _ h9 => h9) rfl dX2_catchesHold_107 ?_
                refine lv_iload hx hb dX2_catchesHold_110 (lv_at hl 2 rfl) ?_
                refine lv_iconst (v := 2) hx hb dX2_catchesHold_112 (by decide) ?_
                refine lv_iadd hx hb dX2_catchesHold_113 ?_
                refine lv_topi (fun z_45 ez_45 => ?_)
                have hFc := gfree hD hS hA
                obtain ⟨k_46, fs_46, hk_46⟩ := gC_of o_r0_1
                refine va_calll (va_runV (As := [.int z_45]) (rest := []) ⟨hx, hb, hml, hown, hts⟩ (m_X7_u4_x l g H.size ws r0_1 (z_45) hG o_r0_1) (cwV 1 hts (gd_V kw_678 kw_1453 kw_1454 kw_710 kw_1452) rfl rfl rfl (by decide +kernel) ⟨Nat.le_of_ble_eq_true rfl, Nat.le_of_ble_eq_true rfl⟩) ⟨gblind, va_recv hK hP (ci := 6) (q0 := k_46) rfl hk_46, fun U hU hW9 => gmk hU hW9 hP hK hD hex hE hS hFc⟩ rfl rfl hl.1 rfl (lv_room (Nat.le_of_ble_eq_true rfl)) dX2_catchesHold_114 ⟨Nat.le_of_ble_eq_true rfl, Nat.le_of_ble_eq_true rfl⟩) hS (fun q _ h => hFc q h) hFc (fun r_47 u9 t9 H1 locs ht9 hvm9 hw9 hB9 hz9 hk9 hS => ?_)
                have hP : va_P (gD g) cl0 ws H1 := by rw [← ht9]; exact hB9.1
                obtain ⟨hw9, xp_48⟩ := hw9
                clear hB9 hz9 hk9 hvm9 ht9 hw9
                generalize H1 = H at hP hS ⊢
                refine lv_iload_n hx hb dX2_catchesHold_117 rfl (lv_at hl 1 rfl) ?_
                refine lv_iload hx hb dX2_catchesHold_118 (lv_at hl 2 rfl) ?_
                refine lv_isub hx hb dX2_catchesHold_120 ?_
                refine lv_topi (fun z_49 ez_49 => ?_)
                refine lv_bipush (v := 6) hx hb dX2_catchesHold_121 (by decide) ?_
                refine lv_isub hx hb dX2_catchesHold_123 ?_
                refine lv_topi (fun z_50 ez_50 => ?_)
                obtain ⟨z_51, ez_51⟩ : ∃ y : Int64, (z_50 : Int32).toInt64 = y := ⟨_, rfl⟩
                refine lv_i2l (v := z_51) hx hb dX2_catchesHold_124 ez_51 ?_
                refine W.lcmp hx hb dX2_catchesHold_125 ?_
                refine lv_topi (fun z_52 ez_52 => ?_)
                refine lv_if_le (tgt := 140) hx hb dX2_catchesHold_126 (by decide) (fun c_53 => ?_) (fun c_53 => ?_)
                · refine lv_iload hx hb dX2_catchesHold_140 (lv_at hl 2 rfl) ?_
                  refine lv_bipush (v := 6) hx hb dX2_catchesHold_142 (by decide) ?_
                  refine lv_aload_n hx hb dX2_catchesHold_144 rfl (lv_at hl 0 rfl) ?_
                  refine va_get (D := gD g) (ci := 2) (v := .ref r0_1) (C := RX2) (T := TX2) (N := 12) hx hb hts inX2 hown hK hP k_1 hk_1 rfl 0 (by decide) (hts _ kw_632) (fun _ h9 => h9) rfl dX2_catchesHold_145 ?_
                  refine lv_iload hx hb dX2_catchesHold_148 (lv_at hl 2 rfl) ?_
                  refine lv_iconst (v := 2) hx hb dX2_catchesHold_150 (by decide) ?_
                  refine lv_iadd hx hb dX2_catchesHold_151 ?_
                  refine lv_topi (fun z_54 ez_54 => ?_)
                  have hFc := gfree hD hS hA
                  obtain ⟨k_55, fs_55, hk_55⟩ := gC_of o_r0_1
                  refine va_calli (va_runV (As := [.int z_54]) (rest := [.int 6, .int v4_17]) ⟨hx, hb, hml, hown, hts⟩ (m_X7_s4_x l g H.size ws r0_1 (z_54) hG o_r0_1) (cwV 1 hts (gd_V kw_634 kw_1429 kw_1430 kw_710 kw_1428) rfl rfl rfl (by decide +kernel) ⟨Nat.le_of_ble_eq_true rfl, Nat.le_of_ble_eq_true rfl⟩) ⟨gblind, va_recv hK hP (ci := 6) (q0 := k_55) rfl hk_55, fun U hU hW9 => gmk hU hW9 hP hK hD hex hE hS hFc⟩ rfl rfl hl.1 rfl (lv_room (Nat.le_of_ble_eq_true rfl)) dX2_catchesHold_152 ⟨Nat.le_of_ble_eq_true rfl, Nat.le_of_ble_eq_true rfl⟩) hS (fun q _ h => hFc q h) hFc (fun r_56 u9 t9 H1 locs ht9 hvm9 hw9 hB9 hz9 hk9 hS => ?_)
                  have hP : va_P (gD g) cl0 ws H1 := by rw [← ht9]; exact hB9.1
                  obtain ⟨hw9, xp_57⟩ := hw9
                  clear hB9 hz9 hk9 hvm9 ht9 hw9
                  generalize H1 = H at hP hS ⊢
                  refine lv_iadd hx hb dX2_catchesHold_155 ?_
                  refine lv_topi (fun z_58 ez_58 => ?_)
                  refine lv_iadd hx hb dX2_catchesHold_156 ?_
                  refine lv_topi (fun z_59 ez_59 => ?_)
                  refine lv_istore (lv' := [(4, .int z_59), (0, .ref h0), (2, .int x2), (5, .int r_14), (6, .int v6_18)]) hx hb dX2_catchesHold_157 hl (by decide) rfl (fun ls hl => ?_)
                  obtain ⟨z_60, ez_60⟩ : ∃ z : Int32, v6_18 + Int32.ofInt 1 = z := ⟨_, rfl⟩
                  refine lv_iinc (v := z_60) (lv' := [(6, .int z_60), (4, .int z_59), (0, .ref h0), (2, .int x2), (5, .int r_14)]) hx hb dX2_catchesHold_159 hl (k := 4) rfl ez_60 (by decide) rfl (fun ls hl => ?_)
                  refine lv_goto (tgt := 90) hx hb dX2_catchesHold_162 (by decide) ?_
                  exact ih_90 _ (by have e2 : (2 : Int32).toInt = 2 := (by decide); have e6 : (6 : Int32).toInt = 6 := (by decide); obtain ⟨u_z_59, q_z_59⟩ := i_add ez_59; obtain ⟨u_z_60, q_z_60⟩ := i_iz ez_60 (by decide) (by decide); have q_iv_19 := iv_19; have q_c_22 := i_nle c_22; obtain ⟨u_z_34, q_z_34⟩ := i_add ez_34; obtain ⟨u_z_45, q_z_45⟩ := i_add ez_45; obtain ⟨u_z_49, q_z_49⟩ := i_sub ez_49; obtain ⟨u_z_54, q_z_54⟩ := i_add ez_54; obtain ⟨u_z_58, q_z_58⟩ := i_add ez_58; have g_r_14 := i_rg r_14; have g_r_56 := i_rg r_56; have g_v4_17 := i_rg v4_17; have g_v6_18 := i_rg v6_18; have g_x2 := i_rg x2; have g_z_34 := i_rg z_34; have g_z_45 := i_rg z_45; have g_z_49 := i_rg z_49; have g_z_54 := i_rg z_54; have g_z_58 := i_rg z_58; have g_z_59 := i_rg z_59; have g_z_60 := i_rg z_60; omega) (z_59) (z_60) H locs ls rfl (by obtain ⟨u_z_60, q_z_60⟩ := i_iz ez_60 (by decide) (by decide); have q_iv_19 := iv_19; have q_c_22 := i_nle c_22; have g_r_14 := i_rg r_14; have g_v6_18 := i_rg v6_18; have g_z_60 := i_rg z_60; omega) hP hD hS (lv_sub hl [2, 3, 1, 4, 0] rfl)
                · refine lv_aload_n hx hb dX2_catchesHold_129 rfl (lv_at hl 0 rfl) ?_
                  refine va_get (D := gD g) (ci := 2) (v := .ref r0_1) (C := RX2) (T := TX2) (N := 12) hx hb hts inX2 hown hK hP k_1 hk_1 rfl 0 (by decide) (hts _ kw_632) (fun _ h9 => h9) rfl dX2_catchesHold_130 ?_
                  refine lv_bipush (v := 14) hx hb dX2_catchesHold_133 (by decide) ?_
                  refine lv_iload_n hx hb dX2_catchesHold_135 rfl (lv_at hl 1 rfl) ?_
                  have hFc := gfree hD hS hA
                  obtain ⟨k_61, fs_61, hk_61⟩ := gC_of o_r0_1
                  refine va_calli (va_runV (As := [.int 14, .int x2]) (rest := []) ⟨hx, hb, hml, hown, hts⟩ (m_X7_breaks_z l g H.size ws r0_1 (14) (x2) hG o_r0_1) (cwV 2 hts (gd_V kw_677 kw_1278 kw_1279 kw_710 kw_1277) rfl rfl rfl (by decide +kernel) ⟨Nat.le_of_ble_eq_true rfl, Nat.le_of_ble_eq_true rfl⟩) ⟨gblind, va_recv hK hP (ci := 6) (q0 := k_61) rfl hk_61, fun U hU hW9 => gmk hU hW9 hP hK hD hex hE hS hFc⟩ rfl rfl hl.1 rfl (lv_room (Nat.le_of_ble_eq_true rfl)) dX2_catchesHold_136 ⟨Nat.le_of_ble_eq_true rfl, Nat.le_of_ble_eq_true rfl⟩) hS (fun q _ h => hFc q h) hFc (fun r_62 ws_63 t9 H1 locs ht9 hvm9 hw9 hB9 hz9 hk9 hS => ?_)
                  obtain ⟨E_64, Fr_65, hG, hP1, hD1⟩ := hB9
                  have hP : va_P (gD g) cl0 ws_63 H1 := by rw [← ht9]; exact hP1
                  have hD : va_D A ws_63 := hD1.weaken (fun _ _ _ h => hFc _ h)
                  obtain ⟨hw9, xp_68⟩ := hw9
                  have hz_r_62 : r_62 = 0 ∨ r_62 = 1 := hw9
                  clear hP1 hD1 hz9 hk9 hvm9 ht9 hw9
                  generalize H1 = H at hP hS ⊢
                  have aa_69 := a_r7_1
                  have o_h0 := E_64.1 _ _ o_h0
                  refine W.widen (k := 0) (n := 0) (Nat.le_of_ble_eq_true rfl) (Nat.le_of_ble_eq_true rfl) ?_
                  exact W.zret (v := r_62) hx hb hr (nz hz_r_62) (fun t9 ht9 hW9 => ⟨⟨_, ws_63, rfl, ⟨hz_r_62, (fun h9 => absurd h9 (by have q9 := xp_68; omega))⟩, ⟨E_64, Fr_65, hG, by rw [ht9]; exact hP, hD⟩⟩, hS.F ht9⟩) hS.2.2 dX2_catchesHold_139
        exact J_90 _ (z_16) (0) H locs ls rfl (by have e0 : (0 : Int32).toInt = 0 := (by decide); omega) hP hD hS (lv_sub hl [4, 6, 1, 2, 0] rfl)
      · refine lv_aload_n hx hb dX2_catchesHold_62 rfl (lv_at hl 2 rfl) ?_
        refine va_get (D := gD g) (ci := 2) (v := .ref r0_1) (C := RX2) (T := TX2) (N := 12) hx hb hts inX2 hown hK hP k_1 hk_1 rfl 0 (by decide) (hts _ kw_632) (fun _ h9 => h9) rfl dX2_catchesHold_63 ?_
        refine lv_bipush (v := 14) hx hb dX2_catchesHold_66 (by decide) ?_
        refine lv_iload_n hx hb dX2_catchesHold_68 rfl (lv_at hl 4 rfl) ?_
        have hFc := gfree hD hS hA
        obtain ⟨k_70, fs_70, hk_70⟩ := gC_of o_r0_1
        refine va_calli (va_runV (As := [.int 14, .int x2]) (rest := []) ⟨hx, hb, hml, hown, hts⟩ (m_X7_breaks_z l g H.size ws r0_1 (14) (x2) hG o_r0_1) (cwV 2 hts (gd_V kw_677 kw_1278 kw_1279 kw_710 kw_1277) rfl rfl rfl (by decide +kernel) ⟨Nat.le_of_ble_eq_true rfl, Nat.le_of_ble_eq_true rfl⟩) ⟨gblind, va_recv hK hP (ci := 6) (q0 := k_70) rfl hk_70, fun U hU hW9 => gmk hU hW9 hP hK hD hex hE hS hFc⟩ rfl rfl hl.1 rfl (lv_room (Nat.le_of_ble_eq_true rfl)) dX2_catchesHold_69 ⟨Nat.le_of_ble_eq_true rfl, Nat.le_of_ble_eq_true rfl⟩) hS (fun q _ h => hFc q h) hFc (fun r_71 ws_72 t9 H1 locs ht9 hvm9 hw9 hB9 hz9 hk9 hS => ?_)
        obtain ⟨E_73, Fr_74, hG, hP1, hD1⟩ := hB9
        have hP : va_P (gD g) cl0 ws_72 H1 := by rw [← ht9]; exact hP1
        have hD : va_D A ws_72 := hD1.weaken (fun _ _ _ h => hFc _ h)
        obtain ⟨hw9, xp_77⟩ := hw9
        have hz_r_71 : r_71 = 0 ∨ r_71 = 1 := hw9
        clear hP1 hD1 hz9 hk9 hvm9 ht9 hw9
        generalize H1 = H at hP hS ⊢
        have aa_78 := a_r7_1
        have o_h0 := E_73.1 _ _ o_h0
        refine W.widen (k := 0) (n := 0) (Nat.le_of_ble_eq_true rfl) (Nat.le_of_ble_eq_true rfl) ?_
        exact W.zret (v := r_71) hx hb hr (nz hz_r_71) (fun t9 ht9 hW9 => ⟨⟨_, ws_72, rfl, ⟨hz_r_71, (fun h9 => absurd h9 (by have q9 := xp_77; omega))⟩, ⟨E_73, Fr_74, hG, by rw [ht9]; exact hP, hD⟩⟩, hS.F ht9⟩) hS.2.2 dX2_catchesHold_72
    · refine lv_aload_n hx hb dX2_catchesHold_33 rfl (lv_at hl 1 rfl) ?_
      refine va_get (D := gD g) (ci := 2) (v := .ref r0_1) (C := RX2) (T := TX2) (N := 12) hx hb hts inX2 hown hK hP k_1 hk_1 rfl 0 (by decide) (hts _ kw_632) (fun _ h9 => h9) rfl dX2_catchesHold_34 ?_
      refine lv_bipush (v := 13) hx hb dX2_catchesHold_37 (by decide) ?_
      refine lv_iload_n hx hb dX2_catchesHold_39 rfl (lv_at hl 2 rfl) ?_
      have hFc := gfree hD hS hA
      obtain ⟨k_79, fs_79, hk_79⟩ := gC_of o_r0_1
      refine va_calli (va_runV (As := [.int 13, .int x1]) (rest := []) ⟨hx, hb, hml, hown, hts⟩ (m_X7_breaks_z l g H.size ws r0_1 (13) (x1) hG o_r0_1) (cwV 2 hts (gd_V kw_677 kw_1278 kw_1279 kw_710 kw_1277) rfl rfl rfl (by decide +kernel) ⟨Nat.le_of_ble_eq_true rfl, Nat.le_of_ble_eq_true rfl⟩) ⟨gblind, va_recv hK hP (ci := 6) (q0 := k_79) rfl hk_79, fun U hU hW9 => gmk hU hW9 hP hK hD hex hE hS hFc⟩ rfl rfl hl.1 rfl (lv_room (Nat.le_of_ble_eq_true rfl)) dX2_catchesHold_40 ⟨Nat.le_of_ble_eq_true rfl, Nat.le_of_ble_eq_true rfl⟩) hS (fun q _ h => hFc q h) hFc (fun r_80 ws_81 t9 H1 locs ht9 hvm9 hw9 hB9 hz9 hk9 hS => ?_)
      obtain ⟨E_82, Fr_83, hG, hP1, hD1⟩ := hB9
      have hP : va_P (gD g) cl0 ws_81 H1 := by rw [← ht9]; exact hP1
      have hD : va_D A ws_81 := hD1.weaken (fun _ _ _ h => hFc _ h)
      obtain ⟨hw9, xp_86⟩ := hw9
      have hz_r_80 : r_80 = 0 ∨ r_80 = 1 := hw9
      clear hP1 hD1 hz9 hk9 hvm9 ht9 hw9
      generalize H1 = H at hP hS ⊢
      have aa_87 := a_r7_1
      have o_h0 := E_82.1 _ _ o_h0
      refine W.widen (k := 0) (n := 0) (Nat.le_of_ble_eq_true rfl) (Nat.le_of_ble_eq_true rfl) ?_
      exact W.zret (v := r_80) hx hb hr (nz hz_r_80) (fun t9 ht9 hW9 => ⟨⟨_, ws_81, rfl, ⟨hz_r_80, (fun h9 => absurd h9 (by have q9 := xp_86; omega))⟩, ⟨E_82, Fr_83, hG, by rw [ht9]; exact hP, hD⟩⟩, hS.F ht9⟩) hS.2.2 dX2_catchesHold_43
  · refine lv_aload_n hx hb dX2_catchesHold_7 rfl (lv_at hl 0 rfl) ?_
    refine va_get (D := gD g) (ci := 2) (v := .ref r0_1) (C := RX2) (T := TX2) (N := 12) hx hb hts inX2 hown hK hP k_1 hk_1 rfl 0 (by decide) (hts _ kw_632) (fun _ h9 => h9) rfl dX2_catchesHold_8 ?_
    refine lv_bipush (v := 14) hx hb dX2_catchesHold_11 (by decide) ?_
    refine lv_iload_n hx hb dX2_catchesHold_13 rfl (lv_at hl 2 rfl) ?_
    have hFc := gfree hD hS hA
    obtain ⟨k_88, fs_88, hk_88⟩ := gC_of o_r0_1
    refine va_calli (va_runV (As := [.int 14, .int x2]) (rest := []) ⟨hx, hb, hml, hown, hts⟩ (m_X7_breaks_z l g s.heap.size ws r0_1 (14) (x2) hG o_r0_1) (cwV 2 hts (gd_V kw_677 kw_1278 kw_1279 kw_710 kw_1277) rfl rfl rfl (by decide +kernel) ⟨Nat.le_of_ble_eq_true rfl, Nat.le_of_ble_eq_true rfl⟩) ⟨gblind, va_recv hK hP (ci := 6) (q0 := k_88) rfl hk_88, fun U hU hW9 => gmk hU hW9 hP hK hD hex hE hS hFc⟩ rfl rfl hl.1 rfl (lv_room (Nat.le_of_ble_eq_true rfl)) dX2_catchesHold_14 ⟨Nat.le_of_ble_eq_true rfl, Nat.le_of_ble_eq_true rfl⟩) hS (fun q _ h => hFc q h) hFc (fun r_89 ws_90 t9 H1 locs ht9 hvm9 hw9 hB9 hz9 hk9 hS => ?_)
    obtain ⟨E_91, Fr_92, hG, hP1, hD1⟩ := hB9
    have hP : va_P (gD g) cl0 ws_90 H1 := by rw [← ht9]; exact hP1
    have hD : va_D A ws_90 := hD1.weaken (fun _ _ _ h => hFc _ h)
    obtain ⟨hw9, xp_95⟩ := hw9
    have hz_r_89 : r_89 = 0 ∨ r_89 = 1 := hw9
    clear hP1 hD1 hz9 hk9 hvm9 ht9 hw9
    generalize H1 = H at hP hS ⊢
    have aa_96 := a_r7_1
    have o_h0 := E_91.1 _ _ o_h0
    refine W.widen (k := 0) (n := 0) (Nat.le_of_ble_eq_true rfl) (Nat.le_of_ble_eq_true rfl) ?_
    exact W.zret (v := r_89) hx hb hr (nz hz_r_89) (fun t9 ht9 hW9 => ⟨⟨_, ws_90, rfl, ⟨hz_r_89, (fun h9 => absurd h9 (by have q9 := xp_95; omega))⟩, ⟨E_91, Fr_92, hG, by rw [ht9]; exact hP, hD⟩⟩, hS.F ht9⟩) hS.2.2 dX2_catchesHold_17
set_option maxHeartbeats 1000000 in
set_option maxRecDepth 100000 in
theorem m_X2_headHolds_x (l : Launch) (g : Gm) (sz : Nat) (ws : va_W) (h0 : Nat) (x1 : Int32) (x2 : Int32) (x3 : Int32) (hG : Good g ws) (o_h0 : gC ws h0 2) : Met l yX2_headHolds (wt yX2_headHolds cX2_headHolds 6 (some .boolean)) ({ frames := 3, cells := 0, slots := 0, locals := 68 }) (va_Pc [.ref h0, .int x1, .int x2, .int x3] (st_G g sz ws)) (va_Qi (fun (r : Int32) (u9 : va_W) => (r = 0 ∨ r = 1) ∧ (r.toInt = 1 → ∀ (f : Nat → Int32) (e : Int32) (n : Nat) (fc : Nat → Int32) (mc : Int32), vm ws h0 f e n fc mc → lmX f e n x1)) (gQ1 g [(6, 2), (6, 3)] [] none (va_A ws sz) ws) (va_A ws sz)) (0) (0) (va_A ws sz) := by
  refine Met.ofW (cc := cX2_headHolds) (maxL := 6) (ret := (some .boolean)) (by decide) rfl ?_
  intro p e s m args below meth c s₁ B hml hv
  obtain ⟨rfl, hsz, hP, hK, hD0, hex, hE⟩ := hv
  have hx := B.exec
  have hb := B.bytes
  have hr := B.returns
  have hts0 := atoms_spec (ws := wt yX2_headHolds cX2_headHolds 6 (some .boolean)) B.pre
  have hts : ∀ w ∈ tb, w.before _ s = true := fun w h => hts0 w (List.mem_cons_of_mem _ h)
  have hown : s.vm.findClass RX2 = some m.cls := findClass_of_methodNamed B.named
  subst hsz
  have hD := hD0.self (sz := s.heap.size)
  generalize hAe : va_A ws s.heap.size = A at hD hE ⊢
  have hA : ∀ q : Nat, s.heap.size ≤ q → A q := fun q h => by rw [← hAe]; exact Or.inr h
  have hS : va_S A s.heap s.heap [] := va_S.rf
  have hl := lv_entry ([.ref h0, .int x1, .int x2, .int x3]) (n := 6) (Nat.le_of_ble_eq_true rfl)
  rw [lg_entry_eq]
  generalize (lg_sl ([.ref h0, .int x1, .int x2, .int x3]) ++ List.replicate (6 - (lg_sl ([.ref h0, .int x1, .int x2, .int x3])).length) Slot.unset).toArray = ls at hl ⊢
  have hl : lv_has ls 6 [(0, .ref h0), (1, .int x1), (2, .int x2), (3, .int x3)] := hl
  obtain ⟨k_1, fs9, hk_1⟩ := gC_of o_h0
  obtain ⟨r0_1, c1_1, c2_1, c3_1, c4_1, c5_1, c6_1, r7_1, n7_1, c8_1, c9_1, l10_1, c11_1, rfl, o_r0_1, a_r7_1, f2_1, f3_1, f4_1, -⟩ := (hG.1 _ _ _ _ hk_1).hX2 rfl
  have hkH := hk_1
  refine lv_iload_n hx hb dX2_headHolds_0 rfl (lv_at hl 1 rfl) ?_
  refine lv_iconst (v := 2) hx hb dX2_headHolds_1 (by decide) ?_
  refine lv_iadd hx hb dX2_headHolds_2 ?_
  refine lv_topi (fun z_2 ez_2 => ?_)
  refine lv_iload_n hx hb dX2_headHolds_3 rfl (lv_at hl 2 rfl) ?_
  refine lv_icmp_le (tgt := 18) hx hb dX2_headHolds_4 (by decide) (fun c_3 => ?_) (fun c_3 => ?_)
  · refine lv_aload_n hx hb dX2_headHolds_18 rfl (lv_at hl 0 rfl) ?_
    refine va_get (D := gD g) (ci := 2) (v := .ref r0_1) (C := RX2) (T := TX2) (N := 12) hx hb hts inX2 hown hK hP k_1 hk_1 rfl 0 (by decide) (hts _ kw_632) (fun _ h9 => h9) rfl dX2_headHolds_19 ?_
    refine lv_iload_n hx hb dX2_headHolds_22 rfl (lv_at hl 1 rfl) ?_
    have hFc := gfree hD hS hA
    obtain ⟨k_4, fs_4, hk_4⟩ := gC_of o_r0_1
    refine va_calli (va_runV (As := [.int x1]) (rest := []) ⟨hx, hb, hml, hown, hts⟩ (m_X7_u2_x l g s.heap.size ws r0_1 (x1) hG o_r0_1) (cwV 1 hts (gd_V kw_651 kw_1450 kw_1451 kw_710 kw_1449) rfl rfl rfl (by decide +kernel) ⟨Nat.le_of_ble_eq_true rfl, Nat.le_of_ble_eq_true rfl⟩) ⟨gblind, va_recv hK hP (ci := 6) (q0 := k_4) rfl hk_4, fun U hU hW9 => gmk hU hW9 hP hK hD hex hE hS hFc⟩ rfl rfl hl.1 rfl (lv_room (Nat.le_of_ble_eq_true rfl)) dX2_headHolds_23 ⟨Nat.le_of_ble_eq_true rfl, Nat.le_of_ble_eq_true rfl⟩) hS (fun q _ h => hFc q h) hFc (fun r_5 u9 t9 H1 locs ht9 hvm9 hw9 hB9 hz9 hk9 hS => ?_)
    have hP : va_P (gD g) cl0 ws H1 := by rw [← ht9]; exact hB9.1
    obtain ⟨hw9, xp_6⟩ := hw9
    have h_r_5 := hw9
    clear hB9 hz9 hk9 hvm9 ht9 hw9
    generalize H1 = H at hP hS ⊢
    refine lv_bipush (v := 24) hx hb dX2_headHolds_26 (by decide) ?_
    refine lv_icmp_le (tgt := 42) hx hb dX2_headHolds_28 (by decide) (fun c_7 => ?_) (fun c_7 => ?_)
    · refine lv_iload_n hx hb dX2_headHolds_42 rfl (lv_at hl 1 rfl) ?_
      refine lv_iconst (v := 4) hx hb dX2_headHolds_43 (by decide) ?_
      refine lv_iadd hx hb dX2_headHolds_44 ?_
      refine lv_topi (fun z_8 ez_8 => ?_)
      refine lv_iload_n hx hb dX2_headHolds_45 rfl (lv_at hl 2 rfl) ?_
      refine lv_icmp_le (tgt := 60) hx hb dX2_headHolds_46 (by decide) (fun c_9 => ?_) (fun c_9 => ?_)
      · refine lv_aload_n hx hb dX2_headHolds_60 rfl (lv_at hl 0 rfl) ?_
        refine va_get (D := gD g) (ci := 2) (v := .ref r0_1) (C := RX2) (T := TX2) (N := 12) hx hb hts inX2 hown hK hP k_1 hk_1 rfl 0 (by decide) (hts _ kw_632) (fun _ h9 => h9) rfl dX2_headHolds_61 ?_
        refine lv_iload_n hx hb dX2_headHolds_64 rfl (lv_at hl 1 rfl) ?_
        refine lv_iconst (v := 2) hx hb dX2_headHolds_65 (by decide) ?_
        refine lv_iadd hx hb dX2_headHolds_66 ?_
        refine lv_topi (fun z_10 ez_10 => ?_)
        have hFc := gfree hD hS hA
        obtain ⟨k_11, fs_11, hk_11⟩ := gC_of o_r0_1
        refine va_calli (va_runV (As := [.int z_10]) (rest := []) ⟨hx, hb, hml, hown, hts⟩ (m_X7_u2_x l g H.size ws r0_1 (z_10) hG o_r0_1) (cwV 1 hts (gd_V kw_651 kw_1450 kw_1451 kw_710 kw_1449) rfl rfl rfl (by decide +kernel) ⟨Nat.le_of_ble_eq_true rfl, Nat.le_of_ble_eq_true rfl⟩) ⟨gblind, va_recv hK hP (ci := 6) (q0 := k_11) rfl hk_11, fun U hU hW9 => gmk hU hW9 hP hK hD hex hE hS hFc⟩ rfl rfl hl.1 rfl (lv_room (Nat.le_of_ble_eq_true rfl)) dX2_headHolds_67 ⟨Nat.le_of_ble_eq_true rfl, Nat.le_of_ble_eq_true rfl⟩) hS (fun q _ h => hFc q h) hFc (fun r_12 u9 t9 H1 locs ht9 hvm9 hw9 hB9 hz9 hk9 hS => ?_)
        have hP : va_P (gD g) cl0 ws H1 := by rw [← ht9]; exact hB9.1
        obtain ⟨hw9, xp_13⟩ := hw9
        have h_r_12 := hw9
        clear hB9 hz9 hk9 hvm9 ht9 hw9
        generalize H1 = H at hP hS ⊢
        refine lv_bipush (v := 24) hx hb dX2_headHolds_70 (by decide) ?_
        refine lv_icmp_gt (tgt := 89) hx hb dX2_headHolds_72 (by decide) (fun c_14 => ?_) (fun c_14 => ?_)
        · refine lv_aload_n hx hb dX2_headHolds_89 rfl (lv_at hl 0 rfl) ?_
          refine va_get (D := gD g) (ci := 2) (v := .ref r0_1) (C := RX2) (T := TX2) (N := 12) hx hb hts inX2 hown hK hP k_1 hk_1 rfl 0 (by decide) (hts _ kw_632) (fun _ h9 => h9) rfl dX2_headHolds_90 ?_
          refine lv_bipush (v := 13) hx hb dX2_headHolds_93 (by decide) ?_
          refine lv_iload_n hx hb dX2_headHolds_95 rfl (lv_at hl 1 rfl) ?_
          refine lv_iconst (v := 2) hx hb dX2_headHolds_96 (by decide) ?_
          refine lv_iadd hx hb dX2_headHolds_97 ?_
          refine lv_topi (fun z_15 ez_15 => ?_)
          have hFc := gfree hD hS hA
          obtain ⟨k_16, fs_16, hk_16⟩ := gC_of o_r0_1
          refine va_calli (va_runV (As := [.int 13, .int z_15]) (rest := []) ⟨hx, hb, hml, hown, hts⟩ (m_X7_breaks_z l g H.size ws r0_1 (13) (z_15) hG o_r0_1) (cwV 2 hts (gd_V kw_677 kw_1278 kw_1279 kw_710 kw_1277) rfl rfl rfl (by decide +kernel) ⟨Nat.le_of_ble_eq_true rfl, Nat.le_of_ble_eq_true rfl⟩) ⟨gblind, va_recv hK hP (ci := 6) (q0 := k_16) rfl hk_16, fun U hU hW9 => gmk hU hW9 hP hK hD hex hE hS hFc⟩ rfl rfl hl.1 rfl (lv_room (Nat.le_of_ble_eq_true rfl)) dX2_headHolds_98 ⟨Nat.le_of_ble_eq_true rfl, Nat.le_of_ble_eq_true rfl⟩) hS (fun q _ h => hFc q h) hFc (fun r_17 ws_18 t9 H1 locs ht9 hvm9 hw9 hB9 hz9 hk9 hS => ?_)
          obtain ⟨E_19, Fr_20, hG, hP1, hD1⟩ := hB9
          have hP : va_P (gD g) cl0 ws_18 H1 := by rw [← ht9]; exact hP1
          have hD : va_D A ws_18 := hD1.weaken (fun _ _ _ h => hFc _ h)
          obtain ⟨hw9, xp_23⟩ := hw9
          have hz_r_17 : r_17 = 0 ∨ r_17 = 1 := hw9
          clear hP1 hD1 hz9 hk9 hvm9 ht9 hw9
          generalize H1 = H at hP hS ⊢
          have aa_24 := a_r7_1
          have o_h0 := E_19.1 _ _ o_h0
          refine W.widen (k := 0) (n := 0) (Nat.le_of_ble_eq_true rfl) (Nat.le_of_ble_eq_true rfl) ?_
          exact W.zret (v := r_17) hx hb hr (nz hz_r_17) (fun t9 ht9 hW9 => ⟨⟨_, ws_18, rfl, ⟨hz_r_17, (fun h9 => absurd h9 (by have q9 := xp_23; omega))⟩, ⟨E_19, Fr_20, hG, by rw [ht9]; exact hP, hD⟩⟩, hS.F ht9⟩) hS.2.2 dX2_headHolds_101
        · refine lv_aload_n hx hb dX2_headHolds_75 rfl (lv_at hl 0 rfl) ?_
          refine va_get (D := gD g) (ci := 2) (v := .ref r0_1) (C := RX2) (T := TX2) (N := 12) hx hb hts inX2 hown hK hP k_1 hk_1 rfl 0 (by decide) (hts _ kw_632) (fun _ h9 => h9) rfl dX2_headHolds_76 ?_
          refine lv_iload_n hx hb dX2_headHolds_79 rfl (lv_at hl 1 rfl) ?_
          refine lv_iconst (v := 2) hx hb dX2_headHolds_80 (by decide) ?_
          refine lv_iadd hx hb dX2_headHolds_81 ?_
          refine lv_topi (fun z_25 ez_25 => ?_)
          have hFc := gfree hD hS hA
          obtain ⟨k_26, fs_26, hk_26⟩ := gC_of o_r0_1
          refine va_calli (va_runV (As := [.int z_25]) (rest := []) ⟨hx, hb, hml, hown, hts⟩ (m_X7_u2_x l g H.size ws r0_1 (z_25) hG o_r0_1) (cwV 1 hts (gd_V kw_651 kw_1450 kw_1451 kw_710 kw_1449) rfl rfl rfl (by decide +kernel) ⟨Nat.le_of_ble_eq_true rfl, Nat.le_of_ble_eq_true rfl⟩) ⟨gblind, va_recv hK hP (ci := 6) (q0 := k_26) rfl hk_26, fun U hU hW9 => gmk hU hW9 hP hK hD hex hE hS hFc⟩ rfl rfl hl.1 rfl (lv_room (Nat.le_of_ble_eq_true rfl)) dX2_headHolds_82 ⟨Nat.le_of_ble_eq_true rfl, Nat.le_of_ble_eq_true rfl⟩) hS (fun q _ h => hFc q h) hFc (fun r_27 u9 t9 H1 locs ht9 hvm9 hw9 hB9 hz9 hk9 hS => ?_)
          have hP : va_P (gD g) cl0 ws H1 := by rw [← ht9]; exact hB9.1
          obtain ⟨hw9, xp_28⟩ := hw9
          have h_r_27 := hw9
          clear hB9 hz9 hk9 hvm9 ht9 hw9
          generalize H1 = H at hP hS ⊢
          refine lv_iload_n hx hb dX2_headHolds_85 rfl (lv_at hl 3 rfl) ?_
          refine lv_icmp_ge (tgt := 102) hx hb dX2_headHolds_86 (by decide) (fun c_29 => ?_) (fun c_29 => ?_)
          · refine lv_iload_n hx hb dX2_headHolds_102 rfl (lv_at hl 1 rfl) ?_
            refine lv_bipush (v := 8) hx hb dX2_headHolds_103 (by decide) ?_
            refine lv_iadd hx hb dX2_headHolds_105 ?_
            refine lv_topi (fun z_30 ez_30 => ?_)
            refine lv_iload_n hx hb dX2_headHolds_106 rfl (lv_at hl 2 rfl) ?_
            refine lv_icmp_le (tgt := 121) hx hb dX2_headHolds_107 (by decide) (fun c_31 => ?_) (fun c_31 => ?_)
            · refine lv_aload_n hx hb dX2_headHolds_121 rfl (lv_at hl 0 rfl) ?_
              refine va_get (D := gD g) (ci := 2) (v := .ref r0_1) (C := RX2) (T := TX2) (N := 12) hx hb hts inX2 hown hK hP k_1 hk_1 rfl 0 (by decide) (hts _ kw_632) (fun _ h9 => h9) rfl dX2_headHolds_122 ?_
              refine lv_iload_n hx hb dX2_headHolds_125 rfl (lv_at hl 1 rfl) ?_
              refine lv_iconst (v := 4) hx hb dX2_headHolds_126 (by decide) ?_
              refine lv_iadd hx hb dX2_headHolds_127 ?_
              refine lv_topi (fun z_32 ez_32 => ?_)
              have hFc := gfree hD hS hA
              obtain ⟨k_33, fs_33, hk_33⟩ := gC_of o_r0_1
              refine va_calll (va_runV (As := [.int z_32]) (rest := []) ⟨hx, hb, hml, hown, hts⟩ (m_X7_u4_x l g H.size ws r0_1 (z_32) hG o_r0_1) (cwV 1 hts (gd_V kw_678 kw_1453 kw_1454 kw_710 kw_1452) rfl rfl rfl (by decide +kernel) ⟨Nat.le_of_ble_eq_true rfl, Nat.le_of_ble_eq_true rfl⟩) ⟨gblind, va_recv hK hP (ci := 6) (q0 := k_33) rfl hk_33, fun U hU hW9 => gmk hU hW9 hP hK hD hex hE hS hFc⟩ rfl rfl hl.1 rfl (lv_room (Nat.le_of_ble_eq_true rfl)) dX2_headHolds_128 ⟨Nat.le_of_ble_eq_true rfl, Nat.le_of_ble_eq_true rfl⟩) hS (fun q _ h => hFc q h) hFc (fun r_34 u9 t9 H1 locs ht9 hvm9 hw9 hB9 hz9 hk9 hS => ?_)
              have hP : va_P (gD g) cl0 ws H1 := by rw [← ht9]; exact hB9.1
              obtain ⟨hw9, xp_35⟩ := hw9
              clear hB9 hz9 hk9 hvm9 ht9 hw9
              generalize H1 = H at hP hS ⊢
              refine lv_lstore (lv' := [(4, .long r_34), (0, .ref h0), (1, .int x1), (2, .int x2), (3, .int x3)]) hx hb dX2_headHolds_131 hl (by decide) rfl (fun ls hl => ?_)
              refine lv_lload hx hb dX2_headHolds_133 (lv_at hl 0 rfl) ?_
              refine lv_lconst (v := 1) hx hb dX2_headHolds_135 (by decide) ?_
              refine W.lcmp hx hb dX2_headHolds_136 ?_
              refine lv_topi (fun z_36 ez_36 => ?_)
              refine lv_if_lt (tgt := 149) hx hb dX2_headHolds_137 (by decide) (fun c_37 => ?_) (fun c_37 => ?_)
              · refine lv_aload_n hx hb dX2_headHolds_149 rfl (lv_at hl 1 rfl) ?_
                refine va_get (D := gD g) (ci := 2) (v := .ref r0_1) (C := RX2) (T := TX2) (N := 12) hx hb hts inX2 hown hK hP k_1 hk_1 rfl 0 (by decide) (hts _ kw_632) (fun _ h9 => h9) rfl dX2_headHolds_150 ?_
                refine lv_bipush (v := 13) hx hb dX2_headHolds_153 (by decide) ?_
                refine lv_iload_n hx hb dX2_headHolds_155 rfl (lv_at hl 2 rfl) ?_
                refine lv_iconst (v := 4) hx hb dX2_headHolds_156 (by decide) ?_
                refine lv_iadd hx hb dX2_headHolds_157 ?_
                refine lv_topi (fun z_38 ez_38 => ?_)
                have hFc := gfree hD hS hA
                obtain ⟨k_39, fs_39, hk_39⟩ := gC_of o_r0_1
                refine va_calli (va_runV (As := [.int 13, .int z_38]) (rest := []) ⟨hx, hb, hml, hown, hts⟩ (m_X7_breaks_z l g H.size ws r0_1 (13) (z_38) hG o_r0_1) (cwV 2 hts (gd_V kw_677 kw_1278 kw_1279 kw_710 kw_1277) rfl rfl rfl (by decide +kernel) ⟨Nat.le_of_ble_eq_true rfl, Nat.le_of_ble_eq_true rfl⟩) ⟨gblind, va_recv hK hP (ci := 6) (q0 := k_39) rfl hk_39, fun U hU hW9 => gmk hU hW9 hP hK hD hex hE hS hFc⟩ rfl rfl hl.1 rfl (lv_room (Nat.le_of_ble_eq_true rfl)) dX2_headHolds_158 ⟨Nat.le_of_ble_eq_true rfl, Nat.le_of_ble_eq_true rfl⟩) hS (fun q _ h => hFc q h) hFc (fun r_40 ws_41 t9 H1 locs ht9 hvm9 hw9 hB9 hz9 hk9 hS => ?_)
                obtain ⟨E_42, Fr_43, hG, hP1, hD1⟩ := hB9
                have hP : va_P (gD g) cl0 ws_41 H1 := by rw [← ht9]; exact hP1
                have hD : va_D A ws_41 := hD1.weaken (fun _ _ _ h => hFc _ h)
                obtain ⟨hw9, xp_46⟩ := hw9
                have hz_r_40 : r_40 = 0 ∨ r_40 = 1 := hw9
                clear hP1 hD1 hz9 hk9 hvm9 ht9 hw9
                generalize H1 = H at hP hS ⊢
                have aa_47 := a_r7_1
                have o_h0 := E_42.1 _ _ o_h0
                refine W.widen (k := 0) (n := 0) (Nat.le_of_ble_eq_true rfl) (Nat.le_of_ble_eq_true rfl) ?_
                exact W.zret (v := r_40) hx hb hr (nz hz_r_40) (fun t9 ht9 hW9 => ⟨⟨_, ws_41, rfl, ⟨hz_r_40, (fun h9 => absurd h9 (by have q9 := xp_46; omega))⟩, ⟨E_42, Fr_43, hG, by rw [ht9]; exact hP, hD⟩⟩, hS.F ht9⟩) hS.2.2 dX2_headHolds_161
              · refine lv_lload hx hb dX2_headHolds_140 (lv_at hl 0 rfl) ?_
                refine lv_ldc2 hx hb hown (hts _ kw_703) dX2_headHolds_142 ?_
                refine W.lcmp hx hb dX2_headHolds_145 ?_
                refine lv_topi (fun z_48 ez_48 => ?_)
                refine lv_if_le (tgt := 162) hx hb dX2_headHolds_146 (by decide) (fun c_49 => ?_) (fun c_49 => ?_)
                · refine lv_aload_n hx hb dX2_headHolds_162 rfl (lv_at hl 1 rfl) ?_
                  refine lv_iload_n hx hb dX2_headHolds_163 rfl (lv_at hl 2 rfl) ?_
                  refine lv_bipush (v := 8) hx hb dX2_headHolds_164 (by decide) ?_
                  refine lv_iadd hx hb dX2_headHolds_166 ?_
                  refine lv_topi (fun z_50 ez_50 => ?_)
                  refine lv_lload hx hb dX2_headHolds_167 (lv_at hl 0 rfl) ?_
                  obtain ⟨z_51, ez_51⟩ : ∃ y : Int32, (r_34 : Int64).toInt32 = y := ⟨_, rfl⟩
                  refine lv_l2i (v := z_51) hx hb dX2_headHolds_169 ez_51 ?_
                  refine lv_iadd hx hb dX2_headHolds_170 ?_
                  refine lv_topi (fun z_52 ez_52 => ?_)
                  refine lv_iload_n hx hb dX2_headHolds_171 rfl (lv_at hl 3 rfl) ?_
                  have hFc := gfree hD hS hA
                  refine va_calli (va_runV (As := [.int z_52, .int x2]) (rest := []) ⟨hx, hb, hml, hown, hts⟩ (m_X2_catchesHold_x l g H.size ws h0 (z_52) (x2) hG o_h0) (cwV 2 hts (gd_V kw_704 kw_675 kw_676 kw_389 kw_674) rfl rfl rfl (by decide +kernel) ⟨Nat.le_of_ble_eq_true rfl, Nat.le_of_ble_eq_true rfl⟩) ⟨gblind, va_recv hK hP (ci := 2) (q0 := k_1) rfl hk_1, fun U hU hW9 => gmk hU hW9 hP hK hD hex hE hS hFc⟩ rfl rfl hl.1 rfl (lv_room (Nat.le_of_ble_eq_true rfl)) dX2_headHolds_172 ⟨Nat.le_of_ble_eq_true rfl, Nat.le_of_ble_eq_true rfl⟩) hS (fun q _ h => hFc q h) hFc (fun r_53 ws_54 t9 H1 locs ht9 hvm9 hw9 hB9 hz9 hk9 hS => ?_)
                  obtain ⟨E_55, Fr_56, hG, hP1, hD1⟩ := hB9
                  have hP : va_P (gD g) cl0 ws_54 H1 := by rw [← ht9]; exact hP1
                  have hD : va_D A ws_54 := hD1.weaken (fun _ _ _ h => hFc _ h)
                  obtain ⟨hw9, xp_59⟩ := hw9
                  have hz_r_53 : r_53 = 0 ∨ r_53 = 1 := hw9
                  clear hP1 hD1 hz9 hk9 hvm9 ht9 hw9
                  generalize H1 = H at hP hS ⊢
                  have aa_60 := a_r7_1
                  have o_h0 := E_55.1 _ _ o_h0
                  refine W.widen (k := 0) (n := 0) (Nat.le_of_ble_eq_true rfl) (Nat.le_of_ble_eq_true rfl) ?_
                  exact W.zret (v := r_53) hx hb hr (nz hz_r_53) (fun t9 ht9 hW9 => ⟨⟨_, ws_54, rfl, ⟨hz_r_53, (fun h9 f9 e9 n9 c9 m9 q9 => by have y9 := xp_35 _ _ _ (vm_vw hD0 hkH rfl q9); obtain ⟨a1, a2⟩ := u4_i y9 (by have e0 : (0 : Int32).toInt = 0 := (by decide); have e8 : (8 : Int32).toInt = 8 := (by decide); have el1 : (1 : Int64).toInt = 1 := (by decide); have el1200 : (1200 : Int64).toInt = 1200 := (by decide); have q_z_36 := l_cmp ez_36; have q_z_48 := l_cmp ez_48; have q_z_51 := l_2i ez_51; have q_c_37 := i_nlt c_37; have q_c_49 := i_le c_49; obtain ⟨u_z_52, q_z_52⟩ := i_add ez_52; obtain ⟨u_z_50, q_z_50⟩ := i_add ez_50; have g_x1 := i_rg x1; have g_z_36 := i_rg z_36; have g_z_48 := i_rg z_48; have g_z_50 := i_rg z_50; have g_z_51 := i_rg z_51; have g_z_52 := i_rg z_52; omega) (by have e0 : (0 : Int32).toInt = 0 := (by decide); have e8 : (8 : Int32).toInt = 8 := (by decide); have el1 : (1 : Int64).toInt = 1 := (by decide); have el1200 : (1200 : Int64).toInt = 1200 := (by decide); have q_z_36 := l_cmp ez_36; have q_z_48 := l_cmp ez_48; have q_z_51 := l_2i ez_51; have q_c_37 := i_nlt c_37; have q_c_49 := i_le c_49; obtain ⟨u_z_52, q_z_52⟩ := i_add ez_52; obtain ⟨u_z_50, q_z_50⟩ := i_add ez_50; have g_x1 := i_rg x1; have g_z_36 := i_rg z_36; have g_z_48 := i_rg z_48; have g_z_50 := i_rg z_50; have g_z_51 := i_rg z_51; have g_z_52 := i_rg z_52; omega); have b9 := xp_59 h9 _ _ _ _ _ q9; have a3 := a1.symm.trans ez_51; unfold lmX; rw [← ez_32, a3, ← ez_50, ← ez_52]; rw [a3] at a2; exact ⟨(by have e0 : (0 : Int32).toInt = 0 := (by decide); have e2 : (2 : Int32).toInt = 2 := (by decide); have e4 : (4 : Int32).toInt = 4 := (by decide); have e8 : (8 : Int32).toInt = 8 := (by decide); have el1 : (1 : Int64).toInt = 1 := (by decide); have el1200 : (1200 : Int64).toInt = 1200 := (by decide); have q_z_36 := l_cmp ez_36; have q_z_48 := l_cmp ez_48; have q_z_51 := l_2i ez_51; obtain ⟨u_z_52, q_z_52⟩ := i_add ez_52; have q_c_37 := i_nlt c_37; have q_c_49 := i_le c_49; obtain ⟨u_z_50, q_z_50⟩ := i_add ez_50; obtain ⟨u_z_2, q_z_2⟩ := i_add ez_2; obtain ⟨u_z_8, q_z_8⟩ := i_add ez_8; obtain ⟨u_z_10, q_z_10⟩ := i_add ez_10; obtain ⟨u_z_25, q_z_25⟩ := i_add ez_25; obtain ⟨u_z_30, q_z_30⟩ := i_add ez_30; obtain ⟨u_z_32, q_z_32⟩ := i_add ez_32; have g_x1 := i_rg x1; have g_z_10 := i_rg z_10; have g_z_2 := i_rg z_2; have g_z_25 := i_rg z_25; have g_z_30 := i_rg z_30; have g_z_32 := i_rg z_32; have g_z_36 := i_rg z_36; have g_z_48 := i_rg z_48; have g_z_50 := i_rg z_50; have g_z_51 := i_rg z_51; have g_z_52 := i_rg z_52; have g_z_8 := i_rg z_8; have w9 := a2; omega), (by have e0 : (0 : Int32).toInt = 0 := (by decide); have e2 : (2 : Int32).toInt = 2 := (by decide); have e4 : (4 : Int32).toInt = 4 := (by decide); have e8 : (8 : Int32).toInt = 8 := (by decide); have el1 : (1 : Int64).toInt = 1 := (by decide); have el1200 : (1200 : Int64).toInt = 1200 := (by decide); have q_z_36 := l_cmp ez_36; have q_z_48 := l_cmp ez_48; have q_z_51 := l_2i ez_51; obtain ⟨u_z_52, q_z_52⟩ := i_add ez_52; have q_c_37 := i_nlt c_37; have q_c_49 := i_le c_49; obtain ⟨u_z_50, q_z_50⟩ := i_add ez_50; obtain ⟨u_z_2, q_z_2⟩ := i_add ez_2; obtain ⟨u_z_8, q_z_8⟩ := i_add ez_8; obtain ⟨u_z_10, q_z_10⟩ := i_add ez_10; obtain ⟨u_z_25, q_z_25⟩ := i_add ez_25; obtain ⟨u_z_30, q_z_30⟩ := i_add ez_30; obtain ⟨u_z_32, q_z_32⟩ := i_add ez_32; have g_x1 := i_rg x1; have g_z_10 := i_rg z_10; have g_z_2 := i_rg z_2; have g_z_25 := i_rg z_25; have g_z_30 := i_rg z_30; have g_z_32 := i_rg z_32; have g_z_36 := i_rg z_36; have g_z_48 := i_rg z_48; have g_z_50 := i_rg z_50; have g_z_51 := i_rg z_51; have g_z_52 := i_rg z_52; have g_z_8 := i_rg z_8; have w9 := a2; omega), b9⟩)⟩, ⟨E_55, Fr_56, hG, by rw [ht9]; exact hP, hD⟩⟩, hS.F ht9⟩) hS.2.2 dX2_headHolds_175
                · refine lv_aload_n hx hb dX2_headHolds_149 rfl (lv_at hl 1 rfl) ?_
                  refine va_get (D := gD g) (ci := 2) (v := .ref r0_1) (C := RX2) (T := TX2) (N := 12) hx hb hts inX2 hown hK hP k_1 hk_1 rfl 0 (by decide) (hts _ kw_632) (fun _ h9 => h9) rfl dX2_headHolds_150 ?_
                  refine lv_bipush (v := 13) hx hb dX2_headHolds_153 (by decide) ?_
                  refine lv_iload_n hx hb dX2_headHolds_155 rfl (lv_at hl 2 rfl) ?_
                  refine lv_iconst (v := 4) hx hb dX2_headHolds_156 (by decide) ?_
                  refine lv_iadd hx hb dX2_headHolds_157 ?_
                  refine lv_topi (fun z_61 ez_61 => ?_)
                  have hFc := gfree hD hS hA
                  obtain ⟨k_62, fs_62, hk_62⟩ := gC_of o_r0_1
                  refine va_calli (va_runV (As := [.int 13, .int z_61]) (rest := []) ⟨hx, hb, hml, hown, hts⟩ (m_X7_breaks_z l g H.size ws r0_1 (13) (z_61) hG o_r0_1) (cwV 2 hts (gd_V kw_677 kw_1278 kw_1279 kw_710 kw_1277) rfl rfl rfl (by decide +kernel) ⟨Nat.le_of_ble_eq_true rfl, Nat.le_of_ble_eq_true rfl⟩) ⟨gblind, va_recv hK hP (ci := 6) (q0 := k_62) rfl hk_62, fun U hU hW9 => gmk hU hW9 hP hK hD hex hE hS hFc⟩ rfl rfl hl.1 rfl (lv_room (Nat.le_of_ble_eq_true rfl)) dX2_headHolds_158 ⟨Nat.le_of_ble_eq_true rfl, Nat.le_of_ble_eq_true rfl⟩) hS (fun q _ h => hFc q h) hFc (fun r_63 ws_64 t9 H1 locs ht9 hvm9 hw9 hB9 hz9 hk9 hS => ?_)
                  obtain ⟨E_65, Fr_66, hG, hP1, hD1⟩ := hB9
                  have hP : va_P (gD g) cl0 ws_64 H1 := by rw [← ht9]; exact hP1
                  have hD : va_D A ws_64 := hD1.weaken (fun _ _ _ h => hFc _ h)
                  obtain ⟨hw9, xp_69⟩ := hw9
                  have hz_r_63 : r_63 = 0 ∨ r_63 = 1 := hw9
                  clear hP1 hD1 hz9 hk9 hvm9 ht9 hw9
                  generalize H1 = H at hP hS ⊢
                  have aa_70 := a_r7_1
                  have o_h0 := E_65.1 _ _ o_h0
                  refine W.widen (k := 0) (n := 0) (Nat.le_of_ble_eq_true rfl) (Nat.le_of_ble_eq_true rfl) ?_
                  exact W.zret (v := r_63) hx hb hr (nz hz_r_63) (fun t9 ht9 hW9 => ⟨⟨_, ws_64, rfl, ⟨hz_r_63, (fun h9 => absurd h9 (by have q9 := xp_69; omega))⟩, ⟨E_65, Fr_66, hG, by rw [ht9]; exact hP, hD⟩⟩, hS.F ht9⟩) hS.2.2 dX2_headHolds_161
            · refine lv_aload_n hx hb dX2_headHolds_110 rfl (lv_at hl 0 rfl) ?_
              refine va_get (D := gD g) (ci := 2) (v := .ref r0_1) (C := RX2) (T := TX2) (N := 12) hx hb hts inX2 hown hK hP k_1 hk_1 rfl 0 (by decide) (hts _ kw_632) (fun _ h9 => h9) rfl dX2_headHolds_111 ?_
              refine lv_bipush (v := 14) hx hb dX2_headHolds_114 (by decide) ?_
              refine lv_iload_n hx hb dX2_headHolds_116 rfl (lv_at hl 2 rfl) ?_
              have hFc := gfree hD hS hA
              obtain ⟨k_71, fs_71, hk_71⟩ := gC_of o_r0_1
              refine va_calli (va_runV (As := [.int 14, .int x2]) (rest := []) ⟨hx, hb, hml, hown, hts⟩ (m_X7_breaks_z l g H.size ws r0_1 (14) (x2) hG o_r0_1) (cwV 2 hts (gd_V kw_677 kw_1278 kw_1279 kw_710 kw_1277) rfl rfl rfl (by decide +kernel) ⟨Nat.le_of_ble_eq_true rfl, Nat.le_of_ble_eq_true rfl⟩) ⟨gblind, va_recv hK hP (ci := 6) (q0 := k_71) rfl hk_71, fun U hU hW9 => gmk hU hW9 hP hK hD hex hE hS hFc⟩ rfl rfl hl.1 rfl (lv_room (Nat.le_of_ble_eq_true rfl)) dX2_headHolds_117 ⟨Nat.le_of_ble_eq_true rfl, Nat.le_of_ble_eq_true rfl⟩) hS (fun q _ h => hFc q h) hFc (fun r_72 ws_73 t9 H1 locs ht9 hvm9 hw9 hB9 hz9 hk9 hS => ?_)
              obtain ⟨E_74, Fr_75, hG, hP1, hD1⟩ := hB9
              have hP : va_P (gD g) cl0 ws_73 H1 := by rw [← ht9]; exact hP1
              have hD : va_D A ws_73 := hD1.weaken (fun _ _ _ h => hFc _ h)
              obtain ⟨hw9, xp_78⟩ := hw9
              have hz_r_72 : r_72 = 0 ∨ r_72 = 1 := hw9
              clear hP1 hD1 hz9 hk9 hvm9 ht9 hw9
              generalize H1 = H at hP hS ⊢
              have aa_79 := a_r7_1
              have o_h0 := E_74.1 _ _ o_h0
              refine W.widen (k := 0) (n := 0) (Nat.le_of_ble_eq_true rfl) (Nat.le_of_ble_eq_true rfl) ?_
              exact W.zret (v := r_72) hx hb hr (nz hz_r_72) (fun t9 ht9 hW9 => ⟨⟨_, ws_73, rfl, ⟨hz_r_72, (fun h9 => absurd h9 (by have q9 := xp_78; omega))⟩, ⟨E_74, Fr_75, hG, by rw [ht9]; exact hP, hD⟩⟩, hS.F ht9⟩) hS.2.2 dX2_headHolds_120
          · refine lv_aload_n hx hb dX2_headHolds_89 rfl (lv_at hl 0 rfl) ?_
            refine va_get (D := gD g) (ci := 2) (v := .ref r0_1) (C := RX2) (T := TX2) (N := 12) hx hb hts inX2 hown hK hP k_1 hk_1 rfl 0 (by decide) (hts _ kw_632) (fun _ h9 => h9) rfl dX2_headHolds_90 ?_
            refine lv_bipush (v := 13) hx hb dX2_headHolds_93 (by decide) ?_
            refine lv_iload_n hx hb dX2_headHolds_95 rfl (lv_at hl 1 rfl) ?_
            refine lv_iconst (v := 2) hx hb dX2_headHolds_96 (by decide) ?_
            refine lv_iadd hx hb dX2_headHolds_97 ?_
            refine lv_topi (fun z_80 ez_80 => ?_)
            have hFc := gfree hD hS hA
            obtain ⟨k_81, fs_81, hk_81⟩ := gC_of o_r0_1
            refine va_calli (va_runV (As := [.int 13, .int z_80]) (rest := []) ⟨hx, hb, hml, hown, hts⟩ (m_X7_breaks_z l g H.size ws r0_1 (13) (z_80) hG o_r0_1) (cwV 2 hts (gd_V kw_677 kw_1278 kw_1279 kw_710 kw_1277) rfl rfl rfl (by decide +kernel) ⟨Nat.le_of_ble_eq_true rfl, Nat.le_of_ble_eq_true rfl⟩) ⟨gblind, va_recv hK hP (ci := 6) (q0 := k_81) rfl hk_81, fun U hU hW9 => gmk hU hW9 hP hK hD hex hE hS hFc⟩ rfl rfl hl.1 rfl (lv_room (Nat.le_of_ble_eq_true rfl)) dX2_headHolds_98 ⟨Nat.le_of_ble_eq_true rfl, Nat.le_of_ble_eq_true rfl⟩) hS (fun q _ h => hFc q h) hFc (fun r_82 ws_83 t9 H1 locs ht9 hvm9 hw9 hB9 hz9 hk9 hS => ?_)
            obtain ⟨E_84, Fr_85, hG, hP1, hD1⟩ := hB9
            have hP : va_P (gD g) cl0 ws_83 H1 := by rw [← ht9]; exact hP1
            have hD : va_D A ws_83 := hD1.weaken (fun _ _ _ h => hFc _ h)
            obtain ⟨hw9, xp_88⟩ := hw9
            have hz_r_82 : r_82 = 0 ∨ r_82 = 1 := hw9
            clear hP1 hD1 hz9 hk9 hvm9 ht9 hw9
            generalize H1 = H at hP hS ⊢
            have aa_89 := a_r7_1
            have o_h0 := E_84.1 _ _ o_h0
            refine W.widen (k := 0) (n := 0) (Nat.le_of_ble_eq_true rfl) (Nat.le_of_ble_eq_true rfl) ?_
            exact W.zret (v := r_82) hx hb hr (nz hz_r_82) (fun t9 ht9 hW9 => ⟨⟨_, ws_83, rfl, ⟨hz_r_82, (fun h9 => absurd h9 (by have q9 := xp_88; omega))⟩, ⟨E_84, Fr_85, hG, by rw [ht9]; exact hP, hD⟩⟩, hS.F ht9⟩) hS.2.2 dX2_headHolds_101
      · refine lv_aload_n hx hb dX2_headHolds_49 rfl (lv_at hl 0 rfl) ?_
        refine va_get (D := gD g) (ci := 2) (v := .ref r0_1) (C := RX2) (T := TX2) (N := 12) hx hb hts inX2 hown hK hP k_1 hk_1 rfl 0 (by decide) (hts _ kw_632) (fun _ h9 => h9) rfl dX2_headHolds_50 ?_
        refine lv_bipush (v := 14) hx hb dX2_headHolds_53 (by decide) ?_
        refine lv_iload_n hx hb dX2_headHolds_55 rfl (lv_at hl 2 rfl) ?_
        have hFc := gfree hD hS hA
        obtain ⟨k_90, fs_90, hk_90⟩ := gC_of o_r0_1
        refine va_calli (va_runV (As := [.int 14, .int x2]) (rest := []) ⟨hx, hb, hml, hown, hts⟩ (m_X7_breaks_z l g H.size ws r0_1 (14) (x2) hG o_r0_1) (cwV 2 hts (gd_V kw_677 kw_1278 kw_1279 kw_710 kw_1277) rfl rfl rfl (by decide +kernel) ⟨Nat.le_of_ble_eq_true rfl, Nat.le_of_ble_eq_true rfl⟩) ⟨gblind, va_recv hK hP (ci := 6) (q0 := k_90) rfl hk_90, fun U hU hW9 => gmk hU hW9 hP hK hD hex hE hS hFc⟩ rfl rfl hl.1 rfl (lv_room (Nat.le_of_ble_eq_true rfl)) dX2_headHolds_56 ⟨Nat.le_of_ble_eq_true rfl, Nat.le_of_ble_eq_true rfl⟩) hS (fun q _ h => hFc q h) hFc (fun r_91 ws_92 t9 H1 locs ht9 hvm9 hw9 hB9 hz9 hk9 hS => ?_)
        obtain ⟨E_93, Fr_94, hG, hP1, hD1⟩ := hB9
        have hP : va_P (gD g) cl0 ws_92 H1 := by rw [← ht9]; exact hP1
        have hD : va_D A ws_92 := hD1.weaken (fun _ _ _ h => hFc _ h)
        obtain ⟨hw9, xp_97⟩ := hw9
        have hz_r_91 : r_91 = 0 ∨ r_91 = 1 := hw9
        clear hP1 hD1 hz9 hk9 hvm9 ht9 hw9
        generalize H1 = H at hP hS ⊢
        have aa_98 := a_r7_1
        have o_h0 := E_93.1 _ _ o_h0
        refine W.widen (k := 0) (n := 0) (Nat.le_of_ble_eq_true rfl) (Nat.le_of_ble_eq_true rfl) ?_
        exact W.zret (v := r_91) hx hb hr (nz hz_r_91) (fun t9 ht9 hW9 => ⟨⟨_, ws_92, rfl, ⟨hz_r_91, (fun h9 => absurd h9 (by have q9 := xp_97; omega))⟩, ⟨E_93, Fr_94, hG, by rw [ht9]; exact hP, hD⟩⟩, hS.F ht9⟩) hS.2.2 dX2_headHolds_59
    · refine lv_aload_n hx hb dX2_headHolds_31 rfl (lv_at hl 0 rfl) ?_
      refine va_get (D := gD g) (ci := 2) (v := .ref r0_1) (C := RX2) (T := TX2) (N := 12) hx hb hts inX2 hown hK hP k_1 hk_1 rfl 0 (by decide) (hts _ kw_632) (fun _ h9 => h9) rfl dX2_headHolds_32 ?_
      refine lv_bipush (v := 13) hx hb dX2_headHolds_35 (by decide) ?_
      refine lv_iload_n hx hb dX2_headHolds_37 rfl (lv_at hl 1 rfl) ?_
      have hFc := gfree hD hS hA
      obtain ⟨k_99, fs_99, hk_99⟩ := gC_of o_r0_1
      refine va_calli (va_runV (As := [.int 13, .int x1]) (rest := []) ⟨hx, hb, hml, hown, hts⟩ (m_X7_breaks_z l g H.size ws r0_1 (13) (x1) hG o_r0_1) (cwV 2 hts (gd_V kw_677 kw_1278 kw_1279 kw_710 kw_1277) rfl rfl rfl (by decide +kernel) ⟨Nat.le_of_ble_eq_true rfl, Nat.le_of_ble_eq_true rfl⟩) ⟨gblind, va_recv hK hP (ci := 6) (q0 := k_99) rfl hk_99, fun U hU hW9 => gmk hU hW9 hP hK hD hex hE hS hFc⟩ rfl rfl hl.1 rfl (lv_room (Nat.le_of_ble_eq_true rfl)) dX2_headHolds_38 ⟨Nat.le_of_ble_eq_true rfl, Nat.le_of_ble_eq_true rfl⟩) hS (fun q _ h => hFc q h) hFc (fun r_100 ws_101 t9 H1 locs ht9 hvm9 hw9 hB9 hz9 hk9 hS => ?_)
      obtain ⟨E_102, Fr_103, hG, hP1, hD1⟩ := hB9
      have hP : va_P (gD g) cl0 ws_101 H1 := by rw [← ht9]; exact hP1
      have hD : va_D A ws_101 := hD1.weaken (fun _ _ _ h => hFc _ h)
      obtain ⟨hw9, xp_106⟩ := hw9
      have hz_r_100 : r_100 = 0 ∨ r_100 = 1 := hw9
      clear hP1 hD1 hz9 hk9 hvm9 ht9 hw9
      generalize H1 = H at hP hS ⊢
      have aa_107 := a_r7_1
      have o_h0 := E_102.1 _ _ o_h0
      refine W.widen (k := 0) (n := 0) (Nat.le_of_ble_eq_true rfl) (Nat.le_of_ble_eq_true rfl) ?_
      exact W.zret (v := r_100) hx hb hr (nz hz_r_100) (fun t9 ht9 hW9 => ⟨⟨_, ws_101, rfl, ⟨hz_r_100, (fun h9 => absurd h9 (by have q9 := xp_106; omega))⟩, ⟨E_102, Fr_103, hG, by rw [ht9]; exact hP, hD⟩⟩, hS.F ht9⟩) hS.2.2 dX2_headHolds_41
  · refine lv_aload_n hx hb dX2_headHolds_7 rfl (lv_at hl 0 rfl) ?_
    refine va_get (D := gD g) (ci := 2) (v := .ref r0_1) (C := RX2) (T := TX2) (N := 12) hx hb hts inX2 hown hK hP k_1 hk_1 rfl 0 (by decide) (hts _ kw_632) (fun _ h9 => h9) rfl dX2_headHolds_8 ?_
    refine lv_bipush (v := 14) hx hb dX2_headHolds_11 (by decide) ?_
    refine lv_iload_n hx hb dX2_headHolds_13 rfl (lv_at hl 2 rfl) ?_
    have hFc := gfree hD hS hA
    obtain ⟨k_108, fs_108, hk_108⟩ := gC_of o_r0_1
    refine va_calli (va_runV (As := [.int 14, .int x2]) (rest := []) ⟨hx, hb, hml, hown, hts⟩ (m_X7_breaks_z l g s.heap.size ws r0_1 (14) (x2) hG o_r0_1) (cwV 2 hts (gd_V kw_677 kw_1278 kw_1279 kw_710 kw_1277) rfl rfl rfl (by decide +kernel) ⟨Nat.le_of_ble_eq_true rfl, Nat.le_of_ble_eq_true rfl⟩) ⟨gblind, va_recv hK hP (ci := 6) (q0 := k_108) rfl hk_108, fun U hU hW9 => gmk hU hW9 hP hK hD hex hE hS hFc⟩ rfl rfl hl.1 rfl (lv_room (Nat.le_of_ble_eq_true rfl)) dX2_headHolds_14 ⟨Nat.le_of_ble_eq_true rfl, Nat.le_of_ble_eq_true rfl⟩) hS (fun q _ h => hFc q h) hFc (fun r_109 ws_110 t9 H1 locs ht9 hvm9 hw9 hB9 hz9 hk9 hS => ?_)
    obtain ⟨E_111, Fr_112, hG, hP1, hD1⟩ := hB9
    have hP : va_P (gD g) cl0 ws_110 H1 := by rw [← ht9]; exact hP1
    have hD : va_D A ws_110 := hD1.weaken (fun _ _ _ h => hFc _ h)
    obtain ⟨hw9, xp_115⟩ := hw9
    have hz_r_109 : r_109 = 0 ∨ r_109 = 1 := hw9
    clear hP1 hD1 hz9 hk9 hvm9 ht9 hw9
    generalize H1 = H at hP hS ⊢
    have aa_116 := a_r7_1
    have o_h0 := E_111.1 _ _ o_h0
    refine W.widen (k := 0) (n := 0) (Nat.le_of_ble_eq_true rfl) (Nat.le_of_ble_eq_true rfl) ?_
    exact W.zret (v := r_109) hx hb hr (nz hz_r_109) (fun t9 ht9 hW9 => ⟨⟨_, ws_110, rfl, ⟨hz_r_109, (fun h9 => absurd h9 (by have q9 := xp_115; omega))⟩, ⟨E_111, Fr_112, hG, by rw [ht9]; exact hP, hD⟩⟩, hS.F ht9⟩) hS.2.2 dX2_headHolds_17
set_option maxHeartbeats 1000000 in
set_option maxRecDepth 100000 in
theorem m_X2_limitsHold_x (l : Launch) (g : Gm) (sz : Nat) (ws : va_W) (h0 : Nat) (hG : Good g ws) (o_h0 : gC ws h0 2) : Met l yX2_limitsHold (wt yX2_limitsHold cX2_limitsHold 2 (some .boolean)) ({ frames := 4, cells := 0, slots := 0, locals := 93 }) (va_Pc [.ref h0] (st_G g sz ws)) (va_Qi (fun (r : Int32) (u9 : va_W) => (r = 0 ∨ r = 1) ∧ (r.toInt = 1 → lmA u9 h0)) (gQ1 g [(6, 2), (6, 3), (6, 12), (6, 13), (6, 14)] [] none (va_A ws sz) ws) (va_A ws sz)) (0) (0) (va_A ws sz) := by
  refine Met.ofW (cc := cX2_limitsHold) (maxL := 2) (ret := (some .boolean)) (by decide) rfl ?_
  intro p e s m args below meth c s₁ B hml hv
  obtain ⟨rfl, hsz, hP, hK, hD0, hex, hE⟩ := hv
  have hx := B.exec
  have hb := B.bytes
  have hr := B.returns
  have hts0 := atoms_spec (ws := wt yX2_limitsHold cX2_limitsHold 2 (some .boolean)) B.pre
  have hts : ∀ w ∈ tb, w.before _ s = true := fun w h => hts0 w (List.mem_cons_of_mem _ h)
  have hown : s.vm.findClass RX2 = some m.cls := findClass_of_methodNamed B.named
  subst hsz
  have hD := hD0.self (sz := s.heap.size)
  generalize hAe : va_A ws s.heap.size = A at hD hE ⊢
  have hA : ∀ q : Nat, s.heap.size ≤ q → A q := fun q h => by rw [← hAe]; exact Or.inr h
  have hS : va_S A s.heap s.heap [] := va_S.rf
  have hl := lv_entry ([.ref h0]) (n := 2) (Nat.le_of_ble_eq_true rfl)
  rw [lg_entry_eq]
  generalize (lg_sl ([.ref h0]) ++ List.replicate (2 - (lg_sl ([.ref h0])).length) Slot.unset).toArray = ls at hl ⊢
  have hl : lv_has ls 2 [(0, .ref h0)] := hl
  obtain ⟨k_1, fs9, hk_1⟩ := gC_of o_h0
  obtain ⟨r0_1, c1_1, c2_1, c3_1, c4_1, c5_1, c6_1, r7_1, n7_1, c8_1, c9_1, l10_1, c11_1, rfl, o_r0_1, a_r7_1, f2_1, f3_1, f4_1, -⟩ := (hG.1 _ _ _ _ hk_1).hX2 rfl
  obtain ⟨k_2, fs9, hk_2⟩ := gC_of o_r0_1
  obtain ⟨r0_2, n0_2, c1_2, c2_2, c3_2, r4_2, n4_2, c5_2, c6_2, c7_2, c8_2, r9_2, n9_2, r10_2, n10_2, r11_2, n11_2, c12_2, c13_2, c14_2, c15_2, c16_2, rfl, a_r0_2, f1_2, a_r4_2, f3_2, a_r9_2, f5_2, a_r10_2, f7_2, a_r11_2, f9_2, f10_2, f11_2, f12_2, f13_2, f14_2, -⟩ := (hG.1 _ _ _ _ hk_2).hX7 rfl
  obtain ⟨k_3, f_3, hk_3⟩ := gI_of a_r0_2
  obtain ⟨k_4, f_4, hk_4⟩ := gI_of a_r10_2
  have tq_5 : lmP ws h0 (0 : Int32) := lmP_0 hk_1 rfl hk_2 rfl rfl hk_3 rfl rfl hk_4 (by decide)
  refine lv_iconst (v := 0) hx hb dX2_limitsHold_0 (by decide) ?_
  refine lv_istore_n (lv' := [(1, .int 0), (0, .ref h0)]) hx hb dX2_limitsHold_1 rfl hl (by decide) rfl (fun ls hl => ?_)
  have J_2 : ∀ (n9 : Nat) (v1_6 : Int32) (ws_8 : va_W) (H : Heap) (locs : List Loc) (ls : Array Slot), (2147483647 - v1_6.toInt).toNat = n9 → 0 ≤ v1_6.toInt → gE ws ws_8 → gF [(6, 2), (6, 3), (6, 12), (6, 13), (6, 14)] [] none ws ws_8 → Good g ws_8 → lmP ws_8 h0 v1_6 → va_P (gD g) cl0 ws_8 H → va_D A ws_8 → va_S A s.heap H locs → lv_has ls 2 [(0, .ref h0), (1, .int v1_6)] → W p l e (headSpec (wt yX2_limitsHold cX2_limitsHold 2 (some .boolean)) ({ frames := 4, cells := 0, slots := 0, locals := 93 })).room s m ([.ref h0] : List Value).toArray below meth c H locs (0) (0) (MQ below (va_Qi (fun (r : Int32) (u9 : va_W) => (r = 0 ∨ r = 1) ∧ (r.toInt = 1 → lmA u9 h0)) (gQ1 g [(6, 2), (6, 3), (6, 12), (6, 13), (6, 14)] [] none A ws) A) ([.ref h0] : List Value).toArray s (0) (0) A) (F0 m 2 ls []) := by
    intro n9
    induction n9 using Nat.strongRecOn with
    | ind n9 ih_2 =>
      intro v1_6 ws_8 H locs ls hm9 iv_7 E_9 Fr_10 hG jx_2_0 hP hD hS hl
      subst hm9
      have aa_11 := a_r7_1
      have aa_12 := a_r0_2
      have aa_13 := a_r4_2
      have aa_14 := a_r9_2
      have aa_15 := a_r10_2
      have aa_16 := a_r11_2
      have o_h0 := E_9.1 _ _ o_h0
      refine lv_iload_n hx hb dX2_limitsHold_2 rfl (lv_at hl 1 rfl) ?_
      refine lv_aload_n hx hb dX2_limitsHold_3 rfl (lv_at hl 0 rfl) ?_
      obtain ⟨fs9, hk_17, hq_17⟩ := ((gF.a (F' := [(6, 2), (6, 3), (6, 12), (6, 13), (6, 14)]) Fr_10 (fun _ h => h))) _ _ _ hk_1
      obtain ⟨r0_17, c1_17, c2_17, c3_17, c4_17, c5_17, c6_17, r7_17, n7_17, c8_17, c9_17, l10_17, c11_17, rfl, o_r0_17, a_r7_17, f2_17, f3_17, f4_17, -⟩ := (hG.1 _ _ _ _ hk_17).hX2 rfl
      obtain rfl := fe_r (hq_17 0 (by decide))
      have o_r0_1 := o_r0_17
      refine va_get (D := gD g) (ci := 2) (v := .ref r0_1) (C := RX2) (T := TX2) (N := 12) hx hb hts inX2 hown hK hP k_1 hk_17 rfl 0 (by decide) (hts _ kw_632) (fun _ h9 => h9) rfl dX2_limitsHold_4 ?_
      obtain ⟨fs9, hk_18, hq_18⟩ := ((gF.a (F' := [(6, 2), (6, 3), (6, 12), (6, 13), (6, 14)]) Fr_10 (fun _ h => h))) _ _ _ hk_2
      obtain ⟨r0_18, n0_18, c1_18, c2_18, c3_18, r4_18, n4_18, c5_18, c6_18, c7_18, c8_18, r9_18, n9_18, r10_18, n10_18, r11_18, n11_18, c12_18, c13_18, c14_18, c15_18, c16_18, rfl, a_r0_18, f1_18, a_r4_18, f3_18, a_r9_18, f5_18, a_r10_18, f7_18, a_r11_18, f9_18, f10_18, f11_18, f12_18, f13_18, f14_18, -⟩ := (hG.1 _ _ _ _ hk_18).hX7 rfl
      obtain rfl := fe_i (hq_18 7 (by decide))
      obtain rfl := fe_i (hq_18 8 (by decide))
      obtain rfl := fe_r (hq_18 10 (by decide))
      have hn9 := gI_n hD ((E_9).1 _ _ aa_15) a_r10_18
      subst hn9
      have a_r10_2 := a_r10_18
      obtain rfl := fe_r (hq_18 11 (by decide))
      have hn9 := gI_n hD ((E_9).1 _ _ aa_16) a_r11_18
      subst hn9
      have a_r11_2 := a_r11_18
      refine va_get (D := gD g) (ci := 6) (v := .int c8_2) (C := RX7) (T := TX7) (N := 17) hx hb hts inX7 hown hK hP k_2 hk_18 rfl 8 (by decide) (hts _ kw_646) (fun _ h9 => h9) rfl dX2_limitsHold_7 ?_
      refine lv_icmp_ge (tgt := 83) hx hb dX2_limitsHold_10 (by decide) (fun c_19 => ?_) (fun c_19 => ?_)
      · refine lv_iconst (v := 1) hx hb dX2_limitsHold_83 (by decide) ?_
        refine W.widen (k := 0) (n := 0) (Nat.le_of_ble_eq_true rfl) (Nat.le_of_ble_eq_true rfl) ?_
        exact W.zret (v := 1) hx hb hr (nz (Or.inr rfl)) (fun t9 ht9 hW9 => ⟨⟨_, ws_8, rfl, ⟨(Or.inr rfl), (fun _ => lmA_P hD hk_17 rfl hk_18 rfl (by have q_iv_7 := iv_7; have q_c_19 := i_le c_19; have g_c8_2 := i_rg c8_2; have g_v1_6 := i_rg v1_6; omega) jx_2_0)⟩, ⟨E_9, Fr_10, hG, by rw [ht9]; exact hP, hD⟩⟩, hS.F ht9⟩) hS.2.2 dX2_limitsHold_84
      · refine lv_iload_n hx hb dX2_limitsHold_13 rfl (lv_at hl 1 rfl) ?_
        refine lv_bipush (v := 24) hx hb dX2_limitsHold_14 (by decide) ?_
        refine lv_icmp_ge (tgt := 83) hx hb dX2_limitsHold_16 (by decide) (fun c_20 => ?_) (fun c_20 => ?_)
        · refine lv_iconst (v := 1) hx hb dX2_limitsHold_83 (by decide) ?_
          refine W.widen (k := 0) (n := 0) (Nat.le_of_ble_eq_true rfl) (Nat.le_of_ble_eq_true rfl) ?_
          exact W.zret (v := 1) hx hb hr (nz (Or.inr rfl)) (fun t9 ht9 hW9 => ⟨⟨_, ws_8, rfl, ⟨(Or.inr rfl), (fun _ => lmA_P hD hk_17 rfl hk_18 rfl (by have e24 : (24 : Int32).toInt = 24 := (by decide); have q_iv_7 := iv_7; have q_c_19 := i_nle c_19; have q_c_20 := i_le c_20; have g_c8_2 := i_rg c8_2; have g_v1_6 := i_rg v1_6; omega) jx_2_0)⟩, ⟨E_9, Fr_10, hG, by rw [ht9]; exact hP, hD⟩⟩, hS.F ht9⟩) hS.2.2 dX2_limitsHold_84
        · refine lv_aload_n hx hb dX2_limitsHold_19 rfl (lv_at hl 0 rfl) ?_
          refine va_get (D := gD g) (ci := 2) (v := .ref r0_1) (C := RX2) (T := TX2) (N := 12) hx hb hts inX2 hown hK hP k_1 hk_17 rfl 0 (by decide) (hts _ kw_632) (fun _ h9 => h9) rfl dX2_limitsHold_20 ?_
          refine lv_aload_n hx hb dX2_limitsHold_23 rfl (lv_at hl 0 rfl) ?_
          refine va_get (D := gD g) (ci := 2) (v := .ref r0_1) (C := RX2) (T := TX2) (N := 12) hx hb hts inX2 hown hK hP k_1 hk_17 rfl 0 (by decide) (hts _ kw_632) (fun _ h9 => h9) rfl dX2_limitsHold_24 ?_
          refine lv_aload_n hx hb dX2_limitsHold_27 rfl (lv_at hl 0 rfl) ?_
          refine va_get (D := gD g) (ci := 2) (v := .ref r0_1) (C := RX2) (T := TX2) (N := 12) hx hb hts inX2 hown hK hP k_1 hk_17 rfl 0 (by decide) (hts _ kw_632) (fun _ h9 => h9) rfl dX2_limitsHold_28 ?_
          refine va_get (D := gD g) (ci := 6) (v := .int c7_2) (C := RX7) (T := TX7) (N := 17) hx hb hts inX7 hown hK hP k_2 hk_18 rfl 7 (by decide) (hts _ kw_645) (fun _ h9 => h9) rfl dX2_limitsHold_31 ?_
          refine lv_iload_n hx hb dX2_limitsHold_34 rfl (lv_at hl 1 rfl) ?_
          refine lv_iadd hx hb dX2_limitsHold_35 ?_
          refine lv_topi (fun z_21 ez_21 => ?_)
          have hFc := gfree hD hS hA
          refine va_calli (va_runV (As := [.int z_21]) (rest := [.ref r0_1]) ⟨hx, hb, hml, hown, hts⟩ (m_X7_typeOf l g H.size ws_8 r0_1 (z_21) hG o_r0_1) (cwV 1 hts (gd_V kw_658 kw_1438 kw_1439 kw_710 kw_1437) rfl rfl rfl (by decide +kernel) ⟨Nat.le_of_ble_eq_true rfl, Nat.le_of_ble_eq_true rfl⟩) ⟨gblind, va_recv hK hP (ci := 6) (q0 := k_2) rfl hk_18, fun U hU hW9 => gmk hU hW9 hP hK hD hex hE hS hFc⟩ rfl rfl hl.1 rfl (lv_room (Nat.le_of_ble_eq_true rfl)) dX2_limitsHold_36 ⟨Nat.le_of_ble_eq_true rfl, Nat.le_of_ble_eq_true rfl⟩) hS (fun q _ h => hFc q h) hFc (fun r_22 u9 t9 H1 locs ht9 hvm9 hw9 hB9 hz9 hk9 hS => ?_)
          have hP : va_P (gD g) cl0 ws_8 H1 := by rw [← ht9]; exact hB9.1
          clear hB9 hz9 hk9 hvm9 ht9 hw9
          generalize H1 = H at hP hS ⊢
          have hFc := gfree hD hS hA
          refine va_calli (va_runV (As := [.int r_22]) (rest := []) ⟨hx, hb, hml, hown, hts⟩ (m_X7_isMethodType l g H.size ws_8 r0_1 (r_22) hG o_r0_1) (cwV 1 hts (gd_V kw_664 kw_1344 kw_1345 kw_710 kw_1343) rfl rfl rfl (by decide +kernel) ⟨Nat.le_of_ble_eq_true rfl, Nat.le_of_ble_eq_true rfl⟩) ⟨gblind, va_recv hK hP (ci := 6) (q0 := k_2) rfl hk_18, fun U hU hW9 => gmk hU hW9 hP hK hD hex hE hS hFc⟩ rfl rfl hl.1 rfl (lv_room (Nat.le_of_ble_eq_true rfl)) dX2_limitsHold_39 ⟨Nat.le_of_ble_eq_true rfl, Nat.le_of_ble_eq_true rfl⟩) hS (fun q _ h => hFc q h) hFc (fun r_23 ws_24 t9 H1 locs ht9 hvm9 hw9 hB9 hz9 hk9 hS => ?_)
          obtain ⟨E_25, Fr_26, hG, hP1, hD1⟩ := hB9
          have hP : va_P (gD g) cl0 ws_24 H1 := by rw [← ht9]; exact hP1
          have hD : va_D A ws_24 := hD1.weaken (fun _ _ _ h => hFc _ h)
          have hz_r_23 : r_23 = 0 ∨ r_23 = 1 := hw9
          clear hP1 hD1 hz9 hk9 hvm9 ht9 hw9
          generalize H1 = H at hP hS ⊢
          have aa_29 := a_r7_17
          have aa_30 := a_r0_18
          have aa_31 := a_r4_18
          have aa_32 := a_r9_18
          have aa_33 := a_r10_2
          have aa_34 := a_r11_2
          have o_h0 := E_25.1 _ _ o_h0
          refine lv_pop hx hb dX2_limitsHold_42 rfl ?_
          refine lv_aload_n hx hb dX2_limitsHold_43 rfl (lv_at hl 0 rfl) ?_
          refine lv_aload_n hx hb dX2_limitsHold_44 rfl (lv_at hl 0 rfl) ?_
          obtain ⟨fs9, hk_35, hq_35⟩ := ((gF.a (F' := [(6, 12), (6, 13), (6, 14)]) Fr_26 (fun _ h => h))) _ _ _ hk_17
          obtain ⟨r0_35, c1_35, c2_35, c3_35, c4_35, c5_35, c6_35, r7_35, n7_35, c8_35, c9_35, l10_35, c11_35, rfl, o_r0_35, a_r7_35, f2_35, f3_35, f4_35, -⟩ := (hG.1 _ _ _ _ hk_35).hX2 rfl
          obtain rfl := fe_r (hq_35 0 (by decide))
          have o_r0_1 := o_r0_35
          refine va_get (D := gD g) (ci := 2) (v := .ref r0_1) (C := RX2) (T := TX2) (N := 12) hx hb hts inX2 hown hK hP k_1 hk_35 rfl 0 (by decide) (hts _ kw_632) (fun _ h9 => h9) rfl dX2_limitsHold_45 ?_
          obtain ⟨fs9, hk_36, hq_36⟩ := ((gF.a (F' := [(6, 12), (6, 13), (6, 14)]) Fr_26 (fun _ h => h))) _ _ _ hk_18
          obtain ⟨r0_36, n0_36, c1_36, c2_36, c3_36, r4_36, n4_36, c5_36, c6_36, c7_36, c8_36, r9_36, n9_36, r10_36, n10_36, r11_36, n11_36, c12_36, c13_36, c14_36, c15_36, c16_36, rfl, a_r0_36, f1_36, a_r4_36, f3_36, a_r9_36, f5_36, a_r10_36, f7_36, a_r11_36, f9_36, f10_36, f11_36, f12_36, f13_36, f14_36, -⟩ := (hG.1 _ _ _ _ hk_36).hX7 rfl
          obtain rfl := fe_i (hq_36 7 (by decide))
          obtain rfl := fe_i (hq_36 8 (by decide))
          obtain rfl := fe_r (hq_36 10 (by decide))
          have hn9 := gI_n hD ((E_25).1 _ _ aa_33) a_r10_36
          subst hn9
          have a_r10_2 := a_r10_36
          obtain rfl := fe_r (hq_36 11 (by decide))
          have hn9 := gI_n hD ((E_25).1 _ _ aa_34) a_r11_36
          subst hn9
          have a_r11_2 := a_r11_36
          refine va_get (D := gD g) (ci := 6) (v := .ref r10_2) (C := RX7) (T := TX7) (N := 17) hx hb hts inX7 hown hK hP k_2 hk_36 rfl 10 (by decide) (hts _ kw_731) (fun _ h9 => h9) rfl dX2_limitsHold_48 ?_
          refine lv_iload_n hx hb dX2_limitsHold_51 rfl (lv_at hl 1 rfl) ?_
          obtain ⟨k_37, f_37, hk_37⟩ := gI_of a_r10_2
          refine va_iald hx hb hK hP k_37 1 hk_37 rfl (i_in2 (by have e24 : (24 : Int32).toInt = 24 := (by decide); have q_f7_2 := f7_2; have q_f13_2 := f13_2; have q_iv_7 := iv_7; have q_c_19 := i_nle c_19; have q_c_20 := i_nle c_20; obtain ⟨u_z_21, q_z_21⟩ := i_add ez_21; have g_c7_2 := i_rg c7_2; have g_c8_2 := i_rg c8_2; have g_v1_6 := i_rg v1_6; have g_z_21 := i_rg z_21; omega)) dX2_limitsHold_52 ?_
          refine lv_topi (fun z_38 ez_38 => ?_)
          have hkL := hk_35
          have hkM := hk_36
          have hkC := hk_37
          have hDL := hD
          have tq_39 : lmP ws_24 h0 v1_6 := lmP_mo (Fr_26) (by decide) (by decide) (by decide) (by decide) (by decide) (by decide) (by decide) jx_2_0
          refine lv_aload_n hx hb dX2_limitsHold_53 rfl (lv_at hl 0 rfl) ?_
          refine va_get (D := gD g) (ci := 2) (v := .ref r0_1) (C := RX2) (T := TX2) (N := 12) hx hb hts inX2 hown hK hP k_1 hk_35 rfl 0 (by decide) (hts _ kw_632) (fun _ h9 => h9) rfl dX2_limitsHold_54 ?_
          refine va_get (D := gD g) (ci := 6) (v := .ref r11_2) (C := RX7) (T := TX7) (N := 17) hx hb hts inX7 hown hK hP k_2 hk_36 rfl 11 (by decide) (hts _ kw_732) (fun _ h9 => h9) rfl dX2_limitsHold_57 ?_
          refine lv_iload_n hx hb dX2_limitsHold_60 rfl (lv_at hl 1 rfl) ?_
          obtain ⟨k_40, f_40, hk_40⟩ := gI_of a_r11_2
          refine va_iald hx hb hK hP k_40 1 hk_40 rfl (i_in2 (by have e24 : (24 : Int32).toInt = 24 := (by decide); have q_f9_2 := f9_2; have q_f14_2 := f14_2; have q_iv_7 := iv_7; have q_c_19 := i_nle c_19; have q_c_20 := i_nle c_20; obtain ⟨u_z_21, q_z_21⟩ := i_add ez_21; have g_c7_2 := i_rg c7_2; have g_c8_2 := i_rg c8_2; have g_v1_6 := i_rg v1_6; have g_z_21 := i_rg z_21; omega)) dX2_limitsHold_61 ?_
          refine lv_topi (fun z_41 ez_41 => ?_)
          refine lv_aload_n hx hb dX2_limitsHold_62 rfl (lv_at hl 0 rfl) ?_
          refine va_get (D := gD g) (ci := 2) (v := .ref r0_1) (C := RX2) (T := TX2) (N := 12) hx hb hts inX2 hown hK hP k_1 hk_35 rfl 0 (by decide) (hts _ kw_632) (fun _ h9 => h9) rfl dX2_limitsHold_63 ?_
          refine va_get (D := gD g) (ci := 6) (v := .int c13_36) (C := RX7) (T := TX7) (N := 17) hx hb hts inX7 hown hK hP k_2 hk_36 rfl 13 (by decide) (hts _ kw_733) (fun _ h9 => h9) rfl dX2_limitsHold_66 ?_
          have hFc := gfree hD hS hA
          refine va_calli (va_runV (As := [.int z_38, .int z_41, .int c13_36]) (rest := []) ⟨hx, hb, hml, hown, hts⟩ (m_X2_headHolds_x l g H.size ws_24 h0 (z_38) (z_41) (c13_36) hG o_h0) (cwV 3 hts (gd_V kw_734 kw_701 kw_702 kw_389 kw_700) rfl rfl rfl (by decide +kernel) ⟨Nat.le_of_ble_eq_true rfl, Nat.le_of_ble_eq_true rfl⟩) ⟨gblind, va_recv hK hP (ci := 2) (q0 := k_1) rfl hk_35, fun U hU hW9 => gmk hU hW9 hP hK hD hex hE hS hFc⟩ rfl rfl hl.1 rfl (lv_room (Nat.le_of_ble_eq_true rfl)) dX2_limitsHold_69 ⟨Nat.le_of_ble_eq_true rfl, Nat.le_of_ble_eq_true rfl⟩) hS (fun q _ h => hFc q h) hFc (fun r_42 ws_43 t9 H1 locs ht9 hvm9 hw9 hB9 hz9 hk9 hS => ?_)
          obtain ⟨E_44, Fr_45, hG, hP1, hD1⟩ := hB9
          have hP : va_P (gD g) cl0 ws_43 H1 := by rw [← ht9]; exact hP1
          have hD : va_D A ws_43 := hD1.weaken (fun _ _ _ h => hFc _ h)
          obtain ⟨hw9, xp_48⟩ := hw9
          have hz_r_42 : r_42 = 0 ∨ r_42 = 1 := hw9
          clear hP1 hD1 hz9 hk9 hvm9 ht9 hw9
          generalize H1 = H at hP hS ⊢
          have aa_49 := a_r7_35
          have aa_50 := a_r0_36
          have aa_51 := a_r4_36
          have aa_52 := a_r9_36
          have aa_53 := a_r10_2
          have aa_54 := a_r11_2
          have o_h0 := E_44.1 _ _ o_h0
          refine lv_if_ne (tgt := 77) hx hb dX2_limitsHold_72 (by decide) (fun c_55 => ?_) (fun c_55 => ?_)
          · obtain ⟨z_56, ez_56⟩ : ∃ z : Int32, v1_6 + Int32.ofInt 1 = z := ⟨_, rfl⟩
            refine lv_iinc (v := z_56) (lv' := [(1, .int z_56), (0, .ref h0)]) hx hb dX2_limitsHold_77 hl (k := 1) rfl ez_56 (by decide) rfl (fun ls hl => ?_)
            have lp_57 : lmP ws_24 h0 z_56 := lmP_s (x := z_38) (by have e24 : (24 : Int32).toInt = 24 := (by decide); have q_iv_7 := iv_7; have q_c_19 := i_nle c_19; have q_c_20 := i_nle c_20; obtain ⟨u_z_21, q_z_21⟩ := i_add ez_21; obtain ⟨u_z_56, q_z_56⟩ := i_iz ez_56 (by decide) (by decide); have g_c7_2 := i_rg c7_2; have g_c8_2 := i_rg c8_2; have g_v1_6 := i_rg v1_6; have g_z_21 := i_rg z_21; have g_z_56 := i_rg z_56; omega) (by have e24 : (24 : Int32).toInt = 24 := (by decide); have q_iv_7 := iv_7; have q_c_19 := i_nle c_19; have q_c_20 := i_nle c_20; obtain ⟨u_z_21, q_z_21⟩ := i_add ez_21; obtain ⟨u_z_56, q_z_56⟩ := i_iz ez_56 (by decide) (by decide); have g_c7_2 := i_rg c7_2; have g_c8_2 := i_rg c8_2; have g_v1_6 := i_rg v1_6; have g_z_21 := i_rg z_21; have g_z_56 := i_rg z_56; omega) (by have e24 : (24 : Int32).toInt = 24 := (by decide); have q_iv_7 := iv_7; have q_c_19 := i_nle c_19; have q_c_20 := i_nle c_20; obtain ⟨u_z_21, q_z_21⟩ := i_add ez_21; obtain ⟨u_z_56, q_z_56⟩ := i_iz ez_56 (by decide) (by decide); have g_c7_2 := i_rg c7_2; have g_c8_2 := i_rg c8_2; have g_v1_6 := i_rg v1_6; have g_z_21 := i_rg z_21; have g_z_56 := i_rg z_56; omega) (fun f9 e9 n9 c9 m9 q9 => ⟨(by rw [vm_fc hDL hkL rfl hkM rfl hkC q9]; exact ez_38.symm), xp_48 (by have e0 : (0 : Int32).toInt = 0 := (by decide); have q_c_55 := i_ne c_55; have g_r_42 := i_rg r_42; have b_r_42 := i_bit hz_r_42; omega) _ _ _ _ _ q9⟩) tq_39
            refine lv_goto (tgt := 2) hx hb dX2_limitsHold_80 (by decide) ?_
            have tq_58 : lmP ws_43 h0 z_56 := lmP_mo (Fr_45) (by decide) (by decide) (by decide) (by decide) (by decide) (by decide) (by decide) lp_57
            exact ih_2 _ (by have e24 : (24 : Int32).toInt = 24 := (by decide); obtain ⟨u_z_56, q_z_56⟩ := i_iz ez_56 (by decide) (by decide); have q_iv_7 := iv_7; have q_c_19 := i_nle c_19; have q_c_20 := i_nle c_20; obtain ⟨u_z_21, q_z_21⟩ := i_add ez_21; have g_c7_2 := i_rg c7_2; have g_c8_2 := i_rg c8_2; have g_v1_6 := i_rg v1_6; have g_z_21 := i_rg z_21; have g_z_56 := i_rg z_56; omega) (z_56) ws_43 H locs ls rfl (by have e24 : (24 : Int32).toInt = 24 := (by decide); obtain ⟨u_z_56, q_z_56⟩ := i_iz ez_56 (by decide) (by decide); have q_iv_7 := iv_7; have q_c_19 := i_nle c_19; have q_c_20 := i_nle c_20; obtain ⟨u_z_21, q_z_21⟩ := i_add ez_21; have g_c7_2 := i_rg c7_2; have g_c8_2 := i_rg c8_2; have g_v1_6 := i_rg v1_6; have g_z_21 := i_rg z_21; have g_z_56 := i_rg z_56; omega) ((E_9.tr (E_25.tr E_44))) ((gF.tr Fr_10 (gF.tr (gF.mo (F' := [(6, 2), (6, 3), (6, 12), (6, 13), (6, 14)]) (C' := []) (S' := none) Fr_26 (by decide) (fun _ h => h) (Or.inr rfl)) (gF.mo (F' := [(6, 2), (6, 3), (6, 12), (6, 13), (6, 14)]) (C' := []) (S' := none) Fr_45 (by decide) (fun _ h => h) (Or.inr rfl))))) hG tq_58 hP hD hS (lv_sub hl [1, 0] rfl)
          · refine lv_iconst (v := 0) hx hb dX2_limitsHold_75 (by decide) ?_
            refine W.widen (k := 0) (n := 0) (Nat.le_of_ble_eq_true rfl) (Nat.le_of_ble_eq_true rfl) ?_
            exact W.zret (v := 0) hx hb hr (nz (Or.inl rfl)) (fun t9 ht9 hW9 => ⟨⟨_, ws_43, rfl, ⟨(Or.inl rfl), (fun h9 => absurd h9 (by decide))⟩, ⟨(E_9.tr (E_25.tr E_44)), (gF.tr Fr_10 (gF.tr (gF.mo (F' := [(6, 2), (6, 3), (6, 12), (6, 13), (6, 14)]) (C' := []) (S' := none) Fr_26 (by decide) (fun _ h => h) (Or.inr rfl)) (gF.mo (F' := [(6, 2), (6, 3), (6, 12), (6, 13), (6, 14)]) (C' := []) (S' := none) Fr_45 (by decide) (fun _ h => h) (Or.inr rfl)))), hG, by rw [ht9]; exact hP, hD⟩⟩, hS.F ht9⟩) hS.2.2 dX2_limitsHold_76
  exact J_2 _ (0) ws _ _ ls rfl (by have e0 : (0 : Int32).toInt = 0 := (by decide); omega) (gE.rf) (gF.rf) hG tq_5 hP hD hS (lv_sub hl [1, 0] rfl)
