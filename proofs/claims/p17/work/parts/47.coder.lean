set_option maxHeartbeats 1000000 in
set_option maxRecDepth 100000 in
theorem m_X2_catchesHold (l : Launch) (g : Gm) (sz : Nat) (ws : va_W) (h0 : Nat) (x1 : Int32) (x2 : Int32) (hG : Good g ws) (o_h0 : gC ws h0 2) : Met l yX2_catchesHold (wt yX2_catchesHold cX2_catchesHold 7 (some .boolean)) ({ frames := 2, cells := 0, slots := 0, locals := 42 }) (va_Pc [.ref h0, .int x1, .int x2] (st_G g sz ws)) (va_Qi (fun (r : Int32) (u9 : va_W) => r = 0 ∨ r = 1) (gQ1 g [(6, 2), (6, 3)] [] none (va_A ws sz) ws) (va_A ws sz)) (0) (0) (va_A ws sz) := by
  refine Met.ofW (cc := cX2_catchesHold) (maxL := 7) (ret := (some .boolean)) (by decide) rfl ?_
  intro p e s m args below meth c s₁ B hml hv
  obtain ⟨rfl, hsz, hP, hK, hD0, hex, hE⟩ := hv
  have hx := B.exec
  have hb := B.bytes
  have hr := B.returns
  have hts0 := atoms_spec (ws := wt yX2_catchesHold cX2_catchesHold 7 (some .boolean)) B.pre
  have hts : ∀ w ∈ tb, w.before _ s = true := fun w h => hts0 w (List.mem_cons_of_mem _ h)
  have hown : s.vm.findClass RX2 = some m.cls := findClass_of_methodNamed B.named
  subst hsz
  have hD := hD0.self (sz := s.heap.size)
  generalize hAe : va_A ws s.heap.size = A at hD hE ⊢
  have hA : ∀ q : Nat, s.heap.size ≤ q → A q := fun q h => by rw [← hAe]; exact Or.inr h
  have hS : va_S A s.heap s.heap [] := va_S.rf
  have hl := lv_entry ([.ref h0, .int x1, .int x2]) (n := 7) (Nat.le_of_ble_eq_true rfl)
  rw [lg_entry_eq]
  generalize (lg_sl ([.ref h0, .int x1, .int x2]) ++ List.replicate (7 - (lg_sl ([.ref h0, .int x1, .int x2])).length) Slot.unset).toArray = ls at hl ⊢
  have hl : lv_has ls 7 [(0, .ref h0), (1, .int x1), (2, .int x2)] := hl
  refine lv_iload_n hx hb dX2_catchesHold_0 rfl (lv_at hl 1 rfl) ?_
  refine lv_iconst (v := 2) hx hb dX2_catchesHold_1 (by decide) ?_
  refine lv_iadd hx hb dX2_catchesHold_2 ?_
  refine lv_topi (fun z_1 ez_1 => ?_)
  refine lv_iload_n hx hb dX2_catchesHold_3 rfl (lv_at hl 2 rfl) ?_
  refine lv_icmp_le (tgt := 18) hx hb dX2_catchesHold_4 (by decide) (fun c_2 => ?_) (fun c_2 => ?_)
  · refine lv_aload_n hx hb dX2_catchesHold_18 rfl (lv_at hl 0 rfl) ?_
    obtain ⟨k_3, fs9, hk_3⟩ := gC_of o_h0
    obtain ⟨r0_3, c1_3, c2_3, c3_3, c4_3, c5_3, c6_3, r7_3, n7_3, c8_3, c9_3, l10_3, c11_3, rfl, o_r0_3, a_r7_3, f2_3, f3_3, f4_3, -⟩ := (hG.1 _ _ _ _ hk_3).hX2 rfl
    refine va_get (D := gD g) (ci := 2) (v := .ref r0_3) (C := RX2) (T := TX2) (N := 12) hx hb hts inX2 hown hK hP k_3 hk_3 rfl 0 (by decide) (hts _ kw_632) (fun _ h9 => h9) rfl dX2_catchesHold_19 ?_
    refine lv_iload_n hx hb dX2_catchesHold_22 rfl (lv_at hl 1 rfl) ?_
    have hFc := gfree hD hS hA
    obtain ⟨k_4, fs_4, hk_4⟩ := gC_of o_r0_3
    refine va_calli (va_runV (As := [.int x1]) (rest := []) ⟨hx, hb, hml, hown, hts⟩ (m_X7_u2 l g s.heap.size ws r0_3 (x1) hG o_r0_3) (cwV 1 hts (gd_V kw_651 kw_1450 kw_1451 kw_710 kw_1449) rfl rfl rfl (by decide +kernel) ⟨Nat.le_of_ble_eq_true rfl, Nat.le_of_ble_eq_true rfl⟩) ⟨gblind, va_recv hK hP (ci := 6) (q0 := k_4) rfl hk_4, fun U hU hW9 => gmk hU hW9 hP hK hD hex hE hS hFc⟩ rfl rfl hl.1 rfl (lv_room (Nat.le_of_ble_eq_true rfl)) dX2_catchesHold_23 ⟨Nat.le_of_ble_eq_true rfl, Nat.le_of_ble_eq_true rfl⟩) hS (fun q _ h => hFc q h) hFc (fun r_5 u9 t9 H1 locs ht9 hvm9 hw9 hB9 hz9 hk9 hS => ?_)
    have hP : va_P (gD g) cl0 ws H1 := by rw [← ht9]; exact hB9.1
    have h_r_5 := hw9
    clear hB9 hz9 hk9 hvm9 ht9 hw9
    generalize H1 = H at hP hS ⊢
    refine lv_istore_n (lv' := [(3, .int r_5), (0, .ref h0), (1, .int x1), (2, .int x2)]) hx hb dX2_catchesHold_26 rfl hl (by decide) rfl (fun ls hl => ?_)
    refine lv_iload_n hx hb dX2_catchesHold_27 rfl (lv_at hl 0 rfl) ?_
    refine lv_bipush (v := 16) hx hb dX2_catchesHold_28 (by decide) ?_
    refine lv_icmp_le (tgt := 44) hx hb dX2_catchesHold_30 (by decide) (fun c_6 => ?_) (fun c_6 => ?_)
    · refine lv_iload_n hx hb dX2_catchesHold_44 rfl (lv_at hl 2 rfl) ?_
      refine lv_iconst (v := 2) hx hb dX2_catchesHold_45 (by decide) ?_
      refine lv_iadd hx hb dX2_catchesHold_46 ?_
      refine lv_topi (fun z_7 ez_7 => ?_)
      refine lv_bipush (v := 8) hx hb dX2_catchesHold_47 (by decide) ?_
      refine lv_iload_n hx hb dX2_catchesHold_49 rfl (lv_at hl 0 rfl) ?_
      refine lv_imul hx hb dX2_catchesHold_50 ?_
      refine lv_topi (fun z_8 ez_8 => ?_)
      refine lv_iadd hx hb dX2_catchesHold_51 ?_
      refine lv_topi (fun z_9 ez_9 => ?_)
      refine lv_istore (lv' := [(4, .int z_9), (3, .int r_5), (0, .ref h0), (1, .int x1), (2, .int x2)]) hx hb dX2_catchesHold_52 hl (by decide) rfl (fun ls hl => ?_)
      refine lv_iload hx hb dX2_catchesHold_54 (lv_at hl 0 rfl) ?_
      refine lv_iconst (v := 2) hx hb dX2_catchesHold_56 (by decide) ?_
      refine lv_iadd hx hb dX2_catchesHold_57 ?_
      refine lv_topi (fun z_10 ez_10 => ?_)
      refine lv_iload_n hx hb dX2_catchesHold_58 rfl (lv_at hl 4 rfl) ?_
      refine lv_icmp_le (tgt := 73) hx hb dX2_catchesHold_59 (by decide) (fun c_11 => ?_) (fun c_11 => ?_)
      · refine lv_aload_n hx hb dX2_catchesHold_73 rfl (lv_at hl 2 rfl) ?_
        refine va_get (D := gD g) (ci := 2) (v := .ref r0_3) (C := RX2) (T := TX2) (N := 12) hx hb hts inX2 hown hK hP k_3 hk_3 rfl 0 (by decide) (hts _ kw_632) (fun _ h9 => h9) rfl dX2_catchesHold_74 ?_
        refine lv_iload hx hb dX2_catchesHold_77 (lv_at hl 0 rfl) ?_
        have hFc := gfree hD hS hA
        obtain ⟨k_12, fs_12, hk_12⟩ := gC_of o_r0_3
        refine va_calli (va_runV (As := [.int z_9]) (rest := []) ⟨hx, hb, hml, hown, hts⟩ (m_X7_u2 l g H.size ws r0_3 (z_9) hG o_r0_3) (cwV 1 hts (gd_V kw_651 kw_1450 kw_1451 kw_710 kw_1449) rfl rfl rfl (by decide +kernel) ⟨Nat.le_of_ble_eq_true rfl, Nat.le_of_ble_eq_true rfl⟩) ⟨gblind, va_recv hK hP (ci := 6) (q0 := k_12) rfl hk_12, fun U hU hW9 => gmk hU hW9 hP hK hD hex hE hS hFc⟩ rfl rfl hl.1 rfl (lv_room (Nat.le_of_ble_eq_true rfl)) dX2_catchesHold_79 ⟨Nat.le_of_ble_eq_true rfl, Nat.le_of_ble_eq_true rfl⟩) hS (fun q _ h => hFc q h) hFc (fun r_13 u9 t9 H1 locs ht9 hvm9 hw9 hB9 hz9 hk9 hS => ?_)
        have hP : va_P (gD g) cl0 ws H1 := by rw [← ht9]; exact hB9.1
        have h_r_13 := hw9
        clear hB9 hz9 hk9 hvm9 ht9 hw9
        generalize H1 = H at hP hS ⊢
        refine lv_istore (lv' := [(5, .int r_13), (4, .int z_9), (3, .int r_5), (0, .ref h0), (1, .int x1), (2, .int x2)]) hx hb dX2_catchesHold_82 hl (by decide) rfl (fun ls hl => ?_)
        obtain ⟨z_14, ez_14⟩ : ∃ z : Int32, z_9 + Int32.ofInt 2 = z := ⟨_, rfl⟩
        refine lv_iinc (v := z_14) (lv' := [(4, .int z_14), (5, .int r_13), (3, .int r_5), (0, .ref h0), (1, .int x1), (2, .int x2)]) hx hb dX2_catchesHold_84 hl (k := 1) rfl ez_14 (by decide) rfl (fun ls hl => ?_)
        refine lv_iconst (v := 0) hx hb dX2_catchesHold_87 (by decide) ?_
        refine lv_istore (lv' := [(6, .int 0), (4, .int z_14), (5, .int r_13), (3, .int r_5), (0, .ref h0), (1, .int x1), (2, .int x2)]) hx hb dX2_catchesHold_88 hl (by decide) rfl (fun ls hl => ?_)
        have J_90 : ∀ (n9 : Nat) (v4_15 : Int32) (v6_16 : Int32) (H : Heap) (locs : List Loc) (ls : Array Slot), (2147483647 - v6_16.toInt).toNat = n9 → 0 ≤ v6_16.toInt → va_P (gD g) cl0 ws H → va_D A ws → va_S A s.heap H locs → lv_has ls 7 [(0, .ref h0), (2, .int x2), (4, .int v4_15), (5, .int r_13), (6, .int v6_16)] → W p l e (headSpec (wt yX2_catchesHold cX2_catchesHold 7 (some .boolean)) ({ frames := 2, cells := 0, slots := 0, locals := 42 })).room s m ([.ref h0, .int x1, .int x2] : List Value).toArray below meth c H locs (0) (0) (MQ below (va_Qi (fun (r : Int32) (u9 : va_W) => r = 0 ∨ r = 1) (gQ1 g [(6, 2), (6, 3)] [] none A ws) A) ([.ref h0, .int x1, .int x2] : List Value).toArray s (0) (0) A) (F0 m 90 ls []) := by
          intro n9
          induction n9 using Nat.strongRecOn with
          | ind n9 ih_90 =>
            intro v4_15 v6_16 H locs ls hm9 iv_17 hP hD hS hl
            subst hm9
            refine lv_iload hx hb dX2_catchesHold_90 (lv_at hl 4 rfl) ?_
            refine lv_iload hx hb dX2_catchesHold_92 (lv_at hl 3 rfl) ?_
            refine lv_icmp_ge (tgt := 165) hx hb dX2_catchesHold_94 (by decide) (fun c_20 => ?_) (fun c_20 => ?_)
            · refine lv_iload hx hb dX2_catchesHold_165 (lv_at hl 2 rfl) ?_
              refine lv_iload_n hx hb dX2_catchesHold_167 rfl (lv_at hl 1 rfl) ?_
              have J_190 : ∀ (t_21 : Int32) (ws_23 : va_W) (H : Heap) (locs : List Loc) (ls : Array Slot), t_21 = 0 ∨ t_21 = 1 → gE ws ws_23 → gF [(6, 2), (6, 3)] [] none ws ws_23 → Good g ws_23 → va_P (gD g) cl0 ws_23 H → va_D A ws_23 → va_S A s.heap H locs → lv_has ls 7 [] → W p l e (headSpec (wt yX2_catchesHold cX2_catchesHold 7 (some .boolean)) ({ frames := 2, cells := 0, slots := 0, locals := 42 })).room s m ([.ref h0, .int x1, .int x2] : List Value).toArray below meth c H locs (0) (0) (MQ below (va_Qi (fun (r : Int32) (u9 : va_W) => r = 0 ∨ r = 1) (gQ1 g [(6, 2), (6, 3)] [] none A ws) A) ([.ref h0, .int x1, .int x2] : List Value).toArray s (0) (0) A) (F0 m 190 ls [.int t_21]) := by
                intro t_21 ws_23 H locs ls iv_22 E_24 Fr_25 hG hP hD hS hl
                have hz_t_21 := iv_22
                have aa_26 := a_r7_3
                have o_h0 := E_24.1 _ _ o_h0
                refine W.widen (k := 0) (n := 0) (Nat.le_of_ble_eq_true rfl) (Nat.le_of_ble_eq_true rfl) ?_
                exact W.zret (v := t_21) hx hb hr (nz hz_t_21) (fun t9 ht9 hW9 => ⟨⟨_, ws_23, rfl, hz_t_21, ⟨E_24, Fr_25, hG, by rw [ht9]; exact hP, hD⟩⟩, hS.F ht9⟩) hS.2.2 dX2_catchesHold_190
              have J_185 : ∀ (ws_27 : va_W) (H : Heap) (locs : List Loc) (ls : Array Slot), gE ws ws_27 → gF [(6, 2), (6, 3)] [] none ws ws_27 → Good g ws_27 → va_P (gD g) cl0 ws_27 H → va_D A ws_27 → va_S A s.heap H locs → lv_has ls 7 [] → W p l e (headSpec (wt yX2_catchesHold cX2_catchesHold 7 (some .boolean)) ({ frames := 2, cells := 0, slots := 0, locals := 42 })).room s m ([.ref h0, .int x1, .int x2] : List Value).toArray below meth c H locs (0) (0) (MQ below (va_Qi (fun (r : Int32) (u9 : va_W) => r = 0 ∨ r = 1) (gQ1 g [(6, 2), (6, 3)] [] none A ws) A) ([.ref h0, .int x1, .int x2] : List Value).toArray s (0) (0) A) (F0 m 185 ls []) := by
                intro ws_27 H locs ls  E_28 Fr_29 hG hP hD hS hl
                have aa_30 := a_r7_3
                have o_h0 := E_28.1 _ _ o_h0
                refine lv_iconst (v := 1) hx hb dX2_catchesHold_185 (by decide) ?_
                refine lv_goto (tgt := 190) hx hb dX2_catchesHold_186 (by decide) ?_
                exact J_190 (1) ws_27 H locs ls (Or.inr rfl) (E_28) (Fr_29) hG hP hD hS (lv_sub hl [] rfl)
              refine lv_icmp_eq (tgt := 185) hx hb dX2_catchesHold_168 (by decide) (fun c_31 => ?_) (fun c_31 => ?_)
              · exact J_185 ws H locs ls (gE.rf) (gF.rf) hG hP hD hS (lv_sub hl [] rfl)
              · refine lv_aload_n hx hb dX2_catchesHold_171 rfl (lv_at hl 0 rfl) ?_
                refine va_get (D := gD g) (ci := 2) (v := .ref r0_3) (C := RX2) (T := TX2) (N := 12) hx hb hts inX2 hown hK hP k_3 hk_3 rfl 0 (by decide) (hts _ kw_632) (fun _ h9 => h9) rfl dX2_catchesHold_172 ?_
                refine lv_bipush (v := 14) hx hb dX2_catchesHold_175 (by decide) ?_
                refine lv_iload hx hb dX2_catchesHold_177 (lv_at hl 2 rfl) ?_
                have hFc := gfree hD hS hA
                obtain ⟨k_32, fs_32, hk_32⟩ := gC_of o_r0_3
                refine va_calli (va_runV (As := [.int 14, .int v4_15]) (rest := []) ⟨hx, hb, hml, hown, hts⟩ (m_X7_breaks l g H.size ws r0_3 (14) (v4_15) hG o_r0_3) (cwV 2 hts (gd_V kw_677 kw_1278 kw_1279 kw_710 kw_1277) rfl rfl rfl (by decide +kernel) ⟨Nat.le_of_ble_eq_true rfl, Nat.le_of_ble_eq_true rfl⟩) ⟨gblind, va_recv hK hP (ci := 6) (q0 := k_32) rfl hk_32, fun U hU hW9 => gmk hU hW9 hP hK hD hex hE hS hFc⟩ rfl rfl hl.1 rfl (lv_room (Nat.le_of_ble_eq_true rfl)) dX2_catchesHold_179 ⟨Nat.le_of_ble_eq_true rfl, Nat.le_of_ble_eq_true rfl⟩) hS (fun q _ h => hFc q h) hFc (fun r_33 ws_34 t9 H1 locs ht9 hvm9 hw9 hB9 hz9 hk9 hS => ?_)
                obtain ⟨E_35, Fr_36, hG, hP1, hD1⟩ := hB9
                have hP : va_P (gD g) cl0 ws_34 H1 := by rw [← ht9]; exact hP1
                have hD : va_D A ws_34 := hD1.weaken (fun _ _ _ h => hFc _ h)
                have hz_r_33 : r_33 = 0 ∨ r_33 = 1 := hw9
                clear hP1 hD1 hz9 hk9 hvm9 ht9 hw9
                generalize H1 = H at hP hS ⊢
                have aa_39 := a_r7_3
                have o_h0 := E_35.1 _ _ o_h0
                refine lv_if_eq (tgt := 189) hx hb dX2_catchesHold_182 (by decide) (fun c_40 => ?_) (fun c_40 => ?_)
                · refine lv_iconst (v := 0) hx hb dX2_catchesHold_189 (by decide) ?_
                  exact J_190 (0) ws_34 H locs ls (Or.inl rfl) (E_35) (Fr_36) hG hP hD hS (lv_sub hl [] rfl)
                · exact J_185 ws_34 H locs ls (E_35) (Fr_36) hG hP hD hS (lv_sub hl [] rfl)
            · refine lv_iload hx hb dX2_catchesHold_97 (lv_at hl 2 rfl) ?_
              refine lv_bipush (v := 6) hx hb dX2_catchesHold_99 (by decide) ?_
              refine lv_iadd hx hb dX2_catchesHold_101 ?_
              refine lv_topi (fun z_41 ez_41 => ?_)
              refine lv_iload_n hx hb dX2_catchesHold_102 rfl (lv_at hl 1 rfl) ?_
              have J_129 : ∀  (H : Heap) (locs : List Loc) (ls : Array Slot), va_P (gD g) cl0 ws H → va_D A ws → va_S A s.heap H locs → lv_has ls 7 [(0, .ref h0), (2, .int x2)] → W p l e (headSpec (wt yX2_catchesHold cX2_catchesHold 7 (some .boolean)) ({ frames := 2, cells := 0, slots := 0, locals := 42 })).room s m ([.ref h0, .int x1, .int x2] : List Value).toArray below meth c H locs (0) (0) (MQ below (va_Qi (fun (r : Int32) (u9 : va_W) => r = 0 ∨ r = 1) (gQ1 g [(6, 2), (6, 3)] [] none A ws) A) ([.ref h0, .int x1, .int x2] : List Value).toArray s (0) (0) A) (F0 m 129 ls []) := by
                intro  H locs ls  hP hD hS hl
                refine lv_aload_n hx hb dX2_catchesHold_129 rfl (lv_at hl 0 rfl) ?_
                refine va_get (D := gD g) (ci := 2) (v := .ref r0_3) (C := RX2) (T := TX2) (N := 12) hx hb hts inX2 hown hK hP k_3 hk_3 rfl 0 (by decide) (hts _ kw_632) (fun _ h9 => h9) rfl dX2_catchesHold_130 ?_
                refine lv_bipush (v := 14) hx hb dX2_catchesHold_133 (by decide) ?_
                refine lv_iload_n hx hb dX2_catchesHold_135 rfl (lv_at hl 1 rfl) ?_
                have hFc := gfree hD hS hA
                obtain ⟨k_44, fs_44, hk_44⟩ := gC_of o_r0_3
                refine va_calli (va_runV (As := [.int 14, .int x2]) (rest := []) ⟨hx, hb, hml, hown, hts⟩ (m_X7_breaks l g H.size ws r0_3 (14) (x2) hG o_r0_3) (cwV 2 hts (gd_V kw_677 kw_1278 kw_1279 kw_710 kw_1277) rfl rfl rfl (by decide +kernel) ⟨Nat.le_of_ble_eq_true rfl, Nat.le_of_ble_eq_true rfl⟩) ⟨gblind, va_recv hK hP (ci := 6) (q0 := k_44) rfl hk_44, fun U hU hW9 => gmk hU hW9 hP hK hD hex hE hS hFc⟩ rfl rfl hl.1 rfl (lv_room (Nat.le_of_ble_eq_true rfl)) dX2_catchesHold_136 ⟨Nat.le_of_ble_eq_true rfl, Nat.le_of_ble_eq_true rfl⟩) hS (fun q _ h => hFc q h) hFc (fun r_45 ws_46 t9 H1 locs ht9 hvm9 hw9 hB9 hz9 hk9 hS => ?_)
                obtain ⟨E_47, Fr_48, hG, hP1, hD1⟩ := hB9
                have hP : va_P (gD g) cl0 ws_46 H1 := by rw [← ht9]; exact hP1
                have hD : va_D A ws_46 := hD1.weaken (fun _ _ _ h => hFc _ h)
                have hz_r_45 : r_45 = 0 ∨ r_45 = 1 := hw9
                clear hP1 hD1 hz9 hk9 hvm9 ht9 hw9
                generalize H1 = H at hP hS ⊢
                have aa_51 := a_r7_3
                have o_h0 := E_47.1 _ _ o_h0
                refine W.widen (k := 0) (n := 0) (Nat.le_of_ble_eq_true rfl) (Nat.le_of_ble_eq_true rfl) ?_
                exact W.zret (v := r_45) hx hb hr (nz hz_r_45) (fun t9 ht9 hW9 => ⟨⟨_, ws_46, rfl, hz_r_45, ⟨E_47, Fr_48, hG, by rw [ht9]; exact hP, hD⟩⟩, hS.F ht9⟩) hS.2.2 dX2_catchesHold_139
              refine lv_icmp_gt (tgt := 129) hx hb dX2_catchesHold_103 (by decide) (fun c_52 => ?_) (fun c_52 => ?_)
              · exact J_129  H locs ls  hP hD hS (lv_sub hl [0, 1] rfl)
              · refine lv_aload_n hx hb dX2_catchesHold_106 rfl (lv_at hl 0 rfl) ?_
                refine va_get (D := gD g) (ci := 2) (v := .ref r0_3) (C := RX2) (T := TX2) (N := 12) hx hb hts inX2 hown hK hP k_3 hk_3 rfl 0 (by decide) (hts _ kw_632) (fun _ h9 => h9) rfl dX2_catchesHold_107 ?_
                refine lv_iload hx hb dX2_catchesHold_110 (lv_at hl 2 rfl) ?_
                refine lv_iconst (v := 2) hx hb dX2_catchesHold_112 (by decide) ?_
                refine lv_iadd hx hb dX2_catchesHold_113 ?_
                refine lv_topi (fun z_53 ez_53 => ?_)
                have hFc := gfree hD hS hA
                obtain ⟨k_54, fs_54, hk_54⟩ := gC_of o_r0_3
                refine va_calll (va_runV (As := [.int z_53]) (rest := []) ⟨hx, hb, hml, hown, hts⟩ (m_X7_u4 l g H.size ws r0_3 (z_53) hG o_r0_3) (cwV 1 hts (gd_V kw_678 kw_1453 kw_1454 kw_710 kw_1452) rfl rfl rfl (by decide +kernel) ⟨Nat.le_of_ble_eq_true rfl, Nat.le_of_ble_eq_true rfl⟩) ⟨gblind, va_recv hK hP (ci := 6) (q0 := k_54) rfl hk_54, fun U hU hW9 => gmk hU hW9 hP hK hD hex hE hS hFc⟩ rfl rfl hl.1 rfl (lv_room (Nat.le_of_ble_eq_true rfl)) dX2_catchesHold_114 ⟨Nat.le_of_ble_eq_true rfl, Nat.le_of_ble_eq_true rfl⟩) hS (fun q _ h => hFc q h) hFc (fun r_55 u9 t9 H1 locs ht9 hvm9 hw9 hB9 hz9 hk9 hS => ?_)
                have hP : va_P (gD g) cl0 ws H1 := by rw [← ht9]; exact hB9.1
                clear hB9 hz9 hk9 hvm9 ht9 hw9
                generalize H1 = H at hP hS ⊢
                refine lv_iload_n hx hb dX2_catchesHold_117 rfl (lv_at hl 1 rfl) ?_
                refine lv_iload hx hb dX2_catchesHold_118 (lv_at hl 2 rfl) ?_
                refine lv_isub hx hb dX2_catchesHold_120 ?_
                refine lv_topi (fun z_56 ez_56 => ?_)
                refine lv_bipush (v := 6) hx hb dX2_catchesHold_121 (by decide) ?_
                refine lv_isub hx hb dX2_catchesHold_123 ?_
                refine lv_topi (fun z_57 ez_57 => ?_)
                obtain ⟨z_58, ez_58⟩ : ∃ y : Int64, (z_57 : Int32).toInt64 = y := ⟨_, rfl⟩
                refine lv_i2l (v := z_58) hx hb dX2_catchesHold_124 ez_58 ?_
                refine W.lcmp hx hb dX2_catchesHold_125 ?_
                refine lv_topi (fun z_59 ez_59 => ?_)
                refine lv_if_le (tgt := 140) hx hb dX2_catchesHold_126 (by decide) (fun c_60 => ?_) (fun c_60 => ?_)
                · refine lv_iload hx hb dX2_catchesHold_140 (lv_at hl 2 rfl) ?_
                  refine lv_bipush (v := 6) hx hb dX2_catchesHold_142 (by decide) ?_
                  refine lv_aload_n hx hb dX2_catchesHold_144 rfl (lv_at hl 0 rfl) ?_
                  refine va_get (D := gD g) (ci := 2) (v := .ref r0_3) (C := RX2) (T := TX2) (N := 12) hx hb hts inX2 hown hK hP k_3 hk_3 rfl 0 (by decide) (hts _ kw_632) (fun _ h9 => h9) rfl dX2_catchesHold_145 ?_
                  refine lv_iload hx hb dX2_catchesHold_148 (lv_at hl 2 rfl) ?_
                  refine lv_iconst (v := 2) hx hb dX2_catchesHold_150 (by decide) ?_
                  refine lv_iadd hx hb dX2_catchesHold_151 ?_
                  refine lv_topi (fun z_61 ez_61 => ?_)
                  have hFc := gfree hD hS hA
                  obtain ⟨k_62, fs_62, hk_62⟩ := gC_of o_r0_3
                  refine va_calli (va_runV (As := [.int z_61]) (rest := [.int 6, .int v4_15]) ⟨hx, hb, hml, hown, hts⟩ (m_X7_s4 l g H.size ws r0_3 (z_61) hG o_r0_3) (cwV 1 hts (gd_V kw_634 kw_1429 kw_1430 kw_710 kw_1428) rfl rfl rfl (by decide +kernel) ⟨Nat.le_of_ble_eq_true rfl, Nat.le_of_ble_eq_true rfl⟩) ⟨gblind, va_recv hK hP (ci := 6) (q0 := k_62) rfl hk_62, fun U hU hW9 => gmk hU hW9 hP hK hD hex hE hS hFc⟩ rfl rfl hl.1 rfl (lv_room (Nat.le_of_ble_eq_true rfl)) dX2_catchesHold_152 ⟨Nat.le_of_ble_eq_true rfl, Nat.le_of_ble_eq_true rfl⟩) hS (fun q _ h => hFc q h) hFc (fun r_63 u9 t9 H1 locs ht9 hvm9 hw9 hB9 hz9 hk9 hS => ?_)
                  have hP : va_P (gD g) cl0 ws H1 := by rw [← ht9]; exact hB9.1
                  clear hB9 hz9 hk9 hvm9 ht9 hw9
                  generalize H1 = H at hP hS ⊢
                  refine lv_iadd hx hb dX2_catchesHold_155 ?_
                  refine lv_topi (fun z_64 ez_64 => ?_)
                  refine lv_iadd hx hb dX2_catchesHold_156 ?_
                  refine lv_topi (fun z_65 ez_65 => ?_)
                  refine lv_istore (lv' := [(4, .int z_65), (0, .ref h0), (2, .int x2), (5, .int r_13), (6, .int v6_16)]) hx hb dX2_catchesHold_157 hl (by decide) rfl (fun ls hl => ?_)
                  obtain ⟨z_66, ez_66⟩ : ∃ z : Int32, v6_16 + Int32.ofInt 1 = z := ⟨_, rfl⟩
                  refine lv_iinc (v := z_66) (lv' := [(6, .int z_66), (4, .int z_65), (0, .ref h0), (2, .int x2), (5, .int r_13)]) hx hb dX2_catchesHold_159 hl (k := 4) rfl ez_66 (by decide) rfl (fun ls hl => ?_)
                  refine lv_goto (tgt := 90) hx hb dX2_catchesHold_162 (by decide) ?_
                  exact ih_90 _ (by have e2 : (2 : Int32).toInt = 2 := (by decide); have e6 : (6 : Int32).toInt = 6 := (by decide); obtain ⟨u_z_65, q_z_65⟩ := i_add ez_65; obtain ⟨u_z_66, q_z_66⟩ := i_iz ez_66 (by decide) (by decide); have q_iv_17 := iv_17; have q_c_20 := i_nle c_20; obtain ⟨u_z_41, q_z_41⟩ := i_add ez_41; obtain ⟨u_z_53, q_z_53⟩ := i_add ez_53; obtain ⟨u_z_56, q_z_56⟩ := i_sub ez_56; obtain ⟨u_z_61, q_z_61⟩ := i_add ez_61; obtain ⟨u_z_64, q_z_64⟩ := i_add ez_64; have g_r_13 := i_rg r_13; have g_r_63 := i_rg r_63; have g_v4_15 := i_rg v4_15; have g_v6_16 := i_rg v6_16; have g_x2 := i_rg x2; have g_z_41 := i_rg z_41; have g_z_53 := i_rg z_53; have g_z_56 := i_rg z_56; have g_z_61 := i_rg z_61; have g_z_64 := i_rg z_64; have g_z_65 := i_rg z_65; have g_z_66 := i_rg z_66; omega) (z_65) (z_66) H locs ls rfl (by obtain ⟨u_z_66, q_z_66⟩ := i_iz ez_66 (by decide) (by decide); have q_iv_17 := iv_17; have q_c_20 := i_nle c_20; have g_r_13 := i_rg r_13; have g_v6_16 := i_rg v6_16; have g_z_66 := i_rg z_66; omega) hP hD hS (lv_sub hl [2, 3, 1, 4, 0] rfl)
                · exact J_129  H locs ls  hP hD hS (lv_sub hl [0, 1] rfl)
        exact J_90 _ (z_14) (0) H locs ls rfl (by have e0 : (0 : Int32).toInt = 0 := (by decide); omega) hP hD hS (lv_sub hl [4, 6, 1, 2, 0] rfl)
      · refine lv_aload_n hx hb dX2_catchesHold_62 rfl (lv_at hl 2 rfl) ?_
        refine va_get (D := gD g) (ci := 2) (v := .ref r0_3) (C := RX2) (T := TX2) (N := 12) hx hb hts inX2 hown hK hP k_3 hk_3 rfl 0 (by decide) (hts _ kw_632) (fun _ h9 => h9) rfl dX2_catchesHold_63 ?_
        refine lv_bipush (v := 14) hx hb dX2_catchesHold_66 (by decide) ?_
        refine lv_iload_n hx hb dX2_catchesHold_68 rfl (lv_at hl 4 rfl) ?_
        have hFc := gfree hD hS hA
        obtain ⟨k_67, fs_67, hk_67⟩ := gC_of o_r0_3
        refine va_calli (va_runV (As := [.int 14, .int x2]) (rest := []) ⟨hx, hb, hml, hown, hts⟩ (m_X7_breaks l g H.size ws r0_3 (14) (x2) hG o_r0_3) (cwV 2 hts (gd_V kw_677 kw_1278 kw_1279 kw_710 kw_1277) rfl rfl rfl (by decide +kernel) ⟨Nat.le_of_ble_eq_true rfl, Nat.le_of_ble_eq_true rfl⟩) ⟨gblind, va_recv hK hP (ci := 6) (q0 := k_67) rfl hk_67, fun U hU hW9 => gmk hU hW9 hP hK hD hex hE hS hFc⟩ rfl rfl hl.1 rfl (lv_room (Nat.le_of_ble_eq_true rfl)) dX2_catchesHold_69 ⟨Nat.le_of_ble_eq_true rfl, Nat.le_of_ble_eq_true rfl⟩) hS (fun q _ h => hFc q h) hFc (fun r_68 ws_69 t9 H1 locs ht9 hvm9 hw9 hB9 hz9 hk9 hS => ?_)
        obtain ⟨E_70, Fr_71, hG, hP1, hD1⟩ := hB9
        have hP : va_P (gD g) cl0 ws_69 H1 := by rw [← ht9]; exact hP1
        have hD : va_D A ws_69 := hD1.weaken (fun _ _ _ h => hFc _ h)
        have hz_r_68 : r_68 = 0 ∨ r_68 = 1 := hw9
        clear hP1 hD1 hz9 hk9 hvm9 ht9 hw9
        generalize H1 = H at hP hS ⊢
        have aa_74 := a_r7_3
        have o_h0 := E_70.1 _ _ o_h0
        refine W.widen (k := 0) (n := 0) (Nat.le_of_ble_eq_true rfl) (Nat.le_of_ble_eq_true rfl) ?_
        exact W.zret (v := r_68) hx hb hr (nz hz_r_68) (fun t9 ht9 hW9 => ⟨⟨_, ws_69, rfl, hz_r_68, ⟨E_70, Fr_71, hG, by rw [ht9]; exact hP, hD⟩⟩, hS.F ht9⟩) hS.2.2 dX2_catchesHold_72
    · refine lv_aload_n hx hb dX2_catchesHold_33 rfl (lv_at hl 1 rfl) ?_
      refine va_get (D := gD g) (ci := 2) (v := .ref r0_3) (C := RX2) (T := TX2) (N := 12) hx hb hts inX2 hown hK hP k_3 hk_3 rfl 0 (by decide) (hts _ kw_632) (fun _ h9 => h9) rfl dX2_catchesHold_34 ?_
      refine lv_bipush (v := 13) hx hb dX2_catchesHold_37 (by decide) ?_
      refine lv_iload_n hx hb dX2_catchesHold_39 rfl (lv_at hl 2 rfl) ?_
      have hFc := gfree hD hS hA
      obtain ⟨k_75, fs_75, hk_75⟩ := gC_of o_r0_3
      refine va_calli (va_runV (As := [.int 13, .int x1]) (rest := []) ⟨hx, hb, hml, hown, hts⟩ (m_X7_breaks l g H.size ws r0_3 (13) (x1) hG o_r0_3) (cwV 2 hts (gd_V kw_677 kw_1278 kw_1279 kw_710 kw_1277) rfl rfl rfl (by decide +kernel) ⟨Nat.le_of_ble_eq_true rfl, Nat.le_of_ble_eq_true rfl⟩) ⟨gblind, va_recv hK hP (ci := 6) (q0 := k_75) rfl hk_75, fun U hU hW9 => gmk hU hW9 hP hK hD hex hE hS hFc⟩ rfl rfl hl.1 rfl (lv_room (Nat.le_of_ble_eq_true rfl)) dX2_catchesHold_40 ⟨Nat.le_of_ble_eq_true rfl, Nat.le_of_ble_eq_true rfl⟩) hS (fun q _ h => hFc q h) hFc (fun r_76 ws_77 t9 H1 locs ht9 hvm9 hw9 hB9 hz9 hk9 hS => ?_)
      obtain ⟨E_78, Fr_79, hG, hP1, hD1⟩ := hB9
      have hP : va_P (gD g) cl0 ws_77 H1 := by rw [← ht9]; exact hP1
      have hD : va_D A ws_77 := hD1.weaken (fun _ _ _ h => hFc _ h)
      have hz_r_76 : r_76 = 0 ∨ r_76 = 1 := hw9
      clear hP1 hD1 hz9 hk9 hvm9 ht9 hw9
      generalize H1 = H at hP hS ⊢
      have aa_82 := a_r7_3
      have o_h0 := E_78.1 _ _ o_h0
      refine W.widen (k := 0) (n := 0) (Nat.le_of_ble_eq_true rfl) (Nat.le_of_ble_eq_true rfl) ?_
      exact W.zret (v := r_76) hx hb hr (nz hz_r_76) (fun t9 ht9 hW9 => ⟨⟨_, ws_77, rfl, hz_r_76, ⟨E_78, Fr_79, hG, by rw [ht9]; exact hP, hD⟩⟩, hS.F ht9⟩) hS.2.2 dX2_catchesHold_43
  · refine lv_aload_n hx hb dX2_catchesHold_7 rfl (lv_at hl 0 rfl) ?_
    obtain ⟨k_83, fs9, hk_83⟩ := gC_of o_h0
    obtain ⟨r0_83, c1_83, c2_83, c3_83, c4_83, c5_83, c6_83, r7_83, n7_83, c8_83, c9_83, l10_83, c11_83, rfl, o_r0_83, a_r7_83, f2_83, f3_83, f4_83, -⟩ := (hG.1 _ _ _ _ hk_83).hX2 rfl
    refine va_get (D := gD g) (ci := 2) (v := .ref r0_83) (C := RX2) (T := TX2) (N := 12) hx hb hts inX2 hown hK hP k_83 hk_83 rfl 0 (by decide) (hts _ kw_632) (fun _ h9 => h9) rfl dX2_catchesHold_8 ?_
    refine lv_bipush (v := 14) hx hb dX2_catchesHold_11 (by decide) ?_
    refine lv_iload_n hx hb dX2_catchesHold_13 rfl (lv_at hl 2 rfl) ?_
    have hFc := gfree hD hS hA
    obtain ⟨k_84, fs_84, hk_84⟩ := gC_of o_r0_83
    refine va_calli (va_runV (As := [.int 14, .int x2]) (rest := []) ⟨hx, hb, hml, hown, hts⟩ (m_X7_breaks l g s.heap.size ws r0_83 (14) (x2) hG o_r0_83) (cwV 2 hts (gd_V kw_677 kw_1278 kw_1279 kw_710 kw_1277) rfl rfl rfl (by decide +kernel) ⟨Nat.le_of_ble_eq_true rfl, Nat.le_of_ble_eq_true rfl⟩) ⟨gblind, va_recv hK hP (ci := 6) (q0 := k_84) rfl hk_84, fun U hU hW9 => gmk hU hW9 hP hK hD hex hE hS hFc⟩ rfl rfl hl.1 rfl (lv_room (Nat.le_of_ble_eq_true rfl)) dX2_catchesHold_14 ⟨Nat.le_of_ble_eq_true rfl, Nat.le_of_ble_eq_true rfl⟩) hS (fun q _ h => hFc q h) hFc (fun r_85 ws_86 t9 H1 locs ht9 hvm9 hw9 hB9 hz9 hk9 hS => ?_)
    obtain ⟨E_87, Fr_88, hG, hP1, hD1⟩ := hB9
    have hP : va_P (gD g) cl0 ws_86 H1 := by rw [← ht9]; exact hP1
    have hD : va_D A ws_86 := hD1.weaken (fun _ _ _ h => hFc _ h)
    have hz_r_85 : r_85 = 0 ∨ r_85 = 1 := hw9
    clear hP1 hD1 hz9 hk9 hvm9 ht9 hw9
    generalize H1 = H at hP hS ⊢
    have aa_91 := a_r7_83
    have o_h0 := E_87.1 _ _ o_h0
    refine W.widen (k := 0) (n := 0) (Nat.le_of_ble_eq_true rfl) (Nat.le_of_ble_eq_true rfl) ?_
    exact W.zret (v := r_85) hx hb hr (nz hz_r_85) (fun t9 ht9 hW9 => ⟨⟨_, ws_86, rfl, hz_r_85, ⟨E_87, Fr_88, hG, by rw [ht9]; exact hP, hD⟩⟩, hS.F ht9⟩) hS.2.2 dX2_catchesHold_17
set_option maxHeartbeats 1000000 in
set_option maxRecDepth 100000 in
theorem m_X2_lookAt (l : Launch) (g : Gm) (sz : Nat) (ws : va_W) (h0 : Nat) (x1 : Int32) (hG : Good g ws) (o_h0 : gC ws h0 2) : Met l yX2_lookAt (wt yX2_lookAt cX2_lookAt 3 none) ({ frames := 1, cells := 0, slots := 0, locals := 21 }) (va_Pc [.ref h0, .int x1] (st_G g sz ws)) (va_Qv (fun (u9 : va_W) => True) (gQ1 g [(2, 1), (2, 2), (2, 3), (2, 4), (2, 5), (2, 6)] [] none (va_A ws sz) ws) (va_A ws sz)) (0) (0) (va_A ws sz) := by
  refine Met.ofW (cc := cX2_lookAt) (maxL := 3) (ret := none) (by decide) rfl ?_
  intro p e s m args below meth c s₁ B hml hv
  obtain ⟨rfl, hsz, hP, hK, hD0, hex, hE⟩ := hv
  have hx := B.exec
  have hb := B.bytes
  have hr := B.returns
  have hts0 := atoms_spec (ws := wt yX2_lookAt cX2_lookAt 3 none) B.pre
  have hts : ∀ w ∈ tb, w.before _ s = true := fun w h => hts0 w (List.mem_cons_of_mem _ h)
  have hown : s.vm.findClass RX2 = some m.cls := findClass_of_methodNamed B.named
  subst hsz
  have hD := hD0.self (sz := s.heap.size)
  generalize hAe : va_A ws s.heap.size = A at hD hE ⊢
  have hA : ∀ q : Nat, s.heap.size ≤ q → A q := fun q h => by rw [← hAe]; exact Or.inr h
  have hS : va_S A s.heap s.heap [] := va_S.rf
  have hl := lv_entry ([.ref h0, .int x1]) (n := 3) (Nat.le_of_ble_eq_true rfl)
  rw [lg_entry_eq]
  generalize (lg_sl ([.ref h0, .int x1]) ++ List.replicate (3 - (lg_sl ([.ref h0, .int x1])).length) Slot.unset).toArray = ls at hl ⊢
  have hl : lv_has ls 3 [(0, .ref h0), (1, .int x1)] := hl
  refine lv_iload_n hx hb dX2_lookAt_0 rfl (lv_at hl 1 rfl) ?_
  have J_23 : ∀ (t_1 : Int32) (H : Heap) (locs : List Loc) (ls : Array Slot), va_P (gD g) cl0 ws H → va_D A ws → va_S A s.heap H locs → lv_has ls 3 [(0, .ref h0)] → W p l e (headSpec (wt yX2_lookAt cX2_lookAt 3 none) ({ frames := 1, cells := 0, slots := 0, locals := 21 })).room s m ([.ref h0, .int x1] : List Value).toArray below meth c H locs (0) (0) (MQ below (va_Qv (fun (u9 : va_W) => True) (gQ1 g [(2, 1), (2, 2), (2, 3), (2, 4), (2, 5), (2, 6)] [] none A ws) A) ([.ref h0, .int x1] : List Value).toArray s (0) (0) A) (F0 m 23 ls [.int t_1]) := by
    intro t_1 H locs ls  hP hD hS hl
    refine lv_istore_n (lv' := [(2, .int t_1), (0, .ref h0)]) hx hb dX2_lookAt_23 rfl hl (by decide) rfl (fun ls hl => ?_)
    refine lv_aload_n hx hb dX2_lookAt_24 rfl (lv_at hl 1 rfl) ?_
    refine lv_aload_n hx hb dX2_lookAt_25 rfl (lv_at hl 1 rfl) ?_
    obtain ⟨k_4, fs9, hk_4⟩ := gC_of o_h0
    obtain ⟨r0_4, c1_4, c2_4, c3_4, c4_4, c5_4, c6_4, r7_4, n7_4, c8_4, c9_4, l10_4, c11_4, rfl, o_r0_4, a_r7_4, f2_4, f3_4, f4_4, -⟩ := (hG.1 _ _ _ _ hk_4).hX2 rfl
    refine va_get (D := gD g) (ci := 2) (v := .ref r0_4) (C := RX2) (T := TX2) (N := 12) hx hb hts inX2 hown hK hP k_4 hk_4 rfl 0 (by decide) (hts _ kw_632) (fun _ h9 => h9) rfl dX2_lookAt_26 ?_
    refine lv_iload_n hx hb dX2_lookAt_29 rfl (lv_at hl 0 rfl) ?_
    have hFc := gfree hD hS hA
    obtain ⟨k_5, fs_5, hk_5⟩ := gC_of o_r0_4
    refine va_calli (va_runV (As := [.int t_1]) (rest := [.ref h0]) ⟨hx, hb, hml, hown, hts⟩ (m_X7_u2 l g H.size ws r0_4 (t_1) hG o_r0_4) (cwV 1 hts (gd_V kw_651 kw_1450 kw_1451 kw_710 kw_1449) rfl rfl rfl (by decide +kernel) ⟨Nat.le_of_ble_eq_true rfl, Nat.le_of_ble_eq_true rfl⟩) ⟨gblind, va_recv hK hP (ci := 6) (q0 := k_5) rfl hk_5, fun U hU hW9 => gmk hU hW9 hP hK hD hex hE hS hFc⟩ rfl rfl hl.1 rfl (lv_room (Nat.le_of_ble_eq_true rfl)) dX2_lookAt_30 ⟨Nat.le_of_ble_eq_true rfl, Nat.le_of_ble_eq_true rfl⟩) hS (fun q _ h => hFc q h) hFc (fun r_6 u9 t9 H1 locs ht9 hvm9 hw9 hB9 hz9 hk9 hS => ?_)
    have hP : va_P (gD g) cl0 ws H1 := by rw [← ht9]; exact hB9.1
    have h_r_6 := hw9
    clear hB9 hz9 hk9 hvm9 ht9 hw9
    generalize H1 = H at hP hS ⊢
    have hV9 : okv ws 2 3 (.int r_6) := okv_i
    refine va_put (D := gD g) (ci := 2) (v := .int r_6) (ty := .int) (C := RX2) (T := TX2) (N := 12) hx hb hts inX2 tyX2 tyX2_ok nmX2 hown hK hP hD hS k_4 hk_4 rfl 3 (by decide) (hts _ kw_741) (fun _ h9 => h9) rfl (by decide +kernel) rfl rfl (Nat.le_of_ble_eq_true rfl) dX2_lookAt_33 (fun H locs hP hD hS => ?_)
    have hi_7 : invX2 g ws h0 [.ref r0_4, .int c1_4, .int c2_4, .int r_6, .int c4_4, .int c5_4, .int c6_4, .ref r7_4, .int c8_4, .int c9_4, .long l10_4, .int c11_4] := ⟨r0_4, (c1_4), (c2_4), (r_6), (c4_4), (c5_4), (c6_4), r7_4, (n7_4), (c8_4), (c9_4), (l10_4), (c11_4), rfl, o_r0_4, a_r7_4, f2_4, f3_4, f4_4, trivial⟩
    obtain ⟨ws_8, e_ws_8⟩ : ∃ z, z = ws.set k_4 (h0, .inr (2, [.ref r0_4, .int c1_4, .int c2_4, .int r_6, .int c4_4, .int c5_4, .int c6_4, .ref r7_4, .int c8_4, .int c9_4, .long l10_4, .int c11_4])) := ⟨_, rfl⟩
    have hP : va_P (gD g) cl0 ws_8 H := by rw [e_ws_8]; exact hP
    have hD : va_D A ws_8 := by rw [e_ws_8]; exact hD
    have E_9 : gE ws ws_8 := gE_set e_ws_8 hk_4 (cw_o (fi := 3) (v := .int r_6) rfl (by decide))
    have hG : Good g ws_8 := Good_set (fi := 3) (v := .int r_6) e_ws_8 hk_4 E_9 rfl hV9 hG (ivX2 hi_7)
    have Fr_10 : gF [(2, 3)] [] (some h0) ws ws_8 := gF_put (fi := 3) (v := .int r_6) e_ws_8 hk_4 rfl (by decide)
    have hkN := gset_self e_ws_8 hk_4
    have hk_4 := hkN
    have o_h0 := E_9.1 _ _ o_h0
    have o_r0_4 := E_9.1 _ _ o_r0_4
    have a_r7_4 := E_9.1 _ _ a_r7_4
    refine lv_aload_n hx hb dX2_lookAt_36 rfl (lv_at hl 1 rfl) ?_
    refine lv_aload_n hx hb dX2_lookAt_37 rfl (lv_at hl 1 rfl) ?_
    refine va_get (D := gD g) (ci := 2) (v := .ref r0_4) (C := RX2) (T := TX2) (N := 12) hx hb hts inX2 hown hK hP k_4 hk_4 rfl 0 (by decide) (hts _ kw_632) (fun _ h9 => h9) rfl dX2_lookAt_38 ?_
    refine lv_iload_n hx hb dX2_lookAt_41 rfl (lv_at hl 0 rfl) ?_
    refine lv_iconst (v := 2) hx hb dX2_lookAt_42 (by decide) ?_
    refine lv_iadd hx hb dX2_lookAt_43 ?_
    refine lv_topi (fun z_11 ez_11 => ?_)
    have hFc := gfree hD hS hA
    obtain ⟨k_12, fs_12, hk_12⟩ := gC_of o_r0_4
    refine va_calli (va_runV (As := [.int z_11]) (rest := [.ref h0]) ⟨hx, hb, hml, hown, hts⟩ (m_X7_u2 l g H.size ws_8 r0_4 (z_11) hG o_r0_4) (cwV 1 hts (gd_V kw_651 kw_1450 kw_1451 kw_710 kw_1449) rfl rfl rfl (by decide +kernel) ⟨Nat.le_of_ble_eq_true rfl, Nat.le_of_ble_eq_true rfl⟩) ⟨gblind, va_recv hK hP (ci := 6) (q0 := k_12) rfl hk_12, fun U hU hW9 => gmk hU hW9 hP hK hD hex hE hS hFc⟩ rfl rfl hl.1 rfl (lv_room (Nat.le_of_ble_eq_true rfl)) dX2_lookAt_44 ⟨Nat.le_of_ble_eq_true rfl, Nat.le_of_ble_eq_true rfl⟩) hS (fun q _ h => hFc q h) hFc (fun r_13 u9 t9 H1 locs ht9 hvm9 hw9 hB9 hz9 hk9 hS => ?_)
    have hP : va_P (gD g) cl0 ws_8 H1 := by rw [← ht9]; exact hB9.1
    have h_r_13 := hw9
    clear hB9 hz9 hk9 hvm9 ht9 hw9
    generalize H1 = H at hP hS ⊢
    have hV9 : okv ws_8 2 4 (.int r_13) := okv_i
    refine va_put (D := gD g) (ci := 2) (v := .int r_13) (ty := .int) (C := RX2) (T := TX2) (N := 12) hx hb hts inX2 tyX2 tyX2_ok nmX2 hown hK hP hD hS k_4 hk_4 rfl 4 (by decide) (hts _ kw_742) (fun _ h9 => h9) rfl (by decide +kernel) rfl rfl (Nat.le_of_ble_eq_true rfl) dX2_lookAt_47 (fun H locs hP hD hS => ?_)
    have hi_14 : invX2 g ws_8 h0 [.ref r0_4, .int c1_4, .int c2_4, .int r_6, .int r_13, .int c5_4, .int c6_4, .ref r7_4, .int c8_4, .int c9_4, .long l10_4, .int c11_4] := ⟨r0_4, (c1_4), (c2_4), (r_6), (r_13), (c5_4), (c6_4), r7_4, (n7_4), (c8_4), (c9_4), (l10_4), (c11_4), rfl, o_r0_4, a_r7_4, f2_4, f3_4, f4_4, trivial⟩
    obtain ⟨ws_15, e_ws_15⟩ : ∃ z, z = ws_8.set k_4 (h0, .inr (2, [.ref r0_4, .int c1_4, .int c2_4, .int r_6, .int r_13, .int c5_4, .int c6_4, .ref r7_4, .int c8_4, .int c9_4, .long l10_4, .int c11_4])) := ⟨_, rfl⟩
    have hP : va_P (gD g) cl0 ws_15 H := by rw [e_ws_15]; exact hP
    have hD : va_D A ws_15 := by rw [e_ws_15]; exact hD
    have E_16 : gE ws_8 ws_15 := gE_set e_ws_15 hk_4 (cw_o (fi := 4) (v := .int r_13) rfl (by decide))
    have hG : Good g ws_15 := Good_set (fi := 4) (v := .int r_13) e_ws_15 hk_4 E_16 rfl hV9 hG (ivX2 hi_14)
    have Fr_17 : gF [(2, 4)] [] (some h0) ws_8 ws_15 := gF_put (fi := 4) (v := .int r_13) e_ws_15 hk_4 rfl (by decide)
    have hkN := gset_self e_ws_15 hk_4
    have hk_4 := hkN
    have o_h0 := E_16.1 _ _ o_h0
    have o_r0_4 := E_16.1 _ _ o_r0_4
    have a_r7_4 := E_16.1 _ _ a_r7_4
    refine lv_aload_n hx hb dX2_lookAt_50 rfl (lv_at hl 1 rfl) ?_
    refine lv_aload_n hx hb dX2_lookAt_51 rfl (lv_at hl 1 rfl) ?_
    refine va_get (D := gD g) (ci := 2) (v := .ref r0_4) (C := RX2) (T := TX2) (N := 12) hx hb hts inX2 hown hK hP k_4 hk_4 rfl 0 (by decide) (hts _ kw_632) (fun _ h9 => h9) rfl dX2_lookAt_52 ?_
    refine lv_iload_n hx hb dX2_lookAt_55 rfl (lv_at hl 0 rfl) ?_
    refine lv_iconst (v := 4) hx hb dX2_lookAt_56 (by decide) ?_
    refine lv_iadd hx hb dX2_lookAt_57 ?_
    refine lv_topi (fun z_18 ez_18 => ?_)
    have hFc := gfree hD hS hA
    obtain ⟨k_19, fs_19, hk_19⟩ := gC_of o_r0_4
    refine va_calli (va_runV (As := [.int z_18]) (rest := [.ref h0]) ⟨hx, hb, hml, hown, hts⟩ (m_X7_s4 l g H.size ws_15 r0_4 (z_18) hG o_r0_4) (cwV 1 hts (gd_V kw_634 kw_1429 kw_1430 kw_710 kw_1428) rfl rfl rfl (by decide +kernel) ⟨Nat.le_of_ble_eq_true rfl, Nat.le_of_ble_eq_true rfl⟩) ⟨gblind, va_recv hK hP (ci := 6) (q0 := k_19) rfl hk_19, fun U hU hW9 => gmk hU hW9 hP hK hD hex hE hS hFc⟩ rfl rfl hl.1 rfl (lv_room (Nat.le_of_ble_eq_true rfl)) dX2_lookAt_58 ⟨Nat.le_of_ble_eq_true rfl, Nat.le_of_ble_eq_true rfl⟩) hS (fun q _ h => hFc q h) hFc (fun r_20 u9 t9 H1 locs ht9 hvm9 hw9 hB9 hz9 hk9 hS => ?_)
    have hP : va_P (gD g) cl0 ws_15 H1 := by rw [← ht9]; exact hB9.1
    clear hB9 hz9 hk9 hvm9 ht9 hw9
    generalize H1 = H at hP hS ⊢
    refine lv_sipush (v := 1200) hx hb dX2_lookAt_61 (by decide) ?_
    refine va_mmin hx hb (by rw [hml]; exact hl.1.symm) hown (hts _ kw_743) (hts _ kw_1750) (hts _ kw_1748) (hts _ kw_1749) (Nat.le_of_ble_eq_true rfl) (Nat.le_of_ble_eq_true rfl) (Nat.le_of_ble_eq_true rfl) (Nat.le_of_ble_eq_true rfl) dX2_lookAt_64 ?_
    refine lv_topi (fun z_21 ez_21 => ?_)
    have hV9 : okv ws_15 2 2 (.int z_21) := okv_i
    refine va_put (D := gD g) (ci := 2) (v := .int z_21) (ty := .int) (C := RX2) (T := TX2) (N := 12) hx hb hts inX2 tyX2 tyX2_ok nmX2 hown hK hP hD hS k_4 hk_4 rfl 2 (by decide) (hts _ kw_716) (fun _ h9 => h9) rfl (by decide +kernel) rfl rfl (Nat.le_of_ble_eq_true rfl) dX2_lookAt_67 (fun H locs hP hD hS => ?_)
    have f_22 : z_21.toInt ≤ 1200 := (by have e1200 : (1200 : Int32).toInt = 1200 := (by decide); have q_z_21 := i_min ez_21; have g_r_20 := i_rg r_20; have g_z_21 := i_rg z_21; omega)
    have hi_23 : invX2 g ws_15 h0 [.ref r0_4, .int c1_4, .int z_21, .int r_6, .int r_13, .int c5_4, .int c6_4, .ref r7_4, .int c8_4, .int c9_4, .long l10_4, .int c11_4] := ⟨r0_4, (c1_4), (z_21), (r_6), (r_13), (c5_4), (c6_4), r7_4, (n7_4), (c8_4), (c9_4), (l10_4), (c11_4), rfl, o_r0_4, a_r7_4, f2_4, f3_4, f_22, trivial⟩
    obtain ⟨ws_24, e_ws_24⟩ : ∃ z, z = ws_15.set k_4 (h0, .inr (2, [.ref r0_4, .int c1_4, .int z_21, .int r_6, .int r_13, .int c5_4, .int c6_4, .ref r7_4, .int c8_4, .int c9_4, .long l10_4, .int c11_4])) := ⟨_, rfl⟩
    have hP : va_P (gD g) cl0 ws_24 H := by rw [e_ws_24]; exact hP
    have hD : va_D A ws_24 := by rw [e_ws_24]; exact hD
    have E_25 : gE ws_15 ws_24 := gE_set e_ws_24 hk_4 (cw_o (fi := 2) (v := .int z_21) rfl (by decide))
    have hG : Good g ws_24 := Good_set (fi := 2) (v := .int z_21) e_ws_24 hk_4 E_25 rfl hV9 hG (ivX2 hi_23)
    have Fr_26 : gF [(2, 2)] [] (some h0) ws_15 ws_24 := gF_put (fi := 2) (v := .int z_21) e_ws_24 hk_4 rfl (by decide)
    have hkN := gset_self e_ws_24 hk_4
    have hk_4 := hkN
    have o_h0 := E_25.1 _ _ o_h0
    have o_r0_4 := E_25.1 _ _ o_r0_4
    have a_r7_4 := E_25.1 _ _ a_r7_4
    refine lv_aload_n hx hb dX2_lookAt_70 rfl (lv_at hl 1 rfl) ?_
    refine lv_iload_n hx hb dX2_lookAt_71 rfl (lv_at hl 0 rfl) ?_
    refine lv_bipush (v := 8) hx hb dX2_lookAt_72 (by decide) ?_
    refine lv_iadd hx hb dX2_lookAt_74 ?_
    refine lv_topi (fun z_27 ez_27 => ?_)
    have hV9 : okv ws_24 2 1 (.int z_27) := okv_i
    refine va_put (D := gD g) (ci := 2) (v := .int z_27) (ty := .int) (C := RX2) (T := TX2) (N := 12) hx hb hts inX2 tyX2 tyX2_ok nmX2 hown hK hP hD hS k_4 hk_4 rfl 1 (by decide) (hts _ kw_718) (fun _ h9 => h9) rfl (by decide +kernel) rfl rfl (Nat.le_of_ble_eq_true rfl) dX2_lookAt_75 (fun H locs hP hD hS => ?_)
    have hi_28 : invX2 g ws_24 h0 [.ref r0_4, .int z_27, .int z_21, .int r_6, .int r_13, .int c5_4, .int c6_4, .ref r7_4, .int c8_4, .int c9_4, .long l10_4, .int c11_4] := ⟨r0_4, (z_27), (z_21), (r_6), (r_13), (c5_4), (c6_4), r7_4, (n7_4), (c8_4), (c9_4), (l10_4), (c11_4), rfl, o_r0_4, a_r7_4, f2_4, f3_4, f_22, trivial⟩
    obtain ⟨ws_29, e_ws_29⟩ : ∃ z, z = ws_24.set k_4 (h0, .inr (2, [.ref r0_4, .int z_27, .int z_21, .int r_6, .int r_13, .int c5_4, .int c6_4, .ref r7_4, .int c8_4, .int c9_4, .long l10_4, .int c11_4])) := ⟨_, rfl⟩
    have hP : va_P (gD g) cl0 ws_29 H := by rw [e_ws_29]; exact hP
    have hD : va_D A ws_29 := by rw [e_ws_29]; exact hD
    have E_30 : gE ws_24 ws_29 := gE_set e_ws_29 hk_4 (cw_o (fi := 1) (v := .int z_27) rfl (by decide))
    have hG : Good g ws_29 := Good_set (fi := 1) (v := .int z_27) e_ws_29 hk_4 E_30 rfl hV9 hG (ivX2 hi_28)
    have Fr_31 : gF [(2, 1)] [] (some h0) ws_24 ws_29 := gF_put (fi := 1) (v := .int z_27) e_ws_29 hk_4 rfl (by decide)
    have hkN := gset_self e_ws_29 hk_4
    have hk_4 := hkN
    have o_h0 := E_30.1 _ _ o_h0
    have o_r0_4 := E_30.1 _ _ o_r0_4
    have a_r7_4 := E_30.1 _ _ a_r7_4
    refine lv_aload_n hx hb dX2_lookAt_78 rfl (lv_at hl 1 rfl) ?_
    refine lv_aload_n hx hb dX2_lookAt_79 rfl (lv_at hl 1 rfl) ?_
    refine va_get (D := gD g) (ci := 2) (v := .int z_27) (C := RX2) (T := TX2) (N := 12) hx hb hts inX2 hown hK hP k_4 hk_4 rfl 1 (by decide) (hts _ kw_718) (fun _ h9 => h9) rfl dX2_lookAt_80 ?_
    refine lv_aload_n hx hb dX2_lookAt_83 rfl (lv_at hl 1 rfl) ?_
    refine va_get (D := gD g) (ci := 2) (v := .int z_21) (C := RX2) (T := TX2) (N := 12) hx hb hts inX2 hown hK hP k_4 hk_4 rfl 2 (by decide) (hts _ kw_716) (fun _ h9 => h9) rfl dX2_lookAt_84 ?_
    refine lv_iadd hx hb dX2_lookAt_87 ?_
    refine lv_topi (fun z_32 ez_32 => ?_)
    refine lv_iconst (v := 2) hx hb dX2_lookAt_88 (by decide) ?_
    refine lv_iadd hx hb dX2_lookAt_89 ?_
    refine lv_topi (fun z_33 ez_33 => ?_)
    have hV9 : okv ws_29 2 5 (.int z_33) := okv_i
    refine va_put (D := gD g) (ci := 2) (v := .int z_33) (ty := .int) (C := RX2) (T := TX2) (N := 12) hx hb hts inX2 tyX2 tyX2_ok nmX2 hown hK hP hD hS k_4 hk_4 rfl 5 (by decide) (hts _ kw_744) (fun _ h9 => h9) rfl (by decide +kernel) rfl rfl (Nat.le_of_ble_eq_true rfl) dX2_lookAt_90 (fun H locs hP hD hS => ?_)
    have hi_34 : invX2 g ws_29 h0 [.ref r0_4, .int z_27, .int z_21, .int r_6, .int r_13, .int z_33, .int c6_4, .ref r7_4, .int c8_4, .int c9_4, .long l10_4, .int c11_4] := ⟨r0_4, (z_27), (z_21), (r_6), (r_13), (z_33), (c6_4), r7_4, (n7_4), (c8_4), (c9_4), (l10_4), (c11_4), rfl, o_r0_4, a_r7_4, f2_4, f3_4, f_22, trivial⟩
    obtain ⟨ws_35, e_ws_35⟩ : ∃ z, z = ws_29.set k_4 (h0, .inr (2, [.ref r0_4, .int z_27, .int z_21, .int r_6, .int r_13, .int z_33, .int c6_4, .ref r7_4, .int c8_4, .int c9_4, .long l10_4, .int c11_4])) := ⟨_, rfl⟩
    have hP : va_P (gD g) cl0 ws_35 H := by rw [e_ws_35]; exact hP
    have hD : va_D A ws_35 := by rw [e_ws_35]; exact hD
    have E_36 : gE ws_29 ws_35 := gE_set e_ws_35 hk_4 (cw_o (fi := 5) (v := .int z_33) rfl (by decide))
    have hG : Good g ws_35 := Good_set (fi := 5) (v := .int z_33) e_ws_35 hk_4 E_36 rfl hV9 hG (ivX2 hi_34)
    have Fr_37 : gF [(2, 5)] [] (some h0) ws_29 ws_35 := gF_put (fi := 5) (v := .int z_33) e_ws_35 hk_4 rfl (by decide)
    have hkN := gset_self e_ws_35 hk_4
    have hk_4 := hkN
    have o_h0 := E_36.1 _ _ o_h0
    have o_r0_4 := E_36.1 _ _ o_r0_4
    have a_r7_4 := E_36.1 _ _ a_r7_4
    refine lv_aload_n hx hb dX2_lookAt_93 rfl (lv_at hl 1 rfl) ?_
    refine lv_aload_n hx hb dX2_lookAt_94 rfl (lv_at hl 1 rfl) ?_
    refine va_get (D := gD g) (ci := 2) (v := .ref r0_4) (C := RX2) (T := TX2) (N := 12) hx hb hts inX2 hown hK hP k_4 hk_4 rfl 0 (by decide) (hts _ kw_632) (fun _ h9 => h9) rfl dX2_lookAt_95 ?_
    refine lv_aload_n hx hb dX2_lookAt_98 rfl (lv_at hl 1 rfl) ?_
    refine va_get (D := gD g) (ci := 2) (v := .int z_27) (C := RX2) (T := TX2) (N := 12) hx hb hts inX2 hown hK hP k_4 hk_4 rfl 1 (by decide) (hts _ kw_718) (fun _ h9 => h9) rfl dX2_lookAt_99 ?_
    refine lv_aload_n hx hb dX2_lookAt_102 rfl (lv_at hl 1 rfl) ?_
    refine va_get (D := gD g) (ci := 2) (v := .int z_21) (C := RX2) (T := TX2) (N := 12) hx hb hts inX2 hown hK hP k_4 hk_4 rfl 2 (by decide) (hts _ kw_716) (fun _ h9 => h9) rfl dX2_lookAt_103 ?_
    refine lv_iadd hx hb dX2_lookAt_106 ?_
    refine lv_topi (fun z_38 ez_38 => ?_)
    have hFc := gfree hD hS hA
    obtain ⟨k_39, fs_39, hk_39⟩ := gC_of o_r0_4
    refine va_calli (va_runV (As := [.int z_38]) (rest := [.ref h0]) ⟨hx, hb, hml, hown, hts⟩ (m_X7_u2 l g H.size ws_35 r0_4 (z_38) hG o_r0_4) (cwV 1 hts (gd_V kw_651 kw_1450 kw_1451 kw_710 kw_1449) rfl rfl rfl (by decide +kernel) ⟨Nat.le_of_ble_eq_true rfl, Nat.le_of_ble_eq_true rfl⟩) ⟨gblind, va_recv hK hP (ci := 6) (q0 := k_39) rfl hk_39, fun U hU hW9 => gmk hU hW9 hP hK hD hex hE hS hFc⟩ rfl rfl hl.1 rfl (lv_room (Nat.le_of_ble_eq_true rfl)) dX2_lookAt_107 ⟨Nat.le_of_ble_eq_true rfl, Nat.le_of_ble_eq_true rfl⟩) hS (fun q _ h => hFc q h) hFc (fun r_40 u9 t9 H1 locs ht9 hvm9 hw9 hB9 hz9 hk9 hS => ?_)
    have hP : va_P (gD g) cl0 ws_35 H1 := by rw [← ht9]; exact hB9.1
    have h_r_40 := hw9
    clear hB9 hz9 hk9 hvm9 ht9 hw9
    generalize H1 = H at hP hS ⊢
    have hV9 : okv ws_35 2 6 (.int r_40) := okv_i
    refine va_put (D := gD g) (ci := 2) (v := .int r_40) (ty := .int) (C := RX2) (T := TX2) (N := 12) hx hb hts inX2 tyX2 tyX2_ok nmX2 hown hK hP hD hS k_4 hk_4 rfl 6 (by decide) (hts _ kw_745) (fun _ h9 => h9) rfl (by decide +kernel) rfl rfl (Nat.le_of_ble_eq_true rfl) dX2_lookAt_110 (fun H locs hP hD hS => ?_)
    have hi_41 : invX2 g ws_35 h0 [.ref r0_4, .int z_27, .int z_21, .int r_6, .int r_13, .int z_33, .int r_40, .ref r7_4, .int c8_4, .int c9_4, .long l10_4, .int c11_4] := ⟨r0_4, (z_27), (z_21), (r_6), (r_13), (z_33), (r_40), r7_4, (n7_4), (c8_4), (c9_4), (l10_4), (c11_4), rfl, o_r0_4, a_r7_4, f2_4, f3_4, f_22, trivial⟩
    obtain ⟨ws_42, e_ws_42⟩ : ∃ z, z = ws_35.set k_4 (h0, .inr (2, [.ref r0_4, .int z_27, .int z_21, .int r_6, .int r_13, .int z_33, .int r_40, .ref r7_4, .int c8_4, .int c9_4, .long l10_4, .int c11_4])) := ⟨_, rfl⟩
    have hP : va_P (gD g) cl0 ws_42 H := by rw [e_ws_42]; exact hP
    have hD : va_D A ws_42 := by rw [e_ws_42]; exact hD
    have E_43 : gE ws_35 ws_42 := gE_set e_ws_42 hk_4 (cw_o (fi := 6) (v := .int r_40) rfl (by decide))
    have hG : Good g ws_42 := Good_set (fi := 6) (v := .int r_40) e_ws_42 hk_4 E_43 rfl hV9 hG (ivX2 hi_41)
    have Fr_44 : gF [(2, 6)] [] (some h0) ws_35 ws_42 := gF_put (fi := 6) (v := .int r_40) e_ws_42 hk_4 rfl (by decide)
    have hkN := gset_self e_ws_42 hk_4
    have hk_4 := hkN
    have o_h0 := E_43.1 _ _ o_h0
    have o_r0_4 := E_43.1 _ _ o_r0_4
    have a_r7_4 := E_43.1 _ _ a_r7_4
    refine W.widen (k := 0) (n := 0) (Nat.le_of_ble_eq_true rfl) (Nat.le_of_ble_eq_true rfl) ?_
    exact W.vret hx hb hr (fun t9 ht9 hW9 => ⟨⟨ws_42, rfl, trivial, ⟨(E_9.tr (E_16.tr (E_25.tr (E_30.tr (E_36.tr E_43))))), (gF.tr (gF.mo (F' := [(2, 1), (2, 2), (2, 3), (2, 4), (2, 5), (2, 6)]) (C' := []) (S' := none) Fr_10 (by decide) (fun _ h => h) (Or.inl rfl)) (gF.tr (gF.mo (F' := [(2, 1), (2, 2), (2, 3), (2, 4), (2, 5), (2, 6)]) (C' := []) (S' := none) Fr_17 (by decide) (fun _ h => h) (Or.inl rfl)) (gF.tr (gF.mo (F' := [(2, 1), (2, 2), (2, 3), (2, 4), (2, 5), (2, 6)]) (C' := []) (S' := none) Fr_26 (by decide) (fun _ h => h) (Or.inl rfl)) (gF.tr (gF.mo (F' := [(2, 1), (2, 2), (2, 3), (2, 4), (2, 5), (2, 6)]) (C' := []) (S' := none) Fr_31 (by decide) (fun _ h => h) (Or.inl rfl)) (gF.tr (gF.mo (F' := [(2, 1), (2, 2), (2, 3), (2, 4), (2, 5), (2, 6)]) (C' := []) (S' := none) Fr_37 (by decide) (fun _ h => h) (Or.inl rfl)) (gF.mo (F' := [(2, 1), (2, 2), (2, 3), (2, 4), (2, 5), (2, 6)]) (C' := []) (S' := none) Fr_44 (by decide) (fun _ h => h) (Or.inl rfl))))))), hG, by rw [ht9]; exact hP, hD⟩⟩, hS.F ht9⟩) hS.2.2 dX2_lookAt_113
  have J_10 : ∀  (H : Heap) (locs : List Loc) (ls : Array Slot), va_P (gD g) cl0 ws H → va_D A ws → va_S A s.heap H locs → lv_has ls 3 [(0, .ref h0)] → W p l e (headSpec (wt yX2_lookAt cX2_lookAt 3 none) ({ frames := 1, cells := 0, slots := 0, locals := 21 })).room s m ([.ref h0, .int x1] : List Value).toArray below meth c H locs (0) (0) (MQ below (va_Qv (fun (u9 : va_W) => True) (gQ1 g [(2, 1), (2, 2), (2, 3), (2, 4), (2, 5), (2, 6)] [] none A ws) A) ([.ref h0, .int x1] : List Value).toArray s (0) (0) A) (F0 m 10 ls []) := by
    intro  H locs ls  hP hD hS hl
    refine lv_iconst (v := 0) hx hb dX2_lookAt_10 (by decide) ?_
    refine lv_goto (tgt := 23) hx hb dX2_lookAt_11 (by decide) ?_
    exact J_23 (0) H locs ls  hP hD hS (lv_sub hl [0] rfl)
  refine lv_if_lt (tgt := 10) hx hb dX2_lookAt_1 (by decide) (fun c_47 => ?_) (fun c_47 => ?_)
  · exact J_10  _ _ ls  hP hD hS (lv_sub hl [0] rfl)
  · refine lv_iload_n hx hb dX2_lookAt_4 rfl (lv_at hl 1 rfl) ?_
    refine lv_bipush (v := 24) hx hb dX2_lookAt_5 (by decide) ?_
    refine lv_icmp_lt (tgt := 14) hx hb dX2_lookAt_7 (by decide) (fun c_48 => ?_) (fun c_48 => ?_)
    · refine lv_aload_n hx hb dX2_lookAt_14 rfl (lv_at hl 0 rfl) ?_
      obtain ⟨k_49, fs9, hk_49⟩ := gC_of o_h0
      obtain ⟨r0_49, c1_49, c2_49, c3_49, c4_49, c5_49, c6_49, r7_49, n7_49, c8_49, c9_49, l10_49, c11_49, rfl, o_r0_49, a_r7_49, f2_49, f3_49, f4_49, -⟩ := (hG.1 _ _ _ _ hk_49).hX2 rfl
      refine va_get (D := gD g) (ci := 2) (v := .ref r0_49) (C := RX2) (T := TX2) (N := 12) hx hb hts inX2 hown hK hP k_49 hk_49 rfl 0 (by decide) (hts _ kw_632) (fun _ h9 => h9) rfl dX2_lookAt_15 ?_
      obtain ⟨k_50, fs9, hk_50⟩ := gC_of o_r0_49
      obtain ⟨r0_50, n0_50, c1_50, c2_50, c3_50, r4_50, n4_50, c5_50, c6_50, c7_50, c8_50, r9_50, n9_50, r10_50, n10_50, r11_50, n11_50, c12_50, c13_50, c14_50, c15_50, c16_50, rfl, a_r0_50, f1_50, a_r4_50, f3_50, a_r9_50, f5_50, a_r10_50, f7_50, a_r11_50, f9_50, f10_50, f11_50, f12_50, f13_50, f14_50, -⟩ := (hG.1 _ _ _ _ hk_50).hX7 rfl
      refine va_get (D := gD g) (ci := 6) (v := .ref r10_50) (C := RX7) (T := TX7) (N := 17) hx hb hts inX7 hown hK hP k_50 hk_50 rfl 10 (by decide) (hts _ kw_731) (fun _ h9 => h9) rfl dX2_lookAt_18 ?_
      refine lv_iload_n hx hb dX2_lookAt_21 rfl (lv_at hl 1 rfl) ?_
      obtain ⟨k_51, f_51, hk_51⟩ := gI_of a_r10_50
      refine va_iald hx hb hK hP k_51 1 hk_51 rfl (i_in2 (by have e0 : (0 : Int32).toInt = 0 := (by decide); have e24 : (24 : Int32).toInt = 24 := (by decide); have q_c_47 := i_nlt c_47; have q_c_48 := i_lt c_48; have q_f7_50 := f7_50; have q_f13_50 := f13_50; have g_x1 := i_rg x1; omega)) dX2_lookAt_22 ?_
      refine lv_topi (fun z_52 ez_52 => ?_)
      exact J_23 (z_52) _ _ ls  hP hD hS (lv_sub hl [0] rfl)
    · exact J_10  _ _ ls  hP hD hS (lv_sub hl [0] rfl)
set_option maxHeartbeats 1000000 in
set_option maxRecDepth 100000 in
theorem m_X2_u1 (l : Launch) (g : Gm) (sz : Nat) (ws : va_W) (h0 : Nat) (x1 : Int32) (hG : Good g ws) (o_h0 : gC ws h0 2) : Met l yX2_u1 (wt yX2_u1 cX2_u1 2 (some .int)) ({ frames := 1, cells := 0, slots := 0, locals := 21 }) (va_Pc [.ref h0, .int x1] (st_G g sz ws)) (va_Qi (fun (r : Int32) (u9 : Unit) => True) (gQ0 g (va_A ws sz) ws) (va_A ws sz)) (0) (0) (va_A ws sz) := by
  refine Met.ofW (cc := cX2_u1) (maxL := 2) (ret := (some .int)) (by decide) rfl ?_
  intro p e s m args below meth c s₁ B hml hv
  obtain ⟨rfl, hsz, hP, hK, hD0, hex, hE⟩ := hv
  have hx := B.exec
  have hb := B.bytes
  have hr := B.returns
  have hts0 := atoms_spec (ws := wt yX2_u1 cX2_u1 2 (some .int)) B.pre
  have hts : ∀ w ∈ tb, w.before _ s = true := fun w h => hts0 w (List.mem_cons_of_mem _ h)
  have hown : s.vm.findClass RX2 = some m.cls := findClass_of_methodNamed B.named
  subst hsz
  have hD := hD0.self (sz := s.heap.size)
  generalize hAe : va_A ws s.heap.size = A at hD hE ⊢
  have hA : ∀ q : Nat, s.heap.size ≤ q → A q := fun q h => by rw [← hAe]; exact Or.inr h
  have hS : va_S A s.heap s.heap [] := va_S.rf
  have hl := lv_entry ([.ref h0, .int x1]) (n := 2) (Nat.le_of_ble_eq_true rfl)
  rw [lg_entry_eq]
  generalize (lg_sl ([.ref h0, .int x1]) ++ List.replicate (2 - (lg_sl ([.ref h0, .int x1])).length) Slot.unset).toArray = ls at hl ⊢
  have hl : lv_has ls 2 [(0, .ref h0), (1, .int x1)] := hl
  refine lv_iload_n hx hb dX2_u1_0 rfl (lv_at hl 1 rfl) ?_
  have J_29 : ∀ (t_1 : Int32) (H : Heap) (locs : List Loc) (ls : Array Slot), va_P (gD g) cl0 ws H → va_D A ws → va_S A s.heap H locs → lv_has ls 2 [] → W p l e (headSpec (wt yX2_u1 cX2_u1 2 (some .int)) ({ frames := 1, cells := 0, slots := 0, locals := 21 })).room s m ([.ref h0, .int x1] : List Value).toArray below meth c H locs (0) (0) (MQ below (va_Qi (fun (r : Int32) (u9 : Unit) => True) (gQ0 g A ws) A) ([.ref h0, .int x1] : List Value).toArray s (0) (0) A) (F0 m 29 ls [.int t_1]) := by
    intro t_1 H locs ls  hP hD hS hl
    refine W.widen (k := 0) (n := 0) (Nat.le_of_ble_eq_true rfl) (Nat.le_of_ble_eq_true rfl) ?_
    exact W.iret (v := t_1) hx hb hr (fun t9 ht9 hW9 => ⟨⟨_, (), rfl, trivial, ⟨by rw [ht9]; exact hP, hD⟩⟩, hS.F ht9⟩) hS.2.2 dX2_u1_29
  have J_12 : ∀  (H : Heap) (locs : List Loc) (ls : Array Slot), va_P (gD g) cl0 ws H → va_D A ws → va_S A s.heap H locs → lv_has ls 2 [] → W p l e (headSpec (wt yX2_u1 cX2_u1 2 (some .int)) ({ frames := 1, cells := 0, slots := 0, locals := 21 })).room s m ([.ref h0, .int x1] : List Value).toArray below meth c H locs (0) (0) (MQ below (va_Qi (fun (r : Int32) (u9 : Unit) => True) (gQ0 g A ws) A) ([.ref h0, .int x1] : List Value).toArray s (0) (0) A) (F0 m 12 ls []) := by
    intro  H locs ls  hP hD hS hl
    refine lv_iconst (v := 0) hx hb dX2_u1_12 (by decide) ?_
    refine lv_goto (tgt := 29) hx hb dX2_u1_13 (by decide) ?_
    exact J_29 (0) H locs ls  hP hD hS (lv_sub hl [] rfl)
  refine lv_if_lt (tgt := 12) hx hb dX2_u1_1 (by decide) (fun c_6 => ?_) (fun c_6 => ?_)
  · exact J_12  _ _ ls  hP hD hS (lv_sub hl [] rfl)
  · refine lv_iload_n hx hb dX2_u1_4 rfl (lv_at hl 1 rfl) ?_
    refine lv_aload_n hx hb dX2_u1_5 rfl (lv_at hl 0 rfl) ?_
    obtain ⟨k_7, fs9, hk_7⟩ := gC_of o_h0
    obtain ⟨r0_7, c1_7, c2_7, c3_7, c4_7, c5_7, c6_7, r7_7, n7_7, c8_7, c9_7, l10_7, c11_7, rfl, o_r0_7, a_r7_7, f2_7, f3_7, f4_7, -⟩ := (hG.1 _ _ _ _ hk_7).hX2 rfl
    refine va_get (D := gD g) (ci := 2) (v := .int c2_7) (C := RX2) (T := TX2) (N := 12) hx hb hts inX2 hown hK hP k_7 hk_7 rfl 2 (by decide) (hts _ kw_716) (fun _ h9 => h9) rfl dX2_u1_6 ?_
    refine lv_icmp_lt (tgt := 16) hx hb dX2_u1_9 (by decide) (fun c_8 => ?_) (fun c_8 => ?_)
    · refine lv_aload_n hx hb dX2_u1_16 rfl (lv_at hl 0 rfl) ?_
      refine va_get (D := gD g) (ci := 2) (v := .ref r0_7) (C := RX2) (T := TX2) (N := 12) hx hb hts inX2 hown hK hP k_7 hk_7 rfl 0 (by decide) (hts _ kw_632) (fun _ h9 => h9) rfl dX2_u1_17 ?_
      refine lv_aload_n hx hb dX2_u1_20 rfl (lv_at hl 0 rfl) ?_
      refine va_get (D := gD g) (ci := 2) (v := .int c1_7) (C := RX2) (T := TX2) (N := 12) hx hb hts inX2 hown hK hP k_7 hk_7 rfl 1 (by decide) (hts _ kw_718) (fun _ h9 => h9) rfl dX2_u1_21 ?_
      refine lv_iload_n hx hb dX2_u1_24 rfl (lv_at hl 1 rfl) ?_
      refine lv_iadd hx hb dX2_u1_25 ?_
      refine lv_topi (fun z_9 ez_9 => ?_)
      have hFc := gfree hD hS hA
      obtain ⟨k_10, fs_10, hk_10⟩ := gC_of o_r0_7
      refine va_calli (va_runV (As := [.int z_9]) (rest := []) ⟨hx, hb, hml, hown, hts⟩ (m_X7_u1 l g s.heap.size ws r0_7 (z_9) hG o_r0_7) (cwV 1 hts (gd_V kw_814 kw_1447 kw_1448 kw_710 kw_1446) rfl rfl rfl (by decide +kernel) ⟨Nat.le_of_ble_eq_true rfl, Nat.le_of_ble_eq_true rfl⟩) ⟨gblind, va_recv hK hP (ci := 6) (q0 := k_10) rfl hk_10, fun U hU hW9 => gmk hU hW9 hP hK hD hex hE hS hFc⟩ rfl rfl hl.1 rfl (lv_room (Nat.le_of_ble_eq_true rfl)) dX2_u1_26 ⟨Nat.le_of_ble_eq_true rfl, Nat.le_of_ble_eq_true rfl⟩) hS (fun q _ h => hFc q h) hFc (fun r_11 u9 t9 H1 locs ht9 hvm9 hw9 hB9 hz9 hk9 hS => ?_)
      have hP : va_P (gD g) cl0 ws H1 := by rw [← ht9]; exact hB9.1
      have h_r_11 := hw9
      clear hB9 hz9 hk9 hvm9 ht9 hw9
      generalize H1 = H at hP hS ⊢
      exact J_29 (r_11) H locs ls  hP hD hS (lv_sub hl [] rfl)
    · exact J_12  _ _ ls  hP hD hS (lv_sub hl [] rfl)
set_option maxHeartbeats 1000000 in
set_option maxRecDepth 100000 in
theorem m_X2_u2 (l : Launch) (g : Gm) (sz : Nat) (ws : va_W) (h0 : Nat) (x1 : Int32) (hG : Good g ws) (o_h0 : gC ws h0 2) : Met l yX2_u2 (wt yX2_u2 cX2_u2 2 (some .int)) ({ frames := 1, cells := 0, slots := 0, locals := 21 }) (va_Pc [.ref h0, .int x1] (st_G g sz ws)) (va_Qi (fun (r : Int32) (u9 : Unit) => True) (gQ0 g (va_A ws sz) ws) (va_A ws sz)) (0) (0) (va_A ws sz) := by
  refine Met.ofW (cc := cX2_u2) (maxL := 2) (ret := (some .int)) (by decide) rfl ?_
  intro p e s m args below meth c s₁ B hml hv
  obtain ⟨rfl, hsz, hP, hK, hD0, hex, hE⟩ := hv
  have hx := B.exec
  have hb := B.bytes
  have hr := B.returns
  have hts0 := atoms_spec (ws := wt yX2_u2 cX2_u2 2 (some .int)) B.pre
  have hts : ∀ w ∈ tb, w.before _ s = true := fun w h => hts0 w (List.mem_cons_of_mem _ h)
  have hown : s.vm.findClass RX2 = some m.cls := findClass_of_methodNamed B.named
  subst hsz
  have hD := hD0.self (sz := s.heap.size)
  generalize hAe : va_A ws s.heap.size = A at hD hE ⊢
  have hA : ∀ q : Nat, s.heap.size ≤ q → A q := fun q h => by rw [← hAe]; exact Or.inr h
  have hS : va_S A s.heap s.heap [] := va_S.rf
  have hl := lv_entry ([.ref h0, .int x1]) (n := 2) (Nat.le_of_ble_eq_true rfl)
  rw [lg_entry_eq]
  generalize (lg_sl ([.ref h0, .int x1]) ++ List.replicate (2 - (lg_sl ([.ref h0, .int x1])).length) Slot.unset).toArray = ls at hl ⊢
  have hl : lv_has ls 2 [(0, .ref h0), (1, .int x1)] := hl
  refine lv_iload_n hx hb dX2_u2_0 rfl (lv_at hl 1 rfl) ?_
  have J_31 : ∀ (t_1 : Int32) (H : Heap) (locs : List Loc) (ls : Array Slot), va_P (gD g) cl0 ws H → va_D A ws → va_S A s.heap H locs → lv_has ls 2 [] → W p l e (headSpec (wt yX2_u2 cX2_u2 2 (some .int)) ({ frames := 1, cells := 0, slots := 0, locals := 21 })).room s m ([.ref h0, .int x1] : List Value).toArray below meth c H locs (0) (0) (MQ below (va_Qi (fun (r : Int32) (u9 : Unit) => True) (gQ0 g A ws) A) ([.ref h0, .int x1] : List Value).toArray s (0) (0) A) (F0 m 31 ls [.int t_1]) := by
    intro t_1 H locs ls  hP hD hS hl
    refine W.widen (k := 0) (n := 0) (Nat.le_of_ble_eq_true rfl) (Nat.le_of_ble_eq_true rfl) ?_
    exact W.iret (v := t_1) hx hb hr (fun t9 ht9 hW9 => ⟨⟨_, (), rfl, trivial, ⟨by rw [ht9]; exact hP, hD⟩⟩, hS.F ht9⟩) hS.2.2 dX2_u2_31
  have J_14 : ∀  (H : Heap) (locs : List Loc) (ls : Array Slot), va_P (gD g) cl0 ws H → va_D A ws → va_S A s.heap H locs → lv_has ls 2 [] → W p l e (headSpec (wt yX2_u2 cX2_u2 2 (some .int)) ({ frames := 1, cells := 0, slots := 0, locals := 21 })).room s m ([.ref h0, .int x1] : List Value).toArray below meth c H locs (0) (0) (MQ below (va_Qi (fun (r : Int32) (u9 : Unit) => True) (gQ0 g A ws) A) ([.ref h0, .int x1] : List Value).toArray s (0) (0) A) (F0 m 14 ls []) := by
    intro  H locs ls  hP hD hS hl
    refine lv_iconst (v := 0) hx hb dX2_u2_14 (by decide) ?_
    refine lv_goto (tgt := 31) hx hb dX2_u2_15 (by decide) ?_
    exact J_31 (0) H locs ls  hP hD hS (lv_sub hl [] rfl)
  refine lv_if_lt (tgt := 14) hx hb dX2_u2_1 (by decide) (fun c_6 => ?_) (fun c_6 => ?_)
  · exact J_14  _ _ ls  hP hD hS (lv_sub hl [] rfl)
  · refine lv_iload_n hx hb dX2_u2_4 rfl (lv_at hl 1 rfl) ?_
    refine lv_aload_n hx hb dX2_u2_5 rfl (lv_at hl 0 rfl) ?_
    obtain ⟨k_7, fs9, hk_7⟩ := gC_of o_h0
    obtain ⟨r0_7, c1_7, c2_7, c3_7, c4_7, c5_7, c6_7, r7_7, n7_7, c8_7, c9_7, l10_7, c11_7, rfl, o_r0_7, a_r7_7, f2_7, f3_7, f4_7, -⟩ := (hG.1 _ _ _ _ hk_7).hX2 rfl
    refine va_get (D := gD g) (ci := 2) (v := .int c2_7) (C := RX2) (T := TX2) (N := 12) hx hb hts inX2 hown hK hP k_7 hk_7 rfl 2 (by decide) (hts _ kw_716) (fun _ h9 => h9) rfl dX2_u2_6 ?_
    refine lv_iconst (v := 2) hx hb dX2_u2_9 (by decide) ?_
    refine lv_isub hx hb dX2_u2_10 ?_
    refine lv_topi (fun z_8 ez_8 => ?_)
    refine lv_icmp_le (tgt := 18) hx hb dX2_u2_11 (by decide) (fun c_9 => ?_) (fun c_9 => ?_)
    · refine lv_aload_n hx hb dX2_u2_18 rfl (lv_at hl 0 rfl) ?_
      refine va_get (D := gD g) (ci := 2) (v := .ref r0_7) (C := RX2) (T := TX2) (N := 12) hx hb hts inX2 hown hK hP k_7 hk_7 rfl 0 (by decide) (hts _ kw_632) (fun _ h9 => h9) rfl dX2_u2_19 ?_
      refine lv_aload_n hx hb dX2_u2_22 rfl (lv_at hl 0 rfl) ?_
      refine va_get (D := gD g) (ci := 2) (v := .int c1_7) (C := RX2) (T := TX2) (N := 12) hx hb hts inX2 hown hK hP k_7 hk_7 rfl 1 (by decide) (hts _ kw_718) (fun _ h9 => h9) rfl dX2_u2_23 ?_
      refine lv_iload_n hx hb dX2_u2_26 rfl (lv_at hl 1 rfl) ?_
      refine lv_iadd hx hb dX2_u2_27 ?_
      refine lv_topi (fun z_10 ez_10 => ?_)
      have hFc := gfree hD hS hA
      obtain ⟨k_11, fs_11, hk_11⟩ := gC_of o_r0_7
      refine va_calli (va_runV (As := [.int z_10]) (rest := []) ⟨hx, hb, hml, hown, hts⟩ (m_X7_u2 l g s.heap.size ws r0_7 (z_10) hG o_r0_7) (cwV 1 hts (gd_V kw_651 kw_1450 kw_1451 kw_710 kw_1449) rfl rfl rfl (by decide +kernel) ⟨Nat.le_of_ble_eq_true rfl, Nat.le_of_ble_eq_true rfl⟩) ⟨gblind, va_recv hK hP (ci := 6) (q0 := k_11) rfl hk_11, fun U hU hW9 => gmk hU hW9 hP hK hD hex hE hS hFc⟩ rfl rfl hl.1 rfl (lv_room (Nat.le_of_ble_eq_true rfl)) dX2_u2_28 ⟨Nat.le_of_ble_eq_true rfl, Nat.le_of_ble_eq_true rfl⟩) hS (fun q _ h => hFc q h) hFc (fun r_12 u9 t9 H1 locs ht9 hvm9 hw9 hB9 hz9 hk9 hS => ?_)
      have hP : va_P (gD g) cl0 ws H1 := by rw [← ht9]; exact hB9.1
      have h_r_12 := hw9
      clear hB9 hz9 hk9 hvm9 ht9 hw9
      generalize H1 = H at hP hS ⊢
      exact J_31 (r_12) H locs ls  hP hD hS (lv_sub hl [] rfl)
    · exact J_14  _ _ ls  hP hD hS (lv_sub hl [] rfl)
set_option maxHeartbeats 1000000 in
set_option maxRecDepth 100000 in
theorem m_X2_s4 (l : Launch) (g : Gm) (sz : Nat) (ws : va_W) (h0 : Nat) (x1 : Int32) (hG : Good g ws) (o_h0 : gC ws h0 2) : Met l yX2_s4 (wt yX2_s4 cX2_s4 2 (some .int)) ({ frames := 1, cells := 0, slots := 0, locals := 21 }) (va_Pc [.ref h0, .int x1] (st_G g sz ws)) (va_Qi (fun (r : Int32) (u9 : Unit) => True) (gQ0 g (va_A ws sz) ws) (va_A ws sz)) (0) (0) (va_A ws sz) := by
  refine Met.ofW (cc := cX2_s4) (maxL := 2) (ret := (some .int)) (by decide) rfl ?_
  intro p e s m args below meth c s₁ B hml hv
  obtain ⟨rfl, hsz, hP, hK, hD0, hex, hE⟩ := hv
  have hx := B.exec
  have hb := B.bytes
  have hr := B.returns
  have hts0 := atoms_spec (ws := wt yX2_s4 cX2_s4 2 (some .int)) B.pre
  have hts : ∀ w ∈ tb, w.before _ s = true := fun w h => hts0 w (List.mem_cons_of_mem _ h)
  have hown : s.vm.findClass RX2 = some m.cls := findClass_of_methodNamed B.named
  subst hsz
  have hD := hD0.self (sz := s.heap.size)
  generalize hAe : va_A ws s.heap.size = A at hD hE ⊢
  have hA : ∀ q : Nat, s.heap.size ≤ q → A q := fun q h => by rw [← hAe]; exact Or.inr h
  have hS : va_S A s.heap s.heap [] := va_S.rf
  have hl := lv_entry ([.ref h0, .int x1]) (n := 2) (Nat.le_of_ble_eq_true rfl)
  rw [lg_entry_eq]
  generalize (lg_sl ([.ref h0, .int x1]) ++ List.replicate (2 - (lg_sl ([.ref h0, .int x1])).length) Slot.unset).toArray = ls at hl ⊢
  have hl : lv_has ls 2 [(0, .ref h0), (1, .int x1)] := hl
  refine lv_iload_n hx hb dX2_s4_0 rfl (lv_at hl 1 rfl) ?_
  have J_31 : ∀ (t_1 : Int32) (H : Heap) (locs : List Loc) (ls : Array Slot), va_P (gD g) cl0 ws H → va_D A ws → va_S A s.heap H locs → lv_has ls 2 [] → W p l e (headSpec (wt yX2_s4 cX2_s4 2 (some .int)) ({ frames := 1, cells := 0, slots := 0, locals := 21 })).room s m ([.ref h0, .int x1] : List Value).toArray below meth c H locs (0) (0) (MQ below (va_Qi (fun (r : Int32) (u9 : Unit) => True) (gQ0 g A ws) A) ([.ref h0, .int x1] : List Value).toArray s (0) (0) A) (F0 m 31 ls [.int t_1]) := by
    intro t_1 H locs ls  hP hD hS hl
    refine W.widen (k := 0) (n := 0) (Nat.le_of_ble_eq_true rfl) (Nat.le_of_ble_eq_true rfl) ?_
    exact W.iret (v := t_1) hx hb hr (fun t9 ht9 hW9 => ⟨⟨_, (), rfl, trivial, ⟨by rw [ht9]; exact hP, hD⟩⟩, hS.F ht9⟩) hS.2.2 dX2_s4_31
  have J_14 : ∀  (H : Heap) (locs : List Loc) (ls : Array Slot), va_P (gD g) cl0 ws H → va_D A ws → va_S A s.heap H locs → lv_has ls 2 [] → W p l e (headSpec (wt yX2_s4 cX2_s4 2 (some .int)) ({ frames := 1, cells := 0, slots := 0, locals := 21 })).room s m ([.ref h0, .int x1] : List Value).toArray below meth c H locs (0) (0) (MQ below (va_Qi (fun (r : Int32) (u9 : Unit) => True) (gQ0 g A ws) A) ([.ref h0, .int x1] : List Value).toArray s (0) (0) A) (F0 m 14 ls []) := by
    intro  H locs ls  hP hD hS hl
    refine lv_iconst (v := 0) hx hb dX2_s4_14 (by decide) ?_
    refine lv_goto (tgt := 31) hx hb dX2_s4_15 (by decide) ?_
    exact J_31 (0) H locs ls  hP hD hS (lv_sub hl [] rfl)
  refine lv_if_lt (tgt := 14) hx hb dX2_s4_1 (by decide) (fun c_6 => ?_) (fun c_6 => ?_)
  · exact J_14  _ _ ls  hP hD hS (lv_sub hl [] rfl)
  · refine lv_iload_n hx hb dX2_s4_4 rfl (lv_at hl 1 rfl) ?_
    refine lv_aload_n hx hb dX2_s4_5 rfl (lv_at hl 0 rfl) ?_
    obtain ⟨k_7, fs9, hk_7⟩ := gC_of o_h0
    obtain ⟨r0_7, c1_7, c2_7, c3_7, c4_7, c5_7, c6_7, r7_7, n7_7, c8_7, c9_7, l10_7, c11_7, rfl, o_r0_7, a_r7_7, f2_7, f3_7, f4_7, -⟩ := (hG.1 _ _ _ _ hk_7).hX2 rfl
    refine va_get (D := gD g) (ci := 2) (v := .int c2_7) (C := RX2) (T := TX2) (N := 12) hx hb hts inX2 hown hK hP k_7 hk_7 rfl 2 (by decide) (hts _ kw_716) (fun _ h9 => h9) rfl dX2_s4_6 ?_
    refine lv_iconst (v := 4) hx hb dX2_s4_9 (by decide) ?_
    refine lv_isub hx hb dX2_s4_10 ?_
    refine lv_topi (fun z_8 ez_8 => ?_)
    refine lv_icmp_le (tgt := 18) hx hb dX2_s4_11 (by decide) (fun c_9 => ?_) (fun c_9 => ?_)
    · refine lv_aload_n hx hb dX2_s4_18 rfl (lv_at hl 0 rfl) ?_
      refine va_get (D := gD g) (ci := 2) (v := .ref r0_7) (C := RX2) (T := TX2) (N := 12) hx hb hts inX2 hown hK hP k_7 hk_7 rfl 0 (by decide) (hts _ kw_632) (fun _ h9 => h9) rfl dX2_s4_19 ?_
      refine lv_aload_n hx hb dX2_s4_22 rfl (lv_at hl 0 rfl) ?_
      refine va_get (D := gD g) (ci := 2) (v := .int c1_7) (C := RX2) (T := TX2) (N := 12) hx hb hts inX2 hown hK hP k_7 hk_7 rfl 1 (by decide) (hts _ kw_718) (fun _ h9 => h9) rfl dX2_s4_23 ?_
      refine lv_iload_n hx hb dX2_s4_26 rfl (lv_at hl 1 rfl) ?_
      refine lv_iadd hx hb dX2_s4_27 ?_
      refine lv_topi (fun z_10 ez_10 => ?_)
      have hFc := gfree hD hS hA
      obtain ⟨k_11, fs_11, hk_11⟩ := gC_of o_r0_7
      refine va_calli (va_runV (As := [.int z_10]) (rest := []) ⟨hx, hb, hml, hown, hts⟩ (m_X7_s4 l g s.heap.size ws r0_7 (z_10) hG o_r0_7) (cwV 1 hts (gd_V kw_634 kw_1429 kw_1430 kw_710 kw_1428) rfl rfl rfl (by decide +kernel) ⟨Nat.le_of_ble_eq_true rfl, Nat.le_of_ble_eq_true rfl⟩) ⟨gblind, va_recv hK hP (ci := 6) (q0 := k_11) rfl hk_11, fun U hU hW9 => gmk hU hW9 hP hK hD hex hE hS hFc⟩ rfl rfl hl.1 rfl (lv_room (Nat.le_of_ble_eq_true rfl)) dX2_s4_28 ⟨Nat.le_of_ble_eq_true rfl, Nat.le_of_ble_eq_true rfl⟩) hS (fun q _ h => hFc q h) hFc (fun r_12 u9 t9 H1 locs ht9 hvm9 hw9 hB9 hz9 hk9 hS => ?_)
      have hP : va_P (gD g) cl0 ws H1 := by rw [← ht9]; exact hB9.1
      clear hB9 hz9 hk9 hvm9 ht9 hw9
      generalize H1 = H at hP hS ⊢
      exact J_31 (r_12) H locs ls  hP hD hS (lv_sub hl [] rfl)
    · exact J_14  _ _ ls  hP hD hS (lv_sub hl [] rfl)
set_option maxHeartbeats 1000000 in
set_option maxRecDepth 100000 in
theorem m_X2_wideLength (l : Launch) (g : Gm) (sz : Nat) (ws : va_W) (x0 : Int32) (hG : Good g ws)  : Met l yX2_wideLength (wt yX2_wideLength cX2_wideLength 1 (some .int)) ({ frames := 1, cells := 0, slots := 0, locals := 20 }) (va_Pc [.int x0] (st_G g sz ws)) (va_Qi (fun (r : Int32) (u9 : Unit) => 0 ≤ r.toInt ∧ r.toInt ≤ 6) (gQ0 g (va_A ws sz) ws) (va_A ws sz)) (0) (0) (va_A ws sz) := by
  refine Met.ofW (cc := cX2_wideLength) (maxL := 1) (ret := (some .int)) (by decide) rfl ?_
  intro p e s m args below meth c s₁ B hml hv
  obtain ⟨rfl, hsz, hP, hK, hD0, hex, hE⟩ := hv
  have hx := B.exec
  have hb := B.bytes
  have hr := B.returns
  have hts0 := atoms_spec (ws := wt yX2_wideLength cX2_wideLength 1 (some .int)) B.pre
  have hts : ∀ w ∈ tb, w.before _ s = true := fun w h => hts0 w (List.mem_cons_of_mem _ h)
  have hown : s.vm.findClass RX2 = some m.cls := findClass_of_methodNamed B.named
  subst hsz
  have hD := hD0.self (sz := s.heap.size)
  generalize hAe : va_A ws s.heap.size = A at hD hE ⊢
  have hA : ∀ q : Nat, s.heap.size ≤ q → A q := fun q h => by rw [← hAe]; exact Or.inr h
  have hS : va_S A s.heap s.heap [] := va_S.rf
  have hl := lv_entry ([.int x0]) (n := 1) (Nat.le_of_ble_eq_true rfl)
  rw [lg_entry_eq]
  generalize (lg_sl ([.int x0]) ++ List.replicate (1 - (lg_sl ([.int x0])).length) Slot.unset).toArray = ls at hl ⊢
  have hl : lv_has ls 1 [(0, .int x0)] := hl
  refine lv_iload_n hx hb dX2_wideLength_0 rfl (lv_at hl 0 rfl) ?_
  refine lv_sipush (v := 132) hx hb dX2_wideLength_1 (by decide) ?_
  refine lv_icmp_ne (tgt := 10) hx hb dX2_wideLength_4 (by decide) (fun c_1 => ?_) (fun c_1 => ?_)
  · refine lv_iload_n hx hb dX2_wideLength_10 rfl (lv_at hl 0 rfl) ?_
    have hFc := gfree hD hS hA
    refine va_calli (va_runS (As := [.int x0]) (rest := []) ⟨hx, hb, hml, hown, hts⟩ (m_X6_isLoad l g s.heap.size ws (x0) hG ) (va_cwS 1 hts (gd_S kw_831 kw_1227 kw_1207 kw_1226) rfl rfl rfl (by decide +kernel) ⟨Nat.le_of_ble_eq_true rfl, Nat.le_of_ble_eq_true rfl⟩) ⟨gblind, fun U hU hW9 => gmk hU hW9 hP hK hD hex hE hS hFc⟩ rfl rfl hl.1 rfl (lv_room (Nat.le_of_ble_eq_true rfl)) dX2_wideLength_11 ⟨Nat.le_of_ble_eq_true rfl, Nat.le_of_ble_eq_true rfl⟩) hS (fun q _ h => hFc q h) hFc (fun r_2 u9 t9 H1 locs ht9 hvm9 hw9 hB9 hz9 hk9 hS => ?_)
    have hP : va_P (gD g) cl0 ws H1 := by rw [← ht9]; exact hB9.1
    have hz_r_2 : r_2 = 0 ∨ r_2 = 1 := hw9
    clear hB9 hz9 hk9 hvm9 ht9 hw9
    generalize H1 = H at hP hS ⊢
    have J_29 : ∀ (t_3 : Int32) (H : Heap) (locs : List Loc) (ls : Array Slot), 0 ≤ t_3.toInt ∧ t_3.toInt ≤ 4 → 0 ≤ t_3.toInt ∧ t_3.toInt ≤ 6 → va_P (gD g) cl0 ws H → va_D A ws → va_S A s.heap H locs → lv_has ls 1 [] → W p l e (headSpec (wt yX2_wideLength cX2_wideLength 1 (some .int)) ({ frames := 1, cells := 0, slots := 0, locals := 20 })).room s m ([.int x0] : List Value).toArray below meth c H locs (0) (0) (MQ below (va_Qi (fun (r : Int32) (u9 : Unit) => 0 ≤ r.toInt ∧ r.toInt ≤ 6) (gQ0 g A ws) A) ([.int x0] : List Value).toArray s (0) (0) A) (F0 m 29 ls [.int t_3]) := by
      intro t_3 H locs ls iv_4 iv_5 hP hD hS hl
      refine W.widen (k := 0) (n := 0) (Nat.le_of_ble_eq_true rfl) (Nat.le_of_ble_eq_true rfl) ?_
      exact W.iret (v := t_3) hx hb hr (fun t9 ht9 hW9 => ⟨⟨_, (), rfl, (by have e132 : (132 : Int32).toInt = 132 := (by decide); have q_c_1 := i_ne c_1; have q_iv_4 := iv_4; have q_iv_5 := iv_5; have g_t_3 := i_rg t_3; have g_x0 := i_rg x0; omega), ⟨by rw [ht9]; exact hP, hD⟩⟩, hS.F ht9⟩) hS.2.2 dX2_wideLength_29
    have J_24 : ∀  (H : Heap) (locs : List Loc) (ls : Array Slot), va_P (gD g) cl0 ws H → va_D A ws → va_S A s.heap H locs → lv_has ls 1 [] → W p l e (headSpec (wt yX2_wideLength cX2_wideLength 1 (some .int)) ({ frames := 1, cells := 0, slots := 0, locals := 20 })).room s m ([.int x0] : List Value).toArray below meth c H locs (0) (0) (MQ below (va_Qi (fun (r : Int32) (u9 : Unit) => 0 ≤ r.toInt ∧ r.toInt ≤ 6) (gQ0 g A ws) A) ([.int x0] : List Value).toArray s (0) (0) A) (F0 m 24 ls []) := by
      intro  H locs ls  hP hD hS hl
      refine lv_iconst (v := 4) hx hb dX2_wideLength_24 (by decide) ?_
      refine lv_goto (tgt := 29) hx hb dX2_wideLength_25 (by decide) ?_
      exact J_29 (4) H locs ls (by have e4 : (4 : Int32).toInt = 4 := (by decide); have e132 : (132 : Int32).toInt = 132 := (by decide); have q_c_1 := i_ne c_1; have g_x0 := i_rg x0; omega) (by have e4 : (4 : Int32).toInt = 4 := (by decide); have e132 : (132 : Int32).toInt = 132 := (by decide); have q_c_1 := i_ne c_1; have g_x0 := i_rg x0; omega) hP hD hS (lv_sub hl [] rfl)
    refine lv_if_ne (tgt := 24) hx hb dX2_wideLength_14 (by decide) (fun c_10 => ?_) (fun c_10 => ?_)
    · exact J_24  H locs ls  hP hD hS (lv_sub hl [] rfl)
    · refine lv_iload_n hx hb dX2_wideLength_17 rfl (lv_at hl 0 rfl) ?_
      have hFc := gfree hD hS hA
      refine va_calli (va_runS (As := [.int x0]) (rest := []) ⟨hx, hb, hml, hown, hts⟩ (m_X6_isStore l g H.size ws (x0) hG ) (va_cwS 1 hts (gd_S kw_832 kw_1231 kw_1207 kw_1230) rfl rfl rfl (by decide +kernel) ⟨Nat.le_of_ble_eq_true rfl, Nat.le_of_ble_eq_true rfl⟩) ⟨gblind, fun U hU hW9 => gmk hU hW9 hP hK hD hex hE hS hFc⟩ rfl rfl hl.1 rfl (lv_room (Nat.le_of_ble_eq_true rfl)) dX2_wideLength_18 ⟨Nat.le_of_ble_eq_true rfl, Nat.le_of_ble_eq_true rfl⟩) hS (fun q _ h => hFc q h) hFc (fun r_11 u9 t9 H1 locs ht9 hvm9 hw9 hB9 hz9 hk9 hS => ?_)
      have hP : va_P (gD g) cl0 ws H1 := by rw [← ht9]; exact hB9.1
      have hz_r_11 : r_11 = 0 ∨ r_11 = 1 := hw9
      clear hB9 hz9 hk9 hvm9 ht9 hw9
      generalize H1 = H at hP hS ⊢
      refine lv_if_eq (tgt := 28) hx hb dX2_wideLength_21 (by decide) (fun c_12 => ?_) (fun c_12 => ?_)
      · refine lv_iconst (v := 0) hx hb dX2_wideLength_28 (by decide) ?_
        exact J_29 (0) H locs ls (by have e0 : (0 : Int32).toInt = 0 := (by decide); have e132 : (132 : Int32).toInt = 132 := (by decide); have q_c_1 := i_ne c_1; have g_x0 := i_rg x0; omega) (by have e0 : (0 : Int32).toInt = 0 := (by decide); have e132 : (132 : Int32).toInt = 132 := (by decide); have q_c_1 := i_ne c_1; have g_x0 := i_rg x0; omega) hP hD hS (lv_sub hl [] rfl)
      · exact J_24  H locs ls  hP hD hS (lv_sub hl [] rfl)
  · refine lv_bipush (v := 6) hx hb dX2_wideLength_7 (by decide) ?_
    refine W.widen (k := 0) (n := 0) (Nat.le_of_ble_eq_true rfl) (Nat.le_of_ble_eq_true rfl) ?_
    exact W.iret (v := 6) hx hb hr (fun t9 ht9 hW9 => ⟨⟨_, (), rfl, (by have e6 : (6 : Int32).toInt = 6 := (by decide); have e132 : (132 : Int32).toInt = 132 := (by decide); have q_c_1 := i_eq c_1; have g_x0 := i_rg x0; omega), ⟨by rw [ht9]; exact hP, hD⟩⟩, hS.F ht9⟩) hS.2.2 dX2_wideLength_9
set_option maxHeartbeats 1000000 in
set_option maxRecDepth 100000 in
theorem m_X2_numbersOf (l : Launch) (g : Gm) (sz : Nat) (ws : va_W) (x0 : Int32) (hG : Good g ws)  : Met l yX2_numbersOf (wt yX2_numbersOf cX2_numbersOf 1 (some .int)) ({ frames := 0, cells := 0, slots := 0, locals := 0 }) (va_Pc [.int x0] (st_G g sz ws)) (va_Qi (fun (r : Int32) (u9 : Unit) => x0.toInt < 0 ∨ 2000 < x0.toInt ∨ (x0.toInt + 1 ≤ r.toInt ∧ r.toInt ≤ x0.toInt + 4)) (gQ0 g (va_A ws sz) ws) (va_A ws sz)) (0) (0) (va_A ws sz) := by
  refine Met.ofW (cc := cX2_numbersOf) (maxL := 1) (ret := (some .int)) (by decide) rfl ?_
  intro p e s m args below meth c s₁ B hml hv
  obtain ⟨rfl, hsz, hP, hK, hD0, hex, hE⟩ := hv
  have hx := B.exec
  have hb := B.bytes
  have hr := B.returns
  have hts0 := atoms_spec (ws := wt yX2_numbersOf cX2_numbersOf 1 (some .int)) B.pre
  have hts : ∀ w ∈ tb, w.before _ s = true := fun w h => hts0 w (List.mem_cons_of_mem _ h)
  have hown : s.vm.findClass RX2 = some m.cls := findClass_of_methodNamed B.named
  subst hsz
  have hD := hD0.self (sz := s.heap.size)
  generalize hAe : va_A ws s.heap.size = A at hD hE ⊢
  have hA : ∀ q : Nat, s.heap.size ≤ q → A q := fun q h => by rw [← hAe]; exact Or.inr h
  have hS : va_S A s.heap s.heap [] := va_S.rf
  have hl := lv_entry ([.int x0]) (n := 1) (Nat.le_of_ble_eq_true rfl)
  rw [lg_entry_eq]
  generalize (lg_sl ([.int x0]) ++ List.replicate (1 - (lg_sl ([.int x0])).length) Slot.unset).toArray = ls at hl ⊢
  have hl : lv_has ls 1 [(0, .int x0)] := hl
  refine lv_iload_n hx hb dX2_numbersOf_0 rfl (lv_at hl 0 rfl) ?_
  refine lv_iconst (v := 4) hx hb dX2_numbersOf_1 (by decide) ?_
  refine lv_iadd hx hb dX2_numbersOf_2 ?_
  refine lv_topi (fun z_1 ez_1 => ?_)
  refine lv_bipush (v := (-4)) hx hb dX2_numbersOf_3 (by decide) ?_
  refine lv_iand hx hb dX2_numbersOf_5 ?_
  refine lv_topi (fun z_2 ez_2 => ?_)
  refine W.widen (k := 0) (n := 0) (Nat.le_of_ble_eq_true rfl) (Nat.le_of_ble_eq_true rfl) ?_
  exact W.iret (v := z_2) hx hb hr (fun t9 ht9 hW9 => ⟨⟨_, (), rfl, (by have e4 : (4 : Int32).toInt = 4 := (by decide); obtain ⟨u_z_1, q_z_1⟩ := i_add ez_1; have q_z_2 := i_m4 ez_2 rfl; have g_x0 := i_rg x0; have g_z_1 := i_rg z_1; have g_z_2 := i_rg z_2; omega), ⟨by rw [ht9]; exact hP, hD⟩⟩, hS.F ht9⟩) hS.2.2 dX2_numbersOf_6
set_option maxHeartbeats 1000000 in
set_option maxRecDepth 100000 in
theorem m_X2_tableLength (l : Launch) (g : Gm) (sz : Nat) (ws : va_W) (h0 : Nat) (x1 : Int32) (hG : Good g ws) (o_h0 : gC ws h0 2) : Met l yX2_tableLength (wt yX2_tableLength cX2_tableLength 5 (some .int)) ({ frames := 2, cells := 0, slots := 0, locals := 42 }) (va_Pc [.ref h0, .int x1] (st_G g sz ws)) (va_Qi (fun (r : Int32) (u9 : Unit) => x1.toInt < 0 ∨ 1200 < x1.toInt ∨ r.toInt ≤ 2000) (gQ0 g (va_A ws sz) ws) (va_A ws sz)) (0) (0) (va_A ws sz) := by
  refine Met.ofW (cc := cX2_tableLength) (maxL := 5) (ret := (some .int)) (by decide) rfl ?_
  intro p e s m args below meth c s₁ B hml hv
  obtain ⟨rfl, hsz, hP, hK, hD0, hex, hE⟩ := hv
  have hx := B.exec
  have hb := B.bytes
  have hr := B.returns
  have hts0 := atoms_spec (ws := wt yX2_tableLength cX2_tableLength 5 (some .int)) B.pre
  have hts : ∀ w ∈ tb, w.before _ s = true := fun w h => hts0 w (List.mem_cons_of_mem _ h)
  have hown : s.vm.findClass RX2 = some m.cls := findClass_of_methodNamed B.named
  subst hsz
  have hD := hD0.self (sz := s.heap.size)
  generalize hAe : va_A ws s.heap.size = A at hD hE ⊢
  have hA : ∀ q : Nat, s.heap.size ≤ q → A q := fun q h => by rw [← hAe]; exact Or.inr h
  have hS : va_S A s.heap s.heap [] := va_S.rf
  have hl := lv_entry ([.ref h0, .int x1]) (n := 5) (Nat.le_of_ble_eq_true rfl)
  rw [lg_entry_eq]
  generalize (lg_sl ([.ref h0, .int x1]) ++ List.replicate (5 - (lg_sl ([.ref h0, .int x1])).length) Slot.unset).toArray = ls at hl ⊢
  have hl : lv_has ls 5 [(0, .ref h0), (1, .int x1)] := hl
  refine lv_iload_n hx hb dX2_tableLength_0 rfl (lv_at hl 1 rfl) ?_
  have hFc := gfree hD hS hA
  refine va_calli (va_runS (As := [.int x1]) (rest := []) ⟨hx, hb, hml, hown, hts⟩ (m_X2_numbersOf l g s.heap.size ws (x1) hG ) (va_cwS 1 hts (gd_S kw_686 kw_764 kw_389 kw_763) rfl rfl rfl (by decide +kernel) ⟨Nat.le_of_ble_eq_true rfl, Nat.le_of_ble_eq_true rfl⟩) ⟨gblind, fun U hU hW9 => gmk hU hW9 hP hK hD hex hE hS hFc⟩ rfl rfl hl.1 rfl (lv_room (Nat.le_of_ble_eq_true rfl)) dX2_tableLength_1 ⟨Nat.le_of_ble_eq_true rfl, Nat.le_of_ble_eq_true rfl⟩) hS (fun q _ h => hFc q h) hFc (fun r_1 u9 t9 H1 locs ht9 hvm9 hw9 hB9 hz9 hk9 hS => ?_)
  have hP : va_P (gD g) cl0 ws H1 := by rw [← ht9]; exact hB9.1
  have h_r_1 := hw9
  clear hB9 hz9 hk9 hvm9 ht9 hw9
  generalize H1 = H at hP hS ⊢
  refine lv_istore_n (lv' := [(2, .int r_1), (0, .ref h0), (1, .int x1)]) hx hb dX2_tableLength_4 rfl hl (by decide) rfl (fun ls hl => ?_)
  refine lv_aload_n hx hb dX2_tableLength_5 rfl (lv_at hl 1 rfl) ?_
  refine lv_iload_n hx hb dX2_tableLength_6 rfl (lv_at hl 0 rfl) ?_
  refine lv_bipush (v := 8) hx hb dX2_tableLength_7 (by decide) ?_
  refine lv_iadd hx hb dX2_tableLength_9 ?_
  refine lv_topi (fun z_2 ez_2 => ?_)
  have hFc := gfree hD hS hA
  obtain ⟨k_3, fs_3, hk_3⟩ := gC_of o_h0
  refine va_calli (va_runV (As := [.int z_2]) (rest := []) ⟨hx, hb, hml, hown, hts⟩ (m_X2_s4 l g H.size ws h0 (z_2) hG o_h0) (cwV 1 hts (gd_V kw_623 kw_790 kw_791 kw_389 kw_789) rfl rfl rfl (by decide +kernel) ⟨Nat.le_of_ble_eq_true rfl, Nat.le_of_ble_eq_true rfl⟩) ⟨gblind, va_recv hK hP (ci := 2) (q0 := k_3) rfl hk_3, fun U hU hW9 => gmk hU hW9 hP hK hD hex hE hS hFc⟩ rfl rfl hl.1 rfl (lv_room (Nat.le_of_ble_eq_true rfl)) dX2_tableLength_10 ⟨Nat.le_of_ble_eq_true rfl, Nat.le_of_ble_eq_true rfl⟩) hS (fun q _ h => hFc q h) hFc (fun r_4 u9 t9 H1 locs ht9 hvm9 hw9 hB9 hz9 hk9 hS => ?_)
  have hP : va_P (gD g) cl0 ws H1 := by rw [← ht9]; exact hB9.1
  clear hB9 hz9 hk9 hvm9 ht9 hw9
  generalize H1 = H at hP hS ⊢
  obtain ⟨z_5, ez_5⟩ : ∃ y : Int64, (r_4 : Int32).toInt64 = y := ⟨_, rfl⟩
  refine lv_i2l (v := z_5) hx hb dX2_tableLength_13 ez_5 ?_
  refine lv_aload_n hx hb dX2_tableLength_14 rfl (lv_at hl 1 rfl) ?_
  refine lv_iload_n hx hb dX2_tableLength_15 rfl (lv_at hl 0 rfl) ?_
  refine lv_iconst (v := 4) hx hb dX2_tableLength_16 (by decide) ?_
  refine lv_iadd hx hb dX2_tableLength_17 ?_
  refine lv_topi (fun z_6 ez_6 => ?_)
  have hFc := gfree hD hS hA
  obtain ⟨k_7, fs_7, hk_7⟩ := gC_of o_h0
  refine va_calli (va_runV (As := [.int z_6]) (rest := [.long z_5]) ⟨hx, hb, hml, hown, hts⟩ (m_X2_s4 l g H.size ws h0 (z_6) hG o_h0) (cwV 1 hts (gd_V kw_623 kw_790 kw_791 kw_389 kw_789) rfl rfl rfl (by decide +kernel) ⟨Nat.le_of_ble_eq_true rfl, Nat.le_of_ble_eq_true rfl⟩) ⟨gblind, va_recv hK hP (ci := 2) (q0 := k_7) rfl hk_7, fun U hU hW9 => gmk hU hW9 hP hK hD hex hE hS hFc⟩ rfl rfl hl.1 rfl (lv_room (Nat.le_of_ble_eq_true rfl)) dX2_tableLength_18 ⟨Nat.le_of_ble_eq_true rfl, Nat.le_of_ble_eq_true rfl⟩) hS (fun q _ h => hFc q h) hFc (fun r_8 u9 t9 H1 locs ht9 hvm9 hw9 hB9 hz9 hk9 hS => ?_)
  have hP : va_P (gD g) cl0 ws H1 := by rw [← ht9]; exact hB9.1
  clear hB9 hz9 hk9 hvm9 ht9 hw9
  generalize H1 = H at hP hS ⊢
  obtain ⟨z_9, ez_9⟩ : ∃ y : Int64, (r_8 : Int32).toInt64 = y := ⟨_, rfl⟩
  refine lv_i2l (v := z_9) hx hb dX2_tableLength_21 ez_9 ?_
  refine lv_lsub hx hb dX2_tableLength_22 ?_
  refine lv_topl (fun z_10 ez_10 => ?_)
  refine lv_lstore_n (lv' := [(3, .long z_10), (2, .int r_1), (0, .ref h0), (1, .int x1)]) hx hb dX2_tableLength_23 rfl hl (by decide) rfl (fun ls hl => ?_)
  refine lv_iload_n hx hb dX2_tableLength_24 rfl (lv_at hl 1 rfl) ?_
  refine lv_bipush (v := 12) hx hb dX2_tableLength_25 (by decide) ?_
  refine lv_iadd hx hb dX2_tableLength_27 ?_
  refine lv_topi (fun z_11 ez_11 => ?_)
  refine lv_aload_n hx hb dX2_tableLength_28 rfl (lv_at hl 2 rfl) ?_
  obtain ⟨k_12, fs9, hk_12⟩ := gC_of o_h0
  obtain ⟨r0_12, c1_12, c2_12, c3_12, c4_12, c5_12, c6_12, r7_12, n7_12, c8_12, c9_12, l10_12, c11_12, rfl, o_r0_12, a_r7_12, f2_12, f3_12, f4_12, -⟩ := (hG.1 _ _ _ _ hk_12).hX2 rfl
  refine va_get (D := gD g) (ci := 2) (v := .int c2_12) (C := RX2) (T := TX2) (N := 12) hx hb hts inX2 hown hK hP k_12 hk_12 rfl 2 (by decide) (hts _ kw_716) (fun _ h9 => h9) rfl dX2_tableLength_29 ?_
  have J_49 : ∀  (H : Heap) (locs : List Loc) (ls : Array Slot), va_P (gD g) cl0 ws H → va_D A ws → va_S A s.heap H locs → lv_has ls 5 [] → W p l e (headSpec (wt yX2_tableLength cX2_tableLength 5 (some .int)) ({ frames := 2, cells := 0, slots := 0, locals := 42 })).room s m ([.ref h0, .int x1] : List Value).toArray below meth c H locs (0) (0) (MQ below (va_Qi (fun (r : Int32) (u9 : Unit) => x1.toInt < 0 ∨ 1200 < x1.toInt ∨ r.toInt ≤ 2000) (gQ0 g A ws) A) ([.ref h0, .int x1] : List Value).toArray s (0) (0) A) (F0 m 49 ls []) := by
    intro  H locs ls  hP hD hS hl
    refine lv_iconst (v := 0) hx hb dX2_tableLength_49 (by decide) ?_
    refine W.widen (k := 0) (n := 0) (Nat.le_of_ble_eq_true rfl) (Nat.le_of_ble_eq_true rfl) ?_
    exact W.iret (v := 0) hx hb hr (fun t9 ht9 hW9 => ⟨⟨_, (), rfl, (by have e0 : (0 : Int32).toInt = 0 := (by decide); have e4 : (4 : Int32).toInt = 4 := (by decide); have e8 : (8 : Int32).toInt = 8 := (by decide); have e12 : (12 : Int32).toInt = 12 := (by decide); have q_r_1 := h_r_1; obtain ⟨u_z_2, q_z_2⟩ := i_add ez_2; obtain ⟨u_z_6, q_z_6⟩ := i_add ez_6; obtain ⟨u_z_11, q_z_11⟩ := i_add ez_11; have g_r_1 := i_rg r_1; have g_x1 := i_rg x1; have g_z_11 := i_rg z_11; have g_z_2 := i_rg z_2; have g_z_6 := i_rg z_6; omega), ⟨by rw [ht9]; exact hP, hD⟩⟩, hS.F ht9⟩) hS.2.2 dX2_tableLength_50
  refine lv_icmp_gt (tgt := 49) hx hb dX2_tableLength_32 (by decide) (fun c_15 => ?_) (fun c_15 => ?_)
  · exact J_49  H locs ls  hP hD hS (lv_sub hl [] rfl)
  · refine lv_lload_n hx hb dX2_tableLength_35 rfl (lv_at hl 0 rfl) ?_
    refine lv_lconst (v := 0) hx hb dX2_tableLength_36 (by decide) ?_
    refine W.lcmp hx hb dX2_tableLength_37 ?_
    refine lv_topi (fun z_16 ez_16 => ?_)
    refine lv_if_lt (tgt := 49) hx hb dX2_tableLength_38 (by decide) (fun c_17 => ?_) (fun c_17 => ?_)
    · exact J_49  H locs ls  hP hD hS (lv_sub hl [] rfl)
    · refine lv_lload_n hx hb dX2_tableLength_41 rfl (lv_at hl 0 rfl) ?_
      refine lv_ldc2 hx hb hown (hts _ kw_804) dX2_tableLength_42 ?_
      refine W.lcmp hx hb dX2_tableLength_45 ?_
      refine lv_topi (fun z_18 ez_18 => ?_)
      refine lv_if_le (tgt := 51) hx hb dX2_tableLength_46 (by decide) (fun c_19 => ?_) (fun c_19 => ?_)
      · refine lv_iload_n hx hb dX2_tableLength_51 rfl (lv_at hl 1 rfl) ?_
        refine lv_bipush (v := 16) hx hb dX2_tableLength_52 (by decide) ?_
        refine lv_iadd hx hb dX2_tableLength_54 ?_
        refine lv_topi (fun z_20 ez_20 => ?_)
        refine lv_iconst (v := 4) hx hb dX2_tableLength_55 (by decide) ?_
        refine lv_lload_n hx hb dX2_tableLength_56 rfl (lv_at hl 0 rfl) ?_
        obtain ⟨z_21, ez_21⟩ : ∃ y : Int32, (z_10 : Int64).toInt32 = y := ⟨_, rfl⟩
        refine lv_l2i (v := z_21) hx hb dX2_tableLength_57 ez_21 ?_
        refine lv_imul hx hb dX2_tableLength_58 ?_
        refine lv_topi (fun z_22 ez_22 => ?_)
        refine lv_iadd hx hb dX2_tableLength_59 ?_
        refine lv_topi (fun z_23 ez_23 => ?_)
        refine lv_iload_n hx hb dX2_tableLength_60 rfl (lv_at hl 3 rfl) ?_
        refine lv_isub hx hb dX2_tableLength_61 ?_
        refine lv_topi (fun z_24 ez_24 => ?_)
        refine W.widen (k := 0) (n := 0) (Nat.le_of_ble_eq_true rfl) (Nat.le_of_ble_eq_true rfl) ?_
        exact W.iret (v := z_24) hx hb hr (fun t9 ht9 hW9 => ⟨⟨_, (), rfl, (by have e0 : (0 : Int32).toInt = 0 := (by decide); have e4 : (4 : Int32).toInt = 4 := (by decide); have e8 : (8 : Int32).toInt = 8 := (by decide); have e12 : (12 : Int32).toInt = 12 := (by decide); have e16 : (16 : Int32).toInt = 16 := (by decide); have el0 : (0 : Int64).toInt = 0 := (by decide); have el200 : (200 : Int64).toInt = 200 := (by decide); have q_r_1 := h_r_1; obtain ⟨u_z_24, q_z_24⟩ := i_sub ez_24; obtain ⟨u_z_2, q_z_2⟩ := i_add ez_2; obtain ⟨u_z_6, q_z_6⟩ := i_add ez_6; obtain ⟨u_z_11, q_z_11⟩ := i_add ez_11; obtain ⟨u_z_20, q_z_20⟩ := i_add ez_20; obtain ⟨u_z_23, q_z_23⟩ := i_add ez_23; have q_c_15 := i_nlt c_15; have q_z_22 := i_mulL (c := 4) (K := 536870911) ez_22 (by decide) (by decide) (by decide) (by decide); have q_f4_12 := f4_12; have q_z_21 := l_2i ez_21; have q_z_16 := l_cmp ez_16; have q_z_18 := l_cmp ez_18; have q_c_17 := i_nlt c_17; have q_c_19 := i_le c_19; have g_c2_12 := i_rg c2_12; have g_r_1 := i_rg r_1; have g_x1 := i_rg x1; have g_z_11 := i_rg z_11; have g_z_16 := i_rg z_16; have g_z_18 := i_rg z_18; have g_z_2 := i_rg z_2; have g_z_20 := i_rg z_20; have g_z_21 := i_rg z_21; have g_z_22 := i_rg z_22; have g_z_23 := i_rg z_23; have g_z_24 := i_rg z_24; have g_z_6 := i_rg z_6; omega), ⟨by rw [ht9]; exact hP, hD⟩⟩, hS.F ht9⟩) hS.2.2 dX2_tableLength_62
      · exact J_49  H locs ls  hP hD hS (lv_sub hl [] rfl)
set_option maxHeartbeats 1000000 in
set_option maxRecDepth 100000 in
theorem m_X2_lookupLength (l : Launch) (g : Gm) (sz : Nat) (ws : va_W) (h0 : Nat) (x1 : Int32) (hG : Good g ws) (o_h0 : gC ws h0 2) : Met l yX2_lookupLength (wt yX2_lookupLength cX2_lookupLength 5 (some .int)) ({ frames := 2, cells := 0, slots := 0, locals := 42 }) (va_Pc [.ref h0, .int x1] (st_G g sz ws)) (va_Qi (fun (r : Int32) (u9 : Unit) => x1.toInt < 0 ∨ 1200 < x1.toInt ∨ r.toInt ≤ 2000) (gQ0 g (va_A ws sz) ws) (va_A ws sz)) (0) (0) (va_A ws sz) := by
  refine Met.ofW (cc := cX2_lookupLength) (maxL := 5) (ret := (some .int)) (by decide) rfl ?_
  intro p e s m args below meth c s₁ B hml hv
  obtain ⟨rfl, hsz, hP, hK, hD0, hex, hE⟩ := hv
  have hx := B.exec
  have hb := B.bytes
  have hr := B.returns
  have hts0 := atoms_spec (ws := wt yX2_lookupLength cX2_lookupLength 5 (some .int)) B.pre
  have hts : ∀ w ∈ tb, w.before _ s = true := fun w h => hts0 w (List.mem_cons_of_mem _ h)
  have hown : s.vm.findClass RX2 = some m.cls := findClass_of_methodNamed B.named
  subst hsz
  have hD := hD0.self (sz := s.heap.size)
  generalize hAe : va_A ws s.heap.size = A at hD hE ⊢
  have hA : ∀ q : Nat, s.heap.size ≤ q → A q := fun q h => by rw [← hAe]; exact Or.inr h
  have hS : va_S A s.heap s.heap [] := va_S.rf
  have hl := lv_entry ([.ref h0, .int x1]) (n := 5) (Nat.le_of_ble_eq_true rfl)
  rw [lg_entry_eq]
  generalize (lg_sl ([.ref h0, .int x1]) ++ List.replicate (5 - (lg_sl ([.ref h0, .int x1])).length) Slot.unset).toArray = ls at hl ⊢
  have hl : lv_has ls 5 [(0, .ref h0), (1, .int x1)] := hl
  refine lv_iload_n hx hb dX2_lookupLength_0 rfl (lv_at hl 1 rfl) ?_
  have hFc := gfree hD hS hA
  refine va_calli (va_runS (As := [.int x1]) (rest := []) ⟨hx, hb, hml, hown, hts⟩ (m_X2_numbersOf l g s.heap.size ws (x1) hG ) (va_cwS 1 hts (gd_S kw_686 kw_764 kw_389 kw_763) rfl rfl rfl (by decide +kernel) ⟨Nat.le_of_ble_eq_true rfl, Nat.le_of_ble_eq_true rfl⟩) ⟨gblind, fun U hU hW9 => gmk hU hW9 hP hK hD hex hE hS hFc⟩ rfl rfl hl.1 rfl (lv_room (Nat.le_of_ble_eq_true rfl)) dX2_lookupLength_1 ⟨Nat.le_of_ble_eq_true rfl, Nat.le_of_ble_eq_true rfl⟩) hS (fun q _ h => hFc q h) hFc (fun r_1 u9 t9 H1 locs ht9 hvm9 hw9 hB9 hz9 hk9 hS => ?_)
  have hP : va_P (gD g) cl0 ws H1 := by rw [← ht9]; exact hB9.1
  have h_r_1 := hw9
  clear hB9 hz9 hk9 hvm9 ht9 hw9
  generalize H1 = H at hP hS ⊢
  refine lv_istore_n (lv' := [(2, .int r_1), (0, .ref h0), (1, .int x1)]) hx hb dX2_lookupLength_4 rfl hl (by decide) rfl (fun ls hl => ?_)
  refine lv_aload_n hx hb dX2_lookupLength_5 rfl (lv_at hl 1 rfl) ?_
  refine lv_iload_n hx hb dX2_lookupLength_6 rfl (lv_at hl 0 rfl) ?_
  refine lv_iconst (v := 4) hx hb dX2_lookupLength_7 (by decide) ?_
  refine lv_iadd hx hb dX2_lookupLength_8 ?_
  refine lv_topi (fun z_2 ez_2 => ?_)
  have hFc := gfree hD hS hA
  obtain ⟨k_3, fs_3, hk_3⟩ := gC_of o_h0
  refine va_calli (va_runV (As := [.int z_2]) (rest := []) ⟨hx, hb, hml, hown, hts⟩ (m_X2_s4 l g H.size ws h0 (z_2) hG o_h0) (cwV 1 hts (gd_V kw_623 kw_790 kw_791 kw_389 kw_789) rfl rfl rfl (by decide +kernel) ⟨Nat.le_of_ble_eq_true rfl, Nat.le_of_ble_eq_true rfl⟩) ⟨gblind, va_recv hK hP (ci := 2) (q0 := k_3) rfl hk_3, fun U hU hW9 => gmk hU hW9 hP hK hD hex hE hS hFc⟩ rfl rfl hl.1 rfl (lv_room (Nat.le_of_ble_eq_true rfl)) dX2_lookupLength_9 ⟨Nat.le_of_ble_eq_true rfl, Nat.le_of_ble_eq_true rfl⟩) hS (fun q _ h => hFc q h) hFc (fun r_4 u9 t9 H1 locs ht9 hvm9 hw9 hB9 hz9 hk9 hS => ?_)
  have hP : va_P (gD g) cl0 ws H1 := by rw [← ht9]; exact hB9.1
  clear hB9 hz9 hk9 hvm9 ht9 hw9
  generalize H1 = H at hP hS ⊢
  refine lv_istore_n (lv' := [(3, .int r_4), (2, .int r_1), (0, .ref h0), (1, .int x1)]) hx hb dX2_lookupLength_12 rfl hl (by decide) rfl (fun ls hl => ?_)
  refine lv_iload_n hx hb dX2_lookupLength_13 rfl (lv_at hl 1 rfl) ?_
  refine lv_bipush (v := 8) hx hb dX2_lookupLength_14 (by decide) ?_
  refine lv_iadd hx hb dX2_lookupLength_16 ?_
  refine lv_topi (fun z_5 ez_5 => ?_)
  refine lv_aload_n hx hb dX2_lookupLength_17 rfl (lv_at hl 2 rfl) ?_
  obtain ⟨k_6, fs9, hk_6⟩ := gC_of o_h0
  obtain ⟨r0_6, c1_6, c2_6, c3_6, c4_6, c5_6, c6_6, r7_6, n7_6, c8_6, c9_6, l10_6, c11_6, rfl, o_r0_6, a_r7_6, f2_6, f3_6, f4_6, -⟩ := (hG.1 _ _ _ _ hk_6).hX2 rfl
  refine va_get (D := gD g) (ci := 2) (v := .int c2_6) (C := RX2) (T := TX2) (N := 12) hx hb hts inX2 hown hK hP k_6 hk_6 rfl 2 (by decide) (hts _ kw_716) (fun _ h9 => h9) rfl dX2_lookupLength_18 ?_
  have J_51 : ∀  (H : Heap) (locs : List Loc) (ls : Array Slot), va_P (gD g) cl0 ws H → va_D A ws → va_S A s.heap H locs → lv_has ls 5 [] → W p l e (headSpec (wt yX2_lookupLength cX2_lookupLength 5 (some .int)) ({ frames := 2, cells := 0, slots := 0, locals := 42 })).room s m ([.ref h0, .int x1] : List Value).toArray below meth c H locs (0) (0) (MQ below (va_Qi (fun (r : Int32) (u9 : Unit) => x1.toInt < 0 ∨ 1200 < x1.toInt ∨ r.toInt ≤ 2000) (gQ0 g A ws) A) ([.ref h0, .int x1] : List Value).toArray s (0) (0) A) (F0 m 51 ls []) := by
    intro  H locs ls  hP hD hS hl
    refine lv_iconst (v := 0) hx hb dX2_lookupLength_51 (by decide) ?_
    refine W.widen (k := 0) (n := 0) (Nat.le_of_ble_eq_true rfl) (Nat.le_of_ble_eq_true rfl) ?_
    exact W.iret (v := 0) hx hb hr (fun t9 ht9 hW9 => ⟨⟨_, (), rfl, (by have e0 : (0 : Int32).toInt = 0 := (by decide); have e4 : (4 : Int32).toInt = 4 := (by decide); have e8 : (8 : Int32).toInt = 8 := (by decide); have q_r_1 := h_r_1; obtain ⟨u_z_2, q_z_2⟩ := i_add ez_2; obtain ⟨u_z_5, q_z_5⟩ := i_add ez_5; have g_r_1 := i_rg r_1; have g_x1 := i_rg x1; have g_z_2 := i_rg z_2; have g_z_5 := i_rg z_5; omega), ⟨by rw [ht9]; exact hP, hD⟩⟩, hS.F ht9⟩) hS.2.2 dX2_lookupLength_52
  refine lv_icmp_gt (tgt := 51) hx hb dX2_lookupLength_21 (by decide) (fun c_9 => ?_) (fun c_9 => ?_)
  · exact J_51  H locs ls  hP hD hS (lv_sub hl [] rfl)
  · refine lv_iload_n hx hb dX2_lookupLength_24 rfl (lv_at hl 0 rfl) ?_
    refine lv_if_lt (tgt := 51) hx hb dX2_lookupLength_25 (by decide) (fun c_10 => ?_) (fun c_10 => ?_)
    · exact J_51  H locs ls  hP hD hS (lv_sub hl [] rfl)
    · refine lv_iload_n hx hb dX2_lookupLength_28 rfl (lv_at hl 0 rfl) ?_
      refine lv_sipush (v := 200) hx hb dX2_lookupLength_29 (by decide) ?_
      refine lv_icmp_gt (tgt := 51) hx hb dX2_lookupLength_32 (by decide) (fun c_11 => ?_) (fun c_11 => ?_)
      · exact J_51  H locs ls  hP hD hS (lv_sub hl [] rfl)
      · refine lv_iload_n hx hb dX2_lookupLength_35 rfl (lv_at hl 1 rfl) ?_
        refine lv_bipush (v := 8) hx hb dX2_lookupLength_36 (by decide) ?_
        refine lv_iadd hx hb dX2_lookupLength_38 ?_
        refine lv_topi (fun z_12 ez_12 => ?_)
        refine lv_bipush (v := 8) hx hb dX2_lookupLength_39 (by decide) ?_
        refine lv_iload_n hx hb dX2_lookupLength_41 rfl (lv_at hl 0 rfl) ?_
        refine lv_imul hx hb dX2_lookupLength_42 ?_
        refine lv_topi (fun z_13 ez_13 => ?_)
        refine lv_iadd hx hb dX2_lookupLength_43 ?_
        refine lv_topi (fun z_14 ez_14 => ?_)
        refine lv_aload_n hx hb dX2_lookupLength_44 rfl (lv_at hl 2 rfl) ?_
        refine va_get (D := gD g) (ci := 2) (v := .int c2_6) (C := RX2) (T := TX2) (N := 12) hx hb hts inX2 hown hK hP k_6 hk_6 rfl 2 (by decide) (hts _ kw_716) (fun _ h9 => h9) rfl dX2_lookupLength_45 ?_
        refine lv_icmp_le (tgt := 53) hx hb dX2_lookupLength_48 (by decide) (fun c_15 => ?_) (fun c_15 => ?_)
        · refine lv_iconst (v := 1) hx hb dX2_lookupLength_53 (by decide) ?_
          refine lv_istore (lv' := [(4, .int 1), (3, .int r_4), (2, .int r_1), (0, .ref h0), (1, .int x1)]) hx hb dX2_lookupLength_54 hl (by decide) rfl (fun ls hl => ?_)
          have J_56 : ∀ (n9 : Nat) (v4_16 : Int32) (H : Heap) (locs : List Loc) (ls : Array Slot), (2147483647 - v4_16.toInt).toNat = n9 → 0 ≤ v4_16.toInt → va_P (gD g) cl0 ws H → va_D A ws → va_S A s.heap H locs → lv_has ls 5 [(0, .ref h0), (1, .int x1), (2, .int r_1), (3, .int r_4), (4, .int v4_16)] → W p l e (headSpec (wt yX2_lookupLength cX2_lookupLength 5 (some .int)) ({ frames := 2, cells := 0, slots := 0, locals := 42 })).room s m ([.ref h0, .int x1] : List Value).toArray below meth c H locs (0) (0) (MQ below (va_Qi (fun (r : Int32) (u9 : Unit) => x1.toInt < 0 ∨ 1200 < x1.toInt ∨ r.toInt ≤ 2000) (gQ0 g A ws) A) ([.ref h0, .int x1] : List Value).toArray s (0) (0) A) (F0 m 56 ls []) := by
            intro n9
            induction n9 using Nat.strongRecOn with
            | ind n9 ih_56 =>
              intro v4_16 H locs ls hm9 iv_17 hP hD hS hl
              subst hm9
              refine lv_iload hx hb dX2_lookupLength_56 (lv_at hl 4 rfl) ?_
              refine lv_iload_n hx hb dX2_lookupLength_58 rfl (lv_at hl 3 rfl) ?_
              refine lv_icmp_ge (tgt := 98) hx hb dX2_lookupLength_59 (by decide) (fun c_20 => ?_) (fun c_20 => ?_)
              · refine lv_iload_n hx hb dX2_lookupLength_98 rfl (lv_at hl 2 rfl) ?_
                refine lv_bipush (v := 8) hx hb dX2_lookupLength_99 (by decide) ?_
                refine lv_iadd hx hb dX2_lookupLength_101 ?_
                refine lv_topi (fun z_21 ez_21 => ?_)
                refine lv_bipush (v := 8) hx hb dX2_lookupLength_102 (by decide) ?_
                refine lv_iload_n hx hb dX2_lookupLength_104 rfl (lv_at hl 3 rfl) ?_
                refine lv_imul hx hb dX2_lookupLength_105 ?_
                refine lv_topi (fun z_22 ez_22 => ?_)
                refine lv_iadd hx hb dX2_lookupLength_106 ?_
                refine lv_topi (fun z_23 ez_23 => ?_)
                refine lv_iload_n hx hb dX2_lookupLength_107 rfl (lv_at hl 1 rfl) ?_
                refine lv_isub hx hb dX2_lookupLength_108 ?_
                refine lv_topi (fun z_24 ez_24 => ?_)
                refine W.widen (k := 0) (n := 0) (Nat.le_of_ble_eq_true rfl) (Nat.le_of_ble_eq_true rfl) ?_
                exact W.iret (v := z_24) hx hb hr (fun t9 ht9 hW9 => ⟨⟨_, (), rfl, (by have e0 : (0 : Int32).toInt = 0 := (by decide); have e4 : (4 : Int32).toInt = 4 := (by decide); have e8 : (8 : Int32).toInt = 8 := (by decide); have e200 : (200 : Int32).toInt = 200 := (by decide); have q_r_1 := h_r_1; obtain ⟨u_z_24, q_z_24⟩ := i_sub ez_24; obtain ⟨u_z_2, q_z_2⟩ := i_add ez_2; obtain ⟨u_z_5, q_z_5⟩ := i_add ez_5; obtain ⟨u_z_12, q_z_12⟩ := i_add ez_12; obtain ⟨u_z_21, q_z_21⟩ := i_add ez_21; obtain ⟨u_z_23, q_z_23⟩ := i_add ez_23; have q_c_9 := i_nlt c_9; obtain ⟨u_z_14, q_z_14⟩ := i_add ez_14; have q_z_22 := i_mulL (c := 8) (K := 268435455) ez_22 (by decide) (by decide) (by decide) (by decide); have q_f4_6 := f4_6; have q_c_10 := i_nlt c_10; have q_c_11 := i_nlt c_11; have q_z_13 := i_mulL (c := 8) (K := 268435455) ez_13 (by decide) (by decide) (by decide) (by decide); have q_c_15 := i_le c_15; have q_c_20 := i_le c_20; have g_c2_6 := i_rg c2_6; have g_r_1 := i_rg r_1; have g_r_4 := i_rg r_4; have g_v4_16 := i_rg v4_16; have g_x1 := i_rg x1; have g_z_12 := i_rg z_12; have g_z_13 := i_rg z_13; have g_z_14 := i_rg z_14; have g_z_2 := i_rg z_2; have g_z_21 := i_rg z_21; have g_z_22 := i_rg z_22; have g_z_23 := i_rg z_23; have g_z_24 := i_rg z_24; have g_z_5 := i_rg z_5; omega), ⟨by rw [ht9]; exact hP, hD⟩⟩, hS.F ht9⟩) hS.2.2 dX2_lookupLength_109
              · refine lv_aload_n hx hb dX2_lookupLength_62 rfl (lv_at hl 0 rfl) ?_
                refine lv_iload_n hx hb dX2_lookupLength_63 rfl (lv_at hl 2 rfl) ?_
                refine lv_bipush (v := 8) hx hb dX2_lookupLength_64 (by decide) ?_
                refine lv_iadd hx hb dX2_lookupLength_66 ?_
                refine lv_topi (fun z_25 ez_25 => ?_)
                refine lv_bipush (v := 8) hx hb dX2_lookupLength_67 (by decide) ?_
                refine lv_iload hx hb dX2_lookupLength_69 (lv_at hl 4 rfl) ?_
                refine lv_imul hx hb dX2_lookupLength_71 ?_
                refine lv_topi (fun z_26 ez_26 => ?_)
                refine lv_iadd hx hb dX2_lookupLength_72 ?_
                refine lv_topi (fun z_27 ez_27 => ?_)
                have hFc := gfree hD hS hA
                refine va_calli (va_runV (As := [.int z_27]) (rest := []) ⟨hx, hb, hml, hown, hts⟩ (m_X2_s4 l g H.size ws h0 (z_27) hG o_h0) (cwV 1 hts (gd_V kw_623 kw_790 kw_791 kw_389 kw_789) rfl rfl rfl (by decide +kernel) ⟨Nat.le_of_ble_eq_true rfl, Nat.le_of_ble_eq_true rfl⟩) ⟨gblind, va_recv hK hP (ci := 2) (q0 := k_6) rfl hk_6, fun U hU hW9 => gmk hU hW9 hP hK hD hex hE hS hFc⟩ rfl rfl hl.1 rfl (lv_room (Nat.le_of_ble_eq_true rfl)) dX2_lookupLength_73 ⟨Nat.le_of_ble_eq_true rfl, Nat.le_of_ble_eq_true rfl⟩) hS (fun q _ h => hFc q h) hFc (fun r_28 u9 t9 H1 locs ht9 hvm9 hw9 hB9 hz9 hk9 hS => ?_)
                have hP : va_P (gD g) cl0 ws H1 := by rw [← ht9]; exact hB9.1
                clear hB9 hz9 hk9 hvm9 ht9 hw9
                generalize H1 = H at hP hS ⊢
                refine lv_aload_n hx hb dX2_lookupLength_76 rfl (lv_at hl 0 rfl) ?_
                refine lv_iload_n hx hb dX2_lookupLength_77 rfl (lv_at hl 2 rfl) ?_
                refine lv_bipush (v := 8) hx hb dX2_lookupLength_78 (by decide) ?_
                refine lv_iload hx hb dX2_lookupLength_80 (lv_at hl 4 rfl) ?_
                refine lv_imul hx hb dX2_lookupLength_82 ?_
                refine lv_topi (fun z_29 ez_29 => ?_)
                refine lv_iadd hx hb dX2_lookupLength_83 ?_
                refine lv_topi (fun z_30 ez_30 => ?_)
                have hFc := gfree hD hS hA
                refine va_calli (va_runV (As := [.int z_30]) (rest := [.int r_28]) ⟨hx, hb, hml, hown, hts⟩ (m_X2_s4 l g H.size ws h0 (z_30) hG o_h0) (cwV 1 hts (gd_V kw_623 kw_790 kw_791 kw_389 kw_789) rfl rfl rfl (by decide +kernel) ⟨Nat.le_of_ble_eq_true rfl, Nat.le_of_ble_eq_true rfl⟩) ⟨gblind, va_recv hK hP (ci := 2) (q0 := k_6) rfl hk_6, fun U hU hW9 => gmk hU hW9 hP hK hD hex hE hS hFc⟩ rfl rfl hl.1 rfl (lv_room (Nat.le_of_ble_eq_true rfl)) dX2_lookupLength_84 ⟨Nat.le_of_ble_eq_true rfl, Nat.le_of_ble_eq_true rfl⟩) hS (fun q _ h => hFc q h) hFc (fun r_31 u9 t9 H1 locs ht9 hvm9 hw9 hB9 hz9 hk9 hS => ?_)
                have hP : va_P (gD g) cl0 ws H1 := by rw [← ht9]; exact hB9.1
                clear hB9 hz9 hk9 hvm9 ht9 hw9
                generalize H1 = H at hP hS ⊢
                refine lv_icmp_gt (tgt := 92) hx hb dX2_lookupLength_87 (by decide) (fun c_32 => ?_) (fun c_32 => ?_)
                · obtain ⟨z_33, ez_33⟩ : ∃ z : Int32, v4_16 + Int32.ofInt 1 = z := ⟨_, rfl⟩
                  refine lv_iinc (v := z_33) (lv' := [(4, .int z_33), (0, .ref h0), (1, .int x1), (2, .int r_1), (3, .int r_4)]) hx hb dX2_lookupLength_92 hl (k := 4) rfl ez_33 (by decide) rfl (fun ls hl => ?_)
                  refine lv_goto (tgt := 56) hx hb dX2_lookupLength_95 (by decide) ?_
                  exact ih_56 _ (by have e0 : (0 : Int32).toInt = 0 := (by decide); have e4 : (4 : Int32).toInt = 4 := (by decide); have e8 : (8 : Int32).toInt = 8 := (by decide); have e200 : (200 : Int32).toInt = 200 := (by decide); obtain ⟨u_z_33, q_z_33⟩ := i_iz ez_33 (by decide) (by decide); have q_iv_17 := iv_17; have q_c_20 := i_nle c_20; have q_z_26 := i_mulL (c := 8) (K := 268435455) ez_26 (by decide) (by decide) (by decide) (by decide); have q_z_29 := i_mulL (c := 8) (K := 268435455) ez_29 (by decide) (by decide) (by decide) (by decide); have q_c_10 := i_nlt c_10; have q_c_11 := i_nlt c_11; have q_z_13 := i_mulL (c := 8) (K := 268435455) ez_13 (by decide) (by decide) (by decide) (by decide); obtain ⟨u_z_27, q_z_27⟩ := i_add ez_27; obtain ⟨u_z_30, q_z_30⟩ := i_add ez_30; have q_r_1 := h_r_1; obtain ⟨u_z_2, q_z_2⟩ := i_add ez_2; obtain ⟨u_z_5, q_z_5⟩ := i_add ez_5; obtain ⟨u_z_12, q_z_12⟩ := i_add ez_12; obtain ⟨u_z_14, q_z_14⟩ := i_add ez_14; obtain ⟨u_z_25, q_z_25⟩ := i_add ez_25; have g_r_1 := i_rg r_1; have g_r_4 := i_rg r_4; have g_v4_16 := i_rg v4_16; have g_x1 := i_rg x1; have g_z_12 := i_rg z_12; have g_z_13 := i_rg z_13; have g_z_14 := i_rg z_14; have g_z_2 := i_rg z_2; have g_z_25 := i_rg z_25; have g_z_26 := i_rg z_26; have g_z_27 := i_rg z_27; have g_z_29 := i_rg z_29; have g_z_30 := i_rg z_30; have g_z_33 := i_rg z_33; have g_z_5 := i_rg z_5; omega) (z_33) H locs ls rfl (by have e0 : (0 : Int32).toInt = 0 := (by decide); have e4 : (4 : Int32).toInt = 4 := (by decide); have e8 : (8 : Int32).toInt = 8 := (by decide); have e200 : (200 : Int32).toInt = 200 := (by decide); obtain ⟨u_z_33, q_z_33⟩ := i_iz ez_33 (by decide) (by decide); have q_iv_17 := iv_17; have q_c_20 := i_nle c_20; have q_z_26 := i_mulL (c := 8) (K := 268435455) ez_26 (by decide) (by decide) (by decide) (by decide); have q_z_29 := i_mulL (c := 8) (K := 268435455) ez_29 (by decide) (by decide) (by decide) (by decide); have q_c_10 := i_nlt c_10; have q_c_11 := i_nlt c_11; have q_z_13 := i_mulL (c := 8) (K := 268435455) ez_13 (by decide) (by decide) (by decide) (by decide); obtain ⟨u_z_27, q_z_27⟩ := i_add ez_27; obtain ⟨u_z_30, q_z_30⟩ := i_add ez_30; have q_r_1 := h_r_1; obtain ⟨u_z_2, q_z_2⟩ := i_add ez_2; obtain ⟨u_z_5, q_z_5⟩ := i_add ez_5; obtain ⟨u_z_12, q_z_12⟩ := i_add ez_12; obtain ⟨u_z_14, q_z_14⟩ := i_add ez_14; obtain ⟨u_z_25, q_z_25⟩ := i_add ez_25; have g_r_1 := i_rg r_1; have g_r_4 := i_rg r_4; have g_v4_16 := i_rg v4_16; have g_x1 := i_rg x1; have g_z_12 := i_rg z_12; have g_z_13 := i_rg z_13; have g_z_14 := i_rg z_14; have g_z_2 := i_rg z_2; have g_z_25 := i_rg z_25; have g_z_26 := i_rg z_26; have g_z_27 := i_rg z_27; have g_z_29 := i_rg z_29; have g_z_30 := i_rg z_30; have g_z_33 := i_rg z_33; have g_z_5 := i_rg z_5; omega) hP hD hS (lv_sub hl [1, 2, 3, 4, 0] rfl)
                · refine lv_iconst (v := 0) hx hb dX2_lookupLength_90 (by decide) ?_
                  refine W.widen (k := 0) (n := 0) (Nat.le_of_ble_eq_true rfl) (Nat.le_of_ble_eq_true rfl) ?_
                  exact W.iret (v := 0) hx hb hr (fun t9 ht9 hW9 => ⟨⟨_, (), rfl, (by have e0 : (0 : Int32).toInt = 0 := (by decide); have e4 : (4 : Int32).toInt = 4 := (by decide); have e8 : (8 : Int32).toInt = 8 := (by decide); have q_r_1 := h_r_1; obtain ⟨u_z_2, q_z_2⟩ := i_add ez_2; obtain ⟨u_z_5, q_z_5⟩ := i_add ez_5; obtain ⟨u_z_12, q_z_12⟩ := i_add ez_12; obtain ⟨u_z_25, q_z_25⟩ := i_add ez_25; obtain ⟨u_z_30, q_z_30⟩ := i_add ez_30; have q_c_9 := i_nlt c_9; obtain ⟨u_z_14, q_z_14⟩ := i_add ez_14; obtain ⟨u_z_27, q_z_27⟩ := i_add ez_27; have q_z_29 := i_mulL (c := 8) (K := 268435455) ez_29 (by decide) (by decide) (by decide) (by decide); have q_f4_6 := f4_6; have q_z_13 := i_mulL (c := 8) (K := 268435455) ez_13 (by decide) (by decide) (by decide) (by decide); have q_c_15 := i_le c_15; have q_iv_17 := iv_17; have q_c_20 := i_nle c_20; have q_z_26 := i_mulL (c := 8) (K := 268435455) ez_26 (by decide) (by decide) (by decide) (by decide); have g_c2_6 := i_rg c2_6; have g_r_1 := i_rg r_1; have g_r_4 := i_rg r_4; have g_v4_16 := i_rg v4_16; have g_x1 := i_rg x1; have g_z_12 := i_rg z_12; have g_z_13 := i_rg z_13; have g_z_14 := i_rg z_14; have g_z_2 := i_rg z_2; have g_z_25 := i_rg z_25; have g_z_26 := i_rg z_26; have g_z_27 := i_rg z_27; have g_z_29 := i_rg z_29; have g_z_30 := i_rg z_30; have g_z_5 := i_rg z_5; omega), ⟨by rw [ht9]; exact hP, hD⟩⟩, hS.F ht9⟩) hS.2.2 dX2_lookupLength_91
          exact J_56 _ (1) H locs ls rfl (by have e1 : (1 : Int32).toInt = 1 := (by decide); omega) hP hD hS (lv_sub hl [3, 4, 2, 1, 0] rfl)
        · exact J_51  H locs ls  hP hD hS (lv_sub hl [] rfl)
set_option maxHeartbeats 1000000 in
set_option maxRecDepth 100000 in
theorem m_X2_set (l : Launch) (g : Gm) (sz : Nat) (ws : va_W) (h0 : Nat) (x1 : Int32) (y2 : Int64) (hG : Good g ws) (o_h0 : gC ws h0 2) : Met l yX2_set (wt yX2_set cX2_set 4 none) ({ frames := 0, cells := 0, slots := 0, locals := 0 }) (va_Pc [.ref h0, .int x1, .long y2] (st_G g sz ws)) (va_Qv (fun (u9 : va_W) => True) (gQ1 g [(2, 9), (2, 10)] [] none (va_A ws sz) ws) (va_A ws sz)) (0) (0) (va_A ws sz) := by
  refine Met.ofW (cc := cX2_set) (maxL := 4) (ret := none) (by decide) rfl ?_
  intro p e s m args below meth c s₁ B hml hv
  obtain ⟨rfl, hsz, hP, hK, hD0, hex, hE⟩ := hv
  have hx := B.exec
  have hb := B.bytes
  have hr := B.returns
  have hts0 := atoms_spec (ws := wt yX2_set cX2_set 4 none) B.pre
  have hts : ∀ w ∈ tb, w.before _ s = true := fun w h => hts0 w (List.mem_cons_of_mem _ h)
  have hown : s.vm.findClass RX2 = some m.cls := findClass_of_methodNamed B.named
  subst hsz
  have hD := hD0.self (sz := s.heap.size)
  generalize hAe : va_A ws s.heap.size = A at hD hE ⊢
  have hA : ∀ q : Nat, s.heap.size ≤ q → A q := fun q h => by rw [← hAe]; exact Or.inr h
  have hS : va_S A s.heap s.heap [] := va_S.rf
  have hl := lv_entry ([.ref h0, .int x1, .long y2]) (n := 4) (Nat.le_of_ble_eq_true rfl)
  rw [lg_entry_eq]
  generalize (lg_sl ([.ref h0, .int x1, .long y2]) ++ List.replicate (4 - (lg_sl ([.ref h0, .int x1, .long y2])).length) Slot.unset).toArray = ls at hl ⊢
  have hl : lv_has ls 4 [(0, .ref h0), (1, .int x1), (2, .long y2)] := hl
  refine lv_aload_n hx hb dX2_set_0 rfl (lv_at hl 0 rfl) ?_
  refine lv_iload_n hx hb dX2_set_1 rfl (lv_at hl 1 rfl) ?_
  obtain ⟨k_1, fs9, hk_1⟩ := gC_of o_h0
  obtain ⟨r0_1, c1_1, c2_1, c3_1, c4_1, c5_1, c6_1, r7_1, n7_1, c8_1, c9_1, l10_1, c11_1, rfl, o_r0_1, a_r7_1, f2_1, f3_1, f4_1, -⟩ := (hG.1 _ _ _ _ hk_1).hX2 rfl
  have hV9 : okv ws 2 9 (.int x1) := okv_i
  refine va_put (D := gD g) (ci := 2) (v := .int x1) (ty := .int) (C := RX2) (T := TX2) (N := 12) hx hb hts inX2 tyX2 tyX2_ok nmX2 hown hK hP hD hS k_1 hk_1 rfl 9 (by decide) (hts _ kw_619) (fun _ h9 => h9) rfl (by decide +kernel) rfl rfl (Nat.le_of_ble_eq_true rfl) dX2_set_2 (fun H locs hP hD hS => ?_)
  have hi_2 : invX2 g ws h0 [.ref r0_1, .int c1_1, .int c2_1, .int c3_1, .int c4_1, .int c5_1, .int c6_1, .ref r7_1, .int c8_1, .int x1, .long l10_1, .int c11_1] := ⟨r0_1, (c1_1), (c2_1), (c3_1), (c4_1), (c5_1), (c6_1), r7_1, (n7_1), (c8_1), (x1), (l10_1), (c11_1), rfl, o_r0_1, a_r7_1, f2_1, f3_1, f4_1, trivial⟩
  obtain ⟨ws_3, e_ws_3⟩ : ∃ z, z = ws.set k_1 (h0, .inr (2, [.ref r0_1, .int c1_1, .int c2_1, .int c3_1, .int c4_1, .int c5_1, .int c6_1, .ref r7_1, .int c8_1, .int x1, .long l10_1, .int c11_1])) := ⟨_, rfl⟩
  have hP : va_P (gD g) cl0 ws_3 H := by rw [e_ws_3]; exact hP
  have hD : va_D A ws_3 := by rw [e_ws_3]; exact hD
  have E_4 : gE ws ws_3 := gE_set e_ws_3 hk_1 (cw_o (fi := 9) (v := .int x1) rfl (by decide))
  have hG : Good g ws_3 := Good_set (fi := 9) (v := .int x1) e_ws_3 hk_1 E_4 rfl hV9 hG (ivX2 hi_2)
  have Fr_5 : gF [(2, 9)] [] (some h0) ws ws_3 := gF_put (fi := 9) (v := .int x1) e_ws_3 hk_1 rfl (by decide)
  have hkN := gset_self e_ws_3 hk_1
  have hk_1 := hkN
  have o_h0 := E_4.1 _ _ o_h0
  have o_r0_1 := E_4.1 _ _ o_r0_1
  have a_r7_1 := E_4.1 _ _ a_r7_1
  refine lv_aload_n hx hb dX2_set_5 rfl (lv_at hl 0 rfl) ?_
  refine lv_lload_n hx hb dX2_set_6 rfl (lv_at hl 2 rfl) ?_
  have hV9 : okv ws_3 2 10 (.long y2) := okv_l
  refine va_put (D := gD g) (ci := 2) (v := .long y2) (ty := .long) (C := RX2) (T := TX2) (N := 12) hx hb hts inX2 tyX2 tyX2_ok nmX2 hown hK hP hD hS k_1 hk_1 rfl 10 (by decide) (hts _ kw_617) (fun _ h9 => h9) rfl (by decide +kernel) rfl rfl (Nat.le_of_ble_eq_true rfl) dX2_set_7 (fun H locs hP hD hS => ?_)
  have hi_6 : invX2 g ws_3 h0 [.ref r0_1, .int c1_1, .int c2_1, .int c3_1, .int c4_1, .int c5_1, .int c6_1, .ref r7_1, .int c8_1, .int x1, .long y2, .int c11_1] := ⟨r0_1, (c1_1), (c2_1), (c3_1), (c4_1), (c5_1), (c6_1), r7_1, (n7_1), (c8_1), (x1), (y2), (c11_1), rfl, o_r0_1, a_r7_1, f2_1, f3_1, f4_1, trivial⟩
  obtain ⟨ws_7, e_ws_7⟩ : ∃ z, z = ws_3.set k_1 (h0, .inr (2, [.ref r0_1, .int c1_1, .int c2_1, .int c3_1, .int c4_1, .int c5_1, .int c6_1, .ref r7_1, .int c8_1, .int x1, .long y2, .int c11_1])) := ⟨_, rfl⟩
  have hP : va_P (gD g) cl0 ws_7 H := by rw [e_ws_7]; exact hP
  have hD : va_D A ws_7 := by rw [e_ws_7]; exact hD
  have E_8 : gE ws_3 ws_7 := gE_set e_ws_7 hk_1 (cw_o (fi := 10) (v := .long y2) rfl (by decide))
  have hG : Good g ws_7 := Good_set (fi := 10) (v := .long y2) e_ws_7 hk_1 E_8 rfl hV9 hG (ivX2 hi_6)
  have Fr_9 : gF [(2, 10)] [] (some h0) ws_3 ws_7 := gF_put (fi := 10) (v := .long y2) e_ws_7 hk_1 rfl (by decide)
  have hkN := gset_self e_ws_7 hk_1
  have hk_1 := hkN
  have o_h0 := E_8.1 _ _ o_h0
  have o_r0_1 := E_8.1 _ _ o_r0_1
  have a_r7_1 := E_8.1 _ _ a_r7_1
  refine W.widen (k := 0) (n := 0) (Nat.le_of_ble_eq_true rfl) (Nat.le_of_ble_eq_true rfl) ?_
  exact W.vret hx hb hr (fun t9 ht9 hW9 => ⟨⟨ws_7, rfl, trivial, ⟨(E_4.tr E_8), (gF.tr (gF.mo (F' := [(2, 9), (2, 10)]) (C' := []) (S' := none) Fr_5 (by decide) (fun _ h => h) (Or.inl rfl)) (gF.mo (F' := [(2, 9), (2, 10)]) (C' := []) (S' := none) Fr_9 (by decide) (fun _ h => h) (Or.inl rfl))), hG, by rw [ht9]; exact hP, hD⟩⟩, hS.F ht9⟩) hS.2.2 dX2_set_10
set_option maxHeartbeats 1000000 in
set_option maxRecDepth 100000 in
theorem m_X2_decodeLocal (l : Launch) (g : Gm) (sz : Nat) (ws : va_W) (h0 : Nat) (x1 : Int32) (hG : Good g ws) (o_h0 : gC ws h0 2) : Met l yX2_decodeLocal (wt yX2_decodeLocal cX2_decodeLocal 4 none) ({ frames := 2, cells := 0, slots := 0, locals := 42 }) (va_Pc [.ref h0, .int x1] (st_G g sz ws)) (va_Qv (fun (u9 : va_W) => True) (gQ1 g [(2, 9), (2, 10)] [] none (va_A ws sz) ws) (va_A ws sz)) (0) (0) (va_A ws sz) := by
  refine Met.ofW (cc := cX2_decodeLocal) (maxL := 4) (ret := none) (by decide) rfl ?_
  intro p e s m args below meth c s₁ B hml hv
  obtain ⟨rfl, hsz, hP, hK, hD0, hex, hE⟩ := hv
  have hx := B.exec
  have hb := B.bytes
  have hr := B.returns
  have hts0 := atoms_spec (ws := wt yX2_decodeLocal cX2_decodeLocal 4 none) B.pre
  have hts : ∀ w ∈ tb, w.before _ s = true := fun w h => hts0 w (List.mem_cons_of_mem _ h)
  have hown : s.vm.findClass RX2 = some m.cls := findClass_of_methodNamed B.named
  subst hsz
  have hD := hD0.self (sz := s.heap.size)
  generalize hAe : va_A ws s.heap.size = A at hD hE ⊢
  have hA : ∀ q : Nat, s.heap.size ≤ q → A q := fun q h => by rw [← hAe]; exact Or.inr h
  have hS : va_S A s.heap s.heap [] := va_S.rf
  have hl := lv_entry ([.ref h0, .int x1]) (n := 4) (Nat.le_of_ble_eq_true rfl)
  rw [lg_entry_eq]
  generalize (lg_sl ([.ref h0, .int x1]) ++ List.replicate (4 - (lg_sl ([.ref h0, .int x1])).length) Slot.unset).toArray = ls at hl ⊢
  have hl : lv_has ls 4 [(0, .ref h0), (1, .int x1)] := hl
  refine lv_aload_n hx hb dX2_decodeLocal_0 rfl (lv_at hl 0 rfl) ?_
  refine lv_iload_n hx hb dX2_decodeLocal_1 rfl (lv_at hl 1 rfl) ?_
  have hFc := gfree hD hS hA
  obtain ⟨k_1, fs_1, hk_1⟩ := gC_of o_h0
  refine va_calli (va_runV (As := [.int x1]) (rest := []) ⟨hx, hb, hml, hown, hts⟩ (m_X2_u1 l g s.heap.size ws h0 (x1) hG o_h0) (cwV 1 hts (gd_V kw_682 kw_812 kw_813 kw_389 kw_811) rfl rfl rfl (by decide +kernel) ⟨Nat.le_of_ble_eq_true rfl, Nat.le_of_ble_eq_true rfl⟩) ⟨gblind, va_recv hK hP (ci := 2) (q0 := k_1) rfl hk_1, fun U hU hW9 => gmk hU hW9 hP hK hD hex hE hS hFc⟩ rfl rfl hl.1 rfl (lv_room (Nat.le_of_ble_eq_true rfl)) dX2_decodeLocal_2 ⟨Nat.le_of_ble_eq_true rfl, Nat.le_of_ble_eq_true rfl⟩) hS (fun q _ h => hFc q h) hFc (fun r_2 u9 t9 H1 locs ht9 hvm9 hw9 hB9 hz9 hk9 hS => ?_)
  have hP : va_P (gD g) cl0 ws H1 := by rw [← ht9]; exact hB9.1
  clear hB9 hz9 hk9 hvm9 ht9 hw9
  generalize H1 = H at hP hS ⊢
  refine lv_istore_n (lv' := [(2, .int r_2), (0, .ref h0), (1, .int x1)]) hx hb dX2_decodeLocal_5 rfl hl (by decide) rfl (fun ls hl => ?_)
  refine lv_iload_n hx hb dX2_decodeLocal_6 rfl (lv_at hl 0 rfl) ?_
  refine lv_sipush (v := 196) hx hb dX2_decodeLocal_7 (by decide) ?_
  have J_269 : ∀ (ws_3 : va_W) (H : Heap) (locs : List Loc) (ls : Array Slot), gE ws ws_3 → gF [(2, 9), (2, 10)] [] none ws ws_3 → Good g ws_3 → va_P (gD g) cl0 ws_3 H → va_D A ws_3 → va_S A s.heap H locs → lv_has ls 4 [] → W p l e (headSpec (wt yX2_decodeLocal cX2_decodeLocal 4 none) ({ frames := 2, cells := 0, slots := 0, locals := 42 })).room s m ([.ref h0, .int x1] : List Value).toArray below meth c H locs (0) (0) (MQ below (va_Qv (fun (u9 : va_W) => True) (gQ1 g [(2, 9), (2, 10)] [] none A ws) A) ([.ref h0, .int x1] : List Value).toArray s (0) (0) A) (F0 m 269 ls []) := by
    intro ws_3 H locs ls  E_4 Fr_5 hG hP hD hS hl
    have o_h0 := E_4.1 _ _ o_h0
    refine W.widen (k := 0) (n := 0) (Nat.le_of_ble_eq_true rfl) (Nat.le_of_ble_eq_true rfl) ?_
    exact W.vret hx hb hr (fun t9 ht9 hW9 => ⟨⟨ws_3, rfl, trivial, ⟨E_4, Fr_5, hG, by rw [ht9]; exact hP, hD⟩⟩, hS.F ht9⟩) hS.2.2 dX2_decodeLocal_269
  refine lv_icmp_ne (tgt := 81) hx hb dX2_decodeLocal_10 (by decide) (fun c_6 => ?_) (fun c_6 => ?_)
  · refine lv_iload_n hx hb dX2_decodeLocal_81 rfl (lv_at hl 0 rfl) ?_
    refine lv_sipush (v := 132) hx hb dX2_decodeLocal_82 (by decide) ?_
    refine lv_icmp_ne (tgt := 119) hx hb dX2_decodeLocal_85 (by decide) (fun c_7 => ?_) (fun c_7 => ?_)
    · refine lv_iload_n hx hb dX2_decodeLocal_119 rfl (lv_at hl 0 rfl) ?_
      have hFc := gfree hD hS hA
      refine va_calli (va_runS (As := [.int r_2]) (rest := []) ⟨hx, hb, hml, hown, hts⟩ (m_X6_usesLocal l g H.size ws (r_2) hG ) (va_cwS 1 hts (gd_S kw_693 kw_1260 kw_1207 kw_1259) rfl rfl rfl (by decide +kernel) ⟨Nat.le_of_ble_eq_true rfl, Nat.le_of_ble_eq_true rfl⟩) ⟨gblind, fun U hU hW9 => gmk hU hW9 hP hK hD hex hE hS hFc⟩ rfl rfl hl.1 rfl (lv_room (Nat.le_of_ble_eq_true rfl)) dX2_decodeLocal_120 ⟨Nat.le_of_ble_eq_true rfl, Nat.le_of_ble_eq_true rfl⟩) hS (fun q _ h => hFc q h) hFc (fun r_8 u9 t9 H1 locs ht9 hvm9 hw9 hB9 hz9 hk9 hS => ?_)
      have hP : va_P (gD g) cl0 ws H1 := by rw [← ht9]; exact hB9.1
      have hz_r_8 : r_8 = 0 ∨ r_8 = 1 := hw9
      clear hB9 hz9 hk9 hvm9 ht9 hw9
      generalize H1 = H at hP hS ⊢
      refine lv_if_eq (tgt := 142) hx hb dX2_decodeLocal_123 (by decide) (fun c_9 => ?_) (fun c_9 => ?_)
      · refine lv_iload_n hx hb dX2_decodeLocal_142 rfl (lv_at hl 0 rfl) ?_
        refine lv_bipush (v := 26) hx hb dX2_decodeLocal_143 (by decide) ?_
        have J_181 : ∀  (H : Heap) (locs : List Loc) (ls : Array Slot), va_P (gD g) cl0 ws H → va_D A ws → va_S A s.heap H locs → lv_has ls 4 [(0, .ref h0), (2, .int r_2)] → W p l e (headSpec (wt yX2_decodeLocal cX2_decodeLocal 4 none) ({ frames := 2, cells := 0, slots := 0, locals := 42 })).room s m ([.ref h0, .int x1] : List Value).toArray below meth c H locs (0) (0) (MQ below (va_Qv (fun (u9 : va_W) => True) (gQ1 g [(2, 9), (2, 10)] [] none A ws) A) ([.ref h0, .int x1] : List Value).toArray s (0) (0) A) (F0 m 181 ls []) := by
          intro  H locs ls  hP hD hS hl
          refine lv_iload_n hx hb dX2_decodeLocal_181 rfl (lv_at hl 1 rfl) ?_
          refine lv_bipush (v := 42) hx hb dX2_decodeLocal_182 (by decide) ?_
          have J_207 : ∀  (H : Heap) (locs : List Loc) (ls : Array Slot), va_P (gD g) cl0 ws H → va_D A ws → va_S A s.heap H locs → lv_has ls 4 [(0, .ref h0), (2, .int r_2)] → W p l e (headSpec (wt yX2_decodeLocal cX2_decodeLocal 4 none) ({ frames := 2, cells := 0, slots := 0, locals := 42 })).room s m ([.ref h0, .int x1] : List Value).toArray below meth c H locs (0) (0) (MQ below (va_Qv (fun (u9 : va_W) => True) (gQ1 g [(2, 9), (2, 10)] [] none A ws) A) ([.ref h0, .int x1] : List Value).toArray s (0) (0) A) (F0 m 207 ls []) := by
            intro  H locs ls  hP hD hS hl
            refine lv_iload_n hx hb dX2_decodeLocal_207 rfl (lv_at hl 1 rfl) ?_
            refine lv_bipush (v := 59) hx hb dX2_decodeLocal_208 (by decide) ?_
            have J_246 : ∀  (H : Heap) (locs : List Loc) (ls : Array Slot), va_P (gD g) cl0 ws H → va_D A ws → va_S A s.heap H locs → lv_has ls 4 [(0, .ref h0), (2, .int r_2)] → W p l e (headSpec (wt yX2_decodeLocal cX2_decodeLocal 4 none) ({ frames := 2, cells := 0, slots := 0, locals := 42 })).room s m ([.ref h0, .int x1] : List Value).toArray below meth c H locs (0) (0) (MQ below (va_Qv (fun (u9 : va_W) => True) (gQ1 g [(2, 9), (2, 10)] [] none A ws) A) ([.ref h0, .int x1] : List Value).toArray s (0) (0) A) (F0 m 246 ls []) := by
              intro  H locs ls  hP hD hS hl
              refine lv_iload_n hx hb dX2_decodeLocal_246 rfl (lv_at hl 1 rfl) ?_
              refine lv_bipush (v := 75) hx hb dX2_decodeLocal_247 (by decide) ?_
              refine lv_icmp_lt (tgt := 269) hx hb dX2_decodeLocal_249 (by decide) (fun c_16 => ?_) (fun c_16 => ?_)
              · exact J_269 ws H locs ls (gE.rf) (gF.rf) hG hP hD hS (lv_sub hl [] rfl)
              · refine lv_iload_n hx hb dX2_decodeLocal_252 rfl (lv_at hl 1 rfl) ?_
                refine lv_bipush (v := 78) hx hb dX2_decodeLocal_253 (by decide) ?_
                refine lv_icmp_gt (tgt := 269) hx hb dX2_decodeLocal_255 (by decide) (fun c_17 => ?_) (fun c_17 => ?_)
                · exact J_269 ws H locs ls (gE.rf) (gF.rf) hG hP hD hS (lv_sub hl [] rfl)
                · refine lv_aload_n hx hb dX2_decodeLocal_258 rfl (lv_at hl 0 rfl) ?_
                  refine lv_bipush (v := 58) hx hb dX2_decodeLocal_259 (by decide) ?_
                  refine lv_iload_n hx hb dX2_decodeLocal_261 rfl (lv_at hl 1 rfl) ?_
                  refine lv_bipush (v := 75) hx hb dX2_decodeLocal_262 (by decide) ?_
                  refine lv_isub hx hb dX2_decodeLocal_264 ?_
                  refine lv_topi (fun z_18 ez_18 => ?_)
                  obtain ⟨z_19, ez_19⟩ : ∃ y : Int64, (z_18 : Int32).toInt64 = y := ⟨_, rfl⟩
                  refine lv_i2l (v := z_19) hx hb dX2_decodeLocal_265 ez_19 ?_
                  have hFc := gfree hD hS hA
                  obtain ⟨k_20, fs_20, hk_20⟩ := gC_of o_h0
                  refine va_callv (va_runV (As := [.int 58, .long z_19]) (rest := []) ⟨hx, hb, hml, hown, hts⟩ (m_X2_set l g H.size ws h0 (58) (z_19) hG o_h0) (cwV 2 hts (gd_V kw_684 kw_793 kw_794 kw_389 kw_792) rfl rfl rfl (by decide +kernel) ⟨Nat.le_of_ble_eq_true rfl, Nat.le_of_ble_eq_true rfl⟩) ⟨gblind, va_recv hK hP (ci := 2) (q0 := k_20) rfl hk_20, fun U hU hW9 => gmk hU hW9 hP hK hD hex hE hS hFc⟩ rfl rfl hl.1 rfl (lv_room (Nat.le_of_ble_eq_true rfl)) dX2_decodeLocal_266 ⟨Nat.le_of_ble_eq_true rfl, Nat.le_of_ble_eq_true rfl⟩) hS (fun q _ h => hFc q h) hFc (fun  ws_21 t9 H1 locs ht9 hvm9 hw9 hB9 hz9 hk9 hS => ?_)
                  obtain ⟨E_22, Fr_23, hG, hP1, hD1⟩ := hB9
                  have hP : va_P (gD g) cl0 ws_21 H1 := by rw [← ht9]; exact hP1
                  have hD : va_D A ws_21 := hD1.weaken (fun _ _ _ h => hFc _ h)
                  clear hP1 hD1 hz9 hk9 hvm9 ht9 hw9
                  generalize H1 = H at hP hS ⊢
                  have o_h0 := E_22.1 _ _ o_h0
                  exact J_269 ws_21 H locs ls (E_22) (Fr_23) hG hP hD hS (lv_sub hl [] rfl)
            refine lv_icmp_lt (tgt := 246) hx hb dX2_decodeLocal_210 (by decide) (fun c_26 => ?_) (fun c_26 => ?_)
            · exact J_246  H locs ls  hP hD hS (lv_sub hl [0, 1] rfl)
            · refine lv_iload_n hx hb dX2_decodeLocal_213 rfl (lv_at hl 1 rfl) ?_
              refine lv_bipush (v := 66) hx hb dX2_decodeLocal_214 (by decide) ?_
              refine lv_icmp_gt (tgt := 246) hx hb dX2_decodeLocal_216 (by decide) (fun c_27 => ?_) (fun c_27 => ?_)
              · exact J_246  H locs ls  hP hD hS (lv_sub hl [0, 1] rfl)
              · refine lv_aload_n hx hb dX2_decodeLocal_219 rfl (lv_at hl 0 rfl) ?_
                refine lv_iload_n hx hb dX2_decodeLocal_220 rfl (lv_at hl 1 rfl) ?_
                refine lv_bipush (v := 63) hx hb dX2_decodeLocal_221 (by decide) ?_
                have J_233 : ∀ (t_28 : Int32) (H : Heap) (locs : List Loc) (ls : Array Slot), 54 ≤ t_28.toInt ∧ t_28.toInt ≤ 55 → va_P (gD g) cl0 ws H → va_D A ws → va_S A s.heap H locs → lv_has ls 4 [(2, .int r_2)] → W p l e (headSpec (wt yX2_decodeLocal cX2_decodeLocal 4 none) ({ frames := 2, cells := 0, slots := 0, locals := 42 })).room s m ([.ref h0, .int x1] : List Value).toArray below meth c H locs (0) (0) (MQ below (va_Qv (fun (u9 : va_W) => True) (gQ1 g [(2, 9), (2, 10)] [] none A ws) A) ([.ref h0, .int x1] : List Value).toArray s (0) (0) A) (F0 m 233 ls [.int t_28, .ref h0]) := by
                  intro t_28 H locs ls iv_29 hP hD hS hl
                  refine lv_iload_n hx hb dX2_decodeLocal_233 rfl (lv_at hl 0 rfl) ?_
                  refine lv_bipush (v := 59) hx hb dX2_decodeLocal_234 (by decide) ?_
                  refine lv_isub hx hb dX2_decodeLocal_236 ?_
                  refine lv_topi (fun z_32 ez_32 => ?_)
                  refine lv_iconst (v := 3) hx hb dX2_decodeLocal_237 (by decide) ?_
                  refine lv_iand hx hb dX2_decodeLocal_238 ?_
                  refine lv_topi (fun z_33 ez_33 => ?_)
                  obtain ⟨z_34, ez_34⟩ : ∃ y : Int64, (z_33 : Int32).toInt64 = y := ⟨_, rfl⟩
                  refine lv_i2l (v := z_34) hx hb dX2_decodeLocal_239 ez_34 ?_
                  have hFc := gfree hD hS hA
                  obtain ⟨k_35, fs_35, hk_35⟩ := gC_of o_h0
                  refine va_callv (va_runV (As := [.int t_28, .long z_34]) (rest := []) ⟨hx, hb, hml, hown, hts⟩ (m_X2_set l g H.size ws h0 (t_28) (z_34) hG o_h0) (cwV 2 hts (gd_V kw_684 kw_793 kw_794 kw_389 kw_792) rfl rfl rfl (by decide +kernel) ⟨Nat.le_of_ble_eq_true rfl, Nat.le_of_ble_eq_true rfl⟩) ⟨gblind, va_recv hK hP (ci := 2) (q0 := k_35) rfl hk_35, fun U hU hW9 => gmk hU hW9 hP hK hD hex hE hS hFc⟩ rfl rfl hl.1 rfl (lv_room (Nat.le_of_ble_eq_true rfl)) dX2_decodeLocal_240 ⟨Nat.le_of_ble_eq_true rfl, Nat.le_of_ble_eq_true rfl⟩) hS (fun q _ h => hFc q h) hFc (fun  ws_36 t9 H1 locs ht9 hvm9 hw9 hB9 hz9 hk9 hS => ?_)
                  obtain ⟨E_37, Fr_38, hG, hP1, hD1⟩ := hB9
                  have hP : va_P (gD g) cl0 ws_36 H1 := by rw [← ht9]; exact hP1
                  have hD : va_D A ws_36 := hD1.weaken (fun _ _ _ h => hFc _ h)
                  clear hP1 hD1 hz9 hk9 hvm9 ht9 hw9
                  generalize H1 = H at hP hS ⊢
                  have o_h0 := E_37.1 _ _ o_h0
                  refine lv_goto (tgt := 269) hx hb dX2_decodeLocal_243 (by decide) ?_
                  exact J_269 ws_36 H locs ls (E_37) (Fr_38) hG hP hD hS (lv_sub hl [] rfl)
                refine lv_icmp_ge (tgt := 231) hx hb dX2_decodeLocal_223 (by decide) (fun c_41 => ?_) (fun c_41 => ?_)
                · refine lv_bipush (v := 55) hx hb dX2_decodeLocal_231 (by decide) ?_
                  exact J_233 (55) H locs ls (by have e55 : (55 : Int32).toInt = 55 := (by decide); have g_x1 := i_rg x1; omega) hP hD hS (lv_sub hl [1] rfl)
                · refine lv_bipush (v := 54) hx hb dX2_decodeLocal_226 (by decide) ?_
                  refine lv_goto (tgt := 233) hx hb dX2_decodeLocal_228 (by decide) ?_
                  exact J_233 (54) H locs ls (by have e54 : (54 : Int32).toInt = 54 := (by decide); have g_x1 := i_rg x1; omega) hP hD hS (lv_sub hl [1] rfl)
          refine lv_icmp_lt (tgt := 207) hx hb dX2_decodeLocal_184 (by decide) (fun c_42 => ?_) (fun c_42 => ?_)
          · exact J_207  H locs ls  hP hD hS (lv_sub hl [0, 1] rfl)
          · refine lv_iload_n hx hb dX2_decodeLocal_187 rfl (lv_at hl 1 rfl) ?_
            refine lv_bipush (v := 45) hx hb dX2_decodeLocal_188 (by decide) ?_
            refine lv_icmp_gt (tgt := 207) hx hb dX2_decodeLocal_190 (by decide) (fun c_43 => ?_) (fun c_43 => ?_)
            · exact J_207  H locs ls  hP hD hS (lv_sub hl [0, 1] rfl)
            · refine lv_aload_n hx hb dX2_decodeLocal_193 rfl (lv_at hl 0 rfl) ?_
              refine lv_bipush (v := 25) hx hb dX2_decodeLocal_194 (by decide) ?_
              refine lv_iload_n hx hb dX2_decodeLocal_196 rfl (lv_at hl 1 rfl) ?_
              refine lv_bipush (v := 42) hx hb dX2_decodeLocal_197 (by decide) ?_
              refine lv_isub hx hb dX2_decodeLocal_199 ?_
              refine lv_topi (fun z_44 ez_44 => ?_)
              obtain ⟨z_45, ez_45⟩ : ∃ y : Int64, (z_44 : Int32).toInt64 = y := ⟨_, rfl⟩
              refine lv_i2l (v := z_45) hx hb dX2_decodeLocal_200 ez_45 ?_
              have hFc := gfree hD hS hA
              obtain ⟨k_46, fs_46, hk_46⟩ := gC_of o_h0
              refine va_callv (va_runV (As := [.int 25, .long z_45]) (rest := []) ⟨hx, hb, hml, hown, hts⟩ (m_X2_set l g H.size ws h0 (25) (z_45) hG o_h0) (cwV 2 hts (gd_V kw_684 kw_793 kw_794 kw_389 kw_792) rfl rfl rfl (by decide +kernel) ⟨Nat.le_of_ble_eq_true rfl, Nat.le_of_ble_eq_true rfl⟩) ⟨gblind, va_recv hK hP (ci := 2) (q0 := k_46) rfl hk_46, fun U hU hW9 => gmk hU hW9 hP hK hD hex hE hS hFc⟩ rfl rfl hl.1 rfl (lv_room (Nat.le_of_ble_eq_true rfl)) dX2_decodeLocal_201 ⟨Nat.le_of_ble_eq_true rfl, Nat.le_of_ble_eq_true rfl⟩) hS (fun q _ h => hFc q h) hFc (fun  ws_47 t9 H1 locs ht9 hvm9 hw9 hB9 hz9 hk9 hS => ?_)
              obtain ⟨E_48, Fr_49, hG, hP1, hD1⟩ := hB9
              have hP : va_P (gD g) cl0 ws_47 H1 := by rw [← ht9]; exact hP1
              have hD : va_D A ws_47 := hD1.weaken (fun _ _ _ h => hFc _ h)
              clear hP1 hD1 hz9 hk9 hvm9 ht9 hw9
              generalize H1 = H at hP hS ⊢
              have o_h0 := E_48.1 _ _ o_h0
              refine lv_goto (tgt := 269) hx hb dX2_decodeLocal_204 (by decide) ?_
              exact J_269 ws_47 H locs ls (E_48) (Fr_49) hG hP hD hS (lv_sub hl [] rfl)
        refine lv_icmp_lt (tgt := 181) hx hb dX2_decodeLocal_145 (by decide) (fun c_52 => ?_) (fun c_52 => ?_)
        · exact J_181  H locs ls  hP hD hS (lv_sub hl [1, 0] rfl)
        · refine lv_iload_n hx hb dX2_decodeLocal_148 rfl (lv_at hl 0 rfl) ?_
          refine lv_bipush (v := 33) hx hb dX2_decodeLocal_149 (by decide) ?_
          refine lv_icmp_gt (tgt := 181) hx hb dX2_decodeLocal_151 (by decide) (fun c_53 => ?_) (fun c_53 => ?_)
          · exact J_181  H locs ls  hP hD hS (lv_sub hl [1, 0] rfl)
          · refine lv_aload_n hx hb dX2_decodeLocal_154 rfl (lv_at hl 1 rfl) ?_
            refine lv_iload_n hx hb dX2_decodeLocal_155 rfl (lv_at hl 0 rfl) ?_
            refine lv_bipush (v := 30) hx hb dX2_decodeLocal_156 (by decide) ?_
            have J_168 : ∀ (t_54 : Int32) (H : Heap) (locs : List Loc) (ls : Array Slot), 21 ≤ t_54.toInt ∧ t_54.toInt ≤ 22 → va_P (gD g) cl0 ws H → va_D A ws → va_S A s.heap H locs → lv_has ls 4 [(2, .int r_2)] → W p l e (headSpec (wt yX2_decodeLocal cX2_decodeLocal 4 none) ({ frames := 2, cells := 0, slots := 0, locals := 42 })).room s m ([.ref h0, .int x1] : List Value).toArray below meth c H locs (0) (0) (MQ below (va_Qv (fun (u9 : va_W) => True) (gQ1 g [(2, 9), (2, 10)] [] none A ws) A) ([.ref h0, .int x1] : List Value).toArray s (0) (0) A) (F0 m 168 ls [.int t_54, .ref h0]) := by
              intro t_54 H locs ls iv_55 hP hD hS hl
              refine lv_iload_n hx hb dX2_decodeLocal_168 rfl (lv_at hl 0 rfl) ?_
              refine lv_bipush (v := 26) hx hb dX2_decodeLocal_169 (by decide) ?_
              refine lv_isub hx hb dX2_decodeLocal_171 ?_
              refine lv_topi (fun z_58 ez_58 => ?_)
              refine lv_iconst (v := 3) hx hb dX2_decodeLocal_172 (by decide) ?_
              refine lv_iand hx hb dX2_decodeLocal_173 ?_
              refine lv_topi (fun z_59 ez_59 => ?_)
              obtain ⟨z_60, ez_60⟩ : ∃ y : Int64, (z_59 : Int32).toInt64 = y := ⟨_, rfl⟩
              refine lv_i2l (v := z_60) hx hb dX2_decodeLocal_174 ez_60 ?_
              have hFc := gfree hD hS hA
              obtain ⟨k_61, fs_61, hk_61⟩ := gC_of o_h0
              refine va_callv (va_runV (As := [.int t_54, .long z_60]) (rest := []) ⟨hx, hb, hml, hown, hts⟩ (m_X2_set l g H.size ws h0 (t_54) (z_60) hG o_h0) (cwV 2 hts (gd_V kw_684 kw_793 kw_794 kw_389 kw_792) rfl rfl rfl (by decide +kernel) ⟨Nat.le_of_ble_eq_true rfl, Nat.le_of_ble_eq_true rfl⟩) ⟨gblind, va_recv hK hP (ci := 2) (q0 := k_61) rfl hk_61, fun U hU hW9 => gmk hU hW9 hP hK hD hex hE hS hFc⟩ rfl rfl hl.1 rfl (lv_room (Nat.le_of_ble_eq_true rfl)) dX2_decodeLocal_175 ⟨Nat.le_of_ble_eq_true rfl, Nat.le_of_ble_eq_true rfl⟩) hS (fun q _ h => hFc q h) hFc (fun  ws_62 t9 H1 locs ht9 hvm9 hw9 hB9 hz9 hk9 hS => ?_)
              obtain ⟨E_63, Fr_64, hG, hP1, hD1⟩ := hB9
              have hP : va_P (gD g) cl0 ws_62 H1 := by rw [← ht9]; exact hP1
              have hD : va_D A ws_62 := hD1.weaken (fun _ _ _ h => hFc _ h)
              clear hP1 hD1 hz9 hk9 hvm9 ht9 hw9
              generalize H1 = H at hP hS ⊢
              have o_h0 := E_63.1 _ _ o_h0
              refine lv_goto (tgt := 269) hx hb dX2_decodeLocal_178 (by decide) ?_
              exact J_269 ws_62 H locs ls (E_63) (Fr_64) hG hP hD hS (lv_sub hl [] rfl)
            refine lv_icmp_ge (tgt := 166) hx hb dX2_decodeLocal_158 (by decide) (fun c_67 => ?_) (fun c_67 => ?_)
            · refine lv_bipush (v := 22) hx hb dX2_decodeLocal_166 (by decide) ?_
              exact J_168 (22) H locs ls (by have e22 : (22 : Int32).toInt = 22 := (by decide); have g_x1 := i_rg x1; omega) hP hD hS (lv_sub hl [0] rfl)
            · refine lv_bipush (v := 21) hx hb dX2_decodeLocal_161 (by decide) ?_
              refine lv_goto (tgt := 168) hx hb dX2_decodeLocal_163 (by decide) ?_
              exact J_168 (21) H locs ls (by have e21 : (21 : Int32).toInt = 21 := (by decide); have g_x1 := i_rg x1; omega) hP hD hS (lv_sub hl [0] rfl)
      · refine lv_aload_n hx hb dX2_decodeLocal_126 rfl (lv_at hl 1 rfl) ?_
        refine lv_iload_n hx hb dX2_decodeLocal_127 rfl (lv_at hl 0 rfl) ?_
        refine lv_aload_n hx hb dX2_decodeLocal_128 rfl (lv_at hl 1 rfl) ?_
        refine lv_iload_n hx hb dX2_decodeLocal_129 rfl (lv_at hl 2 rfl) ?_
        refine lv_iconst (v := 1) hx hb dX2_decodeLocal_130 (by decide) ?_
        refine lv_iadd hx hb dX2_decodeLocal_131 ?_
        refine lv_topi (fun z_68 ez_68 => ?_)
        have hFc := gfree hD hS hA
        obtain ⟨k_69, fs_69, hk_69⟩ := gC_of o_h0
        refine va_calli (va_runV (As := [.int z_68]) (rest := [.int r_2, .ref h0]) ⟨hx, hb, hml, hown, hts⟩ (m_X2_u1 l g H.size ws h0 (z_68) hG o_h0) (cwV 1 hts (gd_V kw_682 kw_812 kw_813 kw_389 kw_811) rfl rfl rfl (by decide +kernel) ⟨Nat.le_of_ble_eq_true rfl, Nat.le_of_ble_eq_true rfl⟩) ⟨gblind, va_recv hK hP (ci := 2) (q0 := k_69) rfl hk_69, fun U hU hW9 => gmk hU hW9 hP hK hD hex hE hS hFc⟩ rfl rfl hl.1 rfl (lv_room (Nat.le_of_ble_eq_true rfl)) dX2_decodeLocal_132 ⟨Nat.le_of_ble_eq_true rfl, Nat.le_of_ble_eq_true rfl⟩) hS (fun q _ h => hFc q h) hFc (fun r_70 u9 t9 H1 locs ht9 hvm9 hw9 hB9 hz9 hk9 hS => ?_)
        have hP : va_P (gD g) cl0 ws H1 := by rw [← ht9]; exact hB9.1
        clear hB9 hz9 hk9 hvm9 ht9 hw9
        generalize H1 = H at hP hS ⊢
        obtain ⟨z_71, ez_71⟩ : ∃ y : Int64, (r_70 : Int32).toInt64 = y := ⟨_, rfl⟩
        refine lv_i2l (v := z_71) hx hb dX2_decodeLocal_135 ez_71 ?_
        have hFc := gfree hD hS hA
        obtain ⟨k_72, fs_72, hk_72⟩ := gC_of o_h0
        refine va_callv (va_runV (As := [.int r_2, .long z_71]) (rest := []) ⟨hx, hb, hml, hown, hts⟩ (m_X2_set l g H.size ws h0 (r_2) (z_71) hG o_h0) (cwV 2 hts (gd_V kw_684 kw_793 kw_794 kw_389 kw_792) rfl rfl rfl (by decide +kernel) ⟨Nat.le_of_ble_eq_true rfl, Nat.le_of_ble_eq_true rfl⟩) ⟨gblind, va_recv hK hP (ci := 2) (q0 := k_72) rfl hk_72, fun U hU hW9 => gmk hU hW9 hP hK hD hex hE hS hFc⟩ rfl rfl hl.1 rfl (lv_room (Nat.le_of_ble_eq_true rfl)) dX2_decodeLocal_136 ⟨Nat.le_of_ble_eq_true rfl, Nat.le_of_ble_eq_true rfl⟩) hS (fun q _ h => hFc q h) hFc (fun  ws_73 t9 H1 locs ht9 hvm9 hw9 hB9 hz9 hk9 hS => ?_)
        obtain ⟨E_74, Fr_75, hG, hP1, hD1⟩ := hB9
        have hP : va_P (gD g) cl0 ws_73 H1 := by rw [← ht9]; exact hP1
        have hD : va_D A ws_73 := hD1.weaken (fun _ _ _ h => hFc _ h)
        clear hP1 hD1 hz9 hk9 hvm9 ht9 hw9
        generalize H1 = H at hP hS ⊢
        have o_h0 := E_74.1 _ _ o_h0
        refine lv_goto (tgt := 269) hx hb dX2_decodeLocal_139 (by decide) ?_
        exact J_269 ws_73 H locs ls (E_74) (Fr_75) hG hP hD hS (lv_sub hl [] rfl)
    · refine lv_aload_n hx hb dX2_decodeLocal_88 rfl (lv_at hl 1 rfl) ?_
      refine lv_sipush (v := 132) hx hb dX2_decodeLocal_89 (by decide) ?_
      refine lv_aload_n hx hb dX2_decodeLocal_92 rfl (lv_at hl 1 rfl) ?_
      refine lv_iload_n hx hb dX2_decodeLocal_93 rfl (lv_at hl 2 rfl) ?_
      refine lv_iconst (v := 2) hx hb dX2_decodeLocal_94 (by decide) ?_
      refine lv_iadd hx hb dX2_decodeLocal_95 ?_
      refine lv_topi (fun z_78 ez_78 => ?_)
      have hFc := gfree hD hS hA
      obtain ⟨k_79, fs_79, hk_79⟩ := gC_of o_h0
      refine va_calli (va_runV (As := [.int z_78]) (rest := [.int 132, .ref h0]) ⟨hx, hb, hml, hown, hts⟩ (m_X2_u1 l g H.size ws h0 (z_78) hG o_h0) (cwV 1 hts (gd_V kw_682 kw_812 kw_813 kw_389 kw_811) rfl rfl rfl (by decide +kernel) ⟨Nat.le_of_ble_eq_true rfl, Nat.le_of_ble_eq_true rfl⟩) ⟨gblind, va_recv hK hP (ci := 2) (q0 := k_79) rfl hk_79, fun U hU hW9 => gmk hU hW9 hP hK hD hex hE hS hFc⟩ rfl rfl hl.1 rfl (lv_room (Nat.le_of_ble_eq_true rfl)) dX2_decodeLocal_96 ⟨Nat.le_of_ble_eq_true rfl, Nat.le_of_ble_eq_true rfl⟩) hS (fun q _ h => hFc q h) hFc (fun r_80 u9 t9 H1 locs ht9 hvm9 hw9 hB9 hz9 hk9 hS => ?_)
      have hP : va_P (gD g) cl0 ws H1 := by rw [← ht9]; exact hB9.1
      clear hB9 hz9 hk9 hvm9 ht9 hw9
      generalize H1 = H at hP hS ⊢
      obtain ⟨z_81, ez_81⟩ : ∃ y : Int32, (r_80 : Int32).toInt8.toInt32 = y := ⟨_, rfl⟩
      refine lv_i2b (v := z_81) hx hb dX2_decodeLocal_99 ez_81 ?_
      obtain ⟨z_82, ez_82⟩ : ∃ y : Int64, (z_81 : Int32).toInt64 = y := ⟨_, rfl⟩
      refine lv_i2l (v := z_82) hx hb dX2_decodeLocal_100 ez_82 ?_
      refine lv_bipush (v := 8) hx hb dX2_decodeLocal_101 (by decide) ?_
      refine lv_lshl hx hb dX2_decodeLocal_103 rfl ?_
      refine lv_topl (fun z_83 ez_83 => ?_)
      refine lv_aload_n hx hb dX2_decodeLocal_104 rfl (lv_at hl 1 rfl) ?_
      refine lv_iload_n hx hb dX2_decodeLocal_105 rfl (lv_at hl 2 rfl) ?_
      refine lv_iconst (v := 1) hx hb dX2_decodeLocal_106 (by decide) ?_
      refine lv_iadd hx hb dX2_decodeLocal_107 ?_
      refine lv_topi (fun z_84 ez_84 => ?_)
      have hFc := gfree hD hS hA
      obtain ⟨k_85, fs_85, hk_85⟩ := gC_of o_h0
      refine va_calli (va_runV (As := [.int z_84]) (rest := [.long z_83, .int 132, .ref h0]) ⟨hx, hb, hml, hown, hts⟩ (m_X2_u1 l g H.size ws h0 (z_84) hG o_h0) (cwV 1 hts (gd_V kw_682 kw_812 kw_813 kw_389 kw_811) rfl rfl rfl (by decide +kernel) ⟨Nat.le_of_ble_eq_true rfl, Nat.le_of_ble_eq_true rfl⟩) ⟨gblind, va_recv hK hP (ci := 2) (q0 := k_85) rfl hk_85, fun U hU hW9 => gmk hU hW9 hP hK hD hex hE hS hFc⟩ rfl rfl hl.1 rfl (lv_room (Nat.le_of_ble_eq_true rfl)) dX2_decodeLocal_108 ⟨Nat.le_of_ble_eq_true rfl, Nat.le_of_ble_eq_true rfl⟩) hS (fun q _ h => hFc q h) hFc (fun r_86 u9 t9 H1 locs ht9 hvm9 hw9 hB9 hz9 hk9 hS => ?_)
      have hP : va_P (gD g) cl0 ws H1 := by rw [← ht9]; exact hB9.1
      clear hB9 hz9 hk9 hvm9 ht9 hw9
      generalize H1 = H at hP hS ⊢
      obtain ⟨z_87, ez_87⟩ : ∃ y : Int64, (r_86 : Int32).toInt64 = y := ⟨_, rfl⟩
      refine lv_i2l (v := z_87) hx hb dX2_decodeLocal_111 ez_87 ?_
      refine lv_lor hx hb dX2_decodeLocal_112 ?_
      refine lv_topl (fun z_88 ez_88 => ?_)
      have hFc := gfree hD hS hA
      obtain ⟨k_89, fs_89, hk_89⟩ := gC_of o_h0
      refine va_callv (va_runV (As := [.int 132, .long z_88]) (rest := []) ⟨hx, hb, hml, hown, hts⟩ (m_X2_set l g H.size ws h0 (132) (z_88) hG o_h0) (cwV 2 hts (gd_V kw_684 kw_793 kw_794 kw_389 kw_792) rfl rfl rfl (by decide +kernel) ⟨Nat.le_of_ble_eq_true rfl, Nat.le_of_ble_eq_true rfl⟩) ⟨gblind, va_recv hK hP (ci := 2) (q0 := k_89) rfl hk_89, fun U hU hW9 => gmk hU hW9 hP hK hD hex hE hS hFc⟩ rfl rfl hl.1 rfl (lv_room (Nat.le_of_ble_eq_true rfl)) dX2_decodeLocal_113 ⟨Nat.le_of_ble_eq_true rfl, Nat.le_of_ble_eq_true rfl⟩) hS (fun q _ h => hFc q h) hFc (fun  ws_90 t9 H1 locs ht9 hvm9 hw9 hB9 hz9 hk9 hS => ?_)
      obtain ⟨E_91, Fr_92, hG, hP1, hD1⟩ := hB9
      have hP : va_P (gD g) cl0 ws_90 H1 := by rw [← ht9]; exact hP1
      have hD : va_D A ws_90 := hD1.weaken (fun _ _ _ h => hFc _ h)
      clear hP1 hD1 hz9 hk9 hvm9 ht9 hw9
      generalize H1 = H at hP hS ⊢
      have o_h0 := E_91.1 _ _ o_h0
      refine lv_goto (tgt := 269) hx hb dX2_decodeLocal_116 (by decide) ?_
      exact J_269 ws_90 H locs ls (E_91) (Fr_92) hG hP hD hS (lv_sub hl [] rfl)
  · refine lv_aload_n hx hb dX2_decodeLocal_13 rfl (lv_at hl 1 rfl) ?_
    refine lv_iload_n hx hb dX2_decodeLocal_14 rfl (lv_at hl 2 rfl) ?_
    refine lv_iconst (v := 2) hx hb dX2_decodeLocal_15 (by decide) ?_
    refine lv_iadd hx hb dX2_decodeLocal_16 ?_
    refine lv_topi (fun z_95 ez_95 => ?_)
    have hFc := gfree hD hS hA
    obtain ⟨k_96, fs_96, hk_96⟩ := gC_of o_h0
    refine va_calli (va_runV (As := [.int z_95]) (rest := []) ⟨hx, hb, hml, hown, hts⟩ (m_X2_u2 l g H.size ws h0 (z_95) hG o_h0) (cwV 1 hts (gd_V kw_685 kw_816 kw_817 kw_389 kw_815) rfl rfl rfl (by decide +kernel) ⟨Nat.le_of_ble_eq_true rfl, Nat.le_of_ble_eq_true rfl⟩) ⟨gblind, va_recv hK hP (ci := 2) (q0 := k_96) rfl hk_96, fun U hU hW9 => gmk hU hW9 hP hK hD hex hE hS hFc⟩ rfl rfl hl.1 rfl (lv_room (Nat.le_of_ble_eq_true rfl)) dX2_decodeLocal_17 ⟨Nat.le_of_ble_eq_true rfl, Nat.le_of_ble_eq_true rfl⟩) hS (fun q _ h => hFc q h) hFc (fun r_97 u9 t9 H1 locs ht9 hvm9 hw9 hB9 hz9 hk9 hS => ?_)
    have hP : va_P (gD g) cl0 ws H1 := by rw [← ht9]; exact hB9.1
    clear hB9 hz9 hk9 hvm9 ht9 hw9
    generalize H1 = H at hP hS ⊢
    refine lv_istore_n (lv' := [(3, .int r_97), (2, .int r_2), (0, .ref h0), (1, .int x1)]) hx hb dX2_decodeLocal_20 rfl hl (by decide) rfl (fun ls hl => ?_)
    refine lv_aload_n hx hb dX2_decodeLocal_21 rfl (lv_at hl 2 rfl) ?_
    refine lv_aload_n hx hb dX2_decodeLocal_22 rfl (lv_at hl 2 rfl) ?_
    refine lv_iload_n hx hb dX2_decodeLocal_23 rfl (lv_at hl 3 rfl) ?_
    refine lv_iconst (v := 1) hx hb dX2_decodeLocal_24 (by decide) ?_
    refine lv_iadd hx hb dX2_decodeLocal_25 ?_
    refine lv_topi (fun z_98 ez_98 => ?_)
    have hFc := gfree hD hS hA
    obtain ⟨k_99, fs_99, hk_99⟩ := gC_of o_h0
    refine va_calli (va_runV (As := [.int z_98]) (rest := [.ref h0]) ⟨hx, hb, hml, hown, hts⟩ (m_X2_u1 l g H.size ws h0 (z_98) hG o_h0) (cwV 1 hts (gd_V kw_682 kw_812 kw_813 kw_389 kw_811) rfl rfl rfl (by decide +kernel) ⟨Nat.le_of_ble_eq_true rfl, Nat.le_of_ble_eq_true rfl⟩) ⟨gblind, va_recv hK hP (ci := 2) (q0 := k_99) rfl hk_99, fun U hU hW9 => gmk hU hW9 hP hK hD hex hE hS hFc⟩ rfl rfl hl.1 rfl (lv_room (Nat.le_of_ble_eq_true rfl)) dX2_decodeLocal_26 ⟨Nat.le_of_ble_eq_true rfl, Nat.le_of_ble_eq_true rfl⟩) hS (fun q _ h => hFc q h) hFc (fun r_100 u9 t9 H1 locs ht9 hvm9 hw9 hB9 hz9 hk9 hS => ?_)
    have hP : va_P (gD g) cl0 ws H1 := by rw [← ht9]; exact hB9.1
    clear hB9 hz9 hk9 hvm9 ht9 hw9
    generalize H1 = H at hP hS ⊢
    refine lv_iload_n hx hb dX2_decodeLocal_29 rfl (lv_at hl 0 rfl) ?_
    refine lv_sipush (v := 255) hx hb dX2_decodeLocal_30 (by decide) ?_
    have J_75 : ∀ (t_101 : Int64) (H : Heap) (locs : List Loc) (ls : Array Slot), va_P (gD g) cl0 ws H → va_D A ws → va_S A s.heap H locs → lv_has ls 4 [] → W p l e (headSpec (wt yX2_decodeLocal cX2_decodeLocal 4 none) ({ frames := 2, cells := 0, slots := 0, locals := 42 })).room s m ([.ref h0, .int x1] : List Value).toArray below meth c H locs (0) (0) (MQ below (va_Qv (fun (u9 : va_W) => True) (gQ1 g [(2, 9), (2, 10)] [] none A ws) A) ([.ref h0, .int x1] : List Value).toArray s (0) (0) A) (F0 m 75 ls [.long t_101, .int r_100, .ref h0]) := by
      intro t_101 H locs ls  hP hD hS hl
      have hFc := gfree hD hS hA
      obtain ⟨k_104, fs_104, hk_104⟩ := gC_of o_h0
      refine va_callv (va_runV (As := [.int r_100, .long t_101]) (rest := []) ⟨hx, hb, hml, hown, hts⟩ (m_X2_set l g H.size ws h0 (r_100) (t_101) hG o_h0) (cwV 2 hts (gd_V kw_684 kw_793 kw_794 kw_389 kw_792) rfl rfl rfl (by decide +kernel) ⟨Nat.le_of_ble_eq_true rfl, Nat.le_of_ble_eq_true rfl⟩) ⟨gblind, va_recv hK hP (ci := 2) (q0 := k_104) rfl hk_104, fun U hU hW9 => gmk hU hW9 hP hK hD hex hE hS hFc⟩ rfl rfl hl.1 rfl (lv_room (Nat.le_of_ble_eq_true rfl)) dX2_decodeLocal_75 ⟨Nat.le_of_ble_eq_true rfl, Nat.le_of_ble_eq_true rfl⟩) hS (fun q _ h => hFc q h) hFc (fun  ws_105 t9 H1 locs ht9 hvm9 hw9 hB9 hz9 hk9 hS => ?_)
      obtain ⟨E_106, Fr_107, hG, hP1, hD1⟩ := hB9
      have hP : va_P (gD g) cl0 ws_105 H1 := by rw [← ht9]; exact hP1
      have hD : va_D A ws_105 := hD1.weaken (fun _ _ _ h => hFc _ h)
      clear hP1 hD1 hz9 hk9 hvm9 ht9 hw9
      generalize H1 = H at hP hS ⊢
      have o_h0 := E_106.1 _ _ o_h0
      refine lv_goto (tgt := 269) hx hb dX2_decodeLocal_78 (by decide) ?_
      exact J_269 ws_105 H locs ls (E_106) (Fr_107) hG hP hD hS (lv_sub hl [] rfl)
    refine lv_icmp_le (tgt := 42) hx hb dX2_decodeLocal_33 (by decide) (fun c_110 => ?_) (fun c_110 => ?_)
    · refine lv_aload_n hx hb dX2_decodeLocal_42 rfl (lv_at hl 2 rfl) ?_
      refine lv_iload_n hx hb dX2_decodeLocal_43 rfl (lv_at hl 3 rfl) ?_
      refine lv_iconst (v := 1) hx hb dX2_decodeLocal_44 (by decide) ?_
      refine lv_iadd hx hb dX2_decodeLocal_45 ?_
      refine lv_topi (fun z_111 ez_111 => ?_)
      have hFc := gfree hD hS hA
      obtain ⟨k_112, fs_112, hk_112⟩ := gC_of o_h0
      refine va_calli (va_runV (As := [.int z_111]) (rest := [.int r_100, .ref h0]) ⟨hx, hb, hml, hown, hts⟩ (m_X2_u1 l g H.size ws h0 (z_111) hG o_h0) (cwV 1 hts (gd_V kw_682 kw_812 kw_813 kw_389 kw_811) rfl rfl rfl (by decide +kernel) ⟨Nat.le_of_ble_eq_true rfl, Nat.le_of_ble_eq_true rfl⟩) ⟨gblind, va_recv hK hP (ci := 2) (q0 := k_112) rfl hk_112, fun U hU hW9 => gmk hU hW9 hP hK hD hex hE hS hFc⟩ rfl rfl hl.1 rfl (lv_room (Nat.le_of_ble_eq_true rfl)) dX2_decodeLocal_46 ⟨Nat.le_of_ble_eq_true rfl, Nat.le_of_ble_eq_true rfl⟩) hS (fun q _ h => hFc q h) hFc (fun r_113 u9 t9 H1 locs ht9 hvm9 hw9 hB9 hz9 hk9 hS => ?_)
      have hP : va_P (gD g) cl0 ws H1 := by rw [← ht9]; exact hB9.1
      clear hB9 hz9 hk9 hvm9 ht9 hw9
      generalize H1 = H at hP hS ⊢
      refine lv_sipush (v := 132) hx hb dX2_decodeLocal_49 (by decide) ?_
      refine lv_icmp_ne (tgt := 73) hx hb dX2_decodeLocal_52 (by decide) (fun c_114 => ?_) (fun c_114 => ?_)
      · refine lv_iload_n hx hb dX2_decodeLocal_73 rfl (lv_at hl 0 rfl) ?_
        obtain ⟨z_115, ez_115⟩ : ∃ y : Int64, (r_97 : Int32).toInt64 = y := ⟨_, rfl⟩
        refine lv_i2l (v := z_115) hx hb dX2_decodeLocal_74 ez_115 ?_
        exact J_75 (z_115) H locs ls  hP hD hS (lv_sub hl [] rfl)
      · refine lv_aload_n hx hb dX2_decodeLocal_55 rfl (lv_at hl 2 rfl) ?_
        refine lv_iload_n hx hb dX2_decodeLocal_56 rfl (lv_at hl 3 rfl) ?_
        refine lv_iconst (v := 4) hx hb dX2_decodeLocal_57 (by decide) ?_
        refine lv_iadd hx hb dX2_decodeLocal_58 ?_
        refine lv_topi (fun z_116 ez_116 => ?_)
        have hFc := gfree hD hS hA
        obtain ⟨k_117, fs_117, hk_117⟩ := gC_of o_h0
        refine va_calli (va_runV (As := [.int z_116]) (rest := [.int r_100, .ref h0]) ⟨hx, hb, hml, hown, hts⟩ (m_X2_u2 l g H.size ws h0 (z_116) hG o_h0) (cwV 1 hts (gd_V kw_685 kw_816 kw_817 kw_389 kw_815) rfl rfl rfl (by decide +kernel) ⟨Nat.le_of_ble_eq_true rfl, Nat.le_of_ble_eq_true rfl⟩) ⟨gblind, va_recv hK hP (ci := 2) (q0 := k_117) rfl hk_117, fun U hU hW9 => gmk hU hW9 hP hK hD hex hE hS hFc⟩ rfl rfl hl.1 rfl (lv_room (Nat.le_of_ble_eq_true rfl)) dX2_decodeLocal_59 ⟨Nat.le_of_ble_eq_true rfl, Nat.le_of_ble_eq_true rfl⟩) hS (fun q _ h => hFc q h) hFc (fun r_118 u9 t9 H1 locs ht9 hvm9 hw9 hB9 hz9 hk9 hS => ?_)
        have hP : va_P (gD g) cl0 ws H1 := by rw [← ht9]; exact hB9.1
        clear hB9 hz9 hk9 hvm9 ht9 hw9
        generalize H1 = H at hP hS ⊢
        obtain ⟨z_119, ez_119⟩ : ∃ y : Int32, (r_118 : Int32).toInt16.toInt32 = y := ⟨_, rfl⟩
        refine lv_i2s (v := z_119) hx hb dX2_decodeLocal_62 ez_119 ?_
        obtain ⟨z_120, ez_120⟩ : ∃ y : Int64, (z_119 : Int32).toInt64 = y := ⟨_, rfl⟩
        refine lv_i2l (v := z_120) hx hb dX2_decodeLocal_63 ez_120 ?_
        refine lv_bipush (v := 8) hx hb dX2_decodeLocal_64 (by decide) ?_
        refine lv_lshl hx hb dX2_decodeLocal_66 rfl ?_
        refine lv_topl (fun z_121 ez_121 => ?_)
        refine lv_iload_n hx hb dX2_decodeLocal_67 rfl (lv_at hl 0 rfl) ?_
        obtain ⟨z_122, ez_122⟩ : ∃ y : Int64, (r_97 : Int32).toInt64 = y := ⟨_, rfl⟩
        refine lv_i2l (v := z_122) hx hb dX2_decodeLocal_68 ez_122 ?_
        refine lv_lor hx hb dX2_decodeLocal_69 ?_
        refine lv_topl (fun z_123 ez_123 => ?_)
        refine lv_goto (tgt := 75) hx hb dX2_decodeLocal_70 (by decide) ?_
        exact J_75 (z_123) H locs ls  hP hD hS (lv_sub hl [] rfl)
    · refine lv_ldc2 hx hb hown (hts _ kw_692) dX2_decodeLocal_36 ?_
      refine lv_goto (tgt := 75) hx hb dX2_decodeLocal_39 (by decide) ?_
      exact J_75 (255) H locs ls  hP hD hS (lv_sub hl [] rfl)
set_option maxHeartbeats 1000000 in
set_option maxRecDepth 100000 in
theorem m_X2_numberOf (l : Launch) (g : Gm) (sz : Nat) (ws : va_W) (h0 : Nat) (y1 : Int64) (hG : Good g ws) (o_h0 : gC ws h0 2) : Met l yX2_numberOf (wt yX2_numberOf cX2_numberOf 3 (some .int)) ({ frames := 0, cells := 0, slots := 0, locals := 0 }) (va_Pc [.ref h0, .long y1] (st_G g sz ws)) (va_Qi (fun (r : Int32) (u9 : Unit) => True) (gQ0 g (va_A ws sz) ws) (va_A ws sz)) (0) (0) (va_A ws sz) := by
  refine Met.ofW (cc := cX2_numberOf) (maxL := 3) (ret := (some .int)) (by decide) rfl ?_
  intro p e s m args below meth c s₁ B hml hv
  obtain ⟨rfl, hsz, hP, hK, hD0, hex, hE⟩ := hv
  have hx := B.exec
  have hb := B.bytes
  have hr := B.returns
  have hts0 := atoms_spec (ws := wt yX2_numberOf cX2_numberOf 3 (some .int)) B.pre
  have hts : ∀ w ∈ tb, w.before _ s = true := fun w h => hts0 w (List.mem_cons_of_mem _ h)
  have hown : s.vm.findClass RX2 = some m.cls := findClass_of_methodNamed B.named
  subst hsz
  have hD := hD0.self (sz := s.heap.size)
  generalize hAe : va_A ws s.heap.size = A at hD hE ⊢
  have hA : ∀ q : Nat, s.heap.size ≤ q → A q := fun q h => by rw [← hAe]; exact Or.inr h
  have hS : va_S A s.heap s.heap [] := va_S.rf
  have hl := lv_entry ([.ref h0, .long y1]) (n := 3) (Nat.le_of_ble_eq_true rfl)
  rw [lg_entry_eq]
  generalize (lg_sl ([.ref h0, .long y1]) ++ List.replicate (3 - (lg_sl ([.ref h0, .long y1])).length) Slot.unset).toArray = ls at hl ⊢
  have hl : lv_has ls 3 [(0, .ref h0), (1, .long y1)] := hl
  refine lv_lload_n hx hb dX2_numberOf_0 rfl (lv_at hl 1 rfl) ?_
  refine lv_lconst (v := 0) hx hb dX2_numberOf_1 (by decide) ?_
  refine W.lcmp hx hb dX2_numberOf_2 ?_
  refine lv_topi (fun z_1 ez_1 => ?_)
  have J_38 : ∀ (t_2 : Int32) (H : Heap) (locs : List Loc) (ls : Array Slot), va_P (gD g) cl0 ws H → va_D A ws → va_S A s.heap H locs → lv_has ls 3 [] → W p l e (headSpec (wt yX2_numberOf cX2_numberOf 3 (some .int)) ({ frames := 0, cells := 0, slots := 0, locals := 0 })).room s m ([.ref h0, .long y1] : List Value).toArray below meth c H locs (0) (0) (MQ below (va_Qi (fun (r : Int32) (u9 : Unit) => True) (gQ0 g A ws) A) ([.ref h0, .long y1] : List Value).toArray s (0) (0) A) (F0 m 38 ls [.int t_2]) := by
    intro t_2 H locs ls  hP hD hS hl
    refine W.widen (k := 0) (n := 0) (Nat.le_of_ble_eq_true rfl) (Nat.le_of_ble_eq_true rfl) ?_
    exact W.iret (v := t_2) hx hb hr (fun t9 ht9 hW9 => ⟨⟨_, (), rfl, trivial, ⟨by rw [ht9]; exact hP, hD⟩⟩, hS.F ht9⟩) hS.2.2 dX2_numberOf_38
  have J_27 : ∀  (H : Heap) (locs : List Loc) (ls : Array Slot), va_P (gD g) cl0 ws H → va_D A ws → va_S A s.heap H locs → lv_has ls 3 [] → W p l e (headSpec (wt yX2_numberOf cX2_numberOf 3 (some .int)) ({ frames := 0, cells := 0, slots := 0, locals := 0 })).room s m ([.ref h0, .long y1] : List Value).toArray below meth c H locs (0) (0) (MQ below (va_Qi (fun (r : Int32) (u9 : Unit) => True) (gQ0 g A ws) A) ([.ref h0, .long y1] : List Value).toArray s (0) (0) A) (F0 m 27 ls []) := by
    intro  H locs ls  hP hD hS hl
    refine lv_iconst (v := (-1)) hx hb dX2_numberOf_27 (by decide) ?_
    refine lv_goto (tgt := 38) hx hb dX2_numberOf_28 (by decide) ?_
    exact J_38 ((-1)) H locs ls  hP hD hS (lv_sub hl [] rfl)
  refine lv_if_lt (tgt := 27) hx hb dX2_numberOf_3 (by decide) (fun c_7 => ?_) (fun c_7 => ?_)
  · exact J_27  _ _ ls  hP hD hS (lv_sub hl [] rfl)
  · refine lv_lload_n hx hb dX2_numberOf_6 rfl (lv_at hl 1 rfl) ?_
    refine lv_aload_n hx hb dX2_numberOf_7 rfl (lv_at hl 0 rfl) ?_
    obtain ⟨k_8, fs9, hk_8⟩ := gC_of o_h0
    obtain ⟨r0_8, c1_8, c2_8, c3_8, c4_8, c5_8, c6_8, r7_8, n7_8, c8_8, c9_8, l10_8, c11_8, rfl, o_r0_8, a_r7_8, f2_8, f3_8, f4_8, -⟩ := (hG.1 _ _ _ _ hk_8).hX2 rfl
    refine va_get (D := gD g) (ci := 2) (v := .int c2_8) (C := RX2) (T := TX2) (N := 12) hx hb hts inX2 hown hK hP k_8 hk_8 rfl 2 (by decide) (hts _ kw_716) (fun _ h9 => h9) rfl dX2_numberOf_8 ?_
    obtain ⟨z_9, ez_9⟩ : ∃ y : Int64, (c2_8 : Int32).toInt64 = y := ⟨_, rfl⟩
    refine lv_i2l (v := z_9) hx hb dX2_numberOf_11 ez_9 ?_
    refine W.lcmp hx hb dX2_numberOf_12 ?_
    refine lv_topi (fun z_10 ez_10 => ?_)
    refine lv_if_gt (tgt := 27) hx hb dX2_numberOf_13 (by decide) (fun c_11 => ?_) (fun c_11 => ?_)
    · exact J_27  _ _ ls  hP hD hS (lv_sub hl [] rfl)
    · refine lv_lload_n hx hb dX2_numberOf_16 rfl (lv_at hl 1 rfl) ?_
      refine lv_aload_n hx hb dX2_numberOf_17 rfl (lv_at hl 0 rfl) ?_
      refine va_get (D := gD g) (ci := 2) (v := .ref r7_8) (C := RX2) (T := TX2) (N := 12) hx hb hts inX2 hown hK hP k_8 hk_8 rfl 7 (by decide) (hts _ kw_711) (fun _ h9 => h9) rfl dX2_numberOf_18 ?_
      obtain ⟨k_12, f_12, hk_12⟩ := gI_of a_r7_8
      obtain ⟨z_13, ez_13⟩ : ∃ z : Int32, Int32.ofNat n7_8 = z := ⟨_, rfl⟩
      refine va_alen (v := z_13) hx hb hK hP k_12 1 hk_12 rfl ez_13 dX2_numberOf_21 ?_
      obtain ⟨z_14, ez_14⟩ : ∃ y : Int64, (z_13 : Int32).toInt64 = y := ⟨_, rfl⟩
      refine lv_i2l (v := z_14) hx hb dX2_numberOf_22 ez_14 ?_
      refine W.lcmp hx hb dX2_numberOf_23 ?_
      refine lv_topi (fun z_15 ez_15 => ?_)
      refine lv_if_lt (tgt := 31) hx hb dX2_numberOf_24 (by decide) (fun c_16 => ?_) (fun c_16 => ?_)
      · refine lv_aload_n hx hb dX2_numberOf_31 rfl (lv_at hl 0 rfl) ?_
        refine va_get (D := gD g) (ci := 2) (v := .ref r7_8) (C := RX2) (T := TX2) (N := 12) hx hb hts inX2 hown hK hP k_8 hk_8 rfl 7 (by decide) (hts _ kw_711) (fun _ h9 => h9) rfl dX2_numberOf_32 ?_
        refine lv_lload_n hx hb dX2_numberOf_35 rfl (lv_at hl 1 rfl) ?_
        obtain ⟨z_17, ez_17⟩ : ∃ y : Int32, (y1 : Int64).toInt32 = y := ⟨_, rfl⟩
        refine lv_l2i (v := z_17) hx hb dX2_numberOf_36 ez_17 ?_
        refine va_iald hx hb hK hP k_12 1 hk_12 rfl (i_in2 (by have e0 : (0 : Int32).toInt = 0 := (by decide); have el0 : (0 : Int64).toInt = 0 := (by decide); have q_f2_8 := f2_8; have q_f3_8 := f3_8; have q_z_13 := i_len ez_13 f2_8; have q_z_17 := l_2i ez_17; have q_z_1 := l_cmp ez_1; have q_z_10 := l_cmp ez_10; have q_z_14 := l_of ez_14; have q_z_15 := l_cmp ez_15; have q_c_7 := i_nlt c_7; have q_z_9 := l_of ez_9; have q_c_11 := i_nlt c_11; have q_c_16 := i_lt c_16; have q_f4_8 := f4_8; have g_c2_8 := i_rg c2_8; have g_z_1 := i_rg z_1; have g_z_10 := i_rg z_10; have g_z_13 := i_rg z_13; have g_z_15 := i_rg z_15; have g_z_17 := i_rg z_17; omega)) dX2_numberOf_37 ?_
        refine lv_topi (fun z_18 ez_18 => ?_)
        exact J_38 (z_18) _ _ ls  hP hD hS (lv_sub hl [] rfl)
      · exact J_27  _ _ ls  hP hD hS (lv_sub hl [] rfl)
set_option maxHeartbeats 1000000 in
set_option maxRecDepth 100000 in
theorem m_X2_isInstruction (l : Launch) (g : Gm) (sz : Nat) (ws : va_W) (h0 : Nat) (y1 : Int64) (hG : Good g ws) (o_h0 : gC ws h0 2) : Met l yX2_isInstruction (wt yX2_isInstruction cX2_isInstruction 3 (some .boolean)) ({ frames := 1, cells := 0, slots := 0, locals := 22 }) (va_Pc [.ref h0, .long y1] (st_G g sz ws)) (va_Qi (fun (r : Int32) (u9 : Unit) => r = 0 ∨ r = 1) (gQ0 g (va_A ws sz) ws) (va_A ws sz)) (0) (0) (va_A ws sz) := by
  refine Met.ofW (cc := cX2_isInstruction) (maxL := 3) (ret := (some .boolean)) (by decide) rfl ?_
  intro p e s m args below meth c s₁ B hml hv
  obtain ⟨rfl, hsz, hP, hK, hD0, hex, hE⟩ := hv
  have hx := B.exec
  have hb := B.bytes
  have hr := B.returns
  have hts0 := atoms_spec (ws := wt yX2_isInstruction cX2_isInstruction 3 (some .boolean)) B.pre
  have hts : ∀ w ∈ tb, w.before _ s = true := fun w h => hts0 w (List.mem_cons_of_mem _ h)
  have hown : s.vm.findClass RX2 = some m.cls := findClass_of_methodNamed B.named
  subst hsz
  have hD := hD0.self (sz := s.heap.size)
  generalize hAe : va_A ws s.heap.size = A at hD hE ⊢
  have hA : ∀ q : Nat, s.heap.size ≤ q → A q := fun q h => by rw [← hAe]; exact Or.inr h
  have hS : va_S A s.heap s.heap [] := va_S.rf
  have hl := lv_entry ([.ref h0, .long y1]) (n := 3) (Nat.le_of_ble_eq_true rfl)
  rw [lg_entry_eq]
  generalize (lg_sl ([.ref h0, .long y1]) ++ List.replicate (3 - (lg_sl ([.ref h0, .long y1])).length) Slot.unset).toArray = ls at hl ⊢
  have hl : lv_has ls 3 [(0, .ref h0), (1, .long y1)] := hl
  refine lv_lload_n hx hb dX2_isInstruction_0 rfl (lv_at hl 1 rfl) ?_
  refine lv_aload_n hx hb dX2_isInstruction_1 rfl (lv_at hl 0 rfl) ?_
  obtain ⟨k_1, fs9, hk_1⟩ := gC_of o_h0
  obtain ⟨r0_1, c1_1, c2_1, c3_1, c4_1, c5_1, c6_1, r7_1, n7_1, c8_1, c9_1, l10_1, c11_1, rfl, o_r0_1, a_r7_1, f2_1, f3_1, f4_1, -⟩ := (hG.1 _ _ _ _ hk_1).hX2 rfl
  refine va_get (D := gD g) (ci := 2) (v := .int c2_1) (C := RX2) (T := TX2) (N := 12) hx hb hts inX2 hown hK hP k_1 hk_1 rfl 2 (by decide) (hts _ kw_716) (fun _ h9 => h9) rfl dX2_isInstruction_2 ?_
  obtain ⟨z_2, ez_2⟩ : ∃ y : Int64, (c2_1 : Int32).toInt64 = y := ⟨_, rfl⟩
  refine lv_i2l (v := z_2) hx hb dX2_isInstruction_5 ez_2 ?_
  refine W.lcmp hx hb dX2_isInstruction_6 ?_
  refine lv_topi (fun z_3 ez_3 => ?_)
  have J_23 : ∀ (t_4 : Int32) (H : Heap) (locs : List Loc) (ls : Array Slot), t_4 = 0 ∨ t_4 = 1 → va_P (gD g) cl0 ws H → va_D A ws → va_S A s.heap H locs → lv_has ls 3 [] → W p l e (headSpec (wt yX2_isInstruction cX2_isInstruction 3 (some .boolean)) ({ frames := 1, cells := 0, slots := 0, locals := 22 })).room s m ([.ref h0, .long y1] : List Value).toArray below meth c H locs (0) (0) (MQ below (va_Qi (fun (r : Int32) (u9 : Unit) => r = 0 ∨ r = 1) (gQ0 g A ws) A) ([.ref h0, .long y1] : List Value).toArray s (0) (0) A) (F0 m 23 ls [.int t_4]) := by
    intro t_4 H locs ls iv_5 hP hD hS hl
    have hz_t_4 := iv_5
    refine W.widen (k := 0) (n := 0) (Nat.le_of_ble_eq_true rfl) (Nat.le_of_ble_eq_true rfl) ?_
    exact W.zret (v := t_4) hx hb hr (nz hz_t_4) (fun t9 ht9 hW9 => ⟨⟨_, (), rfl, hz_t_4, ⟨by rw [ht9]; exact hP, hD⟩⟩, hS.F ht9⟩) hS.2.2 dX2_isInstruction_23
  have J_22 : ∀  (H : Heap) (locs : List Loc) (ls : Array Slot), va_P (gD g) cl0 ws H → va_D A ws → va_S A s.heap H locs → lv_has ls 3 [] → W p l e (headSpec (wt yX2_isInstruction cX2_isInstruction 3 (some .boolean)) ({ frames := 1, cells := 0, slots := 0, locals := 22 })).room s m ([.ref h0, .long y1] : List Value).toArray below meth c H locs (0) (0) (MQ below (va_Qi (fun (r : Int32) (u9 : Unit) => r = 0 ∨ r = 1) (gQ0 g A ws) A) ([.ref h0, .long y1] : List Value).toArray s (0) (0) A) (F0 m 22 ls []) := by
    intro  H locs ls  hP hD hS hl
    refine lv_iconst (v := 0) hx hb dX2_isInstruction_22 (by decide) ?_
    exact J_23 (0) H locs ls (Or.inl rfl) hP hD hS (lv_sub hl [] rfl)
  refine lv_if_ge (tgt := 22) hx hb dX2_isInstruction_7 (by decide) (fun c_10 => ?_) (fun c_10 => ?_)
  · exact J_22  _ _ ls  hP hD hS (lv_sub hl [] rfl)
  · refine lv_aload_n hx hb dX2_isInstruction_10 rfl (lv_at hl 0 rfl) ?_
    refine lv_lload_n hx hb dX2_isInstruction_11 rfl (lv_at hl 1 rfl) ?_
    have hFc := gfree hD hS hA
    refine va_calli (va_runV (As := [.long y1]) (rest := []) ⟨hx, hb, hml, hown, hts⟩ (m_X2_numberOf l g s.heap.size ws h0 (y1) hG o_h0) (cwV 1 hts (gd_V kw_625 kw_761 kw_762 kw_389 kw_760) rfl rfl rfl (by decide +kernel) ⟨Nat.le_of_ble_eq_true rfl, Nat.le_of_ble_eq_true rfl⟩) ⟨gblind, va_recv hK hP (ci := 2) (q0 := k_1) rfl hk_1, fun U hU hW9 => gmk hU hW9 hP hK hD hex hE hS hFc⟩ rfl rfl hl.1 rfl (lv_room (Nat.le_of_ble_eq_true rfl)) dX2_isInstruction_12 ⟨Nat.le_of_ble_eq_true rfl, Nat.le_of_ble_eq_true rfl⟩) hS (fun q _ h => hFc q h) hFc (fun r_11 u9 t9 H1 locs ht9 hvm9 hw9 hB9 hz9 hk9 hS => ?_)
    have hP : va_P (gD g) cl0 ws H1 := by rw [← ht9]; exact hB9.1
    clear hB9 hz9 hk9 hvm9 ht9 hw9
    generalize H1 = H at hP hS ⊢
    refine lv_if_lt (tgt := 22) hx hb dX2_isInstruction_15 (by decide) (fun c_12 => ?_) (fun c_12 => ?_)
    · exact J_22  H locs ls  hP hD hS (lv_sub hl [] rfl)
    · refine lv_iconst (v := 1) hx hb dX2_isInstruction_18 (by decide) ?_
      refine lv_goto (tgt := 23) hx hb dX2_isInstruction_19 (by decide) ?_
      exact J_23 (1) H locs ls (Or.inr rfl) hP hD hS (lv_sub hl [] rfl)
set_option maxHeartbeats 1000000 in
set_option maxRecDepth 100000 in
theorem m_X2_switchCount (l : Launch) (g : Gm) (sz : Nat) (ws : va_W) (h0 : Nat) (x1 : Int32) (hG : Good g ws) (o_h0 : gC ws h0 2) : Met l yX2_switchCount (wt yX2_switchCount cX2_switchCount 2 (some .int)) ({ frames := 2, cells := 0, slots := 0, locals := 42 }) (va_Pc [.ref h0, .int x1] (st_G g sz ws)) (va_Qi (fun (r : Int32) (u9 : Unit) => True) (gQ0 g (va_A ws sz) ws) (va_A ws sz)) (0) (0) (va_A ws sz) := by
  refine Met.ofW (cc := cX2_switchCount) (maxL := 2) (ret := (some .int)) (by decide) rfl ?_
  intro p e s m args below meth c s₁ B hml hv
  obtain ⟨rfl, hsz, hP, hK, hD0, hex, hE⟩ := hv
  have hx := B.exec
  have hb := B.bytes
  have hr := B.returns
  have hts0 := atoms_spec (ws := wt yX2_switchCount cX2_switchCount 2 (some .int)) B.pre
  have hts : ∀ w ∈ tb, w.before _ s = true := fun w h => hts0 w (List.mem_cons_of_mem _ h)
  have hown : s.vm.findClass RX2 = some m.cls := findClass_of_methodNamed B.named
  subst hsz
  have hD := hD0.self (sz := s.heap.size)
  generalize hAe : va_A ws s.heap.size = A at hD hE ⊢
  have hA : ∀ q : Nat, s.heap.size ≤ q → A q := fun q h => by rw [← hAe]; exact Or.inr h
  have hS : va_S A s.heap s.heap [] := va_S.rf
  have hl := lv_entry ([.ref h0, .int x1]) (n := 2) (Nat.le_of_ble_eq_true rfl)
  rw [lg_entry_eq]
  generalize (lg_sl ([.ref h0, .int x1]) ++ List.replicate (2 - (lg_sl ([.ref h0, .int x1])).length) Slot.unset).toArray = ls at hl ⊢
  have hl : lv_has ls 2 [(0, .ref h0), (1, .int x1)] := hl
  refine lv_aload_n hx hb dX2_switchCount_0 rfl (lv_at hl 0 rfl) ?_
  obtain ⟨k_1, fs9, hk_1⟩ := gC_of o_h0
  obtain ⟨r0_1, c1_1, c2_1, c3_1, c4_1, c5_1, c6_1, r7_1, n7_1, c8_1, c9_1, l10_1, c11_1, rfl, o_r0_1, a_r7_1, f2_1, f3_1, f4_1, -⟩ := (hG.1 _ _ _ _ hk_1).hX2 rfl
  refine va_get (D := gD g) (ci := 2) (v := .int c9_1) (C := RX2) (T := TX2) (N := 12) hx hb hts inX2 hown hK hP k_1 hk_1 rfl 9 (by decide) (hts _ kw_619) (fun _ h9 => h9) rfl dX2_switchCount_1 ?_
  refine lv_sipush (v := 170) hx hb dX2_switchCount_4 (by decide) ?_
  have J_38 : ∀ (t_2 : Int32) (H : Heap) (locs : List Loc) (ls : Array Slot), va_P (gD g) cl0 ws H → va_D A ws → va_S A s.heap H locs → lv_has ls 2 [] → W p l e (headSpec (wt yX2_switchCount cX2_switchCount 2 (some .int)) ({ frames := 2, cells := 0, slots := 0, locals := 42 })).room s m ([.ref h0, .int x1] : List Value).toArray below meth c H locs (0) (0) (MQ below (va_Qi (fun (r : Int32) (u9 : Unit) => True) (gQ0 g A ws) A) ([.ref h0, .int x1] : List Value).toArray s (0) (0) A) (F0 m 38 ls [.int t_2]) := by
    intro t_2 H locs ls  hP hD hS hl
    refine W.widen (k := 0) (n := 0) (Nat.le_of_ble_eq_true rfl) (Nat.le_of_ble_eq_true rfl) ?_
    exact W.iret (v := t_2) hx hb hr (fun t9 ht9 hW9 => ⟨⟨_, (), rfl, trivial, ⟨by rw [ht9]; exact hP, hD⟩⟩, hS.F ht9⟩) hS.2.2 dX2_switchCount_38
  refine lv_icmp_ne (tgt := 31) hx hb dX2_switchCount_7 (by decide) (fun c_5 => ?_) (fun c_5 => ?_)
  · refine lv_aload_n hx hb dX2_switchCount_31 rfl (lv_at hl 0 rfl) ?_
    refine lv_iload_n hx hb dX2_switchCount_32 rfl (lv_at hl 1 rfl) ?_
    refine lv_iconst (v := 4) hx hb dX2_switchCount_33 (by decide) ?_
    refine lv_iadd hx hb dX2_switchCount_34 ?_
    refine lv_topi (fun z_6 ez_6 => ?_)
    have hFc := gfree hD hS hA
    refine va_calli (va_runV (As := [.int z_6]) (rest := []) ⟨hx, hb, hml, hown, hts⟩ (m_X2_s4 l g s.heap.size ws h0 (z_6) hG o_h0) (cwV 1 hts (gd_V kw_623 kw_790 kw_791 kw_389 kw_789) rfl rfl rfl (by decide +kernel) ⟨Nat.le_of_ble_eq_true rfl, Nat.le_of_ble_eq_true rfl⟩) ⟨gblind, va_recv hK hP (ci := 2) (q0 := k_1) rfl hk_1, fun U hU hW9 => gmk hU hW9 hP hK hD hex hE hS hFc⟩ rfl rfl hl.1 rfl (lv_room (Nat.le_of_ble_eq_true rfl)) dX2_switchCount_35 ⟨Nat.le_of_ble_eq_true rfl, Nat.le_of_ble_eq_true rfl⟩) hS (fun q _ h => hFc q h) hFc (fun r_7 u9 t9 H1 locs ht9 hvm9 hw9 hB9 hz9 hk9 hS => ?_)
    have hP : va_P (gD g) cl0 ws H1 := by rw [← ht9]; exact hB9.1
    clear hB9 hz9 hk9 hvm9 ht9 hw9
    generalize H1 = H at hP hS ⊢
    exact J_38 (r_7) H locs ls  hP hD hS (lv_sub hl [] rfl)
  · refine lv_aload_n hx hb dX2_switchCount_10 rfl (lv_at hl 0 rfl) ?_
    refine lv_iload_n hx hb dX2_switchCount_11 rfl (lv_at hl 1 rfl) ?_
    refine lv_bipush (v := 8) hx hb dX2_switchCount_12 (by decide) ?_
    refine lv_iadd hx hb dX2_switchCount_14 ?_
    refine lv_topi (fun z_8 ez_8 => ?_)
    have hFc := gfree hD hS hA
    refine va_calli (va_runV (As := [.int z_8]) (rest := []) ⟨hx, hb, hml, hown, hts⟩ (m_X2_s4 l g s.heap.size ws h0 (z_8) hG o_h0) (cwV 1 hts (gd_V kw_623 kw_790 kw_791 kw_389 kw_789) rfl rfl rfl (by decide +kernel) ⟨Nat.le_of_ble_eq_true rfl, Nat.le_of_ble_eq_true rfl⟩) ⟨gblind, va_recv hK hP (ci := 2) (q0 := k_1) rfl hk_1, fun U hU hW9 => gmk hU hW9 hP hK hD hex hE hS hFc⟩ rfl rfl hl.1 rfl (lv_room (Nat.le_of_ble_eq_true rfl)) dX2_switchCount_15 ⟨Nat.le_of_ble_eq_true rfl, Nat.le_of_ble_eq_true rfl⟩) hS (fun q _ h => hFc q h) hFc (fun r_9 u9 t9 H1 locs ht9 hvm9 hw9 hB9 hz9 hk9 hS => ?_)
    have hP : va_P (gD g) cl0 ws H1 := by rw [← ht9]; exact hB9.1
    clear hB9 hz9 hk9 hvm9 ht9 hw9
    generalize H1 = H at hP hS ⊢
    refine lv_aload_n hx hb dX2_switchCount_18 rfl (lv_at hl 0 rfl) ?_
    refine lv_iload_n hx hb dX2_switchCount_19 rfl (lv_at hl 1 rfl) ?_
    refine lv_iconst (v := 4) hx hb dX2_switchCount_20 (by decide) ?_
    refine lv_iadd hx hb dX2_switchCount_21 ?_
    refine lv_topi (fun z_10 ez_10 => ?_)
    have hFc := gfree hD hS hA
    refine va_calli (va_runV (As := [.int z_10]) (rest := [.int r_9]) ⟨hx, hb, hml, hown, hts⟩ (m_X2_s4 l g H.size ws h0 (z_10) hG o_h0) (cwV 1 hts (gd_V kw_623 kw_790 kw_791 kw_389 kw_789) rfl rfl rfl (by decide +kernel) ⟨Nat.le_of_ble_eq_true rfl, Nat.le_of_ble_eq_true rfl⟩) ⟨gblind, va_recv hK hP (ci := 2) (q0 := k_1) rfl hk_1, fun U hU hW9 => gmk hU hW9 hP hK hD hex hE hS hFc⟩ rfl rfl hl.1 rfl (lv_room (Nat.le_of_ble_eq_true rfl)) dX2_switchCount_22 ⟨Nat.le_of_ble_eq_true rfl, Nat.le_of_ble_eq_true rfl⟩) hS (fun q _ h => hFc q h) hFc (fun r_11 u9 t9 H1 locs ht9 hvm9 hw9 hB9 hz9 hk9 hS => ?_)
    have hP : va_P (gD g) cl0 ws H1 := by rw [← ht9]; exact hB9.1
    clear hB9 hz9 hk9 hvm9 ht9 hw9
    generalize H1 = H at hP hS ⊢
    refine lv_isub hx hb dX2_switchCount_25 ?_
    refine lv_topi (fun z_12 ez_12 => ?_)
    refine lv_iconst (v := 1) hx hb dX2_switchCount_26 (by decide) ?_
    refine lv_iadd hx hb dX2_switchCount_27 ?_
    refine lv_topi (fun z_13 ez_13 => ?_)
    refine lv_goto (tgt := 38) hx hb dX2_switchCount_28 (by decide) ?_
    exact J_38 (z_13) H locs ls  hP hD hS (lv_sub hl [] rfl)
set_option maxHeartbeats 1000000 in
set_option maxRecDepth 100000 in
theorem m_X2_switchTarget (l : Launch) (g : Gm) (sz : Nat) (ws : va_W) (h0 : Nat) (x1 : Int32) (x2 : Int32) (hG : Good g ws) (o_h0 : gC ws h0 2) : Met l yX2_switchTarget (wt yX2_switchTarget cX2_switchTarget 3 (some .long)) ({ frames := 2, cells := 0, slots := 0, locals := 42 }) (va_Pc [.ref h0, .int x1, .int x2] (st_G g sz ws)) (va_Ql (fun (r : Int64) (u9 : Unit) => True) (gQ0 g (va_A ws sz) ws) (va_A ws sz)) (0) (0) (va_A ws sz) := by
  refine Met.ofW (cc := cX2_switchTarget) (maxL := 3) (ret := (some .long)) (by decide) rfl ?_
  intro p e s m args below meth c s₁ B hml hv
  obtain ⟨rfl, hsz, hP, hK, hD0, hex, hE⟩ := hv
  have hx := B.exec
  have hb := B.bytes
  have hr := B.returns
  have hts0 := atoms_spec (ws := wt yX2_switchTarget cX2_switchTarget 3 (some .long)) B.pre
  have hts : ∀ w ∈ tb, w.before _ s = true := fun w h => hts0 w (List.mem_cons_of_mem _ h)
  have hown : s.vm.findClass RX2 = some m.cls := findClass_of_methodNamed B.named
  subst hsz
  have hD := hD0.self (sz := s.heap.size)
  generalize hAe : va_A ws s.heap.size = A at hD hE ⊢
  have hA : ∀ q : Nat, s.heap.size ≤ q → A q := fun q h => by rw [← hAe]; exact Or.inr h
  have hS : va_S A s.heap s.heap [] := va_S.rf
  have hl := lv_entry ([.ref h0, .int x1, .int x2]) (n := 3) (Nat.le_of_ble_eq_true rfl)
  rw [lg_entry_eq]
  generalize (lg_sl ([.ref h0, .int x1, .int x2]) ++ List.replicate (3 - (lg_sl ([.ref h0, .int x1, .int x2])).length) Slot.unset).toArray = ls at hl ⊢
  have hl : lv_has ls 3 [(0, .ref h0), (1, .int x1), (2, .int x2)] := hl
  refine lv_iload_n hx hb dX2_switchTarget_0 rfl (lv_at hl 2 rfl) ?_
  refine lv_if_ge (tgt := 17) hx hb dX2_switchTarget_1 (by decide) (fun c_1 => ?_) (fun c_1 => ?_)
  · refine lv_aload_n hx hb dX2_switchTarget_17 rfl (lv_at hl 0 rfl) ?_
    obtain ⟨k_2, fs9, hk_2⟩ := gC_of o_h0
    obtain ⟨r0_2, c1_2, c2_2, c3_2, c4_2, c5_2, c6_2, r7_2, n7_2, c8_2, c9_2, l10_2, c11_2, rfl, o_r0_2, a_r7_2, f2_2, f3_2, f4_2, -⟩ := (hG.1 _ _ _ _ hk_2).hX2 rfl
    refine va_get (D := gD g) (ci := 2) (v := .int c11_2) (C := RX2) (T := TX2) (N := 12) hx hb hts inX2 hown hK hP k_2 hk_2 rfl 11 (by decide) (hts _ kw_683) (fun _ h9 => h9) rfl dX2_switchTarget_18 ?_
    obtain ⟨z_3, ez_3⟩ : ∃ y : Int64, (c11_2 : Int32).toInt64 = y := ⟨_, rfl⟩
    refine lv_i2l (v := z_3) hx hb dX2_switchTarget_21 ez_3 ?_
    refine lv_aload_n hx hb dX2_switchTarget_22 rfl (lv_at hl 0 rfl) ?_
    refine lv_aload_n hx hb dX2_switchTarget_23 rfl (lv_at hl 0 rfl) ?_
    refine va_get (D := gD g) (ci := 2) (v := .int c9_2) (C := RX2) (T := TX2) (N := 12) hx hb hts inX2 hown hK hP k_2 hk_2 rfl 9 (by decide) (hts _ kw_619) (fun _ h9 => h9) rfl dX2_switchTarget_24 ?_
    refine lv_sipush (v := 170) hx hb dX2_switchTarget_27 (by decide) ?_
    have J_53 : ∀ (t_4 : Int32) (H : Heap) (locs : List Loc) (ls : Array Slot), va_P (gD g) cl0 ws H → va_D A ws → va_S A s.heap H locs → lv_has ls 3 [] → W p l e (headSpec (wt yX2_switchTarget cX2_switchTarget 3 (some .long)) ({ frames := 2, cells := 0, slots := 0, locals := 42 })).room s m ([.ref h0, .int x1, .int x2] : List Value).toArray below meth c H locs (0) (0) (MQ below (va_Ql (fun (r : Int64) (u9 : Unit) => True) (gQ0 g A ws) A) ([.ref h0, .int x1, .int x2] : List Value).toArray s (0) (0) A) (F0 m 53 ls [.int t_4, .ref h0, .long z_3]) := by
      intro t_4 H locs ls  hP hD hS hl
      have hFc := gfree hD hS hA
      refine va_calli (va_runV (As := [.int t_4]) (rest := [.long z_3]) ⟨hx, hb, hml, hown, hts⟩ (m_X2_s4 l g H.size ws h0 (t_4) hG o_h0) (cwV 1 hts (gd_V kw_623 kw_790 kw_791 kw_389 kw_789) rfl rfl rfl (by decide +kernel) ⟨Nat.le_of_ble_eq_true rfl, Nat.le_of_ble_eq_true rfl⟩) ⟨gblind, va_recv hK hP (ci := 2) (q0 := k_2) rfl hk_2, fun U hU hW9 => gmk hU hW9 hP hK hD hex hE hS hFc⟩ rfl rfl hl.1 rfl (lv_room (Nat.le_of_ble_eq_true rfl)) dX2_switchTarget_53 ⟨Nat.le_of_ble_eq_true rfl, Nat.le_of_ble_eq_true rfl⟩) hS (fun q _ h => hFc q h) hFc (fun r_7 u9 t9 H1 locs ht9 hvm9 hw9 hB9 hz9 hk9 hS => ?_)
      have hP : va_P (gD g) cl0 ws H1 := by rw [← ht9]; exact hB9.1
      clear hB9 hz9 hk9 hvm9 ht9 hw9
      generalize H1 = H at hP hS ⊢
      obtain ⟨z_8, ez_8⟩ : ∃ y : Int64, (r_7 : Int32).toInt64 = y := ⟨_, rfl⟩
      refine lv_i2l (v := z_8) hx hb dX2_switchTarget_56 ez_8 ?_
      refine lv_ladd hx hb dX2_switchTarget_57 ?_
      refine lv_topl (fun z_9 ez_9 => ?_)
      refine W.widen (k := 0) (n := 0) (Nat.le_of_ble_eq_true rfl) (Nat.le_of_ble_eq_true rfl) ?_
      exact W.lret (v := z_9) hx hb hr (fun t9 ht9 hW9 => ⟨⟨_, (), rfl, trivial, ⟨by rw [ht9]; exact hP, hD⟩⟩, hS.F ht9⟩) hS.2.2 dX2_switchTarget_58
    refine lv_icmp_ne (tgt := 44) hx hb dX2_switchTarget_30 (by decide) (fun c_10 => ?_) (fun c_10 => ?_)
    · refine lv_iload_n hx hb dX2_switchTarget_44 rfl (lv_at hl 1 rfl) ?_
      refine lv_bipush (v := 12) hx hb dX2_switchTarget_45 (by decide) ?_
      refine lv_iadd hx hb dX2_switchTarget_47 ?_
      refine lv_topi (fun z_11 ez_11 => ?_)
      refine lv_bipush (v := 8) hx hb dX2_switchTarget_48 (by decide) ?_
      refine lv_iload_n hx hb dX2_switchTarget_50 rfl (lv_at hl 2 rfl) ?_
      refine lv_imul hx hb dX2_switchTarget_51 ?_
      refine lv_topi (fun z_12 ez_12 => ?_)
      refine lv_iadd hx hb dX2_switchTarget_52 ?_
      refine lv_topi (fun z_13 ez_13 => ?_)
      exact J_53 (z_13) _ _ ls  hP hD hS (lv_sub hl [] rfl)
    · refine lv_iload_n hx hb dX2_switchTarget_33 rfl (lv_at hl 1 rfl) ?_
      refine lv_bipush (v := 12) hx hb dX2_switchTarget_34 (by decide) ?_
      refine lv_iadd hx hb dX2_switchTarget_36 ?_
      refine lv_topi (fun z_14 ez_14 => ?_)
      refine lv_iconst (v := 4) hx hb dX2_switchTarget_37 (by decide) ?_
      refine lv_iload_n hx hb dX2_switchTarget_38 rfl (lv_at hl 2 rfl) ?_
      refine lv_imul hx hb dX2_switchTarget_39 ?_
      refine lv_topi (fun z_15 ez_15 => ?_)
      refine lv_iadd hx hb dX2_switchTarget_40 ?_
      refine lv_topi (fun z_16 ez_16 => ?_)
      refine lv_goto (tgt := 53) hx hb dX2_switchTarget_41 (by decide) ?_
      exact J_53 (z_16) _ _ ls  hP hD hS (lv_sub hl [] rfl)
  · refine lv_aload_n hx hb dX2_switchTarget_4 rfl (lv_at hl 0 rfl) ?_
    obtain ⟨k_17, fs9, hk_17⟩ := gC_of o_h0
    obtain ⟨r0_17, c1_17, c2_17, c3_17, c4_17, c5_17, c6_17, r7_17, n7_17, c8_17, c9_17, l10_17, c11_17, rfl, o_r0_17, a_r7_17, f2_17, f3_17, f4_17, -⟩ := (hG.1 _ _ _ _ hk_17).hX2 rfl
    refine va_get (D := gD g) (ci := 2) (v := .int c11_17) (C := RX2) (T := TX2) (N := 12) hx hb hts inX2 hown hK hP k_17 hk_17 rfl 11 (by decide) (hts _ kw_683) (fun _ h9 => h9) rfl dX2_switchTarget_5 ?_
    obtain ⟨z_18, ez_18⟩ : ∃ y : Int64, (c11_17 : Int32).toInt64 = y := ⟨_, rfl⟩
    refine lv_i2l (v := z_18) hx hb dX2_switchTarget_8 ez_18 ?_
    refine lv_aload_n hx hb dX2_switchTarget_9 rfl (lv_at hl 0 rfl) ?_
    refine lv_iload_n hx hb dX2_switchTarget_10 rfl (lv_at hl 1 rfl) ?_
    have hFc := gfree hD hS hA
    refine va_calli (va_runV (As := [.int x1]) (rest := [.long z_18]) ⟨hx, hb, hml, hown, hts⟩ (m_X2_s4 l g s.heap.size ws h0 (x1) hG o_h0) (cwV 1 hts (gd_V kw_623 kw_790 kw_791 kw_389 kw_789) rfl rfl rfl (by decide +kernel) ⟨Nat.le_of_ble_eq_true rfl, Nat.le_of_ble_eq_true rfl⟩) ⟨gblind, va_recv hK hP (ci := 2) (q0 := k_17) rfl hk_17, fun U hU hW9 => gmk hU hW9 hP hK hD hex hE hS hFc⟩ rfl rfl hl.1 rfl (lv_room (Nat.le_of_ble_eq_true rfl)) dX2_switchTarget_11 ⟨Nat.le_of_ble_eq_true rfl, Nat.le_of_ble_eq_true rfl⟩) hS (fun q _ h => hFc q h) hFc (fun r_19 u9 t9 H1 locs ht9 hvm9 hw9 hB9 hz9 hk9 hS => ?_)
    have hP : va_P (gD g) cl0 ws H1 := by rw [← ht9]; exact hB9.1
    clear hB9 hz9 hk9 hvm9 ht9 hw9
    generalize H1 = H at hP hS ⊢
    obtain ⟨z_20, ez_20⟩ : ∃ y : Int64, (r_19 : Int32).toInt64 = y := ⟨_, rfl⟩
    refine lv_i2l (v := z_20) hx hb dX2_switchTarget_14 ez_20 ?_
    refine lv_ladd hx hb dX2_switchTarget_15 ?_
    refine lv_topl (fun z_21 ez_21 => ?_)
    refine W.widen (k := 0) (n := 0) (Nat.le_of_ble_eq_true rfl) (Nat.le_of_ble_eq_true rfl) ?_
    exact W.lret (v := z_21) hx hb hr (fun t9 ht9 hW9 => ⟨⟨_, (), rfl, trivial, ⟨by rw [ht9]; exact hP, hD⟩⟩, hS.F ht9⟩) hS.2.2 dX2_switchTarget_16
set_option maxHeartbeats 1000000 in
set_option maxRecDepth 100000 in
theorem m_X2_targetsHold (l : Launch) (g : Gm) (sz : Nat) (ws : va_W) (h0 : Nat) (hG : Good g ws) (o_h0 : gC ws h0 2) : Met l yX2_targetsHold (wt yX2_targetsHold cX2_targetsHold 4 (some .boolean)) ({ frames := 3, cells := 0, slots := 0, locals := 64 }) (va_Pc [.ref h0] (st_G g sz ws)) (va_Qi (fun (r : Int32) (u9 : Unit) => r = 0 ∨ r = 1) (gQ0 g (va_A ws sz) ws) (va_A ws sz)) (0) (0) (va_A ws sz) := by
  refine Met.ofW (cc := cX2_targetsHold) (maxL := 4) (ret := (some .boolean)) (by decide) rfl ?_
  intro p e s m args below meth c s₁ B hml hv
  obtain ⟨rfl, hsz, hP, hK, hD0, hex, hE⟩ := hv
  have hx := B.exec
  have hb := B.bytes
  have hr := B.returns
  have hts0 := atoms_spec (ws := wt yX2_targetsHold cX2_targetsHold 4 (some .boolean)) B.pre
  have hts : ∀ w ∈ tb, w.before _ s = true := fun w h => hts0 w (List.mem_cons_of_mem _ h)
  have hown : s.vm.findClass RX2 = some m.cls := findClass_of_methodNamed B.named
  subst hsz
  have hD := hD0.self (sz := s.heap.size)
  generalize hAe : va_A ws s.heap.size = A at hD hE ⊢
  have hA : ∀ q : Nat, s.heap.size ≤ q → A q := fun q h => by rw [← hAe]; exact Or.inr h
  have hS : va_S A s.heap s.heap [] := va_S.rf
  have hl := lv_entry ([.ref h0]) (n := 4) (Nat.le_of_ble_eq_true rfl)
  rw [lg_entry_eq]
  generalize (lg_sl ([.ref h0]) ++ List.replicate (4 - (lg_sl ([.ref h0])).length) Slot.unset).toArray = ls at hl ⊢
  have hl : lv_has ls 4 [(0, .ref h0)] := hl
  refine lv_aload_n hx hb dX2_targetsHold_0 rfl (lv_at hl 0 rfl) ?_
  obtain ⟨k_1, fs9, hk_1⟩ := gC_of o_h0
  obtain ⟨r0_1, c1_1, c2_1, c3_1, c4_1, c5_1, c6_1, r7_1, n7_1, c8_1, c9_1, l10_1, c11_1, rfl, o_r0_1, a_r7_1, f2_1, f3_1, f4_1, -⟩ := (hG.1 _ _ _ _ hk_1).hX2 rfl
  refine va_get (D := gD g) (ci := 2) (v := .long l10_1) (C := RX2) (T := TX2) (N := 12) hx hb hts inX2 hown hK hP k_1 hk_1 rfl 10 (by decide) (hts _ kw_617) (fun _ h9 => h9) rfl dX2_targetsHold_1 ?_
  obtain ⟨z_2, ez_2⟩ : ∃ y : Int32, (l10_1 : Int64).toInt32 = y := ⟨_, rfl⟩
  refine lv_l2i (v := z_2) hx hb dX2_targetsHold_4 ez_2 ?_
  refine lv_istore_n (lv' := [(1, .int z_2), (0, .ref h0)]) hx hb dX2_targetsHold_5 rfl hl (by decide) rfl (fun ls hl => ?_)
  refine lv_aload_n hx hb dX2_targetsHold_6 rfl (lv_at hl 1 rfl) ?_
  refine lv_iload_n hx hb dX2_targetsHold_7 rfl (lv_at hl 0 rfl) ?_
  have hFc := gfree hD hS hA
  refine va_calli (va_runV (As := [.int z_2]) (rest := []) ⟨hx, hb, hml, hown, hts⟩ (m_X2_switchCount l g s.heap.size ws h0 (z_2) hG o_h0) (cwV 1 hts (gd_V kw_618 kw_796 kw_797 kw_389 kw_795) rfl rfl rfl (by decide +kernel) ⟨Nat.le_of_ble_eq_true rfl, Nat.le_of_ble_eq_true rfl⟩) ⟨gblind, va_recv hK hP (ci := 2) (q0 := k_1) rfl hk_1, fun U hU hW9 => gmk hU hW9 hP hK hD hex hE hS hFc⟩ rfl rfl hl.1 rfl (lv_room (Nat.le_of_ble_eq_true rfl)) dX2_targetsHold_8 ⟨Nat.le_of_ble_eq_true rfl, Nat.le_of_ble_eq_true rfl⟩) hS (fun q _ h => hFc q h) hFc (fun r_3 u9 t9 H1 locs ht9 hvm9 hw9 hB9 hz9 hk9 hS => ?_)
  have hP : va_P (gD g) cl0 ws H1 := by rw [← ht9]; exact hB9.1
  clear hB9 hz9 hk9 hvm9 ht9 hw9
  generalize H1 = H at hP hS ⊢
  refine lv_istore_n (lv' := [(2, .int r_3), (1, .int z_2), (0, .ref h0)]) hx hb dX2_targetsHold_11 rfl hl (by decide) rfl (fun ls hl => ?_)
  refine lv_iconst (v := (-1)) hx hb dX2_targetsHold_12 (by decide) ?_
  refine lv_istore_n (lv' := [(3, .int (-1)), (2, .int r_3), (1, .int z_2), (0, .ref h0)]) hx hb dX2_targetsHold_13 rfl hl (by decide) rfl (fun ls hl => ?_)
  have J_14 : ∀ (n9 : Nat) (v3_4 : Int32) (H : Heap) (locs : List Loc) (ls : Array Slot), (2147483647 - v3_4.toInt).toNat = n9 → va_P (gD g) cl0 ws H → va_D A ws → va_S A s.heap H locs → lv_has ls 4 [(0, .ref h0), (1, .int z_2), (2, .int r_3), (3, .int v3_4)] → W p l e (headSpec (wt yX2_targetsHold cX2_targetsHold 4 (some .boolean)) ({ frames := 3, cells := 0, slots := 0, locals := 64 })).room s m ([.ref h0] : List Value).toArray below meth c H locs (0) (0) (MQ below (va_Qi (fun (r : Int32) (u9 : Unit) => r = 0 ∨ r = 1) (gQ0 g A ws) A) ([.ref h0] : List Value).toArray s (0) (0) A) (F0 m 14 ls []) := by
    intro n9
    induction n9 using Nat.strongRecOn with
    | ind n9 ih_14 =>
      intro v3_4 H locs ls hm9  hP hD hS hl
      subst hm9
      refine lv_iload_n hx hb dX2_targetsHold_14 rfl (lv_at hl 3 rfl) ?_
      refine lv_iload_n hx hb dX2_targetsHold_15 rfl (lv_at hl 2 rfl) ?_
      refine lv_icmp_ge (tgt := 40) hx hb dX2_targetsHold_16 (by decide) (fun c_7 => ?_) (fun c_7 => ?_)
      · refine lv_iconst (v := 1) hx hb dX2_targetsHold_40 (by decide) ?_
        refine W.widen (k := 0) (n := 0) (Nat.le_of_ble_eq_true rfl) (Nat.le_of_ble_eq_true rfl) ?_
        exact W.zret (v := 1) hx hb hr (nz (Or.inr rfl)) (fun t9 ht9 hW9 => ⟨⟨_, (), rfl, (Or.inr rfl), ⟨by rw [ht9]; exact hP, hD⟩⟩, hS.F ht9⟩) hS.2.2 dX2_targetsHold_41
      · refine lv_aload_n hx hb dX2_targetsHold_19 rfl (lv_at hl 0 rfl) ?_
        refine lv_aload_n hx hb dX2_targetsHold_20 rfl (lv_at hl 0 rfl) ?_
        refine lv_iload_n hx hb dX2_targetsHold_21 rfl (lv_at hl 1 rfl) ?_
        refine lv_iload_n hx hb dX2_targetsHold_22 rfl (lv_at hl 3 rfl) ?_
        have hFc := gfree hD hS hA
        refine va_calll (va_runV (As := [.int z_2, .int v3_4]) (rest := [.ref h0]) ⟨hx, hb, hml, hown, hts⟩ (m_X2_switchTarget l g H.size ws h0 (z_2) (v3_4) hG o_h0) (cwV 2 hts (gd_V kw_624 kw_799 kw_800 kw_389 kw_798) rfl rfl rfl (by decide +kernel) ⟨Nat.le_of_ble_eq_true rfl, Nat.le_of_ble_eq_true rfl⟩) ⟨gblind, va_recv hK hP (ci := 2) (q0 := k_1) rfl hk_1, fun U hU hW9 => gmk hU hW9 hP hK hD hex hE hS hFc⟩ rfl rfl hl.1 rfl (lv_room (Nat.le_of_ble_eq_true rfl)) dX2_targetsHold_23 ⟨Nat.le_of_ble_eq_true rfl, Nat.le_of_ble_eq_true rfl⟩) hS (fun q _ h => hFc q h) hFc (fun r_8 u9 t9 H1 locs ht9 hvm9 hw9 hB9 hz9 hk9 hS => ?_)
        have hP : va_P (gD g) cl0 ws H1 := by rw [← ht9]; exact hB9.1
        clear hB9 hz9 hk9 hvm9 ht9 hw9
        generalize H1 = H at hP hS ⊢
        have hFc := gfree hD hS hA
        refine va_calli (va_runV (As := [.long r_8]) (rest := []) ⟨hx, hb, hml, hown, hts⟩ (m_X2_isInstruction l g H.size ws h0 (r_8) hG o_h0) (cwV 1 hts (gd_V kw_672 kw_720 kw_721 kw_389 kw_719) rfl rfl rfl (by decide +kernel) ⟨Nat.le_of_ble_eq_true rfl, Nat.le_of_ble_eq_true rfl⟩) ⟨gblind, va_recv hK hP (ci := 2) (q0 := k_1) rfl hk_1, fun U hU hW9 => gmk hU hW9 hP hK hD hex hE hS hFc⟩ rfl rfl hl.1 rfl (lv_room (Nat.le_of_ble_eq_true rfl)) dX2_targetsHold_26 ⟨Nat.le_of_ble_eq_true rfl, Nat.le_of_ble_eq_true rfl⟩) hS (fun q _ h => hFc q h) hFc (fun r_9 u9 t9 H1 locs ht9 hvm9 hw9 hB9 hz9 hk9 hS => ?_)
        have hP : va_P (gD g) cl0 ws H1 := by rw [← ht9]; exact hB9.1
        have hz_r_9 : r_9 = 0 ∨ r_9 = 1 := hw9
        clear hB9 hz9 hk9 hvm9 ht9 hw9
        generalize H1 = H at hP hS ⊢
        refine lv_if_ne (tgt := 34) hx hb dX2_targetsHold_29 (by decide) (fun c_10 => ?_) (fun c_10 => ?_)
        · obtain ⟨z_11, ez_11⟩ : ∃ z : Int32, v3_4 + Int32.ofInt 1 = z := ⟨_, rfl⟩
          refine lv_iinc (v := z_11) (lv' := [(3, .int z_11), (0, .ref h0), (1, .int z_2), (2, .int r_3)]) hx hb dX2_targetsHold_34 hl (k := 3) rfl ez_11 (by decide) rfl (fun ls hl => ?_)
          refine lv_goto (tgt := 14) hx hb dX2_targetsHold_37 (by decide) ?_
          exact ih_14 _ (by obtain ⟨u_z_11, q_z_11⟩ := i_iz ez_11 (by decide) (by decide); have q_c_7 := i_nle c_7; have g_r_3 := i_rg r_3; have g_v3_4 := i_rg v3_4; have g_z_11 := i_rg z_11; omega) (z_11) H locs ls rfl  hP hD hS (lv_sub hl [1, 2, 3, 0] rfl)
        · refine lv_iconst (v := 0) hx hb dX2_targetsHold_32 (by decide) ?_
          refine W.widen (k := 0) (n := 0) (Nat.le_of_ble_eq_true rfl) (Nat.le_of_ble_eq_true rfl) ?_
          exact W.zret (v := 0) hx hb hr (nz (Or.inl rfl)) (fun t9 ht9 hW9 => ⟨⟨_, (), rfl, (Or.inl rfl), ⟨by rw [ht9]; exact hP, hD⟩⟩, hS.F ht9⟩) hS.2.2 dX2_targetsHold_33
  exact J_14 _ ((-1)) H locs ls rfl  hP hD hS (lv_sub hl [3, 2, 1, 0] rfl)
set_option maxHeartbeats 1000000 in
set_option maxRecDepth 100000 in
theorem m_X2_errorOf (l : Launch) (g : Gm) (H0 : Heap) (ws : va_W) (h0 : Nat) (x1 : Int32) (hG : Good g ws) (o_h0 : gC ws h0 2) : Met l yX2_errorOf (wt yX2_errorOf cX2_errorOf 3 (some .int)) ({ frames := 5, cells := PC ws + (0), slots := PS ws + (0), locals := 108 }) (va_Pc [.ref h0, .int x1] (st_H g H0 ws)) (va_Qi (fun (r : Int32) (u9 : va_W) => True) (gQ2 g [] [] none (va_A ws H0.size) ws H0 (0) (0)) (va_A ws H0.size)) (PC ws + (0)) (PS ws + (0)) (va_A ws H0.size) := by
  refine Met.ofW (cc := cX2_errorOf) (maxL := 3) (ret := (some .int)) (by decide) rfl ?_
  intro p e s m args below meth c s₁ B hml hv
  obtain ⟨rfl, hH0, hsz, hP, hK, hD0, hex, hE⟩ := hv
  have hx := B.exec
  have hb := B.bytes
  have hr := B.returns
  have hts0 := atoms_spec (ws := wt yX2_errorOf cX2_errorOf 3 (some .int)) B.pre
  have hts : ∀ w ∈ tb, w.before _ s = true := fun w h => hts0 w (List.mem_cons_of_mem _ h)
  have hown : s.vm.findClass RX2 = some m.cls := findClass_of_methodNamed B.named
  subst hH0
  have hD := hD0.self (sz := s.heap.size)
  generalize hAe : va_A ws s.heap.size = A at hD hE ⊢
  have hA : ∀ q : Nat, s.heap.size ≤ q → A q := fun q h => by rw [← hAe]; exact Or.inr h
  have hS : va_S A s.heap s.heap [] := va_S.rf
  have hl := lv_entry ([.ref h0, .int x1]) (n := 3) (Nat.le_of_ble_eq_true rfl)
  rw [lg_entry_eq]
  generalize (lg_sl ([.ref h0, .int x1]) ++ List.replicate (3 - (lg_sl ([.ref h0, .int x1])).length) Slot.unset).toArray = ls at hl ⊢
  have hl : lv_has ls 3 [(0, .ref h0), (1, .int x1)] := hl
  refine lv_iload_n hx hb dX2_errorOf_0 rfl (lv_at hl 1 rfl) ?_
  refine lv_if_ne (tgt := 6) hx hb dX2_errorOf_1 (by decide) (fun c_1 => ?_) (fun c_1 => ?_)
  · refine lv_iconst (v := 0) hx hb dX2_errorOf_6 (by decide) ?_
    refine lv_istore_n (lv' := [(2, .int 0), (0, .ref h0), (1, .int x1)]) hx hb dX2_errorOf_7 rfl hl (by decide) rfl (fun ls hl => ?_)
    have J_8 : ∀ (n9 : Nat) (v2_2 : Int32) (dc_8_1 : Nat) (ds_8_1 : Nat) (ws_4 : va_W) (H : Heap) (locs : List Loc) (ls : Array Slot), (2147483647 - v2_2.toInt).toNat = n9 → 0 ≤ v2_2.toInt → gE ws ws_4 → gF [] [] none ws ws_4 → Good g ws_4 → dc_8_1 + PC ws_4 ≤ PC ws + (0) → ds_8_1 + PS ws_4 ≤ PS ws + (0) → va_P (gD g) cl0 ws_4 H → va_D A ws_4 → va_S A s.heap H locs → lv_has ls 3 [(0, .ref h0), (1, .int x1), (2, .int v2_2)] → W p l e (headSpec (wt yX2_errorOf cX2_errorOf 3 (some .int)) ({ frames := 5, cells := PC ws + (0), slots := PS ws + (0), locals := 108 })).room s m ([.ref h0, .int x1] : List Value).toArray below meth c H locs (dc_8_1) (ds_8_1) (MQ below (va_Qi (fun (r : Int32) (u9 : va_W) => True) (gQ2 g [] [] none A ws s.heap (0) (0)) A) ([.ref h0, .int x1] : List Value).toArray s (PC ws + (0)) (PS ws + (0)) A) (F0 m 8 ls []) := by
      intro n9
      induction n9 using Nat.strongRecOn with
      | ind n9 ih_8 =>
        intro v2_2 dc_8_1 ds_8_1 ws_4 H locs ls hm9 iv_3 E_5 Fr_6 hG hc9 hs9 hP hD hS hl
        subst hm9
        have o_h0 := E_5.1 _ _ o_h0
        refine lv_iload_n hx hb dX2_errorOf_8 rfl (lv_at hl 2 rfl) ?_
        refine lv_iconst (v := 3) hx hb dX2_errorOf_9 (by decide) ?_
        refine lv_icmp_gt (tgt := 56) hx hb dX2_errorOf_10 (by decide) (fun c_7 => ?_) (fun c_7 => ?_)
        · refine lv_bipush (v := (-2)) hx hb dX2_errorOf_56 (by decide) ?_
          refine W_led (fun hLd => ?_)
          have hcl : dc_8_1 + PC ws_4 ≤ PC ws + (0) := (by omega)
          have hsl : ds_8_1 + PS ws_4 ≤ PS ws + (0) := (by omega)
          refine W.widen (k := PC ws + (0)) (n := PS ws + (0)) (by omega) (by omega) ?_
          exact W.iret (v := (-2)) hx hb hr (fun t9 ht9 hW9 => ⟨⟨_, ws_4, rfl, trivial, ⟨E_5, Fr_6, hG, by rw [ht9]; exact hP, hD, _, _, by rw [ht9]; exact hLd, hcl, hsl⟩⟩, hS.F ht9⟩) hS.2.2 dX2_errorOf_58
        · refine lv_aload_n hx hb dX2_errorOf_13 rfl (lv_at hl 0 rfl) ?_
          obtain ⟨k_8, fs9, hk_8⟩ := gC_of o_h0
          obtain ⟨r0_8, c1_8, c2_8, c3_8, c4_8, c5_8, c6_8, r7_8, n7_8, c8_8, c9_8, l10_8, c11_8, rfl, o_r0_8, a_r7_8, f2_8, f3_8, f4_8, -⟩ := (hG.1 _ _ _ _ hk_8).hX2 rfl
          refine va_get (D := gD g) (ci := 2) (v := .ref r0_8) (C := RX2) (T := TX2) (N := 12) hx hb hts inX2 hown hK hP k_8 hk_8 rfl 0 (by decide) (hts _ kw_632) (fun _ h9 => h9) rfl dX2_errorOf_14 ?_
          refine lv_iload_n hx hb dX2_errorOf_17 rfl (lv_at hl 1 rfl) ?_
          have hFc := gfree hD hS hA
          obtain ⟨k_9, fs_9, hk_9⟩ := gC_of o_r0_8
          refine va_calli (va_runV (As := [.int x1]) (rest := []) ⟨hx, hb, hml, hown, hts⟩ (m_X7_tagOf l g H.size ws_4 r0_8 (x1) hG o_r0_8) (cwV 1 hts (gd_V kw_697 kw_1435 kw_1436 kw_710 kw_1434) rfl rfl rfl (by decide +kernel) ⟨Nat.le_of_ble_eq_true rfl, Nat.le_of_ble_eq_true rfl⟩) ⟨gblind, va_recv hK hP (ci := 6) (q0 := k_9) rfl hk_9, fun U hU hW9 => gmk hU hW9 hP hK hD hex hE hS hFc⟩ rfl rfl hl.1 rfl (lv_room (Nat.le_of_ble_eq_true rfl)) dX2_errorOf_18 ⟨(show dc_8_1 + 0 ≤ PC ws + (0) from (by omega)), (show ds_8_1 + 0 ≤ PS ws + (0) from (by omega))⟩) hS (fun q _ h => hFc q h) hFc (fun r_10 u9 t9 H1 locs ht9 hvm9 hw9 hB9 hz9 hk9 hS => ?_)
          have hP : va_P (gD g) cl0 ws_4 H1 := by rw [← ht9]; exact hB9.1
          clear hB9 hz9 hk9 hvm9 ht9 hw9
          generalize H1 = H at hP hS ⊢
          refine lv_bipush (v := 7) hx hb dX2_errorOf_21 (by decide) ?_
          have J_50 : ∀ (dc_50_2 : Nat) (ds_50_2 : Nat) (ws_11 : va_W) (H : Heap) (locs : List Loc) (ls : Array Slot), gE ws_4 ws_11 → gF [] [] none ws_4 ws_11 → Good g ws_11 → dc_50_2 + PC ws_11 ≤ PC ws + (0) → ds_50_2 + PS ws_11 ≤ PS ws + (0) → va_P (gD g) cl0 ws_11 H → va_D A ws_11 → va_S A s.heap H locs → lv_has ls 3 [(0, .ref h0), (1, .int x1), (2, .int v2_2)] → W p l e (headSpec (wt yX2_errorOf cX2_errorOf 3 (some .int)) ({ frames := 5, cells := PC ws + (0), slots := PS ws + (0), locals := 108 })).room s m ([.ref h0, .int x1] : List Value).toArray below meth c H locs (dc_50_2) (ds_50_2) (MQ below (va_Qi (fun (r : Int32) (u9 : va_W) => True) (gQ2 g [] [] none A ws s.heap (0) (0)) A) ([.ref h0, .int x1] : List Value).toArray s (PC ws + (0)) (PS ws + (0)) A) (F0 m 50 ls []) := by
            intro dc_50_2 ds_50_2 ws_11 H locs ls  E_12 Fr_13 hG hc9 hs9 hP hD hS hl
            have aa_14 := a_r7_8
            have o_h0 := E_12.1 _ _ o_h0
            obtain ⟨z_15, ez_15⟩ : ∃ z : Int32, v2_2 + Int32.ofInt 1 = z := ⟨_, rfl⟩
            refine lv_iinc (v := z_15) (lv' := [(2, .int z_15), (0, .ref h0), (1, .int x1)]) hx hb dX2_errorOf_50 hl (k := 2) rfl ez_15 (by decide) rfl (fun ls hl => ?_)
            refine lv_goto (tgt := 8) hx hb dX2_errorOf_53 (by decide) ?_
            exact ih_8 _ (by have e3 : (3 : Int32).toInt = 3 := (by decide); obtain ⟨u_z_15, q_z_15⟩ := i_iz ez_15 (by decide) (by decide); have q_iv_3 := iv_3; have q_c_7 := i_nlt c_7; have g_v2_2 := i_rg v2_2; have g_z_15 := i_rg z_15; omega) (z_15) (dc_50_2) (ds_50_2) ws_11 H locs ls rfl (by have e3 : (3 : Int32).toInt = 3 := (by decide); obtain ⟨u_z_15, q_z_15⟩ := i_iz ez_15 (by decide) (by decide); have q_iv_3 := iv_3; have q_c_7 := i_nlt c_7; have g_v2_2 := i_rg v2_2; have g_z_15 := i_rg z_15; omega) ((E_5.tr E_12)) ((gF.tr Fr_6 Fr_13)) hG (by omega) (by omega) hP hD hS (lv_sub hl [1, 2, 0] rfl)
          refine lv_icmp_ne (tgt := 50) hx hb dX2_errorOf_23 (by decide) (fun c_16 => ?_) (fun c_16 => ?_)
          · exact J_50 (dc_8_1) (ds_8_1) ws_4 H locs ls (gE.rf) (gF.rf) hG (by omega) (by omega) hP hD hS (lv_sub hl [0, 1, 2] rfl)
          · refine lv_aload_n hx hb dX2_errorOf_26 rfl (lv_at hl 0 rfl) ?_
            refine va_get (D := gD g) (ci := 2) (v := .ref r0_8) (C := RX2) (T := TX2) (N := 12) hx hb hts inX2 hown hK hP k_8 hk_8 rfl 0 (by decide) (hts _ kw_632) (fun _ h9 => h9) rfl dX2_errorOf_27 ?_
            refine lv_aload_n hx hb dX2_errorOf_30 rfl (lv_at hl 0 rfl) ?_
            refine va_get (D := gD g) (ci := 2) (v := .ref r0_8) (C := RX2) (T := TX2) (N := 12) hx hb hts inX2 hown hK hP k_8 hk_8 rfl 0 (by decide) (hts _ kw_632) (fun _ h9 => h9) rfl dX2_errorOf_31 ?_
            refine lv_iload_n hx hb dX2_errorOf_34 rfl (lv_at hl 1 rfl) ?_
            have hFc := gfree hD hS hA
            obtain ⟨k_17, fs_17, hk_17⟩ := gC_of o_r0_8
            refine va_calli (va_runV (As := [.int x1]) (rest := [.ref r0_8]) ⟨hx, hb, hml, hown, hts⟩ (m_X7_firstOf l g H.size ws_4 r0_8 (x1) hG o_r0_8) (cwV 1 hts (gd_V kw_652 kw_1326 kw_1327 kw_710 kw_1325) rfl rfl rfl (by decide +kernel) ⟨Nat.le_of_ble_eq_true rfl, Nat.le_of_ble_eq_true rfl⟩) ⟨gblind, va_recv hK hP (ci := 6) (q0 := k_17) rfl hk_17, fun U hU hW9 => gmk hU hW9 hP hK hD hex hE hS hFc⟩ rfl rfl hl.1 rfl (lv_room (Nat.le_of_ble_eq_true rfl)) dX2_errorOf_35 ⟨(show dc_8_1 + 0 ≤ PC ws + (0) from (by omega)), (show ds_8_1 + 0 ≤ PS ws + (0) from (by omega))⟩) hS (fun q _ h => hFc q h) hFc (fun r_18 u9 t9 H1 locs ht9 hvm9 hw9 hB9 hz9 hk9 hS => ?_)
            have hP : va_P (gD g) cl0 ws_4 H1 := by rw [← ht9]; exact hB9.1
            have h_r_18 := hw9
            clear hB9 hz9 hk9 hvm9 ht9 hw9
            generalize H1 = H at hP hS ⊢
            refine lv_iload_n hx hb dX2_errorOf_38 rfl (lv_at hl 2 rfl) ?_
            have hFc := gfree hD hS hA
            refine va_callq (va_runS (As := [.int v2_2]) (rest := [.int r_18, .ref r0_8]) ⟨hx, hb, hml, hown, hts⟩ (m_X6_errorName l g H.size ws_4 (v2_2) hG ) (va_cwS 1 hts (gd_S kw_698 kw_1214 kw_1207 kw_1213) rfl rfl rfl (by decide +kernel) ⟨Nat.le_of_ble_eq_true rfl, Nat.le_of_ble_eq_true rfl⟩) ⟨gblind, fun U hU hW9 => gmk hU hW9 hP hK hD hex hE hS hFc⟩ rfl rfl hl.1 rfl (lv_room (Nat.le_of_ble_eq_true rfl)) dX2_errorOf_39 ⟨(show dc_8_1 + 0 ≤ PC ws + (0) from (by omega)), (show ds_8_1 + 0 ≤ PS ws + (0) from (by omega))⟩) hS (fun q _ h => hFc q h) hFc (fun r_19 u9 t9 H1 locs ht9 hvm9 hw9 hB9 hz9 hk9 hS => ?_)
            have hP : va_P (gD g) cl0 ws_4 H1 := by rw [← ht9]; exact hB9.1
            have o_r_19 := hw9
            clear hB9 hz9 hk9 hvm9 ht9 hw9
            generalize H1 = H at hP hS ⊢
            obtain ⟨b_20, n_21, rfl, t_b_20⟩ := o_r_19
            have hFc := gfree hD hS hA
            refine W_led (fun hL0 => ?_)
            obtain ⟨k_22, fs_22, hk_22⟩ := gC_of o_r0_8
            refine va_calli (va_runV (As := [.int r_18, .ref b_20]) (rest := []) ⟨hx, hb, hml, hown, hts⟩ (m_X7_isText l g H ws_4 r0_8 (r_18) b_20 (n_21) hG o_r0_8 t_b_20) (cwV 2 hts (gd_V kw_699 kw_1377 kw_1378 kw_710 kw_1376) rfl rfl rfl (by decide +kernel) ⟨Nat.le_of_ble_eq_true rfl, Nat.le_of_ble_eq_true rfl⟩) ⟨gblindH, va_recv hK hP (ci := 6) (q0 := k_22) rfl hk_22, fun U hU hW9 => gmkH hU hW9 hP hK hD hex hE hS hFc⟩ rfl rfl hl.1 rfl (lv_room (Nat.le_of_ble_eq_true rfl)) dX2_errorOf_42 ⟨(show dc_8_1 + (PC ws_4 + (0)) ≤ PC ws + (0) from (by have e0 : (0 : Int32).toInt = 0 := (by decide); omega)), (show ds_8_1 + (PS ws_4 + (0)) ≤ PS ws + (0) from (by have e0 : (0 : Int32).toInt = 0 := (by decide); omega))⟩) hS (fun q _ h => hFc q h) hFc (fun r_23 ws_24 t9 H1 locs ht9 hvm9 hw9 hB9 hz9 hk9 hS => ?_)
            obtain ⟨E_25, Fr_26, hG, hP1, hD1, dc_27, ds_28, hLd, hdc_27, hds_28⟩ := hB9
            rw [ht9] at hLd
            refine W_tight (hL0.tr hLd).1 (hL0.tr hLd).2.1 ?_
            clear hL0 hLd
            have hP : va_P (gD g) cl0 ws_24 H1 := by rw [← ht9]; exact hP1
            have hD : va_D A ws_24 := hD1.weaken (fun _ _ _ h => hFc _ h)
            have hz_r_23 : r_23 = 0 ∨ r_23 = 1 := hw9
            clear hP1 hD1 hz9 hk9 hvm9 ht9 hw9
            generalize H1 = H at hP hS ⊢
            have aa_29 := a_r7_8
            have o_h0 := E_25.1 _ _ o_h0
            refine lv_if_eq (tgt := 50) hx hb dX2_errorOf_45 (by decide) (fun c_30 => ?_) (fun c_30 => ?_)
            · exact J_50 (dc_8_1 + dc_27) (ds_8_1 + ds_28) ws_24 H locs ls (E_25) (Fr_26) hG (by omega) (by omega) hP hD hS (lv_sub hl [0, 1, 2] rfl)
            · refine lv_iload_n hx hb dX2_errorOf_48 rfl (lv_at hl 2 rfl) ?_
              refine W_led (fun hLd => ?_)
              have hcl : dc_8_1 + dc_27 + PC ws_24 ≤ PC ws + (0) := (by omega)
              have hsl : ds_8_1 + ds_28 + PS ws_24 ≤ PS ws + (0) := (by omega)
              refine W.widen (k := PC ws + (0)) (n := PS ws + (0)) (by omega) (by omega) ?_
              exact W.iret (v := v2_2) hx hb hr (fun t9 ht9 hW9 => ⟨⟨_, ws_24, rfl, trivial, ⟨(E_5.tr E_25), (gF.tr Fr_6 Fr_26), hG, by rw [ht9]; exact hP, hD, _, _, by rw [ht9]; exact hLd, hcl, hsl⟩⟩, hS.F ht9⟩) hS.2.2 dX2_errorOf_49
    exact J_8 _ (0) (0) (0) ws _ _ ls rfl (by have e0 : (0 : Int32).toInt = 0 := (by decide); omega) (gE.rf) (gF.rf) hG (by have e0 : (0 : Int32).toInt = 0 := (by decide); omega) (by have e0 : (0 : Int32).toInt = 0 := (by decide); omega) hP hD hS (lv_sub hl [1, 2, 0] rfl)
  · refine lv_iconst (v := (-1)) hx hb dX2_errorOf_4 (by decide) ?_
    refine W_led (fun hLd => ?_)
    have hcl : 0 + PC ws ≤ PC ws + (0) := (by have e0 : (0 : Int32).toInt = 0 := (by decide); omega)
    have hsl : 0 + PS ws ≤ PS ws + (0) := (by have e0 : (0 : Int32).toInt = 0 := (by decide); omega)
    refine W.widen (k := PC ws + (0)) (n := PS ws + (0)) (by omega) (by omega) ?_
    exact W.iret (v := (-1)) hx hb hr (fun t9 ht9 hW9 => ⟨⟨_, ws, rfl, trivial, ⟨gE.rf, gF.rf, hG, by rw [ht9]; exact hP, hD, _, _, by rw [ht9]; exact hLd, hcl, hsl⟩⟩, hS.F ht9⟩) hS.2.2 dX2_errorOf_5
set_option maxHeartbeats 1000000 in
set_option maxRecDepth 100000 in
theorem m_X2_memberOf (l : Launch) (g : Gm) (sz : Nat) (ws : va_W) (h0 : Nat) (x1 : Int32) (x2 : Int32) (hG : Good g ws) (o_h0 : gC ws h0 2) : Met l yX2_memberOf (wt yX2_memberOf cX2_memberOf 8 (some .int)) ({ frames := 2, cells := 0, slots := 0, locals := 47 }) (va_Pc [.ref h0, .int x1, .int x2] (st_G g sz ws)) (va_Qi (fun (r : Int32) (u9 : Unit) => True) (gQ0 g (va_A ws sz) ws) (va_A ws sz)) (0) (0) (va_A ws sz) := by
  refine Met.ofW (cc := cX2_memberOf) (maxL := 8) (ret := (some .int)) (by decide) rfl ?_
  intro p e s m args below meth c s₁ B hml hv
  obtain ⟨rfl, hsz, hP, hK, hD0, hex, hE⟩ := hv
  have hx := B.exec
  have hb := B.bytes
  have hr := B.returns
  have hts0 := atoms_spec (ws := wt yX2_memberOf cX2_memberOf 8 (some .int)) B.pre
  have hts : ∀ w ∈ tb, w.before _ s = true := fun w h => hts0 w (List.mem_cons_of_mem _ h)
  have hown : s.vm.findClass RX2 = some m.cls := findClass_of_methodNamed B.named
  subst hsz
  have hD := hD0.self (sz := s.heap.size)
  generalize hAe : va_A ws s.heap.size = A at hD hE ⊢
  have hA : ∀ q : Nat, s.heap.size ≤ q → A q := fun q h => by rw [← hAe]; exact Or.inr h
  have hS : va_S A s.heap s.heap [] := va_S.rf
  have hl := lv_entry ([.ref h0, .int x1, .int x2]) (n := 8) (Nat.le_of_ble_eq_true rfl)
  rw [lg_entry_eq]
  generalize (lg_sl ([.ref h0, .int x1, .int x2]) ++ List.replicate (8 - (lg_sl ([.ref h0, .int x1, .int x2])).length) Slot.unset).toArray = ls at hl ⊢
  have hl : lv_has ls 8 [(0, .ref h0), (1, .int x1), (2, .int x2)] := hl
  refine lv_aload_n hx hb dX2_memberOf_0 rfl (lv_at hl 0 rfl) ?_
  obtain ⟨k_1, fs9, hk_1⟩ := gC_of o_h0
  obtain ⟨r0_1, c1_1, c2_1, c3_1, c4_1, c5_1, c6_1, r7_1, n7_1, c8_1, c9_1, l10_1, c11_1, rfl, o_r0_1, a_r7_1, f2_1, f3_1, f4_1, -⟩ := (hG.1 _ _ _ _ hk_1).hX2 rfl
  refine va_get (D := gD g) (ci := 2) (v := .ref r0_1) (C := RX2) (T := TX2) (N := 12) hx hb hts inX2 hown hK hP k_1 hk_1 rfl 0 (by decide) (hts _ kw_632) (fun _ h9 => h9) rfl dX2_memberOf_1 ?_
  refine lv_iload_n hx hb dX2_memberOf_4 rfl (lv_at hl 1 rfl) ?_
  have hFc := gfree hD hS hA
  obtain ⟨k_2, fs_2, hk_2⟩ := gC_of o_r0_1
  refine va_calli (va_runV (As := [.int x1]) (rest := []) ⟨hx, hb, hml, hown, hts⟩ (m_X7_tagOf l g s.heap.size ws r0_1 (x1) hG o_r0_1) (cwV 1 hts (gd_V kw_697 kw_1435 kw_1436 kw_710 kw_1434) rfl rfl rfl (by decide +kernel) ⟨Nat.le_of_ble_eq_true rfl, Nat.le_of_ble_eq_true rfl⟩) ⟨gblind, va_recv hK hP (ci := 6) (q0 := k_2) rfl hk_2, fun U hU hW9 => gmk hU hW9 hP hK hD hex hE hS hFc⟩ rfl rfl hl.1 rfl (lv_room (Nat.le_of_ble_eq_true rfl)) dX2_memberOf_5 ⟨Nat.le_of_ble_eq_true rfl, Nat.le_of_ble_eq_true rfl⟩) hS (fun q _ h => hFc q h) hFc (fun r_3 u9 t9 H1 locs ht9 hvm9 hw9 hB9 hz9 hk9 hS => ?_)
  have hP : va_P (gD g) cl0 ws H1 := by rw [← ht9]; exact hB9.1
  clear hB9 hz9 hk9 hvm9 ht9 hw9
  generalize H1 = H at hP hS ⊢
  refine lv_iload_n hx hb dX2_memberOf_8 rfl (lv_at hl 2 rfl) ?_
  refine lv_icmp_eq (tgt := 14) hx hb dX2_memberOf_9 (by decide) (fun c_4 => ?_) (fun c_4 => ?_)
  · refine lv_aload_n hx hb dX2_memberOf_14 rfl (lv_at hl 0 rfl) ?_
    refine va_get (D := gD g) (ci := 2) (v := .ref r0_1) (C := RX2) (T := TX2) (N := 12) hx hb hts inX2 hown hK hP k_1 hk_1 rfl 0 (by decide) (hts _ kw_632) (fun _ h9 => h9) rfl dX2_memberOf_15 ?_
    refine lv_aload_n hx hb dX2_memberOf_18 rfl (lv_at hl 0 rfl) ?_
    refine va_get (D := gD g) (ci := 2) (v := .ref r0_1) (C := RX2) (T := TX2) (N := 12) hx hb hts inX2 hown hK hP k_1 hk_1 rfl 0 (by decide) (hts _ kw_632) (fun _ h9 => h9) rfl dX2_memberOf_19 ?_
    obtain ⟨k_5, fs9, hk_5⟩ := gC_of o_r0_1
    obtain ⟨r0_5, n0_5, c1_5, c2_5, c3_5, r4_5, n4_5, c5_5, c6_5, c7_5, c8_5, r9_5, n9_5, r10_5, n10_5, r11_5, n11_5, c12_5, c13_5, c14_5, c15_5, c16_5, rfl, a_r0_5, f1_5, a_r4_5, f3_5, a_r9_5, f5_5, a_r10_5, f7_5, a_r11_5, f9_5, f10_5, f11_5, f12_5, f13_5, f14_5, -⟩ := (hG.1 _ _ _ _ hk_5).hX7 rfl
    refine va_get (D := gD g) (ci := 6) (v := .int c6_5) (C := RX7) (T := TX7) (N := 17) hx hb hts inX7 hown hK hP k_5 hk_5 rfl 6 (by decide) (hts _ kw_650) (fun _ h9 => h9) rfl dX2_memberOf_22 ?_
    refine lv_iconst (v := 2) hx hb dX2_memberOf_25 (by decide) ?_
    refine lv_iadd hx hb dX2_memberOf_26 ?_
    refine lv_topi (fun z_6 ez_6 => ?_)
    have hFc := gfree hD hS hA
    refine va_calli (va_runV (As := [.int z_6]) (rest := []) ⟨hx, hb, hml, hown, hts⟩ (m_X7_u2 l g H.size ws r0_1 (z_6) hG o_r0_1) (cwV 1 hts (gd_V kw_651 kw_1450 kw_1451 kw_710 kw_1449) rfl rfl rfl (by decide +kernel) ⟨Nat.le_of_ble_eq_true rfl, Nat.le_of_ble_eq_true rfl⟩) ⟨gblind, va_recv hK hP (ci := 6) (q0 := k_5) rfl hk_5, fun U hU hW9 => gmk hU hW9 hP hK hD hex hE hS hFc⟩ rfl rfl hl.1 rfl (lv_room (Nat.le_of_ble_eq_true rfl)) dX2_memberOf_27 ⟨Nat.le_of_ble_eq_true rfl, Nat.le_of_ble_eq_true rfl⟩) hS (fun q _ h => hFc q h) hFc (fun r_7 u9 t9 H1 locs ht9 hvm9 hw9 hB9 hz9 hk9 hS => ?_)
    have hP : va_P (gD g) cl0 ws H1 := by rw [← ht9]; exact hB9.1
    have h_r_7 := hw9
    clear hB9 hz9 hk9 hvm9 ht9 hw9
    generalize H1 = H at hP hS ⊢
    refine lv_istore_n (lv' := [(3, .int r_7), (0, .ref h0), (1, .int x1), (2, .int x2)]) hx hb dX2_memberOf_30 rfl hl (by decide) rfl (fun ls hl => ?_)
    refine lv_aload_n hx hb dX2_memberOf_31 rfl (lv_at hl 1 rfl) ?_
    refine va_get (D := gD g) (ci := 2) (v := .ref r0_1) (C := RX2) (T := TX2) (N := 12) hx hb hts inX2 hown hK hP k_1 hk_1 rfl 0 (by decide) (hts _ kw_632) (fun _ h9 => h9) rfl dX2_memberOf_32 ?_
    refine lv_aload_n hx hb dX2_memberOf_35 rfl (lv_at hl 1 rfl) ?_
    refine va_get (D := gD g) (ci := 2) (v := .ref r0_1) (C := RX2) (T := TX2) (N := 12) hx hb hts inX2 hown hK hP k_1 hk_1 rfl 0 (by decide) (hts _ kw_632) (fun _ h9 => h9) rfl dX2_memberOf_36 ?_
    refine lv_aload_n hx hb dX2_memberOf_39 rfl (lv_at hl 1 rfl) ?_
    refine va_get (D := gD g) (ci := 2) (v := .ref r0_1) (C := RX2) (T := TX2) (N := 12) hx hb hts inX2 hown hK hP k_1 hk_1 rfl 0 (by decide) (hts _ kw_632) (fun _ h9 => h9) rfl dX2_memberOf_40 ?_
    refine lv_iload_n hx hb dX2_memberOf_43 rfl (lv_at hl 2 rfl) ?_
    have hFc := gfree hD hS hA
    refine va_calli (va_runV (As := [.int x1]) (rest := [.ref r0_1, .ref r0_1]) ⟨hx, hb, hml, hown, hts⟩ (m_X7_firstOf l g H.size ws r0_1 (x1) hG o_r0_1) (cwV 1 hts (gd_V kw_652 kw_1326 kw_1327 kw_710 kw_1325) rfl rfl rfl (by decide +kernel) ⟨Nat.le_of_ble_eq_true rfl, Nat.le_of_ble_eq_true rfl⟩) ⟨gblind, va_recv hK hP (ci := 6) (q0 := k_5) rfl hk_5, fun U hU hW9 => gmk hU hW9 hP hK hD hex hE hS hFc⟩ rfl rfl hl.1 rfl (lv_room (Nat.le_of_ble_eq_true rfl)) dX2_memberOf_44 ⟨Nat.le_of_ble_eq_true rfl, Nat.le_of_ble_eq_true rfl⟩) hS (fun q _ h => hFc q h) hFc (fun r_8 u9 t9 H1 locs ht9 hvm9 hw9 hB9 hz9 hk9 hS => ?_)
    have hP : va_P (gD g) cl0 ws H1 := by rw [← ht9]; exact hB9.1
    have h_r_8 := hw9
    clear hB9 hz9 hk9 hvm9 ht9 hw9
    generalize H1 = H at hP hS ⊢
    have hFc := gfree hD hS hA
    refine va_calli (va_runV (As := [.int r_8]) (rest := [.ref r0_1]) ⟨hx, hb, hml, hown, hts⟩ (m_X7_firstOf l g H.size ws r0_1 (r_8) hG o_r0_1) (cwV 1 hts (gd_V kw_652 kw_1326 kw_1327 kw_710 kw_1325) rfl rfl rfl (by decide +kernel) ⟨Nat.le_of_ble_eq_true rfl, Nat.le_of_ble_eq_true rfl⟩) ⟨gblind, va_recv hK hP (ci := 6) (q0 := k_5) rfl hk_5, fun U hU hW9 => gmk hU hW9 hP hK hD hex hE hS hFc⟩ rfl rfl hl.1 rfl (lv_room (Nat.le_of_ble_eq_true rfl)) dX2_memberOf_47 ⟨Nat.le_of_ble_eq_true rfl, Nat.le_of_ble_eq_true rfl⟩) hS (fun q _ h => hFc q h) hFc (fun r_9 u9 t9 H1 locs ht9 hvm9 hw9 hB9 hz9 hk9 hS => ?_)
    have hP : va_P (gD g) cl0 ws H1 := by rw [← ht9]; exact hB9.1
    have h_r_9 := hw9
    clear hB9 hz9 hk9 hvm9 ht9 hw9
    generalize H1 = H at hP hS ⊢
    refine lv_aload_n hx hb dX2_memberOf_50 rfl (lv_at hl 1 rfl) ?_
    refine va_get (D := gD g) (ci := 2) (v := .ref r0_1) (C := RX2) (T := TX2) (N := 12) hx hb hts inX2 hown hK hP k_1 hk_1 rfl 0 (by decide) (hts _ kw_632) (fun _ h9 => h9) rfl dX2_memberOf_51 ?_
    refine lv_iload_n hx hb dX2_memberOf_54 rfl (lv_at hl 0 rfl) ?_
    have hFc := gfree hD hS hA
    refine va_calli (va_runV (As := [.int r_7]) (rest := [.int r_9, .ref r0_1]) ⟨hx, hb, hml, hown, hts⟩ (m_X7_firstOf l g H.size ws r0_1 (r_7) hG o_r0_1) (cwV 1 hts (gd_V kw_652 kw_1326 kw_1327 kw_710 kw_1325) rfl rfl rfl (by decide +kernel) ⟨Nat.le_of_ble_eq_true rfl, Nat.le_of_ble_eq_true rfl⟩) ⟨gblind, va_recv hK hP (ci := 6) (q0 := k_5) rfl hk_5, fun U hU hW9 => gmk hU hW9 hP hK hD hex hE hS hFc⟩ rfl rfl hl.1 rfl (lv_room (Nat.le_of_ble_eq_true rfl)) dX2_memberOf_55 ⟨Nat.le_of_ble_eq_true rfl, Nat.le_of_ble_eq_true rfl⟩) hS (fun q _ h => hFc q h) hFc (fun r_10 u9 t9 H1 locs ht9 hvm9 hw9 hB9 hz9 hk9 hS => ?_)
    have hP : va_P (gD g) cl0 ws H1 := by rw [← ht9]; exact hB9.1
    have h_r_10 := hw9
    clear hB9 hz9 hk9 hvm9 ht9 hw9
    generalize H1 = H at hP hS ⊢
    have hFc := gfree hD hS hA
    refine va_calli (va_runV (As := [.int r_9, .int r_10]) (rest := []) ⟨hx, hb, hml, hown, hts⟩ (m_X7_isSameName l g H.size ws r0_1 (r_9) (r_10) hG o_r0_1) (cwV 2 hts (gd_V kw_752 kw_1356 kw_1357 kw_710 kw_1355) rfl rfl rfl (by decide +kernel) ⟨Nat.le_of_ble_eq_true rfl, Nat.le_of_ble_eq_true rfl⟩) ⟨gblind, va_recv hK hP (ci := 6) (q0 := k_5) rfl hk_5, fun U hU hW9 => gmk hU hW9 hP hK hD hex hE hS hFc⟩ rfl rfl hl.1 rfl (lv_room (Nat.le_of_ble_eq_true rfl)) dX2_memberOf_58 ⟨Nat.le_of_ble_eq_true rfl, Nat.le_of_ble_eq_true rfl⟩) hS (fun q _ h => hFc q h) hFc (fun r_11 u9 t9 H1 locs ht9 hvm9 hw9 hB9 hz9 hk9 hS => ?_)
    have hP : va_P (gD g) cl0 ws H1 := by rw [← ht9]; exact hB9.1
    have hz_r_11 : r_11 = 0 ∨ r_11 = 1 := hw9
    clear hB9 hz9 hk9 hvm9 ht9 hw9
    generalize H1 = H at hP hS ⊢
    refine lv_if_ne (tgt := 66) hx hb dX2_memberOf_61 (by decide) (fun c_12 => ?_) (fun c_12 => ?_)
    · refine lv_aload_n hx hb dX2_memberOf_66 rfl (lv_at hl 1 rfl) ?_
      refine va_get (D := gD g) (ci := 2) (v := .ref r0_1) (C := RX2) (T := TX2) (N := 12) hx hb hts inX2 hown hK hP k_1 hk_1 rfl 0 (by decide) (hts _ kw_632) (fun _ h9 => h9) rfl dX2_memberOf_67 ?_
      refine lv_iload_n hx hb dX2_memberOf_70 rfl (lv_at hl 2 rfl) ?_
      have hFc := gfree hD hS hA
      refine va_calli (va_runV (As := [.int x1]) (rest := []) ⟨hx, hb, hml, hown, hts⟩ (m_X7_secondOf l g H.size ws r0_1 (x1) hG o_r0_1) (cwV 1 hts (gd_V kw_753 kw_1432 kw_1433 kw_710 kw_1431) rfl rfl rfl (by decide +kernel) ⟨Nat.le_of_ble_eq_true rfl, Nat.le_of_ble_eq_true rfl⟩) ⟨gblind, va_recv hK hP (ci := 6) (q0 := k_5) rfl hk_5, fun U hU hW9 => gmk hU hW9 hP hK hD hex hE hS hFc⟩ rfl rfl hl.1 rfl (lv_room (Nat.le_of_ble_eq_true rfl)) dX2_memberOf_71 ⟨Nat.le_of_ble_eq_true rfl, Nat.le_of_ble_eq_true rfl⟩) hS (fun q _ h => hFc q h) hFc (fun r_13 u9 t9 H1 locs ht9 hvm9 hw9 hB9 hz9 hk9 hS => ?_)
      have hP : va_P (gD g) cl0 ws H1 := by rw [← ht9]; exact hB9.1
      have h_r_13 := hw9
      clear hB9 hz9 hk9 hvm9 ht9 hw9
      generalize H1 = H at hP hS ⊢
      refine lv_istore (lv' := [(4, .int r_13), (3, .int r_7), (0, .ref h0), (1, .int x1), (2, .int x2)]) hx hb dX2_memberOf_74 hl (by decide) rfl (fun ls hl => ?_)
      refine lv_iload_n hx hb dX2_memberOf_76 rfl (lv_at hl 4 rfl) ?_
      refine lv_bipush (v := 9) hx hb dX2_memberOf_77 (by decide) ?_
      have J_93 : ∀ (t_14 : Int32) (H : Heap) (locs : List Loc) (ls : Array Slot), va_P (gD g) cl0 ws H → va_D A ws → va_S A s.heap H locs → lv_has ls 8 [(0, .ref h0), (2, .int x2), (4, .int r_13)] → W p l e (headSpec (wt yX2_memberOf cX2_memberOf 8 (some .int)) ({ frames := 2, cells := 0, slots := 0, locals := 47 })).room s m ([.ref h0, .int x1, .int x2] : List Value).toArray below meth c H locs (0) (0) (MQ below (va_Qi (fun (r : Int32) (u9 : Unit) => True) (gQ0 g A ws) A) ([.ref h0, .int x1, .int x2] : List Value).toArray s (0) (0) A) (F0 m 93 ls [.int t_14]) := by
        intro t_14 H locs ls  hP hD hS hl
        refine lv_istore (lv' := [(5, .int t_14), (0, .ref h0), (2, .int x2), (4, .int r_13)]) hx hb dX2_memberOf_93 hl (by decide) rfl (fun ls hl => ?_)
        refine lv_iload_n hx hb dX2_memberOf_95 rfl (lv_at hl 2 rfl) ?_
        refine lv_bipush (v := 9) hx hb dX2_memberOf_96 (by decide) ?_
        have J_118 : ∀ (t_17 : Int32) (H : Heap) (locs : List Loc) (ls : Array Slot), va_P (gD g) cl0 ws H → va_D A ws → va_S A s.heap H locs → lv_has ls 8 [(0, .ref h0), (4, .int r_13), (5, .int t_14)] → W p l e (headSpec (wt yX2_memberOf cX2_memberOf 8 (some .int)) ({ frames := 2, cells := 0, slots := 0, locals := 47 })).room s m ([.ref h0, .int x1, .int x2] : List Value).toArray below meth c H locs (0) (0) (MQ below (va_Qi (fun (r : Int32) (u9 : Unit) => True) (gQ0 g A ws) A) ([.ref h0, .int x1, .int x2] : List Value).toArray s (0) (0) A) (F0 m 118 ls [.int t_17]) := by
          intro t_17 H locs ls  hP hD hS hl
          refine lv_istore (lv' := [(6, .int t_17), (0, .ref h0), (4, .int r_13), (5, .int t_14)]) hx hb dX2_memberOf_118 hl (by decide) rfl (fun ls hl => ?_)
          refine lv_iconst (v := 0) hx hb dX2_memberOf_120 (by decide) ?_
          refine lv_istore (lv' := [(7, .int 0), (6, .int t_17), (0, .ref h0), (4, .int r_13), (5, .int t_14)]) hx hb dX2_memberOf_121 hl (by decide) rfl (fun ls hl => ?_)
          have J_123 : ∀ (n9 : Nat) (v7_20 : Int32) (H : Heap) (locs : List Loc) (ls : Array Slot), (2147483647 - v7_20.toInt).toNat = n9 → 0 ≤ v7_20.toInt → va_P (gD g) cl0 ws H → va_D A ws → va_S A s.heap H locs → lv_has ls 8 [(0, .ref h0), (4, .int r_13), (5, .int t_14), (6, .int t_17), (7, .int v7_20)] → W p l e (headSpec (wt yX2_memberOf cX2_memberOf 8 (some .int)) ({ frames := 2, cells := 0, slots := 0, locals := 47 })).room s m ([.ref h0, .int x1, .int x2] : List Value).toArray below meth c H locs (0) (0) (MQ below (va_Qi (fun (r : Int32) (u9 : Unit) => True) (gQ0 g A ws) A) ([.ref h0, .int x1, .int x2] : List Value).toArray s (0) (0) A) (F0 m 123 ls []) := by
            intro n9
            induction n9 using Nat.strongRecOn with
            | ind n9 ih_123 =>
              intro v7_20 H locs ls hm9 iv_21 hP hD hS hl
              subst hm9
              refine lv_iload hx hb dX2_memberOf_123 (lv_at hl 4 rfl) ?_
              refine lv_iload hx hb dX2_memberOf_125 (lv_at hl 3 rfl) ?_
              refine lv_icmp_ge (tgt := 201) hx hb dX2_memberOf_127 (by decide) (fun c_24 => ?_) (fun c_24 => ?_)
              · refine lv_iconst (v := (-1)) hx hb dX2_memberOf_201 (by decide) ?_
                refine W.widen (k := 0) (n := 0) (Nat.le_of_ble_eq_true rfl) (Nat.le_of_ble_eq_true rfl) ?_
                exact W.iret (v := (-1)) hx hb hr (fun t9 ht9 hW9 => ⟨⟨_, (), rfl, trivial, ⟨by rw [ht9]; exact hP, hD⟩⟩, hS.F ht9⟩) hS.2.2 dX2_memberOf_202
              · refine lv_aload_n hx hb dX2_memberOf_130 rfl (lv_at hl 0 rfl) ?_
                refine va_get (D := gD g) (ci := 2) (v := .ref r0_1) (C := RX2) (T := TX2) (N := 12) hx hb hts inX2 hown hK hP k_1 hk_1 rfl 0 (by decide) (hts _ kw_632) (fun _ h9 => h9) rfl dX2_memberOf_131 ?_
                refine lv_aload_n hx hb dX2_memberOf_134 rfl (lv_at hl 0 rfl) ?_
                refine va_get (D := gD g) (ci := 2) (v := .ref r0_1) (C := RX2) (T := TX2) (N := 12) hx hb hts inX2 hown hK hP k_1 hk_1 rfl 0 (by decide) (hts _ kw_632) (fun _ h9 => h9) rfl dX2_memberOf_135 ?_
                refine lv_iload hx hb dX2_memberOf_138 (lv_at hl 2 rfl) ?_
                refine lv_iload hx hb dX2_memberOf_140 (lv_at hl 4 rfl) ?_
                refine lv_iadd hx hb dX2_memberOf_142 ?_
                refine lv_topi (fun z_25 ez_25 => ?_)
                have hFc := gfree hD hS hA
                refine va_calli (va_runV (As := [.int z_25]) (rest := [.ref r0_1]) ⟨hx, hb, hml, hown, hts⟩ (m_X7_nameOf l g H.size ws r0_1 (z_25) hG o_r0_1) (cwV 1 hts (gd_V kw_656 kw_1409 kw_1410 kw_710 kw_1408) rfl rfl rfl (by decide +kernel) ⟨Nat.le_of_ble_eq_true rfl, Nat.le_of_ble_eq_true rfl⟩) ⟨gblind, va_recv hK hP (ci := 6) (q0 := k_5) rfl hk_5, fun U hU hW9 => gmk hU hW9 hP hK hD hex hE hS hFc⟩ rfl rfl hl.1 rfl (lv_room (Nat.le_of_ble_eq_true rfl)) dX2_memberOf_143 ⟨Nat.le_of_ble_eq_true rfl, Nat.le_of_ble_eq_true rfl⟩) hS (fun q _ h => hFc q h) hFc (fun r_26 u9 t9 H1 locs ht9 hvm9 hw9 hB9 hz9 hk9 hS => ?_)
                have hP : va_P (gD g) cl0 ws H1 := by rw [← ht9]; exact hB9.1
                clear hB9 hz9 hk9 hvm9 ht9 hw9
                generalize H1 = H at hP hS ⊢
                refine lv_aload_n hx hb dX2_memberOf_146 rfl (lv_at hl 0 rfl) ?_
                refine va_get (D := gD g) (ci := 2) (v := .ref r0_1) (C := RX2) (T := TX2) (N := 12) hx hb hts inX2 hown hK hP k_1 hk_1 rfl 0 (by decide) (hts _ kw_632) (fun _ h9 => h9) rfl dX2_memberOf_147 ?_
                refine lv_iload hx hb dX2_memberOf_150 (lv_at hl 1 rfl) ?_
                have hFc := gfree hD hS hA
                refine va_calli (va_runV (As := [.int r_13]) (rest := [.int r_26, .ref r0_1]) ⟨hx, hb, hml, hown, hts⟩ (m_X7_firstOf l g H.size ws r0_1 (r_13) hG o_r0_1) (cwV 1 hts (gd_V kw_652 kw_1326 kw_1327 kw_710 kw_1325) rfl rfl rfl (by decide +kernel) ⟨Nat.le_of_ble_eq_true rfl, Nat.le_of_ble_eq_true rfl⟩) ⟨gblind, va_recv hK hP (ci := 6) (q0 := k_5) rfl hk_5, fun U hU hW9 => gmk hU hW9 hP hK hD hex hE hS hFc⟩ rfl rfl hl.1 rfl (lv_room (Nat.le_of_ble_eq_true rfl)) dX2_memberOf_152 ⟨Nat.le_of_ble_eq_true rfl, Nat.le_of_ble_eq_true rfl⟩) hS (fun q _ h => hFc q h) hFc (fun r_27 u9 t9 H1 locs ht9 hvm9 hw9 hB9 hz9 hk9 hS => ?_)
                have hP : va_P (gD g) cl0 ws H1 := by rw [← ht9]; exact hB9.1
                have h_r_27 := hw9
                clear hB9 hz9 hk9 hvm9 ht9 hw9
                generalize H1 = H at hP hS ⊢
                have hFc := gfree hD hS hA
                refine va_calli (va_runV (As := [.int r_26, .int r_27]) (rest := []) ⟨hx, hb, hml, hown, hts⟩ (m_X7_isSameName l g H.size ws r0_1 (r_26) (r_27) hG o_r0_1) (cwV 2 hts (gd_V kw_752 kw_1356 kw_1357 kw_710 kw_1355) rfl rfl rfl (by decide +kernel) ⟨Nat.le_of_ble_eq_true rfl, Nat.le_of_ble_eq_true rfl⟩) ⟨gblind, va_recv hK hP (ci := 6) (q0 := k_5) rfl hk_5, fun U hU hW9 => gmk hU hW9 hP hK hD hex hE hS hFc⟩ rfl rfl hl.1 rfl (lv_room (Nat.le_of_ble_eq_true rfl)) dX2_memberOf_155 ⟨Nat.le_of_ble_eq_true rfl, Nat.le_of_ble_eq_true rfl⟩) hS (fun q _ h => hFc q h) hFc (fun r_28 u9 t9 H1 locs ht9 hvm9 hw9 hB9 hz9 hk9 hS => ?_)
                have hP : va_P (gD g) cl0 ws H1 := by rw [← ht9]; exact hB9.1
                have hz_r_28 : r_28 = 0 ∨ r_28 = 1 := hw9
                clear hB9 hz9 hk9 hvm9 ht9 hw9
                generalize H1 = H at hP hS ⊢
                have J_195 : ∀  (H : Heap) (locs : List Loc) (ls : Array Slot), va_P (gD g) cl0 ws H → va_D A ws → va_S A s.heap H locs → lv_has ls 8 [(0, .ref h0), (4, .int r_13), (5, .int t_14), (6, .int t_17), (7, .int v7_20)] → W p l e (headSpec (wt yX2_memberOf cX2_memberOf 8 (some .int)) ({ frames := 2, cells := 0, slots := 0, locals := 47 })).room s m ([.ref h0, .int x1, .int x2] : List Value).toArray below meth c H locs (0) (0) (MQ below (va_Qi (fun (r : Int32) (u9 : Unit) => True) (gQ0 g A ws) A) ([.ref h0, .int x1, .int x2] : List Value).toArray s (0) (0) A) (F0 m 195 ls []) := by
                  intro  H locs ls  hP hD hS hl
                  obtain ⟨z_31, ez_31⟩ : ∃ z : Int32, v7_20 + Int32.ofInt 1 = z := ⟨_, rfl⟩
                  refine lv_iinc (v := z_31) (lv' := [(7, .int z_31), (0, .ref h0), (4, .int r_13), (5, .int t_14), (6, .int t_17)]) hx hb dX2_memberOf_195 hl (k := 4) rfl ez_31 (by decide) rfl (fun ls hl => ?_)
                  refine lv_goto (tgt := 123) hx hb dX2_memberOf_198 (by decide) ?_
                  exact ih_123 _ (by obtain ⟨u_z_31, q_z_31⟩ := i_iz ez_31 (by decide) (by decide); have q_iv_21 := iv_21; have q_c_24 := i_nle c_24; obtain ⟨u_z_25, q_z_25⟩ := i_add ez_25; have g_t_14 := i_rg t_14; have g_t_17 := i_rg t_17; have g_v7_20 := i_rg v7_20; have g_z_25 := i_rg z_25; have g_z_31 := i_rg z_31; omega) (z_31) H locs ls rfl (by obtain ⟨u_z_31, q_z_31⟩ := i_iz ez_31 (by decide) (by decide); have q_iv_21 := iv_21; have q_c_24 := i_nle c_24; obtain ⟨u_z_25, q_z_25⟩ := i_add ez_25; have g_t_14 := i_rg t_14; have g_t_17 := i_rg t_17; have g_v7_20 := i_rg v7_20; have g_z_25 := i_rg z_25; have g_z_31 := i_rg z_31; omega) hP hD hS (lv_sub hl [1, 2, 3, 4, 0] rfl)
                refine lv_if_eq (tgt := 195) hx hb dX2_memberOf_158 (by decide) (fun c_32 => ?_) (fun c_32 => ?_)
                · exact J_195  H locs ls  hP hD hS (lv_sub hl [0, 1, 2, 3, 4] rfl)
                · refine lv_aload_n hx hb dX2_memberOf_161 rfl (lv_at hl 0 rfl) ?_
                  refine va_get (D := gD g) (ci := 2) (v := .ref r0_1) (C := RX2) (T := TX2) (N := 12) hx hb hts inX2 hown hK hP k_1 hk_1 rfl 0 (by decide) (hts _ kw_632) (fun _ h9 => h9) rfl dX2_memberOf_162 ?_
                  refine lv_aload_n hx hb dX2_memberOf_165 rfl (lv_at hl 0 rfl) ?_
                  refine va_get (D := gD g) (ci := 2) (v := .ref r0_1) (C := RX2) (T := TX2) (N := 12) hx hb hts inX2 hown hK hP k_1 hk_1 rfl 0 (by decide) (hts _ kw_632) (fun _ h9 => h9) rfl dX2_memberOf_166 ?_
                  refine lv_iload hx hb dX2_memberOf_169 (lv_at hl 2 rfl) ?_
                  refine lv_iload hx hb dX2_memberOf_171 (lv_at hl 4 rfl) ?_
                  refine lv_iadd hx hb dX2_memberOf_173 ?_
                  refine lv_topi (fun z_33 ez_33 => ?_)
                  have hFc := gfree hD hS hA
                  refine va_calli (va_runV (As := [.int z_33]) (rest := [.ref r0_1]) ⟨hx, hb, hml, hown, hts⟩ (m_X7_typeOf l g H.size ws r0_1 (z_33) hG o_r0_1) (cwV 1 hts (gd_V kw_658 kw_1438 kw_1439 kw_710 kw_1437) rfl rfl rfl (by decide +kernel) ⟨Nat.le_of_ble_eq_true rfl, Nat.le_of_ble_eq_true rfl⟩) ⟨gblind, va_recv hK hP (ci := 6) (q0 := k_5) rfl hk_5, fun U hU hW9 => gmk hU hW9 hP hK hD hex hE hS hFc⟩ rfl rfl hl.1 rfl (lv_room (Nat.le_of_ble_eq_true rfl)) dX2_memberOf_174 ⟨Nat.le_of_ble_eq_true rfl, Nat.le_of_ble_eq_true rfl⟩) hS (fun q _ h => hFc q h) hFc (fun r_34 u9 t9 H1 locs ht9 hvm9 hw9 hB9 hz9 hk9 hS => ?_)
                  have hP : va_P (gD g) cl0 ws H1 := by rw [← ht9]; exact hB9.1
                  clear hB9 hz9 hk9 hvm9 ht9 hw9
                  generalize H1 = H at hP hS ⊢
                  refine lv_aload_n hx hb dX2_memberOf_177 rfl (lv_at hl 0 rfl) ?_
                  refine va_get (D := gD g) (ci := 2) (v := .ref r0_1) (C := RX2) (T := TX2) (N := 12) hx hb hts inX2 hown hK hP k_1 hk_1 rfl 0 (by decide) (hts _ kw_632) (fun _ h9 => h9) rfl dX2_memberOf_178 ?_
                  refine lv_iload hx hb dX2_memberOf_181 (lv_at hl 1 rfl) ?_
                  have hFc := gfree hD hS hA
                  refine va_calli (va_runV (As := [.int r_13]) (rest := [.int r_34, .ref r0_1]) ⟨hx, hb, hml, hown, hts⟩ (m_X7_secondOf l g H.size ws r0_1 (r_13) hG o_r0_1) (cwV 1 hts (gd_V kw_753 kw_1432 kw_1433 kw_710 kw_1431) rfl rfl rfl (by decide +kernel) ⟨Nat.le_of_ble_eq_true rfl, Nat.le_of_ble_eq_true rfl⟩) ⟨gblind, va_recv hK hP (ci := 6) (q0 := k_5) rfl hk_5, fun U hU hW9 => gmk hU hW9 hP hK hD hex hE hS hFc⟩ rfl rfl hl.1 rfl (lv_room (Nat.le_of_ble_eq_true rfl)) dX2_memberOf_183 ⟨Nat.le_of_ble_eq_true rfl, Nat.le_of_ble_eq_true rfl⟩) hS (fun q _ h => hFc q h) hFc (fun r_35 u9 t9 H1 locs ht9 hvm9 hw9 hB9 hz9 hk9 hS => ?_)
                  have hP : va_P (gD g) cl0 ws H1 := by rw [← ht9]; exact hB9.1
                  have h_r_35 := hw9
                  clear hB9 hz9 hk9 hvm9 ht9 hw9
                  generalize H1 = H at hP hS ⊢
                  have hFc := gfree hD hS hA
                  refine va_calli (va_runV (As := [.int r_34, .int r_35]) (rest := []) ⟨hx, hb, hml, hown, hts⟩ (m_X7_isSameName l g H.size ws r0_1 (r_34) (r_35) hG o_r0_1) (cwV 2 hts (gd_V kw_752 kw_1356 kw_1357 kw_710 kw_1355) rfl rfl rfl (by decide +kernel) ⟨Nat.le_of_ble_eq_true rfl, Nat.le_of_ble_eq_true rfl⟩) ⟨gblind, va_recv hK hP (ci := 6) (q0 := k_5) rfl hk_5, fun U hU hW9 => gmk hU hW9 hP hK hD hex hE hS hFc⟩ rfl rfl hl.1 rfl (lv_room (Nat.le_of_ble_eq_true rfl)) dX2_memberOf_186 ⟨Nat.le_of_ble_eq_true rfl, Nat.le_of_ble_eq_true rfl⟩) hS (fun q _ h => hFc q h) hFc (fun r_36 u9 t9 H1 locs ht9 hvm9 hw9 hB9 hz9 hk9 hS => ?_)
                  have hP : va_P (gD g) cl0 ws H1 := by rw [← ht9]; exact hB9.1
                  have hz_r_36 : r_36 = 0 ∨ r_36 = 1 := hw9
                  clear hB9 hz9 hk9 hvm9 ht9 hw9
                  generalize H1 = H at hP hS ⊢
                  refine lv_if_eq (tgt := 195) hx hb dX2_memberOf_189 (by decide) (fun c_37 => ?_) (fun c_37 => ?_)
                  · exact J_195  H locs ls  hP hD hS (lv_sub hl [0, 1, 2, 3, 4] rfl)
                  · refine lv_iload hx hb dX2_memberOf_192 (lv_at hl 4 rfl) ?_
                    refine W.widen (k := 0) (n := 0) (Nat.le_of_ble_eq_true rfl) (Nat.le_of_ble_eq_true rfl) ?_
                    exact W.iret (v := v7_20) hx hb hr (fun t9 ht9 hW9 => ⟨⟨_, (), rfl, trivial, ⟨by rw [ht9]; exact hP, hD⟩⟩, hS.F ht9⟩) hS.2.2 dX2_memberOf_194
          exact J_123 _ (0) H locs ls rfl (by have e0 : (0 : Int32).toInt = 0 := (by decide); omega) hP hD hS (lv_sub hl [2, 3, 4, 1, 0] rfl)
        refine lv_icmp_ne (tgt := 111) hx hb dX2_memberOf_98 (by decide) (fun c_38 => ?_) (fun c_38 => ?_)
        · refine lv_aload_n hx hb dX2_memberOf_111 rfl (lv_at hl 1 rfl) ?_
          refine va_get (D := gD g) (ci := 2) (v := .ref r0_1) (C := RX2) (T := TX2) (N := 12) hx hb hts inX2 hown hK hP k_1 hk_1 rfl 0 (by decide) (hts _ kw_632) (fun _ h9 => h9) rfl dX2_memberOf_112 ?_
          refine va_get (D := gD g) (ci := 6) (v := .int c8_5) (C := RX7) (T := TX7) (N := 17) hx hb hts inX7 hown hK hP k_5 hk_5 rfl 8 (by decide) (hts _ kw_646) (fun _ h9 => h9) rfl dX2_memberOf_115 ?_
          exact J_118 (c8_5) H locs ls  hP hD hS (lv_sub hl [1, 3, 0] rfl)
        · refine lv_aload_n hx hb dX2_memberOf_101 rfl (lv_at hl 1 rfl) ?_
          refine va_get (D := gD g) (ci := 2) (v := .ref r0_1) (C := RX2) (T := TX2) (N := 12) hx hb hts inX2 hown hK hP k_1 hk_1 rfl 0 (by decide) (hts _ kw_632) (fun _ h9 => h9) rfl dX2_memberOf_102 ?_
          refine va_get (D := gD g) (ci := 6) (v := .int c7_5) (C := RX7) (T := TX7) (N := 17) hx hb hts inX7 hown hK hP k_5 hk_5 rfl 7 (by decide) (hts _ kw_645) (fun _ h9 => h9) rfl dX2_memberOf_105 ?_
          refine lv_goto (tgt := 118) hx hb dX2_memberOf_108 (by decide) ?_
          exact J_118 (c7_5) H locs ls  hP hD hS (lv_sub hl [1, 3, 0] rfl)
      refine lv_icmp_ne (tgt := 86) hx hb dX2_memberOf_79 (by decide) (fun c_39 => ?_) (fun c_39 => ?_)
      · refine lv_aload_n hx hb dX2_memberOf_86 rfl (lv_at hl 2 rfl) ?_
        refine va_get (D := gD g) (ci := 2) (v := .ref r0_1) (C := RX2) (T := TX2) (N := 12) hx hb hts inX2 hown hK hP k_1 hk_1 rfl 0 (by decide) (hts _ kw_632) (fun _ h9 => h9) rfl dX2_memberOf_87 ?_
        refine va_get (D := gD g) (ci := 6) (v := .int c7_5) (C := RX7) (T := TX7) (N := 17) hx hb hts inX7 hown hK hP k_5 hk_5 rfl 7 (by decide) (hts _ kw_645) (fun _ h9 => h9) rfl dX2_memberOf_90 ?_
        exact J_93 (c7_5) H locs ls  hP hD hS (lv_sub hl [2, 4, 0] rfl)
      · refine lv_iconst (v := 0) hx hb dX2_memberOf_82 (by decide) ?_
        refine lv_goto (tgt := 93) hx hb dX2_memberOf_83 (by decide) ?_
        exact J_93 (0) H locs ls  hP hD hS (lv_sub hl [2, 4, 0] rfl)
    · refine lv_iconst (v := (-1)) hx hb dX2_memberOf_64 (by decide) ?_
      refine W.widen (k := 0) (n := 0) (Nat.le_of_ble_eq_true rfl) (Nat.le_of_ble_eq_true rfl) ?_
      exact W.iret (v := (-1)) hx hb hr (fun t9 ht9 hW9 => ⟨⟨_, (), rfl, trivial, ⟨by rw [ht9]; exact hP, hD⟩⟩, hS.F ht9⟩) hS.2.2 dX2_memberOf_65
  · refine lv_iconst (v := (-1)) hx hb dX2_memberOf_12 (by decide) ?_
    refine W.widen (k := 0) (n := 0) (Nat.le_of_ble_eq_true rfl) (Nat.le_of_ble_eq_true rfl) ?_
    exact W.iret (v := (-1)) hx hb hr (fun t9 ht9 hW9 => ⟨⟨_, (), rfl, trivial, ⟨by rw [ht9]; exact hP, hD⟩⟩, hS.F ht9⟩) hS.2.2 dX2_memberOf_13
set_option maxHeartbeats 1000000 in
set_option maxRecDepth 100000 in
theorem m_X2_longAt (l : Launch) (g : Gm) (sz : Nat) (ws : va_W) (h0 : Nat) (x1 : Int32) (hG : Good g ws) (o_h0 : gC ws h0 2) : Met l yX2_longAt (wt yX2_longAt cX2_longAt 2 (some .long)) ({ frames := 2, cells := 0, slots := 0, locals := 42 }) (va_Pc [.ref h0, .int x1] (st_G g sz ws)) (va_Ql (fun (r : Int64) (u9 : Unit) => True) (gQ0 g (va_A ws sz) ws) (va_A ws sz)) (0) (0) (va_A ws sz) := by
  refine Met.ofW (cc := cX2_longAt) (maxL := 2) (ret := (some .long)) (by decide) rfl ?_
  intro p e s m args below meth c s₁ B hml hv
  obtain ⟨rfl, hsz, hP, hK, hD0, hex, hE⟩ := hv
  have hx := B.exec
  have hb := B.bytes
  have hr := B.returns
  have hts0 := atoms_spec (ws := wt yX2_longAt cX2_longAt 2 (some .long)) B.pre
  have hts : ∀ w ∈ tb, w.before _ s = true := fun w h => hts0 w (List.mem_cons_of_mem _ h)
  have hown : s.vm.findClass RX2 = some m.cls := findClass_of_methodNamed B.named
  subst hsz
  have hD := hD0.self (sz := s.heap.size)
  generalize hAe : va_A ws s.heap.size = A at hD hE ⊢
  have hA : ∀ q : Nat, s.heap.size ≤ q → A q := fun q h => by rw [← hAe]; exact Or.inr h
  have hS : va_S A s.heap s.heap [] := va_S.rf
  have hl := lv_entry ([.ref h0, .int x1]) (n := 2) (Nat.le_of_ble_eq_true rfl)
  rw [lg_entry_eq]
  generalize (lg_sl ([.ref h0, .int x1]) ++ List.replicate (2 - (lg_sl ([.ref h0, .int x1])).length) Slot.unset).toArray = ls at hl ⊢
  have hl : lv_has ls 2 [(0, .ref h0), (1, .int x1)] := hl
  refine lv_aload_n hx hb dX2_longAt_0 rfl (lv_at hl 0 rfl) ?_
  obtain ⟨k_1, fs9, hk_1⟩ := gC_of o_h0
  obtain ⟨r0_1, c1_1, c2_1, c3_1, c4_1, c5_1, c6_1, r7_1, n7_1, c8_1, c9_1, l10_1, c11_1, rfl, o_r0_1, a_r7_1, f2_1, f3_1, f4_1, -⟩ := (hG.1 _ _ _ _ hk_1).hX2 rfl
  refine va_get (D := gD g) (ci := 2) (v := .ref r0_1) (C := RX2) (T := TX2) (N := 12) hx hb hts inX2 hown hK hP k_1 hk_1 rfl 0 (by decide) (hts _ kw_632) (fun _ h9 => h9) rfl dX2_longAt_1 ?_
  refine lv_iload_n hx hb dX2_longAt_4 rfl (lv_at hl 1 rfl) ?_
  have hFc := gfree hD hS hA
  obtain ⟨k_2, fs_2, hk_2⟩ := gC_of o_r0_1
  refine va_calll (va_runV (As := [.int x1]) (rest := []) ⟨hx, hb, hml, hown, hts⟩ (m_X7_u4 l g s.heap.size ws r0_1 (x1) hG o_r0_1) (cwV 1 hts (gd_V kw_678 kw_1453 kw_1454 kw_710 kw_1452) rfl rfl rfl (by decide +kernel) ⟨Nat.le_of_ble_eq_true rfl, Nat.le_of_ble_eq_true rfl⟩) ⟨gblind, va_recv hK hP (ci := 6) (q0 := k_2) rfl hk_2, fun U hU hW9 => gmk hU hW9 hP hK hD hex hE hS hFc⟩ rfl rfl hl.1 rfl (lv_room (Nat.le_of_ble_eq_true rfl)) dX2_longAt_5 ⟨Nat.le_of_ble_eq_true rfl, Nat.le_of_ble_eq_true rfl⟩) hS (fun q _ h => hFc q h) hFc (fun r_3 u9 t9 H1 locs ht9 hvm9 hw9 hB9 hz9 hk9 hS => ?_)
  have hP : va_P (gD g) cl0 ws H1 := by rw [← ht9]; exact hB9.1
  clear hB9 hz9 hk9 hvm9 ht9 hw9
  generalize H1 = H at hP hS ⊢
  refine lv_bipush (v := 32) hx hb dX2_longAt_8 (by decide) ?_
  refine lv_lshl hx hb dX2_longAt_10 rfl ?_
  refine lv_topl (fun z_4 ez_4 => ?_)
  refine lv_aload_n hx hb dX2_longAt_11 rfl (lv_at hl 0 rfl) ?_
  refine va_get (D := gD g) (ci := 2) (v := .ref r0_1) (C := RX2) (T := TX2) (N := 12) hx hb hts inX2 hown hK hP k_1 hk_1 rfl 0 (by decide) (hts _ kw_632) (fun _ h9 => h9) rfl dX2_longAt_12 ?_
  refine lv_iload_n hx hb dX2_longAt_15 rfl (lv_at hl 1 rfl) ?_
  refine lv_iconst (v := 4) hx hb dX2_longAt_16 (by decide) ?_
  refine lv_iadd hx hb dX2_longAt_17 ?_
  refine lv_topi (fun z_5 ez_5 => ?_)
  have hFc := gfree hD hS hA
  obtain ⟨k_6, fs_6, hk_6⟩ := gC_of o_r0_1
  refine va_calll (va_runV (As := [.int z_5]) (rest := [.long z_4]) ⟨hx, hb, hml, hown, hts⟩ (m_X7_u4 l g H.size ws r0_1 (z_5) hG o_r0_1) (cwV 1 hts (gd_V kw_678 kw_1453 kw_1454 kw_710 kw_1452) rfl rfl rfl (by decide +kernel) ⟨Nat.le_of_ble_eq_true rfl, Nat.le_of_ble_eq_true rfl⟩) ⟨gblind, va_recv hK hP (ci := 6) (q0 := k_6) rfl hk_6, fun U hU hW9 => gmk hU hW9 hP hK hD hex hE hS hFc⟩ rfl rfl hl.1 rfl (lv_room (Nat.le_of_ble_eq_true rfl)) dX2_longAt_18 ⟨Nat.le_of_ble_eq_true rfl, Nat.le_of_ble_eq_true rfl⟩) hS (fun q _ h => hFc q h) hFc (fun r_7 u9 t9 H1 locs ht9 hvm9 hw9 hB9 hz9 hk9 hS => ?_)
  have hP : va_P (gD g) cl0 ws H1 := by rw [← ht9]; exact hB9.1
  clear hB9 hz9 hk9 hvm9 ht9 hw9
  generalize H1 = H at hP hS ⊢
  refine lv_lor hx hb dX2_longAt_21 ?_
  refine lv_topl (fun z_8 ez_8 => ?_)
  refine W.widen (k := 0) (n := 0) (Nat.le_of_ble_eq_true rfl) (Nat.le_of_ble_eq_true rfl) ?_
  exact W.lret (v := z_8) hx hb hr (fun t9 ht9 hW9 => ⟨⟨_, (), rfl, trivial, ⟨by rw [ht9]; exact hP, hD⟩⟩, hS.F ht9⟩) hS.2.2 dX2_longAt_22
set_option maxHeartbeats 1000000 in
set_option maxRecDepth 100000 in
theorem m_X2_addSwitch (l : Launch) (g : Gm) (sz : Nat) (ws : va_W) (h0 : Nat) (b1 : Nat) (hG : Good g ws) (o_h0 : gC ws h0 2) (o_b1 : gC ws b1 7) : Met l yX2_addSwitch (wt yX2_addSwitch cX2_addSwitch 5 none) ({ frames := 3, cells := 0, slots := 0, locals := 64 }) (va_Pc [.ref h0, .ref b1] (st_G g sz ws)) (va_Qv (fun (u9 : va_W) => True) (gQ1 g [(7, 2), (7, 4)] [(7, 0), (7, 1), (7, 3)] none (va_A ws sz) ws) (va_A ws sz)) (0) (0) (va_A ws sz) := by
  refine Met.ofW (cc := cX2_addSwitch) (maxL := 5) (ret := none) (by decide) rfl ?_
  intro p e s m args below meth c s₁ B hml hv
  obtain ⟨rfl, hsz, hP, hK, hD0, hex, hE⟩ := hv
  have hx := B.exec
  have hb := B.bytes
  have hr := B.returns
  have hts0 := atoms_spec (ws := wt yX2_addSwitch cX2_addSwitch 5 none) B.pre
  have hts : ∀ w ∈ tb, w.before _ s = true := fun w h => hts0 w (List.mem_cons_of_mem _ h)
  have hown : s.vm.findClass RX2 = some m.cls := findClass_of_methodNamed B.named
  subst hsz
  have hD := hD0.self (sz := s.heap.size)
  generalize hAe : va_A ws s.heap.size = A at hD hE ⊢
  have hA : ∀ q : Nat, s.heap.size ≤ q → A q := fun q h => by rw [← hAe]; exact Or.inr h
  have hS : va_S A s.heap s.heap [] := va_S.rf
  have hl := lv_entry ([.ref h0, .ref b1]) (n := 5) (Nat.le_of_ble_eq_true rfl)
  rw [lg_entry_eq]
  generalize (lg_sl ([.ref h0, .ref b1]) ++ List.replicate (5 - (lg_sl ([.ref h0, .ref b1])).length) Slot.unset).toArray = ls at hl ⊢
  have hl : lv_has ls 5 [(0, .ref h0), (1, .ref b1)] := hl
  refine lv_aload_n hx hb dX2_addSwitch_0 rfl (lv_at hl 0 rfl) ?_
  obtain ⟨k_1, fs9, hk_1⟩ := gC_of o_h0
  obtain ⟨r0_1, c1_1, c2_1, c3_1, c4_1, c5_1, c6_1, r7_1, n7_1, c8_1, c9_1, l10_1, c11_1, rfl, o_r0_1, a_r7_1, f2_1, f3_1, f4_1, -⟩ := (hG.1 _ _ _ _ hk_1).hX2 rfl
  refine va_get (D := gD g) (ci := 2) (v := .long l10_1) (C := RX2) (T := TX2) (N := 12) hx hb hts inX2 hown hK hP k_1 hk_1 rfl 10 (by decide) (hts _ kw_617) (fun _ h9 => h9) rfl dX2_addSwitch_1 ?_
  obtain ⟨z_2, ez_2⟩ : ∃ y : Int32, (l10_1 : Int64).toInt32 = y := ⟨_, rfl⟩
  refine lv_l2i (v := z_2) hx hb dX2_addSwitch_4 ez_2 ?_
  refine lv_istore_n (lv' := [(2, .int z_2), (0, .ref h0), (1, .ref b1)]) hx hb dX2_addSwitch_5 rfl hl (by decide) rfl (fun ls hl => ?_)
  refine lv_aload_n hx hb dX2_addSwitch_6 rfl (lv_at hl 1 rfl) ?_
  refine lv_iload_n hx hb dX2_addSwitch_7 rfl (lv_at hl 0 rfl) ?_
  have hFc := gfree hD hS hA
  refine va_calli (va_runV (As := [.int z_2]) (rest := []) ⟨hx, hb, hml, hown, hts⟩ (m_X2_switchCount l g s.heap.size ws h0 (z_2) hG o_h0) (cwV 1 hts (gd_V kw_618 kw_796 kw_797 kw_389 kw_795) rfl rfl rfl (by decide +kernel) ⟨Nat.le_of_ble_eq_true rfl, Nat.le_of_ble_eq_true rfl⟩) ⟨gblind, va_recv hK hP (ci := 2) (q0 := k_1) rfl hk_1, fun U hU hW9 => gmk hU hW9 hP hK hD hex hE hS hFc⟩ rfl rfl hl.1 rfl (lv_room (Nat.le_of_ble_eq_true rfl)) dX2_addSwitch_8 ⟨Nat.le_of_ble_eq_true rfl, Nat.le_of_ble_eq_true rfl⟩) hS (fun q _ h => hFc q h) hFc (fun r_3 u9 t9 H1 locs ht9 hvm9 hw9 hB9 hz9 hk9 hS => ?_)
  have hP : va_P (gD g) cl0 ws H1 := by rw [← ht9]; exact hB9.1
  clear hB9 hz9 hk9 hvm9 ht9 hw9
  generalize H1 = H at hP hS ⊢
  refine lv_istore_n (lv' := [(3, .int r_3), (2, .int z_2), (0, .ref h0), (1, .ref b1)]) hx hb dX2_addSwitch_11 rfl hl (by decide) rfl (fun ls hl => ?_)
  refine lv_aload_n hx hb dX2_addSwitch_12 rfl (lv_at hl 3 rfl) ?_
  refine lv_aload_n hx hb dX2_addSwitch_13 rfl (lv_at hl 2 rfl) ?_
  refine va_get (D := gD g) (ci := 2) (v := .int c9_1) (C := RX2) (T := TX2) (N := 12) hx hb hts inX2 hown hK hP k_1 hk_1 rfl 9 (by decide) (hts _ kw_619) (fun _ h9 => h9) rfl dX2_addSwitch_14 ?_
  refine lv_aload_n hx hb dX2_addSwitch_17 rfl (lv_at hl 3 rfl) ?_
  obtain ⟨k_4, fs9, hk_4⟩ := gC_of o_b1
  obtain ⟨r0_4, n0_4, r1_4, n1_4, c2_4, r3_4, n3_4, c4_4, r5_4, n5_4, r6_4, n6_4, r7_4, n7_4, r8_4, n8_4, c9_4, c10_4, c11_4, v12_4, v13_4, v14_4, rfl, a_r0_4, f1_4, a_r1_4, f3_4, a_r3_4, f5_4, a_r5_4, f7_4, a_r6_4, f9_4, a_r7_4, f11_4, a_r8_4, f13_4, o_v12_4, o_v13_4, o_v14_4, f17_4, f18_4, f19_4, f20_4, f21_4, f22_4, f23_4, f24_4, f25_4, f26_4, f27_4, f28_4, f29_4, -⟩ := (hG.1 _ _ _ _ hk_4).hX8 rfl
  refine va_get (D := gD g) (ci := 7) (v := .int c4_4) (C := RX8) (T := TX8) (N := 15) hx hb hts inX8 hown hK hP k_4 hk_4 rfl 4 (by decide) (hts _ kw_620) (fun _ h9 => h9) rfl dX2_addSwitch_18 ?_
  obtain ⟨z_5, ez_5⟩ : ∃ y : Int64, (c4_4 : Int32).toInt64 = y := ⟨_, rfl⟩
  refine lv_i2l (v := z_5) hx hb dX2_addSwitch_21 ez_5 ?_
  have hFc := gfree hD hS hA
  refine va_callv (va_runV (As := [.int c9_1, .long z_5]) (rest := []) ⟨hx, hb, hml, hown, hts⟩ (m_X8_add l g H.size ws b1 (c9_1) (z_5) hG o_b1) (cwV 2 hts (gd_V kw_621 kw_1457 kw_1458 kw_782 kw_1456) rfl rfl rfl (by decide +kernel) ⟨Nat.le_of_ble_eq_true rfl, Nat.le_of_ble_eq_true rfl⟩) ⟨gblind, va_recv hK hP (ci := 7) (q0 := k_4) rfl hk_4, fun U hU hW9 => gmk hU hW9 hP hK hD hex hE hS hFc⟩ rfl rfl hl.1 rfl (lv_room (Nat.le_of_ble_eq_true rfl)) dX2_addSwitch_22 ⟨Nat.le_of_ble_eq_true rfl, Nat.le_of_ble_eq_true rfl⟩) hS (fun q _ h => hFc q h) hFc (fun  ws_6 t9 H1 locs ht9 hvm9 hw9 hB9 hz9 hk9 hS => ?_)
  obtain ⟨E_7, Fr_8, hG, hP1, hD1⟩ := hB9
  have hP : va_P (gD g) cl0 ws_6 H1 := by rw [← ht9]; exact hP1
  have hD : va_D A ws_6 := hD1.weaken (fun _ _ _ h => hFc _ h)
  clear hP1 hD1 hz9 hk9 hvm9 ht9 hw9
  generalize H1 = H at hP hS ⊢
  have aa_11 := a_r7_1
  have aa_12 := a_r0_4
  have aa_13 := a_r1_4
  have aa_14 := a_r3_4
  have aa_15 := a_r5_4
  have aa_16 := a_r6_4
  have aa_17 := a_r7_4
  have aa_18 := a_r8_4
  have o_h0 := E_7.1 _ _ o_h0
  have o_b1 := E_7.1 _ _ o_b1
  refine lv_aload_n hx hb dX2_addSwitch_25 rfl (lv_at hl 3 rfl) ?_
  refine lv_iload_n hx hb dX2_addSwitch_26 rfl (lv_at hl 0 rfl) ?_
  refine lv_iconst (v := 1) hx hb dX2_addSwitch_27 (by decide) ?_
  refine lv_iadd hx hb dX2_addSwitch_28 ?_
  refine lv_topi (fun z_19 ez_19 => ?_)
  have hFc := gfree hD hS hA
  obtain ⟨k_20, fs_20, hk_20⟩ := gC_of o_b1
  refine va_callv (va_runV (As := [.int z_19]) (rest := []) ⟨hx, hb, hml, hown, hts⟩ (m_X8_addToTable l g H.size ws_6 b1 (z_19) hG o_b1) (cwV 1 hts (gd_V kw_622 kw_1471 kw_1472 kw_782 kw_1470) rfl rfl rfl (by decide +kernel) ⟨Nat.le_of_ble_eq_true rfl, Nat.le_of_ble_eq_true rfl⟩) ⟨gblind, va_recv hK hP (ci := 7) (q0 := k_20) rfl hk_20, fun U hU hW9 => gmk hU hW9 hP hK hD hex hE hS hFc⟩ rfl rfl hl.1 rfl (lv_room (Nat.le_of_ble_eq_true rfl)) dX2_addSwitch_29 ⟨Nat.le_of_ble_eq_true rfl, Nat.le_of_ble_eq_true rfl⟩) hS (fun q _ h => hFc q h) hFc (fun  ws_21 t9 H1 locs ht9 hvm9 hw9 hB9 hz9 hk9 hS => ?_)
  obtain ⟨E_22, Fr_23, hG, hP1, hD1⟩ := hB9
  have hP : va_P (gD g) cl0 ws_21 H1 := by rw [← ht9]; exact hP1
  have hD : va_D A ws_21 := hD1.weaken (fun _ _ _ h => hFc _ h)
  clear hP1 hD1 hz9 hk9 hvm9 ht9 hw9
  generalize H1 = H at hP hS ⊢
  have o_h0 := E_22.1 _ _ o_h0
  have o_b1 := E_22.1 _ _ o_b1
  refine lv_aload_n hx hb dX2_addSwitch_32 rfl (lv_at hl 3 rfl) ?_
  refine lv_aload_n hx hb dX2_addSwitch_33 rfl (lv_at hl 2 rfl) ?_
  obtain ⟨fs9, hk_26, hq_26⟩ := ((gA.tr (gF.a (F' := [(7, 2), (7, 4)]) Fr_8 (by decide)) (gF.a (F' := [(7, 2), (7, 4)]) Fr_23 (by decide)))) _ _ _ hk_1
  obtain ⟨r0_26, c1_26, c2_26, c3_26, c4_26, c5_26, c6_26, r7_26, n7_26, c8_26, c9_26, l10_26, c11_26, rfl, o_r0_26, a_r7_26, f2_26, f3_26, f4_26, -⟩ := (hG.1 _ _ _ _ hk_26).hX2 rfl
  obtain rfl := fe_i (hq_26 9 (by decide))
  obtain rfl := fe_l (hq_26 10 (by decide))
  refine va_get (D := gD g) (ci := 2) (v := .int c9_1) (C := RX2) (T := TX2) (N := 12) hx hb hts inX2 hown hK hP k_1 hk_26 rfl 9 (by decide) (hts _ kw_619) (fun _ h9 => h9) rfl dX2_addSwitch_34 ?_
  refine lv_sipush (v := 170) hx hb dX2_addSwitch_37 (by decide) ?_
  have J_54 : ∀ (t_27 : Int32) (H : Heap) (locs : List Loc) (ls : Array Slot), va_P (gD g) cl0 ws_21 H → va_D A ws_21 → va_S A s.heap H locs → lv_has ls 5 [(0, .ref h0), (1, .ref b1), (2, .int z_2), (3, .int r_3)] → W p l e (headSpec (wt yX2_addSwitch cX2_addSwitch 5 none) ({ frames := 3, cells := 0, slots := 0, locals := 64 })).room s m ([.ref h0, .ref b1] : List Value).toArray below meth c H locs (0) (0) (MQ below (va_Qv (fun (u9 : va_W) => True) (gQ1 g [(7, 2), (7, 4)] [(7, 0), (7, 1), (7, 3)] none A ws) A) ([.ref h0, .ref b1] : List Value).toArray s (0) (0) A) (F0 m 54 ls [.int t_27, .ref b1]) := by
    intro t_27 H locs ls  hP hD hS hl
    have hFc := gfree hD hS hA
    obtain ⟨k_30, fs_30, hk_30⟩ := gC_of o_b1
    refine va_callv (va_runV (As := [.int t_27]) (rest := []) ⟨hx, hb, hml, hown, hts⟩ (m_X8_addToTable l g H.size ws_21 b1 (t_27) hG o_b1) (cwV 1 hts (gd_V kw_622 kw_1471 kw_1472 kw_782 kw_1470) rfl rfl rfl (by decide +kernel) ⟨Nat.le_of_ble_eq_true rfl, Nat.le_of_ble_eq_true rfl⟩) ⟨gblind, va_recv hK hP (ci := 7) (q0 := k_30) rfl hk_30, fun U hU hW9 => gmk hU hW9 hP hK hD hex hE hS hFc⟩ rfl rfl hl.1 rfl (lv_room (Nat.le_of_ble_eq_true rfl)) dX2_addSwitch_54 ⟨Nat.le_of_ble_eq_true rfl, Nat.le_of_ble_eq_true rfl⟩) hS (fun q _ h => hFc q h) hFc (fun  ws_31 t9 H1 locs ht9 hvm9 hw9 hB9 hz9 hk9 hS => ?_)
    obtain ⟨E_32, Fr_33, hG, hP1, hD1⟩ := hB9
    have hP : va_P (gD g) cl0 ws_31 H1 := by rw [← ht9]; exact hP1
    have hD : va_D A ws_31 := hD1.weaken (fun _ _ _ h => hFc _ h)
    clear hP1 hD1 hz9 hk9 hvm9 ht9 hw9
    generalize H1 = H at hP hS ⊢
    have aa_36 := a_r7_26
    have o_h0 := E_32.1 _ _ o_h0
    have o_b1 := E_32.1 _ _ o_b1
    refine lv_iconst (v := (-1)) hx hb dX2_addSwitch_57 (by decide) ?_
    refine lv_istore (lv' := [(4, .int (-1)), (0, .ref h0), (1, .ref b1), (2, .int z_2), (3, .int r_3)]) hx hb dX2_addSwitch_58 hl (by decide) rfl (fun ls hl => ?_)
    have J_60 : ∀ (n9 : Nat) (v4_37 : Int32) (ws_38 : va_W) (H : Heap) (locs : List Loc) (ls : Array Slot), (2147483647 - v4_37.toInt).toNat = n9 → gE ws_31 ws_38 → gF [(7, 4)] [(7, 3)] none ws_31 ws_38 → Good g ws_38 → va_P (gD g) cl0 ws_38 H → va_D A ws_38 → va_S A s.heap H locs → lv_has ls 5 [(0, .ref h0), (1, .ref b1), (2, .int z_2), (3, .int r_3), (4, .int v4_37)] → W p l e (headSpec (wt yX2_addSwitch cX2_addSwitch 5 none) ({ frames := 3, cells := 0, slots := 0, locals := 64 })).room s m ([.ref h0, .ref b1] : List Value).toArray below meth c H locs (0) (0) (MQ below (va_Qv (fun (u9 : va_W) => True) (gQ1 g [(7, 2), (7, 4)] [(7, 0), (7, 1), (7, 3)] none A ws) A) ([.ref h0, .ref b1] : List Value).toArray s (0) (0) A) (F0 m 60 ls []) := by
      intro n9
      induction n9 using Nat.strongRecOn with
      | ind n9 ih_60 =>
        intro v4_37 ws_38 H locs ls hm9  E_39 Fr_40 hG hP hD hS hl
        subst hm9
        have o_h0 := E_39.1 _ _ o_h0
        have o_b1 := E_39.1 _ _ o_b1
        refine lv_iload hx hb dX2_addSwitch_60 (lv_at hl 4 rfl) ?_
        refine lv_iload_n hx hb dX2_addSwitch_62 rfl (lv_at hl 3 rfl) ?_
        refine lv_icmp_ge (tgt := 87) hx hb dX2_addSwitch_63 (by decide) (fun c_41 => ?_) (fun c_41 => ?_)
        · refine lv_iconst (v := 0) hx hb dX2_addSwitch_87 (by decide) ?_
          refine lv_istore (lv' := [(4, .int 0), (0, .ref h0), (1, .ref b1), (2, .int z_2), (3, .int r_3)]) hx hb dX2_addSwitch_88 hl (by decide) rfl (fun ls hl => ?_)
          have J_90 : ∀ (n9 : Nat) (v4_42 : Int32) (ws_43 : va_W) (H : Heap) (locs : List Loc) (ls : Array Slot), (2147483647 - v4_42.toInt).toNat = n9 → gE ws_38 ws_43 → gF [(7, 4)] [(7, 3)] none ws_38 ws_43 → Good g ws_43 → va_P (gD g) cl0 ws_43 H → va_D A ws_43 → va_S A s.heap H locs → lv_has ls 5 [(0, .ref h0), (1, .ref b1), (2, .int z_2), (3, .int r_3), (4, .int v4_42)] → W p l e (headSpec (wt yX2_addSwitch cX2_addSwitch 5 none) ({ frames := 3, cells := 0, slots := 0, locals := 64 })).room s m ([.ref h0, .ref b1] : List Value).toArray below meth c H locs (0) (0) (MQ below (va_Qv (fun (u9 : va_W) => True) (gQ1 g [(7, 2), (7, 4)] [(7, 0), (7, 1), (7, 3)] none A ws) A) ([.ref h0, .ref b1] : List Value).toArray s (0) (0) A) (F0 m 90 ls []) := by
            intro n9
            induction n9 using Nat.strongRecOn with
            | ind n9 ih_90 =>
              intro v4_42 ws_43 H locs ls hm9  E_44 Fr_45 hG hP hD hS hl
              subst hm9
              have o_h0 := E_44.1 _ _ o_h0
              have o_b1 := E_44.1 _ _ o_b1
              refine lv_aload_n hx hb dX2_addSwitch_90 rfl (lv_at hl 0 rfl) ?_
              obtain ⟨fs9, hk_46, hq_46⟩ := ((gA.tr (gF.a (F' := [(7, 4)]) Fr_33 (fun _ h => h)) (gA.tr (gF.a (F' := [(7, 4)]) Fr_40 (fun _ h => h)) (gF.a (F' := [(7, 4)]) Fr_45 (fun _ h => h))))) _ _ _ hk_26
              obtain ⟨r0_46, c1_46, c2_46, c3_46, c4_46, c5_46, c6_46, r7_46, n7_46, c8_46, c9_46, l10_46, c11_46, rfl, o_r0_46, a_r7_46, f2_46, f3_46, f4_46, -⟩ := (hG.1 _ _ _ _ hk_46).hX2 rfl
              obtain rfl := fe_i (hq_46 9 (by decide))
              obtain rfl := fe_l (hq_46 10 (by decide))
              refine va_get (D := gD g) (ci := 2) (v := .int c9_1) (C := RX2) (T := TX2) (N := 12) hx hb hts inX2 hown hK hP k_1 hk_46 rfl 9 (by decide) (hts _ kw_619) (fun _ h9 => h9) rfl dX2_addSwitch_91 ?_
              refine lv_sipush (v := 171) hx hb dX2_addSwitch_94 (by decide) ?_
              have J_130 : ∀  (H : Heap) (locs : List Loc) (ls : Array Slot), va_P (gD g) cl0 ws_43 H → va_D A ws_43 → va_S A s.heap H locs → lv_has ls 5 [] → W p l e (headSpec (wt yX2_addSwitch cX2_addSwitch 5 none) ({ frames := 3, cells := 0, slots := 0, locals := 64 })).room s m ([.ref h0, .ref b1] : List Value).toArray below meth c H locs (0) (0) (MQ below (va_Qv (fun (u9 : va_W) => True) (gQ1 g [(7, 2), (7, 4)] [(7, 0), (7, 1), (7, 3)] none A ws) A) ([.ref h0, .ref b1] : List Value).toArray s (0) (0) A) (F0 m 130 ls []) := by
                intro  H locs ls  hP hD hS hl
                refine W.widen (k := 0) (n := 0) (Nat.le_of_ble_eq_true rfl) (Nat.le_of_ble_eq_true rfl) ?_
                exact W.vret hx hb hr (fun t9 ht9 hW9 => ⟨⟨ws_43, rfl, trivial, ⟨(E_7.tr (E_22.tr (E_32.tr (E_39.tr E_44)))), (gF.tr (gF.mo (F' := [(7, 2), (7, 4)]) (C' := [(7, 0), (7, 1), (7, 3)]) (S' := none) Fr_8 (by decide) (by decide) (Or.inl rfl)) (gF.tr (gF.mo (F' := [(7, 2), (7, 4)]) (C' := [(7, 0), (7, 1), (7, 3)]) (S' := none) Fr_23 (by decide) (by decide) (Or.inl rfl)) (gF.tr (gF.mo (F' := [(7, 2), (7, 4)]) (C' := [(7, 0), (7, 1), (7, 3)]) (S' := none) Fr_33 (by decide) (by decide) (Or.inl rfl)) (gF.tr (gF.mo (F' := [(7, 2), (7, 4)]) (C' := [(7, 0), (7, 1), (7, 3)]) (S' := none) Fr_40 (by decide) (by decide) (Or.inr rfl)) (gF.mo (F' := [(7, 2), (7, 4)]) (C' := [(7, 0), (7, 1), (7, 3)]) (S' := none) Fr_45 (by decide) (by decide) (Or.inr rfl)))))), hG, by rw [ht9]; exact hP, hD⟩⟩, hS.F ht9⟩) hS.2.2 dX2_addSwitch_130
              refine lv_icmp_ne (tgt := 130) hx hb dX2_addSwitch_97 (by decide) (fun c_49 => ?_) (fun c_49 => ?_)
              · exact J_130  H locs ls  hP hD hS (lv_sub hl [] rfl)
              · refine lv_iload hx hb dX2_addSwitch_100 (lv_at hl 4 rfl) ?_
                refine lv_iload_n hx hb dX2_addSwitch_102 rfl (lv_at hl 3 rfl) ?_
                refine lv_icmp_ge (tgt := 130) hx hb dX2_addSwitch_103 (by decide) (fun c_50 => ?_) (fun c_50 => ?_)
                · exact J_130  H locs ls  hP hD hS (lv_sub hl [] rfl)
                · refine lv_aload_n hx hb dX2_addSwitch_106 rfl (lv_at hl 1 rfl) ?_
                  refine lv_aload_n hx hb dX2_addSwitch_107 rfl (lv_at hl 0 rfl) ?_
                  refine lv_iload_n hx hb dX2_addSwitch_108 rfl (lv_at hl 2 rfl) ?_
                  refine lv_bipush (v := 8) hx hb dX2_addSwitch_109 (by decide) ?_
                  refine lv_iadd hx hb dX2_addSwitch_111 ?_
                  refine lv_topi (fun z_51 ez_51 => ?_)
                  refine lv_bipush (v := 8) hx hb dX2_addSwitch_112 (by decide) ?_
                  refine lv_iload hx hb dX2_addSwitch_114 (lv_at hl 4 rfl) ?_
                  refine lv_imul hx hb dX2_addSwitch_116 ?_
                  refine lv_topi (fun z_52 ez_52 => ?_)
                  refine lv_iadd hx hb dX2_addSwitch_117 ?_
                  refine lv_topi (fun z_53 ez_53 => ?_)
                  have hFc := gfree hD hS hA
                  refine va_calli (va_runV (As := [.int z_53]) (rest := [.ref b1]) ⟨hx, hb, hml, hown, hts⟩ (m_X2_s4 l g H.size ws_43 h0 (z_53) hG o_h0) (cwV 1 hts (gd_V kw_623 kw_790 kw_791 kw_389 kw_789) rfl rfl rfl (by decide +kernel) ⟨Nat.le_of_ble_eq_true rfl, Nat.le_of_ble_eq_true rfl⟩) ⟨gblind, va_recv hK hP (ci := 2) (q0 := k_1) rfl hk_46, fun U hU hW9 => gmk hU hW9 hP hK hD hex hE hS hFc⟩ rfl rfl hl.1 rfl (lv_room (Nat.le_of_ble_eq_true rfl)) dX2_addSwitch_118 ⟨Nat.le_of_ble_eq_true rfl, Nat.le_of_ble_eq_true rfl⟩) hS (fun q _ h => hFc q h) hFc (fun r_54 u9 t9 H1 locs ht9 hvm9 hw9 hB9 hz9 hk9 hS => ?_)
                  have hP : va_P (gD g) cl0 ws_43 H1 := by rw [← ht9]; exact hB9.1
                  clear hB9 hz9 hk9 hvm9 ht9 hw9
                  generalize H1 = H at hP hS ⊢
                  have hFc := gfree hD hS hA
                  obtain ⟨k_55, fs_55, hk_55⟩ := gC_of o_b1
                  refine va_callv (va_runV (As := [.int r_54]) (rest := []) ⟨hx, hb, hml, hown, hts⟩ (m_X8_addToTable l g H.size ws_43 b1 (r_54) hG o_b1) (cwV 1 hts (gd_V kw_622 kw_1471 kw_1472 kw_782 kw_1470) rfl rfl rfl (by decide +kernel) ⟨Nat.le_of_ble_eq_true rfl, Nat.le_of_ble_eq_true rfl⟩) ⟨gblind, va_recv hK hP (ci := 7) (q0 := k_55) rfl hk_55, fun U hU hW9 => gmk hU hW9 hP hK hD hex hE hS hFc⟩ rfl rfl hl.1 rfl (lv_room (Nat.le_of_ble_eq_true rfl)) dX2_addSwitch_121 ⟨Nat.le_of_ble_eq_true rfl, Nat.le_of_ble_eq_true rfl⟩) hS (fun q _ h => hFc q h) hFc (fun  ws_56 t9 H1 locs ht9 hvm9 hw9 hB9 hz9 hk9 hS => ?_)
                  obtain ⟨E_57, Fr_58, hG, hP1, hD1⟩ := hB9
                  have hP : va_P (gD g) cl0 ws_56 H1 := by rw [← ht9]; exact hP1
                  have hD : va_D A ws_56 := hD1.weaken (fun _ _ _ h => hFc _ h)
                  clear hP1 hD1 hz9 hk9 hvm9 ht9 hw9
                  generalize H1 = H at hP hS ⊢
                  have aa_61 := a_r7_46
                  have o_h0 := E_57.1 _ _ o_h0
                  have o_b1 := E_57.1 _ _ o_b1
                  obtain ⟨z_62, ez_62⟩ : ∃ z : Int32, v4_42 + Int32.ofInt 1 = z := ⟨_, rfl⟩
                  refine lv_iinc (v := z_62) (lv' := [(4, .int z_62), (0, .ref h0), (1, .ref b1), (2, .int z_2), (3, .int r_3)]) hx hb dX2_addSwitch_124 hl (k := 4) rfl ez_62 (by decide) rfl (fun ls hl => ?_)
                  refine lv_goto (tgt := 90) hx hb dX2_addSwitch_127 (by decide) ?_
                  exact ih_90 _ (by obtain ⟨u_z_62, q_z_62⟩ := i_iz ez_62 (by decide) (by decide); have q_c_50 := i_nle c_50; have q_z_52 := i_mulL (c := 8) (K := 268435455) ez_52 (by decide) (by decide) (by decide) (by decide); have g_r_3 := i_rg r_3; have g_v4_42 := i_rg v4_42; have g_z_52 := i_rg z_52; have g_z_62 := i_rg z_62; omega) (z_62) ws_56 H locs ls rfl ((E_44.tr E_57)) ((gF.tr Fr_45 (gF.mo (F' := [(7, 4)]) (C' := [(7, 3)]) (S' := none) Fr_58 (fun _ h => h) (fun _ h => h) (Or.inl rfl)))) hG hP hD hS (lv_sub hl [1, 2, 3, 4, 0] rfl)
          exact J_90 _ (0) ws_38 H locs ls rfl (gE.rf) (gF.rf) hG hP hD hS (lv_sub hl [1, 2, 3, 4, 0] rfl)
        · refine lv_aload_n hx hb dX2_addSwitch_66 rfl (lv_at hl 1 rfl) ?_
          refine lv_aload_n hx hb dX2_addSwitch_67 rfl (lv_at hl 0 rfl) ?_
          refine lv_aload_n hx hb dX2_addSwitch_68 rfl (lv_at hl 0 rfl) ?_
          refine lv_iload_n hx hb dX2_addSwitch_69 rfl (lv_at hl 2 rfl) ?_
          refine lv_iload hx hb dX2_addSwitch_70 (lv_at hl 4 rfl) ?_
          have hFc := gfree hD hS hA
          obtain ⟨k_63, fs_63, hk_63⟩ := gC_of o_h0
          refine va_calll (va_runV (As := [.int z_2, .int v4_37]) (rest := [.ref h0, .ref b1]) ⟨hx, hb, hml, hown, hts⟩ (m_X2_switchTarget l g H.size ws_38 h0 (z_2) (v4_37) hG o_h0) (cwV 2 hts (gd_V kw_624 kw_799 kw_800 kw_389 kw_798) rfl rfl rfl (by decide +kernel) ⟨Nat.le_of_ble_eq_true rfl, Nat.le_of_ble_eq_true rfl⟩) ⟨gblind, va_recv hK hP (ci := 2) (q0 := k_63) rfl hk_63, fun U hU hW9 => gmk hU hW9 hP hK hD hex hE hS hFc⟩ rfl rfl hl.1 rfl (lv_room (Nat.le_of_ble_eq_true rfl)) dX2_addSwitch_72 ⟨Nat.le_of_ble_eq_true rfl, Nat.le_of_ble_eq_true rfl⟩) hS (fun q _ h => hFc q h) hFc (fun r_64 u9 t9 H1 locs ht9 hvm9 hw9 hB9 hz9 hk9 hS => ?_)
          have hP : va_P (gD g) cl0 ws_38 H1 := by rw [← ht9]; exact hB9.1
          clear hB9 hz9 hk9 hvm9 ht9 hw9
          generalize H1 = H at hP hS ⊢
          have hFc := gfree hD hS hA
          obtain ⟨k_65, fs_65, hk_65⟩ := gC_of o_h0
          refine va_calli (va_runV (As := [.long r_64]) (rest := [.ref b1]) ⟨hx, hb, hml, hown, hts⟩ (m_X2_numberOf l g H.size ws_38 h0 (r_64) hG o_h0) (cwV 1 hts (gd_V kw_625 kw_761 kw_762 kw_389 kw_760) rfl rfl rfl (by decide +kernel) ⟨Nat.le_of_ble_eq_true rfl, Nat.le_of_ble_eq_true rfl⟩) ⟨gblind, va_recv hK hP (ci := 2) (q0 := k_65) rfl hk_65, fun U hU hW9 => gmk hU hW9 hP hK hD hex hE hS hFc⟩ rfl rfl hl.1 rfl (lv_room (Nat.le_of_ble_eq_true rfl)) dX2_addSwitch_75 ⟨Nat.le_of_ble_eq_true rfl, Nat.le_of_ble_eq_true rfl⟩) hS (fun q _ h => hFc q h) hFc (fun r_66 u9 t9 H1 locs ht9 hvm9 hw9 hB9 hz9 hk9 hS => ?_)
          have hP : va_P (gD g) cl0 ws_38 H1 := by rw [← ht9]; exact hB9.1
          clear hB9 hz9 hk9 hvm9 ht9 hw9
          generalize H1 = H at hP hS ⊢
          have hFc := gfree hD hS hA
          obtain ⟨k_67, fs_67, hk_67⟩ := gC_of o_b1
          refine va_callv (va_runV (As := [.int r_66]) (rest := []) ⟨hx, hb, hml, hown, hts⟩ (m_X8_addToTable l g H.size ws_38 b1 (r_66) hG o_b1) (cwV 1 hts (gd_V kw_622 kw_1471 kw_1472 kw_782 kw_1470) rfl rfl rfl (by decide +kernel) ⟨Nat.le_of_ble_eq_true rfl, Nat.le_of_ble_eq_true rfl⟩) ⟨gblind, va_recv hK hP (ci := 7) (q0 := k_67) rfl hk_67, fun U hU hW9 => gmk hU hW9 hP hK hD hex hE hS hFc⟩ rfl rfl hl.1 rfl (lv_room (Nat.le_of_ble_eq_true rfl)) dX2_addSwitch_78 ⟨Nat.le_of_ble_eq_true rfl, Nat.le_of_ble_eq_true rfl⟩) hS (fun q _ h => hFc q h) hFc (fun  ws_68 t9 H1 locs ht9 hvm9 hw9 hB9 hz9 hk9 hS => ?_)
          obtain ⟨E_69, Fr_70, hG, hP1, hD1⟩ := hB9
          have hP : va_P (gD g) cl0 ws_68 H1 := by rw [← ht9]; exact hP1
          have hD : va_D A ws_68 := hD1.weaken (fun _ _ _ h => hFc _ h)
          clear hP1 hD1 hz9 hk9 hvm9 ht9 hw9
          generalize H1 = H at hP hS ⊢
          have o_h0 := E_69.1 _ _ o_h0
          have o_b1 := E_69.1 _ _ o_b1
          obtain ⟨z_73, ez_73⟩ : ∃ z : Int32, v4_37 + Int32.ofInt 1 = z := ⟨_, rfl⟩
          refine lv_iinc (v := z_73) (lv' := [(4, .int z_73), (0, .ref h0), (1, .ref b1), (2, .int z_2), (3, .int r_3)]) hx hb dX2_addSwitch_81 hl (k := 4) rfl ez_73 (by decide) rfl (fun ls hl => ?_)
          refine lv_goto (tgt := 60) hx hb dX2_addSwitch_84 (by decide) ?_
          exact ih_60 _ (by obtain ⟨u_z_73, q_z_73⟩ := i_iz ez_73 (by decide) (by decide); have q_c_41 := i_nle c_41; have g_r_3 := i_rg r_3; have g_v4_37 := i_rg v4_37; have g_z_73 := i_rg z_73; omega) (z_73) ws_68 H locs ls rfl ((E_39.tr E_69)) ((gF.tr Fr_40 (gF.mo (F' := [(7, 4)]) (C' := [(7, 3)]) (S' := none) Fr_70 (fun _ h => h) (fun _ h => h) (Or.inl rfl)))) hG hP hD hS (lv_sub hl [1, 2, 3, 4, 0] rfl)
    exact J_60 _ ((-1)) ws_31 H locs ls rfl (gE.rf) (gF.rf) hG hP hD hS (lv_sub hl [1, 2, 3, 4, 0] rfl)
  refine lv_icmp_ne (tgt := 53) hx hb dX2_addSwitch_40 (by decide) (fun c_74 => ?_) (fun c_74 => ?_)
  · refine lv_iconst (v := 0) hx hb dX2_addSwitch_53 (by decide) ?_
    exact J_54 (0) H locs ls  hP hD hS (lv_sub hl [2, 3, 1, 0] rfl)
  · refine lv_aload_n hx hb dX2_addSwitch_43 rfl (lv_at hl 2 rfl) ?_
    refine lv_iload_n hx hb dX2_addSwitch_44 rfl (lv_at hl 1 rfl) ?_
    refine lv_iconst (v := 4) hx hb dX2_addSwitch_45 (by decide) ?_
    refine lv_iadd hx hb dX2_addSwitch_46 ?_
    refine lv_topi (fun z_75 ez_75 => ?_)
    have hFc := gfree hD hS hA
    refine va_calli (va_runV (As := [.int z_75]) (rest := [.ref b1]) ⟨hx, hb, hml, hown, hts⟩ (m_X2_s4 l g H.size ws_21 h0 (z_75) hG o_h0) (cwV 1 hts (gd_V kw_623 kw_790 kw_791 kw_389 kw_789) rfl rfl rfl (by decide +kernel) ⟨Nat.le_of_ble_eq_true rfl, Nat.le_of_ble_eq_true rfl⟩) ⟨gblind, va_recv hK hP (ci := 2) (q0 := k_1) rfl hk_26, fun U hU hW9 => gmk hU hW9 hP hK hD hex hE hS hFc⟩ rfl rfl hl.1 rfl (lv_room (Nat.le_of_ble_eq_true rfl)) dX2_addSwitch_47 ⟨Nat.le_of_ble_eq_true rfl, Nat.le_of_ble_eq_true rfl⟩) hS (fun q _ h => hFc q h) hFc (fun r_76 u9 t9 H1 locs ht9 hvm9 hw9 hB9 hz9 hk9 hS => ?_)
    have hP : va_P (gD g) cl0 ws_21 H1 := by rw [← ht9]; exact hB9.1
    clear hB9 hz9 hk9 hvm9 ht9 hw9
    generalize H1 = H at hP hS ⊢
    refine lv_goto (tgt := 54) hx hb dX2_addSwitch_50 (by decide) ?_
    exact J_54 (r_76) H locs ls  hP hD hS (lv_sub hl [2, 3, 1, 0] rfl)
set_option maxHeartbeats 1000000 in
set_option maxRecDepth 100000 in
theorem m_X2_headHolds (l : Launch) (g : Gm) (sz : Nat) (ws : va_W) (h0 : Nat) (x1 : Int32) (x2 : Int32) (x3 : Int32) (hG : Good g ws) (o_h0 : gC ws h0 2) : Met l yX2_headHolds (wt yX2_headHolds cX2_headHolds 6 (some .boolean)) ({ frames := 3, cells := 0, slots := 0, locals := 68 }) (va_Pc [.ref h0, .int x1, .int x2, .int x3] (st_G g sz ws)) (va_Qi (fun (r : Int32) (u9 : va_W) => r = 0 ∨ r = 1) (gQ1 g [(6, 2), (6, 3)] [] none (va_A ws sz) ws) (va_A ws sz)) (0) (0) (va_A ws sz) := by
  refine Met.ofW (cc := cX2_headHolds) (maxL := 6) (ret := (some .boolean)) (by decide) rfl ?_
  intro p e s m args below meth c s₁ B hml hv
  obtain ⟨rfl, hsz, hP, hK, hD0, hex, hE⟩ := hv
  have hx := B.exec
  have hb := B.bytes
  have hr := B.returns
  have hts0 := atoms_spec (ws := wt yX2_headHolds cX2_headHolds 6 (some .boolean)) B.pre
  have hts : ∀ w ∈ tb, w.before _ s = true := fun w h => hts0 w (List.mem_cons_of_mem _ h)
  have hown : s.vm.findClass RX2 = some m.cls := findClass_of_methodNamed B.named
  subst hsz
  have hD := hD0.self (sz := s.heap.size)
  generalize hAe : va_A ws s.heap.size = A at hD hE ⊢
  have hA : ∀ q : Nat, s.heap.size ≤ q → A q := fun q h => by rw [← hAe]; exact Or.inr h
  have hS : va_S A s.heap s.heap [] := va_S.rf
  have hl := lv_entry ([.ref h0, .int x1, .int x2, .int x3]) (n := 6) (Nat.le_of_ble_eq_true rfl)
  rw [lg_entry_eq]
  generalize (lg_sl ([.ref h0, .int x1, .int x2, .int x3]) ++ List.replicate (6 - (lg_sl ([.ref h0, .int x1, .int x2, .int x3])).length) Slot.unset).toArray = ls at hl ⊢
  have hl : lv_has ls 6 [(0, .ref h0), (1, .int x1), (2, .int x2), (3, .int x3)] := hl
  refine lv_iload_n hx hb dX2_headHolds_0 rfl (lv_at hl 1 rfl) ?_
  refine lv_iconst (v := 2) hx hb dX2_headHolds_1 (by decide) ?_
  refine lv_iadd hx hb dX2_headHolds_2 ?_
  refine lv_topi (fun z_1 ez_1 => ?_)
  refine lv_iload_n hx hb dX2_headHolds_3 rfl (lv_at hl 2 rfl) ?_
  refine lv_icmp_le (tgt := 18) hx hb dX2_headHolds_4 (by decide) (fun c_2 => ?_) (fun c_2 => ?_)
  · refine lv_aload_n hx hb dX2_headHolds_18 rfl (lv_at hl 0 rfl) ?_
    obtain ⟨k_3, fs9, hk_3⟩ := gC_of o_h0
    obtain ⟨r0_3, c1_3, c2_3, c3_3, c4_3, c5_3, c6_3, r7_3, n7_3, c8_3, c9_3, l10_3, c11_3, rfl, o_r0_3, a_r7_3, f2_3, f3_3, f4_3, -⟩ := (hG.1 _ _ _ _ hk_3).hX2 rfl
    refine va_get (D := gD g) (ci := 2) (v := .ref r0_3) (C := RX2) (T := TX2) (N := 12) hx hb hts inX2 hown hK hP k_3 hk_3 rfl 0 (by decide) (hts _ kw_632) (fun _ h9 => h9) rfl dX2_headHolds_19 ?_
    refine lv_iload_n hx hb dX2_headHolds_22 rfl (lv_at hl 1 rfl) ?_
    have hFc := gfree hD hS hA
    obtain ⟨k_4, fs_4, hk_4⟩ := gC_of o_r0_3
    refine va_calli (va_runV (As := [.int x1]) (rest := []) ⟨hx, hb, hml, hown, hts⟩ (m_X7_u2 l g s.heap.size ws r0_3 (x1) hG o_r0_3) (cwV 1 hts (gd_V kw_651 kw_1450 kw_1451 kw_710 kw_1449) rfl rfl rfl (by decide +kernel) ⟨Nat.le_of_ble_eq_true rfl, Nat.le_of_ble_eq_true rfl⟩) ⟨gblind, va_recv hK hP (ci := 6) (q0 := k_4) rfl hk_4, fun U hU hW9 => gmk hU hW9 hP hK hD hex hE hS hFc⟩ rfl rfl hl.1 rfl (lv_room (Nat.le_of_ble_eq_true rfl)) dX2_headHolds_23 ⟨Nat.le_of_ble_eq_true rfl, Nat.le_of_ble_eq_true rfl⟩) hS (fun q _ h => hFc q h) hFc (fun r_5 u9 t9 H1 locs ht9 hvm9 hw9 hB9 hz9 hk9 hS => ?_)
    have hP : va_P (gD g) cl0 ws H1 := by rw [← ht9]; exact hB9.1
    have h_r_5 := hw9
    clear hB9 hz9 hk9 hvm9 ht9 hw9
    generalize H1 = H at hP hS ⊢
    refine lv_bipush (v := 24) hx hb dX2_headHolds_26 (by decide) ?_
    refine lv_icmp_le (tgt := 42) hx hb dX2_headHolds_28 (by decide) (fun c_6 => ?_) (fun c_6 => ?_)
    · refine lv_iload_n hx hb dX2_headHolds_42 rfl (lv_at hl 1 rfl) ?_
      refine lv_iconst (v := 4) hx hb dX2_headHolds_43 (by decide) ?_
      refine lv_iadd hx hb dX2_headHolds_44 ?_
      refine lv_topi (fun z_7 ez_7 => ?_)
      refine lv_iload_n hx hb dX2_headHolds_45 rfl (lv_at hl 2 rfl) ?_
      refine lv_icmp_le (tgt := 60) hx hb dX2_headHolds_46 (by decide) (fun c_8 => ?_) (fun c_8 => ?_)
      · refine lv_aload_n hx hb dX2_headHolds_60 rfl (lv_at hl 0 rfl) ?_
        refine va_get (D := gD g) (ci := 2) (v := .ref r0_3) (C := RX2) (T := TX2) (N := 12) hx hb hts inX2 hown hK hP k_3 hk_3 rfl 0 (by decide) (hts _ kw_632) (fun _ h9 => h9) rfl dX2_headHolds_61 ?_
        refine lv_iload_n hx hb dX2_headHolds_64 rfl (lv_at hl 1 rfl) ?_
        refine lv_iconst (v := 2) hx hb dX2_headHolds_65 (by decide) ?_
        refine lv_iadd hx hb dX2_headHolds_66 ?_
        refine lv_topi (fun z_9 ez_9 => ?_)
        have hFc := gfree hD hS hA
        obtain ⟨k_10, fs_10, hk_10⟩ := gC_of o_r0_3
        refine va_calli (va_runV (As := [.int z_9]) (rest := []) ⟨hx, hb, hml, hown, hts⟩ (m_X7_u2 l g H.size ws r0_3 (z_9) hG o_r0_3) (cwV 1 hts (gd_V kw_651 kw_1450 kw_1451 kw_710 kw_1449) rfl rfl rfl (by decide +kernel) ⟨Nat.le_of_ble_eq_true rfl, Nat.le_of_ble_eq_true rfl⟩) ⟨gblind, va_recv hK hP (ci := 6) (q0 := k_10) rfl hk_10, fun U hU hW9 => gmk hU hW9 hP hK hD hex hE hS hFc⟩ rfl rfl hl.1 rfl (lv_room (Nat.le_of_ble_eq_true rfl)) dX2_headHolds_67 ⟨Nat.le_of_ble_eq_true rfl, Nat.le_of_ble_eq_true rfl⟩) hS (fun q _ h => hFc q h) hFc (fun r_11 u9 t9 H1 locs ht9 hvm9 hw9 hB9 hz9 hk9 hS => ?_)
        have hP : va_P (gD g) cl0 ws H1 := by rw [← ht9]; exact hB9.1
        have h_r_11 := hw9
        clear hB9 hz9 hk9 hvm9 ht9 hw9
        generalize H1 = H at hP hS ⊢
        refine lv_bipush (v := 24) hx hb dX2_headHolds_70 (by decide) ?_
        have J_89 : ∀  (H : Heap) (locs : List Loc) (ls : Array Slot), va_P (gD g) cl0 ws H → va_D A ws → va_S A s.heap H locs → lv_has ls 6 [(0, .ref h0), (1, .int x1)] → W p l e (headSpec (wt yX2_headHolds cX2_headHolds 6 (some .boolean)) ({ frames := 3, cells := 0, slots := 0, locals := 68 })).room s m ([.ref h0, .int x1, .int x2, .int x3] : List Value).toArray below meth c H locs (0) (0) (MQ below (va_Qi (fun (r : Int32) (u9 : va_W) => r = 0 ∨ r = 1) (gQ1 g [(6, 2), (6, 3)] [] none A ws) A) ([.ref h0, .int x1, .int x2, .int x3] : List Value).toArray s (0) (0) A) (F0 m 89 ls []) := by
          intro  H locs ls  hP hD hS hl
          refine lv_aload_n hx hb dX2_headHolds_89 rfl (lv_at hl 0 rfl) ?_
          refine va_get (D := gD g) (ci := 2) (v := .ref r0_3) (C := RX2) (T := TX2) (N := 12) hx hb hts inX2 hown hK hP k_3 hk_3 rfl 0 (by decide) (hts _ kw_632) (fun _ h9 => h9) rfl dX2_headHolds_90 ?_
          refine lv_bipush (v := 13) hx hb dX2_headHolds_93 (by decide) ?_
          refine lv_iload_n hx hb dX2_headHolds_95 rfl (lv_at hl 1 rfl) ?_
          refine lv_iconst (v := 2) hx hb dX2_headHolds_96 (by decide) ?_
          refine lv_iadd hx hb dX2_headHolds_97 ?_
          refine lv_topi (fun z_14 ez_14 => ?_)
          have hFc := gfree hD hS hA
          obtain ⟨k_15, fs_15, hk_15⟩ := gC_of o_r0_3
          refine va_calli (va_runV (As := [.int 13, .int z_14]) (rest := []) ⟨hx, hb, hml, hown, hts⟩ (m_X7_breaks l g H.size ws r0_3 (13) (z_14) hG o_r0_3) (cwV 2 hts (gd_V kw_677 kw_1278 kw_1279 kw_710 kw_1277) rfl rfl rfl (by decide +kernel) ⟨Nat.le_of_ble_eq_true rfl, Nat.le_of_ble_eq_true rfl⟩) ⟨gblind, va_recv hK hP (ci := 6) (q0 := k_15) rfl hk_15, fun U hU hW9 => gmk hU hW9 hP hK hD hex hE hS hFc⟩ rfl rfl hl.1 rfl (lv_room (Nat.le_of_ble_eq_true rfl)) dX2_headHolds_98 ⟨Nat.le_of_ble_eq_true rfl, Nat.le_of_ble_eq_true rfl⟩) hS (fun q _ h => hFc q h) hFc (fun r_16 ws_17 t9 H1 locs ht9 hvm9 hw9 hB9 hz9 hk9 hS => ?_)
          obtain ⟨E_18, Fr_19, hG, hP1, hD1⟩ := hB9
          have hP : va_P (gD g) cl0 ws_17 H1 := by rw [← ht9]; exact hP1
          have hD : va_D A ws_17 := hD1.weaken (fun _ _ _ h => hFc _ h)
          have hz_r_16 : r_16 = 0 ∨ r_16 = 1 := hw9
          clear hP1 hD1 hz9 hk9 hvm9 ht9 hw9
          generalize H1 = H at hP hS ⊢
          have aa_22 := a_r7_3
          have o_h0 := E_18.1 _ _ o_h0
          refine W.widen (k := 0) (n := 0) (Nat.le_of_ble_eq_true rfl) (Nat.le_of_ble_eq_true rfl) ?_
          exact W.zret (v := r_16) hx hb hr (nz hz_r_16) (fun t9 ht9 hW9 => ⟨⟨_, ws_17, rfl, hz_r_16, ⟨E_18, Fr_19, hG, by rw [ht9]; exact hP, hD⟩⟩, hS.F ht9⟩) hS.2.2 dX2_headHolds_101
        refine lv_icmp_gt (tgt := 89) hx hb dX2_headHolds_72 (by decide) (fun c_23 => ?_) (fun c_23 => ?_)
        · exact J_89  H locs ls  hP hD hS (lv_sub hl [0, 1] rfl)
        · refine lv_aload_n hx hb dX2_headHolds_75 rfl (lv_at hl 0 rfl) ?_
          refine va_get (D := gD g) (ci := 2) (v := .ref r0_3) (C := RX2) (T := TX2) (N := 12) hx hb hts inX2 hown hK hP k_3 hk_3 rfl 0 (by decide) (hts _ kw_632) (fun _ h9 => h9) rfl dX2_headHolds_76 ?_
          refine lv_iload_n hx hb dX2_headHolds_79 rfl (lv_at hl 1 rfl) ?_
          refine lv_iconst (v := 2) hx hb dX2_headHolds_80 (by decide) ?_
          refine lv_iadd hx hb dX2_headHolds_81 ?_
          refine lv_topi (fun z_24 ez_24 => ?_)
          have hFc := gfree hD hS hA
          obtain ⟨k_25, fs_25, hk_25⟩ := gC_of o_r0_3
          refine va_calli (va_runV (As := [.int z_24]) (rest := []) ⟨hx, hb, hml, hown, hts⟩ (m_X7_u2 l g H.size ws r0_3 (z_24) hG o_r0_3) (cwV 1 hts (gd_V kw_651 kw_1450 kw_1451 kw_710 kw_1449) rfl rfl rfl (by decide +kernel) ⟨Nat.le_of_ble_eq_true rfl, Nat.le_of_ble_eq_true rfl⟩) ⟨gblind, va_recv hK hP (ci := 6) (q0 := k_25) rfl hk_25, fun U hU hW9 => gmk hU hW9 hP hK hD hex hE hS hFc⟩ rfl rfl hl.1 rfl (lv_room (Nat.le_of_ble_eq_true rfl)) dX2_headHolds_82 ⟨Nat.le_of_ble_eq_true rfl, Nat.le_of_ble_eq_true rfl⟩) hS (fun q _ h => hFc q h) hFc (fun r_26 u9 t9 H1 locs ht9 hvm9 hw9 hB9 hz9 hk9 hS => ?_)
          have hP : va_P (gD g) cl0 ws H1 := by rw [← ht9]; exact hB9.1
          have h_r_26 := hw9
          clear hB9 hz9 hk9 hvm9 ht9 hw9
          generalize H1 = H at hP hS ⊢
          refine lv_iload_n hx hb dX2_headHolds_85 rfl (lv_at hl 3 rfl) ?_
          refine lv_icmp_ge (tgt := 102) hx hb dX2_headHolds_86 (by decide) (fun c_27 => ?_) (fun c_27 => ?_)
          · refine lv_iload_n hx hb dX2_headHolds_102 rfl (lv_at hl 1 rfl) ?_
            refine lv_bipush (v := 8) hx hb dX2_headHolds_103 (by decide) ?_
            refine lv_iadd hx hb dX2_headHolds_105 ?_
            refine lv_topi (fun z_28 ez_28 => ?_)
            refine lv_iload_n hx hb dX2_headHolds_106 rfl (lv_at hl 2 rfl) ?_
            refine lv_icmp_le (tgt := 121) hx hb dX2_headHolds_107 (by decide) (fun c_29 => ?_) (fun c_29 => ?_)
            · refine lv_aload_n hx hb dX2_headHolds_121 rfl (lv_at hl 0 rfl) ?_
              refine va_get (D := gD g) (ci := 2) (v := .ref r0_3) (C := RX2) (T := TX2) (N := 12) hx hb hts inX2 hown hK hP k_3 hk_3 rfl 0 (by decide) (hts _ kw_632) (fun _ h9 => h9) rfl dX2_headHolds_122 ?_
              refine lv_iload_n hx hb dX2_headHolds_125 rfl (lv_at hl 1 rfl) ?_
              refine lv_iconst (v := 4) hx hb dX2_headHolds_126 (by decide) ?_
              refine lv_iadd hx hb dX2_headHolds_127 ?_
              refine lv_topi (fun z_30 ez_30 => ?_)
              have hFc := gfree hD hS hA
              obtain ⟨k_31, fs_31, hk_31⟩ := gC_of o_r0_3
              refine va_calll (va_runV (As := [.int z_30]) (rest := []) ⟨hx, hb, hml, hown, hts⟩ (m_X7_u4 l g H.size ws r0_3 (z_30) hG o_r0_3) (cwV 1 hts (gd_V kw_678 kw_1453 kw_1454 kw_710 kw_1452) rfl rfl rfl (by decide +kernel) ⟨Nat.le_of_ble_eq_true rfl, Nat.le_of_ble_eq_true rfl⟩) ⟨gblind, va_recv hK hP (ci := 6) (q0 := k_31) rfl hk_31, fun U hU hW9 => gmk hU hW9 hP hK hD hex hE hS hFc⟩ rfl rfl hl.1 rfl (lv_room (Nat.le_of_ble_eq_true rfl)) dX2_headHolds_128 ⟨Nat.le_of_ble_eq_true rfl, Nat.le_of_ble_eq_true rfl⟩) hS (fun q _ h => hFc q h) hFc (fun r_32 u9 t9 H1 locs ht9 hvm9 hw9 hB9 hz9 hk9 hS => ?_)
              have hP : va_P (gD g) cl0 ws H1 := by rw [← ht9]; exact hB9.1
              clear hB9 hz9 hk9 hvm9 ht9 hw9
              generalize H1 = H at hP hS ⊢
              refine lv_lstore (lv' := [(4, .long r_32), (0, .ref h0), (1, .int x1), (2, .int x2), (3, .int x3)]) hx hb dX2_headHolds_131 hl (by decide) rfl (fun ls hl => ?_)
              refine lv_lload hx hb dX2_headHolds_133 (lv_at hl 0 rfl) ?_
              refine lv_lconst (v := 1) hx hb dX2_headHolds_135 (by decide) ?_
              refine W.lcmp hx hb dX2_headHolds_136 ?_
              refine lv_topi (fun z_33 ez_33 => ?_)
              have J_149 : ∀  (H : Heap) (locs : List Loc) (ls : Array Slot), va_P (gD g) cl0 ws H → va_D A ws → va_S A s.heap H locs → lv_has ls 6 [(0, .ref h0), (1, .int x1)] → W p l e (headSpec (wt yX2_headHolds cX2_headHolds 6 (some .boolean)) ({ frames := 3, cells := 0, slots := 0, locals := 68 })).room s m ([.ref h0, .int x1, .int x2, .int x3] : List Value).toArray below meth c H locs (0) (0) (MQ below (va_Qi (fun (r : Int32) (u9 : va_W) => r = 0 ∨ r = 1) (gQ1 g [(6, 2), (6, 3)] [] none A ws) A) ([.ref h0, .int x1, .int x2, .int x3] : List Value).toArray s (0) (0) A) (F0 m 149 ls []) := by
                intro  H locs ls  hP hD hS hl
                refine lv_aload_n hx hb dX2_headHolds_149 rfl (lv_at hl 0 rfl) ?_
                refine va_get (D := gD g) (ci := 2) (v := .ref r0_3) (C := RX2) (T := TX2) (N := 12) hx hb hts inX2 hown hK hP k_3 hk_3 rfl 0 (by decide) (hts _ kw_632) (fun _ h9 => h9) rfl dX2_headHolds_150 ?_
                refine lv_bipush (v := 13) hx hb dX2_headHolds_153 (by decide) ?_
                refine lv_iload_n hx hb dX2_headHolds_155 rfl (lv_at hl 1 rfl) ?_
                refine lv_iconst (v := 4) hx hb dX2_headHolds_156 (by decide) ?_
                refine lv_iadd hx hb dX2_headHolds_157 ?_
                refine lv_topi (fun z_36 ez_36 => ?_)
                have hFc := gfree hD hS hA
                obtain ⟨k_37, fs_37, hk_37⟩ := gC_of o_r0_3
                refine va_calli (va_runV (As := [.int 13, .int z_36]) (rest := []) ⟨hx, hb, hml, hown, hts⟩ (m_X7_breaks l g H.size ws r0_3 (13) (z_36) hG o_r0_3) (cwV 2 hts (gd_V kw_677 kw_1278 kw_1279 kw_710 kw_1277) rfl rfl rfl (by decide +kernel) ⟨Nat.le_of_ble_eq_true rfl, Nat.le_of_ble_eq_true rfl⟩) ⟨gblind, va_recv hK hP (ci := 6) (q0 := k_37) rfl hk_37, fun U hU hW9 => gmk hU hW9 hP hK hD hex hE hS hFc⟩ rfl rfl hl.1 rfl (lv_room (Nat.le_of_ble_eq_true rfl)) dX2_headHolds_158 ⟨Nat.le_of_ble_eq_true rfl, Nat.le_of_ble_eq_true rfl⟩) hS (fun q _ h => hFc q h) hFc (fun r_38 ws_39 t9 H1 locs ht9 hvm9 hw9 hB9 hz9 hk9 hS => ?_)
                obtain ⟨E_40, Fr_41, hG, hP1, hD1⟩ := hB9
                have hP : va_P (gD g) cl0 ws_39 H1 := by rw [← ht9]; exact hP1
                have hD : va_D A ws_39 := hD1.weaken (fun _ _ _ h => hFc _ h)
                have hz_r_38 : r_38 = 0 ∨ r_38 = 1 := hw9
                clear hP1 hD1 hz9 hk9 hvm9 ht9 hw9
                generalize H1 = H at hP hS ⊢
                have aa_44 := a_r7_3
                have o_h0 := E_40.1 _ _ o_h0
                refine W.widen (k := 0) (n := 0) (Nat.le_of_ble_eq_true rfl) (Nat.le_of_ble_eq_true rfl) ?_
                exact W.zret (v := r_38) hx hb hr (nz hz_r_38) (fun t9 ht9 hW9 => ⟨⟨_, ws_39, rfl, hz_r_38, ⟨E_40, Fr_41, hG, by rw [ht9]; exact hP, hD⟩⟩, hS.F ht9⟩) hS.2.2 dX2_headHolds_161
              refine lv_if_lt (tgt := 149) hx hb dX2_headHolds_137 (by decide) (fun c_45 => ?_) (fun c_45 => ?_)
              · exact J_149  H locs ls  hP hD hS (lv_sub hl [1, 2] rfl)
              · refine lv_lload hx hb dX2_headHolds_140 (lv_at hl 0 rfl) ?_
                refine lv_ldc2 hx hb hown (hts _ kw_703) dX2_headHolds_142 ?_
                refine W.lcmp hx hb dX2_headHolds_145 ?_
                refine lv_topi (fun z_46 ez_46 => ?_)
                refine lv_if_le (tgt := 162) hx hb dX2_headHolds_146 (by decide) (fun c_47 => ?_) (fun c_47 => ?_)
                · refine lv_aload_n hx hb dX2_headHolds_162 rfl (lv_at hl 1 rfl) ?_
                  refine lv_iload_n hx hb dX2_headHolds_163 rfl (lv_at hl 2 rfl) ?_
                  refine lv_bipush (v := 8) hx hb dX2_headHolds_164 (by decide) ?_
                  refine lv_iadd hx hb dX2_headHolds_166 ?_
                  refine lv_topi (fun z_48 ez_48 => ?_)
                  refine lv_lload hx hb dX2_headHolds_167 (lv_at hl 0 rfl) ?_
                  obtain ⟨z_49, ez_49⟩ : ∃ y : Int32, (r_32 : Int64).toInt32 = y := ⟨_, rfl⟩
                  refine lv_l2i (v := z_49) hx hb dX2_headHolds_169 ez_49 ?_
                  refine lv_iadd hx hb dX2_headHolds_170 ?_
                  refine lv_topi (fun z_50 ez_50 => ?_)
                  refine lv_iload_n hx hb dX2_headHolds_171 rfl (lv_at hl 3 rfl) ?_
                  have hFc := gfree hD hS hA
                  refine va_calli (va_runV (As := [.int z_50, .int x2]) (rest := []) ⟨hx, hb, hml, hown, hts⟩ (m_X2_catchesHold l g H.size ws h0 (z_50) (x2) hG o_h0) (cwV 2 hts (gd_V kw_704 kw_675 kw_676 kw_389 kw_674) rfl rfl rfl (by decide +kernel) ⟨Nat.le_of_ble_eq_true rfl, Nat.le_of_ble_eq_true rfl⟩) ⟨gblind, va_recv hK hP (ci := 2) (q0 := k_3) rfl hk_3, fun U hU hW9 => gmk hU hW9 hP hK hD hex hE hS hFc⟩ rfl rfl hl.1 rfl (lv_room (Nat.le_of_ble_eq_true rfl)) dX2_headHolds_172 ⟨Nat.le_of_ble_eq_true rfl, Nat.le_of_ble_eq_true rfl⟩) hS (fun q _ h => hFc q h) hFc (fun r_51 ws_52 t9 H1 locs ht9 hvm9 hw9 hB9 hz9 hk9 hS => ?_)
                  obtain ⟨E_53, Fr_54, hG, hP1, hD1⟩ := hB9
                  have hP : va_P (gD g) cl0 ws_52 H1 := by rw [← ht9]; exact hP1
                  have hD : va_D A ws_52 := hD1.weaken (fun _ _ _ h => hFc _ h)
                  have hz_r_51 : r_51 = 0 ∨ r_51 = 1 := hw9
                  clear hP1 hD1 hz9 hk9 hvm9 ht9 hw9
                  generalize H1 = H at hP hS ⊢
                  have aa_57 := a_r7_3
                  have o_h0 := E_53.1 _ _ o_h0
                  refine W.widen (k := 0) (n := 0) (Nat.le_of_ble_eq_true rfl) (Nat.le_of_ble_eq_true rfl) ?_
                  exact W.zret (v := r_51) hx hb hr (nz hz_r_51) (fun t9 ht9 hW9 => ⟨⟨_, ws_52, rfl, hz_r_51, ⟨E_53, Fr_54, hG, by rw [ht9]; exact hP, hD⟩⟩, hS.F ht9⟩) hS.2.2 dX2_headHolds_175
                · exact J_149  H locs ls  hP hD hS (lv_sub hl [1, 2] rfl)
            · refine lv_aload_n hx hb dX2_headHolds_110 rfl (lv_at hl 0 rfl) ?_
              refine va_get (D := gD g) (ci := 2) (v := .ref r0_3) (C := RX2) (T := TX2) (N := 12) hx hb hts inX2 hown hK hP k_3 hk_3 rfl 0 (by decide) (hts _ kw_632) (fun _ h9 => h9) rfl dX2_headHolds_111 ?_
              refine lv_bipush (v := 14) hx hb dX2_headHolds_114 (by decide) ?_
              refine lv_iload_n hx hb dX2_headHolds_116 rfl (lv_at hl 2 rfl) ?_
              have hFc := gfree hD hS hA
              obtain ⟨k_58, fs_58, hk_58⟩ := gC_of o_r0_3
              refine va_calli (va_runV (As := [.int 14, .int x2]) (rest := []) ⟨hx, hb, hml, hown, hts⟩ (m_X7_breaks l g H.size ws r0_3 (14) (x2) hG o_r0_3) (cwV 2 hts (gd_V kw_677 kw_1278 kw_1279 kw_710 kw_1277) rfl rfl rfl (by decide +kernel) ⟨Nat.le_of_ble_eq_true rfl, Nat.le_of_ble_eq_true rfl⟩) ⟨gblind, va_recv hK hP (ci := 6) (q0 := k_58) rfl hk_58, fun U hU hW9 => gmk hU hW9 hP hK hD hex hE hS hFc⟩ rfl rfl hl.1 rfl (lv_room (Nat.le_of_ble_eq_true rfl)) dX2_headHolds_117 ⟨Nat.le_of_ble_eq_true rfl, Nat.le_of_ble_eq_true rfl⟩) hS (fun q _ h => hFc q h) hFc (fun r_59 ws_60 t9 H1 locs ht9 hvm9 hw9 hB9 hz9 hk9 hS => ?_)
              obtain ⟨E_61, Fr_62, hG, hP1, hD1⟩ := hB9
              have hP : va_P (gD g) cl0 ws_60 H1 := by rw [← ht9]; exact hP1
              have hD : va_D A ws_60 := hD1.weaken (fun _ _ _ h => hFc _ h)
              have hz_r_59 : r_59 = 0 ∨ r_59 = 1 := hw9
              clear hP1 hD1 hz9 hk9 hvm9 ht9 hw9
              generalize H1 = H at hP hS ⊢
              have aa_65 := a_r7_3
              have o_h0 := E_61.1 _ _ o_h0
              refine W.widen (k := 0) (n := 0) (Nat.le_of_ble_eq_true rfl) (Nat.le_of_ble_eq_true rfl) ?_
              exact W.zret (v := r_59) hx hb hr (nz hz_r_59) (fun t9 ht9 hW9 => ⟨⟨_, ws_60, rfl, hz_r_59, ⟨E_61, Fr_62, hG, by rw [ht9]; exact hP, hD⟩⟩, hS.F ht9⟩) hS.2.2 dX2_headHolds_120
          · exact J_89  H locs ls  hP hD hS (lv_sub hl [0, 1] rfl)
      · refine lv_aload_n hx hb dX2_headHolds_49 rfl (lv_at hl 0 rfl) ?_
        refine va_get (D := gD g) (ci := 2) (v := .ref r0_3) (C := RX2) (T := TX2) (N := 12) hx hb hts inX2 hown hK hP k_3 hk_3 rfl 0 (by decide) (hts _ kw_632) (fun _ h9 => h9) rfl dX2_headHolds_50 ?_
        refine lv_bipush (v := 14) hx hb dX2_headHolds_53 (by decide) ?_
        refine lv_iload_n hx hb dX2_headHolds_55 rfl (lv_at hl 2 rfl) ?_
        have hFc := gfree hD hS hA
        obtain ⟨k_66, fs_66, hk_66⟩ := gC_of o_r0_3
        refine va_calli (va_runV (As := [.int 14, .int x2]) (rest := []) ⟨hx, hb, hml, hown, hts⟩ (m_X7_breaks l g H.size ws r0_3 (14) (x2) hG o_r0_3) (cwV 2 hts (gd_V kw_677 kw_1278 kw_1279 kw_710 kw_1277) rfl rfl rfl (by decide +kernel) ⟨Nat.le_of_ble_eq_true rfl, Nat.le_of_ble_eq_true rfl⟩) ⟨gblind, va_recv hK hP (ci := 6) (q0 := k_66) rfl hk_66, fun U hU hW9 => gmk hU hW9 hP hK hD hex hE hS hFc⟩ rfl rfl hl.1 rfl (lv_room (Nat.le_of_ble_eq_true rfl)) dX2_headHolds_56 ⟨Nat.le_of_ble_eq_true rfl, Nat.le_of_ble_eq_true rfl⟩) hS (fun q _ h => hFc q h) hFc (fun r_67 ws_68 t9 H1 locs ht9 hvm9 hw9 hB9 hz9 hk9 hS => ?_)
        obtain ⟨E_69, Fr_70, hG, hP1, hD1⟩ := hB9
        have hP : va_P (gD g) cl0 ws_68 H1 := by rw [← ht9]; exact hP1
        have hD : va_D A ws_68 := hD1.weaken (fun _ _ _ h => hFc _ h)
        have hz_r_67 : r_67 = 0 ∨ r_67 = 1 := hw9
        clear hP1 hD1 hz9 hk9 hvm9 ht9 hw9
        generalize H1 = H at hP hS ⊢
        have aa_73 := a_r7_3
        have o_h0 := E_69.1 _ _ o_h0
        refine W.widen (k := 0) (n := 0) (Nat.le_of_ble_eq_true rfl) (Nat.le_of_ble_eq_true rfl) ?_
        exact W.zret (v := r_67) hx hb hr (nz hz_r_67) (fun t9 ht9 hW9 => ⟨⟨_, ws_68, rfl, hz_r_67, ⟨E_69, Fr_70, hG, by rw [ht9]; exact hP, hD⟩⟩, hS.F ht9⟩) hS.2.2 dX2_headHolds_59
    · refine lv_aload_n hx hb dX2_headHolds_31 rfl (lv_at hl 0 rfl) ?_
      refine va_get (D := gD g) (ci := 2) (v := .ref r0_3) (C := RX2) (T := TX2) (N := 12) hx hb hts inX2 hown hK hP k_3 hk_3 rfl 0 (by decide) (hts _ kw_632) (fun _ h9 => h9) rfl dX2_headHolds_32 ?_
      refine lv_bipush (v := 13) hx hb dX2_headHolds_35 (by decide) ?_
      refine lv_iload_n hx hb dX2_headHolds_37 rfl (lv_at hl 1 rfl) ?_
      have hFc := gfree hD hS hA
      obtain ⟨k_74, fs_74, hk_74⟩ := gC_of o_r0_3
      refine va_calli (va_runV (As := [.int 13, .int x1]) (rest := []) ⟨hx, hb, hml, hown, hts⟩ (m_X7_breaks l g H.size ws r0_3 (13) (x1) hG o_r0_3) (cwV 2 hts (gd_V kw_677 kw_1278 kw_1279 kw_710 kw_1277) rfl rfl rfl (by decide +kernel) ⟨Nat.le_of_ble_eq_true rfl, Nat.le_of_ble_eq_true rfl⟩) ⟨gblind, va_recv hK hP (ci := 6) (q0 := k_74) rfl hk_74, fun U hU hW9 => gmk hU hW9 hP hK hD hex hE hS hFc⟩ rfl rfl hl.1 rfl (lv_room (Nat.le_of_ble_eq_true rfl)) dX2_headHolds_38 ⟨Nat.le_of_ble_eq_true rfl, Nat.le_of_ble_eq_true rfl⟩) hS (fun q _ h => hFc q h) hFc (fun r_75 ws_76 t9 H1 locs ht9 hvm9 hw9 hB9 hz9 hk9 hS => ?_)
      obtain ⟨E_77, Fr_78, hG, hP1, hD1⟩ := hB9
      have hP : va_P (gD g) cl0 ws_76 H1 := by rw [← ht9]; exact hP1
      have hD : va_D A ws_76 := hD1.weaken (fun _ _ _ h => hFc _ h)
      have hz_r_75 : r_75 = 0 ∨ r_75 = 1 := hw9
      clear hP1 hD1 hz9 hk9 hvm9 ht9 hw9
      generalize H1 = H at hP hS ⊢
      have aa_81 := a_r7_3
      have o_h0 := E_77.1 _ _ o_h0
      refine W.widen (k := 0) (n := 0) (Nat.le_of_ble_eq_true rfl) (Nat.le_of_ble_eq_true rfl) ?_
      exact W.zret (v := r_75) hx hb hr (nz hz_r_75) (fun t9 ht9 hW9 => ⟨⟨_, ws_76, rfl, hz_r_75, ⟨E_77, Fr_78, hG, by rw [ht9]; exact hP, hD⟩⟩, hS.F ht9⟩) hS.2.2 dX2_headHolds_41
  · refine lv_aload_n hx hb dX2_headHolds_7 rfl (lv_at hl 0 rfl) ?_
    obtain ⟨k_82, fs9, hk_82⟩ := gC_of o_h0
    obtain ⟨r0_82, c1_82, c2_82, c3_82, c4_82, c5_82, c6_82, r7_82, n7_82, c8_82, c9_82, l10_82, c11_82, rfl, o_r0_82, a_r7_82, f2_82, f3_82, f4_82, -⟩ := (hG.1 _ _ _ _ hk_82).hX2 rfl
    refine va_get (D := gD g) (ci := 2) (v := .ref r0_82) (C := RX2) (T := TX2) (N := 12) hx hb hts inX2 hown hK hP k_82 hk_82 rfl 0 (by decide) (hts _ kw_632) (fun _ h9 => h9) rfl dX2_headHolds_8 ?_
    refine lv_bipush (v := 14) hx hb dX2_headHolds_11 (by decide) ?_
    refine lv_iload_n hx hb dX2_headHolds_13 rfl (lv_at hl 2 rfl) ?_
    have hFc := gfree hD hS hA
    obtain ⟨k_83, fs_83, hk_83⟩ := gC_of o_r0_82
    refine va_calli (va_runV (As := [.int 14, .int x2]) (rest := []) ⟨hx, hb, hml, hown, hts⟩ (m_X7_breaks l g s.heap.size ws r0_82 (14) (x2) hG o_r0_82) (cwV 2 hts (gd_V kw_677 kw_1278 kw_1279 kw_710 kw_1277) rfl rfl rfl (by decide +kernel) ⟨Nat.le_of_ble_eq_true rfl, Nat.le_of_ble_eq_true rfl⟩) ⟨gblind, va_recv hK hP (ci := 6) (q0 := k_83) rfl hk_83, fun U hU hW9 => gmk hU hW9 hP hK hD hex hE hS hFc⟩ rfl rfl hl.1 rfl (lv_room (Nat.le_of_ble_eq_true rfl)) dX2_headHolds_14 ⟨Nat.le_of_ble_eq_true rfl, Nat.le_of_ble_eq_true rfl⟩) hS (fun q _ h => hFc q h) hFc (fun r_84 ws_85 t9 H1 locs ht9 hvm9 hw9 hB9 hz9 hk9 hS => ?_)
    obtain ⟨E_86, Fr_87, hG, hP1, hD1⟩ := hB9
    have hP : va_P (gD g) cl0 ws_85 H1 := by rw [← ht9]; exact hP1
    have hD : va_D A ws_85 := hD1.weaken (fun _ _ _ h => hFc _ h)
    have hz_r_84 : r_84 = 0 ∨ r_84 = 1 := hw9
    clear hP1 hD1 hz9 hk9 hvm9 ht9 hw9
    generalize H1 = H at hP hS ⊢
    have aa_90 := a_r7_82
    have o_h0 := E_86.1 _ _ o_h0
    refine W.widen (k := 0) (n := 0) (Nat.le_of_ble_eq_true rfl) (Nat.le_of_ble_eq_true rfl) ?_
    exact W.zret (v := r_84) hx hb hr (nz hz_r_84) (fun t9 ht9 hW9 => ⟨⟨_, ws_85, rfl, hz_r_84, ⟨E_86, Fr_87, hG, by rw [ht9]; exact hP, hD⟩⟩, hS.F ht9⟩) hS.2.2 dX2_headHolds_17
set_option maxHeartbeats 1000000 in
set_option maxRecDepth 100000 in
theorem m_X2_lengthAt (l : Launch) (g : Gm) (sz : Nat) (ws : va_W) (h0 : Nat) (x1 : Int32) (hG : Good g ws) (o_h0 : gC ws h0 2) : Met l yX2_lengthAt (wt yX2_lengthAt cX2_lengthAt 3 (some .int)) ({ frames := 3, cells := 0, slots := 0, locals := 66 }) (va_Pc [.ref h0, .int x1] (st_G g sz ws)) (va_Qi (fun (r : Int32) (u9 : Unit) => x1.toInt < 0 ∨ 1200 < x1.toInt ∨ r.toInt ≤ 2000) (gQ0 g (va_A ws sz) ws) (va_A ws sz)) (0) (0) (va_A ws sz) := by
  refine Met.ofW (cc := cX2_lengthAt) (maxL := 3) (ret := (some .int)) (by decide) rfl ?_
  intro p e s m args below meth c s₁ B hml hv
  obtain ⟨rfl, hsz, hP, hK, hD0, hex, hE⟩ := hv
  have hx := B.exec
  have hb := B.bytes
  have hr := B.returns
  have hts0 := atoms_spec (ws := wt yX2_lengthAt cX2_lengthAt 3 (some .int)) B.pre
  have hts : ∀ w ∈ tb, w.before _ s = true := fun w h => hts0 w (List.mem_cons_of_mem _ h)
  have hown : s.vm.findClass RX2 = some m.cls := findClass_of_methodNamed B.named
  subst hsz
  have hD := hD0.self (sz := s.heap.size)
  generalize hAe : va_A ws s.heap.size = A at hD hE ⊢
  have hA : ∀ q : Nat, s.heap.size ≤ q → A q := fun q h => by rw [← hAe]; exact Or.inr h
  have hS : va_S A s.heap s.heap [] := va_S.rf
  have hl := lv_entry ([.ref h0, .int x1]) (n := 3) (Nat.le_of_ble_eq_true rfl)
  rw [lg_entry_eq]
  generalize (lg_sl ([.ref h0, .int x1]) ++ List.replicate (3 - (lg_sl ([.ref h0, .int x1])).length) Slot.unset).toArray = ls at hl ⊢
  have hl : lv_has ls 3 [(0, .ref h0), (1, .int x1)] := hl
  refine lv_aload_n hx hb dX2_lengthAt_0 rfl (lv_at hl 0 rfl) ?_
  refine lv_iload_n hx hb dX2_lengthAt_1 rfl (lv_at hl 1 rfl) ?_
  have hFc := gfree hD hS hA
  obtain ⟨k_1, fs_1, hk_1⟩ := gC_of o_h0
  refine va_calli (va_runV (As := [.int x1]) (rest := []) ⟨hx, hb, hml, hown, hts⟩ (m_X2_u1 l g s.heap.size ws h0 (x1) hG o_h0) (cwV 1 hts (gd_V kw_682 kw_812 kw_813 kw_389 kw_811) rfl rfl rfl (by decide +kernel) ⟨Nat.le_of_ble_eq_true rfl, Nat.le_of_ble_eq_true rfl⟩) ⟨gblind, va_recv hK hP (ci := 2) (q0 := k_1) rfl hk_1, fun U hU hW9 => gmk hU hW9 hP hK hD hex hE hS hFc⟩ rfl rfl hl.1 rfl (lv_room (Nat.le_of_ble_eq_true rfl)) dX2_lengthAt_2 ⟨Nat.le_of_ble_eq_true rfl, Nat.le_of_ble_eq_true rfl⟩) hS (fun q _ h => hFc q h) hFc (fun r_2 u9 t9 H1 locs ht9 hvm9 hw9 hB9 hz9 hk9 hS => ?_)
  have hP : va_P (gD g) cl0 ws H1 := by rw [← ht9]; exact hB9.1
  clear hB9 hz9 hk9 hvm9 ht9 hw9
  generalize H1 = H at hP hS ⊢
  have J_110 : ∀ (v2_3 : Int32) (H : Heap) (locs : List Loc) (ls : Array Slot), x1.toInt < 0 ∨ 1200 < x1.toInt ∨ v2_3.toInt ≤ 2000 → va_P (gD g) cl0 ws H → va_D A ws → va_S A s.heap H locs → lv_has ls 3 [(0, .ref h0), (1, .int x1), (2, .int v2_3)] → W p l e (headSpec (wt yX2_lengthAt cX2_lengthAt 3 (some .int)) ({ frames := 3, cells := 0, slots := 0, locals := 66 })).room s m ([.ref h0, .int x1] : List Value).toArray below meth c H locs (0) (0) (MQ below (va_Qi (fun (r : Int32) (u9 : Unit) => x1.toInt < 0 ∨ 1200 < x1.toInt ∨ r.toInt ≤ 2000) (gQ0 g A ws) A) ([.ref h0, .int x1] : List Value).toArray s (0) (0) A) (F0 m 110 ls []) := by
    intro v2_3 H locs ls iv_4 hP hD hS hl
    refine lv_iload_n hx hb dX2_lengthAt_110 rfl (lv_at hl 1 rfl) ?_
    refine lv_iload_n hx hb dX2_lengthAt_111 rfl (lv_at hl 2 rfl) ?_
    refine lv_iadd hx hb dX2_lengthAt_112 ?_
    refine lv_topi (fun z_7 ez_7 => ?_)
    refine lv_aload_n hx hb dX2_lengthAt_113 rfl (lv_at hl 0 rfl) ?_
    obtain ⟨k_8, fs9, hk_8⟩ := gC_of o_h0
    obtain ⟨r0_8, c1_8, c2_8, c3_8, c4_8, c5_8, c6_8, r7_8, n7_8, c8_8, c9_8, l10_8, c11_8, rfl, o_r0_8, a_r7_8, f2_8, f3_8, f4_8, -⟩ := (hG.1 _ _ _ _ hk_8).hX2 rfl
    refine va_get (D := gD g) (ci := 2) (v := .int c2_8) (C := RX2) (T := TX2) (N := 12) hx hb hts inX2 hown hK hP k_8 hk_8 rfl 2 (by decide) (hts _ kw_716) (fun _ h9 => h9) rfl dX2_lengthAt_114 ?_
    have J_125 : ∀ (t_9 : Int32) (H : Heap) (locs : List Loc) (ls : Array Slot), x1.toInt < 0 ∨ 1200 < x1.toInt ∨ t_9.toInt ≤ 2000 → va_P (gD g) cl0 ws H → va_D A ws → va_S A s.heap H locs → lv_has ls 3 [] → W p l e (headSpec (wt yX2_lengthAt cX2_lengthAt 3 (some .int)) ({ frames := 3, cells := 0, slots := 0, locals := 66 })).room s m ([.ref h0, .int x1] : List Value).toArray below meth c H locs (0) (0) (MQ below (va_Qi (fun (r : Int32) (u9 : Unit) => x1.toInt < 0 ∨ 1200 < x1.toInt ∨ r.toInt ≤ 2000) (gQ0 g A ws) A) ([.ref h0, .int x1] : List Value).toArray s (0) (0) A) (F0 m 125 ls [.int t_9]) := by
      intro t_9 H locs ls iv_10 hP hD hS hl
      refine W.widen (k := 0) (n := 0) (Nat.le_of_ble_eq_true rfl) (Nat.le_of_ble_eq_true rfl) ?_
      exact W.iret (v := t_9) hx hb hr (fun t9 ht9 hW9 => ⟨⟨_, (), rfl, (by have q_iv_4 := iv_4; obtain ⟨u_z_7, q_z_7⟩ := i_add ez_7; have q_iv_10 := iv_10; have g_t_9 := i_rg t_9; have g_v2_3 := i_rg v2_3; have g_x1 := i_rg x1; have g_z_7 := i_rg z_7; omega), ⟨by rw [ht9]; exact hP, hD⟩⟩, hS.F ht9⟩) hS.2.2 dX2_lengthAt_125
    refine lv_icmp_le (tgt := 124) hx hb dX2_lengthAt_117 (by decide) (fun c_13 => ?_) (fun c_13 => ?_)
    · refine lv_iload_n hx hb dX2_lengthAt_124 rfl (lv_at hl 2 rfl) ?_
      exact J_125 (v2_3) H locs ls (by have q_iv_4 := iv_4; obtain ⟨u_z_7, q_z_7⟩ := i_add ez_7; have q_c_13 := i_le c_13; have q_f4_8 := f4_8; have g_c2_8 := i_rg c2_8; have g_v2_3 := i_rg v2_3; have g_x1 := i_rg x1; have g_z_7 := i_rg z_7; omega) hP hD hS (lv_sub hl [] rfl)
    · refine lv_iconst (v := 0) hx hb dX2_lengthAt_120 (by decide) ?_
      refine lv_goto (tgt := 125) hx hb dX2_lengthAt_121 (by decide) ?_
      exact J_125 (0) H locs ls (by have e0 : (0 : Int32).toInt = 0 := (by decide); have q_iv_4 := iv_4; obtain ⟨u_z_7, q_z_7⟩ := i_add ez_7; have q_c_13 := i_nle c_13; have q_f4_8 := f4_8; have g_c2_8 := i_rg c2_8; have g_v2_3 := i_rg v2_3; have g_x1 := i_rg x1; have g_z_7 := i_rg z_7; omega) hP hD hS (lv_sub hl [] rfl)
  have K_5_101 : W p l e (headSpec (wt yX2_lengthAt cX2_lengthAt 3 (some .int)) ({ frames := 3, cells := 0, slots := 0, locals := 66 })).room s m ([.ref h0, .int x1] : List Value).toArray below meth c H locs (0) (0) (MQ below (va_Qi (fun (r : Int32) (u9 : Unit) => x1.toInt < 0 ∨ 1200 < x1.toInt ∨ r.toInt ≤ 2000) (gQ0 g A ws) A) ([.ref h0, .int x1] : List Value).toArray s (0) (0) A) (F0 m 101 ls []) := by
    refine lv_aload_n hx hb dX2_lengthAt_101 rfl (lv_at hl 0 rfl) ?_
    refine lv_iload_n hx hb dX2_lengthAt_102 rfl (lv_at hl 1 rfl) ?_
    have hFc := gfree hD hS hA
    obtain ⟨k_14, fs_14, hk_14⟩ := gC_of o_h0
    refine va_calli (va_runV (As := [.int x1]) (rest := []) ⟨hx, hb, hml, hown, hts⟩ (m_X2_u1 l g H.size ws h0 (x1) hG o_h0) (cwV 1 hts (gd_V kw_682 kw_812 kw_813 kw_389 kw_811) rfl rfl rfl (by decide +kernel) ⟨Nat.le_of_ble_eq_true rfl, Nat.le_of_ble_eq_true rfl⟩) ⟨gblind, va_recv hK hP (ci := 2) (q0 := k_14) rfl hk_14, fun U hU hW9 => gmk hU hW9 hP hK hD hex hE hS hFc⟩ rfl rfl hl.1 rfl (lv_room (Nat.le_of_ble_eq_true rfl)) dX2_lengthAt_103 ⟨Nat.le_of_ble_eq_true rfl, Nat.le_of_ble_eq_true rfl⟩) hS (fun q _ h => hFc q h) hFc (fun r_15 u9 t9 H1 locs ht9 hvm9 hw9 hB9 hz9 hk9 hS => ?_)
    have hP : va_P (gD g) cl0 ws H1 := by rw [← ht9]; exact hB9.1
    clear hB9 hz9 hk9 hvm9 ht9 hw9
    generalize H1 = H at hP hS ⊢
    have hFc := gfree hD hS hA
    refine va_calli (va_runS (As := [.int r_15]) (rest := []) ⟨hx, hb, hml, hown, hts⟩ (m_X6_lengthOf l g H.size ws (r_15) hG ) (va_cwS 1 hts (gd_S kw_687 kw_1244 kw_1207 kw_1243) rfl rfl rfl (by decide +kernel) ⟨Nat.le_of_ble_eq_true rfl, Nat.le_of_ble_eq_true rfl⟩) ⟨gblind, fun U hU hW9 => gmk hU hW9 hP hK hD hex hE hS hFc⟩ rfl rfl hl.1 rfl (lv_room (Nat.le_of_ble_eq_true rfl)) dX2_lengthAt_106 ⟨Nat.le_of_ble_eq_true rfl, Nat.le_of_ble_eq_true rfl⟩) hS (fun q _ h => hFc q h) hFc (fun r_16 u9 t9 H1 locs ht9 hvm9 hw9 hB9 hz9 hk9 hS => ?_)
    have hP : va_P (gD g) cl0 ws H1 := by rw [← ht9]; exact hB9.1
    have h_r_16 := hw9
    clear hB9 hz9 hk9 hvm9 ht9 hw9
    generalize H1 = H at hP hS ⊢
    refine lv_istore_n (lv' := [(2, .int r_16), (0, .ref h0), (1, .int x1)]) hx hb dX2_lengthAt_109 rfl hl (by decide) rfl (fun ls hl => ?_)
    exact J_110 (r_16) H locs ls (by have q_r_16 := h_r_16; have g_r_16 := i_rg r_16; have g_x1 := i_rg x1; omega) hP hD hS (lv_sub hl [1, 2, 0] rfl)
  have K_5_48 : W p l e (headSpec (wt yX2_lengthAt cX2_lengthAt 3 (some .int)) ({ frames := 3, cells := 0, slots := 0, locals := 66 })).room s m ([.ref h0, .int x1] : List Value).toArray below meth c H locs (0) (0) (MQ below (va_Qi (fun (r : Int32) (u9 : Unit) => x1.toInt < 0 ∨ 1200 < x1.toInt ∨ r.toInt ≤ 2000) (gQ0 g A ws) A) ([.ref h0, .int x1] : List Value).toArray s (0) (0) A) (F0 m 48 ls []) := by
    refine lv_aload_n hx hb dX2_lengthAt_48 rfl (lv_at hl 0 rfl) ?_
    refine lv_iload_n hx hb dX2_lengthAt_49 rfl (lv_at hl 1 rfl) ?_
    have hFc := gfree hD hS hA
    obtain ⟨k_17, fs_17, hk_17⟩ := gC_of o_h0
    refine va_calli (va_runV (As := [.int x1]) (rest := []) ⟨hx, hb, hml, hown, hts⟩ (m_X2_tableLength l g H.size ws h0 (x1) hG o_h0) (cwV 1 hts (gd_V kw_725 kw_802 kw_803 kw_389 kw_801) rfl rfl rfl (by decide +kernel) ⟨Nat.le_of_ble_eq_true rfl, Nat.le_of_ble_eq_true rfl⟩) ⟨gblind, va_recv hK hP (ci := 2) (q0 := k_17) rfl hk_17, fun U hU hW9 => gmk hU hW9 hP hK hD hex hE hS hFc⟩ rfl rfl hl.1 rfl (lv_room (Nat.le_of_ble_eq_true rfl)) dX2_lengthAt_50 ⟨Nat.le_of_ble_eq_true rfl, Nat.le_of_ble_eq_true rfl⟩) hS (fun q _ h => hFc q h) hFc (fun r_18 u9 t9 H1 locs ht9 hvm9 hw9 hB9 hz9 hk9 hS => ?_)
    have hP : va_P (gD g) cl0 ws H1 := by rw [← ht9]; exact hB9.1
    have h_r_18 := hw9
    clear hB9 hz9 hk9 hvm9 ht9 hw9
    generalize H1 = H at hP hS ⊢
    refine lv_istore_n (lv' := [(2, .int r_18), (0, .ref h0), (1, .int x1)]) hx hb dX2_lengthAt_53 rfl hl (by decide) rfl (fun ls hl => ?_)
    refine lv_goto (tgt := 110) hx hb dX2_lengthAt_54 (by decide) ?_
    exact J_110 (r_18) H locs ls (by have q_r_18 := h_r_18; have g_r_18 := i_rg r_18; have g_x1 := i_rg x1; omega) hP hD hS (lv_sub hl [1, 2, 0] rfl)
  have K_5_57 : W p l e (headSpec (wt yX2_lengthAt cX2_lengthAt 3 (some .int)) ({ frames := 3, cells := 0, slots := 0, locals := 66 })).room s m ([.ref h0, .int x1] : List Value).toArray below meth c H locs (0) (0) (MQ below (va_Qi (fun (r : Int32) (u9 : Unit) => x1.toInt < 0 ∨ 1200 < x1.toInt ∨ r.toInt ≤ 2000) (gQ0 g A ws) A) ([.ref h0, .int x1] : List Value).toArray s (0) (0) A) (F0 m 57 ls []) := by
    refine lv_aload_n hx hb dX2_lengthAt_57 rfl (lv_at hl 0 rfl) ?_
    refine lv_iload_n hx hb dX2_lengthAt_58 rfl (lv_at hl 1 rfl) ?_
    have hFc := gfree hD hS hA
    obtain ⟨k_19, fs_19, hk_19⟩ := gC_of o_h0
    refine va_calli (va_runV (As := [.int x1]) (rest := []) ⟨hx, hb, hml, hown, hts⟩ (m_X2_lookupLength l g H.size ws h0 (x1) hG o_h0) (cwV 1 hts (gd_V kw_726 kw_747 kw_748 kw_389 kw_746) rfl rfl rfl (by decide +kernel) ⟨Nat.le_of_ble_eq_true rfl, Nat.le_of_ble_eq_true rfl⟩) ⟨gblind, va_recv hK hP (ci := 2) (q0 := k_19) rfl hk_19, fun U hU hW9 => gmk hU hW9 hP hK hD hex hE hS hFc⟩ rfl rfl hl.1 rfl (lv_room (Nat.le_of_ble_eq_true rfl)) dX2_lengthAt_59 ⟨Nat.le_of_ble_eq_true rfl, Nat.le_of_ble_eq_true rfl⟩) hS (fun q _ h => hFc q h) hFc (fun r_20 u9 t9 H1 locs ht9 hvm9 hw9 hB9 hz9 hk9 hS => ?_)
    have hP : va_P (gD g) cl0 ws H1 := by rw [← ht9]; exact hB9.1
    have h_r_20 := hw9
    clear hB9 hz9 hk9 hvm9 ht9 hw9
    generalize H1 = H at hP hS ⊢
    refine lv_istore_n (lv' := [(2, .int r_20), (0, .ref h0), (1, .int x1)]) hx hb dX2_lengthAt_62 rfl hl (by decide) rfl (fun ls hl => ?_)
    refine lv_goto (tgt := 110) hx hb dX2_lengthAt_63 (by decide) ?_
    exact J_110 (r_20) H locs ls (by have q_r_20 := h_r_20; have g_r_20 := i_rg r_20; have g_x1 := i_rg x1; omega) hP hD hS (lv_sub hl [1, 2, 0] rfl)
  have K_5_80 : W p l e (headSpec (wt yX2_lengthAt cX2_lengthAt 3 (some .int)) ({ frames := 3, cells := 0, slots := 0, locals := 66 })).room s m ([.ref h0, .int x1] : List Value).toArray below meth c H locs (0) (0) (MQ below (va_Qi (fun (r : Int32) (u9 : Unit) => x1.toInt < 0 ∨ 1200 < x1.toInt ∨ r.toInt ≤ 2000) (gQ0 g A ws) A) ([.ref h0, .int x1] : List Value).toArray s (0) (0) A) (F0 m 80 ls []) := by
    refine lv_aload_n hx hb dX2_lengthAt_80 rfl (lv_at hl 0 rfl) ?_
    refine lv_iload_n hx hb dX2_lengthAt_81 rfl (lv_at hl 1 rfl) ?_
    refine lv_iconst (v := 1) hx hb dX2_lengthAt_82 (by decide) ?_
    refine lv_iadd hx hb dX2_lengthAt_83 ?_
    refine lv_topi (fun z_21 ez_21 => ?_)
    have hFc := gfree hD hS hA
    obtain ⟨k_22, fs_22, hk_22⟩ := gC_of o_h0
    refine va_calli (va_runV (As := [.int z_21]) (rest := []) ⟨hx, hb, hml, hown, hts⟩ (m_X2_u1 l g H.size ws h0 (z_21) hG o_h0) (cwV 1 hts (gd_V kw_682 kw_812 kw_813 kw_389 kw_811) rfl rfl rfl (by decide +kernel) ⟨Nat.le_of_ble_eq_true rfl, Nat.le_of_ble_eq_true rfl⟩) ⟨gblind, va_recv hK hP (ci := 2) (q0 := k_22) rfl hk_22, fun U hU hW9 => gmk hU hW9 hP hK hD hex hE hS hFc⟩ rfl rfl hl.1 rfl (lv_room (Nat.le_of_ble_eq_true rfl)) dX2_lengthAt_84 ⟨Nat.le_of_ble_eq_true rfl, Nat.le_of_ble_eq_true rfl⟩) hS (fun q _ h => hFc q h) hFc (fun r_23 u9 t9 H1 locs ht9 hvm9 hw9 hB9 hz9 hk9 hS => ?_)
    have hP : va_P (gD g) cl0 ws H1 := by rw [← ht9]; exact hB9.1
    clear hB9 hz9 hk9 hvm9 ht9 hw9
    generalize H1 = H at hP hS ⊢
    refine lv_bipush (v := 10) hx hb dX2_lengthAt_87 (by decide) ?_
    have J_97 : ∀ (t_24 : Int32) (H : Heap) (locs : List Loc) (ls : Array Slot), 0 ≤ t_24.toInt ∧ t_24.toInt ≤ 2 → va_P (gD g) cl0 ws H → va_D A ws → va_S A s.heap H locs → lv_has ls 3 [(0, .ref h0), (1, .int x1)] → W p l e (headSpec (wt yX2_lengthAt cX2_lengthAt 3 (some .int)) ({ frames := 3, cells := 0, slots := 0, locals := 66 })).room s m ([.ref h0, .int x1] : List Value).toArray below meth c H locs (0) (0) (MQ below (va_Qi (fun (r : Int32) (u9 : Unit) => x1.toInt < 0 ∨ 1200 < x1.toInt ∨ r.toInt ≤ 2000) (gQ0 g A ws) A) ([.ref h0, .int x1] : List Value).toArray s (0) (0) A) (F0 m 97 ls [.int t_24]) := by
      intro t_24 H locs ls iv_25 hP hD hS hl
      refine lv_istore_n (lv' := [(2, .int t_24), (0, .ref h0), (1, .int x1)]) hx hb dX2_lengthAt_97 rfl hl (by decide) rfl (fun ls hl => ?_)
      refine lv_goto (tgt := 110) hx hb dX2_lengthAt_98 (by decide) ?_
      exact J_110 (t_24) H locs ls (by have e1 : (1 : Int32).toInt = 1 := (by decide); obtain ⟨u_z_21, q_z_21⟩ := i_add ez_21; have q_iv_25 := iv_25; have g_t_24 := i_rg t_24; have g_x1 := i_rg x1; have g_z_21 := i_rg z_21; omega) hP hD hS (lv_sub hl [1, 2, 0] rfl)
    refine lv_icmp_ne (tgt := 96) hx hb dX2_lengthAt_89 (by decide) (fun c_28 => ?_) (fun c_28 => ?_)
    · refine lv_iconst (v := 0) hx hb dX2_lengthAt_96 (by decide) ?_
      exact J_97 (0) H locs ls (by have e0 : (0 : Int32).toInt = 0 := (by decide); have e1 : (1 : Int32).toInt = 1 := (by decide); obtain ⟨u_z_21, q_z_21⟩ := i_add ez_21; have g_x1 := i_rg x1; have g_z_21 := i_rg z_21; omega) hP hD hS (lv_sub hl [0, 1] rfl)
    · refine lv_iconst (v := 2) hx hb dX2_lengthAt_92 (by decide) ?_
      refine lv_goto (tgt := 97) hx hb dX2_lengthAt_93 (by decide) ?_
      exact J_97 (2) H locs ls (by have e1 : (1 : Int32).toInt = 1 := (by decide); have e2 : (2 : Int32).toInt = 2 := (by decide); obtain ⟨u_z_21, q_z_21⟩ := i_add ez_21; have g_x1 := i_rg x1; have g_z_21 := i_rg z_21; omega) hP hD hS (lv_sub hl [0, 1] rfl)
  have K_5_66 : W p l e (headSpec (wt yX2_lengthAt cX2_lengthAt 3 (some .int)) ({ frames := 3, cells := 0, slots := 0, locals := 66 })).room s m ([.ref h0, .int x1] : List Value).toArray below meth c H locs (0) (0) (MQ below (va_Qi (fun (r : Int32) (u9 : Unit) => x1.toInt < 0 ∨ 1200 < x1.toInt ∨ r.toInt ≤ 2000) (gQ0 g A ws) A) ([.ref h0, .int x1] : List Value).toArray s (0) (0) A) (F0 m 66 ls []) := by
    refine lv_aload_n hx hb dX2_lengthAt_66 rfl (lv_at hl 0 rfl) ?_
    refine lv_iload_n hx hb dX2_lengthAt_67 rfl (lv_at hl 1 rfl) ?_
    refine lv_iconst (v := 1) hx hb dX2_lengthAt_68 (by decide) ?_
    refine lv_iadd hx hb dX2_lengthAt_69 ?_
    refine lv_topi (fun z_29 ez_29 => ?_)
    have hFc := gfree hD hS hA
    obtain ⟨k_30, fs_30, hk_30⟩ := gC_of o_h0
    refine va_calli (va_runV (As := [.int z_29]) (rest := []) ⟨hx, hb, hml, hown, hts⟩ (m_X2_u1 l g H.size ws h0 (z_29) hG o_h0) (cwV 1 hts (gd_V kw_682 kw_812 kw_813 kw_389 kw_811) rfl rfl rfl (by decide +kernel) ⟨Nat.le_of_ble_eq_true rfl, Nat.le_of_ble_eq_true rfl⟩) ⟨gblind, va_recv hK hP (ci := 2) (q0 := k_30) rfl hk_30, fun U hU hW9 => gmk hU hW9 hP hK hD hex hE hS hFc⟩ rfl rfl hl.1 rfl (lv_room (Nat.le_of_ble_eq_true rfl)) dX2_lengthAt_70 ⟨Nat.le_of_ble_eq_true rfl, Nat.le_of_ble_eq_true rfl⟩) hS (fun q _ h => hFc q h) hFc (fun r_31 u9 t9 H1 locs ht9 hvm9 hw9 hB9 hz9 hk9 hS => ?_)
    have hP : va_P (gD g) cl0 ws H1 := by rw [← ht9]; exact hB9.1
    clear hB9 hz9 hk9 hvm9 ht9 hw9
    generalize H1 = H at hP hS ⊢
    have hFc := gfree hD hS hA
    refine va_calli (va_runS (As := [.int r_31]) (rest := []) ⟨hx, hb, hml, hown, hts⟩ (m_X2_wideLength l g H.size ws (r_31) hG ) (va_cwS 1 hts (gd_S kw_727 kw_830 kw_389 kw_829) rfl rfl rfl (by decide +kernel) ⟨Nat.le_of_ble_eq_true rfl, Nat.le_of_ble_eq_true rfl⟩) ⟨gblind, fun U hU hW9 => gmk hU hW9 hP hK hD hex hE hS hFc⟩ rfl rfl hl.1 rfl (lv_room (Nat.le_of_ble_eq_true rfl)) dX2_lengthAt_73 ⟨Nat.le_of_ble_eq_true rfl, Nat.le_of_ble_eq_true rfl⟩) hS (fun q _ h => hFc q h) hFc (fun r_32 u9 t9 H1 locs ht9 hvm9 hw9 hB9 hz9 hk9 hS => ?_)
    have hP : va_P (gD g) cl0 ws H1 := by rw [← ht9]; exact hB9.1
    have h_r_32 := hw9
    clear hB9 hz9 hk9 hvm9 ht9 hw9
    generalize H1 = H at hP hS ⊢
    refine lv_istore_n (lv' := [(2, .int r_32), (0, .ref h0), (1, .int x1)]) hx hb dX2_lengthAt_76 rfl hl (by decide) rfl (fun ls hl => ?_)
    refine lv_goto (tgt := 110) hx hb dX2_lengthAt_77 (by decide) ?_
    exact J_110 (r_32) H locs ls (by have e1 : (1 : Int32).toInt = 1 := (by decide); obtain ⟨u_z_29, q_z_29⟩ := i_add ez_29; have q_r_32 := h_r_32; have g_r_32 := i_rg r_32; have g_x1 := i_rg x1; have g_z_29 := i_rg z_29; omega) hP hD hS (lv_sub hl [1, 2, 0] rfl)
  by_cases c9_170 : (r_2 : Int32).toInt = 170
  · exact lv_lookup (off := 43) (tgt := 48) hx hb dX2_lengthAt_5 (by decide) (by rw [c9_170]; decide) (by decide) K_5_48
  by_cases c9_171 : (r_2 : Int32).toInt = 171
  · exact lv_lookup (off := 52) (tgt := 57) hx hb dX2_lengthAt_5 (by decide) (by rw [c9_171]; decide) (by decide) K_5_57
  by_cases c9_188 : (r_2 : Int32).toInt = 188
  · exact lv_lookup (off := 75) (tgt := 80) hx hb dX2_lengthAt_5 (by decide) (by rw [c9_188]; decide) (by decide) K_5_80
  by_cases c9_196 : (r_2 : Int32).toInt = 196
  · exact lv_lookup (off := 61) (tgt := 66) hx hb dX2_lengthAt_5 (by decide) (by rw [c9_196]; decide) (by decide) K_5_66
  exact lv_lookup (off := 96) (tgt := 101) hx hb dX2_lengthAt_5 (by decide) (lk_cons c9_170 (lk_cons c9_171 (lk_cons c9_188 (lk_cons c9_196 lk_nil)))) (by decide) K_5_101
set_option maxHeartbeats 1000000 in
set_option maxRecDepth 100000 in
theorem m_X2_decode (l : Launch) (g : Gm) (sz : Nat) (ws : va_W) (h0 : Nat) (x1 : Int32) (hG : Good g ws) (o_h0 : gC ws h0 2) : Met l yX2_decode (wt yX2_decode cX2_decode 3 none) ({ frames := 3, cells := 0, slots := 0, locals := 65 }) (va_Pc [.ref h0, .int x1] (st_G g sz ws)) (va_Qv (fun (u9 : va_W) => True) (gQ1 g [(2, 9), (2, 10), (2, 11)] [] none (va_A ws sz) ws) (va_A ws sz)) (0) (0) (va_A ws sz) := by
  refine Met.ofW (cc := cX2_decode) (maxL := 3) (ret := none) (by decide) rfl ?_
  intro p e s m args below meth c s₁ B hml hv
  obtain ⟨rfl, hsz, hP, hK, hD0, hex, hE⟩ := hv
  have hx := B.exec
  have hb := B.bytes
  have hr := B.returns
  have hts0 := atoms_spec (ws := wt yX2_decode cX2_decode 3 none) B.pre
  have hts : ∀ w ∈ tb, w.before _ s = true := fun w h => hts0 w (List.mem_cons_of_mem _ h)
  have hown : s.vm.findClass RX2 = some m.cls := findClass_of_methodNamed B.named
  subst hsz
  have hD := hD0.self (sz := s.heap.size)
  generalize hAe : va_A ws s.heap.size = A at hD hE ⊢
  have hA : ∀ q : Nat, s.heap.size ≤ q → A q := fun q h => by rw [← hAe]; exact Or.inr h
  have hS : va_S A s.heap s.heap [] := va_S.rf
  have hl := lv_entry ([.ref h0, .int x1]) (n := 3) (Nat.le_of_ble_eq_true rfl)
  rw [lg_entry_eq]
  generalize (lg_sl ([.ref h0, .int x1]) ++ List.replicate (3 - (lg_sl ([.ref h0, .int x1])).length) Slot.unset).toArray = ls at hl ⊢
  have hl : lv_has ls 3 [(0, .ref h0), (1, .int x1)] := hl
  refine lv_aload_n hx hb dX2_decode_0 rfl (lv_at hl 0 rfl) ?_
  refine lv_iload_n hx hb dX2_decode_1 rfl (lv_at hl 1 rfl) ?_
  have hFc := gfree hD hS hA
  obtain ⟨k_1, fs_1, hk_1⟩ := gC_of o_h0
  refine va_calli (va_runV (As := [.int x1]) (rest := []) ⟨hx, hb, hml, hown, hts⟩ (m_X2_u1 l g s.heap.size ws h0 (x1) hG o_h0) (cwV 1 hts (gd_V kw_682 kw_812 kw_813 kw_389 kw_811) rfl rfl rfl (by decide +kernel) ⟨Nat.le_of_ble_eq_true rfl, Nat.le_of_ble_eq_true rfl⟩) ⟨gblind, va_recv hK hP (ci := 2) (q0 := k_1) rfl hk_1, fun U hU hW9 => gmk hU hW9 hP hK hD hex hE hS hFc⟩ rfl rfl hl.1 rfl (lv_room (Nat.le_of_ble_eq_true rfl)) dX2_decode_2 ⟨Nat.le_of_ble_eq_true rfl, Nat.le_of_ble_eq_true rfl⟩) hS (fun q _ h => hFc q h) hFc (fun r_2 u9 t9 H1 locs ht9 hvm9 hw9 hB9 hz9 hk9 hS => ?_)
  have hP : va_P (gD g) cl0 ws H1 := by rw [← ht9]; exact hB9.1
  clear hB9 hz9 hk9 hvm9 ht9 hw9
  generalize H1 = H at hP hS ⊢
  refine lv_istore_n (lv' := [(2, .int r_2), (0, .ref h0), (1, .int x1)]) hx hb dX2_decode_5 rfl hl (by decide) rfl (fun ls hl => ?_)
  refine lv_aload_n hx hb dX2_decode_6 rfl (lv_at hl 1 rfl) ?_
  refine lv_iload_n hx hb dX2_decode_7 rfl (lv_at hl 2 rfl) ?_
  obtain ⟨k_3, fs9, hk_3⟩ := gC_of o_h0
  obtain ⟨r0_3, c1_3, c2_3, c3_3, c4_3, c5_3, c6_3, r7_3, n7_3, c8_3, c9_3, l10_3, c11_3, rfl, o_r0_3, a_r7_3, f2_3, f3_3, f4_3, -⟩ := (hG.1 _ _ _ _ hk_3).hX2 rfl
  have hV9 : okv ws 2 11 (.int x1) := okv_i
  refine va_put (D := gD g) (ci := 2) (v := .int x1) (ty := .int) (C := RX2) (T := TX2) (N := 12) hx hb hts inX2 tyX2 tyX2_ok nmX2 hown hK hP hD hS k_3 hk_3 rfl 11 (by decide) (hts _ kw_683) (fun _ h9 => h9) rfl (by decide +kernel) rfl rfl (Nat.le_of_ble_eq_true rfl) dX2_decode_8 (fun H locs hP hD hS => ?_)
  have hi_4 : invX2 g ws h0 [.ref r0_3, .int c1_3, .int c2_3, .int c3_3, .int c4_3, .int c5_3, .int c6_3, .ref r7_3, .int c8_3, .int c9_3, .long l10_3, .int x1] := ⟨r0_3, (c1_3), (c2_3), (c3_3), (c4_3), (c5_3), (c6_3), r7_3, (n7_3), (c8_3), (c9_3), (l10_3), (x1), rfl, o_r0_3, a_r7_3, f2_3, f3_3, f4_3, trivial⟩
  obtain ⟨ws_5, e_ws_5⟩ : ∃ z, z = ws.set k_3 (h0, .inr (2, [.ref r0_3, .int c1_3, .int c2_3, .int c3_3, .int c4_3, .int c5_3, .int c6_3, .ref r7_3, .int c8_3, .int c9_3, .long l10_3, .int x1])) := ⟨_, rfl⟩
  have hP : va_P (gD g) cl0 ws_5 H := by rw [e_ws_5]; exact hP
  have hD : va_D A ws_5 := by rw [e_ws_5]; exact hD
  have E_6 : gE ws ws_5 := gE_set e_ws_5 hk_3 (cw_o (fi := 11) (v := .int x1) rfl (by decide))
  have hG : Good g ws_5 := Good_set (fi := 11) (v := .int x1) e_ws_5 hk_3 E_6 rfl hV9 hG (ivX2 hi_4)
  have Fr_7 : gF [(2, 11)] [] (some h0) ws ws_5 := gF_put (fi := 11) (v := .int x1) e_ws_5 hk_3 rfl (by decide)
  have hkN := gset_self e_ws_5 hk_3
  have hk_3 := hkN
  have o_h0 := E_6.1 _ _ o_h0
  have o_r0_3 := E_6.1 _ _ o_r0_3
  have a_r7_3 := E_6.1 _ _ a_r7_3
  refine lv_aload_n hx hb dX2_decode_11 rfl (lv_at hl 1 rfl) ?_
  refine lv_iload_n hx hb dX2_decode_12 rfl (lv_at hl 0 rfl) ?_
  have hV9 : okv ws_5 2 9 (.int r_2) := okv_i
  refine va_put (D := gD g) (ci := 2) (v := .int r_2) (ty := .int) (C := RX2) (T := TX2) (N := 12) hx hb hts inX2 tyX2 tyX2_ok nmX2 hown hK hP hD hS k_3 hk_3 rfl 9 (by decide) (hts _ kw_619) (fun _ h9 => h9) rfl (by decide +kernel) rfl rfl (Nat.le_of_ble_eq_true rfl) dX2_decode_13 (fun H locs hP hD hS => ?_)
  have hi_8 : invX2 g ws_5 h0 [.ref r0_3, .int c1_3, .int c2_3, .int c3_3, .int c4_3, .int c5_3, .int c6_3, .ref r7_3, .int c8_3, .int r_2, .long l10_3, .int x1] := ⟨r0_3, (c1_3), (c2_3), (c3_3), (c4_3), (c5_3), (c6_3), r7_3, (n7_3), (c8_3), (r_2), (l10_3), (x1), rfl, o_r0_3, a_r7_3, f2_3, f3_3, f4_3, trivial⟩
  obtain ⟨ws_9, e_ws_9⟩ : ∃ z, z = ws_5.set k_3 (h0, .inr (2, [.ref r0_3, .int c1_3, .int c2_3, .int c3_3, .int c4_3, .int c5_3, .int c6_3, .ref r7_3, .int c8_3, .int r_2, .long l10_3, .int x1])) := ⟨_, rfl⟩
  have hP : va_P (gD g) cl0 ws_9 H := by rw [e_ws_9]; exact hP
  have hD : va_D A ws_9 := by rw [e_ws_9]; exact hD
  have E_10 : gE ws_5 ws_9 := gE_set e_ws_9 hk_3 (cw_o (fi := 9) (v := .int r_2) rfl (by decide))
  have hG : Good g ws_9 := Good_set (fi := 9) (v := .int r_2) e_ws_9 hk_3 E_10 rfl hV9 hG (ivX2 hi_8)
  have Fr_11 : gF [(2, 9)] [] (some h0) ws_5 ws_9 := gF_put (fi := 9) (v := .int r_2) e_ws_9 hk_3 rfl (by decide)
  have hkN := gset_self e_ws_9 hk_3
  have hk_3 := hkN
  have o_h0 := E_10.1 _ _ o_h0
  have o_r0_3 := E_10.1 _ _ o_r0_3
  have a_r7_3 := E_10.1 _ _ a_r7_3
  refine lv_aload_n hx hb dX2_decode_16 rfl (lv_at hl 1 rfl) ?_
  refine lv_lconst (v := 0) hx hb dX2_decode_17 (by decide) ?_
  have hV9 : okv ws_9 2 10 (.long 0) := okv_l
  refine va_put (D := gD g) (ci := 2) (v := .long 0) (ty := .long) (C := RX2) (T := TX2) (N := 12) hx hb hts inX2 tyX2 tyX2_ok nmX2 hown hK hP hD hS k_3 hk_3 rfl 10 (by decide) (hts _ kw_617) (fun _ h9 => h9) rfl (by decide +kernel) rfl rfl (Nat.le_of_ble_eq_true rfl) dX2_decode_18 (fun H locs hP hD hS => ?_)
  have hi_12 : invX2 g ws_9 h0 [.ref r0_3, .int c1_3, .int c2_3, .int c3_3, .int c4_3, .int c5_3, .int c6_3, .ref r7_3, .int c8_3, .int r_2, .long 0, .int x1] := ⟨r0_3, (c1_3), (c2_3), (c3_3), (c4_3), (c5_3), (c6_3), r7_3, (n7_3), (c8_3), (r_2), (0), (x1), rfl, o_r0_3, a_r7_3, f2_3, f3_3, f4_3, trivial⟩
  obtain ⟨ws_13, e_ws_13⟩ : ∃ z, z = ws_9.set k_3 (h0, .inr (2, [.ref r0_3, .int c1_3, .int c2_3, .int c3_3, .int c4_3, .int c5_3, .int c6_3, .ref r7_3, .int c8_3, .int r_2, .long 0, .int x1])) := ⟨_, rfl⟩
  have hP : va_P (gD g) cl0 ws_13 H := by rw [e_ws_13]; exact hP
  have hD : va_D A ws_13 := by rw [e_ws_13]; exact hD
  have E_14 : gE ws_9 ws_13 := gE_set e_ws_13 hk_3 (cw_o (fi := 10) (v := .long 0) rfl (by decide))
  have hG : Good g ws_13 := Good_set (fi := 10) (v := .long 0) e_ws_13 hk_3 E_14 rfl hV9 hG (ivX2 hi_12)
  have Fr_15 : gF [(2, 10)] [] (some h0) ws_9 ws_13 := gF_put (fi := 10) (v := .long 0) e_ws_13 hk_3 rfl (by decide)
  have hkN := gset_self e_ws_13 hk_3
  have hk_3 := hkN
  have o_h0 := E_14.1 _ _ o_h0
  have o_r0_3 := E_14.1 _ _ o_r0_3
  have a_r7_3 := E_14.1 _ _ a_r7_3
  refine lv_iload_n hx hb dX2_decode_21 rfl (lv_at hl 0 rfl) ?_
  refine lv_iconst (v := 2) hx hb dX2_decode_22 (by decide) ?_
  have J_252 : ∀ (ws_16 : va_W) (H : Heap) (locs : List Loc) (ls : Array Slot), gE ws_13 ws_16 → gF [(2, 9), (2, 10)] [] none ws_13 ws_16 → Good g ws_16 → va_P (gD g) cl0 ws_16 H → va_D A ws_16 → va_S A s.heap H locs → lv_has ls 3 [] → W p l e (headSpec (wt yX2_decode cX2_decode 3 none) ({ frames := 3, cells := 0, slots := 0, locals := 65 })).room s m ([.ref h0, .int x1] : List Value).toArray below meth c H locs (0) (0) (MQ below (va_Qv (fun (u9 : va_W) => True) (gQ1 g [(2, 9), (2, 10), (2, 11)] [] none A ws) A) ([.ref h0, .int x1] : List Value).toArray s (0) (0) A) (F0 m 252 ls []) := by
    intro ws_16 H locs ls  E_17 Fr_18 hG hP hD hS hl
    have aa_19 := a_r7_3
    have o_h0 := E_17.1 _ _ o_h0
    refine W.widen (k := 0) (n := 0) (Nat.le_of_ble_eq_true rfl) (Nat.le_of_ble_eq_true rfl) ?_
    exact W.vret hx hb hr (fun t9 ht9 hW9 => ⟨⟨ws_16, rfl, trivial, ⟨(E_6.tr (E_10.tr (E_14.tr E_17))), (gF.tr (gF.mo (F' := [(2, 9), (2, 10), (2, 11)]) (C' := []) (S' := none) Fr_7 (by decide) (fun _ h => h) (Or.inl rfl)) (gF.tr (gF.mo (F' := [(2, 9), (2, 10), (2, 11)]) (C' := []) (S' := none) Fr_11 (by decide) (fun _ h => h) (Or.inl rfl)) (gF.tr (gF.mo (F' := [(2, 9), (2, 10), (2, 11)]) (C' := []) (S' := none) Fr_15 (by decide) (fun _ h => h) (Or.inl rfl)) (gF.mo (F' := [(2, 9), (2, 10), (2, 11)]) (C' := []) (S' := none) Fr_18 (by decide) (fun _ h => h) (Or.inr rfl))))), hG, by rw [ht9]; exact hP, hD⟩⟩, hS.F ht9⟩) hS.2.2 dX2_decode_252
  have J_45 : ∀  (H : Heap) (locs : List Loc) (ls : Array Slot), va_P (gD g) cl0 ws_13 H → va_D A ws_13 → va_S A s.heap H locs → lv_has ls 3 [(0, .ref h0), (1, .int x1), (2, .int r_2)] → W p l e (headSpec (wt yX2_decode cX2_decode 3 none) ({ frames := 3, cells := 0, slots := 0, locals := 65 })).room s m ([.ref h0, .int x1] : List Value).toArray below meth c H locs (0) (0) (MQ below (va_Qv (fun (u9 : va_W) => True) (gQ1 g [(2, 9), (2, 10), (2, 11)] [] none A ws) A) ([.ref h0, .int x1] : List Value).toArray s (0) (0) A) (F0 m 45 ls []) := by
    intro  H locs ls  hP hD hS hl
    refine lv_iload_n hx hb dX2_decode_45 rfl (lv_at hl 2 rfl) ?_
    refine lv_bipush (v := 9) hx hb dX2_decode_46 (by decide) ?_
    have J_57 : ∀  (H : Heap) (locs : List Loc) (ls : Array Slot), va_P (gD g) cl0 ws_13 H → va_D A ws_13 → va_S A s.heap H locs → lv_has ls 3 [(0, .ref h0), (2, .int r_2)] → W p l e (headSpec (wt yX2_decode cX2_decode 3 none) ({ frames := 3, cells := 0, slots := 0, locals := 65 })).room s m ([.ref h0, .int x1] : List Value).toArray below meth c H locs (0) (0) (MQ below (va_Qv (fun (u9 : va_W) => True) (gQ1 g [(2, 9), (2, 10), (2, 11)] [] none A ws) A) ([.ref h0, .int x1] : List Value).toArray s (0) (0) A) (F0 m 57 ls []) := by
      intro  H locs ls  hP hD hS hl
      refine lv_aload_n hx hb dX2_decode_57 rfl (lv_at hl 0 rfl) ?_
      refine lv_bipush (v := 9) hx hb dX2_decode_58 (by decide) ?_
      refine lv_iload_n hx hb dX2_decode_60 rfl (lv_at hl 1 rfl) ?_
      refine lv_bipush (v := 9) hx hb dX2_decode_61 (by decide) ?_
      refine lv_isub hx hb dX2_decode_63 ?_
      refine lv_topi (fun z_24 ez_24 => ?_)
      obtain ⟨z_25, ez_25⟩ : ∃ y : Int64, (z_24 : Int32).toInt64 = y := ⟨_, rfl⟩
      refine lv_i2l (v := z_25) hx hb dX2_decode_64 ez_25 ?_
      have hFc := gfree hD hS hA
      refine va_callv (va_runV (As := [.int 9, .long z_25]) (rest := []) ⟨hx, hb, hml, hown, hts⟩ (m_X2_set l g H.size ws_13 h0 (9) (z_25) hG o_h0) (cwV 2 hts (gd_V kw_684 kw_793 kw_794 kw_389 kw_792) rfl rfl rfl (by decide +kernel) ⟨Nat.le_of_ble_eq_true rfl, Nat.le_of_ble_eq_true rfl⟩) ⟨gblind, va_recv hK hP (ci := 2) (q0 := k_3) rfl hk_3, fun U hU hW9 => gmk hU hW9 hP hK hD hex hE hS hFc⟩ rfl rfl hl.1 rfl (lv_room (Nat.le_of_ble_eq_true rfl)) dX2_decode_65 ⟨Nat.le_of_ble_eq_true rfl, Nat.le_of_ble_eq_true rfl⟩) hS (fun q _ h => hFc q h) hFc (fun  ws_26 t9 H1 locs ht9 hvm9 hw9 hB9 hz9 hk9 hS => ?_)
      obtain ⟨E_27, Fr_28, hG, hP1, hD1⟩ := hB9
      have hP : va_P (gD g) cl0 ws_26 H1 := by rw [← ht9]; exact hP1
      have hD : va_D A ws_26 := hD1.weaken (fun _ _ _ h => hFc _ h)
      clear hP1 hD1 hz9 hk9 hvm9 ht9 hw9
      generalize H1 = H at hP hS ⊢
      have aa_31 := a_r7_3
      have o_h0 := E_27.1 _ _ o_h0
      refine lv_goto (tgt := 252) hx hb dX2_decode_68 (by decide) ?_
      exact J_252 ws_26 H locs ls (E_27) (Fr_28) hG hP hD hS (lv_sub hl [] rfl)
    refine lv_icmp_eq (tgt := 57) hx hb dX2_decode_48 (by decide) (fun c_32 => ?_) (fun c_32 => ?_)
    · exact J_57  H locs ls  hP hD hS (lv_sub hl [0, 2] rfl)
    · refine lv_iload_n hx hb dX2_decode_51 rfl (lv_at hl 2 rfl) ?_
      refine lv_bipush (v := 10) hx hb dX2_decode_52 (by decide) ?_
      refine lv_icmp_ne (tgt := 71) hx hb dX2_decode_54 (by decide) (fun c_33 => ?_) (fun c_33 => ?_)
      · refine lv_iload_n hx hb dX2_decode_71 rfl (lv_at hl 2 rfl) ?_
        refine lv_bipush (v := 16) hx hb dX2_decode_72 (by decide) ?_
        refine lv_icmp_ne (tgt := 95) hx hb dX2_decode_74 (by decide) (fun c_34 => ?_) (fun c_34 => ?_)
        · refine lv_iload_n hx hb dX2_decode_95 rfl (lv_at hl 2 rfl) ?_
          refine lv_bipush (v := 17) hx hb dX2_decode_96 (by decide) ?_
          refine lv_icmp_ne (tgt := 119) hx hb dX2_decode_98 (by decide) (fun c_35 => ?_) (fun c_35 => ?_)
          · refine lv_iload_n hx hb dX2_decode_119 rfl (lv_at hl 2 rfl) ?_
            refine lv_bipush (v := 18) hx hb dX2_decode_120 (by decide) ?_
            refine lv_icmp_ne (tgt := 142) hx hb dX2_decode_122 (by decide) (fun c_36 => ?_) (fun c_36 => ?_)
            · refine lv_iload_n hx hb dX2_decode_142 rfl (lv_at hl 2 rfl) ?_
              refine lv_sipush (v := 200) hx hb dX2_decode_143 (by decide) ?_
              refine lv_icmp_ne (tgt := 170) hx hb dX2_decode_146 (by decide) (fun c_37 => ?_) (fun c_37 => ?_)
              · refine lv_iload_n hx hb dX2_decode_170 rfl (lv_at hl 2 rfl) ?_
                have hFc := gfree hD hS hA
                refine va_calli (va_runS (As := [.int r_2]) (rest := []) ⟨hx, hb, hml, hown, hts⟩ (m_X6_isJump l g H.size ws_13 (r_2) hG ) (va_cwS 1 hts (gd_S kw_629 kw_1225 kw_1207 kw_1224) rfl rfl rfl (by decide +kernel) ⟨Nat.le_of_ble_eq_true rfl, Nat.le_of_ble_eq_true rfl⟩) ⟨gblind, fun U hU hW9 => gmk hU hW9 hP hK hD hex hE hS hFc⟩ rfl rfl hl.1 rfl (lv_room (Nat.le_of_ble_eq_true rfl)) dX2_decode_171 ⟨Nat.le_of_ble_eq_true rfl, Nat.le_of_ble_eq_true rfl⟩) hS (fun q _ h => hFc q h) hFc (fun r_38 u9 t9 H1 locs ht9 hvm9 hw9 hB9 hz9 hk9 hS => ?_)
                have hP : va_P (gD g) cl0 ws_13 H1 := by rw [← ht9]; exact hB9.1
                have hz_r_38 : r_38 = 0 ∨ r_38 = 1 := hw9
                clear hB9 hz9 hk9 hvm9 ht9 hw9
                generalize H1 = H at hP hS ⊢
                refine lv_if_eq (tgt := 196) hx hb dX2_decode_174 (by decide) (fun c_39 => ?_) (fun c_39 => ?_)
                · refine lv_iload_n hx hb dX2_decode_196 rfl (lv_at hl 2 rfl) ?_
                  have hFc := gfree hD hS hA
                  refine va_calli (va_runS (As := [.int r_2]) (rest := []) ⟨hx, hb, hml, hown, hts⟩ (m_X6_isSwitch l g H.size ws_13 (r_2) hG ) (va_cwS 1 hts (gd_S kw_630 kw_1233 kw_1207 kw_1232) rfl rfl rfl (by decide +kernel) ⟨Nat.le_of_ble_eq_true rfl, Nat.le_of_ble_eq_true rfl⟩) ⟨gblind, fun U hU hW9 => gmk hU hW9 hP hK hD hex hE hS hFc⟩ rfl rfl hl.1 rfl (lv_room (Nat.le_of_ble_eq_true rfl)) dX2_decode_197 ⟨Nat.le_of_ble_eq_true rfl, Nat.le_of_ble_eq_true rfl⟩) hS (fun q _ h => hFc q h) hFc (fun r_40 u9 t9 H1 locs ht9 hvm9 hw9 hB9 hz9 hk9 hS => ?_)
                  have hP : va_P (gD g) cl0 ws_13 H1 := by rw [← ht9]; exact hB9.1
                  have hz_r_40 : r_40 = 0 ∨ r_40 = 1 := hw9
                  clear hB9 hz9 hk9 hvm9 ht9 hw9
                  generalize H1 = H at hP hS ⊢
                  refine lv_if_eq (tgt := 216) hx hb dX2_decode_200 (by decide) (fun c_41 => ?_) (fun c_41 => ?_)
                  · refine lv_iload_n hx hb dX2_decode_216 rfl (lv_at hl 2 rfl) ?_
                    have hFc := gfree hD hS hA
                    refine va_calli (va_runS (As := [.int r_2]) (rest := []) ⟨hx, hb, hml, hown, hts⟩ (m_X6_lengthOf l g H.size ws_13 (r_2) hG ) (va_cwS 1 hts (gd_S kw_687 kw_1244 kw_1207 kw_1243) rfl rfl rfl (by decide +kernel) ⟨Nat.le_of_ble_eq_true rfl, Nat.le_of_ble_eq_true rfl⟩) ⟨gblind, fun U hU hW9 => gmk hU hW9 hP hK hD hex hE hS hFc⟩ rfl rfl hl.1 rfl (lv_room (Nat.le_of_ble_eq_true rfl)) dX2_decode_217 ⟨Nat.le_of_ble_eq_true rfl, Nat.le_of_ble_eq_true rfl⟩) hS (fun q _ h => hFc q h) hFc (fun r_42 u9 t9 H1 locs ht9 hvm9 hw9 hB9 hz9 hk9 hS => ?_)
                    have hP : va_P (gD g) cl0 ws_13 H1 := by rw [← ht9]; exact hB9.1
                    have h_r_42 := hw9
                    clear hB9 hz9 hk9 hvm9 ht9 hw9
                    generalize H1 = H at hP hS ⊢
                    refine lv_iconst (v := 3) hx hb dX2_decode_220 (by decide) ?_
                    have J_247 : ∀  (H : Heap) (locs : List Loc) (ls : Array Slot), va_P (gD g) cl0 ws_13 H → va_D A ws_13 → va_S A s.heap H locs → lv_has ls 3 [(0, .ref h0), (1, .int x1)] → W p l e (headSpec (wt yX2_decode cX2_decode 3 none) ({ frames := 3, cells := 0, slots := 0, locals := 65 })).room s m ([.ref h0, .int x1] : List Value).toArray below meth c H locs (0) (0) (MQ below (va_Qv (fun (u9 : va_W) => True) (gQ1 g [(2, 9), (2, 10), (2, 11)] [] none A ws) A) ([.ref h0, .int x1] : List Value).toArray s (0) (0) A) (F0 m 247 ls []) := by
                      intro  H locs ls  hP hD hS hl
                      refine lv_aload_n hx hb dX2_decode_247 rfl (lv_at hl 0 rfl) ?_
                      refine lv_iload_n hx hb dX2_decode_248 rfl (lv_at hl 1 rfl) ?_
                      have hFc := gfree hD hS hA
                      refine va_callv (va_runV (As := [.int x1]) (rest := []) ⟨hx, hb, hml, hown, hts⟩ (m_X2_decodeLocal l g H.size ws_13 h0 (x1) hG o_h0) (cwV 1 hts (gd_V kw_688 kw_690 kw_691 kw_389 kw_689) rfl rfl rfl (by decide +kernel) ⟨Nat.le_of_ble_eq_true rfl, Nat.le_of_ble_eq_true rfl⟩) ⟨gblind, va_recv hK hP (ci := 2) (q0 := k_3) rfl hk_3, fun U hU hW9 => gmk hU hW9 hP hK hD hex hE hS hFc⟩ rfl rfl hl.1 rfl (lv_room (Nat.le_of_ble_eq_true rfl)) dX2_decode_249 ⟨Nat.le_of_ble_eq_true rfl, Nat.le_of_ble_eq_true rfl⟩) hS (fun q _ h => hFc q h) hFc (fun  ws_45 t9 H1 locs ht9 hvm9 hw9 hB9 hz9 hk9 hS => ?_)
                      obtain ⟨E_46, Fr_47, hG, hP1, hD1⟩ := hB9
                      have hP : va_P (gD g) cl0 ws_45 H1 := by rw [← ht9]; exact hP1
                      have hD : va_D A ws_45 := hD1.weaken (fun _ _ _ h => hFc _ h)
                      clear hP1 hD1 hz9 hk9 hvm9 ht9 hw9
                      generalize H1 = H at hP hS ⊢
                      have aa_50 := a_r7_3
                      have o_h0 := E_46.1 _ _ o_h0
                      exact J_252 ws_45 H locs ls (E_46) (Fr_47) hG hP hD hS (lv_sub hl [] rfl)
                    refine lv_icmp_ne (tgt := 247) hx hb dX2_decode_221 (by decide) (fun c_51 => ?_) (fun c_51 => ?_)
                    · exact J_247  H locs ls  hP hD hS (lv_sub hl [0, 1] rfl)
                    · refine lv_iload_n hx hb dX2_decode_224 rfl (lv_at hl 2 rfl) ?_
                      refine lv_sipush (v := 132) hx hb dX2_decode_225 (by decide) ?_
                      refine lv_icmp_eq (tgt := 247) hx hb dX2_decode_228 (by decide) (fun c_52 => ?_) (fun c_52 => ?_)
                      · exact J_247  H locs ls  hP hD hS (lv_sub hl [0, 1] rfl)
                      · refine lv_aload_n hx hb dX2_decode_231 rfl (lv_at hl 0 rfl) ?_
                        refine lv_iload_n hx hb dX2_decode_232 rfl (lv_at hl 2 rfl) ?_
                        refine lv_aload_n hx hb dX2_decode_233 rfl (lv_at hl 0 rfl) ?_
                        refine lv_iload_n hx hb dX2_decode_234 rfl (lv_at hl 1 rfl) ?_
                        refine lv_iconst (v := 1) hx hb dX2_decode_235 (by decide) ?_
                        refine lv_iadd hx hb dX2_decode_236 ?_
                        refine lv_topi (fun z_53 ez_53 => ?_)
                        have hFc := gfree hD hS hA
                        refine va_calli (va_runV (As := [.int z_53]) (rest := [.int r_2, .ref h0]) ⟨hx, hb, hml, hown, hts⟩ (m_X2_u2 l g H.size ws_13 h0 (z_53) hG o_h0) (cwV 1 hts (gd_V kw_685 kw_816 kw_817 kw_389 kw_815) rfl rfl rfl (by decide +kernel) ⟨Nat.le_of_ble_eq_true rfl, Nat.le_of_ble_eq_true rfl⟩) ⟨gblind, va_recv hK hP (ci := 2) (q0 := k_3) rfl hk_3, fun U hU hW9 => gmk hU hW9 hP hK hD hex hE hS hFc⟩ rfl rfl hl.1 rfl (lv_room (Nat.le_of_ble_eq_true rfl)) dX2_decode_237 ⟨Nat.le_of_ble_eq_true rfl, Nat.le_of_ble_eq_true rfl⟩) hS (fun q _ h => hFc q h) hFc (fun r_54 u9 t9 H1 locs ht9 hvm9 hw9 hB9 hz9 hk9 hS => ?_)
                        have hP : va_P (gD g) cl0 ws_13 H1 := by rw [← ht9]; exact hB9.1
                        clear hB9 hz9 hk9 hvm9 ht9 hw9
                        generalize H1 = H at hP hS ⊢
                        obtain ⟨z_55, ez_55⟩ : ∃ y : Int64, (r_54 : Int32).toInt64 = y := ⟨_, rfl⟩
                        refine lv_i2l (v := z_55) hx hb dX2_decode_240 ez_55 ?_
                        have hFc := gfree hD hS hA
                        refine va_callv (va_runV (As := [.int r_2, .long z_55]) (rest := []) ⟨hx, hb, hml, hown, hts⟩ (m_X2_set l g H.size ws_13 h0 (r_2) (z_55) hG o_h0) (cwV 2 hts (gd_V kw_684 kw_793 kw_794 kw_389 kw_792) rfl rfl rfl (by decide +kernel) ⟨Nat.le_of_ble_eq_true rfl, Nat.le_of_ble_eq_true rfl⟩) ⟨gblind, va_recv hK hP (ci := 2) (q0 := k_3) rfl hk_3, fun U hU hW9 => gmk hU hW9 hP hK hD hex hE hS hFc⟩ rfl rfl hl.1 rfl (lv_room (Nat.le_of_ble_eq_true rfl)) dX2_decode_241 ⟨Nat.le_of_ble_eq_true rfl, Nat.le_of_ble_eq_true rfl⟩) hS (fun q _ h => hFc q h) hFc (fun  ws_56 t9 H1 locs ht9 hvm9 hw9 hB9 hz9 hk9 hS => ?_)
                        obtain ⟨E_57, Fr_58, hG, hP1, hD1⟩ := hB9
                        have hP : va_P (gD g) cl0 ws_56 H1 := by rw [← ht9]; exact hP1
                        have hD : va_D A ws_56 := hD1.weaken (fun _ _ _ h => hFc _ h)
                        clear hP1 hD1 hz9 hk9 hvm9 ht9 hw9
                        generalize H1 = H at hP hS ⊢
                        have aa_61 := a_r7_3
                        have o_h0 := E_57.1 _ _ o_h0
                        refine lv_goto (tgt := 252) hx hb dX2_decode_244 (by decide) ?_
                        exact J_252 ws_56 H locs ls (E_57) (Fr_58) hG hP hD hS (lv_sub hl [] rfl)
                  · refine lv_aload_n hx hb dX2_decode_203 rfl (lv_at hl 0 rfl) ?_
                    refine lv_iload_n hx hb dX2_decode_204 rfl (lv_at hl 2 rfl) ?_
                    refine lv_iload_n hx hb dX2_decode_205 rfl (lv_at hl 1 rfl) ?_
                    have hFc := gfree hD hS hA
                    refine va_calli (va_runS (As := [.int x1]) (rest := [.int r_2, .ref h0]) ⟨hx, hb, hml, hown, hts⟩ (m_X2_numbersOf l g H.size ws_13 (x1) hG ) (va_cwS 1 hts (gd_S kw_686 kw_764 kw_389 kw_763) rfl rfl rfl (by decide +kernel) ⟨Nat.le_of_ble_eq_true rfl, Nat.le_of_ble_eq_true rfl⟩) ⟨gblind, fun U hU hW9 => gmk hU hW9 hP hK hD hex hE hS hFc⟩ rfl rfl hl.1 rfl (lv_room (Nat.le_of_ble_eq_true rfl)) dX2_decode_206 ⟨Nat.le_of_ble_eq_true rfl, Nat.le_of_ble_eq_true rfl⟩) hS (fun q _ h => hFc q h) hFc (fun r_62 u9 t9 H1 locs ht9 hvm9 hw9 hB9 hz9 hk9 hS => ?_)
                    have hP : va_P (gD g) cl0 ws_13 H1 := by rw [← ht9]; exact hB9.1
                    have h_r_62 := hw9
                    clear hB9 hz9 hk9 hvm9 ht9 hw9
                    generalize H1 = H at hP hS ⊢
                    obtain ⟨z_63, ez_63⟩ : ∃ y : Int64, (r_62 : Int32).toInt64 = y := ⟨_, rfl⟩
                    refine lv_i2l (v := z_63) hx hb dX2_decode_209 ez_63 ?_
                    have hFc := gfree hD hS hA
                    refine va_callv (va_runV (As := [.int r_2, .long z_63]) (rest := []) ⟨hx, hb, hml, hown, hts⟩ (m_X2_set l g H.size ws_13 h0 (r_2) (z_63) hG o_h0) (cwV 2 hts (gd_V kw_684 kw_793 kw_794 kw_389 kw_792) rfl rfl rfl (by decide +kernel) ⟨Nat.le_of_ble_eq_true rfl, Nat.le_of_ble_eq_true rfl⟩) ⟨gblind, va_recv hK hP (ci := 2) (q0 := k_3) rfl hk_3, fun U hU hW9 => gmk hU hW9 hP hK hD hex hE hS hFc⟩ rfl rfl hl.1 rfl (lv_room (Nat.le_of_ble_eq_true rfl)) dX2_decode_210 ⟨Nat.le_of_ble_eq_true rfl, Nat.le_of_ble_eq_true rfl⟩) hS (fun q _ h => hFc q h) hFc (fun  ws_64 t9 H1 locs ht9 hvm9 hw9 hB9 hz9 hk9 hS => ?_)
                    obtain ⟨E_65, Fr_66, hG, hP1, hD1⟩ := hB9
                    have hP : va_P (gD g) cl0 ws_64 H1 := by rw [← ht9]; exact hP1
                    have hD : va_D A ws_64 := hD1.weaken (fun _ _ _ h => hFc _ h)
                    clear hP1 hD1 hz9 hk9 hvm9 ht9 hw9
                    generalize H1 = H at hP hS ⊢
                    have aa_69 := a_r7_3
                    have o_h0 := E_65.1 _ _ o_h0
                    refine lv_goto (tgt := 252) hx hb dX2_decode_213 (by decide) ?_
                    exact J_252 ws_64 H locs ls (E_65) (Fr_66) hG hP hD hS (lv_sub hl [] rfl)
                · refine lv_aload_n hx hb dX2_decode_177 rfl (lv_at hl 0 rfl) ?_
                  refine lv_iload_n hx hb dX2_decode_178 rfl (lv_at hl 2 rfl) ?_
                  refine lv_iload_n hx hb dX2_decode_179 rfl (lv_at hl 1 rfl) ?_
                  refine lv_aload_n hx hb dX2_decode_180 rfl (lv_at hl 0 rfl) ?_
                  refine lv_iload_n hx hb dX2_decode_181 rfl (lv_at hl 1 rfl) ?_
                  refine lv_iconst (v := 1) hx hb dX2_decode_182 (by decide) ?_
                  refine lv_iadd hx hb dX2_decode_183 ?_
                  refine lv_topi (fun z_70 ez_70 => ?_)
                  have hFc := gfree hD hS hA
                  refine va_calli (va_runV (As := [.int z_70]) (rest := [.int x1, .int r_2, .ref h0]) ⟨hx, hb, hml, hown, hts⟩ (m_X2_u2 l g H.size ws_13 h0 (z_70) hG o_h0) (cwV 1 hts (gd_V kw_685 kw_816 kw_817 kw_389 kw_815) rfl rfl rfl (by decide +kernel) ⟨Nat.le_of_ble_eq_true rfl, Nat.le_of_ble_eq_true rfl⟩) ⟨gblind, va_recv hK hP (ci := 2) (q0 := k_3) rfl hk_3, fun U hU hW9 => gmk hU hW9 hP hK hD hex hE hS hFc⟩ rfl rfl hl.1 rfl (lv_room (Nat.le_of_ble_eq_true rfl)) dX2_decode_184 ⟨Nat.le_of_ble_eq_true rfl, Nat.le_of_ble_eq_true rfl⟩) hS (fun q _ h => hFc q h) hFc (fun r_71 u9 t9 H1 locs ht9 hvm9 hw9 hB9 hz9 hk9 hS => ?_)
                  have hP : va_P (gD g) cl0 ws_13 H1 := by rw [← ht9]; exact hB9.1
                  clear hB9 hz9 hk9 hvm9 ht9 hw9
                  generalize H1 = H at hP hS ⊢
                  obtain ⟨z_72, ez_72⟩ : ∃ y : Int32, (r_71 : Int32).toInt16.toInt32 = y := ⟨_, rfl⟩
                  refine lv_i2s (v := z_72) hx hb dX2_decode_187 ez_72 ?_
                  refine lv_iadd hx hb dX2_decode_188 ?_
                  refine lv_topi (fun z_73 ez_73 => ?_)
                  obtain ⟨z_74, ez_74⟩ : ∃ y : Int64, (z_73 : Int32).toInt64 = y := ⟨_, rfl⟩
                  refine lv_i2l (v := z_74) hx hb dX2_decode_189 ez_74 ?_
                  have hFc := gfree hD hS hA
                  refine va_callv (va_runV (As := [.int r_2, .long z_74]) (rest := []) ⟨hx, hb, hml, hown, hts⟩ (m_X2_set l g H.size ws_13 h0 (r_2) (z_74) hG o_h0) (cwV 2 hts (gd_V kw_684 kw_793 kw_794 kw_389 kw_792) rfl rfl rfl (by decide +kernel) ⟨Nat.le_of_ble_eq_true rfl, Nat.le_of_ble_eq_true rfl⟩) ⟨gblind, va_recv hK hP (ci := 2) (q0 := k_3) rfl hk_3, fun U hU hW9 => gmk hU hW9 hP hK hD hex hE hS hFc⟩ rfl rfl hl.1 rfl (lv_room (Nat.le_of_ble_eq_true rfl)) dX2_decode_190 ⟨Nat.le_of_ble_eq_true rfl, Nat.le_of_ble_eq_true rfl⟩) hS (fun q _ h => hFc q h) hFc (fun  ws_75 t9 H1 locs ht9 hvm9 hw9 hB9 hz9 hk9 hS => ?_)
                  obtain ⟨E_76, Fr_77, hG, hP1, hD1⟩ := hB9
                  have hP : va_P (gD g) cl0 ws_75 H1 := by rw [← ht9]; exact hP1
                  have hD : va_D A ws_75 := hD1.weaken (fun _ _ _ h => hFc _ h)
                  clear hP1 hD1 hz9 hk9 hvm9 ht9 hw9
                  generalize H1 = H at hP hS ⊢
                  have aa_80 := a_r7_3
                  have o_h0 := E_76.1 _ _ o_h0
                  refine lv_goto (tgt := 252) hx hb dX2_decode_193 (by decide) ?_
                  exact J_252 ws_75 H locs ls (E_76) (Fr_77) hG hP hD hS (lv_sub hl [] rfl)
              · refine lv_aload_n hx hb dX2_decode_149 rfl (lv_at hl 0 rfl) ?_
                refine lv_sipush (v := 167) hx hb dX2_decode_150 (by decide) ?_
                refine lv_iload_n hx hb dX2_decode_153 rfl (lv_at hl 1 rfl) ?_
                obtain ⟨z_81, ez_81⟩ : ∃ y : Int64, (x1 : Int32).toInt64 = y := ⟨_, rfl⟩
                refine lv_i2l (v := z_81) hx hb dX2_decode_154 ez_81 ?_
                refine lv_aload_n hx hb dX2_decode_155 rfl (lv_at hl 0 rfl) ?_
                refine lv_iload_n hx hb dX2_decode_156 rfl (lv_at hl 1 rfl) ?_
                refine lv_iconst (v := 1) hx hb dX2_decode_157 (by decide) ?_
                refine lv_iadd hx hb dX2_decode_158 ?_
                refine lv_topi (fun z_82 ez_82 => ?_)
                have hFc := gfree hD hS hA
                refine va_calli (va_runV (As := [.int z_82]) (rest := [.long z_81, .int 167, .ref h0]) ⟨hx, hb, hml, hown, hts⟩ (m_X2_s4 l g H.size ws_13 h0 (z_82) hG o_h0) (cwV 1 hts (gd_V kw_623 kw_790 kw_791 kw_389 kw_789) rfl rfl rfl (by decide +kernel) ⟨Nat.le_of_ble_eq_true rfl, Nat.le_of_ble_eq_true rfl⟩) ⟨gblind, va_recv hK hP (ci := 2) (q0 := k_3) rfl hk_3, fun U hU hW9 => gmk hU hW9 hP hK hD hex hE hS hFc⟩ rfl rfl hl.1 rfl (lv_room (Nat.le_of_ble_eq_true rfl)) dX2_decode_159 ⟨Nat.le_of_ble_eq_true rfl, Nat.le_of_ble_eq_true rfl⟩) hS (fun q _ h => hFc q h) hFc (fun r_83 u9 t9 H1 locs ht9 hvm9 hw9 hB9 hz9 hk9 hS => ?_)
                have hP : va_P (gD g) cl0 ws_13 H1 := by rw [← ht9]; exact hB9.1
                clear hB9 hz9 hk9 hvm9 ht9 hw9
                generalize H1 = H at hP hS ⊢
                obtain ⟨z_84, ez_84⟩ : ∃ y : Int64, (r_83 : Int32).toInt64 = y := ⟨_, rfl⟩
                refine lv_i2l (v := z_84) hx hb dX2_decode_162 ez_84 ?_
                refine lv_ladd hx hb dX2_decode_163 ?_
                refine lv_topl (fun z_85 ez_85 => ?_)
                have hFc := gfree hD hS hA
                refine va_callv (va_runV (As := [.int 167, .long z_85]) (rest := []) ⟨hx, hb, hml, hown, hts⟩ (m_X2_set l g H.size ws_13 h0 (167) (z_85) hG o_h0) (cwV 2 hts (gd_V kw_684 kw_793 kw_794 kw_389 kw_792) rfl rfl rfl (by decide +kernel) ⟨Nat.le_of_ble_eq_true rfl, Nat.le_of_ble_eq_true rfl⟩) ⟨gblind, va_recv hK hP (ci := 2) (q0 := k_3) rfl hk_3, fun U hU hW9 => gmk hU hW9 hP hK hD hex hE hS hFc⟩ rfl rfl hl.1 rfl (lv_room (Nat.le_of_ble_eq_true rfl)) dX2_decode_164 ⟨Nat.le_of_ble_eq_true rfl, Nat.le_of_ble_eq_true rfl⟩) hS (fun q _ h => hFc q h) hFc (fun  ws_86 t9 H1 locs ht9 hvm9 hw9 hB9 hz9 hk9 hS => ?_)
                obtain ⟨E_87, Fr_88, hG, hP1, hD1⟩ := hB9
                have hP : va_P (gD g) cl0 ws_86 H1 := by rw [← ht9]; exact hP1
                have hD : va_D A ws_86 := hD1.weaken (fun _ _ _ h => hFc _ h)
                clear hP1 hD1 hz9 hk9 hvm9 ht9 hw9
                generalize H1 = H at hP hS ⊢
                have aa_91 := a_r7_3
                have o_h0 := E_87.1 _ _ o_h0
                refine lv_goto (tgt := 252) hx hb dX2_decode_167 (by decide) ?_
                exact J_252 ws_86 H locs ls (E_87) (Fr_88) hG hP hD hS (lv_sub hl [] rfl)
            · refine lv_aload_n hx hb dX2_decode_125 rfl (lv_at hl 0 rfl) ?_
              refine lv_bipush (v := 19) hx hb dX2_decode_126 (by decide) ?_
              refine lv_aload_n hx hb dX2_decode_128 rfl (lv_at hl 0 rfl) ?_
              refine lv_iload_n hx hb dX2_decode_129 rfl (lv_at hl 1 rfl) ?_
              refine lv_iconst (v := 1) hx hb dX2_decode_130 (by decide) ?_
              refine lv_iadd hx hb dX2_decode_131 ?_
              refine lv_topi (fun z_92 ez_92 => ?_)
              have hFc := gfree hD hS hA
              refine va_calli (va_runV (As := [.int z_92]) (rest := [.int 19, .ref h0]) ⟨hx, hb, hml, hown, hts⟩ (m_X2_u1 l g H.size ws_13 h0 (z_92) hG o_h0) (cwV 1 hts (gd_V kw_682 kw_812 kw_813 kw_389 kw_811) rfl rfl rfl (by decide +kernel) ⟨Nat.le_of_ble_eq_true rfl, Nat.le_of_ble_eq_true rfl⟩) ⟨gblind, va_recv hK hP (ci := 2) (q0 := k_3) rfl hk_3, fun U hU hW9 => gmk hU hW9 hP hK hD hex hE hS hFc⟩ rfl rfl hl.1 rfl (lv_room (Nat.le_of_ble_eq_true rfl)) dX2_decode_132 ⟨Nat.le_of_ble_eq_true rfl, Nat.le_of_ble_eq_true rfl⟩) hS (fun q _ h => hFc q h) hFc (fun r_93 u9 t9 H1 locs ht9 hvm9 hw9 hB9 hz9 hk9 hS => ?_)
              have hP : va_P (gD g) cl0 ws_13 H1 := by rw [← ht9]; exact hB9.1
              clear hB9 hz9 hk9 hvm9 ht9 hw9
              generalize H1 = H at hP hS ⊢
              obtain ⟨z_94, ez_94⟩ : ∃ y : Int64, (r_93 : Int32).toInt64 = y := ⟨_, rfl⟩
              refine lv_i2l (v := z_94) hx hb dX2_decode_135 ez_94 ?_
              have hFc := gfree hD hS hA
              refine va_callv (va_runV (As := [.int 19, .long z_94]) (rest := []) ⟨hx, hb, hml, hown, hts⟩ (m_X2_set l g H.size ws_13 h0 (19) (z_94) hG o_h0) (cwV 2 hts (gd_V kw_684 kw_793 kw_794 kw_389 kw_792) rfl rfl rfl (by decide +kernel) ⟨Nat.le_of_ble_eq_true rfl, Nat.le_of_ble_eq_true rfl⟩) ⟨gblind, va_recv hK hP (ci := 2) (q0 := k_3) rfl hk_3, fun U hU hW9 => gmk hU hW9 hP hK hD hex hE hS hFc⟩ rfl rfl hl.1 rfl (lv_room (Nat.le_of_ble_eq_true rfl)) dX2_decode_136 ⟨Nat.le_of_ble_eq_true rfl, Nat.le_of_ble_eq_true rfl⟩) hS (fun q _ h => hFc q h) hFc (fun  ws_95 t9 H1 locs ht9 hvm9 hw9 hB9 hz9 hk9 hS => ?_)
              obtain ⟨E_96, Fr_97, hG, hP1, hD1⟩ := hB9
              have hP : va_P (gD g) cl0 ws_95 H1 := by rw [← ht9]; exact hP1
              have hD : va_D A ws_95 := hD1.weaken (fun _ _ _ h => hFc _ h)
              clear hP1 hD1 hz9 hk9 hvm9 ht9 hw9
              generalize H1 = H at hP hS ⊢
              have aa_100 := a_r7_3
              have o_h0 := E_96.1 _ _ o_h0
              refine lv_goto (tgt := 252) hx hb dX2_decode_139 (by decide) ?_
              exact J_252 ws_95 H locs ls (E_96) (Fr_97) hG hP hD hS (lv_sub hl [] rfl)
          · refine lv_aload_n hx hb dX2_decode_101 rfl (lv_at hl 0 rfl) ?_
            refine lv_bipush (v := 17) hx hb dX2_decode_102 (by decide) ?_
            refine lv_aload_n hx hb dX2_decode_104 rfl (lv_at hl 0 rfl) ?_
            refine lv_iload_n hx hb dX2_decode_105 rfl (lv_at hl 1 rfl) ?_
            refine lv_iconst (v := 1) hx hb dX2_decode_106 (by decide) ?_
            refine lv_iadd hx hb dX2_decode_107 ?_
            refine lv_topi (fun z_101 ez_101 => ?_)
            have hFc := gfree hD hS hA
            refine va_calli (va_runV (As := [.int z_101]) (rest := [.int 17, .ref h0]) ⟨hx, hb, hml, hown, hts⟩ (m_X2_u2 l g H.size ws_13 h0 (z_101) hG o_h0) (cwV 1 hts (gd_V kw_685 kw_816 kw_817 kw_389 kw_815) rfl rfl rfl (by decide +kernel) ⟨Nat.le_of_ble_eq_true rfl, Nat.le_of_ble_eq_true rfl⟩) ⟨gblind, va_recv hK hP (ci := 2) (q0 := k_3) rfl hk_3, fun U hU hW9 => gmk hU hW9 hP hK hD hex hE hS hFc⟩ rfl rfl hl.1 rfl (lv_room (Nat.le_of_ble_eq_true rfl)) dX2_decode_108 ⟨Nat.le_of_ble_eq_true rfl, Nat.le_of_ble_eq_true rfl⟩) hS (fun q _ h => hFc q h) hFc (fun r_102 u9 t9 H1 locs ht9 hvm9 hw9 hB9 hz9 hk9 hS => ?_)
            have hP : va_P (gD g) cl0 ws_13 H1 := by rw [← ht9]; exact hB9.1
            clear hB9 hz9 hk9 hvm9 ht9 hw9
            generalize H1 = H at hP hS ⊢
            obtain ⟨z_103, ez_103⟩ : ∃ y : Int32, (r_102 : Int32).toInt16.toInt32 = y := ⟨_, rfl⟩
            refine lv_i2s (v := z_103) hx hb dX2_decode_111 ez_103 ?_
            obtain ⟨z_104, ez_104⟩ : ∃ y : Int64, (z_103 : Int32).toInt64 = y := ⟨_, rfl⟩
            refine lv_i2l (v := z_104) hx hb dX2_decode_112 ez_104 ?_
            have hFc := gfree hD hS hA
            refine va_callv (va_runV (As := [.int 17, .long z_104]) (rest := []) ⟨hx, hb, hml, hown, hts⟩ (m_X2_set l g H.size ws_13 h0 (17) (z_104) hG o_h0) (cwV 2 hts (gd_V kw_684 kw_793 kw_794 kw_389 kw_792) rfl rfl rfl (by decide +kernel) ⟨Nat.le_of_ble_eq_true rfl, Nat.le_of_ble_eq_true rfl⟩) ⟨gblind, va_recv hK hP (ci := 2) (q0 := k_3) rfl hk_3, fun U hU hW9 => gmk hU hW9 hP hK hD hex hE hS hFc⟩ rfl rfl hl.1 rfl (lv_room (Nat.le_of_ble_eq_true rfl)) dX2_decode_113 ⟨Nat.le_of_ble_eq_true rfl, Nat.le_of_ble_eq_true rfl⟩) hS (fun q _ h => hFc q h) hFc (fun  ws_105 t9 H1 locs ht9 hvm9 hw9 hB9 hz9 hk9 hS => ?_)
            obtain ⟨E_106, Fr_107, hG, hP1, hD1⟩ := hB9
            have hP : va_P (gD g) cl0 ws_105 H1 := by rw [← ht9]; exact hP1
            have hD : va_D A ws_105 := hD1.weaken (fun _ _ _ h => hFc _ h)
            clear hP1 hD1 hz9 hk9 hvm9 ht9 hw9
            generalize H1 = H at hP hS ⊢
            have aa_110 := a_r7_3
            have o_h0 := E_106.1 _ _ o_h0
            refine lv_goto (tgt := 252) hx hb dX2_decode_116 (by decide) ?_
            exact J_252 ws_105 H locs ls (E_106) (Fr_107) hG hP hD hS (lv_sub hl [] rfl)
        · refine lv_aload_n hx hb dX2_decode_77 rfl (lv_at hl 0 rfl) ?_
          refine lv_bipush (v := 17) hx hb dX2_decode_78 (by decide) ?_
          refine lv_aload_n hx hb dX2_decode_80 rfl (lv_at hl 0 rfl) ?_
          refine lv_iload_n hx hb dX2_decode_81 rfl (lv_at hl 1 rfl) ?_
          refine lv_iconst (v := 1) hx hb dX2_decode_82 (by decide) ?_
          refine lv_iadd hx hb dX2_decode_83 ?_
          refine lv_topi (fun z_111 ez_111 => ?_)
          have hFc := gfree hD hS hA
          refine va_calli (va_runV (As := [.int z_111]) (rest := [.int 17, .ref h0]) ⟨hx, hb, hml, hown, hts⟩ (m_X2_u1 l g H.size ws_13 h0 (z_111) hG o_h0) (cwV 1 hts (gd_V kw_682 kw_812 kw_813 kw_389 kw_811) rfl rfl rfl (by decide +kernel) ⟨Nat.le_of_ble_eq_true rfl, Nat.le_of_ble_eq_true rfl⟩) ⟨gblind, va_recv hK hP (ci := 2) (q0 := k_3) rfl hk_3, fun U hU hW9 => gmk hU hW9 hP hK hD hex hE hS hFc⟩ rfl rfl hl.1 rfl (lv_room (Nat.le_of_ble_eq_true rfl)) dX2_decode_84 ⟨Nat.le_of_ble_eq_true rfl, Nat.le_of_ble_eq_true rfl⟩) hS (fun q _ h => hFc q h) hFc (fun r_112 u9 t9 H1 locs ht9 hvm9 hw9 hB9 hz9 hk9 hS => ?_)
          have hP : va_P (gD g) cl0 ws_13 H1 := by rw [← ht9]; exact hB9.1
          clear hB9 hz9 hk9 hvm9 ht9 hw9
          generalize H1 = H at hP hS ⊢
          obtain ⟨z_113, ez_113⟩ : ∃ y : Int32, (r_112 : Int32).toInt8.toInt32 = y := ⟨_, rfl⟩
          refine lv_i2b (v := z_113) hx hb dX2_decode_87 ez_113 ?_
          obtain ⟨z_114, ez_114⟩ : ∃ y : Int64, (z_113 : Int32).toInt64 = y := ⟨_, rfl⟩
          refine lv_i2l (v := z_114) hx hb dX2_decode_88 ez_114 ?_
          have hFc := gfree hD hS hA
          refine va_callv (va_runV (As := [.int 17, .long z_114]) (rest := []) ⟨hx, hb, hml, hown, hts⟩ (m_X2_set l g H.size ws_13 h0 (17) (z_114) hG o_h0) (cwV 2 hts (gd_V kw_684 kw_793 kw_794 kw_389 kw_792) rfl rfl rfl (by decide +kernel) ⟨Nat.le_of_ble_eq_true rfl, Nat.le_of_ble_eq_true rfl⟩) ⟨gblind, va_recv hK hP (ci := 2) (q0 := k_3) rfl hk_3, fun U hU hW9 => gmk hU hW9 hP hK hD hex hE hS hFc⟩ rfl rfl hl.1 rfl (lv_room (Nat.le_of_ble_eq_true rfl)) dX2_decode_89 ⟨Nat.le_of_ble_eq_true rfl, Nat.le_of_ble_eq_true rfl⟩) hS (fun q _ h => hFc q h) hFc (fun  ws_115 t9 H1 locs ht9 hvm9 hw9 hB9 hz9 hk9 hS => ?_)
          obtain ⟨E_116, Fr_117, hG, hP1, hD1⟩ := hB9
          have hP : va_P (gD g) cl0 ws_115 H1 := by rw [← ht9]; exact hP1
          have hD : va_D A ws_115 := hD1.weaken (fun _ _ _ h => hFc _ h)
          clear hP1 hD1 hz9 hk9 hvm9 ht9 hw9
          generalize H1 = H at hP hS ⊢
          have aa_120 := a_r7_3
          have o_h0 := E_116.1 _ _ o_h0
          refine lv_goto (tgt := 252) hx hb dX2_decode_92 (by decide) ?_
          exact J_252 ws_115 H locs ls (E_116) (Fr_117) hG hP hD hS (lv_sub hl [] rfl)
      · exact J_57  H locs ls  hP hD hS (lv_sub hl [0, 2] rfl)
  refine lv_icmp_lt (tgt := 45) hx hb dX2_decode_23 (by decide) (fun c_121 => ?_) (fun c_121 => ?_)
  · exact J_45  H locs ls  hP hD hS (lv_sub hl [1, 2, 0] rfl)
  · refine lv_iload_n hx hb dX2_decode_26 rfl (lv_at hl 0 rfl) ?_
    refine lv_bipush (v := 8) hx hb dX2_decode_27 (by decide) ?_
    refine lv_icmp_gt (tgt := 45) hx hb dX2_decode_29 (by decide) (fun c_122 => ?_) (fun c_122 => ?_)
    · exact J_45  H locs ls  hP hD hS (lv_sub hl [1, 2, 0] rfl)
    · refine lv_aload_n hx hb dX2_decode_32 rfl (lv_at hl 1 rfl) ?_
      refine lv_bipush (v := 17) hx hb dX2_decode_33 (by decide) ?_
      refine lv_iload_n hx hb dX2_decode_35 rfl (lv_at hl 0 rfl) ?_
      refine lv_iconst (v := 3) hx hb dX2_decode_36 (by decide) ?_
      refine lv_isub hx hb dX2_decode_37 ?_
      refine lv_topi (fun z_123 ez_123 => ?_)
      obtain ⟨z_124, ez_124⟩ : ∃ y : Int64, (z_123 : Int32).toInt64 = y := ⟨_, rfl⟩
      refine lv_i2l (v := z_124) hx hb dX2_decode_38 ez_124 ?_
      have hFc := gfree hD hS hA
      refine va_callv (va_runV (As := [.int 17, .long z_124]) (rest := []) ⟨hx, hb, hml, hown, hts⟩ (m_X2_set l g H.size ws_13 h0 (17) (z_124) hG o_h0) (cwV 2 hts (gd_V kw_684 kw_793 kw_794 kw_389 kw_792) rfl rfl rfl (by decide +kernel) ⟨Nat.le_of_ble_eq_true rfl, Nat.le_of_ble_eq_true rfl⟩) ⟨gblind, va_recv hK hP (ci := 2) (q0 := k_3) rfl hk_3, fun U hU hW9 => gmk hU hW9 hP hK hD hex hE hS hFc⟩ rfl rfl hl.1 rfl (lv_room (Nat.le_of_ble_eq_true rfl)) dX2_decode_39 ⟨Nat.le_of_ble_eq_true rfl, Nat.le_of_ble_eq_true rfl⟩) hS (fun q _ h => hFc q h) hFc (fun  ws_125 t9 H1 locs ht9 hvm9 hw9 hB9 hz9 hk9 hS => ?_)
      obtain ⟨E_126, Fr_127, hG, hP1, hD1⟩ := hB9
      have hP : va_P (gD g) cl0 ws_125 H1 := by rw [← ht9]; exact hP1
      have hD : va_D A ws_125 := hD1.weaken (fun _ _ _ h => hFc _ h)
      clear hP1 hD1 hz9 hk9 hvm9 ht9 hw9
      generalize H1 = H at hP hS ⊢
      have aa_130 := a_r7_3
      have o_h0 := E_126.1 _ _ o_h0
      refine lv_goto (tgt := 252) hx hb dX2_decode_42 (by decide) ?_
      exact J_252 ws_125 H locs ls (E_126) (Fr_127) hG hP hD hS (lv_sub hl [] rfl)
set_option maxHeartbeats 1000000 in
set_option maxRecDepth 100000 in
theorem m_X2_numberInstructions (l : Launch) (g : Gm) (sz : Nat) (ws : va_W) (h0 : Nat) (hG : Good g ws) (o_h0 : gC ws h0 2) : Met l yX2_numberInstructions (wt yX2_numberInstructions cX2_numberInstructions 2 none) ({ frames := 4, cells := 0, slots := 0, locals := 88 }) (va_Pc [.ref h0] (st_G g sz ws)) (va_Qv (fun (u9 : va_W) => gP u9 h0 (fun fs => ∀ c : Int32, fs[8]? = some (.int c) → ∀ d : Int32, fs[2]? = some (.int d) → 0 ≤ c.toInt ∧ c.toInt ≤ 1200 ∧ (d.toInt ≤ 0 ∨ 1 ≤ c.toInt))) (gQ1 g [(2, 8)] [(2, 7)] none (va_A ws sz) ws) (va_A ws sz)) (0) (0) (va_A ws sz) := by
  refine Met.ofW (cc := cX2_numberInstructions) (maxL := 2) (ret := none) (by decide) rfl ?_
  intro p e s m args below meth c s₁ B hml hv
  obtain ⟨rfl, hsz, hP, hK, hD0, hex, hE⟩ := hv
  have hx := B.exec
  have hb := B.bytes
  have hr := B.returns
  have hts0 := atoms_spec (ws := wt yX2_numberInstructions cX2_numberInstructions 2 none) B.pre
  have hts : ∀ w ∈ tb, w.before _ s = true := fun w h => hts0 w (List.mem_cons_of_mem _ h)
  have hown : s.vm.findClass RX2 = some m.cls := findClass_of_methodNamed B.named
  subst hsz
  have hD := hD0.self (sz := s.heap.size)
  generalize hAe : va_A ws s.heap.size = A at hD hE ⊢
  have hA : ∀ q : Nat, s.heap.size ≤ q → A q := fun q h => by rw [← hAe]; exact Or.inr h
  have hS : va_S A s.heap s.heap [] := va_S.rf
  have hl := lv_entry ([.ref h0]) (n := 2) (Nat.le_of_ble_eq_true rfl)
  rw [lg_entry_eq]
  generalize (lg_sl ([.ref h0]) ++ List.replicate (2 - (lg_sl ([.ref h0])).length) Slot.unset).toArray = ls at hl ⊢
  have hl : lv_has ls 2 [(0, .ref h0)] := hl
  refine lv_aload_n hx hb dX2_numberInstructions_0 rfl (lv_at hl 0 rfl) ?_
  obtain ⟨k_1, fs9, hk_1⟩ := gC_of o_h0
  obtain ⟨r0_1, c1_1, c2_1, c3_1, c4_1, c5_1, c6_1, r7_1, n7_1, c8_1, c9_1, l10_1, c11_1, rfl, o_r0_1, a_r7_1, f2_1, f3_1, f4_1, -⟩ := (hG.1 _ _ _ _ hk_1).hX2 rfl
  refine va_get (D := gD g) (ci := 2) (v := .ref r7_1) (C := RX2) (T := TX2) (N := 12) hx hb hts inX2 hown hK hP k_1 hk_1 rfl 7 (by decide) (hts _ kw_711) (fun _ h9 => h9) rfl dX2_numberInstructions_1 ?_
  refine lv_iconst (v := (-1)) hx hb dX2_numberInstructions_4 (by decide) ?_
  have hFc := gfree hD hS hA
  refine va_callv (va_runS (As := [.ref r7_1, .int (-1)]) (rest := []) ⟨hx, hb, hml, hown, hts⟩ (m_J7_fill_53178 l g s.heap.size ws r7_1 (n7_1) ((-1)) [(2, 7)] hG a_r7_1 f2_1 (hol_u hG.u hk_1 (j := 7) rfl a_r7_1 (by decide))) (va_cwS 2 hts (gd_S kw_757 kw_1722 kw_1723 kw_1721) rfl rfl rfl (by decide +kernel) ⟨Nat.le_of_ble_eq_true rfl, Nat.le_of_ble_eq_true rfl⟩) ⟨gblind, fun U hU hW9 => gmk hU hW9 hP hK hD hex hE hS hFc⟩ rfl rfl hl.1 rfl (lv_room (Nat.le_of_ble_eq_true rfl)) dX2_numberInstructions_5 ⟨Nat.le_of_ble_eq_true rfl, Nat.le_of_ble_eq_true rfl⟩) hS (fun q _ h => hFc q h) hFc (fun  ws_2 t9 H1 locs ht9 hvm9 hw9 hB9 hz9 hk9 hS => ?_)
  obtain ⟨E_3, Fr_4, hG, hP1, hD1⟩ := hB9
  have hP : va_P (gD g) cl0 ws_2 H1 := by rw [← ht9]; exact hP1
  have hD : va_D A ws_2 := hD1.weaken (fun _ _ _ h => hFc _ h)
  clear hP1 hD1 hz9 hk9 hvm9 ht9 hw9
  generalize H1 = H at hP hS ⊢
  have aa_7 := a_r7_1
  have o_h0 := E_3.1 _ _ o_h0
  refine lv_aload_n hx hb dX2_numberInstructions_8 rfl (lv_at hl 0 rfl) ?_
  refine lv_iconst (v := 0) hx hb dX2_numberInstructions_9 (by decide) ?_
  obtain ⟨fs9, hk_8, hq_8⟩ := ((gF.a (F' := []) Fr_4 (fun _ h => h))) _ _ _ hk_1
  obtain ⟨r0_8, c1_8, c2_8, c3_8, c4_8, c5_8, c6_8, r7_8, n7_8, c8_8, c9_8, l10_8, c11_8, rfl, o_r0_8, a_r7_8, f2_8, f3_8, f4_8, -⟩ := (hG.1 _ _ _ _ hk_8).hX2 rfl
  obtain rfl := fe_i (hq_8 2 (by decide))
  obtain rfl := fe_r (hq_8 7 (by decide))
  have hn9 := gI_n hD ((E_3).1 _ _ aa_7) a_r7_8
  subst hn9
  have a_r7_1 := a_r7_8
  obtain rfl := fe_i (hq_8 8 (by decide))
  have hV9 : okv ws_2 2 8 (.int 0) := okv_i
  refine va_put (D := gD g) (ci := 2) (v := .int 0) (ty := .int) (C := RX2) (T := TX2) (N := 12) hx hb hts inX2 tyX2 tyX2_ok nmX2 hown hK hP hD hS k_1 hk_8 rfl 8 (by decide) (hts _ kw_758) (fun _ h9 => h9) rfl (by decide +kernel) rfl rfl (Nat.le_of_ble_eq_true rfl) dX2_numberInstructions_10 (fun H locs hP hD hS => ?_)
  have hi_9 : invX2 g ws_2 h0 [.ref r0_8, .int c1_8, .int c2_1, .int c3_8, .int c4_8, .int c5_8, .int c6_8, .ref r7_1, .int 0, .int c9_8, .long l10_8, .int c11_8] := ⟨r0_8, (c1_8), (c2_1), (c3_8), (c4_8), (c5_8), (c6_8), r7_1, (n7_1), (0), (c9_8), (l10_8), (c11_8), rfl, o_r0_8, a_r7_1, f2_8, f3_8, f4_8, trivial⟩
  obtain ⟨ws_10, e_ws_10⟩ : ∃ z, z = ws_2.set k_1 (h0, .inr (2, [.ref r0_8, .int c1_8, .int c2_1, .int c3_8, .int c4_8, .int c5_8, .int c6_8, .ref r7_1, .int 0, .int c9_8, .long l10_8, .int c11_8])) := ⟨_, rfl⟩
  have hP : va_P (gD g) cl0 ws_10 H := by rw [e_ws_10]; exact hP
  have hD : va_D A ws_10 := by rw [e_ws_10]; exact hD
  have E_11 : gE ws_2 ws_10 := gE_set e_ws_10 hk_8 (cw_o (fi := 8) (v := .int 0) rfl (by decide))
  have hG : Good g ws_10 := Good_set (fi := 8) (v := .int 0) e_ws_10 hk_8 E_11 rfl hV9 hG (ivX2 hi_9)
  have Fr_12 : gF [(2, 8)] [] (some h0) ws_2 ws_10 := gF_put (fi := 8) (v := .int 0) e_ws_10 hk_8 rfl (by decide)
  have hkN := gset_self e_ws_10 hk_8
  have hk_8 := hkN
  have o_h0 := E_11.1 _ _ o_h0
  have o_r0_8 := E_11.1 _ _ o_r0_8
  have a_r7_1 := E_11.1 _ _ a_r7_1
  refine lv_iconst (v := 0) hx hb dX2_numberInstructions_13 (by decide) ?_
  refine lv_istore_n (lv' := [(1, .int 0), (0, .ref h0)]) hx hb dX2_numberInstructions_14 rfl hl (by decide) rfl (fun ls hl => ?_)
  have J_15 : ∀ (n9 : Nat) (v1_13 : Int32) (ws_15 : va_W) (H : Heap) (locs : List Loc) (ls : Array Slot), (4000 - v1_13.toInt).toNat = n9 → 0 ≤ v1_13.toInt ∧ v1_13.toInt ≤ 4000 → gE ws_10 ws_15 → gF [(2, 8)] [(2, 7)] none ws_10 ws_15 → Good g ws_15 → gP ws_15 h0 (fun fs => ∀ c : Int32, fs[8]? = some (.int c) → 0 ≤ c.toInt ∧ c.toInt ≤ 1200 ∧ c.toInt ≤ v1_13.toInt ∧ (v1_13.toInt ≤ 0 ∨ 1 ≤ c.toInt)) → va_P (gD g) cl0 ws_15 H → va_D A ws_15 → va_S A s.heap H locs → lv_has ls 2 [(0, .ref h0), (1, .int v1_13)] → W p l e (headSpec (wt yX2_numberInstructions cX2_numberInstructions 2 none) ({ frames := 4, cells := 0, slots := 0, locals := 88 })).room s m ([.ref h0] : List Value).toArray below meth c H locs (0) (0) (MQ below (va_Qv (fun (u9 : va_W) => gP u9 h0 (fun fs => ∀ c : Int32, fs[8]? = some (.int c) → ∀ d : Int32, fs[2]? = some (.int d) → 0 ≤ c.toInt ∧ c.toInt ≤ 1200 ∧ (d.toInt ≤ 0 ∨ 1 ≤ c.toInt))) (gQ1 g [(2, 8)] [(2, 7)] none A ws) A) ([.ref h0] : List Value).toArray s (0) (0) A) (F0 m 15 ls []) := by
    intro n9
    induction n9 using Nat.strongRecOn with
    | ind n9 ih_15 =>
      intro v1_13 ws_15 H locs ls hm9 iv_14 E_16 Fr_17 hG jf_15_i hP hD hS hl
      subst hm9
      have aa_18 := a_r7_1
      have o_h0 := E_16.1 _ _ o_h0
      refine lv_iload_n hx hb dX2_numberInstructions_15 rfl (lv_at hl 1 rfl) ?_
      refine lv_aload_n hx hb dX2_numberInstructions_16 rfl (lv_at hl 0 rfl) ?_
      obtain ⟨fs9, hk_19, hq_19⟩ := ((gF.a (F' := [(2, 8)]) Fr_17 (fun _ h => h))) _ _ _ hk_8
      obtain ⟨r0_19, c1_19, c2_19, c3_19, c4_19, c5_19, c6_19, r7_19, n7_19, c8_19, c9_19, l10_19, c11_19, rfl, o_r0_19, a_r7_19, f2_19, f3_19, f4_19, -⟩ := (hG.1 _ _ _ _ hk_19).hX2 rfl
      obtain rfl := fe_i (hq_19 2 (by decide))
      obtain rfl := fe_r (hq_19 7 (by decide))
      have hn9 := gI_n hD ((E_16).1 _ _ aa_18) a_r7_19
      subst hn9
      have a_r7_1 := a_r7_19
      have kq_20 := jf_15_i _ _ _ hk_19 _ rfl
      refine va_get (D := gD g) (ci := 2) (v := .int c2_1) (C := RX2) (T := TX2) (N := 12) hx hb hts inX2 hown hK hP k_1 hk_19 rfl 2 (by decide) (hts _ kw_716) (fun _ h9 => h9) rfl dX2_numberInstructions_17 ?_
      have J_67 : ∀  (H : Heap) (locs : List Loc) (ls : Array Slot), gP ws_15 h0 (fun fs => ∀ c : Int32, fs[8]? = some (.int c) → ∀ d : Int32, fs[2]? = some (.int d) → 0 ≤ c.toInt ∧ c.toInt ≤ 1200 ∧ (d.toInt ≤ 0 ∨ 1 ≤ c.toInt)) → va_P (gD g) cl0 ws_15 H → va_D A ws_15 → va_S A s.heap H locs → lv_has ls 2 [(0, .ref h0)] → W p l e (headSpec (wt yX2_numberInstructions cX2_numberInstructions 2 none) ({ frames := 4, cells := 0, slots := 0, locals := 88 })).room s m ([.ref h0] : List Value).toArray below meth c H locs (0) (0) (MQ below (va_Qv (fun (u9 : va_W) => gP u9 h0 (fun fs => ∀ c : Int32, fs[8]? = some (.int c) → ∀ d : Int32, fs[2]? = some (.int d) → 0 ≤ c.toInt ∧ c.toInt ≤ 1200 ∧ (d.toInt ≤ 0 ∨ 1 ≤ c.toInt))) (gQ1 g [(2, 8)] [(2, 7)] none A ws) A) ([.ref h0] : List Value).toArray s (0) (0) A) (F0 m 67 ls []) := by
        intro  H locs ls  jf_67_i hP hD hS hl
        refine lv_aload_n hx hb dX2_numberInstructions_67 rfl (lv_at hl 0 rfl) ?_
        obtain ⟨k_23, fs9, hk_23⟩ := gC_of o_h0
        obtain ⟨r0_23, c1_23, c2_23, c3_23, c4_23, c5_23, c6_23, r7_23, n7_23, c8_23, c9_23, l10_23, c11_23, rfl, o_r0_23, a_r7_23, f2_23, f3_23, f4_23, -⟩ := (hG.1 _ _ _ _ hk_23).hX2 rfl
        have kq_24 := jf_15_i _ _ _ hk_23 _ rfl
        have kq_25 := jf_67_i _ _ _ hk_23 _ rfl _ rfl
        refine va_get (D := gD g) (ci := 2) (v := .int c2_23) (C := RX2) (T := TX2) (N := 12) hx hb hts inX2 hown hK hP k_23 hk_23 rfl 2 (by decide) (hts _ kw_716) (fun _ h9 => h9) rfl dX2_numberInstructions_68 ?_
        have J_99 : ∀ (ws_26 : va_W) (H : Heap) (locs : List Loc) (ls : Array Slot), gE ws_15 ws_26 → gF [] [(2, 7)] none ws_15 ws_26 → Good g ws_26 → gP ws_26 h0 (fun fs => ∀ c : Int32, fs[8]? = some (.int c) → ∀ d : Int32, fs[2]? = some (.int d) → 0 ≤ c.toInt ∧ c.toInt ≤ 1200 ∧ (d.toInt ≤ 0 ∨ 1 ≤ c.toInt)) → va_P (gD g) cl0 ws_26 H → va_D A ws_26 → va_S A s.heap H locs → lv_has ls 2 [] → W p l e (headSpec (wt yX2_numberInstructions cX2_numberInstructions 2 none) ({ frames := 4, cells := 0, slots := 0, locals := 88 })).room s m ([.ref h0] : List Value).toArray below meth c H locs (0) (0) (MQ below (va_Qv (fun (u9 : va_W) => gP u9 h0 (fun fs => ∀ c : Int32, fs[8]? = some (.int c) → ∀ d : Int32, fs[2]? = some (.int d) → 0 ≤ c.toInt ∧ c.toInt ≤ 1200 ∧ (d.toInt ≤ 0 ∨ 1 ≤ c.toInt))) (gQ1 g [(2, 8)] [(2, 7)] none A ws) A) ([.ref h0] : List Value).toArray s (0) (0) A) (F0 m 99 ls []) := by
          intro ws_26 H locs ls  E_27 Fr_28 hG jf_99_i hP hD hS hl
          have aa_29 := a_r7_23
          have o_h0 := E_27.1 _ _ o_h0
          refine W.widen (k := 0) (n := 0) (Nat.le_of_ble_eq_true rfl) (Nat.le_of_ble_eq_true rfl) ?_
          obtain ⟨fs9, hk_30, hq_30⟩ := ((gF.a (F' := []) Fr_28 (fun _ h => h))) _ _ _ hk_23
          obtain ⟨r0_30, c1_30, c2_30, c3_30, c4_30, c5_30, c6_30, r7_30, n7_30, c8_30, c9_30, l10_30, c11_30, rfl, o_r0_30, a_r7_30, f2_30, f3_30, f4_30, -⟩ := (hG.1 _ _ _ _ hk_30).hX2 rfl
          obtain rfl := fe_i (hq_30 2 (by decide))
          obtain rfl := fe_r (hq_30 7 (by decide))
          have hn9 := gI_n hD ((E_27).1 _ _ aa_29) a_r7_30
          subst hn9
          have a_r7_23 := a_r7_30
          obtain rfl := fe_i (hq_30 8 (by decide))
          have kq_31 := jf_99_i _ _ _ hk_30 _ rfl _ rfl
          exact W.vret hx hb hr (fun t9 ht9 hW9 => ⟨⟨ws_26, rfl, (gP_of hD hk_30 (fun q90 e90 q91 e91 => by cases e90; cases e91; exact (by have q_f4_23 := f4_23; have q_kq_24 := kq_24; have q_kq_25 := kq_25; have q_kq_31 := kq_31; have q_iv_14 := iv_14; have q_kq_20 := kq_20; have g_c2_23 := i_rg c2_23; have g_c8_19 := i_rg c8_19; have g_c8_23 := i_rg c8_23; have g_v1_13 := i_rg v1_13; omega))), ⟨(E_3.tr (E_11.tr (E_16.tr E_27))), (gF.tr (gF.mo (F' := [(2, 8)]) (C' := [(2, 7)]) (S' := none) Fr_4 (fun _ h => absurd h List.not_mem_nil) (fun _ h => h) (Or.inr rfl)) (gF.tr (gF.mo (F' := [(2, 8)]) (C' := [(2, 7)]) (S' := none) Fr_12 (fun _ h => h) (fun _ h => absurd h List.not_mem_nil) (Or.inl rfl)) (gF.tr Fr_17 (gF.mo (F' := [(2, 8)]) (C' := [(2, 7)]) (S' := none) Fr_28 (fun _ h => absurd h List.not_mem_nil) (fun _ h => h) (Or.inr rfl))))), hG, by rw [ht9]; exact hP, hD⟩⟩, hS.F ht9⟩) hS.2.2 dX2_numberInstructions_99
        refine lv_if_lt (tgt := 99) hx hb dX2_numberInstructions_71 (by decide) (fun c_32 => ?_) (fun c_32 => ?_)
        · exact J_99 ws_15 H locs ls (gE.rf) (gF.rf) hG (gP_of hD hk_23 (fun q90 e90 q91 e91 => by cases e90; cases e91; exact (by have e0 : (0 : Int32).toInt = 0 := (by decide); have q_f4_23 := f4_23; have q_kq_24 := kq_24; have q_kq_25 := kq_25; have q_c_32 := i_lt c_32; have q_iv_14 := iv_14; have q_kq_20 := kq_20; have g_c2_23 := i_rg c2_23; have g_c8_19 := i_rg c8_19; have g_c8_23 := i_rg c8_23; have g_v1_13 := i_rg v1_13; omega))) hP hD hS (lv_sub hl [] rfl)
        · refine lv_aload_n hx hb dX2_numberInstructions_74 rfl (lv_at hl 0 rfl) ?_
          refine va_get (D := gD g) (ci := 2) (v := .int c2_23) (C := RX2) (T := TX2) (N := 12) hx hb hts inX2 hown hK hP k_23 hk_23 rfl 2 (by decide) (hts _ kw_716) (fun _ h9 => h9) rfl dX2_numberInstructions_75 ?_
          refine lv_aload_n hx hb dX2_numberInstructions_78 rfl (lv_at hl 0 rfl) ?_
          refine va_get (D := gD g) (ci := 2) (v := .ref r7_23) (C := RX2) (T := TX2) (N := 12) hx hb hts inX2 hown hK hP k_23 hk_23 rfl 7 (by decide) (hts _ kw_711) (fun _ h9 => h9) rfl dX2_numberInstructions_79 ?_
          obtain ⟨k_33, f_33, hk_33⟩ := gI_of a_r7_23
          obtain ⟨z_34, ez_34⟩ : ∃ z : Int32, Int32.ofNat n7_23 = z := ⟨_, rfl⟩
          refine va_alen (v := z_34) hx hb hK hP k_33 1 hk_33 rfl ez_34 dX2_numberInstructions_82 ?_
          refine lv_icmp_ge (tgt := 99) hx hb dX2_numberInstructions_83 (by decide) (fun c_35 => ?_) (fun c_35 => ?_)
          · exact J_99 ws_15 H locs ls (gE.rf) (gF.rf) hG (gP_of hD hk_23 (fun q90 e90 q91 e91 => by cases e90; cases e91; exact (by have e0 : (0 : Int32).toInt = 0 := (by decide); have q_f4_23 := f4_23; have q_kq_24 := kq_24; have q_kq_25 := kq_25; have q_c_32 := i_nlt c_32; have q_c_35 := i_le c_35; have q_iv_14 := iv_14; have q_kq_20 := kq_20; have q_z_34 := i_len ez_34 f2_23; have q_f2_23 := f2_23; have q_f3_23 := f3_23; have g_c2_23 := i_rg c2_23; have g_c8_19 := i_rg c8_19; have g_c8_23 := i_rg c8_23; have g_v1_13 := i_rg v1_13; have g_z_34 := i_rg z_34; omega))) hP hD hS (lv_sub hl [] rfl)
          · refine lv_aload_n hx hb dX2_numberInstructions_86 rfl (lv_at hl 0 rfl) ?_
            refine va_get (D := gD g) (ci := 2) (v := .ref r7_23) (C := RX2) (T := TX2) (N := 12) hx hb hts inX2 hown hK hP k_23 hk_23 rfl 7 (by decide) (hts _ kw_711) (fun _ h9 => h9) rfl dX2_numberInstructions_87 ?_
            refine lv_aload_n hx hb dX2_numberInstructions_90 rfl (lv_at hl 0 rfl) ?_
            refine va_get (D := gD g) (ci := 2) (v := .int c2_23) (C := RX2) (T := TX2) (N := 12) hx hb hts inX2 hown hK hP k_23 hk_23 rfl 2 (by decide) (hts _ kw_716) (fun _ h9 => h9) rfl dX2_numberInstructions_91 ?_
            refine lv_aload_n hx hb dX2_numberInstructions_94 rfl (lv_at hl 0 rfl) ?_
            refine va_get (D := gD g) (ci := 2) (v := .int c8_23) (C := RX2) (T := TX2) (N := 12) hx hb hts inX2 hown hK hP k_23 hk_23 rfl 8 (by decide) (hts _ kw_758) (fun _ h9 => h9) rfl dX2_numberInstructions_95 ?_
            have hC9 : hol ws_15 r7_23 [(2, 7)] := (hol_u hG.u hk_23 (j := 7) rfl a_r7_23 (by decide))
            have hS9 : holS ws_15 r7_23 none := holS_n
            refine va_iast hx hb hK hP hD hS k_33 1 hk_33 rfl (i_in2 (by have e0 : (0 : Int32).toInt = 0 := (by decide); have q_f2_23 := f2_23; have q_f3_23 := f3_23; have q_f4_23 := f4_23; have q_kq_25 := kq_25; have q_c_32 := i_nlt c_32; have q_z_34 := i_len ez_34 f2_23; have q_c_35 := i_nle c_35; have q_kq_24 := kq_24; have q_iv_14 := iv_14; have q_kq_20 := kq_20; have g_c2_23 := i_rg c2_23; have g_c8_19 := i_rg c8_19; have g_c8_23 := i_rg c8_23; have g_v1_13 := i_rg v1_13; have g_z_34 := i_rg z_34; omega)) dX2_numberInstructions_98 (fun H locs hP hD hS => ?_)
            obtain ⟨ws_36, e_ws_36⟩ : ∃ z, z = ws_15.set k_33 (r7_23, .inl (g.cI, n7_23, .inl (upd f_33 (c2_23 : Int32).toNatClampNeg c8_23))) := ⟨_, rfl⟩
            have hP : va_P (gD g) cl0 ws_36 H := by rw [e_ws_36]; exact hP
            have hD : va_D A ws_36 := by rw [e_ws_36]; exact hD
            have E_37 : gE ws_15 ws_36 := gE_ari e_ws_36 hk_33
            have hG : Good g ws_36 := Good_arI e_ws_36 hk_33 hG
            have Fr_38 : gF [] [(2, 7)] none ws_15 ws_36 := gF_ar e_ws_36 hk_33 rfl hC9 hS9
            have hk_23 := gset_arO e_ws_36 hk_33 hk_23
            have o_h0 := E_37.1 _ _ o_h0
            have o_r0_23 := E_37.1 _ _ o_r0_23
            have a_r7_23 := E_37.1 _ _ a_r7_23
            exact J_99 ws_36 H locs ls (E_37) (Fr_38) hG (gP_of hD hk_23 (fun q90 e90 q91 e91 => by cases e90; cases e91; exact (by have e0 : (0 : Int32).toInt = 0 := (by decide); have q_f4_23 := f4_23; have q_kq_24 := kq_24; have q_kq_25 := kq_25; have q_c_32 := i_nlt c_32; have q_c_35 := i_nle c_35; have q_iv_14 := iv_14; have q_kq_20 := kq_20; have q_z_34 := i_len ez_34 f2_23; have q_f2_23 := f2_23; have q_f3_23 := f3_23; have g_c2_23 := i_rg c2_23; have g_c8_19 := i_rg c8_19; have g_c8_23 := i_rg c8_23; have g_v1_13 := i_rg v1_13; have g_z_34 := i_rg z_34; omega))) hP hD hS (lv_sub hl [] rfl)
      refine lv_icmp_ge (tgt := 67) hx hb dX2_numberInstructions_20 (by decide) (fun c_39 => ?_) (fun c_39 => ?_)
      · exact J_67  H locs ls (gP_of hD hk_19 (fun q90 e90 q91 e91 => by cases e90; cases e91; exact (by have q_f4_1 := f4_1; have q_kq_20 := kq_20; have q_c_39 := i_le c_39; have q_iv_14 := iv_14; have g_c2_1 := i_rg c2_1; have g_c8_19 := i_rg c8_19; have g_v1_13 := i_rg v1_13; omega))) hP hD hS (lv_sub hl [0] rfl)
      · refine lv_iload_n hx hb dX2_numberInstructions_23 rfl (lv_at hl 1 rfl) ?_
        refine lv_aload_n hx hb dX2_numberInstructions_24 rfl (lv_at hl 0 rfl) ?_
        refine va_get (D := gD g) (ci := 2) (v := .ref r7_1) (C := RX2) (T := TX2) (N := 12) hx hb hts inX2 hown hK hP k_1 hk_19 rfl 7 (by decide) (hts _ kw_711) (fun _ h9 => h9) rfl dX2_numberInstructions_25 ?_
        obtain ⟨k_40, f_40, hk_40⟩ := gI_of a_r7_1
        obtain ⟨z_41, ez_41⟩ : ∃ z : Int32, Int32.ofNat n7_1 = z := ⟨_, rfl⟩
        refine va_alen (v := z_41) hx hb hK hP k_40 1 hk_40 rfl ez_41 dX2_numberInstructions_28 ?_
        refine lv_icmp_ge (tgt := 67) hx hb dX2_numberInstructions_29 (by decide) (fun c_42 => ?_) (fun c_42 => ?_)
        · exact J_67  H locs ls (gP_of hD hk_19 (fun q90 e90 q91 e91 => by cases e90; cases e91; exact (by have q_f4_1 := f4_1; have q_kq_20 := kq_20; have q_c_39 := i_nle c_39; have q_iv_14 := iv_14; have q_c_42 := i_le c_42; have q_z_41 := i_len ez_41 f2_19; have q_f2_1 := f2_1; have q_f3_1 := f3_1; have g_c2_1 := i_rg c2_1; have g_c8_19 := i_rg c8_19; have g_v1_13 := i_rg v1_13; have g_z_41 := i_rg z_41; omega))) hP hD hS (lv_sub hl [0] rfl)
        · refine lv_aload_n hx hb dX2_numberInstructions_32 rfl (lv_at hl 0 rfl) ?_
          refine va_get (D := gD g) (ci := 2) (v := .ref r7_1) (C := RX2) (T := TX2) (N := 12) hx hb hts inX2 hown hK hP k_1 hk_19 rfl 7 (by decide) (hts _ kw_711) (fun _ h9 => h9) rfl dX2_numberInstructions_33 ?_
          refine lv_iload_n hx hb dX2_numberInstructions_36 rfl (lv_at hl 1 rfl) ?_
          refine lv_aload_n hx hb dX2_numberInstructions_37 rfl (lv_at hl 0 rfl) ?_
          refine va_get (D := gD g) (ci := 2) (v := .int c8_19) (C := RX2) (T := TX2) (N := 12) hx hb hts inX2 hown hK hP k_1 hk_19 rfl 8 (by decide) (hts _ kw_758) (fun _ h9 => h9) rfl dX2_numberInstructions_38 ?_
          have hC9 : hol ws_15 r7_1 [(2, 7)] := (hol_u hG.u hk_19 (j := 7) rfl a_r7_1 (by decide))
          have hS9 : holS ws_15 r7_1 none := holS_n
          refine va_iast hx hb hK hP hD hS k_40 1 hk_40 rfl (i_in2 (by have q_f2_1 := f2_1; have q_f3_1 := f3_1; have q_iv_14 := iv_14; have q_kq_20 := kq_20; have q_c_39 := i_nle c_39; have q_z_41 := i_len ez_41 f2_19; have q_c_42 := i_nle c_42; have q_f4_1 := f4_1; have g_c2_1 := i_rg c2_1; have g_c8_19 := i_rg c8_19; have g_v1_13 := i_rg v1_13; have g_z_41 := i_rg z_41; omega)) dX2_numberInstructions_41 (fun H locs hP hD hS => ?_)
          obtain ⟨ws_43, e_ws_43⟩ : ∃ z, z = ws_15.set k_40 (r7_1, .inl (g.cI, n7_1, .inl (upd f_40 (v1_13 : Int32).toNatClampNeg c8_19))) := ⟨_, rfl⟩
          have hP : va_P (gD g) cl0 ws_43 H := by rw [e_ws_43]; exact hP
          have hD : va_D A ws_43 := by rw [e_ws_43]; exact hD
          have E_44 : gE ws_15 ws_43 := gE_ari e_ws_43 hk_40
          have hG : Good g ws_43 := Good_arI e_ws_43 hk_40 hG
          have Fr_45 : gF [] [(2, 7)] none ws_15 ws_43 := gF_ar e_ws_43 hk_40 rfl hC9 hS9
          have hk_19 := gset_arO e_ws_43 hk_40 hk_19
          have o_h0 := E_44.1 _ _ o_h0
          have o_r0_19 := E_44.1 _ _ o_r0_19
          have a_r7_1 := E_44.1 _ _ a_r7_1
          refine lv_aload_n hx hb dX2_numberInstructions_42 rfl (lv_at hl 0 rfl) ?_
          refine lv_dup hx hb dX2_numberInstructions_43 rfl ?_
          refine va_get (D := gD g) (ci := 2) (v := .int c8_19) (C := RX2) (T := TX2) (N := 12) hx hb hts inX2 hown hK hP k_1 hk_19 rfl 8 (by decide) (hts _ kw_758) (fun _ h9 => h9) rfl dX2_numberInstructions_44 ?_
          refine lv_iconst (v := 1) hx hb dX2_numberInstructions_47 (by decide) ?_
          refine lv_iadd hx hb dX2_numberInstructions_48 ?_
          refine lv_topi (fun z_46 ez_46 => ?_)
          have hV9 : okv ws_43 2 8 (.int z_46) := okv_i
          refine va_put (D := gD g) (ci := 2) (v := .int z_46) (ty := .int) (C := RX2) (T := TX2) (N := 12) hx hb hts inX2 tyX2 tyX2_ok nmX2 hown hK hP hD hS k_1 hk_19 rfl 8 (by decide) (hts _ kw_758) (fun _ h9 => h9) rfl (by decide +kernel) rfl rfl (Nat.le_of_ble_eq_true rfl) dX2_numberInstructions_49 (fun H locs hP hD hS => ?_)
          have hi_47 : invX2 g ws_43 h0 [.ref r0_19, .int c1_19, .int c2_1, .int c3_19, .int c4_19, .int c5_19, .int c6_19, .ref r7_1, .int z_46, .int c9_19, .long l10_19, .int c11_19] := ⟨r0_19, (c1_19), (c2_1), (c3_19), (c4_19), (c5_19), (c6_19), r7_1, (n7_1), (z_46), (c9_19), (l10_19), (c11_19), rfl, o_r0_19, a_r7_1, f2_19, f3_19, f4_19, trivial⟩
          obtain ⟨ws_48, e_ws_48⟩ : ∃ z, z = ws_43.set k_1 (h0, .inr (2, [.ref r0_19, .int c1_19, .int c2_1, .int c3_19, .int c4_19, .int c5_19, .int c6_19, .ref r7_1, .int z_46, .int c9_19, .long l10_19, .int c11_19])) := ⟨_, rfl⟩
          have hP : va_P (gD g) cl0 ws_48 H := by rw [e_ws_48]; exact hP
          have hD : va_D A ws_48 := by rw [e_ws_48]; exact hD
          have E_49 : gE ws_43 ws_48 := gE_set e_ws_48 hk_19 (cw_o (fi := 8) (v := .int z_46) rfl (by decide))
          have hG : Good g ws_48 := Good_set (fi := 8) (v := .int z_46) e_ws_48 hk_19 E_49 rfl hV9 hG (ivX2 hi_47)
          have Fr_50 : gF [(2, 8)] [] (some h0) ws_43 ws_48 := gF_put (fi := 8) (v := .int z_46) e_ws_48 hk_19 rfl (by decide)
          have hkN := gset_self e_ws_48 hk_19
          have hk_19 := hkN
          have o_h0 := E_49.1 _ _ o_h0
          have o_r0_19 := E_49.1 _ _ o_r0_19
          have a_r7_1 := E_49.1 _ _ a_r7_1
          refine lv_iload_n hx hb dX2_numberInstructions_52 rfl (lv_at hl 1 rfl) ?_
          refine lv_iconst (v := 1) hx hb dX2_numberInstructions_53 (by decide) ?_
          refine lv_aload_n hx hb dX2_numberInstructions_54 rfl (lv_at hl 0 rfl) ?_
          refine lv_iload_n hx hb dX2_numberInstructions_55 rfl (lv_at hl 1 rfl) ?_
          have hFc := gfree hD hS hA
          refine va_calli (va_runV (As := [.int v1_13]) (rest := [.int 1, .int v1_13]) ⟨hx, hb, hml, hown, hts⟩ (m_X2_lengthAt l g H.size ws_48 h0 (v1_13) hG o_h0) (cwV 1 hts (gd_V kw_717 kw_723 kw_724 kw_389 kw_722) rfl rfl rfl (by decide +kernel) ⟨Nat.le_of_ble_eq_true rfl, Nat.le_of_ble_eq_true rfl⟩) ⟨gblind, va_recv hK hP (ci := 2) (q0 := k_1) rfl hk_19, fun U hU hW9 => gmk hU hW9 hP hK hD hex hE hS hFc⟩ rfl rfl hl.1 rfl (lv_room (Nat.le_of_ble_eq_true rfl)) dX2_numberInstructions_56 ⟨Nat.le_of_ble_eq_true rfl, Nat.le_of_ble_eq_true rfl⟩) hS (fun q _ h => hFc q h) hFc (fun r_51 u9 t9 H1 locs ht9 hvm9 hw9 hB9 hz9 hk9 hS => ?_)
          have hP : va_P (gD g) cl0 ws_48 H1 := by rw [← ht9]; exact hB9.1
          have h_r_51 := hw9
          clear hB9 hz9 hk9 hvm9 ht9 hw9
          generalize H1 = H at hP hS ⊢
          refine va_mmax hx hb (by rw [hml]; exact hl.1.symm) hown (hts _ kw_759) (hts _ kw_1747) (hts _ kw_1748) (hts _ kw_1746) (Nat.le_of_ble_eq_true rfl) (Nat.le_of_ble_eq_true rfl) (Nat.le_of_ble_eq_true rfl) (Nat.le_of_ble_eq_true rfl) dX2_numberInstructions_59 ?_
          refine lv_topi (fun z_52 ez_52 => ?_)
          refine lv_iadd hx hb dX2_numberInstructions_62 ?_
          refine lv_topi (fun z_53 ez_53 => ?_)
          refine lv_istore_n (lv' := [(1, .int z_53), (0, .ref h0)]) hx hb dX2_numberInstructions_63 rfl hl (by decide) rfl (fun ls hl => ?_)
          refine lv_goto (tgt := 15) hx hb dX2_numberInstructions_64 (by decide) ?_
          exact ih_15 _ (by have e1 : (1 : Int32).toInt = 1 := (by decide); obtain ⟨u_z_53, q_z_53⟩ := i_add ez_53; have q_iv_14 := iv_14; have q_kq_20 := kq_20; have q_c_39 := i_nle c_39; have q_c_42 := i_nle c_42; have q_r_51 := h_r_51; have q_z_52 := i_max ez_52; have q_f4_1 := f4_1; have q_z_41 := i_len ez_41 f2_19; obtain ⟨u_z_46, q_z_46⟩ := i_add ez_46; have q_f2_1 := f2_1; have q_f3_1 := f3_1; have g_c2_1 := i_rg c2_1; have g_c8_19 := i_rg c8_19; have g_r_51 := i_rg r_51; have g_v1_13 := i_rg v1_13; have g_z_41 := i_rg z_41; have g_z_46 := i_rg z_46; have g_z_52 := i_rg z_52; have g_z_53 := i_rg z_53; omega) (z_53) ws_48 H locs ls rfl (by have e1 : (1 : Int32).toInt = 1 := (by decide); obtain ⟨u_z_53, q_z_53⟩ := i_add ez_53; have q_iv_14 := iv_14; have q_kq_20 := kq_20; have q_c_39 := i_nle c_39; have q_c_42 := i_nle c_42; have q_r_51 := h_r_51; have q_z_52 := i_max ez_52; have q_f4_1 := f4_1; have q_z_41 := i_len ez_41 f2_19; obtain ⟨u_z_46, q_z_46⟩ := i_add ez_46; have q_f2_1 := f2_1; have q_f3_1 := f3_1; have g_c2_1 := i_rg c2_1; have g_c8_19 := i_rg c8_19; have g_r_51 := i_rg r_51; have g_v1_13 := i_rg v1_13; have g_z_41 := i_rg z_41; have g_z_46 := i_rg z_46; have g_z_52 := i_rg z_52; have g_z_53 := i_rg z_53; omega) ((E_16.tr (E_44.tr E_49))) ((gF.tr Fr_17 (gF.tr (gF.mo (F' := [(2, 8)]) (C' := [(2, 7)]) (S' := none) Fr_45 (fun _ h => absurd h List.not_mem_nil) (fun _ h => h) (Or.inr rfl)) (gF.mo (F' := [(2, 8)]) (C' := [(2, 7)]) (S' := none) Fr_50 (fun _ h => h) (fun _ h => absurd h List.not_mem_nil) (Or.inl rfl))))) hG (gP_of hD hk_19 (fun q90 e90 => by cases e90; exact (by have e1 : (1 : Int32).toInt = 1 := (by decide); obtain ⟨u_z_46, q_z_46⟩ := i_add ez_46; obtain ⟨u_z_53, q_z_53⟩ := i_add ez_53; have q_iv_14 := iv_14; have q_kq_20 := kq_20; have q_c_39 := i_nle c_39; have q_c_42 := i_nle c_42; have q_r_51 := h_r_51; have q_z_52 := i_max ez_52; have q_f4_1 := f4_1; have q_z_41 := i_len ez_41 f2_19; have q_f2_1 := f2_1; have q_f3_1 := f3_1; have g_c2_1 := i_rg c2_1; have g_c8_19 := i_rg c8_19; have g_r_51 := i_rg r_51; have g_v1_13 := i_rg v1_13; have g_z_41 := i_rg z_41; have g_z_46 := i_rg z_46; have g_z_52 := i_rg z_52; have g_z_53 := i_rg z_53; omega))) hP hD hS (lv_sub hl [1, 0] rfl)
  exact J_15 _ (0) ws_10 H locs ls rfl (by have e0 : (0 : Int32).toInt = 0 := (by decide); omega) (gE.rf) (gF.rf) hG (gP_of hD hk_8 (fun q90 e90 => by cases e90; exact (by have e0 : (0 : Int32).toInt = 0 := (by decide); omega))) hP hD hS (lv_sub hl [1, 0] rfl)
set_option maxHeartbeats 1000000 in
set_option maxRecDepth 100000 in
theorem m_X2_pointsWell (l : Launch) (g : Gm) (sz : Nat) (ws : va_W) (h0 : Nat) (hG : Good g ws) (o_h0 : gC ws h0 2) : Met l yX2_pointsWell (wt yX2_pointsWell cX2_pointsWell 1 (some .boolean)) ({ frames := 4, cells := 0, slots := 0, locals := 87 }) (va_Pc [.ref h0] (st_G g sz ws)) (va_Qi (fun (r : Int32) (u9 : Unit) => r = 0 ∨ r = 1) (gQ0 g (va_A ws sz) ws) (va_A ws sz)) (0) (0) (va_A ws sz) := by
  refine Met.ofW (cc := cX2_pointsWell) (maxL := 1) (ret := (some .boolean)) (by decide) rfl ?_
  intro p e s m args below meth c s₁ B hml hv
  obtain ⟨rfl, hsz, hP, hK, hD0, hex, hE⟩ := hv
  have hx := B.exec
  have hb := B.bytes
  have hr := B.returns
  have hts0 := atoms_spec (ws := wt yX2_pointsWell cX2_pointsWell 1 (some .boolean)) B.pre
  have hts : ∀ w ∈ tb, w.before _ s = true := fun w h => hts0 w (List.mem_cons_of_mem _ h)
  have hown : s.vm.findClass RX2 = some m.cls := findClass_of_methodNamed B.named
  subst hsz
  have hD := hD0.self (sz := s.heap.size)
  generalize hAe : va_A ws s.heap.size = A at hD hE ⊢
  have hA : ∀ q : Nat, s.heap.size ≤ q → A q := fun q h => by rw [← hAe]; exact Or.inr h
  have hS : va_S A s.heap s.heap [] := va_S.rf
  have hl := lv_entry ([.ref h0]) (n := 1) (Nat.le_of_ble_eq_true rfl)
  rw [lg_entry_eq]
  generalize (lg_sl ([.ref h0]) ++ List.replicate (1 - (lg_sl ([.ref h0])).length) Slot.unset).toArray = ls at hl ⊢
  have hl : lv_has ls 1 [(0, .ref h0)] := hl
  refine lv_aload_n hx hb dX2_pointsWell_0 rfl (lv_at hl 0 rfl) ?_
  obtain ⟨k_1, fs9, hk_1⟩ := gC_of o_h0
  obtain ⟨r0_1, c1_1, c2_1, c3_1, c4_1, c5_1, c6_1, r7_1, n7_1, c8_1, c9_1, l10_1, c11_1, rfl, o_r0_1, a_r7_1, f2_1, f3_1, f4_1, -⟩ := (hG.1 _ _ _ _ hk_1).hX2 rfl
  refine va_get (D := gD g) (ci := 2) (v := .int c9_1) (C := RX2) (T := TX2) (N := 12) hx hb hts inX2 hown hK hP k_1 hk_1 rfl 9 (by decide) (hts _ kw_619) (fun _ h9 => h9) rfl dX2_pointsWell_1 ?_
  have hFc := gfree hD hS hA
  refine va_calli (va_runS (As := [.int c9_1]) (rest := []) ⟨hx, hb, hml, hown, hts⟩ (m_X6_isJump l g s.heap.size ws (c9_1) hG ) (va_cwS 1 hts (gd_S kw_629 kw_1225 kw_1207 kw_1224) rfl rfl rfl (by decide +kernel) ⟨Nat.le_of_ble_eq_true rfl, Nat.le_of_ble_eq_true rfl⟩) ⟨gblind, fun U hU hW9 => gmk hU hW9 hP hK hD hex hE hS hFc⟩ rfl rfl hl.1 rfl (lv_room (Nat.le_of_ble_eq_true rfl)) dX2_pointsWell_4 ⟨Nat.le_of_ble_eq_true rfl, Nat.le_of_ble_eq_true rfl⟩) hS (fun q _ h => hFc q h) hFc (fun r_2 u9 t9 H1 locs ht9 hvm9 hw9 hB9 hz9 hk9 hS => ?_)
  have hP : va_P (gD g) cl0 ws H1 := by rw [← ht9]; exact hB9.1
  have hz_r_2 : r_2 = 0 ∨ r_2 = 1 := hw9
  clear hB9 hz9 hk9 hvm9 ht9 hw9
  generalize H1 = H at hP hS ⊢
  refine lv_if_eq (tgt := 19) hx hb dX2_pointsWell_7 (by decide) (fun c_3 => ?_) (fun c_3 => ?_)
  · refine lv_aload_n hx hb dX2_pointsWell_19 rfl (lv_at hl 0 rfl) ?_
    refine va_get (D := gD g) (ci := 2) (v := .int c9_1) (C := RX2) (T := TX2) (N := 12) hx hb hts inX2 hown hK hP k_1 hk_1 rfl 9 (by decide) (hts _ kw_619) (fun _ h9 => h9) rfl dX2_pointsWell_20 ?_
    have hFc := gfree hD hS hA
    refine va_calli (va_runS (As := [.int c9_1]) (rest := []) ⟨hx, hb, hml, hown, hts⟩ (m_X6_isSwitch l g H.size ws (c9_1) hG ) (va_cwS 1 hts (gd_S kw_630 kw_1233 kw_1207 kw_1232) rfl rfl rfl (by decide +kernel) ⟨Nat.le_of_ble_eq_true rfl, Nat.le_of_ble_eq_true rfl⟩) ⟨gblind, fun U hU hW9 => gmk hU hW9 hP hK hD hex hE hS hFc⟩ rfl rfl hl.1 rfl (lv_room (Nat.le_of_ble_eq_true rfl)) dX2_pointsWell_23 ⟨Nat.le_of_ble_eq_true rfl, Nat.le_of_ble_eq_true rfl⟩) hS (fun q _ h => hFc q h) hFc (fun r_4 u9 t9 H1 locs ht9 hvm9 hw9 hB9 hz9 hk9 hS => ?_)
    have hP : va_P (gD g) cl0 ws H1 := by rw [← ht9]; exact hB9.1
    have hz_r_4 : r_4 = 0 ∨ r_4 = 1 := hw9
    clear hB9 hz9 hk9 hvm9 ht9 hw9
    generalize H1 = H at hP hS ⊢
    refine lv_if_eq (tgt := 34) hx hb dX2_pointsWell_26 (by decide) (fun c_5 => ?_) (fun c_5 => ?_)
    · refine lv_aload_n hx hb dX2_pointsWell_34 rfl (lv_at hl 0 rfl) ?_
      refine va_get (D := gD g) (ci := 2) (v := .int c9_1) (C := RX2) (T := TX2) (N := 12) hx hb hts inX2 hown hK hP k_1 hk_1 rfl 9 (by decide) (hts _ kw_619) (fun _ h9 => h9) rfl dX2_pointsWell_35 ?_
      have hFc := gfree hD hS hA
      refine va_calli (va_runS (As := [.int c9_1]) (rest := []) ⟨hx, hb, hml, hown, hts⟩ (m_X6_usesLocal l g H.size ws (c9_1) hG ) (va_cwS 1 hts (gd_S kw_693 kw_1260 kw_1207 kw_1259) rfl rfl rfl (by decide +kernel) ⟨Nat.le_of_ble_eq_true rfl, Nat.le_of_ble_eq_true rfl⟩) ⟨gblind, fun U hU hW9 => gmk hU hW9 hP hK hD hex hE hS hFc⟩ rfl rfl hl.1 rfl (lv_room (Nat.le_of_ble_eq_true rfl)) dX2_pointsWell_38 ⟨Nat.le_of_ble_eq_true rfl, Nat.le_of_ble_eq_true rfl⟩) hS (fun q _ h => hFc q h) hFc (fun r_6 u9 t9 H1 locs ht9 hvm9 hw9 hB9 hz9 hk9 hS => ?_)
      have hP : va_P (gD g) cl0 ws H1 := by rw [← ht9]; exact hB9.1
      have hz_r_6 : r_6 = 0 ∨ r_6 = 1 := hw9
      clear hB9 hz9 hk9 hvm9 ht9 hw9
      generalize H1 = H at hP hS ⊢
      refine lv_if_eq (tgt := 74) hx hb dX2_pointsWell_41 (by decide) (fun c_7 => ?_) (fun c_7 => ?_)
      · refine lv_aload_n hx hb dX2_pointsWell_74 rfl (lv_at hl 0 rfl) ?_
        refine va_get (D := gD g) (ci := 2) (v := .int c9_1) (C := RX2) (T := TX2) (N := 12) hx hb hts inX2 hown hK hP k_1 hk_1 rfl 9 (by decide) (hts _ kw_619) (fun _ h9 => h9) rfl dX2_pointsWell_75 ?_
        have K_78_212 : W p l e (headSpec (wt yX2_pointsWell cX2_pointsWell 1 (some .boolean)) ({ frames := 4, cells := 0, slots := 0, locals := 87 })).room s m ([.ref h0] : List Value).toArray below meth c H locs (0) (0) (MQ below (va_Qi (fun (r : Int32) (u9 : Unit) => r = 0 ∨ r = 1) (gQ0 g A ws) A) ([.ref h0] : List Value).toArray s (0) (0) A) (F0 m 212 ls []) := by
          refine lv_iconst (v := 1) hx hb dX2_pointsWell_212 (by decide) ?_
          refine W.widen (k := 0) (n := 0) (Nat.le_of_ble_eq_true rfl) (Nat.le_of_ble_eq_true rfl) ?_
          exact W.zret (v := 1) hx hb hr (nz (Or.inr rfl)) (fun t9 ht9 hW9 => ⟨⟨_, (), rfl, (Or.inr rfl), ⟨by rw [ht9]; exact hP, hD⟩⟩, hS.F ht9⟩) hS.2.2 dX2_pointsWell_213
        have K_78_128 : W p l e (headSpec (wt yX2_pointsWell cX2_pointsWell 1 (some .boolean)) ({ frames := 4, cells := 0, slots := 0, locals := 87 })).room s m ([.ref h0] : List Value).toArray below meth c H locs (0) (0) (MQ below (va_Qi (fun (r : Int32) (u9 : Unit) => r = 0 ∨ r = 1) (gQ0 g A ws) A) ([.ref h0] : List Value).toArray s (0) (0) A) (F0 m 128 ls []) := by
          refine lv_aload_n hx hb dX2_pointsWell_128 rfl (lv_at hl 0 rfl) ?_
          refine va_get (D := gD g) (ci := 2) (v := .ref r0_1) (C := RX2) (T := TX2) (N := 12) hx hb hts inX2 hown hK hP k_1 hk_1 rfl 0 (by decide) (hts _ kw_632) (fun _ h9 => h9) rfl dX2_pointsWell_129 ?_
          refine lv_aload_n hx hb dX2_pointsWell_132 rfl (lv_at hl 0 rfl) ?_
          refine va_get (D := gD g) (ci := 2) (v := .long l10_1) (C := RX2) (T := TX2) (N := 12) hx hb hts inX2 hown hK hP k_1 hk_1 rfl 10 (by decide) (hts _ kw_617) (fun _ h9 => h9) rfl dX2_pointsWell_133 ?_
          obtain ⟨z_8, ez_8⟩ : ∃ y : Int32, (l10_1 : Int64).toInt32 = y := ⟨_, rfl⟩
          refine lv_l2i (v := z_8) hx hb dX2_pointsWell_136 ez_8 ?_
          have hFc := gfree hD hS hA
          obtain ⟨k_9, fs_9, hk_9⟩ := gC_of o_r0_1
          refine va_calli (va_runV (As := [.int z_8]) (rest := []) ⟨hx, hb, hml, hown, hts⟩ (m_X7_tagOf l g H.size ws r0_1 (z_8) hG o_r0_1) (cwV 1 hts (gd_V kw_697 kw_1435 kw_1436 kw_710 kw_1434) rfl rfl rfl (by decide +kernel) ⟨Nat.le_of_ble_eq_true rfl, Nat.le_of_ble_eq_true rfl⟩) ⟨gblind, va_recv hK hP (ci := 6) (q0 := k_9) rfl hk_9, fun U hU hW9 => gmk hU hW9 hP hK hD hex hE hS hFc⟩ rfl rfl hl.1 rfl (lv_room (Nat.le_of_ble_eq_true rfl)) dX2_pointsWell_137 ⟨Nat.le_of_ble_eq_true rfl, Nat.le_of_ble_eq_true rfl⟩) hS (fun q _ h => hFc q h) hFc (fun r_10 u9 t9 H1 locs ht9 hvm9 hw9 hB9 hz9 hk9 hS => ?_)
          have hP : va_P (gD g) cl0 ws H1 := by rw [← ht9]; exact hB9.1
          clear hB9 hz9 hk9 hvm9 ht9 hw9
          generalize H1 = H at hP hS ⊢
          refine lv_iconst (v := 3) hx hb dX2_pointsWell_140 (by decide) ?_
          have J_149 : ∀ (t_11 : Int32) (H : Heap) (locs : List Loc) (ls : Array Slot), t_11 = 0 ∨ t_11 = 1 → va_P (gD g) cl0 ws H → va_D A ws → va_S A s.heap H locs → lv_has ls 1 [] → W p l e (headSpec (wt yX2_pointsWell cX2_pointsWell 1 (some .boolean)) ({ frames := 4, cells := 0, slots := 0, locals := 87 })).room s m ([.ref h0] : List Value).toArray below meth c H locs (0) (0) (MQ below (va_Qi (fun (r : Int32) (u9 : Unit) => r = 0 ∨ r = 1) (gQ0 g A ws) A) ([.ref h0] : List Value).toArray s (0) (0) A) (F0 m 149 ls [.int t_11]) := by
            intro t_11 H locs ls iv_12 hP hD hS hl
            have hz_t_11 := iv_12
            refine W.widen (k := 0) (n := 0) (Nat.le_of_ble_eq_true rfl) (Nat.le_of_ble_eq_true rfl) ?_
            exact W.zret (v := t_11) hx hb hr (nz hz_t_11) (fun t9 ht9 hW9 => ⟨⟨_, (), rfl, hz_t_11, ⟨by rw [ht9]; exact hP, hD⟩⟩, hS.F ht9⟩) hS.2.2 dX2_pointsWell_149
          refine lv_icmp_ne (tgt := 148) hx hb dX2_pointsWell_141 (by decide) (fun c_15 => ?_) (fun c_15 => ?_)
          · refine lv_iconst (v := 0) hx hb dX2_pointsWell_148 (by decide) ?_
            exact J_149 (0) H locs ls (Or.inl rfl) hP hD hS (lv_sub hl [] rfl)
          · refine lv_iconst (v := 1) hx hb dX2_pointsWell_144 (by decide) ?_
            refine lv_goto (tgt := 149) hx hb dX2_pointsWell_145 (by decide) ?_
            exact J_149 (1) H locs ls (Or.inr rfl) hP hD hS (lv_sub hl [] rfl)
        have K_78_150 : W p l e (headSpec (wt yX2_pointsWell cX2_pointsWell 1 (some .boolean)) ({ frames := 4, cells := 0, slots := 0, locals := 87 })).room s m ([.ref h0] : List Value).toArray below meth c H locs (0) (0) (MQ below (va_Qi (fun (r : Int32) (u9 : Unit) => r = 0 ∨ r = 1) (gQ0 g A ws) A) ([.ref h0] : List Value).toArray s (0) (0) A) (F0 m 150 ls []) := by
          refine lv_aload_n hx hb dX2_pointsWell_150 rfl (lv_at hl 0 rfl) ?_
          refine va_get (D := gD g) (ci := 2) (v := .ref r0_1) (C := RX2) (T := TX2) (N := 12) hx hb hts inX2 hown hK hP k_1 hk_1 rfl 0 (by decide) (hts _ kw_632) (fun _ h9 => h9) rfl dX2_pointsWell_151 ?_
          refine lv_aload_n hx hb dX2_pointsWell_154 rfl (lv_at hl 0 rfl) ?_
          refine va_get (D := gD g) (ci := 2) (v := .long l10_1) (C := RX2) (T := TX2) (N := 12) hx hb hts inX2 hown hK hP k_1 hk_1 rfl 10 (by decide) (hts _ kw_617) (fun _ h9 => h9) rfl dX2_pointsWell_155 ?_
          obtain ⟨z_16, ez_16⟩ : ∃ y : Int32, (l10_1 : Int64).toInt32 = y := ⟨_, rfl⟩
          refine lv_l2i (v := z_16) hx hb dX2_pointsWell_158 ez_16 ?_
          have hFc := gfree hD hS hA
          obtain ⟨k_17, fs_17, hk_17⟩ := gC_of o_r0_1
          refine va_calli (va_runV (As := [.int z_16]) (rest := []) ⟨hx, hb, hml, hown, hts⟩ (m_X7_tagOf l g H.size ws r0_1 (z_16) hG o_r0_1) (cwV 1 hts (gd_V kw_697 kw_1435 kw_1436 kw_710 kw_1434) rfl rfl rfl (by decide +kernel) ⟨Nat.le_of_ble_eq_true rfl, Nat.le_of_ble_eq_true rfl⟩) ⟨gblind, va_recv hK hP (ci := 6) (q0 := k_17) rfl hk_17, fun U hU hW9 => gmk hU hW9 hP hK hD hex hE hS hFc⟩ rfl rfl hl.1 rfl (lv_room (Nat.le_of_ble_eq_true rfl)) dX2_pointsWell_159 ⟨Nat.le_of_ble_eq_true rfl, Nat.le_of_ble_eq_true rfl⟩) hS (fun q _ h => hFc q h) hFc (fun r_18 u9 t9 H1 locs ht9 hvm9 hw9 hB9 hz9 hk9 hS => ?_)
          have hP : va_P (gD g) cl0 ws H1 := by rw [← ht9]; exact hB9.1
          clear hB9 hz9 hk9 hvm9 ht9 hw9
          generalize H1 = H at hP hS ⊢
          refine lv_iconst (v := 5) hx hb dX2_pointsWell_162 (by decide) ?_
          have J_171 : ∀ (t_19 : Int32) (H : Heap) (locs : List Loc) (ls : Array Slot), t_19 = 0 ∨ t_19 = 1 → va_P (gD g) cl0 ws H → va_D A ws → va_S A s.heap H locs → lv_has ls 1 [] → W p l e (headSpec (wt yX2_pointsWell cX2_pointsWell 1 (some .boolean)) ({ frames := 4, cells := 0, slots := 0, locals := 87 })).room s m ([.ref h0] : List Value).toArray below meth c H locs (0) (0) (MQ below (va_Qi (fun (r : Int32) (u9 : Unit) => r = 0 ∨ r = 1) (gQ0 g A ws) A) ([.ref h0] : List Value).toArray s (0) (0) A) (F0 m 171 ls [.int t_19]) := by
            intro t_19 H locs ls iv_20 hP hD hS hl
            have hz_t_19 := iv_20
            refine W.widen (k := 0) (n := 0) (Nat.le_of_ble_eq_true rfl) (Nat.le_of_ble_eq_true rfl) ?_
            exact W.zret (v := t_19) hx hb hr (nz hz_t_19) (fun t9 ht9 hW9 => ⟨⟨_, (), rfl, hz_t_19, ⟨by rw [ht9]; exact hP, hD⟩⟩, hS.F ht9⟩) hS.2.2 dX2_pointsWell_171
          refine lv_icmp_ne (tgt := 170) hx hb dX2_pointsWell_163 (by decide) (fun c_23 => ?_) (fun c_23 => ?_)
          · refine lv_iconst (v := 0) hx hb dX2_pointsWell_170 (by decide) ?_
            exact J_171 (0) H locs ls (Or.inl rfl) hP hD hS (lv_sub hl [] rfl)
          · refine lv_iconst (v := 1) hx hb dX2_pointsWell_166 (by decide) ?_
            refine lv_goto (tgt := 171) hx hb dX2_pointsWell_167 (by decide) ?_
            exact J_171 (1) H locs ls (Or.inr rfl) hP hD hS (lv_sub hl [] rfl)
        have K_78_172 : W p l e (headSpec (wt yX2_pointsWell cX2_pointsWell 1 (some .boolean)) ({ frames := 4, cells := 0, slots := 0, locals := 87 })).room s m ([.ref h0] : List Value).toArray below meth c H locs (0) (0) (MQ below (va_Qi (fun (r : Int32) (u9 : Unit) => r = 0 ∨ r = 1) (gQ0 g A ws) A) ([.ref h0] : List Value).toArray s (0) (0) A) (F0 m 172 ls []) := by
          refine lv_aload_n hx hb dX2_pointsWell_172 rfl (lv_at hl 0 rfl) ?_
          refine lv_aload_n hx hb dX2_pointsWell_173 rfl (lv_at hl 0 rfl) ?_
          refine va_get (D := gD g) (ci := 2) (v := .long l10_1) (C := RX2) (T := TX2) (N := 12) hx hb hts inX2 hown hK hP k_1 hk_1 rfl 10 (by decide) (hts _ kw_617) (fun _ h9 => h9) rfl dX2_pointsWell_174 ?_
          obtain ⟨z_24, ez_24⟩ : ∃ y : Int32, (l10_1 : Int64).toInt32 = y := ⟨_, rfl⟩
          refine lv_l2i (v := z_24) hx hb dX2_pointsWell_177 ez_24 ?_
          refine lv_bipush (v := 9) hx hb dX2_pointsWell_178 (by decide) ?_
          have hFc := gfree hD hS hA
          refine va_calli (va_runV (As := [.int z_24, .int 9]) (rest := []) ⟨hx, hb, hml, hown, hts⟩ (m_X2_memberOf l g H.size ws h0 (z_24) (9) hG o_h0) (cwV 2 hts (gd_V kw_636 kw_750 kw_751 kw_389 kw_749) rfl rfl rfl (by decide +kernel) ⟨Nat.le_of_ble_eq_true rfl, Nat.le_of_ble_eq_true rfl⟩) ⟨gblind, va_recv hK hP (ci := 2) (q0 := k_1) rfl hk_1, fun U hU hW9 => gmk hU hW9 hP hK hD hex hE hS hFc⟩ rfl rfl hl.1 rfl (lv_room (Nat.le_of_ble_eq_true rfl)) dX2_pointsWell_180 ⟨Nat.le_of_ble_eq_true rfl, Nat.le_of_ble_eq_true rfl⟩) hS (fun q _ h => hFc q h) hFc (fun r_25 u9 t9 H1 locs ht9 hvm9 hw9 hB9 hz9 hk9 hS => ?_)
          have hP : va_P (gD g) cl0 ws H1 := by rw [← ht9]; exact hB9.1
          clear hB9 hz9 hk9 hvm9 ht9 hw9
          generalize H1 = H at hP hS ⊢
          have J_191 : ∀ (t_26 : Int32) (H : Heap) (locs : List Loc) (ls : Array Slot), t_26 = 0 ∨ t_26 = 1 → va_P (gD g) cl0 ws H → va_D A ws → va_S A s.heap H locs → lv_has ls 1 [] → W p l e (headSpec (wt yX2_pointsWell cX2_pointsWell 1 (some .boolean)) ({ frames := 4, cells := 0, slots := 0, locals := 87 })).room s m ([.ref h0] : List Value).toArray below meth c H locs (0) (0) (MQ below (va_Qi (fun (r : Int32) (u9 : Unit) => r = 0 ∨ r = 1) (gQ0 g A ws) A) ([.ref h0] : List Value).toArray s (0) (0) A) (F0 m 191 ls [.int t_26]) := by
            intro t_26 H locs ls iv_27 hP hD hS hl
            have hz_t_26 := iv_27
            refine W.widen (k := 0) (n := 0) (Nat.le_of_ble_eq_true rfl) (Nat.le_of_ble_eq_true rfl) ?_
            exact W.zret (v := t_26) hx hb hr (nz hz_t_26) (fun t9 ht9 hW9 => ⟨⟨_, (), rfl, hz_t_26, ⟨by rw [ht9]; exact hP, hD⟩⟩, hS.F ht9⟩) hS.2.2 dX2_pointsWell_191
          refine lv_if_lt (tgt := 190) hx hb dX2_pointsWell_183 (by decide) (fun c_30 => ?_) (fun c_30 => ?_)
          · refine lv_iconst (v := 0) hx hb dX2_pointsWell_190 (by decide) ?_
            exact J_191 (0) H locs ls (Or.inl rfl) hP hD hS (lv_sub hl [] rfl)
          · refine lv_iconst (v := 1) hx hb dX2_pointsWell_186 (by decide) ?_
            refine lv_goto (tgt := 191) hx hb dX2_pointsWell_187 (by decide) ?_
            exact J_191 (1) H locs ls (Or.inr rfl) hP hD hS (lv_sub hl [] rfl)
        have K_78_192 : W p l e (headSpec (wt yX2_pointsWell cX2_pointsWell 1 (some .boolean)) ({ frames := 4, cells := 0, slots := 0, locals := 87 })).room s m ([.ref h0] : List Value).toArray below meth c H locs (0) (0) (MQ below (va_Qi (fun (r : Int32) (u9 : Unit) => r = 0 ∨ r = 1) (gQ0 g A ws) A) ([.ref h0] : List Value).toArray s (0) (0) A) (F0 m 192 ls []) := by
          refine lv_aload_n hx hb dX2_pointsWell_192 rfl (lv_at hl 0 rfl) ?_
          refine lv_aload_n hx hb dX2_pointsWell_193 rfl (lv_at hl 0 rfl) ?_
          refine va_get (D := gD g) (ci := 2) (v := .long l10_1) (C := RX2) (T := TX2) (N := 12) hx hb hts inX2 hown hK hP k_1 hk_1 rfl 10 (by decide) (hts _ kw_617) (fun _ h9 => h9) rfl dX2_pointsWell_194 ?_
          obtain ⟨z_31, ez_31⟩ : ∃ y : Int32, (l10_1 : Int64).toInt32 = y := ⟨_, rfl⟩
          refine lv_l2i (v := z_31) hx hb dX2_pointsWell_197 ez_31 ?_
          refine lv_bipush (v := 10) hx hb dX2_pointsWell_198 (by decide) ?_
          have hFc := gfree hD hS hA
          refine va_calli (va_runV (As := [.int z_31, .int 10]) (rest := []) ⟨hx, hb, hml, hown, hts⟩ (m_X2_memberOf l g H.size ws h0 (z_31) (10) hG o_h0) (cwV 2 hts (gd_V kw_636 kw_750 kw_751 kw_389 kw_749) rfl rfl rfl (by decide +kernel) ⟨Nat.le_of_ble_eq_true rfl, Nat.le_of_ble_eq_true rfl⟩) ⟨gblind, va_recv hK hP (ci := 2) (q0 := k_1) rfl hk_1, fun U hU hW9 => gmk hU hW9 hP hK hD hex hE hS hFc⟩ rfl rfl hl.1 rfl (lv_room (Nat.le_of_ble_eq_true rfl)) dX2_pointsWell_200 ⟨Nat.le_of_ble_eq_true rfl, Nat.le_of_ble_eq_true rfl⟩) hS (fun q _ h => hFc q h) hFc (fun r_32 u9 t9 H1 locs ht9 hvm9 hw9 hB9 hz9 hk9 hS => ?_)
          have hP : va_P (gD g) cl0 ws H1 := by rw [← ht9]; exact hB9.1
          clear hB9 hz9 hk9 hvm9 ht9 hw9
          generalize H1 = H at hP hS ⊢
          have J_211 : ∀ (t_33 : Int32) (H : Heap) (locs : List Loc) (ls : Array Slot), t_33 = 0 ∨ t_33 = 1 → va_P (gD g) cl0 ws H → va_D A ws → va_S A s.heap H locs → lv_has ls 1 [] → W p l e (headSpec (wt yX2_pointsWell cX2_pointsWell 1 (some .boolean)) ({ frames := 4, cells := 0, slots := 0, locals := 87 })).room s m ([.ref h0] : List Value).toArray below meth c H locs (0) (0) (MQ below (va_Qi (fun (r : Int32) (u9 : Unit) => r = 0 ∨ r = 1) (gQ0 g A ws) A) ([.ref h0] : List Value).toArray s (0) (0) A) (F0 m 211 ls [.int t_33]) := by
            intro t_33 H locs ls iv_34 hP hD hS hl
            have hz_t_33 := iv_34
            refine W.widen (k := 0) (n := 0) (Nat.le_of_ble_eq_true rfl) (Nat.le_of_ble_eq_true rfl) ?_
            exact W.zret (v := t_33) hx hb hr (nz hz_t_33) (fun t9 ht9 hW9 => ⟨⟨_, (), rfl, hz_t_33, ⟨by rw [ht9]; exact hP, hD⟩⟩, hS.F ht9⟩) hS.2.2 dX2_pointsWell_211
          refine lv_if_lt (tgt := 210) hx hb dX2_pointsWell_203 (by decide) (fun c_37 => ?_) (fun c_37 => ?_)
          · refine lv_iconst (v := 0) hx hb dX2_pointsWell_210 (by decide) ?_
            exact J_211 (0) H locs ls (Or.inl rfl) hP hD hS (lv_sub hl [] rfl)
          · refine lv_iconst (v := 1) hx hb dX2_pointsWell_206 (by decide) ?_
            refine lv_goto (tgt := 211) hx hb dX2_pointsWell_207 (by decide) ?_
            exact J_211 (1) H locs ls (Or.inr rfl) hP hD hS (lv_sub hl [] rfl)
        by_cases c9_19 : (c9_1 : Int32).toInt = 19
        · exact lv_lookup (off := 50) (tgt := 128) hx hb dX2_pointsWell_78 (by decide) (by rw [c9_19]; decide) (by decide) K_78_128
        by_cases c9_20 : (c9_1 : Int32).toInt = 20
        · exact lv_lookup (off := 72) (tgt := 150) hx hb dX2_pointsWell_78 (by decide) (by rw [c9_20]; decide) (by decide) K_78_150
        by_cases c9_178 : (c9_1 : Int32).toInt = 178
        · exact lv_lookup (off := 94) (tgt := 172) hx hb dX2_pointsWell_78 (by decide) (by rw [c9_178]; decide) (by decide) K_78_172
        by_cases c9_179 : (c9_1 : Int32).toInt = 179
        · exact lv_lookup (off := 94) (tgt := 172) hx hb dX2_pointsWell_78 (by decide) (by rw [c9_179]; decide) (by decide) K_78_172
        by_cases c9_184 : (c9_1 : Int32).toInt = 184
        · exact lv_lookup (off := 114) (tgt := 192) hx hb dX2_pointsWell_78 (by decide) (by rw [c9_184]; decide) (by decide) K_78_192
        exact lv_lookup (off := 134) (tgt := 212) hx hb dX2_pointsWell_78 (by decide) (lk_cons c9_19 (lk_cons c9_20 (lk_cons c9_178 (lk_cons c9_179 (lk_cons c9_184 lk_nil))))) (by decide) K_78_212
      · refine lv_aload_n hx hb dX2_pointsWell_44 rfl (lv_at hl 0 rfl) ?_
        refine va_get (D := gD g) (ci := 2) (v := .long l10_1) (C := RX2) (T := TX2) (N := 12) hx hb hts inX2 hown hK hP k_1 hk_1 rfl 10 (by decide) (hts _ kw_617) (fun _ h9 => h9) rfl dX2_pointsWell_45 ?_
        obtain ⟨z_38, ez_38⟩ : ∃ y : Int32, (l10_1 : Int64).toInt32 = y := ⟨_, rfl⟩
        refine lv_l2i (v := z_38) hx hb dX2_pointsWell_48 ez_38 ?_
        refine lv_sipush (v := 255) hx hb dX2_pointsWell_49 (by decide) ?_
        refine lv_iand hx hb dX2_pointsWell_52 ?_
        refine lv_topi (fun z_39 ez_39 => ?_)
        refine lv_aload_n hx hb dX2_pointsWell_53 rfl (lv_at hl 0 rfl) ?_
        refine va_get (D := gD g) (ci := 2) (v := .int c9_1) (C := RX2) (T := TX2) (N := 12) hx hb hts inX2 hown hK hP k_1 hk_1 rfl 9 (by decide) (hts _ kw_619) (fun _ h9 => h9) rfl dX2_pointsWell_54 ?_
        have hFc := gfree hD hS hA
        refine va_calli (va_runS (As := [.int c9_1]) (rest := [.int z_39]) ⟨hx, hb, hml, hown, hts⟩ (m_X6_localWidth l g H.size ws (c9_1) hG ) (va_cwS 1 hts (gd_S kw_776 kw_1247 kw_1207 kw_1246) rfl rfl rfl (by decide +kernel) ⟨Nat.le_of_ble_eq_true rfl, Nat.le_of_ble_eq_true rfl⟩) ⟨gblind, fun U hU hW9 => gmk hU hW9 hP hK hD hex hE hS hFc⟩ rfl rfl hl.1 rfl (lv_room (Nat.le_of_ble_eq_true rfl)) dX2_pointsWell_57 ⟨Nat.le_of_ble_eq_true rfl, Nat.le_of_ble_eq_true rfl⟩) hS (fun q _ h => hFc q h) hFc (fun r_40 u9 t9 H1 locs ht9 hvm9 hw9 hB9 hz9 hk9 hS => ?_)
        have hP : va_P (gD g) cl0 ws H1 := by rw [← ht9]; exact hB9.1
        clear hB9 hz9 hk9 hvm9 ht9 hw9
        generalize H1 = H at hP hS ⊢
        refine lv_iadd hx hb dX2_pointsWell_60 ?_
        refine lv_topi (fun z_41 ez_41 => ?_)
        refine lv_aload_n hx hb dX2_pointsWell_61 rfl (lv_at hl 0 rfl) ?_
        refine va_get (D := gD g) (ci := 2) (v := .int c4_1) (C := RX2) (T := TX2) (N := 12) hx hb hts inX2 hown hK hP k_1 hk_1 rfl 4 (by decide) (hts _ kw_742) (fun _ h9 => h9) rfl dX2_pointsWell_62 ?_
        have J_73 : ∀ (t_42 : Int32) (H : Heap) (locs : List Loc) (ls : Array Slot), t_42 = 0 ∨ t_42 = 1 → va_P (gD g) cl0 ws H → va_D A ws → va_S A s.heap H locs → lv_has ls 1 [] → W p l e (headSpec (wt yX2_pointsWell cX2_pointsWell 1 (some .boolean)) ({ frames := 4, cells := 0, slots := 0, locals := 87 })).room s m ([.ref h0] : List Value).toArray below meth c H locs (0) (0) (MQ below (va_Qi (fun (r : Int32) (u9 : Unit) => r = 0 ∨ r = 1) (gQ0 g A ws) A) ([.ref h0] : List Value).toArray s (0) (0) A) (F0 m 73 ls [.int t_42]) := by
          intro t_42 H locs ls iv_43 hP hD hS hl
          have hz_t_42 := iv_43
          refine W.widen (k := 0) (n := 0) (Nat.le_of_ble_eq_true rfl) (Nat.le_of_ble_eq_true rfl) ?_
          exact W.zret (v := t_42) hx hb hr (nz hz_t_42) (fun t9 ht9 hW9 => ⟨⟨_, (), rfl, hz_t_42, ⟨by rw [ht9]; exact hP, hD⟩⟩, hS.F ht9⟩) hS.2.2 dX2_pointsWell_73
        refine lv_icmp_gt (tgt := 72) hx hb dX2_pointsWell_65 (by decide) (fun c_46 => ?_) (fun c_46 => ?_)
        · refine lv_iconst (v := 0) hx hb dX2_pointsWell_72 (by decide) ?_
          exact J_73 (0) H locs ls (Or.inl rfl) hP hD hS (lv_sub hl [] rfl)
        · refine lv_iconst (v := 1) hx hb dX2_pointsWell_68 (by decide) ?_
          refine lv_goto (tgt := 73) hx hb dX2_pointsWell_69 (by decide) ?_
          exact J_73 (1) H locs ls (Or.inr rfl) hP hD hS (lv_sub hl [] rfl)
    · refine lv_aload_n hx hb dX2_pointsWell_29 rfl (lv_at hl 0 rfl) ?_
      have hFc := gfree hD hS hA
      refine va_calli (va_runV (As := []) (rest := []) ⟨hx, hb, hml, hown, hts⟩ (m_X2_targetsHold l g H.size ws h0 hG o_h0) (cwV 0 hts (gd_V kw_775 kw_809 kw_810 kw_389 kw_808) rfl rfl rfl (by decide +kernel) ⟨Nat.le_of_ble_eq_true rfl, Nat.le_of_ble_eq_true rfl⟩) ⟨gblind, va_recv hK hP (ci := 2) (q0 := k_1) rfl hk_1, fun U hU hW9 => gmk hU hW9 hP hK hD hex hE hS hFc⟩ rfl rfl hl.1 rfl (lv_room (Nat.le_of_ble_eq_true rfl)) dX2_pointsWell_30 ⟨Nat.le_of_ble_eq_true rfl, Nat.le_of_ble_eq_true rfl⟩) hS (fun q _ h => hFc q h) hFc (fun r_47 u9 t9 H1 locs ht9 hvm9 hw9 hB9 hz9 hk9 hS => ?_)
      have hP : va_P (gD g) cl0 ws H1 := by rw [← ht9]; exact hB9.1
      have hz_r_47 : r_47 = 0 ∨ r_47 = 1 := hw9
      clear hB9 hz9 hk9 hvm9 ht9 hw9
      generalize H1 = H at hP hS ⊢
      refine W.widen (k := 0) (n := 0) (Nat.le_of_ble_eq_true rfl) (Nat.le_of_ble_eq_true rfl) ?_
      exact W.zret (v := r_47) hx hb hr (nz hz_r_47) (fun t9 ht9 hW9 => ⟨⟨_, (), rfl, hz_r_47, ⟨by rw [ht9]; exact hP, hD⟩⟩, hS.F ht9⟩) hS.2.2 dX2_pointsWell_33
  · refine lv_aload_n hx hb dX2_pointsWell_10 rfl (lv_at hl 0 rfl) ?_
    refine lv_aload_n hx hb dX2_pointsWell_11 rfl (lv_at hl 0 rfl) ?_
    refine va_get (D := gD g) (ci := 2) (v := .long l10_1) (C := RX2) (T := TX2) (N := 12) hx hb hts inX2 hown hK hP k_1 hk_1 rfl 10 (by decide) (hts _ kw_617) (fun _ h9 => h9) rfl dX2_pointsWell_12 ?_
    have hFc := gfree hD hS hA
    refine va_calli (va_runV (As := [.long l10_1]) (rest := []) ⟨hx, hb, hml, hown, hts⟩ (m_X2_isInstruction l g H.size ws h0 (l10_1) hG o_h0) (cwV 1 hts (gd_V kw_672 kw_720 kw_721 kw_389 kw_719) rfl rfl rfl (by decide +kernel) ⟨Nat.le_of_ble_eq_true rfl, Nat.le_of_ble_eq_true rfl⟩) ⟨gblind, va_recv hK hP (ci := 2) (q0 := k_1) rfl hk_1, fun U hU hW9 => gmk hU hW9 hP hK hD hex hE hS hFc⟩ rfl rfl hl.1 rfl (lv_room (Nat.le_of_ble_eq_true rfl)) dX2_pointsWell_15 ⟨Nat.le_of_ble_eq_true rfl, Nat.le_of_ble_eq_true rfl⟩) hS (fun q _ h => hFc q h) hFc (fun r_48 u9 t9 H1 locs ht9 hvm9 hw9 hB9 hz9 hk9 hS => ?_)
    have hP : va_P (gD g) cl0 ws H1 := by rw [← ht9]; exact hB9.1
    have hz_r_48 : r_48 = 0 ∨ r_48 = 1 := hw9
    clear hB9 hz9 hk9 hvm9 ht9 hw9
    generalize H1 = H at hP hS ⊢
    refine W.widen (k := 0) (n := 0) (Nat.le_of_ble_eq_true rfl) (Nat.le_of_ble_eq_true rfl) ?_
    exact W.zret (v := r_48) hx hb hr (nz hz_r_48) (fun t9 ht9 hW9 => ⟨⟨_, (), rfl, hz_r_48, ⟨by rw [ht9]; exact hP, hD⟩⟩, hS.F ht9⟩) hS.2.2 dX2_pointsWell_18
set_option maxHeartbeats 1000000 in
set_option maxRecDepth 100000 in
theorem m_X2_catchHolds (l : Launch) (g : Gm) (H0 : Heap) (ws : va_W) (h0 : Nat) (x1 : Int32) (hG : Good g ws) (o_h0 : gC ws h0 2) : Met l yX2_catchHolds (wt yX2_catchHolds cX2_catchHolds 4 (some .boolean)) ({ frames := 6, cells := PC ws + (0), slots := PS ws + (0), locals := 130 }) (va_Pc [.ref h0, .int x1] (st_H g H0 ws)) (va_Qi (fun (r : Int32) (u9 : va_W) => r = 0 ∨ r = 1) (gQ2 g [] [] none (va_A ws H0.size) ws H0 (0) (0)) (va_A ws H0.size)) (PC ws + (0)) (PS ws + (0)) (va_A ws H0.size) := by
  refine Met.ofW (cc := cX2_catchHolds) (maxL := 4) (ret := (some .boolean)) (by decide) rfl ?_
  intro p e s m args below meth c s₁ B hml hv
  obtain ⟨rfl, hH0, hsz, hP, hK, hD0, hex, hE⟩ := hv
  have hx := B.exec
  have hb := B.bytes
  have hr := B.returns
  have hts0 := atoms_spec (ws := wt yX2_catchHolds cX2_catchHolds 4 (some .boolean)) B.pre
  have hts : ∀ w ∈ tb, w.before _ s = true := fun w h => hts0 w (List.mem_cons_of_mem _ h)
  have hown : s.vm.findClass RX2 = some m.cls := findClass_of_methodNamed B.named
  subst hH0
  have hD := hD0.self (sz := s.heap.size)
  generalize hAe : va_A ws s.heap.size = A at hD hE ⊢
  have hA : ∀ q : Nat, s.heap.size ≤ q → A q := fun q h => by rw [← hAe]; exact Or.inr h
  have hS : va_S A s.heap s.heap [] := va_S.rf
  have hl := lv_entry ([.ref h0, .int x1]) (n := 4) (Nat.le_of_ble_eq_true rfl)
  rw [lg_entry_eq]
  generalize (lg_sl ([.ref h0, .int x1]) ++ List.replicate (4 - (lg_sl ([.ref h0, .int x1])).length) Slot.unset).toArray = ls at hl ⊢
  have hl : lv_has ls 4 [(0, .ref h0), (1, .int x1)] := hl
  refine lv_aload_n hx hb dX2_catchHolds_0 rfl (lv_at hl 0 rfl) ?_
  obtain ⟨k_1, fs9, hk_1⟩ := gC_of o_h0
  obtain ⟨r0_1, c1_1, c2_1, c3_1, c4_1, c5_1, c6_1, r7_1, n7_1, c8_1, c9_1, l10_1, c11_1, rfl, o_r0_1, a_r7_1, f2_1, f3_1, f4_1, -⟩ := (hG.1 _ _ _ _ hk_1).hX2 rfl
  refine va_get (D := gD g) (ci := 2) (v := .ref r0_1) (C := RX2) (T := TX2) (N := 12) hx hb hts inX2 hown hK hP k_1 hk_1 rfl 0 (by decide) (hts _ kw_632) (fun _ h9 => h9) rfl dX2_catchHolds_1 ?_
  refine lv_iload_n hx hb dX2_catchHolds_4 rfl (lv_at hl 1 rfl) ?_
  have hFc := gfree hD hS hA
  obtain ⟨k_2, fs_2, hk_2⟩ := gC_of o_r0_1
  refine va_calli (va_runV (As := [.int x1]) (rest := []) ⟨hx, hb, hml, hown, hts⟩ (m_X7_u2 l g s.heap.size ws r0_1 (x1) hG o_r0_1) (cwV 1 hts (gd_V kw_651 kw_1450 kw_1451 kw_710 kw_1449) rfl rfl rfl (by decide +kernel) ⟨Nat.le_of_ble_eq_true rfl, Nat.le_of_ble_eq_true rfl⟩) ⟨gblind, va_recv hK hP (ci := 6) (q0 := k_2) rfl hk_2, fun U hU hW9 => gmk hU hW9 hP hK hD hex hE hS hFc⟩ rfl rfl hl.1 rfl (lv_room (Nat.le_of_ble_eq_true rfl)) dX2_catchHolds_5 ⟨(show 0 + 0 ≤ PC ws + (0) from (by have e0 : (0 : Int32).toInt = 0 := (by decide); omega)), (show 0 + 0 ≤ PS ws + (0) from (by have e0 : (0 : Int32).toInt = 0 := (by decide); omega))⟩) hS (fun q _ h => hFc q h) hFc (fun r_3 u9 t9 H1 locs ht9 hvm9 hw9 hB9 hz9 hk9 hS => ?_)
  have hP : va_P (gD g) cl0 ws H1 := by rw [← ht9]; exact hB9.1
  have h_r_3 := hw9
  clear hB9 hz9 hk9 hvm9 ht9 hw9
  generalize H1 = H at hP hS ⊢
  refine lv_istore_n (lv' := [(2, .int r_3), (0, .ref h0), (1, .int x1)]) hx hb dX2_catchHolds_8 rfl hl (by decide) rfl (fun ls hl => ?_)
  refine lv_aload_n hx hb dX2_catchHolds_9 rfl (lv_at hl 1 rfl) ?_
  refine va_get (D := gD g) (ci := 2) (v := .ref r0_1) (C := RX2) (T := TX2) (N := 12) hx hb hts inX2 hown hK hP k_1 hk_1 rfl 0 (by decide) (hts _ kw_632) (fun _ h9 => h9) rfl dX2_catchHolds_10 ?_
  refine lv_iload_n hx hb dX2_catchHolds_13 rfl (lv_at hl 2 rfl) ?_
  refine lv_iconst (v := 2) hx hb dX2_catchHolds_14 (by decide) ?_
  refine lv_iadd hx hb dX2_catchHolds_15 ?_
  refine lv_topi (fun z_4 ez_4 => ?_)
  have hFc := gfree hD hS hA
  obtain ⟨k_5, fs_5, hk_5⟩ := gC_of o_r0_1
  refine va_calli (va_runV (As := [.int z_4]) (rest := []) ⟨hx, hb, hml, hown, hts⟩ (m_X7_u2 l g H.size ws r0_1 (z_4) hG o_r0_1) (cwV 1 hts (gd_V kw_651 kw_1450 kw_1451 kw_710 kw_1449) rfl rfl rfl (by decide +kernel) ⟨Nat.le_of_ble_eq_true rfl, Nat.le_of_ble_eq_true rfl⟩) ⟨gblind, va_recv hK hP (ci := 6) (q0 := k_5) rfl hk_5, fun U hU hW9 => gmk hU hW9 hP hK hD hex hE hS hFc⟩ rfl rfl hl.1 rfl (lv_room (Nat.le_of_ble_eq_true rfl)) dX2_catchHolds_16 ⟨(show 0 + 0 ≤ PC ws + (0) from (by have e0 : (0 : Int32).toInt = 0 := (by decide); omega)), (show 0 + 0 ≤ PS ws + (0) from (by have e0 : (0 : Int32).toInt = 0 := (by decide); omega))⟩) hS (fun q _ h => hFc q h) hFc (fun r_6 u9 t9 H1 locs ht9 hvm9 hw9 hB9 hz9 hk9 hS => ?_)
  have hP : va_P (gD g) cl0 ws H1 := by rw [← ht9]; exact hB9.1
  have h_r_6 := hw9
  clear hB9 hz9 hk9 hvm9 ht9 hw9
  generalize H1 = H at hP hS ⊢
  refine lv_istore_n (lv' := [(3, .int r_6), (2, .int r_3), (0, .ref h0), (1, .int x1)]) hx hb dX2_catchHolds_19 rfl hl (by decide) rfl (fun ls hl => ?_)
  refine lv_aload_n hx hb dX2_catchHolds_20 rfl (lv_at hl 2 rfl) ?_
  refine lv_iload_n hx hb dX2_catchHolds_21 rfl (lv_at hl 1 rfl) ?_
  obtain ⟨z_7, ez_7⟩ : ∃ y : Int64, (r_3 : Int32).toInt64 = y := ⟨_, rfl⟩
  refine lv_i2l (v := z_7) hx hb dX2_catchHolds_22 ez_7 ?_
  have hFc := gfree hD hS hA
  refine va_calli (va_runV (As := [.long z_7]) (rest := []) ⟨hx, hb, hml, hown, hts⟩ (m_X2_isInstruction l g H.size ws h0 (z_7) hG o_h0) (cwV 1 hts (gd_V kw_672 kw_720 kw_721 kw_389 kw_719) rfl rfl rfl (by decide +kernel) ⟨Nat.le_of_ble_eq_true rfl, Nat.le_of_ble_eq_true rfl⟩) ⟨gblind, va_recv hK hP (ci := 2) (q0 := k_1) rfl hk_1, fun U hU hW9 => gmk hU hW9 hP hK hD hex hE hS hFc⟩ rfl rfl hl.1 rfl (lv_room (Nat.le_of_ble_eq_true rfl)) dX2_catchHolds_23 ⟨(show 0 + 0 ≤ PC ws + (0) from (by have e0 : (0 : Int32).toInt = 0 := (by decide); omega)), (show 0 + 0 ≤ PS ws + (0) from (by have e0 : (0 : Int32).toInt = 0 := (by decide); omega))⟩) hS (fun q _ h => hFc q h) hFc (fun r_8 u9 t9 H1 locs ht9 hvm9 hw9 hB9 hz9 hk9 hS => ?_)
  have hP : va_P (gD g) cl0 ws H1 := by rw [← ht9]; exact hB9.1
  have hz_r_8 : r_8 = 0 ∨ r_8 = 1 := hw9
  clear hB9 hz9 hk9 hvm9 ht9 hw9
  generalize H1 = H at hP hS ⊢
  have J_85 : ∀ (t_9 : Int32) (dc_85_1 : Nat) (ds_85_1 : Nat) (ws_11 : va_W) (H : Heap) (locs : List Loc) (ls : Array Slot), t_9 = 0 ∨ t_9 = 1 → gE ws ws_11 → gF [] [] none ws ws_11 → Good g ws_11 → dc_85_1 + PC ws_11 ≤ PC ws + (0) → ds_85_1 + PS ws_11 ≤ PS ws + (0) → va_P (gD g) cl0 ws_11 H → va_D A ws_11 → va_S A s.heap H locs → lv_has ls 4 [] → W p l e (headSpec (wt yX2_catchHolds cX2_catchHolds 4 (some .boolean)) ({ frames := 6, cells := PC ws + (0), slots := PS ws + (0), locals := 130 })).room s m ([.ref h0, .int x1] : List Value).toArray below meth c H locs (dc_85_1) (ds_85_1) (MQ below (va_Qi (fun (r : Int32) (u9 : va_W) => r = 0 ∨ r = 1) (gQ2 g [] [] none A ws s.heap (0) (0)) A) ([.ref h0, .int x1] : List Value).toArray s (PC ws + (0)) (PS ws + (0)) A) (F0 m 85 ls [.int t_9]) := by
    intro t_9 dc_85_1 ds_85_1 ws_11 H locs ls iv_10 E_12 Fr_13 hG hc9 hs9 hP hD hS hl
    have hz_t_9 := iv_10
    have aa_14 := a_r7_1
    have o_h0 := E_12.1 _ _ o_h0
    refine W_led (fun hLd => ?_)
    have hcl : dc_85_1 + PC ws_11 ≤ PC ws + (0) := (by omega)
    have hsl : ds_85_1 + PS ws_11 ≤ PS ws + (0) := (by omega)
    refine W.widen (k := PC ws + (0)) (n := PS ws + (0)) (by omega) (by omega) ?_
    exact W.zret (v := t_9) hx hb hr (nz hz_t_9) (fun t9 ht9 hW9 => ⟨⟨_, ws_11, rfl, hz_t_9, ⟨E_12, Fr_13, hG, by rw [ht9]; exact hP, hD, _, _, by rw [ht9]; exact hLd, hcl, hsl⟩⟩, hS.F ht9⟩) hS.2.2 dX2_catchHolds_85
  have J_84 : ∀ (dc_84_2 : Nat) (ds_84_2 : Nat) (ws_15 : va_W) (H : Heap) (locs : List Loc) (ls : Array Slot), gE ws ws_15 → gF [] [] none ws ws_15 → Good g ws_15 → dc_84_2 + PC ws_15 ≤ PC ws + (0) → ds_84_2 + PS ws_15 ≤ PS ws + (0) → va_P (gD g) cl0 ws_15 H → va_D A ws_15 → va_S A s.heap H locs → lv_has ls 4 [] → W p l e (headSpec (wt yX2_catchHolds cX2_catchHolds 4 (some .boolean)) ({ frames := 6, cells := PC ws + (0), slots := PS ws + (0), locals := 130 })).room s m ([.ref h0, .int x1] : List Value).toArray below meth c H locs (dc_84_2) (ds_84_2) (MQ below (va_Qi (fun (r : Int32) (u9 : va_W) => r = 0 ∨ r = 1) (gQ2 g [] [] none A ws s.heap (0) (0)) A) ([.ref h0, .int x1] : List Value).toArray s (PC ws + (0)) (PS ws + (0)) A) (F0 m 84 ls []) := by
    intro dc_84_2 ds_84_2 ws_15 H locs ls  E_16 Fr_17 hG hc9 hs9 hP hD hS hl
    have aa_18 := a_r7_1
    have o_h0 := E_16.1 _ _ o_h0
    refine lv_iconst (v := 0) hx hb dX2_catchHolds_84 (by decide) ?_
    exact J_85 (0) (dc_84_2) (ds_84_2) ws_15 H locs ls (Or.inl rfl) (E_16) (Fr_17) hG (by omega) (by omega) hP hD hS (lv_sub hl [] rfl)
  refine lv_if_eq (tgt := 84) hx hb dX2_catchHolds_26 (by decide) (fun c_19 => ?_) (fun c_19 => ?_)
  · exact J_84 (0) (0) ws H locs ls (gE.rf) (gF.rf) hG (by have e0 : (0 : Int32).toInt = 0 := (by decide); omega) (by have e0 : (0 : Int32).toInt = 0 := (by decide); omega) hP hD hS (lv_sub hl [] rfl)
  · refine lv_aload_n hx hb dX2_catchHolds_29 rfl (lv_at hl 2 rfl) ?_
    refine lv_iload_n hx hb dX2_catchHolds_30 rfl (lv_at hl 0 rfl) ?_
    obtain ⟨z_20, ez_20⟩ : ∃ y : Int64, (r_6 : Int32).toInt64 = y := ⟨_, rfl⟩
    refine lv_i2l (v := z_20) hx hb dX2_catchHolds_31 ez_20 ?_
    have hFc := gfree hD hS hA
    refine va_calli (va_runV (As := [.long z_20]) (rest := []) ⟨hx, hb, hml, hown, hts⟩ (m_X2_numberOf l g H.size ws h0 (z_20) hG o_h0) (cwV 1 hts (gd_V kw_625 kw_761 kw_762 kw_389 kw_760) rfl rfl rfl (by decide +kernel) ⟨Nat.le_of_ble_eq_true rfl, Nat.le_of_ble_eq_true rfl⟩) ⟨gblind, va_recv hK hP (ci := 2) (q0 := k_1) rfl hk_1, fun U hU hW9 => gmk hU hW9 hP hK hD hex hE hS hFc⟩ rfl rfl hl.1 rfl (lv_room (Nat.le_of_ble_eq_true rfl)) dX2_catchHolds_32 ⟨(show 0 + 0 ≤ PC ws + (0) from (by have e0 : (0 : Int32).toInt = 0 := (by decide); omega)), (show 0 + 0 ≤ PS ws + (0) from (by have e0 : (0 : Int32).toInt = 0 := (by decide); omega))⟩) hS (fun q _ h => hFc q h) hFc (fun r_21 u9 t9 H1 locs ht9 hvm9 hw9 hB9 hz9 hk9 hS => ?_)
    have hP : va_P (gD g) cl0 ws H1 := by rw [← ht9]; exact hB9.1
    clear hB9 hz9 hk9 hvm9 ht9 hw9
    generalize H1 = H at hP hS ⊢
    refine lv_if_lt (tgt := 84) hx hb dX2_catchHolds_35 (by decide) (fun c_22 => ?_) (fun c_22 => ?_)
    · exact J_84 (0) (0) ws H locs ls (gE.rf) (gF.rf) hG (by have e0 : (0 : Int32).toInt = 0 := (by decide); omega) (by have e0 : (0 : Int32).toInt = 0 := (by decide); omega) hP hD hS (lv_sub hl [] rfl)
    · refine lv_iload_n hx hb dX2_catchHolds_38 rfl (lv_at hl 1 rfl) ?_
      refine lv_iload_n hx hb dX2_catchHolds_39 rfl (lv_at hl 0 rfl) ?_
      refine lv_icmp_ge (tgt := 84) hx hb dX2_catchHolds_40 (by decide) (fun c_23 => ?_) (fun c_23 => ?_)
      · exact J_84 (0) (0) ws H locs ls (gE.rf) (gF.rf) hG (by have e0 : (0 : Int32).toInt = 0 := (by decide); omega) (by have e0 : (0 : Int32).toInt = 0 := (by decide); omega) hP hD hS (lv_sub hl [] rfl)
      · refine lv_aload_n hx hb dX2_catchHolds_43 rfl (lv_at hl 2 rfl) ?_
        refine lv_aload_n hx hb dX2_catchHolds_44 rfl (lv_at hl 2 rfl) ?_
        refine va_get (D := gD g) (ci := 2) (v := .ref r0_1) (C := RX2) (T := TX2) (N := 12) hx hb hts inX2 hown hK hP k_1 hk_1 rfl 0 (by decide) (hts _ kw_632) (fun _ h9 => h9) rfl dX2_catchHolds_45 ?_
        refine lv_iload_n hx hb dX2_catchHolds_48 rfl (lv_at hl 3 rfl) ?_
        refine lv_iconst (v := 4) hx hb dX2_catchHolds_49 (by decide) ?_
        refine lv_iadd hx hb dX2_catchHolds_50 ?_
        refine lv_topi (fun z_24 ez_24 => ?_)
        have hFc := gfree hD hS hA
        obtain ⟨k_25, fs_25, hk_25⟩ := gC_of o_r0_1
        refine va_calli (va_runV (As := [.int z_24]) (rest := [.ref h0]) ⟨hx, hb, hml, hown, hts⟩ (m_X7_u2 l g H.size ws r0_1 (z_24) hG o_r0_1) (cwV 1 hts (gd_V kw_651 kw_1450 kw_1451 kw_710 kw_1449) rfl rfl rfl (by decide +kernel) ⟨Nat.le_of_ble_eq_true rfl, Nat.le_of_ble_eq_true rfl⟩) ⟨gblind, va_recv hK hP (ci := 6) (q0 := k_25) rfl hk_25, fun U hU hW9 => gmk hU hW9 hP hK hD hex hE hS hFc⟩ rfl rfl hl.1 rfl (lv_room (Nat.le_of_ble_eq_true rfl)) dX2_catchHolds_51 ⟨(show 0 + 0 ≤ PC ws + (0) from (by have e0 : (0 : Int32).toInt = 0 := (by decide); omega)), (show 0 + 0 ≤ PS ws + (0) from (by have e0 : (0 : Int32).toInt = 0 := (by decide); omega))⟩) hS (fun q _ h => hFc q h) hFc (fun r_26 u9 t9 H1 locs ht9 hvm9 hw9 hB9 hz9 hk9 hS => ?_)
        have hP : va_P (gD g) cl0 ws H1 := by rw [← ht9]; exact hB9.1
        have h_r_26 := hw9
        clear hB9 hz9 hk9 hvm9 ht9 hw9
        generalize H1 = H at hP hS ⊢
        obtain ⟨z_27, ez_27⟩ : ∃ y : Int64, (r_26 : Int32).toInt64 = y := ⟨_, rfl⟩
        refine lv_i2l (v := z_27) hx hb dX2_catchHolds_54 ez_27 ?_
        have hFc := gfree hD hS hA
        refine va_calli (va_runV (As := [.long z_27]) (rest := []) ⟨hx, hb, hml, hown, hts⟩ (m_X2_isInstruction l g H.size ws h0 (z_27) hG o_h0) (cwV 1 hts (gd_V kw_672 kw_720 kw_721 kw_389 kw_719) rfl rfl rfl (by decide +kernel) ⟨Nat.le_of_ble_eq_true rfl, Nat.le_of_ble_eq_true rfl⟩) ⟨gblind, va_recv hK hP (ci := 2) (q0 := k_1) rfl hk_1, fun U hU hW9 => gmk hU hW9 hP hK hD hex hE hS hFc⟩ rfl rfl hl.1 rfl (lv_room (Nat.le_of_ble_eq_true rfl)) dX2_catchHolds_55 ⟨(show 0 + 0 ≤ PC ws + (0) from (by have e0 : (0 : Int32).toInt = 0 := (by decide); omega)), (show 0 + 0 ≤ PS ws + (0) from (by have e0 : (0 : Int32).toInt = 0 := (by decide); omega))⟩) hS (fun q _ h => hFc q h) hFc (fun r_28 u9 t9 H1 locs ht9 hvm9 hw9 hB9 hz9 hk9 hS => ?_)
        have hP : va_P (gD g) cl0 ws H1 := by rw [← ht9]; exact hB9.1
        have hz_r_28 : r_28 = 0 ∨ r_28 = 1 := hw9
        clear hB9 hz9 hk9 hvm9 ht9 hw9
        generalize H1 = H at hP hS ⊢
        refine lv_if_eq (tgt := 84) hx hb dX2_catchHolds_58 (by decide) (fun c_29 => ?_) (fun c_29 => ?_)
        · exact J_84 (0) (0) ws H locs ls (gE.rf) (gF.rf) hG (by have e0 : (0 : Int32).toInt = 0 := (by decide); omega) (by have e0 : (0 : Int32).toInt = 0 := (by decide); omega) hP hD hS (lv_sub hl [] rfl)
        · refine lv_aload_n hx hb dX2_catchHolds_61 rfl (lv_at hl 2 rfl) ?_
          refine lv_aload_n hx hb dX2_catchHolds_62 rfl (lv_at hl 2 rfl) ?_
          refine va_get (D := gD g) (ci := 2) (v := .ref r0_1) (C := RX2) (T := TX2) (N := 12) hx hb hts inX2 hown hK hP k_1 hk_1 rfl 0 (by decide) (hts _ kw_632) (fun _ h9 => h9) rfl dX2_catchHolds_63 ?_
          refine lv_iload_n hx hb dX2_catchHolds_66 rfl (lv_at hl 3 rfl) ?_
          refine lv_bipush (v := 6) hx hb dX2_catchHolds_67 (by decide) ?_
          refine lv_iadd hx hb dX2_catchHolds_69 ?_
          refine lv_topi (fun z_30 ez_30 => ?_)
          have hFc := gfree hD hS hA
          obtain ⟨k_31, fs_31, hk_31⟩ := gC_of o_r0_1
          refine va_calli (va_runV (As := [.int z_30]) (rest := [.ref h0]) ⟨hx, hb, hml, hown, hts⟩ (m_X7_u2 l g H.size ws r0_1 (z_30) hG o_r0_1) (cwV 1 hts (gd_V kw_651 kw_1450 kw_1451 kw_710 kw_1449) rfl rfl rfl (by decide +kernel) ⟨Nat.le_of_ble_eq_true rfl, Nat.le_of_ble_eq_true rfl⟩) ⟨gblind, va_recv hK hP (ci := 6) (q0 := k_31) rfl hk_31, fun U hU hW9 => gmk hU hW9 hP hK hD hex hE hS hFc⟩ rfl rfl hl.1 rfl (lv_room (Nat.le_of_ble_eq_true rfl)) dX2_catchHolds_70 ⟨(show 0 + 0 ≤ PC ws + (0) from (by have e0 : (0 : Int32).toInt = 0 := (by decide); omega)), (show 0 + 0 ≤ PS ws + (0) from (by have e0 : (0 : Int32).toInt = 0 := (by decide); omega))⟩) hS (fun q _ h => hFc q h) hFc (fun r_32 u9 t9 H1 locs ht9 hvm9 hw9 hB9 hz9 hk9 hS => ?_)
          have hP : va_P (gD g) cl0 ws H1 := by rw [← ht9]; exact hB9.1
          have h_r_32 := hw9
          clear hB9 hz9 hk9 hvm9 ht9 hw9
          generalize H1 = H at hP hS ⊢
          have hFc := gfree hD hS hA
          refine W_led (fun hL0 => ?_)
          refine va_calli (va_runV (As := [.int r_32]) (rest := []) ⟨hx, hb, hml, hown, hts⟩ (m_X2_errorOf l g H ws h0 (r_32) hG o_h0) (cwV 1 hts (gd_V kw_673 kw_695 kw_696 kw_389 kw_694) rfl rfl rfl (by decide +kernel) ⟨Nat.le_of_ble_eq_true rfl, Nat.le_of_ble_eq_true rfl⟩) ⟨gblindH, va_recv hK hP (ci := 2) (q0 := k_1) rfl hk_1, fun U hU hW9 => gmkH hU hW9 hP hK hD hex hE hS hFc⟩ rfl rfl hl.1 rfl (lv_room (Nat.le_of_ble_eq_true rfl)) dX2_catchHolds_73 ⟨(show 0 + (PC ws + (0)) ≤ PC ws + (0) from (by have e0 : (0 : Int32).toInt = 0 := (by decide); omega)), (show 0 + (PS ws + (0)) ≤ PS ws + (0) from (by have e0 : (0 : Int32).toInt = 0 := (by decide); omega))⟩) hS (fun q _ h => hFc q h) hFc (fun r_33 ws_34 t9 H1 locs ht9 hvm9 hw9 hB9 hz9 hk9 hS => ?_)
          obtain ⟨E_35, Fr_36, hG, hP1, hD1, dc_37, ds_38, hLd, hdc_37, hds_38⟩ := hB9
          rw [ht9] at hLd
          refine W_tight (hL0.tr hLd).1 (hL0.tr hLd).2.1 ?_
          clear hL0 hLd
          have hP : va_P (gD g) cl0 ws_34 H1 := by rw [← ht9]; exact hP1
          have hD : va_D A ws_34 := hD1.weaken (fun _ _ _ h => hFc _ h)
          clear hP1 hD1 hz9 hk9 hvm9 ht9 hw9
          generalize H1 = H at hP hS ⊢
          have aa_39 := a_r7_1
          have o_h0 := E_35.1 _ _ o_h0
          refine lv_iconst (v := (-1)) hx hb dX2_catchHolds_76 (by decide) ?_
          refine lv_icmp_lt (tgt := 84) hx hb dX2_catchHolds_77 (by decide) (fun c_40 => ?_) (fun c_40 => ?_)
          · exact J_84 (0 + dc_37) (0 + ds_38) ws_34 H locs ls (E_35) (Fr_36) hG (by omega) (by omega) hP hD hS (lv_sub hl [] rfl)
          · refine lv_iconst (v := 1) hx hb dX2_catchHolds_80 (by decide) ?_
            refine lv_goto (tgt := 85) hx hb dX2_catchHolds_81 (by decide) ?_
            exact J_85 (1) (0 + dc_37) (0 + ds_38) ws_34 H locs ls (Or.inr rfl) (E_35) (Fr_36) hG (by omega) (by omega) hP hD hS (lv_sub hl [] rfl)
set_option maxHeartbeats 1000000 in
set_option maxRecDepth 100000 in
theorem m_X2_addTo (l : Launch) (g : Gm) (sz : Nat) (ws : va_W) (h0 : Nat) (b1 : Nat) (hG : Good g ws) (o_h0 : gC ws h0 2) (o_b1 : gC ws b1 7) : Met l yX2_addTo (wt yX2_addTo cX2_addTo 2 none) ({ frames := 4, cells := 0, slots := 0, locals := 88 }) (va_Pc [.ref h0, .ref b1] (st_G g sz ws)) (va_Qv (fun (u9 : va_W) => True) (gQ1 g [(7, 2), (7, 4)] [(7, 0), (7, 1), (7, 3)] none (va_A ws sz) ws) (va_A ws sz)) (0) (0) (va_A ws sz) := by
  refine Met.ofW (cc := cX2_addTo) (maxL := 2) (ret := none) (by decide) rfl ?_
  intro p e s m args below meth c s₁ B hml hv
  obtain ⟨rfl, hsz, hP, hK, hD0, hex, hE⟩ := hv
  have hx := B.exec
  have hb := B.bytes
  have hr := B.returns
  have hts0 := atoms_spec (ws := wt yX2_addTo cX2_addTo 2 none) B.pre
  have hts : ∀ w ∈ tb, w.before _ s = true := fun w h => hts0 w (List.mem_cons_of_mem _ h)
  have hown : s.vm.findClass RX2 = some m.cls := findClass_of_methodNamed B.named
  subst hsz
  have hD := hD0.self (sz := s.heap.size)
  generalize hAe : va_A ws s.heap.size = A at hD hE ⊢
  have hA : ∀ q : Nat, s.heap.size ≤ q → A q := fun q h => by rw [← hAe]; exact Or.inr h
  have hS : va_S A s.heap s.heap [] := va_S.rf
  have hl := lv_entry ([.ref h0, .ref b1]) (n := 2) (Nat.le_of_ble_eq_true rfl)
  rw [lg_entry_eq]
  generalize (lg_sl ([.ref h0, .ref b1]) ++ List.replicate (2 - (lg_sl ([.ref h0, .ref b1])).length) Slot.unset).toArray = ls at hl ⊢
  have hl : lv_has ls 2 [(0, .ref h0), (1, .ref b1)] := hl
  refine lv_aload_n hx hb dX2_addTo_0 rfl (lv_at hl 0 rfl) ?_
  obtain ⟨k_1, fs9, hk_1⟩ := gC_of o_h0
  obtain ⟨r0_1, c1_1, c2_1, c3_1, c4_1, c5_1, c6_1, r7_1, n7_1, c8_1, c9_1, l10_1, c11_1, rfl, o_r0_1, a_r7_1, f2_1, f3_1, f4_1, -⟩ := (hG.1 _ _ _ _ hk_1).hX2 rfl
  refine va_get (D := gD g) (ci := 2) (v := .int c9_1) (C := RX2) (T := TX2) (N := 12) hx hb hts inX2 hown hK hP k_1 hk_1 rfl 9 (by decide) (hts _ kw_619) (fun _ h9 => h9) rfl dX2_addTo_1 ?_
  have hFc := gfree hD hS hA
  refine va_calli (va_runS (As := [.int c9_1]) (rest := []) ⟨hx, hb, hml, hown, hts⟩ (m_X6_isJump l g s.heap.size ws (c9_1) hG ) (va_cwS 1 hts (gd_S kw_629 kw_1225 kw_1207 kw_1224) rfl rfl rfl (by decide +kernel) ⟨Nat.le_of_ble_eq_true rfl, Nat.le_of_ble_eq_true rfl⟩) ⟨gblind, fun U hU hW9 => gmk hU hW9 hP hK hD hex hE hS hFc⟩ rfl rfl hl.1 rfl (lv_room (Nat.le_of_ble_eq_true rfl)) dX2_addTo_4 ⟨Nat.le_of_ble_eq_true rfl, Nat.le_of_ble_eq_true rfl⟩) hS (fun q _ h => hFc q h) hFc (fun r_2 u9 t9 H1 locs ht9 hvm9 hw9 hB9 hz9 hk9 hS => ?_)
  have hP : va_P (gD g) cl0 ws H1 := by rw [← ht9]; exact hB9.1
  have hz_r_2 : r_2 = 0 ∨ r_2 = 1 := hw9
  clear hB9 hz9 hk9 hvm9 ht9 hw9
  generalize H1 = H at hP hS ⊢
  refine lv_if_eq (tgt := 28) hx hb dX2_addTo_7 (by decide) (fun c_3 => ?_) (fun c_3 => ?_)
  · refine lv_aload_n hx hb dX2_addTo_28 rfl (lv_at hl 0 rfl) ?_
    refine va_get (D := gD g) (ci := 2) (v := .int c9_1) (C := RX2) (T := TX2) (N := 12) hx hb hts inX2 hown hK hP k_1 hk_1 rfl 9 (by decide) (hts _ kw_619) (fun _ h9 => h9) rfl dX2_addTo_29 ?_
    have hFc := gfree hD hS hA
    refine va_calli (va_runS (As := [.int c9_1]) (rest := []) ⟨hx, hb, hml, hown, hts⟩ (m_X6_isSwitch l g H.size ws (c9_1) hG ) (va_cwS 1 hts (gd_S kw_630 kw_1233 kw_1207 kw_1232) rfl rfl rfl (by decide +kernel) ⟨Nat.le_of_ble_eq_true rfl, Nat.le_of_ble_eq_true rfl⟩) ⟨gblind, fun U hU hW9 => gmk hU hW9 hP hK hD hex hE hS hFc⟩ rfl rfl hl.1 rfl (lv_room (Nat.le_of_ble_eq_true rfl)) dX2_addTo_32 ⟨Nat.le_of_ble_eq_true rfl, Nat.le_of_ble_eq_true rfl⟩) hS (fun q _ h => hFc q h) hFc (fun r_4 u9 t9 H1 locs ht9 hvm9 hw9 hB9 hz9 hk9 hS => ?_)
    have hP : va_P (gD g) cl0 ws H1 := by rw [← ht9]; exact hB9.1
    have hz_r_4 : r_4 = 0 ∨ r_4 = 1 := hw9
    clear hB9 hz9 hk9 hvm9 ht9 hw9
    generalize H1 = H at hP hS ⊢
    refine lv_if_eq (tgt := 44) hx hb dX2_addTo_35 (by decide) (fun c_5 => ?_) (fun c_5 => ?_)
    · refine lv_aload_n hx hb dX2_addTo_44 rfl (lv_at hl 0 rfl) ?_
      refine va_get (D := gD g) (ci := 2) (v := .int c9_1) (C := RX2) (T := TX2) (N := 12) hx hb hts inX2 hown hK hP k_1 hk_1 rfl 9 (by decide) (hts _ kw_619) (fun _ h9 => h9) rfl dX2_addTo_45 ?_
      have J_237 : ∀ (ws_6 : va_W) (H : Heap) (locs : List Loc) (ls : Array Slot), gE ws ws_6 → gF [(7, 2)] [(7, 0), (7, 1)] none ws ws_6 → Good g ws_6 → va_P (gD g) cl0 ws_6 H → va_D A ws_6 → va_S A s.heap H locs → lv_has ls 2 [] → W p l e (headSpec (wt yX2_addTo cX2_addTo 2 none) ({ frames := 4, cells := 0, slots := 0, locals := 88 })).room s m ([.ref h0, .ref b1] : List Value).toArray below meth c H locs (0) (0) (MQ below (va_Qv (fun (u9 : va_W) => True) (gQ1 g [(7, 2), (7, 4)] [(7, 0), (7, 1), (7, 3)] none A ws) A) ([.ref h0, .ref b1] : List Value).toArray s (0) (0) A) (F0 m 237 ls []) := by
        intro ws_6 H locs ls  E_7 Fr_8 hG hP hD hS hl
        have aa_9 := a_r7_1
        have o_h0 := E_7.1 _ _ o_h0
        refine W.widen (k := 0) (n := 0) (Nat.le_of_ble_eq_true rfl) (Nat.le_of_ble_eq_true rfl) ?_
        exact W.vret hx hb hr (fun t9 ht9 hW9 => ⟨⟨ws_6, rfl, trivial, ⟨E_7, (gF.mo (F' := [(7, 2), (7, 4)]) (C' := [(7, 0), (7, 1), (7, 3)]) (S' := none) Fr_8 (by decide) (by decide) (Or.inr rfl)), hG, by rw [ht9]; exact hP, hD⟩⟩, hS.F ht9⟩) hS.2.2 dX2_addTo_237
      have K_48_225 : W p l e (headSpec (wt yX2_addTo cX2_addTo 2 none) ({ frames := 4, cells := 0, slots := 0, locals := 88 })).room s m ([.ref h0, .ref b1] : List Value).toArray below meth c H locs (0) (0) (MQ below (va_Qv (fun (u9 : va_W) => True) (gQ1 g [(7, 2), (7, 4)] [(7, 0), (7, 1), (7, 3)] none A ws) A) ([.ref h0, .ref b1] : List Value).toArray s (0) (0) A) (F0 m 225 ls []) := by
        refine lv_aload_n hx hb dX2_addTo_225 rfl (lv_at hl 1 rfl) ?_
        refine lv_aload_n hx hb dX2_addTo_226 rfl (lv_at hl 0 rfl) ?_
        refine va_get (D := gD g) (ci := 2) (v := .int c9_1) (C := RX2) (T := TX2) (N := 12) hx hb hts inX2 hown hK hP k_1 hk_1 rfl 9 (by decide) (hts _ kw_619) (fun _ h9 => h9) rfl dX2_addTo_227 ?_
        refine lv_aload_n hx hb dX2_addTo_230 rfl (lv_at hl 0 rfl) ?_
        refine va_get (D := gD g) (ci := 2) (v := .long l10_1) (C := RX2) (T := TX2) (N := 12) hx hb hts inX2 hown hK hP k_1 hk_1 rfl 10 (by decide) (hts _ kw_617) (fun _ h9 => h9) rfl dX2_addTo_231 ?_
        have hFc := gfree hD hS hA
        obtain ⟨k_10, fs_10, hk_10⟩ := gC_of o_b1
        refine va_callv (va_runV (As := [.int c9_1, .long l10_1]) (rest := []) ⟨hx, hb, hml, hown, hts⟩ (m_X8_add l g H.size ws b1 (c9_1) (l10_1) hG o_b1) (cwV 2 hts (gd_V kw_621 kw_1457 kw_1458 kw_782 kw_1456) rfl rfl rfl (by decide +kernel) ⟨Nat.le_of_ble_eq_true rfl, Nat.le_of_ble_eq_true rfl⟩) ⟨gblind, va_recv hK hP (ci := 7) (q0 := k_10) rfl hk_10, fun U hU hW9 => gmk hU hW9 hP hK hD hex hE hS hFc⟩ rfl rfl hl.1 rfl (lv_room (Nat.le_of_ble_eq_true rfl)) dX2_addTo_234 ⟨Nat.le_of_ble_eq_true rfl, Nat.le_of_ble_eq_true rfl⟩) hS (fun q _ h => hFc q h) hFc (fun  ws_11 t9 H1 locs ht9 hvm9 hw9 hB9 hz9 hk9 hS => ?_)
        obtain ⟨E_12, Fr_13, hG, hP1, hD1⟩ := hB9
        have hP : va_P (gD g) cl0 ws_11 H1 := by rw [← ht9]; exact hP1
        have hD : va_D A ws_11 := hD1.weaken (fun _ _ _ h => hFc _ h)
        clear hP1 hD1 hz9 hk9 hvm9 ht9 hw9
        generalize H1 = H at hP hS ⊢
        have aa_16 := a_r7_1
        have o_h0 := E_12.1 _ _ o_h0
        have o_b1 := E_12.1 _ _ o_b1
        exact J_237 ws_11 H locs ls (E_12) ((gF.mo (F' := [(7, 2)]) (C' := [(7, 0), (7, 1)]) (S' := none) Fr_13 (fun _ h => h) (fun _ h => h) (Or.inl rfl))) hG hP hD hS (lv_sub hl [] rfl)
      have K_48_108 : W p l e (headSpec (wt yX2_addTo cX2_addTo 2 none) ({ frames := 4, cells := 0, slots := 0, locals := 88 })).room s m ([.ref h0, .ref b1] : List Value).toArray below meth c H locs (0) (0) (MQ below (va_Qv (fun (u9 : va_W) => True) (gQ1 g [(7, 2), (7, 4)] [(7, 0), (7, 1), (7, 3)] none A ws) A) ([.ref h0, .ref b1] : List Value).toArray s (0) (0) A) (F0 m 108 ls []) := by
        refine lv_aload_n hx hb dX2_addTo_108 rfl (lv_at hl 1 rfl) ?_
        refine lv_bipush (v := 20) hx hb dX2_addTo_109 (by decide) ?_
        refine lv_aload_n hx hb dX2_addTo_111 rfl (lv_at hl 0 rfl) ?_
        refine va_get (D := gD g) (ci := 2) (v := .long l10_1) (C := RX2) (T := TX2) (N := 12) hx hb hts inX2 hown hK hP k_1 hk_1 rfl 10 (by decide) (hts _ kw_617) (fun _ h9 => h9) rfl dX2_addTo_112 ?_
        have hFc := gfree hD hS hA
        obtain ⟨k_17, fs_17, hk_17⟩ := gC_of o_b1
        refine va_callv (va_runV (As := [.int 20, .long l10_1]) (rest := []) ⟨hx, hb, hml, hown, hts⟩ (m_X8_add l g H.size ws b1 (20) (l10_1) hG o_b1) (cwV 2 hts (gd_V kw_621 kw_1457 kw_1458 kw_782 kw_1456) rfl rfl rfl (by decide +kernel) ⟨Nat.le_of_ble_eq_true rfl, Nat.le_of_ble_eq_true rfl⟩) ⟨gblind, va_recv hK hP (ci := 7) (q0 := k_17) rfl hk_17, fun U hU hW9 => gmk hU hW9 hP hK hD hex hE hS hFc⟩ rfl rfl hl.1 rfl (lv_room (Nat.le_of_ble_eq_true rfl)) dX2_addTo_115 ⟨Nat.le_of_ble_eq_true rfl, Nat.le_of_ble_eq_true rfl⟩) hS (fun q _ h => hFc q h) hFc (fun  ws_18 t9 H1 locs ht9 hvm9 hw9 hB9 hz9 hk9 hS => ?_)
        obtain ⟨E_19, Fr_20, hG, hP1, hD1⟩ := hB9
        have hP : va_P (gD g) cl0 ws_18 H1 := by rw [← ht9]; exact hP1
        have hD : va_D A ws_18 := hD1.weaken (fun _ _ _ h => hFc _ h)
        clear hP1 hD1 hz9 hk9 hvm9 ht9 hw9
        generalize H1 = H at hP hS ⊢
        have aa_23 := a_r7_1
        have o_h0 := E_19.1 _ _ o_h0
        have o_b1 := E_19.1 _ _ o_b1
        refine lv_goto (tgt := 237) hx hb dX2_addTo_118 (by decide) ?_
        exact J_237 ws_18 H locs ls (E_19) ((gF.mo (F' := [(7, 2)]) (C' := [(7, 0), (7, 1)]) (S' := none) Fr_20 (fun _ h => h) (fun _ h => h) (Or.inl rfl))) hG hP hD hS (lv_sub hl [] rfl)
      have K_48_121 : W p l e (headSpec (wt yX2_addTo cX2_addTo 2 none) ({ frames := 4, cells := 0, slots := 0, locals := 88 })).room s m ([.ref h0, .ref b1] : List Value).toArray below meth c H locs (0) (0) (MQ below (va_Qv (fun (u9 : va_W) => True) (gQ1 g [(7, 2), (7, 4)] [(7, 0), (7, 1), (7, 3)] none A ws) A) ([.ref h0, .ref b1] : List Value).toArray s (0) (0) A) (F0 m 121 ls []) := by
        refine lv_aload_n hx hb dX2_addTo_121 rfl (lv_at hl 1 rfl) ?_
        refine lv_bipush (v := 17) hx hb dX2_addTo_122 (by decide) ?_
        refine lv_aload_n hx hb dX2_addTo_124 rfl (lv_at hl 0 rfl) ?_
        refine va_get (D := gD g) (ci := 2) (v := .ref r0_1) (C := RX2) (T := TX2) (N := 12) hx hb hts inX2 hown hK hP k_1 hk_1 rfl 0 (by decide) (hts _ kw_632) (fun _ h9 => h9) rfl dX2_addTo_125 ?_
        refine lv_aload_n hx hb dX2_addTo_128 rfl (lv_at hl 0 rfl) ?_
        refine va_get (D := gD g) (ci := 2) (v := .ref r0_1) (C := RX2) (T := TX2) (N := 12) hx hb hts inX2 hown hK hP k_1 hk_1 rfl 0 (by decide) (hts _ kw_632) (fun _ h9 => h9) rfl dX2_addTo_129 ?_
        refine lv_aload_n hx hb dX2_addTo_132 rfl (lv_at hl 0 rfl) ?_
        refine va_get (D := gD g) (ci := 2) (v := .long l10_1) (C := RX2) (T := TX2) (N := 12) hx hb hts inX2 hown hK hP k_1 hk_1 rfl 10 (by decide) (hts _ kw_617) (fun _ h9 => h9) rfl dX2_addTo_133 ?_
        obtain ⟨z_24, ez_24⟩ : ∃ y : Int32, (l10_1 : Int64).toInt32 = y := ⟨_, rfl⟩
        refine lv_l2i (v := z_24) hx hb dX2_addTo_136 ez_24 ?_
        have hFc := gfree hD hS hA
        obtain ⟨k_25, fs_25, hk_25⟩ := gC_of o_r0_1
        refine va_calli (va_runV (As := [.int z_24]) (rest := [.ref r0_1, .int 17, .ref b1]) ⟨hx, hb, hml, hown, hts⟩ (m_X7_entryAt l g H.size ws r0_1 (z_24) hG o_r0_1) (cwV 1 hts (gd_V kw_633 kw_1298 kw_1299 kw_710 kw_1297) rfl rfl rfl (by decide +kernel) ⟨Nat.le_of_ble_eq_true rfl, Nat.le_of_ble_eq_true rfl⟩) ⟨gblind, va_recv hK hP (ci := 6) (q0 := k_25) rfl hk_25, fun U hU hW9 => gmk hU hW9 hP hK hD hex hE hS hFc⟩ rfl rfl hl.1 rfl (lv_room (Nat.le_of_ble_eq_true rfl)) dX2_addTo_137 ⟨Nat.le_of_ble_eq_true rfl, Nat.le_of_ble_eq_true rfl⟩) hS (fun q _ h => hFc q h) hFc (fun r_26 u9 t9 H1 locs ht9 hvm9 hw9 hB9 hz9 hk9 hS => ?_)
        have hP : va_P (gD g) cl0 ws H1 := by rw [← ht9]; exact hB9.1
        clear hB9 hz9 hk9 hvm9 ht9 hw9
        generalize H1 = H at hP hS ⊢
        refine lv_iconst (v := 1) hx hb dX2_addTo_140 (by decide) ?_
        refine lv_iadd hx hb dX2_addTo_141 ?_
        refine lv_topi (fun z_27 ez_27 => ?_)
        have hFc := gfree hD hS hA
        obtain ⟨k_28, fs_28, hk_28⟩ := gC_of o_r0_1
        refine va_calli (va_runV (As := [.int z_27]) (rest := [.int 17, .ref b1]) ⟨hx, hb, hml, hown, hts⟩ (m_X7_s4 l g H.size ws r0_1 (z_27) hG o_r0_1) (cwV 1 hts (gd_V kw_634 kw_1429 kw_1430 kw_710 kw_1428) rfl rfl rfl (by decide +kernel) ⟨Nat.le_of_ble_eq_true rfl, Nat.le_of_ble_eq_true rfl⟩) ⟨gblind, va_recv hK hP (ci := 6) (q0 := k_28) rfl hk_28, fun U hU hW9 => gmk hU hW9 hP hK hD hex hE hS hFc⟩ rfl rfl hl.1 rfl (lv_room (Nat.le_of_ble_eq_true rfl)) dX2_addTo_142 ⟨Nat.le_of_ble_eq_true rfl, Nat.le_of_ble_eq_true rfl⟩) hS (fun q _ h => hFc q h) hFc (fun r_29 u9 t9 H1 locs ht9 hvm9 hw9 hB9 hz9 hk9 hS => ?_)
        have hP : va_P (gD g) cl0 ws H1 := by rw [← ht9]; exact hB9.1
        clear hB9 hz9 hk9 hvm9 ht9 hw9
        generalize H1 = H at hP hS ⊢
        obtain ⟨z_30, ez_30⟩ : ∃ y : Int64, (r_29 : Int32).toInt64 = y := ⟨_, rfl⟩
        refine lv_i2l (v := z_30) hx hb dX2_addTo_145 ez_30 ?_
        have hFc := gfree hD hS hA
        obtain ⟨k_31, fs_31, hk_31⟩ := gC_of o_b1
        refine va_callv (va_runV (As := [.int 17, .long z_30]) (rest := []) ⟨hx, hb, hml, hown, hts⟩ (m_X8_add l g H.size ws b1 (17) (z_30) hG o_b1) (cwV 2 hts (gd_V kw_621 kw_1457 kw_1458 kw_782 kw_1456) rfl rfl rfl (by decide +kernel) ⟨Nat.le_of_ble_eq_true rfl, Nat.le_of_ble_eq_true rfl⟩) ⟨gblind, va_recv hK hP (ci := 7) (q0 := k_31) rfl hk_31, fun U hU hW9 => gmk hU hW9 hP hK hD hex hE hS hFc⟩ rfl rfl hl.1 rfl (lv_room (Nat.le_of_ble_eq_true rfl)) dX2_addTo_146 ⟨Nat.le_of_ble_eq_true rfl, Nat.le_of_ble_eq_true rfl⟩) hS (fun q _ h => hFc q h) hFc (fun  ws_32 t9 H1 locs ht9 hvm9 hw9 hB9 hz9 hk9 hS => ?_)
        obtain ⟨E_33, Fr_34, hG, hP1, hD1⟩ := hB9
        have hP : va_P (gD g) cl0 ws_32 H1 := by rw [← ht9]; exact hP1
        have hD : va_D A ws_32 := hD1.weaken (fun _ _ _ h => hFc _ h)
        clear hP1 hD1 hz9 hk9 hvm9 ht9 hw9
        generalize H1 = H at hP hS ⊢
        have aa_37 := a_r7_1
        have o_h0 := E_33.1 _ _ o_h0
        have o_b1 := E_33.1 _ _ o_b1
        refine lv_goto (tgt := 237) hx hb dX2_addTo_149 (by decide) ?_
        exact J_237 ws_32 H locs ls (E_33) ((gF.mo (F' := [(7, 2)]) (C' := [(7, 0), (7, 1)]) (S' := none) Fr_34 (fun _ h => h) (fun _ h => h) (Or.inl rfl))) hG hP hD hS (lv_sub hl [] rfl)
      have K_48_152 : W p l e (headSpec (wt yX2_addTo cX2_addTo 2 none) ({ frames := 4, cells := 0, slots := 0, locals := 88 })).room s m ([.ref h0, .ref b1] : List Value).toArray below meth c H locs (0) (0) (MQ below (va_Qv (fun (u9 : va_W) => True) (gQ1 g [(7, 2), (7, 4)] [(7, 0), (7, 1), (7, 3)] none A ws) A) ([.ref h0, .ref b1] : List Value).toArray s (0) (0) A) (F0 m 152 ls []) := by
        refine lv_aload_n hx hb dX2_addTo_152 rfl (lv_at hl 1 rfl) ?_
        refine lv_bipush (v := 20) hx hb dX2_addTo_153 (by decide) ?_
        refine lv_aload_n hx hb dX2_addTo_155 rfl (lv_at hl 0 rfl) ?_
        refine lv_aload_n hx hb dX2_addTo_156 rfl (lv_at hl 0 rfl) ?_
        refine va_get (D := gD g) (ci := 2) (v := .ref r0_1) (C := RX2) (T := TX2) (N := 12) hx hb hts inX2 hown hK hP k_1 hk_1 rfl 0 (by decide) (hts _ kw_632) (fun _ h9 => h9) rfl dX2_addTo_157 ?_
        refine lv_aload_n hx hb dX2_addTo_160 rfl (lv_at hl 0 rfl) ?_
        refine va_get (D := gD g) (ci := 2) (v := .long l10_1) (C := RX2) (T := TX2) (N := 12) hx hb hts inX2 hown hK hP k_1 hk_1 rfl 10 (by decide) (hts _ kw_617) (fun _ h9 => h9) rfl dX2_addTo_161 ?_
        obtain ⟨z_38, ez_38⟩ : ∃ y : Int32, (l10_1 : Int64).toInt32 = y := ⟨_, rfl⟩
        refine lv_l2i (v := z_38) hx hb dX2_addTo_164 ez_38 ?_
        have hFc := gfree hD hS hA
        obtain ⟨k_39, fs_39, hk_39⟩ := gC_of o_r0_1
        refine va_calli (va_runV (As := [.int z_38]) (rest := [.ref h0, .int 20, .ref b1]) ⟨hx, hb, hml, hown, hts⟩ (m_X7_entryAt l g H.size ws r0_1 (z_38) hG o_r0_1) (cwV 1 hts (gd_V kw_633 kw_1298 kw_1299 kw_710 kw_1297) rfl rfl rfl (by decide +kernel) ⟨Nat.le_of_ble_eq_true rfl, Nat.le_of_ble_eq_true rfl⟩) ⟨gblind, va_recv hK hP (ci := 6) (q0 := k_39) rfl hk_39, fun U hU hW9 => gmk hU hW9 hP hK hD hex hE hS hFc⟩ rfl rfl hl.1 rfl (lv_room (Nat.le_of_ble_eq_true rfl)) dX2_addTo_165 ⟨Nat.le_of_ble_eq_true rfl, Nat.le_of_ble_eq_true rfl⟩) hS (fun q _ h => hFc q h) hFc (fun r_40 u9 t9 H1 locs ht9 hvm9 hw9 hB9 hz9 hk9 hS => ?_)
        have hP : va_P (gD g) cl0 ws H1 := by rw [← ht9]; exact hB9.1
        clear hB9 hz9 hk9 hvm9 ht9 hw9
        generalize H1 = H at hP hS ⊢
        refine lv_iconst (v := 1) hx hb dX2_addTo_168 (by decide) ?_
        refine lv_iadd hx hb dX2_addTo_169 ?_
        refine lv_topi (fun z_41 ez_41 => ?_)
        have hFc := gfree hD hS hA
        refine va_calll (va_runV (As := [.int z_41]) (rest := [.int 20, .ref b1]) ⟨hx, hb, hml, hown, hts⟩ (m_X2_longAt l g H.size ws h0 (z_41) hG o_h0) (cwV 1 hts (gd_V kw_635 kw_736 kw_737 kw_389 kw_735) rfl rfl rfl (by decide +kernel) ⟨Nat.le_of_ble_eq_true rfl, Nat.le_of_ble_eq_true rfl⟩) ⟨gblind, va_recv hK hP (ci := 2) (q0 := k_1) rfl hk_1, fun U hU hW9 => gmk hU hW9 hP hK hD hex hE hS hFc⟩ rfl rfl hl.1 rfl (lv_room (Nat.le_of_ble_eq_true rfl)) dX2_addTo_170 ⟨Nat.le_of_ble_eq_true rfl, Nat.le_of_ble_eq_true rfl⟩) hS (fun q _ h => hFc q h) hFc (fun r_42 u9 t9 H1 locs ht9 hvm9 hw9 hB9 hz9 hk9 hS => ?_)
        have hP : va_P (gD g) cl0 ws H1 := by rw [← ht9]; exact hB9.1
        clear hB9 hz9 hk9 hvm9 ht9 hw9
        generalize H1 = H at hP hS ⊢
        have hFc := gfree hD hS hA
        obtain ⟨k_43, fs_43, hk_43⟩ := gC_of o_b1
        refine va_callv (va_runV (As := [.int 20, .long r_42]) (rest := []) ⟨hx, hb, hml, hown, hts⟩ (m_X8_add l g H.size ws b1 (20) (r_42) hG o_b1) (cwV 2 hts (gd_V kw_621 kw_1457 kw_1458 kw_782 kw_1456) rfl rfl rfl (by decide +kernel) ⟨Nat.le_of_ble_eq_true rfl, Nat.le_of_ble_eq_true rfl⟩) ⟨gblind, va_recv hK hP (ci := 7) (q0 := k_43) rfl hk_43, fun U hU hW9 => gmk hU hW9 hP hK hD hex hE hS hFc⟩ rfl rfl hl.1 rfl (lv_room (Nat.le_of_ble_eq_true rfl)) dX2_addTo_173 ⟨Nat.le_of_ble_eq_true rfl, Nat.le_of_ble_eq_true rfl⟩) hS (fun q _ h => hFc q h) hFc (fun  ws_44 t9 H1 locs ht9 hvm9 hw9 hB9 hz9 hk9 hS => ?_)
        obtain ⟨E_45, Fr_46, hG, hP1, hD1⟩ := hB9
        have hP : va_P (gD g) cl0 ws_44 H1 := by rw [← ht9]; exact hP1
        have hD : va_D A ws_44 := hD1.weaken (fun _ _ _ h => hFc _ h)
        clear hP1 hD1 hz9 hk9 hvm9 ht9 hw9
        generalize H1 = H at hP hS ⊢
        have aa_49 := a_r7_1
        have o_h0 := E_45.1 _ _ o_h0
        have o_b1 := E_45.1 _ _ o_b1
        refine lv_goto (tgt := 237) hx hb dX2_addTo_176 (by decide) ?_
        exact J_237 ws_44 H locs ls (E_45) ((gF.mo (F' := [(7, 2)]) (C' := [(7, 0), (7, 1)]) (S' := none) Fr_46 (fun _ h => h) (fun _ h => h) (Or.inl rfl))) hG hP hD hS (lv_sub hl [] rfl)
      have K_48_179 : W p l e (headSpec (wt yX2_addTo cX2_addTo 2 none) ({ frames := 4, cells := 0, slots := 0, locals := 88 })).room s m ([.ref h0, .ref b1] : List Value).toArray below meth c H locs (0) (0) (MQ below (va_Qv (fun (u9 : va_W) => True) (gQ1 g [(7, 2), (7, 4)] [(7, 0), (7, 1), (7, 3)] none A ws) A) ([.ref h0, .ref b1] : List Value).toArray s (0) (0) A) (F0 m 179 ls []) := by
        refine lv_aload_n hx hb dX2_addTo_179 rfl (lv_at hl 1 rfl) ?_
        refine lv_aload_n hx hb dX2_addTo_180 rfl (lv_at hl 0 rfl) ?_
        refine va_get (D := gD g) (ci := 2) (v := .int c9_1) (C := RX2) (T := TX2) (N := 12) hx hb hts inX2 hown hK hP k_1 hk_1 rfl 9 (by decide) (hts _ kw_619) (fun _ h9 => h9) rfl dX2_addTo_181 ?_
        refine lv_aload_n hx hb dX2_addTo_184 rfl (lv_at hl 0 rfl) ?_
        refine lv_aload_n hx hb dX2_addTo_185 rfl (lv_at hl 0 rfl) ?_
        refine va_get (D := gD g) (ci := 2) (v := .long l10_1) (C := RX2) (T := TX2) (N := 12) hx hb hts inX2 hown hK hP k_1 hk_1 rfl 10 (by decide) (hts _ kw_617) (fun _ h9 => h9) rfl dX2_addTo_186 ?_
        obtain ⟨z_50, ez_50⟩ : ∃ y : Int32, (l10_1 : Int64).toInt32 = y := ⟨_, rfl⟩
        refine lv_l2i (v := z_50) hx hb dX2_addTo_189 ez_50 ?_
        refine lv_bipush (v := 9) hx hb dX2_addTo_190 (by decide) ?_
        have hFc := gfree hD hS hA
        refine va_calli (va_runV (As := [.int z_50, .int 9]) (rest := [.int c9_1, .ref b1]) ⟨hx, hb, hml, hown, hts⟩ (m_X2_memberOf l g H.size ws h0 (z_50) (9) hG o_h0) (cwV 2 hts (gd_V kw_636 kw_750 kw_751 kw_389 kw_749) rfl rfl rfl (by decide +kernel) ⟨Nat.le_of_ble_eq_true rfl, Nat.le_of_ble_eq_true rfl⟩) ⟨gblind, va_recv hK hP (ci := 2) (q0 := k_1) rfl hk_1, fun U hU hW9 => gmk hU hW9 hP hK hD hex hE hS hFc⟩ rfl rfl hl.1 rfl (lv_room (Nat.le_of_ble_eq_true rfl)) dX2_addTo_192 ⟨Nat.le_of_ble_eq_true rfl, Nat.le_of_ble_eq_true rfl⟩) hS (fun q _ h => hFc q h) hFc (fun r_51 u9 t9 H1 locs ht9 hvm9 hw9 hB9 hz9 hk9 hS => ?_)
        have hP : va_P (gD g) cl0 ws H1 := by rw [← ht9]; exact hB9.1
        clear hB9 hz9 hk9 hvm9 ht9 hw9
        generalize H1 = H at hP hS ⊢
        obtain ⟨z_52, ez_52⟩ : ∃ y : Int64, (r_51 : Int32).toInt64 = y := ⟨_, rfl⟩
        refine lv_i2l (v := z_52) hx hb dX2_addTo_195 ez_52 ?_
        have hFc := gfree hD hS hA
        obtain ⟨k_53, fs_53, hk_53⟩ := gC_of o_b1
        refine va_callv (va_runV (As := [.int c9_1, .long z_52]) (rest := []) ⟨hx, hb, hml, hown, hts⟩ (m_X8_add l g H.size ws b1 (c9_1) (z_52) hG o_b1) (cwV 2 hts (gd_V kw_621 kw_1457 kw_1458 kw_782 kw_1456) rfl rfl rfl (by decide +kernel) ⟨Nat.le_of_ble_eq_true rfl, Nat.le_of_ble_eq_true rfl⟩) ⟨gblind, va_recv hK hP (ci := 7) (q0 := k_53) rfl hk_53, fun U hU hW9 => gmk hU hW9 hP hK hD hex hE hS hFc⟩ rfl rfl hl.1 rfl (lv_room (Nat.le_of_ble_eq_true rfl)) dX2_addTo_196 ⟨Nat.le_of_ble_eq_true rfl, Nat.le_of_ble_eq_true rfl⟩) hS (fun q _ h => hFc q h) hFc (fun  ws_54 t9 H1 locs ht9 hvm9 hw9 hB9 hz9 hk9 hS => ?_)
        obtain ⟨E_55, Fr_56, hG, hP1, hD1⟩ := hB9
        have hP : va_P (gD g) cl0 ws_54 H1 := by rw [← ht9]; exact hP1
        have hD : va_D A ws_54 := hD1.weaken (fun _ _ _ h => hFc _ h)
        clear hP1 hD1 hz9 hk9 hvm9 ht9 hw9
        generalize H1 = H at hP hS ⊢
        have aa_59 := a_r7_1
        have o_h0 := E_55.1 _ _ o_h0
        have o_b1 := E_55.1 _ _ o_b1
        refine lv_goto (tgt := 237) hx hb dX2_addTo_199 (by decide) ?_
        exact J_237 ws_54 H locs ls (E_55) ((gF.mo (F' := [(7, 2)]) (C' := [(7, 0), (7, 1)]) (S' := none) Fr_56 (fun _ h => h) (fun _ h => h) (Or.inl rfl))) hG hP hD hS (lv_sub hl [] rfl)
      have K_48_202 : W p l e (headSpec (wt yX2_addTo cX2_addTo 2 none) ({ frames := 4, cells := 0, slots := 0, locals := 88 })).room s m ([.ref h0, .ref b1] : List Value).toArray below meth c H locs (0) (0) (MQ below (va_Qv (fun (u9 : va_W) => True) (gQ1 g [(7, 2), (7, 4)] [(7, 0), (7, 1), (7, 3)] none A ws) A) ([.ref h0, .ref b1] : List Value).toArray s (0) (0) A) (F0 m 202 ls []) := by
        refine lv_aload_n hx hb dX2_addTo_202 rfl (lv_at hl 1 rfl) ?_
        refine lv_aload_n hx hb dX2_addTo_203 rfl (lv_at hl 0 rfl) ?_
        refine va_get (D := gD g) (ci := 2) (v := .int c9_1) (C := RX2) (T := TX2) (N := 12) hx hb hts inX2 hown hK hP k_1 hk_1 rfl 9 (by decide) (hts _ kw_619) (fun _ h9 => h9) rfl dX2_addTo_204 ?_
        refine lv_aload_n hx hb dX2_addTo_207 rfl (lv_at hl 0 rfl) ?_
        refine lv_aload_n hx hb dX2_addTo_208 rfl (lv_at hl 0 rfl) ?_
        refine va_get (D := gD g) (ci := 2) (v := .long l10_1) (C := RX2) (T := TX2) (N := 12) hx hb hts inX2 hown hK hP k_1 hk_1 rfl 10 (by decide) (hts _ kw_617) (fun _ h9 => h9) rfl dX2_addTo_209 ?_
        obtain ⟨z_60, ez_60⟩ : ∃ y : Int32, (l10_1 : Int64).toInt32 = y := ⟨_, rfl⟩
        refine lv_l2i (v := z_60) hx hb dX2_addTo_212 ez_60 ?_
        refine lv_bipush (v := 10) hx hb dX2_addTo_213 (by decide) ?_
        have hFc := gfree hD hS hA
        refine va_calli (va_runV (As := [.int z_60, .int 10]) (rest := [.int c9_1, .ref b1]) ⟨hx, hb, hml, hown, hts⟩ (m_X2_memberOf l g H.size ws h0 (z_60) (10) hG o_h0) (cwV 2 hts (gd_V kw_636 kw_750 kw_751 kw_389 kw_749) rfl rfl rfl (by decide +kernel) ⟨Nat.le_of_ble_eq_true rfl, Nat.le_of_ble_eq_true rfl⟩) ⟨gblind, va_recv hK hP (ci := 2) (q0 := k_1) rfl hk_1, fun U hU hW9 => gmk hU hW9 hP hK hD hex hE hS hFc⟩ rfl rfl hl.1 rfl (lv_room (Nat.le_of_ble_eq_true rfl)) dX2_addTo_215 ⟨Nat.le_of_ble_eq_true rfl, Nat.le_of_ble_eq_true rfl⟩) hS (fun q _ h => hFc q h) hFc (fun r_61 u9 t9 H1 locs ht9 hvm9 hw9 hB9 hz9 hk9 hS => ?_)
        have hP : va_P (gD g) cl0 ws H1 := by rw [← ht9]; exact hB9.1
        clear hB9 hz9 hk9 hvm9 ht9 hw9
        generalize H1 = H at hP hS ⊢
        obtain ⟨z_62, ez_62⟩ : ∃ y : Int64, (r_61 : Int32).toInt64 = y := ⟨_, rfl⟩
        refine lv_i2l (v := z_62) hx hb dX2_addTo_218 ez_62 ?_
        have hFc := gfree hD hS hA
        obtain ⟨k_63, fs_63, hk_63⟩ := gC_of o_b1
        refine va_callv (va_runV (As := [.int c9_1, .long z_62]) (rest := []) ⟨hx, hb, hml, hown, hts⟩ (m_X8_add l g H.size ws b1 (c9_1) (z_62) hG o_b1) (cwV 2 hts (gd_V kw_621 kw_1457 kw_1458 kw_782 kw_1456) rfl rfl rfl (by decide +kernel) ⟨Nat.le_of_ble_eq_true rfl, Nat.le_of_ble_eq_true rfl⟩) ⟨gblind, va_recv hK hP (ci := 7) (q0 := k_63) rfl hk_63, fun U hU hW9 => gmk hU hW9 hP hK hD hex hE hS hFc⟩ rfl rfl hl.1 rfl (lv_room (Nat.le_of_ble_eq_true rfl)) dX2_addTo_219 ⟨Nat.le_of_ble_eq_true rfl, Nat.le_of_ble_eq_true rfl⟩) hS (fun q _ h => hFc q h) hFc (fun  ws_64 t9 H1 locs ht9 hvm9 hw9 hB9 hz9 hk9 hS => ?_)
        obtain ⟨E_65, Fr_66, hG, hP1, hD1⟩ := hB9
        have hP : va_P (gD g) cl0 ws_64 H1 := by rw [← ht9]; exact hP1
        have hD : va_D A ws_64 := hD1.weaken (fun _ _ _ h => hFc _ h)
        clear hP1 hD1 hz9 hk9 hvm9 ht9 hw9
        generalize H1 = H at hP hS ⊢
        have aa_69 := a_r7_1
        have o_h0 := E_65.1 _ _ o_h0
        have o_b1 := E_65.1 _ _ o_b1
        refine lv_goto (tgt := 237) hx hb dX2_addTo_222 (by decide) ?_
        exact J_237 ws_64 H locs ls (E_65) ((gF.mo (F' := [(7, 2)]) (C' := [(7, 0), (7, 1)]) (S' := none) Fr_66 (fun _ h => h) (fun _ h => h) (Or.inl rfl))) hG hP hD hS (lv_sub hl [] rfl)
      by_cases c9_9 : (c9_1 : Int32).toInt = 9
      · exact lv_lookup (off := 60) (tgt := 108) hx hb dX2_addTo_48 (by decide) (by rw [c9_9]; decide) (by decide) K_48_108
      by_cases c9_19 : (c9_1 : Int32).toInt = 19
      · exact lv_lookup (off := 73) (tgt := 121) hx hb dX2_addTo_48 (by decide) (by rw [c9_19]; decide) (by decide) K_48_121
      by_cases c9_20 : (c9_1 : Int32).toInt = 20
      · exact lv_lookup (off := 104) (tgt := 152) hx hb dX2_addTo_48 (by decide) (by rw [c9_20]; decide) (by decide) K_48_152
      by_cases c9_178 : (c9_1 : Int32).toInt = 178
      · exact lv_lookup (off := 131) (tgt := 179) hx hb dX2_addTo_48 (by decide) (by rw [c9_178]; decide) (by decide) K_48_179
      by_cases c9_179 : (c9_1 : Int32).toInt = 179
      · exact lv_lookup (off := 131) (tgt := 179) hx hb dX2_addTo_48 (by decide) (by rw [c9_179]; decide) (by decide) K_48_179
      by_cases c9_184 : (c9_1 : Int32).toInt = 184
      · exact lv_lookup (off := 154) (tgt := 202) hx hb dX2_addTo_48 (by decide) (by rw [c9_184]; decide) (by decide) K_48_202
      exact lv_lookup (off := 177) (tgt := 225) hx hb dX2_addTo_48 (by decide) (lk_cons c9_9 (lk_cons c9_19 (lk_cons c9_20 (lk_cons c9_178 (lk_cons c9_179 (lk_cons c9_184 lk_nil)))))) (by decide) K_48_225
    · refine lv_aload_n hx hb dX2_addTo_38 rfl (lv_at hl 0 rfl) ?_
      refine lv_aload_n hx hb dX2_addTo_39 rfl (lv_at hl 1 rfl) ?_
      have hFc := gfree hD hS hA
      refine va_callv (va_runV (As := [.ref b1]) (rest := []) ⟨hx, hb, hml, hown, hts⟩ (m_X2_addSwitch l g H.size ws h0 b1 hG o_h0 o_b1) (cwV 1 hts (gd_V kw_631 kw_615 kw_616 kw_389 kw_614) rfl rfl rfl (by decide +kernel) ⟨Nat.le_of_ble_eq_true rfl, Nat.le_of_ble_eq_true rfl⟩) ⟨gblind, va_recv hK hP (ci := 2) (q0 := k_1) rfl hk_1, fun U hU hW9 => gmk hU hW9 hP hK hD hex hE hS hFc⟩ rfl rfl hl.1 rfl (lv_room (Nat.le_of_ble_eq_true rfl)) dX2_addTo_40 ⟨Nat.le_of_ble_eq_true rfl, Nat.le_of_ble_eq_true rfl⟩) hS (fun q _ h => hFc q h) hFc (fun  ws_70 t9 H1 locs ht9 hvm9 hw9 hB9 hz9 hk9 hS => ?_)
      obtain ⟨E_71, Fr_72, hG, hP1, hD1⟩ := hB9
      have hP : va_P (gD g) cl0 ws_70 H1 := by rw [← ht9]; exact hP1
      have hD : va_D A ws_70 := hD1.weaken (fun _ _ _ h => hFc _ h)
      clear hP1 hD1 hz9 hk9 hvm9 ht9 hw9
      generalize H1 = H at hP hS ⊢
      have aa_75 := a_r7_1
      have o_h0 := E_71.1 _ _ o_h0
      have o_b1 := E_71.1 _ _ o_b1
      refine W.widen (k := 0) (n := 0) (Nat.le_of_ble_eq_true rfl) (Nat.le_of_ble_eq_true rfl) ?_
      exact W.vret hx hb hr (fun t9 ht9 hW9 => ⟨⟨ws_70, rfl, trivial, ⟨E_71, Fr_72, hG, by rw [ht9]; exact hP, hD⟩⟩, hS.F ht9⟩) hS.2.2 dX2_addTo_43
  · refine lv_aload_n hx hb dX2_addTo_10 rfl (lv_at hl 1 rfl) ?_
    refine lv_aload_n hx hb dX2_addTo_11 rfl (lv_at hl 0 rfl) ?_
    refine va_get (D := gD g) (ci := 2) (v := .int c9_1) (C := RX2) (T := TX2) (N := 12) hx hb hts inX2 hown hK hP k_1 hk_1 rfl 9 (by decide) (hts _ kw_619) (fun _ h9 => h9) rfl dX2_addTo_12 ?_
    refine lv_aload_n hx hb dX2_addTo_15 rfl (lv_at hl 0 rfl) ?_
    refine lv_aload_n hx hb dX2_addTo_16 rfl (lv_at hl 0 rfl) ?_
    refine va_get (D := gD g) (ci := 2) (v := .long l10_1) (C := RX2) (T := TX2) (N := 12) hx hb hts inX2 hown hK hP k_1 hk_1 rfl 10 (by decide) (hts _ kw_617) (fun _ h9 => h9) rfl dX2_addTo_17 ?_
    have hFc := gfree hD hS hA
    refine va_calli (va_runV (As := [.long l10_1]) (rest := [.int c9_1, .ref b1]) ⟨hx, hb, hml, hown, hts⟩ (m_X2_numberOf l g H.size ws h0 (l10_1) hG o_h0) (cwV 1 hts (gd_V kw_625 kw_761 kw_762 kw_389 kw_760) rfl rfl rfl (by decide +kernel) ⟨Nat.le_of_ble_eq_true rfl, Nat.le_of_ble_eq_true rfl⟩) ⟨gblind, va_recv hK hP (ci := 2) (q0 := k_1) rfl hk_1, fun U hU hW9 => gmk hU hW9 hP hK hD hex hE hS hFc⟩ rfl rfl hl.1 rfl (lv_room (Nat.le_of_ble_eq_true rfl)) dX2_addTo_20 ⟨Nat.le_of_ble_eq_true rfl, Nat.le_of_ble_eq_true rfl⟩) hS (fun q _ h => hFc q h) hFc (fun r_76 u9 t9 H1 locs ht9 hvm9 hw9 hB9 hz9 hk9 hS => ?_)
    have hP : va_P (gD g) cl0 ws H1 := by rw [← ht9]; exact hB9.1
    clear hB9 hz9 hk9 hvm9 ht9 hw9
    generalize H1 = H at hP hS ⊢
    obtain ⟨z_77, ez_77⟩ : ∃ y : Int64, (r_76 : Int32).toInt64 = y := ⟨_, rfl⟩
    refine lv_i2l (v := z_77) hx hb dX2_addTo_23 ez_77 ?_
    have hFc := gfree hD hS hA
    obtain ⟨k_78, fs_78, hk_78⟩ := gC_of o_b1
    refine va_callv (va_runV (As := [.int c9_1, .long z_77]) (rest := []) ⟨hx, hb, hml, hown, hts⟩ (m_X8_add l g H.size ws b1 (c9_1) (z_77) hG o_b1) (cwV 2 hts (gd_V kw_621 kw_1457 kw_1458 kw_782 kw_1456) rfl rfl rfl (by decide +kernel) ⟨Nat.le_of_ble_eq_true rfl, Nat.le_of_ble_eq_true rfl⟩) ⟨gblind, va_recv hK hP (ci := 7) (q0 := k_78) rfl hk_78, fun U hU hW9 => gmk hU hW9 hP hK hD hex hE hS hFc⟩ rfl rfl hl.1 rfl (lv_room (Nat.le_of_ble_eq_true rfl)) dX2_addTo_24 ⟨Nat.le_of_ble_eq_true rfl, Nat.le_of_ble_eq_true rfl⟩) hS (fun q _ h => hFc q h) hFc (fun  ws_79 t9 H1 locs ht9 hvm9 hw9 hB9 hz9 hk9 hS => ?_)
    obtain ⟨E_80, Fr_81, hG, hP1, hD1⟩ := hB9
    have hP : va_P (gD g) cl0 ws_79 H1 := by rw [← ht9]; exact hP1
    have hD : va_D A ws_79 := hD1.weaken (fun _ _ _ h => hFc _ h)
    clear hP1 hD1 hz9 hk9 hvm9 ht9 hw9
    generalize H1 = H at hP hS ⊢
    have aa_84 := a_r7_1
    have o_h0 := E_80.1 _ _ o_h0
    have o_b1 := E_80.1 _ _ o_b1
    refine W.widen (k := 0) (n := 0) (Nat.le_of_ble_eq_true rfl) (Nat.le_of_ble_eq_true rfl) ?_
    exact W.vret hx hb hr (fun t9 ht9 hW9 => ⟨⟨ws_79, rfl, trivial, ⟨E_80, (gF.mo (F' := [(7, 2), (7, 4)]) (C' := [(7, 0), (7, 1), (7, 3)]) (S' := none) Fr_81 (by decide) (by decide) (Or.inl rfl)), hG, by rw [ht9]; exact hP, hD⟩⟩, hS.F ht9⟩) hS.2.2 dX2_addTo_27
set_option maxHeartbeats 1000000 in
set_option maxRecDepth 100000 in
theorem m_X2_limitsHold (l : Launch) (g : Gm) (sz : Nat) (ws : va_W) (h0 : Nat) (hG : Good g ws) (o_h0 : gC ws h0 2) : Met l yX2_limitsHold (wt yX2_limitsHold cX2_limitsHold 2 (some .boolean)) ({ frames := 4, cells := 0, slots := 0, locals := 93 }) (va_Pc [.ref h0] (st_G g sz ws)) (va_Qi (fun (r : Int32) (u9 : va_W) => r = 0 ∨ r = 1) (gQ1 g [(6, 2), (6, 3), (6, 12), (6, 13), (6, 14)] [] none (va_A ws sz) ws) (va_A ws sz)) (0) (0) (va_A ws sz) := by
  refine Met.ofW (cc := cX2_limitsHold) (maxL := 2) (ret := (some .boolean)) (by decide) rfl ?_
  intro p e s m args below meth c s₁ B hml hv
  obtain ⟨rfl, hsz, hP, hK, hD0, hex, hE⟩ := hv
  have hx := B.exec
  have hb := B.bytes
  have hr := B.returns
  have hts0 := atoms_spec (ws := wt yX2_limitsHold cX2_limitsHold 2 (some .boolean)) B.pre
  have hts : ∀ w ∈ tb, w.before _ s = true := fun w h => hts0 w (List.mem_cons_of_mem _ h)
  have hown : s.vm.findClass RX2 = some m.cls := findClass_of_methodNamed B.named
  subst hsz
  have hD := hD0.self (sz := s.heap.size)
  generalize hAe : va_A ws s.heap.size = A at hD hE ⊢
  have hA : ∀ q : Nat, s.heap.size ≤ q → A q := fun q h => by rw [← hAe]; exact Or.inr h
  have hS : va_S A s.heap s.heap [] := va_S.rf
  have hl := lv_entry ([.ref h0]) (n := 2) (Nat.le_of_ble_eq_true rfl)
  rw [lg_entry_eq]
  generalize (lg_sl ([.ref h0]) ++ List.replicate (2 - (lg_sl ([.ref h0])).length) Slot.unset).toArray = ls at hl ⊢
  have hl : lv_has ls 2 [(0, .ref h0)] := hl
  refine lv_iconst (v := 0) hx hb dX2_limitsHold_0 (by decide) ?_
  refine lv_istore_n (lv' := [(1, .int 0), (0, .ref h0)]) hx hb dX2_limitsHold_1 rfl hl (by decide) rfl (fun ls hl => ?_)
  have J_2 : ∀ (n9 : Nat) (v1_1 : Int32) (ws_3 : va_W) (H : Heap) (locs : List Loc) (ls : Array Slot), (2147483647 - v1_1.toInt).toNat = n9 → 0 ≤ v1_1.toInt → gE ws ws_3 → gF [(6, 2), (6, 3), (6, 12), (6, 13), (6, 14)] [] none ws ws_3 → Good g ws_3 → va_P (gD g) cl0 ws_3 H → va_D A ws_3 → va_S A s.heap H locs → lv_has ls 2 [(0, .ref h0), (1, .int v1_1)] → W p l e (headSpec (wt yX2_limitsHold cX2_limitsHold 2 (some .boolean)) ({ frames := 4, cells := 0, slots := 0, locals := 93 })).room s m ([.ref h0] : List Value).toArray below meth c H locs (0) (0) (MQ below (va_Qi (fun (r : Int32) (u9 : va_W) => r = 0 ∨ r = 1) (gQ1 g [(6, 2), (6, 3), (6, 12), (6, 13), (6, 14)] [] none A ws) A) ([.ref h0] : List Value).toArray s (0) (0) A) (F0 m 2 ls []) := by
    intro n9
    induction n9 using Nat.strongRecOn with
    | ind n9 ih_2 =>
      intro v1_1 ws_3 H locs ls hm9 iv_2 E_4 Fr_5 hG hP hD hS hl
      subst hm9
      have o_h0 := E_4.1 _ _ o_h0
      refine lv_iload_n hx hb dX2_limitsHold_2 rfl (lv_at hl 1 rfl) ?_
      refine lv_aload_n hx hb dX2_limitsHold_3 rfl (lv_at hl 0 rfl) ?_
      obtain ⟨k_6, fs9, hk_6⟩ := gC_of o_h0
      obtain ⟨r0_6, c1_6, c2_6, c3_6, c4_6, c5_6, c6_6, r7_6, n7_6, c8_6, c9_6, l10_6, c11_6, rfl, o_r0_6, a_r7_6, f2_6, f3_6, f4_6, -⟩ := (hG.1 _ _ _ _ hk_6).hX2 rfl
      refine va_get (D := gD g) (ci := 2) (v := .ref r0_6) (C := RX2) (T := TX2) (N := 12) hx hb hts inX2 hown hK hP k_6 hk_6 rfl 0 (by decide) (hts _ kw_632) (fun _ h9 => h9) rfl dX2_limitsHold_4 ?_
      obtain ⟨k_7, fs9, hk_7⟩ := gC_of o_r0_6
      obtain ⟨r0_7, n0_7, c1_7, c2_7, c3_7, r4_7, n4_7, c5_7, c6_7, c7_7, c8_7, r9_7, n9_7, r10_7, n10_7, r11_7, n11_7, c12_7, c13_7, c14_7, c15_7, c16_7, rfl, a_r0_7, f1_7, a_r4_7, f3_7, a_r9_7, f5_7, a_r10_7, f7_7, a_r11_7, f9_7, f10_7, f11_7, f12_7, f13_7, f14_7, -⟩ := (hG.1 _ _ _ _ hk_7).hX7 rfl
      refine va_get (D := gD g) (ci := 6) (v := .int c8_7) (C := RX7) (T := TX7) (N := 17) hx hb hts inX7 hown hK hP k_7 hk_7 rfl 8 (by decide) (hts _ kw_646) (fun _ h9 => h9) rfl dX2_limitsHold_7 ?_
      have J_83 : ∀  (H : Heap) (locs : List Loc) (ls : Array Slot), va_P (gD g) cl0 ws_3 H → va_D A ws_3 → va_S A s.heap H locs → lv_has ls 2 [] → W p l e (headSpec (wt yX2_limitsHold cX2_limitsHold 2 (some .boolean)) ({ frames := 4, cells := 0, slots := 0, locals := 93 })).room s m ([.ref h0] : List Value).toArray below meth c H locs (0) (0) (MQ below (va_Qi (fun (r : Int32) (u9 : va_W) => r = 0 ∨ r = 1) (gQ1 g [(6, 2), (6, 3), (6, 12), (6, 13), (6, 14)] [] none A ws) A) ([.ref h0] : List Value).toArray s (0) (0) A) (F0 m 83 ls []) := by
        intro  H locs ls  hP hD hS hl
        refine lv_iconst (v := 1) hx hb dX2_limitsHold_83 (by decide) ?_
        refine W.widen (k := 0) (n := 0) (Nat.le_of_ble_eq_true rfl) (Nat.le_of_ble_eq_true rfl) ?_
        exact W.zret (v := 1) hx hb hr (nz (Or.inr rfl)) (fun t9 ht9 hW9 => ⟨⟨_, ws_3, rfl, (Or.inr rfl), ⟨E_4, Fr_5, hG, by rw [ht9]; exact hP, hD⟩⟩, hS.F ht9⟩) hS.2.2 dX2_limitsHold_84
      refine lv_icmp_ge (tgt := 83) hx hb dX2_limitsHold_10 (by decide) (fun c_10 => ?_) (fun c_10 => ?_)
      · exact J_83  H locs ls  hP hD hS (lv_sub hl [] rfl)
      · refine lv_iload_n hx hb dX2_limitsHold_13 rfl (lv_at hl 1 rfl) ?_
        refine lv_bipush (v := 24) hx hb dX2_limitsHold_14 (by decide) ?_
        refine lv_icmp_ge (tgt := 83) hx hb dX2_limitsHold_16 (by decide) (fun c_11 => ?_) (fun c_11 => ?_)
        · exact J_83  H locs ls  hP hD hS (lv_sub hl [] rfl)
        · refine lv_aload_n hx hb dX2_limitsHold_19 rfl (lv_at hl 0 rfl) ?_
          refine va_get (D := gD g) (ci := 2) (v := .ref r0_6) (C := RX2) (T := TX2) (N := 12) hx hb hts inX2 hown hK hP k_6 hk_6 rfl 0 (by decide) (hts _ kw_632) (fun _ h9 => h9) rfl dX2_limitsHold_20 ?_
          refine lv_aload_n hx hb dX2_limitsHold_23 rfl (lv_at hl 0 rfl) ?_
          refine va_get (D := gD g) (ci := 2) (v := .ref r0_6) (C := RX2) (T := TX2) (N := 12) hx hb hts inX2 hown hK hP k_6 hk_6 rfl 0 (by decide) (hts _ kw_632) (fun _ h9 => h9) rfl dX2_limitsHold_24 ?_
          refine lv_aload_n hx hb dX2_limitsHold_27 rfl (lv_at hl 0 rfl) ?_
          refine va_get (D := gD g) (ci := 2) (v := .ref r0_6) (C := RX2) (T := TX2) (N := 12) hx hb hts inX2 hown hK hP k_6 hk_6 rfl 0 (by decide) (hts _ kw_632) (fun _ h9 => h9) rfl dX2_limitsHold_28 ?_
          refine va_get (D := gD g) (ci := 6) (v := .int c7_7) (C := RX7) (T := TX7) (N := 17) hx hb hts inX7 hown hK hP k_7 hk_7 rfl 7 (by decide) (hts _ kw_645) (fun _ h9 => h9) rfl dX2_limitsHold_31 ?_
          refine lv_iload_n hx hb dX2_limitsHold_34 rfl (lv_at hl 1 rfl) ?_
          refine lv_iadd hx hb dX2_limitsHold_35 ?_
          refine lv_topi (fun z_12 ez_12 => ?_)
          have hFc := gfree hD hS hA
          refine va_calli (va_runV (As := [.int z_12]) (rest := [.ref r0_6]) ⟨hx, hb, hml, hown, hts⟩ (m_X7_typeOf l g H.size ws_3 r0_6 (z_12) hG o_r0_6) (cwV 1 hts (gd_V kw_658 kw_1438 kw_1439 kw_710 kw_1437) rfl rfl rfl (by decide +kernel) ⟨Nat.le_of_ble_eq_true rfl, Nat.le_of_ble_eq_true rfl⟩) ⟨gblind, va_recv hK hP (ci := 6) (q0 := k_7) rfl hk_7, fun U hU hW9 => gmk hU hW9 hP hK hD hex hE hS hFc⟩ rfl rfl hl.1 rfl (lv_room (Nat.le_of_ble_eq_true rfl)) dX2_limitsHold_36 ⟨Nat.le_of_ble_eq_true rfl, Nat.le_of_ble_eq_true rfl⟩) hS (fun q _ h => hFc q h) hFc (fun r_13 u9 t9 H1 locs ht9 hvm9 hw9 hB9 hz9 hk9 hS => ?_)
          have hP : va_P (gD g) cl0 ws_3 H1 := by rw [← ht9]; exact hB9.1
          clear hB9 hz9 hk9 hvm9 ht9 hw9
          generalize H1 = H at hP hS ⊢
          have hFc := gfree hD hS hA
          refine va_calli (va_runV (As := [.int r_13]) (rest := []) ⟨hx, hb, hml, hown, hts⟩ (m_X7_isMethodType l g H.size ws_3 r0_6 (r_13) hG o_r0_6) (cwV 1 hts (gd_V kw_664 kw_1344 kw_1345 kw_710 kw_1343) rfl rfl rfl (by decide +kernel) ⟨Nat.le_of_ble_eq_true rfl, Nat.le_of_ble_eq_true rfl⟩) ⟨gblind, va_recv hK hP (ci := 6) (q0 := k_7) rfl hk_7, fun U hU hW9 => gmk hU hW9 hP hK hD hex hE hS hFc⟩ rfl rfl hl.1 rfl (lv_room (Nat.le_of_ble_eq_true rfl)) dX2_limitsHold_39 ⟨Nat.le_of_ble_eq_true rfl, Nat.le_of_ble_eq_true rfl⟩) hS (fun q _ h => hFc q h) hFc (fun r_14 ws_15 t9 H1 locs ht9 hvm9 hw9 hB9 hz9 hk9 hS => ?_)
          obtain ⟨E_16, Fr_17, hG, hP1, hD1⟩ := hB9
          have hP : va_P (gD g) cl0 ws_15 H1 := by rw [← ht9]; exact hP1
          have hD : va_D A ws_15 := hD1.weaken (fun _ _ _ h => hFc _ h)
          have hz_r_14 : r_14 = 0 ∨ r_14 = 1 := hw9
          clear hP1 hD1 hz9 hk9 hvm9 ht9 hw9
          generalize H1 = H at hP hS ⊢
          have aa_20 := a_r7_6
          have aa_21 := a_r0_7
          have aa_22 := a_r4_7
          have aa_23 := a_r9_7
          have aa_24 := a_r10_7
          have aa_25 := a_r11_7
          have o_h0 := E_16.1 _ _ o_h0
          refine lv_pop hx hb dX2_limitsHold_42 rfl ?_
          refine lv_aload_n hx hb dX2_limitsHold_43 rfl (lv_at hl 0 rfl) ?_
          refine lv_aload_n hx hb dX2_limitsHold_44 rfl (lv_at hl 0 rfl) ?_
          obtain ⟨fs9, hk_26, hq_26⟩ := ((gF.a (F' := [(6, 12), (6, 13), (6, 14)]) Fr_17 (fun _ h => h))) _ _ _ hk_6
          obtain ⟨r0_26, c1_26, c2_26, c3_26, c4_26, c5_26, c6_26, r7_26, n7_26, c8_26, c9_26, l10_26, c11_26, rfl, o_r0_26, a_r7_26, f2_26, f3_26, f4_26, -⟩ := (hG.1 _ _ _ _ hk_26).hX2 rfl
          obtain rfl := fe_r (hq_26 0 (by decide))
          have o_r0_6 := o_r0_26
          refine va_get (D := gD g) (ci := 2) (v := .ref r0_6) (C := RX2) (T := TX2) (N := 12) hx hb hts inX2 hown hK hP k_6 hk_26 rfl 0 (by decide) (hts _ kw_632) (fun _ h9 => h9) rfl dX2_limitsHold_45 ?_
          obtain ⟨fs9, hk_27, hq_27⟩ := ((gF.a (F' := [(6, 12), (6, 13), (6, 14)]) Fr_17 (fun _ h => h))) _ _ _ hk_7
          obtain ⟨r0_27, n0_27, c1_27, c2_27, c3_27, r4_27, n4_27, c5_27, c6_27, c7_27, c8_27, r9_27, n9_27, r10_27, n10_27, r11_27, n11_27, c12_27, c13_27, c14_27, c15_27, c16_27, rfl, a_r0_27, f1_27, a_r4_27, f3_27, a_r9_27, f5_27, a_r10_27, f7_27, a_r11_27, f9_27, f10_27, f11_27, f12_27, f13_27, f14_27, -⟩ := (hG.1 _ _ _ _ hk_27).hX7 rfl
          obtain rfl := fe_i (hq_27 7 (by decide))
          obtain rfl := fe_i (hq_27 8 (by decide))
          obtain rfl := fe_r (hq_27 10 (by decide))
          have hn9 := gI_n hD ((E_16).1 _ _ aa_24) a_r10_27
          subst hn9
          have a_r10_7 := a_r10_27
          obtain rfl := fe_r (hq_27 11 (by decide))
          have hn9 := gI_n hD ((E_16).1 _ _ aa_25) a_r11_27
          subst hn9
          have a_r11_7 := a_r11_27
          refine va_get (D := gD g) (ci := 6) (v := .ref r10_7) (C := RX7) (T := TX7) (N := 17) hx hb hts inX7 hown hK hP k_7 hk_27 rfl 10 (by decide) (hts _ kw_731) (fun _ h9 => h9) rfl dX2_limitsHold_48 ?_
          refine lv_iload_n hx hb dX2_limitsHold_51 rfl (lv_at hl 1 rfl) ?_
          obtain ⟨k_28, f_28, hk_28⟩ := gI_of a_r10_7
          refine va_iald hx hb hK hP k_28 1 hk_28 rfl (i_in2 (by have e24 : (24 : Int32).toInt = 24 := (by decide); have q_iv_2 := iv_2; have q_f7_7 := f7_7; have q_f13_7 := f13_7; have q_c_10 := i_nle c_10; have q_c_11 := i_nle c_11; obtain ⟨u_z_12, q_z_12⟩ := i_add ez_12; have g_c7_7 := i_rg c7_7; have g_c8_7 := i_rg c8_7; have g_v1_1 := i_rg v1_1; have g_z_12 := i_rg z_12; omega)) dX2_limitsHold_52 ?_
          refine lv_topi (fun z_29 ez_29 => ?_)
          refine lv_aload_n hx hb dX2_limitsHold_53 rfl (lv_at hl 0 rfl) ?_
          refine va_get (D := gD g) (ci := 2) (v := .ref r0_6) (C := RX2) (T := TX2) (N := 12) hx hb hts inX2 hown hK hP k_6 hk_26 rfl 0 (by decide) (hts _ kw_632) (fun _ h9 => h9) rfl dX2_limitsHold_54 ?_
          refine va_get (D := gD g) (ci := 6) (v := .ref r11_7) (C := RX7) (T := TX7) (N := 17) hx hb hts inX7 hown hK hP k_7 hk_27 rfl 11 (by decide) (hts _ kw_732) (fun _ h9 => h9) rfl dX2_limitsHold_57 ?_
          refine lv_iload_n hx hb dX2_limitsHold_60 rfl (lv_at hl 1 rfl) ?_
          obtain ⟨k_30, f_30, hk_30⟩ := gI_of a_r11_7
          refine va_iald hx hb hK hP k_30 1 hk_30 rfl (i_in2 (by have e24 : (24 : Int32).toInt = 24 := (by decide); have q_iv_2 := iv_2; have q_f9_7 := f9_7; have q_f14_7 := f14_7; have q_c_10 := i_nle c_10; have q_c_11 := i_nle c_11; obtain ⟨u_z_12, q_z_12⟩ := i_add ez_12; have g_c7_7 := i_rg c7_7; have g_c8_7 := i_rg c8_7; have g_v1_1 := i_rg v1_1; have g_z_12 := i_rg z_12; omega)) dX2_limitsHold_61 ?_
          refine lv_topi (fun z_31 ez_31 => ?_)
          refine lv_aload_n hx hb dX2_limitsHold_62 rfl (lv_at hl 0 rfl) ?_
          refine va_get (D := gD g) (ci := 2) (v := .ref r0_6) (C := RX2) (T := TX2) (N := 12) hx hb hts inX2 hown hK hP k_6 hk_26 rfl 0 (by decide) (hts _ kw_632) (fun _ h9 => h9) rfl dX2_limitsHold_63 ?_
          refine va_get (D := gD g) (ci := 6) (v := .int c13_27) (C := RX7) (T := TX7) (N := 17) hx hb hts inX7 hown hK hP k_7 hk_27 rfl 13 (by decide) (hts _ kw_733) (fun _ h9 => h9) rfl dX2_limitsHold_66 ?_
          have hFc := gfree hD hS hA
          refine va_calli (va_runV (As := [.int z_29, .int z_31, .int c13_27]) (rest := []) ⟨hx, hb, hml, hown, hts⟩ (m_X2_headHolds l g H.size ws_15 h0 (z_29) (z_31) (c13_27) hG o_h0) (cwV 3 hts (gd_V kw_734 kw_701 kw_702 kw_389 kw_700) rfl rfl rfl (by decide +kernel) ⟨Nat.le_of_ble_eq_true rfl, Nat.le_of_ble_eq_true rfl⟩) ⟨gblind, va_recv hK hP (ci := 2) (q0 := k_6) rfl hk_26, fun U hU hW9 => gmk hU hW9 hP hK hD hex hE hS hFc⟩ rfl rfl hl.1 rfl (lv_room (Nat.le_of_ble_eq_true rfl)) dX2_limitsHold_69 ⟨Nat.le_of_ble_eq_true rfl, Nat.le_of_ble_eq_true rfl⟩) hS (fun q _ h => hFc q h) hFc (fun r_32 ws_33 t9 H1 locs ht9 hvm9 hw9 hB9 hz9 hk9 hS => ?_)
          obtain ⟨E_34, Fr_35, hG, hP1, hD1⟩ := hB9
          have hP : va_P (gD g) cl0 ws_33 H1 := by rw [← ht9]; exact hP1
          have hD : va_D A ws_33 := hD1.weaken (fun _ _ _ h => hFc _ h)
          have hz_r_32 : r_32 = 0 ∨ r_32 = 1 := hw9
          clear hP1 hD1 hz9 hk9 hvm9 ht9 hw9
          generalize H1 = H at hP hS ⊢
          have aa_38 := a_r7_26
          have aa_39 := a_r0_27
          have aa_40 := a_r4_27
          have aa_41 := a_r9_27
          have aa_42 := a_r10_7
          have aa_43 := a_r11_7
          have o_h0 := E_34.1 _ _ o_h0
          refine lv_if_ne (tgt := 77) hx hb dX2_limitsHold_72 (by decide) (fun c_44 => ?_) (fun c_44 => ?_)
          · obtain ⟨z_45, ez_45⟩ : ∃ z : Int32, v1_1 + Int32.ofInt 1 = z := ⟨_, rfl⟩
            refine lv_iinc (v := z_45) (lv' := [(1, .int z_45), (0, .ref h0)]) hx hb dX2_limitsHold_77 hl (k := 1) rfl ez_45 (by decide) rfl (fun ls hl => ?_)
            refine lv_goto (tgt := 2) hx hb dX2_limitsHold_80 (by decide) ?_
            exact ih_2 _ (by have e24 : (24 : Int32).toInt = 24 := (by decide); obtain ⟨u_z_45, q_z_45⟩ := i_iz ez_45 (by decide) (by decide); have q_iv_2 := iv_2; have q_c_10 := i_nle c_10; have q_c_11 := i_nle c_11; obtain ⟨u_z_12, q_z_12⟩ := i_add ez_12; have g_c7_7 := i_rg c7_7; have g_c8_7 := i_rg c8_7; have g_v1_1 := i_rg v1_1; have g_z_12 := i_rg z_12; have g_z_45 := i_rg z_45; omega) (z_45) ws_33 H locs ls rfl (by have e24 : (24 : Int32).toInt = 24 := (by decide); obtain ⟨u_z_45, q_z_45⟩ := i_iz ez_45 (by decide) (by decide); have q_iv_2 := iv_2; have q_c_10 := i_nle c_10; have q_c_11 := i_nle c_11; obtain ⟨u_z_12, q_z_12⟩ := i_add ez_12; have g_c7_7 := i_rg c7_7; have g_c8_7 := i_rg c8_7; have g_v1_1 := i_rg v1_1; have g_z_12 := i_rg z_12; have g_z_45 := i_rg z_45; omega) ((E_4.tr (E_16.tr E_34))) ((gF.tr Fr_5 (gF.tr (gF.mo (F' := [(6, 2), (6, 3), (6, 12), (6, 13), (6, 14)]) (C' := []) (S' := none) Fr_17 (by decide) (fun _ h => h) (Or.inr rfl)) (gF.mo (F' := [(6, 2), (6, 3), (6, 12), (6, 13), (6, 14)]) (C' := []) (S' := none) Fr_35 (by decide) (fun _ h => h) (Or.inr rfl))))) hG hP hD hS (lv_sub hl [1, 0] rfl)
          · refine lv_iconst (v := 0) hx hb dX2_limitsHold_75 (by decide) ?_
            refine W.widen (k := 0) (n := 0) (Nat.le_of_ble_eq_true rfl) (Nat.le_of_ble_eq_true rfl) ?_
            exact W.zret (v := 0) hx hb hr (nz (Or.inl rfl)) (fun t9 ht9 hW9 => ⟨⟨_, ws_33, rfl, (Or.inl rfl), ⟨(E_4.tr (E_16.tr E_34)), (gF.tr Fr_5 (gF.tr (gF.mo (F' := [(6, 2), (6, 3), (6, 12), (6, 13), (6, 14)]) (C' := []) (S' := none) Fr_17 (by decide) (fun _ h => h) (Or.inr rfl)) (gF.mo (F' := [(6, 2), (6, 3), (6, 12), (6, 13), (6, 14)]) (C' := []) (S' := none) Fr_35 (by decide) (fun _ h => h) (Or.inr rfl)))), hG, by rw [ht9]; exact hP, hD⟩⟩, hS.F ht9⟩) hS.2.2 dX2_limitsHold_76
  exact J_2 _ (0) ws _ _ ls rfl (by have e0 : (0 : Int32).toInt = 0 := (by decide); omega) (gE.rf) (gF.rf) hG hP hD hS (lv_sub hl [1, 0] rfl)
set_option maxHeartbeats 1000000 in
set_option maxRecDepth 100000 in
theorem m_X2_pointersHold (l : Launch) (g : Gm) (H0 : Heap) (ws : va_W) (h0 : Nat) (hG : Good g ws) (o_h0 : gC ws h0 2) : Met l yX2_pointersHold (wt yX2_pointersHold cX2_pointersHold 3 (some .boolean)) ({ frames := 7, cells := PC ws + (0), slots := PS ws + (0), locals := 153 }) (va_Pc [.ref h0] (st_H g H0 ws)) (va_Qi (fun (r : Int32) (u9 : va_W) => r = 0 ∨ r = 1) (gQ2 g [(2, 1), (2, 2), (2, 3), (2, 4), (2, 5), (2, 6), (2, 8), (2, 9), (2, 10), (2, 11), (6, 2), (6, 3)] [(2, 7)] none (va_A ws H0.size) ws H0 (0) (0)) (va_A ws H0.size)) (PC ws + (0)) (PS ws + (0)) (va_A ws H0.size) := by
  refine Met.ofW (cc := cX2_pointersHold) (maxL := 3) (ret := (some .boolean)) (by decide) rfl ?_
  intro p e s m args below meth c s₁ B hml hv
  obtain ⟨rfl, hH0, hsz, hP, hK, hD0, hex, hE⟩ := hv
  have hx := B.exec
  have hb := B.bytes
  have hr := B.returns
  have hts0 := atoms_spec (ws := wt yX2_pointersHold cX2_pointersHold 3 (some .boolean)) B.pre
  have hts : ∀ w ∈ tb, w.before _ s = true := fun w h => hts0 w (List.mem_cons_of_mem _ h)
  have hown : s.vm.findClass RX2 = some m.cls := findClass_of_methodNamed B.named
  subst hH0
  have hD := hD0.self (sz := s.heap.size)
  generalize hAe : va_A ws s.heap.size = A at hD hE ⊢
  have hA : ∀ q : Nat, s.heap.size ≤ q → A q := fun q h => by rw [← hAe]; exact Or.inr h
  have hS : va_S A s.heap s.heap [] := va_S.rf
  have hl := lv_entry ([.ref h0]) (n := 3) (Nat.le_of_ble_eq_true rfl)
  rw [lg_entry_eq]
  generalize (lg_sl ([.ref h0]) ++ List.replicate (3 - (lg_sl ([.ref h0])).length) Slot.unset).toArray = ls at hl ⊢
  have hl : lv_has ls 3 [(0, .ref h0)] := hl
  refine lv_iconst (v := 0) hx hb dX2_pointersHold_0 (by decide) ?_
  refine lv_istore_n (lv' := [(1, .int 0), (0, .ref h0)]) hx hb dX2_pointersHold_1 rfl hl (by decide) rfl (fun ls hl => ?_)
  have J_2 : ∀ (n9 : Nat) (v1_1 : Int32) (dc_2_1 : Nat) (ds_2_1 : Nat) (ws_3 : va_W) (H : Heap) (locs : List Loc) (ls : Array Slot), (2147483647 - v1_1.toInt).toNat = n9 → 0 ≤ v1_1.toInt → gE ws ws_3 → gF [(2, 1), (2, 2), (2, 3), (2, 4), (2, 5), (2, 6), (2, 8), (2, 9), (2, 10), (2, 11)] [(2, 7)] none ws ws_3 → Good g ws_3 → dc_2_1 + PC ws_3 ≤ PC ws + (0) → ds_2_1 + PS ws_3 ≤ PS ws + (0) → va_P (gD g) cl0 ws_3 H → va_D A ws_3 → va_S A s.heap H locs → lv_has ls 3 [(0, .ref h0), (1, .int v1_1)] → W p l e (headSpec (wt yX2_pointersHold cX2_pointersHold 3 (some .boolean)) ({ frames := 7, cells := PC ws + (0), slots := PS ws + (0), locals := 153 })).room s m ([.ref h0] : List Value).toArray below meth c H locs (dc_2_1) (ds_2_1) (MQ below (va_Qi (fun (r : Int32) (u9 : va_W) => r = 0 ∨ r = 1) (gQ2 g [(2, 1), (2, 2), (2, 3), (2, 4), (2, 5), (2, 6), (2, 8), (2, 9), (2, 10), (2, 11), (6, 2), (6, 3)] [(2, 7)] none A ws s.heap (0) (0)) A) ([.ref h0] : List Value).toArray s (PC ws + (0)) (PS ws + (0)) A) (F0 m 2 ls []) := by
    intro n9
    induction n9 using Nat.strongRecOn with
    | ind n9 ih_2 =>
      intro v1_1 dc_2_1 ds_2_1 ws_3 H locs ls hm9 iv_2 E_4 Fr_5 hG hc9 hs9 hP hD hS hl
      subst hm9
      have o_h0 := E_4.1 _ _ o_h0
      refine lv_iload_n hx hb dX2_pointersHold_2 rfl (lv_at hl 1 rfl) ?_
      refine lv_aload_n hx hb dX2_pointersHold_3 rfl (lv_at hl 0 rfl) ?_
      obtain ⟨k_6, fs9, hk_6⟩ := gC_of o_h0
      obtain ⟨r0_6, c1_6, c2_6, c3_6, c4_6, c5_6, c6_6, r7_6, n7_6, c8_6, c9_6, l10_6, c11_6, rfl, o_r0_6, a_r7_6, f2_6, f3_6, f4_6, -⟩ := (hG.1 _ _ _ _ hk_6).hX2 rfl
      refine va_get (D := gD g) (ci := 2) (v := .ref r0_6) (C := RX2) (T := TX2) (N := 12) hx hb hts inX2 hown hK hP k_6 hk_6 rfl 0 (by decide) (hts _ kw_632) (fun _ h9 => h9) rfl dX2_pointersHold_4 ?_
      obtain ⟨k_7, fs9, hk_7⟩ := gC_of o_r0_6
      obtain ⟨r0_7, n0_7, c1_7, c2_7, c3_7, r4_7, n4_7, c5_7, c6_7, c7_7, c8_7, r9_7, n9_7, r10_7, n10_7, r11_7, n11_7, c12_7, c13_7, c14_7, c15_7, c16_7, rfl, a_r0_7, f1_7, a_r4_7, f3_7, a_r9_7, f5_7, a_r10_7, f7_7, a_r11_7, f9_7, f10_7, f11_7, f12_7, f13_7, f14_7, -⟩ := (hG.1 _ _ _ _ hk_7).hX7 rfl
      refine va_get (D := gD g) (ci := 6) (v := .int c8_7) (C := RX7) (T := TX7) (N := 17) hx hb hts inX7 hown hK hP k_7 hk_7 rfl 8 (by decide) (hts _ kw_646) (fun _ h9 => h9) rfl dX2_pointersHold_7 ?_
      refine lv_icmp_ge (tgt := 132) hx hb dX2_pointersHold_10 (by decide) (fun c_8 => ?_) (fun c_8 => ?_)
      · refine lv_iconst (v := 1) hx hb dX2_pointersHold_132 (by decide) ?_
        refine W_led (fun hLd => ?_)
        have hcl : dc_2_1 + PC ws_3 ≤ PC ws + (0) := (by omega)
        have hsl : ds_2_1 + PS ws_3 ≤ PS ws + (0) := (by omega)
        refine W.widen (k := PC ws + (0)) (n := PS ws + (0)) (by omega) (by omega) ?_
        exact W.zret (v := 1) hx hb hr (nz (Or.inr rfl)) (fun t9 ht9 hW9 => ⟨⟨_, ws_3, rfl, (Or.inr rfl), ⟨E_4, (gF.mo (F' := [(2, 1), (2, 2), (2, 3), (2, 4), (2, 5), (2, 6), (2, 8), (2, 9), (2, 10), (2, 11), (6, 2), (6, 3)]) (C' := [(2, 7)]) (S' := none) Fr_5 (by decide) (fun _ h => h) (Or.inr rfl)), hG, by rw [ht9]; exact hP, hD, _, _, by rw [ht9]; exact hLd, hcl, hsl⟩⟩, hS.F ht9⟩) hS.2.2 dX2_pointersHold_133
      · refine lv_aload_n hx hb dX2_pointersHold_13 rfl (lv_at hl 0 rfl) ?_
        refine lv_iload_n hx hb dX2_pointersHold_14 rfl (lv_at hl 1 rfl) ?_
        have hFc := gfree hD hS hA
        refine va_callv (va_runV (As := [.int v1_1]) (rest := []) ⟨hx, hb, hml, hown, hts⟩ (m_X2_lookAt l g H.size ws_3 h0 (v1_1) hG o_h0) (cwV 1 hts (gd_V kw_715 kw_739 kw_740 kw_389 kw_738) rfl rfl rfl (by decide +kernel) ⟨Nat.le_of_ble_eq_true rfl, Nat.le_of_ble_eq_true rfl⟩) ⟨gblind, va_recv hK hP (ci := 2) (q0 := k_6) rfl hk_6, fun U hU hW9 => gmk hU hW9 hP hK hD hex hE hS hFc⟩ rfl rfl hl.1 rfl (lv_room (Nat.le_of_ble_eq_true rfl)) dX2_pointersHold_15 ⟨(show dc_2_1 + 0 ≤ PC ws + (0) from (by omega)), (show ds_2_1 + 0 ≤ PS ws + (0) from (by omega))⟩) hS (fun q _ h => hFc q h) hFc (fun  ws_9 t9 H1 locs ht9 hvm9 hw9 hB9 hz9 hk9 hS => ?_)
        obtain ⟨E_10, Fr_11, hG, hP1, hD1⟩ := hB9
        have hP : va_P (gD g) cl0 ws_9 H1 := by rw [← ht9]; exact hP1
        have hD : va_D A ws_9 := hD1.weaken (fun _ _ _ h => hFc _ h)
        clear hP1 hD1 hz9 hk9 hvm9 ht9 hw9
        generalize H1 = H at hP hS ⊢
        have aa_14 := a_r7_6
        have aa_15 := a_r0_7
        have aa_16 := a_r4_7
        have aa_17 := a_r9_7
        have aa_18 := a_r10_7
        have aa_19 := a_r11_7
        have o_h0 := E_10.1 _ _ o_h0
        have pp_20 := Fr_11.pp
        refine lv_aload_n hx hb dX2_pointersHold_18 rfl (lv_at hl 0 rfl) ?_
        have hFc := gfree hD hS hA
        obtain ⟨k_21, fs_21, hk_21⟩ := gC_of o_h0
        refine va_callv (va_runV (As := []) (rest := []) ⟨hx, hb, hml, hown, hts⟩ (m_X2_numberInstructions l g H.size ws_9 h0 hG o_h0) (cwV 0 hts (gd_V kw_768 kw_755 kw_756 kw_389 kw_754) rfl rfl rfl (by decide +kernel) ⟨Nat.le_of_ble_eq_true rfl, Nat.le_of_ble_eq_true rfl⟩) ⟨gblind, va_recv hK hP (ci := 2) (q0 := k_21) rfl hk_21, fun U hU hW9 => gmk hU hW9 hP hK hD hex hE hS hFc⟩ rfl rfl hl.1 rfl (lv_room (Nat.le_of_ble_eq_true rfl)) dX2_pointersHold_19 ⟨(show dc_2_1 + 0 ≤ PC ws + (0) from (by omega)), (show ds_2_1 + 0 ≤ PS ws + (0) from (by omega))⟩) hS (fun q _ h => hFc q h) hFc (fun  ws_22 t9 H1 locs ht9 hvm9 hw9 hB9 hz9 hk9 hS => ?_)
        obtain ⟨E_23, Fr_24, hG, hP1, hD1⟩ := hB9
        have hP : va_P (gD g) cl0 ws_22 H1 := by rw [← ht9]; exact hP1
        have hD : va_D A ws_22 := hD1.weaken (fun _ _ _ h => hFc _ h)
        have kf_27 := hw9
        clear hP1 hD1 hz9 hk9 hvm9 ht9 hw9
        generalize H1 = H at hP hS ⊢
        have o_h0 := E_23.1 _ _ o_h0
        have pp_28 := Fr_24.pp
        refine lv_iconst (v := 0) hx hb dX2_pointersHold_22 (by decide) ?_
        refine lv_istore_n (lv' := [(2, .int 0), (0, .ref h0), (1, .int v1_1)]) hx hb dX2_pointersHold_23 rfl hl (by decide) rfl (fun ls hl => ?_)
        have J_24 : ∀ (n9 : Nat) (v2_29 : Int32) (dc_24_2 : Nat) (ds_24_2 : Nat) (ws_31 : va_W) (H : Heap) (locs : List Loc) (ls : Array Slot), (4000 - v2_29.toInt).toNat = n9 → 0 ≤ v2_29.toInt ∧ v2_29.toInt ≤ 4000 → gE ws_22 ws_31 → gF [(2, 9), (2, 10), (2, 11)] [] none ws_22 ws_31 → Good g ws_31 → dc_24_2 + PC ws_31 ≤ PC ws + (0) → ds_24_2 + PS ws_31 ≤ PS ws + (0) → va_P (gD g) cl0 ws_31 H → va_D A ws_31 → va_S A s.heap H locs → lv_has ls 3 [(0, .ref h0), (1, .int v1_1), (2, .int v2_29)] → W p l e (headSpec (wt yX2_pointersHold cX2_pointersHold 3 (some .boolean)) ({ frames := 7, cells := PC ws + (0), slots := PS ws + (0), locals := 153 })).room s m ([.ref h0] : List Value).toArray below meth c H locs (dc_24_2) (ds_24_2) (MQ below (va_Qi (fun (r : Int32) (u9 : va_W) => r = 0 ∨ r = 1) (gQ2 g [(2, 1), (2, 2), (2, 3), (2, 4), (2, 5), (2, 6), (2, 8), (2, 9), (2, 10), (2, 11), (6, 2), (6, 3)] [(2, 7)] none A ws s.heap (0) (0)) A) ([.ref h0] : List Value).toArray s (PC ws + (0)) (PS ws + (0)) A) (F0 m 24 ls []) := by
          intro n9
          induction n9 using Nat.strongRecOn with
          | ind n9 ih_24 =>
            intro v2_29 dc_24_2 ds_24_2 ws_31 H locs ls hm9 iv_30 E_32 Fr_33 hG hc9 hs9 hP hD hS hl
            subst hm9
            have o_h0 := E_32.1 _ _ o_h0
            refine lv_iload_n hx hb dX2_pointersHold_24 rfl (lv_at hl 2 rfl) ?_
            refine lv_aload_n hx hb dX2_pointersHold_25 rfl (lv_at hl 0 rfl) ?_
            obtain ⟨fs9, hk_34, hq_34⟩ := ((gA.tr (gF.a (F' := [(2, 1), (2, 2), (2, 3), (2, 4), (2, 5), (2, 6), (2, 8), (2, 9), (2, 10), (2, 11)]) Fr_11 (by decide)) (gA.tr (gF.a (F' := [(2, 1), (2, 2), (2, 3), (2, 4), (2, 5), (2, 6), (2, 8), (2, 9), (2, 10), (2, 11)]) Fr_24 (by decide)) (gF.a (F' := [(2, 1), (2, 2), (2, 3), (2, 4), (2, 5), (2, 6), (2, 8), (2, 9), (2, 10), (2, 11)]) Fr_33 (by decide))))) _ _ _ hk_6
            obtain ⟨r0_34, c1_34, c2_34, c3_34, c4_34, c5_34, c6_34, r7_34, n7_34, c8_34, c9_34, l10_34, c11_34, rfl, o_r0_34, a_r7_34, f2_34, f3_34, f4_34, -⟩ := (hG.1 _ _ _ _ hk_34).hX2 rfl
            obtain rfl := fe_r (hq_34 0 (by decide))
            have o_r0_6 := o_r0_34
            refine va_get (D := gD g) (ci := 2) (v := .int c2_34) (C := RX2) (T := TX2) (N := 12) hx hb hts inX2 hown hK hP k_6 hk_34 rfl 2 (by decide) (hts _ kw_716) (fun _ h9 => h9) rfl dX2_pointersHold_26 ?_
            refine lv_icmp_ge (tgt := 75) hx hb dX2_pointersHold_29 (by decide) (fun c_35 => ?_) (fun c_35 => ?_)
            · refine lv_iconst (v := 0) hx hb dX2_pointersHold_75 (by decide) ?_
              refine lv_istore_n (lv' := [(2, .int 0), (0, .ref h0), (1, .int v1_1)]) hx hb dX2_pointersHold_76 rfl hl (by decide) rfl (fun ls hl => ?_)
              have J_77 : ∀ (n9 : Nat) (v2_36 : Int32) (dc_77_3 : Nat) (ds_77_3 : Nat) (ws_38 : va_W) (H : Heap) (locs : List Loc) (ls : Array Slot), (2147483647 - v2_36.toInt).toNat = n9 → 0 ≤ v2_36.toInt → gE ws_31 ws_38 → gF [] [] none ws_31 ws_38 → Good g ws_38 → dc_77_3 + PC ws_38 ≤ PC ws + (0) → ds_77_3 + PS ws_38 ≤ PS ws + (0) → va_P (gD g) cl0 ws_38 H → va_D A ws_38 → va_S A s.heap H locs → lv_has ls 3 [(0, .ref h0), (1, .int v1_1), (2, .int v2_36)] → W p l e (headSpec (wt yX2_pointersHold cX2_pointersHold 3 (some .boolean)) ({ frames := 7, cells := PC ws + (0), slots := PS ws + (0), locals := 153 })).room s m ([.ref h0] : List Value).toArray below meth c H locs (dc_77_3) (ds_77_3) (MQ below (va_Qi (fun (r : Int32) (u9 : va_W) => r = 0 ∨ r = 1) (gQ2 g [(2, 1), (2, 2), (2, 3), (2, 4), (2, 5), (2, 6), (2, 8), (2, 9), (2, 10), (2, 11), (6, 2), (6, 3)] [(2, 7)] none A ws s.heap (0) (0)) A) ([.ref h0] : List Value).toArray s (PC ws + (0)) (PS ws + (0)) A) (F0 m 77 ls []) := by
                intro n9
                induction n9 using Nat.strongRecOn with
                | ind n9 ih_77 =>
                  intro v2_36 dc_77_3 ds_77_3 ws_38 H locs ls hm9 iv_37 E_39 Fr_40 hG hc9 hs9 hP hD hS hl
                  subst hm9
                  have aa_41 := a_r7_34
                  have o_h0 := E_39.1 _ _ o_h0
                  refine lv_iload_n hx hb dX2_pointersHold_77 rfl (lv_at hl 2 rfl) ?_
                  refine lv_aload_n hx hb dX2_pointersHold_78 rfl (lv_at hl 0 rfl) ?_
                  obtain ⟨fs9, hk_42, hq_42⟩ := ((gF.a (F' := []) Fr_40 (fun _ h => h))) _ _ _ hk_34
                  obtain ⟨r0_42, c1_42, c2_42, c3_42, c4_42, c5_42, c6_42, r7_42, n7_42, c8_42, c9_42, l10_42, c11_42, rfl, o_r0_42, a_r7_42, f2_42, f3_42, f4_42, -⟩ := (hG.1 _ _ _ _ hk_42).hX2 rfl
                  obtain rfl := fe_r (hq_42 0 (by decide))
                  have o_r0_6 := o_r0_42
                  obtain rfl := fe_i (hq_42 1 (by decide))
                  obtain rfl := fe_i (hq_42 2 (by decide))
                  obtain rfl := fe_i (hq_42 5 (by decide))
                  obtain rfl := fe_i (hq_42 6 (by decide))
                  refine va_get (D := gD g) (ci := 2) (v := .int c6_34) (C := RX2) (T := TX2) (N := 12) hx hb hts inX2 hown hK hP k_6 hk_42 rfl 6 (by decide) (hts _ kw_745) (fun _ h9 => h9) rfl dX2_pointersHold_79 ?_
                  refine lv_icmp_ge (tgt := 126) hx hb dX2_pointersHold_82 (by decide) (fun c_43 => ?_) (fun c_43 => ?_)
                  · obtain ⟨z_44, ez_44⟩ : ∃ z : Int32, v1_1 + Int32.ofInt 1 = z := ⟨_, rfl⟩
                    refine lv_iinc (v := z_44) (lv' := [(1, .int z_44), (0, .ref h0), (2, .int v2_36)]) hx hb dX2_pointersHold_126 hl (k := 1) rfl ez_44 (by decide) rfl (fun ls hl => ?_)
                    refine lv_goto (tgt := 2) hx hb dX2_pointersHold_129 (by decide) ?_
                    exact ih_2 _ (by obtain ⟨u_z_44, q_z_44⟩ := i_iz ez_44 (by decide) (by decide); have q_iv_2 := iv_2; have q_c_8 := i_nle c_8; have g_c8_7 := i_rg c8_7; have g_v1_1 := i_rg v1_1; have g_z_44 := i_rg z_44; omega) (z_44) (dc_77_3) (ds_77_3) ws_38 H locs ls rfl (by obtain ⟨u_z_44, q_z_44⟩ := i_iz ez_44 (by decide) (by decide); have q_iv_2 := iv_2; have q_c_8 := i_nle c_8; have g_c8_7 := i_rg c8_7; have g_v1_1 := i_rg v1_1; have g_z_44 := i_rg z_44; omega) ((E_4.tr (E_10.tr (E_23.tr (E_32.tr E_39))))) ((gF.tr Fr_5 (gF.tr (gF.mo (F' := [(2, 1), (2, 2), (2, 3), (2, 4), (2, 5), (2, 6), (2, 8), (2, 9), (2, 10), (2, 11)]) (C' := [(2, 7)]) (S' := none) Fr_11 (by decide) (fun _ h => absurd h List.not_mem_nil) (Or.inr rfl)) (gF.tr (gF.mo (F' := [(2, 1), (2, 2), (2, 3), (2, 4), (2, 5), (2, 6), (2, 8), (2, 9), (2, 10), (2, 11)]) (C' := [(2, 7)]) (S' := none) Fr_24 (by decide) (fun _ h => h) (Or.inr rfl)) (gF.tr (gF.mo (F' := [(2, 1), (2, 2), (2, 3), (2, 4), (2, 5), (2, 6), (2, 8), (2, 9), (2, 10), (2, 11)]) (C' := [(2, 7)]) (S' := none) Fr_33 (by decide) (fun _ h => absurd h List.not_mem_nil) (Or.inr rfl)) (gF.mo (F' := [(2, 1), (2, 2), (2, 3), (2, 4), (2, 5), (2, 6), (2, 8), (2, 9), (2, 10), (2, 11)]) (C' := [(2, 7)]) (S' := none) Fr_40 (fun _ h => absurd h List.not_mem_nil) (fun _ h => absurd h List.not_mem_nil) (Or.inr rfl))))))) hG (by omega) (by omega) hP hD hS (lv_sub hl [1, 0] rfl)
                  · refine lv_aload_n hx hb dX2_pointersHold_85 rfl (lv_at hl 0 rfl) ?_
                    refine lv_aload_n hx hb dX2_pointersHold_86 rfl (lv_at hl 0 rfl) ?_
                    refine va_get (D := gD g) (ci := 2) (v := .int c5_34) (C := RX2) (T := TX2) (N := 12) hx hb hts inX2 hown hK hP k_6 hk_42 rfl 5 (by decide) (hts _ kw_744) (fun _ h9 => h9) rfl dX2_pointersHold_87 ?_
                    refine lv_bipush (v := 8) hx hb dX2_pointersHold_90 (by decide) ?_
                    refine lv_iload_n hx hb dX2_pointersHold_92 rfl (lv_at hl 2 rfl) ?_
                    refine lv_imul hx hb dX2_pointersHold_93 ?_
                    refine lv_topi (fun z_45 ez_45 => ?_)
                    refine lv_iadd hx hb dX2_pointersHold_94 ?_
                    refine lv_topi (fun z_46 ez_46 => ?_)
                    have hFc := gfree hD hS hA
                    refine W_led (fun hL0 => ?_)
                    refine va_calli (va_runV (As := [.int z_46]) (rest := []) ⟨hx, hb, hml, hown, hts⟩ (m_X2_catchHolds l g H ws_38 h0 (z_46) hG o_h0) (cwV 1 hts (gd_V kw_771 kw_670 kw_671 kw_389 kw_669) rfl rfl rfl (by decide +kernel) ⟨Nat.le_of_ble_eq_true rfl, Nat.le_of_ble_eq_true rfl⟩) ⟨gblindH, va_recv hK hP (ci := 2) (q0 := k_6) rfl hk_42, fun U hU hW9 => gmkH hU hW9 hP hK hD hex hE hS hFc⟩ rfl rfl hl.1 rfl (lv_room (Nat.le_of_ble_eq_true rfl)) dX2_pointersHold_95 ⟨(show dc_77_3 + (PC ws_38 + (0)) ≤ PC ws + (0) from (by have e0 : (0 : Int32).toInt = 0 := (by decide); omega)), (show ds_77_3 + (PS ws_38 + (0)) ≤ PS ws + (0) from (by have e0 : (0 : Int32).toInt = 0 := (by decide); omega))⟩) hS (fun q _ h => hFc q h) hFc (fun r_47 ws_48 t9 H1 locs ht9 hvm9 hw9 hB9 hz9 hk9 hS => ?_)
                    obtain ⟨E_49, Fr_50, hG, hP1, hD1, dc_51, ds_52, hLd, hdc_51, hds_52⟩ := hB9
                    rw [ht9] at hLd
                    refine W_tight (hL0.tr hLd).1 (hL0.tr hLd).2.1 ?_
                    clear hL0 hLd
                    have hP : va_P (gD g) cl0 ws_48 H1 := by rw [← ht9]; exact hP1
                    have hD : va_D A ws_48 := hD1.weaken (fun _ _ _ h => hFc _ h)
                    have hz_r_47 : r_47 = 0 ∨ r_47 = 1 := hw9
                    clear hP1 hD1 hz9 hk9 hvm9 ht9 hw9
                    generalize H1 = H at hP hS ⊢
                    have aa_53 := a_r7_42
                    have o_h0 := E_49.1 _ _ o_h0
                    refine lv_if_ne (tgt := 120) hx hb dX2_pointersHold_98 (by decide) (fun c_54 => ?_) (fun c_54 => ?_)
                    · obtain ⟨z_55, ez_55⟩ : ∃ z : Int32, v2_36 + Int32.ofInt 1 = z := ⟨_, rfl⟩
                      refine lv_iinc (v := z_55) (lv' := [(2, .int z_55), (0, .ref h0), (1, .int v1_1)]) hx hb dX2_pointersHold_120 hl (k := 2) rfl ez_55 (by decide) rfl (fun ls hl => ?_)
                      refine lv_goto (tgt := 77) hx hb dX2_pointersHold_123 (by decide) ?_
                      exact ih_77 _ (by obtain ⟨u_z_55, q_z_55⟩ := i_iz ez_55 (by decide) (by decide); have q_iv_37 := iv_37; have q_c_43 := i_nle c_43; have q_z_45 := i_mulL (c := 8) (K := 268435455) ez_45 (by decide) (by decide) (by decide) (by decide); obtain ⟨u_z_46, q_z_46⟩ := i_add ez_46; have g_c5_34 := i_rg c5_34; have g_c6_34 := i_rg c6_34; have g_v2_36 := i_rg v2_36; have g_z_45 := i_rg z_45; have g_z_46 := i_rg z_46; have g_z_55 := i_rg z_55; omega) (z_55) (dc_77_3 + dc_51) (ds_77_3 + ds_52) ws_48 H locs ls rfl (by obtain ⟨u_z_55, q_z_55⟩ := i_iz ez_55 (by decide) (by decide); have q_iv_37 := iv_37; have q_c_43 := i_nle c_43; have q_z_45 := i_mulL (c := 8) (K := 268435455) ez_45 (by decide) (by decide) (by decide) (by decide); obtain ⟨u_z_46, q_z_46⟩ := i_add ez_46; have g_c5_34 := i_rg c5_34; have g_c6_34 := i_rg c6_34; have g_v2_36 := i_rg v2_36; have g_z_45 := i_rg z_45; have g_z_46 := i_rg z_46; have g_z_55 := i_rg z_55; omega) ((E_39.tr E_49)) ((gF.tr Fr_40 Fr_50)) hG (by omega) (by omega) hP hD hS (lv_sub hl [1, 2, 0] rfl)
                    · refine lv_aload_n hx hb dX2_pointersHold_101 rfl (lv_at hl 0 rfl) ?_
                      obtain ⟨fs9, hk_56, hq_56⟩ := ((gF.a (F' := []) Fr_50 (fun _ h => h))) _ _ _ hk_42
                      obtain ⟨r0_56, c1_56, c2_56, c3_56, c4_56, c5_56, c6_56, r7_56, n7_56, c8_56, c9_56, l10_56, c11_56, rfl, o_r0_56, a_r7_56, f2_56, f3_56, f4_56, -⟩ := (hG.1 _ _ _ _ hk_56).hX2 rfl
                      obtain rfl := fe_r (hq_56 0 (by decide))
                      have o_r0_6 := o_r0_56
                      obtain rfl := fe_i (hq_56 1 (by decide))
                      obtain rfl := fe_i (hq_56 2 (by decide))
                      obtain rfl := fe_i (hq_56 5 (by decide))
                      obtain rfl := fe_i (hq_56 6 (by decide))
                      refine va_get (D := gD g) (ci := 2) (v := .ref r0_6) (C := RX2) (T := TX2) (N := 12) hx hb hts inX2 hown hK hP k_6 hk_56 rfl 0 (by decide) (hts _ kw_632) (fun _ h9 => h9) rfl dX2_pointersHold_102 ?_
                      refine lv_bipush (v := 16) hx hb dX2_pointersHold_105 (by decide) ?_
                      refine lv_aload_n hx hb dX2_pointersHold_107 rfl (lv_at hl 0 rfl) ?_
                      refine va_get (D := gD g) (ci := 2) (v := .int c5_34) (C := RX2) (T := TX2) (N := 12) hx hb hts inX2 hown hK hP k_6 hk_56 rfl 5 (by decide) (hts _ kw_744) (fun _ h9 => h9) rfl dX2_pointersHold_108 ?_
                      refine lv_bipush (v := 8) hx hb dX2_pointersHold_111 (by decide) ?_
                      refine lv_iload_n hx hb dX2_pointersHold_113 rfl (lv_at hl 2 rfl) ?_
                      refine lv_imul hx hb dX2_pointersHold_114 ?_
                      refine lv_topi (fun z_57 ez_57 => ?_)
                      refine lv_iadd hx hb dX2_pointersHold_115 ?_
                      refine lv_topi (fun z_58 ez_58 => ?_)
                      have hFc := gfree hD hS hA
                      obtain ⟨k_59, fs_59, hk_59⟩ := gC_of o_r0_6
                      refine va_calli (va_runV (As := [.int 16, .int z_58]) (rest := []) ⟨hx, hb, hml, hown, hts⟩ (m_X7_breaks l g H.size ws_48 r0_6 (16) (z_58) hG o_r0_6) (cwV 2 hts (gd_V kw_677 kw_1278 kw_1279 kw_710 kw_1277) rfl rfl rfl (by decide +kernel) ⟨Nat.le_of_ble_eq_true rfl, Nat.le_of_ble_eq_true rfl⟩) ⟨gblind, va_recv hK hP (ci := 6) (q0 := k_59) rfl hk_59, fun U hU hW9 => gmk hU hW9 hP hK hD hex hE hS hFc⟩ rfl rfl hl.1 rfl (lv_room (Nat.le_of_ble_eq_true rfl)) dX2_pointersHold_116 ⟨(show dc_77_3 + dc_51 + 0 ≤ PC ws + (0) from (by omega)), (show ds_77_3 + ds_52 + 0 ≤ PS ws + (0) from (by omega))⟩) hS (fun q _ h => hFc q h) hFc (fun r_60 ws_61 t9 H1 locs ht9 hvm9 hw9 hB9 hz9 hk9 hS => ?_)
                      obtain ⟨E_62, Fr_63, hG, hP1, hD1⟩ := hB9
                      have hP : va_P (gD g) cl0 ws_61 H1 := by rw [← ht9]; exact hP1
                      have hD : va_D A ws_61 := hD1.weaken (fun _ _ _ h => hFc _ h)
                      have hz_r_60 : r_60 = 0 ∨ r_60 = 1 := hw9
                      clear hP1 hD1 hz9 hk9 hvm9 ht9 hw9
                      generalize H1 = H at hP hS ⊢
                      have aa_66 := a_r7_56
                      have o_h0 := E_62.1 _ _ o_h0
                      have pp_67 := Fr_63.pp
                      refine W_led (fun hLd => ?_)
                      have hcl : dc_77_3 + dc_51 + PC ws_61 ≤ PC ws + (0) := (by omega)
                      have hsl : ds_77_3 + ds_52 + PS ws_61 ≤ PS ws + (0) := (by omega)
                      refine W.widen (k := PC ws + (0)) (n := PS ws + (0)) (by omega) (by omega) ?_
                      exact W.zret (v := r_60) hx hb hr (nz hz_r_60) (fun t9 ht9 hW9 => ⟨⟨_, ws_61, rfl, hz_r_60, ⟨(E_4.tr (E_10.tr (E_23.tr (E_32.tr (E_39.tr (E_49.tr E_62)))))), (gF.tr (gF.mo (F' := [(2, 1), (2, 2), (2, 3), (2, 4), (2, 5), (2, 6), (2, 8), (2, 9), (2, 10), (2, 11), (6, 2), (6, 3)]) (C' := [(2, 7)]) (S' := none) Fr_5 (by decide) (fun _ h => h) (Or.inr rfl)) (gF.tr (gF.mo (F' := [(2, 1), (2, 2), (2, 3), (2, 4), (2, 5), (2, 6), (2, 8), (2, 9), (2, 10), (2, 11), (6, 2), (6, 3)]) (C' := [(2, 7)]) (S' := none) Fr_11 (by decide) (fun _ h => absurd h List.not_mem_nil) (Or.inr rfl)) (gF.tr (gF.mo (F' := [(2, 1), (2, 2), (2, 3), (2, 4), (2, 5), (2, 6), (2, 8), (2, 9), (2, 10), (2, 11), (6, 2), (6, 3)]) (C' := [(2, 7)]) (S' := none) Fr_24 (by decide) (fun _ h => h) (Or.inr rfl)) (gF.tr (gF.mo (F' := [(2, 1), (2, 2), (2, 3), (2, 4), (2, 5), (2, 6), (2, 8), (2, 9), (2, 10), (2, 11), (6, 2), (6, 3)]) (C' := [(2, 7)]) (S' := none) Fr_33 (by decide) (fun _ h => absurd h List.not_mem_nil) (Or.inr rfl)) (gF.tr (gF.mo (F' := [(2, 1), (2, 2), (2, 3), (2, 4), (2, 5), (2, 6), (2, 8), (2, 9), (2, 10), (2, 11), (6, 2), (6, 3)]) (C' := [(2, 7)]) (S' := none) Fr_40 (fun _ h => absurd h List.not_mem_nil) (fun _ h => absurd h List.not_mem_nil) (Or.inr rfl)) (gF.tr (gF.mo (F' := [(2, 1), (2, 2), (2, 3), (2, 4), (2, 5), (2, 6), (2, 8), (2, 9), (2, 10), (2, 11), (6, 2), (6, 3)]) (C' := [(2, 7)]) (S' := none) Fr_50 (fun _ h => absurd h List.not_mem_nil) (fun _ h => absurd h List.not_mem_nil) (Or.inr rfl)) (gF.mo (F' := [(2, 1), (2, 2), (2, 3), (2, 4), (2, 5), (2, 6), (2, 8), (2, 9), (2, 10), (2, 11), (6, 2), (6, 3)]) (C' := [(2, 7)]) (S' := none) Fr_63 (by decide) (fun _ h => absurd h List.not_mem_nil) (Or.inr rfl)))))))), hG, by rw [ht9]; exact hP, hD, _, _, by rw [ht9]; exact hLd, hcl, hsl⟩⟩, hS.F ht9⟩) hS.2.2 dX2_pointersHold_119
              exact J_77 _ (0) (dc_24_2) (ds_24_2) ws_31 H locs ls rfl (by have e0 : (0 : Int32).toInt = 0 := (by decide); omega) (gE.rf) (gF.rf) hG (by omega) (by omega) hP hD hS (lv_sub hl [1, 2, 0] rfl)
            · refine lv_aload_n hx hb dX2_pointersHold_32 rfl (lv_at hl 0 rfl) ?_
              refine lv_iload_n hx hb dX2_pointersHold_33 rfl (lv_at hl 2 rfl) ?_
              have hFc := gfree hD hS hA
              refine va_callv (va_runV (As := [.int v2_29]) (rest := []) ⟨hx, hb, hml, hown, hts⟩ (m_X2_decode l g H.size ws_31 h0 (v2_29) hG o_h0) (cwV 1 hts (gd_V kw_769 kw_680 kw_681 kw_389 kw_679) rfl rfl rfl (by decide +kernel) ⟨Nat.le_of_ble_eq_true rfl, Nat.le_of_ble_eq_true rfl⟩) ⟨gblind, va_recv hK hP (ci := 2) (q0 := k_6) rfl hk_34, fun U hU hW9 => gmk hU hW9 hP hK hD hex hE hS hFc⟩ rfl rfl hl.1 rfl (lv_room (Nat.le_of_ble_eq_true rfl)) dX2_pointersHold_34 ⟨(show dc_24_2 + 0 ≤ PC ws + (0) from (by omega)), (show ds_24_2 + 0 ≤ PS ws + (0) from (by omega))⟩) hS (fun q _ h => hFc q h) hFc (fun  ws_68 t9 H1 locs ht9 hvm9 hw9 hB9 hz9 hk9 hS => ?_)
              obtain ⟨E_69, Fr_70, hG, hP1, hD1⟩ := hB9
              have hP : va_P (gD g) cl0 ws_68 H1 := by rw [← ht9]; exact hP1
              have hD : va_D A ws_68 := hD1.weaken (fun _ _ _ h => hFc _ h)
              clear hP1 hD1 hz9 hk9 hvm9 ht9 hw9
              generalize H1 = H at hP hS ⊢
              have aa_73 := a_r7_34
              have o_h0 := E_69.1 _ _ o_h0
              have pp_74 := Fr_70.pp
              refine lv_aload_n hx hb dX2_pointersHold_37 rfl (lv_at hl 0 rfl) ?_
              have hFc := gfree hD hS hA
              obtain ⟨k_75, fs_75, hk_75⟩ := gC_of o_h0
              refine va_calli (va_runV (As := []) (rest := []) ⟨hx, hb, hml, hown, hts⟩ (m_X2_pointsWell l g H.size ws_68 h0 hG o_h0) (cwV 0 hts (gd_V kw_770 kw_773 kw_774 kw_389 kw_772) rfl rfl rfl (by decide +kernel) ⟨Nat.le_of_ble_eq_true rfl, Nat.le_of_ble_eq_true rfl⟩) ⟨gblind, va_recv hK hP (ci := 2) (q0 := k_75) rfl hk_75, fun U hU hW9 => gmk hU hW9 hP hK hD hex hE hS hFc⟩ rfl rfl hl.1 rfl (lv_room (Nat.le_of_ble_eq_true rfl)) dX2_pointersHold_38 ⟨(show dc_24_2 + 0 ≤ PC ws + (0) from (by omega)), (show ds_24_2 + 0 ≤ PS ws + (0) from (by omega))⟩) hS (fun q _ h => hFc q h) hFc (fun r_76 u9 t9 H1 locs ht9 hvm9 hw9 hB9 hz9 hk9 hS => ?_)
              have hP : va_P (gD g) cl0 ws_68 H1 := by rw [← ht9]; exact hB9.1
              have hz_r_76 : r_76 = 0 ∨ r_76 = 1 := hw9
              clear hB9 hz9 hk9 hvm9 ht9 hw9
              generalize H1 = H at hP hS ⊢
              refine lv_if_ne (tgt := 60) hx hb dX2_pointersHold_41 (by decide) (fun c_77 => ?_) (fun c_77 => ?_)
              · refine lv_iload_n hx hb dX2_pointersHold_60 rfl (lv_at hl 2 rfl) ?_
                refine lv_iconst (v := 1) hx hb dX2_pointersHold_61 (by decide) ?_
                refine lv_aload_n hx hb dX2_pointersHold_62 rfl (lv_at hl 0 rfl) ?_
                refine lv_iload_n hx hb dX2_pointersHold_63 rfl (lv_at hl 2 rfl) ?_
                have hFc := gfree hD hS hA
                obtain ⟨k_78, fs_78, hk_78⟩ := gC_of o_h0
                refine va_calli (va_runV (As := [.int v2_29]) (rest := [.int 1, .int v2_29]) ⟨hx, hb, hml, hown, hts⟩ (m_X2_lengthAt l g H.size ws_68 h0 (v2_29) hG o_h0) (cwV 1 hts (gd_V kw_717 kw_723 kw_724 kw_389 kw_722) rfl rfl rfl (by decide +kernel) ⟨Nat.le_of_ble_eq_true rfl, Nat.le_of_ble_eq_true rfl⟩) ⟨gblind, va_recv hK hP (ci := 2) (q0 := k_78) rfl hk_78, fun U hU hW9 => gmk hU hW9 hP hK hD hex hE hS hFc⟩ rfl rfl hl.1 rfl (lv_room (Nat.le_of_ble_eq_true rfl)) dX2_pointersHold_64 ⟨(show dc_24_2 + 0 ≤ PC ws + (0) from (by omega)), (show ds_24_2 + 0 ≤ PS ws + (0) from (by omega))⟩) hS (fun q _ h => hFc q h) hFc (fun r_79 u9 t9 H1 locs ht9 hvm9 hw9 hB9 hz9 hk9 hS => ?_)
                have hP : va_P (gD g) cl0 ws_68 H1 := by rw [← ht9]; exact hB9.1
                have h_r_79 := hw9
                clear hB9 hz9 hk9 hvm9 ht9 hw9
                generalize H1 = H at hP hS ⊢
                refine va_mmax hx hb (by rw [hml]; exact hl.1.symm) hown (hts _ kw_759) (hts _ kw_1747) (hts _ kw_1748) (hts _ kw_1746) (Nat.le_of_ble_eq_true rfl) (Nat.le_of_ble_eq_true rfl) (show dc_24_2 ≤ PC ws + (0) from (by omega)) (show ds_24_2 ≤ PS ws + (0) from (by omega)) dX2_pointersHold_67 ?_
                refine lv_topi (fun z_80 ez_80 => ?_)
                refine lv_iadd hx hb dX2_pointersHold_70 ?_
                refine lv_topi (fun z_81 ez_81 => ?_)
                refine lv_istore_n (lv' := [(2, .int z_81), (0, .ref h0), (1, .int v1_1)]) hx hb dX2_pointersHold_71 rfl hl (by decide) rfl (fun ls hl => ?_)
                refine lv_goto (tgt := 24) hx hb dX2_pointersHold_72 (by decide) ?_
                exact ih_24 _ (by have e1 : (1 : Int32).toInt = 1 := (by decide); obtain ⟨u_z_81, q_z_81⟩ := i_add ez_81; have q_iv_30 := iv_30; have q_c_35 := i_nle c_35; have q_r_79 := h_r_79; have q_z_80 := i_max ez_80; have q_f4_34 := f4_34; have g_c2_34 := i_rg c2_34; have g_r_79 := i_rg r_79; have g_v2_29 := i_rg v2_29; have g_z_80 := i_rg z_80; have g_z_81 := i_rg z_81; omega) (z_81) (dc_24_2) (ds_24_2) ws_68 H locs ls rfl (by have e1 : (1 : Int32).toInt = 1 := (by decide); have q_iv_2 := iv_2; have q_c_8 := i_nle c_8; obtain ⟨u_z_81, q_z_81⟩ := i_add ez_81; have q_iv_30 := iv_30; have q_c_35 := i_nle c_35; have q_r_79 := h_r_79; have q_z_80 := i_max ez_80; have q_f4_34 := f4_34; have g_c2_34 := i_rg c2_34; have g_c8_7 := i_rg c8_7; have g_r_79 := i_rg r_79; have g_v1_1 := i_rg v1_1; have g_v2_29 := i_rg v2_29; have g_z_80 := i_rg z_80; have g_z_81 := i_rg z_81; omega) ((E_32.tr E_69)) ((gF.tr Fr_33 Fr_70)) hG (by omega) (by omega) hP hD hS (lv_sub hl [1, 2, 0] rfl)
              · refine lv_aload_n hx hb dX2_pointersHold_44 rfl (lv_at hl 0 rfl) ?_
                obtain ⟨fs9, hk_82, hq_82⟩ := ((gF.a (F' := [(2, 9), (2, 10), (2, 11)]) Fr_70 (fun _ h => h))) _ _ _ hk_34
                obtain ⟨r0_82, c1_82, c2_82, c3_82, c4_82, c5_82, c6_82, r7_82, n7_82, c8_82, c9_82, l10_82, c11_82, rfl, o_r0_82, a_r7_82, f2_82, f3_82, f4_82, -⟩ := (hG.1 _ _ _ _ hk_82).hX2 rfl
                obtain rfl := fe_r (hq_82 0 (by decide))
                have o_r0_6 := o_r0_82
                obtain rfl := fe_i (hq_82 1 (by decide))
                obtain rfl := fe_i (hq_82 2 (by decide))
                obtain rfl := fe_i (hq_82 5 (by decide))
                obtain rfl := fe_i (hq_82 6 (by decide))
                refine va_get (D := gD g) (ci := 2) (v := .ref r0_6) (C := RX2) (T := TX2) (N := 12) hx hb hts inX2 hown hK hP k_6 hk_82 rfl 0 (by decide) (hts _ kw_632) (fun _ h9 => h9) rfl dX2_pointersHold_45 ?_
                refine lv_bipush (v := 16) hx hb dX2_pointersHold_48 (by decide) ?_
                refine lv_aload_n hx hb dX2_pointersHold_50 rfl (lv_at hl 0 rfl) ?_
                refine va_get (D := gD g) (ci := 2) (v := .int c1_34) (C := RX2) (T := TX2) (N := 12) hx hb hts inX2 hown hK hP k_6 hk_82 rfl 1 (by decide) (hts _ kw_718) (fun _ h9 => h9) rfl dX2_pointersHold_51 ?_
                refine lv_iload_n hx hb dX2_pointersHold_54 rfl (lv_at hl 2 rfl) ?_
                refine lv_iadd hx hb dX2_pointersHold_55 ?_
                refine lv_topi (fun z_83 ez_83 => ?_)
                have hFc := gfree hD hS hA
                obtain ⟨k_84, fs_84, hk_84⟩ := gC_of o_r0_6
                refine va_calli (va_runV (As := [.int 16, .int z_83]) (rest := []) ⟨hx, hb, hml, hown, hts⟩ (m_X7_breaks l g H.size ws_68 r0_6 (16) (z_83) hG o_r0_6) (cwV 2 hts (gd_V kw_677 kw_1278 kw_1279 kw_710 kw_1277) rfl rfl rfl (by decide +kernel) ⟨Nat.le_of_ble_eq_true rfl, Nat.le_of_ble_eq_true rfl⟩) ⟨gblind, va_recv hK hP (ci := 6) (q0 := k_84) rfl hk_84, fun U hU hW9 => gmk hU hW9 hP hK hD hex hE hS hFc⟩ rfl rfl hl.1 rfl (lv_room (Nat.le_of_ble_eq_true rfl)) dX2_pointersHold_56 ⟨(show dc_24_2 + 0 ≤ PC ws + (0) from (by omega)), (show ds_24_2 + 0 ≤ PS ws + (0) from (by omega))⟩) hS (fun q _ h => hFc q h) hFc (fun r_85 ws_86 t9 H1 locs ht9 hvm9 hw9 hB9 hz9 hk9 hS => ?_)
                obtain ⟨E_87, Fr_88, hG, hP1, hD1⟩ := hB9
                have hP : va_P (gD g) cl0 ws_86 H1 := by rw [← ht9]; exact hP1
                have hD : va_D A ws_86 := hD1.weaken (fun _ _ _ h => hFc _ h)
                have hz_r_85 : r_85 = 0 ∨ r_85 = 1 := hw9
                clear hP1 hD1 hz9 hk9 hvm9 ht9 hw9
                generalize H1 = H at hP hS ⊢
                have aa_91 := a_r7_82
                have o_h0 := E_87.1 _ _ o_h0
                have pp_92 := Fr_88.pp
                refine W_led (fun hLd => ?_)
                have hcl : dc_24_2 + PC ws_86 ≤ PC ws + (0) := (by omega)
                have hsl : ds_24_2 + PS ws_86 ≤ PS ws + (0) := (by omega)
                refine W.widen (k := PC ws + (0)) (n := PS ws + (0)) (by omega) (by omega) ?_
                exact W.zret (v := r_85) hx hb hr (nz hz_r_85) (fun t9 ht9 hW9 => ⟨⟨_, ws_86, rfl, hz_r_85, ⟨(E_4.tr (E_10.tr (E_23.tr (E_32.tr (E_69.tr E_87))))), (gF.tr (gF.mo (F' := [(2, 1), (2, 2), (2, 3), (2, 4), (2, 5), (2, 6), (2, 8), (2, 9), (2, 10), (2, 11), (6, 2), (6, 3)]) (C' := [(2, 7)]) (S' := none) Fr_5 (by decide) (fun _ h => h) (Or.inr rfl)) (gF.tr (gF.mo (F' := [(2, 1), (2, 2), (2, 3), (2, 4), (2, 5), (2, 6), (2, 8), (2, 9), (2, 10), (2, 11), (6, 2), (6, 3)]) (C' := [(2, 7)]) (S' := none) Fr_11 (by decide) (fun _ h => absurd h List.not_mem_nil) (Or.inr rfl)) (gF.tr (gF.mo (F' := [(2, 1), (2, 2), (2, 3), (2, 4), (2, 5), (2, 6), (2, 8), (2, 9), (2, 10), (2, 11), (6, 2), (6, 3)]) (C' := [(2, 7)]) (S' := none) Fr_24 (by decide) (fun _ h => h) (Or.inr rfl)) (gF.tr (gF.mo (F' := [(2, 1), (2, 2), (2, 3), (2, 4), (2, 5), (2, 6), (2, 8), (2, 9), (2, 10), (2, 11), (6, 2), (6, 3)]) (C' := [(2, 7)]) (S' := none) Fr_33 (by decide) (fun _ h => absurd h List.not_mem_nil) (Or.inr rfl)) (gF.tr (gF.mo (F' := [(2, 1), (2, 2), (2, 3), (2, 4), (2, 5), (2, 6), (2, 8), (2, 9), (2, 10), (2, 11), (6, 2), (6, 3)]) (C' := [(2, 7)]) (S' := none) Fr_70 (by decide) (fun _ h => absurd h List.not_mem_nil) (Or.inr rfl)) (gF.mo (F' := [(2, 1), (2, 2), (2, 3), (2, 4), (2, 5), (2, 6), (2, 8), (2, 9), (2, 10), (2, 11), (6, 2), (6, 3)]) (C' := [(2, 7)]) (S' := none) Fr_88 (by decide) (fun _ h => absurd h List.not_mem_nil) (Or.inr rfl))))))), hG, by rw [ht9]; exact hP, hD, _, _, by rw [ht9]; exact hLd, hcl, hsl⟩⟩, hS.F ht9⟩) hS.2.2 dX2_pointersHold_59
        exact J_24 _ (0) (dc_2_1) (ds_2_1) ws_22 H locs ls rfl (by have e0 : (0 : Int32).toInt = 0 := (by decide); have q_iv_2 := iv_2; have q_c_8 := i_nle c_8; have g_c8_7 := i_rg c8_7; have g_v1_1 := i_rg v1_1; omega) (gE.rf) (gF.rf) hG (by omega) (by omega) hP hD hS (lv_sub hl [1, 2, 0] rfl)
  exact J_2 _ (0) (0) (0) ws _ _ ls rfl (by have e0 : (0 : Int32).toInt = 0 := (by decide); omega) (gE.rf) (gF.rf) hG (by have e0 : (0 : Int32).toInt = 0 := (by decide); omega) (by have e0 : (0 : Int32).toInt = 0 := (by decide); omega) hP hD hS (lv_sub hl [1, 0] rfl)
