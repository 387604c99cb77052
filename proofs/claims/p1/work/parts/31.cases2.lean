set_option maxHeartbeats 4000000 in
set_option maxRecDepth 100000 in
theorem law_c20 {p : Program} {l : Launch} {e : Env} {s : State} {m : MethodId} {below : List Frame} {meth : Method} {c : Code} {dC : Nat → ClassId} {dI : Nat → Nat → Nat} {b L : Nat} {xs : Nat → Int32} {A : Nat → Prop} (hAd : A = fun q : Nat => s.heap.size ≤ q) (hL6 : L = 6) (C0 : lw_At p s m meth c b L xs) (hex : ex s) (hE : mg A s s.heap) {x0 y0 : Nat} {H : Heap} {locs : List Loc} (hF : law_fr dC dI A x0 y0 s H) (hS : va_S A s.heap H locs) {ls : Array Slot} (hl : lv_has ls 4 [(0, .ref b), (1, .ref x0), (2, .ref y0), (3, .int 0)]) : W p l e room_1 s m #[Value.ref b] below meth c H locs 173 857181 (lw_Z below #[Value.ref b] s) (F0 m 699 ls []) := by
  subst hL6
  obtain ⟨hx, hb, hr, hml, hown, hts1, hX, hbl, hlocks, hgv⟩ := id C0
  have hts : ∀ w ∈ tb, w.before #[Value.ref b] s = true := fun w h => hts1 w (tb_lw w h)
  have hown : s.vm.findClass RL = some m.cls := hown
  have hA : ∀ q : Nat, s.heap.size ≤ q → A q := fun q h => by rw [hAd]; exact h
  have hbA : ¬ A b := by rw [hAd]; exact Nat.not_le.mpr hbl
  obtain ⟨fx, ht, ft, htd, cB, hw, fw, hc, fc, hr, fr, hm, fm, hma, cJ, hs, fq, hsa, cI, fy, hyt, cB2, hst, hya, cJ2, hyd, cI2, L_fx, g_fx_0, g_fx_1, g_fx_4, g_fx_7, g_fx_9, g_fx_10, g_fx_11, g_fx_12, g_fx_13, g_fx_14, g_fx_15, g_fx_16, L_ft, g_ft_0, g_ft_1, L_fw, g_fw_1, L_fc, g_fc_0, L_fr, L_fm, g_fm_0, g_fm_5, g_fm_6, g_fm_7, g_fm_16, g_fm_17, g_fm_18, g_fm_19, L_fq, g_fq_1, L_fy, g_fy_1, g_fy_3, g_fy_4, g_fy_5, g_fy_6, g_fy_9, g_fy_10, g_fy_64, g_fy_65, g_fy_78, g_fy_80, g_fy_85, g_fy_87, g_fy_88, g_fy_96, g_fy_100, g_fy_101, g_fy_102, g_fy_124, hP, hK, hD⟩ := hF
  refine lv_aload_n hx hb dL_law_699 rfl (lv_at hl 1 rfl) ?_
  refine lv_aload_n hx hb dL_law_700 rfl (lv_at hl 0 rfl) ?_
  refine lv_iload_n hx hb dL_law_701 rfl (lv_at hl 3 rfl) ?_
  refine lv_iconst (v := 1) hx hb dL_law_702 (by decide) ?_
  refine lv_iadd hx hb dL_law_703 ?_
  refine lv_topi (fun z_1 ez_1 => ?_)
  obtain rfl : z_1 = 1 := ez_1.trans (by decide)
  refine va_sld hx hb hX hbl hbA hS (vi rfl) dL_law_704 ?_
  have hPc := hP.sub (ws' := [(x0, .inr (10, fx)), (hm, .inr (5, fm))]) [0, 6] rfl
  have hDc := hD.sub (ws' := [(x0, .inr (10, fx)), (hm, .inr (5, fm))]) [0, 6] (by decide) rfl
  have hKc := hK.sub (tys' := []) [] rfl
  have hFc := va_free (wc := [(x0, .inr (10, fx)), (hm, .inr (5, fm))]) hD hS hA [0, 6] rfl
  refine va_calll (va_runV (As := [.int (xs (1 : Int32).toNatClampNeg)]) (rest := []) ⟨hx, hb, hml, hown, hts⟩ (m_X12_field l dC dI H.size x0 fx hm fm ((xs (1 : Int32).toNatClampNeg)) L_fx g_fx_7 L_fm g_fm_0) (cwV 1 hts (gd_V kw_582 kw_583 kw_584 kw_169 kw_585) rfl rfl rfl (by decide +kernel) ⟨Nat.le_of_ble_eq_true rfl, Nat.le_of_ble_eq_true rfl⟩) ⟨st_blind, va_recv hKc hPc (ci := 10) (q0 := 0) rfl rfl, fun U hU hW9 => st_mk hU hW9 hPc hKc hDc hex⟩ rfl rfl hl.1 rfl (lv_room (Nat.le_of_ble_eq_true rfl)) dL_law_705 ⟨Nat.le_of_ble_eq_true rfl, Nat.le_of_ble_eq_true rfl⟩) hS (fun q _ h => hFc q h) hFc (fun r_2 u9 t9 H1 locs ht9 hvm9 hw9 hB9 hz9 hk9 hS => ?_)
  have hP1 : va_P (dC, dI) cl0 [] H1 := fun k q h => by simp at h
  have hD1 : va_D (va_A [(x0, .inr (10, fx)), (hm, .inr (5, fm))] H.size) [] := ⟨fun i j p q h => by simp at h, fun k q h => by simp at h⟩
  obtain ⟨hP, hD⟩ := va_join (wr := [(ht, .inr (0, ft)), (htd, .inl (cB, 64, .inl (fun _ => 0))), (hw, .inr (0, fw)), (hc, .inr (2, fc)), (hr, .inr (6, fr)), (hma, .inl (cJ, 8, .inr (.inl (fun _ => 0)))), (hs, .inr (8, fq)), (hsa, .inl (cI, 12, .inl (fun _ => 0))), (y0, .inr (12, fy)), (hyt, .inl (cB2, 16000, .inl (fun _ => 0))), (hst, .inr (13, [])), (hya, .inl (cJ2, 8, .inr (.inl (fun _ => 0)))), (hyd, .inl (cI2, 12, .inl (fun _ => 0)))]) (w1 := []) hP hD [0, 6] [1, 2, 3, 4, 5, 7, 8, 9, 10, 11, 12, 13, 14] rfl rfl (by decide) (by decide) hk9 hFc hP1 hD1
  generalize H1 = H at hP hS ⊢
  have hP : va_P (dC, dI) cl0 [(ht, .inr (0, ft)), (htd, .inl (cB, 64, .inl (fun _ => 0))), (hw, .inr (0, fw)), (hc, .inr (2, fc)), (hr, .inr (6, fr)), (hma, .inl (cJ, 8, .inr (.inl (fun _ => 0)))), (hs, .inr (8, fq)), (hsa, .inl (cI, 12, .inl (fun _ => 0))), (y0, .inr (12, fy)), (hyt, .inl (cB2, 16000, .inl (fun _ => 0))), (hst, .inr (13, [])), (hya, .inl (cJ2, 8, .inr (.inl (fun _ => 0)))), (hyd, .inl (cI2, 12, .inl (fun _ => 0)))] H := hP
  have hD : va_D A [(ht, .inr (0, ft)), (htd, .inl (cB, 64, .inl (fun _ => 0))), (hw, .inr (0, fw)), (hc, .inr (2, fc)), (hr, .inr (6, fr)), (hma, .inl (cJ, 8, .inr (.inl (fun _ => 0)))), (hs, .inr (8, fq)), (hsa, .inl (cI, 12, .inl (fun _ => 0))), (y0, .inr (12, fy)), (hyt, .inl (cB2, 16000, .inl (fun _ => 0))), (hst, .inr (13, [])), (hya, .inl (cJ2, 8, .inr (.inl (fun _ => 0)))), (hyd, .inl (cI2, 12, .inl (fun _ => 0)))] := hD
  have hw9 : r_2 = 0 := hw9
  subst hw9
  refine lv_aload_n hx hb dL_law_708 rfl (lv_at hl 2 rfl) ?_
  refine lv_aload_n hx hb dL_law_709 rfl (lv_at hl 0 rfl) ?_
  refine lv_iload_n hx hb dL_law_710 rfl (lv_at hl 3 rfl) ?_
  refine lv_iconst (v := 1) hx hb dL_law_711 (by decide) ?_
  refine lv_iadd hx hb dL_law_712 ?_
  refine lv_topi (fun z_3 ez_3 => ?_)
  obtain rfl : z_3 = 1 := ez_3.trans (by decide)
  refine va_sld hx hb hX hbl hbA hS (vi rfl) dL_law_713 ?_
  have hPc := hP.sub (ws' := [(y0, .inr (12, fy))]) [8] rfl
  have hDc := hD.sub (ws' := [(y0, .inr (12, fy))]) [8] (by decide) rfl
  have hKc := hK.sub (tys' := []) [] rfl
  have hFc := va_free (wc := [(y0, .inr (12, fy))]) hD hS hA [8] rfl
  refine va_calll (va_runV (As := [.int (xs (1 : Int32).toNatClampNeg)]) (rest := [.long 0]) ⟨hx, hb, hml, hown, hts⟩ (m_X14_field l dC dI H.size y0 fy ((xs (1 : Int32).toNatClampNeg)) L_fy g_fy_80) (cwV 1 hts (gd_V kw_586 kw_587 kw_588 kw_374 kw_589) rfl rfl rfl (by decide +kernel) ⟨Nat.le_of_ble_eq_true rfl, Nat.le_of_ble_eq_true rfl⟩) ⟨st_blind, va_recv hKc hPc (ci := 12) (q0 := 0) rfl rfl, fun U hU hW9 => st_mk hU hW9 hPc hKc hDc hex⟩ rfl rfl hl.1 rfl (lv_room (Nat.le_of_ble_eq_true rfl)) dL_law_714 ⟨Nat.le_of_ble_eq_true rfl, Nat.le_of_ble_eq_true rfl⟩) hS (fun q _ h => hFc q h) hFc (fun r_4 u9 t9 H1 locs ht9 hvm9 hw9 hB9 hz9 hk9 hS => ?_)
  have hP1 : va_P (dC, dI) cl0 [] H1 := fun k q h => by simp at h
  have hD1 : va_D (va_A [(y0, .inr (12, fy))] H.size) [] := ⟨fun i j p q h => by simp at h, fun k q h => by simp at h⟩
  obtain ⟨hP, hD⟩ := va_join (wr := [(ht, .inr (0, ft)), (htd, .inl (cB, 64, .inl (fun _ => 0))), (hw, .inr (0, fw)), (hc, .inr (2, fc)), (hr, .inr (6, fr)), (hma, .inl (cJ, 8, .inr (.inl (fun _ => 0)))), (hs, .inr (8, fq)), (hsa, .inl (cI, 12, .inl (fun _ => 0))), (hyt, .inl (cB2, 16000, .inl (fun _ => 0))), (hst, .inr (13, [])), (hya, .inl (cJ2, 8, .inr (.inl (fun _ => 0)))), (hyd, .inl (cI2, 12, .inl (fun _ => 0)))]) (w1 := []) hP hD [8] [0, 1, 2, 3, 4, 5, 6, 7, 9, 10, 11, 12] rfl rfl (by decide) (by decide) hk9 hFc hP1 hD1
  generalize H1 = H at hP hS ⊢
  have hP : va_P (dC, dI) cl0 [(ht, .inr (0, ft)), (htd, .inl (cB, 64, .inl (fun _ => 0))), (hw, .inr (0, fw)), (hc, .inr (2, fc)), (hr, .inr (6, fr)), (hma, .inl (cJ, 8, .inr (.inl (fun _ => 0)))), (hs, .inr (8, fq)), (hsa, .inl (cI, 12, .inl (fun _ => 0))), (hyt, .inl (cB2, 16000, .inl (fun _ => 0))), (hst, .inr (13, [])), (hya, .inl (cJ2, 8, .inr (.inl (fun _ => 0)))), (hyd, .inl (cI2, 12, .inl (fun _ => 0)))] H := hP
  have hD : va_D A [(ht, .inr (0, ft)), (htd, .inl (cB, 64, .inl (fun _ => 0))), (hw, .inr (0, fw)), (hc, .inr (2, fc)), (hr, .inr (6, fr)), (hma, .inl (cJ, 8, .inr (.inl (fun _ => 0)))), (hs, .inr (8, fq)), (hsa, .inl (cI, 12, .inl (fun _ => 0))), (hyt, .inl (cB2, 16000, .inl (fun _ => 0))), (hst, .inr (13, [])), (hya, .inl (cJ2, 8, .inr (.inl (fun _ => 0)))), (hyd, .inl (cI2, 12, .inl (fun _ => 0)))] := hD
  have hw9 : r_4 = 0 := hw9
  subst hw9
  refine W.lcmp hx hb dL_law_717 ?_
  refine lv_if_eq (tgt := 1010) hx hb dL_law_718 (by decide) (fun _ => ?_) (fun c9 => absurd (by decide) c9)
  refine W.widen (k := 173) (n := 857181) (Nat.le_refl _) (Nat.le_refl _) ?_
  exact law_end hAd C0 hS hl
set_option maxHeartbeats 4000000 in
set_option maxRecDepth 100000 in
theorem law_c21 {p : Program} {l : Launch} {e : Env} {s : State} {m : MethodId} {below : List Frame} {meth : Method} {c : Code} {dC : Nat → ClassId} {dI : Nat → Nat → Nat} {b L : Nat} {xs : Nat → Int32} {A : Nat → Prop} (hAd : A = fun q : Nat => s.heap.size ≤ q) (hL6 : L = 6) (C0 : lw_At p s m meth c b L xs) (hex : ex s) (hE : mg A s s.heap) {x0 y0 : Nat} {H : Heap} {locs : List Loc} (hF : law_fr dC dI A x0 y0 s H) (hS : va_S A s.heap H locs) {ls : Array Slot} (hl : lv_has ls 4 [(0, .ref b), (1, .ref x0), (2, .ref y0), (3, .int 0)]) : W p l e room_1 s m #[Value.ref b] below meth c H locs 173 857181 (lw_Z below #[Value.ref b] s) (F0 m 723 ls []) := by
  subst hL6
  obtain ⟨hx, hb, hr, hml, hown, hts1, hX, hbl, hlocks, hgv⟩ := id C0
  have hts : ∀ w ∈ tb, w.before #[Value.ref b] s = true := fun w h => hts1 w (tb_lw w h)
  have hown : s.vm.findClass RL = some m.cls := hown
  have hA : ∀ q : Nat, s.heap.size ≤ q → A q := fun q h => by rw [hAd]; exact h
  have hbA : ¬ A b := by rw [hAd]; exact Nat.not_le.mpr hbl
  obtain ⟨fx, ht, ft, htd, cB, hw, fw, hc, fc, hr, fr, hm, fm, hma, cJ, hs, fq, hsa, cI, fy, hyt, cB2, hst, hya, cJ2, hyd, cI2, L_fx, g_fx_0, g_fx_1, g_fx_4, g_fx_7, g_fx_9, g_fx_10, g_fx_11, g_fx_12, g_fx_13, g_fx_14, g_fx_15, g_fx_16, L_ft, g_ft_0, g_ft_1, L_fw, g_fw_1, L_fc, g_fc_0, L_fr, L_fm, g_fm_0, g_fm_5, g_fm_6, g_fm_7, g_fm_16, g_fm_17, g_fm_18, g_fm_19, L_fq, g_fq_1, L_fy, g_fy_1, g_fy_3, g_fy_4, g_fy_5, g_fy_6, g_fy_9, g_fy_10, g_fy_64, g_fy_65, g_fy_78, g_fy_80, g_fy_85, g_fy_87, g_fy_88, g_fy_96, g_fy_100, g_fy_101, g_fy_102, g_fy_124, hP, hK, hD⟩ := hF
  refine lv_aload_n hx hb dL_law_723 rfl (lv_at hl 1 rfl) ?_
  refine lv_aload_n hx hb dL_law_724 rfl (lv_at hl 0 rfl) ?_
  refine lv_iload_n hx hb dL_law_725 rfl (lv_at hl 3 rfl) ?_
  refine lv_iconst (v := 1) hx hb dL_law_726 (by decide) ?_
  refine lv_iadd hx hb dL_law_727 ?_
  refine lv_topi (fun z_1 ez_1 => ?_)
  obtain rfl : z_1 = 1 := ez_1.trans (by decide)
  refine va_sld hx hb hX hbl hbA hS (vi rfl) dL_law_728 ?_
  refine lv_aload_n hx hb dL_law_729 rfl (lv_at hl 0 rfl) ?_
  refine lv_iload_n hx hb dL_law_730 rfl (lv_at hl 3 rfl) ?_
  refine lv_iconst (v := 2) hx hb dL_law_731 (by decide) ?_
  refine lv_iadd hx hb dL_law_732 ?_
  refine lv_topi (fun z_2 ez_2 => ?_)
  obtain rfl : z_2 = 2 := ez_2.trans (by decide)
  refine va_sld hx hb hX hbl hbA hS (vi rfl) dL_law_733 ?_
  have hPc := hP.sub (ws' := [(x0, .inr (10, fx)), (hm, .inr (5, fm))]) [0, 6] rfl
  have hDc := hD.sub (ws' := [(x0, .inr (10, fx)), (hm, .inr (5, fm))]) [0, 6] (by decide) rfl
  have hKc := hK.sub (tys' := []) [] rfl
  have hFc := va_free (wc := [(x0, .inr (10, fx)), (hm, .inr (5, fm))]) hD hS hA [0, 6] rfl
  refine va_calli (va_runV (As := [.int (xs (1 : Int32).toNatClampNeg), .int (xs (2 : Int32).toNatClampNeg)]) (rest := []) ⟨hx, hb, hml, hown, hts⟩ (m_X12_element l dC dI H.size x0 fx hm fm ((xs (1 : Int32).toNatClampNeg)) ((xs (2 : Int32).toNatClampNeg)) L_fx g_fx_7 L_fm g_fm_5) (cwV 2 hts (gd_V kw_590 kw_591 kw_592 kw_169 kw_593) rfl rfl rfl (by decide +kernel) ⟨Nat.le_of_ble_eq_true rfl, Nat.le_of_ble_eq_true rfl⟩) ⟨st_blind, va_recv hKc hPc (ci := 10) (q0 := 0) rfl rfl, fun U hU hW9 => st_mk hU hW9 hPc hKc hDc hex⟩ rfl rfl hl.1 rfl (lv_room (Nat.le_of_ble_eq_true rfl)) dL_law_734 ⟨Nat.le_of_ble_eq_true rfl, Nat.le_of_ble_eq_true rfl⟩) hS (fun q _ h => hFc q h) hFc (fun r_3 u9 t9 H1 locs ht9 hvm9 hw9 hB9 hz9 hk9 hS => ?_)
  have hP1 : va_P (dC, dI) cl0 [] H1 := fun k q h => by simp at h
  have hD1 : va_D (va_A [(x0, .inr (10, fx)), (hm, .inr (5, fm))] H.size) [] := ⟨fun i j p q h => by simp at h, fun k q h => by simp at h⟩
  obtain ⟨hP, hD⟩ := va_join (wr := [(ht, .inr (0, ft)), (htd, .inl (cB, 64, .inl (fun _ => 0))), (hw, .inr (0, fw)), (hc, .inr (2, fc)), (hr, .inr (6, fr)), (hma, .inl (cJ, 8, .inr (.inl (fun _ => 0)))), (hs, .inr (8, fq)), (hsa, .inl (cI, 12, .inl (fun _ => 0))), (y0, .inr (12, fy)), (hyt, .inl (cB2, 16000, .inl (fun _ => 0))), (hst, .inr (13, [])), (hya, .inl (cJ2, 8, .inr (.inl (fun _ => 0)))), (hyd, .inl (cI2, 12, .inl (fun _ => 0)))]) (w1 := []) hP hD [0, 6] [1, 2, 3, 4, 5, 7, 8, 9, 10, 11, 12, 13, 14] rfl rfl (by decide) (by decide) hk9 hFc hP1 hD1
  generalize H1 = H at hP hS ⊢
  have hP : va_P (dC, dI) cl0 [(ht, .inr (0, ft)), (htd, .inl (cB, 64, .inl (fun _ => 0))), (hw, .inr (0, fw)), (hc, .inr (2, fc)), (hr, .inr (6, fr)), (hma, .inl (cJ, 8, .inr (.inl (fun _ => 0)))), (hs, .inr (8, fq)), (hsa, .inl (cI, 12, .inl (fun _ => 0))), (y0, .inr (12, fy)), (hyt, .inl (cB2, 16000, .inl (fun _ => 0))), (hst, .inr (13, [])), (hya, .inl (cJ2, 8, .inr (.inl (fun _ => 0)))), (hyd, .inl (cI2, 12, .inl (fun _ => 0)))] H := hP
  have hD : va_D A [(ht, .inr (0, ft)), (htd, .inl (cB, 64, .inl (fun _ => 0))), (hw, .inr (0, fw)), (hc, .inr (2, fc)), (hr, .inr (6, fr)), (hma, .inl (cJ, 8, .inr (.inl (fun _ => 0)))), (hs, .inr (8, fq)), (hsa, .inl (cI, 12, .inl (fun _ => 0))), (y0, .inr (12, fy)), (hyt, .inl (cB2, 16000, .inl (fun _ => 0))), (hst, .inr (13, [])), (hya, .inl (cJ2, 8, .inr (.inl (fun _ => 0)))), (hyd, .inl (cI2, 12, .inl (fun _ => 0)))] := hD
  have hw9 : r_3 = 0 := hw9
  subst hw9
  refine lv_aload_n hx hb dL_law_737 rfl (lv_at hl 2 rfl) ?_
  refine lv_aload_n hx hb dL_law_738 rfl (lv_at hl 0 rfl) ?_
  refine lv_iload_n hx hb dL_law_739 rfl (lv_at hl 3 rfl) ?_
  refine lv_iconst (v := 1) hx hb dL_law_740 (by decide) ?_
  refine lv_iadd hx hb dL_law_741 ?_
  refine lv_topi (fun z_4 ez_4 => ?_)
  obtain rfl : z_4 = 1 := ez_4.trans (by decide)
  refine va_sld hx hb hX hbl hbA hS (vi rfl) dL_law_742 ?_
  refine lv_aload_n hx hb dL_law_743 rfl (lv_at hl 0 rfl) ?_
  refine lv_iload_n hx hb dL_law_744 rfl (lv_at hl 3 rfl) ?_
  refine lv_iconst (v := 2) hx hb dL_law_745 (by decide) ?_
  refine lv_iadd hx hb dL_law_746 ?_
  refine lv_topi (fun z_5 ez_5 => ?_)
  obtain rfl : z_5 = 2 := ez_5.trans (by decide)
  refine va_sld hx hb hX hbl hbA hS (vi rfl) dL_law_747 ?_
  have hPc := hP.sub (ws' := [(y0, .inr (12, fy))]) [8] rfl
  have hDc := hD.sub (ws' := [(y0, .inr (12, fy))]) [8] (by decide) rfl
  have hKc := hK.sub (tys' := []) [] rfl
  have hFc := va_free (wc := [(y0, .inr (12, fy))]) hD hS hA [8] rfl
  refine va_calli (va_runV (As := [.int (xs (1 : Int32).toNatClampNeg), .int (xs (2 : Int32).toNatClampNeg)]) (rest := [.int 0]) ⟨hx, hb, hml, hown, hts⟩ (m_X14_element l dC dI H.size y0 fy ((xs (1 : Int32).toNatClampNeg)) ((xs (2 : Int32).toNatClampNeg)) L_fy g_fy_85) (cwV 2 hts (gd_V kw_594 kw_595 kw_596 kw_374 kw_597) rfl rfl rfl (by decide +kernel) ⟨Nat.le_of_ble_eq_true rfl, Nat.le_of_ble_eq_true rfl⟩) ⟨st_blind, va_recv hKc hPc (ci := 12) (q0 := 0) rfl rfl, fun U hU hW9 => st_mk hU hW9 hPc hKc hDc hex⟩ rfl rfl hl.1 rfl (lv_room (Nat.le_of_ble_eq_true rfl)) dL_law_748 ⟨Nat.le_of_ble_eq_true rfl, Nat.le_of_ble_eq_true rfl⟩) hS (fun q _ h => hFc q h) hFc (fun r_6 u9 t9 H1 locs ht9 hvm9 hw9 hB9 hz9 hk9 hS => ?_)
  have hP1 : va_P (dC, dI) cl0 [] H1 := fun k q h => by simp at h
  have hD1 : va_D (va_A [(y0, .inr (12, fy))] H.size) [] := ⟨fun i j p q h => by simp at h, fun k q h => by simp at h⟩
  obtain ⟨hP, hD⟩ := va_join (wr := [(ht, .inr (0, ft)), (htd, .inl (cB, 64, .inl (fun _ => 0))), (hw, .inr (0, fw)), (hc, .inr (2, fc)), (hr, .inr (6, fr)), (hma, .inl (cJ, 8, .inr (.inl (fun _ => 0)))), (hs, .inr (8, fq)), (hsa, .inl (cI, 12, .inl (fun _ => 0))), (hyt, .inl (cB2, 16000, .inl (fun _ => 0))), (hst, .inr (13, [])), (hya, .inl (cJ2, 8, .inr (.inl (fun _ => 0)))), (hyd, .inl (cI2, 12, .inl (fun _ => 0)))]) (w1 := []) hP hD [8] [0, 1, 2, 3, 4, 5, 6, 7, 9, 10, 11, 12] rfl rfl (by decide) (by decide) hk9 hFc hP1 hD1
  generalize H1 = H at hP hS ⊢
  have hP : va_P (dC, dI) cl0 [(ht, .inr (0, ft)), (htd, .inl (cB, 64, .inl (fun _ => 0))), (hw, .inr (0, fw)), (hc, .inr (2, fc)), (hr, .inr (6, fr)), (hma, .inl (cJ, 8, .inr (.inl (fun _ => 0)))), (hs, .inr (8, fq)), (hsa, .inl (cI, 12, .inl (fun _ => 0))), (hyt, .inl (cB2, 16000, .inl (fun _ => 0))), (hst, .inr (13, [])), (hya, .inl (cJ2, 8, .inr (.inl (fun _ => 0)))), (hyd, .inl (cI2, 12, .inl (fun _ => 0)))] H := hP
  have hD : va_D A [(ht, .inr (0, ft)), (htd, .inl (cB, 64, .inl (fun _ => 0))), (hw, .inr (0, fw)), (hc, .inr (2, fc)), (hr, .inr (6, fr)), (hma, .inl (cJ, 8, .inr (.inl (fun _ => 0)))), (hs, .inr (8, fq)), (hsa, .inl (cI, 12, .inl (fun _ => 0))), (hyt, .inl (cB2, 16000, .inl (fun _ => 0))), (hst, .inr (13, [])), (hya, .inl (cJ2, 8, .inr (.inl (fun _ => 0)))), (hyd, .inl (cI2, 12, .inl (fun _ => 0)))] := hD
  have hw9 : r_6 = 0 := hw9
  subst hw9
  refine lv_icmp_eq (tgt := 1010) hx hb dL_law_751 (by decide) (fun _ => ?_) (fun c9 => absurd (by decide) c9)
  refine W.widen (k := 173) (n := 857181) (Nat.le_refl _) (Nat.le_refl _) ?_
  exact law_end hAd C0 hS hl
set_option maxHeartbeats 4000000 in
set_option maxRecDepth 100000 in
theorem law_c22 {p : Program} {l : Launch} {e : Env} {s : State} {m : MethodId} {below : List Frame} {meth : Method} {c : Code} {dC : Nat → ClassId} {dI : Nat → Nat → Nat} {b L : Nat} {xs : Nat → Int32} {A : Nat → Prop} (hAd : A = fun q : Nat => s.heap.size ≤ q) (hL6 : L = 6) (C0 : lw_At p s m meth c b L xs) (hex : ex s) (hE : mg A s s.heap) {x0 y0 : Nat} {H : Heap} {locs : List Loc} (hF : law_fr dC dI A x0 y0 s H) (hS : va_S A s.heap H locs) {ls : Array Slot} (hl : lv_has ls 4 [(0, .ref b), (1, .ref x0), (2, .ref y0), (3, .int 0)]) : W p l e room_1 s m #[Value.ref b] below meth c H locs 173 857181 (lw_Z below #[Value.ref b] s) (F0 m 756 ls []) := by
  subst hL6
  obtain ⟨hx, hb, hr, hml, hown, hts1, hX, hbl, hlocks, hgv⟩ := id C0
  have hts : ∀ w ∈ tb, w.before #[Value.ref b] s = true := fun w h => hts1 w (tb_lw w h)
  have hown : s.vm.findClass RL = some m.cls := hown
  have hA : ∀ q : Nat, s.heap.size ≤ q → A q := fun q h => by rw [hAd]; exact h
  have hbA : ¬ A b := by rw [hAd]; exact Nat.not_le.mpr hbl
  obtain ⟨fx, ht, ft, htd, cB, hw, fw, hc, fc, hr, fr, hm, fm, hma, cJ, hs, fq, hsa, cI, fy, hyt, cB2, hst, hya, cJ2, hyd, cI2, L_fx, g_fx_0, g_fx_1, g_fx_4, g_fx_7, g_fx_9, g_fx_10, g_fx_11, g_fx_12, g_fx_13, g_fx_14, g_fx_15, g_fx_16, L_ft, g_ft_0, g_ft_1, L_fw, g_fw_1, L_fc, g_fc_0, L_fr, L_fm, g_fm_0, g_fm_5, g_fm_6, g_fm_7, g_fm_16, g_fm_17, g_fm_18, g_fm_19, L_fq, g_fq_1, L_fy, g_fy_1, g_fy_3, g_fy_4, g_fy_5, g_fy_6, g_fy_9, g_fy_10, g_fy_64, g_fy_65, g_fy_78, g_fy_80, g_fy_85, g_fy_87, g_fy_88, g_fy_96, g_fy_100, g_fy_101, g_fy_102, g_fy_124, hP, hK, hD⟩ := hF
  refine lv_aload_n hx hb dL_law_756 rfl (lv_at hl 1 rfl) ?_
  refine lv_aload_n hx hb dL_law_757 rfl (lv_at hl 0 rfl) ?_
  refine lv_iload_n hx hb dL_law_758 rfl (lv_at hl 3 rfl) ?_
  refine lv_iconst (v := 1) hx hb dL_law_759 (by decide) ?_
  refine lv_iadd hx hb dL_law_760 ?_
  refine lv_topi (fun z_1 ez_1 => ?_)
  obtain rfl : z_1 = 1 := ez_1.trans (by decide)
  refine va_sld hx hb hX hbl hbA hS (vi rfl) dL_law_761 ?_
  have hPc := hP.sub (ws' := [(x0, .inr (10, fx)), (hm, .inr (5, fm))]) [0, 6] rfl
  have hDc := hD.sub (ws' := [(x0, .inr (10, fx)), (hm, .inr (5, fm))]) [0, 6] (by decide) rfl
  have hKc := hK.sub (tys' := []) [] rfl
  have hFc := va_free (wc := [(x0, .inr (10, fx)), (hm, .inr (5, fm))]) hD hS hA [0, 6] rfl
  refine va_calli (va_runV (As := [.int (xs (1 : Int32).toNatClampNeg)]) (rest := []) ⟨hx, hb, hml, hown, hts⟩ (m_X12_arrayLength l dC dI H.size x0 fx hm fm ((xs (1 : Int32).toNatClampNeg)) L_fx g_fx_7 L_fm g_fm_5) (cwV 1 hts (gd_V kw_598 kw_599 kw_600 kw_169 kw_601) rfl rfl rfl (by decide +kernel) ⟨Nat.le_of_ble_eq_true rfl, Nat.le_of_ble_eq_true rfl⟩) ⟨st_blind, va_recv hKc hPc (ci := 10) (q0 := 0) rfl rfl, fun U hU hW9 => st_mk hU hW9 hPc hKc hDc hex⟩ rfl rfl hl.1 rfl (lv_room (Nat.le_of_ble_eq_true rfl)) dL_law_762 ⟨Nat.le_of_ble_eq_true rfl, Nat.le_of_ble_eq_true rfl⟩) hS (fun q _ h => hFc q h) hFc (fun r_2 u9 t9 H1 locs ht9 hvm9 hw9 hB9 hz9 hk9 hS => ?_)
  have hP1 : va_P (dC, dI) cl0 [] H1 := fun k q h => by simp at h
  have hD1 : va_D (va_A [(x0, .inr (10, fx)), (hm, .inr (5, fm))] H.size) [] := ⟨fun i j p q h => by simp at h, fun k q h => by simp at h⟩
  obtain ⟨hP, hD⟩ := va_join (wr := [(ht, .inr (0, ft)), (htd, .inl (cB, 64, .inl (fun _ => 0))), (hw, .inr (0, fw)), (hc, .inr (2, fc)), (hr, .inr (6, fr)), (hma, .inl (cJ, 8, .inr (.inl (fun _ => 0)))), (hs, .inr (8, fq)), (hsa, .inl (cI, 12, .inl (fun _ => 0))), (y0, .inr (12, fy)), (hyt, .inl (cB2, 16000, .inl (fun _ => 0))), (hst, .inr (13, [])), (hya, .inl (cJ2, 8, .inr (.inl (fun _ => 0)))), (hyd, .inl (cI2, 12, .inl (fun _ => 0)))]) (w1 := []) hP hD [0, 6] [1, 2, 3, 4, 5, 7, 8, 9, 10, 11, 12, 13, 14] rfl rfl (by decide) (by decide) hk9 hFc hP1 hD1
  generalize H1 = H at hP hS ⊢
  have hP : va_P (dC, dI) cl0 [(ht, .inr (0, ft)), (htd, .inl (cB, 64, .inl (fun _ => 0))), (hw, .inr (0, fw)), (hc, .inr (2, fc)), (hr, .inr (6, fr)), (hma, .inl (cJ, 8, .inr (.inl (fun _ => 0)))), (hs, .inr (8, fq)), (hsa, .inl (cI, 12, .inl (fun _ => 0))), (y0, .inr (12, fy)), (hyt, .inl (cB2, 16000, .inl (fun _ => 0))), (hst, .inr (13, [])), (hya, .inl (cJ2, 8, .inr (.inl (fun _ => 0)))), (hyd, .inl (cI2, 12, .inl (fun _ => 0)))] H := hP
  have hD : va_D A [(ht, .inr (0, ft)), (htd, .inl (cB, 64, .inl (fun _ => 0))), (hw, .inr (0, fw)), (hc, .inr (2, fc)), (hr, .inr (6, fr)), (hma, .inl (cJ, 8, .inr (.inl (fun _ => 0)))), (hs, .inr (8, fq)), (hsa, .inl (cI, 12, .inl (fun _ => 0))), (y0, .inr (12, fy)), (hyt, .inl (cB2, 16000, .inl (fun _ => 0))), (hst, .inr (13, [])), (hya, .inl (cJ2, 8, .inr (.inl (fun _ => 0)))), (hyd, .inl (cI2, 12, .inl (fun _ => 0)))] := hD
  have hw9 : r_2 = (-1) := hw9
  subst hw9
  refine lv_aload_n hx hb dL_law_765 rfl (lv_at hl 2 rfl) ?_
  refine lv_aload_n hx hb dL_law_766 rfl (lv_at hl 0 rfl) ?_
  refine lv_iload_n hx hb dL_law_767 rfl (lv_at hl 3 rfl) ?_
  refine lv_iconst (v := 1) hx hb dL_law_768 (by decide) ?_
  refine lv_iadd hx hb dL_law_769 ?_
  refine lv_topi (fun z_3 ez_3 => ?_)
  obtain rfl : z_3 = 1 := ez_3.trans (by decide)
  refine va_sld hx hb hX hbl hbA hS (vi rfl) dL_law_770 ?_
  have hPc := hP.sub (ws' := [(y0, .inr (12, fy))]) [8] rfl
  have hDc := hD.sub (ws' := [(y0, .inr (12, fy))]) [8] (by decide) rfl
  have hKc := hK.sub (tys' := []) [] rfl
  have hFc := va_free (wc := [(y0, .inr (12, fy))]) hD hS hA [8] rfl
  refine va_calli (va_runV (As := [.int (xs (1 : Int32).toNatClampNeg)]) (rest := [.int (-1)]) ⟨hx, hb, hml, hown, hts⟩ (m_X14_arrayLength l dC dI H.size y0 fy ((xs (1 : Int32).toNatClampNeg)) L_fy g_fy_85) (cwV 1 hts (gd_V kw_602 kw_603 kw_604 kw_374 kw_605) rfl rfl rfl (by decide +kernel) ⟨Nat.le_of_ble_eq_true rfl, Nat.le_of_ble_eq_true rfl⟩) ⟨st_blind, va_recv hKc hPc (ci := 12) (q0 := 0) rfl rfl, fun U hU hW9 => st_mk hU hW9 hPc hKc hDc hex⟩ rfl rfl hl.1 rfl (lv_room (Nat.le_of_ble_eq_true rfl)) dL_law_771 ⟨Nat.le_of_ble_eq_true rfl, Nat.le_of_ble_eq_true rfl⟩) hS (fun q _ h => hFc q h) hFc (fun r_4 u9 t9 H1 locs ht9 hvm9 hw9 hB9 hz9 hk9 hS => ?_)
  have hP1 : va_P (dC, dI) cl0 [] H1 := fun k q h => by simp at h
  have hD1 : va_D (va_A [(y0, .inr (12, fy))] H.size) [] := ⟨fun i j p q h => by simp at h, fun k q h => by simp at h⟩
  obtain ⟨hP, hD⟩ := va_join (wr := [(ht, .inr (0, ft)), (htd, .inl (cB, 64, .inl (fun _ => 0))), (hw, .inr (0, fw)), (hc, .inr (2, fc)), (hr, .inr (6, fr)), (hma, .inl (cJ, 8, .inr (.inl (fun _ => 0)))), (hs, .inr (8, fq)), (hsa, .inl (cI, 12, .inl (fun _ => 0))), (hyt, .inl (cB2, 16000, .inl (fun _ => 0))), (hst, .inr (13, [])), (hya, .inl (cJ2, 8, .inr (.inl (fun _ => 0)))), (hyd, .inl (cI2, 12, .inl (fun _ => 0)))]) (w1 := []) hP hD [8] [0, 1, 2, 3, 4, 5, 6, 7, 9, 10, 11, 12] rfl rfl (by decide) (by decide) hk9 hFc hP1 hD1
  generalize H1 = H at hP hS ⊢
  have hP : va_P (dC, dI) cl0 [(ht, .inr (0, ft)), (htd, .inl (cB, 64, .inl (fun _ => 0))), (hw, .inr (0, fw)), (hc, .inr (2, fc)), (hr, .inr (6, fr)), (hma, .inl (cJ, 8, .inr (.inl (fun _ => 0)))), (hs, .inr (8, fq)), (hsa, .inl (cI, 12, .inl (fun _ => 0))), (hyt, .inl (cB2, 16000, .inl (fun _ => 0))), (hst, .inr (13, [])), (hya, .inl (cJ2, 8, .inr (.inl (fun _ => 0)))), (hyd, .inl (cI2, 12, .inl (fun _ => 0)))] H := hP
  have hD : va_D A [(ht, .inr (0, ft)), (htd, .inl (cB, 64, .inl (fun _ => 0))), (hw, .inr (0, fw)), (hc, .inr (2, fc)), (hr, .inr (6, fr)), (hma, .inl (cJ, 8, .inr (.inl (fun _ => 0)))), (hs, .inr (8, fq)), (hsa, .inl (cI, 12, .inl (fun _ => 0))), (hyt, .inl (cB2, 16000, .inl (fun _ => 0))), (hst, .inr (13, [])), (hya, .inl (cJ2, 8, .inr (.inl (fun _ => 0)))), (hyd, .inl (cI2, 12, .inl (fun _ => 0)))] := hD
  have hw9 : r_4 = (-1) := hw9
  subst hw9
  refine lv_icmp_eq (tgt := 1010) hx hb dL_law_774 (by decide) (fun _ => ?_) (fun c9 => absurd (by decide) c9)
  refine W.widen (k := 173) (n := 857181) (Nat.le_refl _) (Nat.le_refl _) ?_
  exact law_end hAd C0 hS hl
set_option maxHeartbeats 4000000 in
set_option maxRecDepth 100000 in
theorem law_c23 {p : Program} {l : Launch} {e : Env} {s : State} {m : MethodId} {below : List Frame} {meth : Method} {c : Code} {dC : Nat → ClassId} {dI : Nat → Nat → Nat} {b L : Nat} {xs : Nat → Int32} {A : Nat → Prop} (hAd : A = fun q : Nat => s.heap.size ≤ q) (hL6 : L = 6) (C0 : lw_At p s m meth c b L xs) (hex : ex s) (hE : mg A s s.heap) {x0 y0 : Nat} {H : Heap} {locs : List Loc} (hF : law_fr dC dI A x0 y0 s H) (hS : va_S A s.heap H locs) {ls : Array Slot} (hl : lv_has ls 4 [(0, .ref b), (1, .ref x0), (2, .ref y0), (3, .int 0)]) : W p l e room_1 s m #[Value.ref b] below meth c H locs 173 857181 (lw_Z below #[Value.ref b] s) (F0 m 779 ls []) := by
  subst hL6
  obtain ⟨hx, hb, hr, hml, hown, hts1, hX, hbl, hlocks, hgv⟩ := id C0
  have hts : ∀ w ∈ tb, w.before #[Value.ref b] s = true := fun w h => hts1 w (tb_lw w h)
  have hown : s.vm.findClass RL = some m.cls := hown
  have hA : ∀ q : Nat, s.heap.size ≤ q → A q := fun q h => by rw [hAd]; exact h
  have hbA : ¬ A b := by rw [hAd]; exact Nat.not_le.mpr hbl
  obtain ⟨fx, ht, ft, htd, cB, hw, fw, hc, fc, hr, fr, hm, fm, hma, cJ, hs, fq, hsa, cI, fy, hyt, cB2, hst, hya, cJ2, hyd, cI2, L_fx, g_fx_0, g_fx_1, g_fx_4, g_fx_7, g_fx_9, g_fx_10, g_fx_11, g_fx_12, g_fx_13, g_fx_14, g_fx_15, g_fx_16, L_ft, g_ft_0, g_ft_1, L_fw, g_fw_1, L_fc, g_fc_0, L_fr, L_fm, g_fm_0, g_fm_5, g_fm_6, g_fm_7, g_fm_16, g_fm_17, g_fm_18, g_fm_19, L_fq, g_fq_1, L_fy, g_fy_1, g_fy_3, g_fy_4, g_fy_5, g_fy_6, g_fy_9, g_fy_10, g_fy_64, g_fy_65, g_fy_78, g_fy_80, g_fy_85, g_fy_87, g_fy_88, g_fy_96, g_fy_100, g_fy_101, g_fy_102, g_fy_124, hP, hK, hD⟩ := hF
  refine lv_aload_n hx hb dL_law_779 rfl (lv_at hl 1 rfl) ?_
  refine lv_aload_n hx hb dL_law_780 rfl (lv_at hl 0 rfl) ?_
  refine lv_iload_n hx hb dL_law_781 rfl (lv_at hl 3 rfl) ?_
  refine lv_iconst (v := 1) hx hb dL_law_782 (by decide) ?_
  refine lv_iadd hx hb dL_law_783 ?_
  refine lv_topi (fun z_1 ez_1 => ?_)
  obtain rfl : z_1 = 1 := ez_1.trans (by decide)
  refine va_sld hx hb hX hbl hbA hS (vi rfl) dL_law_784 ?_
  refine lv_aload_n hx hb dL_law_785 rfl (lv_at hl 0 rfl) ?_
  refine lv_iload_n hx hb dL_law_786 rfl (lv_at hl 3 rfl) ?_
  refine lv_iconst (v := 2) hx hb dL_law_787 (by decide) ?_
  refine lv_iadd hx hb dL_law_788 ?_
  refine lv_topi (fun z_2 ez_2 => ?_)
  obtain rfl : z_2 = 2 := ez_2.trans (by decide)
  refine va_sld hx hb hX hbl hbA hS (vi rfl) dL_law_789 ?_
  have hPc := hP.sub (ws' := [(x0, .inr (10, fx))]) [0] rfl
  have hDc := hD.sub (ws' := [(x0, .inr (10, fx))]) [0] (by decide) rfl
  have hKc := hK.sub (tys' := []) [] rfl
  have hFc := va_free (wc := [(x0, .inr (10, fx))]) hD hS hA [0] rfl
  refine va_calli (va_runV (As := [.int (xs (1 : Int32).toNatClampNeg), .int (xs (2 : Int32).toNatClampNeg)]) (rest := []) ⟨hx, hb, hml, hown, hts⟩ (m_X12_blocks l dC dI H.size x0 fx ((xs (1 : Int32).toNatClampNeg)) ((xs (2 : Int32).toNatClampNeg)) L_fx g_fx_11) (cwV 2 hts (gd_V kw_606 kw_607 kw_608 kw_169 kw_609) rfl rfl rfl (by decide +kernel) ⟨Nat.le_of_ble_eq_true rfl, Nat.le_of_ble_eq_true rfl⟩) ⟨st_blind, va_recv hKc hPc (ci := 10) (q0 := 0) rfl rfl, fun U hU hW9 => st_mk hU hW9 hPc hKc hDc hex⟩ rfl rfl hl.1 rfl (lv_room (Nat.le_of_ble_eq_true rfl)) dL_law_790 ⟨Nat.le_of_ble_eq_true rfl, Nat.le_of_ble_eq_true rfl⟩) hS (fun q _ h => hFc q h) hFc (fun r_3 u9 t9 H1 locs ht9 hvm9 hw9 hB9 hz9 hk9 hS => ?_)
  have hP1 : va_P (dC, dI) cl0 [] H1 := fun k q h => by simp at h
  have hD1 : va_D (va_A [(x0, .inr (10, fx))] H.size) [] := ⟨fun i j p q h => by simp at h, fun k q h => by simp at h⟩
  obtain ⟨hP, hD⟩ := va_join (wr := [(ht, .inr (0, ft)), (htd, .inl (cB, 64, .inl (fun _ => 0))), (hw, .inr (0, fw)), (hc, .inr (2, fc)), (hr, .inr (6, fr)), (hm, .inr (5, fm)), (hma, .inl (cJ, 8, .inr (.inl (fun _ => 0)))), (hs, .inr (8, fq)), (hsa, .inl (cI, 12, .inl (fun _ => 0))), (y0, .inr (12, fy)), (hyt, .inl (cB2, 16000, .inl (fun _ => 0))), (hst, .inr (13, [])), (hya, .inl (cJ2, 8, .inr (.inl (fun _ => 0)))), (hyd, .inl (cI2, 12, .inl (fun _ => 0)))]) (w1 := []) hP hD [0] [1, 2, 3, 4, 5, 6, 7, 8, 9, 10, 11, 12, 13, 14] rfl rfl (by decide) (by decide) hk9 hFc hP1 hD1
  generalize H1 = H at hP hS ⊢
  have hP : va_P (dC, dI) cl0 [(ht, .inr (0, ft)), (htd, .inl (cB, 64, .inl (fun _ => 0))), (hw, .inr (0, fw)), (hc, .inr (2, fc)), (hr, .inr (6, fr)), (hm, .inr (5, fm)), (hma, .inl (cJ, 8, .inr (.inl (fun _ => 0)))), (hs, .inr (8, fq)), (hsa, .inl (cI, 12, .inl (fun _ => 0))), (y0, .inr (12, fy)), (hyt, .inl (cB2, 16000, .inl (fun _ => 0))), (hst, .inr (13, [])), (hya, .inl (cJ2, 8, .inr (.inl (fun _ => 0)))), (hyd, .inl (cI2, 12, .inl (fun _ => 0)))] H := hP
  have hD : va_D A [(ht, .inr (0, ft)), (htd, .inl (cB, 64, .inl (fun _ => 0))), (hw, .inr (0, fw)), (hc, .inr (2, fc)), (hr, .inr (6, fr)), (hm, .inr (5, fm)), (hma, .inl (cJ, 8, .inr (.inl (fun _ => 0)))), (hs, .inr (8, fq)), (hsa, .inl (cI, 12, .inl (fun _ => 0))), (y0, .inr (12, fy)), (hyt, .inl (cB2, 16000, .inl (fun _ => 0))), (hst, .inr (13, [])), (hya, .inl (cJ2, 8, .inr (.inl (fun _ => 0)))), (hyd, .inl (cI2, 12, .inl (fun _ => 0)))] := hD
  have hw9 : r_3 = (-1) := hw9
  subst hw9
  refine lv_aload_n hx hb dL_law_793 rfl (lv_at hl 2 rfl) ?_
  refine lv_aload_n hx hb dL_law_794 rfl (lv_at hl 0 rfl) ?_
  refine lv_iload_n hx hb dL_law_795 rfl (lv_at hl 3 rfl) ?_
  refine lv_iconst (v := 1) hx hb dL_law_796 (by decide) ?_
  refine lv_iadd hx hb dL_law_797 ?_
  refine lv_topi (fun z_4 ez_4 => ?_)
  obtain rfl : z_4 = 1 := ez_4.trans (by decide)
  refine va_sld hx hb hX hbl hbA hS (vi rfl) dL_law_798 ?_
  refine lv_aload_n hx hb dL_law_799 rfl (lv_at hl 0 rfl) ?_
  refine lv_iload_n hx hb dL_law_800 rfl (lv_at hl 3 rfl) ?_
  refine lv_iconst (v := 2) hx hb dL_law_801 (by decide) ?_
  refine lv_iadd hx hb dL_law_802 ?_
  refine lv_topi (fun z_5 ez_5 => ?_)
  obtain rfl : z_5 = 2 := ez_5.trans (by decide)
  refine va_sld hx hb hX hbl hbA hS (vi rfl) dL_law_803 ?_
  have hPc := hP.sub (ws' := [(y0, .inr (12, fy))]) [9] rfl
  have hDc := hD.sub (ws' := [(y0, .inr (12, fy))]) [9] (by decide) rfl
  have hKc := hK.sub (tys' := []) [] rfl
  have hFc := va_free (wc := [(y0, .inr (12, fy))]) hD hS hA [9] rfl
  refine va_calli (va_runV (As := [.int (xs (1 : Int32).toNatClampNeg), .int (xs (2 : Int32).toNatClampNeg)]) (rest := [.int (-1)]) ⟨hx, hb, hml, hown, hts⟩ (m_X14_blocks l dC dI H.size y0 fy ((xs (1 : Int32).toNatClampNeg)) ((xs (2 : Int32).toNatClampNeg)) L_fy g_fy_1) (cwV 2 hts (gd_V kw_610 kw_611 kw_612 kw_374 kw_613) rfl rfl rfl (by decide +kernel) ⟨Nat.le_of_ble_eq_true rfl, Nat.le_of_ble_eq_true rfl⟩) ⟨st_blind, va_recv hKc hPc (ci := 12) (q0 := 0) rfl rfl, fun U hU hW9 => st_mk hU hW9 hPc hKc hDc hex⟩ rfl rfl hl.1 rfl (lv_room (Nat.le_of_ble_eq_true rfl)) dL_law_804 ⟨Nat.le_of_ble_eq_true rfl, Nat.le_of_ble_eq_true rfl⟩) hS (fun q _ h => hFc q h) hFc (fun r_6 u9 t9 H1 locs ht9 hvm9 hw9 hB9 hz9 hk9 hS => ?_)
  have hP1 : va_P (dC, dI) cl0 [] H1 := fun k q h => by simp at h
  have hD1 : va_D (va_A [(y0, .inr (12, fy))] H.size) [] := ⟨fun i j p q h => by simp at h, fun k q h => by simp at h⟩
  obtain ⟨hP, hD⟩ := va_join (wr := [(ht, .inr (0, ft)), (htd, .inl (cB, 64, .inl (fun _ => 0))), (hw, .inr (0, fw)), (hc, .inr (2, fc)), (hr, .inr (6, fr)), (hm, .inr (5, fm)), (hma, .inl (cJ, 8, .inr (.inl (fun _ => 0)))), (hs, .inr (8, fq)), (hsa, .inl (cI, 12, .inl (fun _ => 0))), (hyt, .inl (cB2, 16000, .inl (fun _ => 0))), (hst, .inr (13, [])), (hya, .inl (cJ2, 8, .inr (.inl (fun _ => 0)))), (hyd, .inl (cI2, 12, .inl (fun _ => 0)))]) (w1 := []) hP hD [9] [0, 1, 2, 3, 4, 5, 6, 7, 8, 10, 11, 12, 13] rfl rfl (by decide) (by decide) hk9 hFc hP1 hD1
  generalize H1 = H at hP hS ⊢
  have hP : va_P (dC, dI) cl0 [(ht, .inr (0, ft)), (htd, .inl (cB, 64, .inl (fun _ => 0))), (hw, .inr (0, fw)), (hc, .inr (2, fc)), (hr, .inr (6, fr)), (hm, .inr (5, fm)), (hma, .inl (cJ, 8, .inr (.inl (fun _ => 0)))), (hs, .inr (8, fq)), (hsa, .inl (cI, 12, .inl (fun _ => 0))), (hyt, .inl (cB2, 16000, .inl (fun _ => 0))), (hst, .inr (13, [])), (hya, .inl (cJ2, 8, .inr (.inl (fun _ => 0)))), (hyd, .inl (cI2, 12, .inl (fun _ => 0)))] H := hP
  have hD : va_D A [(ht, .inr (0, ft)), (htd, .inl (cB, 64, .inl (fun _ => 0))), (hw, .inr (0, fw)), (hc, .inr (2, fc)), (hr, .inr (6, fr)), (hm, .inr (5, fm)), (hma, .inl (cJ, 8, .inr (.inl (fun _ => 0)))), (hs, .inr (8, fq)), (hsa, .inl (cI, 12, .inl (fun _ => 0))), (hyt, .inl (cB2, 16000, .inl (fun _ => 0))), (hst, .inr (13, [])), (hya, .inl (cJ2, 8, .inr (.inl (fun _ => 0)))), (hyd, .inl (cI2, 12, .inl (fun _ => 0)))] := hD
  have hw9 : r_6 = (-1) := hw9
  subst hw9
  refine lv_icmp_eq (tgt := 1010) hx hb dL_law_807 (by decide) (fun _ => ?_) (fun c9 => absurd (by decide) c9)
  refine W.widen (k := 173) (n := 857181) (Nat.le_refl _) (Nat.le_refl _) ?_
  exact law_end hAd C0 hS hl
set_option maxHeartbeats 4000000 in
set_option maxRecDepth 100000 in
theorem law_c24 {p : Program} {l : Launch} {e : Env} {s : State} {m : MethodId} {below : List Frame} {meth : Method} {c : Code} {dC : Nat → ClassId} {dI : Nat → Nat → Nat} {b L : Nat} {xs : Nat → Int32} {A : Nat → Prop} (hAd : A = fun q : Nat => s.heap.size ≤ q) (hL6 : L = 6) (C0 : lw_At p s m meth c b L xs) (hex : ex s) (hE : mg A s s.heap) {x0 y0 : Nat} {H : Heap} {locs : List Loc} (hF : law_fr dC dI A x0 y0 s H) (hS : va_S A s.heap H locs) {ls : Array Slot} (hl : lv_has ls 4 [(0, .ref b), (1, .ref x0), (2, .ref y0), (3, .int 0)]) : W p l e room_1 s m #[Value.ref b] below meth c H locs 173 857181 (lw_Z below #[Value.ref b] s) (F0 m 812 ls []) := by
  subst hL6
  obtain ⟨hx, hb, hr, hml, hown, hts1, hX, hbl, hlocks, hgv⟩ := id C0
  have hts : ∀ w ∈ tb, w.before #[Value.ref b] s = true := fun w h => hts1 w (tb_lw w h)
  have hown : s.vm.findClass RL = some m.cls := hown
  have hA : ∀ q : Nat, s.heap.size ≤ q → A q := fun q h => by rw [hAd]; exact h
  have hbA : ¬ A b := by rw [hAd]; exact Nat.not_le.mpr hbl
  obtain ⟨fx, ht, ft, htd, cB, hw, fw, hc, fc, hr, fr, hm, fm, hma, cJ, hs, fq, hsa, cI, fy, hyt, cB2, hst, hya, cJ2, hyd, cI2, L_fx, g_fx_0, g_fx_1, g_fx_4, g_fx_7, g_fx_9, g_fx_10, g_fx_11, g_fx_12, g_fx_13, g_fx_14, g_fx_15, g_fx_16, L_ft, g_ft_0, g_ft_1, L_fw, g_fw_1, L_fc, g_fc_0, L_fr, L_fm, g_fm_0, g_fm_5, g_fm_6, g_fm_7, g_fm_16, g_fm_17, g_fm_18, g_fm_19, L_fq, g_fq_1, L_fy, g_fy_1, g_fy_3, g_fy_4, g_fy_5, g_fy_6, g_fy_9, g_fy_10, g_fy_64, g_fy_65, g_fy_78, g_fy_80, g_fy_85, g_fy_87, g_fy_88, g_fy_96, g_fy_100, g_fy_101, g_fy_102, g_fy_124, hP, hK, hD⟩ := hF
  refine lv_aload_n hx hb dL_law_812 rfl (lv_at hl 1 rfl) ?_
  refine lv_aload_n hx hb dL_law_813 rfl (lv_at hl 0 rfl) ?_
  refine lv_iload_n hx hb dL_law_814 rfl (lv_at hl 3 rfl) ?_
  refine lv_iconst (v := 1) hx hb dL_law_815 (by decide) ?_
  refine lv_iadd hx hb dL_law_816 ?_
  refine lv_topi (fun z_1 ez_1 => ?_)
  obtain rfl : z_1 = 1 := ez_1.trans (by decide)
  refine va_sld hx hb hX hbl hbA hS (vi rfl) dL_law_817 ?_
  refine lv_aload_n hx hb dL_law_818 rfl (lv_at hl 0 rfl) ?_
  refine lv_iload_n hx hb dL_law_819 rfl (lv_at hl 3 rfl) ?_
  refine lv_iconst (v := 2) hx hb dL_law_820 (by decide) ?_
  refine lv_iadd hx hb dL_law_821 ?_
  refine lv_topi (fun z_2 ez_2 => ?_)
  obtain rfl : z_2 = 2 := ez_2.trans (by decide)
  refine va_sld hx hb hX hbl hbA hS (vi rfl) dL_law_822 ?_
  refine lv_aload_n hx hb dL_law_823 rfl (lv_at hl 0 rfl) ?_
  refine lv_iload_n hx hb dL_law_824 rfl (lv_at hl 3 rfl) ?_
  refine lv_iconst (v := 3) hx hb dL_law_825 (by decide) ?_
  refine lv_iadd hx hb dL_law_826 ?_
  refine lv_topi (fun z_3 ez_3 => ?_)
  obtain rfl : z_3 = 3 := ez_3.trans (by decide)
  refine va_sld hx hb hX hbl hbA hS (vi rfl) dL_law_827 ?_
  refine lv_aload_n hx hb dL_law_828 rfl (lv_at hl 0 rfl) ?_
  refine lv_iload_n hx hb dL_law_829 rfl (lv_at hl 3 rfl) ?_
  refine lv_iconst (v := 4) hx hb dL_law_830 (by decide) ?_
  refine lv_iadd hx hb dL_law_831 ?_
  refine lv_topi (fun z_4 ez_4 => ?_)
  obtain rfl : z_4 = 4 := ez_4.trans (by decide)
  refine va_sld hx hb hX hbl hbA hS (vi rfl) dL_law_832 ?_
  have hPc := hP.sub (ws' := [(x0, .inr (10, fx))]) [0] rfl
  have hDc := hD.sub (ws' := [(x0, .inr (10, fx))]) [0] (by decide) rfl
  have hKc := hK.sub (tys' := []) [] rfl
  have hFc := va_free (wc := [(x0, .inr (10, fx))]) hD hS hA [0] rfl
  refine va_calli (va_runV (As := [.int (xs (1 : Int32).toNatClampNeg), .int (xs (2 : Int32).toNatClampNeg), .int (xs (3 : Int32).toNatClampNeg), .int (xs (4 : Int32).toNatClampNeg)]) (rest := []) ⟨hx, hb, hml, hown, hts⟩ (m_X12_block l dC dI H.size x0 fx ((xs (1 : Int32).toNatClampNeg)) ((xs (2 : Int32).toNatClampNeg)) ((xs (3 : Int32).toNatClampNeg)) ((xs (4 : Int32).toNatClampNeg)) L_fx g_fx_11) (cwV 4 hts (gd_V kw_614 kw_615 kw_616 kw_169 kw_617) rfl rfl rfl (by decide +kernel) ⟨Nat.le_of_ble_eq_true rfl, Nat.le_of_ble_eq_true rfl⟩) ⟨st_blind, va_recv hKc hPc (ci := 10) (q0 := 0) rfl rfl, fun U hU hW9 => st_mk hU hW9 hPc hKc hDc hex⟩ rfl rfl hl.1 rfl (lv_room (Nat.le_of_ble_eq_true rfl)) dL_law_833 ⟨Nat.le_of_ble_eq_true rfl, Nat.le_of_ble_eq_true rfl⟩) hS (fun q _ h => hFc q h) hFc (fun r_5 u9 t9 H1 locs ht9 hvm9 hw9 hB9 hz9 hk9 hS => ?_)
  have hP1 : va_P (dC, dI) cl0 [] H1 := fun k q h => by simp at h
  have hD1 : va_D (va_A [(x0, .inr (10, fx))] H.size) [] := ⟨fun i j p q h => by simp at h, fun k q h => by simp at h⟩
  obtain ⟨hP, hD⟩ := va_join (wr := [(ht, .inr (0, ft)), (htd, .inl (cB, 64, .inl (fun _ => 0))), (hw, .inr (0, fw)), (hc, .inr (2, fc)), (hr, .inr (6, fr)), (hm, .inr (5, fm)), (hma, .inl (cJ, 8, .inr (.inl (fun _ => 0)))), (hs, .inr (8, fq)), (hsa, .inl (cI, 12, .inl (fun _ => 0))), (y0, .inr (12, fy)), (hyt, .inl (cB2, 16000, .inl (fun _ => 0))), (hst, .inr (13, [])), (hya, .inl (cJ2, 8, .inr (.inl (fun _ => 0)))), (hyd, .inl (cI2, 12, .inl (fun _ => 0)))]) (w1 := []) hP hD [0] [1, 2, 3, 4, 5, 6, 7, 8, 9, 10, 11, 12, 13, 14] rfl rfl (by decide) (by decide) hk9 hFc hP1 hD1
  generalize H1 = H at hP hS ⊢
  have hP : va_P (dC, dI) cl0 [(ht, .inr (0, ft)), (htd, .inl (cB, 64, .inl (fun _ => 0))), (hw, .inr (0, fw)), (hc, .inr (2, fc)), (hr, .inr (6, fr)), (hm, .inr (5, fm)), (hma, .inl (cJ, 8, .inr (.inl (fun _ => 0)))), (hs, .inr (8, fq)), (hsa, .inl (cI, 12, .inl (fun _ => 0))), (y0, .inr (12, fy)), (hyt, .inl (cB2, 16000, .inl (fun _ => 0))), (hst, .inr (13, [])), (hya, .inl (cJ2, 8, .inr (.inl (fun _ => 0)))), (hyd, .inl (cI2, 12, .inl (fun _ => 0)))] H := hP
  have hD : va_D A [(ht, .inr (0, ft)), (htd, .inl (cB, 64, .inl (fun _ => 0))), (hw, .inr (0, fw)), (hc, .inr (2, fc)), (hr, .inr (6, fr)), (hm, .inr (5, fm)), (hma, .inl (cJ, 8, .inr (.inl (fun _ => 0)))), (hs, .inr (8, fq)), (hsa, .inl (cI, 12, .inl (fun _ => 0))), (y0, .inr (12, fy)), (hyt, .inl (cB2, 16000, .inl (fun _ => 0))), (hst, .inr (13, [])), (hya, .inl (cJ2, 8, .inr (.inl (fun _ => 0)))), (hyd, .inl (cI2, 12, .inl (fun _ => 0)))] := hD
  have hw9 : r_5 = (-1) := hw9
  subst hw9
  refine lv_aload_n hx hb dL_law_836 rfl (lv_at hl 2 rfl) ?_
  refine lv_aload_n hx hb dL_law_837 rfl (lv_at hl 0 rfl) ?_
  refine lv_iload_n hx hb dL_law_838 rfl (lv_at hl 3 rfl) ?_
  refine lv_iconst (v := 1) hx hb dL_law_839 (by decide) ?_
  refine lv_iadd hx hb dL_law_840 ?_
  refine lv_topi (fun z_6 ez_6 => ?_)
  obtain rfl : z_6 = 1 := ez_6.trans (by decide)
  refine va_sld hx hb hX hbl hbA hS (vi rfl) dL_law_841 ?_
  refine lv_aload_n hx hb dL_law_842 rfl (lv_at hl 0 rfl) ?_
  refine lv_iload_n hx hb dL_law_843 rfl (lv_at hl 3 rfl) ?_
  refine lv_iconst (v := 2) hx hb dL_law_844 (by decide) ?_
  refine lv_iadd hx hb dL_law_845 ?_
  refine lv_topi (fun z_7 ez_7 => ?_)
  obtain rfl : z_7 = 2 := ez_7.trans (by decide)
  refine va_sld hx hb hX hbl hbA hS (vi rfl) dL_law_846 ?_
  refine lv_aload_n hx hb dL_law_847 rfl (lv_at hl 0 rfl) ?_
  refine lv_iload_n hx hb dL_law_848 rfl (lv_at hl 3 rfl) ?_
  refine lv_iconst (v := 3) hx hb dL_law_849 (by decide) ?_
  refine lv_iadd hx hb dL_law_850 ?_
  refine lv_topi (fun z_8 ez_8 => ?_)
  obtain rfl : z_8 = 3 := ez_8.trans (by decide)
  refine va_sld hx hb hX hbl hbA hS (vi rfl) dL_law_851 ?_
  refine lv_aload_n hx hb dL_law_852 rfl (lv_at hl 0 rfl) ?_
  refine lv_iload_n hx hb dL_law_853 rfl (lv_at hl 3 rfl) ?_
  refine lv_iconst (v := 4) hx hb dL_law_854 (by decide) ?_
  refine lv_iadd hx hb dL_law_855 ?_
  refine lv_topi (fun z_9 ez_9 => ?_)
  obtain rfl : z_9 = 4 := ez_9.trans (by decide)
  refine va_sld hx hb hX hbl hbA hS (vi rfl) dL_law_856 ?_
  have hPc := hP.sub (ws' := [(y0, .inr (12, fy))]) [9] rfl
  have hDc := hD.sub (ws' := [(y0, .inr (12, fy))]) [9] (by decide) rfl
  have hKc := hK.sub (tys' := []) [] rfl
  have hFc := va_free (wc := [(y0, .inr (12, fy))]) hD hS hA [9] rfl
  refine va_calli (va_runV (As := [.int (xs (1 : Int32).toNatClampNeg), .int (xs (2 : Int32).toNatClampNeg), .int (xs (3 : Int32).toNatClampNeg), .int (xs (4 : Int32).toNatClampNeg)]) (rest := [.int (-1)]) ⟨hx, hb, hml, hown, hts⟩ (m_X14_block l dC dI H.size y0 fy ((xs (1 : Int32).toNatClampNeg)) ((xs (2 : Int32).toNatClampNeg)) ((xs (3 : Int32).toNatClampNeg)) ((xs (4 : Int32).toNatClampNeg)) L_fy g_fy_1) (cwV 4 hts (gd_V kw_618 kw_619 kw_620 kw_374 kw_621) rfl rfl rfl (by decide +kernel) ⟨Nat.le_of_ble_eq_true rfl, Nat.le_of_ble_eq_true rfl⟩) ⟨st_blind, va_recv hKc hPc (ci := 12) (q0 := 0) rfl rfl, fun U hU hW9 => st_mk hU hW9 hPc hKc hDc hex⟩ rfl rfl hl.1 rfl (lv_room (Nat.le_of_ble_eq_true rfl)) dL_law_857 ⟨Nat.le_of_ble_eq_true rfl, Nat.le_of_ble_eq_true rfl⟩) hS (fun q _ h => hFc q h) hFc (fun r_10 u9 t9 H1 locs ht9 hvm9 hw9 hB9 hz9 hk9 hS => ?_)
  have hP1 : va_P (dC, dI) cl0 [] H1 := fun k q h => by simp at h
  have hD1 : va_D (va_A [(y0, .inr (12, fy))] H.size) [] := ⟨fun i j p q h => by simp at h, fun k q h => by simp at h⟩
  obtain ⟨hP, hD⟩ := va_join (wr := [(ht, .inr (0, ft)), (htd, .inl (cB, 64, .inl (fun _ => 0))), (hw, .inr (0, fw)), (hc, .inr (2, fc)), (hr, .inr (6, fr)), (hm, .inr (5, fm)), (hma, .inl (cJ, 8, .inr (.inl (fun _ => 0)))), (hs, .inr (8, fq)), (hsa, .inl (cI, 12, .inl (fun _ => 0))), (hyt, .inl (cB2, 16000, .inl (fun _ => 0))), (hst, .inr (13, [])), (hya, .inl (cJ2, 8, .inr (.inl (fun _ => 0)))), (hyd, .inl (cI2, 12, .inl (fun _ => 0)))]) (w1 := []) hP hD [9] [0, 1, 2, 3, 4, 5, 6, 7, 8, 10, 11, 12, 13] rfl rfl (by decide) (by decide) hk9 hFc hP1 hD1
  generalize H1 = H at hP hS ⊢
  have hP : va_P (dC, dI) cl0 [(ht, .inr (0, ft)), (htd, .inl (cB, 64, .inl (fun _ => 0))), (hw, .inr (0, fw)), (hc, .inr (2, fc)), (hr, .inr (6, fr)), (hm, .inr (5, fm)), (hma, .inl (cJ, 8, .inr (.inl (fun _ => 0)))), (hs, .inr (8, fq)), (hsa, .inl (cI, 12, .inl (fun _ => 0))), (hyt, .inl (cB2, 16000, .inl (fun _ => 0))), (hst, .inr (13, [])), (hya, .inl (cJ2, 8, .inr (.inl (fun _ => 0)))), (hyd, .inl (cI2, 12, .inl (fun _ => 0)))] H := hP
  have hD : va_D A [(ht, .inr (0, ft)), (htd, .inl (cB, 64, .inl (fun _ => 0))), (hw, .inr (0, fw)), (hc, .inr (2, fc)), (hr, .inr (6, fr)), (hm, .inr (5, fm)), (hma, .inl (cJ, 8, .inr (.inl (fun _ => 0)))), (hs, .inr (8, fq)), (hsa, .inl (cI, 12, .inl (fun _ => 0))), (hyt, .inl (cB2, 16000, .inl (fun _ => 0))), (hst, .inr (13, [])), (hya, .inl (cJ2, 8, .inr (.inl (fun _ => 0)))), (hyd, .inl (cI2, 12, .inl (fun _ => 0)))] := hD
  have hw9 : r_10 = (-1) := hw9
  subst hw9
  refine lv_icmp_eq (tgt := 1010) hx hb dL_law_860 (by decide) (fun _ => ?_) (fun c9 => absurd (by decide) c9)
  refine W.widen (k := 173) (n := 857181) (Nat.le_refl _) (Nat.le_refl _) ?_
  exact law_end hAd C0 hS hl
set_option maxHeartbeats 4000000 in
set_option maxRecDepth 100000 in
theorem law_c25 {p : Program} {l : Launch} {e : Env} {s : State} {m : MethodId} {below : List Frame} {meth : Method} {c : Code} {dC : Nat → ClassId} {dI : Nat → Nat → Nat} {b L : Nat} {xs : Nat → Int32} {A : Nat → Prop} (hAd : A = fun q : Nat => s.heap.size ≤ q) (hL6 : L = 6) (C0 : lw_At p s m meth c b L xs) (hex : ex s) (hE : mg A s s.heap) {x0 y0 : Nat} {H : Heap} {locs : List Loc} (hF : law_fr dC dI A x0 y0 s H) (hS : va_S A s.heap H locs) {ls : Array Slot} (hl : lv_has ls 4 [(0, .ref b), (1, .ref x0), (2, .ref y0), (3, .int 0)]) : W p l e room_1 s m #[Value.ref b] below meth c H locs 173 857181 (lw_Z below #[Value.ref b] s) (F0 m 865 ls []) := by
  subst hL6
  obtain ⟨hx, hb, hr, hml, hown, hts1, hX, hbl, hlocks, hgv⟩ := id C0
  have hts : ∀ w ∈ tb, w.before #[Value.ref b] s = true := fun w h => hts1 w (tb_lw w h)
  have hown : s.vm.findClass RL = some m.cls := hown
  have hA : ∀ q : Nat, s.heap.size ≤ q → A q := fun q h => by rw [hAd]; exact h
  have hbA : ¬ A b := by rw [hAd]; exact Nat.not_le.mpr hbl
  obtain ⟨fx, ht, ft, htd, cB, hw, fw, hc, fc, hr, fr, hm, fm, hma, cJ, hs, fq, hsa, cI, fy, hyt, cB2, hst, hya, cJ2, hyd, cI2, L_fx, g_fx_0, g_fx_1, g_fx_4, g_fx_7, g_fx_9, g_fx_10, g_fx_11, g_fx_12, g_fx_13, g_fx_14, g_fx_15, g_fx_16, L_ft, g_ft_0, g_ft_1, L_fw, g_fw_1, L_fc, g_fc_0, L_fr, L_fm, g_fm_0, g_fm_5, g_fm_6, g_fm_7, g_fm_16, g_fm_17, g_fm_18, g_fm_19, L_fq, g_fq_1, L_fy, g_fy_1, g_fy_3, g_fy_4, g_fy_5, g_fy_6, g_fy_9, g_fy_10, g_fy_64, g_fy_65, g_fy_78, g_fy_80, g_fy_85, g_fy_87, g_fy_88, g_fy_96, g_fy_100, g_fy_101, g_fy_102, g_fy_124, hP, hK, hD⟩ := hF
  refine lv_aload_n hx hb dL_law_865 rfl (lv_at hl 1 rfl) ?_
  refine lv_aload_n hx hb dL_law_866 rfl (lv_at hl 0 rfl) ?_
  refine lv_iload_n hx hb dL_law_867 rfl (lv_at hl 3 rfl) ?_
  refine lv_iconst (v := 1) hx hb dL_law_868 (by decide) ?_
  refine lv_iadd hx hb dL_law_869 ?_
  refine lv_topi (fun z_1 ez_1 => ?_)
  obtain rfl : z_1 = 1 := ez_1.trans (by decide)
  refine va_sld hx hb hX hbl hbA hS (vi rfl) dL_law_870 ?_
  refine lv_aload_n hx hb dL_law_871 rfl (lv_at hl 0 rfl) ?_
  refine lv_iload_n hx hb dL_law_872 rfl (lv_at hl 3 rfl) ?_
  refine lv_iconst (v := 2) hx hb dL_law_873 (by decide) ?_
  refine lv_iadd hx hb dL_law_874 ?_
  refine lv_topi (fun z_2 ez_2 => ?_)
  obtain rfl : z_2 = 2 := ez_2.trans (by decide)
  refine va_sld hx hb hX hbl hbA hS (vi rfl) dL_law_875 ?_
  refine lv_aload_n hx hb dL_law_876 rfl (lv_at hl 0 rfl) ?_
  refine lv_iload_n hx hb dL_law_877 rfl (lv_at hl 3 rfl) ?_
  refine lv_iconst (v := 3) hx hb dL_law_878 (by decide) ?_
  refine lv_iadd hx hb dL_law_879 ?_
  refine lv_topi (fun z_3 ez_3 => ?_)
  obtain rfl : z_3 = 3 := ez_3.trans (by decide)
  refine va_sld hx hb hX hbl hbA hS (vi rfl) dL_law_880 ?_
  refine lv_aload_n hx hb dL_law_881 rfl (lv_at hl 0 rfl) ?_
  refine lv_iload_n hx hb dL_law_882 rfl (lv_at hl 3 rfl) ?_
  refine lv_iconst (v := 4) hx hb dL_law_883 (by decide) ?_
  refine lv_iadd hx hb dL_law_884 ?_
  refine lv_topi (fun z_4 ez_4 => ?_)
  obtain rfl : z_4 = 4 := ez_4.trans (by decide)
  refine va_sld hx hb hX hbl hbA hS (vi rfl) dL_law_885 ?_
  have hPc := hP.sub (ws' := [(x0, .inr (10, fx))]) [0] rfl
  have hDc := hD.sub (ws' := [(x0, .inr (10, fx))]) [0] (by decide) rfl
  have hKc := hK.sub (tys' := []) [] rfl
  have hFc := va_free (wc := [(x0, .inr (10, fx))]) hD hS hA [0] rfl
  refine va_calli (va_runV (As := [.int (xs (1 : Int32).toNatClampNeg), .int (xs (2 : Int32).toNatClampNeg), .int (xs (3 : Int32).toNatClampNeg), .int (xs (4 : Int32).toNatClampNeg)]) (rest := []) ⟨hx, hb, hml, hown, hts⟩ (m_X12_edge l dC dI H.size x0 fx ((xs (1 : Int32).toNatClampNeg)) ((xs (2 : Int32).toNatClampNeg)) ((xs (3 : Int32).toNatClampNeg)) ((xs (4 : Int32).toNatClampNeg)) L_fx g_fx_11) (cwV 4 hts (gd_V kw_622 kw_623 kw_624 kw_169 kw_625) rfl rfl rfl (by decide +kernel) ⟨Nat.le_of_ble_eq_true rfl, Nat.le_of_ble_eq_true rfl⟩) ⟨st_blind, va_recv hKc hPc (ci := 10) (q0 := 0) rfl rfl, fun U hU hW9 => st_mk hU hW9 hPc hKc hDc hex⟩ rfl rfl hl.1 rfl (lv_room (Nat.le_of_ble_eq_true rfl)) dL_law_886 ⟨Nat.le_of_ble_eq_true rfl, Nat.le_of_ble_eq_true rfl⟩) hS (fun q _ h => hFc q h) hFc (fun r_5 u9 t9 H1 locs ht9 hvm9 hw9 hB9 hz9 hk9 hS => ?_)
  have hP1 : va_P (dC, dI) cl0 [] H1 := fun k q h => by simp at h
  have hD1 : va_D (va_A [(x0, .inr (10, fx))] H.size) [] := ⟨fun i j p q h => by simp at h, fun k q h => by simp at h⟩
  obtain ⟨hP, hD⟩ := va_join (wr := [(ht, .inr (0, ft)), (htd, .inl (cB, 64, .inl (fun _ => 0))), (hw, .inr (0, fw)), (hc, .inr (2, fc)), (hr, .inr (6, fr)), (hm, .inr (5, fm)), (hma, .inl (cJ, 8, .inr (.inl (fun _ => 0)))), (hs, .inr (8, fq)), (hsa, .inl (cI, 12, .inl (fun _ => 0))), (y0, .inr (12, fy)), (hyt, .inl (cB2, 16000, .inl (fun _ => 0))), (hst, .inr (13, [])), (hya, .inl (cJ2, 8, .inr (.inl (fun _ => 0)))), (hyd, .inl (cI2, 12, .inl (fun _ => 0)))]) (w1 := []) hP hD [0] [1, 2, 3, 4, 5, 6, 7, 8, 9, 10, 11, 12, 13, 14] rfl rfl (by decide) (by decide) hk9 hFc hP1 hD1
  generalize H1 = H at hP hS ⊢
  have hP : va_P (dC, dI) cl0 [(ht, .inr (0, ft)), (htd, .inl (cB, 64, .inl (fun _ => 0))), (hw, .inr (0, fw)), (hc, .inr (2, fc)), (hr, .inr (6, fr)), (hm, .inr (5, fm)), (hma, .inl (cJ, 8, .inr (.inl (fun _ => 0)))), (hs, .inr (8, fq)), (hsa, .inl (cI, 12, .inl (fun _ => 0))), (y0, .inr (12, fy)), (hyt, .inl (cB2, 16000, .inl (fun _ => 0))), (hst, .inr (13, [])), (hya, .inl (cJ2, 8, .inr (.inl (fun _ => 0)))), (hyd, .inl (cI2, 12, .inl (fun _ => 0)))] H := hP
  have hD : va_D A [(ht, .inr (0, ft)), (htd, .inl (cB, 64, .inl (fun _ => 0))), (hw, .inr (0, fw)), (hc, .inr (2, fc)), (hr, .inr (6, fr)), (hm, .inr (5, fm)), (hma, .inl (cJ, 8, .inr (.inl (fun _ => 0)))), (hs, .inr (8, fq)), (hsa, .inl (cI, 12, .inl (fun _ => 0))), (y0, .inr (12, fy)), (hyt, .inl (cB2, 16000, .inl (fun _ => 0))), (hst, .inr (13, [])), (hya, .inl (cJ2, 8, .inr (.inl (fun _ => 0)))), (hyd, .inl (cI2, 12, .inl (fun _ => 0)))] := hD
  have hw9 : r_5 = 0 := hw9
  subst hw9
  refine lv_aload_n hx hb dL_law_889 rfl (lv_at hl 2 rfl) ?_
  refine lv_aload_n hx hb dL_law_890 rfl (lv_at hl 0 rfl) ?_
  refine lv_iload_n hx hb dL_law_891 rfl (lv_at hl 3 rfl) ?_
  refine lv_iconst (v := 1) hx hb dL_law_892 (by decide) ?_
  refine lv_iadd hx hb dL_law_893 ?_
  refine lv_topi (fun z_6 ez_6 => ?_)
  obtain rfl : z_6 = 1 := ez_6.trans (by decide)
  refine va_sld hx hb hX hbl hbA hS (vi rfl) dL_law_894 ?_
  refine lv_aload_n hx hb dL_law_895 rfl (lv_at hl 0 rfl) ?_
  refine lv_iload_n hx hb dL_law_896 rfl (lv_at hl 3 rfl) ?_
  refine lv_iconst (v := 2) hx hb dL_law_897 (by decide) ?_
  refine lv_iadd hx hb dL_law_898 ?_
  refine lv_topi (fun z_7 ez_7 => ?_)
  obtain rfl : z_7 = 2 := ez_7.trans (by decide)
  refine va_sld hx hb hX hbl hbA hS (vi rfl) dL_law_899 ?_
  refine lv_aload_n hx hb dL_law_900 rfl (lv_at hl 0 rfl) ?_
  refine lv_iload_n hx hb dL_law_901 rfl (lv_at hl 3 rfl) ?_
  refine lv_iconst (v := 3) hx hb dL_law_902 (by decide) ?_
  refine lv_iadd hx hb dL_law_903 ?_
  refine lv_topi (fun z_8 ez_8 => ?_)
  obtain rfl : z_8 = 3 := ez_8.trans (by decide)
  refine va_sld hx hb hX hbl hbA hS (vi rfl) dL_law_904 ?_
  refine lv_aload_n hx hb dL_law_905 rfl (lv_at hl 0 rfl) ?_
  refine lv_iload_n hx hb dL_law_906 rfl (lv_at hl 3 rfl) ?_
  refine lv_iconst (v := 4) hx hb dL_law_907 (by decide) ?_
  refine lv_iadd hx hb dL_law_908 ?_
  refine lv_topi (fun z_9 ez_9 => ?_)
  obtain rfl : z_9 = 4 := ez_9.trans (by decide)
  refine va_sld hx hb hX hbl hbA hS (vi rfl) dL_law_909 ?_
  have hPc := hP.sub (ws' := [(y0, .inr (12, fy))]) [9] rfl
  have hDc := hD.sub (ws' := [(y0, .inr (12, fy))]) [9] (by decide) rfl
  have hKc := hK.sub (tys' := []) [] rfl
  have hFc := va_free (wc := [(y0, .inr (12, fy))]) hD hS hA [9] rfl
  refine va_calli (va_runV (As := [.int (xs (1 : Int32).toNatClampNeg), .int (xs (2 : Int32).toNatClampNeg), .int (xs (3 : Int32).toNatClampNeg), .int (xs (4 : Int32).toNatClampNeg)]) (rest := [.int 0]) ⟨hx, hb, hml, hown, hts⟩ (m_X14_edge l dC dI H.size y0 fy ((xs (1 : Int32).toNatClampNeg)) ((xs (2 : Int32).toNatClampNeg)) ((xs (3 : Int32).toNatClampNeg)) ((xs (4 : Int32).toNatClampNeg)) L_fy g_fy_1) (cwV 4 hts (gd_V kw_626 kw_627 kw_628 kw_374 kw_629) rfl rfl rfl (by decide +kernel) ⟨Nat.le_of_ble_eq_true rfl, Nat.le_of_ble_eq_true rfl⟩) ⟨st_blind, va_recv hKc hPc (ci := 12) (q0 := 0) rfl rfl, fun U hU hW9 => st_mk hU hW9 hPc hKc hDc hex⟩ rfl rfl hl.1 rfl (lv_room (Nat.le_of_ble_eq_true rfl)) dL_law_910 ⟨Nat.le_of_ble_eq_true rfl, Nat.le_of_ble_eq_true rfl⟩) hS (fun q _ h => hFc q h) hFc (fun r_10 u9 t9 H1 locs ht9 hvm9 hw9 hB9 hz9 hk9 hS => ?_)
  have hP1 : va_P (dC, dI) cl0 [] H1 := fun k q h => by simp at h
  have hD1 : va_D (va_A [(y0, .inr (12, fy))] H.size) [] := ⟨fun i j p q h => by simp at h, fun k q h => by simp at h⟩
  obtain ⟨hP, hD⟩ := va_join (wr := [(ht, .inr (0, ft)), (htd, .inl (cB, 64, .inl (fun _ => 0))), (hw, .inr (0, fw)), (hc, .inr (2, fc)), (hr, .inr (6, fr)), (hm, .inr (5, fm)), (hma, .inl (cJ, 8, .inr (.inl (fun _ => 0)))), (hs, .inr (8, fq)), (hsa, .inl (cI, 12, .inl (fun _ => 0))), (hyt, .inl (cB2, 16000, .inl (fun _ => 0))), (hst, .inr (13, [])), (hya, .inl (cJ2, 8, .inr (.inl (fun _ => 0)))), (hyd, .inl (cI2, 12, .inl (fun _ => 0)))]) (w1 := []) hP hD [9] [0, 1, 2, 3, 4, 5, 6, 7, 8, 10, 11, 12, 13] rfl rfl (by decide) (by decide) hk9 hFc hP1 hD1
  generalize H1 = H at hP hS ⊢
  have hP : va_P (dC, dI) cl0 [(ht, .inr (0, ft)), (htd, .inl (cB, 64, .inl (fun _ => 0))), (hw, .inr (0, fw)), (hc, .inr (2, fc)), (hr, .inr (6, fr)), (hm, .inr (5, fm)), (hma, .inl (cJ, 8, .inr (.inl (fun _ => 0)))), (hs, .inr (8, fq)), (hsa, .inl (cI, 12, .inl (fun _ => 0))), (hyt, .inl (cB2, 16000, .inl (fun _ => 0))), (hst, .inr (13, [])), (hya, .inl (cJ2, 8, .inr (.inl (fun _ => 0)))), (hyd, .inl (cI2, 12, .inl (fun _ => 0)))] H := hP
  have hD : va_D A [(ht, .inr (0, ft)), (htd, .inl (cB, 64, .inl (fun _ => 0))), (hw, .inr (0, fw)), (hc, .inr (2, fc)), (hr, .inr (6, fr)), (hm, .inr (5, fm)), (hma, .inl (cJ, 8, .inr (.inl (fun _ => 0)))), (hs, .inr (8, fq)), (hsa, .inl (cI, 12, .inl (fun _ => 0))), (hyt, .inl (cB2, 16000, .inl (fun _ => 0))), (hst, .inr (13, [])), (hya, .inl (cJ2, 8, .inr (.inl (fun _ => 0)))), (hyd, .inl (cI2, 12, .inl (fun _ => 0)))] := hD
  have hw9 : r_10 = 0 := hw9
  subst hw9
  refine lv_icmp_eq (tgt := 1010) hx hb dL_law_913 (by decide) (fun _ => ?_) (fun c9 => absurd (by decide) c9)
  refine W.widen (k := 173) (n := 857181) (Nat.le_refl _) (Nat.le_refl _) ?_
  exact law_end hAd C0 hS hl
set_option maxHeartbeats 4000000 in
set_option maxRecDepth 100000 in
theorem law_c26 {p : Program} {l : Launch} {e : Env} {s : State} {m : MethodId} {below : List Frame} {meth : Method} {c : Code} {dC : Nat → ClassId} {dI : Nat → Nat → Nat} {b L : Nat} {xs : Nat → Int32} {A : Nat → Prop} (hAd : A = fun q : Nat => s.heap.size ≤ q) (hL6 : L = 6) (C0 : lw_At p s m meth c b L xs) (hex : ex s) (hE : mg A s s.heap) {x0 y0 : Nat} {H : Heap} {locs : List Loc} (hF : law_fr dC dI A x0 y0 s H) (hS : va_S A s.heap H locs) {ls : Array Slot} (hl : lv_has ls 4 [(0, .ref b), (1, .ref x0), (2, .ref y0), (3, .int 0)]) : W p l e room_1 s m #[Value.ref b] below meth c H locs 173 857181 (lw_Z below #[Value.ref b] s) (F0 m 918 ls []) := by
  subst hL6
  obtain ⟨hx, hb, hr, hml, hown, hts1, hX, hbl, hlocks, hgv⟩ := id C0
  have hts : ∀ w ∈ tb, w.before #[Value.ref b] s = true := fun w h => hts1 w (tb_lw w h)
  have hown : s.vm.findClass RL = some m.cls := hown
  have hA : ∀ q : Nat, s.heap.size ≤ q → A q := fun q h => by rw [hAd]; exact h
  have hbA : ¬ A b := by rw [hAd]; exact Nat.not_le.mpr hbl
  obtain ⟨fx, ht, ft, htd, cB, hw, fw, hc, fc, hr, fr, hm, fm, hma, cJ, hs, fq, hsa, cI, fy, hyt, cB2, hst, hya, cJ2, hyd, cI2, L_fx, g_fx_0, g_fx_1, g_fx_4, g_fx_7, g_fx_9, g_fx_10, g_fx_11, g_fx_12, g_fx_13, g_fx_14, g_fx_15, g_fx_16, L_ft, g_ft_0, g_ft_1, L_fw, g_fw_1, L_fc, g_fc_0, L_fr, L_fm, g_fm_0, g_fm_5, g_fm_6, g_fm_7, g_fm_16, g_fm_17, g_fm_18, g_fm_19, L_fq, g_fq_1, L_fy, g_fy_1, g_fy_3, g_fy_4, g_fy_5, g_fy_6, g_fy_9, g_fy_10, g_fy_64, g_fy_65, g_fy_78, g_fy_80, g_fy_85, g_fy_87, g_fy_88, g_fy_96, g_fy_100, g_fy_101, g_fy_102, g_fy_124, hP, hK, hD⟩ := hF
  refine lv_aload_n hx hb dL_law_918 rfl (lv_at hl 1 rfl) ?_
  refine lv_aload_n hx hb dL_law_919 rfl (lv_at hl 0 rfl) ?_
  refine lv_iload_n hx hb dL_law_920 rfl (lv_at hl 3 rfl) ?_
  refine lv_iconst (v := 1) hx hb dL_law_921 (by decide) ?_
  refine lv_iadd hx hb dL_law_922 ?_
  refine lv_topi (fun z_1 ez_1 => ?_)
  obtain rfl : z_1 = 1 := ez_1.trans (by decide)
  refine va_sld hx hb hX hbl hbA hS (vi rfl) dL_law_923 ?_
  refine lv_aload_n hx hb dL_law_924 rfl (lv_at hl 0 rfl) ?_
  refine lv_iload_n hx hb dL_law_925 rfl (lv_at hl 3 rfl) ?_
  refine lv_iconst (v := 2) hx hb dL_law_926 (by decide) ?_
  refine lv_iadd hx hb dL_law_927 ?_
  refine lv_topi (fun z_2 ez_2 => ?_)
  obtain rfl : z_2 = 2 := ez_2.trans (by decide)
  refine va_sld hx hb hX hbl hbA hS (vi rfl) dL_law_928 ?_
  have hPc := hP.sub (ws' := [(x0, .inr (10, fx)), (hs, .inr (8, fq)), (hsa, .inl (cI, 12, .inl (fun _ => 0)))]) [0, 8, 9] rfl
  have hDc := hD.sub (ws' := [(x0, .inr (10, fx)), (hs, .inr (8, fq)), (hsa, .inl (cI, 12, .inl (fun _ => 0)))]) [0, 8, 9] (by decide) rfl
  have hKc := hK.sub (tys' := [(cI, .int)]) [2] rfl
  have hFc := va_free (wc := [(x0, .inr (10, fx)), (hs, .inr (8, fq)), (hsa, .inl (cI, 12, .inl (fun _ => 0)))]) hD hS hA [0, 8, 9] rfl
  refine va_calli (va_runV (As := [.int (xs (1 : Int32).toNatClampNeg), .int (xs (2 : Int32).toNatClampNeg)]) (rest := []) ⟨hx, hb, hml, hown, hts⟩ (m_X12_improve l dC dI H.size x0 fx hs fq hsa cI ((xs (1 : Int32).toNatClampNeg)) ((xs (2 : Int32).toNatClampNeg)) L_fx g_fx_9 g_fx_11 L_fq g_fq_1) (cwV 2 hts (gd_V kw_630 kw_631 kw_632 kw_169 kw_633) rfl rfl rfl (by decide +kernel) ⟨Nat.le_of_ble_eq_true rfl, Nat.le_of_ble_eq_true rfl⟩) ⟨st_blind, va_recv hKc hPc (ci := 10) (q0 := 0) rfl rfl, fun U hU hW9 => st_mk hU hW9 hPc hKc hDc hex⟩ rfl rfl hl.1 rfl (lv_room (Nat.le_of_ble_eq_true rfl)) dL_law_929 ⟨Nat.le_of_ble_eq_true rfl, Nat.le_of_ble_eq_true rfl⟩) hS (fun q _ h => hFc q h) hFc (fun r_3 u9 t9 H1 locs ht9 hvm9 hw9 hB9 hz9 hk9 hS => ?_)
  have hP1 : va_P (dC, dI) cl0 [] H1 := fun k q h => by simp at h
  have hD1 : va_D (va_A [(x0, .inr (10, fx)), (hs, .inr (8, fq)), (hsa, .inl (cI, 12, .inl (fun _ => 0)))] H.size) [] := ⟨fun i j p q h => by simp at h, fun k q h => by simp at h⟩
  obtain ⟨hP, hD⟩ := va_join (wr := [(ht, .inr (0, ft)), (htd, .inl (cB, 64, .inl (fun _ => 0))), (hw, .inr (0, fw)), (hc, .inr (2, fc)), (hr, .inr (6, fr)), (hm, .inr (5, fm)), (hma, .inl (cJ, 8, .inr (.inl (fun _ => 0)))), (y0, .inr (12, fy)), (hyt, .inl (cB2, 16000, .inl (fun _ => 0))), (hst, .inr (13, [])), (hya, .inl (cJ2, 8, .inr (.inl (fun _ => 0)))), (hyd, .inl (cI2, 12, .inl (fun _ => 0)))]) (w1 := []) hP hD [0, 8, 9] [1, 2, 3, 4, 5, 6, 7, 10, 11, 12, 13, 14] rfl rfl (by decide) (by decide) hk9 hFc hP1 hD1
  generalize H1 = H at hP hS ⊢
  have hP : va_P (dC, dI) cl0 [(ht, .inr (0, ft)), (htd, .inl (cB, 64, .inl (fun _ => 0))), (hw, .inr (0, fw)), (hc, .inr (2, fc)), (hr, .inr (6, fr)), (hm, .inr (5, fm)), (hma, .inl (cJ, 8, .inr (.inl (fun _ => 0)))), (y0, .inr (12, fy)), (hyt, .inl (cB2, 16000, .inl (fun _ => 0))), (hst, .inr (13, [])), (hya, .inl (cJ2, 8, .inr (.inl (fun _ => 0)))), (hyd, .inl (cI2, 12, .inl (fun _ => 0)))] H := hP
  have hD : va_D A [(ht, .inr (0, ft)), (htd, .inl (cB, 64, .inl (fun _ => 0))), (hw, .inr (0, fw)), (hc, .inr (2, fc)), (hr, .inr (6, fr)), (hm, .inr (5, fm)), (hma, .inl (cJ, 8, .inr (.inl (fun _ => 0)))), (y0, .inr (12, fy)), (hyt, .inl (cB2, 16000, .inl (fun _ => 0))), (hst, .inr (13, [])), (hya, .inl (cJ2, 8, .inr (.inl (fun _ => 0)))), (hyd, .inl (cI2, 12, .inl (fun _ => 0)))] := hD
  have hw9 : r_3 = (-1) := hw9
  subst hw9
  refine lv_aload_n hx hb dL_law_932 rfl (lv_at hl 2 rfl) ?_
  refine lv_aload_n hx hb dL_law_933 rfl (lv_at hl 0 rfl) ?_
  refine lv_iload_n hx hb dL_law_934 rfl (lv_at hl 3 rfl) ?_
  refine lv_iconst (v := 1) hx hb dL_law_935 (by decide) ?_
  refine lv_iadd hx hb dL_law_936 ?_
  refine lv_topi (fun z_4 ez_4 => ?_)
  obtain rfl : z_4 = 1 := ez_4.trans (by decide)
  refine va_sld hx hb hX hbl hbA hS (vi rfl) dL_law_937 ?_
  refine lv_aload_n hx hb dL_law_938 rfl (lv_at hl 0 rfl) ?_
  refine lv_iload_n hx hb dL_law_939 rfl (lv_at hl 3 rfl) ?_
  refine lv_iconst (v := 2) hx hb dL_law_940 (by decide) ?_
  refine lv_iadd hx hb dL_law_941 ?_
  refine lv_topi (fun z_5 ez_5 => ?_)
  obtain rfl : z_5 = 2 := ez_5.trans (by decide)
  refine va_sld hx hb hX hbl hbA hS (vi rfl) dL_law_942 ?_
  have hPc := hP.sub (ws' := [(y0, .inr (12, fy))]) [7] rfl
  have hDc := hD.sub (ws' := [(y0, .inr (12, fy))]) [7] (by decide) rfl
  have hKc := hK.sub (tys' := []) [] rfl
  have hFc := va_free (wc := [(y0, .inr (12, fy))]) hD hS hA [7] rfl
  refine va_calli (va_runV (As := [.int (xs (1 : Int32).toNatClampNeg), .int (xs (2 : Int32).toNatClampNeg)]) (rest := [.int (-1)]) ⟨hx, hb, hml, hown, hts⟩ (m_X14_improve l dC dI H.size y0 fy ((xs (1 : Int32).toNatClampNeg)) ((xs (2 : Int32).toNatClampNeg)) L_fy g_fy_1) (cwV 2 hts (gd_V kw_634 kw_635 kw_636 kw_374 kw_637) rfl rfl rfl (by decide +kernel) ⟨Nat.le_of_ble_eq_true rfl, Nat.le_of_ble_eq_true rfl⟩) ⟨st_blind, va_recv hKc hPc (ci := 12) (q0 := 0) rfl rfl, fun U hU hW9 => st_mk hU hW9 hPc hKc hDc hex⟩ rfl rfl hl.1 rfl (lv_room (Nat.le_of_ble_eq_true rfl)) dL_law_943 ⟨Nat.le_of_ble_eq_true rfl, Nat.le_of_ble_eq_true rfl⟩) hS (fun q _ h => hFc q h) hFc (fun r_6 u9 t9 H1 locs ht9 hvm9 hw9 hB9 hz9 hk9 hS => ?_)
  have hP1 : va_P (dC, dI) cl0 [] H1 := fun k q h => by simp at h
  have hD1 : va_D (va_A [(y0, .inr (12, fy))] H.size) [] := ⟨fun i j p q h => by simp at h, fun k q h => by simp at h⟩
  obtain ⟨hP, hD⟩ := va_join (wr := [(ht, .inr (0, ft)), (htd, .inl (cB, 64, .inl (fun _ => 0))), (hw, .inr (0, fw)), (hc, .inr (2, fc)), (hr, .inr (6, fr)), (hm, .inr (5, fm)), (hma, .inl (cJ, 8, .inr (.inl (fun _ => 0)))), (hyt, .inl (cB2, 16000, .inl (fun _ => 0))), (hst, .inr (13, [])), (hya, .inl (cJ2, 8, .inr (.inl (fun _ => 0)))), (hyd, .inl (cI2, 12, .inl (fun _ => 0)))]) (w1 := []) hP hD [7] [0, 1, 2, 3, 4, 5, 6, 8, 9, 10, 11] rfl rfl (by decide) (by decide) hk9 hFc hP1 hD1
  generalize H1 = H at hP hS ⊢
  have hP : va_P (dC, dI) cl0 [(ht, .inr (0, ft)), (htd, .inl (cB, 64, .inl (fun _ => 0))), (hw, .inr (0, fw)), (hc, .inr (2, fc)), (hr, .inr (6, fr)), (hm, .inr (5, fm)), (hma, .inl (cJ, 8, .inr (.inl (fun _ => 0)))), (hyt, .inl (cB2, 16000, .inl (fun _ => 0))), (hst, .inr (13, [])), (hya, .inl (cJ2, 8, .inr (.inl (fun _ => 0)))), (hyd, .inl (cI2, 12, .inl (fun _ => 0)))] H := hP
  have hD : va_D A [(ht, .inr (0, ft)), (htd, .inl (cB, 64, .inl (fun _ => 0))), (hw, .inr (0, fw)), (hc, .inr (2, fc)), (hr, .inr (6, fr)), (hm, .inr (5, fm)), (hma, .inl (cJ, 8, .inr (.inl (fun _ => 0)))), (hyt, .inl (cB2, 16000, .inl (fun _ => 0))), (hst, .inr (13, [])), (hya, .inl (cJ2, 8, .inr (.inl (fun _ => 0)))), (hyd, .inl (cI2, 12, .inl (fun _ => 0)))] := hD
  have hw9 : r_6 = (-1) := hw9
  subst hw9
  refine lv_icmp_eq (tgt := 1010) hx hb dL_law_946 (by decide) (fun _ => ?_) (fun c9 => absurd (by decide) c9)
  refine W.widen (k := 173) (n := 857181) (Nat.le_refl _) (Nat.le_refl _) ?_
  exact law_end hAd C0 hS hl
set_option maxHeartbeats 4000000 in
set_option maxRecDepth 100000 in
theorem law_c27 {p : Program} {l : Launch} {e : Env} {s : State} {m : MethodId} {below : List Frame} {meth : Method} {c : Code} {dC : Nat → ClassId} {dI : Nat → Nat → Nat} {b L : Nat} {xs : Nat → Int32} {A : Nat → Prop} (hAd : A = fun q : Nat => s.heap.size ≤ q) (hL6 : L = 6) (C0 : lw_At p s m meth c b L xs) (hex : ex s) (hE : mg A s s.heap) {x0 y0 : Nat} {H : Heap} {locs : List Loc} (hF : law_fr dC dI A x0 y0 s H) (hS : va_S A s.heap H locs) {ls : Array Slot} (hl : lv_has ls 4 [(0, .ref b), (1, .ref x0), (2, .ref y0), (3, .int 0)]) : W p l e room_1 s m #[Value.ref b] below meth c H locs 173 857181 (lw_Z below #[Value.ref b] s) (F0 m 951 ls []) := by
  subst hL6
  obtain ⟨hx, hb, hr, hml, hown, hts1, hX, hbl, hlocks, hgv⟩ := id C0
  have hts : ∀ w ∈ tb, w.before #[Value.ref b] s = true := fun w h => hts1 w (tb_lw w h)
  have hown : s.vm.findClass RL = some m.cls := hown
  have hA : ∀ q : Nat, s.heap.size ≤ q → A q := fun q h => by rw [hAd]; exact h
  have hbA : ¬ A b := by rw [hAd]; exact Nat.not_le.mpr hbl
  obtain ⟨fx, ht, ft, htd, cB, hw, fw, hc, fc, hr, fr, hm, fm, hma, cJ, hs, fq, hsa, cI, fy, hyt, cB2, hst, hya, cJ2, hyd, cI2, L_fx, g_fx_0, g_fx_1, g_fx_4, g_fx_7, g_fx_9, g_fx_10, g_fx_11, g_fx_12, g_fx_13, g_fx_14, g_fx_15, g_fx_16, L_ft, g_ft_0, g_ft_1, L_fw, g_fw_1, L_fc, g_fc_0, L_fr, L_fm, g_fm_0, g_fm_5, g_fm_6, g_fm_7, g_fm_16, g_fm_17, g_fm_18, g_fm_19, L_fq, g_fq_1, L_fy, g_fy_1, g_fy_3, g_fy_4, g_fy_5, g_fy_6, g_fy_9, g_fy_10, g_fy_64, g_fy_65, g_fy_78, g_fy_80, g_fy_85, g_fy_87, g_fy_88, g_fy_96, g_fy_100, g_fy_101, g_fy_102, g_fy_124, hP, hK, hD⟩ := hF
  refine lv_aload_n hx hb dL_law_951 rfl (lv_at hl 1 rfl) ?_
  refine lv_aload_n hx hb dL_law_952 rfl (lv_at hl 0 rfl) ?_
  refine lv_iload_n hx hb dL_law_953 rfl (lv_at hl 3 rfl) ?_
  refine lv_iconst (v := 1) hx hb dL_law_954 (by decide) ?_
  refine lv_iadd hx hb dL_law_955 ?_
  refine lv_topi (fun z_1 ez_1 => ?_)
  obtain rfl : z_1 = 1 := ez_1.trans (by decide)
  refine va_sld hx hb hX hbl hbA hS (vi rfl) dL_law_956 ?_
  have hPc := hP.sub (ws' := [(x0, .inr (10, fx)), (hs, .inr (8, fq)), (hsa, .inl (cI, 12, .inl (fun _ => 0)))]) [0, 8, 9] rfl
  have hDc := hD.sub (ws' := [(x0, .inr (10, fx)), (hs, .inr (8, fq)), (hsa, .inl (cI, 12, .inl (fun _ => 0)))]) [0, 8, 9] (by decide) rfl
  have hKc := hK.sub (tys' := [(cI, .int)]) [2] rfl
  have hFc := va_free (wc := [(x0, .inr (10, fx)), (hs, .inr (8, fq)), (hsa, .inl (cI, 12, .inl (fun _ => 0)))]) hD hS hA [0, 8, 9] rfl
  refine va_calli (va_runV (As := [.int (xs (1 : Int32).toNatClampNeg)]) (rest := []) ⟨hx, hb, hml, hown, hts⟩ (m_X12_applied l dC dI H.size x0 fx hs fq hsa cI ((xs (1 : Int32).toNatClampNeg)) L_fx g_fx_9 L_fq g_fq_1) (cwV 1 hts (gd_V kw_638 kw_639 kw_640 kw_169 kw_641) rfl rfl rfl (by decide +kernel) ⟨Nat.le_of_ble_eq_true rfl, Nat.le_of_ble_eq_true rfl⟩) ⟨st_blind, va_recv hKc hPc (ci := 10) (q0 := 0) rfl rfl, fun U hU hW9 => st_mk hU hW9 hPc hKc hDc hex⟩ rfl rfl hl.1 rfl (lv_room (Nat.le_of_ble_eq_true rfl)) dL_law_957 ⟨Nat.le_of_ble_eq_true rfl, Nat.le_of_ble_eq_true rfl⟩) hS (fun q _ h => hFc q h) hFc (fun r_2 u9 t9 H1 locs ht9 hvm9 hw9 hB9 hz9 hk9 hS => ?_)
  have hP1 : va_P (dC, dI) cl0 [] H1 := fun k q h => by simp at h
  have hD1 : va_D (va_A [(x0, .inr (10, fx)), (hs, .inr (8, fq)), (hsa, .inl (cI, 12, .inl (fun _ => 0)))] H.size) [] := ⟨fun i j p q h => by simp at h, fun k q h => by simp at h⟩
  obtain ⟨hP, hD⟩ := va_join (wr := [(ht, .inr (0, ft)), (htd, .inl (cB, 64, .inl (fun _ => 0))), (hw, .inr (0, fw)), (hc, .inr (2, fc)), (hr, .inr (6, fr)), (hm, .inr (5, fm)), (hma, .inl (cJ, 8, .inr (.inl (fun _ => 0)))), (y0, .inr (12, fy)), (hyt, .inl (cB2, 16000, .inl (fun _ => 0))), (hst, .inr (13, [])), (hya, .inl (cJ2, 8, .inr (.inl (fun _ => 0)))), (hyd, .inl (cI2, 12, .inl (fun _ => 0)))]) (w1 := []) hP hD [0, 8, 9] [1, 2, 3, 4, 5, 6, 7, 10, 11, 12, 13, 14] rfl rfl (by decide) (by decide) hk9 hFc hP1 hD1
  generalize H1 = H at hP hS ⊢
  have hP : va_P (dC, dI) cl0 [(ht, .inr (0, ft)), (htd, .inl (cB, 64, .inl (fun _ => 0))), (hw, .inr (0, fw)), (hc, .inr (2, fc)), (hr, .inr (6, fr)), (hm, .inr (5, fm)), (hma, .inl (cJ, 8, .inr (.inl (fun _ => 0)))), (y0, .inr (12, fy)), (hyt, .inl (cB2, 16000, .inl (fun _ => 0))), (hst, .inr (13, [])), (hya, .inl (cJ2, 8, .inr (.inl (fun _ => 0)))), (hyd, .inl (cI2, 12, .inl (fun _ => 0)))] H := hP
  have hD : va_D A [(ht, .inr (0, ft)), (htd, .inl (cB, 64, .inl (fun _ => 0))), (hw, .inr (0, fw)), (hc, .inr (2, fc)), (hr, .inr (6, fr)), (hm, .inr (5, fm)), (hma, .inl (cJ, 8, .inr (.inl (fun _ => 0)))), (y0, .inr (12, fy)), (hyt, .inl (cB2, 16000, .inl (fun _ => 0))), (hst, .inr (13, [])), (hya, .inl (cJ2, 8, .inr (.inl (fun _ => 0)))), (hyd, .inl (cI2, 12, .inl (fun _ => 0)))] := hD
  have hw9 : r_2 = 0 := hw9
  subst hw9
  refine lv_aload_n hx hb dL_law_960 rfl (lv_at hl 2 rfl) ?_
  refine lv_aload_n hx hb dL_law_961 rfl (lv_at hl 0 rfl) ?_
  refine lv_iload_n hx hb dL_law_962 rfl (lv_at hl 3 rfl) ?_
  refine lv_iconst (v := 1) hx hb dL_law_963 (by decide) ?_
  refine lv_iadd hx hb dL_law_964 ?_
  refine lv_topi (fun z_3 ez_3 => ?_)
  obtain rfl : z_3 = 1 := ez_3.trans (by decide)
  refine va_sld hx hb hX hbl hbA hS (vi rfl) dL_law_965 ?_
  have hPc := hP.sub (ws' := [(y0, .inr (12, fy)), (hyd, .inl (cI2, 12, .inl (fun _ => 0)))]) [7, 11] rfl
  have hDc := hD.sub (ws' := [(y0, .inr (12, fy)), (hyd, .inl (cI2, 12, .inl (fun _ => 0)))]) [7, 11] (by decide) rfl
  have hKc := hK.sub (tys' := [(cI2, .int)]) [5] rfl
  have hFc := va_free (wc := [(y0, .inr (12, fy)), (hyd, .inl (cI2, 12, .inl (fun _ => 0)))]) hD hS hA [7, 11] rfl
  refine va_calli (va_runV (As := [.int (xs (1 : Int32).toNatClampNeg)]) (rest := [.int 0]) ⟨hx, hb, hml, hown, hts⟩ (m_X14_applied l dC dI H.size y0 fy hyd cI2 ((xs (1 : Int32).toNatClampNeg)) L_fy g_fy_124) (cwV 1 hts (gd_V kw_642 kw_643 kw_644 kw_374 kw_645) rfl rfl rfl (by decide +kernel) ⟨Nat.le_of_ble_eq_true rfl, Nat.le_of_ble_eq_true rfl⟩) ⟨st_blind, va_recv hKc hPc (ci := 12) (q0 := 0) rfl rfl, fun U hU hW9 => st_mk hU hW9 hPc hKc hDc hex⟩ rfl rfl hl.1 rfl (lv_room (Nat.le_of_ble_eq_true rfl)) dL_law_966 ⟨Nat.le_of_ble_eq_true rfl, Nat.le_of_ble_eq_true rfl⟩) hS (fun q _ h => hFc q h) hFc (fun r_4 u9 t9 H1 locs ht9 hvm9 hw9 hB9 hz9 hk9 hS => ?_)
  have hP1 : va_P (dC, dI) cl0 [] H1 := fun k q h => by simp at h
  have hD1 : va_D (va_A [(y0, .inr (12, fy)), (hyd, .inl (cI2, 12, .inl (fun _ => 0)))] H.size) [] := ⟨fun i j p q h => by simp at h, fun k q h => by simp at h⟩
  obtain ⟨hP, hD⟩ := va_join (wr := [(ht, .inr (0, ft)), (htd, .inl (cB, 64, .inl (fun _ => 0))), (hw, .inr (0, fw)), (hc, .inr (2, fc)), (hr, .inr (6, fr)), (hm, .inr (5, fm)), (hma, .inl (cJ, 8, .inr (.inl (fun _ => 0)))), (hyt, .inl (cB2, 16000, .inl (fun _ => 0))), (hst, .inr (13, [])), (hya, .inl (cJ2, 8, .inr (.inl (fun _ => 0))))]) (w1 := []) hP hD [7, 11] [0, 1, 2, 3, 4, 5, 6, 8, 9, 10] rfl rfl (by decide) (by decide) hk9 hFc hP1 hD1
  generalize H1 = H at hP hS ⊢
  have hP : va_P (dC, dI) cl0 [(ht, .inr (0, ft)), (htd, .inl (cB, 64, .inl (fun _ => 0))), (hw, .inr (0, fw)), (hc, .inr (2, fc)), (hr, .inr (6, fr)), (hm, .inr (5, fm)), (hma, .inl (cJ, 8, .inr (.inl (fun _ => 0)))), (hyt, .inl (cB2, 16000, .inl (fun _ => 0))), (hst, .inr (13, [])), (hya, .inl (cJ2, 8, .inr (.inl (fun _ => 0))))] H := hP
  have hD : va_D A [(ht, .inr (0, ft)), (htd, .inl (cB, 64, .inl (fun _ => 0))), (hw, .inr (0, fw)), (hc, .inr (2, fc)), (hr, .inr (6, fr)), (hm, .inr (5, fm)), (hma, .inl (cJ, 8, .inr (.inl (fun _ => 0)))), (hyt, .inl (cB2, 16000, .inl (fun _ => 0))), (hst, .inr (13, [])), (hya, .inl (cJ2, 8, .inr (.inl (fun _ => 0))))] := hD
  have hw9 : r_4 = 0 := hw9
  subst hw9
  refine lv_icmp_eq (tgt := 1010) hx hb dL_law_969 (by decide) (fun _ => ?_) (fun c9 => absurd (by decide) c9)
  refine W.widen (k := 173) (n := 857181) (Nat.le_refl _) (Nat.le_refl _) ?_
  exact law_end hAd C0 hS hl
set_option maxHeartbeats 4000000 in
set_option maxRecDepth 100000 in
theorem law_c28 {p : Program} {l : Launch} {e : Env} {s : State} {m : MethodId} {below : List Frame} {meth : Method} {c : Code} {dC : Nat → ClassId} {dI : Nat → Nat → Nat} {b L : Nat} {xs : Nat → Int32} {A : Nat → Prop} (hAd : A = fun q : Nat => s.heap.size ≤ q) (hL6 : L = 6) (C0 : lw_At p s m meth c b L xs) (hex : ex s) (hE : mg A s s.heap) {x0 y0 : Nat} {H : Heap} {locs : List Loc} (hF : law_fr dC dI A x0 y0 s H) (hS : va_S A s.heap H locs) {ls : Array Slot} (hl : lv_has ls 4 [(0, .ref b), (1, .ref x0), (2, .ref y0), (3, .int 0)]) : W p l e room_1 s m #[Value.ref b] below meth c H locs 173 857181 (lw_Z below #[Value.ref b] s) (F0 m 974 ls []) := by
  subst hL6
  obtain ⟨hx, hb, hr, hml, hown, hts1, hX, hbl, hlocks, hgv⟩ := id C0
  have hts : ∀ w ∈ tb, w.before #[Value.ref b] s = true := fun w h => hts1 w (tb_lw w h)
  have hown : s.vm.findClass RL = some m.cls := hown
  have hA : ∀ q : Nat, s.heap.size ≤ q → A q := fun q h => by rw [hAd]; exact h
  have hbA : ¬ A b := by rw [hAd]; exact Nat.not_le.mpr hbl
  obtain ⟨fx, ht, ft, htd, cB, hw, fw, hc, fc, hr, fr, hm, fm, hma, cJ, hs, fq, hsa, cI, fy, hyt, cB2, hst, hya, cJ2, hyd, cI2, L_fx, g_fx_0, g_fx_1, g_fx_4, g_fx_7, g_fx_9, g_fx_10, g_fx_11, g_fx_12, g_fx_13, g_fx_14, g_fx_15, g_fx_16, L_ft, g_ft_0, g_ft_1, L_fw, g_fw_1, L_fc, g_fc_0, L_fr, L_fm, g_fm_0, g_fm_5, g_fm_6, g_fm_7, g_fm_16, g_fm_17, g_fm_18, g_fm_19, L_fq, g_fq_1, L_fy, g_fy_1, g_fy_3, g_fy_4, g_fy_5, g_fy_6, g_fy_9, g_fy_10, g_fy_64, g_fy_65, g_fy_78, g_fy_80, g_fy_85, g_fy_87, g_fy_88, g_fy_96, g_fy_100, g_fy_101, g_fy_102, g_fy_124, hP, hK, hD⟩ := hF
  refine lv_aload_n hx hb dL_law_974 rfl (lv_at hl 1 rfl) ?_
  refine lv_aload_n hx hb dL_law_975 rfl (lv_at hl 0 rfl) ?_
  refine lv_iload_n hx hb dL_law_976 rfl (lv_at hl 3 rfl) ?_
  refine lv_iconst (v := 1) hx hb dL_law_977 (by decide) ?_
  refine lv_iadd hx hb dL_law_978 ?_
  refine lv_topi (fun z_1 ez_1 => ?_)
  obtain rfl : z_1 = 1 := ez_1.trans (by decide)
  refine va_sld hx hb hX hbl hbA hS (vi rfl) dL_law_979 ?_
  have hPc := hP.sub (ws' := [(x0, .inr (10, fx))]) [0] rfl
  have hDc := hD.sub (ws' := [(x0, .inr (10, fx))]) [0] (by decide) rfl
  have hKc := hK.sub (tys' := []) [] rfl
  have hFc := va_free (wc := [(x0, .inr (10, fx))]) hD hS hA [0] rfl
  refine va_calli (va_runV (As := [.int (xs (1 : Int32).toNatClampNeg)]) (rest := []) ⟨hx, hb, hml, hown, hts⟩ (m_X12_count l dC dI H.size x0 fx ((xs (1 : Int32).toNatClampNeg)) L_fx g_fx_11) (cwV 1 hts (gd_V kw_646 kw_647 kw_648 kw_169 kw_649) rfl rfl rfl (by decide +kernel) ⟨Nat.le_of_ble_eq_true rfl, Nat.le_of_ble_eq_true rfl⟩) ⟨st_blind, va_recv hKc hPc (ci := 10) (q0 := 0) rfl rfl, fun U hU hW9 => st_mk hU hW9 hPc hKc hDc hex⟩ rfl rfl hl.1 rfl (lv_room (Nat.le_of_ble_eq_true rfl)) dL_law_980 ⟨Nat.le_of_ble_eq_true rfl, Nat.le_of_ble_eq_true rfl⟩) hS (fun q _ h => hFc q h) hFc (fun r_2 u9 t9 H1 locs ht9 hvm9 hw9 hB9 hz9 hk9 hS => ?_)
  have hP1 : va_P (dC, dI) cl0 [] H1 := fun k q h => by simp at h
  have hD1 : va_D (va_A [(x0, .inr (10, fx))] H.size) [] := ⟨fun i j p q h => by simp at h, fun k q h => by simp at h⟩
  obtain ⟨hP, hD⟩ := va_join (wr := [(ht, .inr (0, ft)), (htd, .inl (cB, 64, .inl (fun _ => 0))), (hw, .inr (0, fw)), (hc, .inr (2, fc)), (hr, .inr (6, fr)), (hm, .inr (5, fm)), (hma, .inl (cJ, 8, .inr (.inl (fun _ => 0)))), (hs, .inr (8, fq)), (hsa, .inl (cI, 12, .inl (fun _ => 0))), (y0, .inr (12, fy)), (hyt, .inl (cB2, 16000, .inl (fun _ => 0))), (hst, .inr (13, [])), (hya, .inl (cJ2, 8, .inr (.inl (fun _ => 0)))), (hyd, .inl (cI2, 12, .inl (fun _ => 0)))]) (w1 := []) hP hD [0] [1, 2, 3, 4, 5, 6, 7, 8, 9, 10, 11, 12, 13, 14] rfl rfl (by decide) (by decide) hk9 hFc hP1 hD1
  generalize H1 = H at hP hS ⊢
  have hP : va_P (dC, dI) cl0 [(ht, .inr (0, ft)), (htd, .inl (cB, 64, .inl (fun _ => 0))), (hw, .inr (0, fw)), (hc, .inr (2, fc)), (hr, .inr (6, fr)), (hm, .inr (5, fm)), (hma, .inl (cJ, 8, .inr (.inl (fun _ => 0)))), (hs, .inr (8, fq)), (hsa, .inl (cI, 12, .inl (fun _ => 0))), (y0, .inr (12, fy)), (hyt, .inl (cB2, 16000, .inl (fun _ => 0))), (hst, .inr (13, [])), (hya, .inl (cJ2, 8, .inr (.inl (fun _ => 0)))), (hyd, .inl (cI2, 12, .inl (fun _ => 0)))] H := hP
  have hD : va_D A [(ht, .inr (0, ft)), (htd, .inl (cB, 64, .inl (fun _ => 0))), (hw, .inr (0, fw)), (hc, .inr (2, fc)), (hr, .inr (6, fr)), (hm, .inr (5, fm)), (hma, .inl (cJ, 8, .inr (.inl (fun _ => 0)))), (hs, .inr (8, fq)), (hsa, .inl (cI, 12, .inl (fun _ => 0))), (y0, .inr (12, fy)), (hyt, .inl (cB2, 16000, .inl (fun _ => 0))), (hst, .inr (13, [])), (hya, .inl (cJ2, 8, .inr (.inl (fun _ => 0)))), (hyd, .inl (cI2, 12, .inl (fun _ => 0)))] := hD
  have hw9 : r_2 = (-1) := hw9
  subst hw9
  refine lv_aload_n hx hb dL_law_983 rfl (lv_at hl 2 rfl) ?_
  refine lv_aload_n hx hb dL_law_984 rfl (lv_at hl 0 rfl) ?_
  refine lv_iload_n hx hb dL_law_985 rfl (lv_at hl 3 rfl) ?_
  refine lv_iconst (v := 1) hx hb dL_law_986 (by decide) ?_
  refine lv_iadd hx hb dL_law_987 ?_
  refine lv_topi (fun z_3 ez_3 => ?_)
  obtain rfl : z_3 = 1 := ez_3.trans (by decide)
  refine va_sld hx hb hX hbl hbA hS (vi rfl) dL_law_988 ?_
  have hPc := hP.sub (ws' := [(y0, .inr (12, fy))]) [9] rfl
  have hDc := hD.sub (ws' := [(y0, .inr (12, fy))]) [9] (by decide) rfl
  have hKc := hK.sub (tys' := []) [] rfl
  have hFc := va_free (wc := [(y0, .inr (12, fy))]) hD hS hA [9] rfl
  refine va_calli (va_runV (As := [.int (xs (1 : Int32).toNatClampNeg)]) (rest := [.int (-1)]) ⟨hx, hb, hml, hown, hts⟩ (m_X14_count l dC dI H.size y0 fy ((xs (1 : Int32).toNatClampNeg)) L_fy g_fy_1) (cwV 1 hts (gd_V kw_650 kw_651 kw_652 kw_374 kw_653) rfl rfl rfl (by decide +kernel) ⟨Nat.le_of_ble_eq_true rfl, Nat.le_of_ble_eq_true rfl⟩) ⟨st_blind, va_recv hKc hPc (ci := 12) (q0 := 0) rfl rfl, fun U hU hW9 => st_mk hU hW9 hPc hKc hDc hex⟩ rfl rfl hl.1 rfl (lv_room (Nat.le_of_ble_eq_true rfl)) dL_law_989 ⟨Nat.le_of_ble_eq_true rfl, Nat.le_of_ble_eq_true rfl⟩) hS (fun q _ h => hFc q h) hFc (fun r_4 u9 t9 H1 locs ht9 hvm9 hw9 hB9 hz9 hk9 hS => ?_)
  have hP1 : va_P (dC, dI) cl0 [] H1 := fun k q h => by simp at h
  have hD1 : va_D (va_A [(y0, .inr (12, fy))] H.size) [] := ⟨fun i j p q h => by simp at h, fun k q h => by simp at h⟩
  obtain ⟨hP, hD⟩ := va_join (wr := [(ht, .inr (0, ft)), (htd, .inl (cB, 64, .inl (fun _ => 0))), (hw, .inr (0, fw)), (hc, .inr (2, fc)), (hr, .inr (6, fr)), (hm, .inr (5, fm)), (hma, .inl (cJ, 8, .inr (.inl (fun _ => 0)))), (hs, .inr (8, fq)), (hsa, .inl (cI, 12, .inl (fun _ => 0))), (hyt, .inl (cB2, 16000, .inl (fun _ => 0))), (hst, .inr (13, [])), (hya, .inl (cJ2, 8, .inr (.inl (fun _ => 0)))), (hyd, .inl (cI2, 12, .inl (fun _ => 0)))]) (w1 := []) hP hD [9] [0, 1, 2, 3, 4, 5, 6, 7, 8, 10, 11, 12, 13] rfl rfl (by decide) (by decide) hk9 hFc hP1 hD1
  generalize H1 = H at hP hS ⊢
  have hP : va_P (dC, dI) cl0 [(ht, .inr (0, ft)), (htd, .inl (cB, 64, .inl (fun _ => 0))), (hw, .inr (0, fw)), (hc, .inr (2, fc)), (hr, .inr (6, fr)), (hm, .inr (5, fm)), (hma, .inl (cJ, 8, .inr (.inl (fun _ => 0)))), (hs, .inr (8, fq)), (hsa, .inl (cI, 12, .inl (fun _ => 0))), (hyt, .inl (cB2, 16000, .inl (fun _ => 0))), (hst, .inr (13, [])), (hya, .inl (cJ2, 8, .inr (.inl (fun _ => 0)))), (hyd, .inl (cI2, 12, .inl (fun _ => 0)))] H := hP
  have hD : va_D A [(ht, .inr (0, ft)), (htd, .inl (cB, 64, .inl (fun _ => 0))), (hw, .inr (0, fw)), (hc, .inr (2, fc)), (hr, .inr (6, fr)), (hm, .inr (5, fm)), (hma, .inl (cJ, 8, .inr (.inl (fun _ => 0)))), (hs, .inr (8, fq)), (hsa, .inl (cI, 12, .inl (fun _ => 0))), (hyt, .inl (cB2, 16000, .inl (fun _ => 0))), (hst, .inr (13, [])), (hya, .inl (cJ2, 8, .inr (.inl (fun _ => 0)))), (hyd, .inl (cI2, 12, .inl (fun _ => 0)))] := hD
  have hw9 : r_4 = (-1) := hw9
  subst hw9
  refine lv_icmp_eq (tgt := 1010) hx hb dL_law_992 (by decide) (fun _ => ?_) (fun c9 => absurd (by decide) c9)
  refine W.widen (k := 173) (n := 857181) (Nat.le_refl _) (Nat.le_refl _) ?_
  exact law_end hAd C0 hS hl
set_option maxHeartbeats 4000000 in
set_option maxRecDepth 100000 in
theorem law_c29 {p : Program} {l : Launch} {e : Env} {s : State} {m : MethodId} {below : List Frame} {meth : Method} {c : Code} {dC : Nat → ClassId} {dI : Nat → Nat → Nat} {b L : Nat} {xs : Nat → Int32} {A : Nat → Prop} (hAd : A = fun q : Nat => s.heap.size ≤ q) (hL6 : L = 6) (C0 : lw_At p s m meth c b L xs) (hex : ex s) (hE : mg A s s.heap) {x0 y0 : Nat} {H : Heap} {locs : List Loc} (hF : law_fr dC dI A x0 y0 s H) (hS : va_S A s.heap H locs) {ls : Array Slot} (hl : lv_has ls 4 [(0, .ref b), (1, .ref x0), (2, .ref y0), (3, .int 0)]) : W p l e room_1 s m #[Value.ref b] below meth c H locs 173 857181 (lw_Z below #[Value.ref b] s) (F0 m 997 ls []) := by
  subst hL6
  obtain ⟨hx, hb, hr, hml, hown, hts1, hX, hbl, hlocks, hgv⟩ := id C0
  have hts : ∀ w ∈ tb, w.before #[Value.ref b] s = true := fun w h => hts1 w (tb_lw w h)
  have hown : s.vm.findClass RL = some m.cls := hown
  have hA : ∀ q : Nat, s.heap.size ≤ q → A q := fun q h => by rw [hAd]; exact h
  have hbA : ¬ A b := by rw [hAd]; exact Nat.not_le.mpr hbl
  obtain ⟨fx, ht, ft, htd, cB, hw, fw, hc, fc, hr, fr, hm, fm, hma, cJ, hs, fq, hsa, cI, fy, hyt, cB2, hst, hya, cJ2, hyd, cI2, L_fx, g_fx_0, g_fx_1, g_fx_4, g_fx_7, g_fx_9, g_fx_10, g_fx_11, g_fx_12, g_fx_13, g_fx_14, g_fx_15, g_fx_16, L_ft, g_ft_0, g_ft_1, L_fw, g_fw_1, L_fc, g_fc_0, L_fr, L_fm, g_fm_0, g_fm_5, g_fm_6, g_fm_7, g_fm_16, g_fm_17, g_fm_18, g_fm_19, L_fq, g_fq_1, L_fy, g_fy_1, g_fy_3, g_fy_4, g_fy_5, g_fy_6, g_fy_9, g_fy_10, g_fy_64, g_fy_65, g_fy_78, g_fy_80, g_fy_85, g_fy_87, g_fy_88, g_fy_96, g_fy_100, g_fy_101, g_fy_102, g_fy_124, hP, hK, hD⟩ := hF
  refine lv_aload_n hx hb dL_law_997 rfl (lv_at hl 1 rfl) ?_
  have hPc := hP.sub (ws' := [(x0, .inr (10, fx)), (hm, .inr (5, fm))]) [0, 6] rfl
  have hDc := hD.sub (ws' := [(x0, .inr (10, fx)), (hm, .inr (5, fm))]) [0, 6] (by decide) rfl
  have hKc := hK.sub (tys' := []) [] rfl
  have hFc := va_free (wc := [(x0, .inr (10, fx)), (hm, .inr (5, fm))]) hD hS hA [0, 6] rfl
  refine va_calli (va_runV (As := []) (rest := []) ⟨hx, hb, hml, hown, hts⟩ (m_X12_strays l dC dI H.size x0 fx hm fm L_fx g_fx_7 L_fm g_fm_19) (cwV 0 hts (gd_V kw_654 kw_655 kw_656 kw_169 kw_657) rfl rfl rfl (by decide +kernel) ⟨Nat.le_of_ble_eq_true rfl, Nat.le_of_ble_eq_true rfl⟩) ⟨st_blind, va_recv hKc hPc (ci := 10) (q0 := 0) rfl rfl, fun U hU hW9 => st_mk hU hW9 hPc hKc hDc hex⟩ rfl rfl hl.1 rfl (lv_room (Nat.le_of_ble_eq_true rfl)) dL_law_998 ⟨Nat.le_of_ble_eq_true rfl, Nat.le_of_ble_eq_true rfl⟩) hS (fun q _ h => hFc q h) hFc (fun r_1 u9 t9 H1 locs ht9 hvm9 hw9 hB9 hz9 hk9 hS => ?_)
  have hP1 : va_P (dC, dI) cl0 [] H1 := fun k q h => by simp at h
  have hD1 : va_D (va_A [(x0, .inr (10, fx)), (hm, .inr (5, fm))] H.size) [] := ⟨fun i j p q h => by simp at h, fun k q h => by simp at h⟩
  obtain ⟨hP, hD⟩ := va_join (wr := [(ht, .inr (0, ft)), (htd, .inl (cB, 64, .inl (fun _ => 0))), (hw, .inr (0, fw)), (hc, .inr (2, fc)), (hr, .inr (6, fr)), (hma, .inl (cJ, 8, .inr (.inl (fun _ => 0)))), (hs, .inr (8, fq)), (hsa, .inl (cI, 12, .inl (fun _ => 0))), (y0, .inr (12, fy)), (hyt, .inl (cB2, 16000, .inl (fun _ => 0))), (hst, .inr (13, [])), (hya, .inl (cJ2, 8, .inr (.inl (fun _ => 0)))), (hyd, .inl (cI2, 12, .inl (fun _ => 0)))]) (w1 := []) hP hD [0, 6] [1, 2, 3, 4, 5, 7, 8, 9, 10, 11, 12, 13, 14] rfl rfl (by decide) (by decide) hk9 hFc hP1 hD1
  generalize H1 = H at hP hS ⊢
  have hP : va_P (dC, dI) cl0 [(ht, .inr (0, ft)), (htd, .inl (cB, 64, .inl (fun _ => 0))), (hw, .inr (0, fw)), (hc, .inr (2, fc)), (hr, .inr (6, fr)), (hma, .inl (cJ, 8, .inr (.inl (fun _ => 0)))), (hs, .inr (8, fq)), (hsa, .inl (cI, 12, .inl (fun _ => 0))), (y0, .inr (12, fy)), (hyt, .inl (cB2, 16000, .inl (fun _ => 0))), (hst, .inr (13, [])), (hya, .inl (cJ2, 8, .inr (.inl (fun _ => 0)))), (hyd, .inl (cI2, 12, .inl (fun _ => 0)))] H := hP
  have hD : va_D A [(ht, .inr (0, ft)), (htd, .inl (cB, 64, .inl (fun _ => 0))), (hw, .inr (0, fw)), (hc, .inr (2, fc)), (hr, .inr (6, fr)), (hma, .inl (cJ, 8, .inr (.inl (fun _ => 0)))), (hs, .inr (8, fq)), (hsa, .inl (cI, 12, .inl (fun _ => 0))), (y0, .inr (12, fy)), (hyt, .inl (cB2, 16000, .inl (fun _ => 0))), (hst, .inr (13, [])), (hya, .inl (cJ2, 8, .inr (.inl (fun _ => 0)))), (hyd, .inl (cI2, 12, .inl (fun _ => 0)))] := hD
  have hw9 : r_1 = 0 := hw9
  subst hw9
  refine lv_aload_n hx hb dL_law_1001 rfl (lv_at hl 2 rfl) ?_
  have hPc := hP.sub (ws' := [(y0, .inr (12, fy))]) [8] rfl
  have hDc := hD.sub (ws' := [(y0, .inr (12, fy))]) [8] (by decide) rfl
  have hKc := hK.sub (tys' := []) [] rfl
  have hFc := va_free (wc := [(y0, .inr (12, fy))]) hD hS hA [8] rfl
  refine va_calli (va_runV (As := []) (rest := [.int 0]) ⟨hx, hb, hml, hown, hts⟩ (m_X14_strays l dC dI H.size y0 fy L_fy g_fy_96) (cwV 0 hts (gd_V kw_658 kw_659 kw_660 kw_374 kw_661) rfl rfl rfl (by decide +kernel) ⟨Nat.le_of_ble_eq_true rfl, Nat.le_of_ble_eq_true rfl⟩) ⟨st_blind, va_recv hKc hPc (ci := 12) (q0 := 0) rfl rfl, fun U hU hW9 => st_mk hU hW9 hPc hKc hDc hex⟩ rfl rfl hl.1 rfl (lv_room (Nat.le_of_ble_eq_true rfl)) dL_law_1002 ⟨Nat.le_of_ble_eq_true rfl, Nat.le_of_ble_eq_true rfl⟩) hS (fun q _ h => hFc q h) hFc (fun r_2 u9 t9 H1 locs ht9 hvm9 hw9 hB9 hz9 hk9 hS => ?_)
  have hP1 : va_P (dC, dI) cl0 [] H1 := fun k q h => by simp at h
  have hD1 : va_D (va_A [(y0, .inr (12, fy))] H.size) [] := ⟨fun i j p q h => by simp at h, fun k q h => by simp at h⟩
  obtain ⟨hP, hD⟩ := va_join (wr := [(ht, .inr (0, ft)), (htd, .inl (cB, 64, .inl (fun _ => 0))), (hw, .inr (0, fw)), (hc, .inr (2, fc)), (hr, .inr (6, fr)), (hma, .inl (cJ, 8, .inr (.inl (fun _ => 0)))), (hs, .inr (8, fq)), (hsa, .inl (cI, 12, .inl (fun _ => 0))), (hyt, .inl (cB2, 16000, .inl (fun _ => 0))), (hst, .inr (13, [])), (hya, .inl (cJ2, 8, .inr (.inl (fun _ => 0)))), (hyd, .inl (cI2, 12, .inl (fun _ => 0)))]) (w1 := []) hP hD [8] [0, 1, 2, 3, 4, 5, 6, 7, 9, 10, 11, 12] rfl rfl (by decide) (by decide) hk9 hFc hP1 hD1
  generalize H1 = H at hP hS ⊢
  have hP : va_P (dC, dI) cl0 [(ht, .inr (0, ft)), (htd, .inl (cB, 64, .inl (fun _ => 0))), (hw, .inr (0, fw)), (hc, .inr (2, fc)), (hr, .inr (6, fr)), (hma, .inl (cJ, 8, .inr (.inl (fun _ => 0)))), (hs, .inr (8, fq)), (hsa, .inl (cI, 12, .inl (fun _ => 0))), (hyt, .inl (cB2, 16000, .inl (fun _ => 0))), (hst, .inr (13, [])), (hya, .inl (cJ2, 8, .inr (.inl (fun _ => 0)))), (hyd, .inl (cI2, 12, .inl (fun _ => 0)))] H := hP
  have hD : va_D A [(ht, .inr (0, ft)), (htd, .inl (cB, 64, .inl (fun _ => 0))), (hw, .inr (0, fw)), (hc, .inr (2, fc)), (hr, .inr (6, fr)), (hma, .inl (cJ, 8, .inr (.inl (fun _ => 0)))), (hs, .inr (8, fq)), (hsa, .inl (cI, 12, .inl (fun _ => 0))), (hyt, .inl (cB2, 16000, .inl (fun _ => 0))), (hst, .inr (13, [])), (hya, .inl (cJ2, 8, .inr (.inl (fun _ => 0)))), (hyd, .inl (cI2, 12, .inl (fun _ => 0)))] := hD
  have hw9 : r_2 = 0 := hw9
  subst hw9
  refine lv_icmp_eq (tgt := 1010) hx hb dL_law_1005 (by decide) (fun _ => ?_) (fun c9 => absurd (by decide) c9)
  refine W.widen (k := 173) (n := 857181) (Nat.le_refl _) (Nat.le_refl _) ?_
  exact law_end hAd C0 hS hl
