set_option maxHeartbeats 4000000 in
set_option maxRecDepth 100000 in
theorem law_c10 {p : Program} {l : Launch} {e : Env} {s : State} {m : MethodId} {below : List Frame} {meth : Method} {c : Code} {dC : Nat → ClassId} {dI : Nat → Nat → Nat} {b L : Nat} {xs : Nat → Int32} {A : Nat → Prop} (hAd : A = fun q : Nat => s.heap.size ≤ q) (hL6 : L = 6) (C0 : lw_At p s m meth c b L xs) (hex : ex s) (hE : mg A s s.heap) {x0 y0 : Nat} {H : Heap} {locs : List Loc} (hF : law_fr dC dI A x0 y0 s H) (hS : va_S A s.heap H locs) {ls : Array Slot} (hl : lv_has ls 4 [(0, .ref b), (1, .ref x0), (2, .ref y0), (3, .int 0)]) : W p l e room_1 s m #[Value.ref b] below meth c H locs 173 857181 (lw_Z below #[Value.ref b] s) (F0 m 408 ls []) := by
  subst hL6
  obtain ⟨hx, hb, hr, hml, hown, hts1, hX, hbl, hlocks, hgv⟩ := id C0
  have hts : ∀ w ∈ tb, w.before #[Value.ref b] s = true := fun w h => hts1 w (tb_lw w h)
  have hown : s.vm.findClass RL = some m.cls := hown
  have hA : ∀ q : Nat, s.heap.size ≤ q → A q := fun q h => by rw [hAd]; exact h
  have hbA : ¬ A b := by rw [hAd]; exact Nat.not_le.mpr hbl
  obtain ⟨fx, ht, ft, htd, cB, hw, fw, hc, fc, hr, fr, hm, fm, hma, cJ, hs, fq, hsa, cI, fy, hyt, cB2, hst, hya, cJ2, hyd, cI2, L_fx, g_fx_0, g_fx_1, g_fx_4, g_fx_7, g_fx_9, g_fx_10, g_fx_11, g_fx_12, g_fx_13, g_fx_14, g_fx_15, g_fx_16, L_ft, g_ft_0, g_ft_1, L_fw, g_fw_1, L_fc, g_fc_0, L_fr, L_fm, g_fm_0, g_fm_5, g_fm_6, g_fm_7, g_fm_16, g_fm_17, g_fm_18, g_fm_19, L_fq, g_fq_1, L_fy, g_fy_1, g_fy_3, g_fy_4, g_fy_5, g_fy_6, g_fy_9, g_fy_10, g_fy_64, g_fy_65, g_fy_78, g_fy_80, g_fy_85, g_fy_87, g_fy_88, g_fy_96, g_fy_100, g_fy_101, g_fy_102, g_fy_124, hP, hK, hD⟩ := hF
  refine lv_aload_n hx hb dL_law_408 rfl (lv_at hl 1 rfl) ?_
  refine lv_aload_n hx hb dL_law_409 rfl (lv_at hl 0 rfl) ?_
  refine lv_iload_n hx hb dL_law_410 rfl (lv_at hl 3 rfl) ?_
  refine lv_iconst (v := 1) hx hb dL_law_411 (by decide) ?_
  refine lv_iadd hx hb dL_law_412 ?_
  refine lv_topi (fun z_1 ez_1 => ?_)
  obtain rfl : z_1 = 1 := ez_1.trans (by decide)
  refine va_sld hx hb hX hbl hbA hS (vi rfl) dL_law_413 ?_
  refine lv_aload_n hx hb dL_law_414 rfl (lv_at hl 0 rfl) ?_
  refine lv_iload_n hx hb dL_law_415 rfl (lv_at hl 3 rfl) ?_
  refine lv_iconst (v := 2) hx hb dL_law_416 (by decide) ?_
  refine lv_iadd hx hb dL_law_417 ?_
  refine lv_topi (fun z_2 ez_2 => ?_)
  obtain rfl : z_2 = 2 := ez_2.trans (by decide)
  refine va_sld hx hb hX hbl hbA hS (vi rfl) dL_law_418 ?_
  refine lv_aload_n hx hb dL_law_419 rfl (lv_at hl 0 rfl) ?_
  refine lv_iload_n hx hb dL_law_420 rfl (lv_at hl 3 rfl) ?_
  refine lv_iconst (v := 3) hx hb dL_law_421 (by decide) ?_
  refine lv_iadd hx hb dL_law_422 ?_
  refine lv_topi (fun z_3 ez_3 => ?_)
  obtain rfl : z_3 = 3 := ez_3.trans (by decide)
  refine va_sld hx hb hX hbl hbA hS (vi rfl) dL_law_423 ?_
  have hPc := hP.sub (ws' := [(x0, .inr (10, fx))]) [0] rfl
  have hDc := hD.sub (ws' := [(x0, .inr (10, fx))]) [0] (by decide) rfl
  have hKc := hK.sub (tys' := []) [] rfl
  have hFc := va_free (wc := [(x0, .inr (10, fx))]) hD hS hA [0] rfl
  refine va_calli (va_runV (As := [.int (xs (1 : Int32).toNatClampNeg), .int (xs (2 : Int32).toNatClampNeg), .int (xs (3 : Int32).toNatClampNeg)]) (rest := []) ⟨hx, hb, hml, hown, hts⟩ (m_X12_height l dC dI H.size x0 fx ((xs (1 : Int32).toNatClampNeg)) ((xs (2 : Int32).toNatClampNeg)) ((xs (3 : Int32).toNatClampNeg)) L_fx g_fx_11) (cwV 3 hts (gd_V kw_501 kw_502 kw_503 kw_169 kw_504) rfl rfl rfl (by decide +kernel) ⟨Nat.le_of_ble_eq_true rfl, Nat.le_of_ble_eq_true rfl⟩) ⟨st_blind, va_recv hKc hPc (ci := 10) (q0 := 0) rfl rfl, fun U hU hW9 => st_mk hU hW9 hPc hKc hDc hex⟩ rfl rfl hl.1 rfl (lv_room (Nat.le_of_ble_eq_true rfl)) dL_law_424 ⟨Nat.le_of_ble_eq_true rfl, Nat.le_of_ble_eq_true rfl⟩) hS (fun q _ h => hFc q h) hFc (fun r_4 u9 t9 H1 locs ht9 hvm9 hw9 hB9 hz9 hk9 hS => ?_)
  have hP1 : va_P (dC, dI) cl0 [] H1 := fun k q h => by simp at h
  have hD1 : va_D (va_A [(x0, .inr (10, fx))] H.size) [] := ⟨fun i j p q h => by simp at h, fun k q h => by simp at h⟩
  obtain ⟨hP, hD⟩ := va_join (wr := [(ht, .inr (0, ft)), (htd, .inl (cB, 64, .inl (fun _ => 0))), (hw, .inr (0, fw)), (hc, .inr (2, fc)), (hr, .inr (6, fr)), (hm, .inr (5, fm)), (hma, .inl (cJ, 8, .inr (.inl (fun _ => 0)))), (hs, .inr (8, fq)), (hsa, .inl (cI, 12, .inl (fun _ => 0))), (y0, .inr (12, fy)), (hyt, .inl (cB2, 16000, .inl (fun _ => 0))), (hst, .inr (13, [])), (hya, .inl (cJ2, 8, .inr (.inl (fun _ => 0)))), (hyd, .inl (cI2, 12, .inl (fun _ => 0)))]) (w1 := []) hP hD [0] [1, 2, 3, 4, 5, 6, 7, 8, 9, 10, 11, 12, 13, 14] rfl rfl (by decide) (by decide) hk9 hFc hP1 hD1
  generalize H1 = H at hP hS ⊢
  have hP : va_P (dC, dI) cl0 [(ht, .inr (0, ft)), (htd, .inl (cB, 64, .inl (fun _ => 0))), (hw, .inr (0, fw)), (hc, .inr (2, fc)), (hr, .inr (6, fr)), (hm, .inr (5, fm)), (hma, .inl (cJ, 8, .inr (.inl (fun _ => 0)))), (hs, .inr (8, fq)), (hsa, .inl (cI, 12, .inl (fun _ => 0))), (y0, .inr (12, fy)), (hyt, .inl (cB2, 16000, .inl (fun _ => 0))), (hst, .inr (13, [])), (hya, .inl (cJ2, 8, .inr (.inl (fun _ => 0)))), (hyd, .inl (cI2, 12, .inl (fun _ => 0)))] H := hP
  have hD : va_D A [(ht, .inr (0, ft)), (htd, .inl (cB, 64, .inl (fun _ => 0))), (hw, .inr (0, fw)), (hc, .inr (2, fc)), (hr, .inr (6, fr)), (hm, .inr (5, fm)), (hma, .inl (cJ, 8, .inr (.inl (fun _ => 0)))), (hs, .inr (8, fq)), (hsa, .inl (cI, 12, .inl (fun _ => 0))), (y0, .inr (12, fy)), (hyt, .inl (cB2, 16000, .inl (fun _ => 0))), (hst, .inr (13, [])), (hya, .inl (cJ2, 8, .inr (.inl (fun _ => 0)))), (hyd, .inl (cI2, 12, .inl (fun _ => 0)))] := hD
  have hw9 : r_4 = (-1) := hw9
  subst hw9
  refine lv_aload_n hx hb dL_law_427 rfl (lv_at hl 2 rfl) ?_
  refine lv_aload_n hx hb dL_law_428 rfl (lv_at hl 0 rfl) ?_
  refine lv_iload_n hx hb dL_law_429 rfl (lv_at hl 3 rfl) ?_
  refine lv_iconst (v := 1) hx hb dL_law_430 (by decide) ?_
  refine lv_iadd hx hb dL_law_431 ?_
  refine lv_topi (fun z_5 ez_5 => ?_)
  obtain rfl : z_5 = 1 := ez_5.trans (by decide)
  refine va_sld hx hb hX hbl hbA hS (vi rfl) dL_law_432 ?_
  refine lv_aload_n hx hb dL_law_433 rfl (lv_at hl 0 rfl) ?_
  refine lv_iload_n hx hb dL_law_434 rfl (lv_at hl 3 rfl) ?_
  refine lv_iconst (v := 2) hx hb dL_law_435 (by decide) ?_
  refine lv_iadd hx hb dL_law_436 ?_
  refine lv_topi (fun z_6 ez_6 => ?_)
  obtain rfl : z_6 = 2 := ez_6.trans (by decide)
  refine va_sld hx hb hX hbl hbA hS (vi rfl) dL_law_437 ?_
  refine lv_aload_n hx hb dL_law_438 rfl (lv_at hl 0 rfl) ?_
  refine lv_iload_n hx hb dL_law_439 rfl (lv_at hl 3 rfl) ?_
  refine lv_iconst (v := 3) hx hb dL_law_440 (by decide) ?_
  refine lv_iadd hx hb dL_law_441 ?_
  refine lv_topi (fun z_7 ez_7 => ?_)
  obtain rfl : z_7 = 3 := ez_7.trans (by decide)
  refine va_sld hx hb hX hbl hbA hS (vi rfl) dL_law_442 ?_
  have hPc := hP.sub (ws' := [(y0, .inr (12, fy))]) [9] rfl
  have hDc := hD.sub (ws' := [(y0, .inr (12, fy))]) [9] (by decide) rfl
  have hKc := hK.sub (tys' := []) [] rfl
  have hFc := va_free (wc := [(y0, .inr (12, fy))]) hD hS hA [9] rfl
  refine va_calli (va_runV (As := [.int (xs (1 : Int32).toNatClampNeg), .int (xs (2 : Int32).toNatClampNeg), .int (xs (3 : Int32).toNatClampNeg)]) (rest := [.int (-1)]) ⟨hx, hb, hml, hown, hts⟩ (m_X14_height l dC dI H.size y0 fy ((xs (1 : Int32).toNatClampNeg)) ((xs (2 : Int32).toNatClampNeg)) ((xs (3 : Int32).toNatClampNeg)) L_fy g_fy_1) (cwV 3 hts (gd_V kw_505 kw_506 kw_507 kw_374 kw_508) rfl rfl rfl (by decide +kernel) ⟨Nat.le_of_ble_eq_true rfl, Nat.le_of_ble_eq_true rfl⟩) ⟨st_blind, va_recv hKc hPc (ci := 12) (q0 := 0) rfl rfl, fun U hU hW9 => st_mk hU hW9 hPc hKc hDc hex⟩ rfl rfl hl.1 rfl (lv_room (Nat.le_of_ble_eq_true rfl)) dL_law_443 ⟨Nat.le_of_ble_eq_true rfl, Nat.le_of_ble_eq_true rfl⟩) hS (fun q _ h => hFc q h) hFc (fun r_8 u9 t9 H1 locs ht9 hvm9 hw9 hB9 hz9 hk9 hS => ?_)
  have hP1 : va_P (dC, dI) cl0 [] H1 := fun k q h => by simp at h
  have hD1 : va_D (va_A [(y0, .inr (12, fy))] H.size) [] := ⟨fun i j p q h => by simp at h, fun k q h => by simp at h⟩
  obtain ⟨hP, hD⟩ := va_join (wr := [(ht, .inr (0, ft)), (htd, .inl (cB, 64, .inl (fun _ => 0))), (hw, .inr (0, fw)), (hc, .inr (2, fc)), (hr, .inr (6, fr)), (hm, .inr (5, fm)), (hma, .inl (cJ, 8, .inr (.inl (fun _ => 0)))), (hs, .inr (8, fq)), (hsa, .inl (cI, 12, .inl (fun _ => 0))), (hyt, .inl (cB2, 16000, .inl (fun _ => 0))), (hst, .inr (13, [])), (hya, .inl (cJ2, 8, .inr (.inl (fun _ => 0)))), (hyd, .inl (cI2, 12, .inl (fun _ => 0)))]) (w1 := []) hP hD [9] [0, 1, 2, 3, 4, 5, 6, 7, 8, 10, 11, 12, 13] rfl rfl (by decide) (by decide) hk9 hFc hP1 hD1
  generalize H1 = H at hP hS ⊢
  have hP : va_P (dC, dI) cl0 [(ht, .inr (0, ft)), (htd, .inl (cB, 64, .inl (fun _ => 0))), (hw, .inr (0, fw)), (hc, .inr (2, fc)), (hr, .inr (6, fr)), (hm, .inr (5, fm)), (hma, .inl (cJ, 8, .inr (.inl (fun _ => 0)))), (hs, .inr (8, fq)), (hsa, .inl (cI, 12, .inl (fun _ => 0))), (hyt, .inl (cB2, 16000, .inl (fun _ => 0))), (hst, .inr (13, [])), (hya, .inl (cJ2, 8, .inr (.inl (fun _ => 0)))), (hyd, .inl (cI2, 12, .inl (fun _ => 0)))] H := hP
  have hD : va_D A [(ht, .inr (0, ft)), (htd, .inl (cB, 64, .inl (fun _ => 0))), (hw, .inr (0, fw)), (hc, .inr (2, fc)), (hr, .inr (6, fr)), (hm, .inr (5, fm)), (hma, .inl (cJ, 8, .inr (.inl (fun _ => 0)))), (hs, .inr (8, fq)), (hsa, .inl (cI, 12, .inl (fun _ => 0))), (hyt, .inl (cB2, 16000, .inl (fun _ => 0))), (hst, .inr (13, [])), (hya, .inl (cJ2, 8, .inr (.inl (fun _ => 0)))), (hyd, .inl (cI2, 12, .inl (fun _ => 0)))] := hD
  have hw9 : r_8 = (-1) := hw9
  subst hw9
  refine lv_icmp_eq (tgt := 1010) hx hb dL_law_446 (by decide) (fun _ => ?_) (fun c9 => absurd (by decide) c9)
  refine W.widen (k := 173) (n := 857181) (Nat.le_refl _) (Nat.le_refl _) ?_
  exact law_end hAd C0 hS hl
set_option maxHeartbeats 4000000 in
set_option maxRecDepth 100000 in
theorem law_c11 {p : Program} {l : Launch} {e : Env} {s : State} {m : MethodId} {below : List Frame} {meth : Method} {c : Code} {dC : Nat → ClassId} {dI : Nat → Nat → Nat} {b L : Nat} {xs : Nat → Int32} {A : Nat → Prop} (hAd : A = fun q : Nat => s.heap.size ≤ q) (hL6 : L = 6) (C0 : lw_At p s m meth c b L xs) (hex : ex s) (hE : mg A s s.heap) {x0 y0 : Nat} {H : Heap} {locs : List Loc} (hF : law_fr dC dI A x0 y0 s H) (hS : va_S A s.heap H locs) {ls : Array Slot} (hl : lv_has ls 4 [(0, .ref b), (1, .ref x0), (2, .ref y0), (3, .int 0)]) : W p l e room_1 s m #[Value.ref b] below meth c H locs 173 857181 (lw_Z below #[Value.ref b] s) (F0 m 451 ls []) := by
  subst hL6
  obtain ⟨hx, hb, hr, hml, hown, hts1, hX, hbl, hlocks, hgv⟩ := id C0
  have hts : ∀ w ∈ tb, w.before #[Value.ref b] s = true := fun w h => hts1 w (tb_lw w h)
  have hown : s.vm.findClass RL = some m.cls := hown
  have hA : ∀ q : Nat, s.heap.size ≤ q → A q := fun q h => by rw [hAd]; exact h
  have hbA : ¬ A b := by rw [hAd]; exact Nat.not_le.mpr hbl
  obtain ⟨fx, ht, ft, htd, cB, hw, fw, hc, fc, hr, fr, hm, fm, hma, cJ, hs, fq, hsa, cI, fy, hyt, cB2, hst, hya, cJ2, hyd, cI2, L_fx, g_fx_0, g_fx_1, g_fx_4, g_fx_7, g_fx_9, g_fx_10, g_fx_11, g_fx_12, g_fx_13, g_fx_14, g_fx_15, g_fx_16, L_ft, g_ft_0, g_ft_1, L_fw, g_fw_1, L_fc, g_fc_0, L_fr, L_fm, g_fm_0, g_fm_5, g_fm_6, g_fm_7, g_fm_16, g_fm_17, g_fm_18, g_fm_19, L_fq, g_fq_1, L_fy, g_fy_1, g_fy_3, g_fy_4, g_fy_5, g_fy_6, g_fy_9, g_fy_10, g_fy_64, g_fy_65, g_fy_78, g_fy_80, g_fy_85, g_fy_87, g_fy_88, g_fy_96, g_fy_100, g_fy_101, g_fy_102, g_fy_124, hP, hK, hD⟩ := hF
  refine lv_aload_n hx hb dL_law_451 rfl (lv_at hl 1 rfl) ?_
  refine lv_aload_n hx hb dL_law_452 rfl (lv_at hl 0 rfl) ?_
  refine lv_iload_n hx hb dL_law_453 rfl (lv_at hl 3 rfl) ?_
  refine lv_iconst (v := 1) hx hb dL_law_454 (by decide) ?_
  refine lv_iadd hx hb dL_law_455 ?_
  refine lv_topi (fun z_1 ez_1 => ?_)
  obtain rfl : z_1 = 1 := ez_1.trans (by decide)
  refine va_sld hx hb hX hbl hbA hS (vi rfl) dL_law_456 ?_
  refine lv_aload_n hx hb dL_law_457 rfl (lv_at hl 0 rfl) ?_
  refine lv_iload_n hx hb dL_law_458 rfl (lv_at hl 3 rfl) ?_
  refine lv_iconst (v := 2) hx hb dL_law_459 (by decide) ?_
  refine lv_iadd hx hb dL_law_460 ?_
  refine lv_topi (fun z_2 ez_2 => ?_)
  obtain rfl : z_2 = 2 := ez_2.trans (by decide)
  refine va_sld hx hb hX hbl hbA hS (vi rfl) dL_law_461 ?_
  refine lv_aload_n hx hb dL_law_462 rfl (lv_at hl 0 rfl) ?_
  refine lv_iload_n hx hb dL_law_463 rfl (lv_at hl 3 rfl) ?_
  refine lv_iconst (v := 3) hx hb dL_law_464 (by decide) ?_
  refine lv_iadd hx hb dL_law_465 ?_
  refine lv_topi (fun z_3 ez_3 => ?_)
  obtain rfl : z_3 = 3 := ez_3.trans (by decide)
  refine va_sld hx hb hX hbl hbA hS (vi rfl) dL_law_466 ?_
  refine lv_aload_n hx hb dL_law_467 rfl (lv_at hl 0 rfl) ?_
  refine lv_iload_n hx hb dL_law_468 rfl (lv_at hl 3 rfl) ?_
  refine lv_iconst (v := 4) hx hb dL_law_469 (by decide) ?_
  refine lv_iadd hx hb dL_law_470 ?_
  refine lv_topi (fun z_4 ez_4 => ?_)
  obtain rfl : z_4 = 4 := ez_4.trans (by decide)
  refine va_sld hx hb hX hbl hbA hS (vi rfl) dL_law_471 ?_
  have hPc := hP.sub (ws' := [(x0, .inr (10, fx))]) [0] rfl
  have hDc := hD.sub (ws' := [(x0, .inr (10, fx))]) [0] (by decide) rfl
  have hKc := hK.sub (tys' := []) [] rfl
  have hFc := va_free (wc := [(x0, .inr (10, fx))]) hD hS hA [0] rfl
  refine va_calli (va_runV (As := [.int (xs (1 : Int32).toNatClampNeg), .int (xs (2 : Int32).toNatClampNeg), .int (xs (3 : Int32).toNatClampNeg), .int (xs (4 : Int32).toNatClampNeg)]) (rest := []) ⟨hx, hb, hml, hown, hts⟩ (m_X12_local l dC dI H.size x0 fx ((xs (1 : Int32).toNatClampNeg)) ((xs (2 : Int32).toNatClampNeg)) ((xs (3 : Int32).toNatClampNeg)) ((xs (4 : Int32).toNatClampNeg)) L_fx g_fx_11) (cwV 4 hts (gd_V kw_509 kw_510 kw_511 kw_169 kw_512) rfl rfl rfl (by decide +kernel) ⟨Nat.le_of_ble_eq_true rfl, Nat.le_of_ble_eq_true rfl⟩) ⟨st_blind, va_recv hKc hPc (ci := 10) (q0 := 0) rfl rfl, fun U hU hW9 => st_mk hU hW9 hPc hKc hDc hex⟩ rfl rfl hl.1 rfl (lv_room (Nat.le_of_ble_eq_true rfl)) dL_law_472 ⟨Nat.le_of_ble_eq_true rfl, Nat.le_of_ble_eq_true rfl⟩) hS (fun q _ h => hFc q h) hFc (fun r_5 u9 t9 H1 locs ht9 hvm9 hw9 hB9 hz9 hk9 hS => ?_)
  have hP1 : va_P (dC, dI) cl0 [] H1 := fun k q h => by simp at h
  have hD1 : va_D (va_A [(x0, .inr (10, fx))] H.size) [] := ⟨fun i j p q h => by simp at h, fun k q h => by simp at h⟩
  obtain ⟨hP, hD⟩ := va_join (wr := [(ht, .inr (0, ft)), (htd, .inl (cB, 64, .inl (fun _ => 0))), (hw, .inr (0, fw)), (hc, .inr (2, fc)), (hr, .inr (6, fr)), (hm, .inr (5, fm)), (hma, .inl (cJ, 8, .inr (.inl (fun _ => 0)))), (hs, .inr (8, fq)), (hsa, .inl (cI, 12, .inl (fun _ => 0))), (y0, .inr (12, fy)), (hyt, .inl (cB2, 16000, .inl (fun _ => 0))), (hst, .inr (13, [])), (hya, .inl (cJ2, 8, .inr (.inl (fun _ => 0)))), (hyd, .inl (cI2, 12, .inl (fun _ => 0)))]) (w1 := []) hP hD [0] [1, 2, 3, 4, 5, 6, 7, 8, 9, 10, 11, 12, 13, 14] rfl rfl (by decide) (by decide) hk9 hFc hP1 hD1
  generalize H1 = H at hP hS ⊢
  have hP : va_P (dC, dI) cl0 [(ht, .inr (0, ft)), (htd, .inl (cB, 64, .inl (fun _ => 0))), (hw, .inr (0, fw)), (hc, .inr (2, fc)), (hr, .inr (6, fr)), (hm, .inr (5, fm)), (hma, .inl (cJ, 8, .inr (.inl (fun _ => 0)))), (hs, .inr (8, fq)), (hsa, .inl (cI, 12, .inl (fun _ => 0))), (y0, .inr (12, fy)), (hyt, .inl (cB2, 16000, .inl (fun _ => 0))), (hst, .inr (13, [])), (hya, .inl (cJ2, 8, .inr (.inl (fun _ => 0)))), (hyd, .inl (cI2, 12, .inl (fun _ => 0)))] H := hP
  have hD : va_D A [(ht, .inr (0, ft)), (htd, .inl (cB, 64, .inl (fun _ => 0))), (hw, .inr (0, fw)), (hc, .inr (2, fc)), (hr, .inr (6, fr)), (hm, .inr (5, fm)), (hma, .inl (cJ, 8, .inr (.inl (fun _ => 0)))), (hs, .inr (8, fq)), (hsa, .inl (cI, 12, .inl (fun _ => 0))), (y0, .inr (12, fy)), (hyt, .inl (cB2, 16000, .inl (fun _ => 0))), (hst, .inr (13, [])), (hya, .inl (cJ2, 8, .inr (.inl (fun _ => 0)))), (hyd, .inl (cI2, 12, .inl (fun _ => 0)))] := hD
  have hw9 : r_5 = (-1) := hw9
  subst hw9
  refine lv_aload_n hx hb dL_law_475 rfl (lv_at hl 2 rfl) ?_
  refine lv_aload_n hx hb dL_law_476 rfl (lv_at hl 0 rfl) ?_
  refine lv_iload_n hx hb dL_law_477 rfl (lv_at hl 3 rfl) ?_
  refine lv_iconst (v := 1) hx hb dL_law_478 (by decide) ?_
  refine lv_iadd hx hb dL_law_479 ?_
  refine lv_topi (fun z_6 ez_6 => ?_)
  obtain rfl : z_6 = 1 := ez_6.trans (by decide)
  refine va_sld hx hb hX hbl hbA hS (vi rfl) dL_law_480 ?_
  refine lv_aload_n hx hb dL_law_481 rfl (lv_at hl 0 rfl) ?_
  refine lv_iload_n hx hb dL_law_482 rfl (lv_at hl 3 rfl) ?_
  refine lv_iconst (v := 2) hx hb dL_law_483 (by decide) ?_
  refine lv_iadd hx hb dL_law_484 ?_
  refine lv_topi (fun z_7 ez_7 => ?_)
  obtain rfl : z_7 = 2 := ez_7.trans (by decide)
  refine va_sld hx hb hX hbl hbA hS (vi rfl) dL_law_485 ?_
  refine lv_aload_n hx hb dL_law_486 rfl (lv_at hl 0 rfl) ?_
  refine lv_iload_n hx hb dL_law_487 rfl (lv_at hl 3 rfl) ?_
  refine lv_iconst (v := 3) hx hb dL_law_488 (by decide) ?_
  refine lv_iadd hx hb dL_law_489 ?_
  refine lv_topi (fun z_8 ez_8 => ?_)
  obtain rfl : z_8 = 3 := ez_8.trans (by decide)
  refine va_sld hx hb hX hbl hbA hS (vi rfl) dL_law_490 ?_
  refine lv_aload_n hx hb dL_law_491 rfl (lv_at hl 0 rfl) ?_
  refine lv_iload_n hx hb dL_law_492 rfl (lv_at hl 3 rfl) ?_
  refine lv_iconst (v := 4) hx hb dL_law_493 (by decide) ?_
  refine lv_iadd hx hb dL_law_494 ?_
  refine lv_topi (fun z_9 ez_9 => ?_)
  obtain rfl : z_9 = 4 := ez_9.trans (by decide)
  refine va_sld hx hb hX hbl hbA hS (vi rfl) dL_law_495 ?_
  have hPc := hP.sub (ws' := [(y0, .inr (12, fy))]) [9] rfl
  have hDc := hD.sub (ws' := [(y0, .inr (12, fy))]) [9] (by decide) rfl
  have hKc := hK.sub (tys' := []) [] rfl
  have hFc := va_free (wc := [(y0, .inr (12, fy))]) hD hS hA [9] rfl
  refine va_calli (va_runV (As := [.int (xs (1 : Int32).toNatClampNeg), .int (xs (2 : Int32).toNatClampNeg), .int (xs (3 : Int32).toNatClampNeg), .int (xs (4 : Int32).toNatClampNeg)]) (rest := [.int (-1)]) ⟨hx, hb, hml, hown, hts⟩ (m_X14_local l dC dI H.size y0 fy ((xs (1 : Int32).toNatClampNeg)) ((xs (2 : Int32).toNatClampNeg)) ((xs (3 : Int32).toNatClampNeg)) ((xs (4 : Int32).toNatClampNeg)) L_fy g_fy_1) (cwV 4 hts (gd_V kw_513 kw_514 kw_515 kw_374 kw_516) rfl rfl rfl (by decide +kernel) ⟨Nat.le_of_ble_eq_true rfl, Nat.le_of_ble_eq_true rfl⟩) ⟨st_blind, va_recv hKc hPc (ci := 12) (q0 := 0) rfl rfl, fun U hU hW9 => st_mk hU hW9 hPc hKc hDc hex⟩ rfl rfl hl.1 rfl (lv_room (Nat.le_of_ble_eq_true rfl)) dL_law_496 ⟨Nat.le_of_ble_eq_true rfl, Nat.le_of_ble_eq_true rfl⟩) hS (fun q _ h => hFc q h) hFc (fun r_10 u9 t9 H1 locs ht9 hvm9 hw9 hB9 hz9 hk9 hS => ?_)
  have hP1 : va_P (dC, dI) cl0 [] H1 := fun k q h => by simp at h
  have hD1 : va_D (va_A [(y0, .inr (12, fy))] H.size) [] := ⟨fun i j p q h => by simp at h, fun k q h => by simp at h⟩
  obtain ⟨hP, hD⟩ := va_join (wr := [(ht, .inr (0, ft)), (htd, .inl (cB, 64, .inl (fun _ => 0))), (hw, .inr (0, fw)), (hc, .inr (2, fc)), (hr, .inr (6, fr)), (hm, .inr (5, fm)), (hma, .inl (cJ, 8, .inr (.inl (fun _ => 0)))), (hs, .inr (8, fq)), (hsa, .inl (cI, 12, .inl (fun _ => 0))), (hyt, .inl (cB2, 16000, .inl (fun _ => 0))), (hst, .inr (13, [])), (hya, .inl (cJ2, 8, .inr (.inl (fun _ => 0)))), (hyd, .inl (cI2, 12, .inl (fun _ => 0)))]) (w1 := []) hP hD [9] [0, 1, 2, 3, 4, 5, 6, 7, 8, 10, 11, 12, 13] rfl rfl (by decide) (by decide) hk9 hFc hP1 hD1
  generalize H1 = H at hP hS ⊢
  have hP : va_P (dC, dI) cl0 [(ht, .inr (0, ft)), (htd, .inl (cB, 64, .inl (fun _ => 0))), (hw, .inr (0, fw)), (hc, .inr (2, fc)), (hr, .inr (6, fr)), (hm, .inr (5, fm)), (hma, .inl (cJ, 8, .inr (.inl (fun _ => 0)))), (hs, .inr (8, fq)), (hsa, .inl (cI, 12, .inl (fun _ => 0))), (hyt, .inl (cB2, 16000, .inl (fun _ => 0))), (hst, .inr (13, [])), (hya, .inl (cJ2, 8, .inr (.inl (fun _ => 0)))), (hyd, .inl (cI2, 12, .inl (fun _ => 0)))] H := hP
  have hD : va_D A [(ht, .inr (0, ft)), (htd, .inl (cB, 64, .inl (fun _ => 0))), (hw, .inr (0, fw)), (hc, .inr (2, fc)), (hr, .inr (6, fr)), (hm, .inr (5, fm)), (hma, .inl (cJ, 8, .inr (.inl (fun _ => 0)))), (hs, .inr (8, fq)), (hsa, .inl (cI, 12, .inl (fun _ => 0))), (hyt, .inl (cB2, 16000, .inl (fun _ => 0))), (hst, .inr (13, [])), (hya, .inl (cJ2, 8, .inr (.inl (fun _ => 0)))), (hyd, .inl (cI2, 12, .inl (fun _ => 0)))] := hD
  have hw9 : r_10 = (-1) := hw9
  subst hw9
  refine lv_icmp_eq (tgt := 1010) hx hb dL_law_499 (by decide) (fun _ => ?_) (fun c9 => absurd (by decide) c9)
  refine W.widen (k := 173) (n := 857181) (Nat.le_refl _) (Nat.le_refl _) ?_
  exact law_end hAd C0 hS hl
set_option maxHeartbeats 4000000 in
set_option maxRecDepth 100000 in
theorem law_c12 {p : Program} {l : Launch} {e : Env} {s : State} {m : MethodId} {below : List Frame} {meth : Method} {c : Code} {dC : Nat → ClassId} {dI : Nat → Nat → Nat} {b L : Nat} {xs : Nat → Int32} {A : Nat → Prop} (hAd : A = fun q : Nat => s.heap.size ≤ q) (hL6 : L = 6) (C0 : lw_At p s m meth c b L xs) (hex : ex s) (hE : mg A s s.heap) {x0 y0 : Nat} {H : Heap} {locs : List Loc} (hF : law_fr dC dI A x0 y0 s H) (hS : va_S A s.heap H locs) {ls : Array Slot} (hl : lv_has ls 4 [(0, .ref b), (1, .ref x0), (2, .ref y0), (3, .int 0)]) : W p l e room_1 s m #[Value.ref b] below meth c H locs 173 857181 (lw_Z below #[Value.ref b] s) (F0 m 504 ls []) := by
  subst hL6
  obtain ⟨hx, hb, hr, hml, hown, hts1, hX, hbl, hlocks, hgv⟩ := id C0
  have hts : ∀ w ∈ tb, w.before #[Value.ref b] s = true := fun w h => hts1 w (tb_lw w h)
  have hown : s.vm.findClass RL = some m.cls := hown
  have hA : ∀ q : Nat, s.heap.size ≤ q → A q := fun q h => by rw [hAd]; exact h
  have hbA : ¬ A b := by rw [hAd]; exact Nat.not_le.mpr hbl
  obtain ⟨fx, ht, ft, htd, cB, hw, fw, hc, fc, hr, fr, hm, fm, hma, cJ, hs, fq, hsa, cI, fy, hyt, cB2, hst, hya, cJ2, hyd, cI2, L_fx, g_fx_0, g_fx_1, g_fx_4, g_fx_7, g_fx_9, g_fx_10, g_fx_11, g_fx_12, g_fx_13, g_fx_14, g_fx_15, g_fx_16, L_ft, g_ft_0, g_ft_1, L_fw, g_fw_1, L_fc, g_fc_0, L_fr, L_fm, g_fm_0, g_fm_5, g_fm_6, g_fm_7, g_fm_16, g_fm_17, g_fm_18, g_fm_19, L_fq, g_fq_1, L_fy, g_fy_1, g_fy_3, g_fy_4, g_fy_5, g_fy_6, g_fy_9, g_fy_10, g_fy_64, g_fy_65, g_fy_78, g_fy_80, g_fy_85, g_fy_87, g_fy_88, g_fy_96, g_fy_100, g_fy_101, g_fy_102, g_fy_124, hP, hK, hD⟩ := hF
  refine lv_aload_n hx hb dL_law_504 rfl (lv_at hl 1 rfl) ?_
  refine lv_aload_n hx hb dL_law_505 rfl (lv_at hl 0 rfl) ?_
  refine lv_iload_n hx hb dL_law_506 rfl (lv_at hl 3 rfl) ?_
  refine lv_iconst (v := 1) hx hb dL_law_507 (by decide) ?_
  refine lv_iadd hx hb dL_law_508 ?_
  refine lv_topi (fun z_1 ez_1 => ?_)
  obtain rfl : z_1 = 1 := ez_1.trans (by decide)
  refine va_sld hx hb hX hbl hbA hS (vi rfl) dL_law_509 ?_
  have hPc := hP.sub (ws' := [(x0, .inr (10, fx))]) [0] rfl
  have hDc := hD.sub (ws' := [(x0, .inr (10, fx))]) [0] (by decide) rfl
  have hKc := hK.sub (tys' := []) [] rfl
  have hFc := va_free (wc := [(x0, .inr (10, fx))]) hD hS hA [0] rfl
  refine va_calli (va_runV (As := [.int (xs (1 : Int32).toNatClampNeg)]) (rest := []) ⟨hx, hb, hml, hown, hts⟩ (m_X12_write l dC dI H.size x0 fx ((xs (1 : Int32).toNatClampNeg)) L_fx g_fx_11) (cwV 1 hts (gd_V kw_517 kw_518 kw_519 kw_169 kw_520) rfl rfl rfl (by decide +kernel) ⟨Nat.le_of_ble_eq_true rfl, Nat.le_of_ble_eq_true rfl⟩) ⟨st_blind, va_recv hKc hPc (ci := 10) (q0 := 0) rfl rfl, fun U hU hW9 => st_mk hU hW9 hPc hKc hDc hex⟩ rfl rfl hl.1 rfl (lv_room (Nat.le_of_ble_eq_true rfl)) dL_law_510 ⟨Nat.le_of_ble_eq_true rfl, Nat.le_of_ble_eq_true rfl⟩) hS (fun q _ h => hFc q h) hFc (fun r_2 u9 t9 H1 locs ht9 hvm9 hw9 hB9 hz9 hk9 hS => ?_)
  have hP1 : va_P (dC, dI) cl0 [] H1 := fun k q h => by simp at h
  have hD1 : va_D (va_A [(x0, .inr (10, fx))] H.size) [] := ⟨fun i j p q h => by simp at h, fun k q h => by simp at h⟩
  obtain ⟨hP, hD⟩ := va_join (wr := [(ht, .inr (0, ft)), (htd, .inl (cB, 64, .inl (fun _ => 0))), (hw, .inr (0, fw)), (hc, .inr (2, fc)), (hr, .inr (6, fr)), (hm, .inr (5, fm)), (hma, .inl (cJ, 8, .inr (.inl (fun _ => 0)))), (hs, .inr (8, fq)), (hsa, .inl (cI, 12, .inl (fun _ => 0))), (y0, .inr (12, fy)), (hyt, .inl (cB2, 16000, .inl (fun _ => 0))), (hst, .inr (13, [])), (hya, .inl (cJ2, 8, .inr (.inl (fun _ => 0)))), (hyd, .inl (cI2, 12, .inl (fun _ => 0)))]) (w1 := []) hP hD [0] [1, 2, 3, 4, 5, 6, 7, 8, 9, 10, 11, 12, 13, 14] rfl rfl (by decide) (by decide) hk9 hFc hP1 hD1
  generalize H1 = H at hP hS ⊢
  have hP : va_P (dC, dI) cl0 [(ht, .inr (0, ft)), (htd, .inl (cB, 64, .inl (fun _ => 0))), (hw, .inr (0, fw)), (hc, .inr (2, fc)), (hr, .inr (6, fr)), (hm, .inr (5, fm)), (hma, .inl (cJ, 8, .inr (.inl (fun _ => 0)))), (hs, .inr (8, fq)), (hsa, .inl (cI, 12, .inl (fun _ => 0))), (y0, .inr (12, fy)), (hyt, .inl (cB2, 16000, .inl (fun _ => 0))), (hst, .inr (13, [])), (hya, .inl (cJ2, 8, .inr (.inl (fun _ => 0)))), (hyd, .inl (cI2, 12, .inl (fun _ => 0)))] H := hP
  have hD : va_D A [(ht, .inr (0, ft)), (htd, .inl (cB, 64, .inl (fun _ => 0))), (hw, .inr (0, fw)), (hc, .inr (2, fc)), (hr, .inr (6, fr)), (hm, .inr (5, fm)), (hma, .inl (cJ, 8, .inr (.inl (fun _ => 0)))), (hs, .inr (8, fq)), (hsa, .inl (cI, 12, .inl (fun _ => 0))), (y0, .inr (12, fy)), (hyt, .inl (cB2, 16000, .inl (fun _ => 0))), (hst, .inr (13, [])), (hya, .inl (cJ2, 8, .inr (.inl (fun _ => 0)))), (hyd, .inl (cI2, 12, .inl (fun _ => 0)))] := hD
  have hw9 : r_2 = (-1) := hw9
  subst hw9
  refine lv_aload_n hx hb dL_law_513 rfl (lv_at hl 2 rfl) ?_
  refine lv_aload_n hx hb dL_law_514 rfl (lv_at hl 0 rfl) ?_
  refine lv_iload_n hx hb dL_law_515 rfl (lv_at hl 3 rfl) ?_
  refine lv_iconst (v := 1) hx hb dL_law_516 (by decide) ?_
  refine lv_iadd hx hb dL_law_517 ?_
  refine lv_topi (fun z_3 ez_3 => ?_)
  obtain rfl : z_3 = 1 := ez_3.trans (by decide)
  refine va_sld hx hb hX hbl hbA hS (vi rfl) dL_law_518 ?_
  have hPc := hP.sub (ws' := [(y0, .inr (12, fy))]) [9] rfl
  have hDc := hD.sub (ws' := [(y0, .inr (12, fy))]) [9] (by decide) rfl
  have hKc := hK.sub (tys' := []) [] rfl
  have hFc := va_free (wc := [(y0, .inr (12, fy))]) hD hS hA [9] rfl
  refine va_calli (va_runV (As := [.int (xs (1 : Int32).toNatClampNeg)]) (rest := [.int (-1)]) ⟨hx, hb, hml, hown, hts⟩ (m_X14_write l dC dI H.size y0 fy ((xs (1 : Int32).toNatClampNeg)) L_fy g_fy_1) (cwV 1 hts (gd_V kw_521 kw_522 kw_523 kw_374 kw_524) rfl rfl rfl (by decide +kernel) ⟨Nat.le_of_ble_eq_true rfl, Nat.le_of_ble_eq_true rfl⟩) ⟨st_blind, va_recv hKc hPc (ci := 12) (q0 := 0) rfl rfl, fun U hU hW9 => st_mk hU hW9 hPc hKc hDc hex⟩ rfl rfl hl.1 rfl (lv_room (Nat.le_of_ble_eq_true rfl)) dL_law_519 ⟨Nat.le_of_ble_eq_true rfl, Nat.le_of_ble_eq_true rfl⟩) hS (fun q _ h => hFc q h) hFc (fun r_4 u9 t9 H1 locs ht9 hvm9 hw9 hB9 hz9 hk9 hS => ?_)
  have hP1 : va_P (dC, dI) cl0 [] H1 := fun k q h => by simp at h
  have hD1 : va_D (va_A [(y0, .inr (12, fy))] H.size) [] := ⟨fun i j p q h => by simp at h, fun k q h => by simp at h⟩
  obtain ⟨hP, hD⟩ := va_join (wr := [(ht, .inr (0, ft)), (htd, .inl (cB, 64, .inl (fun _ => 0))), (hw, .inr (0, fw)), (hc, .inr (2, fc)), (hr, .inr (6, fr)), (hm, .inr (5, fm)), (hma, .inl (cJ, 8, .inr (.inl (fun _ => 0)))), (hs, .inr (8, fq)), (hsa, .inl (cI, 12, .inl (fun _ => 0))), (hyt, .inl (cB2, 16000, .inl (fun _ => 0))), (hst, .inr (13, [])), (hya, .inl (cJ2, 8, .inr (.inl (fun _ => 0)))), (hyd, .inl (cI2, 12, .inl (fun _ => 0)))]) (w1 := []) hP hD [9] [0, 1, 2, 3, 4, 5, 6, 7, 8, 10, 11, 12, 13] rfl rfl (by decide) (by decide) hk9 hFc hP1 hD1
  generalize H1 = H at hP hS ⊢
  have hP : va_P (dC, dI) cl0 [(ht, .inr (0, ft)), (htd, .inl (cB, 64, .inl (fun _ => 0))), (hw, .inr (0, fw)), (hc, .inr (2, fc)), (hr, .inr (6, fr)), (hm, .inr (5, fm)), (hma, .inl (cJ, 8, .inr (.inl (fun _ => 0)))), (hs, .inr (8, fq)), (hsa, .inl (cI, 12, .inl (fun _ => 0))), (hyt, .inl (cB2, 16000, .inl (fun _ => 0))), (hst, .inr (13, [])), (hya, .inl (cJ2, 8, .inr (.inl (fun _ => 0)))), (hyd, .inl (cI2, 12, .inl (fun _ => 0)))] H := hP
  have hD : va_D A [(ht, .inr (0, ft)), (htd, .inl (cB, 64, .inl (fun _ => 0))), (hw, .inr (0, fw)), (hc, .inr (2, fc)), (hr, .inr (6, fr)), (hm, .inr (5, fm)), (hma, .inl (cJ, 8, .inr (.inl (fun _ => 0)))), (hs, .inr (8, fq)), (hsa, .inl (cI, 12, .inl (fun _ => 0))), (hyt, .inl (cB2, 16000, .inl (fun _ => 0))), (hst, .inr (13, [])), (hya, .inl (cJ2, 8, .inr (.inl (fun _ => 0)))), (hyd, .inl (cI2, 12, .inl (fun _ => 0)))] := hD
  have hw9 : r_4 = (-1) := hw9
  subst hw9
  refine lv_icmp_eq (tgt := 1010) hx hb dL_law_522 (by decide) (fun _ => ?_) (fun c9 => absurd (by decide) c9)
  refine W.widen (k := 173) (n := 857181) (Nat.le_refl _) (Nat.le_refl _) ?_
  exact law_end hAd C0 hS hl
set_option maxHeartbeats 4000000 in
set_option maxRecDepth 100000 in
theorem law_c13 {p : Program} {l : Launch} {e : Env} {s : State} {m : MethodId} {below : List Frame} {meth : Method} {c : Code} {dC : Nat → ClassId} {dI : Nat → Nat → Nat} {b L : Nat} {xs : Nat → Int32} {A : Nat → Prop} (hAd : A = fun q : Nat => s.heap.size ≤ q) (hL6 : L = 6) (C0 : lw_At p s m meth c b L xs) (hex : ex s) (hE : mg A s s.heap) {x0 y0 : Nat} {H : Heap} {locs : List Loc} (hF : law_fr dC dI A x0 y0 s H) (hS : va_S A s.heap H locs) {ls : Array Slot} (hl : lv_has ls 4 [(0, .ref b), (1, .ref x0), (2, .ref y0), (3, .int 0)]) : W p l e room_1 s m #[Value.ref b] below meth c H locs 173 857181 (lw_Z below #[Value.ref b] s) (F0 m 527 ls []) := by
  subst hL6
  obtain ⟨hx, hb, hr, hml, hown, hts1, hX, hbl, hlocks, hgv⟩ := id C0
  have hts : ∀ w ∈ tb, w.before #[Value.ref b] s = true := fun w h => hts1 w (tb_lw w h)
  have hown : s.vm.findClass RL = some m.cls := hown
  have hA : ∀ q : Nat, s.heap.size ≤ q → A q := fun q h => by rw [hAd]; exact h
  have hbA : ¬ A b := by rw [hAd]; exact Nat.not_le.mpr hbl
  obtain ⟨fx, ht, ft, htd, cB, hw, fw, hc, fc, hr, fr, hm, fm, hma, cJ, hs, fq, hsa, cI, fy, hyt, cB2, hst, hya, cJ2, hyd, cI2, L_fx, g_fx_0, g_fx_1, g_fx_4, g_fx_7, g_fx_9, g_fx_10, g_fx_11, g_fx_12, g_fx_13, g_fx_14, g_fx_15, g_fx_16, L_ft, g_ft_0, g_ft_1, L_fw, g_fw_1, L_fc, g_fc_0, L_fr, L_fm, g_fm_0, g_fm_5, g_fm_6, g_fm_7, g_fm_16, g_fm_17, g_fm_18, g_fm_19, L_fq, g_fq_1, L_fy, g_fy_1, g_fy_3, g_fy_4, g_fy_5, g_fy_6, g_fy_9, g_fy_10, g_fy_64, g_fy_65, g_fy_78, g_fy_80, g_fy_85, g_fy_87, g_fy_88, g_fy_96, g_fy_100, g_fy_101, g_fy_102, g_fy_124, hP, hK, hD⟩ := hF
  refine lv_aload_n hx hb dL_law_527 rfl (lv_at hl 1 rfl) ?_
  refine lv_aload_n hx hb dL_law_528 rfl (lv_at hl 0 rfl) ?_
  refine lv_iload_n hx hb dL_law_529 rfl (lv_at hl 3 rfl) ?_
  refine lv_iconst (v := 1) hx hb dL_law_530 (by decide) ?_
  refine lv_iadd hx hb dL_law_531 ?_
  refine lv_topi (fun z_1 ez_1 => ?_)
  obtain rfl : z_1 = 1 := ez_1.trans (by decide)
  refine va_sld hx hb hX hbl hbA hS (vi rfl) dL_law_532 ?_
  have hPc := hP.sub (ws' := [(x0, .inr (10, fx)), (hw, .inr (0, fw))]) [0, 3] rfl
  have hDc := hD.sub (ws' := [(x0, .inr (10, fx)), (hw, .inr (0, fw))]) [0, 3] (by decide) rfl
  have hKc := hK.sub (tys' := []) [] rfl
  have hFc := va_free (wc := [(x0, .inr (10, fx)), (hw, .inr (0, fw))]) hD hS hA [0, 3] rfl
  refine va_calli (va_runV (As := [.int (xs (1 : Int32).toNatClampNeg)]) (rest := []) ⟨hx, hb, hml, hown, hts⟩ (m_X12_byteAt l dC dI H.size x0 fx hw fw ((xs (1 : Int32).toNatClampNeg)) L_fx g_fx_1 L_fw g_fw_1) (cwV 1 hts (gd_V kw_525 kw_526 kw_527 kw_169 kw_528) rfl rfl rfl (by decide +kernel) ⟨Nat.le_of_ble_eq_true rfl, Nat.le_of_ble_eq_true rfl⟩) ⟨st_blind, va_recv hKc hPc (ci := 10) (q0 := 0) rfl rfl, fun U hU hW9 => st_mk hU hW9 hPc hKc hDc hex⟩ rfl rfl hl.1 rfl (lv_room (Nat.le_of_ble_eq_true rfl)) dL_law_533 ⟨Nat.le_of_ble_eq_true rfl, Nat.le_of_ble_eq_true rfl⟩) hS (fun q _ h => hFc q h) hFc (fun r_2 u9 t9 H1 locs ht9 hvm9 hw9 hB9 hz9 hk9 hS => ?_)
  have hP1 : va_P (dC, dI) cl0 [] H1 := fun k q h => by simp at h
  have hD1 : va_D (va_A [(x0, .inr (10, fx)), (hw, .inr (0, fw))] H.size) [] := ⟨fun i j p q h => by simp at h, fun k q h => by simp at h⟩
  obtain ⟨hP, hD⟩ := va_join (wr := [(ht, .inr (0, ft)), (htd, .inl (cB, 64, .inl (fun _ => 0))), (hc, .inr (2, fc)), (hr, .inr (6, fr)), (hm, .inr (5, fm)), (hma, .inl (cJ, 8, .inr (.inl (fun _ => 0)))), (hs, .inr (8, fq)), (hsa, .inl (cI, 12, .inl (fun _ => 0))), (y0, .inr (12, fy)), (hyt, .inl (cB2, 16000, .inl (fun _ => 0))), (hst, .inr (13, [])), (hya, .inl (cJ2, 8, .inr (.inl (fun _ => 0)))), (hyd, .inl (cI2, 12, .inl (fun _ => 0)))]) (w1 := []) hP hD [0, 3] [1, 2, 4, 5, 6, 7, 8, 9, 10, 11, 12, 13, 14] rfl rfl (by decide) (by decide) hk9 hFc hP1 hD1
  generalize H1 = H at hP hS ⊢
  have hP : va_P (dC, dI) cl0 [(ht, .inr (0, ft)), (htd, .inl (cB, 64, .inl (fun _ => 0))), (hc, .inr (2, fc)), (hr, .inr (6, fr)), (hm, .inr (5, fm)), (hma, .inl (cJ, 8, .inr (.inl (fun _ => 0)))), (hs, .inr (8, fq)), (hsa, .inl (cI, 12, .inl (fun _ => 0))), (y0, .inr (12, fy)), (hyt, .inl (cB2, 16000, .inl (fun _ => 0))), (hst, .inr (13, [])), (hya, .inl (cJ2, 8, .inr (.inl (fun _ => 0)))), (hyd, .inl (cI2, 12, .inl (fun _ => 0)))] H := hP
  have hD : va_D A [(ht, .inr (0, ft)), (htd, .inl (cB, 64, .inl (fun _ => 0))), (hc, .inr (2, fc)), (hr, .inr (6, fr)), (hm, .inr (5, fm)), (hma, .inl (cJ, 8, .inr (.inl (fun _ => 0)))), (hs, .inr (8, fq)), (hsa, .inl (cI, 12, .inl (fun _ => 0))), (y0, .inr (12, fy)), (hyt, .inl (cB2, 16000, .inl (fun _ => 0))), (hst, .inr (13, [])), (hya, .inl (cJ2, 8, .inr (.inl (fun _ => 0)))), (hyd, .inl (cI2, 12, .inl (fun _ => 0)))] := hD
  have hw9 : r_2 = (-1) := hw9
  subst hw9
  refine lv_aload_n hx hb dL_law_536 rfl (lv_at hl 2 rfl) ?_
  refine lv_aload_n hx hb dL_law_537 rfl (lv_at hl 0 rfl) ?_
  refine lv_iload_n hx hb dL_law_538 rfl (lv_at hl 3 rfl) ?_
  refine lv_iconst (v := 1) hx hb dL_law_539 (by decide) ?_
  refine lv_iadd hx hb dL_law_540 ?_
  refine lv_topi (fun z_3 ez_3 => ?_)
  obtain rfl : z_3 = 1 := ez_3.trans (by decide)
  refine va_sld hx hb hX hbl hbA hS (vi rfl) dL_law_541 ?_
  have hPc := hP.sub (ws' := [(y0, .inr (12, fy))]) [8] rfl
  have hDc := hD.sub (ws' := [(y0, .inr (12, fy))]) [8] (by decide) rfl
  have hKc := hK.sub (tys' := []) [] rfl
  have hFc := va_free (wc := [(y0, .inr (12, fy))]) hD hS hA [8] rfl
  refine va_calli (va_runV (As := [.int (xs (1 : Int32).toNatClampNeg)]) (rest := [.int (-1)]) ⟨hx, hb, hml, hown, hts⟩ (m_X14_byteAt l dC dI H.size y0 fy ((xs (1 : Int32).toNatClampNeg)) L_fy g_fy_78) (cwV 1 hts (gd_V kw_529 kw_530 kw_531 kw_374 kw_532) rfl rfl rfl (by decide +kernel) ⟨Nat.le_of_ble_eq_true rfl, Nat.le_of_ble_eq_true rfl⟩) ⟨st_blind, va_recv hKc hPc (ci := 12) (q0 := 0) rfl rfl, fun U hU hW9 => st_mk hU hW9 hPc hKc hDc hex⟩ rfl rfl hl.1 rfl (lv_room (Nat.le_of_ble_eq_true rfl)) dL_law_542 ⟨Nat.le_of_ble_eq_true rfl, Nat.le_of_ble_eq_true rfl⟩) hS (fun q _ h => hFc q h) hFc (fun r_4 u9 t9 H1 locs ht9 hvm9 hw9 hB9 hz9 hk9 hS => ?_)
  have hP1 : va_P (dC, dI) cl0 [] H1 := fun k q h => by simp at h
  have hD1 : va_D (va_A [(y0, .inr (12, fy))] H.size) [] := ⟨fun i j p q h => by simp at h, fun k q h => by simp at h⟩
  obtain ⟨hP, hD⟩ := va_join (wr := [(ht, .inr (0, ft)), (htd, .inl (cB, 64, .inl (fun _ => 0))), (hc, .inr (2, fc)), (hr, .inr (6, fr)), (hm, .inr (5, fm)), (hma, .inl (cJ, 8, .inr (.inl (fun _ => 0)))), (hs, .inr (8, fq)), (hsa, .inl (cI, 12, .inl (fun _ => 0))), (hyt, .inl (cB2, 16000, .inl (fun _ => 0))), (hst, .inr (13, [])), (hya, .inl (cJ2, 8, .inr (.inl (fun _ => 0)))), (hyd, .inl (cI2, 12, .inl (fun _ => 0)))]) (w1 := []) hP hD [8] [0, 1, 2, 3, 4, 5, 6, 7, 9, 10, 11, 12] rfl rfl (by decide) (by decide) hk9 hFc hP1 hD1
  generalize H1 = H at hP hS ⊢
  have hP : va_P (dC, dI) cl0 [(ht, .inr (0, ft)), (htd, .inl (cB, 64, .inl (fun _ => 0))), (hc, .inr (2, fc)), (hr, .inr (6, fr)), (hm, .inr (5, fm)), (hma, .inl (cJ, 8, .inr (.inl (fun _ => 0)))), (hs, .inr (8, fq)), (hsa, .inl (cI, 12, .inl (fun _ => 0))), (hyt, .inl (cB2, 16000, .inl (fun _ => 0))), (hst, .inr (13, [])), (hya, .inl (cJ2, 8, .inr (.inl (fun _ => 0)))), (hyd, .inl (cI2, 12, .inl (fun _ => 0)))] H := hP
  have hD : va_D A [(ht, .inr (0, ft)), (htd, .inl (cB, 64, .inl (fun _ => 0))), (hc, .inr (2, fc)), (hr, .inr (6, fr)), (hm, .inr (5, fm)), (hma, .inl (cJ, 8, .inr (.inl (fun _ => 0)))), (hs, .inr (8, fq)), (hsa, .inl (cI, 12, .inl (fun _ => 0))), (hyt, .inl (cB2, 16000, .inl (fun _ => 0))), (hst, .inr (13, [])), (hya, .inl (cJ2, 8, .inr (.inl (fun _ => 0)))), (hyd, .inl (cI2, 12, .inl (fun _ => 0)))] := hD
  have hw9 : r_4 = (-1) := hw9
  subst hw9
  refine lv_icmp_eq (tgt := 1010) hx hb dL_law_545 (by decide) (fun _ => ?_) (fun c9 => absurd (by decide) c9)
  refine W.widen (k := 173) (n := 857181) (Nat.le_refl _) (Nat.le_refl _) ?_
  exact law_end hAd C0 hS hl
set_option maxHeartbeats 4000000 in
set_option maxRecDepth 100000 in
theorem law_c14 {p : Program} {l : Launch} {e : Env} {s : State} {m : MethodId} {below : List Frame} {meth : Method} {c : Code} {dC : Nat → ClassId} {dI : Nat → Nat → Nat} {b L : Nat} {xs : Nat → Int32} {A : Nat → Prop} (hAd : A = fun q : Nat => s.heap.size ≤ q) (hL6 : L = 6) (C0 : lw_At p s m meth c b L xs) (hex : ex s) (hE : mg A s s.heap) {x0 y0 : Nat} {H : Heap} {locs : List Loc} (hF : law_fr dC dI A x0 y0 s H) (hS : va_S A s.heap H locs) {ls : Array Slot} (hl : lv_has ls 4 [(0, .ref b), (1, .ref x0), (2, .ref y0), (3, .int 0)]) : W p l e room_1 s m #[Value.ref b] below meth c H locs 173 857181 (lw_Z below #[Value.ref b] s) (F0 m 550 ls []) := by
  subst hL6
  obtain ⟨hx, hb, hr, hml, hown, hts1, hX, hbl, hlocks, hgv⟩ := id C0
  have hts : ∀ w ∈ tb, w.before #[Value.ref b] s = true := fun w h => hts1 w (tb_lw w h)
  have hown : s.vm.findClass RL = some m.cls := hown
  have hA : ∀ q : Nat, s.heap.size ≤ q → A q := fun q h => by rw [hAd]; exact h
  have hbA : ¬ A b := by rw [hAd]; exact Nat.not_le.mpr hbl
  obtain ⟨fx, ht, ft, htd, cB, hw, fw, hc, fc, hr, fr, hm, fm, hma, cJ, hs, fq, hsa, cI, fy, hyt, cB2, hst, hya, cJ2, hyd, cI2, L_fx, g_fx_0, g_fx_1, g_fx_4, g_fx_7, g_fx_9, g_fx_10, g_fx_11, g_fx_12, g_fx_13, g_fx_14, g_fx_15, g_fx_16, L_ft, g_ft_0, g_ft_1, L_fw, g_fw_1, L_fc, g_fc_0, L_fr, L_fm, g_fm_0, g_fm_5, g_fm_6, g_fm_7, g_fm_16, g_fm_17, g_fm_18, g_fm_19, L_fq, g_fq_1, L_fy, g_fy_1, g_fy_3, g_fy_4, g_fy_5, g_fy_6, g_fy_9, g_fy_10, g_fy_64, g_fy_65, g_fy_78, g_fy_80, g_fy_85, g_fy_87, g_fy_88, g_fy_96, g_fy_100, g_fy_101, g_fy_102, g_fy_124, hP, hK, hD⟩ := hF
  refine lv_aload_n hx hb dL_law_550 rfl (lv_at hl 1 rfl) ?_
  refine lv_aload_n hx hb dL_law_551 rfl (lv_at hl 0 rfl) ?_
  refine lv_iload_n hx hb dL_law_552 rfl (lv_at hl 3 rfl) ?_
  refine lv_iconst (v := 1) hx hb dL_law_553 (by decide) ?_
  refine lv_iadd hx hb dL_law_554 ?_
  refine lv_topi (fun z_1 ez_1 => ?_)
  obtain rfl : z_1 = 1 := ez_1.trans (by decide)
  refine va_sld hx hb hX hbl hbA hS (vi rfl) dL_law_555 ?_
  have hPc := hP.sub (ws' := [(x0, .inr (10, fx))]) [0] rfl
  have hDc := hD.sub (ws' := [(x0, .inr (10, fx))]) [0] (by decide) rfl
  have hKc := hK.sub (tys' := []) [] rfl
  have hFc := va_free (wc := [(x0, .inr (10, fx))]) hD hS hA [0] rfl
  refine va_calli (va_runV (As := [.int (xs (1 : Int32).toNatClampNeg)]) (rest := []) ⟨hx, hb, hml, hown, hts⟩ (m_X12_stage l dC dI H.size x0 fx ((xs (1 : Int32).toNatClampNeg)) L_fx g_fx_11) (cwV 1 hts (gd_V kw_533 kw_534 kw_535 kw_169 kw_536) rfl rfl rfl (by decide +kernel) ⟨Nat.le_of_ble_eq_true rfl, Nat.le_of_ble_eq_true rfl⟩) ⟨st_blind, va_recv hKc hPc (ci := 10) (q0 := 0) rfl rfl, fun U hU hW9 => st_mk hU hW9 hPc hKc hDc hex⟩ rfl rfl hl.1 rfl (lv_room (Nat.le_of_ble_eq_true rfl)) dL_law_556 ⟨Nat.le_of_ble_eq_true rfl, Nat.le_of_ble_eq_true rfl⟩) hS (fun q _ h => hFc q h) hFc (fun r_2 u9 t9 H1 locs ht9 hvm9 hw9 hB9 hz9 hk9 hS => ?_)
  have hP1 : va_P (dC, dI) cl0 [] H1 := fun k q h => by simp at h
  have hD1 : va_D (va_A [(x0, .inr (10, fx))] H.size) [] := ⟨fun i j p q h => by simp at h, fun k q h => by simp at h⟩
  obtain ⟨hP, hD⟩ := va_join (wr := [(ht, .inr (0, ft)), (htd, .inl (cB, 64, .inl (fun _ => 0))), (hw, .inr (0, fw)), (hc, .inr (2, fc)), (hr, .inr (6, fr)), (hm, .inr (5, fm)), (hma, .inl (cJ, 8, .inr (.inl (fun _ => 0)))), (hs, .inr (8, fq)), (hsa, .inl (cI, 12, .inl (fun _ => 0))), (y0, .inr (12, fy)), (hyt, .inl (cB2, 16000, .inl (fun _ => 0))), (hst, .inr (13, [])), (hya, .inl (cJ2, 8, .inr (.inl (fun _ => 0)))), (hyd, .inl (cI2, 12, .inl (fun _ => 0)))]) (w1 := []) hP hD [0] [1, 2, 3, 4, 5, 6, 7, 8, 9, 10, 11, 12, 13, 14] rfl rfl (by decide) (by decide) hk9 hFc hP1 hD1
  generalize H1 = H at hP hS ⊢
  have hP : va_P (dC, dI) cl0 [(ht, .inr (0, ft)), (htd, .inl (cB, 64, .inl (fun _ => 0))), (hw, .inr (0, fw)), (hc, .inr (2, fc)), (hr, .inr (6, fr)), (hm, .inr (5, fm)), (hma, .inl (cJ, 8, .inr (.inl (fun _ => 0)))), (hs, .inr (8, fq)), (hsa, .inl (cI, 12, .inl (fun _ => 0))), (y0, .inr (12, fy)), (hyt, .inl (cB2, 16000, .inl (fun _ => 0))), (hst, .inr (13, [])), (hya, .inl (cJ2, 8, .inr (.inl (fun _ => 0)))), (hyd, .inl (cI2, 12, .inl (fun _ => 0)))] H := hP
  have hD : va_D A [(ht, .inr (0, ft)), (htd, .inl (cB, 64, .inl (fun _ => 0))), (hw, .inr (0, fw)), (hc, .inr (2, fc)), (hr, .inr (6, fr)), (hm, .inr (5, fm)), (hma, .inl (cJ, 8, .inr (.inl (fun _ => 0)))), (hs, .inr (8, fq)), (hsa, .inl (cI, 12, .inl (fun _ => 0))), (y0, .inr (12, fy)), (hyt, .inl (cB2, 16000, .inl (fun _ => 0))), (hst, .inr (13, [])), (hya, .inl (cJ2, 8, .inr (.inl (fun _ => 0)))), (hyd, .inl (cI2, 12, .inl (fun _ => 0)))] := hD
  have hw9 : r_2 = 0 := hw9
  subst hw9
  refine lv_aload_n hx hb dL_law_559 rfl (lv_at hl 2 rfl) ?_
  refine lv_aload_n hx hb dL_law_560 rfl (lv_at hl 0 rfl) ?_
  refine lv_iload_n hx hb dL_law_561 rfl (lv_at hl 3 rfl) ?_
  refine lv_iconst (v := 1) hx hb dL_law_562 (by decide) ?_
  refine lv_iadd hx hb dL_law_563 ?_
  refine lv_topi (fun z_3 ez_3 => ?_)
  obtain rfl : z_3 = 1 := ez_3.trans (by decide)
  refine va_sld hx hb hX hbl hbA hS (vi rfl) dL_law_564 ?_
  have hPc := hP.sub (ws' := [(y0, .inr (12, fy))]) [9] rfl
  have hDc := hD.sub (ws' := [(y0, .inr (12, fy))]) [9] (by decide) rfl
  have hKc := hK.sub (tys' := []) [] rfl
  have hFc := va_free (wc := [(y0, .inr (12, fy))]) hD hS hA [9] rfl
  refine va_calli (va_runV (As := [.int (xs (1 : Int32).toNatClampNeg)]) (rest := [.int 0]) ⟨hx, hb, hml, hown, hts⟩ (m_X14_stage l dC dI H.size y0 fy ((xs (1 : Int32).toNatClampNeg)) L_fy g_fy_1) (cwV 1 hts (gd_V kw_537 kw_538 kw_539 kw_374 kw_540) rfl rfl rfl (by decide +kernel) ⟨Nat.le_of_ble_eq_true rfl, Nat.le_of_ble_eq_true rfl⟩) ⟨st_blind, va_recv hKc hPc (ci := 12) (q0 := 0) rfl rfl, fun U hU hW9 => st_mk hU hW9 hPc hKc hDc hex⟩ rfl rfl hl.1 rfl (lv_room (Nat.le_of_ble_eq_true rfl)) dL_law_565 ⟨Nat.le_of_ble_eq_true rfl, Nat.le_of_ble_eq_true rfl⟩) hS (fun q _ h => hFc q h) hFc (fun r_4 u9 t9 H1 locs ht9 hvm9 hw9 hB9 hz9 hk9 hS => ?_)
  have hP1 : va_P (dC, dI) cl0 [] H1 := fun k q h => by simp at h
  have hD1 : va_D (va_A [(y0, .inr (12, fy))] H.size) [] := ⟨fun i j p q h => by simp at h, fun k q h => by simp at h⟩
  obtain ⟨hP, hD⟩ := va_join (wr := [(ht, .inr (0, ft)), (htd, .inl (cB, 64, .inl (fun _ => 0))), (hw, .inr (0, fw)), (hc, .inr (2, fc)), (hr, .inr (6, fr)), (hm, .inr (5, fm)), (hma, .inl (cJ, 8, .inr (.inl (fun _ => 0)))), (hs, .inr (8, fq)), (hsa, .inl (cI, 12, .inl (fun _ => 0))), (hyt, .inl (cB2, 16000, .inl (fun _ => 0))), (hst, .inr (13, [])), (hya, .inl (cJ2, 8, .inr (.inl (fun _ => 0)))), (hyd, .inl (cI2, 12, .inl (fun _ => 0)))]) (w1 := []) hP hD [9] [0, 1, 2, 3, 4, 5, 6, 7, 8, 10, 11, 12, 13] rfl rfl (by decide) (by decide) hk9 hFc hP1 hD1
  generalize H1 = H at hP hS ⊢
  have hP : va_P (dC, dI) cl0 [(ht, .inr (0, ft)), (htd, .inl (cB, 64, .inl (fun _ => 0))), (hw, .inr (0, fw)), (hc, .inr (2, fc)), (hr, .inr (6, fr)), (hm, .inr (5, fm)), (hma, .inl (cJ, 8, .inr (.inl (fun _ => 0)))), (hs, .inr (8, fq)), (hsa, .inl (cI, 12, .inl (fun _ => 0))), (hyt, .inl (cB2, 16000, .inl (fun _ => 0))), (hst, .inr (13, [])), (hya, .inl (cJ2, 8, .inr (.inl (fun _ => 0)))), (hyd, .inl (cI2, 12, .inl (fun _ => 0)))] H := hP
  have hD : va_D A [(ht, .inr (0, ft)), (htd, .inl (cB, 64, .inl (fun _ => 0))), (hw, .inr (0, fw)), (hc, .inr (2, fc)), (hr, .inr (6, fr)), (hm, .inr (5, fm)), (hma, .inl (cJ, 8, .inr (.inl (fun _ => 0)))), (hs, .inr (8, fq)), (hsa, .inl (cI, 12, .inl (fun _ => 0))), (hyt, .inl (cB2, 16000, .inl (fun _ => 0))), (hst, .inr (13, [])), (hya, .inl (cJ2, 8, .inr (.inl (fun _ => 0)))), (hyd, .inl (cI2, 12, .inl (fun _ => 0)))] := hD
  have hw9 : r_4 = 0 := hw9
  subst hw9
  refine lv_icmp_eq (tgt := 1010) hx hb dL_law_568 (by decide) (fun _ => ?_) (fun c9 => absurd (by decide) c9)
  refine W.widen (k := 173) (n := 857181) (Nat.le_refl _) (Nat.le_refl _) ?_
  exact law_end hAd C0 hS hl
set_option maxHeartbeats 4000000 in
set_option maxRecDepth 100000 in
theorem law_c15 {p : Program} {l : Launch} {e : Env} {s : State} {m : MethodId} {below : List Frame} {meth : Method} {c : Code} {dC : Nat → ClassId} {dI : Nat → Nat → Nat} {b L : Nat} {xs : Nat → Int32} {A : Nat → Prop} (hAd : A = fun q : Nat => s.heap.size ≤ q) (hL6 : L = 6) (C0 : lw_At p s m meth c b L xs) (hex : ex s) (hE : mg A s s.heap) {x0 y0 : Nat} {H : Heap} {locs : List Loc} (hF : law_fr dC dI A x0 y0 s H) (hS : va_S A s.heap H locs) {ls : Array Slot} (hl : lv_has ls 4 [(0, .ref b), (1, .ref x0), (2, .ref y0), (3, .int 0)]) : W p l e room_1 s m #[Value.ref b] below meth c H locs 173 857181 (lw_Z below #[Value.ref b] s) (F0 m 573 ls []) := by
  subst hL6
  obtain ⟨hx, hb, hr, hml, hown, hts1, hX, hbl, hlocks, hgv⟩ := id C0
  have hts : ∀ w ∈ tb, w.before #[Value.ref b] s = true := fun w h => hts1 w (tb_lw w h)
  have hown : s.vm.findClass RL = some m.cls := hown
  have hA : ∀ q : Nat, s.heap.size ≤ q → A q := fun q h => by rw [hAd]; exact h
  have hbA : ¬ A b := by rw [hAd]; exact Nat.not_le.mpr hbl
  obtain ⟨fx, ht, ft, htd, cB, hw, fw, hc, fc, hr, fr, hm, fm, hma, cJ, hs, fq, hsa, cI, fy, hyt, cB2, hst, hya, cJ2, hyd, cI2, L_fx, g_fx_0, g_fx_1, g_fx_4, g_fx_7, g_fx_9, g_fx_10, g_fx_11, g_fx_12, g_fx_13, g_fx_14, g_fx_15, g_fx_16, L_ft, g_ft_0, g_ft_1, L_fw, g_fw_1, L_fc, g_fc_0, L_fr, L_fm, g_fm_0, g_fm_5, g_fm_6, g_fm_7, g_fm_16, g_fm_17, g_fm_18, g_fm_19, L_fq, g_fq_1, L_fy, g_fy_1, g_fy_3, g_fy_4, g_fy_5, g_fy_6, g_fy_9, g_fy_10, g_fy_64, g_fy_65, g_fy_78, g_fy_80, g_fy_85, g_fy_87, g_fy_88, g_fy_96, g_fy_100, g_fy_101, g_fy_102, g_fy_124, hP, hK, hD⟩ := hF
  refine lv_aload_n hx hb dL_law_573 rfl (lv_at hl 1 rfl) ?_
  refine lv_aload_n hx hb dL_law_574 rfl (lv_at hl 0 rfl) ?_
  refine lv_iload_n hx hb dL_law_575 rfl (lv_at hl 3 rfl) ?_
  refine lv_iconst (v := 1) hx hb dL_law_576 (by decide) ?_
  refine lv_iadd hx hb dL_law_577 ?_
  refine lv_topi (fun z_1 ez_1 => ?_)
  obtain rfl : z_1 = 1 := ez_1.trans (by decide)
  refine va_sld hx hb hX hbl hbA hS (vi rfl) dL_law_578 ?_
  refine lv_i2l (v := ((xs (1 : Int32).toNatClampNeg)).toInt64) hx hb dL_law_579 rfl ?_
  refine lv_bipush (v := 32) hx hb dL_law_580 (by decide) ?_
  refine lv_lshl hx hb dL_law_582 rfl ?_
  refine lv_topl (fun z_2 ez_2 => ?_)
  refine lv_aload_n hx hb dL_law_583 rfl (lv_at hl 0 rfl) ?_
  refine lv_iload_n hx hb dL_law_584 rfl (lv_at hl 3 rfl) ?_
  refine lv_iconst (v := 2) hx hb dL_law_585 (by decide) ?_
  refine lv_iadd hx hb dL_law_586 ?_
  refine lv_topi (fun z_3 ez_3 => ?_)
  obtain rfl : z_3 = 2 := ez_3.trans (by decide)
  refine va_sld hx hb hX hbl hbA hS (vi rfl) dL_law_587 ?_
  refine lv_i2l (v := ((xs (2 : Int32).toNatClampNeg)).toInt64) hx hb dL_law_588 rfl ?_
  refine lv_ldc2 hx hb hown (hts _ kw_541) dL_law_589 ?_
  refine lv_land hx hb dL_law_592 ?_
  refine lv_topl (fun z_4 ez_4 => ?_)
  refine lv_lor hx hb dL_law_593 ?_
  refine lv_topl (fun z_5 ez_5 => ?_)
  have hPc := hP.sub (ws' := [(x0, .inr (10, fx)), (hm, .inr (5, fm)), (hma, .inl (cJ, 8, .inr (.inl (fun _ => 0))))]) [0, 6, 7] rfl
  have hDc := hD.sub (ws' := [(x0, .inr (10, fx)), (hm, .inr (5, fm)), (hma, .inl (cJ, 8, .inr (.inl (fun _ => 0))))]) [0, 6, 7] (by decide) rfl
  have hKc := hK.sub (tys' := [(cJ, .long)]) [1] rfl
  have hFc := va_free (wc := [(x0, .inr (10, fx)), (hm, .inr (5, fm)), (hma, .inl (cJ, 8, .inr (.inl (fun _ => 0))))]) hD hS hA [0, 6, 7] rfl
  refine va_calli (va_runV (As := [.long z_5]) (rest := []) ⟨hx, hb, hml, hown, hts⟩ (m_X12_argument l dC dI H.size x0 fx hm fm hma cJ z_5 L_fx g_fx_7 L_fm g_fm_6 g_fm_7) (cwV 1 hts (gd_V kw_542 kw_543 kw_544 kw_169 kw_545) rfl rfl rfl (by decide +kernel) ⟨Nat.le_of_ble_eq_true rfl, Nat.le_of_ble_eq_true rfl⟩) ⟨st_blind, va_recv hKc hPc (ci := 10) (q0 := 0) rfl rfl, fun U hU hW9 => st_mk hU hW9 hPc hKc hDc hex⟩ rfl rfl hl.1 rfl (lv_room (Nat.le_of_ble_eq_true rfl)) dL_law_594 ⟨Nat.le_of_ble_eq_true rfl, Nat.le_of_ble_eq_true rfl⟩) hS (fun q _ h => hFc q h) hFc (fun r_6 u9 t9 H1 locs ht9 hvm9 hw9 hB9 hz9 hk9 hS => ?_)
  have hP1 : va_P (dC, dI) cl0 [] H1 := fun k q h => by simp at h
  have hD1 : va_D (va_A [(x0, .inr (10, fx)), (hm, .inr (5, fm)), (hma, .inl (cJ, 8, .inr (.inl (fun _ => 0))))] H.size) [] := ⟨fun i j p q h => by simp at h, fun k q h => by simp at h⟩
  obtain ⟨hP, hD⟩ := va_join (wr := [(ht, .inr (0, ft)), (htd, .inl (cB, 64, .inl (fun _ => 0))), (hw, .inr (0, fw)), (hc, .inr (2, fc)), (hr, .inr (6, fr)), (hs, .inr (8, fq)), (hsa, .inl (cI, 12, .inl (fun _ => 0))), (y0, .inr (12, fy)), (hyt, .inl (cB2, 16000, .inl (fun _ => 0))), (hst, .inr (13, [])), (hya, .inl (cJ2, 8, .inr (.inl (fun _ => 0)))), (hyd, .inl (cI2, 12, .inl (fun _ => 0)))]) (w1 := []) hP hD [0, 6, 7] [1, 2, 3, 4, 5, 8, 9, 10, 11, 12, 13, 14] rfl rfl (by decide) (by decide) hk9 hFc hP1 hD1
  generalize H1 = H at hP hS ⊢
  have hP : va_P (dC, dI) cl0 [(ht, .inr (0, ft)), (htd, .inl (cB, 64, .inl (fun _ => 0))), (hw, .inr (0, fw)), (hc, .inr (2, fc)), (hr, .inr (6, fr)), (hs, .inr (8, fq)), (hsa, .inl (cI, 12, .inl (fun _ => 0))), (y0, .inr (12, fy)), (hyt, .inl (cB2, 16000, .inl (fun _ => 0))), (hst, .inr (13, [])), (hya, .inl (cJ2, 8, .inr (.inl (fun _ => 0)))), (hyd, .inl (cI2, 12, .inl (fun _ => 0)))] H := hP
  have hD : va_D A [(ht, .inr (0, ft)), (htd, .inl (cB, 64, .inl (fun _ => 0))), (hw, .inr (0, fw)), (hc, .inr (2, fc)), (hr, .inr (6, fr)), (hs, .inr (8, fq)), (hsa, .inl (cI, 12, .inl (fun _ => 0))), (y0, .inr (12, fy)), (hyt, .inl (cB2, 16000, .inl (fun _ => 0))), (hst, .inr (13, [])), (hya, .inl (cJ2, 8, .inr (.inl (fun _ => 0)))), (hyd, .inl (cI2, 12, .inl (fun _ => 0)))] := hD
  have hw9 : r_6 = 1 := hw9
  subst hw9
  refine lv_aload_n hx hb dL_law_597 rfl (lv_at hl 2 rfl) ?_
  refine lv_aload_n hx hb dL_law_598 rfl (lv_at hl 0 rfl) ?_
  refine lv_iload_n hx hb dL_law_599 rfl (lv_at hl 3 rfl) ?_
  refine lv_iconst (v := 1) hx hb dL_law_600 (by decide) ?_
  refine lv_iadd hx hb dL_law_601 ?_
  refine lv_topi (fun z_7 ez_7 => ?_)
  obtain rfl : z_7 = 1 := ez_7.trans (by decide)
  refine va_sld hx hb hX hbl hbA hS (vi rfl) dL_law_602 ?_
  refine lv_i2l (v := ((xs (1 : Int32).toNatClampNeg)).toInt64) hx hb dL_law_603 rfl ?_
  refine lv_bipush (v := 32) hx hb dL_law_604 (by decide) ?_
  refine lv_lshl hx hb dL_law_606 rfl ?_
  refine lv_topl (fun z_8 ez_8 => ?_)
  refine lv_aload_n hx hb dL_law_607 rfl (lv_at hl 0 rfl) ?_
  refine lv_iload_n hx hb dL_law_608 rfl (lv_at hl 3 rfl) ?_
  refine lv_iconst (v := 2) hx hb dL_law_609 (by decide) ?_
  refine lv_iadd hx hb dL_law_610 ?_
  refine lv_topi (fun z_9 ez_9 => ?_)
  obtain rfl : z_9 = 2 := ez_9.trans (by decide)
  refine va_sld hx hb hX hbl hbA hS (vi rfl) dL_law_611 ?_
  refine lv_i2l (v := ((xs (2 : Int32).toNatClampNeg)).toInt64) hx hb dL_law_612 rfl ?_
  refine lv_ldc2 hx hb hown (hts _ kw_541) dL_law_613 ?_
  refine lv_land hx hb dL_law_616 ?_
  refine lv_topl (fun z_10 ez_10 => ?_)
  refine lv_lor hx hb dL_law_617 ?_
  refine lv_topl (fun z_11 ez_11 => ?_)
  have hPc := hP.sub (ws' := [(y0, .inr (12, fy)), (hya, .inl (cJ2, 8, .inr (.inl (fun _ => 0))))]) [7, 10] rfl
  have hDc := hD.sub (ws' := [(y0, .inr (12, fy)), (hya, .inl (cJ2, 8, .inr (.inl (fun _ => 0))))]) [7, 10] (by decide) rfl
  have hKc := hK.sub (tys' := [(cJ2, .long)]) [4] rfl
  have hFc := va_free (wc := [(y0, .inr (12, fy)), (hya, .inl (cJ2, 8, .inr (.inl (fun _ => 0))))]) hD hS hA [7, 10] rfl
  refine va_calli (va_runV (As := [.long z_11]) (rest := [.int 1]) ⟨hx, hb, hml, hown, hts⟩ (m_X14_argument l dC dI H.size y0 fy hya cJ2 z_11 L_fy g_fy_87 g_fy_88) (cwV 1 hts (gd_V kw_546 kw_547 kw_548 kw_374 kw_549) rfl rfl rfl (by decide +kernel) ⟨Nat.le_of_ble_eq_true rfl, Nat.le_of_ble_eq_true rfl⟩) ⟨st_blind, va_recv hKc hPc (ci := 12) (q0 := 0) rfl rfl, fun U hU hW9 => st_mk hU hW9 hPc hKc hDc hex⟩ rfl rfl hl.1 rfl (lv_room (Nat.le_of_ble_eq_true rfl)) dL_law_618 ⟨Nat.le_of_ble_eq_true rfl, Nat.le_of_ble_eq_true rfl⟩) hS (fun q _ h => hFc q h) hFc (fun r_12 u9 t9 H1 locs ht9 hvm9 hw9 hB9 hz9 hk9 hS => ?_)
  have hP1 : va_P (dC, dI) cl0 [] H1 := fun k q h => by simp at h
  have hD1 : va_D (va_A [(y0, .inr (12, fy)), (hya, .inl (cJ2, 8, .inr (.inl (fun _ => 0))))] H.size) [] := ⟨fun i j p q h => by simp at h, fun k q h => by simp at h⟩
  obtain ⟨hP, hD⟩ := va_join (wr := [(ht, .inr (0, ft)), (htd, .inl (cB, 64, .inl (fun _ => 0))), (hw, .inr (0, fw)), (hc, .inr (2, fc)), (hr, .inr (6, fr)), (hs, .inr (8, fq)), (hsa, .inl (cI, 12, .inl (fun _ => 0))), (hyt, .inl (cB2, 16000, .inl (fun _ => 0))), (hst, .inr (13, [])), (hyd, .inl (cI2, 12, .inl (fun _ => 0)))]) (w1 := []) hP hD [7, 10] [0, 1, 2, 3, 4, 5, 6, 8, 9, 11] rfl rfl (by decide) (by decide) hk9 hFc hP1 hD1
  generalize H1 = H at hP hS ⊢
  have hP : va_P (dC, dI) cl0 [(ht, .inr (0, ft)), (htd, .inl (cB, 64, .inl (fun _ => 0))), (hw, .inr (0, fw)), (hc, .inr (2, fc)), (hr, .inr (6, fr)), (hs, .inr (8, fq)), (hsa, .inl (cI, 12, .inl (fun _ => 0))), (hyt, .inl (cB2, 16000, .inl (fun _ => 0))), (hst, .inr (13, [])), (hyd, .inl (cI2, 12, .inl (fun _ => 0)))] H := hP
  have hD : va_D A [(ht, .inr (0, ft)), (htd, .inl (cB, 64, .inl (fun _ => 0))), (hw, .inr (0, fw)), (hc, .inr (2, fc)), (hr, .inr (6, fr)), (hs, .inr (8, fq)), (hsa, .inl (cI, 12, .inl (fun _ => 0))), (hyt, .inl (cB2, 16000, .inl (fun _ => 0))), (hst, .inr (13, [])), (hyd, .inl (cI2, 12, .inl (fun _ => 0)))] := hD
  have hw9 : r_12 = 1 := hw9
  subst hw9
  refine lv_icmp_eq (tgt := 1010) hx hb dL_law_621 (by decide) (fun _ => ?_) (fun c9 => absurd (by decide) c9)
  refine W.widen (k := 173) (n := 857181) (Nat.le_refl _) (Nat.le_refl _) ?_
  exact law_end hAd C0 hS hl
set_option maxHeartbeats 4000000 in
set_option maxRecDepth 100000 in
theorem law_c16 {p : Program} {l : Launch} {e : Env} {s : State} {m : MethodId} {below : List Frame} {meth : Method} {c : Code} {dC : Nat → ClassId} {dI : Nat → Nat → Nat} {b L : Nat} {xs : Nat → Int32} {A : Nat → Prop} (hAd : A = fun q : Nat => s.heap.size ≤ q) (hL6 : L = 6) (C0 : lw_At p s m meth c b L xs) (hex : ex s) (hE : mg A s s.heap) {x0 y0 : Nat} {H : Heap} {locs : List Loc} (hF : law_fr dC dI A x0 y0 s H) (hS : va_S A s.heap H locs) {ls : Array Slot} (hl : lv_has ls 4 [(0, .ref b), (1, .ref x0), (2, .ref y0), (3, .int 0)]) : W p l e room_1 s m #[Value.ref b] below meth c H locs 173 857181 (lw_Z below #[Value.ref b] s) (F0 m 626 ls []) := by
  subst hL6
  obtain ⟨hx, hb, hr, hml, hown, hts1, hX, hbl, hlocks, hgv⟩ := id C0
  have hts : ∀ w ∈ tb, w.before #[Value.ref b] s = true := fun w h => hts1 w (tb_lw w h)
  have hown : s.vm.findClass RL = some m.cls := hown
  have hA : ∀ q : Nat, s.heap.size ≤ q → A q := fun q h => by rw [hAd]; exact h
  have hbA : ¬ A b := by rw [hAd]; exact Nat.not_le.mpr hbl
  obtain ⟨fx, ht, ft, htd, cB, hw, fw, hc, fc, hr, fr, hm, fm, hma, cJ, hs, fq, hsa, cI, fy, hyt, cB2, hst, hya, cJ2, hyd, cI2, L_fx, g_fx_0, g_fx_1, g_fx_4, g_fx_7, g_fx_9, g_fx_10, g_fx_11, g_fx_12, g_fx_13, g_fx_14, g_fx_15, g_fx_16, L_ft, g_ft_0, g_ft_1, L_fw, g_fw_1, L_fc, g_fc_0, L_fr, L_fm, g_fm_0, g_fm_5, g_fm_6, g_fm_7, g_fm_16, g_fm_17, g_fm_18, g_fm_19, L_fq, g_fq_1, L_fy, g_fy_1, g_fy_3, g_fy_4, g_fy_5, g_fy_6, g_fy_9, g_fy_10, g_fy_64, g_fy_65, g_fy_78, g_fy_80, g_fy_85, g_fy_87, g_fy_88, g_fy_96, g_fy_100, g_fy_101, g_fy_102, g_fy_124, hP, hK, hD⟩ := hF
  refine lv_aload_n hx hb dL_law_626 rfl (lv_at hl 1 rfl) ?_
  refine lv_aload_n hx hb dL_law_627 rfl (lv_at hl 0 rfl) ?_
  refine lv_iload_n hx hb dL_law_628 rfl (lv_at hl 3 rfl) ?_
  refine lv_iconst (v := 1) hx hb dL_law_629 (by decide) ?_
  refine lv_iadd hx hb dL_law_630 ?_
  refine lv_topi (fun z_1 ez_1 => ?_)
  obtain rfl : z_1 = 1 := ez_1.trans (by decide)
  refine va_sld hx hb hX hbl hbA hS (vi rfl) dL_law_631 ?_
  refine lv_aload_n hx hb dL_law_632 rfl (lv_at hl 0 rfl) ?_
  refine lv_iload_n hx hb dL_law_633 rfl (lv_at hl 3 rfl) ?_
  refine lv_iconst (v := 2) hx hb dL_law_634 (by decide) ?_
  refine lv_iadd hx hb dL_law_635 ?_
  refine lv_topi (fun z_2 ez_2 => ?_)
  obtain rfl : z_2 = 2 := ez_2.trans (by decide)
  refine va_sld hx hb hX hbl hbA hS (vi rfl) dL_law_636 ?_
  have hPc := hP.sub (ws' := [(x0, .inr (10, fx)), (hm, .inr (5, fm))]) [0, 6] rfl
  have hDc := hD.sub (ws' := [(x0, .inr (10, fx)), (hm, .inr (5, fm))]) [0, 6] (by decide) rfl
  have hKc := hK.sub (tys' := []) [] rfl
  have hFc := va_free (wc := [(x0, .inr (10, fx)), (hm, .inr (5, fm))]) hD hS hA [0, 6] rfl
  refine va_calli (va_runV (As := [.int (xs (1 : Int32).toNatClampNeg), .int (xs (2 : Int32).toNatClampNeg)]) (rest := []) ⟨hx, hb, hml, hown, hts⟩ (m_X12_run l dC dI H.size x0 fx hm fm ((xs (1 : Int32).toNatClampNeg)) ((xs (2 : Int32).toNatClampNeg)) L_fx g_fx_7 L_fm g_fm_0) (cwV 2 hts (gd_V kw_550 kw_551 kw_552 kw_169 kw_553) rfl rfl rfl (by decide +kernel) ⟨Nat.le_of_ble_eq_true rfl, Nat.le_of_ble_eq_true rfl⟩) ⟨st_blind, va_recv hKc hPc (ci := 10) (q0 := 0) rfl rfl, fun U hU hW9 => st_mk hU hW9 hPc hKc hDc hex⟩ rfl rfl hl.1 rfl (lv_room (Nat.le_of_ble_eq_true rfl)) dL_law_637 ⟨Nat.le_of_ble_eq_true rfl, Nat.le_of_ble_eq_true rfl⟩) hS (fun q _ h => hFc q h) hFc (fun r_3 u9 t9 H1 locs ht9 hvm9 hw9 hB9 hz9 hk9 hS => ?_)
  have hP1 : va_P (dC, dI) cl0 [] H1 := fun k q h => by simp at h
  have hD1 : va_D (va_A [(x0, .inr (10, fx)), (hm, .inr (5, fm))] H.size) [] := ⟨fun i j p q h => by simp at h, fun k q h => by simp at h⟩
  obtain ⟨hP, hD⟩ := va_join (wr := [(ht, .inr (0, ft)), (htd, .inl (cB, 64, .inl (fun _ => 0))), (hw, .inr (0, fw)), (hc, .inr (2, fc)), (hr, .inr (6, fr)), (hma, .inl (cJ, 8, .inr (.inl (fun _ => 0)))), (hs, .inr (8, fq)), (hsa, .inl (cI, 12, .inl (fun _ => 0))), (y0, .inr (12, fy)), (hyt, .inl (cB2, 16000, .inl (fun _ => 0))), (hst, .inr (13, [])), (hya, .inl (cJ2, 8, .inr (.inl (fun _ => 0)))), (hyd, .inl (cI2, 12, .inl (fun _ => 0)))]) (w1 := []) hP hD [0, 6] [1, 2, 3, 4, 5, 7, 8, 9, 10, 11, 12, 13, 14] rfl rfl (by decide) (by decide) hk9 hFc hP1 hD1
  generalize H1 = H at hP hS ⊢
  have hP : va_P (dC, dI) cl0 [(ht, .inr (0, ft)), (htd, .inl (cB, 64, .inl (fun _ => 0))), (hw, .inr (0, fw)), (hc, .inr (2, fc)), (hr, .inr (6, fr)), (hma, .inl (cJ, 8, .inr (.inl (fun _ => 0)))), (hs, .inr (8, fq)), (hsa, .inl (cI, 12, .inl (fun _ => 0))), (y0, .inr (12, fy)), (hyt, .inl (cB2, 16000, .inl (fun _ => 0))), (hst, .inr (13, [])), (hya, .inl (cJ2, 8, .inr (.inl (fun _ => 0)))), (hyd, .inl (cI2, 12, .inl (fun _ => 0)))] H := hP
  have hD : va_D A [(ht, .inr (0, ft)), (htd, .inl (cB, 64, .inl (fun _ => 0))), (hw, .inr (0, fw)), (hc, .inr (2, fc)), (hr, .inr (6, fr)), (hma, .inl (cJ, 8, .inr (.inl (fun _ => 0)))), (hs, .inr (8, fq)), (hsa, .inl (cI, 12, .inl (fun _ => 0))), (y0, .inr (12, fy)), (hyt, .inl (cB2, 16000, .inl (fun _ => 0))), (hst, .inr (13, [])), (hya, .inl (cJ2, 8, .inr (.inl (fun _ => 0)))), (hyd, .inl (cI2, 12, .inl (fun _ => 0)))] := hD
  have hw9 : r_3 = (-1) := hw9
  subst hw9
  refine lv_aload_n hx hb dL_law_640 rfl (lv_at hl 2 rfl) ?_
  refine lv_aload_n hx hb dL_law_641 rfl (lv_at hl 0 rfl) ?_
  refine lv_iload_n hx hb dL_law_642 rfl (lv_at hl 3 rfl) ?_
  refine lv_iconst (v := 1) hx hb dL_law_643 (by decide) ?_
  refine lv_iadd hx hb dL_law_644 ?_
  refine lv_topi (fun z_4 ez_4 => ?_)
  obtain rfl : z_4 = 1 := ez_4.trans (by decide)
  refine va_sld hx hb hX hbl hbA hS (vi rfl) dL_law_645 ?_
  refine lv_aload_n hx hb dL_law_646 rfl (lv_at hl 0 rfl) ?_
  refine lv_iload_n hx hb dL_law_647 rfl (lv_at hl 3 rfl) ?_
  refine lv_iconst (v := 2) hx hb dL_law_648 (by decide) ?_
  refine lv_iadd hx hb dL_law_649 ?_
  refine lv_topi (fun z_5 ez_5 => ?_)
  obtain rfl : z_5 = 2 := ez_5.trans (by decide)
  refine va_sld hx hb hX hbl hbA hS (vi rfl) dL_law_650 ?_
  have hPc := hP.sub (ws' := [(y0, .inr (12, fy))]) [8] rfl
  have hDc := hD.sub (ws' := [(y0, .inr (12, fy))]) [8] (by decide) rfl
  have hKc := hK.sub (tys' := []) [] rfl
  have hFc := va_free (wc := [(y0, .inr (12, fy))]) hD hS hA [8] rfl
  refine va_calli (va_runV (As := [.int (xs (1 : Int32).toNatClampNeg), .int (xs (2 : Int32).toNatClampNeg)]) (rest := [.int (-1)]) ⟨hx, hb, hml, hown, hts⟩ (m_X14_run l dC dI H.size y0 fy ((xs (1 : Int32).toNatClampNeg)) ((xs (2 : Int32).toNatClampNeg)) L_fy g_fy_80 g_fy_88) (cwV 2 hts (gd_V kw_554 kw_555 kw_556 kw_374 kw_557) rfl rfl rfl (by decide +kernel) ⟨Nat.le_of_ble_eq_true rfl, Nat.le_of_ble_eq_true rfl⟩) ⟨st_blind, va_recv hKc hPc (ci := 12) (q0 := 0) rfl rfl, fun U hU hW9 => st_mk hU hW9 hPc hKc hDc hex⟩ rfl rfl hl.1 rfl (lv_room (Nat.le_of_ble_eq_true rfl)) dL_law_651 ⟨Nat.le_of_ble_eq_true rfl, Nat.le_of_ble_eq_true rfl⟩) hS (fun q _ h => hFc q h) hFc (fun r_6 u9 t9 H1 locs ht9 hvm9 hw9 hB9 hz9 hk9 hS => ?_)
  have hP1 : va_P (dC, dI) cl0 [] H1 := fun k q h => by simp at h
  have hD1 : va_D (va_A [(y0, .inr (12, fy))] H.size) [] := ⟨fun i j p q h => by simp at h, fun k q h => by simp at h⟩
  obtain ⟨hP, hD⟩ := va_join (wr := [(ht, .inr (0, ft)), (htd, .inl (cB, 64, .inl (fun _ => 0))), (hw, .inr (0, fw)), (hc, .inr (2, fc)), (hr, .inr (6, fr)), (hma, .inl (cJ, 8, .inr (.inl (fun _ => 0)))), (hs, .inr (8, fq)), (hsa, .inl (cI, 12, .inl (fun _ => 0))), (hyt, .inl (cB2, 16000, .inl (fun _ => 0))), (hst, .inr (13, [])), (hya, .inl (cJ2, 8, .inr (.inl (fun _ => 0)))), (hyd, .inl (cI2, 12, .inl (fun _ => 0)))]) (w1 := []) hP hD [8] [0, 1, 2, 3, 4, 5, 6, 7, 9, 10, 11, 12] rfl rfl (by decide) (by decide) hk9 hFc hP1 hD1
  generalize H1 = H at hP hS ⊢
  have hP : va_P (dC, dI) cl0 [(ht, .inr (0, ft)), (htd, .inl (cB, 64, .inl (fun _ => 0))), (hw, .inr (0, fw)), (hc, .inr (2, fc)), (hr, .inr (6, fr)), (hma, .inl (cJ, 8, .inr (.inl (fun _ => 0)))), (hs, .inr (8, fq)), (hsa, .inl (cI, 12, .inl (fun _ => 0))), (hyt, .inl (cB2, 16000, .inl (fun _ => 0))), (hst, .inr (13, [])), (hya, .inl (cJ2, 8, .inr (.inl (fun _ => 0)))), (hyd, .inl (cI2, 12, .inl (fun _ => 0)))] H := hP
  have hD : va_D A [(ht, .inr (0, ft)), (htd, .inl (cB, 64, .inl (fun _ => 0))), (hw, .inr (0, fw)), (hc, .inr (2, fc)), (hr, .inr (6, fr)), (hma, .inl (cJ, 8, .inr (.inl (fun _ => 0)))), (hs, .inr (8, fq)), (hsa, .inl (cI, 12, .inl (fun _ => 0))), (hyt, .inl (cB2, 16000, .inl (fun _ => 0))), (hst, .inr (13, [])), (hya, .inl (cJ2, 8, .inr (.inl (fun _ => 0)))), (hyd, .inl (cI2, 12, .inl (fun _ => 0)))] := hD
  have hw9 : r_6 = (-1) := hw9
  subst hw9
  refine lv_icmp_eq (tgt := 1010) hx hb dL_law_654 (by decide) (fun _ => ?_) (fun c9 => absurd (by decide) c9)
  refine W.widen (k := 173) (n := 857181) (Nat.le_refl _) (Nat.le_refl _) ?_
  exact law_end hAd C0 hS hl
set_option maxHeartbeats 4000000 in
set_option maxRecDepth 100000 in
theorem law_c17 {p : Program} {l : Launch} {e : Env} {s : State} {m : MethodId} {below : List Frame} {meth : Method} {c : Code} {dC : Nat → ClassId} {dI : Nat → Nat → Nat} {b L : Nat} {xs : Nat → Int32} {A : Nat → Prop} (hAd : A = fun q : Nat => s.heap.size ≤ q) (hL6 : L = 6) (C0 : lw_At p s m meth c b L xs) (hex : ex s) (hE : mg A s s.heap) {x0 y0 : Nat} {H : Heap} {locs : List Loc} (hF : law_fr dC dI A x0 y0 s H) (hS : va_S A s.heap H locs) {ls : Array Slot} (hl : lv_has ls 4 [(0, .ref b), (1, .ref x0), (2, .ref y0), (3, .int 0)]) : W p l e room_1 s m #[Value.ref b] below meth c H locs 173 857181 (lw_Z below #[Value.ref b] s) (F0 m 659 ls []) := by
  subst hL6
  obtain ⟨hx, hb, hr, hml, hown, hts1, hX, hbl, hlocks, hgv⟩ := id C0
  have hts : ∀ w ∈ tb, w.before #[Value.ref b] s = true := fun w h => hts1 w (tb_lw w h)
  have hown : s.vm.findClass RL = some m.cls := hown
  have hA : ∀ q : Nat, s.heap.size ≤ q → A q := fun q h => by rw [hAd]; exact h
  have hbA : ¬ A b := by rw [hAd]; exact Nat.not_le.mpr hbl
  obtain ⟨fx, ht, ft, htd, cB, hw, fw, hc, fc, hr, fr, hm, fm, hma, cJ, hs, fq, hsa, cI, fy, hyt, cB2, hst, hya, cJ2, hyd, cI2, L_fx, g_fx_0, g_fx_1, g_fx_4, g_fx_7, g_fx_9, g_fx_10, g_fx_11, g_fx_12, g_fx_13, g_fx_14, g_fx_15, g_fx_16, L_ft, g_ft_0, g_ft_1, L_fw, g_fw_1, L_fc, g_fc_0, L_fr, L_fm, g_fm_0, g_fm_5, g_fm_6, g_fm_7, g_fm_16, g_fm_17, g_fm_18, g_fm_19, L_fq, g_fq_1, L_fy, g_fy_1, g_fy_3, g_fy_4, g_fy_5, g_fy_6, g_fy_9, g_fy_10, g_fy_64, g_fy_65, g_fy_78, g_fy_80, g_fy_85, g_fy_87, g_fy_88, g_fy_96, g_fy_100, g_fy_101, g_fy_102, g_fy_124, hP, hK, hD⟩ := hF
  refine lv_aload_n hx hb dL_law_659 rfl (lv_at hl 1 rfl) ?_
  have hPc := hP.sub (ws' := [(x0, .inr (10, fx)), (hm, .inr (5, fm))]) [0, 6] rfl
  have hDc := hD.sub (ws' := [(x0, .inr (10, fx)), (hm, .inr (5, fm))]) [0, 6] (by decide) rfl
  have hKc := hK.sub (tys' := []) [] rfl
  have hFc := va_free (wc := [(x0, .inr (10, fx)), (hm, .inr (5, fm))]) hD hS hA [0, 6] rfl
  refine va_calll (va_runV (As := []) (rest := []) ⟨hx, hb, hml, hown, hts⟩ (m_X12_result l dC dI H.size x0 fx hm fm L_fx g_fx_7 L_fm g_fm_16) (cwV 0 hts (gd_V kw_558 kw_559 kw_560 kw_169 kw_561) rfl rfl rfl (by decide +kernel) ⟨Nat.le_of_ble_eq_true rfl, Nat.le_of_ble_eq_true rfl⟩) ⟨st_blind, va_recv hKc hPc (ci := 10) (q0 := 0) rfl rfl, fun U hU hW9 => st_mk hU hW9 hPc hKc hDc hex⟩ rfl rfl hl.1 rfl (lv_room (Nat.le_of_ble_eq_true rfl)) dL_law_660 ⟨Nat.le_of_ble_eq_true rfl, Nat.le_of_ble_eq_true rfl⟩) hS (fun q _ h => hFc q h) hFc (fun r_1 u9 t9 H1 locs ht9 hvm9 hw9 hB9 hz9 hk9 hS => ?_)
  have hP1 : va_P (dC, dI) cl0 [] H1 := fun k q h => by simp at h
  have hD1 : va_D (va_A [(x0, .inr (10, fx)), (hm, .inr (5, fm))] H.size) [] := ⟨fun i j p q h => by simp at h, fun k q h => by simp at h⟩
  obtain ⟨hP, hD⟩ := va_join (wr := [(ht, .inr (0, ft)), (htd, .inl (cB, 64, .inl (fun _ => 0))), (hw, .inr (0, fw)), (hc, .inr (2, fc)), (hr, .inr (6, fr)), (hma, .inl (cJ, 8, .inr (.inl (fun _ => 0)))), (hs, .inr (8, fq)), (hsa, .inl (cI, 12, .inl (fun _ => 0))), (y0, .inr (12, fy)), (hyt, .inl (cB2, 16000, .inl (fun _ => 0))), (hst, .inr (13, [])), (hya, .inl (cJ2, 8, .inr (.inl (fun _ => 0)))), (hyd, .inl (cI2, 12, .inl (fun _ => 0)))]) (w1 := []) hP hD [0, 6] [1, 2, 3, 4, 5, 7, 8, 9, 10, 11, 12, 13, 14] rfl rfl (by decide) (by decide) hk9 hFc hP1 hD1
  generalize H1 = H at hP hS ⊢
  have hP : va_P (dC, dI) cl0 [(ht, .inr (0, ft)), (htd, .inl (cB, 64, .inl (fun _ => 0))), (hw, .inr (0, fw)), (hc, .inr (2, fc)), (hr, .inr (6, fr)), (hma, .inl (cJ, 8, .inr (.inl (fun _ => 0)))), (hs, .inr (8, fq)), (hsa, .inl (cI, 12, .inl (fun _ => 0))), (y0, .inr (12, fy)), (hyt, .inl (cB2, 16000, .inl (fun _ => 0))), (hst, .inr (13, [])), (hya, .inl (cJ2, 8, .inr (.inl (fun _ => 0)))), (hyd, .inl (cI2, 12, .inl (fun _ => 0)))] H := hP
  have hD : va_D A [(ht, .inr (0, ft)), (htd, .inl (cB, 64, .inl (fun _ => 0))), (hw, .inr (0, fw)), (hc, .inr (2, fc)), (hr, .inr (6, fr)), (hma, .inl (cJ, 8, .inr (.inl (fun _ => 0)))), (hs, .inr (8, fq)), (hsa, .inl (cI, 12, .inl (fun _ => 0))), (y0, .inr (12, fy)), (hyt, .inl (cB2, 16000, .inl (fun _ => 0))), (hst, .inr (13, [])), (hya, .inl (cJ2, 8, .inr (.inl (fun _ => 0)))), (hyd, .inl (cI2, 12, .inl (fun _ => 0)))] := hD
  have hw9 : r_1 = 0 := hw9
  subst hw9
  refine lv_aload_n hx hb dL_law_663 rfl (lv_at hl 2 rfl) ?_
  have hPc := hP.sub (ws' := [(y0, .inr (12, fy))]) [8] rfl
  have hDc := hD.sub (ws' := [(y0, .inr (12, fy))]) [8] (by decide) rfl
  have hKc := hK.sub (tys' := []) [] rfl
  have hFc := va_free (wc := [(y0, .inr (12, fy))]) hD hS hA [8] rfl
  refine va_calll (va_runV (As := []) (rest := [.long 0]) ⟨hx, hb, hml, hown, hts⟩ (m_X14_result l dC dI H.size y0 fy L_fy g_fy_101) (cwV 0 hts (gd_V kw_562 kw_563 kw_564 kw_374 kw_565) rfl rfl rfl (by decide +kernel) ⟨Nat.le_of_ble_eq_true rfl, Nat.le_of_ble_eq_true rfl⟩) ⟨st_blind, va_recv hKc hPc (ci := 12) (q0 := 0) rfl rfl, fun U hU hW9 => st_mk hU hW9 hPc hKc hDc hex⟩ rfl rfl hl.1 rfl (lv_room (Nat.le_of_ble_eq_true rfl)) dL_law_664 ⟨Nat.le_of_ble_eq_true rfl, Nat.le_of_ble_eq_true rfl⟩) hS (fun q _ h => hFc q h) hFc (fun r_2 u9 t9 H1 locs ht9 hvm9 hw9 hB9 hz9 hk9 hS => ?_)
  have hP1 : va_P (dC, dI) cl0 [] H1 := fun k q h => by simp at h
  have hD1 : va_D (va_A [(y0, .inr (12, fy))] H.size) [] := ⟨fun i j p q h => by simp at h, fun k q h => by simp at h⟩
  obtain ⟨hP, hD⟩ := va_join (wr := [(ht, .inr (0, ft)), (htd, .inl (cB, 64, .inl (fun _ => 0))), (hw, .inr (0, fw)), (hc, .inr (2, fc)), (hr, .inr (6, fr)), (hma, .inl (cJ, 8, .inr (.inl (fun _ => 0)))), (hs, .inr (8, fq)), (hsa, .inl (cI, 12, .inl (fun _ => 0))), (hyt, .inl (cB2, 16000, .inl (fun _ => 0))), (hst, .inr (13, [])), (hya, .inl (cJ2, 8, .inr (.inl (fun _ => 0)))), (hyd, .inl (cI2, 12, .inl (fun _ => 0)))]) (w1 := []) hP hD [8] [0, 1, 2, 3, 4, 5, 6, 7, 9, 10, 11, 12] rfl rfl (by decide) (by decide) hk9 hFc hP1 hD1
  generalize H1 = H at hP hS ⊢
  have hP : va_P (dC, dI) cl0 [(ht, .inr (0, ft)), (htd, .inl (cB, 64, .inl (fun _ => 0))), (hw, .inr (0, fw)), (hc, .inr (2, fc)), (hr, .inr (6, fr)), (hma, .inl (cJ, 8, .inr (.inl (fun _ => 0)))), (hs, .inr (8, fq)), (hsa, .inl (cI, 12, .inl (fun _ => 0))), (hyt, .inl (cB2, 16000, .inl (fun _ => 0))), (hst, .inr (13, [])), (hya, .inl (cJ2, 8, .inr (.inl (fun _ => 0)))), (hyd, .inl (cI2, 12, .inl (fun _ => 0)))] H := hP
  have hD : va_D A [(ht, .inr (0, ft)), (htd, .inl (cB, 64, .inl (fun _ => 0))), (hw, .inr (0, fw)), (hc, .inr (2, fc)), (hr, .inr (6, fr)), (hma, .inl (cJ, 8, .inr (.inl (fun _ => 0)))), (hs, .inr (8, fq)), (hsa, .inl (cI, 12, .inl (fun _ => 0))), (hyt, .inl (cB2, 16000, .inl (fun _ => 0))), (hst, .inr (13, [])), (hya, .inl (cJ2, 8, .inr (.inl (fun _ => 0)))), (hyd, .inl (cI2, 12, .inl (fun _ => 0)))] := hD
  have hw9 : r_2 = 0 := hw9
  subst hw9
  refine W.lcmp hx hb dL_law_667 ?_
  refine lv_if_eq (tgt := 1010) hx hb dL_law_668 (by decide) (fun _ => ?_) (fun c9 => absurd (by decide) c9)
  refine W.widen (k := 173) (n := 857181) (Nat.le_refl _) (Nat.le_refl _) ?_
  exact law_end hAd C0 hS hl
set_option maxHeartbeats 4000000 in
set_option maxRecDepth 100000 in
theorem law_c18 {p : Program} {l : Launch} {e : Env} {s : State} {m : MethodId} {below : List Frame} {meth : Method} {c : Code} {dC : Nat → ClassId} {dI : Nat → Nat → Nat} {b L : Nat} {xs : Nat → Int32} {A : Nat → Prop} (hAd : A = fun q : Nat => s.heap.size ≤ q) (hL6 : L = 6) (C0 : lw_At p s m meth c b L xs) (hex : ex s) (hE : mg A s s.heap) {x0 y0 : Nat} {H : Heap} {locs : List Loc} (hF : law_fr dC dI A x0 y0 s H) (hS : va_S A s.heap H locs) {ls : Array Slot} (hl : lv_has ls 4 [(0, .ref b), (1, .ref x0), (2, .ref y0), (3, .int 0)]) : W p l e room_1 s m #[Value.ref b] below meth c H locs 173 857181 (lw_Z below #[Value.ref b] s) (F0 m 673 ls []) := by
  subst hL6
  obtain ⟨hx, hb, hr, hml, hown, hts1, hX, hbl, hlocks, hgv⟩ := id C0
  have hts : ∀ w ∈ tb, w.before #[Value.ref b] s = true := fun w h => hts1 w (tb_lw w h)
  have hown : s.vm.findClass RL = some m.cls := hown
  have hA : ∀ q : Nat, s.heap.size ≤ q → A q := fun q h => by rw [hAd]; exact h
  have hbA : ¬ A b := by rw [hAd]; exact Nat.not_le.mpr hbl
  obtain ⟨fx, ht, ft, htd, cB, hw, fw, hc, fc, hr, fr, hm, fm, hma, cJ, hs, fq, hsa, cI, fy, hyt, cB2, hst, hya, cJ2, hyd, cI2, L_fx, g_fx_0, g_fx_1, g_fx_4, g_fx_7, g_fx_9, g_fx_10, g_fx_11, g_fx_12, g_fx_13, g_fx_14, g_fx_15, g_fx_16, L_ft, g_ft_0, g_ft_1, L_fw, g_fw_1, L_fc, g_fc_0, L_fr, L_fm, g_fm_0, g_fm_5, g_fm_6, g_fm_7, g_fm_16, g_fm_17, g_fm_18, g_fm_19, L_fq, g_fq_1, L_fy, g_fy_1, g_fy_3, g_fy_4, g_fy_5, g_fy_6, g_fy_9, g_fy_10, g_fy_64, g_fy_65, g_fy_78, g_fy_80, g_fy_85, g_fy_87, g_fy_88, g_fy_96, g_fy_100, g_fy_101, g_fy_102, g_fy_124, hP, hK, hD⟩ := hF
  refine lv_aload_n hx hb dL_law_673 rfl (lv_at hl 1 rfl) ?_
  have hPc := hP.sub (ws' := [(x0, .inr (10, fx)), (hm, .inr (5, fm))]) [0, 6] rfl
  have hDc := hD.sub (ws' := [(x0, .inr (10, fx)), (hm, .inr (5, fm))]) [0, 6] (by decide) rfl
  have hKc := hK.sub (tys' := []) [] rfl
  have hFc := va_free (wc := [(x0, .inr (10, fx)), (hm, .inr (5, fm))]) hD hS hA [0, 6] rfl
  refine va_calli (va_runV (As := []) (rest := []) ⟨hx, hb, hml, hown, hts⟩ (m_X12_error l dC dI H.size x0 fx hm fm L_fx g_fx_7 L_fm g_fm_17) (cwV 0 hts (gd_V kw_566 kw_567 kw_568 kw_169 kw_569) rfl rfl rfl (by decide +kernel) ⟨Nat.le_of_ble_eq_true rfl, Nat.le_of_ble_eq_true rfl⟩) ⟨st_blind, va_recv hKc hPc (ci := 10) (q0 := 0) rfl rfl, fun U hU hW9 => st_mk hU hW9 hPc hKc hDc hex⟩ rfl rfl hl.1 rfl (lv_room (Nat.le_of_ble_eq_true rfl)) dL_law_674 ⟨Nat.le_of_ble_eq_true rfl, Nat.le_of_ble_eq_true rfl⟩) hS (fun q _ h => hFc q h) hFc (fun r_1 u9 t9 H1 locs ht9 hvm9 hw9 hB9 hz9 hk9 hS => ?_)
  have hP1 : va_P (dC, dI) cl0 [] H1 := fun k q h => by simp at h
  have hD1 : va_D (va_A [(x0, .inr (10, fx)), (hm, .inr (5, fm))] H.size) [] := ⟨fun i j p q h => by simp at h, fun k q h => by simp at h⟩
  obtain ⟨hP, hD⟩ := va_join (wr := [(ht, .inr (0, ft)), (htd, .inl (cB, 64, .inl (fun _ => 0))), (hw, .inr (0, fw)), (hc, .inr (2, fc)), (hr, .inr (6, fr)), (hma, .inl (cJ, 8, .inr (.inl (fun _ => 0)))), (hs, .inr (8, fq)), (hsa, .inl (cI, 12, .inl (fun _ => 0))), (y0, .inr (12, fy)), (hyt, .inl (cB2, 16000, .inl (fun _ => 0))), (hst, .inr (13, [])), (hya, .inl (cJ2, 8, .inr (.inl (fun _ => 0)))), (hyd, .inl (cI2, 12, .inl (fun _ => 0)))]) (w1 := []) hP hD [0, 6] [1, 2, 3, 4, 5, 7, 8, 9, 10, 11, 12, 13, 14] rfl rfl (by decide) (by decide) hk9 hFc hP1 hD1
  generalize H1 = H at hP hS ⊢
  have hP : va_P (dC, dI) cl0 [(ht, .inr (0, ft)), (htd, .inl (cB, 64, .inl (fun _ => 0))), (hw, .inr (0, fw)), (hc, .inr (2, fc)), (hr, .inr (6, fr)), (hma, .inl (cJ, 8, .inr (.inl (fun _ => 0)))), (hs, .inr (8, fq)), (hsa, .inl (cI, 12, .inl (fun _ => 0))), (y0, .inr (12, fy)), (hyt, .inl (cB2, 16000, .inl (fun _ => 0))), (hst, .inr (13, [])), (hya, .inl (cJ2, 8, .inr (.inl (fun _ => 0)))), (hyd, .inl (cI2, 12, .inl (fun _ => 0)))] H := hP
  have hD : va_D A [(ht, .inr (0, ft)), (htd, .inl (cB, 64, .inl (fun _ => 0))), (hw, .inr (0, fw)), (hc, .inr (2, fc)), (hr, .inr (6, fr)), (hma, .inl (cJ, 8, .inr (.inl (fun _ => 0)))), (hs, .inr (8, fq)), (hsa, .inl (cI, 12, .inl (fun _ => 0))), (y0, .inr (12, fy)), (hyt, .inl (cB2, 16000, .inl (fun _ => 0))), (hst, .inr (13, [])), (hya, .inl (cJ2, 8, .inr (.inl (fun _ => 0)))), (hyd, .inl (cI2, 12, .inl (fun _ => 0)))] := hD
  have hw9 : r_1 = (-1) := hw9
  subst hw9
  refine lv_aload_n hx hb dL_law_677 rfl (lv_at hl 2 rfl) ?_
  have hPc := hP.sub (ws' := [(y0, .inr (12, fy))]) [8] rfl
  have hDc := hD.sub (ws' := [(y0, .inr (12, fy))]) [8] (by decide) rfl
  have hKc := hK.sub (tys' := []) [] rfl
  have hFc := va_free (wc := [(y0, .inr (12, fy))]) hD hS hA [8] rfl
  refine va_calli (va_runV (As := []) (rest := [.int (-1)]) ⟨hx, hb, hml, hown, hts⟩ (m_X14_error l dC dI H.size y0 fy L_fy g_fy_102) (cwV 0 hts (gd_V kw_570 kw_571 kw_572 kw_374 kw_573) rfl rfl rfl (by decide +kernel) ⟨Nat.le_of_ble_eq_true rfl, Nat.le_of_ble_eq_true rfl⟩) ⟨st_blind, va_recv hKc hPc (ci := 12) (q0 := 0) rfl rfl, fun U hU hW9 => st_mk hU hW9 hPc hKc hDc hex⟩ rfl rfl hl.1 rfl (lv_room (Nat.le_of_ble_eq_true rfl)) dL_law_678 ⟨Nat.le_of_ble_eq_true rfl, Nat.le_of_ble_eq_true rfl⟩) hS (fun q _ h => hFc q h) hFc (fun r_2 u9 t9 H1 locs ht9 hvm9 hw9 hB9 hz9 hk9 hS => ?_)
  have hP1 : va_P (dC, dI) cl0 [] H1 := fun k q h => by simp at h
  have hD1 : va_D (va_A [(y0, .inr (12, fy))] H.size) [] := ⟨fun i j p q h => by simp at h, fun k q h => by simp at h⟩
  obtain ⟨hP, hD⟩ := va_join (wr := [(ht, .inr (0, ft)), (htd, .inl (cB, 64, .inl (fun _ => 0))), (hw, .inr (0, fw)), (hc, .inr (2, fc)), (hr, .inr (6, fr)), (hma, .inl (cJ, 8, .inr (.inl (fun _ => 0)))), (hs, .inr (8, fq)), (hsa, .inl (cI, 12, .inl (fun _ => 0))), (hyt, .inl (cB2, 16000, .inl (fun _ => 0))), (hst, .inr (13, [])), (hya, .inl (cJ2, 8, .inr (.inl (fun _ => 0)))), (hyd, .inl (cI2, 12, .inl (fun _ => 0)))]) (w1 := []) hP hD [8] [0, 1, 2, 3, 4, 5, 6, 7, 9, 10, 11, 12] rfl rfl (by decide) (by decide) hk9 hFc hP1 hD1
  generalize H1 = H at hP hS ⊢
  have hP : va_P (dC, dI) cl0 [(ht, .inr (0, ft)), (htd, .inl (cB, 64, .inl (fun _ => 0))), (hw, .inr (0, fw)), (hc, .inr (2, fc)), (hr, .inr (6, fr)), (hma, .inl (cJ, 8, .inr (.inl (fun _ => 0)))), (hs, .inr (8, fq)), (hsa, .inl (cI, 12, .inl (fun _ => 0))), (hyt, .inl (cB2, 16000, .inl (fun _ => 0))), (hst, .inr (13, [])), (hya, .inl (cJ2, 8, .inr (.inl (fun _ => 0)))), (hyd, .inl (cI2, 12, .inl (fun _ => 0)))] H := hP
  have hD : va_D A [(ht, .inr (0, ft)), (htd, .inl (cB, 64, .inl (fun _ => 0))), (hw, .inr (0, fw)), (hc, .inr (2, fc)), (hr, .inr (6, fr)), (hma, .inl (cJ, 8, .inr (.inl (fun _ => 0)))), (hs, .inr (8, fq)), (hsa, .inl (cI, 12, .inl (fun _ => 0))), (hyt, .inl (cB2, 16000, .inl (fun _ => 0))), (hst, .inr (13, [])), (hya, .inl (cJ2, 8, .inr (.inl (fun _ => 0)))), (hyd, .inl (cI2, 12, .inl (fun _ => 0)))] := hD
  have hw9 : r_2 = (-1) := hw9
  subst hw9
  refine lv_icmp_eq (tgt := 1010) hx hb dL_law_681 (by decide) (fun _ => ?_) (fun c9 => absurd (by decide) c9)
  refine W.widen (k := 173) (n := 857181) (Nat.le_refl _) (Nat.le_refl _) ?_
  exact law_end hAd C0 hS hl
set_option maxHeartbeats 4000000 in
set_option maxRecDepth 100000 in
theorem law_c19 {p : Program} {l : Launch} {e : Env} {s : State} {m : MethodId} {below : List Frame} {meth : Method} {c : Code} {dC : Nat → ClassId} {dI : Nat → Nat → Nat} {b L : Nat} {xs : Nat → Int32} {A : Nat → Prop} (hAd : A = fun q : Nat => s.heap.size ≤ q) (hL6 : L = 6) (C0 : lw_At p s m meth c b L xs) (hex : ex s) (hE : mg A s s.heap) {x0 y0 : Nat} {H : Heap} {locs : List Loc} (hF : law_fr dC dI A x0 y0 s H) (hS : va_S A s.heap H locs) {ls : Array Slot} (hl : lv_has ls 4 [(0, .ref b), (1, .ref x0), (2, .ref y0), (3, .int 0)]) : W p l e room_1 s m #[Value.ref b] below meth c H locs 173 857181 (lw_Z below #[Value.ref b] s) (F0 m 686 ls []) := by
  subst hL6
  obtain ⟨hx, hb, hr, hml, hown, hts1, hX, hbl, hlocks, hgv⟩ := id C0
  have hts : ∀ w ∈ tb, w.before #[Value.ref b] s = true := fun w h => hts1 w (tb_lw w h)
  have hown : s.vm.findClass RL = some m.cls := hown
  have hA : ∀ q : Nat, s.heap.size ≤ q → A q := fun q h => by rw [hAd]; exact h
  have hbA : ¬ A b := by rw [hAd]; exact Nat.not_le.mpr hbl
  obtain ⟨fx, ht, ft, htd, cB, hw, fw, hc, fc, hr, fr, hm, fm, hma, cJ, hs, fq, hsa, cI, fy, hyt, cB2, hst, hya, cJ2, hyd, cI2, L_fx, g_fx_0, g_fx_1, g_fx_4, g_fx_7, g_fx_9, g_fx_10, g_fx_11, g_fx_12, g_fx_13, g_fx_14, g_fx_15, g_fx_16, L_ft, g_ft_0, g_ft_1, L_fw, g_fw_1, L_fc, g_fc_0, L_fr, L_fm, g_fm_0, g_fm_5, g_fm_6, g_fm_7, g_fm_16, g_fm_17, g_fm_18, g_fm_19, L_fq, g_fq_1, L_fy, g_fy_1, g_fy_3, g_fy_4, g_fy_5, g_fy_6, g_fy_9, g_fy_10, g_fy_64, g_fy_65, g_fy_78, g_fy_80, g_fy_85, g_fy_87, g_fy_88, g_fy_96, g_fy_100, g_fy_101, g_fy_102, g_fy_124, hP, hK, hD⟩ := hF
  refine lv_aload_n hx hb dL_law_686 rfl (lv_at hl 1 rfl) ?_
  have hPc := hP.sub (ws' := [(x0, .inr (10, fx)), (hm, .inr (5, fm))]) [0, 6] rfl
  have hDc := hD.sub (ws' := [(x0, .inr (10, fx)), (hm, .inr (5, fm))]) [0, 6] (by decide) rfl
  have hKc := hK.sub (tys' := []) [] rfl
  have hFc := va_free (wc := [(x0, .inr (10, fx)), (hm, .inr (5, fm))]) hD hS hA [0, 6] rfl
  refine va_calli (va_runV (As := []) (rest := []) ⟨hx, hb, hml, hown, hts⟩ (m_X12_steps l dC dI H.size x0 fx hm fm L_fx g_fx_7 L_fm g_fm_18) (cwV 0 hts (gd_V kw_574 kw_575 kw_576 kw_169 kw_577) rfl rfl rfl (by decide +kernel) ⟨Nat.le_of_ble_eq_true rfl, Nat.le_of_ble_eq_true rfl⟩) ⟨st_blind, va_recv hKc hPc (ci := 10) (q0 := 0) rfl rfl, fun U hU hW9 => st_mk hU hW9 hPc hKc hDc hex⟩ rfl rfl hl.1 rfl (lv_room (Nat.le_of_ble_eq_true rfl)) dL_law_687 ⟨Nat.le_of_ble_eq_true rfl, Nat.le_of_ble_eq_true rfl⟩) hS (fun q _ h => hFc q h) hFc (fun r_1 u9 t9 H1 locs ht9 hvm9 hw9 hB9 hz9 hk9 hS => ?_)
  have hP1 : va_P (dC, dI) cl0 [] H1 := fun k q h => by simp at h
  have hD1 : va_D (va_A [(x0, .inr (10, fx)), (hm, .inr (5, fm))] H.size) [] := ⟨fun i j p q h => by simp at h, fun k q h => by simp at h⟩
  obtain ⟨hP, hD⟩ := va_join (wr := [(ht, .inr (0, ft)), (htd, .inl (cB, 64, .inl (fun _ => 0))), (hw, .inr (0, fw)), (hc, .inr (2, fc)), (hr, .inr (6, fr)), (hma, .inl (cJ, 8, .inr (.inl (fun _ => 0)))), (hs, .inr (8, fq)), (hsa, .inl (cI, 12, .inl (fun _ => 0))), (y0, .inr (12, fy)), (hyt, .inl (cB2, 16000, .inl (fun _ => 0))), (hst, .inr (13, [])), (hya, .inl (cJ2, 8, .inr (.inl (fun _ => 0)))), (hyd, .inl (cI2, 12, .inl (fun _ => 0)))]) (w1 := []) hP hD [0, 6] [1, 2, 3, 4, 5, 7, 8, 9, 10, 11, 12, 13, 14] rfl rfl (by decide) (by decide) hk9 hFc hP1 hD1
  generalize H1 = H at hP hS ⊢
  have hP : va_P (dC, dI) cl0 [(ht, .inr (0, ft)), (htd, .inl (cB, 64, .inl (fun _ => 0))), (hw, .inr (0, fw)), (hc, .inr (2, fc)), (hr, .inr (6, fr)), (hma, .inl (cJ, 8, .inr (.inl (fun _ => 0)))), (hs, .inr (8, fq)), (hsa, .inl (cI, 12, .inl (fun _ => 0))), (y0, .inr (12, fy)), (hyt, .inl (cB2, 16000, .inl (fun _ => 0))), (hst, .inr (13, [])), (hya, .inl (cJ2, 8, .inr (.inl (fun _ => 0)))), (hyd, .inl (cI2, 12, .inl (fun _ => 0)))] H := hP
  have hD : va_D A [(ht, .inr (0, ft)), (htd, .inl (cB, 64, .inl (fun _ => 0))), (hw, .inr (0, fw)), (hc, .inr (2, fc)), (hr, .inr (6, fr)), (hma, .inl (cJ, 8, .inr (.inl (fun _ => 0)))), (hs, .inr (8, fq)), (hsa, .inl (cI, 12, .inl (fun _ => 0))), (y0, .inr (12, fy)), (hyt, .inl (cB2, 16000, .inl (fun _ => 0))), (hst, .inr (13, [])), (hya, .inl (cJ2, 8, .inr (.inl (fun _ => 0)))), (hyd, .inl (cI2, 12, .inl (fun _ => 0)))] := hD
  have hw9 : r_1 = 0 := hw9
  subst hw9
  refine lv_aload_n hx hb dL_law_690 rfl (lv_at hl 2 rfl) ?_
  have hPc := hP.sub (ws' := [(y0, .inr (12, fy))]) [8] rfl
  have hDc := hD.sub (ws' := [(y0, .inr (12, fy))]) [8] (by decide) rfl
  have hKc := hK.sub (tys' := []) [] rfl
  have hFc := va_free (wc := [(y0, .inr (12, fy))]) hD hS hA [8] rfl
  refine va_calli (va_runV (As := []) (rest := [.int 0]) ⟨hx, hb, hml, hown, hts⟩ (m_X14_steps l dC dI H.size y0 fy L_fy g_fy_100) (cwV 0 hts (gd_V kw_578 kw_579 kw_580 kw_374 kw_581) rfl rfl rfl (by decide +kernel) ⟨Nat.le_of_ble_eq_true rfl, Nat.le_of_ble_eq_true rfl⟩) ⟨st_blind, va_recv hKc hPc (ci := 12) (q0 := 0) rfl rfl, fun U hU hW9 => st_mk hU hW9 hPc hKc hDc hex⟩ rfl rfl hl.1 rfl (lv_room (Nat.le_of_ble_eq_true rfl)) dL_law_691 ⟨Nat.le_of_ble_eq_true rfl, Nat.le_of_ble_eq_true rfl⟩) hS (fun q _ h => hFc q h) hFc (fun r_2 u9 t9 H1 locs ht9 hvm9 hw9 hB9 hz9 hk9 hS => ?_)
  have hP1 : va_P (dC, dI) cl0 [] H1 := fun k q h => by simp at h
  have hD1 : va_D (va_A [(y0, .inr (12, fy))] H.size) [] := ⟨fun i j p q h => by simp at h, fun k q h => by simp at h⟩
  obtain ⟨hP, hD⟩ := va_join (wr := [(ht, .inr (0, ft)), (htd, .inl (cB, 64, .inl (fun _ => 0))), (hw, .inr (0, fw)), (hc, .inr (2, fc)), (hr, .inr (6, fr)), (hma, .inl (cJ, 8, .inr (.inl (fun _ => 0)))), (hs, .inr (8, fq)), (hsa, .inl (cI, 12, .inl (fun _ => 0))), (hyt, .inl (cB2, 16000, .inl (fun _ => 0))), (hst, .inr (13, [])), (hya, .inl (cJ2, 8, .inr (.inl (fun _ => 0)))), (hyd, .inl (cI2, 12, .inl (fun _ => 0)))]) (w1 := []) hP hD [8] [0, 1, 2, 3, 4, 5, 6, 7, 9, 10, 11, 12] rfl rfl (by decide) (by decide) hk9 hFc hP1 hD1
  generalize H1 = H at hP hS ⊢
  have hP : va_P (dC, dI) cl0 [(ht, .inr (0, ft)), (htd, .inl (cB, 64, .inl (fun _ => 0))), (hw, .inr (0, fw)), (hc, .inr (2, fc)), (hr, .inr (6, fr)), (hma, .inl (cJ, 8, .inr (.inl (fun _ => 0)))), (hs, .inr (8, fq)), (hsa, .inl (cI, 12, .inl (fun _ => 0))), (hyt, .inl (cB2, 16000, .inl (fun _ => 0))), (hst, .inr (13, [])), (hya, .inl (cJ2, 8, .inr (.inl (fun _ => 0)))), (hyd, .inl (cI2, 12, .inl (fun _ => 0)))] H := hP
  have hD : va_D A [(ht, .inr (0, ft)), (htd, .inl (cB, 64, .inl (fun _ => 0))), (hw, .inr (0, fw)), (hc, .inr (2, fc)), (hr, .inr (6, fr)), (hma, .inl (cJ, 8, .inr (.inl (fun _ => 0)))), (hs, .inr (8, fq)), (hsa, .inl (cI, 12, .inl (fun _ => 0))), (hyt, .inl (cB2, 16000, .inl (fun _ => 0))), (hst, .inr (13, [])), (hya, .inl (cJ2, 8, .inr (.inl (fun _ => 0)))), (hyd, .inl (cI2, 12, .inl (fun _ => 0)))] := hD
  have hw9 : r_2 = 0 := hw9
  subst hw9
  refine lv_icmp_eq (tgt := 1010) hx hb dL_law_694 (by decide) (fun _ => ?_) (fun c9 => absurd (by decide) c9)
  refine W.widen (k := 173) (n := 857181) (Nat.le_refl _) (Nat.le_refl _) ?_
  exact law_end hAd C0 hS hl
