set_option maxHeartbeats 4000000 in
set_option maxRecDepth 100000 in
theorem law_c0 {p : Program} {l : Launch} {e : Env} {s : State} {m : MethodId} {below : List Frame} {meth : Method} {c : Code} {dC : Nat → ClassId} {dI : Nat → Nat → Nat} {b L : Nat} {xs : Nat → Int32} {A : Nat → Prop} (hAd : A = fun q : Nat => s.heap.size ≤ q) (hL6 : L = 6) (C0 : lw_At p s m meth c b L xs) (hex : ex s) (hE : mg A s s.heap) {x0 y0 : Nat} {H : Heap} {locs : List Loc} (hF : law_fr dC dI A x0 y0 s H) (hS : va_S A s.heap H locs) {ls : Array Slot} (hl : lv_has ls 4 [(0, .ref b), (1, .ref x0), (2, .ref y0), (3, .int 0)]) : W p l e room_1 s m #[Value.ref b] below meth c H locs 173 857181 (lw_Z below #[Value.ref b] s) (F0 m 168 ls []) := by
  subst hL6
  obtain ⟨hx, hb, hr, hml, hown, hts1, hX, hbl, hlocks, hgv⟩ := id C0
  have hts : ∀ w ∈ tb, w.before #[Value.ref b] s = true := fun w h => hts1 w (tb_lw w h)
  have hown : s.vm.findClass RL = some m.cls := hown
  have hA : ∀ q : Nat, s.heap.size ≤ q → A q := fun q h => by rw [hAd]; exact h
  have hbA : ¬ A b := by rw [hAd]; exact Nat.not_le.mpr hbl
  obtain ⟨fx, ht, ft, htd, cB, hw, fw, hc, fc, hr, fr, hm, fm, hma, cJ, hs, fq, hsa, cI, fy, hyt, cB2, hst, hya, cJ2, hyd, cI2, L_fx, g_fx_0, g_fx_1, g_fx_4, g_fx_7, g_fx_9, g_fx_10, g_fx_11, g_fx_12, g_fx_13, g_fx_14, g_fx_15, g_fx_16, L_ft, g_ft_0, g_ft_1, L_fw, g_fw_1, L_fc, g_fc_0, L_fr, L_fm, g_fm_0, g_fm_5, g_fm_6, g_fm_7, g_fm_16, g_fm_17, g_fm_18, g_fm_19, L_fq, g_fq_1, L_fy, g_fy_1, g_fy_3, g_fy_4, g_fy_5, g_fy_6, g_fy_9, g_fy_10, g_fy_64, g_fy_65, g_fy_78, g_fy_80, g_fy_85, g_fy_87, g_fy_88, g_fy_96, g_fy_100, g_fy_101, g_fy_102, g_fy_124, hP, hK, hD⟩ := hF
  refine lv_aload_n hx hb dL_law_168 rfl (lv_at hl 1 rfl) ?_
  refine lv_aload_n hx hb dL_law_169 rfl (lv_at hl 0 rfl) ?_
  refine lv_iload_n hx hb dL_law_170 rfl (lv_at hl 3 rfl) ?_
  refine lv_iconst (v := 1) hx hb dL_law_171 (by decide) ?_
  refine lv_iadd hx hb dL_law_172 ?_
  refine lv_topi (fun z_1 ez_1 => ?_)
  obtain rfl : z_1 = 1 := ez_1.trans (by decide)
  refine va_sld hx hb hX hbl hbA hS (vi rfl) dL_law_173 ?_
  refine lv_aload_n hx hb dL_law_174 rfl (lv_at hl 0 rfl) ?_
  refine lv_iload_n hx hb dL_law_175 rfl (lv_at hl 3 rfl) ?_
  refine lv_iconst (v := 2) hx hb dL_law_176 (by decide) ?_
  refine lv_iadd hx hb dL_law_177 ?_
  refine lv_topi (fun z_2 ez_2 => ?_)
  obtain rfl : z_2 = 2 := ez_2.trans (by decide)
  refine va_sld hx hb hX hbl hbA hS (vi rfl) dL_law_178 ?_
  refine lv_aload_n hx hb dL_law_179 rfl (lv_at hl 0 rfl) ?_
  refine lv_iload_n hx hb dL_law_180 rfl (lv_at hl 3 rfl) ?_
  refine lv_iconst (v := 3) hx hb dL_law_181 (by decide) ?_
  refine lv_iadd hx hb dL_law_182 ?_
  refine lv_topi (fun z_3 ez_3 => ?_)
  obtain rfl : z_3 = 3 := ez_3.trans (by decide)
  refine va_sld hx hb hX hbl hbA hS (vi rfl) dL_law_183 ?_
  refine lv_aload_n hx hb dL_law_184 rfl (lv_at hl 0 rfl) ?_
  refine lv_iload_n hx hb dL_law_185 rfl (lv_at hl 3 rfl) ?_
  refine lv_iconst (v := 4) hx hb dL_law_186 (by decide) ?_
  refine lv_iadd hx hb dL_law_187 ?_
  refine lv_topi (fun z_4 ez_4 => ?_)
  obtain rfl : z_4 = 4 := ez_4.trans (by decide)
  refine va_sld hx hb hX hbl hbA hS (vi rfl) dL_law_188 ?_
  refine lv_aload_n hx hb dL_law_189 rfl (lv_at hl 0 rfl) ?_
  refine lv_iload_n hx hb dL_law_190 rfl (lv_at hl 3 rfl) ?_
  refine lv_iconst (v := 5) hx hb dL_law_191 (by decide) ?_
  refine lv_iadd hx hb dL_law_192 ?_
  refine lv_topi (fun z_5 ez_5 => ?_)
  obtain rfl : z_5 = 5 := ez_5.trans (by decide)
  refine va_sld hx hb hX hbl hbA hS (vi rfl) dL_law_193 ?_
  have hPc := hP.sub (ws' := [(x0, .inr (10, fx)), (ht, .inr (0, ft)), (htd, .inl (cB, 64, .inl (fun _ => 0)))]) [0, 1, 2] rfl
  have hDc := hD.sub (ws' := [(x0, .inr (10, fx)), (ht, .inr (0, ft)), (htd, .inl (cB, 64, .inl (fun _ => 0)))]) [0, 1, 2] (by decide) rfl
  have hKc := hK.sub (tys' := [(cB, .byte)]) [0] rfl
  have hFc := va_free (wc := [(x0, .inr (10, fx)), (ht, .inr (0, ft)), (htd, .inl (cB, 64, .inl (fun _ => 0)))]) hD hS hA [0, 1, 2] rfl
  refine va_calli (va_runV (As := [.int (xs (1 : Int32).toNatClampNeg), .int (xs (2 : Int32).toNatClampNeg), .int (xs (3 : Int32).toNatClampNeg), .int (xs (4 : Int32).toNatClampNeg), .int (xs (5 : Int32).toNatClampNeg)]) (rest := []) ⟨hx, hb, hml, hown, hts⟩ (m_X12_feed l dC dI H.size x0 fx ht ft htd cB ((xs (1 : Int32).toNatClampNeg)) ((xs (2 : Int32).toNatClampNeg)) ((xs (3 : Int32).toNatClampNeg)) ((xs (4 : Int32).toNatClampNeg)) ((xs (5 : Int32).toNatClampNeg)) L_fx g_fx_0 g_fx_10 L_ft g_ft_0 g_ft_1) (cwV 5 hts (gd_V kw_421 kw_422 kw_423 kw_169 kw_424) rfl rfl rfl (by decide +kernel) ⟨Nat.le_of_ble_eq_true rfl, Nat.le_of_ble_eq_true rfl⟩) ⟨st_blind, va_recv hKc hPc (ci := 10) (q0 := 0) rfl rfl, fun U hU hW9 => st_mk hU hW9 hPc hKc hDc hex⟩ rfl rfl hl.1 rfl (lv_room (Nat.le_of_ble_eq_true rfl)) dL_law_194 ⟨Nat.le_of_ble_eq_true rfl, Nat.le_of_ble_eq_true rfl⟩) hS (fun q _ h => hFc q h) hFc (fun r_6 u9 t9 H1 locs ht9 hvm9 hw9 hB9 hz9 hk9 hS => ?_)
  have hP1 : va_P (dC, dI) cl0 [] H1 := fun k q h => by simp at h
  have hD1 : va_D (va_A [(x0, .inr (10, fx)), (ht, .inr (0, ft)), (htd, .inl (cB, 64, .inl (fun _ => 0)))] H.size) [] := ⟨fun i j p q h => by simp at h, fun k q h => by simp at h⟩
  obtain ⟨hP, hD⟩ := va_join (wr := [(hw, .inr (0, fw)), (hc, .inr (2, fc)), (hr, .inr (6, fr)), (hm, .inr (5, fm)), (hma, .inl (cJ, 8, .inr (.inl (fun _ => 0)))), (hs, .inr (8, fq)), (hsa, .inl (cI, 12, .inl (fun _ => 0))), (y0, .inr (12, fy)), (hyt, .inl (cB2, 16000, .inl (fun _ => 0))), (hst, .inr (13, [])), (hya, .inl (cJ2, 8, .inr (.inl (fun _ => 0)))), (hyd, .inl (cI2, 12, .inl (fun _ => 0)))]) (w1 := []) hP hD [0, 1, 2] [3, 4, 5, 6, 7, 8, 9, 10, 11, 12, 13, 14] rfl rfl (by decide) (by decide) hk9 hFc hP1 hD1
  generalize H1 = H at hP hS ⊢
  have hP : va_P (dC, dI) cl0 [(hw, .inr (0, fw)), (hc, .inr (2, fc)), (hr, .inr (6, fr)), (hm, .inr (5, fm)), (hma, .inl (cJ, 8, .inr (.inl (fun _ => 0)))), (hs, .inr (8, fq)), (hsa, .inl (cI, 12, .inl (fun _ => 0))), (y0, .inr (12, fy)), (hyt, .inl (cB2, 16000, .inl (fun _ => 0))), (hst, .inr (13, [])), (hya, .inl (cJ2, 8, .inr (.inl (fun _ => 0)))), (hyd, .inl (cI2, 12, .inl (fun _ => 0)))] H := hP
  have hD : va_D A [(hw, .inr (0, fw)), (hc, .inr (2, fc)), (hr, .inr (6, fr)), (hm, .inr (5, fm)), (hma, .inl (cJ, 8, .inr (.inl (fun _ => 0)))), (hs, .inr (8, fq)), (hsa, .inl (cI, 12, .inl (fun _ => 0))), (y0, .inr (12, fy)), (hyt, .inl (cB2, 16000, .inl (fun _ => 0))), (hst, .inr (13, [])), (hya, .inl (cJ2, 8, .inr (.inl (fun _ => 0)))), (hyd, .inl (cI2, 12, .inl (fun _ => 0)))] := hD
  have hw9 : r_6 = 20 := hw9
  subst hw9
  refine lv_aload_n hx hb dL_law_197 rfl (lv_at hl 2 rfl) ?_
  refine lv_aload_n hx hb dL_law_198 rfl (lv_at hl 0 rfl) ?_
  refine lv_iload_n hx hb dL_law_199 rfl (lv_at hl 3 rfl) ?_
  refine lv_iconst (v := 1) hx hb dL_law_200 (by decide) ?_
  refine lv_iadd hx hb dL_law_201 ?_
  refine lv_topi (fun z_7 ez_7 => ?_)
  obtain rfl : z_7 = 1 := ez_7.trans (by decide)
  refine va_sld hx hb hX hbl hbA hS (vi rfl) dL_law_202 ?_
  refine lv_aload_n hx hb dL_law_203 rfl (lv_at hl 0 rfl) ?_
  refine lv_iload_n hx hb dL_law_204 rfl (lv_at hl 3 rfl) ?_
  refine lv_iconst (v := 2) hx hb dL_law_205 (by decide) ?_
  refine lv_iadd hx hb dL_law_206 ?_
  refine lv_topi (fun z_8 ez_8 => ?_)
  obtain rfl : z_8 = 2 := ez_8.trans (by decide)
  refine va_sld hx hb hX hbl hbA hS (vi rfl) dL_law_207 ?_
  refine lv_aload_n hx hb dL_law_208 rfl (lv_at hl 0 rfl) ?_
  refine lv_iload_n hx hb dL_law_209 rfl (lv_at hl 3 rfl) ?_
  refine lv_iconst (v := 3) hx hb dL_law_210 (by decide) ?_
  refine lv_iadd hx hb dL_law_211 ?_
  refine lv_topi (fun z_9 ez_9 => ?_)
  obtain rfl : z_9 = 3 := ez_9.trans (by decide)
  refine va_sld hx hb hX hbl hbA hS (vi rfl) dL_law_212 ?_
  refine lv_aload_n hx hb dL_law_213 rfl (lv_at hl 0 rfl) ?_
  refine lv_iload_n hx hb dL_law_214 rfl (lv_at hl 3 rfl) ?_
  refine lv_iconst (v := 4) hx hb dL_law_215 (by decide) ?_
  refine lv_iadd hx hb dL_law_216 ?_
  refine lv_topi (fun z_10 ez_10 => ?_)
  obtain rfl : z_10 = 4 := ez_10.trans (by decide)
  refine va_sld hx hb hX hbl hbA hS (vi rfl) dL_law_217 ?_
  refine lv_aload_n hx hb dL_law_218 rfl (lv_at hl 0 rfl) ?_
  refine lv_iload_n hx hb dL_law_219 rfl (lv_at hl 3 rfl) ?_
  refine lv_iconst (v := 5) hx hb dL_law_220 (by decide) ?_
  refine lv_iadd hx hb dL_law_221 ?_
  refine lv_topi (fun z_11 ez_11 => ?_)
  obtain rfl : z_11 = 5 := ez_11.trans (by decide)
  refine va_sld hx hb hX hbl hbA hS (vi rfl) dL_law_222 ?_
  have hPc := hP.sub (ws' := [(y0, .inr (12, fy)), (hyt, .inl (cB2, 16000, .inl (fun _ => 0)))]) [7, 8] rfl
  have hDc := hD.sub (ws' := [(y0, .inr (12, fy)), (hyt, .inl (cB2, 16000, .inl (fun _ => 0)))]) [7, 8] (by decide) rfl
  have hKc := hK.sub (tys' := [(cB2, .byte)]) [3] rfl
  have hFc := va_free (wc := [(y0, .inr (12, fy)), (hyt, .inl (cB2, 16000, .inl (fun _ => 0)))]) hD hS hA [7, 8] rfl
  refine va_calli (va_runV (As := [.int (xs (1 : Int32).toNatClampNeg), .int (xs (2 : Int32).toNatClampNeg), .int (xs (3 : Int32).toNatClampNeg), .int (xs (4 : Int32).toNatClampNeg), .int (xs (5 : Int32).toNatClampNeg)]) (rest := [.int 20]) ⟨hx, hb, hml, hown, hts⟩ (m_X14_feed l dC dI H.size y0 fy hyt cB2 ((xs (1 : Int32).toNatClampNeg)) ((xs (2 : Int32).toNatClampNeg)) ((xs (3 : Int32).toNatClampNeg)) ((xs (4 : Int32).toNatClampNeg)) ((xs (5 : Int32).toNatClampNeg)) L_fy g_fy_3 g_fy_4 g_fy_5) (cwV 5 hts (gd_V kw_425 kw_426 kw_427 kw_374 kw_428) rfl rfl rfl (by decide +kernel) ⟨Nat.le_of_ble_eq_true rfl, Nat.le_of_ble_eq_true rfl⟩) ⟨st_blind, va_recv hKc hPc (ci := 12) (q0 := 0) rfl rfl, fun U hU hW9 => st_mk hU hW9 hPc hKc hDc hex⟩ rfl rfl hl.1 rfl (lv_room (Nat.le_of_ble_eq_true rfl)) dL_law_223 ⟨Nat.le_of_ble_eq_true rfl, Nat.le_of_ble_eq_true rfl⟩) hS (fun q _ h => hFc q h) hFc (fun r_12 u9 t9 H1 locs ht9 hvm9 hw9 hB9 hz9 hk9 hS => ?_)
  have hP1 : va_P (dC, dI) cl0 [] H1 := fun k q h => by simp at h
  have hD1 : va_D (va_A [(y0, .inr (12, fy)), (hyt, .inl (cB2, 16000, .inl (fun _ => 0)))] H.size) [] := ⟨fun i j p q h => by simp at h, fun k q h => by simp at h⟩
  obtain ⟨hP, hD⟩ := va_join (wr := [(hw, .inr (0, fw)), (hc, .inr (2, fc)), (hr, .inr (6, fr)), (hm, .inr (5, fm)), (hma, .inl (cJ, 8, .inr (.inl (fun _ => 0)))), (hs, .inr (8, fq)), (hsa, .inl (cI, 12, .inl (fun _ => 0))), (hst, .inr (13, [])), (hya, .inl (cJ2, 8, .inr (.inl (fun _ => 0)))), (hyd, .inl (cI2, 12, .inl (fun _ => 0)))]) (w1 := []) hP hD [7, 8] [0, 1, 2, 3, 4, 5, 6, 9, 10, 11] rfl rfl (by decide) (by decide) hk9 hFc hP1 hD1
  generalize H1 = H at hP hS ⊢
  have hP : va_P (dC, dI) cl0 [(hw, .inr (0, fw)), (hc, .inr (2, fc)), (hr, .inr (6, fr)), (hm, .inr (5, fm)), (hma, .inl (cJ, 8, .inr (.inl (fun _ => 0)))), (hs, .inr (8, fq)), (hsa, .inl (cI, 12, .inl (fun _ => 0))), (hst, .inr (13, [])), (hya, .inl (cJ2, 8, .inr (.inl (fun _ => 0)))), (hyd, .inl (cI2, 12, .inl (fun _ => 0)))] H := hP
  have hD : va_D A [(hw, .inr (0, fw)), (hc, .inr (2, fc)), (hr, .inr (6, fr)), (hm, .inr (5, fm)), (hma, .inl (cJ, 8, .inr (.inl (fun _ => 0)))), (hs, .inr (8, fq)), (hsa, .inl (cI, 12, .inl (fun _ => 0))), (hst, .inr (13, [])), (hya, .inl (cJ2, 8, .inr (.inl (fun _ => 0)))), (hyd, .inl (cI2, 12, .inl (fun _ => 0)))] := hD
  have hw9 : r_12 = 20 := hw9
  subst hw9
  refine lv_icmp_eq (tgt := 1010) hx hb dL_law_226 (by decide) (fun _ => ?_) (fun c9 => absurd (by decide) c9)
  refine W.widen (k := 173) (n := 857181) (Nat.le_refl _) (Nat.le_refl _) ?_
  exact law_end hAd C0 hS hl
set_option maxHeartbeats 4000000 in
set_option maxRecDepth 100000 in
theorem law_c1 {p : Program} {l : Launch} {e : Env} {s : State} {m : MethodId} {below : List Frame} {meth : Method} {c : Code} {dC : Nat → ClassId} {dI : Nat → Nat → Nat} {b L : Nat} {xs : Nat → Int32} {A : Nat → Prop} (hAd : A = fun q : Nat => s.heap.size ≤ q) (hL6 : L = 6) (C0 : lw_At p s m meth c b L xs) (hex : ex s) (hE : mg A s s.heap) {x0 y0 : Nat} {H : Heap} {locs : List Loc} (hF : law_fr dC dI A x0 y0 s H) (hS : va_S A s.heap H locs) {ls : Array Slot} (hl : lv_has ls 4 [(0, .ref b), (1, .ref x0), (2, .ref y0), (3, .int 0)]) : W p l e room_1 s m #[Value.ref b] below meth c H locs 173 857181 (lw_Z below #[Value.ref b] s) (F0 m 231 ls []) := by
  subst hL6
  obtain ⟨hx, hb, hr, hml, hown, hts1, hX, hbl, hlocks, hgv⟩ := id C0
  have hts : ∀ w ∈ tb, w.before #[Value.ref b] s = true := fun w h => hts1 w (tb_lw w h)
  have hown : s.vm.findClass RL = some m.cls := hown
  have hA : ∀ q : Nat, s.heap.size ≤ q → A q := fun q h => by rw [hAd]; exact h
  have hbA : ¬ A b := by rw [hAd]; exact Nat.not_le.mpr hbl
  obtain ⟨fx, ht, ft, htd, cB, hw, fw, hc, fc, hr, fr, hm, fm, hma, cJ, hs, fq, hsa, cI, fy, hyt, cB2, hst, hya, cJ2, hyd, cI2, L_fx, g_fx_0, g_fx_1, g_fx_4, g_fx_7, g_fx_9, g_fx_10, g_fx_11, g_fx_12, g_fx_13, g_fx_14, g_fx_15, g_fx_16, L_ft, g_ft_0, g_ft_1, L_fw, g_fw_1, L_fc, g_fc_0, L_fr, L_fm, g_fm_0, g_fm_5, g_fm_6, g_fm_7, g_fm_16, g_fm_17, g_fm_18, g_fm_19, L_fq, g_fq_1, L_fy, g_fy_1, g_fy_3, g_fy_4, g_fy_5, g_fy_6, g_fy_9, g_fy_10, g_fy_64, g_fy_65, g_fy_78, g_fy_80, g_fy_85, g_fy_87, g_fy_88, g_fy_96, g_fy_100, g_fy_101, g_fy_102, g_fy_124, hP, hK, hD⟩ := hF
  refine lv_aload_n hx hb dL_law_231 rfl (lv_at hl 1 rfl) ?_
  refine lv_aload_n hx hb dL_law_232 rfl (lv_at hl 0 rfl) ?_
  refine lv_iload_n hx hb dL_law_233 rfl (lv_at hl 3 rfl) ?_
  refine lv_iconst (v := 1) hx hb dL_law_234 (by decide) ?_
  refine lv_iadd hx hb dL_law_235 ?_
  refine lv_topi (fun z_1 ez_1 => ?_)
  obtain rfl : z_1 = 1 := ez_1.trans (by decide)
  refine va_sld hx hb hX hbl hbA hS (vi rfl) dL_law_236 ?_
  have hPc := hP.sub (ws' := [(x0, .inr (10, fx)), (ht, .inr (0, ft))]) [0, 1] rfl
  have hDc := hD.sub (ws' := [(x0, .inr (10, fx)), (ht, .inr (0, ft))]) [0, 1] (by decide) rfl
  have hKc := hK.sub (tys' := []) [] rfl
  have hFc := va_free (wc := [(x0, .inr (10, fx)), (ht, .inr (0, ft))]) hD hS hA [0, 1] rfl
  refine va_calli (va_runV (As := [.int (xs (1 : Int32).toNatClampNeg)]) (rest := []) ⟨hx, hb, hml, hown, hts⟩ (m_X12_end l dC dI H.size x0 fx ht ft ((xs (1 : Int32).toNatClampNeg)) L_fx g_fx_0 L_ft g_ft_1) (cwV 1 hts (gd_V kw_429 kw_430 kw_431 kw_169 kw_432) rfl rfl rfl (by decide +kernel) ⟨Nat.le_of_ble_eq_true rfl, Nat.le_of_ble_eq_true rfl⟩) ⟨st_blind, va_recv hKc hPc (ci := 10) (q0 := 0) rfl rfl, fun U hU hW9 => st_mk hU hW9 hPc hKc hDc hex⟩ rfl rfl hl.1 rfl (lv_room (Nat.le_of_ble_eq_true rfl)) dL_law_237 ⟨Nat.le_of_ble_eq_true rfl, Nat.le_of_ble_eq_true rfl⟩) hS (fun q _ h => hFc q h) hFc (fun r_2 u9 t9 H1 locs ht9 hvm9 hw9 hB9 hz9 hk9 hS => ?_)
  have hP1 : va_P (dC, dI) cl0 [] H1 := fun k q h => by simp at h
  have hD1 : va_D (va_A [(x0, .inr (10, fx)), (ht, .inr (0, ft))] H.size) [] := ⟨fun i j p q h => by simp at h, fun k q h => by simp at h⟩
  obtain ⟨hP, hD⟩ := va_join (wr := [(htd, .inl (cB, 64, .inl (fun _ => 0))), (hw, .inr (0, fw)), (hc, .inr (2, fc)), (hr, .inr (6, fr)), (hm, .inr (5, fm)), (hma, .inl (cJ, 8, .inr (.inl (fun _ => 0)))), (hs, .inr (8, fq)), (hsa, .inl (cI, 12, .inl (fun _ => 0))), (y0, .inr (12, fy)), (hyt, .inl (cB2, 16000, .inl (fun _ => 0))), (hst, .inr (13, [])), (hya, .inl (cJ2, 8, .inr (.inl (fun _ => 0)))), (hyd, .inl (cI2, 12, .inl (fun _ => 0)))]) (w1 := []) hP hD [0, 1] [2, 3, 4, 5, 6, 7, 8, 9, 10, 11, 12, 13, 14] rfl rfl (by decide) (by decide) hk9 hFc hP1 hD1
  generalize H1 = H at hP hS ⊢
  have hP : va_P (dC, dI) cl0 [(htd, .inl (cB, 64, .inl (fun _ => 0))), (hw, .inr (0, fw)), (hc, .inr (2, fc)), (hr, .inr (6, fr)), (hm, .inr (5, fm)), (hma, .inl (cJ, 8, .inr (.inl (fun _ => 0)))), (hs, .inr (8, fq)), (hsa, .inl (cI, 12, .inl (fun _ => 0))), (y0, .inr (12, fy)), (hyt, .inl (cB2, 16000, .inl (fun _ => 0))), (hst, .inr (13, [])), (hya, .inl (cJ2, 8, .inr (.inl (fun _ => 0)))), (hyd, .inl (cI2, 12, .inl (fun _ => 0)))] H := hP
  have hD : va_D A [(htd, .inl (cB, 64, .inl (fun _ => 0))), (hw, .inr (0, fw)), (hc, .inr (2, fc)), (hr, .inr (6, fr)), (hm, .inr (5, fm)), (hma, .inl (cJ, 8, .inr (.inl (fun _ => 0)))), (hs, .inr (8, fq)), (hsa, .inl (cI, 12, .inl (fun _ => 0))), (y0, .inr (12, fy)), (hyt, .inl (cB2, 16000, .inl (fun _ => 0))), (hst, .inr (13, [])), (hya, .inl (cJ2, 8, .inr (.inl (fun _ => 0)))), (hyd, .inl (cI2, 12, .inl (fun _ => 0)))] := hD
  have hw9 : r_2 = (if (xs (1 : Int32).toNatClampNeg) < 0 then (0 : Int32) else if (xs (1 : Int32).toNatClampNeg) ≤ 0 then 1 else 0) := hw9
  subst hw9
  refine lv_aload_n hx hb dL_law_240 rfl (lv_at hl 2 rfl) ?_
  refine lv_aload_n hx hb dL_law_241 rfl (lv_at hl 0 rfl) ?_
  refine lv_iload_n hx hb dL_law_242 rfl (lv_at hl 3 rfl) ?_
  refine lv_iconst (v := 1) hx hb dL_law_243 (by decide) ?_
  refine lv_iadd hx hb dL_law_244 ?_
  refine lv_topi (fun z_3 ez_3 => ?_)
  obtain rfl : z_3 = 1 := ez_3.trans (by decide)
  refine va_sld hx hb hX hbl hbA hS (vi rfl) dL_law_245 ?_
  have hPc := hP.sub (ws' := [(y0, .inr (12, fy))]) [8] rfl
  have hDc := hD.sub (ws' := [(y0, .inr (12, fy))]) [8] (by decide) rfl
  have hKc := hK.sub (tys' := []) [] rfl
  have hFc := va_free (wc := [(y0, .inr (12, fy))]) hD hS hA [8] rfl
  refine va_calli (va_runV (As := [.int (xs (1 : Int32).toNatClampNeg)]) (rest := [.int (if (xs (1 : Int32).toNatClampNeg) < 0 then (0 : Int32) else if (xs (1 : Int32).toNatClampNeg) ≤ 0 then 1 else 0)]) ⟨hx, hb, hml, hown, hts⟩ (m_X14_end l dC dI H.size y0 fy ((xs (1 : Int32).toNatClampNeg)) L_fy g_fy_4) (cwV 1 hts (gd_V kw_433 kw_434 kw_435 kw_374 kw_436) rfl rfl rfl (by decide +kernel) ⟨Nat.le_of_ble_eq_true rfl, Nat.le_of_ble_eq_true rfl⟩) ⟨st_blind, va_recv hKc hPc (ci := 12) (q0 := 0) rfl rfl, fun U hU hW9 => st_mk hU hW9 hPc hKc hDc hex⟩ rfl rfl hl.1 rfl (lv_room (Nat.le_of_ble_eq_true rfl)) dL_law_246 ⟨Nat.le_of_ble_eq_true rfl, Nat.le_of_ble_eq_true rfl⟩) hS (fun q _ h => hFc q h) hFc (fun r_4 u9 t9 H1 locs ht9 hvm9 hw9 hB9 hz9 hk9 hS => ?_)
  have hP1 : va_P (dC, dI) cl0 [] H1 := fun k q h => by simp at h
  have hD1 : va_D (va_A [(y0, .inr (12, fy))] H.size) [] := ⟨fun i j p q h => by simp at h, fun k q h => by simp at h⟩
  obtain ⟨hP, hD⟩ := va_join (wr := [(htd, .inl (cB, 64, .inl (fun _ => 0))), (hw, .inr (0, fw)), (hc, .inr (2, fc)), (hr, .inr (6, fr)), (hm, .inr (5, fm)), (hma, .inl (cJ, 8, .inr (.inl (fun _ => 0)))), (hs, .inr (8, fq)), (hsa, .inl (cI, 12, .inl (fun _ => 0))), (hyt, .inl (cB2, 16000, .inl (fun _ => 0))), (hst, .inr (13, [])), (hya, .inl (cJ2, 8, .inr (.inl (fun _ => 0)))), (hyd, .inl (cI2, 12, .inl (fun _ => 0)))]) (w1 := []) hP hD [8] [0, 1, 2, 3, 4, 5, 6, 7, 9, 10, 11, 12] rfl rfl (by decide) (by decide) hk9 hFc hP1 hD1
  generalize H1 = H at hP hS ⊢
  have hP : va_P (dC, dI) cl0 [(htd, .inl (cB, 64, .inl (fun _ => 0))), (hw, .inr (0, fw)), (hc, .inr (2, fc)), (hr, .inr (6, fr)), (hm, .inr (5, fm)), (hma, .inl (cJ, 8, .inr (.inl (fun _ => 0)))), (hs, .inr (8, fq)), (hsa, .inl (cI, 12, .inl (fun _ => 0))), (hyt, .inl (cB2, 16000, .inl (fun _ => 0))), (hst, .inr (13, [])), (hya, .inl (cJ2, 8, .inr (.inl (fun _ => 0)))), (hyd, .inl (cI2, 12, .inl (fun _ => 0)))] H := hP
  have hD : va_D A [(htd, .inl (cB, 64, .inl (fun _ => 0))), (hw, .inr (0, fw)), (hc, .inr (2, fc)), (hr, .inr (6, fr)), (hm, .inr (5, fm)), (hma, .inl (cJ, 8, .inr (.inl (fun _ => 0)))), (hs, .inr (8, fq)), (hsa, .inl (cI, 12, .inl (fun _ => 0))), (hyt, .inl (cB2, 16000, .inl (fun _ => 0))), (hst, .inr (13, [])), (hya, .inl (cJ2, 8, .inr (.inl (fun _ => 0)))), (hyd, .inl (cI2, 12, .inl (fun _ => 0)))] := hD
  have hw9 : r_4 = (if (xs (1 : Int32).toNatClampNeg) < 0 then (0 : Int32) else if (xs (1 : Int32).toNatClampNeg) ≤ 0 then 1 else 0) := hw9
  subst hw9
  refine lv_icmp_eq (tgt := 1010) hx hb dL_law_249 (by decide) (fun _ => ?_) (fun c9 => absurd rfl c9)
  refine W.widen (k := 173) (n := 857181) (Nat.le_refl _) (Nat.le_refl _) ?_
  exact law_end hAd C0 hS hl
set_option maxHeartbeats 4000000 in
set_option maxRecDepth 100000 in
theorem law_c2 {p : Program} {l : Launch} {e : Env} {s : State} {m : MethodId} {below : List Frame} {meth : Method} {c : Code} {dC : Nat → ClassId} {dI : Nat → Nat → Nat} {b L : Nat} {xs : Nat → Int32} {A : Nat → Prop} (hAd : A = fun q : Nat => s.heap.size ≤ q) (hL6 : L = 6) (C0 : lw_At p s m meth c b L xs) (hex : ex s) (hE : mg A s s.heap) {x0 y0 : Nat} {H : Heap} {locs : List Loc} (hF : law_fr dC dI A x0 y0 s H) (hS : va_S A s.heap H locs) {ls : Array Slot} (hl : lv_has ls 4 [(0, .ref b), (1, .ref x0), (2, .ref y0), (3, .int 0)]) : W p l e room_1 s m #[Value.ref b] below meth c H locs 173 857181 (lw_Z below #[Value.ref b] s) (F0 m 254 ls []) := by
  subst hL6
  obtain ⟨hx, hb, hr, hml, hown, hts1, hX, hbl, hlocks, hgv⟩ := id C0
  have hts : ∀ w ∈ tb, w.before #[Value.ref b] s = true := fun w h => hts1 w (tb_lw w h)
  have hown : s.vm.findClass RL = some m.cls := hown
  have hA : ∀ q : Nat, s.heap.size ≤ q → A q := fun q h => by rw [hAd]; exact h
  have hbA : ¬ A b := by rw [hAd]; exact Nat.not_le.mpr hbl
  obtain ⟨fx, ht, ft, htd, cB, hw, fw, hc, fc, hr, fr, hm, fm, hma, cJ, hs, fq, hsa, cI, fy, hyt, cB2, hst, hya, cJ2, hyd, cI2, L_fx, g_fx_0, g_fx_1, g_fx_4, g_fx_7, g_fx_9, g_fx_10, g_fx_11, g_fx_12, g_fx_13, g_fx_14, g_fx_15, g_fx_16, L_ft, g_ft_0, g_ft_1, L_fw, g_fw_1, L_fc, g_fc_0, L_fr, L_fm, g_fm_0, g_fm_5, g_fm_6, g_fm_7, g_fm_16, g_fm_17, g_fm_18, g_fm_19, L_fq, g_fq_1, L_fy, g_fy_1, g_fy_3, g_fy_4, g_fy_5, g_fy_6, g_fy_9, g_fy_10, g_fy_64, g_fy_65, g_fy_78, g_fy_80, g_fy_85, g_fy_87, g_fy_88, g_fy_96, g_fy_100, g_fy_101, g_fy_102, g_fy_124, hP, hK, hD⟩ := hF
  refine lv_aload_n hx hb dL_law_254 rfl (lv_at hl 1 rfl) ?_
  have hPc := hP.sub (ws' := [(x0, .inr (10, fx)), (hc, .inr (2, fc)), (hr, .inr (6, fr)), (ht, .inr (0, ft))]) [0, 4, 5, 1] rfl
  have hDc := hD.sub (ws' := [(x0, .inr (10, fx)), (hc, .inr (2, fc)), (hr, .inr (6, fr)), (ht, .inr (0, ft))]) [0, 4, 5, 1] (by decide) rfl
  have hKc := hK.sub (tys' := []) [] rfl
  have hFc := va_free (wc := [(x0, .inr (10, fx)), (hc, .inr (2, fc)), (hr, .inr (6, fr)), (ht, .inr (0, ft))]) hD hS hA [0, 4, 5, 1] rfl
  refine va_calli (va_runV (As := []) (rest := []) ⟨hx, hb, hml, hown, hts⟩ (m_X12_file l dC dI H.size x0 fx hc fc hr fr ht ft htd L_fx g_fx_0 g_fx_4 g_fx_11 L_fc g_fc_0 L_fr L_ft g_ft_0 g_ft_1) (cwV 0 hts (gd_V kw_437 kw_438 kw_439 kw_169 kw_440) rfl rfl rfl (by decide +kernel) ⟨Nat.le_of_ble_eq_true rfl, Nat.le_of_ble_eq_true rfl⟩) ⟨(st_blindE mg_calling), va_recv hKc hPc (ci := 10) (q0 := 0) rfl rfl, fun U hU hW9 => st_mkE hU hW9 hPc hKc hDc hex (mg_pass hE hS hFc hU hW9)⟩ rfl rfl hl.1 rfl (lv_room (Nat.le_of_ble_eq_true rfl)) dL_law_255 ⟨Nat.le_of_ble_eq_true rfl, Nat.le_of_ble_eq_true rfl⟩) hS (fun q _ h => hFc q h) hFc (fun r_1 u9 t9 H1 locs ht9 hvm9 hw9 hB9 hz9 hk9 hS => ?_)
  have hP1 : va_P (dC, dI) cl0 [] H1 := fun k q h => by simp at h
  have hD1 : va_D (va_A [(x0, .inr (10, fx)), (hc, .inr (2, fc)), (hr, .inr (6, fr)), (ht, .inr (0, ft))] H.size) [] := ⟨fun i j p q h => by simp at h, fun k q h => by simp at h⟩
  obtain ⟨hP, hD⟩ := va_join (wr := [(htd, .inl (cB, 64, .inl (fun _ => 0))), (hw, .inr (0, fw)), (hm, .inr (5, fm)), (hma, .inl (cJ, 8, .inr (.inl (fun _ => 0)))), (hs, .inr (8, fq)), (hsa, .inl (cI, 12, .inl (fun _ => 0))), (y0, .inr (12, fy)), (hyt, .inl (cB2, 16000, .inl (fun _ => 0))), (hst, .inr (13, [])), (hya, .inl (cJ2, 8, .inr (.inl (fun _ => 0)))), (hyd, .inl (cI2, 12, .inl (fun _ => 0)))]) (w1 := []) hP hD [0, 4, 5, 1] [2, 3, 6, 7, 8, 9, 10, 11, 12, 13, 14] rfl rfl (by decide) (by decide) hk9 hFc hP1 hD1
  generalize H1 = H at hP hS ⊢
  have hP : va_P (dC, dI) cl0 [(htd, .inl (cB, 64, .inl (fun _ => 0))), (hw, .inr (0, fw)), (hm, .inr (5, fm)), (hma, .inl (cJ, 8, .inr (.inl (fun _ => 0)))), (hs, .inr (8, fq)), (hsa, .inl (cI, 12, .inl (fun _ => 0))), (y0, .inr (12, fy)), (hyt, .inl (cB2, 16000, .inl (fun _ => 0))), (hst, .inr (13, [])), (hya, .inl (cJ2, 8, .inr (.inl (fun _ => 0)))), (hyd, .inl (cI2, 12, .inl (fun _ => 0)))] H := hP
  have hD : va_D A [(htd, .inl (cB, 64, .inl (fun _ => 0))), (hw, .inr (0, fw)), (hm, .inr (5, fm)), (hma, .inl (cJ, 8, .inr (.inl (fun _ => 0)))), (hs, .inr (8, fq)), (hsa, .inl (cI, 12, .inl (fun _ => 0))), (y0, .inr (12, fy)), (hyt, .inl (cB2, 16000, .inl (fun _ => 0))), (hst, .inr (13, [])), (hya, .inl (cJ2, 8, .inr (.inl (fun _ => 0)))), (hyd, .inl (cI2, 12, .inl (fun _ => 0)))] := hD
  have hw9 : r_1 = (-1) := hw9
  subst hw9
  refine lv_aload_n hx hb dL_law_258 rfl (lv_at hl 2 rfl) ?_
  have hPc := hP.sub (ws' := [(y0, .inr (12, fy)), (hst, .inr (13, []))]) [6, 8] rfl
  have hDc := hD.sub (ws' := [(y0, .inr (12, fy)), (hst, .inr (13, []))]) [6, 8] (by decide) rfl
  have hKc := hK.sub (tys' := []) [] rfl
  have hFc := va_free (wc := [(y0, .inr (12, fy)), (hst, .inr (13, []))]) hD hS hA [6, 8] rfl
  refine vx_calli (vx_runVX (As := []) (rest := [.int (-1)]) ⟨hx, hb, hml, hown, hts⟩ (m_X14_file l dC dI H.size y0 fy hst hyt L_fy g_fy_1 g_fy_3 g_fy_4 g_fy_6) (vx_cwVW (hh := [(32, 45, 46, 19)]) 0 hts (gd_W kw_441 kw_442 kw_443 kw_374 kw_444) rfl rfl rfl (by decide +kernel) ⟨Nat.le_of_ble_eq_true rfl, Nat.le_of_ble_eq_true rfl⟩) ⟨st_blind, va_recv hKc hPc (ci := 12) (q0 := 0) rfl rfl, fun U hU hW9 => st_mk hU hW9 hPc hKc hDc hex⟩ rfl rfl hl.1 rfl (lv_room (Nat.le_of_ble_eq_true rfl)) dL_law_259 ⟨Nat.le_of_ble_eq_true rfl, Nat.le_of_ble_eq_true rfl⟩) hS (fun q _ h => hFc q h) hFc (fun q _ h => hFc q h) (fun E9 ce9 q9 u9 t9 H1 locs ht9 hvm9 hp9 hB9 hz9 hk9 hS hce9 hcv9 hcl9 => hp9.elim) (fun r_2 u9 t9 H1 locs ht9 hvm9 hw9 hB9 hz9 hk9 hS => ?_)
  have hP1 : va_P (dC, dI) cl0 [] H1 := fun k q h => by simp at h
  have hD1 : va_D (va_A [(y0, .inr (12, fy)), (hst, .inr (13, []))] H.size) [] := ⟨fun i j p q h => by simp at h, fun k q h => by simp at h⟩
  obtain ⟨hP, hD⟩ := va_join (wr := [(htd, .inl (cB, 64, .inl (fun _ => 0))), (hw, .inr (0, fw)), (hm, .inr (5, fm)), (hma, .inl (cJ, 8, .inr (.inl (fun _ => 0)))), (hs, .inr (8, fq)), (hsa, .inl (cI, 12, .inl (fun _ => 0))), (hyt, .inl (cB2, 16000, .inl (fun _ => 0))), (hya, .inl (cJ2, 8, .inr (.inl (fun _ => 0)))), (hyd, .inl (cI2, 12, .inl (fun _ => 0)))]) (w1 := []) hP hD [6, 8] [0, 1, 2, 3, 4, 5, 7, 9, 10] rfl rfl (by decide) (by decide) hk9 hFc hP1 hD1
  generalize H1 = H at hP hS ⊢
  have hP : va_P (dC, dI) cl0 [(htd, .inl (cB, 64, .inl (fun _ => 0))), (hw, .inr (0, fw)), (hm, .inr (5, fm)), (hma, .inl (cJ, 8, .inr (.inl (fun _ => 0)))), (hs, .inr (8, fq)), (hsa, .inl (cI, 12, .inl (fun _ => 0))), (hyt, .inl (cB2, 16000, .inl (fun _ => 0))), (hya, .inl (cJ2, 8, .inr (.inl (fun _ => 0)))), (hyd, .inl (cI2, 12, .inl (fun _ => 0)))] H := hP
  have hD : va_D A [(htd, .inl (cB, 64, .inl (fun _ => 0))), (hw, .inr (0, fw)), (hm, .inr (5, fm)), (hma, .inl (cJ, 8, .inr (.inl (fun _ => 0)))), (hs, .inr (8, fq)), (hsa, .inl (cI, 12, .inl (fun _ => 0))), (hyt, .inl (cB2, 16000, .inl (fun _ => 0))), (hya, .inl (cJ2, 8, .inr (.inl (fun _ => 0)))), (hyd, .inl (cI2, 12, .inl (fun _ => 0)))] := hD
  have hw9 : r_2 = (-1) := hw9
  subst hw9
  refine lv_icmp_eq (tgt := 1010) hx hb dL_law_262 (by decide) (fun _ => ?_) (fun c9 => absurd (by decide) c9)
  refine W.widen (k := 173) (n := 857181) (Nat.le_refl _) (Nat.le_refl _) ?_
  exact law_end hAd C0 hS hl
set_option maxHeartbeats 4000000 in
set_option maxRecDepth 100000 in
theorem law_c3 {p : Program} {l : Launch} {e : Env} {s : State} {m : MethodId} {below : List Frame} {meth : Method} {c : Code} {dC : Nat → ClassId} {dI : Nat → Nat → Nat} {b L : Nat} {xs : Nat → Int32} {A : Nat → Prop} (hAd : A = fun q : Nat => s.heap.size ≤ q) (hL6 : L = 6) (C0 : lw_At p s m meth c b L xs) (hex : ex s) (hE : mg A s s.heap) {x0 y0 : Nat} {H : Heap} {locs : List Loc} (hF : law_fr dC dI A x0 y0 s H) (hS : va_S A s.heap H locs) {ls : Array Slot} (hl : lv_has ls 4 [(0, .ref b), (1, .ref x0), (2, .ref y0), (3, .int 0)]) : W p l e room_1 s m #[Value.ref b] below meth c H locs 173 857181 (lw_Z below #[Value.ref b] s) (F0 m 267 ls []) := by
  subst hL6
  obtain ⟨hx, hb, hr, hml, hown, hts1, hX, hbl, hlocks, hgv⟩ := id C0
  have hts : ∀ w ∈ tb, w.before #[Value.ref b] s = true := fun w h => hts1 w (tb_lw w h)
  have hown : s.vm.findClass RL = some m.cls := hown
  have hA : ∀ q : Nat, s.heap.size ≤ q → A q := fun q h => by rw [hAd]; exact h
  have hbA : ¬ A b := by rw [hAd]; exact Nat.not_le.mpr hbl
  obtain ⟨fx, ht, ft, htd, cB, hw, fw, hc, fc, hr, fr, hm, fm, hma, cJ, hs, fq, hsa, cI, fy, hyt, cB2, hst, hya, cJ2, hyd, cI2, L_fx, g_fx_0, g_fx_1, g_fx_4, g_fx_7, g_fx_9, g_fx_10, g_fx_11, g_fx_12, g_fx_13, g_fx_14, g_fx_15, g_fx_16, L_ft, g_ft_0, g_ft_1, L_fw, g_fw_1, L_fc, g_fc_0, L_fr, L_fm, g_fm_0, g_fm_5, g_fm_6, g_fm_7, g_fm_16, g_fm_17, g_fm_18, g_fm_19, L_fq, g_fq_1, L_fy, g_fy_1, g_fy_3, g_fy_4, g_fy_5, g_fy_6, g_fy_9, g_fy_10, g_fy_64, g_fy_65, g_fy_78, g_fy_80, g_fy_85, g_fy_87, g_fy_88, g_fy_96, g_fy_100, g_fy_101, g_fy_102, g_fy_124, hP, hK, hD⟩ := hF
  refine lv_aload_n hx hb dL_law_267 rfl (lv_at hl 1 rfl) ?_
  have hPc := hP.sub (ws' := [(x0, .inr (10, fx))]) [0] rfl
  have hDc := hD.sub (ws' := [(x0, .inr (10, fx))]) [0] (by decide) rfl
  have hKc := hK.sub (tys' := []) [] rfl
  have hFc := va_free (wc := [(x0, .inr (10, fx))]) hD hS hA [0] rfl
  refine va_calli (va_runV (As := []) (rest := []) ⟨hx, hb, hml, hown, hts⟩ (m_X12_rule l dC dI H.size x0 fx L_fx g_fx_13) (cwV 0 hts (gd_V kw_445 kw_446 kw_447 kw_169 kw_448) rfl rfl rfl (by decide +kernel) ⟨Nat.le_of_ble_eq_true rfl, Nat.le_of_ble_eq_true rfl⟩) ⟨st_blind, va_recv hKc hPc (ci := 10) (q0 := 0) rfl rfl, fun U hU hW9 => st_mk hU hW9 hPc hKc hDc hex⟩ rfl rfl hl.1 rfl (lv_room (Nat.le_of_ble_eq_true rfl)) dL_law_268 ⟨Nat.le_of_ble_eq_true rfl, Nat.le_of_ble_eq_true rfl⟩) hS (fun q _ h => hFc q h) hFc (fun r_1 u9 t9 H1 locs ht9 hvm9 hw9 hB9 hz9 hk9 hS => ?_)
  have hP1 : va_P (dC, dI) cl0 [] H1 := fun k q h => by simp at h
  have hD1 : va_D (va_A [(x0, .inr (10, fx))] H.size) [] := ⟨fun i j p q h => by simp at h, fun k q h => by simp at h⟩
  obtain ⟨hP, hD⟩ := va_join (wr := [(ht, .inr (0, ft)), (htd, .inl (cB, 64, .inl (fun _ => 0))), (hw, .inr (0, fw)), (hc, .inr (2, fc)), (hr, .inr (6, fr)), (hm, .inr (5, fm)), (hma, .inl (cJ, 8, .inr (.inl (fun _ => 0)))), (hs, .inr (8, fq)), (hsa, .inl (cI, 12, .inl (fun _ => 0))), (y0, .inr (12, fy)), (hyt, .inl (cB2, 16000, .inl (fun _ => 0))), (hst, .inr (13, [])), (hya, .inl (cJ2, 8, .inr (.inl (fun _ => 0)))), (hyd, .inl (cI2, 12, .inl (fun _ => 0)))]) (w1 := []) hP hD [0] [1, 2, 3, 4, 5, 6, 7, 8, 9, 10, 11, 12, 13, 14] rfl rfl (by decide) (by decide) hk9 hFc hP1 hD1
  generalize H1 = H at hP hS ⊢
  have hP : va_P (dC, dI) cl0 [(ht, .inr (0, ft)), (htd, .inl (cB, 64, .inl (fun _ => 0))), (hw, .inr (0, fw)), (hc, .inr (2, fc)), (hr, .inr (6, fr)), (hm, .inr (5, fm)), (hma, .inl (cJ, 8, .inr (.inl (fun _ => 0)))), (hs, .inr (8, fq)), (hsa, .inl (cI, 12, .inl (fun _ => 0))), (y0, .inr (12, fy)), (hyt, .inl (cB2, 16000, .inl (fun _ => 0))), (hst, .inr (13, [])), (hya, .inl (cJ2, 8, .inr (.inl (fun _ => 0)))), (hyd, .inl (cI2, 12, .inl (fun _ => 0)))] H := hP
  have hD : va_D A [(ht, .inr (0, ft)), (htd, .inl (cB, 64, .inl (fun _ => 0))), (hw, .inr (0, fw)), (hc, .inr (2, fc)), (hr, .inr (6, fr)), (hm, .inr (5, fm)), (hma, .inl (cJ, 8, .inr (.inl (fun _ => 0)))), (hs, .inr (8, fq)), (hsa, .inl (cI, 12, .inl (fun _ => 0))), (y0, .inr (12, fy)), (hyt, .inl (cB2, 16000, .inl (fun _ => 0))), (hst, .inr (13, [])), (hya, .inl (cJ2, 8, .inr (.inl (fun _ => 0)))), (hyd, .inl (cI2, 12, .inl (fun _ => 0)))] := hD
  have hw9 : r_1 = 0 := hw9
  subst hw9
  refine lv_aload_n hx hb dL_law_271 rfl (lv_at hl 2 rfl) ?_
  have hPc := hP.sub (ws' := [(y0, .inr (12, fy))]) [9] rfl
  have hDc := hD.sub (ws' := [(y0, .inr (12, fy))]) [9] (by decide) rfl
  have hKc := hK.sub (tys' := []) [] rfl
  have hFc := va_free (wc := [(y0, .inr (12, fy))]) hD hS hA [9] rfl
  refine va_calli (va_runV (As := []) (rest := [.int 0]) ⟨hx, hb, hml, hown, hts⟩ (m_X14_rule l dC dI H.size y0 fy L_fy g_fy_9) (cwV 0 hts (gd_V kw_449 kw_450 kw_451 kw_374 kw_452) rfl rfl rfl (by decide +kernel) ⟨Nat.le_of_ble_eq_true rfl, Nat.le_of_ble_eq_true rfl⟩) ⟨st_blind, va_recv hKc hPc (ci := 12) (q0 := 0) rfl rfl, fun U hU hW9 => st_mk hU hW9 hPc hKc hDc hex⟩ rfl rfl hl.1 rfl (lv_room (Nat.le_of_ble_eq_true rfl)) dL_law_272 ⟨Nat.le_of_ble_eq_true rfl, Nat.le_of_ble_eq_true rfl⟩) hS (fun q _ h => hFc q h) hFc (fun r_2 u9 t9 H1 locs ht9 hvm9 hw9 hB9 hz9 hk9 hS => ?_)
  have hP1 : va_P (dC, dI) cl0 [] H1 := fun k q h => by simp at h
  have hD1 : va_D (va_A [(y0, .inr (12, fy))] H.size) [] := ⟨fun i j p q h => by simp at h, fun k q h => by simp at h⟩
  obtain ⟨hP, hD⟩ := va_join (wr := [(ht, .inr (0, ft)), (htd, .inl (cB, 64, .inl (fun _ => 0))), (hw, .inr (0, fw)), (hc, .inr (2, fc)), (hr, .inr (6, fr)), (hm, .inr (5, fm)), (hma, .inl (cJ, 8, .inr (.inl (fun _ => 0)))), (hs, .inr (8, fq)), (hsa, .inl (cI, 12, .inl (fun _ => 0))), (hyt, .inl (cB2, 16000, .inl (fun _ => 0))), (hst, .inr (13, [])), (hya, .inl (cJ2, 8, .inr (.inl (fun _ => 0)))), (hyd, .inl (cI2, 12, .inl (fun _ => 0)))]) (w1 := []) hP hD [9] [0, 1, 2, 3, 4, 5, 6, 7, 8, 10, 11, 12, 13] rfl rfl (by decide) (by decide) hk9 hFc hP1 hD1
  generalize H1 = H at hP hS ⊢
  have hP : va_P (dC, dI) cl0 [(ht, .inr (0, ft)), (htd, .inl (cB, 64, .inl (fun _ => 0))), (hw, .inr (0, fw)), (hc, .inr (2, fc)), (hr, .inr (6, fr)), (hm, .inr (5, fm)), (hma, .inl (cJ, 8, .inr (.inl (fun _ => 0)))), (hs, .inr (8, fq)), (hsa, .inl (cI, 12, .inl (fun _ => 0))), (hyt, .inl (cB2, 16000, .inl (fun _ => 0))), (hst, .inr (13, [])), (hya, .inl (cJ2, 8, .inr (.inl (fun _ => 0)))), (hyd, .inl (cI2, 12, .inl (fun _ => 0)))] H := hP
  have hD : va_D A [(ht, .inr (0, ft)), (htd, .inl (cB, 64, .inl (fun _ => 0))), (hw, .inr (0, fw)), (hc, .inr (2, fc)), (hr, .inr (6, fr)), (hm, .inr (5, fm)), (hma, .inl (cJ, 8, .inr (.inl (fun _ => 0)))), (hs, .inr (8, fq)), (hsa, .inl (cI, 12, .inl (fun _ => 0))), (hyt, .inl (cB2, 16000, .inl (fun _ => 0))), (hst, .inr (13, [])), (hya, .inl (cJ2, 8, .inr (.inl (fun _ => 0)))), (hyd, .inl (cI2, 12, .inl (fun _ => 0)))] := hD
  have hw9 : r_2 = 0 := hw9
  subst hw9
  refine lv_icmp_eq (tgt := 1010) hx hb dL_law_275 (by decide) (fun _ => ?_) (fun c9 => absurd (by decide) c9)
  refine W.widen (k := 173) (n := 857181) (Nat.le_refl _) (Nat.le_refl _) ?_
  exact law_end hAd C0 hS hl
set_option maxHeartbeats 4000000 in
set_option maxRecDepth 100000 in
theorem law_c4 {p : Program} {l : Launch} {e : Env} {s : State} {m : MethodId} {below : List Frame} {meth : Method} {c : Code} {dC : Nat → ClassId} {dI : Nat → Nat → Nat} {b L : Nat} {xs : Nat → Int32} {A : Nat → Prop} (hAd : A = fun q : Nat => s.heap.size ≤ q) (hL6 : L = 6) (C0 : lw_At p s m meth c b L xs) (hex : ex s) (hE : mg A s s.heap) {x0 y0 : Nat} {H : Heap} {locs : List Loc} (hF : law_fr dC dI A x0 y0 s H) (hS : va_S A s.heap H locs) {ls : Array Slot} (hl : lv_has ls 4 [(0, .ref b), (1, .ref x0), (2, .ref y0), (3, .int 0)]) : W p l e room_1 s m #[Value.ref b] below meth c H locs 173 857181 (lw_Z below #[Value.ref b] s) (F0 m 280 ls []) := by
  subst hL6
  obtain ⟨hx, hb, hr, hml, hown, hts1, hX, hbl, hlocks, hgv⟩ := id C0
  have hts : ∀ w ∈ tb, w.before #[Value.ref b] s = true := fun w h => hts1 w (tb_lw w h)
  have hown : s.vm.findClass RL = some m.cls := hown
  have hA : ∀ q : Nat, s.heap.size ≤ q → A q := fun q h => by rw [hAd]; exact h
  have hbA : ¬ A b := by rw [hAd]; exact Nat.not_le.mpr hbl
  obtain ⟨fx, ht, ft, htd, cB, hw, fw, hc, fc, hr, fr, hm, fm, hma, cJ, hs, fq, hsa, cI, fy, hyt, cB2, hst, hya, cJ2, hyd, cI2, L_fx, g_fx_0, g_fx_1, g_fx_4, g_fx_7, g_fx_9, g_fx_10, g_fx_11, g_fx_12, g_fx_13, g_fx_14, g_fx_15, g_fx_16, L_ft, g_ft_0, g_ft_1, L_fw, g_fw_1, L_fc, g_fc_0, L_fr, L_fm, g_fm_0, g_fm_5, g_fm_6, g_fm_7, g_fm_16, g_fm_17, g_fm_18, g_fm_19, L_fq, g_fq_1, L_fy, g_fy_1, g_fy_3, g_fy_4, g_fy_5, g_fy_6, g_fy_9, g_fy_10, g_fy_64, g_fy_65, g_fy_78, g_fy_80, g_fy_85, g_fy_87, g_fy_88, g_fy_96, g_fy_100, g_fy_101, g_fy_102, g_fy_124, hP, hK, hD⟩ := hF
  refine lv_aload_n hx hb dL_law_280 rfl (lv_at hl 1 rfl) ?_
  have hPc := hP.sub (ws' := [(x0, .inr (10, fx))]) [0] rfl
  have hDc := hD.sub (ws' := [(x0, .inr (10, fx))]) [0] (by decide) rfl
  have hKc := hK.sub (tys' := []) [] rfl
  have hFc := va_free (wc := [(x0, .inr (10, fx))]) hD hS hA [0] rfl
  refine va_calli (va_runV (As := []) (rest := []) ⟨hx, hb, hml, hown, hts⟩ (m_X12_place l dC dI H.size x0 fx L_fx g_fx_14) (cwV 0 hts (gd_V kw_453 kw_454 kw_455 kw_169 kw_456) rfl rfl rfl (by decide +kernel) ⟨Nat.le_of_ble_eq_true rfl, Nat.le_of_ble_eq_true rfl⟩) ⟨st_blind, va_recv hKc hPc (ci := 10) (q0 := 0) rfl rfl, fun U hU hW9 => st_mk hU hW9 hPc hKc hDc hex⟩ rfl rfl hl.1 rfl (lv_room (Nat.le_of_ble_eq_true rfl)) dL_law_281 ⟨Nat.le_of_ble_eq_true rfl, Nat.le_of_ble_eq_true rfl⟩) hS (fun q _ h => hFc q h) hFc (fun r_1 u9 t9 H1 locs ht9 hvm9 hw9 hB9 hz9 hk9 hS => ?_)
  have hP1 : va_P (dC, dI) cl0 [] H1 := fun k q h => by simp at h
  have hD1 : va_D (va_A [(x0, .inr (10, fx))] H.size) [] := ⟨fun i j p q h => by simp at h, fun k q h => by simp at h⟩
  obtain ⟨hP, hD⟩ := va_join (wr := [(ht, .inr (0, ft)), (htd, .inl (cB, 64, .inl (fun _ => 0))), (hw, .inr (0, fw)), (hc, .inr (2, fc)), (hr, .inr (6, fr)), (hm, .inr (5, fm)), (hma, .inl (cJ, 8, .inr (.inl (fun _ => 0)))), (hs, .inr (8, fq)), (hsa, .inl (cI, 12, .inl (fun _ => 0))), (y0, .inr (12, fy)), (hyt, .inl (cB2, 16000, .inl (fun _ => 0))), (hst, .inr (13, [])), (hya, .inl (cJ2, 8, .inr (.inl (fun _ => 0)))), (hyd, .inl (cI2, 12, .inl (fun _ => 0)))]) (w1 := []) hP hD [0] [1, 2, 3, 4, 5, 6, 7, 8, 9, 10, 11, 12, 13, 14] rfl rfl (by decide) (by decide) hk9 hFc hP1 hD1
  generalize H1 = H at hP hS ⊢
  have hP : va_P (dC, dI) cl0 [(ht, .inr (0, ft)), (htd, .inl (cB, 64, .inl (fun _ => 0))), (hw, .inr (0, fw)), (hc, .inr (2, fc)), (hr, .inr (6, fr)), (hm, .inr (5, fm)), (hma, .inl (cJ, 8, .inr (.inl (fun _ => 0)))), (hs, .inr (8, fq)), (hsa, .inl (cI, 12, .inl (fun _ => 0))), (y0, .inr (12, fy)), (hyt, .inl (cB2, 16000, .inl (fun _ => 0))), (hst, .inr (13, [])), (hya, .inl (cJ2, 8, .inr (.inl (fun _ => 0)))), (hyd, .inl (cI2, 12, .inl (fun _ => 0)))] H := hP
  have hD : va_D A [(ht, .inr (0, ft)), (htd, .inl (cB, 64, .inl (fun _ => 0))), (hw, .inr (0, fw)), (hc, .inr (2, fc)), (hr, .inr (6, fr)), (hm, .inr (5, fm)), (hma, .inl (cJ, 8, .inr (.inl (fun _ => 0)))), (hs, .inr (8, fq)), (hsa, .inl (cI, 12, .inl (fun _ => 0))), (y0, .inr (12, fy)), (hyt, .inl (cB2, 16000, .inl (fun _ => 0))), (hst, .inr (13, [])), (hya, .inl (cJ2, 8, .inr (.inl (fun _ => 0)))), (hyd, .inl (cI2, 12, .inl (fun _ => 0)))] := hD
  have hw9 : r_1 = (-1) := hw9
  subst hw9
  refine lv_aload_n hx hb dL_law_284 rfl (lv_at hl 2 rfl) ?_
  have hPc := hP.sub (ws' := [(y0, .inr (12, fy))]) [9] rfl
  have hDc := hD.sub (ws' := [(y0, .inr (12, fy))]) [9] (by decide) rfl
  have hKc := hK.sub (tys' := []) [] rfl
  have hFc := va_free (wc := [(y0, .inr (12, fy))]) hD hS hA [9] rfl
  refine va_calli (va_runV (As := []) (rest := [.int (-1)]) ⟨hx, hb, hml, hown, hts⟩ (m_X14_place l dC dI H.size y0 fy L_fy g_fy_10) (cwV 0 hts (gd_V kw_457 kw_458 kw_459 kw_374 kw_460) rfl rfl rfl (by decide +kernel) ⟨Nat.le_of_ble_eq_true rfl, Nat.le_of_ble_eq_true rfl⟩) ⟨st_blind, va_recv hKc hPc (ci := 12) (q0 := 0) rfl rfl, fun U hU hW9 => st_mk hU hW9 hPc hKc hDc hex⟩ rfl rfl hl.1 rfl (lv_room (Nat.le_of_ble_eq_true rfl)) dL_law_285 ⟨Nat.le_of_ble_eq_true rfl, Nat.le_of_ble_eq_true rfl⟩) hS (fun q _ h => hFc q h) hFc (fun r_2 u9 t9 H1 locs ht9 hvm9 hw9 hB9 hz9 hk9 hS => ?_)
  have hP1 : va_P (dC, dI) cl0 [] H1 := fun k q h => by simp at h
  have hD1 : va_D (va_A [(y0, .inr (12, fy))] H.size) [] := ⟨fun i j p q h => by simp at h, fun k q h => by simp at h⟩
  obtain ⟨hP, hD⟩ := va_join (wr := [(ht, .inr (0, ft)), (htd, .inl (cB, 64, .inl (fun _ => 0))), (hw, .inr (0, fw)), (hc, .inr (2, fc)), (hr, .inr (6, fr)), (hm, .inr (5, fm)), (hma, .inl (cJ, 8, .inr (.inl (fun _ => 0)))), (hs, .inr (8, fq)), (hsa, .inl (cI, 12, .inl (fun _ => 0))), (hyt, .inl (cB2, 16000, .inl (fun _ => 0))), (hst, .inr (13, [])), (hya, .inl (cJ2, 8, .inr (.inl (fun _ => 0)))), (hyd, .inl (cI2, 12, .inl (fun _ => 0)))]) (w1 := []) hP hD [9] [0, 1, 2, 3, 4, 5, 6, 7, 8, 10, 11, 12, 13] rfl rfl (by decide) (by decide) hk9 hFc hP1 hD1
  generalize H1 = H at hP hS ⊢
  have hP : va_P (dC, dI) cl0 [(ht, .inr (0, ft)), (htd, .inl (cB, 64, .inl (fun _ => 0))), (hw, .inr (0, fw)), (hc, .inr (2, fc)), (hr, .inr (6, fr)), (hm, .inr (5, fm)), (hma, .inl (cJ, 8, .inr (.inl (fun _ => 0)))), (hs, .inr (8, fq)), (hsa, .inl (cI, 12, .inl (fun _ => 0))), (hyt, .inl (cB2, 16000, .inl (fun _ => 0))), (hst, .inr (13, [])), (hya, .inl (cJ2, 8, .inr (.inl (fun _ => 0)))), (hyd, .inl (cI2, 12, .inl (fun _ => 0)))] H := hP
  have hD : va_D A [(ht, .inr (0, ft)), (htd, .inl (cB, 64, .inl (fun _ => 0))), (hw, .inr (0, fw)), (hc, .inr (2, fc)), (hr, .inr (6, fr)), (hm, .inr (5, fm)), (hma, .inl (cJ, 8, .inr (.inl (fun _ => 0)))), (hs, .inr (8, fq)), (hsa, .inl (cI, 12, .inl (fun _ => 0))), (hyt, .inl (cB2, 16000, .inl (fun _ => 0))), (hst, .inr (13, [])), (hya, .inl (cJ2, 8, .inr (.inl (fun _ => 0)))), (hyd, .inl (cI2, 12, .inl (fun _ => 0)))] := hD
  have hw9 : r_2 = (-1) := hw9
  subst hw9
  refine lv_icmp_eq (tgt := 1010) hx hb dL_law_288 (by decide) (fun _ => ?_) (fun c9 => absurd (by decide) c9)
  refine W.widen (k := 173) (n := 857181) (Nat.le_refl _) (Nat.le_refl _) ?_
  exact law_end hAd C0 hS hl
set_option maxHeartbeats 4000000 in
set_option maxRecDepth 100000 in
theorem law_c5 {p : Program} {l : Launch} {e : Env} {s : State} {m : MethodId} {below : List Frame} {meth : Method} {c : Code} {dC : Nat → ClassId} {dI : Nat → Nat → Nat} {b L : Nat} {xs : Nat → Int32} {A : Nat → Prop} (hAd : A = fun q : Nat => s.heap.size ≤ q) (hL6 : L = 6) (C0 : lw_At p s m meth c b L xs) (hex : ex s) (hE : mg A s s.heap) {x0 y0 : Nat} {H : Heap} {locs : List Loc} (hF : law_fr dC dI A x0 y0 s H) (hS : va_S A s.heap H locs) {ls : Array Slot} (hl : lv_has ls 4 [(0, .ref b), (1, .ref x0), (2, .ref y0), (3, .int 0)]) : W p l e room_1 s m #[Value.ref b] below meth c H locs 173 857181 (lw_Z below #[Value.ref b] s) (F0 m 293 ls []) := by
  subst hL6
  obtain ⟨hx, hb, hr, hml, hown, hts1, hX, hbl, hlocks, hgv⟩ := id C0
  have hts : ∀ w ∈ tb, w.before #[Value.ref b] s = true := fun w h => hts1 w (tb_lw w h)
  have hown : s.vm.findClass RL = some m.cls := hown
  have hA : ∀ q : Nat, s.heap.size ≤ q → A q := fun q h => by rw [hAd]; exact h
  have hbA : ¬ A b := by rw [hAd]; exact Nat.not_le.mpr hbl
  obtain ⟨fx, ht, ft, htd, cB, hw, fw, hc, fc, hr, fr, hm, fm, hma, cJ, hs, fq, hsa, cI, fy, hyt, cB2, hst, hya, cJ2, hyd, cI2, L_fx, g_fx_0, g_fx_1, g_fx_4, g_fx_7, g_fx_9, g_fx_10, g_fx_11, g_fx_12, g_fx_13, g_fx_14, g_fx_15, g_fx_16, L_ft, g_ft_0, g_ft_1, L_fw, g_fw_1, L_fc, g_fc_0, L_fr, L_fm, g_fm_0, g_fm_5, g_fm_6, g_fm_7, g_fm_16, g_fm_17, g_fm_18, g_fm_19, L_fq, g_fq_1, L_fy, g_fy_1, g_fy_3, g_fy_4, g_fy_5, g_fy_6, g_fy_9, g_fy_10, g_fy_64, g_fy_65, g_fy_78, g_fy_80, g_fy_85, g_fy_87, g_fy_88, g_fy_96, g_fy_100, g_fy_101, g_fy_102, g_fy_124, hP, hK, hD⟩ := hF
  refine lv_aload_n hx hb dL_law_293 rfl (lv_at hl 1 rfl) ?_
  refine lv_aload_n hx hb dL_law_294 rfl (lv_at hl 0 rfl) ?_
  refine lv_iload_n hx hb dL_law_295 rfl (lv_at hl 3 rfl) ?_
  refine lv_iconst (v := 1) hx hb dL_law_296 (by decide) ?_
  refine lv_iadd hx hb dL_law_297 ?_
  refine lv_topi (fun z_1 ez_1 => ?_)
  obtain rfl : z_1 = 1 := ez_1.trans (by decide)
  refine va_sld hx hb hX hbl hbA hS (vi rfl) dL_law_298 ?_
  refine lv_aload_n hx hb dL_law_299 rfl (lv_at hl 0 rfl) ?_
  refine lv_iload_n hx hb dL_law_300 rfl (lv_at hl 3 rfl) ?_
  refine lv_iconst (v := 2) hx hb dL_law_301 (by decide) ?_
  refine lv_iadd hx hb dL_law_302 ?_
  refine lv_topi (fun z_2 ez_2 => ?_)
  obtain rfl : z_2 = 2 := ez_2.trans (by decide)
  refine va_sld hx hb hX hbl hbA hS (vi rfl) dL_law_303 ?_
  have hPc := hP.sub (ws' := [(x0, .inr (10, fx))]) [0] rfl
  have hDc := hD.sub (ws' := [(x0, .inr (10, fx))]) [0] (by decide) rfl
  have hKc := hK.sub (tys' := []) [] rfl
  have hFc := va_free (wc := [(x0, .inr (10, fx))]) hD hS hA [0] rfl
  refine va_calli (va_runV (As := [.int (xs (1 : Int32).toNatClampNeg), .int (xs (2 : Int32).toNatClampNeg)]) (rest := []) ⟨hx, hb, hml, hown, hts⟩ (m_X12_size l dC dI H.size x0 fx ((xs (1 : Int32).toNatClampNeg)) ((xs (2 : Int32).toNatClampNeg)) L_fx g_fx_11) (cwV 2 hts (gd_V kw_461 kw_462 kw_463 kw_169 kw_464) rfl rfl rfl (by decide +kernel) ⟨Nat.le_of_ble_eq_true rfl, Nat.le_of_ble_eq_true rfl⟩) ⟨st_blind, va_recv hKc hPc (ci := 10) (q0 := 0) rfl rfl, fun U hU hW9 => st_mk hU hW9 hPc hKc hDc hex⟩ rfl rfl hl.1 rfl (lv_room (Nat.le_of_ble_eq_true rfl)) dL_law_304 ⟨Nat.le_of_ble_eq_true rfl, Nat.le_of_ble_eq_true rfl⟩) hS (fun q _ h => hFc q h) hFc (fun r_3 u9 t9 H1 locs ht9 hvm9 hw9 hB9 hz9 hk9 hS => ?_)
  have hP1 : va_P (dC, dI) cl0 [] H1 := fun k q h => by simp at h
  have hD1 : va_D (va_A [(x0, .inr (10, fx))] H.size) [] := ⟨fun i j p q h => by simp at h, fun k q h => by simp at h⟩
  obtain ⟨hP, hD⟩ := va_join (wr := [(ht, .inr (0, ft)), (htd, .inl (cB, 64, .inl (fun _ => 0))), (hw, .inr (0, fw)), (hc, .inr (2, fc)), (hr, .inr (6, fr)), (hm, .inr (5, fm)), (hma, .inl (cJ, 8, .inr (.inl (fun _ => 0)))), (hs, .inr (8, fq)), (hsa, .inl (cI, 12, .inl (fun _ => 0))), (y0, .inr (12, fy)), (hyt, .inl (cB2, 16000, .inl (fun _ => 0))), (hst, .inr (13, [])), (hya, .inl (cJ2, 8, .inr (.inl (fun _ => 0)))), (hyd, .inl (cI2, 12, .inl (fun _ => 0)))]) (w1 := []) hP hD [0] [1, 2, 3, 4, 5, 6, 7, 8, 9, 10, 11, 12, 13, 14] rfl rfl (by decide) (by decide) hk9 hFc hP1 hD1
  generalize H1 = H at hP hS ⊢
  have hP : va_P (dC, dI) cl0 [(ht, .inr (0, ft)), (htd, .inl (cB, 64, .inl (fun _ => 0))), (hw, .inr (0, fw)), (hc, .inr (2, fc)), (hr, .inr (6, fr)), (hm, .inr (5, fm)), (hma, .inl (cJ, 8, .inr (.inl (fun _ => 0)))), (hs, .inr (8, fq)), (hsa, .inl (cI, 12, .inl (fun _ => 0))), (y0, .inr (12, fy)), (hyt, .inl (cB2, 16000, .inl (fun _ => 0))), (hst, .inr (13, [])), (hya, .inl (cJ2, 8, .inr (.inl (fun _ => 0)))), (hyd, .inl (cI2, 12, .inl (fun _ => 0)))] H := hP
  have hD : va_D A [(ht, .inr (0, ft)), (htd, .inl (cB, 64, .inl (fun _ => 0))), (hw, .inr (0, fw)), (hc, .inr (2, fc)), (hr, .inr (6, fr)), (hm, .inr (5, fm)), (hma, .inl (cJ, 8, .inr (.inl (fun _ => 0)))), (hs, .inr (8, fq)), (hsa, .inl (cI, 12, .inl (fun _ => 0))), (y0, .inr (12, fy)), (hyt, .inl (cB2, 16000, .inl (fun _ => 0))), (hst, .inr (13, [])), (hya, .inl (cJ2, 8, .inr (.inl (fun _ => 0)))), (hyd, .inl (cI2, 12, .inl (fun _ => 0)))] := hD
  have hw9 : r_3 = (-1) := hw9
  subst hw9
  refine lv_aload_n hx hb dL_law_307 rfl (lv_at hl 2 rfl) ?_
  refine lv_aload_n hx hb dL_law_308 rfl (lv_at hl 0 rfl) ?_
  refine lv_iload_n hx hb dL_law_309 rfl (lv_at hl 3 rfl) ?_
  refine lv_iconst (v := 1) hx hb dL_law_310 (by decide) ?_
  refine lv_iadd hx hb dL_law_311 ?_
  refine lv_topi (fun z_4 ez_4 => ?_)
  obtain rfl : z_4 = 1 := ez_4.trans (by decide)
  refine va_sld hx hb hX hbl hbA hS (vi rfl) dL_law_312 ?_
  refine lv_aload_n hx hb dL_law_313 rfl (lv_at hl 0 rfl) ?_
  refine lv_iload_n hx hb dL_law_314 rfl (lv_at hl 3 rfl) ?_
  refine lv_iconst (v := 2) hx hb dL_law_315 (by decide) ?_
  refine lv_iadd hx hb dL_law_316 ?_
  refine lv_topi (fun z_5 ez_5 => ?_)
  obtain rfl : z_5 = 2 := ez_5.trans (by decide)
  refine va_sld hx hb hX hbl hbA hS (vi rfl) dL_law_317 ?_
  have hPc := hP.sub (ws' := [(y0, .inr (12, fy))]) [9] rfl
  have hDc := hD.sub (ws' := [(y0, .inr (12, fy))]) [9] (by decide) rfl
  have hKc := hK.sub (tys' := []) [] rfl
  have hFc := va_free (wc := [(y0, .inr (12, fy))]) hD hS hA [9] rfl
  refine va_calli (va_runV (As := [.int (xs (1 : Int32).toNatClampNeg), .int (xs (2 : Int32).toNatClampNeg)]) (rest := [.int (-1)]) ⟨hx, hb, hml, hown, hts⟩ (m_X14_size l dC dI H.size y0 fy ((xs (1 : Int32).toNatClampNeg)) ((xs (2 : Int32).toNatClampNeg)) L_fy g_fy_1) (cwV 2 hts (gd_V kw_465 kw_466 kw_467 kw_374 kw_468) rfl rfl rfl (by decide +kernel) ⟨Nat.le_of_ble_eq_true rfl, Nat.le_of_ble_eq_true rfl⟩) ⟨st_blind, va_recv hKc hPc (ci := 12) (q0 := 0) rfl rfl, fun U hU hW9 => st_mk hU hW9 hPc hKc hDc hex⟩ rfl rfl hl.1 rfl (lv_room (Nat.le_of_ble_eq_true rfl)) dL_law_318 ⟨Nat.le_of_ble_eq_true rfl, Nat.le_of_ble_eq_true rfl⟩) hS (fun q _ h => hFc q h) hFc (fun r_6 u9 t9 H1 locs ht9 hvm9 hw9 hB9 hz9 hk9 hS => ?_)
  have hP1 : va_P (dC, dI) cl0 [] H1 := fun k q h => by simp at h
  have hD1 : va_D (va_A [(y0, .inr (12, fy))] H.size) [] := ⟨fun i j p q h => by simp at h, fun k q h => by simp at h⟩
  obtain ⟨hP, hD⟩ := va_join (wr := [(ht, .inr (0, ft)), (htd, .inl (cB, 64, .inl (fun _ => 0))), (hw, .inr (0, fw)), (hc, .inr (2, fc)), (hr, .inr (6, fr)), (hm, .inr (5, fm)), (hma, .inl (cJ, 8, .inr (.inl (fun _ => 0)))), (hs, .inr (8, fq)), (hsa, .inl (cI, 12, .inl (fun _ => 0))), (hyt, .inl (cB2, 16000, .inl (fun _ => 0))), (hst, .inr (13, [])), (hya, .inl (cJ2, 8, .inr (.inl (fun _ => 0)))), (hyd, .inl (cI2, 12, .inl (fun _ => 0)))]) (w1 := []) hP hD [9] [0, 1, 2, 3, 4, 5, 6, 7, 8, 10, 11, 12, 13] rfl rfl (by decide) (by decide) hk9 hFc hP1 hD1
  generalize H1 = H at hP hS ⊢
  have hP : va_P (dC, dI) cl0 [(ht, .inr (0, ft)), (htd, .inl (cB, 64, .inl (fun _ => 0))), (hw, .inr (0, fw)), (hc, .inr (2, fc)), (hr, .inr (6, fr)), (hm, .inr (5, fm)), (hma, .inl (cJ, 8, .inr (.inl (fun _ => 0)))), (hs, .inr (8, fq)), (hsa, .inl (cI, 12, .inl (fun _ => 0))), (hyt, .inl (cB2, 16000, .inl (fun _ => 0))), (hst, .inr (13, [])), (hya, .inl (cJ2, 8, .inr (.inl (fun _ => 0)))), (hyd, .inl (cI2, 12, .inl (fun _ => 0)))] H := hP
  have hD : va_D A [(ht, .inr (0, ft)), (htd, .inl (cB, 64, .inl (fun _ => 0))), (hw, .inr (0, fw)), (hc, .inr (2, fc)), (hr, .inr (6, fr)), (hm, .inr (5, fm)), (hma, .inl (cJ, 8, .inr (.inl (fun _ => 0)))), (hs, .inr (8, fq)), (hsa, .inl (cI, 12, .inl (fun _ => 0))), (hyt, .inl (cB2, 16000, .inl (fun _ => 0))), (hst, .inr (13, [])), (hya, .inl (cJ2, 8, .inr (.inl (fun _ => 0)))), (hyd, .inl (cI2, 12, .inl (fun _ => 0)))] := hD
  have hw9 : r_6 = (-1) := hw9
  subst hw9
  refine lv_icmp_eq (tgt := 1010) hx hb dL_law_321 (by decide) (fun _ => ?_) (fun c9 => absurd (by decide) c9)
  refine W.widen (k := 173) (n := 857181) (Nat.le_refl _) (Nat.le_refl _) ?_
  exact law_end hAd C0 hS hl
set_option maxHeartbeats 4000000 in
set_option maxRecDepth 100000 in
theorem law_c6 {p : Program} {l : Launch} {e : Env} {s : State} {m : MethodId} {below : List Frame} {meth : Method} {c : Code} {dC : Nat → ClassId} {dI : Nat → Nat → Nat} {b L : Nat} {xs : Nat → Int32} {A : Nat → Prop} (hAd : A = fun q : Nat => s.heap.size ≤ q) (hL6 : L = 6) (C0 : lw_At p s m meth c b L xs) (hex : ex s) (hE : mg A s s.heap) {x0 y0 : Nat} {H : Heap} {locs : List Loc} (hF : law_fr dC dI A x0 y0 s H) (hS : va_S A s.heap H locs) {ls : Array Slot} (hl : lv_has ls 4 [(0, .ref b), (1, .ref x0), (2, .ref y0), (3, .int 0)]) : W p l e room_1 s m #[Value.ref b] below meth c H locs 173 857181 (lw_Z below #[Value.ref b] s) (F0 m 326 ls []) := by
  subst hL6
  obtain ⟨hx, hb, hr, hml, hown, hts1, hX, hbl, hlocks, hgv⟩ := id C0
  have hts : ∀ w ∈ tb, w.before #[Value.ref b] s = true := fun w h => hts1 w (tb_lw w h)
  have hown : s.vm.findClass RL = some m.cls := hown
  have hA : ∀ q : Nat, s.heap.size ≤ q → A q := fun q h => by rw [hAd]; exact h
  have hbA : ¬ A b := by rw [hAd]; exact Nat.not_le.mpr hbl
  obtain ⟨fx, ht, ft, htd, cB, hw, fw, hc, fc, hr, fr, hm, fm, hma, cJ, hs, fq, hsa, cI, fy, hyt, cB2, hst, hya, cJ2, hyd, cI2, L_fx, g_fx_0, g_fx_1, g_fx_4, g_fx_7, g_fx_9, g_fx_10, g_fx_11, g_fx_12, g_fx_13, g_fx_14, g_fx_15, g_fx_16, L_ft, g_ft_0, g_ft_1, L_fw, g_fw_1, L_fc, g_fc_0, L_fr, L_fm, g_fm_0, g_fm_5, g_fm_6, g_fm_7, g_fm_16, g_fm_17, g_fm_18, g_fm_19, L_fq, g_fq_1, L_fy, g_fy_1, g_fy_3, g_fy_4, g_fy_5, g_fy_6, g_fy_9, g_fy_10, g_fy_64, g_fy_65, g_fy_78, g_fy_80, g_fy_85, g_fy_87, g_fy_88, g_fy_96, g_fy_100, g_fy_101, g_fy_102, g_fy_124, hP, hK, hD⟩ := hF
  refine lv_aload_n hx hb dL_law_326 rfl (lv_at hl 1 rfl) ?_
  refine lv_aload_n hx hb dL_law_327 rfl (lv_at hl 0 rfl) ?_
  refine lv_iload_n hx hb dL_law_328 rfl (lv_at hl 3 rfl) ?_
  refine lv_iconst (v := 1) hx hb dL_law_329 (by decide) ?_
  refine lv_iadd hx hb dL_law_330 ?_
  refine lv_topi (fun z_1 ez_1 => ?_)
  obtain rfl : z_1 = 1 := ez_1.trans (by decide)
  refine va_sld hx hb hX hbl hbA hS (vi rfl) dL_law_331 ?_
  refine lv_aload_n hx hb dL_law_332 rfl (lv_at hl 0 rfl) ?_
  refine lv_iload_n hx hb dL_law_333 rfl (lv_at hl 3 rfl) ?_
  refine lv_iconst (v := 2) hx hb dL_law_334 (by decide) ?_
  refine lv_iadd hx hb dL_law_335 ?_
  refine lv_topi (fun z_2 ez_2 => ?_)
  obtain rfl : z_2 = 2 := ez_2.trans (by decide)
  refine va_sld hx hb hX hbl hbA hS (vi rfl) dL_law_336 ?_
  have hPc := hP.sub (ws' := [(x0, .inr (10, fx))]) [0] rfl
  have hDc := hD.sub (ws' := [(x0, .inr (10, fx))]) [0] (by decide) rfl
  have hKc := hK.sub (tys' := []) [] rfl
  have hFc := va_free (wc := [(x0, .inr (10, fx))]) hD hS hA [0] rfl
  refine va_calli (va_runV (As := [.int (xs (1 : Int32).toNatClampNeg), .int (xs (2 : Int32).toNatClampNeg)]) (rest := []) ⟨hx, hb, hml, hown, hts⟩ (m_X12_length l dC dI H.size x0 fx ((xs (1 : Int32).toNatClampNeg)) ((xs (2 : Int32).toNatClampNeg)) L_fx g_fx_11) (cwV 2 hts (gd_V kw_469 kw_470 kw_471 kw_169 kw_472) rfl rfl rfl (by decide +kernel) ⟨Nat.le_of_ble_eq_true rfl, Nat.le_of_ble_eq_true rfl⟩) ⟨st_blind, va_recv hKc hPc (ci := 10) (q0 := 0) rfl rfl, fun U hU hW9 => st_mk hU hW9 hPc hKc hDc hex⟩ rfl rfl hl.1 rfl (lv_room (Nat.le_of_ble_eq_true rfl)) dL_law_337 ⟨Nat.le_of_ble_eq_true rfl, Nat.le_of_ble_eq_true rfl⟩) hS (fun q _ h => hFc q h) hFc (fun r_3 u9 t9 H1 locs ht9 hvm9 hw9 hB9 hz9 hk9 hS => ?_)
  have hP1 : va_P (dC, dI) cl0 [] H1 := fun k q h => by simp at h
  have hD1 : va_D (va_A [(x0, .inr (10, fx))] H.size) [] := ⟨fun i j p q h => by simp at h, fun k q h => by simp at h⟩
  obtain ⟨hP, hD⟩ := va_join (wr := [(ht, .inr (0, ft)), (htd, .inl (cB, 64, .inl (fun _ => 0))), (hw, .inr (0, fw)), (hc, .inr (2, fc)), (hr, .inr (6, fr)), (hm, .inr (5, fm)), (hma, .inl (cJ, 8, .inr (.inl (fun _ => 0)))), (hs, .inr (8, fq)), (hsa, .inl (cI, 12, .inl (fun _ => 0))), (y0, .inr (12, fy)), (hyt, .inl (cB2, 16000, .inl (fun _ => 0))), (hst, .inr (13, [])), (hya, .inl (cJ2, 8, .inr (.inl (fun _ => 0)))), (hyd, .inl (cI2, 12, .inl (fun _ => 0)))]) (w1 := []) hP hD [0] [1, 2, 3, 4, 5, 6, 7, 8, 9, 10, 11, 12, 13, 14] rfl rfl (by decide) (by decide) hk9 hFc hP1 hD1
  generalize H1 = H at hP hS ⊢
  have hP : va_P (dC, dI) cl0 [(ht, .inr (0, ft)), (htd, .inl (cB, 64, .inl (fun _ => 0))), (hw, .inr (0, fw)), (hc, .inr (2, fc)), (hr, .inr (6, fr)), (hm, .inr (5, fm)), (hma, .inl (cJ, 8, .inr (.inl (fun _ => 0)))), (hs, .inr (8, fq)), (hsa, .inl (cI, 12, .inl (fun _ => 0))), (y0, .inr (12, fy)), (hyt, .inl (cB2, 16000, .inl (fun _ => 0))), (hst, .inr (13, [])), (hya, .inl (cJ2, 8, .inr (.inl (fun _ => 0)))), (hyd, .inl (cI2, 12, .inl (fun _ => 0)))] H := hP
  have hD : va_D A [(ht, .inr (0, ft)), (htd, .inl (cB, 64, .inl (fun _ => 0))), (hw, .inr (0, fw)), (hc, .inr (2, fc)), (hr, .inr (6, fr)), (hm, .inr (5, fm)), (hma, .inl (cJ, 8, .inr (.inl (fun _ => 0)))), (hs, .inr (8, fq)), (hsa, .inl (cI, 12, .inl (fun _ => 0))), (y0, .inr (12, fy)), (hyt, .inl (cB2, 16000, .inl (fun _ => 0))), (hst, .inr (13, [])), (hya, .inl (cJ2, 8, .inr (.inl (fun _ => 0)))), (hyd, .inl (cI2, 12, .inl (fun _ => 0)))] := hD
  have hw9 : r_3 = (-1) := hw9
  subst hw9
  refine lv_aload_n hx hb dL_law_340 rfl (lv_at hl 2 rfl) ?_
  refine lv_aload_n hx hb dL_law_341 rfl (lv_at hl 0 rfl) ?_
  refine lv_iload_n hx hb dL_law_342 rfl (lv_at hl 3 rfl) ?_
  refine lv_iconst (v := 1) hx hb dL_law_343 (by decide) ?_
  refine lv_iadd hx hb dL_law_344 ?_
  refine lv_topi (fun z_4 ez_4 => ?_)
  obtain rfl : z_4 = 1 := ez_4.trans (by decide)
  refine va_sld hx hb hX hbl hbA hS (vi rfl) dL_law_345 ?_
  refine lv_aload_n hx hb dL_law_346 rfl (lv_at hl 0 rfl) ?_
  refine lv_iload_n hx hb dL_law_347 rfl (lv_at hl 3 rfl) ?_
  refine lv_iconst (v := 2) hx hb dL_law_348 (by decide) ?_
  refine lv_iadd hx hb dL_law_349 ?_
  refine lv_topi (fun z_5 ez_5 => ?_)
  obtain rfl : z_5 = 2 := ez_5.trans (by decide)
  refine va_sld hx hb hX hbl hbA hS (vi rfl) dL_law_350 ?_
  have hPc := hP.sub (ws' := [(y0, .inr (12, fy))]) [9] rfl
  have hDc := hD.sub (ws' := [(y0, .inr (12, fy))]) [9] (by decide) rfl
  have hKc := hK.sub (tys' := []) [] rfl
  have hFc := va_free (wc := [(y0, .inr (12, fy))]) hD hS hA [9] rfl
  refine va_calli (va_runV (As := [.int (xs (1 : Int32).toNatClampNeg), .int (xs (2 : Int32).toNatClampNeg)]) (rest := [.int (-1)]) ⟨hx, hb, hml, hown, hts⟩ (m_X14_length l dC dI H.size y0 fy ((xs (1 : Int32).toNatClampNeg)) ((xs (2 : Int32).toNatClampNeg)) L_fy g_fy_1) (cwV 2 hts (gd_V kw_473 kw_474 kw_475 kw_374 kw_476) rfl rfl rfl (by decide +kernel) ⟨Nat.le_of_ble_eq_true rfl, Nat.le_of_ble_eq_true rfl⟩) ⟨st_blind, va_recv hKc hPc (ci := 12) (q0 := 0) rfl rfl, fun U hU hW9 => st_mk hU hW9 hPc hKc hDc hex⟩ rfl rfl hl.1 rfl (lv_room (Nat.le_of_ble_eq_true rfl)) dL_law_351 ⟨Nat.le_of_ble_eq_true rfl, Nat.le_of_ble_eq_true rfl⟩) hS (fun q _ h => hFc q h) hFc (fun r_6 u9 t9 H1 locs ht9 hvm9 hw9 hB9 hz9 hk9 hS => ?_)
  have hP1 : va_P (dC, dI) cl0 [] H1 := fun k q h => by simp at h
  have hD1 : va_D (va_A [(y0, .inr (12, fy))] H.size) [] := ⟨fun i j p q h => by simp at h, fun k q h => by simp at h⟩
  obtain ⟨hP, hD⟩ := va_join (wr := [(ht, .inr (0, ft)), (htd, .inl (cB, 64, .inl (fun _ => 0))), (hw, .inr (0, fw)), (hc, .inr (2, fc)), (hr, .inr (6, fr)), (hm, .inr (5, fm)), (hma, .inl (cJ, 8, .inr (.inl (fun _ => 0)))), (hs, .inr (8, fq)), (hsa, .inl (cI, 12, .inl (fun _ => 0))), (hyt, .inl (cB2, 16000, .inl (fun _ => 0))), (hst, .inr (13, [])), (hya, .inl (cJ2, 8, .inr (.inl (fun _ => 0)))), (hyd, .inl (cI2, 12, .inl (fun _ => 0)))]) (w1 := []) hP hD [9] [0, 1, 2, 3, 4, 5, 6, 7, 8, 10, 11, 12, 13] rfl rfl (by decide) (by decide) hk9 hFc hP1 hD1
  generalize H1 = H at hP hS ⊢
  have hP : va_P (dC, dI) cl0 [(ht, .inr (0, ft)), (htd, .inl (cB, 64, .inl (fun _ => 0))), (hw, .inr (0, fw)), (hc, .inr (2, fc)), (hr, .inr (6, fr)), (hm, .inr (5, fm)), (hma, .inl (cJ, 8, .inr (.inl (fun _ => 0)))), (hs, .inr (8, fq)), (hsa, .inl (cI, 12, .inl (fun _ => 0))), (hyt, .inl (cB2, 16000, .inl (fun _ => 0))), (hst, .inr (13, [])), (hya, .inl (cJ2, 8, .inr (.inl (fun _ => 0)))), (hyd, .inl (cI2, 12, .inl (fun _ => 0)))] H := hP
  have hD : va_D A [(ht, .inr (0, ft)), (htd, .inl (cB, 64, .inl (fun _ => 0))), (hw, .inr (0, fw)), (hc, .inr (2, fc)), (hr, .inr (6, fr)), (hm, .inr (5, fm)), (hma, .inl (cJ, 8, .inr (.inl (fun _ => 0)))), (hs, .inr (8, fq)), (hsa, .inl (cI, 12, .inl (fun _ => 0))), (hyt, .inl (cB2, 16000, .inl (fun _ => 0))), (hst, .inr (13, [])), (hya, .inl (cJ2, 8, .inr (.inl (fun _ => 0)))), (hyd, .inl (cI2, 12, .inl (fun _ => 0)))] := hD
  have hw9 : r_6 = (-1) := hw9
  subst hw9
  refine lv_icmp_eq (tgt := 1010) hx hb dL_law_354 (by decide) (fun _ => ?_) (fun c9 => absurd (by decide) c9)
  refine W.widen (k := 173) (n := 857181) (Nat.le_refl _) (Nat.le_refl _) ?_
  exact law_end hAd C0 hS hl
set_option maxHeartbeats 4000000 in
set_option maxRecDepth 100000 in
theorem law_c7 {p : Program} {l : Launch} {e : Env} {s : State} {m : MethodId} {below : List Frame} {meth : Method} {c : Code} {dC : Nat → ClassId} {dI : Nat → Nat → Nat} {b L : Nat} {xs : Nat → Int32} {A : Nat → Prop} (hAd : A = fun q : Nat => s.heap.size ≤ q) (hL6 : L = 6) (C0 : lw_At p s m meth c b L xs) (hex : ex s) (hE : mg A s s.heap) {x0 y0 : Nat} {H : Heap} {locs : List Loc} (hF : law_fr dC dI A x0 y0 s H) (hS : va_S A s.heap H locs) {ls : Array Slot} (hl : lv_has ls 4 [(0, .ref b), (1, .ref x0), (2, .ref y0), (3, .int 0)]) : W p l e room_1 s m #[Value.ref b] below meth c H locs 173 857181 (lw_Z below #[Value.ref b] s) (F0 m 359 ls []) := by
  subst hL6
  obtain ⟨hx, hb, hr, hml, hown, hts1, hX, hbl, hlocks, hgv⟩ := id C0
  have hts : ∀ w ∈ tb, w.before #[Value.ref b] s = true := fun w h => hts1 w (tb_lw w h)
  have hown : s.vm.findClass RL = some m.cls := hown
  have hA : ∀ q : Nat, s.heap.size ≤ q → A q := fun q h => by rw [hAd]; exact h
  have hbA : ¬ A b := by rw [hAd]; exact Nat.not_le.mpr hbl
  obtain ⟨fx, ht, ft, htd, cB, hw, fw, hc, fc, hr, fr, hm, fm, hma, cJ, hs, fq, hsa, cI, fy, hyt, cB2, hst, hya, cJ2, hyd, cI2, L_fx, g_fx_0, g_fx_1, g_fx_4, g_fx_7, g_fx_9, g_fx_10, g_fx_11, g_fx_12, g_fx_13, g_fx_14, g_fx_15, g_fx_16, L_ft, g_ft_0, g_ft_1, L_fw, g_fw_1, L_fc, g_fc_0, L_fr, L_fm, g_fm_0, g_fm_5, g_fm_6, g_fm_7, g_fm_16, g_fm_17, g_fm_18, g_fm_19, L_fq, g_fq_1, L_fy, g_fy_1, g_fy_3, g_fy_4, g_fy_5, g_fy_6, g_fy_9, g_fy_10, g_fy_64, g_fy_65, g_fy_78, g_fy_80, g_fy_85, g_fy_87, g_fy_88, g_fy_96, g_fy_100, g_fy_101, g_fy_102, g_fy_124, hP, hK, hD⟩ := hF
  refine lv_aload_n hx hb dL_law_359 rfl (lv_at hl 1 rfl) ?_
  refine lv_aload_n hx hb dL_law_360 rfl (lv_at hl 0 rfl) ?_
  refine lv_iload_n hx hb dL_law_361 rfl (lv_at hl 3 rfl) ?_
  refine lv_iconst (v := 1) hx hb dL_law_362 (by decide) ?_
  refine lv_iadd hx hb dL_law_363 ?_
  refine lv_topi (fun z_1 ez_1 => ?_)
  obtain rfl : z_1 = 1 := ez_1.trans (by decide)
  refine va_sld hx hb hX hbl hbA hS (vi rfl) dL_law_364 ?_
  have hPc := hP.sub (ws' := [(x0, .inr (10, fx))]) [0] rfl
  have hDc := hD.sub (ws' := [(x0, .inr (10, fx))]) [0] (by decide) rfl
  have hKc := hK.sub (tys' := []) [] rfl
  have hFc := va_free (wc := [(x0, .inr (10, fx))]) hD hS hA [0] rfl
  refine va_calli (va_runV (As := [.int (xs (1 : Int32).toNatClampNeg)]) (rest := []) ⟨hx, hb, hml, hown, hts⟩ (m_X12_verify l dC dI H.size x0 fx ((xs (1 : Int32).toNatClampNeg)) L_fx g_fx_11) (cwV 1 hts (gd_V kw_477 kw_478 kw_479 kw_169 kw_480) rfl rfl rfl (by decide +kernel) ⟨Nat.le_of_ble_eq_true rfl, Nat.le_of_ble_eq_true rfl⟩) ⟨st_blind, va_recv hKc hPc (ci := 10) (q0 := 0) rfl rfl, fun U hU hW9 => st_mk hU hW9 hPc hKc hDc hex⟩ rfl rfl hl.1 rfl (lv_room (Nat.le_of_ble_eq_true rfl)) dL_law_365 ⟨Nat.le_of_ble_eq_true rfl, Nat.le_of_ble_eq_true rfl⟩) hS (fun q _ h => hFc q h) hFc (fun r_2 u9 t9 H1 locs ht9 hvm9 hw9 hB9 hz9 hk9 hS => ?_)
  have hP1 : va_P (dC, dI) cl0 [] H1 := fun k q h => by simp at h
  have hD1 : va_D (va_A [(x0, .inr (10, fx))] H.size) [] := ⟨fun i j p q h => by simp at h, fun k q h => by simp at h⟩
  obtain ⟨hP, hD⟩ := va_join (wr := [(ht, .inr (0, ft)), (htd, .inl (cB, 64, .inl (fun _ => 0))), (hw, .inr (0, fw)), (hc, .inr (2, fc)), (hr, .inr (6, fr)), (hm, .inr (5, fm)), (hma, .inl (cJ, 8, .inr (.inl (fun _ => 0)))), (hs, .inr (8, fq)), (hsa, .inl (cI, 12, .inl (fun _ => 0))), (y0, .inr (12, fy)), (hyt, .inl (cB2, 16000, .inl (fun _ => 0))), (hst, .inr (13, [])), (hya, .inl (cJ2, 8, .inr (.inl (fun _ => 0)))), (hyd, .inl (cI2, 12, .inl (fun _ => 0)))]) (w1 := []) hP hD [0] [1, 2, 3, 4, 5, 6, 7, 8, 9, 10, 11, 12, 13, 14] rfl rfl (by decide) (by decide) hk9 hFc hP1 hD1
  generalize H1 = H at hP hS ⊢
  have hP : va_P (dC, dI) cl0 [(ht, .inr (0, ft)), (htd, .inl (cB, 64, .inl (fun _ => 0))), (hw, .inr (0, fw)), (hc, .inr (2, fc)), (hr, .inr (6, fr)), (hm, .inr (5, fm)), (hma, .inl (cJ, 8, .inr (.inl (fun _ => 0)))), (hs, .inr (8, fq)), (hsa, .inl (cI, 12, .inl (fun _ => 0))), (y0, .inr (12, fy)), (hyt, .inl (cB2, 16000, .inl (fun _ => 0))), (hst, .inr (13, [])), (hya, .inl (cJ2, 8, .inr (.inl (fun _ => 0)))), (hyd, .inl (cI2, 12, .inl (fun _ => 0)))] H := hP
  have hD : va_D A [(ht, .inr (0, ft)), (htd, .inl (cB, 64, .inl (fun _ => 0))), (hw, .inr (0, fw)), (hc, .inr (2, fc)), (hr, .inr (6, fr)), (hm, .inr (5, fm)), (hma, .inl (cJ, 8, .inr (.inl (fun _ => 0)))), (hs, .inr (8, fq)), (hsa, .inl (cI, 12, .inl (fun _ => 0))), (y0, .inr (12, fy)), (hyt, .inl (cB2, 16000, .inl (fun _ => 0))), (hst, .inr (13, [])), (hya, .inl (cJ2, 8, .inr (.inl (fun _ => 0)))), (hyd, .inl (cI2, 12, .inl (fun _ => 0)))] := hD
  have hw9 : r_2 = (-1) := hw9
  subst hw9
  refine lv_aload_n hx hb dL_law_368 rfl (lv_at hl 2 rfl) ?_
  refine lv_aload_n hx hb dL_law_369 rfl (lv_at hl 0 rfl) ?_
  refine lv_iload_n hx hb dL_law_370 rfl (lv_at hl 3 rfl) ?_
  refine lv_iconst (v := 1) hx hb dL_law_371 (by decide) ?_
  refine lv_iadd hx hb dL_law_372 ?_
  refine lv_topi (fun z_3 ez_3 => ?_)
  obtain rfl : z_3 = 1 := ez_3.trans (by decide)
  refine va_sld hx hb hX hbl hbA hS (vi rfl) dL_law_373 ?_
  have hPc := hP.sub (ws' := [(y0, .inr (12, fy))]) [9] rfl
  have hDc := hD.sub (ws' := [(y0, .inr (12, fy))]) [9] (by decide) rfl
  have hKc := hK.sub (tys' := []) [] rfl
  have hFc := va_free (wc := [(y0, .inr (12, fy))]) hD hS hA [9] rfl
  refine va_calli (va_runV (As := [.int (xs (1 : Int32).toNatClampNeg)]) (rest := [.int (-1)]) ⟨hx, hb, hml, hown, hts⟩ (m_X14_verify l dC dI H.size y0 fy ((xs (1 : Int32).toNatClampNeg)) L_fy g_fy_1) (cwV 1 hts (gd_V kw_481 kw_482 kw_483 kw_374 kw_484) rfl rfl rfl (by decide +kernel) ⟨Nat.le_of_ble_eq_true rfl, Nat.le_of_ble_eq_true rfl⟩) ⟨st_blind, va_recv hKc hPc (ci := 12) (q0 := 0) rfl rfl, fun U hU hW9 => st_mk hU hW9 hPc hKc hDc hex⟩ rfl rfl hl.1 rfl (lv_room (Nat.le_of_ble_eq_true rfl)) dL_law_374 ⟨Nat.le_of_ble_eq_true rfl, Nat.le_of_ble_eq_true rfl⟩) hS (fun q _ h => hFc q h) hFc (fun r_4 u9 t9 H1 locs ht9 hvm9 hw9 hB9 hz9 hk9 hS => ?_)
  have hP1 : va_P (dC, dI) cl0 [] H1 := fun k q h => by simp at h
  have hD1 : va_D (va_A [(y0, .inr (12, fy))] H.size) [] := ⟨fun i j p q h => by simp at h, fun k q h => by simp at h⟩
  obtain ⟨hP, hD⟩ := va_join (wr := [(ht, .inr (0, ft)), (htd, .inl (cB, 64, .inl (fun _ => 0))), (hw, .inr (0, fw)), (hc, .inr (2, fc)), (hr, .inr (6, fr)), (hm, .inr (5, fm)), (hma, .inl (cJ, 8, .inr (.inl (fun _ => 0)))), (hs, .inr (8, fq)), (hsa, .inl (cI, 12, .inl (fun _ => 0))), (hyt, .inl (cB2, 16000, .inl (fun _ => 0))), (hst, .inr (13, [])), (hya, .inl (cJ2, 8, .inr (.inl (fun _ => 0)))), (hyd, .inl (cI2, 12, .inl (fun _ => 0)))]) (w1 := []) hP hD [9] [0, 1, 2, 3, 4, 5, 6, 7, 8, 10, 11, 12, 13] rfl rfl (by decide) (by decide) hk9 hFc hP1 hD1
  generalize H1 = H at hP hS ⊢
  have hP : va_P (dC, dI) cl0 [(ht, .inr (0, ft)), (htd, .inl (cB, 64, .inl (fun _ => 0))), (hw, .inr (0, fw)), (hc, .inr (2, fc)), (hr, .inr (6, fr)), (hm, .inr (5, fm)), (hma, .inl (cJ, 8, .inr (.inl (fun _ => 0)))), (hs, .inr (8, fq)), (hsa, .inl (cI, 12, .inl (fun _ => 0))), (hyt, .inl (cB2, 16000, .inl (fun _ => 0))), (hst, .inr (13, [])), (hya, .inl (cJ2, 8, .inr (.inl (fun _ => 0)))), (hyd, .inl (cI2, 12, .inl (fun _ => 0)))] H := hP
  have hD : va_D A [(ht, .inr (0, ft)), (htd, .inl (cB, 64, .inl (fun _ => 0))), (hw, .inr (0, fw)), (hc, .inr (2, fc)), (hr, .inr (6, fr)), (hm, .inr (5, fm)), (hma, .inl (cJ, 8, .inr (.inl (fun _ => 0)))), (hs, .inr (8, fq)), (hsa, .inl (cI, 12, .inl (fun _ => 0))), (hyt, .inl (cB2, 16000, .inl (fun _ => 0))), (hst, .inr (13, [])), (hya, .inl (cJ2, 8, .inr (.inl (fun _ => 0)))), (hyd, .inl (cI2, 12, .inl (fun _ => 0)))] := hD
  have hw9 : r_4 = (-1) := hw9
  subst hw9
  refine lv_icmp_eq (tgt := 1010) hx hb dL_law_377 (by decide) (fun _ => ?_) (fun c9 => absurd (by decide) c9)
  refine W.widen (k := 173) (n := 857181) (Nat.le_refl _) (Nat.le_refl _) ?_
  exact law_end hAd C0 hS hl
set_option maxHeartbeats 4000000 in
set_option maxRecDepth 100000 in
theorem law_c8 {p : Program} {l : Launch} {e : Env} {s : State} {m : MethodId} {below : List Frame} {meth : Method} {c : Code} {dC : Nat → ClassId} {dI : Nat → Nat → Nat} {b L : Nat} {xs : Nat → Int32} {A : Nat → Prop} (hAd : A = fun q : Nat => s.heap.size ≤ q) (hL6 : L = 6) (C0 : lw_At p s m meth c b L xs) (hex : ex s) (hE : mg A s s.heap) {x0 y0 : Nat} {H : Heap} {locs : List Loc} (hF : law_fr dC dI A x0 y0 s H) (hS : va_S A s.heap H locs) {ls : Array Slot} (hl : lv_has ls 4 [(0, .ref b), (1, .ref x0), (2, .ref y0), (3, .int 0)]) : W p l e room_1 s m #[Value.ref b] below meth c H locs 173 857181 (lw_Z below #[Value.ref b] s) (F0 m 382 ls []) := by
  subst hL6
  obtain ⟨hx, hb, hr, hml, hown, hts1, hX, hbl, hlocks, hgv⟩ := id C0
  have hts : ∀ w ∈ tb, w.before #[Value.ref b] s = true := fun w h => hts1 w (tb_lw w h)
  have hown : s.vm.findClass RL = some m.cls := hown
  have hA : ∀ q : Nat, s.heap.size ≤ q → A q := fun q h => by rw [hAd]; exact h
  have hbA : ¬ A b := by rw [hAd]; exact Nat.not_le.mpr hbl
  obtain ⟨fx, ht, ft, htd, cB, hw, fw, hc, fc, hr, fr, hm, fm, hma, cJ, hs, fq, hsa, cI, fy, hyt, cB2, hst, hya, cJ2, hyd, cI2, L_fx, g_fx_0, g_fx_1, g_fx_4, g_fx_7, g_fx_9, g_fx_10, g_fx_11, g_fx_12, g_fx_13, g_fx_14, g_fx_15, g_fx_16, L_ft, g_ft_0, g_ft_1, L_fw, g_fw_1, L_fc, g_fc_0, L_fr, L_fm, g_fm_0, g_fm_5, g_fm_6, g_fm_7, g_fm_16, g_fm_17, g_fm_18, g_fm_19, L_fq, g_fq_1, L_fy, g_fy_1, g_fy_3, g_fy_4, g_fy_5, g_fy_6, g_fy_9, g_fy_10, g_fy_64, g_fy_65, g_fy_78, g_fy_80, g_fy_85, g_fy_87, g_fy_88, g_fy_96, g_fy_100, g_fy_101, g_fy_102, g_fy_124, hP, hK, hD⟩ := hF
  refine lv_aload_n hx hb dL_law_382 rfl (lv_at hl 1 rfl) ?_
  have hPc := hP.sub (ws' := [(x0, .inr (10, fx))]) [0] rfl
  have hDc := hD.sub (ws' := [(x0, .inr (10, fx))]) [0] (by decide) rfl
  have hKc := hK.sub (tys' := []) [] rfl
  have hFc := va_free (wc := [(x0, .inr (10, fx))]) hD hS hA [0] rfl
  refine va_calli (va_runV (As := []) (rest := []) ⟨hx, hb, hml, hown, hts⟩ (m_X12_method l dC dI H.size x0 fx L_fx g_fx_15) (cwV 0 hts (gd_V kw_485 kw_486 kw_487 kw_169 kw_488) rfl rfl rfl (by decide +kernel) ⟨Nat.le_of_ble_eq_true rfl, Nat.le_of_ble_eq_true rfl⟩) ⟨st_blind, va_recv hKc hPc (ci := 10) (q0 := 0) rfl rfl, fun U hU hW9 => st_mk hU hW9 hPc hKc hDc hex⟩ rfl rfl hl.1 rfl (lv_room (Nat.le_of_ble_eq_true rfl)) dL_law_383 ⟨Nat.le_of_ble_eq_true rfl, Nat.le_of_ble_eq_true rfl⟩) hS (fun q _ h => hFc q h) hFc (fun r_1 u9 t9 H1 locs ht9 hvm9 hw9 hB9 hz9 hk9 hS => ?_)
  have hP1 : va_P (dC, dI) cl0 [] H1 := fun k q h => by simp at h
  have hD1 : va_D (va_A [(x0, .inr (10, fx))] H.size) [] := ⟨fun i j p q h => by simp at h, fun k q h => by simp at h⟩
  obtain ⟨hP, hD⟩ := va_join (wr := [(ht, .inr (0, ft)), (htd, .inl (cB, 64, .inl (fun _ => 0))), (hw, .inr (0, fw)), (hc, .inr (2, fc)), (hr, .inr (6, fr)), (hm, .inr (5, fm)), (hma, .inl (cJ, 8, .inr (.inl (fun _ => 0)))), (hs, .inr (8, fq)), (hsa, .inl (cI, 12, .inl (fun _ => 0))), (y0, .inr (12, fy)), (hyt, .inl (cB2, 16000, .inl (fun _ => 0))), (hst, .inr (13, [])), (hya, .inl (cJ2, 8, .inr (.inl (fun _ => 0)))), (hyd, .inl (cI2, 12, .inl (fun _ => 0)))]) (w1 := []) hP hD [0] [1, 2, 3, 4, 5, 6, 7, 8, 9, 10, 11, 12, 13, 14] rfl rfl (by decide) (by decide) hk9 hFc hP1 hD1
  generalize H1 = H at hP hS ⊢
  have hP : va_P (dC, dI) cl0 [(ht, .inr (0, ft)), (htd, .inl (cB, 64, .inl (fun _ => 0))), (hw, .inr (0, fw)), (hc, .inr (2, fc)), (hr, .inr (6, fr)), (hm, .inr (5, fm)), (hma, .inl (cJ, 8, .inr (.inl (fun _ => 0)))), (hs, .inr (8, fq)), (hsa, .inl (cI, 12, .inl (fun _ => 0))), (y0, .inr (12, fy)), (hyt, .inl (cB2, 16000, .inl (fun _ => 0))), (hst, .inr (13, [])), (hya, .inl (cJ2, 8, .inr (.inl (fun _ => 0)))), (hyd, .inl (cI2, 12, .inl (fun _ => 0)))] H := hP
  have hD : va_D A [(ht, .inr (0, ft)), (htd, .inl (cB, 64, .inl (fun _ => 0))), (hw, .inr (0, fw)), (hc, .inr (2, fc)), (hr, .inr (6, fr)), (hm, .inr (5, fm)), (hma, .inl (cJ, 8, .inr (.inl (fun _ => 0)))), (hs, .inr (8, fq)), (hsa, .inl (cI, 12, .inl (fun _ => 0))), (y0, .inr (12, fy)), (hyt, .inl (cB2, 16000, .inl (fun _ => 0))), (hst, .inr (13, [])), (hya, .inl (cJ2, 8, .inr (.inl (fun _ => 0)))), (hyd, .inl (cI2, 12, .inl (fun _ => 0)))] := hD
  have hw9 : r_1 = (-1) := hw9
  subst hw9
  refine lv_aload_n hx hb dL_law_386 rfl (lv_at hl 2 rfl) ?_
  have hPc := hP.sub (ws' := [(y0, .inr (12, fy))]) [9] rfl
  have hDc := hD.sub (ws' := [(y0, .inr (12, fy))]) [9] (by decide) rfl
  have hKc := hK.sub (tys' := []) [] rfl
  have hFc := va_free (wc := [(y0, .inr (12, fy))]) hD hS hA [9] rfl
  refine va_calli (va_runV (As := []) (rest := [.int (-1)]) ⟨hx, hb, hml, hown, hts⟩ (m_X14_method l dC dI H.size y0 fy L_fy g_fy_64) (cwV 0 hts (gd_V kw_489 kw_490 kw_491 kw_374 kw_492) rfl rfl rfl (by decide +kernel) ⟨Nat.le_of_ble_eq_true rfl, Nat.le_of_ble_eq_true rfl⟩) ⟨st_blind, va_recv hKc hPc (ci := 12) (q0 := 0) rfl rfl, fun U hU hW9 => st_mk hU hW9 hPc hKc hDc hex⟩ rfl rfl hl.1 rfl (lv_room (Nat.le_of_ble_eq_true rfl)) dL_law_387 ⟨Nat.le_of_ble_eq_true rfl, Nat.le_of_ble_eq_true rfl⟩) hS (fun q _ h => hFc q h) hFc (fun r_2 u9 t9 H1 locs ht9 hvm9 hw9 hB9 hz9 hk9 hS => ?_)
  have hP1 : va_P (dC, dI) cl0 [] H1 := fun k q h => by simp at h
  have hD1 : va_D (va_A [(y0, .inr (12, fy))] H.size) [] := ⟨fun i j p q h => by simp at h, fun k q h => by simp at h⟩
  obtain ⟨hP, hD⟩ := va_join (wr := [(ht, .inr (0, ft)), (htd, .inl (cB, 64, .inl (fun _ => 0))), (hw, .inr (0, fw)), (hc, .inr (2, fc)), (hr, .inr (6, fr)), (hm, .inr (5, fm)), (hma, .inl (cJ, 8, .inr (.inl (fun _ => 0)))), (hs, .inr (8, fq)), (hsa, .inl (cI, 12, .inl (fun _ => 0))), (hyt, .inl (cB2, 16000, .inl (fun _ => 0))), (hst, .inr (13, [])), (hya, .inl (cJ2, 8, .inr (.inl (fun _ => 0)))), (hyd, .inl (cI2, 12, .inl (fun _ => 0)))]) (w1 := []) hP hD [9] [0, 1, 2, 3, 4, 5, 6, 7, 8, 10, 11, 12, 13] rfl rfl (by decide) (by decide) hk9 hFc hP1 hD1
  generalize H1 = H at hP hS ⊢
  have hP : va_P (dC, dI) cl0 [(ht, .inr (0, ft)), (htd, .inl (cB, 64, .inl (fun _ => 0))), (hw, .inr (0, fw)), (hc, .inr (2, fc)), (hr, .inr (6, fr)), (hm, .inr (5, fm)), (hma, .inl (cJ, 8, .inr (.inl (fun _ => 0)))), (hs, .inr (8, fq)), (hsa, .inl (cI, 12, .inl (fun _ => 0))), (hyt, .inl (cB2, 16000, .inl (fun _ => 0))), (hst, .inr (13, [])), (hya, .inl (cJ2, 8, .inr (.inl (fun _ => 0)))), (hyd, .inl (cI2, 12, .inl (fun _ => 0)))] H := hP
  have hD : va_D A [(ht, .inr (0, ft)), (htd, .inl (cB, 64, .inl (fun _ => 0))), (hw, .inr (0, fw)), (hc, .inr (2, fc)), (hr, .inr (6, fr)), (hm, .inr (5, fm)), (hma, .inl (cJ, 8, .inr (.inl (fun _ => 0)))), (hs, .inr (8, fq)), (hsa, .inl (cI, 12, .inl (fun _ => 0))), (hyt, .inl (cB2, 16000, .inl (fun _ => 0))), (hst, .inr (13, [])), (hya, .inl (cJ2, 8, .inr (.inl (fun _ => 0)))), (hyd, .inl (cI2, 12, .inl (fun _ => 0)))] := hD
  have hw9 : r_2 = (-1) := hw9
  subst hw9
  refine lv_icmp_eq (tgt := 1010) hx hb dL_law_390 (by decide) (fun _ => ?_) (fun c9 => absurd (by decide) c9)
  refine W.widen (k := 173) (n := 857181) (Nat.le_refl _) (Nat.le_refl _) ?_
  exact law_end hAd C0 hS hl
set_option maxHeartbeats 4000000 in
set_option maxRecDepth 100000 in
theorem law_c9 {p : Program} {l : Launch} {e : Env} {s : State} {m : MethodId} {below : List Frame} {meth : Method} {c : Code} {dC : Nat → ClassId} {dI : Nat → Nat → Nat} {b L : Nat} {xs : Nat → Int32} {A : Nat → Prop} (hAd : A = fun q : Nat => s.heap.size ≤ q) (hL6 : L = 6) (C0 : lw_At p s m meth c b L xs) (hex : ex s) (hE : mg A s s.heap) {x0 y0 : Nat} {H : Heap} {locs : List Loc} (hF : law_fr dC dI A x0 y0 s H) (hS : va_S A s.heap H locs) {ls : Array Slot} (hl : lv_has ls 4 [(0, .ref b), (1, .ref x0), (2, .ref y0), (3, .int 0)]) : W p l e room_1 s m #[Value.ref b] below meth c H locs 173 857181 (lw_Z below #[Value.ref b] s) (F0 m 395 ls []) := by
  subst hL6
  obtain ⟨hx, hb, hr, hml, hown, hts1, hX, hbl, hlocks, hgv⟩ := id C0
  have hts : ∀ w ∈ tb, w.before #[Value.ref b] s = true := fun w h => hts1 w (tb_lw w h)
  have hown : s.vm.findClass RL = some m.cls := hown
  have hA : ∀ q : Nat, s.heap.size ≤ q → A q := fun q h => by rw [hAd]; exact h
  have hbA : ¬ A b := by rw [hAd]; exact Nat.not_le.mpr hbl
  obtain ⟨fx, ht, ft, htd, cB, hw, fw, hc, fc, hr, fr, hm, fm, hma, cJ, hs, fq, hsa, cI, fy, hyt, cB2, hst, hya, cJ2, hyd, cI2, L_fx, g_fx_0, g_fx_1, g_fx_4, g_fx_7, g_fx_9, g_fx_10, g_fx_11, g_fx_12, g_fx_13, g_fx_14, g_fx_15, g_fx_16, L_ft, g_ft_0, g_ft_1, L_fw, g_fw_1, L_fc, g_fc_0, L_fr, L_fm, g_fm_0, g_fm_5, g_fm_6, g_fm_7, g_fm_16, g_fm_17, g_fm_18, g_fm_19, L_fq, g_fq_1, L_fy, g_fy_1, g_fy_3, g_fy_4, g_fy_5, g_fy_6, g_fy_9, g_fy_10, g_fy_64, g_fy_65, g_fy_78, g_fy_80, g_fy_85, g_fy_87, g_fy_88, g_fy_96, g_fy_100, g_fy_101, g_fy_102, g_fy_124, hP, hK, hD⟩ := hF
  refine lv_aload_n hx hb dL_law_395 rfl (lv_at hl 1 rfl) ?_
  have hPc := hP.sub (ws' := [(x0, .inr (10, fx))]) [0] rfl
  have hDc := hD.sub (ws' := [(x0, .inr (10, fx))]) [0] (by decide) rfl
  have hKc := hK.sub (tys' := []) [] rfl
  have hFc := va_free (wc := [(x0, .inr (10, fx))]) hD hS hA [0] rfl
  refine va_calli (va_runV (As := []) (rest := []) ⟨hx, hb, hml, hown, hts⟩ (m_X12_at l dC dI H.size x0 fx L_fx g_fx_16) (cwV 0 hts (gd_V kw_493 kw_494 kw_495 kw_169 kw_496) rfl rfl rfl (by decide +kernel) ⟨Nat.le_of_ble_eq_true rfl, Nat.le_of_ble_eq_true rfl⟩) ⟨st_blind, va_recv hKc hPc (ci := 10) (q0 := 0) rfl rfl, fun U hU hW9 => st_mk hU hW9 hPc hKc hDc hex⟩ rfl rfl hl.1 rfl (lv_room (Nat.le_of_ble_eq_true rfl)) dL_law_396 ⟨Nat.le_of_ble_eq_true rfl, Nat.le_of_ble_eq_true rfl⟩) hS (fun q _ h => hFc q h) hFc (fun r_1 u9 t9 H1 locs ht9 hvm9 hw9 hB9 hz9 hk9 hS => ?_)
  have hP1 : va_P (dC, dI) cl0 [] H1 := fun k q h => by simp at h
  have hD1 : va_D (va_A [(x0, .inr (10, fx))] H.size) [] := ⟨fun i j p q h => by simp at h, fun k q h => by simp at h⟩
  obtain ⟨hP, hD⟩ := va_join (wr := [(ht, .inr (0, ft)), (htd, .inl (cB, 64, .inl (fun _ => 0))), (hw, .inr (0, fw)), (hc, .inr (2, fc)), (hr, .inr (6, fr)), (hm, .inr (5, fm)), (hma, .inl (cJ, 8, .inr (.inl (fun _ => 0)))), (hs, .inr (8, fq)), (hsa, .inl (cI, 12, .inl (fun _ => 0))), (y0, .inr (12, fy)), (hyt, .inl (cB2, 16000, .inl (fun _ => 0))), (hst, .inr (13, [])), (hya, .inl (cJ2, 8, .inr (.inl (fun _ => 0)))), (hyd, .inl (cI2, 12, .inl (fun _ => 0)))]) (w1 := []) hP hD [0] [1, 2, 3, 4, 5, 6, 7, 8, 9, 10, 11, 12, 13, 14] rfl rfl (by decide) (by decide) hk9 hFc hP1 hD1
  generalize H1 = H at hP hS ⊢
  have hP : va_P (dC, dI) cl0 [(ht, .inr (0, ft)), (htd, .inl (cB, 64, .inl (fun _ => 0))), (hw, .inr (0, fw)), (hc, .inr (2, fc)), (hr, .inr (6, fr)), (hm, .inr (5, fm)), (hma, .inl (cJ, 8, .inr (.inl (fun _ => 0)))), (hs, .inr (8, fq)), (hsa, .inl (cI, 12, .inl (fun _ => 0))), (y0, .inr (12, fy)), (hyt, .inl (cB2, 16000, .inl (fun _ => 0))), (hst, .inr (13, [])), (hya, .inl (cJ2, 8, .inr (.inl (fun _ => 0)))), (hyd, .inl (cI2, 12, .inl (fun _ => 0)))] H := hP
  have hD : va_D A [(ht, .inr (0, ft)), (htd, .inl (cB, 64, .inl (fun _ => 0))), (hw, .inr (0, fw)), (hc, .inr (2, fc)), (hr, .inr (6, fr)), (hm, .inr (5, fm)), (hma, .inl (cJ, 8, .inr (.inl (fun _ => 0)))), (hs, .inr (8, fq)), (hsa, .inl (cI, 12, .inl (fun _ => 0))), (y0, .inr (12, fy)), (hyt, .inl (cB2, 16000, .inl (fun _ => 0))), (hst, .inr (13, [])), (hya, .inl (cJ2, 8, .inr (.inl (fun _ => 0)))), (hyd, .inl (cI2, 12, .inl (fun _ => 0)))] := hD
  have hw9 : r_1 = (-1) := hw9
  subst hw9
  refine lv_aload_n hx hb dL_law_399 rfl (lv_at hl 2 rfl) ?_
  have hPc := hP.sub (ws' := [(y0, .inr (12, fy))]) [9] rfl
  have hDc := hD.sub (ws' := [(y0, .inr (12, fy))]) [9] (by decide) rfl
  have hKc := hK.sub (tys' := []) [] rfl
  have hFc := va_free (wc := [(y0, .inr (12, fy))]) hD hS hA [9] rfl
  refine va_calli (va_runV (As := []) (rest := [.int (-1)]) ⟨hx, hb, hml, hown, hts⟩ (m_X14_at l dC dI H.size y0 fy L_fy g_fy_65) (cwV 0 hts (gd_V kw_497 kw_498 kw_499 kw_374 kw_500) rfl rfl rfl (by decide +kernel) ⟨Nat.le_of_ble_eq_true rfl, Nat.le_of_ble_eq_true rfl⟩) ⟨st_blind, va_recv hKc hPc (ci := 12) (q0 := 0) rfl rfl, fun U hU hW9 => st_mk hU hW9 hPc hKc hDc hex⟩ rfl rfl hl.1 rfl (lv_room (Nat.le_of_ble_eq_true rfl)) dL_law_400 ⟨Nat.le_of_ble_eq_true rfl, Nat.le_of_ble_eq_true rfl⟩) hS (fun q _ h => hFc q h) hFc (fun r_2 u9 t9 H1 locs ht9 hvm9 hw9 hB9 hz9 hk9 hS => ?_)
  have hP1 : va_P (dC, dI) cl0 [] H1 := fun k q h => by simp at h
  have hD1 : va_D (va_A [(y0, .inr (12, fy))] H.size) [] := ⟨fun i j p q h => by simp at h, fun k q h => by simp at h⟩
  obtain ⟨hP, hD⟩ := va_join (wr := [(ht, .inr (0, ft)), (htd, .inl (cB, 64, .inl (fun _ => 0))), (hw, .inr (0, fw)), (hc, .inr (2, fc)), (hr, .inr (6, fr)), (hm, .inr (5, fm)), (hma, .inl (cJ, 8, .inr (.inl (fun _ => 0)))), (hs, .inr (8, fq)), (hsa, .inl (cI, 12, .inl (fun _ => 0))), (hyt, .inl (cB2, 16000, .inl (fun _ => 0))), (hst, .inr (13, [])), (hya, .inl (cJ2, 8, .inr (.inl (fun _ => 0)))), (hyd, .inl (cI2, 12, .inl (fun _ => 0)))]) (w1 := []) hP hD [9] [0, 1, 2, 3, 4, 5, 6, 7, 8, 10, 11, 12, 13] rfl rfl (by decide) (by decide) hk9 hFc hP1 hD1
  generalize H1 = H at hP hS ⊢
  have hP : va_P (dC, dI) cl0 [(ht, .inr (0, ft)), (htd, .inl (cB, 64, .inl (fun _ => 0))), (hw, .inr (0, fw)), (hc, .inr (2, fc)), (hr, .inr (6, fr)), (hm, .inr (5, fm)), (hma, .inl (cJ, 8, .inr (.inl (fun _ => 0)))), (hs, .inr (8, fq)), (hsa, .inl (cI, 12, .inl (fun _ => 0))), (hyt, .inl (cB2, 16000, .inl (fun _ => 0))), (hst, .inr (13, [])), (hya, .inl (cJ2, 8, .inr (.inl (fun _ => 0)))), (hyd, .inl (cI2, 12, .inl (fun _ => 0)))] H := hP
  have hD : va_D A [(ht, .inr (0, ft)), (htd, .inl (cB, 64, .inl (fun _ => 0))), (hw, .inr (0, fw)), (hc, .inr (2, fc)), (hr, .inr (6, fr)), (hm, .inr (5, fm)), (hma, .inl (cJ, 8, .inr (.inl (fun _ => 0)))), (hs, .inr (8, fq)), (hsa, .inl (cI, 12, .inl (fun _ => 0))), (hyt, .inl (cB2, 16000, .inl (fun _ => 0))), (hst, .inr (13, [])), (hya, .inl (cJ2, 8, .inr (.inl (fun _ => 0)))), (hyd, .inl (cI2, 12, .inl (fun _ => 0)))] := hD
  have hw9 : r_2 = (-1) := hw9
  subst hw9
  refine lv_icmp_eq (tgt := 1010) hx hb dL_law_403 (by decide) (fun _ => ?_) (fun c9 => absurd (by decide) c9)
  refine W.widen (k := 173) (n := 857181) (Nat.le_refl _) (Nat.le_refl _) ?_
  exact law_end hAd C0 hS hl
