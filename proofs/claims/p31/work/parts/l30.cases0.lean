set_option maxHeartbeats 4000000 in
set_option maxRecDepth 100000 in
theorem law_c0 {p : Program} {l : Launch} {e : Env} {s : State} {m : MethodId} {below : List Frame} {meth : Method} {c : Code} {b L : Nat} {xs : Nat → Int32} {A : Nat → Prop} (hAd : A = fun q : Nat => s.heap.size ≤ q) (C0 : lw_At p s m meth c b L xs) (hex : ex s) {g g' : Gr} {ad ad' : Nat → Nat} {S S' : MS} {H : Heap} {locs : List Loc} {k : Nat} {i : Int32} (hi : LX i k L) (hJ : LB g g' ad ad' A s S S' H locs) (hC : CJ S) (hG : GI k S') (ha : qI S 44 7 = qI S' 0 88) {ls : Array Slot} (hl : lv_has ls 4 [(0, .ref b), (1, .ref (ad 0)), (2, .ref (ad' 0)), (3, .int i)]) (kk : ∀ (ad1 ad2 : Nat → Nat) (S1 S2 : MS) (H1 : Heap) (locs1 : List Loc), ad1 0 = ad 0 → ad2 0 = ad' 0 → LB g g' ad1 ad2 A s S1 S2 H1 locs1 → CJ S1 → GI (k + 1) S2 → qI S1 44 7 = qI S2 0 88 → W p l e room_1 s m #[Value.ref b] below meth c H1 locs1 (qn S1 + qn S2) (qu S1 + qu S2) (lw_Z below #[Value.ref b] s) (F0 m 1008 ls [])) : W p l e room_1 s m #[Value.ref b] below meth c H locs (qn S + qn S') (qu S + qu S') (lw_Z below #[Value.ref b] s) (F0 m 168 ls []) := by
  obtain ⟨hx, hb, hr, hml, hown, hts1, hX, hbl, hlocks, hgv⟩ := id C0
  have hts : ∀ w ∈ LWt, w.before #[Value.ref b] s = true := LWt_ok hts1
  have hown : s.vm.findClass RL = some m.cls := hown
  have hA : ∀ q : Nat, s.heap.size ≤ q → A q := fun q h => by rw [hAd]; exact h
  have hbA : ¬ A b := by rw [hAd]; exact Nat.not_le.mpr hbl
  have hk5 : k ≤ 512 := by have := hi.2.1; have := hi.2.2; omega
  refine lv_aload_n hx hb dL_law_168 rfl (lv_at hl 1 rfl) ?_
  refine lv_aload_n hx hb dL_law_169 rfl (lv_at hl 0 rfl) ?_
  refine lv_iload_n hx hb dL_law_170 rfl (lv_at hl 3 rfl) ?_
  refine lv_iconst (v := 1) hx hb dL_law_171 (by decide) ?_
  refine lv_iadd hx hb dL_law_172 ?_
  refine va_sld hx hb hX hbl hbA hJ.1.sS (hi.in 1 (by decide)) dL_law_173 ?_
  refine lv_topi (fun a1 ea1 => ?_)
  refine lv_aload_n hx hb dL_law_174 rfl (lv_at hl 0 rfl) ?_
  refine lv_iload_n hx hb dL_law_175 rfl (lv_at hl 3 rfl) ?_
  refine lv_iconst (v := 2) hx hb dL_law_176 (by decide) ?_
  refine lv_iadd hx hb dL_law_177 ?_
  refine va_sld hx hb hX hbl hbA hJ.1.sS (hi.in 2 (by decide)) dL_law_178 ?_
  refine lv_topi (fun a2 ea2 => ?_)
  refine lv_aload_n hx hb dL_law_179 rfl (lv_at hl 0 rfl) ?_
  refine lv_iload_n hx hb dL_law_180 rfl (lv_at hl 3 rfl) ?_
  refine lv_iconst (v := 3) hx hb dL_law_181 (by decide) ?_
  refine lv_iadd hx hb dL_law_182 ?_
  refine va_sld hx hb hX hbl hbA hJ.1.sS (hi.in 3 (by decide)) dL_law_183 ?_
  refine lv_topi (fun a3 ea3 => ?_)
  refine lv_aload_n hx hb dL_law_184 rfl (lv_at hl 0 rfl) ?_
  refine lv_iload_n hx hb dL_law_185 rfl (lv_at hl 3 rfl) ?_
  refine lv_iconst (v := 4) hx hb dL_law_186 (by decide) ?_
  refine lv_iadd hx hb dL_law_187 ?_
  refine va_sld hx hb hX hbl hbA hJ.1.sS (hi.in 4 (by decide)) dL_law_188 ?_
  refine lv_topi (fun a4 ea4 => ?_)
  refine lv_aload_n hx hb dL_law_189 rfl (lv_at hl 0 rfl) ?_
  refine lv_iload_n hx hb dL_law_190 rfl (lv_at hl 3 rfl) ?_
  refine lv_iconst (v := 5) hx hb dL_law_191 (by decide) ?_
  refine lv_iadd hx hb dL_law_192 ?_
  refine va_sld hx hb hX hbl hbA hJ.1.sS (hi.in 5 (by decide)) dL_law_193 ?_
  refine lv_topi (fun a5 ea5 => ?_)
  obtain ⟨Q9, h9, k9⟩ := cj_feed (x1 := a1) (x2 := a2) (x3 := a3) (x4 := a4) (x5 := a5) hJ.1.w hC
  refine W_led2 (fun hL0 => ?_)
  have hFc := cfree hJ.1 hA
  refine va_calli (va_runV (As := [.int a1, .int a2, .int a3, .int a4, .int a5]) (rest := []) ⟨hx, hb, hml, hown, hts⟩ (rX12_feed l g ad H S a1 a2 a3 a4 a5 hJ.1.w Q9 h9) (cwV 5 hts (gd_LC lk_0 lk_2 lk_3 lk_4 lk_1) rfl rfl rfl (by decide +kernel) ⟨Nat.le_of_ble_eq_true rfl, Nat.le_of_ble_eq_true rfl⟩) ⟨cblindH, va_recv hJ.1.K hJ.1.P (ci := 11) (q0 := 0) rfl (hJ.1.at51 hJ.1.w.1), fun U hU hW9 => cmkH hU hW9 hJ.1 hex hJ.2.2.2.2.1 hFc⟩ rfl rfl hl.1 rfl (lv_room (Nat.le_of_ble_eq_true rfl)) dL_law_194 hJ.cc) hJ.1.sS (fun q _ h => hFc q h) hFc (fun r19 T1 t9 H1 locs1 ht9 hvm9 hw9 hB9 hz9 hk9 hS9 => ?_)
  rcases T1 with ⟨T1, ad1⟩
  obtain ⟨hB9, dc9, ds9, hL9, hl9⟩ := hB9
  dsimp only at hw9 hB9 hl9
  rw [ht9] at hL9
  obtain ⟨hq9, hw9, hs9, hk8⟩ := hw9
  have eAc : ad1 0 = ad 0 := hk8 _ (hJ.1.w.hd hJ.1.w.1 (by decide) (by decide))
  refine W_tight2 (cells' := qn T1 + qn S') (slots' := qu T1 + qu S') (jn_cc1 hl9 (hL0.tr hL9).1) (jn_cc2 hl9 (hL0.tr hL9).2.1) ?_
  have hJ := hJ.cH ht9 hB9 hw9 hl9 hk8 hS9 hFc hk9
  obtain ⟨hC, e7c⟩ := k9 r19 T1 hq9
  have hC := hC hJ.1.w
  refine lv_pop hx hb dL_law_197 rfl ?_
  refine lv_aload_n hx hb dL_law_198 rfl (lv_at hl 2 rfl) ?_
  refine lv_aload_n hx hb dL_law_199 rfl (lv_at hl 0 rfl) ?_
  refine lv_iload_n hx hb dL_law_200 rfl (lv_at hl 3 rfl) ?_
  refine lv_iconst (v := 1) hx hb dL_law_201 (by decide) ?_
  refine lv_iadd hx hb dL_law_202 ?_
  refine va_sld hx hb hX hbl hbA hJ.1.sS (hi.in 1 (by decide)) dL_law_203 ?_
  refine lv_topi (fun a6 ea6 => ?_)
  refine lv_aload_n hx hb dL_law_204 rfl (lv_at hl 0 rfl) ?_
  refine lv_iload_n hx hb dL_law_205 rfl (lv_at hl 3 rfl) ?_
  refine lv_iconst (v := 2) hx hb dL_law_206 (by decide) ?_
  refine lv_iadd hx hb dL_law_207 ?_
  refine va_sld hx hb hX hbl hbA hJ.1.sS (hi.in 2 (by decide)) dL_law_208 ?_
  refine lv_topi (fun a7 ea7 => ?_)
  refine lv_aload_n hx hb dL_law_209 rfl (lv_at hl 0 rfl) ?_
  refine lv_iload_n hx hb dL_law_210 rfl (lv_at hl 3 rfl) ?_
  refine lv_iconst (v := 3) hx hb dL_law_211 (by decide) ?_
  refine lv_iadd hx hb dL_law_212 ?_
  refine va_sld hx hb hX hbl hbA hJ.1.sS (hi.in 3 (by decide)) dL_law_213 ?_
  refine lv_topi (fun a8 ea8 => ?_)
  refine lv_aload_n hx hb dL_law_214 rfl (lv_at hl 0 rfl) ?_
  refine lv_iload_n hx hb dL_law_215 rfl (lv_at hl 3 rfl) ?_
  refine lv_iconst (v := 4) hx hb dL_law_216 (by decide) ?_
  refine lv_iadd hx hb dL_law_217 ?_
  refine va_sld hx hb hX hbl hbA hJ.1.sS (hi.in 4 (by decide)) dL_law_218 ?_
  refine lv_topi (fun a9 ea9 => ?_)
  refine lv_aload_n hx hb dL_law_219 rfl (lv_at hl 0 rfl) ?_
  refine lv_iload_n hx hb dL_law_220 rfl (lv_at hl 3 rfl) ?_
  refine lv_iconst (v := 5) hx hb dL_law_221 (by decide) ?_
  refine lv_iadd hx hb dL_law_222 ?_
  refine va_sld hx hb hX hbl hbA hJ.1.sS (hi.in 5 (by decide)) dL_law_223 ?_
  refine lv_topi (fun a10 ea10 => ?_)
  obtain ⟨Q9, h9, k9⟩ := (show ∃ Q, w_feed S' a6 a7 a8 a9 a10 Q ∧ ∀ (r : Int32) (u : MS), Q r u → GS k S' u from g_feed hG)
  have hFc := rfree hJ.2.1 hA
  refine va_calli (va_runV (As := [.int a6, .int a7, .int a8, .int a9, .int a10]) (rest := []) ⟨hx, hb, hml, hown, hts⟩ (r_feed l g' ad' H1.size S' a6 a7 a8 a9 a10 hJ.2.1.w Q9 h9) (cwV 5 hts (gd_LR lk_5 lk_7 lk_8 lk_9 lk_6) rfl rfl rfl (by decide +kernel) ⟨Nat.le_of_ble_eq_true rfl, Nat.le_of_ble_eq_true rfl⟩) ⟨rblind, va_recv hJ.2.1.K hJ.2.1.P (ci := 13) (q0 := 0) rfl (hJ.2.1.at14 hJ.2.1.w.1), fun U hU hW9 => rmk hU hW9 hJ.2.1 hex hJ.2.2.2.2.2 hFc⟩ rfl rfl hl.1 rfl (lv_room (Nat.le_of_ble_eq_true rfl)) dL_law_224 hJ.c0) hJ.2.1.sS (fun q _ h => hFc q h) hFc (fun r29 T2 t9 H2 locs2 ht9 hvm9 hw9 hB9 hz9 hk9 hS9 => ?_)
  obtain ⟨hq9, hw9, hs9⟩ := hw9
  refine W_eq (hs9.n2).1 (hs9.n2).2 ?_
  have hJ := hJ.rN ht9 hB9 hw9 hs9 hS9 hFc hk9
  obtain ⟨hG, e7r⟩ := k9 r29 T2 hq9
  refine lv_pop hx hb dL_law_227 rfl ?_
  refine lv_goto (tgt := 1008) hx hb dL_law_228 (by decide) ?_
  have e7 := e7c.trans (ha.trans e7r.symm)
  exact kk _ _ _ _ _ _ eAc rfl hJ hC hG e7
set_option maxHeartbeats 4000000 in
set_option maxRecDepth 100000 in
theorem law_c1 {p : Program} {l : Launch} {e : Env} {s : State} {m : MethodId} {below : List Frame} {meth : Method} {c : Code} {b L : Nat} {xs : Nat → Int32} {A : Nat → Prop} (hAd : A = fun q : Nat => s.heap.size ≤ q) (C0 : lw_At p s m meth c b L xs) (hex : ex s) {g g' : Gr} {ad ad' : Nat → Nat} {S S' : MS} {H : Heap} {locs : List Loc} {k : Nat} {i : Int32} (hi : LX i k L) (hJ : LB g g' ad ad' A s S S' H locs) (hC : CJ S) (hG : GI k S') (ha : qI S 44 7 = qI S' 0 88) {ls : Array Slot} (hl : lv_has ls 4 [(0, .ref b), (1, .ref (ad 0)), (2, .ref (ad' 0)), (3, .int i)]) (kk : ∀ (ad1 ad2 : Nat → Nat) (S1 S2 : MS) (H1 : Heap) (locs1 : List Loc), ad1 0 = ad 0 → ad2 0 = ad' 0 → LB g g' ad1 ad2 A s S1 S2 H1 locs1 → CJ S1 → GI (k + 1) S2 → qI S1 44 7 = qI S2 0 88 → W p l e room_1 s m #[Value.ref b] below meth c H1 locs1 (qn S1 + qn S2) (qu S1 + qu S2) (lw_Z below #[Value.ref b] s) (F0 m 1008 ls [])) : W p l e room_1 s m #[Value.ref b] below meth c H locs (qn S + qn S') (qu S + qu S') (lw_Z below #[Value.ref b] s) (F0 m 231 ls []) := by
  obtain ⟨hx, hb, hr, hml, hown, hts1, hX, hbl, hlocks, hgv⟩ := id C0
  have hts : ∀ w ∈ LWt, w.before #[Value.ref b] s = true := LWt_ok hts1
  have hown : s.vm.findClass RL = some m.cls := hown
  have hA : ∀ q : Nat, s.heap.size ≤ q → A q := fun q h => by rw [hAd]; exact h
  have hbA : ¬ A b := by rw [hAd]; exact Nat.not_le.mpr hbl
  have hk5 : k ≤ 512 := by have := hi.2.1; have := hi.2.2; omega
  refine lv_aload_n hx hb dL_law_231 rfl (lv_at hl 1 rfl) ?_
  refine lv_aload_n hx hb dL_law_232 rfl (lv_at hl 0 rfl) ?_
  refine lv_iload_n hx hb dL_law_233 rfl (lv_at hl 3 rfl) ?_
  refine lv_iconst (v := 1) hx hb dL_law_234 (by decide) ?_
  refine lv_iadd hx hb dL_law_235 ?_
  refine va_sld hx hb hX hbl hbA hJ.1.sS (hi.in 1 (by decide)) dL_law_236 ?_
  refine lv_topi (fun a1 ea1 => ?_)
  obtain ⟨Q9, h9, k9⟩ := cj_end (x1 := a1) hJ.1.w hC
  have hFc := cfree hJ.1 hA
  refine va_calli (va_runV (As := [.int a1]) (rest := []) ⟨hx, hb, hml, hown, hts⟩ (rX12_end l g ad H.size S a1 hJ.1.w Q9 h9) (cwV 1 hts (gd_LC lk_10 lk_12 lk_13 lk_4 lk_11) rfl rfl rfl (by decide +kernel) ⟨Nat.le_of_ble_eq_true rfl, Nat.le_of_ble_eq_true rfl⟩) ⟨cblind, va_recv hJ.1.K hJ.1.P (ci := 11) (q0 := 0) rfl (hJ.1.at51 hJ.1.w.1), fun U hU hW9 => cmk hU hW9 hJ.1 hex hJ.2.2.2.2.1 hFc⟩ rfl rfl hl.1 rfl (lv_room (Nat.le_of_ble_eq_true rfl)) dL_law_237 hJ.c0) hJ.1.sS (fun q _ h => hFc q h) hFc (fun r19 T1 t9 H1 locs1 ht9 hvm9 hw9 hB9 hz9 hk9 hS9 => ?_)
  obtain ⟨hq9, hw9, hs9, -⟩ := hw9
  refine W_eq (hs9.n).1 (hs9.n).2 ?_
  have hJ := hJ.cN ht9 hB9 hw9 hs9 hS9 hFc hk9
  obtain ⟨hC, e7c⟩ := k9 r19 T1 hq9
  have hC := hC hJ.1.w
  refine lv_pop hx hb dL_law_240 rfl ?_
  refine lv_aload_n hx hb dL_law_241 rfl (lv_at hl 2 rfl) ?_
  refine lv_aload_n hx hb dL_law_242 rfl (lv_at hl 0 rfl) ?_
  refine lv_iload_n hx hb dL_law_243 rfl (lv_at hl 3 rfl) ?_
  refine lv_iconst (v := 1) hx hb dL_law_244 (by decide) ?_
  refine lv_iadd hx hb dL_law_245 ?_
  refine va_sld hx hb hX hbl hbA hJ.1.sS (hi.in 1 (by decide)) dL_law_246 ?_
  refine lv_topi (fun a2 ea2 => ?_)
  obtain ⟨Q9, h9, k9⟩ := (show ∃ Q, w_end S' a2 Q ∧ ∀ (r : Int32) (u : MS), Q r u → GS k S' u from g_end hG)
  have hFc := rfree hJ.2.1 hA
  refine va_calli (va_runV (As := [.int a2]) (rest := []) ⟨hx, hb, hml, hown, hts⟩ (r_end l g' ad' H1.size S' a2 hJ.2.1.w Q9 h9) (cwV 1 hts (gd_LR lk_14 lk_16 lk_17 lk_9 lk_15) rfl rfl rfl (by decide +kernel) ⟨Nat.le_of_ble_eq_true rfl, Nat.le_of_ble_eq_true rfl⟩) ⟨rblind, va_recv hJ.2.1.K hJ.2.1.P (ci := 13) (q0 := 0) rfl (hJ.2.1.at14 hJ.2.1.w.1), fun U hU hW9 => rmk hU hW9 hJ.2.1 hex hJ.2.2.2.2.2 hFc⟩ rfl rfl hl.1 rfl (lv_room (Nat.le_of_ble_eq_true rfl)) dL_law_247 hJ.c0) hJ.2.1.sS (fun q _ h => hFc q h) hFc (fun r29 T2 t9 H2 locs2 ht9 hvm9 hw9 hB9 hz9 hk9 hS9 => ?_)
  obtain ⟨hq9, hw9, hs9, -⟩ := hw9
  refine W_eq (hs9.n2).1 (hs9.n2).2 ?_
  have hJ := hJ.rN ht9 hB9 hw9 hs9 hS9 hFc hk9
  obtain ⟨hG, e7r⟩ := k9 r29 T2 hq9
  refine lv_pop hx hb dL_law_250 rfl ?_
  refine lv_goto (tgt := 1008) hx hb dL_law_251 (by decide) ?_
  have e7 := e7c.trans (ha.trans e7r.symm)
  exact kk _ _ _ _ _ _ rfl rfl hJ hC hG e7
set_option maxHeartbeats 4000000 in
set_option maxRecDepth 100000 in
theorem law_c2 {p : Program} {l : Launch} {e : Env} {s : State} {m : MethodId} {below : List Frame} {meth : Method} {c : Code} {b L : Nat} {xs : Nat → Int32} {A : Nat → Prop} (hAd : A = fun q : Nat => s.heap.size ≤ q) (C0 : lw_At p s m meth c b L xs) (hex : ex s) {g g' : Gr} {ad ad' : Nat → Nat} {S S' : MS} {H : Heap} {locs : List Loc} {k : Nat} {i : Int32} (hi : LX i k L) (hJ : LB g g' ad ad' A s S S' H locs) (hC : CJ S) (hG : GI k S') (ha : qI S 44 7 = qI S' 0 88) {ls : Array Slot} (hl : lv_has ls 4 [(0, .ref b), (1, .ref (ad 0)), (2, .ref (ad' 0)), (3, .int i)]) (kk : ∀ (ad1 ad2 : Nat → Nat) (S1 S2 : MS) (H1 : Heap) (locs1 : List Loc), ad1 0 = ad 0 → ad2 0 = ad' 0 → LB g g' ad1 ad2 A s S1 S2 H1 locs1 → CJ S1 → GI (k + 1) S2 → qI S1 44 7 = qI S2 0 88 → W p l e room_1 s m #[Value.ref b] below meth c H1 locs1 (qn S1 + qn S2) (qu S1 + qu S2) (lw_Z below #[Value.ref b] s) (F0 m 1008 ls [])) : W p l e room_1 s m #[Value.ref b] below meth c H locs (qn S + qn S') (qu S + qu S') (lw_Z below #[Value.ref b] s) (F0 m 254 ls []) := by
  obtain ⟨hx, hb, hr, hml, hown, hts1, hX, hbl, hlocks, hgv⟩ := id C0
  have hts : ∀ w ∈ LWt, w.before #[Value.ref b] s = true := LWt_ok hts1
  have hown : s.vm.findClass RL = some m.cls := hown
  have hA : ∀ q : Nat, s.heap.size ≤ q → A q := fun q h => by rw [hAd]; exact h
  have hbA : ¬ A b := by rw [hAd]; exact Nat.not_le.mpr hbl
  have hk5 : k ≤ 512 := by have := hi.2.1; have := hi.2.2; omega
  refine lv_aload_n hx hb dL_law_254 rfl (lv_at hl 1 rfl) ?_
  obtain ⟨Q9, h9, k9⟩ := cj_file hJ.1.w hC
  refine W_led2 (fun hL0 => ?_)
  have hFc := cfree hJ.1 hA
  refine va_calli (va_runV (As := []) (rest := []) ⟨hx, hb, hml, hown, hts⟩ (rX12_file l g ad H S hJ.1.w Q9 h9) (cwV 0 hts (gd_LC lk_18 lk_20 lk_21 lk_4 lk_19) rfl rfl rfl (by decide +kernel) ⟨Nat.le_of_ble_eq_true rfl, Nat.le_of_ble_eq_true rfl⟩) ⟨cblindH, va_recv hJ.1.K hJ.1.P (ci := 11) (q0 := 0) rfl (hJ.1.at51 hJ.1.w.1), fun U hU hW9 => cmkH hU hW9 hJ.1 hex hJ.2.2.2.2.1 hFc⟩ rfl rfl hl.1 rfl (lv_room (Nat.le_of_ble_eq_true rfl)) dL_law_255 hJ.cc) hJ.1.sS (fun q _ h => hFc q h) hFc (fun r19 T1 t9 H1 locs1 ht9 hvm9 hw9 hB9 hz9 hk9 hS9 => ?_)
  rcases T1 with ⟨T1, ad1⟩
  obtain ⟨hB9, dc9, ds9, hL9, hl9⟩ := hB9
  dsimp only at hw9 hB9 hl9
  rw [ht9] at hL9
  obtain ⟨hq9, hw9, hs9, hk8⟩ := hw9
  have eAc : ad1 0 = ad 0 := hk8 _ (hJ.1.w.hd hJ.1.w.1 (by decide) (by decide))
  refine W_tight2 (cells' := qn T1 + qn S') (slots' := qu T1 + qu S') (jn_cc1 hl9 (hL0.tr hL9).1) (jn_cc2 hl9 (hL0.tr hL9).2.1) ?_
  have hJ := hJ.cH ht9 hB9 hw9 hl9 hk8 hS9 hFc hk9
  obtain ⟨hC, e7c⟩ := k9 r19 T1 hq9
  have hC := hC hJ.1.w
  refine lv_pop hx hb dL_law_258 rfl ?_
  refine lv_aload_n hx hb dL_law_259 rfl (lv_at hl 2 rfl) ?_
  obtain ⟨Q9, h9, k9⟩ := (show ∃ Q, w_file S' Q ∧ ∀ (r : Int32) (u : MS), Q r u → GS k S' u from g_file hG hk5)
  refine W_led2 (fun hL0 => ?_)
  have hFc := rfree hJ.2.1 hA
  refine vx_calli (vx_runVX (As := []) (rest := []) ⟨hx, hb, hml, hown, hts⟩ (r_file l g' ad' H1 S' hJ.2.1.w Q9 h9) (vx_cwVW (hh := [(32, 45, 46, 19)]) 0 hts (gd_LW lk_22 lk_24 lk_25 lk_9 lk_23) rfl rfl rfl (by decide +kernel) ⟨Nat.le_of_ble_eq_true rfl, Nat.le_of_ble_eq_true rfl⟩) ⟨rblindH, va_recv hJ.2.1.K hJ.2.1.P (ci := 13) (q0 := 0) rfl (hJ.2.1.at14 hJ.2.1.w.1), fun U hU hW9 => rmkH hU hW9 hJ.2.1 hex hJ.2.2.2.2.2 hFc⟩ rfl rfl hl.1 rfl (lv_room (Nat.le_of_ble_eq_true rfl)) dL_law_260 hJ.rc) hJ.2.1.sS (fun q _ h => hFc q h) hFc (fun q _ h => hFc q h) (fun E9 ce9 q9 u9 t9 H9 locs9 ht9 hvm9 hp9 hB9 hz9 hk9 hS9 hce9 hcv9 hcl9 => hp9.elim) (fun r29 T2 t9 H2 locs2 ht9 hvm9 hw9 hB9 hz9 hk9 hS9 => ?_)
  rcases T2 with ⟨T2, ad2⟩
  obtain ⟨hB9, dc9, ds9, hL9, hl9⟩ := hB9
  dsimp only at hw9 hB9 hl9
  rw [ht9] at hL9
  obtain ⟨hq9, hw9, hs9, hk8⟩ := hw9
  have eAr : ad2 0 = ad' 0 := hk8 _ (hJ.2.1.w.hd hJ.2.1.w.1 (by decide) (by decide))
  refine W_tight2 (cells' := qn T1 + qn T2) (slots' := qu T1 + qu T2) (jn_rc1 hl9 (hL0.tr hL9).1) (jn_rc2 hl9 (hL0.tr hL9).2.1) ?_
  have hJ := hJ.rH ht9 hB9 hw9 hl9 hk8 hS9 hFc hk9
  obtain ⟨hG, e7r⟩ := k9 r29 T2 hq9
  refine lv_pop hx hb dL_law_263 rfl ?_
  refine lv_goto (tgt := 1008) hx hb dL_law_264 (by decide) ?_
  have e7 := e7c.trans (ha.trans e7r.symm)
  exact kk _ _ _ _ _ _ eAc eAr hJ hC hG e7
set_option maxHeartbeats 4000000 in
set_option maxRecDepth 100000 in
theorem law_c3 {p : Program} {l : Launch} {e : Env} {s : State} {m : MethodId} {below : List Frame} {meth : Method} {c : Code} {b L : Nat} {xs : Nat → Int32} {A : Nat → Prop} (hAd : A = fun q : Nat => s.heap.size ≤ q) (C0 : lw_At p s m meth c b L xs) (hex : ex s) {g g' : Gr} {ad ad' : Nat → Nat} {S S' : MS} {H : Heap} {locs : List Loc} {k : Nat} {i : Int32} (hi : LX i k L) (hJ : LB g g' ad ad' A s S S' H locs) (hC : CJ S) (hG : GI k S') (ha : qI S 44 7 = qI S' 0 88) {ls : Array Slot} (hl : lv_has ls 4 [(0, .ref b), (1, .ref (ad 0)), (2, .ref (ad' 0)), (3, .int i)]) (kk : ∀ (ad1 ad2 : Nat → Nat) (S1 S2 : MS) (H1 : Heap) (locs1 : List Loc), ad1 0 = ad 0 → ad2 0 = ad' 0 → LB g g' ad1 ad2 A s S1 S2 H1 locs1 → CJ S1 → GI (k + 1) S2 → qI S1 44 7 = qI S2 0 88 → W p l e room_1 s m #[Value.ref b] below meth c H1 locs1 (qn S1 + qn S2) (qu S1 + qu S2) (lw_Z below #[Value.ref b] s) (F0 m 1008 ls [])) : W p l e room_1 s m #[Value.ref b] below meth c H locs (qn S + qn S') (qu S + qu S') (lw_Z below #[Value.ref b] s) (F0 m 267 ls []) := by
  obtain ⟨hx, hb, hr, hml, hown, hts1, hX, hbl, hlocks, hgv⟩ := id C0
  have hts : ∀ w ∈ LWt, w.before #[Value.ref b] s = true := LWt_ok hts1
  have hown : s.vm.findClass RL = some m.cls := hown
  have hA : ∀ q : Nat, s.heap.size ≤ q → A q := fun q h => by rw [hAd]; exact h
  have hbA : ¬ A b := by rw [hAd]; exact Nat.not_le.mpr hbl
  have hk5 : k ≤ 512 := by have := hi.2.1; have := hi.2.2; omega
  refine lv_aload_n hx hb dL_law_267 rfl (lv_at hl 1 rfl) ?_
  have hFc := cfree hJ.1 hA
  refine va_calli (va_runV (As := []) (rest := []) ⟨hx, hb, hml, hown, hts⟩ (rX12_rule l g ad H.size S hJ.1.w trivial) (cwV 0 hts (gd_LC lk_26 lk_28 lk_29 lk_4 lk_27) rfl rfl rfl (by decide +kernel) ⟨Nat.le_of_ble_eq_true rfl, Nat.le_of_ble_eq_true rfl⟩) ⟨cblind, va_recv hJ.1.K hJ.1.P (ci := 11) (q0 := 0) rfl (hJ.1.at51 hJ.1.w.1), fun U hU hW9 => cmk hU hW9 hJ.1 hex hJ.2.2.2.2.1 hFc⟩ rfl rfl hl.1 rfl (lv_room (Nat.le_of_ble_eq_true rfl)) dL_law_268 hJ.c0) hJ.1.sS (fun q _ h => hFc q h) hFc (fun r19 T1 t9 H1 locs1 ht9 hvm9 hw9 hB9 hz9 hk9 hS9 => ?_)
  have hJ := hJ.cN ht9 hB9 hJ.1.w shy.rf hS9 hFc hk9
  have e7c : qI S 44 7 = qI S 44 7 := rfl
  refine lv_pop hx hb dL_law_271 rfl ?_
  refine lv_aload_n hx hb dL_law_272 rfl (lv_at hl 2 rfl) ?_
  have hFc := rfree hJ.2.1 hA
  refine va_calli (va_runV (As := []) (rest := []) ⟨hx, hb, hml, hown, hts⟩ (r_rule l g' ad' H1.size S' hJ.2.1.w trivial) (cwV 0 hts (gd_LR lk_30 lk_32 lk_33 lk_9 lk_31) rfl rfl rfl (by decide +kernel) ⟨Nat.le_of_ble_eq_true rfl, Nat.le_of_ble_eq_true rfl⟩) ⟨rblind, va_recv hJ.2.1.K hJ.2.1.P (ci := 13) (q0 := 0) rfl (hJ.2.1.at14 hJ.2.1.w.1), fun U hU hW9 => rmk hU hW9 hJ.2.1 hex hJ.2.2.2.2.2 hFc⟩ rfl rfl hl.1 rfl (lv_room (Nat.le_of_ble_eq_true rfl)) dL_law_273 hJ.c0) hJ.2.1.sS (fun q _ h => hFc q h) hFc (fun r29 T2 t9 H2 locs2 ht9 hvm9 hw9 hB9 hz9 hk9 hS9 => ?_)
  have hJ := hJ.rN ht9 hB9 hJ.2.1.w shy.rf hS9 hFc hk9
  have hG : GI (k + 1) S' := hG.gs.1
  have e7r : qI S' 0 88 = qI S' 0 88 := rfl
  refine lv_pop hx hb dL_law_276 rfl ?_
  refine lv_goto (tgt := 1008) hx hb dL_law_277 (by decide) ?_
  have e7 := e7c.trans (ha.trans e7r.symm)
  exact kk _ _ _ _ _ _ rfl rfl hJ hC hG e7
set_option maxHeartbeats 4000000 in
set_option maxRecDepth 100000 in
theorem law_c4 {p : Program} {l : Launch} {e : Env} {s : State} {m : MethodId} {below : List Frame} {meth : Method} {c : Code} {b L : Nat} {xs : Nat → Int32} {A : Nat → Prop} (hAd : A = fun q : Nat => s.heap.size ≤ q) (C0 : lw_At p s m meth c b L xs) (hex : ex s) {g g' : Gr} {ad ad' : Nat → Nat} {S S' : MS} {H : Heap} {locs : List Loc} {k : Nat} {i : Int32} (hi : LX i k L) (hJ : LB g g' ad ad' A s S S' H locs) (hC : CJ S) (hG : GI k S') (ha : qI S 44 7 = qI S' 0 88) {ls : Array Slot} (hl : lv_has ls 4 [(0, .ref b), (1, .ref (ad 0)), (2, .ref (ad' 0)), (3, .int i)]) (kk : ∀ (ad1 ad2 : Nat → Nat) (S1 S2 : MS) (H1 : Heap) (locs1 : List Loc), ad1 0 = ad 0 → ad2 0 = ad' 0 → LB g g' ad1 ad2 A s S1 S2 H1 locs1 → CJ S1 → GI (k + 1) S2 → qI S1 44 7 = qI S2 0 88 → W p l e room_1 s m #[Value.ref b] below meth c H1 locs1 (qn S1 + qn S2) (qu S1 + qu S2) (lw_Z below #[Value.ref b] s) (F0 m 1008 ls [])) : W p l e room_1 s m #[Value.ref b] below meth c H locs (qn S + qn S') (qu S + qu S') (lw_Z below #[Value.ref b] s) (F0 m 280 ls []) := by
  obtain ⟨hx, hb, hr, hml, hown, hts1, hX, hbl, hlocks, hgv⟩ := id C0
  have hts : ∀ w ∈ LWt, w.before #[Value.ref b] s = true := LWt_ok hts1
  have hown : s.vm.findClass RL = some m.cls := hown
  have hA : ∀ q : Nat, s.heap.size ≤ q → A q := fun q h => by rw [hAd]; exact h
  have hbA : ¬ A b := by rw [hAd]; exact Nat.not_le.mpr hbl
  have hk5 : k ≤ 512 := by have := hi.2.1; have := hi.2.2; omega
  refine lv_aload_n hx hb dL_law_280 rfl (lv_at hl 1 rfl) ?_
  have hFc := cfree hJ.1 hA
  refine va_calli (va_runV (As := []) (rest := []) ⟨hx, hb, hml, hown, hts⟩ (rX12_place l g ad H.size S hJ.1.w trivial) (cwV 0 hts (gd_LC lk_34 lk_36 lk_37 lk_4 lk_35) rfl rfl rfl (by decide +kernel) ⟨Nat.le_of_ble_eq_true rfl, Nat.le_of_ble_eq_true rfl⟩) ⟨cblind, va_recv hJ.1.K hJ.1.P (ci := 11) (q0 := 0) rfl (hJ.1.at51 hJ.1.w.1), fun U hU hW9 => cmk hU hW9 hJ.1 hex hJ.2.2.2.2.1 hFc⟩ rfl rfl hl.1 rfl (lv_room (Nat.le_of_ble_eq_true rfl)) dL_law_281 hJ.c0) hJ.1.sS (fun q _ h => hFc q h) hFc (fun r19 T1 t9 H1 locs1 ht9 hvm9 hw9 hB9 hz9 hk9 hS9 => ?_)
  have hJ := hJ.cN ht9 hB9 hJ.1.w shy.rf hS9 hFc hk9
  have e7c : qI S 44 7 = qI S 44 7 := rfl
  refine lv_pop hx hb dL_law_284 rfl ?_
  refine lv_aload_n hx hb dL_law_285 rfl (lv_at hl 2 rfl) ?_
  have hFc := rfree hJ.2.1 hA
  refine va_calli (va_runV (As := []) (rest := []) ⟨hx, hb, hml, hown, hts⟩ (r_place l g' ad' H1.size S' hJ.2.1.w trivial) (cwV 0 hts (gd_LR lk_38 lk_40 lk_41 lk_9 lk_39) rfl rfl rfl (by decide +kernel) ⟨Nat.le_of_ble_eq_true rfl, Nat.le_of_ble_eq_true rfl⟩) ⟨rblind, va_recv hJ.2.1.K hJ.2.1.P (ci := 13) (q0 := 0) rfl (hJ.2.1.at14 hJ.2.1.w.1), fun U hU hW9 => rmk hU hW9 hJ.2.1 hex hJ.2.2.2.2.2 hFc⟩ rfl rfl hl.1 rfl (lv_room (Nat.le_of_ble_eq_true rfl)) dL_law_286 hJ.c0) hJ.2.1.sS (fun q _ h => hFc q h) hFc (fun r29 T2 t9 H2 locs2 ht9 hvm9 hw9 hB9 hz9 hk9 hS9 => ?_)
  have hJ := hJ.rN ht9 hB9 hJ.2.1.w shy.rf hS9 hFc hk9
  have hG : GI (k + 1) S' := hG.gs.1
  have e7r : qI S' 0 88 = qI S' 0 88 := rfl
  refine lv_pop hx hb dL_law_289 rfl ?_
  refine lv_goto (tgt := 1008) hx hb dL_law_290 (by decide) ?_
  have e7 := e7c.trans (ha.trans e7r.symm)
  exact kk _ _ _ _ _ _ rfl rfl hJ hC hG e7
set_option maxHeartbeats 4000000 in
set_option maxRecDepth 100000 in
theorem law_c5 {p : Program} {l : Launch} {e : Env} {s : State} {m : MethodId} {below : List Frame} {meth : Method} {c : Code} {b L : Nat} {xs : Nat → Int32} {A : Nat → Prop} (hAd : A = fun q : Nat => s.heap.size ≤ q) (C0 : lw_At p s m meth c b L xs) (hex : ex s) {g g' : Gr} {ad ad' : Nat → Nat} {S S' : MS} {H : Heap} {locs : List Loc} {k : Nat} {i : Int32} (hi : LX i k L) (hJ : LB g g' ad ad' A s S S' H locs) (hC : CJ S) (hG : GI k S') (ha : qI S 44 7 = qI S' 0 88) {ls : Array Slot} (hl : lv_has ls 4 [(0, .ref b), (1, .ref (ad 0)), (2, .ref (ad' 0)), (3, .int i)]) (kk : ∀ (ad1 ad2 : Nat → Nat) (S1 S2 : MS) (H1 : Heap) (locs1 : List Loc), ad1 0 = ad 0 → ad2 0 = ad' 0 → LB g g' ad1 ad2 A s S1 S2 H1 locs1 → CJ S1 → GI (k + 1) S2 → qI S1 44 7 = qI S2 0 88 → W p l e room_1 s m #[Value.ref b] below meth c H1 locs1 (qn S1 + qn S2) (qu S1 + qu S2) (lw_Z below #[Value.ref b] s) (F0 m 1008 ls [])) : W p l e room_1 s m #[Value.ref b] below meth c H locs (qn S + qn S') (qu S + qu S') (lw_Z below #[Value.ref b] s) (F0 m 293 ls []) := by
  obtain ⟨hx, hb, hr, hml, hown, hts1, hX, hbl, hlocks, hgv⟩ := id C0
  have hts : ∀ w ∈ LWt, w.before #[Value.ref b] s = true := LWt_ok hts1
  have hown : s.vm.findClass RL = some m.cls := hown
  have hA : ∀ q : Nat, s.heap.size ≤ q → A q := fun q h => by rw [hAd]; exact h
  have hbA : ¬ A b := by rw [hAd]; exact Nat.not_le.mpr hbl
  have hk5 : k ≤ 512 := by have := hi.2.1; have := hi.2.2; omega
  refine lv_aload_n hx hb dL_law_293 rfl (lv_at hl 1 rfl) ?_
  refine lv_aload_n hx hb dL_law_294 rfl (lv_at hl 0 rfl) ?_
  refine lv_iload_n hx hb dL_law_295 rfl (lv_at hl 3 rfl) ?_
  refine lv_iconst (v := 1) hx hb dL_law_296 (by decide) ?_
  refine lv_iadd hx hb dL_law_297 ?_
  refine va_sld hx hb hX hbl hbA hJ.1.sS (hi.in 1 (by decide)) dL_law_298 ?_
  refine lv_topi (fun a1 ea1 => ?_)
  refine lv_aload_n hx hb dL_law_299 rfl (lv_at hl 0 rfl) ?_
  refine lv_iload_n hx hb dL_law_300 rfl (lv_at hl 3 rfl) ?_
  refine lv_iconst (v := 2) hx hb dL_law_301 (by decide) ?_
  refine lv_iadd hx hb dL_law_302 ?_
  refine va_sld hx hb hX hbl hbA hJ.1.sS (hi.in 2 (by decide)) dL_law_303 ?_
  refine lv_topi (fun a2 ea2 => ?_)
  obtain ⟨Q9, h9, k9⟩ := cj_size (x1 := a1) (x2 := a2) hJ.1.w hC
  have hFc := cfree hJ.1 hA
  refine va_calli (va_runV (As := [.int a1, .int a2]) (rest := []) ⟨hx, hb, hml, hown, hts⟩ (rX12_size l g ad H.size S a1 a2 hJ.1.w Q9 h9) (cwV 2 hts (gd_LC lk_42 lk_44 lk_45 lk_4 lk_43) rfl rfl rfl (by decide +kernel) ⟨Nat.le_of_ble_eq_true rfl, Nat.le_of_ble_eq_true rfl⟩) ⟨cblind, va_recv hJ.1.K hJ.1.P (ci := 11) (q0 := 0) rfl (hJ.1.at51 hJ.1.w.1), fun U hU hW9 => cmk hU hW9 hJ.1 hex hJ.2.2.2.2.1 hFc⟩ rfl rfl hl.1 rfl (lv_room (Nat.le_of_ble_eq_true rfl)) dL_law_304 hJ.c0) hJ.1.sS (fun q _ h => hFc q h) hFc (fun r19 T1 t9 H1 locs1 ht9 hvm9 hw9 hB9 hz9 hk9 hS9 => ?_)
  obtain ⟨hq9, hw9, hs9⟩ := hw9
  refine W_eq (hs9.n).1 (hs9.n).2 ?_
  have hJ := hJ.cN ht9 hB9 hw9 hs9 hS9 hFc hk9
  obtain ⟨hC, e7c⟩ := k9 r19 T1 hq9
  have hC := hC hJ.1.w
  refine lv_pop hx hb dL_law_307 rfl ?_
  refine lv_aload_n hx hb dL_law_308 rfl (lv_at hl 2 rfl) ?_
  refine lv_aload_n hx hb dL_law_309 rfl (lv_at hl 0 rfl) ?_
  refine lv_iload_n hx hb dL_law_310 rfl (lv_at hl 3 rfl) ?_
  refine lv_iconst (v := 1) hx hb dL_law_311 (by decide) ?_
  refine lv_iadd hx hb dL_law_312 ?_
  refine va_sld hx hb hX hbl hbA hJ.1.sS (hi.in 1 (by decide)) dL_law_313 ?_
  refine lv_topi (fun a3 ea3 => ?_)
  refine lv_aload_n hx hb dL_law_314 rfl (lv_at hl 0 rfl) ?_
  refine lv_iload_n hx hb dL_law_315 rfl (lv_at hl 3 rfl) ?_
  refine lv_iconst (v := 2) hx hb dL_law_316 (by decide) ?_
  refine lv_iadd hx hb dL_law_317 ?_
  refine va_sld hx hb hX hbl hbA hJ.1.sS (hi.in 2 (by decide)) dL_law_318 ?_
  refine lv_topi (fun a4 ea4 => ?_)
  obtain ⟨Q9, h9, k9⟩ := (show ∃ Q, w_size S' a3 a4 Q ∧ ∀ (r : Int32) (u : MS), Q r u → GS k S' u from g_size hG)
  have hFc := rfree hJ.2.1 hA
  refine va_calli (va_runV (As := [.int a3, .int a4]) (rest := []) ⟨hx, hb, hml, hown, hts⟩ (r_size l g' ad' H1.size S' a3 a4 hJ.2.1.w Q9 h9) (cwV 2 hts (gd_LR lk_46 lk_48 lk_49 lk_9 lk_47) rfl rfl rfl (by decide +kernel) ⟨Nat.le_of_ble_eq_true rfl, Nat.le_of_ble_eq_true rfl⟩) ⟨rblind, va_recv hJ.2.1.K hJ.2.1.P (ci := 13) (q0 := 0) rfl (hJ.2.1.at14 hJ.2.1.w.1), fun U hU hW9 => rmk hU hW9 hJ.2.1 hex hJ.2.2.2.2.2 hFc⟩ rfl rfl hl.1 rfl (lv_room (Nat.le_of_ble_eq_true rfl)) dL_law_319 hJ.c0) hJ.2.1.sS (fun q _ h => hFc q h) hFc (fun r29 T2 t9 H2 locs2 ht9 hvm9 hw9 hB9 hz9 hk9 hS9 => ?_)
  obtain ⟨hq9, hw9, hs9⟩ := hw9
  refine W_eq (hs9.n2).1 (hs9.n2).2 ?_
  have hJ := hJ.rN ht9 hB9 hw9 hs9 hS9 hFc hk9
  obtain ⟨hG, e7r⟩ := k9 r29 T2 hq9
  refine lv_pop hx hb dL_law_322 rfl ?_
  refine lv_goto (tgt := 1008) hx hb dL_law_323 (by decide) ?_
  have e7 := e7c.trans (ha.trans e7r.symm)
  exact kk _ _ _ _ _ _ rfl rfl hJ hC hG e7
set_option maxHeartbeats 4000000 in
set_option maxRecDepth 100000 in
theorem law_c6 {p : Program} {l : Launch} {e : Env} {s : State} {m : MethodId} {below : List Frame} {meth : Method} {c : Code} {b L : Nat} {xs : Nat → Int32} {A : Nat → Prop} (hAd : A = fun q : Nat => s.heap.size ≤ q) (C0 : lw_At p s m meth c b L xs) (hex : ex s) {g g' : Gr} {ad ad' : Nat → Nat} {S S' : MS} {H : Heap} {locs : List Loc} {k : Nat} {i : Int32} (hi : LX i k L) (hJ : LB g g' ad ad' A s S S' H locs) (hC : CJ S) (hG : GI k S') (ha : qI S 44 7 = qI S' 0 88) {ls : Array Slot} (hl : lv_has ls 4 [(0, .ref b), (1, .ref (ad 0)), (2, .ref (ad' 0)), (3, .int i)]) (kk : ∀ (ad1 ad2 : Nat → Nat) (S1 S2 : MS) (H1 : Heap) (locs1 : List Loc), ad1 0 = ad 0 → ad2 0 = ad' 0 → LB g g' ad1 ad2 A s S1 S2 H1 locs1 → CJ S1 → GI (k + 1) S2 → qI S1 44 7 = qI S2 0 88 → W p l e room_1 s m #[Value.ref b] below meth c H1 locs1 (qn S1 + qn S2) (qu S1 + qu S2) (lw_Z below #[Value.ref b] s) (F0 m 1008 ls [])) : W p l e room_1 s m #[Value.ref b] below meth c H locs (qn S + qn S') (qu S + qu S') (lw_Z below #[Value.ref b] s) (F0 m 326 ls []) := by
  obtain ⟨hx, hb, hr, hml, hown, hts1, hX, hbl, hlocks, hgv⟩ := id C0
  have hts : ∀ w ∈ LWt, w.before #[Value.ref b] s = true := LWt_ok hts1
  have hown : s.vm.findClass RL = some m.cls := hown
  have hA : ∀ q : Nat, s.heap.size ≤ q → A q := fun q h => by rw [hAd]; exact h
  have hbA : ¬ A b := by rw [hAd]; exact Nat.not_le.mpr hbl
  have hk5 : k ≤ 512 := by have := hi.2.1; have := hi.2.2; omega
  refine lv_aload_n hx hb dL_law_326 rfl (lv_at hl 1 rfl) ?_
  refine lv_aload_n hx hb dL_law_327 rfl (lv_at hl 0 rfl) ?_
  refine lv_iload_n hx hb dL_law_328 rfl (lv_at hl 3 rfl) ?_
  refine lv_iconst (v := 1) hx hb dL_law_329 (by decide) ?_
  refine lv_iadd hx hb dL_law_330 ?_
  refine va_sld hx hb hX hbl hbA hJ.1.sS (hi.in 1 (by decide)) dL_law_331 ?_
  refine lv_topi (fun a1 ea1 => ?_)
  refine lv_aload_n hx hb dL_law_332 rfl (lv_at hl 0 rfl) ?_
  refine lv_iload_n hx hb dL_law_333 rfl (lv_at hl 3 rfl) ?_
  refine lv_iconst (v := 2) hx hb dL_law_334 (by decide) ?_
  refine lv_iadd hx hb dL_law_335 ?_
  refine va_sld hx hb hX hbl hbA hJ.1.sS (hi.in 2 (by decide)) dL_law_336 ?_
  refine lv_topi (fun a2 ea2 => ?_)
  obtain ⟨Q9, h9, k9⟩ := cj_length (x1 := a1) (x2 := a2) hJ.1.w hC
  have hFc := cfree hJ.1 hA
  refine va_calli (va_runV (As := [.int a1, .int a2]) (rest := []) ⟨hx, hb, hml, hown, hts⟩ (rX12_length l g ad H.size S a1 a2 hJ.1.w Q9 h9) (cwV 2 hts (gd_LC lk_50 lk_52 lk_53 lk_4 lk_51) rfl rfl rfl (by decide +kernel) ⟨Nat.le_of_ble_eq_true rfl, Nat.le_of_ble_eq_true rfl⟩) ⟨cblind, va_recv hJ.1.K hJ.1.P (ci := 11) (q0 := 0) rfl (hJ.1.at51 hJ.1.w.1), fun U hU hW9 => cmk hU hW9 hJ.1 hex hJ.2.2.2.2.1 hFc⟩ rfl rfl hl.1 rfl (lv_room (Nat.le_of_ble_eq_true rfl)) dL_law_337 hJ.c0) hJ.1.sS (fun q _ h => hFc q h) hFc (fun r19 T1 t9 H1 locs1 ht9 hvm9 hw9 hB9 hz9 hk9 hS9 => ?_)
  obtain ⟨hq9, hw9, hs9⟩ := hw9
  refine W_eq (hs9.n).1 (hs9.n).2 ?_
  have hJ := hJ.cN ht9 hB9 hw9 hs9 hS9 hFc hk9
  obtain ⟨hC, e7c⟩ := k9 r19 T1 hq9
  have hC := hC hJ.1.w
  refine lv_pop hx hb dL_law_340 rfl ?_
  refine lv_aload_n hx hb dL_law_341 rfl (lv_at hl 2 rfl) ?_
  refine lv_aload_n hx hb dL_law_342 rfl (lv_at hl 0 rfl) ?_
  refine lv_iload_n hx hb dL_law_343 rfl (lv_at hl 3 rfl) ?_
  refine lv_iconst (v := 1) hx hb dL_law_344 (by decide) ?_
  refine lv_iadd hx hb dL_law_345 ?_
  refine va_sld hx hb hX hbl hbA hJ.1.sS (hi.in 1 (by decide)) dL_law_346 ?_
  refine lv_topi (fun a3 ea3 => ?_)
  refine lv_aload_n hx hb dL_law_347 rfl (lv_at hl 0 rfl) ?_
  refine lv_iload_n hx hb dL_law_348 rfl (lv_at hl 3 rfl) ?_
  refine lv_iconst (v := 2) hx hb dL_law_349 (by decide) ?_
  refine lv_iadd hx hb dL_law_350 ?_
  refine va_sld hx hb hX hbl hbA hJ.1.sS (hi.in 2 (by decide)) dL_law_351 ?_
  refine lv_topi (fun a4 ea4 => ?_)
  obtain ⟨Q9, h9, k9⟩ := (show ∃ Q, w_length S' a3 a4 Q ∧ ∀ (r : Int32) (u : MS), Q r u → GS k S' u from g_length hG)
  have hFc := rfree hJ.2.1 hA
  refine va_calli (va_runV (As := [.int a3, .int a4]) (rest := []) ⟨hx, hb, hml, hown, hts⟩ (r_length l g' ad' H1.size S' a3 a4 hJ.2.1.w Q9 h9) (cwV 2 hts (gd_LR lk_54 lk_56 lk_57 lk_9 lk_55) rfl rfl rfl (by decide +kernel) ⟨Nat.le_of_ble_eq_true rfl, Nat.le_of_ble_eq_true rfl⟩) ⟨rblind, va_recv hJ.2.1.K hJ.2.1.P (ci := 13) (q0 := 0) rfl (hJ.2.1.at14 hJ.2.1.w.1), fun U hU hW9 => rmk hU hW9 hJ.2.1 hex hJ.2.2.2.2.2 hFc⟩ rfl rfl hl.1 rfl (lv_room (Nat.le_of_ble_eq_true rfl)) dL_law_352 hJ.c0) hJ.2.1.sS (fun q _ h => hFc q h) hFc (fun r29 T2 t9 H2 locs2 ht9 hvm9 hw9 hB9 hz9 hk9 hS9 => ?_)
  obtain ⟨hq9, hw9, hs9⟩ := hw9
  refine W_eq (hs9.n2).1 (hs9.n2).2 ?_
  have hJ := hJ.rN ht9 hB9 hw9 hs9 hS9 hFc hk9
  obtain ⟨hG, e7r⟩ := k9 r29 T2 hq9
  refine lv_pop hx hb dL_law_355 rfl ?_
  refine lv_goto (tgt := 1008) hx hb dL_law_356 (by decide) ?_
  have e7 := e7c.trans (ha.trans e7r.symm)
  exact kk _ _ _ _ _ _ rfl rfl hJ hC hG e7
set_option maxHeartbeats 4000000 in
set_option maxRecDepth 100000 in
theorem law_c7 {p : Program} {l : Launch} {e : Env} {s : State} {m : MethodId} {below : List Frame} {meth : Method} {c : Code} {b L : Nat} {xs : Nat → Int32} {A : Nat → Prop} (hAd : A = fun q : Nat => s.heap.size ≤ q) (C0 : lw_At p s m meth c b L xs) (hex : ex s) {g g' : Gr} {ad ad' : Nat → Nat} {S S' : MS} {H : Heap} {locs : List Loc} {k : Nat} {i : Int32} (hi : LX i k L) (hJ : LB g g' ad ad' A s S S' H locs) (hC : CJ S) (hG : GI k S') (ha : qI S 44 7 = qI S' 0 88) {ls : Array Slot} (hl : lv_has ls 4 [(0, .ref b), (1, .ref (ad 0)), (2, .ref (ad' 0)), (3, .int i)]) (kk : ∀ (ad1 ad2 : Nat → Nat) (S1 S2 : MS) (H1 : Heap) (locs1 : List Loc), ad1 0 = ad 0 → ad2 0 = ad' 0 → LB g g' ad1 ad2 A s S1 S2 H1 locs1 → CJ S1 → GI (k + 1) S2 → qI S1 44 7 = qI S2 0 88 → W p l e room_1 s m #[Value.ref b] below meth c H1 locs1 (qn S1 + qn S2) (qu S1 + qu S2) (lw_Z below #[Value.ref b] s) (F0 m 1008 ls [])) : W p l e room_1 s m #[Value.ref b] below meth c H locs (qn S + qn S') (qu S + qu S') (lw_Z below #[Value.ref b] s) (F0 m 359 ls []) := by
  obtain ⟨hx, hb, hr, hml, hown, hts1, hX, hbl, hlocks, hgv⟩ := id C0
  have hts : ∀ w ∈ LWt, w.before #[Value.ref b] s = true := LWt_ok hts1
  have hown : s.vm.findClass RL = some m.cls := hown
  have hA : ∀ q : Nat, s.heap.size ≤ q → A q := fun q h => by rw [hAd]; exact h
  have hbA : ¬ A b := by rw [hAd]; exact Nat.not_le.mpr hbl
  have hk5 : k ≤ 512 := by have := hi.2.1; have := hi.2.2; omega
  refine lv_aload_n hx hb dL_law_359 rfl (lv_at hl 1 rfl) ?_
  refine lv_aload_n hx hb dL_law_360 rfl (lv_at hl 0 rfl) ?_
  refine lv_iload_n hx hb dL_law_361 rfl (lv_at hl 3 rfl) ?_
  refine lv_iconst (v := 1) hx hb dL_law_362 (by decide) ?_
  refine lv_iadd hx hb dL_law_363 ?_
  refine va_sld hx hb hX hbl hbA hJ.1.sS (hi.in 1 (by decide)) dL_law_364 ?_
  refine lv_topi (fun a1 ea1 => ?_)
  obtain ⟨Q9, h9, k9⟩ := cj_verify9 (x1 := a1) hJ.1.w hC
  refine W_led2 (fun hL0 => ?_)
  have hFc := cfree hJ.1 hA
  refine va_calli (va_runV (As := [.int a1]) (rest := []) ⟨hx, hb, hml, hown, hts⟩ (rX12_verify l g ad H S a1 hJ.1.w Q9 h9) (cwV 1 hts (gd_LC lk_58 lk_60 lk_61 lk_4 lk_59) rfl rfl rfl (by decide +kernel) ⟨Nat.le_of_ble_eq_true rfl, Nat.le_of_ble_eq_true rfl⟩) ⟨cblindH, va_recv hJ.1.K hJ.1.P (ci := 11) (q0 := 0) rfl (hJ.1.at51 hJ.1.w.1), fun U hU hW9 => cmkH hU hW9 hJ.1 hex hJ.2.2.2.2.1 hFc⟩ rfl rfl hl.1 rfl (lv_room (Nat.le_of_ble_eq_true rfl)) dL_law_365 hJ.cc) hJ.1.sS (fun q _ h => hFc q h) hFc (fun r19 T1 t9 H1 locs1 ht9 hvm9 hw9 hB9 hz9 hk9 hS9 => ?_)
  rcases T1 with ⟨T1, ad1⟩
  obtain ⟨hB9, dc9, ds9, hL9, hl9⟩ := hB9
  dsimp only at hw9 hB9 hl9
  rw [ht9] at hL9
  obtain ⟨hq9, hw9, hs9, hk8⟩ := hw9
  have eAc : ad1 0 = ad 0 := hk8 _ (hJ.1.w.hd hJ.1.w.1 (by decide) (by decide))
  refine W_tight2 (cells' := qn T1 + qn S') (slots' := qu T1 + qu S') (jn_cc1 hl9 (hL0.tr hL9).1) (jn_cc2 hl9 (hL0.tr hL9).2.1) ?_
  have hJ := hJ.cH ht9 hB9 hw9 hl9 hk8 hS9 hFc hk9
  obtain ⟨hC, e7c⟩ := k9 r19 T1 hq9
  have hC := hC hJ.1.w
  refine lv_pop hx hb dL_law_368 rfl ?_
  refine lv_aload_n hx hb dL_law_369 rfl (lv_at hl 2 rfl) ?_
  refine lv_aload_n hx hb dL_law_370 rfl (lv_at hl 0 rfl) ?_
  refine lv_iload_n hx hb dL_law_371 rfl (lv_at hl 3 rfl) ?_
  refine lv_iconst (v := 1) hx hb dL_law_372 (by decide) ?_
  refine lv_iadd hx hb dL_law_373 ?_
  refine va_sld hx hb hX hbl hbA hJ.1.sS (hi.in 1 (by decide)) dL_law_374 ?_
  refine lv_topi (fun a2 ea2 => ?_)
  obtain ⟨Q9, h9, k9⟩ := (show ∃ Q, w_verify S' a2 Q ∧ ∀ (r : Int32) (u : MS), Q r u → GS k S' u from g_verify hG hk5)
  refine W_led2 (fun hL0 => ?_)
  have hFc := rfree hJ.2.1 hA
  refine va_calli (va_runV (As := [.int a2]) (rest := []) ⟨hx, hb, hml, hown, hts⟩ (r_verify l g' ad' H1 S' a2 hJ.2.1.w Q9 h9) (cwV 1 hts (gd_LR lk_62 lk_64 lk_65 lk_9 lk_63) rfl rfl rfl (by decide +kernel) ⟨Nat.le_of_ble_eq_true rfl, Nat.le_of_ble_eq_true rfl⟩) ⟨rblindH, va_recv hJ.2.1.K hJ.2.1.P (ci := 13) (q0 := 0) rfl (hJ.2.1.at14 hJ.2.1.w.1), fun U hU hW9 => rmkH hU hW9 hJ.2.1 hex hJ.2.2.2.2.2 hFc⟩ rfl rfl hl.1 rfl (lv_room (Nat.le_of_ble_eq_true rfl)) dL_law_375 hJ.rc) hJ.2.1.sS (fun q _ h => hFc q h) hFc (fun r29 T2 t9 H2 locs2 ht9 hvm9 hw9 hB9 hz9 hk9 hS9 => ?_)
  rcases T2 with ⟨T2, ad2⟩
  obtain ⟨hB9, dc9, ds9, hL9, hl9⟩ := hB9
  dsimp only at hw9 hB9 hl9
  rw [ht9] at hL9
  obtain ⟨hq9, hw9, hs9, hk8⟩ := hw9
  have eAr : ad2 0 = ad' 0 := hk8 _ (hJ.2.1.w.hd hJ.2.1.w.1 (by decide) (by decide))
  refine W_tight2 (cells' := qn T1 + qn T2) (slots' := qu T1 + qu T2) (jn_rc1 hl9 (hL0.tr hL9).1) (jn_rc2 hl9 (hL0.tr hL9).2.1) ?_
  have hJ := hJ.rH ht9 hB9 hw9 hl9 hk8 hS9 hFc hk9
  obtain ⟨hG, e7r⟩ := k9 r29 T2 hq9
  refine lv_pop hx hb dL_law_378 rfl ?_
  refine lv_goto (tgt := 1008) hx hb dL_law_379 (by decide) ?_
  have e7 := e7c.trans (ha.trans e7r.symm)
  exact kk _ _ _ _ _ _ eAc eAr hJ hC hG e7
set_option maxHeartbeats 4000000 in
set_option maxRecDepth 100000 in
theorem law_c8 {p : Program} {l : Launch} {e : Env} {s : State} {m : MethodId} {below : List Frame} {meth : Method} {c : Code} {b L : Nat} {xs : Nat → Int32} {A : Nat → Prop} (hAd : A = fun q : Nat => s.heap.size ≤ q) (C0 : lw_At p s m meth c b L xs) (hex : ex s) {g g' : Gr} {ad ad' : Nat → Nat} {S S' : MS} {H : Heap} {locs : List Loc} {k : Nat} {i : Int32} (hi : LX i k L) (hJ : LB g g' ad ad' A s S S' H locs) (hC : CJ S) (hG : GI k S') (ha : qI S 44 7 = qI S' 0 88) {ls : Array Slot} (hl : lv_has ls 4 [(0, .ref b), (1, .ref (ad 0)), (2, .ref (ad' 0)), (3, .int i)]) (kk : ∀ (ad1 ad2 : Nat → Nat) (S1 S2 : MS) (H1 : Heap) (locs1 : List Loc), ad1 0 = ad 0 → ad2 0 = ad' 0 → LB g g' ad1 ad2 A s S1 S2 H1 locs1 → CJ S1 → GI (k + 1) S2 → qI S1 44 7 = qI S2 0 88 → W p l e room_1 s m #[Value.ref b] below meth c H1 locs1 (qn S1 + qn S2) (qu S1 + qu S2) (lw_Z below #[Value.ref b] s) (F0 m 1008 ls [])) : W p l e room_1 s m #[Value.ref b] below meth c H locs (qn S + qn S') (qu S + qu S') (lw_Z below #[Value.ref b] s) (F0 m 382 ls []) := by
  obtain ⟨hx, hb, hr, hml, hown, hts1, hX, hbl, hlocks, hgv⟩ := id C0
  have hts : ∀ w ∈ LWt, w.before #[Value.ref b] s = true := LWt_ok hts1
  have hown : s.vm.findClass RL = some m.cls := hown
  have hA : ∀ q : Nat, s.heap.size ≤ q → A q := fun q h => by rw [hAd]; exact h
  have hbA : ¬ A b := by rw [hAd]; exact Nat.not_le.mpr hbl
  have hk5 : k ≤ 512 := by have := hi.2.1; have := hi.2.2; omega
  refine lv_aload_n hx hb dL_law_382 rfl (lv_at hl 1 rfl) ?_
  have hFc := cfree hJ.1 hA
  refine va_calli (va_runV (As := []) (rest := []) ⟨hx, hb, hml, hown, hts⟩ (rX12_method l g ad H.size S hJ.1.w trivial) (cwV 0 hts (gd_LC lk_66 lk_68 lk_69 lk_4 lk_67) rfl rfl rfl (by decide +kernel) ⟨Nat.le_of_ble_eq_true rfl, Nat.le_of_ble_eq_true rfl⟩) ⟨cblind, va_recv hJ.1.K hJ.1.P (ci := 11) (q0 := 0) rfl (hJ.1.at51 hJ.1.w.1), fun U hU hW9 => cmk hU hW9 hJ.1 hex hJ.2.2.2.2.1 hFc⟩ rfl rfl hl.1 rfl (lv_room (Nat.le_of_ble_eq_true rfl)) dL_law_383 hJ.c0) hJ.1.sS (fun q _ h => hFc q h) hFc (fun r19 T1 t9 H1 locs1 ht9 hvm9 hw9 hB9 hz9 hk9 hS9 => ?_)
  have hJ := hJ.cN ht9 hB9 hJ.1.w shy.rf hS9 hFc hk9
  have e7c : qI S 44 7 = qI S 44 7 := rfl
  refine lv_pop hx hb dL_law_386 rfl ?_
  refine lv_aload_n hx hb dL_law_387 rfl (lv_at hl 2 rfl) ?_
  have hFc := rfree hJ.2.1 hA
  refine va_calli (va_runV (As := []) (rest := []) ⟨hx, hb, hml, hown, hts⟩ (r_method l g' ad' H1.size S' hJ.2.1.w trivial) (cwV 0 hts (gd_LR lk_70 lk_72 lk_73 lk_9 lk_71) rfl rfl rfl (by decide +kernel) ⟨Nat.le_of_ble_eq_true rfl, Nat.le_of_ble_eq_true rfl⟩) ⟨rblind, va_recv hJ.2.1.K hJ.2.1.P (ci := 13) (q0 := 0) rfl (hJ.2.1.at14 hJ.2.1.w.1), fun U hU hW9 => rmk hU hW9 hJ.2.1 hex hJ.2.2.2.2.2 hFc⟩ rfl rfl hl.1 rfl (lv_room (Nat.le_of_ble_eq_true rfl)) dL_law_388 hJ.c0) hJ.2.1.sS (fun q _ h => hFc q h) hFc (fun r29 T2 t9 H2 locs2 ht9 hvm9 hw9 hB9 hz9 hk9 hS9 => ?_)
  have hJ := hJ.rN ht9 hB9 hJ.2.1.w shy.rf hS9 hFc hk9
  have hG : GI (k + 1) S' := hG.gs.1
  have e7r : qI S' 0 88 = qI S' 0 88 := rfl
  refine lv_pop hx hb dL_law_391 rfl ?_
  refine lv_goto (tgt := 1008) hx hb dL_law_392 (by decide) ?_
  have e7 := e7c.trans (ha.trans e7r.symm)
  exact kk _ _ _ _ _ _ rfl rfl hJ hC hG e7
set_option maxHeartbeats 4000000 in
set_option maxRecDepth 100000 in
theorem law_c9 {p : Program} {l : Launch} {e : Env} {s : State} {m : MethodId} {below : List Frame} {meth : Method} {c : Code} {b L : Nat} {xs : Nat → Int32} {A : Nat → Prop} (hAd : A = fun q : Nat => s.heap.size ≤ q) (C0 : lw_At p s m meth c b L xs) (hex : ex s) {g g' : Gr} {ad ad' : Nat → Nat} {S S' : MS} {H : Heap} {locs : List Loc} {k : Nat} {i : Int32} (hi : LX i k L) (hJ : LB g g' ad ad' A s S S' H locs) (hC : CJ S) (hG : GI k S') (ha : qI S 44 7 = qI S' 0 88) {ls : Array Slot} (hl : lv_has ls 4 [(0, .ref b), (1, .ref (ad 0)), (2, .ref (ad' 0)), (3, .int i)]) (kk : ∀ (ad1 ad2 : Nat → Nat) (S1 S2 : MS) (H1 : Heap) (locs1 : List Loc), ad1 0 = ad 0 → ad2 0 = ad' 0 → LB g g' ad1 ad2 A s S1 S2 H1 locs1 → CJ S1 → GI (k + 1) S2 → qI S1 44 7 = qI S2 0 88 → W p l e room_1 s m #[Value.ref b] below meth c H1 locs1 (qn S1 + qn S2) (qu S1 + qu S2) (lw_Z below #[Value.ref b] s) (F0 m 1008 ls [])) : W p l e room_1 s m #[Value.ref b] below meth c H locs (qn S + qn S') (qu S + qu S') (lw_Z below #[Value.ref b] s) (F0 m 395 ls []) := by
  obtain ⟨hx, hb, hr, hml, hown, hts1, hX, hbl, hlocks, hgv⟩ := id C0
  have hts : ∀ w ∈ LWt, w.before #[Value.ref b] s = true := LWt_ok hts1
  have hown : s.vm.findClass RL = some m.cls := hown
  have hA : ∀ q : Nat, s.heap.size ≤ q → A q := fun q h => by rw [hAd]; exact h
  have hbA : ¬ A b := by rw [hAd]; exact Nat.not_le.mpr hbl
  have hk5 : k ≤ 512 := by have := hi.2.1; have := hi.2.2; omega
  refine lv_aload_n hx hb dL_law_395 rfl (lv_at hl 1 rfl) ?_
  have hFc := cfree hJ.1 hA
  refine va_calli (va_runV (As := []) (rest := []) ⟨hx, hb, hml, hown, hts⟩ (rX12_at l g ad H.size S hJ.1.w trivial) (cwV 0 hts (gd_LC lk_74 lk_76 lk_77 lk_4 lk_75) rfl rfl rfl (by decide +kernel) ⟨Nat.le_of_ble_eq_true rfl, Nat.le_of_ble_eq_true rfl⟩) ⟨cblind, va_recv hJ.1.K hJ.1.P (ci := 11) (q0 := 0) rfl (hJ.1.at51 hJ.1.w.1), fun U hU hW9 => cmk hU hW9 hJ.1 hex hJ.2.2.2.2.1 hFc⟩ rfl rfl hl.1 rfl (lv_room (Nat.le_of_ble_eq_true rfl)) dL_law_396 hJ.c0) hJ.1.sS (fun q _ h => hFc q h) hFc (fun r19 T1 t9 H1 locs1 ht9 hvm9 hw9 hB9 hz9 hk9 hS9 => ?_)
  have hJ := hJ.cN ht9 hB9 hJ.1.w shy.rf hS9 hFc hk9
  have e7c : qI S 44 7 = qI S 44 7 := rfl
  refine lv_pop hx hb dL_law_399 rfl ?_
  refine lv_aload_n hx hb dL_law_400 rfl (lv_at hl 2 rfl) ?_
  have hFc := rfree hJ.2.1 hA
  refine va_calli (va_runV (As := []) (rest := []) ⟨hx, hb, hml, hown, hts⟩ (r_at l g' ad' H1.size S' hJ.2.1.w trivial) (cwV 0 hts (gd_LR lk_78 lk_80 lk_81 lk_9 lk_79) rfl rfl rfl (by decide +kernel) ⟨Nat.le_of_ble_eq_true rfl, Nat.le_of_ble_eq_true rfl⟩) ⟨rblind, va_recv hJ.2.1.K hJ.2.1.P (ci := 13) (q0 := 0) rfl (hJ.2.1.at14 hJ.2.1.w.1), fun U hU hW9 => rmk hU hW9 hJ.2.1 hex hJ.2.2.2.2.2 hFc⟩ rfl rfl hl.1 rfl (lv_room (Nat.le_of_ble_eq_true rfl)) dL_law_401 hJ.c0) hJ.2.1.sS (fun q _ h => hFc q h) hFc (fun r29 T2 t9 H2 locs2 ht9 hvm9 hw9 hB9 hz9 hk9 hS9 => ?_)
  have hJ := hJ.rN ht9 hB9 hJ.2.1.w shy.rf hS9 hFc hk9
  have hG : GI (k + 1) S' := hG.gs.1
  have e7r : qI S' 0 88 = qI S' 0 88 := rfl
  refine lv_pop hx hb dL_law_404 rfl ?_
  refine lv_goto (tgt := 1008) hx hb dL_law_405 (by decide) ?_
  have e7 := e7c.trans (ha.trans e7r.symm)
  exact kk _ _ _ _ _ _ rfl rfl hJ hC hG e7
