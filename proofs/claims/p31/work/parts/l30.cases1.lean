set_option maxHeartbeats 4000000 in
set_option maxRecDepth 100000 in
theorem law_c10 {p : Program} {l : Launch} {e : Env} {s : State} {m : MethodId} {below : List Frame} {meth : Method} {c : Code} {b L : Nat} {xs : Nat → Int32} {A : Nat → Prop} (hAd : A = fun q : Nat => s.heap.size ≤ q) (C0 : lw_At p s m meth c b L xs) (hex : ex s) {g g' : Gr} {ad ad' : Nat → Nat} {S S' : MS} {H : Heap} {locs : List Loc} {k : Nat} {i : Int32} (hi : LX i k L) (hJ : LB g g' ad ad' A s S S' H locs) (hC : CJ S) (hG : GI k S') (ha : qI S 44 7 = qI S' 0 88) {ls : Array Slot} (hl : lv_has ls 4 [(0, .ref b), (1, .ref (ad 0)), (2, .ref (ad' 0)), (3, .int i)]) (kk : ∀ (ad1 ad2 : Nat → Nat) (S1 S2 : MS) (H1 : Heap) (locs1 : List Loc), ad1 0 = ad 0 → ad2 0 = ad' 0 → LB g g' ad1 ad2 A s S1 S2 H1 locs1 → CJ S1 → GI (k + 1) S2 → qI S1 44 7 = qI S2 0 88 → W p l e room_1 s m #[Value.ref b] below meth c H1 locs1 (qn S1 + qn S2) (qu S1 + qu S2) (lw_Z below #[Value.ref b] s) (F0 m 1008 ls [])) : W p l e room_1 s m #[Value.ref b] below meth c H locs (qn S + qn S') (qu S + qu S') (lw_Z below #[Value.ref b] s) (F0 m 408 ls []) := by
  obtain ⟨hx, hb, hr, hml, hown, hts1, hX, hbl, hlocks, hgv⟩ := id C0
  have hts : ∀ w ∈ LWt, w.before #[Value.ref b] s = true := LWt_ok hts1
  have hown : s.vm.findClass RL = some m.cls := hown
  have hA : ∀ q : Nat, s.heap.size ≤ q → A q := fun q h => by rw [hAd]; exact h
  have hbA : ¬ A b := by rw [hAd]; exact Nat.not_le.mpr hbl
  have hk5 : k ≤ 512 := by have := hi.2.1; have := hi.2.2; omega
  refine lv_aload_n hx hb dL_law_408 rfl (lv_at hl 1 rfl) ?_
  refine lv_aload_n hx hb dL_law_409 rfl (lv_at hl 0 rfl) ?_
  refine lv_iload_n hx hb dL_law_410 rfl (lv_at hl 3 rfl) ?_
  refine lv_iconst (v := 1) hx hb dL_law_411 (by decide) ?_
  refine lv_iadd hx hb dL_law_412 ?_
  refine va_sld hx hb hX hbl hbA hJ.1.sS (hi.in 1 (by decide)) dL_law_413 ?_
  refine lv_topi (fun a1 ea1 => ?_)
  refine lv_aload_n hx hb dL_law_414 rfl (lv_at hl 0 rfl) ?_
  refine lv_iload_n hx hb dL_law_415 rfl (lv_at hl 3 rfl) ?_
  refine lv_iconst (v := 2) hx hb dL_law_416 (by decide) ?_
  refine lv_iadd hx hb dL_law_417 ?_
  refine va_sld hx hb hX hbl hbA hJ.1.sS (hi.in 2 (by decide)) dL_law_418 ?_
  refine lv_topi (fun a2 ea2 => ?_)
  refine lv_aload_n hx hb dL_law_419 rfl (lv_at hl 0 rfl) ?_
  refine lv_iload_n hx hb dL_law_420 rfl (lv_at hl 3 rfl) ?_
  refine lv_iconst (v := 3) hx hb dL_law_421 (by decide) ?_
  refine lv_iadd hx hb dL_law_422 ?_
  refine va_sld hx hb hX hbl hbA hJ.1.sS (hi.in 3 (by decide)) dL_law_423 ?_
  refine lv_topi (fun a3 ea3 => ?_)
  obtain ⟨Q9, h9, k9⟩ := cj_height (x1 := a1) (x2 := a2) (x3 := a3) hJ.1.w hC
  have hFc := cfree hJ.1 hA
  refine va_calli (va_runV (As := [.int a1, .int a2, .int a3]) (rest := []) ⟨hx, hb, hml, hown, hts⟩ (rX12_height l g ad H.size S a1 a2 a3 hJ.1.w Q9 h9) (cwV 3 hts (gd_LC lk_82 lk_84 lk_85 lk_4 lk_83) rfl rfl rfl (by decide +kernel) ⟨Nat.le_of_ble_eq_true rfl, Nat.le_of_ble_eq_true rfl⟩) ⟨cblind, va_recv hJ.1.K hJ.1.P (ci := 11) (q0 := 0) rfl (hJ.1.at51 hJ.1.w.1), fun U hU hW9 => cmk hU hW9 hJ.1 hex hJ.2.2.2.2.1 hFc⟩ rfl rfl hl.1 rfl (lv_room (Nat.le_of_ble_eq_true rfl)) dL_law_424 hJ.c0) hJ.1.sS (fun q _ h => hFc q h) hFc (fun r19 T1 t9 H1 locs1 ht9 hvm9 hw9 hB9 hz9 hk9 hS9 => ?_)
  obtain ⟨hq9, hw9, hs9⟩ := hw9
  refine W_eq (hs9.n).1 (hs9.n).2 ?_
  have hJ := hJ.cN ht9 hB9 hw9 hs9 hS9 hFc hk9
  obtain ⟨hC, e7c⟩ := k9 r19 T1 hq9
  have hC := hC hJ.1.w
  refine lv_pop hx hb dL_law_427 rfl ?_
  refine lv_aload_n hx hb dL_law_428 rfl (lv_at hl 2 rfl) ?_
  refine lv_aload_n hx hb dL_law_429 rfl (lv_at hl 0 rfl) ?_
  refine lv_iload_n hx hb dL_law_430 rfl (lv_at hl 3 rfl) ?_
  refine lv_iconst (v := 1) hx hb dL_law_431 (by decide) ?_
  refine lv_iadd hx hb dL_law_432 ?_
  refine va_sld hx hb hX hbl hbA hJ.1.sS (hi.in 1 (by decide)) dL_law_433 ?_
  refine lv_topi (fun a4 ea4 => ?_)
  refine lv_aload_n hx hb dL_law_434 rfl (lv_at hl 0 rfl) ?_
  refine lv_iload_n hx hb dL_law_435 rfl (lv_at hl 3 rfl) ?_
  refine lv_iconst (v := 2) hx hb dL_law_436 (by decide) ?_
  refine lv_iadd hx hb dL_law_437 ?_
  refine va_sld hx hb hX hbl hbA hJ.1.sS (hi.in 2 (by decide)) dL_law_438 ?_
  refine lv_topi (fun a5 ea5 => ?_)
  refine lv_aload_n hx hb dL_law_439 rfl (lv_at hl 0 rfl) ?_
  refine lv_iload_n hx hb dL_law_440 rfl (lv_at hl 3 rfl) ?_
  refine lv_iconst (v := 3) hx hb dL_law_441 (by decide) ?_
  refine lv_iadd hx hb dL_law_442 ?_
  refine va_sld hx hb hX hbl hbA hJ.1.sS (hi.in 3 (by decide)) dL_law_443 ?_
  refine lv_topi (fun a6 ea6 => ?_)
  obtain ⟨Q9, h9, k9⟩ := (show ∃ Q, w_height S' a4 a5 a6 Q ∧ ∀ (r : Int32) (u : MS), Q r u → GS k S' u from g_height hG)
  have hFc := rfree hJ.2.1 hA
  refine va_calli (va_runV (As := [.int a4, .int a5, .int a6]) (rest := []) ⟨hx, hb, hml, hown, hts⟩ (r_height l g' ad' H1.size S' a4 a5 a6 hJ.2.1.w Q9 h9) (cwV 3 hts (gd_LR lk_86 lk_88 lk_89 lk_9 lk_87) rfl rfl rfl (by decide +kernel) ⟨Nat.le_of_ble_eq_true rfl, Nat.le_of_ble_eq_true rfl⟩) ⟨rblind, va_recv hJ.2.1.K hJ.2.1.P (ci := 13) (q0 := 0) rfl (hJ.2.1.at14 hJ.2.1.w.1), fun U hU hW9 => rmk hU hW9 hJ.2.1 hex hJ.2.2.2.2.2 hFc⟩ rfl rfl hl.1 rfl (lv_room (Nat.le_of_ble_eq_true rfl)) dL_law_444 hJ.c0) hJ.2.1.sS (fun q _ h => hFc q h) hFc (fun r29 T2 t9 H2 locs2 ht9 hvm9 hw9 hB9 hz9 hk9 hS9 => ?_)
  obtain ⟨hq9, hw9, hs9⟩ := hw9
  refine W_eq (hs9.n2).1 (hs9.n2).2 ?_
  have hJ := hJ.rN ht9 hB9 hw9 hs9 hS9 hFc hk9
  obtain ⟨hG, e7r⟩ := k9 r29 T2 hq9
  refine lv_pop hx hb dL_law_447 rfl ?_
  refine lv_goto (tgt := 1008) hx hb dL_law_448 (by decide) ?_
  have e7 := e7c.trans (ha.trans e7r.symm)
  exact kk _ _ _ _ _ _ rfl rfl hJ hC hG e7
set_option maxHeartbeats 4000000 in
set_option maxRecDepth 100000 in
theorem law_c11 {p : Program} {l : Launch} {e : Env} {s : State} {m : MethodId} {below : List Frame} {meth : Method} {c : Code} {b L : Nat} {xs : Nat → Int32} {A : Nat → Prop} (hAd : A = fun q : Nat => s.heap.size ≤ q) (C0 : lw_At p s m meth c b L xs) (hex : ex s) {g g' : Gr} {ad ad' : Nat → Nat} {S S' : MS} {H : Heap} {locs : List Loc} {k : Nat} {i : Int32} (hi : LX i k L) (hJ : LB g g' ad ad' A s S S' H locs) (hC : CJ S) (hG : GI k S') (ha : qI S 44 7 = qI S' 0 88) {ls : Array Slot} (hl : lv_has ls 4 [(0, .ref b), (1, .ref (ad 0)), (2, .ref (ad' 0)), (3, .int i)]) (kk : ∀ (ad1 ad2 : Nat → Nat) (S1 S2 : MS) (H1 : Heap) (locs1 : List Loc), ad1 0 = ad 0 → ad2 0 = ad' 0 → LB g g' ad1 ad2 A s S1 S2 H1 locs1 → CJ S1 → GI (k + 1) S2 → qI S1 44 7 = qI S2 0 88 → W p l e room_1 s m #[Value.ref b] below meth c H1 locs1 (qn S1 + qn S2) (qu S1 + qu S2) (lw_Z below #[Value.ref b] s) (F0 m 1008 ls [])) : W p l e room_1 s m #[Value.ref b] below meth c H locs (qn S + qn S') (qu S + qu S') (lw_Z below #[Value.ref b] s) (F0 m 451 ls []) := by
  obtain ⟨hx, hb, hr, hml, hown, hts1, hX, hbl, hlocks, hgv⟩ := id C0
  have hts : ∀ w ∈ LWt, w.before #[Value.ref b] s = true := LWt_ok hts1
  have hown : s.vm.findClass RL = some m.cls := hown
  have hA : ∀ q : Nat, s.heap.size ≤ q → A q := fun q h => by rw [hAd]; exact h
  have hbA : ¬ A b := by rw [hAd]; exact Nat.not_le.mpr hbl
  have hk5 : k ≤ 512 := by have := hi.2.1; have := hi.2.2; omega
  refine lv_aload_n hx hb dL_law_451 rfl (lv_at hl 1 rfl) ?_
  refine lv_aload_n hx hb dL_law_452 rfl (lv_at hl 0 rfl) ?_
  refine lv_iload_n hx hb dL_law_453 rfl (lv_at hl 3 rfl) ?_
  refine lv_iconst (v := 1) hx hb dL_law_454 (by decide) ?_
  refine lv_iadd hx hb dL_law_455 ?_
  refine va_sld hx hb hX hbl hbA hJ.1.sS (hi.in 1 (by decide)) dL_law_456 ?_
  refine lv_topi (fun a1 ea1 => ?_)
  refine lv_aload_n hx hb dL_law_457 rfl (lv_at hl 0 rfl) ?_
  refine lv_iload_n hx hb dL_law_458 rfl (lv_at hl 3 rfl) ?_
  refine lv_iconst (v := 2) hx hb dL_law_459 (by decide) ?_
  refine lv_iadd hx hb dL_law_460 ?_
  refine va_sld hx hb hX hbl hbA hJ.1.sS (hi.in 2 (by decide)) dL_law_461 ?_
  refine lv_topi (fun a2 ea2 => ?_)
  refine lv_aload_n hx hb dL_law_462 rfl (lv_at hl 0 rfl) ?_
  refine lv_iload_n hx hb dL_law_463 rfl (lv_at hl 3 rfl) ?_
  refine lv_iconst (v := 3) hx hb dL_law_464 (by decide) ?_
  refine lv_iadd hx hb dL_law_465 ?_
  refine va_sld hx hb hX hbl hbA hJ.1.sS (hi.in 3 (by decide)) dL_law_466 ?_
  refine lv_topi (fun a3 ea3 => ?_)
  refine lv_aload_n hx hb dL_law_467 rfl (lv_at hl 0 rfl) ?_
  refine lv_iload_n hx hb dL_law_468 rfl (lv_at hl 3 rfl) ?_
  refine lv_iconst (v := 4) hx hb dL_law_469 (by decide) ?_
  refine lv_iadd hx hb dL_law_470 ?_
  refine va_sld hx hb hX hbl hbA hJ.1.sS (hi.in 4 (by decide)) dL_law_471 ?_
  refine lv_topi (fun a4 ea4 => ?_)
  obtain ⟨Q9, h9, k9⟩ := cj_local (x1 := a1) (x2 := a2) (x3 := a3) (x4 := a4) hJ.1.w hC
  have hFc := cfree hJ.1 hA
  refine va_calli (va_runV (As := [.int a1, .int a2, .int a3, .int a4]) (rest := []) ⟨hx, hb, hml, hown, hts⟩ (rX12_local l g ad H.size S a1 a2 a3 a4 hJ.1.w Q9 h9) (cwV 4 hts (gd_LC lk_90 lk_92 lk_93 lk_4 lk_91) rfl rfl rfl (by decide +kernel) ⟨Nat.le_of_ble_eq_true rfl, Nat.le_of_ble_eq_true rfl⟩) ⟨cblind, va_recv hJ.1.K hJ.1.P (ci := 11) (q0 := 0) rfl (hJ.1.at51 hJ.1.w.1), fun U hU hW9 => cmk hU hW9 hJ.1 hex hJ.2.2.2.2.1 hFc⟩ rfl rfl hl.1 rfl (lv_room (Nat.le_of_ble_eq_true rfl)) dL_law_472 hJ.c0) hJ.1.sS (fun q _ h => hFc q h) hFc (fun r19 T1 t9 H1 locs1 ht9 hvm9 hw9 hB9 hz9 hk9 hS9 => ?_)
  obtain ⟨hq9, hw9, hs9⟩ := hw9
  refine W_eq (hs9.n).1 (hs9.n).2 ?_
  have hJ := hJ.cN ht9 hB9 hw9 hs9 hS9 hFc hk9
  obtain ⟨hC, e7c⟩ := k9 r19 T1 hq9
  have hC := hC hJ.1.w
  refine lv_pop hx hb dL_law_475 rfl ?_
  refine lv_aload_n hx hb dL_law_476 rfl (lv_at hl 2 rfl) ?_
  refine lv_aload_n hx hb dL_law_477 rfl (lv_at hl 0 rfl) ?_
  refine lv_iload_n hx hb dL_law_478 rfl (lv_at hl 3 rfl) ?_
  refine lv_iconst (v := 1) hx hb dL_law_479 (by decide) ?_
  refine lv_iadd hx hb dL_law_480 ?_
  refine va_sld hx hb hX hbl hbA hJ.1.sS (hi.in 1 (by decide)) dL_law_481 ?_
  refine lv_topi (fun a5 ea5 => ?_)
  refine lv_aload_n hx hb dL_law_482 rfl (lv_at hl 0 rfl) ?_
  refine lv_iload_n hx hb dL_law_483 rfl (lv_at hl 3 rfl) ?_
  refine lv_iconst (v := 2) hx hb dL_law_484 (by decide) ?_
  refine lv_iadd hx hb dL_law_485 ?_
  refine va_sld hx hb hX hbl hbA hJ.1.sS (hi.in 2 (by decide)) dL_law_486 ?_
  refine lv_topi (fun a6 ea6 => ?_)
  refine lv_aload_n hx hb dL_law_487 rfl (lv_at hl 0 rfl) ?_
  refine lv_iload_n hx hb dL_law_488 rfl (lv_at hl 3 rfl) ?_
  refine lv_iconst (v := 3) hx hb dL_law_489 (by decide) ?_
  refine lv_iadd hx hb dL_law_490 ?_
  refine va_sld hx hb hX hbl hbA hJ.1.sS (hi.in 3 (by decide)) dL_law_491 ?_
  refine lv_topi (fun a7 ea7 => ?_)
  refine lv_aload_n hx hb dL_law_492 rfl (lv_at hl 0 rfl) ?_
  refine lv_iload_n hx hb dL_law_493 rfl (lv_at hl 3 rfl) ?_
  refine lv_iconst (v := 4) hx hb dL_law_494 (by decide) ?_
  refine lv_iadd hx hb dL_law_495 ?_
  refine va_sld hx hb hX hbl hbA hJ.1.sS (hi.in 4 (by decide)) dL_law_496 ?_
  refine lv_topi (fun a8 ea8 => ?_)
  obtain ⟨Q9, h9, k9⟩ := (show ∃ Q, w_local S' a5 a6 a7 a8 Q ∧ ∀ (r : Int32) (u : MS), Q r u → GS k S' u from g_local hG)
  have hFc := rfree hJ.2.1 hA
  refine va_calli (va_runV (As := [.int a5, .int a6, .int a7, .int a8]) (rest := []) ⟨hx, hb, hml, hown, hts⟩ (r_local l g' ad' H1.size S' a5 a6 a7 a8 hJ.2.1.w Q9 h9) (cwV 4 hts (gd_LR lk_94 lk_96 lk_97 lk_9 lk_95) rfl rfl rfl (by decide +kernel) ⟨Nat.le_of_ble_eq_true rfl, Nat.le_of_ble_eq_true rfl⟩) ⟨rblind, va_recv hJ.2.1.K hJ.2.1.P (ci := 13) (q0 := 0) rfl (hJ.2.1.at14 hJ.2.1.w.1), fun U hU hW9 => rmk hU hW9 hJ.2.1 hex hJ.2.2.2.2.2 hFc⟩ rfl rfl hl.1 rfl (lv_room (Nat.le_of_ble_eq_true rfl)) dL_law_497 hJ.c0) hJ.2.1.sS (fun q _ h => hFc q h) hFc (fun r29 T2 t9 H2 locs2 ht9 hvm9 hw9 hB9 hz9 hk9 hS9 => ?_)
  obtain ⟨hq9, hw9, hs9⟩ := hw9
  refine W_eq (hs9.n2).1 (hs9.n2).2 ?_
  have hJ := hJ.rN ht9 hB9 hw9 hs9 hS9 hFc hk9
  obtain ⟨hG, e7r⟩ := k9 r29 T2 hq9
  refine lv_pop hx hb dL_law_500 rfl ?_
  refine lv_goto (tgt := 1008) hx hb dL_law_501 (by decide) ?_
  have e7 := e7c.trans (ha.trans e7r.symm)
  exact kk _ _ _ _ _ _ rfl rfl hJ hC hG e7
set_option maxHeartbeats 4000000 in
set_option maxRecDepth 100000 in
theorem law_c12 {p : Program} {l : Launch} {e : Env} {s : State} {m : MethodId} {below : List Frame} {meth : Method} {c : Code} {b L : Nat} {xs : Nat → Int32} {A : Nat → Prop} (hAd : A = fun q : Nat => s.heap.size ≤ q) (C0 : lw_At p s m meth c b L xs) (hex : ex s) {g g' : Gr} {ad ad' : Nat → Nat} {S S' : MS} {H : Heap} {locs : List Loc} {k : Nat} {i : Int32} (hi : LX i k L) (hJ : LB g g' ad ad' A s S S' H locs) (hC : CJ S) (hG : GI k S') (ha : qI S 44 7 = qI S' 0 88) {ls : Array Slot} (hl : lv_has ls 4 [(0, .ref b), (1, .ref (ad 0)), (2, .ref (ad' 0)), (3, .int i)]) (kk : ∀ (ad1 ad2 : Nat → Nat) (S1 S2 : MS) (H1 : Heap) (locs1 : List Loc), ad1 0 = ad 0 → ad2 0 = ad' 0 → LB g g' ad1 ad2 A s S1 S2 H1 locs1 → CJ S1 → GI (k + 1) S2 → qI S1 44 7 = qI S2 0 88 → W p l e room_1 s m #[Value.ref b] below meth c H1 locs1 (qn S1 + qn S2) (qu S1 + qu S2) (lw_Z below #[Value.ref b] s) (F0 m 1008 ls [])) : W p l e room_1 s m #[Value.ref b] below meth c H locs (qn S + qn S') (qu S + qu S') (lw_Z below #[Value.ref b] s) (F0 m 504 ls []) := by
  obtain ⟨hx, hb, hr, hml, hown, hts1, hX, hbl, hlocks, hgv⟩ := id C0
  have hts : ∀ w ∈ LWt, w.before #[Value.ref b] s = true := LWt_ok hts1
  have hown : s.vm.findClass RL = some m.cls := hown
  have hA : ∀ q : Nat, s.heap.size ≤ q → A q := fun q h => by rw [hAd]; exact h
  have hbA : ¬ A b := by rw [hAd]; exact Nat.not_le.mpr hbl
  have hk5 : k ≤ 512 := by have := hi.2.1; have := hi.2.2; omega
  refine lv_aload_n hx hb dL_law_504 rfl (lv_at hl 1 rfl) ?_
  refine lv_aload_n hx hb dL_law_505 rfl (lv_at hl 0 rfl) ?_
  refine lv_iload_n hx hb dL_law_506 rfl (lv_at hl 3 rfl) ?_
  refine lv_iconst (v := 1) hx hb dL_law_507 (by decide) ?_
  refine lv_iadd hx hb dL_law_508 ?_
  refine va_sld hx hb hX hbl hbA hJ.1.sS (hi.in 1 (by decide)) dL_law_509 ?_
  refine lv_topi (fun a1 ea1 => ?_)
  obtain ⟨Q9, h9, k9⟩ := cj_write (x1 := a1) hJ.1.w hC
  refine W_led2 (fun hL0 => ?_)
  have hFc := cfree hJ.1 hA
  refine va_calli (va_runV (As := [.int a1]) (rest := []) ⟨hx, hb, hml, hown, hts⟩ (rX12_write l g ad H S a1 hJ.1.w Q9 h9) (cwV 1 hts (gd_LC lk_98 lk_100 lk_101 lk_4 lk_99) rfl rfl rfl (by decide +kernel) ⟨Nat.le_of_ble_eq_true rfl, Nat.le_of_ble_eq_true rfl⟩) ⟨cblindH, va_recv hJ.1.K hJ.1.P (ci := 11) (q0 := 0) rfl (hJ.1.at51 hJ.1.w.1), fun U hU hW9 => cmkH hU hW9 hJ.1 hex hJ.2.2.2.2.1 hFc⟩ rfl rfl hl.1 rfl (lv_room (Nat.le_of_ble_eq_true rfl)) dL_law_510 hJ.cc) hJ.1.sS (fun q _ h => hFc q h) hFc (fun r19 T1 t9 H1 locs1 ht9 hvm9 hw9 hB9 hz9 hk9 hS9 => ?_)
  rcases T1 with ⟨T1, ad1⟩
  obtain ⟨hB9, dc9, ds9, hL9, hl9⟩ := hB9
  dsimp only at hw9 hB9 hl9
  rw [ht9] at hL9
  obtain ⟨hq9, hw9, hs9, hk8⟩ := hw9
  have eAc : ad1 0 = ad 0 := hk8 _ (hJ.1.w.hd hJ.1.w.1 (by decide) (by decide))
  refine W_tight2 (cells' := qn T1 + qn S') (slots' := qu T1 + qu S') (jn_cc1 hl9 (hL0.tr hL9).1) (jn_cc2 hl9 (hL0.tr hL9).2.1) ?_
  have hJ := hJ.cH ht9 hB9 hw9 hl9 hk8 hS9 hFc hk9
  obtain ⟨hC, e7c⟩ := k9 r19 T1 hq9
  have hC := hC hJ.1.w
  refine lv_pop hx hb dL_law_513 rfl ?_
  refine lv_aload_n hx hb dL_law_514 rfl (lv_at hl 2 rfl) ?_
  refine lv_aload_n hx hb dL_law_515 rfl (lv_at hl 0 rfl) ?_
  refine lv_iload_n hx hb dL_law_516 rfl (lv_at hl 3 rfl) ?_
  refine lv_iconst (v := 1) hx hb dL_law_517 (by decide) ?_
  refine lv_iadd hx hb dL_law_518 ?_
  refine va_sld hx hb hX hbl hbA hJ.1.sS (hi.in 1 (by decide)) dL_law_519 ?_
  refine lv_topi (fun a2 ea2 => ?_)
  obtain ⟨Q9, E9, h9, k9, kE9⟩ := (show ∃ Q E, w_write S' a2 Q E ∧ (∀ (r : Int32) (u : MS), Q r u → GS k S' u) ∧ ∀ u : MS, ¬ E u from g_write hG)
  have hFc := rfree hJ.2.1 hA
  refine vx_calli (vx_runV (As := [.int a2]) (rest := []) ⟨hx, hb, hml, hown, hts⟩ (r_write l g' ad' H1.size S' a2 hJ.2.1.w Q9 E9 h9) (cwV 1 hts (gd_LR lk_102 lk_104 lk_105 lk_9 lk_103) rfl rfl rfl (by decide +kernel) ⟨Nat.le_of_ble_eq_true rfl, Nat.le_of_ble_eq_true rfl⟩) ⟨rblind, va_recv hJ.2.1.K hJ.2.1.P (ci := 13) (q0 := 0) rfl (hJ.2.1.at14 hJ.2.1.w.1), fun U hU hW9 => rmk hU hW9 hJ.2.1 hex hJ.2.2.2.2.2 hFc⟩ rfl rfl hl.1 rfl (lv_room (Nat.le_of_ble_eq_true rfl)) dL_law_520 hJ.c0) hJ.2.1.sS (fun q _ h => hFc q h) hFc (fun q _ h => hFc q h) (fun E8 ce9 q9 u9 t9 H9 locs9 ht9 hvm9 hp9 hB9 hz9 hk9 hS9 hce9 hcv9 hcl9 => absurd hp9.1 (kE9 u9)) (fun r29 T2 t9 H2 locs2 ht9 hvm9 hw9 hB9 hz9 hk9 hS9 => ?_)
  obtain ⟨hq9, hw9, hs9⟩ := hw9
  refine W_eq (hs9.n2).1 (hs9.n2).2 ?_
  have hJ := hJ.rN ht9 hB9 hw9 hs9 hS9 hFc hk9
  obtain ⟨hG, e7r⟩ := k9 r29 T2 hq9
  refine lv_pop hx hb dL_law_523 rfl ?_
  refine lv_goto (tgt := 1008) hx hb dL_law_524 (by decide) ?_
  have e7 := e7c.trans (ha.trans e7r.symm)
  exact kk _ _ _ _ _ _ eAc rfl hJ hC hG e7
set_option maxHeartbeats 4000000 in
set_option maxRecDepth 100000 in
theorem law_c13 {p : Program} {l : Launch} {e : Env} {s : State} {m : MethodId} {below : List Frame} {meth : Method} {c : Code} {b L : Nat} {xs : Nat → Int32} {A : Nat → Prop} (hAd : A = fun q : Nat => s.heap.size ≤ q) (C0 : lw_At p s m meth c b L xs) (hex : ex s) {g g' : Gr} {ad ad' : Nat → Nat} {S S' : MS} {H : Heap} {locs : List Loc} {k : Nat} {i : Int32} (hi : LX i k L) (hJ : LB g g' ad ad' A s S S' H locs) (hC : CJ S) (hG : GI k S') (ha : qI S 44 7 = qI S' 0 88) {ls : Array Slot} (hl : lv_has ls 4 [(0, .ref b), (1, .ref (ad 0)), (2, .ref (ad' 0)), (3, .int i)]) (kk : ∀ (ad1 ad2 : Nat → Nat) (S1 S2 : MS) (H1 : Heap) (locs1 : List Loc), ad1 0 = ad 0 → ad2 0 = ad' 0 → LB g g' ad1 ad2 A s S1 S2 H1 locs1 → CJ S1 → GI (k + 1) S2 → qI S1 44 7 = qI S2 0 88 → W p l e room_1 s m #[Value.ref b] below meth c H1 locs1 (qn S1 + qn S2) (qu S1 + qu S2) (lw_Z below #[Value.ref b] s) (F0 m 1008 ls [])) : W p l e room_1 s m #[Value.ref b] below meth c H locs (qn S + qn S') (qu S + qu S') (lw_Z below #[Value.ref b] s) (F0 m 527 ls []) := by
  obtain ⟨hx, hb, hr, hml, hown, hts1, hX, hbl, hlocks, hgv⟩ := id C0
  have hts : ∀ w ∈ LWt, w.before #[Value.ref b] s = true := LWt_ok hts1
  have hown : s.vm.findClass RL = some m.cls := hown
  have hA : ∀ q : Nat, s.heap.size ≤ q → A q := fun q h => by rw [hAd]; exact h
  have hbA : ¬ A b := by rw [hAd]; exact Nat.not_le.mpr hbl
  have hk5 : k ≤ 512 := by have := hi.2.1; have := hi.2.2; omega
  refine lv_aload_n hx hb dL_law_527 rfl (lv_at hl 1 rfl) ?_
  refine lv_aload_n hx hb dL_law_528 rfl (lv_at hl 0 rfl) ?_
  refine lv_iload_n hx hb dL_law_529 rfl (lv_at hl 3 rfl) ?_
  refine lv_iconst (v := 1) hx hb dL_law_530 (by decide) ?_
  refine lv_iadd hx hb dL_law_531 ?_
  refine va_sld hx hb hX hbl hbA hJ.1.sS (hi.in 1 (by decide)) dL_law_532 ?_
  refine lv_topi (fun a1 ea1 => ?_)
  have hFc := cfree hJ.1 hA
  refine va_calli (va_runV (As := [.int a1]) (rest := []) ⟨hx, hb, hml, hown, hts⟩ (rX12_byteAt l g ad H.size S a1 hJ.1.w (cj_byteAt hC)) (cwV 1 hts (gd_LC lk_106 lk_108 lk_109 lk_4 lk_107) rfl rfl rfl (by decide +kernel) ⟨Nat.le_of_ble_eq_true rfl, Nat.le_of_ble_eq_true rfl⟩) ⟨cblind, va_recv hJ.1.K hJ.1.P (ci := 11) (q0 := 0) rfl (hJ.1.at51 hJ.1.w.1), fun U hU hW9 => cmk hU hW9 hJ.1 hex hJ.2.2.2.2.1 hFc⟩ rfl rfl hl.1 rfl (lv_room (Nat.le_of_ble_eq_true rfl)) dL_law_533 hJ.c0) hJ.1.sS (fun q _ h => hFc q h) hFc (fun r19 T1 t9 H1 locs1 ht9 hvm9 hw9 hB9 hz9 hk9 hS9 => ?_)
  have hJ := hJ.cN ht9 hB9 hJ.1.w shy.rf hS9 hFc hk9
  have e7c : qI S 44 7 = qI S 44 7 := rfl
  refine lv_pop hx hb dL_law_536 rfl ?_
  refine lv_aload_n hx hb dL_law_537 rfl (lv_at hl 2 rfl) ?_
  refine lv_aload_n hx hb dL_law_538 rfl (lv_at hl 0 rfl) ?_
  refine lv_iload_n hx hb dL_law_539 rfl (lv_at hl 3 rfl) ?_
  refine lv_iconst (v := 1) hx hb dL_law_540 (by decide) ?_
  refine lv_iadd hx hb dL_law_541 ?_
  refine va_sld hx hb hX hbl hbA hJ.1.sS (hi.in 1 (by decide)) dL_law_542 ?_
  refine lv_topi (fun a2 ea2 => ?_)
  have hFc := rfree hJ.2.1 hA
  refine va_calli (va_runV (As := [.int a2]) (rest := []) ⟨hx, hb, hml, hown, hts⟩ (r_byteAt l g' ad' H1.size S' a2 hJ.2.1.w (g_byteAt hG)) (cwV 1 hts (gd_LR lk_110 lk_112 lk_113 lk_9 lk_111) rfl rfl rfl (by decide +kernel) ⟨Nat.le_of_ble_eq_true rfl, Nat.le_of_ble_eq_true rfl⟩) ⟨rblind, va_recv hJ.2.1.K hJ.2.1.P (ci := 13) (q0 := 0) rfl (hJ.2.1.at14 hJ.2.1.w.1), fun U hU hW9 => rmk hU hW9 hJ.2.1 hex hJ.2.2.2.2.2 hFc⟩ rfl rfl hl.1 rfl (lv_room (Nat.le_of_ble_eq_true rfl)) dL_law_543 hJ.c0) hJ.2.1.sS (fun q _ h => hFc q h) hFc (fun r29 T2 t9 H2 locs2 ht9 hvm9 hw9 hB9 hz9 hk9 hS9 => ?_)
  have hJ := hJ.rN ht9 hB9 hJ.2.1.w shy.rf hS9 hFc hk9
  have hG : GI (k + 1) S' := hG.gs.1
  have e7r : qI S' 0 88 = qI S' 0 88 := rfl
  refine lv_pop hx hb dL_law_546 rfl ?_
  refine lv_goto (tgt := 1008) hx hb dL_law_547 (by decide) ?_
  have e7 := e7c.trans (ha.trans e7r.symm)
  exact kk _ _ _ _ _ _ rfl rfl hJ hC hG e7
set_option maxHeartbeats 4000000 in
set_option maxRecDepth 100000 in
theorem law_c14 {p : Program} {l : Launch} {e : Env} {s : State} {m : MethodId} {below : List Frame} {meth : Method} {c : Code} {b L : Nat} {xs : Nat → Int32} {A : Nat → Prop} (hAd : A = fun q : Nat => s.heap.size ≤ q) (C0 : lw_At p s m meth c b L xs) (hex : ex s) {g g' : Gr} {ad ad' : Nat → Nat} {S S' : MS} {H : Heap} {locs : List Loc} {k : Nat} {i : Int32} (hi : LX i k L) (hJ : LB g g' ad ad' A s S S' H locs) (hC : CJ S) (hG : GI k S') (ha : qI S 44 7 = qI S' 0 88) {ls : Array Slot} (hl : lv_has ls 4 [(0, .ref b), (1, .ref (ad 0)), (2, .ref (ad' 0)), (3, .int i)]) (kk : ∀ (ad1 ad2 : Nat → Nat) (S1 S2 : MS) (H1 : Heap) (locs1 : List Loc), ad1 0 = ad 0 → ad2 0 = ad' 0 → LB g g' ad1 ad2 A s S1 S2 H1 locs1 → CJ S1 → GI (k + 1) S2 → qI S1 44 7 = qI S2 0 88 → W p l e room_1 s m #[Value.ref b] below meth c H1 locs1 (qn S1 + qn S2) (qu S1 + qu S2) (lw_Z below #[Value.ref b] s) (F0 m 1008 ls [])) : W p l e room_1 s m #[Value.ref b] below meth c H locs (qn S + qn S') (qu S + qu S') (lw_Z below #[Value.ref b] s) (F0 m 550 ls []) := by
  obtain ⟨hx, hb, hr, hml, hown, hts1, hX, hbl, hlocks, hgv⟩ := id C0
  have hts : ∀ w ∈ LWt, w.before #[Value.ref b] s = true := LWt_ok hts1
  have hown : s.vm.findClass RL = some m.cls := hown
  have hA : ∀ q : Nat, s.heap.size ≤ q → A q := fun q h => by rw [hAd]; exact h
  have hbA : ¬ A b := by rw [hAd]; exact Nat.not_le.mpr hbl
  have hk5 : k ≤ 512 := by have := hi.2.1; have := hi.2.2; omega
  refine lv_aload_n hx hb dL_law_550 rfl (lv_at hl 1 rfl) ?_
  refine lv_aload_n hx hb dL_law_551 rfl (lv_at hl 0 rfl) ?_
  refine lv_iload_n hx hb dL_law_552 rfl (lv_at hl 3 rfl) ?_
  refine lv_iconst (v := 1) hx hb dL_law_553 (by decide) ?_
  refine lv_iadd hx hb dL_law_554 ?_
  refine va_sld hx hb hX hbl hbA hJ.1.sS (hi.in 1 (by decide)) dL_law_555 ?_
  refine lv_topi (fun a1 ea1 => ?_)
  obtain ⟨Q9, h9, k9⟩ := cj_stage (x1 := a1) hJ.1.w hC
  have hFc := cfree hJ.1 hA
  refine va_calli (va_runV (As := [.int a1]) (rest := []) ⟨hx, hb, hml, hown, hts⟩ (rX12_stage l g ad H.size S a1 hJ.1.w Q9 h9) (cwV 1 hts (gd_LC lk_114 lk_116 lk_117 lk_4 lk_115) rfl rfl rfl (by decide +kernel) ⟨Nat.le_of_ble_eq_true rfl, Nat.le_of_ble_eq_true rfl⟩) ⟨cblind, va_recv hJ.1.K hJ.1.P (ci := 11) (q0 := 0) rfl (hJ.1.at51 hJ.1.w.1), fun U hU hW9 => cmk hU hW9 hJ.1 hex hJ.2.2.2.2.1 hFc⟩ rfl rfl hl.1 rfl (lv_room (Nat.le_of_ble_eq_true rfl)) dL_law_556 hJ.c0) hJ.1.sS (fun q _ h => hFc q h) hFc (fun r19 T1 t9 H1 locs1 ht9 hvm9 hw9 hB9 hz9 hk9 hS9 => ?_)
  obtain ⟨hq9, hw9, hs9, -⟩ := hw9
  refine W_eq (hs9.n).1 (hs9.n).2 ?_
  have hJ := hJ.cN ht9 hB9 hw9 hs9 hS9 hFc hk9
  obtain ⟨hC, e7c⟩ := k9 r19 T1 hq9
  have hC := hC hJ.1.w
  refine lv_pop hx hb dL_law_559 rfl ?_
  refine lv_aload_n hx hb dL_law_560 rfl (lv_at hl 2 rfl) ?_
  refine lv_aload_n hx hb dL_law_561 rfl (lv_at hl 0 rfl) ?_
  refine lv_iload_n hx hb dL_law_562 rfl (lv_at hl 3 rfl) ?_
  refine lv_iconst (v := 1) hx hb dL_law_563 (by decide) ?_
  refine lv_iadd hx hb dL_law_564 ?_
  refine va_sld hx hb hX hbl hbA hJ.1.sS (hi.in 1 (by decide)) dL_law_565 ?_
  refine lv_topi (fun a2 ea2 => ?_)
  obtain ⟨Q9, h9, k9⟩ := (show ∃ Q, w_stage S' a2 Q ∧ ∀ (r : Int32) (u : MS), Q r u → GS k S' u from g_stage hG)
  have hFc := rfree hJ.2.1 hA
  refine va_calli (va_runV (As := [.int a2]) (rest := []) ⟨hx, hb, hml, hown, hts⟩ (r_stage l g' ad' H1.size S' a2 hJ.2.1.w Q9 h9) (cwV 1 hts (gd_LR lk_118 lk_120 lk_121 lk_9 lk_119) rfl rfl rfl (by decide +kernel) ⟨Nat.le_of_ble_eq_true rfl, Nat.le_of_ble_eq_true rfl⟩) ⟨rblind, va_recv hJ.2.1.K hJ.2.1.P (ci := 13) (q0 := 0) rfl (hJ.2.1.at14 hJ.2.1.w.1), fun U hU hW9 => rmk hU hW9 hJ.2.1 hex hJ.2.2.2.2.2 hFc⟩ rfl rfl hl.1 rfl (lv_room (Nat.le_of_ble_eq_true rfl)) dL_law_566 hJ.c0) hJ.2.1.sS (fun q _ h => hFc q h) hFc (fun r29 T2 t9 H2 locs2 ht9 hvm9 hw9 hB9 hz9 hk9 hS9 => ?_)
  obtain ⟨hq9, hw9, hs9, -⟩ := hw9
  refine W_eq (hs9.n2).1 (hs9.n2).2 ?_
  have hJ := hJ.rN ht9 hB9 hw9 hs9 hS9 hFc hk9
  obtain ⟨hG, e7r⟩ := k9 r29 T2 hq9
  refine lv_pop hx hb dL_law_569 rfl ?_
  refine lv_goto (tgt := 1008) hx hb dL_law_570 (by decide) ?_
  have e7 := e7c.trans (ha.trans e7r.symm)
  exact kk _ _ _ _ _ _ rfl rfl hJ hC hG e7
set_option maxHeartbeats 4000000 in
set_option maxRecDepth 100000 in
theorem law_c15 {p : Program} {l : Launch} {e : Env} {s : State} {m : MethodId} {below : List Frame} {meth : Method} {c : Code} {b L : Nat} {xs : Nat → Int32} {A : Nat → Prop} (hAd : A = fun q : Nat => s.heap.size ≤ q) (C0 : lw_At p s m meth c b L xs) (hex : ex s) {g g' : Gr} {ad ad' : Nat → Nat} {S S' : MS} {H : Heap} {locs : List Loc} {k : Nat} {i : Int32} (hi : LX i k L) (hJ : LB g g' ad ad' A s S S' H locs) (hC : CJ S) (hG : GI k S') (ha : qI S 44 7 = qI S' 0 88) {ls : Array Slot} (hl : lv_has ls 4 [(0, .ref b), (1, .ref (ad 0)), (2, .ref (ad' 0)), (3, .int i)]) (kk : ∀ (ad1 ad2 : Nat → Nat) (S1 S2 : MS) (H1 : Heap) (locs1 : List Loc), ad1 0 = ad 0 → ad2 0 = ad' 0 → LB g g' ad1 ad2 A s S1 S2 H1 locs1 → CJ S1 → GI (k + 1) S2 → qI S1 44 7 = qI S2 0 88 → W p l e room_1 s m #[Value.ref b] below meth c H1 locs1 (qn S1 + qn S2) (qu S1 + qu S2) (lw_Z below #[Value.ref b] s) (F0 m 1008 ls [])) : W p l e room_1 s m #[Value.ref b] below meth c H locs (qn S + qn S') (qu S + qu S') (lw_Z below #[Value.ref b] s) (F0 m 573 ls []) := by
  obtain ⟨hx, hb, hr, hml, hown, hts1, hX, hbl, hlocks, hgv⟩ := id C0
  have hts : ∀ w ∈ LWt, w.before #[Value.ref b] s = true := LWt_ok hts1
  have hown : s.vm.findClass RL = some m.cls := hown
  have hA : ∀ q : Nat, s.heap.size ≤ q → A q := fun q h => by rw [hAd]; exact h
  have hbA : ¬ A b := by rw [hAd]; exact Nat.not_le.mpr hbl
  have hk5 : k ≤ 512 := by have := hi.2.1; have := hi.2.2; omega
  refine lv_aload_n hx hb dL_law_573 rfl (lv_at hl 1 rfl) ?_
  refine lv_aload_n hx hb dL_law_574 rfl (lv_at hl 0 rfl) ?_
  refine lv_iload_n hx hb dL_law_575 rfl (lv_at hl 3 rfl) ?_
  refine lv_iconst (v := 1) hx hb dL_law_576 (by decide) ?_
  refine lv_iadd hx hb dL_law_577 ?_
  refine va_sld hx hb hX hbl hbA hJ.1.sS (hi.in 1 (by decide)) dL_law_578 ?_
  refine lv_topi (fun a1 ea1 => ?_)
  refine lv_i2l (v := (a1).toInt64) hx hb dL_law_579 rfl ?_
  refine lv_topl (fun y10 _ => ?_)
  refine lv_bipush (v := 32) hx hb dL_law_580 (by decide) ?_
  refine lv_lshl hx hb dL_law_582 rfl ?_
  refine lv_topl (fun y2 _ => ?_)
  refine lv_aload_n hx hb dL_law_583 rfl (lv_at hl 0 rfl) ?_
  refine lv_iload_n hx hb dL_law_584 rfl (lv_at hl 3 rfl) ?_
  refine lv_iconst (v := 2) hx hb dL_law_585 (by decide) ?_
  refine lv_iadd hx hb dL_law_586 ?_
  refine va_sld hx hb hX hbl hbA hJ.1.sS (hi.in 2 (by decide)) dL_law_587 ?_
  refine lv_topi (fun a3 ea3 => ?_)
  refine lv_i2l (v := (a3).toInt64) hx hb dL_law_588 rfl ?_
  refine lv_topl (fun y30 _ => ?_)
  refine lv_ldc2 hx hb hown (hts _ (LWt_t lk_122)) dL_law_589 ?_
  refine lv_land hx hb dL_law_592 ?_
  refine lv_topl (fun y4 _ => ?_)
  refine lv_lor hx hb dL_law_593 ?_
  refine lv_topl (fun y5 _ => ?_)
  obtain ⟨Q9, h9, k9⟩ := cj_argument (y1 := y5) hJ.1.w hC
  have hFc := cfree hJ.1 hA
  refine va_calli (va_runV (As := [.long y5]) (rest := []) ⟨hx, hb, hml, hown, hts⟩ (rX12_argument l g ad H.size S y5 hJ.1.w Q9 h9) (cwV 1 hts (gd_LC lk_123 lk_125 lk_126 lk_4 lk_124) rfl rfl rfl (by decide +kernel) ⟨Nat.le_of_ble_eq_true rfl, Nat.le_of_ble_eq_true rfl⟩) ⟨cblind, va_recv hJ.1.K hJ.1.P (ci := 11) (q0 := 0) rfl (hJ.1.at51 hJ.1.w.1), fun U hU hW9 => cmk hU hW9 hJ.1 hex hJ.2.2.2.2.1 hFc⟩ rfl rfl hl.1 rfl (lv_room (Nat.le_of_ble_eq_true rfl)) dL_law_594 hJ.c0) hJ.1.sS (fun q _ h => hFc q h) hFc (fun r19 T1 t9 H1 locs1 ht9 hvm9 hw9 hB9 hz9 hk9 hS9 => ?_)
  obtain ⟨hq9, hw9, hs9⟩ := hw9
  refine W_eq (hs9.n).1 (hs9.n).2 ?_
  have hJ := hJ.cN ht9 hB9 hw9 hs9 hS9 hFc hk9
  obtain ⟨hC, e7c, er1⟩ := k9 r19 T1 hq9
  have hC := hC hJ.1.w
  refine lv_pop hx hb dL_law_597 rfl ?_
  refine lv_aload_n hx hb dL_law_598 rfl (lv_at hl 2 rfl) ?_
  refine lv_aload_n hx hb dL_law_599 rfl (lv_at hl 0 rfl) ?_
  refine lv_iload_n hx hb dL_law_600 rfl (lv_at hl 3 rfl) ?_
  refine lv_iconst (v := 1) hx hb dL_law_601 (by decide) ?_
  refine lv_iadd hx hb dL_law_602 ?_
  refine va_sld hx hb hX hbl hbA hJ.1.sS (hi.in 1 (by decide)) dL_law_603 ?_
  refine lv_topi (fun a6 ea6 => ?_)
  refine lv_i2l (v := (a6).toInt64) hx hb dL_law_604 rfl ?_
  refine lv_topl (fun y60 _ => ?_)
  refine lv_bipush (v := 32) hx hb dL_law_605 (by decide) ?_
  refine lv_lshl hx hb dL_law_607 rfl ?_
  refine lv_topl (fun y7 _ => ?_)
  refine lv_aload_n hx hb dL_law_608 rfl (lv_at hl 0 rfl) ?_
  refine lv_iload_n hx hb dL_law_609 rfl (lv_at hl 3 rfl) ?_
  refine lv_iconst (v := 2) hx hb dL_law_610 (by decide) ?_
  refine lv_iadd hx hb dL_law_611 ?_
  refine va_sld hx hb hX hbl hbA hJ.1.sS (hi.in 2 (by decide)) dL_law_612 ?_
  refine lv_topi (fun a8 ea8 => ?_)
  refine lv_i2l (v := (a8).toInt64) hx hb dL_law_613 rfl ?_
  refine lv_topl (fun y80 _ => ?_)
  refine lv_ldc2 hx hb hown (hts _ (LWt_t lk_122)) dL_law_614 ?_
  refine lv_land hx hb dL_law_617 ?_
  refine lv_topl (fun y9 _ => ?_)
  refine lv_lor hx hb dL_law_618 ?_
  refine lv_topl (fun y10 _ => ?_)
  obtain ⟨Q9, h9, k9⟩ := (show ∃ Q, w_argument S' y10 Q ∧ ∀ (r : Int32) (u : MS), Q r u → GI (k + 1) u ∧ (((qI S' 0 88).toInt = 8 ∧ r = -1 ∧ qI u 0 88 = qI S' 0 88) ∨ ((qI S' 0 88).toInt < 8 ∧ r = qI u 0 88 ∧ (qI u 0 88).toInt = (qI S' 0 88).toInt + 1)) from g_argument hG)
  have hFc := rfree hJ.2.1 hA
  refine va_calli (va_runV (As := [.long y10]) (rest := []) ⟨hx, hb, hml, hown, hts⟩ (r_argument l g' ad' H1.size S' y10 hJ.2.1.w Q9 h9) (cwV 1 hts (gd_LR lk_127 lk_129 lk_130 lk_9 lk_128) rfl rfl rfl (by decide +kernel) ⟨Nat.le_of_ble_eq_true rfl, Nat.le_of_ble_eq_true rfl⟩) ⟨rblind, va_recv hJ.2.1.K hJ.2.1.P (ci := 13) (q0 := 0) rfl (hJ.2.1.at14 hJ.2.1.w.1), fun U hU hW9 => rmk hU hW9 hJ.2.1 hex hJ.2.2.2.2.2 hFc⟩ rfl rfl hl.1 rfl (lv_room (Nat.le_of_ble_eq_true rfl)) dL_law_619 hJ.c0) hJ.2.1.sS (fun q _ h => hFc q h) hFc (fun r29 T2 t9 H2 locs2 ht9 hvm9 hw9 hB9 hz9 hk9 hS9 => ?_)
  obtain ⟨hq9, hw9, hs9⟩ := hw9
  refine W_eq (hs9.n2).1 (hs9.n2).2 ?_
  have hJ := hJ.rN ht9 hB9 hw9 hs9 hS9 hFc hk9
  obtain ⟨hG, er2⟩ := k9 r29 T2 hq9
  refine lv_pop hx hb dL_law_622 rfl ?_
  refine lv_goto (tgt := 1008) hx hb dL_law_623 (by decide) ?_
  obtain ⟨er, e7⟩ := ag_both ha e7c er1 er2
  exact kk _ _ _ _ _ _ rfl rfl hJ hC hG e7
set_option maxHeartbeats 4000000 in
set_option maxRecDepth 100000 in
theorem law_c16 {p : Program} {l : Launch} {e : Env} {s : State} {m : MethodId} {below : List Frame} {meth : Method} {c : Code} {b L : Nat} {xs : Nat → Int32} {A : Nat → Prop} (hAd : A = fun q : Nat => s.heap.size ≤ q) (C0 : lw_At p s m meth c b L xs) (hex : ex s) {g g' : Gr} {ad ad' : Nat → Nat} {S S' : MS} {H : Heap} {locs : List Loc} {k : Nat} {i : Int32} (hi : LX i k L) (hJ : LB g g' ad ad' A s S S' H locs) (hC : CJ S) (hG : GI k S') (ha : qI S 44 7 = qI S' 0 88) {ls : Array Slot} (hl : lv_has ls 4 [(0, .ref b), (1, .ref (ad 0)), (2, .ref (ad' 0)), (3, .int i)]) (kk : ∀ (ad1 ad2 : Nat → Nat) (S1 S2 : MS) (H1 : Heap) (locs1 : List Loc), ad1 0 = ad 0 → ad2 0 = ad' 0 → LB g g' ad1 ad2 A s S1 S2 H1 locs1 → CJ S1 → GI (k + 1) S2 → qI S1 44 7 = qI S2 0 88 → W p l e room_1 s m #[Value.ref b] below meth c H1 locs1 (qn S1 + qn S2) (qu S1 + qu S2) (lw_Z below #[Value.ref b] s) (F0 m 1008 ls [])) : W p l e room_1 s m #[Value.ref b] below meth c H locs (qn S + qn S') (qu S + qu S') (lw_Z below #[Value.ref b] s) (F0 m 626 ls []) := by
  obtain ⟨hx, hb, hr, hml, hown, hts1, hX, hbl, hlocks, hgv⟩ := id C0
  have hts : ∀ w ∈ LWt, w.before #[Value.ref b] s = true := LWt_ok hts1
  have hown : s.vm.findClass RL = some m.cls := hown
  have hA : ∀ q : Nat, s.heap.size ≤ q → A q := fun q h => by rw [hAd]; exact h
  have hbA : ¬ A b := by rw [hAd]; exact Nat.not_le.mpr hbl
  have hk5 : k ≤ 512 := by have := hi.2.1; have := hi.2.2; omega
  refine lv_aload_n hx hb dL_law_626 rfl (lv_at hl 1 rfl) ?_
  refine lv_aload_n hx hb dL_law_627 rfl (lv_at hl 0 rfl) ?_
  refine lv_iload_n hx hb dL_law_628 rfl (lv_at hl 3 rfl) ?_
  refine lv_iconst (v := 1) hx hb dL_law_629 (by decide) ?_
  refine lv_iadd hx hb dL_law_630 ?_
  refine va_sld hx hb hX hbl hbA hJ.1.sS (hi.in 1 (by decide)) dL_law_631 ?_
  refine lv_topi (fun a1 ea1 => ?_)
  refine lv_aload_n hx hb dL_law_632 rfl (lv_at hl 0 rfl) ?_
  refine lv_iload_n hx hb dL_law_633 rfl (lv_at hl 3 rfl) ?_
  refine lv_iconst (v := 2) hx hb dL_law_634 (by decide) ?_
  refine lv_iadd hx hb dL_law_635 ?_
  refine va_sld hx hb hX hbl hbA hJ.1.sS (hi.in 2 (by decide)) dL_law_636 ?_
  refine lv_topi (fun a2 ea2 => ?_)
  obtain ⟨Q9, h9, k9⟩ := cj_run9 (x1 := a1) (x2 := a2) hJ.1.w hC
  refine W_led2 (fun hL0 => ?_)
  have hFc := cfree hJ.1 hA
  refine va_calli (va_runV (As := [.int a1, .int a2]) (rest := []) ⟨hx, hb, hml, hown, hts⟩ (rX12_run l g ad H S a1 a2 hJ.1.w Q9 h9) (cwV 2 hts (gd_LC lk_131 lk_133 lk_134 lk_4 lk_132) rfl rfl rfl (by decide +kernel) ⟨Nat.le_of_ble_eq_true rfl, Nat.le_of_ble_eq_true rfl⟩) ⟨cblindH, va_recv hJ.1.K hJ.1.P (ci := 11) (q0 := 0) rfl (hJ.1.at51 hJ.1.w.1), fun U hU hW9 => cmkH hU hW9 hJ.1 hex hJ.2.2.2.2.1 hFc⟩ rfl rfl hl.1 rfl (lv_room (Nat.le_of_ble_eq_true rfl)) dL_law_637 hJ.cc) hJ.1.sS (fun q _ h => hFc q h) hFc (fun r19 T1 t9 H1 locs1 ht9 hvm9 hw9 hB9 hz9 hk9 hS9 => ?_)
  rcases T1 with ⟨T1, ad1⟩
  obtain ⟨hB9, dc9, ds9, hL9, hl9⟩ := hB9
  dsimp only at hw9 hB9 hl9
  rw [ht9] at hL9
  obtain ⟨hq9, hw9, hs9, hk8⟩ := hw9
  have eAc : ad1 0 = ad 0 := hk8 _ (hJ.1.w.hd hJ.1.w.1 (by decide) (by decide))
  refine W_tight2 (cells' := qn T1 + qn S') (slots' := qu T1 + qu S') (jn_cc1 hl9 (hL0.tr hL9).1) (jn_cc2 hl9 (hL0.tr hL9).2.1) ?_
  have hJ := hJ.cH ht9 hB9 hw9 hl9 hk8 hS9 hFc hk9
  obtain ⟨hC, e7c⟩ := k9 r19 T1 hq9
  have hC := hC hJ.1.w
  refine lv_pop hx hb dL_law_640 rfl ?_
  refine lv_aload_n hx hb dL_law_641 rfl (lv_at hl 2 rfl) ?_
  refine lv_aload_n hx hb dL_law_642 rfl (lv_at hl 0 rfl) ?_
  refine lv_iload_n hx hb dL_law_643 rfl (lv_at hl 3 rfl) ?_
  refine lv_iconst (v := 1) hx hb dL_law_644 (by decide) ?_
  refine lv_iadd hx hb dL_law_645 ?_
  refine va_sld hx hb hX hbl hbA hJ.1.sS (hi.in 1 (by decide)) dL_law_646 ?_
  refine lv_topi (fun a3 ea3 => ?_)
  refine lv_aload_n hx hb dL_law_647 rfl (lv_at hl 0 rfl) ?_
  refine lv_iload_n hx hb dL_law_648 rfl (lv_at hl 3 rfl) ?_
  refine lv_iconst (v := 2) hx hb dL_law_649 (by decide) ?_
  refine lv_iadd hx hb dL_law_650 ?_
  refine va_sld hx hb hX hbl hbA hJ.1.sS (hi.in 2 (by decide)) dL_law_651 ?_
  refine lv_topi (fun a4 ea4 => ?_)
  obtain ⟨Q9, h9, k9⟩ := (show ∃ Q, w_run S' a3 a4 Q ∧ ∀ (r : Int32) (u : MS), Q r u → GI (k + 1) u ∧ (qI u 0 88).toInt = 0 from g_run hG)
  have hFc := rfree hJ.2.1 hA
  refine va_calli (va_runV (As := [.int a3, .int a4]) (rest := []) ⟨hx, hb, hml, hown, hts⟩ (r_run l g' ad' H1.size S' a3 a4 hJ.2.1.w Q9 h9) (cwV 2 hts (gd_LR lk_135 lk_137 lk_138 lk_9 lk_136) rfl rfl rfl (by decide +kernel) ⟨Nat.le_of_ble_eq_true rfl, Nat.le_of_ble_eq_true rfl⟩) ⟨rblind, va_recv hJ.2.1.K hJ.2.1.P (ci := 13) (q0 := 0) rfl (hJ.2.1.at14 hJ.2.1.w.1), fun U hU hW9 => rmk hU hW9 hJ.2.1 hex hJ.2.2.2.2.2 hFc⟩ rfl rfl hl.1 rfl (lv_room (Nat.le_of_ble_eq_true rfl)) dL_law_652 hJ.c0) hJ.2.1.sS (fun q _ h => hFc q h) hFc (fun r29 T2 t9 H2 locs2 ht9 hvm9 hw9 hB9 hz9 hk9 hS9 => ?_)
  obtain ⟨hq9, hw9, hs9⟩ := hw9
  refine W_eq (hs9.n2).1 (hs9.n2).2 ?_
  have hJ := hJ.rN ht9 hB9 hw9 hs9 hS9 hFc hk9
  obtain ⟨hG, e7r⟩ := k9 r29 T2 hq9
  refine lv_pop hx hb dL_law_655 rfl ?_
  refine lv_goto (tgt := 1008) hx hb dL_law_656 (by decide) ?_
  have e7 := rn_both e7c e7r
  exact kk _ _ _ _ _ _ eAc rfl hJ hC hG e7
set_option maxHeartbeats 4000000 in
set_option maxRecDepth 100000 in
theorem law_c17 {p : Program} {l : Launch} {e : Env} {s : State} {m : MethodId} {below : List Frame} {meth : Method} {c : Code} {b L : Nat} {xs : Nat → Int32} {A : Nat → Prop} (hAd : A = fun q : Nat => s.heap.size ≤ q) (C0 : lw_At p s m meth c b L xs) (hex : ex s) {g g' : Gr} {ad ad' : Nat → Nat} {S S' : MS} {H : Heap} {locs : List Loc} {k : Nat} {i : Int32} (hi : LX i k L) (hJ : LB g g' ad ad' A s S S' H locs) (hC : CJ S) (hG : GI k S') (ha : qI S 44 7 = qI S' 0 88) {ls : Array Slot} (hl : lv_has ls 4 [(0, .ref b), (1, .ref (ad 0)), (2, .ref (ad' 0)), (3, .int i)]) (kk : ∀ (ad1 ad2 : Nat → Nat) (S1 S2 : MS) (H1 : Heap) (locs1 : List Loc), ad1 0 = ad 0 → ad2 0 = ad' 0 → LB g g' ad1 ad2 A s S1 S2 H1 locs1 → CJ S1 → GI (k + 1) S2 → qI S1 44 7 = qI S2 0 88 → W p l e room_1 s m #[Value.ref b] below meth c H1 locs1 (qn S1 + qn S2) (qu S1 + qu S2) (lw_Z below #[Value.ref b] s) (F0 m 1008 ls [])) : W p l e room_1 s m #[Value.ref b] below meth c H locs (qn S + qn S') (qu S + qu S') (lw_Z below #[Value.ref b] s) (F0 m 659 ls []) := by
  obtain ⟨hx, hb, hr, hml, hown, hts1, hX, hbl, hlocks, hgv⟩ := id C0
  have hts : ∀ w ∈ LWt, w.before #[Value.ref b] s = true := LWt_ok hts1
  have hown : s.vm.findClass RL = some m.cls := hown
  have hA : ∀ q : Nat, s.heap.size ≤ q → A q := fun q h => by rw [hAd]; exact h
  have hbA : ¬ A b := by rw [hAd]; exact Nat.not_le.mpr hbl
  have hk5 : k ≤ 512 := by have := hi.2.1; have := hi.2.2; omega
  refine lv_aload_n hx hb dL_law_659 rfl (lv_at hl 1 rfl) ?_
  have hFc := cfree hJ.1 hA
  refine va_calll (va_runV (As := []) (rest := []) ⟨hx, hb, hml, hown, hts⟩ (rX12_result l g ad H.size S hJ.1.w trivial) (cwV 0 hts (gd_LC lk_139 lk_141 lk_142 lk_4 lk_140) rfl rfl rfl (by decide +kernel) ⟨Nat.le_of_ble_eq_true rfl, Nat.le_of_ble_eq_true rfl⟩) ⟨cblind, va_recv hJ.1.K hJ.1.P (ci := 11) (q0 := 0) rfl (hJ.1.at51 hJ.1.w.1), fun U hU hW9 => cmk hU hW9 hJ.1 hex hJ.2.2.2.2.1 hFc⟩ rfl rfl hl.1 rfl (lv_room (Nat.le_of_ble_eq_true rfl)) dL_law_660 hJ.c0) hJ.1.sS (fun q _ h => hFc q h) hFc (fun r19 T1 t9 H1 locs1 ht9 hvm9 hw9 hB9 hz9 hk9 hS9 => ?_)
  have hJ := hJ.cN ht9 hB9 hJ.1.w shy.rf hS9 hFc hk9
  have e7c : qI S 44 7 = qI S 44 7 := rfl
  refine lv_pop2_2 hx hb dL_law_663 rfl ?_
  refine lv_aload_n hx hb dL_law_664 rfl (lv_at hl 2 rfl) ?_
  have hFc := rfree hJ.2.1 hA
  refine va_calll (va_runV (As := []) (rest := []) ⟨hx, hb, hml, hown, hts⟩ (r_result l g' ad' H1.size S' hJ.2.1.w trivial) (cwV 0 hts (gd_LR lk_143 lk_145 lk_146 lk_9 lk_144) rfl rfl rfl (by decide +kernel) ⟨Nat.le_of_ble_eq_true rfl, Nat.le_of_ble_eq_true rfl⟩) ⟨rblind, va_recv hJ.2.1.K hJ.2.1.P (ci := 13) (q0 := 0) rfl (hJ.2.1.at14 hJ.2.1.w.1), fun U hU hW9 => rmk hU hW9 hJ.2.1 hex hJ.2.2.2.2.2 hFc⟩ rfl rfl hl.1 rfl (lv_room (Nat.le_of_ble_eq_true rfl)) dL_law_665 hJ.c0) hJ.2.1.sS (fun q _ h => hFc q h) hFc (fun r29 T2 t9 H2 locs2 ht9 hvm9 hw9 hB9 hz9 hk9 hS9 => ?_)
  have hJ := hJ.rN ht9 hB9 hJ.2.1.w shy.rf hS9 hFc hk9
  have hG : GI (k + 1) S' := hG.gs.1
  have e7r : qI S' 0 88 = qI S' 0 88 := rfl
  refine lv_pop2_2 hx hb dL_law_668 rfl ?_
  refine lv_goto (tgt := 1008) hx hb dL_law_669 (by decide) ?_
  have e7 := e7c.trans (ha.trans e7r.symm)
  exact kk _ _ _ _ _ _ rfl rfl hJ hC hG e7
set_option maxHeartbeats 4000000 in
set_option maxRecDepth 100000 in
theorem law_c18 {p : Program} {l : Launch} {e : Env} {s : State} {m : MethodId} {below : List Frame} {meth : Method} {c : Code} {b L : Nat} {xs : Nat → Int32} {A : Nat → Prop} (hAd : A = fun q : Nat => s.heap.size ≤ q) (C0 : lw_At p s m meth c b L xs) (hex : ex s) {g g' : Gr} {ad ad' : Nat → Nat} {S S' : MS} {H : Heap} {locs : List Loc} {k : Nat} {i : Int32} (hi : LX i k L) (hJ : LB g g' ad ad' A s S S' H locs) (hC : CJ S) (hG : GI k S') (ha : qI S 44 7 = qI S' 0 88) {ls : Array Slot} (hl : lv_has ls 4 [(0, .ref b), (1, .ref (ad 0)), (2, .ref (ad' 0)), (3, .int i)]) (kk : ∀ (ad1 ad2 : Nat → Nat) (S1 S2 : MS) (H1 : Heap) (locs1 : List Loc), ad1 0 = ad 0 → ad2 0 = ad' 0 → LB g g' ad1 ad2 A s S1 S2 H1 locs1 → CJ S1 → GI (k + 1) S2 → qI S1 44 7 = qI S2 0 88 → W p l e room_1 s m #[Value.ref b] below meth c H1 locs1 (qn S1 + qn S2) (qu S1 + qu S2) (lw_Z below #[Value.ref b] s) (F0 m 1008 ls [])) : W p l e room_1 s m #[Value.ref b] below meth c H locs (qn S + qn S') (qu S + qu S') (lw_Z below #[Value.ref b] s) (F0 m 672 ls []) := by
  obtain ⟨hx, hb, hr, hml, hown, hts1, hX, hbl, hlocks, hgv⟩ := id C0
  have hts : ∀ w ∈ LWt, w.before #[Value.ref b] s = true := LWt_ok hts1
  have hown : s.vm.findClass RL = some m.cls := hown
  have hA : ∀ q : Nat, s.heap.size ≤ q → A q := fun q h => by rw [hAd]; exact h
  have hbA : ¬ A b := by rw [hAd]; exact Nat.not_le.mpr hbl
  have hk5 : k ≤ 512 := by have := hi.2.1; have := hi.2.2; omega
  refine lv_aload_n hx hb dL_law_672 rfl (lv_at hl 1 rfl) ?_
  have hFc := cfree hJ.1 hA
  refine va_calli (va_runV (As := []) (rest := []) ⟨hx, hb, hml, hown, hts⟩ (rX12_error l g ad H.size S hJ.1.w trivial) (cwV 0 hts (gd_LC lk_147 lk_149 lk_150 lk_4 lk_148) rfl rfl rfl (by decide +kernel) ⟨Nat.le_of_ble_eq_true rfl, Nat.le_of_ble_eq_true rfl⟩) ⟨cblind, va_recv hJ.1.K hJ.1.P (ci := 11) (q0 := 0) rfl (hJ.1.at51 hJ.1.w.1), fun U hU hW9 => cmk hU hW9 hJ.1 hex hJ.2.2.2.2.1 hFc⟩ rfl rfl hl.1 rfl (lv_room (Nat.le_of_ble_eq_true rfl)) dL_law_673 hJ.c0) hJ.1.sS (fun q _ h => hFc q h) hFc (fun r19 T1 t9 H1 locs1 ht9 hvm9 hw9 hB9 hz9 hk9 hS9 => ?_)
  have hJ := hJ.cN ht9 hB9 hJ.1.w shy.rf hS9 hFc hk9
  have e7c : qI S 44 7 = qI S 44 7 := rfl
  refine lv_pop hx hb dL_law_676 rfl ?_
  refine lv_aload_n hx hb dL_law_677 rfl (lv_at hl 2 rfl) ?_
  have hFc := rfree hJ.2.1 hA
  refine va_calli (va_runV (As := []) (rest := []) ⟨hx, hb, hml, hown, hts⟩ (r_error l g' ad' H1.size S' hJ.2.1.w trivial) (cwV 0 hts (gd_LR lk_151 lk_153 lk_154 lk_9 lk_152) rfl rfl rfl (by decide +kernel) ⟨Nat.le_of_ble_eq_true rfl, Nat.le_of_ble_eq_true rfl⟩) ⟨rblind, va_recv hJ.2.1.K hJ.2.1.P (ci := 13) (q0 := 0) rfl (hJ.2.1.at14 hJ.2.1.w.1), fun U hU hW9 => rmk hU hW9 hJ.2.1 hex hJ.2.2.2.2.2 hFc⟩ rfl rfl hl.1 rfl (lv_room (Nat.le_of_ble_eq_true rfl)) dL_law_678 hJ.c0) hJ.2.1.sS (fun q _ h => hFc q h) hFc (fun r29 T2 t9 H2 locs2 ht9 hvm9 hw9 hB9 hz9 hk9 hS9 => ?_)
  have hJ := hJ.rN ht9 hB9 hJ.2.1.w shy.rf hS9 hFc hk9
  have hG : GI (k + 1) S' := hG.gs.1
  have e7r : qI S' 0 88 = qI S' 0 88 := rfl
  refine lv_pop hx hb dL_law_681 rfl ?_
  refine lv_goto (tgt := 1008) hx hb dL_law_682 (by decide) ?_
  have e7 := e7c.trans (ha.trans e7r.symm)
  exact kk _ _ _ _ _ _ rfl rfl hJ hC hG e7
set_option maxHeartbeats 4000000 in
set_option maxRecDepth 100000 in
theorem law_c19 {p : Program} {l : Launch} {e : Env} {s : State} {m : MethodId} {below : List Frame} {meth : Method} {c : Code} {b L : Nat} {xs : Nat → Int32} {A : Nat → Prop} (hAd : A = fun q : Nat => s.heap.size ≤ q) (C0 : lw_At p s m meth c b L xs) (hex : ex s) {g g' : Gr} {ad ad' : Nat → Nat} {S S' : MS} {H : Heap} {locs : List Loc} {k : Nat} {i : Int32} (hi : LX i k L) (hJ : LB g g' ad ad' A s S S' H locs) (hC : CJ S) (hG : GI k S') (ha : qI S 44 7 = qI S' 0 88) {ls : Array Slot} (hl : lv_has ls 4 [(0, .ref b), (1, .ref (ad 0)), (2, .ref (ad' 0)), (3, .int i)]) (kk : ∀ (ad1 ad2 : Nat → Nat) (S1 S2 : MS) (H1 : Heap) (locs1 : List Loc), ad1 0 = ad 0 → ad2 0 = ad' 0 → LB g g' ad1 ad2 A s S1 S2 H1 locs1 → CJ S1 → GI (k + 1) S2 → qI S1 44 7 = qI S2 0 88 → W p l e room_1 s m #[Value.ref b] below meth c H1 locs1 (qn S1 + qn S2) (qu S1 + qu S2) (lw_Z below #[Value.ref b] s) (F0 m 1008 ls [])) : W p l e room_1 s m #[Value.ref b] below meth c H locs (qn S + qn S') (qu S + qu S') (lw_Z below #[Value.ref b] s) (F0 m 685 ls []) := by
  obtain ⟨hx, hb, hr, hml, hown, hts1, hX, hbl, hlocks, hgv⟩ := id C0
  have hts : ∀ w ∈ LWt, w.before #[Value.ref b] s = true := LWt_ok hts1
  have hown : s.vm.findClass RL = some m.cls := hown
  have hA : ∀ q : Nat, s.heap.size ≤ q → A q := fun q h => by rw [hAd]; exact h
  have hbA : ¬ A b := by rw [hAd]; exact Nat.not_le.mpr hbl
  have hk5 : k ≤ 512 := by have := hi.2.1; have := hi.2.2; omega
  refine lv_aload_n hx hb dL_law_685 rfl (lv_at hl 1 rfl) ?_
  have hFc := cfree hJ.1 hA
  refine va_calli (va_runV (As := []) (rest := []) ⟨hx, hb, hml, hown, hts⟩ (rX12_steps l g ad H.size S hJ.1.w trivial) (cwV 0 hts (gd_LC lk_155 lk_157 lk_158 lk_4 lk_156) rfl rfl rfl (by decide +kernel) ⟨Nat.le_of_ble_eq_true rfl, Nat.le_of_ble_eq_true rfl⟩) ⟨cblind, va_recv hJ.1.K hJ.1.P (ci := 11) (q0 := 0) rfl (hJ.1.at51 hJ.1.w.1), fun U hU hW9 => cmk hU hW9 hJ.1 hex hJ.2.2.2.2.1 hFc⟩ rfl rfl hl.1 rfl (lv_room (Nat.le_of_ble_eq_true rfl)) dL_law_686 hJ.c0) hJ.1.sS (fun q _ h => hFc q h) hFc (fun r19 T1 t9 H1 locs1 ht9 hvm9 hw9 hB9 hz9 hk9 hS9 => ?_)
  have hJ := hJ.cN ht9 hB9 hJ.1.w shy.rf hS9 hFc hk9
  have e7c : qI S 44 7 = qI S 44 7 := rfl
  refine lv_pop hx hb dL_law_689 rfl ?_
  refine lv_aload_n hx hb dL_law_690 rfl (lv_at hl 2 rfl) ?_
  have hFc := rfree hJ.2.1 hA
  refine va_calli (va_runV (As := []) (rest := []) ⟨hx, hb, hml, hown, hts⟩ (r_steps l g' ad' H1.size S' hJ.2.1.w trivial) (cwV 0 hts (gd_LR lk_159 lk_161 lk_162 lk_9 lk_160) rfl rfl rfl (by decide +kernel) ⟨Nat.le_of_ble_eq_true rfl, Nat.le_of_ble_eq_true rfl⟩) ⟨rblind, va_recv hJ.2.1.K hJ.2.1.P (ci := 13) (q0 := 0) rfl (hJ.2.1.at14 hJ.2.1.w.1), fun U hU hW9 => rmk hU hW9 hJ.2.1 hex hJ.2.2.2.2.2 hFc⟩ rfl rfl hl.1 rfl (lv_room (Nat.le_of_ble_eq_true rfl)) dL_law_691 hJ.c0) hJ.2.1.sS (fun q _ h => hFc q h) hFc (fun r29 T2 t9 H2 locs2 ht9 hvm9 hw9 hB9 hz9 hk9 hS9 => ?_)
  have hJ := hJ.rN ht9 hB9 hJ.2.1.w shy.rf hS9 hFc hk9
  have hG : GI (k + 1) S' := hG.gs.1
  have e7r : qI S' 0 88 = qI S' 0 88 := rfl
  refine lv_pop hx hb dL_law_694 rfl ?_
  refine lv_goto (tgt := 1008) hx hb dL_law_695 (by decide) ?_
  have e7 := e7c.trans (ha.trans e7r.symm)
  exact kk _ _ _ _ _ _ rfl rfl hJ hC hG e7
