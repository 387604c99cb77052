set_option maxHeartbeats 4000000 in
set_option maxRecDepth 100000 in
theorem law_c20 {p : Program} {l : Launch} {e : Env} {s : State} {m : MethodId} {below : List Frame} {meth : Method} {c : Code} {b L : Nat} {xs : Nat → Int32} {A : Nat → Prop} (hAd : A = fun q : Nat => s.heap.size ≤ q) (C0 : lw_At p s m meth c b L xs) (hex : ex s) {g g' : Gr} {ad ad' : Nat → Nat} {S S' : MS} {H : Heap} {locs : List Loc} {k : Nat} {i : Int32} (hi : LX i k L) (hJ : LB g g' ad ad' A s S S' H locs) (hC : CJ S) (hG : GI k S') (ha : qI S 44 7 = qI S' 0 88) {ls : Array Slot} (hl : lv_has ls 4 [(0, .ref b), (1, .ref (ad 0)), (2, .ref (ad' 0)), (3, .int i)]) (kk : ∀ (ad1 ad2 : Nat → Nat) (S1 S2 : MS) (H1 : Heap) (locs1 : List Loc), ad1 0 = ad 0 → ad2 0 = ad' 0 → LB g g' ad1 ad2 A s S1 S2 H1 locs1 → CJ S1 → GI (k + 1) S2 → qI S1 44 7 = qI S2 0 88 → W p l e room_1 s m #[Value.ref b] below meth c H1 locs1 (qn S1 + qn S2) (qu S1 + qu S2) (lw_Z below #[Value.ref b] s) (F0 m 1008 ls [])) : W p l e room_1 s m #[Value.ref b] below meth c H locs (qn S + qn S') (qu S + qu S') (lw_Z below #[Value.ref b] s) (F0 m 698 ls []) := by
  obtain ⟨hx, hb, hr, hml, hown, hts1, hX, hbl, hlocks, hgv⟩ := id C0
  have hts : ∀ w ∈ LWt, w.before #[Value.ref b] s = true := LWt_ok hts1
  have hown : s.vm.findClass RL = some m.cls := hown
  have hA : ∀ q : Nat, s.heap.size ≤ q → A q := fun q h => by rw [hAd]; exact h
  have hbA : ¬ A b := by rw [hAd]; exact Nat.not_le.mpr hbl
  have hk5 : k ≤ 512 := by have := hi.2.1; have := hi.2.2; omega
  refine lv_aload_n hx hb dL_law_698 rfl (lv_at hl 1 rfl) ?_
  refine lv_aload_n hx hb dL_law_699 rfl (lv_at hl 0 rfl) ?_
  refine lv_iload_n hx hb dL_law_700 rfl (lv_at hl 3 rfl) ?_
  refine lv_iconst (v := 1) hx hb dL_law_701 (by decide) ?_
  refine lv_iadd hx hb dL_law_702 ?_
  refine va_sld hx hb hX hbl hbA hJ.1.sS (hi.in 1 (by decide)) dL_law_703 ?_
  refine lv_topi (fun a1 ea1 => ?_)
  have hFc := cfree hJ.1 hA
  refine va_calll (va_runV (As := [.int a1]) (rest := []) ⟨hx, hb, hml, hown, hts⟩ (rX12_field l g ad H.size S a1 hJ.1.w (cj_field hJ.1.w hC)) (cwV 1 hts (gd_LC lk_163 lk_165 lk_166 lk_4 lk_164) rfl rfl rfl (by decide +kernel) ⟨Nat.le_of_ble_eq_true rfl, Nat.le_of_ble_eq_true rfl⟩) ⟨cblind, va_recv hJ.1.K hJ.1.P (ci := 11) (q0 := 0) rfl (hJ.1.at51 hJ.1.w.1), fun U hU hW9 => cmk hU hW9 hJ.1 hex hJ.2.2.2.2.1 hFc⟩ rfl rfl hl.1 rfl (lv_room (Nat.le_of_ble_eq_true rfl)) dL_law_704 hJ.c0) hJ.1.sS (fun q _ h => hFc q h) hFc (fun r19 T1 t9 H1 locs1 ht9 hvm9 hw9 hB9 hz9 hk9 hS9 => ?_)
  have hJ := hJ.cN ht9 hB9 hJ.1.w shy.rf hS9 hFc hk9
  have e7c : qI S 44 7 = qI S 44 7 := rfl
  refine lv_pop2_2 hx hb dL_law_707 rfl ?_
  refine lv_aload_n hx hb dL_law_708 rfl (lv_at hl 2 rfl) ?_
  refine lv_aload_n hx hb dL_law_709 rfl (lv_at hl 0 rfl) ?_
  refine lv_iload_n hx hb dL_law_710 rfl (lv_at hl 3 rfl) ?_
  refine lv_iconst (v := 1) hx hb dL_law_711 (by decide) ?_
  refine lv_iadd hx hb dL_law_712 ?_
  refine va_sld hx hb hX hbl hbA hJ.1.sS (hi.in 1 (by decide)) dL_law_713 ?_
  refine lv_topi (fun a2 ea2 => ?_)
  have hFc := rfree hJ.2.1 hA
  refine va_calll (va_runV (As := [.int a2]) (rest := []) ⟨hx, hb, hml, hown, hts⟩ (r_field l g' ad' H1.size S' a2 hJ.2.1.w (g_field hG)) (cwV 1 hts (gd_LR lk_167 lk_169 lk_170 lk_9 lk_168) rfl rfl rfl (by decide +kernel) ⟨Nat.le_of_ble_eq_true rfl, Nat.le_of_ble_eq_true rfl⟩) ⟨rblind, va_recv hJ.2.1.K hJ.2.1.P (ci := 13) (q0 := 0) rfl (hJ.2.1.at14 hJ.2.1.w.1), fun U hU hW9 => rmk hU hW9 hJ.2.1 hex hJ.2.2.2.2.2 hFc⟩ rfl rfl hl.1 rfl (lv_room (Nat.le_of_ble_eq_true rfl)) dL_law_714 hJ.c0) hJ.2.1.sS (fun q _ h => hFc q h) hFc (fun r29 T2 t9 H2 locs2 ht9 hvm9 hw9 hB9 hz9 hk9 hS9 => ?_)
  have hJ := hJ.rN ht9 hB9 hJ.2.1.w shy.rf hS9 hFc hk9
  have hG : GI (k + 1) S' := hG.gs.1
  have e7r : qI S' 0 88 = qI S' 0 88 := rfl
  refine lv_pop2_2 hx hb dL_law_717 rfl ?_
  refine lv_goto (tgt := 1008) hx hb dL_law_718 (by decide) ?_
  have e7 := e7c.trans (ha.trans e7r.symm)
  exact kk _ _ _ _ _ _ rfl rfl hJ hC hG e7
set_option maxHeartbeats 4000000 in
set_option maxRecDepth 100000 in
theorem law_c21 {p : Program} {l : Launch} {e : Env} {s : State} {m : MethodId} {below : List Frame} {meth : Method} {c : Code} {b L : Nat} {xs : Nat → Int32} {A : Nat → Prop} (hAd : A = fun q : Nat => s.heap.size ≤ q) (C0 : lw_At p s m meth c b L xs) (hex : ex s) {g g' : Gr} {ad ad' : Nat → Nat} {S S' : MS} {H : Heap} {locs : List Loc} {k : Nat} {i : Int32} (hi : LX i k L) (hJ : LB g g' ad ad' A s S S' H locs) (hC : CJ S) (hG : GI k S') (ha : qI S 44 7 = qI S' 0 88) {ls : Array Slot} (hl : lv_has ls 4 [(0, .ref b), (1, .ref (ad 0)), (2, .ref (ad' 0)), (3, .int i)]) (kk : ∀ (ad1 ad2 : Nat → Nat) (S1 S2 : MS) (H1 : Heap) (locs1 : List Loc), ad1 0 = ad 0 → ad2 0 = ad' 0 → LB g g' ad1 ad2 A s S1 S2 H1 locs1 → CJ S1 → GI (k + 1) S2 → qI S1 44 7 = qI S2 0 88 → W p l e room_1 s m #[Value.ref b] below meth c H1 locs1 (qn S1 + qn S2) (qu S1 + qu S2) (lw_Z below #[Value.ref b] s) (F0 m 1008 ls [])) : W p l e room_1 s m #[Value.ref b] below meth c H locs (qn S + qn S') (qu S + qu S') (lw_Z below #[Value.ref b] s) (F0 m 721 ls []) := by
  obtain ⟨hx, hb, hr, hml, hown, hts1, hX, hbl, hlocks, hgv⟩ := id C0
  have hts : ∀ w ∈ LWt, w.before #[Value.ref b] s = true := LWt_ok hts1
  have hown : s.vm.findClass RL = some m.cls := hown
  have hA : ∀ q : Nat, s.heap.size ≤ q → A q := fun q h => by rw [hAd]; exact h
  have hbA : ¬ A b := by rw [hAd]; exact Nat.not_le.mpr hbl
  have hk5 : k ≤ 512 := by have := hi.2.1; have := hi.2.2; omega
  refine lv_aload_n hx hb dL_law_721 rfl (lv_at hl 1 rfl) ?_
  refine lv_aload_n hx hb dL_law_722 rfl (lv_at hl 0 rfl) ?_
  refine lv_iload_n hx hb dL_law_723 rfl (lv_at hl 3 rfl) ?_
  refine lv_iconst (v := 1) hx hb dL_law_724 (by decide) ?_
  refine lv_iadd hx hb dL_law_725 ?_
  refine va_sld hx hb hX hbl hbA hJ.1.sS (hi.in 1 (by decide)) dL_law_726 ?_
  refine lv_topi (fun a1 ea1 => ?_)
  refine lv_aload_n hx hb dL_law_727 rfl (lv_at hl 0 rfl) ?_
  refine lv_iload_n hx hb dL_law_728 rfl (lv_at hl 3 rfl) ?_
  refine lv_iconst (v := 2) hx hb dL_law_729 (by decide) ?_
  refine lv_iadd hx hb dL_law_730 ?_
  refine va_sld hx hb hX hbl hbA hJ.1.sS (hi.in 2 (by decide)) dL_law_731 ?_
  refine lv_topi (fun a2 ea2 => ?_)
  obtain ⟨Q9, h9, k9⟩ := cj_element (x1 := a1) (x2 := a2) hJ.1.w hC
  have hFc := cfree hJ.1 hA
  refine va_calli (va_runV (As := [.int a1, .int a2]) (rest := []) ⟨hx, hb, hml, hown, hts⟩ (rX12_element l g ad H.size S a1 a2 hJ.1.w Q9 h9) (cwV 2 hts (gd_LC lk_171 lk_173 lk_174 lk_4 lk_172) rfl rfl rfl (by decide +kernel) ⟨Nat.le_of_ble_eq_true rfl, Nat.le_of_ble_eq_true rfl⟩) ⟨cblind, va_recv hJ.1.K hJ.1.P (ci := 11) (q0 := 0) rfl (hJ.1.at51 hJ.1.w.1), fun U hU hW9 => cmk hU hW9 hJ.1 hex hJ.2.2.2.2.1 hFc⟩ rfl rfl hl.1 rfl (lv_room (Nat.le_of_ble_eq_true rfl)) dL_law_732 hJ.c0) hJ.1.sS (fun q _ h => hFc q h) hFc (fun r19 T1 t9 H1 locs1 ht9 hvm9 hw9 hB9 hz9 hk9 hS9 => ?_)
  obtain ⟨hq9, hw9, hs9⟩ := hw9
  refine W_eq (hs9.n).1 (hs9.n).2 ?_
  have hJ := hJ.cN ht9 hB9 hw9 hs9 hS9 hFc hk9
  obtain ⟨hC, e7c⟩ := k9 r19 T1 hq9
  have hC := hC hJ.1.w
  refine lv_pop hx hb dL_law_735 rfl ?_
  refine lv_aload_n hx hb dL_law_736 rfl (lv_at hl 2 rfl) ?_
  refine lv_aload_n hx hb dL_law_737 rfl (lv_at hl 0 rfl) ?_
  refine lv_iload_n hx hb dL_law_738 rfl (lv_at hl 3 rfl) ?_
  refine lv_iconst (v := 1) hx hb dL_law_739 (by decide) ?_
  refine lv_iadd hx hb dL_law_740 ?_
  refine va_sld hx hb hX hbl hbA hJ.1.sS (hi.in 1 (by decide)) dL_law_741 ?_
  refine lv_topi (fun a3 ea3 => ?_)
  refine lv_aload_n hx hb dL_law_742 rfl (lv_at hl 0 rfl) ?_
  refine lv_iload_n hx hb dL_law_743 rfl (lv_at hl 3 rfl) ?_
  refine lv_iconst (v := 2) hx hb dL_law_744 (by decide) ?_
  refine lv_iadd hx hb dL_law_745 ?_
  refine va_sld hx hb hX hbl hbA hJ.1.sS (hi.in 2 (by decide)) dL_law_746 ?_
  refine lv_topi (fun a4 ea4 => ?_)
  have hFc := rfree hJ.2.1 hA
  refine va_calli (va_runV (As := [.int a3, .int a4]) (rest := []) ⟨hx, hb, hml, hown, hts⟩ (r_element l g' ad' H1.size S' a3 a4 hJ.2.1.w (g_element hG).1) (cwV 2 hts (gd_LR lk_175 lk_177 lk_178 lk_9 lk_176) rfl rfl rfl (by decide +kernel) ⟨Nat.le_of_ble_eq_true rfl, Nat.le_of_ble_eq_true rfl⟩) ⟨rblind, va_recv hJ.2.1.K hJ.2.1.P (ci := 13) (q0 := 0) rfl (hJ.2.1.at14 hJ.2.1.w.1), fun U hU hW9 => rmk hU hW9 hJ.2.1 hex hJ.2.2.2.2.2 hFc⟩ rfl rfl hl.1 rfl (lv_room (Nat.le_of_ble_eq_true rfl)) dL_law_747 hJ.c0) hJ.2.1.sS (fun q _ h => hFc q h) hFc (fun r29 T2 t9 H2 locs2 ht9 hvm9 hw9 hB9 hz9 hk9 hS9 => ?_)
  have hJ := hJ.rN ht9 hB9 hJ.2.1.w shy.rf hS9 hFc hk9
  have hG : GI (k + 1) S' := hG.gs.1
  have e7r : qI S' 0 88 = qI S' 0 88 := rfl
  refine lv_pop hx hb dL_law_750 rfl ?_
  refine lv_goto (tgt := 1008) hx hb dL_law_751 (by decide) ?_
  have e7 := e7c.trans (ha.trans e7r.symm)
  exact kk _ _ _ _ _ _ rfl rfl hJ hC hG e7
set_option maxHeartbeats 4000000 in
set_option maxRecDepth 100000 in
theorem law_c22 {p : Program} {l : Launch} {e : Env} {s : State} {m : MethodId} {below : List Frame} {meth : Method} {c : Code} {b L : Nat} {xs : Nat → Int32} {A : Nat → Prop} (hAd : A = fun q : Nat => s.heap.size ≤ q) (C0 : lw_At p s m meth c b L xs) (hex : ex s) {g g' : Gr} {ad ad' : Nat → Nat} {S S' : MS} {H : Heap} {locs : List Loc} {k : Nat} {i : Int32} (hi : LX i k L) (hJ : LB g g' ad ad' A s S S' H locs) (hC : CJ S) (hG : GI k S') (ha : qI S 44 7 = qI S' 0 88) {ls : Array Slot} (hl : lv_has ls 4 [(0, .ref b), (1, .ref (ad 0)), (2, .ref (ad' 0)), (3, .int i)]) (kk : ∀ (ad1 ad2 : Nat → Nat) (S1 S2 : MS) (H1 : Heap) (locs1 : List Loc), ad1 0 = ad 0 → ad2 0 = ad' 0 → LB g g' ad1 ad2 A s S1 S2 H1 locs1 → CJ S1 → GI (k + 1) S2 → qI S1 44 7 = qI S2 0 88 → W p l e room_1 s m #[Value.ref b] below meth c H1 locs1 (qn S1 + qn S2) (qu S1 + qu S2) (lw_Z below #[Value.ref b] s) (F0 m 1008 ls [])) : W p l e room_1 s m #[Value.ref b] below meth c H locs (qn S + qn S') (qu S + qu S') (lw_Z below #[Value.ref b] s) (F0 m 754 ls []) := by
  obtain ⟨hx, hb, hr, hml, hown, hts1, hX, hbl, hlocks, hgv⟩ := id C0
  have hts : ∀ w ∈ LWt, w.before #[Value.ref b] s = true := LWt_ok hts1
  have hown : s.vm.findClass RL = some m.cls := hown
  have hA : ∀ q : Nat, s.heap.size ≤ q → A q := fun q h => by rw [hAd]; exact h
  have hbA : ¬ A b := by rw [hAd]; exact Nat.not_le.mpr hbl
  have hk5 : k ≤ 512 := by have := hi.2.1; have := hi.2.2; omega
  refine lv_aload_n hx hb dL_law_754 rfl (lv_at hl 1 rfl) ?_
  refine lv_aload_n hx hb dL_law_755 rfl (lv_at hl 0 rfl) ?_
  refine lv_iload_n hx hb dL_law_756 rfl (lv_at hl 3 rfl) ?_
  refine lv_iconst (v := 1) hx hb dL_law_757 (by decide) ?_
  refine lv_iadd hx hb dL_law_758 ?_
  refine va_sld hx hb hX hbl hbA hJ.1.sS (hi.in 1 (by decide)) dL_law_759 ?_
  refine lv_topi (fun a1 ea1 => ?_)
  have hFc := cfree hJ.1 hA
  refine va_calli (va_runV (As := [.int a1]) (rest := []) ⟨hx, hb, hml, hown, hts⟩ (rX12_arrayLength l g ad H.size S a1 hJ.1.w ci_arrayLength) (cwV 1 hts (gd_LC lk_179 lk_181 lk_182 lk_4 lk_180) rfl rfl rfl (by decide +kernel) ⟨Nat.le_of_ble_eq_true rfl, Nat.le_of_ble_eq_true rfl⟩) ⟨cblind, va_recv hJ.1.K hJ.1.P (ci := 11) (q0 := 0) rfl (hJ.1.at51 hJ.1.w.1), fun U hU hW9 => cmk hU hW9 hJ.1 hex hJ.2.2.2.2.1 hFc⟩ rfl rfl hl.1 rfl (lv_room (Nat.le_of_ble_eq_true rfl)) dL_law_760 hJ.c0) hJ.1.sS (fun q _ h => hFc q h) hFc (fun r19 T1 t9 H1 locs1 ht9 hvm9 hw9 hB9 hz9 hk9 hS9 => ?_)
  have hJ := hJ.cN ht9 hB9 hJ.1.w shy.rf hS9 hFc hk9
  have e7c : qI S 44 7 = qI S 44 7 := rfl
  refine lv_pop hx hb dL_law_763 rfl ?_
  refine lv_aload_n hx hb dL_law_764 rfl (lv_at hl 2 rfl) ?_
  refine lv_aload_n hx hb dL_law_765 rfl (lv_at hl 0 rfl) ?_
  refine lv_iload_n hx hb dL_law_766 rfl (lv_at hl 3 rfl) ?_
  refine lv_iconst (v := 1) hx hb dL_law_767 (by decide) ?_
  refine lv_iadd hx hb dL_law_768 ?_
  refine va_sld hx hb hX hbl hbA hJ.1.sS (hi.in 1 (by decide)) dL_law_769 ?_
  refine lv_topi (fun a2 ea2 => ?_)
  have hFc := rfree hJ.2.1 hA
  refine va_calli (va_runV (As := [.int a2]) (rest := []) ⟨hx, hb, hml, hown, hts⟩ (r_arrayLength l g' ad' H1.size S' a2 hJ.2.1.w (g_element (y := 0) hG).2) (cwV 1 hts (gd_LR lk_183 lk_185 lk_186 lk_9 lk_184) rfl rfl rfl (by decide +kernel) ⟨Nat.le_of_ble_eq_true rfl, Nat.le_of_ble_eq_true rfl⟩) ⟨rblind, va_recv hJ.2.1.K hJ.2.1.P (ci := 13) (q0 := 0) rfl (hJ.2.1.at14 hJ.2.1.w.1), fun U hU hW9 => rmk hU hW9 hJ.2.1 hex hJ.2.2.2.2.2 hFc⟩ rfl rfl hl.1 rfl (lv_room (Nat.le_of_ble_eq_true rfl)) dL_law_770 hJ.c0) hJ.2.1.sS (fun q _ h => hFc q h) hFc (fun r29 T2 t9 H2 locs2 ht9 hvm9 hw9 hB9 hz9 hk9 hS9 => ?_)
  have hJ := hJ.rN ht9 hB9 hJ.2.1.w shy.rf hS9 hFc hk9
  have hG : GI (k + 1) S' := hG.gs.1
  have e7r : qI S' 0 88 = qI S' 0 88 := rfl
  refine lv_pop hx hb dL_law_773 rfl ?_
  refine lv_goto (tgt := 1008) hx hb dL_law_774 (by decide) ?_
  have e7 := e7c.trans (ha.trans e7r.symm)
  exact kk _ _ _ _ _ _ rfl rfl hJ hC hG e7
set_option maxHeartbeats 4000000 in
set_option maxRecDepth 100000 in
theorem law_c23 {p : Program} {l : Launch} {e : Env} {s : State} {m : MethodId} {below : List Frame} {meth : Method} {c : Code} {b L : Nat} {xs : Nat → Int32} {A : Nat → Prop} (hAd : A = fun q : Nat => s.heap.size ≤ q) (C0 : lw_At p s m meth c b L xs) (hex : ex s) {g g' : Gr} {ad ad' : Nat → Nat} {S S' : MS} {H : Heap} {locs : List Loc} {k : Nat} {i : Int32} (hi : LX i k L) (hJ : LB g g' ad ad' A s S S' H locs) (hC : CJ S) (hG : GI k S') (ha : qI S 44 7 = qI S' 0 88) {ls : Array Slot} (hl : lv_has ls 4 [(0, .ref b), (1, .ref (ad 0)), (2, .ref (ad' 0)), (3, .int i)]) (kk : ∀ (ad1 ad2 : Nat → Nat) (S1 S2 : MS) (H1 : Heap) (locs1 : List Loc), ad1 0 = ad 0 → ad2 0 = ad' 0 → LB g g' ad1 ad2 A s S1 S2 H1 locs1 → CJ S1 → GI (k + 1) S2 → qI S1 44 7 = qI S2 0 88 → W p l e room_1 s m #[Value.ref b] below meth c H1 locs1 (qn S1 + qn S2) (qu S1 + qu S2) (lw_Z below #[Value.ref b] s) (F0 m 1008 ls [])) : W p l e room_1 s m #[Value.ref b] below meth c H locs (qn S + qn S') (qu S + qu S') (lw_Z below #[Value.ref b] s) (F0 m 777 ls []) := by
  obtain ⟨hx, hb, hr, hml, hown, hts1, hX, hbl, hlocks, hgv⟩ := id C0
  have hts : ∀ w ∈ LWt, w.before #[Value.ref b] s = true := LWt_ok hts1
  have hown : s.vm.findClass RL = some m.cls := hown
  have hA : ∀ q : Nat, s.heap.size ≤ q → A q := fun q h => by rw [hAd]; exact h
  have hbA : ¬ A b := by rw [hAd]; exact Nat.not_le.mpr hbl
  have hk5 : k ≤ 512 := by have := hi.2.1; have := hi.2.2; omega
  refine lv_aload_n hx hb dL_law_777 rfl (lv_at hl 1 rfl) ?_
  refine lv_aload_n hx hb dL_law_778 rfl (lv_at hl 0 rfl) ?_
  refine lv_iload_n hx hb dL_law_779 rfl (lv_at hl 3 rfl) ?_
  refine lv_iconst (v := 1) hx hb dL_law_780 (by decide) ?_
  refine lv_iadd hx hb dL_law_781 ?_
  refine va_sld hx hb hX hbl hbA hJ.1.sS (hi.in 1 (by decide)) dL_law_782 ?_
  refine lv_topi (fun a1 ea1 => ?_)
  refine lv_aload_n hx hb dL_law_783 rfl (lv_at hl 0 rfl) ?_
  refine lv_iload_n hx hb dL_law_784 rfl (lv_at hl 3 rfl) ?_
  refine lv_iconst (v := 2) hx hb dL_law_785 (by decide) ?_
  refine lv_iadd hx hb dL_law_786 ?_
  refine va_sld hx hb hX hbl hbA hJ.1.sS (hi.in 2 (by decide)) dL_law_787 ?_
  refine lv_topi (fun a2 ea2 => ?_)
  obtain ⟨Q9, h9, k9⟩ := cj_blocks (x1 := a1) (x2 := a2) hJ.1.w hC
  refine W_led2 (fun hL0 => ?_)
  have hFc := cfree hJ.1 hA
  refine va_calli (va_runV (As := [.int a1, .int a2]) (rest := []) ⟨hx, hb, hml, hown, hts⟩ (rX12_blocks l g ad H S a1 a2 hJ.1.w Q9 h9) (cwV 2 hts (gd_LC lk_187 lk_189 lk_190 lk_4 lk_188) rfl rfl rfl (by decide +kernel) ⟨Nat.le_of_ble_eq_true rfl, Nat.le_of_ble_eq_true rfl⟩) ⟨cblindH, va_recv hJ.1.K hJ.1.P (ci := 11) (q0 := 0) rfl (hJ.1.at51 hJ.1.w.1), fun U hU hW9 => cmkH hU hW9 hJ.1 hex hJ.2.2.2.2.1 hFc⟩ rfl rfl hl.1 rfl (lv_room (Nat.le_of_ble_eq_true rfl)) dL_law_788 hJ.cc) hJ.1.sS (fun q _ h => hFc q h) hFc (fun r19 T1 t9 H1 locs1 ht9 hvm9 hw9 hB9 hz9 hk9 hS9 => ?_)
  rcases T1 with ⟨T1, ad1⟩
  obtain ⟨hB9, dc9, ds9, hL9, hl9⟩ := hB9
  dsimp only at hw9 hB9 hl9
  rw [ht9] at hL9
  obtain ⟨hq9, hw9, hs9, hk8⟩ := hw9
  have eAc : ad1 0 = ad 0 := hk8 _ (hJ.1.w.hd hJ.1.w.1 (by decide) (by decide))
  refine W_tight2 (cells' := qn T1 + qn S') (slots' := qu T1 + qu S') (jn_cc1 hl9 (hL0.tr hL9).1) (jn_cc2 hl9 (hL0.tr hL9).2.1) ?_
  have hJ := hJ.cH ht9 hB9 hw9 hl9 hk8 hS9 hFc hk9
  obtain ⟨hC, e7c⟩ := k9 r19 T1 hq9
  have hC := hC hJ.1.w
  refine lv_pop hx hb dL_law_791 rfl ?_
  refine lv_aload_n hx hb dL_law_792 rfl (lv_at hl 2 rfl) ?_
  refine lv_aload_n hx hb dL_law_793 rfl (lv_at hl 0 rfl) ?_
  refine lv_iload_n hx hb dL_law_794 rfl (lv_at hl 3 rfl) ?_
  refine lv_iconst (v := 1) hx hb dL_law_795 (by decide) ?_
  refine lv_iadd hx hb dL_law_796 ?_
  refine va_sld hx hb hX hbl hbA hJ.1.sS (hi.in 1 (by decide)) dL_law_797 ?_
  refine lv_topi (fun a3 ea3 => ?_)
  refine lv_aload_n hx hb dL_law_798 rfl (lv_at hl 0 rfl) ?_
  refine lv_iload_n hx hb dL_law_799 rfl (lv_at hl 3 rfl) ?_
  refine lv_iconst (v := 2) hx hb dL_law_800 (by decide) ?_
  refine lv_iadd hx hb dL_law_801 ?_
  refine va_sld hx hb hX hbl hbA hJ.1.sS (hi.in 2 (by decide)) dL_law_802 ?_
  refine lv_topi (fun a4 ea4 => ?_)
  obtain ⟨Q9, h9, k9⟩ := (show ∃ Q, w_blocks S' a3 a4 Q ∧ ∀ (r : Int32) (u : MS), Q r u → GS k S' u from g_blocks hG)
  have hFc := rfree hJ.2.1 hA
  refine va_calli (va_runV (As := [.int a3, .int a4]) (rest := []) ⟨hx, hb, hml, hown, hts⟩ (r_blocks l g' ad' H1.size S' a3 a4 hJ.2.1.w Q9 h9) (cwV 2 hts (gd_LR lk_191 lk_193 lk_194 lk_9 lk_192) rfl rfl rfl (by decide +kernel) ⟨Nat.le_of_ble_eq_true rfl, Nat.le_of_ble_eq_true rfl⟩) ⟨rblind, va_recv hJ.2.1.K hJ.2.1.P (ci := 13) (q0 := 0) rfl (hJ.2.1.at14 hJ.2.1.w.1), fun U hU hW9 => rmk hU hW9 hJ.2.1 hex hJ.2.2.2.2.2 hFc⟩ rfl rfl hl.1 rfl (lv_room (Nat.le_of_ble_eq_true rfl)) dL_law_803 hJ.c0) hJ.2.1.sS (fun q _ h => hFc q h) hFc (fun r29 T2 t9 H2 locs2 ht9 hvm9 hw9 hB9 hz9 hk9 hS9 => ?_)
  obtain ⟨hq9, hw9, hs9⟩ := hw9
  refine W_eq (hs9.n2).1 (hs9.n2).2 ?_
  have hJ := hJ.rN ht9 hB9 hw9 hs9 hS9 hFc hk9
  obtain ⟨hG, e7r⟩ := k9 r29 T2 hq9
  refine lv_pop hx hb dL_law_806 rfl ?_
  refine lv_goto (tgt := 1008) hx hb dL_law_807 (by decide) ?_
  have e7 := e7c.trans (ha.trans e7r.symm)
  exact kk _ _ _ _ _ _ eAc rfl hJ hC hG e7
set_option maxHeartbeats 4000000 in
set_option maxRecDepth 100000 in
theorem law_c24 {p : Program} {l : Launch} {e : Env} {s : State} {m : MethodId} {below : List Frame} {meth : Method} {c : Code} {b L : Nat} {xs : Nat → Int32} {A : Nat → Prop} (hAd : A = fun q : Nat => s.heap.size ≤ q) (C0 : lw_At p s m meth c b L xs) (hex : ex s) {g g' : Gr} {ad ad' : Nat → Nat} {S S' : MS} {H : Heap} {locs : List Loc} {k : Nat} {i : Int32} (hi : LX i k L) (hJ : LB g g' ad ad' A s S S' H locs) (hC : CJ S) (hG : GI k S') (ha : qI S 44 7 = qI S' 0 88) {ls : Array Slot} (hl : lv_has ls 4 [(0, .ref b), (1, .ref (ad 0)), (2, .ref (ad' 0)), (3, .int i)]) (kk : ∀ (ad1 ad2 : Nat → Nat) (S1 S2 : MS) (H1 : Heap) (locs1 : List Loc), ad1 0 = ad 0 → ad2 0 = ad' 0 → LB g g' ad1 ad2 A s S1 S2 H1 locs1 → CJ S1 → GI (k + 1) S2 → qI S1 44 7 = qI S2 0 88 → W p l e room_1 s m #[Value.ref b] below meth c H1 locs1 (qn S1 + qn S2) (qu S1 + qu S2) (lw_Z below #[Value.ref b] s) (F0 m 1008 ls [])) : W p l e room_1 s m #[Value.ref b] below meth c H locs (qn S + qn S') (qu S + qu S') (lw_Z below #[Value.ref b] s) (F0 m 810 ls []) := by
  obtain ⟨hx, hb, hr, hml, hown, hts1, hX, hbl, hlocks, hgv⟩ := id C0
  have hts : ∀ w ∈ LWt, w.before #[Value.ref b] s = true := LWt_ok hts1
  have hown : s.vm.findClass RL = some m.cls := hown
  have hA : ∀ q : Nat, s.heap.size ≤ q → A q := fun q h => by rw [hAd]; exact h
  have hbA : ¬ A b := by rw [hAd]; exact Nat.not_le.mpr hbl
  have hk5 : k ≤ 512 := by have := hi.2.1; have := hi.2.2; omega
  refine lv_aload_n hx hb dL_law_810 rfl (lv_at hl 1 rfl) ?_
  refine lv_aload_n hx hb dL_law_811 rfl (lv_at hl 0 rfl) ?_
  refine lv_iload_n hx hb dL_law_812 rfl (lv_at hl 3 rfl) ?_
  refine lv_iconst (v := 1) hx hb dL_law_813 (by decide) ?_
  refine lv_iadd hx hb dL_law_814 ?_
  refine va_sld hx hb hX hbl hbA hJ.1.sS (hi.in 1 (by decide)) dL_law_815 ?_
  refine lv_topi (fun a1 ea1 => ?_)
  refine lv_aload_n hx hb dL_law_816 rfl (lv_at hl 0 rfl) ?_
  refine lv_iload_n hx hb dL_law_817 rfl (lv_at hl 3 rfl) ?_
  refine lv_iconst (v := 2) hx hb dL_law_818 (by decide) ?_
  refine lv_iadd hx hb dL_law_819 ?_
  refine va_sld hx hb hX hbl hbA hJ.1.sS (hi.in 2 (by decide)) dL_law_820 ?_
  refine lv_topi (fun a2 ea2 => ?_)
  refine lv_aload_n hx hb dL_law_821 rfl (lv_at hl 0 rfl) ?_
  refine lv_iload_n hx hb dL_law_822 rfl (lv_at hl 3 rfl) ?_
  refine lv_iconst (v := 3) hx hb dL_law_823 (by decide) ?_
  refine lv_iadd hx hb dL_law_824 ?_
  refine va_sld hx hb hX hbl hbA hJ.1.sS (hi.in 3 (by decide)) dL_law_825 ?_
  refine lv_topi (fun a3 ea3 => ?_)
  refine lv_aload_n hx hb dL_law_826 rfl (lv_at hl 0 rfl) ?_
  refine lv_iload_n hx hb dL_law_827 rfl (lv_at hl 3 rfl) ?_
  refine lv_iconst (v := 4) hx hb dL_law_828 (by decide) ?_
  refine lv_iadd hx hb dL_law_829 ?_
  refine va_sld hx hb hX hbl hbA hJ.1.sS (hi.in 4 (by decide)) dL_law_830 ?_
  refine lv_topi (fun a4 ea4 => ?_)
  obtain ⟨Q9, h9, k9⟩ := cj_block (x1 := a1) (x2 := a2) (x3 := a3) (x4 := a4) hJ.1.w hC
  refine W_led2 (fun hL0 => ?_)
  have hFc := cfree hJ.1 hA
  refine va_calli (va_runV (As := [.int a1, .int a2, .int a3, .int a4]) (rest := []) ⟨hx, hb, hml, hown, hts⟩ (rX12_block l g ad H S a1 a2 a3 a4 hJ.1.w Q9 h9) (cwV 4 hts (gd_LC lk_195 lk_197 lk_198 lk_4 lk_196) rfl rfl rfl (by decide +kernel) ⟨Nat.le_of_ble_eq_true rfl, Nat.le_of_ble_eq_true rfl⟩) ⟨cblindH, va_recv hJ.1.K hJ.1.P (ci := 11) (q0 := 0) rfl (hJ.1.at51 hJ.1.w.1), fun U hU hW9 => cmkH hU hW9 hJ.1 hex hJ.2.2.2.2.1 hFc⟩ rfl rfl hl.1 rfl (lv_room (Nat.le_of_ble_eq_true rfl)) dL_law_831 hJ.cc) hJ.1.sS (fun q _ h => hFc q h) hFc (fun r19 T1 t9 H1 locs1 ht9 hvm9 hw9 hB9 hz9 hk9 hS9 => ?_)
  rcases T1 with ⟨T1, ad1⟩
  obtain ⟨hB9, dc9, ds9, hL9, hl9⟩ := hB9
  dsimp only at hw9 hB9 hl9
  rw [ht9] at hL9
  obtain ⟨hq9, hw9, hs9, hk8⟩ := hw9
  have eAc : ad1 0 = ad 0 := hk8 _ (hJ.1.w.hd hJ.1.w.1 (by decide) (by decide))
  refine W_tight2 (cells' := qn T1 + qn S') (slots' := qu T1 + qu S') (jn_cc1 hl9 (hL0.tr hL9).1) (jn_cc2 hl9 (hL0.tr hL9).2.1) ?_
  have hJ := hJ.cH ht9 hB9 hw9 hl9 hk8 hS9 hFc hk9
  obtain ⟨hC, e7c⟩ := k9 r19 T1 hq9
  have hC := hC hJ.1.w
  refine lv_pop hx hb dL_law_834 rfl ?_
  refine lv_aload_n hx hb dL_law_835 rfl (lv_at hl 2 rfl) ?_
  refine lv_aload_n hx hb dL_law_836 rfl (lv_at hl 0 rfl) ?_
  refine lv_iload_n hx hb dL_law_837 rfl (lv_at hl 3 rfl) ?_
  refine lv_iconst (v := 1) hx hb dL_law_838 (by decide) ?_
  refine lv_iadd hx hb dL_law_839 ?_
  refine va_sld hx hb hX hbl hbA hJ.1.sS (hi.in 1 (by decide)) dL_law_840 ?_
  refine lv_topi (fun a5 ea5 => ?_)
  refine lv_aload_n hx hb dL_law_841 rfl (lv_at hl 0 rfl) ?_
  refine lv_iload_n hx hb dL_law_842 rfl (lv_at hl 3 rfl) ?_
  refine lv_iconst (v := 2) hx hb dL_law_843 (by decide) ?_
  refine lv_iadd hx hb dL_law_844 ?_
  refine va_sld hx hb hX hbl hbA hJ.1.sS (hi.in 2 (by decide)) dL_law_845 ?_
  refine lv_topi (fun a6 ea6 => ?_)
  refine lv_aload_n hx hb dL_law_846 rfl (lv_at hl 0 rfl) ?_
  refine lv_iload_n hx hb dL_law_847 rfl (lv_at hl 3 rfl) ?_
  refine lv_iconst (v := 3) hx hb dL_law_848 (by decide) ?_
  refine lv_iadd hx hb dL_law_849 ?_
  refine va_sld hx hb hX hbl hbA hJ.1.sS (hi.in 3 (by decide)) dL_law_850 ?_
  refine lv_topi (fun a7 ea7 => ?_)
  refine lv_aload_n hx hb dL_law_851 rfl (lv_at hl 0 rfl) ?_
  refine lv_iload_n hx hb dL_law_852 rfl (lv_at hl 3 rfl) ?_
  refine lv_iconst (v := 4) hx hb dL_law_853 (by decide) ?_
  refine lv_iadd hx hb dL_law_854 ?_
  refine va_sld hx hb hX hbl hbA hJ.1.sS (hi.in 4 (by decide)) dL_law_855 ?_
  refine lv_topi (fun a8 ea8 => ?_)
  obtain ⟨Q9, h9, k9⟩ := (show ∃ Q, w_block S' a5 a6 a7 a8 Q ∧ ∀ (r : Int32) (u : MS), Q r u → GS k S' u from g_block hG)
  have hFc := rfree hJ.2.1 hA
  refine va_calli (va_runV (As := [.int a5, .int a6, .int a7, .int a8]) (rest := []) ⟨hx, hb, hml, hown, hts⟩ (r_block l g' ad' H1.size S' a5 a6 a7 a8 hJ.2.1.w Q9 h9) (cwV 4 hts (gd_LR lk_199 lk_201 lk_202 lk_9 lk_200) rfl rfl rfl (by decide +kernel) ⟨Nat.le_of_ble_eq_true rfl, Nat.le_of_ble_eq_true rfl⟩) ⟨rblind, va_recv hJ.2.1.K hJ.2.1.P (ci := 13) (q0 := 0) rfl (hJ.2.1.at14 hJ.2.1.w.1), fun U hU hW9 => rmk hU hW9 hJ.2.1 hex hJ.2.2.2.2.2 hFc⟩ rfl rfl hl.1 rfl (lv_room (Nat.le_of_ble_eq_true rfl)) dL_law_856 hJ.c0) hJ.2.1.sS (fun q _ h => hFc q h) hFc (fun r29 T2 t9 H2 locs2 ht9 hvm9 hw9 hB9 hz9 hk9 hS9 => ?_)
  obtain ⟨hq9, hw9, hs9⟩ := hw9
  refine W_eq (hs9.n2).1 (hs9.n2).2 ?_
  have hJ := hJ.rN ht9 hB9 hw9 hs9 hS9 hFc hk9
  obtain ⟨hG, e7r⟩ := k9 r29 T2 hq9
  refine lv_pop hx hb dL_law_859 rfl ?_
  refine lv_goto (tgt := 1008) hx hb dL_law_860 (by decide) ?_
  have e7 := e7c.trans (ha.trans e7r.symm)
  exact kk _ _ _ _ _ _ eAc rfl hJ hC hG e7
set_option maxHeartbeats 4000000 in
set_option maxRecDepth 100000 in
theorem law_c25 {p : Program} {l : Launch} {e : Env} {s : State} {m : MethodId} {below : List Frame} {meth : Method} {c : Code} {b L : Nat} {xs : Nat → Int32} {A : Nat → Prop} (hAd : A = fun q : Nat => s.heap.size ≤ q) (C0 : lw_At p s m meth c b L xs) (hex : ex s) {g g' : Gr} {ad ad' : Nat → Nat} {S S' : MS} {H : Heap} {locs : List Loc} {k : Nat} {i : Int32} (hi : LX i k L) (hJ : LB g g' ad ad' A s S S' H locs) (hC : CJ S) (hG : GI k S') (ha : qI S 44 7 = qI S' 0 88) {ls : Array Slot} (hl : lv_has ls 4 [(0, .ref b), (1, .ref (ad 0)), (2, .ref (ad' 0)), (3, .int i)]) (kk : ∀ (ad1 ad2 : Nat → Nat) (S1 S2 : MS) (H1 : Heap) (locs1 : List Loc), ad1 0 = ad 0 → ad2 0 = ad' 0 → LB g g' ad1 ad2 A s S1 S2 H1 locs1 → CJ S1 → GI (k + 1) S2 → qI S1 44 7 = qI S2 0 88 → W p l e room_1 s m #[Value.ref b] below meth c H1 locs1 (qn S1 + qn S2) (qu S1 + qu S2) (lw_Z below #[Value.ref b] s) (F0 m 1008 ls [])) : W p l e room_1 s m #[Value.ref b] below meth c H locs (qn S + qn S') (qu S + qu S') (lw_Z below #[Value.ref b] s) (F0 m 863 ls []) := by
  obtain ⟨hx, hb, hr, hml, hown, hts1, hX, hbl, hlocks, hgv⟩ := id C0
  have hts : ∀ w ∈ LWt, w.before #[Value.ref b] s = true := LWt_ok hts1
  have hown : s.vm.findClass RL = some m.cls := hown
  have hA : ∀ q : Nat, s.heap.size ≤ q → A q := fun q h => by rw [hAd]; exact h
  have hbA : ¬ A b := by rw [hAd]; exact Nat.not_le.mpr hbl
  have hk5 : k ≤ 512 := by have := hi.2.1; have := hi.2.2; omega
  refine lv_aload_n hx hb dL_law_863 rfl (lv_at hl 1 rfl) ?_
  refine lv_aload_n hx hb dL_law_864 rfl (lv_at hl 0 rfl) ?_
  refine lv_iload_n hx hb dL_law_865 rfl (lv_at hl 3 rfl) ?_
  refine lv_iconst (v := 1) hx hb dL_law_866 (by decide) ?_
  refine lv_iadd hx hb dL_law_867 ?_
  refine va_sld hx hb hX hbl hbA hJ.1.sS (hi.in 1 (by decide)) dL_law_868 ?_
  refine lv_topi (fun a1 ea1 => ?_)
  refine lv_aload_n hx hb dL_law_869 rfl (lv_at hl 0 rfl) ?_
  refine lv_iload_n hx hb dL_law_870 rfl (lv_at hl 3 rfl) ?_
  refine lv_iconst (v := 2) hx hb dL_law_871 (by decide) ?_
  refine lv_iadd hx hb dL_law_872 ?_
  refine va_sld hx hb hX hbl hbA hJ.1.sS (hi.in 2 (by decide)) dL_law_873 ?_
  refine lv_topi (fun a2 ea2 => ?_)
  refine lv_aload_n hx hb dL_law_874 rfl (lv_at hl 0 rfl) ?_
  refine lv_iload_n hx hb dL_law_875 rfl (lv_at hl 3 rfl) ?_
  refine lv_iconst (v := 3) hx hb dL_law_876 (by decide) ?_
  refine lv_iadd hx hb dL_law_877 ?_
  refine va_sld hx hb hX hbl hbA hJ.1.sS (hi.in 3 (by decide)) dL_law_878 ?_
  refine lv_topi (fun a3 ea3 => ?_)
  refine lv_aload_n hx hb dL_law_879 rfl (lv_at hl 0 rfl) ?_
  refine lv_iload_n hx hb dL_law_880 rfl (lv_at hl 3 rfl) ?_
  refine lv_iconst (v := 4) hx hb dL_law_881 (by decide) ?_
  refine lv_iadd hx hb dL_law_882 ?_
  refine va_sld hx hb hX hbl hbA hJ.1.sS (hi.in 4 (by decide)) dL_law_883 ?_
  refine lv_topi (fun a4 ea4 => ?_)
  obtain ⟨Q9, h9, k9⟩ := cj_edge (x1 := a1) (x2 := a2) (x3 := a3) (x4 := a4) hJ.1.w hC
  refine W_led2 (fun hL0 => ?_)
  have hFc := cfree hJ.1 hA
  refine va_calli (va_runV (As := [.int a1, .int a2, .int a3, .int a4]) (rest := []) ⟨hx, hb, hml, hown, hts⟩ (rX12_edge l g ad H S a1 a2 a3 a4 hJ.1.w Q9 h9) (cwV 4 hts (gd_LC lk_203 lk_205 lk_206 lk_4 lk_204) rfl rfl rfl (by decide +kernel) ⟨Nat.le_of_ble_eq_true rfl, Nat.le_of_ble_eq_true rfl⟩) ⟨cblindH, va_recv hJ.1.K hJ.1.P (ci := 11) (q0 := 0) rfl (hJ.1.at51 hJ.1.w.1), fun U hU hW9 => cmkH hU hW9 hJ.1 hex hJ.2.2.2.2.1 hFc⟩ rfl rfl hl.1 rfl (lv_room (Nat.le_of_ble_eq_true rfl)) dL_law_884 hJ.cc) hJ.1.sS (fun q _ h => hFc q h) hFc (fun r19 T1 t9 H1 locs1 ht9 hvm9 hw9 hB9 hz9 hk9 hS9 => ?_)
  rcases T1 with ⟨T1, ad1⟩
  obtain ⟨hB9, dc9, ds9, hL9, hl9⟩ := hB9
  dsimp only at hw9 hB9 hl9
  rw [ht9] at hL9
  obtain ⟨hq9, hw9, hs9, hk8, -⟩ := hw9
  have eAc : ad1 0 = ad 0 := hk8 _ (hJ.1.w.hd hJ.1.w.1 (by decide) (by decide))
  refine W_tight2 (cells' := qn T1 + qn S') (slots' := qu T1 + qu S') (jn_cc1 hl9 (hL0.tr hL9).1) (jn_cc2 hl9 (hL0.tr hL9).2.1) ?_
  have hJ := hJ.cH ht9 hB9 hw9 hl9 hk8 hS9 hFc hk9
  obtain ⟨hC, e7c⟩ := k9 r19 T1 hq9
  have hC := hC hJ.1.w
  refine lv_pop hx hb dL_law_887 rfl ?_
  refine lv_aload_n hx hb dL_law_888 rfl (lv_at hl 2 rfl) ?_
  refine lv_aload_n hx hb dL_law_889 rfl (lv_at hl 0 rfl) ?_
  refine lv_iload_n hx hb dL_law_890 rfl (lv_at hl 3 rfl) ?_
  refine lv_iconst (v := 1) hx hb dL_law_891 (by decide) ?_
  refine lv_iadd hx hb dL_law_892 ?_
  refine va_sld hx hb hX hbl hbA hJ.1.sS (hi.in 1 (by decide)) dL_law_893 ?_
  refine lv_topi (fun a5 ea5 => ?_)
  refine lv_aload_n hx hb dL_law_894 rfl (lv_at hl 0 rfl) ?_
  refine lv_iload_n hx hb dL_law_895 rfl (lv_at hl 3 rfl) ?_
  refine lv_iconst (v := 2) hx hb dL_law_896 (by decide) ?_
  refine lv_iadd hx hb dL_law_897 ?_
  refine va_sld hx hb hX hbl hbA hJ.1.sS (hi.in 2 (by decide)) dL_law_898 ?_
  refine lv_topi (fun a6 ea6 => ?_)
  refine lv_aload_n hx hb dL_law_899 rfl (lv_at hl 0 rfl) ?_
  refine lv_iload_n hx hb dL_law_900 rfl (lv_at hl 3 rfl) ?_
  refine lv_iconst (v := 3) hx hb dL_law_901 (by decide) ?_
  refine lv_iadd hx hb dL_law_902 ?_
  refine va_sld hx hb hX hbl hbA hJ.1.sS (hi.in 3 (by decide)) dL_law_903 ?_
  refine lv_topi (fun a7 ea7 => ?_)
  refine lv_aload_n hx hb dL_law_904 rfl (lv_at hl 0 rfl) ?_
  refine lv_iload_n hx hb dL_law_905 rfl (lv_at hl 3 rfl) ?_
  refine lv_iconst (v := 4) hx hb dL_law_906 (by decide) ?_
  refine lv_iadd hx hb dL_law_907 ?_
  refine va_sld hx hb hX hbl hbA hJ.1.sS (hi.in 4 (by decide)) dL_law_908 ?_
  refine lv_topi (fun a8 ea8 => ?_)
  obtain ⟨Q9, h9, k9⟩ := (show ∃ Q, w_edge S' a5 a6 a7 a8 Q ∧ ∀ (r : Int32) (u : MS), Q r u → GS k S' u from g_edge hG)
  have hFc := rfree hJ.2.1 hA
  refine va_calli (va_runV (As := [.int a5, .int a6, .int a7, .int a8]) (rest := []) ⟨hx, hb, hml, hown, hts⟩ (r_edge l g' ad' H1.size S' a5 a6 a7 a8 hJ.2.1.w Q9 h9) (cwV 4 hts (gd_LR lk_207 lk_209 lk_210 lk_9 lk_208) rfl rfl rfl (by decide +kernel) ⟨Nat.le_of_ble_eq_true rfl, Nat.le_of_ble_eq_true rfl⟩) ⟨rblind, va_recv hJ.2.1.K hJ.2.1.P (ci := 13) (q0 := 0) rfl (hJ.2.1.at14 hJ.2.1.w.1), fun U hU hW9 => rmk hU hW9 hJ.2.1 hex hJ.2.2.2.2.2 hFc⟩ rfl rfl hl.1 rfl (lv_room (Nat.le_of_ble_eq_true rfl)) dL_law_909 hJ.c0) hJ.2.1.sS (fun q _ h => hFc q h) hFc (fun r29 T2 t9 H2 locs2 ht9 hvm9 hw9 hB9 hz9 hk9 hS9 => ?_)
  obtain ⟨hq9, hw9, hs9, -⟩ := hw9
  refine W_eq (hs9.n2).1 (hs9.n2).2 ?_
  have hJ := hJ.rN ht9 hB9 hw9 hs9 hS9 hFc hk9
  obtain ⟨hG, e7r⟩ := k9 r29 T2 hq9
  refine lv_pop hx hb dL_law_912 rfl ?_
  refine lv_goto (tgt := 1008) hx hb dL_law_913 (by decide) ?_
  have e7 := e7c.trans (ha.trans e7r.symm)
  exact kk _ _ _ _ _ _ eAc rfl hJ hC hG e7
set_option maxHeartbeats 4000000 in
set_option maxRecDepth 100000 in
theorem law_c26 {p : Program} {l : Launch} {e : Env} {s : State} {m : MethodId} {below : List Frame} {meth : Method} {c : Code} {b L : Nat} {xs : Nat → Int32} {A : Nat → Prop} (hAd : A = fun q : Nat => s.heap.size ≤ q) (C0 : lw_At p s m meth c b L xs) (hex : ex s) {g g' : Gr} {ad ad' : Nat → Nat} {S S' : MS} {H : Heap} {locs : List Loc} {k : Nat} {i : Int32} (hi : LX i k L) (hJ : LB g g' ad ad' A s S S' H locs) (hC : CJ S) (hG : GI k S') (ha : qI S 44 7 = qI S' 0 88) {ls : Array Slot} (hl : lv_has ls 4 [(0, .ref b), (1, .ref (ad 0)), (2, .ref (ad' 0)), (3, .int i)]) (kk : ∀ (ad1 ad2 : Nat → Nat) (S1 S2 : MS) (H1 : Heap) (locs1 : List Loc), ad1 0 = ad 0 → ad2 0 = ad' 0 → LB g g' ad1 ad2 A s S1 S2 H1 locs1 → CJ S1 → GI (k + 1) S2 → qI S1 44 7 = qI S2 0 88 → W p l e room_1 s m #[Value.ref b] below meth c H1 locs1 (qn S1 + qn S2) (qu S1 + qu S2) (lw_Z below #[Value.ref b] s) (F0 m 1008 ls [])) : W p l e room_1 s m #[Value.ref b] below meth c H locs (qn S + qn S') (qu S + qu S') (lw_Z below #[Value.ref b] s) (F0 m 916 ls []) := by
  obtain ⟨hx, hb, hr, hml, hown, hts1, hX, hbl, hlocks, hgv⟩ := id C0
  have hts : ∀ w ∈ LWt, w.before #[Value.ref b] s = true := LWt_ok hts1
  have hown : s.vm.findClass RL = some m.cls := hown
  have hA : ∀ q : Nat, s.heap.size ≤ q → A q := fun q h => by rw [hAd]; exact h
  have hbA : ¬ A b := by rw [hAd]; exact Nat.not_le.mpr hbl
  have hk5 : k ≤ 512 := by have := hi.2.1; have := hi.2.2; omega
  refine lv_aload_n hx hb dL_law_916 rfl (lv_at hl 1 rfl) ?_
  refine lv_aload_n hx hb dL_law_917 rfl (lv_at hl 0 rfl) ?_
  refine lv_iload_n hx hb dL_law_918 rfl (lv_at hl 3 rfl) ?_
  refine lv_iconst (v := 1) hx hb dL_law_919 (by decide) ?_
  refine lv_iadd hx hb dL_law_920 ?_
  refine va_sld hx hb hX hbl hbA hJ.1.sS (hi.in 1 (by decide)) dL_law_921 ?_
  refine lv_topi (fun a1 ea1 => ?_)
  refine lv_aload_n hx hb dL_law_922 rfl (lv_at hl 0 rfl) ?_
  refine lv_iload_n hx hb dL_law_923 rfl (lv_at hl 3 rfl) ?_
  refine lv_iconst (v := 2) hx hb dL_law_924 (by decide) ?_
  refine lv_iadd hx hb dL_law_925 ?_
  refine va_sld hx hb hX hbl hbA hJ.1.sS (hi.in 2 (by decide)) dL_law_926 ?_
  refine lv_topi (fun a2 ea2 => ?_)
  obtain ⟨Q9, h9, k9⟩ := cj_improve (x1 := a1) (x2 := a2) hJ.1.w hC
  refine W_led2 (fun hL0 => ?_)
  have hFc := cfree hJ.1 hA
  refine va_calli (va_runV (As := [.int a1, .int a2]) (rest := []) ⟨hx, hb, hml, hown, hts⟩ (rX12_improve l g ad H S a1 a2 hJ.1.w Q9 h9) (cwV 2 hts (gd_LC lk_211 lk_213 lk_214 lk_4 lk_212) rfl rfl rfl (by decide +kernel) ⟨Nat.le_of_ble_eq_true rfl, Nat.le_of_ble_eq_true rfl⟩) ⟨cblindH, va_recv hJ.1.K hJ.1.P (ci := 11) (q0 := 0) rfl (hJ.1.at51 hJ.1.w.1), fun U hU hW9 => cmkH hU hW9 hJ.1 hex hJ.2.2.2.2.1 hFc⟩ rfl rfl hl.1 rfl (lv_room (Nat.le_of_ble_eq_true rfl)) dL_law_927 hJ.cc) hJ.1.sS (fun q _ h => hFc q h) hFc (fun r19 T1 t9 H1 locs1 ht9 hvm9 hw9 hB9 hz9 hk9 hS9 => ?_)
  rcases T1 with ⟨T1, ad1⟩
  obtain ⟨hB9, dc9, ds9, hL9, hl9⟩ := hB9
  dsimp only at hw9 hB9 hl9
  rw [ht9] at hL9
  obtain ⟨hq9, hw9, hs9, hk8⟩ := hw9
  have eAc : ad1 0 = ad 0 := hk8 _ (hJ.1.w.hd hJ.1.w.1 (by decide) (by decide))
  refine W_tight2 (cells' := qn T1 + qn S') (slots' := qu T1 + qu S') (jn_cc1 hl9 (hL0.tr hL9).1) (jn_cc2 hl9 (hL0.tr hL9).2.1) ?_
  have hJ := hJ.cH ht9 hB9 hw9 hl9 hk8 hS9 hFc hk9
  obtain ⟨hC, e7c⟩ := k9 r19 T1 hq9
  have hC := hC hJ.1.w
  refine lv_pop hx hb dL_law_930 rfl ?_
  refine lv_aload_n hx hb dL_law_931 rfl (lv_at hl 2 rfl) ?_
  refine lv_aload_n hx hb dL_law_932 rfl (lv_at hl 0 rfl) ?_
  refine lv_iload_n hx hb dL_law_933 rfl (lv_at hl 3 rfl) ?_
  refine lv_iconst (v := 1) hx hb dL_law_934 (by decide) ?_
  refine lv_iadd hx hb dL_law_935 ?_
  refine va_sld hx hb hX hbl hbA hJ.1.sS (hi.in 1 (by decide)) dL_law_936 ?_
  refine lv_topi (fun a3 ea3 => ?_)
  refine lv_aload_n hx hb dL_law_937 rfl (lv_at hl 0 rfl) ?_
  refine lv_iload_n hx hb dL_law_938 rfl (lv_at hl 3 rfl) ?_
  refine lv_iconst (v := 2) hx hb dL_law_939 (by decide) ?_
  refine lv_iadd hx hb dL_law_940 ?_
  refine va_sld hx hb hX hbl hbA hJ.1.sS (hi.in 2 (by decide)) dL_law_941 ?_
  refine lv_topi (fun a4 ea4 => ?_)
  obtain ⟨Q9, h9, k9⟩ := (show ∃ Q, w_improve S' a3 a4 Q ∧ ∀ (r : Int32) (u : MS), Q r u → GS k S' u from g_improve hG hk5)
  refine W_led2 (fun hL0 => ?_)
  have hFc := rfree hJ.2.1 hA
  refine va_calli (va_runV (As := [.int a3, .int a4]) (rest := []) ⟨hx, hb, hml, hown, hts⟩ (r_improve l g' ad' H1 S' a3 a4 hJ.2.1.w Q9 h9) (cwV 2 hts (gd_LR lk_215 lk_217 lk_218 lk_9 lk_216) rfl rfl rfl (by decide +kernel) ⟨Nat.le_of_ble_eq_true rfl, Nat.le_of_ble_eq_true rfl⟩) ⟨rblindH, va_recv hJ.2.1.K hJ.2.1.P (ci := 13) (q0 := 0) rfl (hJ.2.1.at14 hJ.2.1.w.1), fun U hU hW9 => rmkH hU hW9 hJ.2.1 hex hJ.2.2.2.2.2 hFc⟩ rfl rfl hl.1 rfl (lv_room (Nat.le_of_ble_eq_true rfl)) dL_law_942 hJ.rc) hJ.2.1.sS (fun q _ h => hFc q h) hFc (fun r29 T2 t9 H2 locs2 ht9 hvm9 hw9 hB9 hz9 hk9 hS9 => ?_)
  rcases T2 with ⟨T2, ad2⟩
  obtain ⟨hB9, dc9, ds9, hL9, hl9⟩ := hB9
  dsimp only at hw9 hB9 hl9
  rw [ht9] at hL9
  obtain ⟨hq9, hw9, hs9, hk8⟩ := hw9
  have eAr : ad2 0 = ad' 0 := hk8 _ (hJ.2.1.w.hd hJ.2.1.w.1 (by decide) (by decide))
  refine W_tight2 (cells' := qn T1 + qn T2) (slots' := qu T1 + qu T2) (jn_rc1 hl9 (hL0.tr hL9).1) (jn_rc2 hl9 (hL0.tr hL9).2.1) ?_
  have hJ := hJ.rH ht9 hB9 hw9 hl9 hk8 hS9 hFc hk9
  obtain ⟨hG, e7r⟩ := k9 r29 T2 hq9
  refine lv_pop hx hb dL_law_945 rfl ?_
  refine lv_goto (tgt := 1008) hx hb dL_law_946 (by decide) ?_
  have e7 := e7c.trans (ha.trans e7r.symm)
  exact kk _ _ _ _ _ _ eAc eAr hJ hC hG e7
set_option maxHeartbeats 4000000 in
set_option maxRecDepth 100000 in
theorem law_c27 {p : Program} {l : Launch} {e : Env} {s : State} {m : MethodId} {below : List Frame} {meth : Method} {c : Code} {b L : Nat} {xs : Nat → Int32} {A : Nat → Prop} (hAd : A = fun q : Nat => s.heap.size ≤ q) (C0 : lw_At p s m meth c b L xs) (hex : ex s) {g g' : Gr} {ad ad' : Nat → Nat} {S S' : MS} {H : Heap} {locs : List Loc} {k : Nat} {i : Int32} (hi : LX i k L) (hJ : LB g g' ad ad' A s S S' H locs) (hC : CJ S) (hG : GI k S') (ha : qI S 44 7 = qI S' 0 88) {ls : Array Slot} (hl : lv_has ls 4 [(0, .ref b), (1, .ref (ad 0)), (2, .ref (ad' 0)), (3, .int i)]) (kk : ∀ (ad1 ad2 : Nat → Nat) (S1 S2 : MS) (H1 : Heap) (locs1 : List Loc), ad1 0 = ad 0 → ad2 0 = ad' 0 → LB g g' ad1 ad2 A s S1 S2 H1 locs1 → CJ S1 → GI (k + 1) S2 → qI S1 44 7 = qI S2 0 88 → W p l e room_1 s m #[Value.ref b] below meth c H1 locs1 (qn S1 + qn S2) (qu S1 + qu S2) (lw_Z below #[Value.ref b] s) (F0 m 1008 ls [])) : W p l e room_1 s m #[Value.ref b] below meth c H locs (qn S + qn S') (qu S + qu S') (lw_Z below #[Value.ref b] s) (F0 m 949 ls []) := by
  obtain ⟨hx, hb, hr, hml, hown, hts1, hX, hbl, hlocks, hgv⟩ := id C0
  have hts : ∀ w ∈ LWt, w.before #[Value.ref b] s = true := LWt_ok hts1
  have hown : s.vm.findClass RL = some m.cls := hown
  have hA : ∀ q : Nat, s.heap.size ≤ q → A q := fun q h => by rw [hAd]; exact h
  have hbA : ¬ A b := by rw [hAd]; exact Nat.not_le.mpr hbl
  have hk5 : k ≤ 512 := by have := hi.2.1; have := hi.2.2; omega
  refine lv_aload_n hx hb dL_law_949 rfl (lv_at hl 1 rfl) ?_
  refine lv_aload_n hx hb dL_law_950 rfl (lv_at hl 0 rfl) ?_
  refine lv_iload_n hx hb dL_law_951 rfl (lv_at hl 3 rfl) ?_
  refine lv_iconst (v := 1) hx hb dL_law_952 (by decide) ?_
  refine lv_iadd hx hb dL_law_953 ?_
  refine va_sld hx hb hX hbl hbA hJ.1.sS (hi.in 1 (by decide)) dL_law_954 ?_
  refine lv_topi (fun a1 ea1 => ?_)
  have hFc := cfree hJ.1 hA
  refine va_calli (va_runV (As := [.int a1]) (rest := []) ⟨hx, hb, hml, hown, hts⟩ (rX12_applied l g ad H.size S a1 hJ.1.w ci_applied) (cwV 1 hts (gd_LC lk_219 lk_221 lk_222 lk_4 lk_220) rfl rfl rfl (by decide +kernel) ⟨Nat.le_of_ble_eq_true rfl, Nat.le_of_ble_eq_true rfl⟩) ⟨cblind, va_recv hJ.1.K hJ.1.P (ci := 11) (q0 := 0) rfl (hJ.1.at51 hJ.1.w.1), fun U hU hW9 => cmk hU hW9 hJ.1 hex hJ.2.2.2.2.1 hFc⟩ rfl rfl hl.1 rfl (lv_room (Nat.le_of_ble_eq_true rfl)) dL_law_955 hJ.c0) hJ.1.sS (fun q _ h => hFc q h) hFc (fun r19 T1 t9 H1 locs1 ht9 hvm9 hw9 hB9 hz9 hk9 hS9 => ?_)
  have hJ := hJ.cN ht9 hB9 hJ.1.w shy.rf hS9 hFc hk9
  have e7c : qI S 44 7 = qI S 44 7 := rfl
  refine lv_pop hx hb dL_law_958 rfl ?_
  refine lv_aload_n hx hb dL_law_959 rfl (lv_at hl 2 rfl) ?_
  refine lv_aload_n hx hb dL_law_960 rfl (lv_at hl 0 rfl) ?_
  refine lv_iload_n hx hb dL_law_961 rfl (lv_at hl 3 rfl) ?_
  refine lv_iconst (v := 1) hx hb dL_law_962 (by decide) ?_
  refine lv_iadd hx hb dL_law_963 ?_
  refine va_sld hx hb hX hbl hbA hJ.1.sS (hi.in 1 (by decide)) dL_law_964 ?_
  refine lv_topi (fun a2 ea2 => ?_)
  have hFc := rfree hJ.2.1 hA
  refine va_calli (va_runV (As := [.int a2]) (rest := []) ⟨hx, hb, hml, hown, hts⟩ (r_applied l g' ad' H1.size S' a2 hJ.2.1.w d_ap) (cwV 1 hts (gd_LR lk_223 lk_225 lk_226 lk_9 lk_224) rfl rfl rfl (by decide +kernel) ⟨Nat.le_of_ble_eq_true rfl, Nat.le_of_ble_eq_true rfl⟩) ⟨rblind, va_recv hJ.2.1.K hJ.2.1.P (ci := 13) (q0 := 0) rfl (hJ.2.1.at14 hJ.2.1.w.1), fun U hU hW9 => rmk hU hW9 hJ.2.1 hex hJ.2.2.2.2.2 hFc⟩ rfl rfl hl.1 rfl (lv_room (Nat.le_of_ble_eq_true rfl)) dL_law_965 hJ.c0) hJ.2.1.sS (fun q _ h => hFc q h) hFc (fun r29 T2 t9 H2 locs2 ht9 hvm9 hw9 hB9 hz9 hk9 hS9 => ?_)
  have hJ := hJ.rN ht9 hB9 hJ.2.1.w shy.rf hS9 hFc hk9
  have hG : GI (k + 1) S' := hG.gs.1
  have e7r : qI S' 0 88 = qI S' 0 88 := rfl
  refine lv_pop hx hb dL_law_968 rfl ?_
  refine lv_goto (tgt := 1008) hx hb dL_law_969 (by decide) ?_
  have e7 := e7c.trans (ha.trans e7r.symm)
  exact kk _ _ _ _ _ _ rfl rfl hJ hC hG e7
set_option maxHeartbeats 4000000 in
set_option maxRecDepth 100000 in
theorem law_c28 {p : Program} {l : Launch} {e : Env} {s : State} {m : MethodId} {below : List Frame} {meth : Method} {c : Code} {b L : Nat} {xs : Nat → Int32} {A : Nat → Prop} (hAd : A = fun q : Nat => s.heap.size ≤ q) (C0 : lw_At p s m meth c b L xs) (hex : ex s) {g g' : Gr} {ad ad' : Nat → Nat} {S S' : MS} {H : Heap} {locs : List Loc} {k : Nat} {i : Int32} (hi : LX i k L) (hJ : LB g g' ad ad' A s S S' H locs) (hC : CJ S) (hG : GI k S') (ha : qI S 44 7 = qI S' 0 88) {ls : Array Slot} (hl : lv_has ls 4 [(0, .ref b), (1, .ref (ad 0)), (2, .ref (ad' 0)), (3, .int i)]) (kk : ∀ (ad1 ad2 : Nat → Nat) (S1 S2 : MS) (H1 : Heap) (locs1 : List Loc), ad1 0 = ad 0 → ad2 0 = ad' 0 → LB g g' ad1 ad2 A s S1 S2 H1 locs1 → CJ S1 → GI (k + 1) S2 → qI S1 44 7 = qI S2 0 88 → W p l e room_1 s m #[Value.ref b] below meth c H1 locs1 (qn S1 + qn S2) (qu S1 + qu S2) (lw_Z below #[Value.ref b] s) (F0 m 1008 ls [])) : W p l e room_1 s m #[Value.ref b] below meth c H locs (qn S + qn S') (qu S + qu S') (lw_Z below #[Value.ref b] s) (F0 m 972 ls []) := by
  obtain ⟨hx, hb, hr, hml, hown, hts1, hX, hbl, hlocks, hgv⟩ := id C0
  have hts : ∀ w ∈ LWt, w.before #[Value.ref b] s = true := LWt_ok hts1
  have hown : s.vm.findClass RL = some m.cls := hown
  have hA : ∀ q : Nat, s.heap.size ≤ q → A q := fun q h => by rw [hAd]; exact h
  have hbA : ¬ A b := by rw [hAd]; exact Nat.not_le.mpr hbl
  have hk5 : k ≤ 512 := by have := hi.2.1; have := hi.2.2; omega
  refine lv_aload_n hx hb dL_law_972 rfl (lv_at hl 1 rfl) ?_
  refine lv_aload_n hx hb dL_law_973 rfl (lv_at hl 0 rfl) ?_
  refine lv_iload_n hx hb dL_law_974 rfl (lv_at hl 3 rfl) ?_
  refine lv_iconst (v := 1) hx hb dL_law_975 (by decide) ?_
  refine lv_iadd hx hb dL_law_976 ?_
  refine va_sld hx hb hX hbl hbA hJ.1.sS (hi.in 1 (by decide)) dL_law_977 ?_
  refine lv_topi (fun a1 ea1 => ?_)
  obtain ⟨Q9, h9, k9⟩ := cj_count (x1 := a1) hJ.1.w hC
  refine W_led2 (fun hL0 => ?_)
  have hFc := cfree hJ.1 hA
  refine va_calli (va_runV (As := [.int a1]) (rest := []) ⟨hx, hb, hml, hown, hts⟩ (rX12_count l g ad H S a1 hJ.1.w Q9 h9) (cwV 1 hts (gd_LC lk_227 lk_229 lk_230 lk_4 lk_228) rfl rfl rfl (by decide +kernel) ⟨Nat.le_of_ble_eq_true rfl, Nat.le_of_ble_eq_true rfl⟩) ⟨cblindH, va_recv hJ.1.K hJ.1.P (ci := 11) (q0 := 0) rfl (hJ.1.at51 hJ.1.w.1), fun U hU hW9 => cmkH hU hW9 hJ.1 hex hJ.2.2.2.2.1 hFc⟩ rfl rfl hl.1 rfl (lv_room (Nat.le_of_ble_eq_true rfl)) dL_law_978 hJ.cc) hJ.1.sS (fun q _ h => hFc q h) hFc (fun r19 T1 t9 H1 locs1 ht9 hvm9 hw9 hB9 hz9 hk9 hS9 => ?_)
  rcases T1 with ⟨T1, ad1⟩
  obtain ⟨hB9, dc9, ds9, hL9, hl9⟩ := hB9
  dsimp only at hw9 hB9 hl9
  rw [ht9] at hL9
  obtain ⟨hq9, hw9, hs9, hk8⟩ := hw9
  have eAc : ad1 0 = ad 0 := hk8 _ (hJ.1.w.hd hJ.1.w.1 (by decide) (by decide))
  refine W_tight2 (cells' := qn T1 + qn S') (slots' := qu T1 + qu S') (jn_cc1 hl9 (hL0.tr hL9).1) (jn_cc2 hl9 (hL0.tr hL9).2.1) ?_
  have hJ := hJ.cH ht9 hB9 hw9 hl9 hk8 hS9 hFc hk9
  obtain ⟨hC, e7c⟩ := k9 r19 T1 hq9
  have hC := hC hJ.1.w
  refine lv_pop hx hb dL_law_981 rfl ?_
  refine lv_aload_n hx hb dL_law_982 rfl (lv_at hl 2 rfl) ?_
  refine lv_aload_n hx hb dL_law_983 rfl (lv_at hl 0 rfl) ?_
  refine lv_iload_n hx hb dL_law_984 rfl (lv_at hl 3 rfl) ?_
  refine lv_iconst (v := 1) hx hb dL_law_985 (by decide) ?_
  refine lv_iadd hx hb dL_law_986 ?_
  refine va_sld hx hb hX hbl hbA hJ.1.sS (hi.in 1 (by decide)) dL_law_987 ?_
  refine lv_topi (fun a2 ea2 => ?_)
  obtain ⟨Q9, h9, k9⟩ := (show ∃ Q, w_count S' a2 Q ∧ ∀ (r : Int32) (u : MS), Q r u → GS k S' u from g_count hG hk5)
  refine W_led2 (fun hL0 => ?_)
  have hFc := rfree hJ.2.1 hA
  refine va_calli (va_runV (As := [.int a2]) (rest := []) ⟨hx, hb, hml, hown, hts⟩ (r_count l g' ad' H1 S' a2 hJ.2.1.w Q9 h9) (cwV 1 hts (gd_LR lk_231 lk_233 lk_234 lk_9 lk_232) rfl rfl rfl (by decide +kernel) ⟨Nat.le_of_ble_eq_true rfl, Nat.le_of_ble_eq_true rfl⟩) ⟨rblindH, va_recv hJ.2.1.K hJ.2.1.P (ci := 13) (q0 := 0) rfl (hJ.2.1.at14 hJ.2.1.w.1), fun U hU hW9 => rmkH hU hW9 hJ.2.1 hex hJ.2.2.2.2.2 hFc⟩ rfl rfl hl.1 rfl (lv_room (Nat.le_of_ble_eq_true rfl)) dL_law_988 hJ.rc) hJ.2.1.sS (fun q _ h => hFc q h) hFc (fun r29 T2 t9 H2 locs2 ht9 hvm9 hw9 hB9 hz9 hk9 hS9 => ?_)
  rcases T2 with ⟨T2, ad2⟩
  obtain ⟨hB9, dc9, ds9, hL9, hl9⟩ := hB9
  dsimp only at hw9 hB9 hl9
  rw [ht9] at hL9
  obtain ⟨hq9, hw9, hs9, hk8⟩ := hw9
  have eAr : ad2 0 = ad' 0 := hk8 _ (hJ.2.1.w.hd hJ.2.1.w.1 (by decide) (by decide))
  refine W_tight2 (cells' := qn T1 + qn T2) (slots' := qu T1 + qu T2) (jn_rc1 hl9 (hL0.tr hL9).1) (jn_rc2 hl9 (hL0.tr hL9).2.1) ?_
  have hJ := hJ.rH ht9 hB9 hw9 hl9 hk8 hS9 hFc hk9
  obtain ⟨hG, e7r⟩ := k9 r29 T2 hq9
  refine lv_pop hx hb dL_law_991 rfl ?_
  refine lv_goto (tgt := 1008) hx hb dL_law_992 (by decide) ?_
  have e7 := e7c.trans (ha.trans e7r.symm)
  exact kk _ _ _ _ _ _ eAc eAr hJ hC hG e7
set_option maxHeartbeats 4000000 in
set_option maxRecDepth 100000 in
theorem law_c29 {p : Program} {l : Launch} {e : Env} {s : State} {m : MethodId} {below : List Frame} {meth : Method} {c : Code} {b L : Nat} {xs : Nat → Int32} {A : Nat → Prop} (hAd : A = fun q : Nat => s.heap.size ≤ q) (C0 : lw_At p s m meth c b L xs) (hex : ex s) {g g' : Gr} {ad ad' : Nat → Nat} {S S' : MS} {H : Heap} {locs : List Loc} {k : Nat} {i : Int32} (hi : LX i k L) (hJ : LB g g' ad ad' A s S S' H locs) (hC : CJ S) (hG : GI k S') (ha : qI S 44 7 = qI S' 0 88) {ls : Array Slot} (hl : lv_has ls 4 [(0, .ref b), (1, .ref (ad 0)), (2, .ref (ad' 0)), (3, .int i)]) (kk : ∀ (ad1 ad2 : Nat → Nat) (S1 S2 : MS) (H1 : Heap) (locs1 : List Loc), ad1 0 = ad 0 → ad2 0 = ad' 0 → LB g g' ad1 ad2 A s S1 S2 H1 locs1 → CJ S1 → GI (k + 1) S2 → qI S1 44 7 = qI S2 0 88 → W p l e room_1 s m #[Value.ref b] below meth c H1 locs1 (qn S1 + qn S2) (qu S1 + qu S2) (lw_Z below #[Value.ref b] s) (F0 m 1008 ls [])) : W p l e room_1 s m #[Value.ref b] below meth c H locs (qn S + qn S') (qu S + qu S') (lw_Z below #[Value.ref b] s) (F0 m 995 ls []) := by
  obtain ⟨hx, hb, hr, hml, hown, hts1, hX, hbl, hlocks, hgv⟩ := id C0
  have hts : ∀ w ∈ LWt, w.before #[Value.ref b] s = true := LWt_ok hts1
  have hown : s.vm.findClass RL = some m.cls := hown
  have hA : ∀ q : Nat, s.heap.size ≤ q → A q := fun q h => by rw [hAd]; exact h
  have hbA : ¬ A b := by rw [hAd]; exact Nat.not_le.mpr hbl
  have hk5 : k ≤ 512 := by have := hi.2.1; have := hi.2.2; omega
  refine lv_aload_n hx hb dL_law_995 rfl (lv_at hl 1 rfl) ?_
  have hFc := cfree hJ.1 hA
  refine va_calli (va_runV (As := []) (rest := []) ⟨hx, hb, hml, hown, hts⟩ (rX12_strays l g ad H.size S hJ.1.w trivial) (cwV 0 hts (gd_LC lk_235 lk_237 lk_238 lk_4 lk_236) rfl rfl rfl (by decide +kernel) ⟨Nat.le_of_ble_eq_true rfl, Nat.le_of_ble_eq_true rfl⟩) ⟨cblind, va_recv hJ.1.K hJ.1.P (ci := 11) (q0 := 0) rfl (hJ.1.at51 hJ.1.w.1), fun U hU hW9 => cmk hU hW9 hJ.1 hex hJ.2.2.2.2.1 hFc⟩ rfl rfl hl.1 rfl (lv_room (Nat.le_of_ble_eq_true rfl)) dL_law_996 hJ.c0) hJ.1.sS (fun q _ h => hFc q h) hFc (fun r19 T1 t9 H1 locs1 ht9 hvm9 hw9 hB9 hz9 hk9 hS9 => ?_)
  have er1 := hw9
  have hJ := hJ.cN ht9 hB9 hJ.1.w shy.rf hS9 hFc hk9
  have e7c : qI S 44 7 = qI S 44 7 := rfl
  refine lv_aload_n hx hb dL_law_999 rfl (lv_at hl 2 rfl) ?_
  have hFc := rfree hJ.2.1 hA
  refine va_calli (va_runV (As := []) (rest := [.int r19]) ⟨hx, hb, hml, hown, hts⟩ (r_strays l g' ad' H1.size S' hJ.2.1.w trivial) (cwV 0 hts (gd_LR lk_239 lk_241 lk_242 lk_9 lk_240) rfl rfl rfl (by decide +kernel) ⟨Nat.le_of_ble_eq_true rfl, Nat.le_of_ble_eq_true rfl⟩) ⟨rblind, va_recv hJ.2.1.K hJ.2.1.P (ci := 13) (q0 := 0) rfl (hJ.2.1.at14 hJ.2.1.w.1), fun U hU hW9 => rmk hU hW9 hJ.2.1 hex hJ.2.2.2.2.2 hFc⟩ rfl rfl hl.1 rfl (lv_room (Nat.le_of_ble_eq_true rfl)) dL_law_1000 hJ.c0) hJ.2.1.sS (fun q _ h => hFc q h) hFc (fun r29 T2 t9 H2 locs2 ht9 hvm9 hw9 hB9 hz9 hk9 hS9 => ?_)
  have er2 := hw9
  have hJ := hJ.rN ht9 hB9 hJ.2.1.w shy.rf hS9 hFc hk9
  have hG : GI (k + 1) S' := hG.gs.1
  have e7r : qI S' 0 88 = qI S' 0 88 := rfl
  have e7 := e7c.trans (ha.trans e7r.symm)
  have er := st_both er1 er2 hC hG
  refine lv_icmp_eq (tgt := 1008) hx hb dL_law_1003 (by decide) (fun _ => ?_) (fun c9 => absurd er c9)
  exact kk _ _ _ _ _ _ rfl rfl hJ hC hG e7
