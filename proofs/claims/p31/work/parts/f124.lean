def wX5_leave (S : MS) (x1 : Int32) (Q : MS → Prop) : Prop := (d_X6_takes S x1 ∧ (∀ a4 : Int32, a4 = (fX6_takes S x1) → (∃ Q5, wX5_pop_ S a4 Q5 ∧ ∀ r6 S7, Q5 r6 S7 → wfC S7 → shy S S7 → (((qI S7 44 11).toInt = 0 → (∀ S18, S18 = wI S7 44 15 (0 : Int32) → qT S7 44 = 45 → wfC S18 → (∀ S19, S19 = wJ S18 44 16 r6 → qT S18 44 = 45 → wfC S19 → Q S19))) ∧ (¬ (qI S7 44 11).toInt = 0 → (∃ Q10, wX5_closeFrame S7 Q10 ∧ ∀ S11, Q10 S11 → wfC S11 → shy S7 S11 → (∃ Q13, wX5_push_ S11 a4 r6 Q13 ∧ ∀ S14, Q13 S14 → wfC S14 → shy S11 S14 → (∀ S17, S17 = wI S14 44 13 ((qI S14 44 13) + (1 : Int32)) → qT S14 44 = 45 → wfC S17 → Q S17))))))))
set_option maxHeartbeats 2000000 in
set_option maxRecDepth 100000 in
theorem rX5_leave (l : Launch) (g : Gr) (ad : Nat → Nat) (sz : Nat) (S : MS) (x1 : Int32) (hw : wfC S) (Q : MS → Prop) (h : wX5_leave S x1 Q) : Met l yX5_leave (wt yX5_leave cX5_leave 5 none) ({ frames := 2, cells := 0, slots := 0, locals := 46 }) (va_Pc [.ref (ad 44), .int x1] (st_C g ad sz S)) (va_Qv (fun (u : MS) => Q u ∧ wfC u ∧ shy S u) (fun (u : MS) (t : State) => qEC g ad (va_A (WdC g ad S) sz) u t) (va_A (WdC g ad S) sz)) 0 0 (va_A (WdC g ad S) sz) := by
  refine Met.ofW (cc := cX5_leave) (maxL := 5) (ret := none) (by decide) rfl ?_
  intro p e s m args below meth c s₁ B hml hv
  obtain ⟨rfl, hsz, hP, hK, hD0, hex, hE⟩ := hv
  have hx := B.exec
  have hb := B.bytes
  have hr := B.returns
  have hts0 := atoms_spec (ws := wt yX5_leave cX5_leave 5 none) B.pre
  have hts : ∀ w ∈ tb, w.before _ s = true := fun w h => hts0 w (List.mem_cons_of_mem _ h)
  have hown : s.vm.findClass RX5 = some m.cls := findClass_of_methodNamed B.named
  subst hsz
  have hD := hD0.self (sz := s.heap.size)
  generalize hAe : va_A (WdC g ad S) s.heap.size = A at hD hE ⊢
  have hA : ∀ q : Nat, s.heap.size ≤ q → A q := fun q h => by rw [← hAe]; exact Or.inr h
  have hR : RepC g ad A s S s.heap [] := ⟨hK, hP, hD, va_S.rf, hw⟩
  clear hK hP hD hD0
  have hl := lv_entry ([.ref (ad 44), .int x1]) (n := 5) (Nat.le_of_ble_eq_true rfl)
  rw [lg_entry_eq]
  generalize (lg_sl ([.ref (ad 44), .int x1]) ++ List.replicate (5 - (lg_sl ([.ref (ad 44), .int x1])).length) Slot.unset).toArray = ls at hl ⊢
  have hl : lv_has ls 5 [(0, .ref (ad 44)), (1, .int x1)] := hl
  have hsh : shy S S := shy.rf
  unfold wX5_leave at h
  refine lv_iload_n hx hb dX5_leave_0 rfl (lv_at hl 1 rfl) ?_
  obtain ⟨hv1, h⟩ := h
  have hFc := cfree hR hA
  refine va_calli (va_runS (As := [.int x1]) (rest := []) ⟨hx, hb, hml, hown, hts⟩ (rX6_takes l g ad s.heap.size S x1 hR.w  hv1) (va_cwS 1 hts (gd_S kw_1014 kw_1255 kw_1207 kw_1254) rfl rfl rfl (by decide +kernel) ⟨Nat.le_of_ble_eq_true rfl, Nat.le_of_ble_eq_true rfl⟩) ⟨cblind, fun U hU hW9 => cmk hU hW9 hR hex hE hFc⟩ rfl rfl hl.1 rfl (lv_room (Nat.le_of_ble_eq_true rfl)) dX5_leave_1 ⟨Nat.le_of_ble_eq_true rfl, Nat.le_of_ble_eq_true rfl⟩) hR.sS (fun q _ h => hFc q h) hFc (fun r2 u9 t9 H1 locs ht9 hvm9 hw9 hB9 hz9 hk9 hS => ?_)
  have hR : RepC g ad A s S H1 locs := hR.call ht9 hB9 hR.w hS hFc
  obtain rfl : r2 = (fX6_takes S x1) := hw9
  clear hB9 hz9 hk9 hvm9 ht9 hS
  generalize H1 = H at hR ⊢
  obtain ⟨a4, ea4⟩ : ∃ z, z = (fX6_takes S x1) := ⟨_, rfl⟩
  rw [← ea4]
  replace h := h a4 ea4
  refine lv_istore_n (lv' := [(2, .int a4), (0, .ref (ad 44)), (1, .int x1)]) hx hb dX5_leave_4 rfl hl (by decide) rfl (fun ls hl => ?_)
  refine lv_aload_n hx hb dX5_leave_5 rfl (lv_at hl 1 rfl) ?_
  refine lv_iload_n hx hb dX5_leave_6 rfl (lv_at hl 0 rfl) ?_
  obtain ⟨Q5, h0, h⟩ := h
  have hFc := cfree hR hA
  refine va_calll (va_runV (As := [.int a4]) (rest := []) ⟨hx, hb, hml, hown, hts⟩ (rX5_pop_ l g ad H.size S a4 hR.w  Q5 h0) (cwV 1 hts (gd_V kw_1015 kw_1127 kw_1128 kw_398 kw_1126) rfl rfl rfl (by decide +kernel) ⟨Nat.le_of_ble_eq_true rfl, Nat.le_of_ble_eq_true rfl⟩) ⟨cblind, va_recv hR.K hR.P (ci := 5) (q0 := 44) rfl (hR.at45 (hR.w.2.1 _ finC_29).2.1), fun U hU hW9 => cmk hU hW9 hR hex hE hFc⟩ rfl rfl hl.1 rfl (lv_room (Nat.le_of_ble_eq_true rfl)) dX5_leave_7 ⟨Nat.le_of_ble_eq_true rfl, Nat.le_of_ble_eq_true rfl⟩) hR.sS (fun q _ h => hFc q h) hFc (fun r6 S7 t9 H1 locs ht9 hvm9 hw9 hB9 hz9 hk9 hS => ?_)
  obtain ⟨hq8, hw9, hs9⟩ := hw9
  have hR : RepC g ad A s S7 H1 locs := hR.call ht9 hB9 hw9 hS hFc
  have hsh := hsh.tr hs9
  replace h := h r6 S7 hq8 hw9 hs9
  clear hB9 hz9 hk9 hvm9 ht9 hw9 hs9 hS
  generalize H1 = H at hR ⊢
  refine lv_lstore_n (lv' := [(3, .long r6), (2, .int a4), (0, .ref (ad 44)), (1, .int x1)]) hx hb dX5_leave_10 rfl hl (by decide) rfl (fun ls hl => ?_)
  refine lv_aload_n hx hb dX5_leave_11 rfl (lv_at hl 2 rfl) ?_
  refine va_get (D := rD g) (ci := 5) (v := .int (qI S7 44 11)) (C := RX5) (T := TX5) (N := 20) hx hb hts inX5 hown hR.K hR.P 44 (hR.at45 (hR.w.2.1 _ finC_29).2.1) rfl 11 (by decide) (hts _ kw_1025) (fun _ h9 => h9) rfl dX5_leave_12 ?_
  refine lv_if_ne (tgt := 29) hx hb dX5_leave_15 (by decide) (fun c9 => ?_) (fun c9 => ?_)
  · replace h := h.2 (k_ne rfl (by decide) c9)
    refine lv_aload_n hx hb dX5_leave_29 rfl (lv_at hl 2 rfl) ?_
    obtain ⟨Q10, h0, h⟩ := h
    have hFc := cfree hR hA
    refine va_callv (va_runV (As := []) (rest := []) ⟨hx, hb, hml, hown, hts⟩ (rX5_closeFrame l g ad H.size S7 hR.w  Q10 h0) (cwV 0 hts (gd_V kw_1086 kw_1023 kw_1024 kw_398 kw_1022) rfl rfl rfl (by decide +kernel) ⟨Nat.le_of_ble_eq_true rfl, Nat.le_of_ble_eq_true rfl⟩) ⟨cblind, va_recv hR.K hR.P (ci := 5) (q0 := 44) rfl (hR.at45 (hR.w.2.1 _ finC_29).2.1), fun U hU hW9 => cmk hU hW9 hR hex hE hFc⟩ rfl rfl hl.1 rfl (lv_room (Nat.le_of_ble_eq_true rfl)) dX5_leave_30 ⟨Nat.le_of_ble_eq_true rfl, Nat.le_of_ble_eq_true rfl⟩) hR.sS (fun q _ h => hFc q h) hFc (fun  S11 t9 H1 locs ht9 hvm9 hw9 hB9 hz9 hk9 hS => ?_)
    obtain ⟨hq12, hw9, hs9⟩ := hw9
    have hR : RepC g ad A s S11 H1 locs := hR.call ht9 hB9 hw9 hS hFc
    have hsh := hsh.tr hs9
    replace h := h  S11 hq12 hw9 hs9
    clear hB9 hz9 hk9 hvm9 ht9 hw9 hs9 hS
    generalize H1 = H at hR ⊢
    refine lv_aload_n hx hb dX5_leave_33 rfl (lv_at hl 2 rfl) ?_
    refine lv_iload_n hx hb dX5_leave_34 rfl (lv_at hl 1 rfl) ?_
    refine lv_lload_n hx hb dX5_leave_35 rfl (lv_at hl 0 rfl) ?_
    obtain ⟨Q13, h0, h⟩ := h
    have hFc := cfree hR hA
    refine va_callv (va_runV (As := [.int a4, .long r6]) (rest := []) ⟨hx, hb, hml, hown, hts⟩ (rX5_push_ l g ad H.size S11 a4 r6 hR.w  Q13 h0) (cwV 2 hts (gd_V kw_1020 kw_1133 kw_1134 kw_398 kw_1132) rfl rfl rfl (by decide +kernel) ⟨Nat.le_of_ble_eq_true rfl, Nat.le_of_ble_eq_true rfl⟩) ⟨cblind, va_recv hR.K hR.P (ci := 5) (q0 := 44) rfl (hR.at45 (hR.w.2.1 _ finC_29).2.1), fun U hU hW9 => cmk hU hW9 hR hex hE hFc⟩ rfl rfl hl.1 rfl (lv_room (Nat.le_of_ble_eq_true rfl)) dX5_leave_36 ⟨Nat.le_of_ble_eq_true rfl, Nat.le_of_ble_eq_true rfl⟩) hR.sS (fun q _ h => hFc q h) hFc (fun  S14 t9 H1 locs ht9 hvm9 hw9 hB9 hz9 hk9 hS => ?_)
    obtain ⟨hq15, hw9, hs9⟩ := hw9
    have hR : RepC g ad A s S14 H1 locs := hR.call ht9 hB9 hw9 hS hFc
    have hsh := hsh.tr hs9
    replace h := h  S14 hq15 hw9 hs9
    clear hB9 hz9 hk9 hvm9 ht9 hw9 hs9 hS
    generalize H1 = H at hR ⊢
    refine lv_aload_n hx hb dX5_leave_39 rfl (lv_at hl 2 rfl) ?_
    refine lv_dup hx hb dX5_leave_40 rfl ?_
    refine va_get (D := rD g) (ci := 5) (v := .int (qI S14 44 13)) (C := RX5) (T := TX5) (N := 20) hx hb hts inX5 hown hR.K hR.P 44 (hR.at45 (hR.w.2.1 _ finC_29).2.1) rfl 13 (by decide) (hts _ kw_1021) (fun _ h9 => h9) rfl dX5_leave_41 ?_
    refine lv_iconst (v := 1) hx hb dX5_leave_44 (by decide) ?_
    refine lv_iadd hx hb dX5_leave_45 ?_
    refine lv_topi (fun z16 ez16 => ?_)
    obtain rfl : z16 = ((qI S14 44 13) + (1 : Int32)) := ez16
    refine va_put (D := rD g) (ci := 5) (v := .int ((qI S14 44 13) + (1 : Int32))) (ty := .int) (C := RX5) (T := TX5) (N := 20) hx hb hts inX5 tyX5 tyX5_ok nmX5 hown hR.K hR.P hR.D hR.sS 44 (hR.at45 (hR.w.2.1 _ finC_29).2.1) rfl 13 (by decide) (hts _ kw_1021) (fun _ h9 => h9) rfl (by decide +kernel) rfl rfl (Nat.le_of_ble_eq_true rfl) dX5_leave_46 (fun H locs hP hD hS => ?_)
    have hTk9 : qT S14 44 = 45 := (hR.w.2.1 _ finC_29).2.1
    have hR : RepC g ad A s (wI S14 44 13 ((qI S14 44 13) + (1 : Int32))) H locs := hR.pI45 (hR.w.2.1 _ finC_29).2.1 FX5_s13 (fun q9 => absurd q9 (by decide)) hP hD hS
    obtain ⟨S17, eS17⟩ : ∃ z, z = wI S14 44 13 ((qI S14 44 13) + (1 : Int32)) := ⟨_, rfl⟩
    rw [← eS17] at hR
    replace h := h S17 eS17 hTk9 hR.w
    have hsh : shy S S17 := by rw [eS17]; exact hsh
    exact W.vret hx hb hr (fun t9 ht9 hW9 => ⟨⟨S17, rfl, ⟨h, hR.w, hsh⟩, ⟨by rw [ht9]; exact hR.P, hR.D⟩⟩, hR.sS.F ht9⟩) hR.sS.2.2 dX5_leave_49
  · replace h := h.1 (k_eq rfl (by decide) c9)
    refine lv_aload_n hx hb dX5_leave_18 rfl (lv_at hl 2 rfl) ?_
    refine lv_iconst (v := 0) hx hb dX5_leave_19 (by decide) ?_
    refine va_put (D := rD g) (ci := 5) (v := .int 0) (ty := .int) (C := RX5) (T := TX5) (N := 20) hx hb hts inX5 tyX5 tyX5_ok nmX5 hown hR.K hR.P hR.D hR.sS 44 (hR.at45 (hR.w.2.1 _ finC_29).2.1) rfl 15 (by decide) (hts _ kw_1041) (fun _ h9 => h9) rfl (by decide +kernel) rfl rfl (Nat.le_of_ble_eq_true rfl) dX5_leave_20 (fun H locs hP hD hS => ?_)
    have hTk9 : qT S7 44 = 45 := (hR.w.2.1 _ finC_29).2.1
    have hR : RepC g ad A s (wI S7 44 15 (0 : Int32)) H locs := hR.pI45 (hR.w.2.1 _ finC_29).2.1 FX5_s15 (fun q9 => absurd q9 (by decide)) hP hD hS
    obtain ⟨S18, eS18⟩ : ∃ z, z = wI S7 44 15 (0 : Int32) := ⟨_, rfl⟩
    rw [← eS18] at hR
    replace h := h S18 eS18 hTk9 hR.w
    have hsh : shy S S18 := by rw [eS18]; exact hsh
    refine lv_aload_n hx hb dX5_leave_23 rfl (lv_at hl 2 rfl) ?_
    refine lv_lload_n hx hb dX5_leave_24 rfl (lv_at hl 0 rfl) ?_
    refine va_put (D := rD g) (ci := 5) (v := .long r6) (ty := .long) (C := RX5) (T := TX5) (N := 20) hx hb hts inX5 tyX5 tyX5_ok nmX5 hown hR.K hR.P hR.D hR.sS 44 (hR.at45 (hR.w.2.1 _ finC_29).2.1) rfl 16 (by decide) (hts _ kw_1085) (fun _ h9 => h9) rfl (by decide +kernel) rfl rfl (Nat.le_of_ble_eq_true rfl) dX5_leave_25 (fun H locs hP hD hS => ?_)
    have hTk9 : qT S18 44 = 45 := (hR.w.2.1 _ finC_29).2.1
    have hR : RepC g ad A s (wJ S18 44 16 r6) H locs := hR.pJ45 (hR.w.2.1 _ finC_29).2.1 FX5_s16 hP hD hS
    obtain ⟨S19, eS19⟩ : ∃ z, z = wJ S18 44 16 r6 := ⟨_, rfl⟩
    rw [← eS19] at hR
    replace h := h S19 eS19 hTk9 hR.w
    have hsh : shy S S19 := by rw [eS19]; exact hsh
    exact W.vret hx hb hr (fun t9 ht9 hW9 => ⟨⟨S19, rfl, ⟨h, hR.w, hsh⟩, ⟨by rw [ht9]; exact hR.P, hR.D⟩⟩, hR.sS.F ht9⟩) hR.sS.2.2 dX5_leave_28
def w_X5_raise_J46 (Q : MS → Prop) (k5 : MS → Int32 → Int32 → Prop) (U46 : MS) (v46_1 : Int32) (v46_2 : Int32) : Prop := (wfC U46 → (∀ a10 : Int32, a10 = (v46_2 + Int32.ofInt (-1)) → k5 U46 v46_1 a10))
def w_X5_raise_L5 (Q : MS → Prop) : Nat → MS → Int32 → Int32 → Prop
  | 0, _, _, _ => False
  | n5 + 1, U5, v5_1, v5_2 => (wfC U5 → ((v5_2.toInt < 0 → (∀ S3, S3 = wI U5 44 15 (1 : Int32) → qT U5 44 = 45 → wfC S3 → (∀ S4, S4 = wI S3 44 17 v5_1 → qT S3 44 = 45 → wfC S4 → Q S4))) ∧ (¬ v5_2.toInt < 0 → (∃ Q5, wX5_handlerOf U5 v5_1 Q5 ∧ ∀ r6 S7, Q5 r6 S7 → wfC S7 → shy U5 S7 → ((r6.toInt < 0 → ((v5_2.toInt ≤ 0 → w_X5_raise_J46 Q (w_X5_raise_L5 Q n5) S7 v5_1 v5_2) ∧ (¬ v5_2.toInt ≤ 0 → (∃ Q12, wX5_closeFrame S7 Q12 ∧ ∀ S13, Q12 S13 → wfC S13 → shy S7 S13 → w_X5_raise_J46 Q (w_X5_raise_L5 Q n5) S13 v5_1 v5_2)))) ∧ (¬ r6.toInt < 0 → (∀ S15, S15 = wI S7 44 13 r6 → qT S7 44 = 45 → wfC S15 → (∀ S16, S16 = wI S15 44 14 (0 : Int32) → qT S15 44 = 45 → wfC S16 → (∃ Q18, wX5_push S16 (((-1 : Int32) - v5_1).toInt64) Q18 ∧ ∀ S19, Q18 S19 → wfC S19 → shy S16 S19 → Q S19)))))))))
def wX5_raise (S : MS) (x1 : Int32) (Q : MS → Prop) : Prop := (∀ a1 : Int32, a1 = (qI S 44 11) → (∃ n, w_X5_raise_L5 Q n S x1 a1))
set_option maxHeartbeats 2000000 in
set_option maxRecDepth 100000 in
theorem rX5_raise (l : Launch) (g : Gr) (ad : Nat → Nat) (sz : Nat) (S : MS) (x1 : Int32) (hw : wfC S) (Q : MS → Prop) (h : wX5_raise S x1 Q) : Met l yX5_raise (wt yX5_raise cX5_raise 4 none) ({ frames := 2, cells := 0, slots := 0, locals := 44 }) (va_Pc [.ref (ad 44), .int x1] (st_C g ad sz S)) (va_Qv (fun (u : MS) => Q u ∧ wfC u ∧ shy S u) (fun (u : MS) (t : State) => qEC g ad (va_A (WdC g ad S) sz) u t) (va_A (WdC g ad S) sz)) 0 0 (va_A (WdC g ad S) sz) := by
  refine Met.ofW (cc := cX5_raise) (maxL := 4) (ret := none) (by decide) rfl ?_
  intro p e s m args below meth c s₁ B hml hv
  obtain ⟨rfl, hsz, hP, hK, hD0, hex, hE⟩ := hv
  have hx := B.exec
  have hb := B.bytes
  have hr := B.returns
  have hts0 := atoms_spec (ws := wt yX5_raise cX5_raise 4 none) B.pre
  have hts : ∀ w ∈ tb, w.before _ s = true := fun w h => hts0 w (List.mem_cons_of_mem _ h)
  have hown : s.vm.findClass RX5 = some m.cls := findClass_of_methodNamed B.named
  subst hsz
  have hD := hD0.self (sz := s.heap.size)
  generalize hAe : va_A (WdC g ad S) s.heap.size = A at hD hE ⊢
  have hA : ∀ q : Nat, s.heap.size ≤ q → A q := fun q h => by rw [← hAe]; exact Or.inr h
  have hR : RepC g ad A s S s.heap [] := ⟨hK, hP, hD, va_S.rf, hw⟩
  clear hK hP hD hD0
  have hl := lv_entry ([.ref (ad 44), .int x1]) (n := 4) (Nat.le_of_ble_eq_true rfl)
  rw [lg_entry_eq]
  generalize (lg_sl ([.ref (ad 44), .int x1]) ++ List.replicate (4 - (lg_sl ([.ref (ad 44), .int x1])).length) Slot.unset).toArray = ls at hl ⊢
  have hl : lv_has ls 4 [(0, .ref (ad 44)), (1, .int x1)] := hl
  have hsh : shy S S := shy.rf
  unfold wX5_raise at h
  refine lv_aload_n hx hb dX5_raise_0 rfl (lv_at hl 0 rfl) ?_
  refine va_get (D := rD g) (ci := 5) (v := .int (qI S 44 11)) (C := RX5) (T := TX5) (N := 20) hx hb hts inX5 hown hR.K hR.P 44 (hR.at45 (hR.w.2.1 _ finC_29).2.1) rfl 11 (by decide) (hts _ kw_1025) (fun _ h9 => h9) rfl dX5_raise_1 ?_
  obtain ⟨a1, ea1⟩ : ∃ z, z = (qI S 44 11) := ⟨_, rfl⟩
  rw [← ea1]
  replace h := h a1 ea1
  refine lv_istore_n (lv' := [(2, .int a1), (0, .ref (ad 44)), (1, .int x1)]) hx hb dX5_raise_4 rfl hl (by decide) rfl (fun ls hl => ?_)
  have J_5 : ∀ (n5 : Nat) (U5 : MS) (v5_1 : Int32) (v5_2 : Int32) (H : Heap) (locs : List Loc) (ls : Array Slot), w_X5_raise_L5 Q n5 U5 v5_1 v5_2 → shy S U5 → RepC g ad A s U5 H locs → lv_has ls 4 [(0, .ref (ad 44)), (1, .int v5_1), (2, .int v5_2)] → W p l e (headSpec (wt yX5_raise cX5_raise 4 none) ({ frames := 2, cells := 0, slots := 0, locals := 44 })).room s m ([.ref (ad 44), .int x1] : List Value).toArray below meth c H locs 0 0 (MQ below (va_Qv (fun (u : MS) => Q u ∧ wfC u ∧ shy S u) (fun (u : MS) (t : State) => qEC g ad A u t) A) ([.ref (ad 44), .int x1] : List Value).toArray s 0 0 A) (F0 m 5 ls []) := by
    intro n5
    induction n5 with
    | zero => intro U5 v5_1 v5_2 H locs ls h hsh hR hl; unfold w_X5_raise_L5 at h; exact h.elim
    | succ n5 ih_5 =>
      intro U5 v5_1 v5_2 H locs ls h hsh hR hl
      unfold w_X5_raise_L5 at h
      replace h := h hR.w
      refine lv_iload_n hx hb dX5_raise_5 rfl (lv_at hl 2 rfl) ?_
      refine lv_if_lt (tgt := 52) hx hb dX5_raise_6 (by decide) (fun c2 => ?_) (fun c2 => ?_)
      · replace h := h.1 (k_lt rfl (by decide) c2)
        refine lv_aload_n hx hb dX5_raise_52 rfl (lv_at hl 0 rfl) ?_
        refine lv_iconst (v := 1) hx hb dX5_raise_53 (by decide) ?_
        refine va_put (D := rD g) (ci := 5) (v := .int 1) (ty := .int) (C := RX5) (T := TX5) (N := 20) hx hb hts inX5 tyX5 tyX5_ok nmX5 hown hR.K hR.P hR.D hR.sS 44 (hR.at45 (hR.w.2.1 _ finC_29).2.1) rfl 15 (by decide) (hts _ kw_1041) (fun _ h9 => h9) rfl (by decide +kernel) rfl rfl (Nat.le_of_ble_eq_true rfl) dX5_raise_54 (fun H locs hP hD hS => ?_)
        have hTk9 : qT U5 44 = 45 := (hR.w.2.1 _ finC_29).2.1
        have hR : RepC g ad A s (wI U5 44 15 (1 : Int32)) H locs := hR.pI45 (hR.w.2.1 _ finC_29).2.1 FX5_s15 (fun q9 => absurd q9 (by decide)) hP hD hS
        obtain ⟨S3, eS3⟩ : ∃ z, z = wI U5 44 15 (1 : Int32) := ⟨_, rfl⟩
        rw [← eS3] at hR
        replace h := h S3 eS3 hTk9 hR.w
        have hsh : shy S S3 := by rw [eS3]; exact hsh
        refine lv_aload_n hx hb dX5_raise_57 rfl (lv_at hl 0 rfl) ?_
        refine lv_iload_n hx hb dX5_raise_58 rfl (lv_at hl 1 rfl) ?_
        refine va_put (D := rD g) (ci := 5) (v := .int v5_1) (ty := .int) (C := RX5) (T := TX5) (N := 20) hx hb hts inX5 tyX5 tyX5_ok nmX5 hown hR.K hR.P hR.D hR.sS 44 (hR.at45 (hR.w.2.1 _ finC_29).2.1) rfl 17 (by decide) (hts _ kw_1073) (fun _ h9 => h9) rfl (by decide +kernel) rfl rfl (Nat.le_of_ble_eq_true rfl) dX5_raise_59 (fun H locs hP hD hS => ?_)
        have hTk9 : qT S3 44 = 45 := (hR.w.2.1 _ finC_29).2.1
        have hR : RepC g ad A s (wI S3 44 17 v5_1) H locs := hR.pI45 (hR.w.2.1 _ finC_29).2.1 FX5_s17 (fun q9 => absurd q9 (by decide)) hP hD hS
        obtain ⟨S4, eS4⟩ : ∃ z, z = wI S3 44 17 v5_1 := ⟨_, rfl⟩
        rw [← eS4] at hR
        replace h := h S4 eS4 hTk9 hR.w
        have hsh : shy S S4 := by rw [eS4]; exact hsh
        exact W.vret hx hb hr (fun t9 ht9 hW9 => ⟨⟨S4, rfl, ⟨h, hR.w, hsh⟩, ⟨by rw [ht9]; exact hR.P, hR.D⟩⟩, hR.sS.F ht9⟩) hR.sS.2.2 dX5_raise_62
      · replace h := h.2 (k_nlt rfl (by decide) c2)
        refine lv_aload_n hx hb dX5_raise_9 rfl (lv_at hl 0 rfl) ?_
        refine lv_iload_n hx hb dX5_raise_10 rfl (lv_at hl 1 rfl) ?_
        obtain ⟨Q5, h0, h⟩ := h
        have hFc := cfree hR hA
        refine va_calli (va_runV (As := [.int v5_1]) (rest := []) ⟨hx, hb, hml, hown, hts⟩ (rX5_handlerOf l g ad H.size U5 v5_1 hR.w  Q5 h0) (cwV 1 hts (gd_V kw_1138 kw_1060 kw_1061 kw_398 kw_1059) rfl rfl rfl (by decide +kernel) ⟨Nat.le_of_ble_eq_true rfl, Nat.le_of_ble_eq_true rfl⟩) ⟨cblind, va_recv hR.K hR.P (ci := 5) (q0 := 44) rfl (hR.at45 (hR.w.2.1 _ finC_29).2.1), fun U hU hW9 => cmk hU hW9 hR hex hE hFc⟩ rfl rfl hl.1 rfl (lv_room (Nat.le_of_ble_eq_true rfl)) dX5_raise_11 ⟨Nat.le_of_ble_eq_true rfl, Nat.le_of_ble_eq_true rfl⟩) hR.sS (fun q _ h => hFc q h) hFc (fun r6 S7 t9 H1 locs ht9 hvm9 hw9 hB9 hz9 hk9 hS => ?_)
        obtain ⟨hq8, hw9, hs9⟩ := hw9
        have hR : RepC g ad A s S7 H1 locs := hR.call ht9 hB9 hw9 hS hFc
        have hsh := hsh.tr hs9
        replace h := h r6 S7 hq8 hw9 hs9
        clear hB9 hz9 hk9 hvm9 ht9 hw9 hs9 hS
        generalize H1 = H at hR ⊢
        refine lv_istore_n (lv' := [(3, .int r6), (0, .ref (ad 44)), (1, .int v5_1), (2, .int v5_2)]) hx hb dX5_raise_14 rfl hl (by decide) rfl (fun ls hl => ?_)
        refine lv_iload_n hx hb dX5_raise_15 rfl (lv_at hl 0 rfl) ?_
        refine lv_if_lt (tgt := 38) hx hb dX5_raise_16 (by decide) (fun c9 => ?_) (fun c9 => ?_)
        · replace h := h.1 (k_lt rfl (by decide) c9)
          refine lv_iload_n hx hb dX5_raise_38 rfl (lv_at hl 3 rfl) ?_
          have J_46 : ∀ (U46 : MS) (v46_1 : Int32) (v46_2 : Int32) (H : Heap) (locs : List Loc) (ls : Array Slot), w_X5_raise_J46 Q (w_X5_raise_L5 Q n5) U46 v46_1 v46_2 → shy S U46 → RepC g ad A s U46 H locs → lv_has ls 4 [(0, .ref (ad 44)), (1, .int v46_1), (2, .int v46_2)] → W p l e (headSpec (wt yX5_raise cX5_raise 4 none) ({ frames := 2, cells := 0, slots := 0, locals := 44 })).room s m ([.ref (ad 44), .int x1] : List Value).toArray below meth c H locs 0 0 (MQ below (va_Qv (fun (u : MS) => Q u ∧ wfC u ∧ shy S u) (fun (u : MS) (t : State) => qEC g ad A u t) A) ([.ref (ad 44), .int x1] : List Value).toArray s 0 0 A) (F0 m 46 ls []) := by
            intro U46 v46_1 v46_2 H locs ls h hsh hR hl
            unfold w_X5_raise_J46 at h
            replace h := h hR.w
            obtain ⟨a10, ea10⟩ : ∃ z, z = (v46_2 + Int32.ofInt (-1)) := ⟨_, rfl⟩
            replace h := h a10 ea10
            refine lv_iinc (v := a10) (lv' := [(2, .int a10), (0, .ref (ad 44)), (1, .int v46_1)]) hx hb dX5_raise_46 hl (k := 2) rfl ea10.symm (by decide) rfl (fun ls hl => ?_)
            refine lv_goto (tgt := 5) hx hb dX5_raise_49 (by decide) ?_
            exact ih_5 U46 v46_1 a10 _ _ ls h  hsh hR (lv_sub hl [1, 2, 0] rfl)
          refine lv_if_le (tgt := 46) hx hb dX5_raise_39 (by decide) (fun c11 => ?_) (fun c11 => ?_)
          · replace h := h.1 (k_le rfl (by decide) c11)
            exact J_46 S7 v5_1 v5_2 _ _ ls h  hsh hR (lv_sub hl [1, 2, 3] rfl)
          · replace h := h.2 (k_nle rfl (by decide) c11)
            refine lv_aload_n hx hb dX5_raise_42 rfl (lv_at hl 1 rfl) ?_
            obtain ⟨Q12, h0, h⟩ := h
            have hFc := cfree hR hA
            refine va_callv (va_runV (As := []) (rest := []) ⟨hx, hb, hml, hown, hts⟩ (rX5_closeFrame l g ad H.size S7 hR.w  Q12 h0) (cwV 0 hts (gd_V kw_1086 kw_1023 kw_1024 kw_398 kw_1022) rfl rfl rfl (by decide +kernel) ⟨Nat.le_of_ble_eq_true rfl, Nat.le_of_ble_eq_true rfl⟩) ⟨cblind, va_recv hR.K hR.P (ci := 5) (q0 := 44) rfl (hR.at45 (hR.w.2.1 _ finC_29).2.1), fun U hU hW9 => cmk hU hW9 hR hex hE hFc⟩ rfl rfl hl.1 rfl (lv_room (Nat.le_of_ble_eq_true rfl)) dX5_raise_43 ⟨Nat.le_of_ble_eq_true rfl, Nat.le_of_ble_eq_true rfl⟩) hR.sS (fun q _ h => hFc q h) hFc (fun  S13 t9 H1 locs ht9 hvm9 hw9 hB9 hz9 hk9 hS => ?_)
            obtain ⟨hq14, hw9, hs9⟩ := hw9
            have hR : RepC g ad A s S13 H1 locs := hR.call ht9 hB9 hw9 hS hFc
            have hsh := hsh.tr hs9
            replace h := h  S13 hq14 hw9 hs9
            clear hB9 hz9 hk9 hvm9 ht9 hw9 hs9 hS
            generalize H1 = H at hR ⊢
            exact J_46 S13 v5_1 v5_2 _ _ ls h  hsh hR (lv_sub hl [1, 2, 3] rfl)
        · replace h := h.2 (k_nlt rfl (by decide) c9)
          refine lv_aload_n hx hb dX5_raise_19 rfl (lv_at hl 1 rfl) ?_
          refine lv_iload_n hx hb dX5_raise_20 rfl (lv_at hl 0 rfl) ?_
          refine va_put (D := rD g) (ci := 5) (v := .int r6) (ty := .int) (C := RX5) (T := TX5) (N := 20) hx hb hts inX5 tyX5 tyX5_ok nmX5 hown hR.K hR.P hR.D hR.sS 44 (hR.at45 (hR.w.2.1 _ finC_29).2.1) rfl 13 (by decide) (hts _ kw_1021) (fun _ h9 => h9) rfl (by decide +kernel) rfl rfl (Nat.le_of_ble_eq_true rfl) dX5_raise_21 (fun H locs hP hD hS => ?_)
          have hTk9 : qT S7 44 = 45 := (hR.w.2.1 _ finC_29).2.1
          have hR : RepC g ad A s (wI S7 44 13 r6) H locs := hR.pI45 (hR.w.2.1 _ finC_29).2.1 FX5_s13 (fun q9 => absurd q9 (by decide)) hP hD hS
          obtain ⟨S15, eS15⟩ : ∃ z, z = wI S7 44 13 r6 := ⟨_, rfl⟩
          rw [← eS15] at hR
          replace h := h S15 eS15 hTk9 hR.w
          have hsh : shy S S15 := by rw [eS15]; exact hsh
          refine lv_aload_n hx hb dX5_raise_24 rfl (lv_at hl 1 rfl) ?_
          refine lv_iconst (v := 0) hx hb dX5_raise_25 (by decide) ?_
          refine va_put (D := rD g) (ci := 5) (v := .int 0) (ty := .int) (C := RX5) (T := TX5) (N := 20) hx hb hts inX5 tyX5 tyX5_ok nmX5 hown hR.K hR.P hR.D hR.sS 44 (hR.at45 (hR.w.2.1 _ finC_29).2.1) rfl 14 (by decide) (hts _ kw_1031) (fun _ h9 => h9) rfl (by decide +kernel) rfl rfl (Nat.le_of_ble_eq_true rfl) dX5_raise_26 (fun H locs hP hD hS => ?_)
          have hTk9 : qT S15 44 = 45 := (hR.w.2.1 _ finC_29).2.1
          have hR : RepC g ad A s (wI S15 44 14 (0 : Int32)) H locs := hR.pI45 (hR.w.2.1 _ finC_29).2.1 FX5_s14 (fun q9 => absurd q9 (by decide)) hP hD hS
          obtain ⟨S16, eS16⟩ : ∃ z, z = wI S15 44 14 (0 : Int32) := ⟨_, rfl⟩
          rw [← eS16] at hR
          replace h := h S16 eS16 hTk9 hR.w
          have hsh : shy S S16 := by rw [eS16]; exact hsh
          refine lv_aload_n hx hb dX5_raise_29 rfl (lv_at hl 1 rfl) ?_
          refine lv_iconst (v := (-1)) hx hb dX5_raise_30 (by decide) ?_
          refine lv_iload_n hx hb dX5_raise_31 rfl (lv_at hl 2 rfl) ?_
          refine lv_isub hx hb dX5_raise_32 ?_
          refine lv_topi (fun z17 ez17 => ?_)
          obtain rfl : z17 = ((-1 : Int32) - v5_1) := ez17
          refine lv_i2l (v := (((-1 : Int32) - v5_1).toInt64)) hx hb dX5_raise_33 rfl ?_
          obtain ⟨Q18, h0, h⟩ := h
          have hFc := cfree hR hA
          refine va_callv (va_runV (As := [.long (((-1 : Int32) - v5_1).toInt64)]) (rest := []) ⟨hx, hb, hml, hown, hts⟩ (rX5_push l g ad H.size S16 (((-1 : Int32) - v5_1).toInt64) hR.w  Q18 h0) (cwV 1 hts (gd_V kw_1099 kw_1130 kw_1131 kw_398 kw_1129) rfl rfl rfl (by decide +kernel) ⟨Nat.le_of_ble_eq_true rfl, Nat.le_of_ble_eq_true rfl⟩) ⟨cblind, va_recv hR.K hR.P (ci := 5) (q0 := 44) rfl (hR.at45 (hR.w.2.1 _ finC_29).2.1), fun U hU hW9 => cmk hU hW9 hR hex hE hFc⟩ rfl rfl hl.1 rfl (lv_room (Nat.le_of_ble_eq_true rfl)) dX5_raise_34 ⟨Nat.le_of_ble_eq_true rfl, Nat.le_of_ble_eq_true rfl⟩) hR.sS (fun q _ h => hFc q h) hFc (fun  S19 t9 H1 locs ht9 hvm9 hw9 hB9 hz9 hk9 hS => ?_)
          obtain ⟨hq20, hw9, hs9⟩ := hw9
          have hR : RepC g ad A s S19 H1 locs := hR.call ht9 hB9 hw9 hS hFc
          have hsh := hsh.tr hs9
          replace h := h  S19 hq20 hw9 hs9
          clear hB9 hz9 hk9 hvm9 ht9 hw9 hs9 hS
          generalize H1 = H at hR ⊢
          exact W.vret hx hb hr (fun t9 ht9 hW9 => ⟨⟨S19, rfl, ⟨h, hR.w, hsh⟩, ⟨by rw [ht9]; exact hR.P, hR.D⟩⟩, hR.sS.F ht9⟩) hR.sS.2.2 dX5_raise_37
  obtain ⟨n9, h⟩ := h
  exact J_5 n9 S x1 a1 _ _ ls h  hsh hR (lv_sub hl [1, 2, 0] rfl)
def w_X5_makeArray_J32 (Q : MS → Prop) (U32 : MS) : Prop := (wfC U32 → (∀ S2, S2 = wI U32 44 15 (4 : Int32) → qT U32 44 = 45 → wfC S2 → Q S2))
def w_X5_makeArray_J167 (Q : MS → Prop) (U167 : MS) (v167_1 : Int32) : Prop := (wfC U167 → (∀ S19, S19 = wI U167 44 3 ((qI U167 44 3) + v167_1) → qT U167 44 = 45 → wfC S19 → (∃ Q20, wX5_push S19 ((qI S19 44 5).toInt64) Q20 ∧ ∀ S21, Q20 S21 → wfC S21 → shy S19 S21 → (∀ S24, S24 = wI S21 44 13 ((qI S21 44 13) + (1 : Int32)) → qT S21 44 = 45 → wfC S24 → Q S24))))
def w_X5_makeArray_L135 (Q : MS → Prop) : Nat → MS → Int32 → Int32 → Prop
  | 0, _, _, _ => False
  | n135 + 1, U135, v135_1, v135_2 => (wfC U135 → ((((qI U135 44 3) + v135_1).toInt ≤ v135_2.toInt → w_X5_makeArray_J167 Q U135 v135_1) ∧ (¬ ((qI U135 44 3) + v135_1).toInt ≤ v135_2.toInt → (((qN U135 (qO U135 44 2) : Int) ≤ v135_2.toInt → w_X5_makeArray_J167 Q U135 v135_1) ∧ (¬ (qN U135 (qO U135 44 2) : Int) ≤ v135_2.toInt → (((0 : Int) ≤ v135_2.toInt ∧ v135_2.toInt < (qN U135 (qO U135 44 2) : Int)) ∧ (∀ S31, S31 = wI U135 (qO U135 44 2) v135_2.toInt.toNat (0 : Int32) → qT U135 (qO U135 44 2) = 215 → wfC S31 → (∀ a32 : Int32, a32 = (v135_2 + Int32.ofInt 1) → (w_X5_makeArray_L135 Q n135) S31 v135_1 a32))))))))
def w_X5_makeArray_J117 (Q : MS → Prop) (U117 : MS) (v117_1 : Int32) : Prop := (wfC U117 → (((0 : Int) ≤ (qI U117 44 5).toInt ∧ (qI U117 44 5).toInt < (qN U117 (qO U117 44 4) : Int)) ∧ (∀ S15, S15 = wI U117 (qO U117 44 4) (((qI U117 44 5).toInt).toNat) (qI U117 44 3) → qT U117 (qO U117 44 4) = 216 → wfC S15 → (∀ a16 : Int32, a16 = (qI S15 44 3) → (∃ n, w_X5_makeArray_L135 Q n S15 v117_1 a16)))))
def w_X5_makeArray_J78 (Q : MS → Prop) (U78 : MS) (v78_1 : Int32) : Prop := (wfC U78 → ((((qI U78 44 3) + v78_1).toInt ≤ (qN U78 (qO U78 44 2) : Int) → w_X5_makeArray_J117 Q U78 v78_1) ∧ (¬ ((qI U78 44 3) + v78_1).toInt ≤ (qN U78 (qO U78 44 2) : Int) → (qT U78 (qO U78 44 2) = 215 → (∃ Q38, wJ7_copyOf_59c91 U78 215 (qO U78 44 2) (if ((2 : Int32) * ((qI U78 44 3) + v78_1)) < (20000 : Int32) then ((2 : Int32) * ((qI U78 44 3) + v78_1)) else (20000 : Int32)) Q38 ∧ ∀ b43 S40, Q38 b43 S40 → wfC S40 → shx U78 S40 → qT S40 b43 = 215 → (∀ S44, S44 = wR S40 44 2 (some b43) → qT S40 44 = 45 → wfC S44 → w_X5_makeArray_J117 Q S44 v78_1))))))
def wX5_makeArray (S : MS) (x1 : Int32) (Q : MS → Prop) : Prop := ((0 ≤ x1.toInt → ((400 ≤ (qI S 44 5).toInt → w_X5_makeArray_J32 Q S) ∧ (¬ 400 ≤ (qI S 44 5).toInt → ((x1.toInt ≤ ((20000 : Int32) - (qI S 44 3)).toInt → (∀ S7, S7 = wI S 44 5 ((qI S 44 5) + (1 : Int32)) → qT S 44 = 45 → wfC S7 → (((qI S7 44 5).toInt < (qN S7 (qO S7 44 4) : Int) → w_X5_makeArray_J78 Q S7 x1) ∧ (¬ (qI S7 44 5).toInt < (qN S7 (qO S7 44 4) : Int) → (qT S7 (qO S7 44 4) = 216 → (∃ Q50, wJ7_copyOf_59c91 S7 216 (qO S7 44 4) ((2 : Int32) * (Int32.ofNat (qN S7 (qO S7 44 4)))) Q50 ∧ ∀ b55 S52, Q50 b55 S52 → wfC S52 → shx S7 S52 → qT S52 b55 = 216 → (∀ S56, S56 = wR S52 44 4 (some b55) → qT S52 44 = 45 → wfC S56 → w_X5_makeArray_J78 Q S56 x1))))))) ∧ (¬ x1.toInt ≤ ((20000 : Int32) - (qI S 44 3)).toInt → w_X5_makeArray_J32 Q S))))) ∧ (¬ 0 ≤ x1.toInt → (∃ Q57, wX5_raise S (3 : Int32) Q57 ∧ ∀ S58, Q57 S58 → wfC S58 → shy S S58 → Q S58)))
set_option maxHeartbeats 2000000 in
set_option maxRecDepth 100000 in
theorem rX5_makeArray (l : Launch) (g : Gr) (ad : Nat → Nat) (H0 : Heap) (S : MS) (x1 : Int32) (hw : wfC S) (Q : MS → Prop) (h : wX5_makeArray S x1 Q) : Met l yX5_makeArray (wt yX5_makeArray cX5_makeArray 3 none) ({ frames := 3, cells := KCC - qn S, slots := KSC - qu S, locals := 67 }) (va_Pc [.ref (ad 44), .int x1] (st_CH g ad H0 S)) (va_Qv (fun (u : MS × (Nat → Nat)) => Q u.1 ∧ wfC u.1 ∧ shx S u.1 ∧ adk ad u.2 S) (fun (u : MS × (Nat → Nat)) (t : State) => qEHC g (va_A (WdC g ad S) H0.size) S H0 u t) (va_A (WdC g ad S) H0.size)) (KCC - qn S) (KSC - qu S) (va_A (WdC g ad S) H0.size) := by
  refine Met.ofW (cc := cX5_makeArray) (maxL := 3) (ret := none) (by decide) rfl ?_
  intro p e s m args below meth c s₁ B hml hv
  obtain ⟨rfl, hH0, hsz, hP, hK, hD0, hex, hE⟩ := hv
  have hx := B.exec
  have hb := B.bytes
  have hr := B.returns
  have hts0 := atoms_spec (ws := wt yX5_makeArray cX5_makeArray 3 none) B.pre
  have hts : ∀ w ∈ tb, w.before _ s = true := fun w h => hts0 w (List.mem_cons_of_mem _ h)
  have hown : s.vm.findClass RX5 = some m.cls := findClass_of_methodNamed B.named
  subst hH0
  have hD := hD0.self (sz := s.heap.size)
  generalize hAe : va_A (WdC g ad S) s.heap.size = A at hD hE ⊢
  have hA : ∀ q : Nat, s.heap.size ≤ q → A q := fun q h => by rw [← hAe]; exact Or.inr h
  have hR : RepC g ad A s S s.heap [] := ⟨hK, hP, hD, va_S.rf, hw⟩
  clear hK hP hD hD0
  have hl := lv_entry ([.ref (ad 44), .int x1]) (n := 3) (Nat.le_of_ble_eq_true rfl)
  rw [lg_entry_eq]
  generalize (lg_sl ([.ref (ad 44), .int x1]) ++ List.replicate (3 - (lg_sl ([.ref (ad 44), .int x1])).length) Slot.unset).toArray = ls at hl ⊢
  have hlg : lgC S S 0 0 := lgC.rf
  have hak : adk ad ad S := adk.rf
  have hl : lv_has ls 3 [(0, .ref (ad 44)), (1, .int x1)] := hl
  have hsh : shx S S := shx.rf
  unfold wX5_makeArray at h
  refine lv_iload_n hx hb dX5_makeArray_0 rfl (lv_at hl 1 rfl) ?_
  refine lv_if_ge (tgt := 10) hx hb dX5_makeArray_1 (by decide) (fun c1 => ?_) (fun c1 => ?_)
  · replace h := h.1 (k_le (by decide) rfl c1)
    refine lv_aload_n hx hb dX5_makeArray_10 rfl (lv_at hl 0 rfl) ?_
    refine va_get (D := rD g) (ci := 5) (v := .int (qI S 44 5)) (C := RX5) (T := TX5) (N := 20) hx hb hts inX5 hown hR.K hR.P 44 (hR.at45 (hR.w.2.1 _ finC_29).2.1) rfl 5 (by decide) (hts _ kw_1008) (fun _ h9 => h9) rfl dX5_makeArray_11 ?_
    refine lv_sipush (v := 400) hx hb dX5_makeArray_14 (by decide) ?_
    have J_32 : ∀ (ad32 : Nat → Nat) (dc32 ds32 : Nat) (U32 : MS) (H : Heap) (locs : List Loc) (ls : Array Slot), w_X5_makeArray_J32 Q U32 → shx S U32 → lgC S U32 dc32 ds32 → adk ad ad32 S → ogC ad32 A s s.heap → RepC g ad32 A s U32 H locs → lv_has ls 3 [(0, .ref (ad32 44))] → W p l e (headSpec (wt yX5_makeArray cX5_makeArray 3 none) ({ frames := 3, cells := KCC - qn S, slots := KSC - qu S, locals := 67 })).room s m ([.ref (ad 44), .int x1] : List Value).toArray below meth c H locs dc32 ds32 (MQ below (va_Qv (fun (u : MS × (Nat → Nat)) => Q u.1 ∧ wfC u.1 ∧ shx S u.1 ∧ adk ad u.2 S) (fun (u : MS × (Nat → Nat)) (t : State) => qEHC g A S s.heap u t) A) ([.ref (ad 44), .int x1] : List Value).toArray s (KCC - qn S) (KSC - qu S) A) (F0 m 32 ls []) := by
      intro ad32 dc32 ds32 U32 H locs ls h hsh hlg hak hE hR hl
      unfold w_X5_makeArray_J32 at h
      replace h := h hR.w
      refine lv_aload_n hx hb dX5_makeArray_32 rfl (lv_at hl 0 rfl) ?_
      refine lv_iconst (v := 4) hx hb dX5_makeArray_33 (by decide) ?_
      refine va_put (D := rD g) (ci := 5) (v := .int 4) (ty := .int) (C := RX5) (T := TX5) (N := 20) hx hb hts inX5 tyX5 tyX5_ok nmX5 hown hR.K hR.P hR.D hR.sS 44 (hR.at45 (hR.w.2.1 _ finC_29).2.1) rfl 15 (by decide) (hts _ kw_1041) (fun _ h9 => h9) rfl (by decide +kernel) rfl rfl (Nat.le_of_ble_eq_true rfl) dX5_makeArray_34 (fun H locs hP hD hS => ?_)
      have hTk9 : qT U32 44 = 45 := (hR.w.2.1 _ finC_29).2.1
      have hR : RepC g ad32 A s (wI U32 44 15 (4 : Int32)) H locs := hR.pI45 (hR.w.2.1 _ finC_29).2.1 FX5_s15 (fun q9 => absurd q9 (by decide)) hP hD hS
      obtain ⟨S2, eS2⟩ : ∃ z, z = wI U32 44 15 (4 : Int32) := ⟨_, rfl⟩
      rw [← eS2] at hR
      replace h := h S2 eS2 hTk9 hR.w
      have hsh : shx S S2 := by rw [eS2]; exact hsh
      have hlg : lgC S S2 (dc32) (ds32) := by rw [eS2]; exact hlg
      refine W_led2 (fun hLd => ?_)
      refine W.widen (k := KCC - qn S) (n := KSC - qu S) hlg.c hlg.s ?_
      exact W.vret hx hb hr (fun t9 ht9 hW9 => ⟨⟨(S2, ad32), rfl, ⟨h, hR.w, hsh, hak⟩, ⟨⟨by rw [ht9]; exact hR.P, hR.D⟩, _, _, by rw [ht9]; exact hLd, hlg⟩⟩, hR.sS.F ht9⟩) hR.sS.2.2 dX5_makeArray_37
    refine lv_icmp_ge (tgt := 32) hx hb dX5_makeArray_17 (by decide) (fun c3 => ?_) (fun c3 => ?_)
    · replace h := h.1 (k_le (by decide) rfl c3)
      exact J_32 ad (0) (0) S _ _ ls h  hsh hlg hak hE hR (lv_sub hl [0] rfl)
    · replace h := h.2 (k_nle (by decide) rfl c3)
      refine lv_iload_n hx hb dX5_makeArray_20 rfl (lv_at hl 1 rfl) ?_
      refine lv_sipush (v := 20000) hx hb dX5_makeArray_21 (by decide) ?_
      refine lv_aload_n hx hb dX5_makeArray_24 rfl (lv_at hl 0 rfl) ?_
      refine va_get (D := rD g) (ci := 5) (v := .int (qI S 44 3)) (C := RX5) (T := TX5) (N := 20) hx hb hts inX5 hown hR.K hR.P 44 (hR.at45 (hR.w.2.1 _ finC_29).2.1) rfl 3 (by decide) (hts _ kw_1009) (fun _ h9 => h9) rfl dX5_makeArray_25 ?_
      refine lv_isub hx hb dX5_makeArray_28 ?_
      refine lv_topi (fun z4 ez4 => ?_)
      obtain rfl : z4 = ((20000 : Int32) - (qI S 44 3)) := ez4
      refine lv_icmp_le (tgt := 38) hx hb dX5_makeArray_29 (by decide) (fun c5 => ?_) (fun c5 => ?_)
      · replace h := h.1 (k_le rfl rfl c5)
        refine lv_aload_n hx hb dX5_makeArray_38 rfl (lv_at hl 0 rfl) ?_
        refine lv_dup hx hb dX5_makeArray_39 rfl ?_
        refine va_get (D := rD g) (ci := 5) (v := .int (qI S 44 5)) (C := RX5) (T := TX5) (N := 20) hx hb hts inX5 hown hR.K hR.P 44 (hR.at45 (hR.w.2.1 _ finC_29).2.1) rfl 5 (by decide) (hts _ kw_1008) (fun _ h9 => h9) rfl dX5_makeArray_40 ?_
        refine lv_iconst (v := 1) hx hb dX5_makeArray_43 (by decide) ?_
        refine lv_iadd hx hb dX5_makeArray_44 ?_
        refine lv_topi (fun z6 ez6 => ?_)
        obtain rfl : z6 = ((qI S 44 5) + (1 : Int32)) := ez6
        refine va_put (D := rD g) (ci := 5) (v := .int ((qI S 44 5) + (1 : Int32))) (ty := .int) (C := RX5) (T := TX5) (N := 20) hx hb hts inX5 tyX5 tyX5_ok nmX5 hown hR.K hR.P hR.D hR.sS 44 (hR.at45 (hR.w.2.1 _ finC_29).2.1) rfl 5 (by decide) (hts _ kw_1008) (fun _ h9 => h9) rfl (by decide +kernel) rfl rfl (Nat.le_of_ble_eq_true rfl) dX5_makeArray_45 (fun H locs hP hD hS => ?_)
        have hTk9 : qT S 44 = 45 := (hR.w.2.1 _ finC_29).2.1
        have hR : RepC g ad A s (wI S 44 5 ((qI S 44 5) + (1 : Int32))) H locs := hR.pI45 (hR.w.2.1 _ finC_29).2.1 FX5_s5 (fun q9 => absurd q9 (by decide)) hP hD hS
        obtain ⟨S7, eS7⟩ : ∃ z, z = wI S 44 5 ((qI S 44 5) + (1 : Int32)) := ⟨_, rfl⟩
        rw [← eS7] at hR
        replace h := h S7 eS7 hTk9 hR.w
        have hsh : shx S S7 := by rw [eS7]; exact hsh
        have hlg : lgC S S7 (0) (0) := by rw [eS7]; exact hlg
        refine lv_aload_n hx hb dX5_makeArray_48 rfl (lv_at hl 0 rfl) ?_
        refine va_get (D := rD g) (ci := 5) (v := .int (qI S7 44 5)) (C := RX5) (T := TX5) (N := 20) hx hb hts inX5 hown hR.K hR.P 44 (hR.at45 (hR.w.2.1 _ finC_29).2.1) rfl 5 (by decide) (hts _ kw_1008) (fun _ h9 => h9) rfl dX5_makeArray_49 ?_
        refine lv_aload_n hx hb dX5_makeArray_52 rfl (lv_at hl 0 rfl) ?_
        have hT_b8 : qT S7 (qO S7 44 4) = 216 := hR.w.ref (hR.w.ptr ptrC_19) (hR.w.2.1 _ finC_29).2.1
        refine va_get (D := rD g) (ci := 5) (v := .ref (ad (qO S7 44 4))) (C := RX5) (T := TX5) (N := 20) hx hb hts inX5 hown hR.K hR.P 44 (hR.at45 (hR.w.2.1 _ finC_29).2.1) rfl 4 (by decide) (hts _ kw_1010) (fun _ h9 => h9) (congrArg (fun z => some (vf ad z)) (hR.w.ptr ptrC_19)) dX5_makeArray_53 ?_
        refine va_alen (v := (Int32.ofNat (qN S7 (qO S7 44 4)))) hx hb hR.K hR.P (qO S7 44 4) 1 (hR.atI hT_b8 (by decide)) rfl rfl dX5_makeArray_56 ?_
        have hln9 : (Int32.ofNat (qN S7 (qO S7 44 4))).toInt = (qN S7 (qO S7 44 4) : Int) := toI_len (hR.w.len9 (hT_b8) (by decide))
        have J_78 : ∀ (ad78 : Nat → Nat) (dc78 ds78 : Nat) (U78 : MS) (v78_1 : Int32) (H : Heap) (locs : List Loc) (ls : Array Slot), w_X5_makeArray_J78 Q U78 v78_1 → shx S U78 → lgC S U78 dc78 ds78 → adk ad ad78 S → ogC ad78 A s s.heap → RepC g ad78 A s U78 H locs → lv_has ls 3 [(0, .ref (ad78 44)), (1, .int v78_1)] → W p l e (headSpec (wt yX5_makeArray cX5_makeArray 3 none) ({ frames := 3, cells := KCC - qn S, slots := KSC - qu S, locals := 67 })).room s m ([.ref (ad 44), .int x1] : List Value).toArray below meth c H locs dc78 ds78 (MQ below (va_Qv (fun (u : MS × (Nat → Nat)) => Q u.1 ∧ wfC u.1 ∧ shx S u.1 ∧ adk ad u.2 S) (fun (u : MS × (Nat → Nat)) (t : State) => qEHC g A S s.heap u t) A) ([.ref (ad 44), .int x1] : List Value).toArray s (KCC - qn S) (KSC - qu S) A) (F0 m 78 ls []) := by
          intro ad78 dc78 ds78 U78 v78_1 H locs ls h hsh hlg hak hE hR hl
          unfold w_X5_makeArray_J78 at h
          replace h := h hR.w
          refine lv_aload_n hx hb dX5_makeArray_78 rfl (lv_at hl 0 rfl) ?_
          refine va_get (D := rD g) (ci := 5) (v := .int (qI U78 44 3)) (C := RX5) (T := TX5) (N := 20) hx hb hts inX5 hown hR.K hR.P 44 (hR.at45 (hR.w.2.1 _ finC_29).2.1) rfl 3 (by decide) (hts _ kw_1009) (fun _ h9 => h9) rfl dX5_makeArray_79 ?_
          refine lv_iload_n hx hb dX5_makeArray_82 rfl (lv_at hl 1 rfl) ?_
          refine lv_iadd hx hb dX5_makeArray_83 ?_
          refine lv_topi (fun z10 ez10 => ?_)
          obtain rfl : z10 = ((qI U78 44 3) + v78_1) := ez10
          refine lv_aload_n hx hb dX5_makeArray_84 rfl (lv_at hl 0 rfl) ?_
          have hT_b11 : qT U78 (qO U78 44 2) = 215 := hR.w.ref (hR.w.ptr ptrC_18) (hR.w.2.1 _ finC_29).2.1
          refine va_get (D := rD g) (ci := 5) (v := .ref (ad78 (qO U78 44 2))) (C := RX5) (T := TX5) (N := 20) hx hb hts inX5 hown hR.K hR.P 44 (hR.at45 (hR.w.2.1 _ finC_29).2.1) rfl 2 (by decide) (hts _ kw_1069) (fun _ h9 => h9) (congrArg (fun z => some (vf ad78 z)) (hR.w.ptr ptrC_18)) dX5_makeArray_85 ?_
          refine va_alen (v := (Int32.ofNat (qN U78 (qO U78 44 2)))) hx hb hR.K hR.P (qO U78 44 2) 1 (hR.atI hT_b11 (by decide)) rfl rfl dX5_makeArray_88 ?_
          have hln12 : (Int32.ofNat (qN U78 (qO U78 44 2))).toInt = (qN U78 (qO U78 44 2) : Int) := toI_len (hR.w.len9 (hT_b11) (by decide))
          have J_117 : ∀ (ad117 : Nat → Nat) (dc117 ds117 : Nat) (U117 : MS) (v117_1 : Int32) (H : Heap) (locs : List Loc) (ls : Array Slot), w_X5_makeArray_J117 Q U117 v117_1 → shx S U117 → lgC S U117 dc117 ds117 → adk ad ad117 S → ogC ad117 A s s.heap → RepC g ad117 A s U117 H locs → lv_has ls 3 [(0, .ref (ad117 44)), (1, .int v117_1)] → W p l e (headSpec (wt yX5_makeArray cX5_makeArray 3 none) ({ frames := 3, cells := KCC - qn S, slots := KSC - qu S, locals := 67 })).room s m ([.ref (ad 44), .int x1] : List Value).toArray below meth c H locs dc117 ds117 (MQ below (va_Qv (fun (u : MS × (Nat → Nat)) => Q u.1 ∧ wfC u.1 ∧ shx S u.1 ∧ adk ad u.2 S) (fun (u : MS × (Nat → Nat)) (t : State) => qEHC g A S s.heap u t) A) ([.ref (ad 44), .int x1] : List Value).toArray s (KCC - qn S) (KSC - qu S) A) (F0 m 117 ls []) := by
            intro ad117 dc117 ds117 U117 v117_1 H locs ls h hsh hlg hak hE hR hl
            unfold w_X5_makeArray_J117 at h
            replace h := h hR.w
            refine lv_aload_n hx hb dX5_makeArray_117 rfl (lv_at hl 0 rfl) ?_
            have hT_b13 : qT U117 (qO U117 44 4) = 216 := hR.w.ref (hR.w.ptr ptrC_19) (hR.w.2.1 _ finC_29).2.1
            refine va_get (D := rD g) (ci := 5) (v := .ref (ad117 (qO U117 44 4))) (C := RX5) (T := TX5) (N := 20) hx hb hts inX5 hown hR.K hR.P 44 (hR.at45 (hR.w.2.1 _ finC_29).2.1) rfl 4 (by decide) (hts _ kw_1010) (fun _ h9 => h9) (congrArg (fun z => some (vf ad117 z)) (hR.w.ptr ptrC_19)) dX5_makeArray_118 ?_
            refine lv_aload_n hx hb dX5_makeArray_121 rfl (lv_at hl 0 rfl) ?_
            refine va_get (D := rD g) (ci := 5) (v := .int (qI U117 44 5)) (C := RX5) (T := TX5) (N := 20) hx hb hts inX5 hown hR.K hR.P 44 (hR.at45 (hR.w.2.1 _ finC_29).2.1) rfl 5 (by decide) (hts _ kw_1008) (fun _ h9 => h9) rfl dX5_makeArray_122 ?_
            refine lv_aload_n hx hb dX5_makeArray_125 rfl (lv_at hl 0 rfl) ?_
            refine va_get (D := rD g) (ci := 5) (v := .int (qI U117 44 3)) (C := RX5) (T := TX5) (N := 20) hx hb hts inX5 hown hR.K hR.P 44 (hR.at45 (hR.w.2.1 _ finC_29).2.1) rfl 3 (by decide) (hts _ kw_1009) (fun _ h9 => h9) rfl dX5_makeArray_126 ?_
            obtain ⟨hv14, h⟩ := h
            refine va_iast hx hb hR.K hR.P hR.D hR.sS (qO U117 44 4) 1 (hR.atI hT_b13 (by decide)) rfl (k_ix (x := (qI U117 44 5)) (a := (qI U117 44 5).toInt) rfl hv14) dX5_makeArray_129 (fun H locs hP hD hS => ?_)
            have hTk9 : qT U117 (qO U117 44 4) = 216 := hT_b13
            have hR : RepC g ad117 A s (wI U117 (qO U117 44 4) (((qI U117 44 5).toInt).toNat) (qI U117 44 3)) H locs := hR.aI hT_b13 (by decide) hP hD hS
            obtain ⟨S15, eS15⟩ : ∃ z, z = wI U117 (qO U117 44 4) (((qI U117 44 5).toInt).toNat) (qI U117 44 3) := ⟨_, rfl⟩
            rw [← eS15] at hR
            replace h := h S15 eS15 hTk9 hR.w
            have hsh : shx S S15 := by rw [eS15]; exact hsh
            have hlg : lgC S S15 (dc117) (ds117) := by rw [eS15]; exact hlg
            refine lv_aload_n hx hb dX5_makeArray_130 rfl (lv_at hl 0 rfl) ?_
            refine va_get (D := rD g) (ci := 5) (v := .int (qI S15 44 3)) (C := RX5) (T := TX5) (N := 20) hx hb hts inX5 hown hR.K hR.P 44 (hR.at45 (hR.w.2.1 _ finC_29).2.1) rfl 3 (by decide) (hts _ kw_1009) (fun _ h9 => h9) rfl dX5_makeArray_131 ?_
            obtain ⟨a16, ea16⟩ : ∃ z, z = (qI S15 44 3) := ⟨_, rfl⟩
            rw [← ea16]
            replace h := h a16 ea16
            refine lv_istore_n (lv' := [(2, .int a16), (0, .ref (ad117 44)), (1, .int v117_1)]) hx hb dX5_makeArray_134 rfl hl (by decide) rfl (fun ls hl => ?_)
            have J_135 : ∀ (n135 : Nat) (ad135 : Nat → Nat) (dc135 ds135 : Nat) (U135 : MS) (v135_1 : Int32) (v135_2 : Int32) (H : Heap) (locs : List Loc) (ls : Array Slot), w_X5_makeArray_L135 Q n135 U135 v135_1 v135_2 → shx S U135 → lgC S U135 dc135 ds135 → adk ad ad135 S → ogC ad135 A s s.heap → RepC g ad135 A s U135 H locs → lv_has ls 3 [(0, .ref (ad135 44)), (1, .int v135_1), (2, .int v135_2)] → W p l e (headSpec (wt yX5_makeArray cX5_makeArray 3 none) ({ frames := 3, cells := KCC - qn S, slots := KSC - qu S, locals := 67 })).room s m ([.ref (ad 44), .int x1] : List Value).toArray below meth c H locs dc135 ds135 (MQ below (va_Qv (fun (u : MS × (Nat → Nat)) => Q u.1 ∧ wfC u.1 ∧ shx S u.1 ∧ adk ad u.2 S) (fun (u : MS × (Nat → Nat)) (t : State) => qEHC g A S s.heap u t) A) ([.ref (ad 44), .int x1] : List Value).toArray s (KCC - qn S) (KSC - qu S) A) (F0 m 135 ls []) := by
              intro n135
              induction n135 with
              | zero => intro ad135 dc135 ds135 U135 v135_1 v135_2 H locs ls h hsh hlg hak hE hR hl; unfold w_X5_makeArray_L135 at h; exact h.elim
              | succ n135 ih_135 =>
                intro ad135 dc135 ds135 U135 v135_1 v135_2 H locs ls h hsh hlg hak hE hR hl
                unfold w_X5_makeArray_L135 at h
                replace h := h hR.w
                refine lv_iload_n hx hb dX5_makeArray_135 rfl (lv_at hl 2 rfl) ?_
                refine lv_aload_n hx hb dX5_makeArray_136 rfl (lv_at hl 0 rfl) ?_
                refine va_get (D := rD g) (ci := 5) (v := .int (qI U135 44 3)) (C := RX5) (T := TX5) (N := 20) hx hb hts inX5 hown hR.K hR.P 44 (hR.at45 (hR.w.2.1 _ finC_29).2.1) rfl 3 (by decide) (hts _ kw_1009) (fun _ h9 => h9) rfl dX5_makeArray_137 ?_
                refine lv_iload_n hx hb dX5_makeArray_140 rfl (lv_at hl 1 rfl) ?_
                refine lv_iadd hx hb dX5_makeArray_141 ?_
                refine lv_topi (fun z17 ez17 => ?_)
                obtain rfl : z17 = ((qI U135 44 3) + v135_1) := ez17
                have J_167 : ∀ (ad167 : Nat → Nat) (dc167 ds167 : Nat) (U167 : MS) (v167_1 : Int32) (H : Heap) (locs : List Loc) (ls : Array Slot), w_X5_makeArray_J167 Q U167 v167_1 → shx S U167 → lgC S U167 dc167 ds167 → adk ad ad167 S → ogC ad167 A s s.heap → RepC g ad167 A s U167 H locs → lv_has ls 3 [(0, .ref (ad167 44)), (1, .int v167_1)] → W p l e (headSpec (wt yX5_makeArray cX5_makeArray 3 none) ({ frames := 3, cells := KCC - qn S, slots := KSC - qu S, locals := 67 })).room s m ([.ref (ad 44), .int x1] : List Value).toArray below meth c H locs dc167 ds167 (MQ below (va_Qv (fun (u : MS × (Nat → Nat)) => Q u.1 ∧ wfC u.1 ∧ shx S u.1 ∧ adk ad u.2 S) (fun (u : MS × (Nat → Nat)) (t : State) => qEHC g A S s.heap u t) A) ([.ref (ad 44), .int x1] : List Value).toArray s (KCC - qn S) (KSC - qu S) A) (F0 m 167 ls []) := by
                  intro ad167 dc167 ds167 U167 v167_1 H locs ls h hsh hlg hak hE hR hl
                  unfold w_X5_makeArray_J167 at h
                  replace h := h hR.w
                  refine lv_aload_n hx hb dX5_makeArray_167 rfl (lv_at hl 0 rfl) ?_
                  refine lv_dup hx hb dX5_makeArray_168 rfl ?_
                  refine va_get (D := rD g) (ci := 5) (v := .int (qI U167 44 3)) (C := RX5) (T := TX5) (N := 20) hx hb hts inX5 hown hR.K hR.P 44 (hR.at45 (hR.w.2.1 _ finC_29).2.1) rfl 3 (by decide) (hts _ kw_1009) (fun _ h9 => h9) rfl dX5_makeArray_169 ?_
                  refine lv_iload_n hx hb dX5_makeArray_172 rfl (lv_at hl 1 rfl) ?_
                  refine lv_iadd hx hb dX5_makeArray_173 ?_
                  refine lv_topi (fun z18 ez18 => ?_)
                  obtain rfl : z18 = ((qI U167 44 3) + v167_1) := ez18
                  refine va_put (D := rD g) (ci := 5) (v := .int ((qI U167 44 3) + v167_1)) (ty := .int) (C := RX5) (T := TX5) (N := 20) hx hb hts inX5 tyX5 tyX5_ok nmX5 hown hR.K hR.P hR.D hR.sS 44 (hR.at45 (hR.w.2.1 _ finC_29).2.1) rfl 3 (by decide) (hts _ kw_1009) (fun _ h9 => h9) rfl (by decide +kernel) rfl rfl (Nat.le_of_ble_eq_true rfl) dX5_makeArray_174 (fun H locs hP hD hS => ?_)
                  have hTk9 : qT U167 44 = 45 := (hR.w.2.1 _ finC_29).2.1
                  have hR : RepC g ad167 A s (wI U167 44 3 ((qI U167 44 3) + v167_1)) H locs := hR.pI45 (hR.w.2.1 _ finC_29).2.1 FX5_s3 (fun q9 => absurd q9 (by decide)) hP hD hS
                  obtain ⟨S19, eS19⟩ : ∃ z, z = wI U167 44 3 ((qI U167 44 3) + v167_1) := ⟨_, rfl⟩
                  rw [← eS19] at hR
                  replace h := h S19 eS19 hTk9 hR.w
                  have hsh : shx S S19 := by rw [eS19]; exact hsh
                  have hlg : lgC S S19 (dc167) (ds167) := by rw [eS19]; exact hlg
                  refine lv_aload_n hx hb dX5_makeArray_177 rfl (lv_at hl 0 rfl) ?_
                  refine lv_aload_n hx hb dX5_makeArray_178 rfl (lv_at hl 0 rfl) ?_
                  refine va_get (D := rD g) (ci := 5) (v := .int (qI S19 44 5)) (C := RX5) (T := TX5) (N := 20) hx hb hts inX5 hown hR.K hR.P 44 (hR.at45 (hR.w.2.1 _ finC_29).2.1) rfl 5 (by decide) (hts _ kw_1008) (fun _ h9 => h9) rfl dX5_makeArray_179 ?_
                  refine lv_i2l (v := ((qI S19 44 5).toInt64)) hx hb dX5_makeArray_182 rfl ?_
                  obtain ⟨Q20, h0, h⟩ := h
                  have hFc := cfree hR hA
                  refine va_callv (va_runV (As := [.long ((qI S19 44 5).toInt64)]) (rest := []) ⟨hx, hb, hml, hown, hts⟩ (rX5_push l g ad167 H.size S19 ((qI S19 44 5).toInt64) hR.w  Q20 h0) (cwV 1 hts (gd_V kw_1099 kw_1130 kw_1131 kw_398 kw_1129) rfl rfl rfl (by decide +kernel) ⟨Nat.le_of_ble_eq_true rfl, Nat.le_of_ble_eq_true rfl⟩) ⟨cblind, va_recv hR.K hR.P (ci := 5) (q0 := 44) rfl (hR.at45 (hR.w.2.1 _ finC_29).2.1), fun U hU hW9 => cmk hU hW9 hR hex hE hFc⟩ rfl rfl hl.1 rfl (lv_room (Nat.le_of_ble_eq_true rfl)) dX5_makeArray_183 ⟨(show dc167 + 0 ≤ KCC - qn S from hlg.c), (show ds167 + 0 ≤ KSC - qu S from hlg.s)⟩) hR.sS (fun q _ h => hFc q h) hFc (fun  S21 t9 H1 locs ht9 hvm9 hw9 hB9 hz9 hk9 hS => ?_)
                  obtain ⟨hq22, hw9, hs9⟩ := hw9
                  have hR : RepC g ad167 A s S21 H1 locs := hR.call ht9 hB9 hw9 hS hFc
                  have hsh := hsh.tr hs9.1
                  have hlg : lgC S S21 (dc167) (ds167) := hlg.same hs9
                  replace h := h  S21 hq22 hw9 hs9
                  clear hB9 hz9 hk9 hvm9 ht9 hw9 hs9 hS
                  generalize H1 = H at hR ⊢
                  refine lv_aload_n hx hb dX5_makeArray_186 rfl (lv_at hl 0 rfl) ?_
                  refine lv_dup hx hb dX5_makeArray_187 rfl ?_
                  refine va_get (D := rD g) (ci := 5) (v := .int (qI S21 44 13)) (C := RX5) (T := TX5) (N := 20) hx hb hts inX5 hown hR.K hR.P 44 (hR.at45 (hR.w.2.1 _ finC_29).2.1) rfl 13 (by decide) (hts _ kw_1021) (fun _ h9 => h9) rfl dX5_makeArray_188 ?_
                  refine lv_iconst (v := 1) hx hb dX5_makeArray_191 (by decide) ?_
                  refine lv_iadd hx hb dX5_makeArray_192 ?_
                  refine lv_topi (fun z23 ez23 => ?_)
                  obtain rfl : z23 = ((qI S21 44 13) + (1 : Int32)) := ez23
                  refine va_put (D := rD g) (ci := 5) (v := .int ((qI S21 44 13) + (1 : Int32))) (ty := .int) (C := RX5) (T := TX5) (N := 20) hx hb hts inX5 tyX5 tyX5_ok nmX5 hown hR.K hR.P hR.D hR.sS 44 (hR.at45 (hR.w.2.1 _ finC_29).2.1) rfl 13 (by decide) (hts _ kw_1021) (fun _ h9 => h9) rfl (by decide +kernel) rfl rfl (Nat.le_of_ble_eq_true rfl) dX5_makeArray_193 (fun H locs hP hD hS => ?_)
                  have hTk9 : qT S21 44 = 45 := (hR.w.2.1 _ finC_29).2.1
                  have hR : RepC g ad167 A s (wI S21 44 13 ((qI S21 44 13) + (1 : Int32))) H locs := hR.pI45 (hR.w.2.1 _ finC_29).2.1 FX5_s13 (fun q9 => absurd q9 (by decide)) hP hD hS
                  obtain ⟨S24, eS24⟩ : ∃ z, z = wI S21 44 13 ((qI S21 44 13) + (1 : Int32)) := ⟨_, rfl⟩
                  rw [← eS24] at hR
                  replace h := h S24 eS24 hTk9 hR.w
                  have hsh : shx S S24 := by rw [eS24]; exact hsh
                  have hlg : lgC S S24 (dc167) (ds167) := by rw [eS24]; exact hlg
                  refine W_led2 (fun hLd => ?_)
                  refine W.widen (k := KCC - qn S) (n := KSC - qu S) hlg.c hlg.s ?_
                  exact W.vret hx hb hr (fun t9 ht9 hW9 => ⟨⟨(S24, ad167), rfl, ⟨h, hR.w, hsh, hak⟩, ⟨⟨by rw [ht9]; exact hR.P, hR.D⟩, _, _, by rw [ht9]; exact hLd, hlg⟩⟩, hR.sS.F ht9⟩) hR.sS.2.2 dX5_makeArray_196
                refine lv_icmp_ge (tgt := 167) hx hb dX5_makeArray_142 (by decide) (fun c25 => ?_) (fun c25 => ?_)
                · replace h := h.1 (k_le rfl rfl c25)
                  exact J_167 ad135 (dc135) (ds135) U135 v135_1 _ _ ls h  hsh hlg hak hE hR (lv_sub hl [0, 1] rfl)
                · replace h := h.2 (k_nle rfl rfl c25)
                  refine lv_iload_n hx hb dX5_makeArray_145 rfl (lv_at hl 2 rfl) ?_
                  refine lv_aload_n hx hb dX5_makeArray_146 rfl (lv_at hl 0 rfl) ?_
                  have hT_b26 : qT U135 (qO U135 44 2) = 215 := hR.w.ref (hR.w.ptr ptrC_18) (hR.w.2.1 _ finC_29).2.1
                  refine va_get (D := rD g) (ci := 5) (v := .ref (ad135 (qO U135 44 2))) (C := RX5) (T := TX5) (N := 20) hx hb hts inX5 hown hR.K hR.P 44 (hR.at45 (hR.w.2.1 _ finC_29).2.1) rfl 2 (by decide) (hts _ kw_1069) (fun _ h9 => h9) (congrArg (fun z => some (vf ad135 z)) (hR.w.ptr ptrC_18)) dX5_makeArray_147 ?_
                  refine va_alen (v := (Int32.ofNat (qN U135 (qO U135 44 2)))) hx hb hR.K hR.P (qO U135 44 2) 1 (hR.atI hT_b26 (by decide)) rfl rfl dX5_makeArray_150 ?_
                  have hln27 : (Int32.ofNat (qN U135 (qO U135 44 2))).toInt = (qN U135 (qO U135 44 2) : Int) := toI_len (hR.w.len9 (hT_b26) (by decide))
                  refine lv_icmp_ge (tgt := 167) hx hb dX5_makeArray_151 (by decide) (fun c28 => ?_) (fun c28 => ?_)
                  · replace h := h.1 (k_le hln27 rfl c28)
                    exact J_167 ad135 (dc135) (ds135) U135 v135_1 _ _ ls h  hsh hlg hak hE hR (lv_sub hl [0, 1] rfl)
                  · replace h := h.2 (k_nle hln27 rfl c28)
                    refine lv_aload_n hx hb dX5_makeArray_154 rfl (lv_at hl 0 rfl) ?_
                    have hT_b29 : qT U135 (qO U135 44 2) = 215 := hR.w.ref (hR.w.ptr ptrC_18) (hR.w.2.1 _ finC_29).2.1
                    refine va_get (D := rD g) (ci := 5) (v := .ref (ad135 (qO U135 44 2))) (C := RX5) (T := TX5) (N := 20) hx hb hts inX5 hown hR.K hR.P 44 (hR.at45 (hR.w.2.1 _ finC_29).2.1) rfl 2 (by decide) (hts _ kw_1069) (fun _ h9 => h9) (congrArg (fun z => some (vf ad135 z)) (hR.w.ptr ptrC_18)) dX5_makeArray_155 ?_
                    refine lv_iload_n hx hb dX5_makeArray_158 rfl (lv_at hl 2 rfl) ?_
                    refine lv_iconst (v := 0) hx hb dX5_makeArray_159 (by decide) ?_
                    obtain ⟨hv30, h⟩ := h
                    refine va_iast hx hb hR.K hR.P hR.D hR.sS (qO U135 44 2) 1 (hR.atI hT_b29 (by decide)) rfl (k_ix (x := v135_2) (a := v135_2.toInt) rfl hv30) dX5_makeArray_160 (fun H locs hP hD hS => ?_)
                    have hTk9 : qT U135 (qO U135 44 2) = 215 := hT_b29
                    have hR : RepC g ad135 A s (wI U135 (qO U135 44 2) v135_2.toInt.toNat (0 : Int32)) H locs := hR.aI hT_b29 (by decide) hP hD hS
                    obtain ⟨S31, eS31⟩ : ∃ z, z = wI U135 (qO U135 44 2) v135_2.toInt.toNat (0 : Int32) := ⟨_, rfl⟩
                    rw [← eS31] at hR
                    replace h := h S31 eS31 hTk9 hR.w
                    have hsh : shx S S31 := by rw [eS31]; exact hsh
                    have hlg : lgC S S31 (dc135) (ds135) := by rw [eS31]; exact hlg
                    obtain ⟨a32, ea32⟩ : ∃ z, z = (v135_2 + Int32.ofInt 1) := ⟨_, rfl⟩
                    replace h := h a32 ea32
                    refine lv_iinc (v := a32) (lv' := [(2, .int a32), (0, .ref (ad135 44)), (1, .int v135_1)]) hx hb dX5_makeArray_161 hl (k := 2) rfl ea32.symm (by decide) rfl (fun ls hl => ?_)
                    refine lv_goto (tgt := 135) hx hb dX5_makeArray_164 (by decide) ?_
                    exact ih_135 ad135 (dc135) (ds135) S31 v135_1 a32 _ _ ls h  hsh hlg hak hE hR (lv_sub hl [1, 2, 0] rfl)
            obtain ⟨n9, h⟩ := h
            exact J_135 n9 ad117 (dc117) (ds117) S15 v117_1 a16 _ _ ls h  hsh hlg hak hE hR (lv_sub hl [1, 2, 0] rfl)
          refine lv_icmp_le (tgt := 117) hx hb dX5_makeArray_89 (by decide) (fun c33 => ?_) (fun c33 => ?_)
          · replace h := h.1 (k_le rfl hln12 c33)
            exact J_117 ad78 (dc78) (ds78) U78 v78_1 _ _ ls h  hsh hlg hak hE hR (lv_sub hl [0, 1] rfl)
          · replace h := h.2 (k_nle rfl hln12 c33)
            refine lv_aload_n hx hb dX5_makeArray_92 rfl (lv_at hl 0 rfl) ?_
            refine lv_aload_n hx hb dX5_makeArray_93 rfl (lv_at hl 0 rfl) ?_
            have hT_b34 : qT U78 (qO U78 44 2) = 215 := hR.w.ref (hR.w.ptr ptrC_18) (hR.w.2.1 _ finC_29).2.1
            refine va_get (D := rD g) (ci := 5) (v := .ref (ad78 (qO U78 44 2))) (C := RX5) (T := TX5) (N := 20) hx hb hts inX5 hown hR.K hR.P 44 (hR.at45 (hR.w.2.1 _ finC_29).2.1) rfl 2 (by decide) (hts _ kw_1069) (fun _ h9 => h9) (congrArg (fun z => some (vf ad78 z)) (hR.w.ptr ptrC_18)) dX5_makeArray_94 ?_
            refine lv_sipush (v := 20000) hx hb dX5_makeArray_97 (by decide) ?_
            refine lv_iconst (v := 2) hx hb dX5_makeArray_100 (by decide) ?_
            refine lv_aload_n hx hb dX5_makeArray_101 rfl (lv_at hl 0 rfl) ?_
            refine va_get (D := rD g) (ci := 5) (v := .int (qI U78 44 3)) (C := RX5) (T := TX5) (N := 20) hx hb hts inX5 hown hR.K hR.P 44 (hR.at45 (hR.w.2.1 _ finC_29).2.1) rfl 3 (by decide) (hts _ kw_1009) (fun _ h9 => h9) rfl dX5_makeArray_102 ?_
            refine lv_iload_n hx hb dX5_makeArray_105 rfl (lv_at hl 1 rfl) ?_
            refine lv_iadd hx hb dX5_makeArray_106 ?_
            refine lv_topi (fun z35 ez35 => ?_)
            obtain rfl : z35 = ((qI U78 44 3) + v78_1) := ez35
            refine lv_imul hx hb dX5_makeArray_107 ?_
            refine lv_topi (fun z36 ez36 => ?_)
            obtain rfl : z36 = ((2 : Int32) * ((qI U78 44 3) + v78_1)) := ez36
            refine va_mmin hx hb (by rw [hml]; exact hl.1.symm) hown (hts _ kw_1098) (hts _ kw_1750) (hts _ kw_1748) (hts _ kw_1749) (Nat.le_of_ble_eq_true rfl) (Nat.le_of_ble_eq_true rfl) (show dc78 ≤ KCC - qn S from hlg.c) (show ds78 ≤ KSC - qu S from hlg.s) dX5_makeArray_108 ?_
            refine lv_topi (fun z37 ez37 => ?_)
            obtain rfl : z37 = (if ((2 : Int32) * ((qI U78 44 3) + v78_1)) < (20000 : Int32) then ((2 : Int32) * ((qI U78 44 3) + v78_1)) else (20000 : Int32)) := ez37
            replace h := h (hT_b34)
            obtain ⟨Q38, h0, h⟩ := h
            have hFc := cfree hR hA
            refine W_led2 (fun hL0 => ?_)
            refine va_callq (va_runS (As := [.ref (ad78 (qO U78 44 2)), .int (if ((2 : Int32) * ((qI U78 44 3) + v78_1)) < (20000 : Int32) then ((2 : Int32) * ((qI U78 44 3) + v78_1)) else (20000 : Int32))]) (rest := [.ref (ad78 44)]) ⟨hx, hb, hml, hown, hts⟩ (rJ7_copyOf_59c91 l g ad78 H U78 215 (qO U78 44 2) (if ((2 : Int32) * ((qI U78 44 3) + v78_1)) < (20000 : Int32) then ((2 : Int32) * ((qI U78 44 3) + v78_1)) else (20000 : Int32)) hR.w (by decide) (by decide) hT_b34 Q38 h0) (va_cwS 2 hts (gd_S kw_1097 kw_1745 kw_1723 kw_1744) rfl rfl rfl (by decide +kernel) ⟨Nat.le_of_ble_eq_true rfl, Nat.le_of_ble_eq_true rfl⟩) ⟨cblindH, fun U hU hW9 => cmkH hU hW9 hR hex hE hFc⟩ rfl rfl hl.1 rfl (lv_room (Nat.le_of_ble_eq_true rfl)) dX5_makeArray_111 ⟨(show dc78 + (KCC - qn U78) ≤ KCC - qn S from hlg.cm), (show ds78 + (KSC - qu U78) ≤ KSC - qu S from hlg.sm)⟩) hR.sS (fun q _ h => hFc q h) hFc (fun r39 S40 t9 H1 locs ht9 hvm9 hw9 hB9 hz9 hk9 hS => ?_)
            rcases S40 with ⟨S40, ak42⟩
            obtain ⟨hB9, dc9, ds9, hL9, hl9⟩ := hB9
            dsimp only at hw9 hB9 hl9
            rw [ht9] at hL9
            obtain ⟨b43, rfl, hq41, hw9, hs9, hk8, hT_b43⟩ := hw9
            have hw8 := hR.w
            have hak := hak.tr hk8 hlg.2.2.1
            have hE := hE.ad hk8
            have hR : RepC g ak42 A s S40 H1 locs := hR.callH ht9 hB9 hw9 hS hFc
            have hsh := hsh.tr hs9
            refine W_tight2 (hL0.tr hL9).1 (hL0.tr hL9).2.1 ?_
            have hlg := hlg.call hl9
            replace h := h b43 S40 hq41 hw9 hs9 hT_b43
            have ea_0 : ak42 44 = ad78 44 := hk8 _ (hw8.hd (hw8.2.1 _ finC_29).2.1 (by decide) (by decide))
            have hl : lv_has ls 3 [(0, .ref (ak42 44)), (1, .int v78_1)] := by simp only [ea_0]; exact hl
            refine W.eq (g2 := F0 m 114 ls (.ref (ak42 b43) :: [.ref (ak42 44)])) (by first | (simp only [ea_0]; rfl) | simp only [ea_0]) ?_
            clear hB9 hz9 hk9 hvm9 ht9 hw9 hs9 hS hL0 hL9
            generalize H1 = H at hR ⊢
            generalize dc9 = dc_ak42, ds9 = ds_ak42 at hlg ⊢
            refine va_put (D := rD g) (ci := 5) (v := .ref (ak42 b43)) (ty := (.array .int)) (C := RX5) (T := TX5) (N := 20) hx hb hts inX5 tyX5 tyX5_ok nmX5 hown hR.K hR.P hR.D hR.sS 44 (hR.at45 (hR.w.2.1 _ finC_29).2.1) rfl 2 (by decide) (hts _ kw_1069) (fun _ h9 => h9) rfl (by decide +kernel) rfl rfl (Nat.le_of_ble_eq_true rfl) dX5_makeArray_114 (fun H locs hP hD hS => ?_)
            have hw9 : wfC (wR S40 44 2 (some b43)) := hR.w.put (fun b q9 => by cases q9; exact (hT_b43).trans (by rw [(hR.w.2.1 _ finC_29).2.1]; rfl)) (nofC_44_2) (by rw [(hR.w.2.1 _ finC_29).2.1]; decide) (fun b _ q9 => absurd (show otgC (qT S40 44) 2 = 0 by rw [(hR.w.2.1 _ finC_29).2.1]; decide) q9) (fun _ => Option.some_ne_none _)
            have hTk9 : qT S40 44 = 45 := (hR.w.2.1 _ finC_29).2.1
            have hR : RepC g ak42 A s (wR S40 44 2 (some b43)) H locs := hR.pR45 (hR.w.2.1 _ finC_29).2.1 FX5_s2 hw9 hP hD hS
            obtain ⟨S44, eS44⟩ : ∃ z, z = wR S40 44 2 (some b43) := ⟨_, rfl⟩
            rw [← eS44] at hR
            replace h := h S44 eS44 hTk9 hR.w
            have hsh : shx S S44 := by rw [eS44]; exact hsh
            have hlg : lgC S S44 (dc78 + dc_ak42) (ds78 + ds_ak42) := by rw [eS44]; exact hlg
            exact J_117 ak42 (dc78 + dc_ak42) (ds78 + ds_ak42) S44 v78_1 _ _ ls h  hsh hlg hak hE hR (lv_sub hl [0, 1] rfl)
        refine lv_icmp_lt (tgt := 78) hx hb dX5_makeArray_57 (by decide) (fun c45 => ?_) (fun c45 => ?_)
        · replace h := h.1 (k_lt rfl hln9 c45)
          exact J_78 ad (0) (0) S7 x1 _ _ ls h  hsh hlg hak hE hR (lv_sub hl [0, 1] rfl)
        · replace h := h.2 (k_nlt rfl hln9 c45)
          refine lv_aload_n hx hb dX5_makeArray_60 rfl (lv_at hl 0 rfl) ?_
          refine lv_aload_n hx hb dX5_makeArray_61 rfl (lv_at hl 0 rfl) ?_
          have hT_b46 : qT S7 (qO S7 44 4) = 216 := hR.w.ref (hR.w.ptr ptrC_19) (hR.w.2.1 _ finC_29).2.1
          refine va_get (D := rD g) (ci := 5) (v := .ref (ad (qO S7 44 4))) (C := RX5) (T := TX5) (N := 20) hx hb hts inX5 hown hR.K hR.P 44 (hR.at45 (hR.w.2.1 _ finC_29).2.1) rfl 4 (by decide) (hts _ kw_1010) (fun _ h9 => h9) (congrArg (fun z => some (vf ad z)) (hR.w.ptr ptrC_19)) dX5_makeArray_62 ?_
          refine lv_iconst (v := 2) hx hb dX5_makeArray_65 (by decide) ?_
          refine lv_aload_n hx hb dX5_makeArray_66 rfl (lv_at hl 0 rfl) ?_
          have hT_b47 : qT S7 (qO S7 44 4) = 216 := hR.w.ref (hR.w.ptr ptrC_19) (hR.w.2.1 _ finC_29).2.1
          refine va_get (D := rD g) (ci := 5) (v := .ref (ad (qO S7 44 4))) (C := RX5) (T := TX5) (N := 20) hx hb hts inX5 hown hR.K hR.P 44 (hR.at45 (hR.w.2.1 _ finC_29).2.1) rfl 4 (by decide) (hts _ kw_1010) (fun _ h9 => h9) (congrArg (fun z => some (vf ad z)) (hR.w.ptr ptrC_19)) dX5_makeArray_67 ?_
          refine va_alen (v := (Int32.ofNat (qN S7 (qO S7 44 4)))) hx hb hR.K hR.P (qO S7 44 4) 1 (hR.atI hT_b47 (by decide)) rfl rfl dX5_makeArray_70 ?_
          have hln48 : (Int32.ofNat (qN S7 (qO S7 44 4))).toInt = (qN S7 (qO S7 44 4) : Int) := toI_len (hR.w.len9 (hT_b47) (by decide))
          refine lv_imul hx hb dX5_makeArray_71 ?_
          refine lv_topi (fun z49 ez49 => ?_)
          obtain rfl : z49 = ((2 : Int32) * (Int32.ofNat (qN S7 (qO S7 44 4)))) := ez49
          replace h := h (hT_b46)
          obtain ⟨Q50, h0, h⟩ := h
          have hFc := cfree hR hA
          refine W_led2 (fun hL0 => ?_)
          refine va_callq (va_runS (As := [.ref (ad (qO S7 44 4)), .int ((2 : Int32) * (Int32.ofNat (qN S7 (qO S7 44 4))))]) (rest := [.ref (ad 44)]) ⟨hx, hb, hml, hown, hts⟩ (rJ7_copyOf_59c91 l g ad H S7 216 (qO S7 44 4) ((2 : Int32) * (Int32.ofNat (qN S7 (qO S7 44 4)))) hR.w (by decide) (by decide) hT_b46 Q50 h0) (va_cwS 2 hts (gd_S kw_1097 kw_1745 kw_1723 kw_1744) rfl rfl rfl (by decide +kernel) ⟨Nat.le_of_ble_eq_true rfl, Nat.le_of_ble_eq_true rfl⟩) ⟨cblindH, fun U hU hW9 => cmkH hU hW9 hR hex hE hFc⟩ rfl rfl hl.1 rfl (lv_room (Nat.le_of_ble_eq_true rfl)) dX5_makeArray_72 ⟨(show 0 + (KCC - qn S7) ≤ KCC - qn S from hlg.cm), (show 0 + (KSC - qu S7) ≤ KSC - qu S from hlg.sm)⟩) hR.sS (fun q _ h => hFc q h) hFc (fun r51 S52 t9 H1 locs ht9 hvm9 hw9 hB9 hz9 hk9 hS => ?_)
          rcases S52 with ⟨S52, ak54⟩
          obtain ⟨hB9, dc9, ds9, hL9, hl9⟩ := hB9
          dsimp only at hw9 hB9 hl9
          rw [ht9] at hL9
          obtain ⟨b55, rfl, hq53, hw9, hs9, hk8, hT_b55⟩ := hw9
          have hw8 := hR.w
          have hak := hak.tr hk8 hlg.2.2.1
          have hE := hE.ad hk8
          have hR : RepC g ak54 A s S52 H1 locs := hR.callH ht9 hB9 hw9 hS hFc
          have hsh := hsh.tr hs9
          refine W_tight2 (hL0.tr hL9).1 (hL0.tr hL9).2.1 ?_
          have hlg := hlg.call hl9
          replace h := h b55 S52 hq53 hw9 hs9 hT_b55
          have ea_0 : ak54 44 = ad 44 := hk8 _ (hw8.hd (hw8.2.1 _ finC_29).2.1 (by decide) (by decide))
          have hl : lv_has ls 3 [(0, .ref (ak54 44)), (1, .int x1)] := by simp only [ea_0]; exact hl
          refine W.eq (g2 := F0 m 75 ls (.ref (ak54 b55) :: [.ref (ak54 44)])) (by first | (simp only [ea_0]; rfl) | simp only [ea_0]) ?_
          clear hB9 hz9 hk9 hvm9 ht9 hw9 hs9 hS hL0 hL9
          generalize H1 = H at hR ⊢
          generalize dc9 = dc_ak54, ds9 = ds_ak54 at hlg ⊢
          refine va_put (D := rD g) (ci := 5) (v := .ref (ak54 b55)) (ty := (.array .int)) (C := RX5) (T := TX5) (N := 20) hx hb hts inX5 tyX5 tyX5_ok nmX5 hown hR.K hR.P hR.D hR.sS 44 (hR.at45 (hR.w.2.1 _ finC_29).2.1) rfl 4 (by decide) (hts _ kw_1010) (fun _ h9 => h9) rfl (by decide +kernel) rfl rfl (Nat.le_of_ble_eq_true rfl) dX5_makeArray_75 (fun H locs hP hD hS => ?_)
          have hw9 : wfC (wR S52 44 4 (some b55)) := hR.w.put (fun b q9 => by cases q9; exact (hT_b55).trans (by rw [(hR.w.2.1 _ finC_29).2.1]; rfl)) (nofC_44_4) (by rw [(hR.w.2.1 _ finC_29).2.1]; decide) (fun b _ q9 => absurd (show otgC (qT S52 44) 4 = 0 by rw [(hR.w.2.1 _ finC_29).2.1]; decide) q9) (fun _ => Option.some_ne_none _)
          have hTk9 : qT S52 44 = 45 := (hR.w.2.1 _ finC_29).2.1
          have hR : RepC g ak54 A s (wR S52 44 4 (some b55)) H locs := hR.pR45 (hR.w.2.1 _ finC_29).2.1 FX5_s4 hw9 hP hD hS
          obtain ⟨S56, eS56⟩ : ∃ z, z = wR S52 44 4 (some b55) := ⟨_, rfl⟩
          rw [← eS56] at hR
          replace h := h S56 eS56 hTk9 hR.w
          have hsh : shx S S56 := by rw [eS56]; exact hsh
          have hlg : lgC S S56 (0 + dc_ak54) (0 + ds_ak54) := by rw [eS56]; exact hlg
          exact J_78 ak54 (0 + dc_ak54) (0 + ds_ak54) S56 x1 _ _ ls h  hsh hlg hak hE hR (lv_sub hl [0, 1] rfl)
      · replace h := h.2 (k_nle rfl rfl c5)
        exact J_32 ad (0) (0) S _ _ ls h  hsh hlg hak hE hR (lv_sub hl [0] rfl)
  · replace h := h.2 (k_nle (by decide) rfl c1)
    refine lv_aload_n hx hb dX5_makeArray_4 rfl (lv_at hl 0 rfl) ?_
    refine lv_iconst (v := 3) hx hb dX5_makeArray_5 (by decide) ?_
    obtain ⟨Q57, h0, h⟩ := h
    have hFc := cfree hR hA
    refine va_callv (va_runV (As := [.int 3]) (rest := []) ⟨hx, hb, hml, hown, hts⟩ (rX5_raise l g ad s.heap.size S (3 : Int32) hR.w  Q57 h0) (cwV 1 hts (gd_V kw_1017 kw_1136 kw_1137 kw_398 kw_1135) rfl rfl rfl (by decide +kernel) ⟨Nat.le_of_ble_eq_true rfl, Nat.le_of_ble_eq_true rfl⟩) ⟨cblind, va_recv hR.K hR.P (ci := 5) (q0 := 44) rfl (hR.at45 (hR.w.2.1 _ finC_29).2.1), fun U hU hW9 => cmk hU hW9 hR hex hE hFc⟩ rfl rfl hl.1 rfl (lv_room (Nat.le_of_ble_eq_true rfl)) dX5_makeArray_6 ⟨(show 0 + 0 ≤ KCC - qn S from hlg.c), (show 0 + 0 ≤ KSC - qu S from hlg.s)⟩) hR.sS (fun q _ h => hFc q h) hFc (fun  S58 t9 H1 locs ht9 hvm9 hw9 hB9 hz9 hk9 hS => ?_)
    obtain ⟨hq59, hw9, hs9⟩ := hw9
    have hR : RepC g ad A s S58 H1 locs := hR.call ht9 hB9 hw9 hS hFc
    have hsh := hsh.tr hs9.1
    have hlg : lgC S S58 (0) (0) := hlg.same hs9
    replace h := h  S58 hq59 hw9 hs9
    clear hB9 hz9 hk9 hvm9 ht9 hw9 hs9 hS
    generalize H1 = H at hR ⊢
    refine W_led2 (fun hLd => ?_)
    refine W.widen (k := KCC - qn S) (n := KSC - qu S) hlg.c hlg.s ?_
    exact W.vret hx hb hr (fun t9 ht9 hW9 => ⟨⟨(S58, ad), rfl, ⟨h, hR.w, hsh, hak⟩, ⟨⟨by rw [ht9]; exact hR.P, hR.D⟩, _, _, by rw [ht9]; exact hLd, hlg⟩⟩, hR.sS.F ht9⟩) hR.sS.2.2 dX5_makeArray_9
def wX5_tellLength (S : MS) (y1 : Int64) (Q : MS → Prop) : Prop := (((lg_cmp y1 0).toInt = 0 → (∃ Q11, wX5_raise S (1 : Int32) Q11 ∧ ∀ S12, Q11 S12 → wfC S12 → shy S S12 → Q S12)) ∧ (¬ (lg_cmp y1 0).toInt = 0 → (d_X5_lengthOf S (y1.toInt32) ∧ (∃ Q6, wX5_push S ((fX5_lengthOf S (y1.toInt32)).toInt64) Q6 ∧ ∀ S7, Q6 S7 → wfC S7 → shy S S7 → (∀ S10, S10 = wI S7 44 13 ((qI S7 44 13) + (1 : Int32)) → qT S7 44 = 45 → wfC S10 → Q S10)))))
set_option maxHeartbeats 2000000 in
set_option maxRecDepth 100000 in
theorem rX5_tellLength (l : Launch) (g : Gr) (ad : Nat → Nat) (sz : Nat) (S : MS) (y1 : Int64) (hw : wfC S) (Q : MS → Prop) (h : wX5_tellLength S y1 Q) : Met l yX5_tellLength (wt yX5_tellLength cX5_tellLength 3 none) ({ frames := 3, cells := 0, slots := 0, locals := 67 }) (va_Pc [.ref (ad 44), .long y1] (st_C g ad sz S)) (va_Qv (fun (u : MS) => Q u ∧ wfC u ∧ shy S u) (fun (u : MS) (t : State) => qEC g ad (va_A (WdC g ad S) sz) u t) (va_A (WdC g ad S) sz)) 0 0 (va_A (WdC g ad S) sz) := by
  refine Met.ofW (cc := cX5_tellLength) (maxL := 3) (ret := none) (by decide) rfl ?_
  intro p e s m args below meth c s₁ B hml hv
  obtain ⟨rfl, hsz, hP, hK, hD0, hex, hE⟩ := hv
  have hx := B.exec
  have hb := B.bytes
  have hr := B.returns
  have hts0 := atoms_spec (ws := wt yX5_tellLength cX5_tellLength 3 none) B.pre
  have hts : ∀ w ∈ tb, w.before _ s = true := fun w h => hts0 w (List.mem_cons_of_mem _ h)
  have hown : s.vm.findClass RX5 = some m.cls := findClass_of_methodNamed B.named
  subst hsz
  have hD := hD0.self (sz := s.heap.size)
  generalize hAe : va_A (WdC g ad S) s.heap.size = A at hD hE ⊢
  have hA : ∀ q : Nat, s.heap.size ≤ q → A q := fun q h => by rw [← hAe]; exact Or.inr h
  have hR : RepC g ad A s S s.heap [] := ⟨hK, hP, hD, va_S.rf, hw⟩
  clear hK hP hD hD0
  have hl := lv_entry ([.ref (ad 44), .long y1]) (n := 3) (Nat.le_of_ble_eq_true rfl)
  rw [lg_entry_eq]
  generalize (lg_sl ([.ref (ad 44), .long y1]) ++ List.replicate (3 - (lg_sl ([.ref (ad 44), .long y1])).length) Slot.unset).toArray = ls at hl ⊢
  have hl : lv_has ls 3 [(0, .ref (ad 44)), (1, .long y1)] := hl
  have hsh : shy S S := shy.rf
  unfold wX5_tellLength at h
  refine lv_lload_n hx hb dX5_tellLength_0 rfl (lv_at hl 1 rfl) ?_
  refine lv_lconst (v := 0) hx hb dX5_tellLength_1 (by decide) ?_
  refine W.lcmp hx hb dX5_tellLength_2 ?_
  refine lv_topi (fun z1 ez1 => ?_)
  obtain rfl : z1 = (lg_cmp y1 0) := ez1
  refine lv_if_ne (tgt := 12) hx hb dX5_tellLength_3 (by decide) (fun c2 => ?_) (fun c2 => ?_)
  · replace h := h.2 (k_ne rfl (by decide) c2)
    refine lv_aload_n hx hb dX5_tellLength_12 rfl (lv_at hl 0 rfl) ?_
    refine lv_aload_n hx hb dX5_tellLength_13 rfl (lv_at hl 0 rfl) ?_
    refine lv_lload_n hx hb dX5_tellLength_14 rfl (lv_at hl 1 rfl) ?_
    refine lv_l2i (v := (y1.toInt32)) hx hb dX5_tellLength_15 rfl ?_
    obtain ⟨hv3, h⟩ := h
    have hFc := cfree hR hA
    refine va_calli (va_runV (As := [.int (y1.toInt32)]) (rest := [.ref (ad 44)]) ⟨hx, hb, hml, hown, hts⟩ (rX5_lengthOf l g ad s.heap.size S (y1.toInt32) hR.w  hv3) (cwV 1 hts (gd_V kw_1035 kw_1088 kw_1089 kw_398 kw_1087) rfl rfl rfl (by decide +kernel) ⟨Nat.le_of_ble_eq_true rfl, Nat.le_of_ble_eq_true rfl⟩) ⟨cblind, va_recv hR.K hR.P (ci := 5) (q0 := 44) rfl (hR.at45 (hR.w.2.1 _ finC_29).2.1), fun U hU hW9 => cmk hU hW9 hR hex hE hFc⟩ rfl rfl hl.1 rfl (lv_room (Nat.le_of_ble_eq_true rfl)) dX5_tellLength_16 ⟨Nat.le_of_ble_eq_true rfl, Nat.le_of_ble_eq_true rfl⟩) hR.sS (fun q _ h => hFc q h) hFc (fun r4 u9 t9 H1 locs ht9 hvm9 hw9 hB9 hz9 hk9 hS => ?_)
    have hR : RepC g ad A s S H1 locs := hR.call ht9 hB9 hR.w hS hFc
    obtain rfl : r4 = (fX5_lengthOf S (y1.toInt32)) := hw9
    clear hB9 hz9 hk9 hvm9 ht9 hS
    generalize H1 = H at hR ⊢
    refine lv_i2l (v := ((fX5_lengthOf S (y1.toInt32)).toInt64)) hx hb dX5_tellLength_19 rfl ?_
    obtain ⟨Q6, h0, h⟩ := h
    have hFc := cfree hR hA
    refine va_callv (va_runV (As := [.long ((fX5_lengthOf S (y1.toInt32)).toInt64)]) (rest := []) ⟨hx, hb, hml, hown, hts⟩ (rX5_push l g ad H.size S ((fX5_lengthOf S (y1.toInt32)).toInt64) hR.w  Q6 h0) (cwV 1 hts (gd_V kw_1099 kw_1130 kw_1131 kw_398 kw_1129) rfl rfl rfl (by decide +kernel) ⟨Nat.le_of_ble_eq_true rfl, Nat.le_of_ble_eq_true rfl⟩) ⟨cblind, va_recv hR.K hR.P (ci := 5) (q0 := 44) rfl (hR.at45 (hR.w.2.1 _ finC_29).2.1), fun U hU hW9 => cmk hU hW9 hR hex hE hFc⟩ rfl rfl hl.1 rfl (lv_room (Nat.le_of_ble_eq_true rfl)) dX5_tellLength_20 ⟨Nat.le_of_ble_eq_true rfl, Nat.le_of_ble_eq_true rfl⟩) hR.sS (fun q _ h => hFc q h) hFc (fun  S7 t9 H1 locs ht9 hvm9 hw9 hB9 hz9 hk9 hS => ?_)
    obtain ⟨hq8, hw9, hs9⟩ := hw9
    have hR : RepC g ad A s S7 H1 locs := hR.call ht9 hB9 hw9 hS hFc
    have hsh := hsh.tr hs9
    replace h := h  S7 hq8 hw9 hs9
    clear hB9 hz9 hk9 hvm9 ht9 hw9 hs9 hS
    generalize H1 = H at hR ⊢
    refine lv_aload_n hx hb dX5_tellLength_23 rfl (lv_at hl 0 rfl) ?_
    refine lv_dup hx hb dX5_tellLength_24 rfl ?_
    refine va_get (D := rD g) (ci := 5) (v := .int (qI S7 44 13)) (C := RX5) (T := TX5) (N := 20) hx hb hts inX5 hown hR.K hR.P 44 (hR.at45 (hR.w.2.1 _ finC_29).2.1) rfl 13 (by decide) (hts _ kw_1021) (fun _ h9 => h9) rfl dX5_tellLength_25 ?_
    refine lv_iconst (v := 1) hx hb dX5_tellLength_28 (by decide) ?_
    refine lv_iadd hx hb dX5_tellLength_29 ?_
    refine lv_topi (fun z9 ez9 => ?_)
    obtain rfl : z9 = ((qI S7 44 13) + (1 : Int32)) := ez9
    refine va_put (D := rD g) (ci := 5) (v := .int ((qI S7 44 13) + (1 : Int32))) (ty := .int) (C := RX5) (T := TX5) (N := 20) hx hb hts inX5 tyX5 tyX5_ok nmX5 hown hR.K hR.P hR.D hR.sS 44 (hR.at45 (hR.w.2.1 _ finC_29).2.1) rfl 13 (by decide) (hts _ kw_1021) (fun _ h9 => h9) rfl (by decide +kernel) rfl rfl (Nat.le_of_ble_eq_true rfl) dX5_tellLength_30 (fun H locs hP hD hS => ?_)
    have hTk9 : qT S7 44 = 45 := (hR.w.2.1 _ finC_29).2.1
    have hR : RepC g ad A s (wI S7 44 13 ((qI S7 44 13) + (1 : Int32))) H locs := hR.pI45 (hR.w.2.1 _ finC_29).2.1 FX5_s13 (fun q9 => absurd q9 (by decide)) hP hD hS
    obtain ⟨S10, eS10⟩ : ∃ z, z = wI S7 44 13 ((qI S7 44 13) + (1 : Int32)) := ⟨_, rfl⟩
    rw [← eS10] at hR
    replace h := h S10 eS10 hTk9 hR.w
    have hsh : shy S S10 := by rw [eS10]; exact hsh
    exact W.vret hx hb hr (fun t9 ht9 hW9 => ⟨⟨S10, rfl, ⟨h, hR.w, hsh⟩, ⟨by rw [ht9]; exact hR.P, hR.D⟩⟩, hR.sS.F ht9⟩) hR.sS.2.2 dX5_tellLength_33
  · replace h := h.1 (k_eq rfl (by decide) c2)
    refine lv_aload_n hx hb dX5_tellLength_6 rfl (lv_at hl 0 rfl) ?_
    refine lv_iconst (v := 1) hx hb dX5_tellLength_7 (by decide) ?_
    obtain ⟨Q11, h0, h⟩ := h
    have hFc := cfree hR hA
    refine va_callv (va_runV (As := [.int 1]) (rest := []) ⟨hx, hb, hml, hown, hts⟩ (rX5_raise l g ad s.heap.size S (1 : Int32) hR.w  Q11 h0) (cwV 1 hts (gd_V kw_1017 kw_1136 kw_1137 kw_398 kw_1135) rfl rfl rfl (by decide +kernel) ⟨Nat.le_of_ble_eq_true rfl, Nat.le_of_ble_eq_true rfl⟩) ⟨cblind, va_recv hR.K hR.P (ci := 5) (q0 := 44) rfl (hR.at45 (hR.w.2.1 _ finC_29).2.1), fun U hU hW9 => cmk hU hW9 hR hex hE hFc⟩ rfl rfl hl.1 rfl (lv_room (Nat.le_of_ble_eq_true rfl)) dX5_tellLength_8 ⟨Nat.le_of_ble_eq_true rfl, Nat.le_of_ble_eq_true rfl⟩) hR.sS (fun q _ h => hFc q h) hFc (fun  S12 t9 H1 locs ht9 hvm9 hw9 hB9 hz9 hk9 hS => ?_)
    obtain ⟨hq13, hw9, hs9⟩ := hw9
    have hR : RepC g ad A s S12 H1 locs := hR.call ht9 hB9 hw9 hS hFc
    have hsh := hsh.tr hs9
    replace h := h  S12 hq13 hw9 hs9
    clear hB9 hz9 hk9 hvm9 ht9 hw9 hs9 hS
    generalize H1 = H at hR ⊢
    exact W.vret hx hb hr (fun t9 ht9 hW9 => ⟨⟨S12, rfl, ⟨h, hR.w, hsh⟩, ⟨by rw [ht9]; exact hR.P, hR.D⟩⟩, hR.sS.F ht9⟩) hR.sS.2.2 dX5_tellLength_11
def w_X5_useElement_J54 (Q : MS → Prop) (U54 : MS) : Prop := (wfC U54 → (∃ Q12, wX5_raise U54 (2 : Int32) Q12 ∧ ∀ S13, Q12 S13 → wfC S13 → shy U54 S13 → Q S13))
def w_X5_useElement_J113 (Q : MS → Prop) (U113 : MS) : Prop := (wfC U113 → (∀ S26, S26 = wI U113 44 13 ((qI U113 44 13) + (1 : Int32)) → qT U113 44 = 45 → wfC S26 → Q S26))
def w_X5_useElement_J15 (Q : MS → Prop) (U15 : MS) (t15_0 : Int32) (v15_1 : Int32) : Prop := (wfC U15 → (∃ Q1, wX5_pop U15 Q1 ∧ ∀ r2 S3, Q1 r2 S3 → wfC S3 → shy U15 S3 → (∀ a5 : Int32, a5 = (r2.toInt32) → (∃ Q6, wX5_pop S3 Q6 ∧ ∀ r7 S8, Q6 r7 S8 → wfC S8 → shy S3 S8 → (∀ a10 : Int32, a10 = (r7.toInt32) → ((a10.toInt = 0 → (∃ Q42, wX5_raise S8 (1 : Int32) Q42 ∧ ∀ S43, Q42 S43 → wfC S43 → shy S8 S43 → Q S43)) ∧ (¬ a10.toInt = 0 → ((a5.toInt < 0 → w_X5_useElement_J54 Q S8) ∧ (¬ a5.toInt < 0 → (d_X5_lengthOf S8 a10 ∧ ((a5.toInt < (fX5_lengthOf S8 a10).toInt → (d_X5_arrayStart S8 a10 ∧ (∀ a24 : Int32, a24 = ((fX5_arrayStart S8 a10) + a5) → ((v15_1.toInt = 46 → (∃ Q35, wX5_heapAt S8 a24 Q35 ∧ ∀ r36 S37, Q35 r36 S37 → wfC S37 → shy S8 S37 → (∃ Q39, wX5_push S37 (r36.toInt64) Q39 ∧ ∀ S40, Q39 S40 → wfC S40 → shy S37 S40 → w_X5_useElement_J113 Q S40))) ∧ (¬ v15_1.toInt = 46 → ((a24.toInt < 0 → w_X5_useElement_J113 Q S8) ∧ (¬ a24.toInt < 0 → (((qN S8 (qO S8 44 2) : Int) ≤ a24.toInt → w_X5_useElement_J113 Q S8) ∧ (¬ (qN S8 (qO S8 44 2) : Int) ≤ a24.toInt → (((0 : Int) ≤ a24.toInt ∧ a24.toInt < (qN S8 (qO S8 44 2) : Int)) ∧ (∀ S34, S34 = wI S8 (qO S8 44 2) a24.toInt.toNat t15_0 → qT S8 (qO S8 44 2) = 215 → wfC S34 → w_X5_useElement_J113 Q S34))))))))))) ∧ (¬ a5.toInt < (fX5_lengthOf S8 a10).toInt → w_X5_useElement_J54 Q S8))))))))))))
def wX5_useElement (S : MS) (x1 : Int32) (Q : MS → Prop) : Prop := ((x1.toInt = 79 → (∃ Q46, wX5_pop S Q46 ∧ ∀ r47 S48, Q46 r47 S48 → wfC S48 → shy S S48 → w_X5_useElement_J15 Q S48 (r47.toInt32) x1)) ∧ (¬ x1.toInt = 79 → w_X5_useElement_J15 Q S 0 x1))
set_option maxHeartbeats 2000000 in
set_option maxRecDepth 100000 in
theorem rX5_useElement (l : Launch) (g : Gr) (ad : Nat → Nat) (sz : Nat) (S : MS) (x1 : Int32) (hw : wfC S) (Q : MS → Prop) (h : wX5_useElement S x1 Q) : Met l yX5_useElement (wt yX5_useElement cX5_useElement 6 none) ({ frames := 3, cells := 0, slots := 0, locals := 67 }) (va_Pc [.ref (ad 44), .int x1] (st_C g ad sz S)) (va_Qv (fun (u : MS) => Q u ∧ wfC u ∧ shy S u) (fun (u : MS) (t : State) => qEC g ad (va_A (WdC g ad S) sz) u t) (va_A (WdC g ad S) sz)) 0 0 (va_A (WdC g ad S) sz) := by
  refine Met.ofW (cc := cX5_useElement) (maxL := 6) (ret := none) (by decide) rfl ?_
  intro p e s m args below meth c s₁ B hml hv
  obtain ⟨rfl, hsz, hP, hK, hD0, hex, hE⟩ := hv
  have hx := B.exec
  have hb := B.bytes
  have hr := B.returns
  have hts0 := atoms_spec (ws := wt yX5_useElement cX5_useElement 6 none) B.pre
  have hts : ∀ w ∈ tb, w.before _ s = true := fun w h => hts0 w (List.mem_cons_of_mem _ h)
  have hown : s.vm.findClass RX5 = some m.cls := findClass_of_methodNamed B.named
  subst hsz
  have hD := hD0.self (sz := s.heap.size)
  generalize hAe : va_A (WdC g ad S) s.heap.size = A at hD hE ⊢
  have hA : ∀ q : Nat, s.heap.size ≤ q → A q := fun q h => by rw [← hAe]; exact Or.inr h
  have hR : RepC g ad A s S s.heap [] := ⟨hK, hP, hD, va_S.rf, hw⟩
  clear hK hP hD hD0
  have hl := lv_entry ([.ref (ad 44), .int x1]) (n := 6) (Nat.le_of_ble_eq_true rfl)
  rw [lg_entry_eq]
  generalize (lg_sl ([.ref (ad 44), .int x1]) ++ List.replicate (6 - (lg_sl ([.ref (ad 44), .int x1])).length) Slot.unset).toArray = ls at hl ⊢
  have hl : lv_has ls 6 [(0, .ref (ad 44)), (1, .int x1)] := hl
  have hsh : shy S S := shy.rf
  unfold wX5_useElement at h
  refine lv_iload_n hx hb dX5_useElement_0 rfl (lv_at hl 1 rfl) ?_
  refine lv_bipush (v := 79) hx hb dX5_useElement_1 (by decide) ?_
  have J_15 : ∀ (U15 : MS) (t15_0 : Int32) (v15_1 : Int32) (H : Heap) (locs : List Loc) (ls : Array Slot), w_X5_useElement_J15 Q U15 t15_0 v15_1 → shy S U15 → RepC g ad A s U15 H locs → lv_has ls 6 [(0, .ref (ad 44)), (1, .int v15_1)] → W p l e (headSpec (wt yX5_useElement cX5_useElement 6 none) ({ frames := 3, cells := 0, slots := 0, locals := 67 })).room s m ([.ref (ad 44), .int x1] : List Value).toArray below meth c H locs 0 0 (MQ below (va_Qv (fun (u : MS) => Q u ∧ wfC u ∧ shy S u) (fun (u : MS) (t : State) => qEC g ad A u t) A) ([.ref (ad 44), .int x1] : List Value).toArray s 0 0 A) (F0 m 15 ls [.int t15_0]) := by
    intro U15 t15_0 v15_1 H locs ls h hsh hR hl
    unfold w_X5_useElement_J15 at h
    replace h := h hR.w
    refine lv_istore_n (lv' := [(2, .int t15_0), (0, .ref (ad 44)), (1, .int v15_1)]) hx hb dX5_useElement_15 rfl hl (by decide) rfl (fun ls hl => ?_)
    refine lv_aload_n hx hb dX5_useElement_16 rfl (lv_at hl 1 rfl) ?_
    obtain ⟨Q1, h0, h⟩ := h
    have hFc := cfree hR hA
    refine va_calll (va_runV (As := []) (rest := []) ⟨hx, hb, hml, hown, hts⟩ (rX5_pop l g ad H.size U15 hR.w  Q1 h0) (cwV 0 hts (gd_V kw_1080 kw_1124 kw_1125 kw_398 kw_1123) rfl rfl rfl (by decide +kernel) ⟨Nat.le_of_ble_eq_true rfl, Nat.le_of_ble_eq_true rfl⟩) ⟨cblind, va_recv hR.K hR.P (ci := 5) (q0 := 44) rfl (hR.at45 (hR.w.2.1 _ finC_29).2.1), fun U hU hW9 => cmk hU hW9 hR hex hE hFc⟩ rfl rfl hl.1 rfl (lv_room (Nat.le_of_ble_eq_true rfl)) dX5_useElement_17 ⟨Nat.le_of_ble_eq_true rfl, Nat.le_of_ble_eq_true rfl⟩) hR.sS (fun q _ h => hFc q h) hFc (fun r2 S3 t9 H1 locs ht9 hvm9 hw9 hB9 hz9 hk9 hS => ?_)
    obtain ⟨hq4, hw9, hs9⟩ := hw9
    have hR : RepC g ad A s S3 H1 locs := hR.call ht9 hB9 hw9 hS hFc
    have hsh := hsh.tr hs9
    replace h := h r2 S3 hq4 hw9 hs9
    clear hB9 hz9 hk9 hvm9 ht9 hw9 hs9 hS
    generalize H1 = H at hR ⊢
    refine lv_l2i (v := (r2.toInt32)) hx hb dX5_useElement_20 rfl ?_
    obtain ⟨a5, ea5⟩ : ∃ z, z = (r2.toInt32) := ⟨_, rfl⟩
    rw [← ea5]
    replace h := h a5 ea5
    refine lv_istore_n (lv' := [(3, .int a5), (2, .int t15_0), (0, .ref (ad 44)), (1, .int v15_1)]) hx hb dX5_useElement_21 rfl hl (by decide) rfl (fun ls hl => ?_)
    refine lv_aload_n hx hb dX5_useElement_22 rfl (lv_at hl 2 rfl) ?_
    obtain ⟨Q6, h0, h⟩ := h
    have hFc := cfree hR hA
    refine va_calll (va_runV (As := []) (rest := []) ⟨hx, hb, hml, hown, hts⟩ (rX5_pop l g ad H.size S3 hR.w  Q6 h0) (cwV 0 hts (gd_V kw_1080 kw_1124 kw_1125 kw_398 kw_1123) rfl rfl rfl (by decide +kernel) ⟨Nat.le_of_ble_eq_true rfl, Nat.le_of_ble_eq_true rfl⟩) ⟨cblind, va_recv hR.K hR.P (ci := 5) (q0 := 44) rfl (hR.at45 (hR.w.2.1 _ finC_29).2.1), fun U hU hW9 => cmk hU hW9 hR hex hE hFc⟩ rfl rfl hl.1 rfl (lv_room (Nat.le_of_ble_eq_true rfl)) dX5_useElement_23 ⟨Nat.le_of_ble_eq_true rfl, Nat.le_of_ble_eq_true rfl⟩) hR.sS (fun q _ h => hFc q h) hFc (fun r7 S8 t9 H1 locs ht9 hvm9 hw9 hB9 hz9 hk9 hS => ?_)
    obtain ⟨hq9, hw9, hs9⟩ := hw9
    have hR : RepC g ad A s S8 H1 locs := hR.call ht9 hB9 hw9 hS hFc
    have hsh := hsh.tr hs9
    replace h := h r7 S8 hq9 hw9 hs9
    clear hB9 hz9 hk9 hvm9 ht9 hw9 hs9 hS
    generalize H1 = H at hR ⊢
    refine lv_l2i (v := (r7.toInt32)) hx hb dX5_useElement_26 rfl ?_
    obtain ⟨a10, ea10⟩ : ∃ z, z = (r7.toInt32) := ⟨_, rfl⟩
    rw [← ea10]
    replace h := h a10 ea10
    refine lv_istore (lv' := [(4, .int a10), (3, .int a5), (2, .int t15_0), (0, .ref (ad 44)), (1, .int v15_1)]) hx hb dX5_useElement_27 hl (by decide) rfl (fun ls hl => ?_)
    refine lv_iload hx hb dX5_useElement_29 (lv_at hl 0 rfl) ?_
    refine lv_if_ne (tgt := 40) hx hb dX5_useElement_31 (by decide) (fun c11 => ?_) (fun c11 => ?_)
    · replace h := h.2 (k_ne rfl (by decide) c11)
      refine lv_iload_n hx hb dX5_useElement_40 rfl (lv_at hl 1 rfl) ?_
      have J_54 : ∀ (U54 : MS) (H : Heap) (locs : List Loc) (ls : Array Slot), w_X5_useElement_J54 Q U54 → shy S U54 → RepC g ad A s U54 H locs → lv_has ls 6 [(0, .ref (ad 44))] → W p l e (headSpec (wt yX5_useElement cX5_useElement 6 none) ({ frames := 3, cells := 0, slots := 0, locals := 67 })).room s m ([.ref (ad 44), .int x1] : List Value).toArray below meth c H locs 0 0 (MQ below (va_Qv (fun (u : MS) => Q u ∧ wfC u ∧ shy S u) (fun (u : MS) (t : State) => qEC g ad A u t) A) ([.ref (ad 44), .int x1] : List Value).toArray s 0 0 A) (F0 m 54 ls []) := by
        intro U54 H locs ls h hsh hR hl
        unfold w_X5_useElement_J54 at h
        replace h := h hR.w
        refine lv_aload_n hx hb dX5_useElement_54 rfl (lv_at hl 0 rfl) ?_
        refine lv_iconst (v := 2) hx hb dX5_useElement_55 (by decide) ?_
        obtain ⟨Q12, h0, h⟩ := h
        have hFc := cfree hR hA
        refine va_callv (va_runV (As := [.int 2]) (rest := []) ⟨hx, hb, hml, hown, hts⟩ (rX5_raise l g ad H.size U54 (2 : Int32) hR.w  Q12 h0) (cwV 1 hts (gd_V kw_1017 kw_1136 kw_1137 kw_398 kw_1135) rfl rfl rfl (by decide +kernel) ⟨Nat.le_of_ble_eq_true rfl, Nat.le_of_ble_eq_true rfl⟩) ⟨cblind, va_recv hR.K hR.P (ci := 5) (q0 := 44) rfl (hR.at45 (hR.w.2.1 _ finC_29).2.1), fun U hU hW9 => cmk hU hW9 hR hex hE hFc⟩ rfl rfl hl.1 rfl (lv_room (Nat.le_of_ble_eq_true rfl)) dX5_useElement_56 ⟨Nat.le_of_ble_eq_true rfl, Nat.le_of_ble_eq_true rfl⟩) hR.sS (fun q _ h => hFc q h) hFc (fun  S13 t9 H1 locs ht9 hvm9 hw9 hB9 hz9 hk9 hS => ?_)
        obtain ⟨hq14, hw9, hs9⟩ := hw9
        have hR : RepC g ad A s S13 H1 locs := hR.call ht9 hB9 hw9 hS hFc
        have hsh := hsh.tr hs9
        replace h := h  S13 hq14 hw9 hs9
        clear hB9 hz9 hk9 hvm9 ht9 hw9 hs9 hS
        generalize H1 = H at hR ⊢
        exact W.vret hx hb hr (fun t9 ht9 hW9 => ⟨⟨S13, rfl, ⟨h, hR.w, hsh⟩, ⟨by rw [ht9]; exact hR.P, hR.D⟩⟩, hR.sS.F ht9⟩) hR.sS.2.2 dX5_useElement_59
      refine lv_if_lt (tgt := 54) hx hb dX5_useElement_41 (by decide) (fun c15 => ?_) (fun c15 => ?_)
      · replace h := h.1 (k_lt rfl (by decide) c15)
        exact J_54 S8 _ _ ls h  hsh hR (lv_sub hl [3] rfl)
      · replace h := h.2 (k_nlt rfl (by decide) c15)
        refine lv_iload_n hx hb dX5_useElement_44 rfl (lv_at hl 1 rfl) ?_
        refine lv_aload_n hx hb dX5_useElement_45 rfl (lv_at hl 3 rfl) ?_
        refine lv_iload hx hb dX5_useElement_46 (lv_at hl 0 rfl) ?_
        obtain ⟨hv16, h⟩ := h
        have hFc := cfree hR hA
        refine va_calli (va_runV (As := [.int a10]) (rest := [.int a5]) ⟨hx, hb, hml, hown, hts⟩ (rX5_lengthOf l g ad H.size S8 a10 hR.w  hv16) (cwV 1 hts (gd_V kw_1035 kw_1088 kw_1089 kw_398 kw_1087) rfl rfl rfl (by decide +kernel) ⟨Nat.le_of_ble_eq_true rfl, Nat.le_of_ble_eq_true rfl⟩) ⟨cblind, va_recv hR.K hR.P (ci := 5) (q0 := 44) rfl (hR.at45 (hR.w.2.1 _ finC_29).2.1), fun U hU hW9 => cmk hU hW9 hR hex hE hFc⟩ rfl rfl hl.1 rfl (lv_room (Nat.le_of_ble_eq_true rfl)) dX5_useElement_48 ⟨Nat.le_of_ble_eq_true rfl, Nat.le_of_ble_eq_true rfl⟩) hR.sS (fun q _ h => hFc q h) hFc (fun r17 u9 t9 H1 locs ht9 hvm9 hw9 hB9 hz9 hk9 hS => ?_)
        have hR : RepC g ad A s S8 H1 locs := hR.call ht9 hB9 hR.w hS hFc
        obtain rfl : r17 = (fX5_lengthOf S8 a10) := hw9
        clear hB9 hz9 hk9 hvm9 ht9 hS
        generalize H1 = H at hR ⊢
        refine lv_icmp_lt (tgt := 60) hx hb dX5_useElement_51 (by decide) (fun c19 => ?_) (fun c19 => ?_)
        · replace h := h.1 (k_lt rfl rfl c19)
          refine lv_aload_n hx hb dX5_useElement_60 rfl (lv_at hl 3 rfl) ?_
          refine lv_iload hx hb dX5_useElement_61 (lv_at hl 0 rfl) ?_
          obtain ⟨hv20, h⟩ := h
          have hFc := cfree hR hA
          refine va_calli (va_runV (As := [.int a10]) (rest := []) ⟨hx, hb, hml, hown, hts⟩ (rX5_arrayStart l g ad H.size S8 a10 hR.w  hv20) (cwV 1 hts (gd_V kw_1036 kw_1006 kw_1007 kw_398 kw_1005) rfl rfl rfl (by decide +kernel) ⟨Nat.le_of_ble_eq_true rfl, Nat.le_of_ble_eq_true rfl⟩) ⟨cblind, va_recv hR.K hR.P (ci := 5) (q0 := 44) rfl (hR.at45 (hR.w.2.1 _ finC_29).2.1), fun U hU hW9 => cmk hU hW9 hR hex hE hFc⟩ rfl rfl hl.1 rfl (lv_room (Nat.le_of_ble_eq_true rfl)) dX5_useElement_63 ⟨Nat.le_of_ble_eq_true rfl, Nat.le_of_ble_eq_true rfl⟩) hR.sS (fun q _ h => hFc q h) hFc (fun r21 u9 t9 H1 locs ht9 hvm9 hw9 hB9 hz9 hk9 hS => ?_)
          have hR : RepC g ad A s S8 H1 locs := hR.call ht9 hB9 hR.w hS hFc
          obtain rfl : r21 = (fX5_arrayStart S8 a10) := hw9
          clear hB9 hz9 hk9 hvm9 ht9 hS
          generalize H1 = H at hR ⊢
          refine lv_iload_n hx hb dX5_useElement_66 rfl (lv_at hl 1 rfl) ?_
          refine lv_iadd hx hb dX5_useElement_67 ?_
          refine lv_topi (fun z23 ez23 => ?_)
          obtain rfl : z23 = ((fX5_arrayStart S8 a10) + a5) := ez23
          obtain ⟨a24, ea24⟩ : ∃ z, z = ((fX5_arrayStart S8 a10) + a5) := ⟨_, rfl⟩
          rw [← ea24]
          replace h := h a24 ea24
          refine lv_istore (lv' := [(5, .int a24), (4, .int a10), (3, .int a5), (2, .int t15_0), (0, .ref (ad 44)), (1, .int v15_1)]) hx hb dX5_useElement_68 hl (by decide) rfl (fun ls hl => ?_)
          refine lv_iload_n hx hb dX5_useElement_70 rfl (lv_at hl 5 rfl) ?_
          refine lv_bipush (v := 46) hx hb dX5_useElement_71 (by decide) ?_
          have J_113 : ∀ (U113 : MS) (H : Heap) (locs : List Loc) (ls : Array Slot), w_X5_useElement_J113 Q U113 → shy S U113 → RepC g ad A s U113 H locs → lv_has ls 6 [(0, .ref (ad 44))] → W p l e (headSpec (wt yX5_useElement cX5_useElement 6 none) ({ frames := 3, cells := 0, slots := 0, locals := 67 })).room s m ([.ref (ad 44), .int x1] : List Value).toArray below meth c H locs 0 0 (MQ below (va_Qv (fun (u : MS) => Q u ∧ wfC u ∧ shy S u) (fun (u : MS) (t : State) => qEC g ad A u t) A) ([.ref (ad 44), .int x1] : List Value).toArray s 0 0 A) (F0 m 113 ls []) := by
            intro U113 H locs ls h hsh hR hl
            unfold w_X5_useElement_J113 at h
            replace h := h hR.w
            refine lv_aload_n hx hb dX5_useElement_113 rfl (lv_at hl 0 rfl) ?_
            refine lv_dup hx hb dX5_useElement_114 rfl ?_
            refine va_get (D := rD g) (ci := 5) (v := .int (qI U113 44 13)) (C := RX5) (T := TX5) (N := 20) hx hb hts inX5 hown hR.K hR.P 44 (hR.at45 (hR.w.2.1 _ finC_29).2.1) rfl 13 (by decide) (hts _ kw_1021) (fun _ h9 => h9) rfl dX5_useElement_115 ?_
            refine lv_iconst (v := 1) hx hb dX5_useElement_118 (by decide) ?_
            refine lv_iadd hx hb dX5_useElement_119 ?_
            refine lv_topi (fun z25 ez25 => ?_)
            obtain rfl : z25 = ((qI U113 44 13) + (1 : Int32)) := ez25
            refine va_put (D := rD g) (ci := 5) (v := .int ((qI U113 44 13) + (1 : Int32))) (ty := .int) (C := RX5) (T := TX5) (N := 20) hx hb hts inX5 tyX5 tyX5_ok nmX5 hown hR.K hR.P hR.D hR.sS 44 (hR.at45 (hR.w.2.1 _ finC_29).2.1) rfl 13 (by decide) (hts _ kw_1021) (fun _ h9 => h9) rfl (by decide +kernel) rfl rfl (Nat.le_of_ble_eq_true rfl) dX5_useElement_120 (fun H locs hP hD hS => ?_)
            have hTk9 : qT U113 44 = 45 := (hR.w.2.1 _ finC_29).2.1
            have hR : RepC g ad A s (wI U113 44 13 ((qI U113 44 13) + (1 : Int32))) H locs := hR.pI45 (hR.w.2.1 _ finC_29).2.1 FX5_s13 (fun q9 => absurd q9 (by decide)) hP hD hS
            obtain ⟨S26, eS26⟩ : ∃ z, z = wI U113 44 13 ((qI U113 44 13) + (1 : Int32)) := ⟨_, rfl⟩
            rw [← eS26] at hR
            replace h := h S26 eS26 hTk9 hR.w
            have hsh : shy S S26 := by rw [eS26]; exact hsh
            exact W.vret hx hb hr (fun t9 ht9 hW9 => ⟨⟨S26, rfl, ⟨h, hR.w, hsh⟩, ⟨by rw [ht9]; exact hR.P, hR.D⟩⟩, hR.sS.F ht9⟩) hR.sS.2.2 dX5_useElement_123
          refine lv_icmp_ne (tgt := 90) hx hb dX5_useElement_73 (by decide) (fun c27 => ?_) (fun c27 => ?_)
          · replace h := h.2 (k_ne rfl (by decide) c27)
            refine lv_iload hx hb dX5_useElement_90 (lv_at hl 0 rfl) ?_
            refine lv_if_lt (tgt := 113) hx hb dX5_useElement_92 (by decide) (fun c28 => ?_) (fun c28 => ?_)
            · replace h := h.1 (k_lt rfl (by decide) c28)
              exact J_113 S8 _ _ ls h  hsh hR (lv_sub hl [4] rfl)
            · replace h := h.2 (k_nlt rfl (by decide) c28)
              refine lv_iload hx hb dX5_useElement_95 (lv_at hl 0 rfl) ?_
              refine lv_aload_n hx hb dX5_useElement_97 rfl (lv_at hl 4 rfl) ?_
              have hT_b29 : qT S8 (qO S8 44 2) = 215 := hR.w.ref (hR.w.ptr ptrC_18) (hR.w.2.1 _ finC_29).2.1
              refine va_get (D := rD g) (ci := 5) (v := .ref (ad (qO S8 44 2))) (C := RX5) (T := TX5) (N := 20) hx hb hts inX5 hown hR.K hR.P 44 (hR.at45 (hR.w.2.1 _ finC_29).2.1) rfl 2 (by decide) (hts _ kw_1069) (fun _ h9 => h9) (congrArg (fun z => some (vf ad z)) (hR.w.ptr ptrC_18)) dX5_useElement_98 ?_
              refine va_alen (v := (Int32.ofNat (qN S8 (qO S8 44 2)))) hx hb hR.K hR.P (qO S8 44 2) 1 (hR.atI hT_b29 (by decide)) rfl rfl dX5_useElement_101 ?_
              have hln30 : (Int32.ofNat (qN S8 (qO S8 44 2))).toInt = (qN S8 (qO S8 44 2) : Int) := toI_len (hR.w.len9 (hT_b29) (by decide))
              refine lv_icmp_ge (tgt := 113) hx hb dX5_useElement_102 (by decide) (fun c31 => ?_) (fun c31 => ?_)
              · replace h := h.1 (k_le hln30 rfl c31)
                exact J_113 S8 _ _ ls h  hsh hR (lv_sub hl [4] rfl)
              · replace h := h.2 (k_nle hln30 rfl c31)
                refine lv_aload_n hx hb dX5_useElement_105 rfl (lv_at hl 4 rfl) ?_
                have hT_b32 : qT S8 (qO S8 44 2) = 215 := hR.w.ref (hR.w.ptr ptrC_18) (hR.w.2.1 _ finC_29).2.1
                refine va_get (D := rD g) (ci := 5) (v := .ref (ad (qO S8 44 2))) (C := RX5) (T := TX5) (N := 20) hx hb hts inX5 hown hR.K hR.P 44 (hR.at45 (hR.w.2.1 _ finC_29).2.1) rfl 2 (by decide) (hts _ kw_1069) (fun _ h9 => h9) (congrArg (fun z => some (vf ad z)) (hR.w.ptr ptrC_18)) dX5_useElement_106 ?_
                refine lv_iload hx hb dX5_useElement_109 (lv_at hl 0 rfl) ?_
                refine lv_iload_n hx hb dX5_useElement_111 rfl (lv_at hl 3 rfl) ?_
                obtain ⟨hv33, h⟩ := h
                refine va_iast hx hb hR.K hR.P hR.D hR.sS (qO S8 44 2) 1 (hR.atI hT_b32 (by decide)) rfl (k_ix (x := a24) (a := a24.toInt) rfl hv33) dX5_useElement_112 (fun H locs hP hD hS => ?_)
                have hTk9 : qT S8 (qO S8 44 2) = 215 := hT_b32
                have hR : RepC g ad A s (wI S8 (qO S8 44 2) a24.toInt.toNat t15_0) H locs := hR.aI hT_b32 (by decide) hP hD hS
                obtain ⟨S34, eS34⟩ : ∃ z, z = wI S8 (qO S8 44 2) a24.toInt.toNat t15_0 := ⟨_, rfl⟩
                rw [← eS34] at hR
                replace h := h S34 eS34 hTk9 hR.w
                have hsh : shy S S34 := by rw [eS34]; exact hsh
                exact J_113 S34 _ _ ls h  hsh hR (lv_sub hl [4] rfl)
          · replace h := h.1 (k_eq rfl (by decide) c27)
            refine lv_aload_n hx hb dX5_useElement_76 rfl (lv_at hl 4 rfl) ?_
            refine lv_aload_n hx hb dX5_useElement_77 rfl (lv_at hl 4 rfl) ?_
            refine lv_iload hx hb dX5_useElement_78 (lv_at hl 0 rfl) ?_
            obtain ⟨Q35, h0, h⟩ := h
            have hFc := cfree hR hA
            refine va_calli (va_runV (As := [.int a24]) (rest := [.ref (ad 44)]) ⟨hx, hb, hml, hown, hts⟩ (rX5_heapAt l g ad H.size S8 a24 hR.w  Q35 h0) (cwV 1 hts (gd_V kw_1037 kw_1067 kw_1068 kw_398 kw_1066) rfl rfl rfl (by decide +kernel) ⟨Nat.le_of_ble_eq_true rfl, Nat.le_of_ble_eq_true rfl⟩) ⟨cblind, va_recv hR.K hR.P (ci := 5) (q0 := 44) rfl (hR.at45 (hR.w.2.1 _ finC_29).2.1), fun U hU hW9 => cmk hU hW9 hR hex hE hFc⟩ rfl rfl hl.1 rfl (lv_room (Nat.le_of_ble_eq_true rfl)) dX5_useElement_80 ⟨Nat.le_of_ble_eq_true rfl, Nat.le_of_ble_eq_true rfl⟩) hR.sS (fun q _ h => hFc q h) hFc (fun r36 S37 t9 H1 locs ht9 hvm9 hw9 hB9 hz9 hk9 hS => ?_)
            obtain ⟨hq38, hw9, hs9⟩ := hw9
            have hR : RepC g ad A s S37 H1 locs := hR.call ht9 hB9 hw9 hS hFc
            have hsh := hsh.tr hs9
            replace h := h r36 S37 hq38 hw9 hs9
            clear hB9 hz9 hk9 hvm9 ht9 hw9 hs9 hS
            generalize H1 = H at hR ⊢
            refine lv_i2l (v := (r36.toInt64)) hx hb dX5_useElement_83 rfl ?_
            obtain ⟨Q39, h0, h⟩ := h
            have hFc := cfree hR hA
            refine va_callv (va_runV (As := [.long (r36.toInt64)]) (rest := []) ⟨hx, hb, hml, hown, hts⟩ (rX5_push l g ad H.size S37 (r36.toInt64) hR.w  Q39 h0) (cwV 1 hts (gd_V kw_1099 kw_1130 kw_1131 kw_398 kw_1129) rfl rfl rfl (by decide +kernel) ⟨Nat.le_of_ble_eq_true rfl, Nat.le_of_ble_eq_true rfl⟩) ⟨cblind, va_recv hR.K hR.P (ci := 5) (q0 := 44) rfl (hR.at45 (hR.w.2.1 _ finC_29).2.1), fun U hU hW9 => cmk hU hW9 hR hex hE hFc⟩ rfl rfl hl.1 rfl (lv_room (Nat.le_of_ble_eq_true rfl)) dX5_useElement_84 ⟨Nat.le_of_ble_eq_true rfl, Nat.le_of_ble_eq_true rfl⟩) hR.sS (fun q _ h => hFc q h) hFc (fun  S40 t9 H1 locs ht9 hvm9 hw9 hB9 hz9 hk9 hS => ?_)
            obtain ⟨hq41, hw9, hs9⟩ := hw9
            have hR : RepC g ad A s S40 H1 locs := hR.call ht9 hB9 hw9 hS hFc
            have hsh := hsh.tr hs9
            replace h := h  S40 hq41 hw9 hs9
            clear hB9 hz9 hk9 hvm9 ht9 hw9 hs9 hS
            generalize H1 = H at hR ⊢
            refine lv_goto (tgt := 113) hx hb dX5_useElement_87 (by decide) ?_
            exact J_113 S40 _ _ ls h  hsh hR (lv_sub hl [4] rfl)
        · replace h := h.2 (k_nlt rfl rfl c19)
          exact J_54 S8 _ _ ls h  hsh hR (lv_sub hl [3] rfl)
    · replace h := h.1 (k_eq rfl (by decide) c11)
      refine lv_aload_n hx hb dX5_useElement_34 rfl (lv_at hl 3 rfl) ?_
      refine lv_iconst (v := 1) hx hb dX5_useElement_35 (by decide) ?_
      obtain ⟨Q42, h0, h⟩ := h
      have hFc := cfree hR hA
      refine va_callv (va_runV (As := [.int 1]) (rest := []) ⟨hx, hb, hml, hown, hts⟩ (rX5_raise l g ad H.size S8 (1 : Int32) hR.w  Q42 h0) (cwV 1 hts (gd_V kw_1017 kw_1136 kw_1137 kw_398 kw_1135) rfl rfl rfl (by decide +kernel) ⟨Nat.le_of_ble_eq_true rfl, Nat.le_of_ble_eq_true rfl⟩) ⟨cblind, va_recv hR.K hR.P (ci := 5) (q0 := 44) rfl (hR.at45 (hR.w.2.1 _ finC_29).2.1), fun U hU hW9 => cmk hU hW9 hR hex hE hFc⟩ rfl rfl hl.1 rfl (lv_room (Nat.le_of_ble_eq_true rfl)) dX5_useElement_36 ⟨Nat.le_of_ble_eq_true rfl, Nat.le_of_ble_eq_true rfl⟩) hR.sS (fun q _ h => hFc q h) hFc (fun  S43 t9 H1 locs ht9 hvm9 hw9 hB9 hz9 hk9 hS => ?_)
      obtain ⟨hq44, hw9, hs9⟩ := hw9
      have hR : RepC g ad A s S43 H1 locs := hR.call ht9 hB9 hw9 hS hFc
      have hsh := hsh.tr hs9
      replace h := h  S43 hq44 hw9 hs9
      clear hB9 hz9 hk9 hvm9 ht9 hw9 hs9 hS
      generalize H1 = H at hR ⊢
      exact W.vret hx hb hr (fun t9 ht9 hW9 => ⟨⟨S43, rfl, ⟨h, hR.w, hsh⟩, ⟨by rw [ht9]; exact hR.P, hR.D⟩⟩, hR.sS.F ht9⟩) hR.sS.2.2 dX5_useElement_39
  refine lv_icmp_ne (tgt := 14) hx hb dX5_useElement_3 (by decide) (fun c45 => ?_) (fun c45 => ?_)
  · replace h := h.2 (k_ne rfl (by decide) c45)
    refine lv_iconst (v := 0) hx hb dX5_useElement_14 (by decide) ?_
    exact J_15 S 0 x1 _ _ ls h  hsh hR (lv_sub hl [0, 1] rfl)
  · replace h := h.1 (k_eq rfl (by decide) c45)
    refine lv_aload_n hx hb dX5_useElement_6 rfl (lv_at hl 0 rfl) ?_
    obtain ⟨Q46, h0, h⟩ := h
    have hFc := cfree hR hA
    refine va_calll (va_runV (As := []) (rest := []) ⟨hx, hb, hml, hown, hts⟩ (rX5_pop l g ad s.heap.size S hR.w  Q46 h0) (cwV 0 hts (gd_V kw_1080 kw_1124 kw_1125 kw_398 kw_1123) rfl rfl rfl (by decide +kernel) ⟨Nat.le_of_ble_eq_true rfl, Nat.le_of_ble_eq_true rfl⟩) ⟨cblind, va_recv hR.K hR.P (ci := 5) (q0 := 44) rfl (hR.at45 (hR.w.2.1 _ finC_29).2.1), fun U hU hW9 => cmk hU hW9 hR hex hE hFc⟩ rfl rfl hl.1 rfl (lv_room (Nat.le_of_ble_eq_true rfl)) dX5_useElement_7 ⟨Nat.le_of_ble_eq_true rfl, Nat.le_of_ble_eq_true rfl⟩) hR.sS (fun q _ h => hFc q h) hFc (fun r47 S48 t9 H1 locs ht9 hvm9 hw9 hB9 hz9 hk9 hS => ?_)
    obtain ⟨hq49, hw9, hs9⟩ := hw9
    have hR : RepC g ad A s S48 H1 locs := hR.call ht9 hB9 hw9 hS hFc
    have hsh := hsh.tr hs9
    replace h := h r47 S48 hq49 hw9 hs9
    clear hB9 hz9 hk9 hvm9 ht9 hw9 hs9 hS
    generalize H1 = H at hR ⊢
    refine lv_l2i (v := (r47.toInt32)) hx hb dX5_useElement_10 rfl ?_
    refine lv_goto (tgt := 15) hx hb dX5_useElement_11 (by decide) ?_
    exact J_15 S48 (r47.toInt32) x1 _ _ ls h  hsh hR (lv_sub hl [0, 1] rfl)
def w_X7_poolFits_J40 (Q : Int32 → MS → Prop) (U40 : MS) : Prop := (wfC U40 → (∃ Q11, wX7_breaks U40 (5 : Int32) (qI U40 9 15) Q11 ∧ ∀ r12 S13, Q11 r12 S13 → wfC S13 → shy U40 S13 → Q r12 S13))
def w_X7_poolFits_J124 (Q : Int32 → MS → Prop) (k70 : MS → Int32 → Prop) (U124 : MS) (t124_0 : Int32) (t124_1 : Int32) : Prop := (wfC U124 → (t124_0 = 0 ∨ t124_0 = 1) → (∀ a36 : Int32, a36 = (t124_1 + t124_0) → (d_X7_u1 U124 (qI U124 9 15) ∧ (∀ a40 : Int32, a40 = (fX7_u1 U124 (qI U124 9 15)) → (d_X7_entryLength U124 a40 ∧ (∀ a44 : Int32, a44 = (fX7_entryLength U124 a40) → (∀ S46, S46 = wI U124 9 15 ((qI U124 9 15) + a44) → qT U124 9 = 46 → wfC S46 → (∀ a47 : Int32, a47 = (a36 + Int32.ofInt 1) → k70 S46 a47))))))))
def w_X7_poolFits_L70 (Q : Int32 → MS → Prop) : Nat → MS → Int32 → Prop
  | 0, _, _ => False
  | n70 + 1, U70, v70_1 => (wfC U70 → (((qI U70 9 5).toInt ≤ v70_1.toInt → Q (1 : Int32) U70) ∧ (¬ (qI U70 9 5).toInt ≤ v70_1.toInt → ((500 ≤ v70_1.toInt → Q (1 : Int32) U70) ∧ (¬ 500 ≤ v70_1.toInt → (∃ Q24, wX7_entryFits U70 Q24 ∧ ∀ r25 S26, Q24 r25 S26 → wfC S26 → shy U70 S26 → ((r25.toInt = 0 → Q (0 : Int32) S26) ∧ (¬ r25.toInt = 0 → (((0 : Int) ≤ v70_1.toInt ∧ v70_1.toInt < 500) ∧ (∀ S30, S30 = wI S26 11 v70_1.toInt.toNat (qI S26 9 15) → qT S26 11 = 218 → wfC S30 → (d_X7_u1 S30 (qI S30 9 15) ∧ (∀ a34 : Int32, a34 = (fX7_u1 S30 (qI S30 9 15)) → ((a34.toInt = 5 → w_X7_poolFits_J124 Q (w_X7_poolFits_L70 Q n70) S30 1 v70_1) ∧ (¬ a34.toInt = 5 → w_X7_poolFits_J124 Q (w_X7_poolFits_L70 Q n70) S30 0 v70_1))))))))))))))
def wX7_poolFits (S : MS) (Q : Int32 → MS → Prop) : Prop := (∃ Q1, wX7_isThere S (2 : Int32) Q1 ∧ ∀ r2 S3, Q1 r2 S3 → wfC S3 → shy S S3 → ((r2.toInt = 0 → Q (0 : Int32) S3) ∧ (¬ r2.toInt = 0 → (d_X7_u2 S3 (qI S3 9 15) ∧ (∀ a9 : Int32, a9 = (fX7_u2 S3 (qI S3 9 15)) → (∀ S10, S10 = wI S3 9 5 a9 → qT S3 9 = 46 → wfC S10 → (((qI S10 9 5).toInt < 1 → w_X7_poolFits_J40 Q S10) ∧ (¬ (qI S10 9 5).toInt < 1 → (((qI S10 9 5).toInt ≤ 500 → (∀ S18, S18 = wI S10 9 15 ((qI S10 9 15) + (2 : Int32)) → qT S10 9 = 46 → wfC S18 → (qT S18 11 = 218 → (∃ Q19, wJ7_fill_53178 S18 11 (0 : Int32) Q19 ∧ ∀ S20, Q19 S20 → wfC S20 → shy S18 S20 → (∃ n, w_X7_poolFits_L70 Q n S20 1))))) ∧ (¬ (qI S10 9 5).toInt ≤ 500 → w_X7_poolFits_J40 Q S10))))))))))
set_option maxHeartbeats 2000000 in
set_option maxRecDepth 100000 in
theorem rX7_poolFits (l : Launch) (g : Gr) (ad : Nat → Nat) (sz : Nat) (S : MS) (hw : wfC S) (Q : Int32 → MS → Prop) (h : wX7_poolFits S Q) : Met l yX7_poolFits (wt yX7_poolFits cX7_poolFits 2 (some .boolean)) ({ frames := 4, cells := 0, slots := 0, locals := 86 }) (va_Pc [.ref (ad 9)] (st_C g ad sz S)) (va_Qi (fun (r : Int32) (u : MS) => Q r u ∧ wfC u ∧ shy S u ∧ (r = 0 ∨ r = 1)) (fun (u : MS) (t : State) => qEC g ad (va_A (WdC g ad S) sz) u t) (va_A (WdC g ad S) sz)) 0 0 (va_A (WdC g ad S) sz) := by
  refine Met.ofW (cc := cX7_poolFits) (maxL := 2) (ret := (some .boolean)) (by decide) rfl ?_
  intro p e s m args below meth c s₁ B hml hv
  obtain ⟨rfl, hsz, hP, hK, hD0, hex, hE⟩ := hv
  have hx := B.exec
  have hb := B.bytes
  have hr := B.returns
  have hts0 := atoms_spec (ws := wt yX7_poolFits cX7_poolFits 2 (some .boolean)) B.pre
  have hts : ∀ w ∈ tb, w.before _ s = true := fun w h => hts0 w (List.mem_cons_of_mem _ h)
  have hown : s.vm.findClass RX7 = some m.cls := findClass_of_methodNamed B.named
  subst hsz
  have hD := hD0.self (sz := s.heap.size)
  generalize hAe : va_A (WdC g ad S) s.heap.size = A at hD hE ⊢
  have hA : ∀ q : Nat, s.heap.size ≤ q → A q := fun q h => by rw [← hAe]; exact Or.inr h
  have hR : RepC g ad A s S s.heap [] := ⟨hK, hP, hD, va_S.rf, hw⟩
  clear hK hP hD hD0
  have hl := lv_entry ([.ref (ad 9)]) (n := 2) (Nat.le_of_ble_eq_true rfl)
  rw [lg_entry_eq]
  generalize (lg_sl ([.ref (ad 9)]) ++ List.replicate (2 - (lg_sl ([.ref (ad 9)])).length) Slot.unset).toArray = ls at hl ⊢
  have hl : lv_has ls 2 [(0, .ref (ad 9))] := hl
  have hsh : shy S S := shy.rf
  unfold wX7_poolFits at h
  refine lv_aload_n hx hb dX7_poolFits_0 rfl (lv_at hl 0 rfl) ?_
  refine lv_iconst (v := 2) hx hb dX7_poolFits_1 (by decide) ?_
  obtain ⟨Q1, h0, h⟩ := h
  have hFc := cfree hR hA
  refine va_calli (va_runV (As := [.int 2]) (rest := []) ⟨hx, hb, hml, hown, hts⟩ (rX7_isThere l g ad s.heap.size S (2 : Int32) hR.w  Q1 h0) (cwV 1 hts (gd_V kw_1272 kw_1382 kw_1383 kw_710 kw_1381) rfl rfl rfl (by decide +kernel) ⟨Nat.le_of_ble_eq_true rfl, Nat.le_of_ble_eq_true rfl⟩) ⟨cblind, va_recv hR.K hR.P (ci := 6) (q0 := 9) rfl (hR.at46 (hR.w.2.1 _ finC_2).2.1), fun U hU hW9 => cmk hU hW9 hR hex hE hFc⟩ rfl rfl hl.1 rfl (lv_room (Nat.le_of_ble_eq_true rfl)) dX7_poolFits_2 ⟨Nat.le_of_ble_eq_true rfl, Nat.le_of_ble_eq_true rfl⟩) hR.sS (fun q _ h => hFc q h) hFc (fun r2 S3 t9 H1 locs ht9 hvm9 hw9 hB9 hz9 hk9 hS => ?_)
  obtain ⟨hq4, hw9, hs9, hz_r2⟩ := hw9
  have hR : RepC g ad A s S3 H1 locs := hR.call ht9 hB9 hw9 hS hFc
  have hsh := hsh.tr hs9
  replace h := h r2 S3 hq4 hw9 hs9
  clear hB9 hz9 hk9 hvm9 ht9 hw9 hs9 hS
  generalize H1 = H at hR ⊢
  refine lv_if_ne (tgt := 10) hx hb dX7_poolFits_5 (by decide) (fun c5 => ?_) (fun c5 => ?_)
  · replace h := h.2 (k_ne rfl (by decide) c5)
    refine lv_aload_n hx hb dX7_poolFits_10 rfl (lv_at hl 0 rfl) ?_
    refine lv_aload_n hx hb dX7_poolFits_11 rfl (lv_at hl 0 rfl) ?_
    refine lv_aload_n hx hb dX7_poolFits_12 rfl (lv_at hl 0 rfl) ?_
    refine va_get (D := rD g) (ci := 6) (v := .int (qI S3 9 15)) (C := RX7) (T := TX7) (N := 17) hx hb hts inX7 hown hR.K hR.P 9 (hR.at46 (hR.w.2.1 _ finC_2).2.1) rfl 15 (by decide) (hts _ kw_1273) (fun _ h9 => h9) rfl dX7_poolFits_13 ?_
    obtain ⟨hv6, h⟩ := h
    have hFc := cfree hR hA
    refine va_calli (va_runV (As := [.int (qI S3 9 15)]) (rest := [.ref (ad 9)]) ⟨hx, hb, hml, hown, hts⟩ (rX7_u2 l g ad H.size S3 (qI S3 9 15) hR.w  hv6) (cwV 1 hts (gd_V kw_1266 kw_1450 kw_1451 kw_710 kw_1449) rfl rfl rfl (by decide +kernel) ⟨Nat.le_of_ble_eq_true rfl, Nat.le_of_ble_eq_true rfl⟩) ⟨cblind, va_recv hR.K hR.P (ci := 6) (q0 := 9) rfl (hR.at46 (hR.w.2.1 _ finC_2).2.1), fun U hU hW9 => cmk hU hW9 hR hex hE hFc⟩ rfl rfl hl.1 rfl (lv_room (Nat.le_of_ble_eq_true rfl)) dX7_poolFits_16 ⟨Nat.le_of_ble_eq_true rfl, Nat.le_of_ble_eq_true rfl⟩) hR.sS (fun q _ h => hFc q h) hFc (fun r7 u9 t9 H1 locs ht9 hvm9 hw9 hB9 hz9 hk9 hS => ?_)
    have hR : RepC g ad A s S3 H1 locs := hR.call ht9 hB9 hR.w hS hFc
    obtain rfl : r7 = (fX7_u2 S3 (qI S3 9 15)) := hw9
    clear hB9 hz9 hk9 hvm9 ht9 hS
    generalize H1 = H at hR ⊢
    obtain ⟨a9, ea9⟩ : ∃ z, z = (fX7_u2 S3 (qI S3 9 15)) := ⟨_, rfl⟩
    rw [← ea9]
    replace h := h a9 ea9
    refine va_put (D := rD g) (ci := 6) (v := .int a9) (ty := .int) (C := RX7) (T := TX7) (N := 17) hx hb hts inX7 tyX7 tyX7_ok nmX7 hown hR.K hR.P hR.D hR.sS 9 (hR.at46 (hR.w.2.1 _ finC_2).2.1) rfl 5 (by decide) (hts _ kw_1294) (fun _ h9 => h9) rfl (by decide +kernel) rfl rfl (Nat.le_of_ble_eq_true rfl) dX7_poolFits_19 (fun H locs hP hD hS => ?_)
    have hTk9 : qT S3 9 = 46 := (hR.w.2.1 _ finC_2).2.1
    have hR : RepC g ad A s (wI S3 9 5 a9) H locs := hR.pI46 (hR.w.2.1 _ finC_2).2.1 FX7_s5 (fun q9 => absurd q9 (by decide)) hP hD hS
    obtain ⟨S10, eS10⟩ : ∃ z, z = wI S3 9 5 a9 := ⟨_, rfl⟩
    rw [← eS10] at hR
    replace h := h S10 eS10 hTk9 hR.w
    have hsh : shy S S10 := by rw [eS10]; exact hsh
    refine lv_aload_n hx hb dX7_poolFits_22 rfl (lv_at hl 0 rfl) ?_
    refine va_get (D := rD g) (ci := 6) (v := .int (qI S10 9 5)) (C := RX7) (T := TX7) (N := 17) hx hb hts inX7 hown hR.K hR.P 9 (hR.at46 (hR.w.2.1 _ finC_2).2.1) rfl 5 (by decide) (hts _ kw_1294) (fun _ h9 => h9) rfl dX7_poolFits_23 ?_
    refine lv_iconst (v := 1) hx hb dX7_poolFits_26 (by decide) ?_
    have J_40 : ∀ (U40 : MS) (H : Heap) (locs : List Loc) (ls : Array Slot), w_X7_poolFits_J40 Q U40 → shy S U40 → RepC g ad A s U40 H locs → lv_has ls 2 [(0, .ref (ad 9))] → W p l e (headSpec (wt yX7_poolFits cX7_poolFits 2 (some .boolean)) ({ frames := 4, cells := 0, slots := 0, locals := 86 })).room s m ([.ref (ad 9)] : List Value).toArray below meth c H locs 0 0 (MQ below (va_Qi (fun (r : Int32) (u : MS) => Q r u ∧ wfC u ∧ shy S u ∧ (r = 0 ∨ r = 1)) (fun (u : MS) (t : State) => qEC g ad A u t) A) ([.ref (ad 9)] : List Value).toArray s 0 0 A) (F0 m 40 ls []) := by
      intro U40 H locs ls h hsh hR hl
      unfold w_X7_poolFits_J40 at h
      replace h := h hR.w
      refine lv_aload_n hx hb dX7_poolFits_40 rfl (lv_at hl 0 rfl) ?_
      refine lv_iconst (v := 5) hx hb dX7_poolFits_41 (by decide) ?_
      refine lv_aload_n hx hb dX7_poolFits_42 rfl (lv_at hl 0 rfl) ?_
      refine va_get (D := rD g) (ci := 6) (v := .int (qI U40 9 15)) (C := RX7) (T := TX7) (N := 17) hx hb hts inX7 hown hR.K hR.P 9 (hR.at46 (hR.w.2.1 _ finC_2).2.1) rfl 15 (by decide) (hts _ kw_1273) (fun _ h9 => h9) rfl dX7_poolFits_43 ?_
      obtain ⟨Q11, h0, h⟩ := h
      have hFc := cfree hR hA
      refine va_calli (va_runV (As := [.int 5, .int (qI U40 9 15)]) (rest := []) ⟨hx, hb, hml, hown, hts⟩ (rX7_breaks l g ad H.size U40 (5 : Int32) (qI U40 9 15) hR.w  Q11 h0) (cwV 2 hts (gd_V kw_1276 kw_1278 kw_1279 kw_710 kw_1277) rfl rfl rfl (by decide +kernel) ⟨Nat.le_of_ble_eq_true rfl, Nat.le_of_ble_eq_true rfl⟩) ⟨cblind, va_recv hR.K hR.P (ci := 6) (q0 := 9) rfl (hR.at46 (hR.w.2.1 _ finC_2).2.1), fun U hU hW9 => cmk hU hW9 hR hex hE hFc⟩ rfl rfl hl.1 rfl (lv_room (Nat.le_of_ble_eq_true rfl)) dX7_poolFits_46 ⟨Nat.le_of_ble_eq_true rfl, Nat.le_of_ble_eq_true rfl⟩) hR.sS (fun q _ h => hFc q h) hFc (fun r12 S13 t9 H1 locs ht9 hvm9 hw9 hB9 hz9 hk9 hS => ?_)
      obtain ⟨hq14, hw9, hs9, hz_r12⟩ := hw9
      have hR : RepC g ad A s S13 H1 locs := hR.call ht9 hB9 hw9 hS hFc
      have hsh := hsh.tr hs9
      replace h := h r12 S13 hq14 hw9 hs9
      clear hB9 hz9 hk9 hvm9 ht9 hw9 hs9 hS
      generalize H1 = H at hR ⊢
      exact W.zret (v := r12) hx hb hr (nz hz_r12) (fun t9 ht9 hW9 => ⟨⟨_, S13, rfl, ⟨h, hR.w, hsh, hz_r12⟩, ⟨by rw [ht9]; exact hR.P, hR.D⟩⟩, hR.sS.F ht9⟩) hR.sS.2.2 dX7_poolFits_49
    refine lv_icmp_lt (tgt := 40) hx hb dX7_poolFits_27 (by decide) (fun c15 => ?_) (fun c15 => ?_)
    · replace h := h.1 (k_lt rfl (by decide) c15)
      exact J_40 S10 _ _ ls h  hsh hR (lv_sub hl [0] rfl)
    · replace h := h.2 (k_nlt rfl (by decide) c15)
      refine lv_aload_n hx hb dX7_poolFits_30 rfl (lv_at hl 0 rfl) ?_
      refine va_get (D := rD g) (ci := 6) (v := .int (qI S10 9 5)) (C := RX7) (T := TX7) (N := 17) hx hb hts inX7 hown hR.K hR.P 9 (hR.at46 (hR.w.2.1 _ finC_2).2.1) rfl 5 (by decide) (hts _ kw_1294) (fun _ h9 => h9) rfl dX7_poolFits_31 ?_
      refine lv_sipush (v := 500) hx hb dX7_poolFits_34 (by decide) ?_
      refine lv_icmp_le (tgt := 50) hx hb dX7_poolFits_37 (by decide) (fun c16 => ?_) (fun c16 => ?_)
      · replace h := h.1 (k_le rfl (by decide) c16)
        refine lv_aload_n hx hb dX7_poolFits_50 rfl (lv_at hl 0 rfl) ?_
        refine lv_dup hx hb dX7_poolFits_51 rfl ?_
        refine va_get (D := rD g) (ci := 6) (v := .int (qI S10 9 15)) (C := RX7) (T := TX7) (N := 17) hx hb hts inX7 hown hR.K hR.P 9 (hR.at46 (hR.w.2.1 _ finC_2).2.1) rfl 15 (by decide) (hts _ kw_1273) (fun _ h9 => h9) rfl dX7_poolFits_52 ?_
        refine lv_iconst (v := 2) hx hb dX7_poolFits_55 (by decide) ?_
        refine lv_iadd hx hb dX7_poolFits_56 ?_
        refine lv_topi (fun z17 ez17 => ?_)
        obtain rfl : z17 = ((qI S10 9 15) + (2 : Int32)) := ez17
        refine va_put (D := rD g) (ci := 6) (v := .int ((qI S10 9 15) + (2 : Int32))) (ty := .int) (C := RX7) (T := TX7) (N := 17) hx hb hts inX7 tyX7 tyX7_ok nmX7 hown hR.K hR.P hR.D hR.sS 9 (hR.at46 (hR.w.2.1 _ finC_2).2.1) rfl 15 (by decide) (hts _ kw_1273) (fun _ h9 => h9) rfl (by decide +kernel) rfl rfl (Nat.le_of_ble_eq_true rfl) dX7_poolFits_57 (fun H locs hP hD hS => ?_)
        have hTk9 : qT S10 9 = 46 := (hR.w.2.1 _ finC_2).2.1
        have hR : RepC g ad A s (wI S10 9 15 ((qI S10 9 15) + (2 : Int32))) H locs := hR.pI46 (hR.w.2.1 _ finC_2).2.1 FX7_s15 (fun q9 => absurd q9 (by decide)) hP hD hS
        obtain ⟨S18, eS18⟩ : ∃ z, z = wI S10 9 15 ((qI S10 9 15) + (2 : Int32)) := ⟨_, rfl⟩
        rw [← eS18] at hR
        replace h := h S18 eS18 hTk9 hR.w
        have hsh : shy S S18 := by rw [eS18]; exact hsh
        refine lv_aload_n hx hb dX7_poolFits_60 rfl (lv_at hl 0 rfl) ?_
        refine va_get (D := rD g) (ci := 6) (v := .ref (ad 11)) (C := RX7) (T := TX7) (N := 17) hx hb hts inX7 hown hR.K hR.P 9 (hR.at46 (hR.w.2.1 _ finC_2).2.1) rfl 4 (by decide) (hts _ kw_1300) (fun _ h9 => h9) (congrArg (fun z => some (vf ad z)) (hR.w.2.1 _ finC_7).1) dX7_poolFits_61 ?_
        refine lv_iconst (v := 0) hx hb dX7_poolFits_64 (by decide) ?_
        replace h := h ((hR.w.2.1 _ finC_7).2.1)
        obtain ⟨Q19, h0, h⟩ := h
        have hFc := cfree hR hA
        refine va_callv (va_runS (As := [.ref (ad 11), .int 0]) (rest := []) ⟨hx, hb, hml, hown, hts⟩ (rJ7_fill_53178 l g ad H.size S18 11 (0 : Int32) hR.w (by decide) (hR.w.2.1 _ finC_7).2.1 Q19 h0) (va_cwS 2 hts (gd_S kw_1426 kw_1722 kw_1723 kw_1721) rfl rfl rfl (by decide +kernel) ⟨Nat.le_of_ble_eq_true rfl, Nat.le_of_ble_eq_true rfl⟩) ⟨cblind, fun U hU hW9 => cmk hU hW9 hR hex hE hFc⟩ rfl rfl hl.1 rfl (lv_room (Nat.le_of_ble_eq_true rfl)) dX7_poolFits_65 ⟨Nat.le_of_ble_eq_true rfl, Nat.le_of_ble_eq_true rfl⟩) hR.sS (fun q _ h => hFc q h) hFc (fun  S20 t9 H1 locs ht9 hvm9 hw9 hB9 hz9 hk9 hS => ?_)
        obtain ⟨hq21, hw9, hs9⟩ := hw9
        have hR : RepC g ad A s S20 H1 locs := hR.call ht9 hB9 hw9 hS hFc
        have hsh := hsh.tr hs9
        replace h := h  S20 hq21 hw9 hs9
        clear hB9 hz9 hk9 hvm9 ht9 hw9 hs9 hS
        generalize H1 = H at hR ⊢
        refine lv_iconst (v := 1) hx hb dX7_poolFits_68 (by decide) ?_
        refine lv_istore_n (lv' := [(1, .int 1), (0, .ref (ad 9))]) hx hb dX7_poolFits_69 rfl hl (by decide) rfl (fun ls hl => ?_)
        have J_70 : ∀ (n70 : Nat) (U70 : MS) (v70_1 : Int32) (H : Heap) (locs : List Loc) (ls : Array Slot), w_X7_poolFits_L70 Q n70 U70 v70_1 → shy S U70 → RepC g ad A s U70 H locs → lv_has ls 2 [(0, .ref (ad 9)), (1, .int v70_1)] → W p l e (headSpec (wt yX7_poolFits cX7_poolFits 2 (some .boolean)) ({ frames := 4, cells := 0, slots := 0, locals := 86 })).room s m ([.ref (ad 9)] : List Value).toArray below meth c H locs 0 0 (MQ below (va_Qi (fun (r : Int32) (u : MS) => Q r u ∧ wfC u ∧ shy S u ∧ (r = 0 ∨ r = 1)) (fun (u : MS) (t : State) => qEC g ad A u t) A) ([.ref (ad 9)] : List Value).toArray s 0 0 A) (F0 m 70 ls []) := by
          intro n70
          induction n70 with
          | zero => intro U70 v70_1 H locs ls h hsh hR hl; unfold w_X7_poolFits_L70 at h; exact h.elim
          | succ n70 ih_70 =>
            intro U70 v70_1 H locs ls h hsh hR hl
            unfold w_X7_poolFits_L70 at h
            replace h := h hR.w
            refine lv_iload_n hx hb dX7_poolFits_70 rfl (lv_at hl 1 rfl) ?_
            refine lv_aload_n hx hb dX7_poolFits_71 rfl (lv_at hl 0 rfl) ?_
            refine va_get (D := rD g) (ci := 6) (v := .int (qI U70 9 5)) (C := RX7) (T := TX7) (N := 17) hx hb hts inX7 hown hR.K hR.P 9 (hR.at46 (hR.w.2.1 _ finC_2).2.1) rfl 5 (by decide) (hts _ kw_1294) (fun _ h9 => h9) rfl dX7_poolFits_72 ?_
            refine lv_icmp_ge (tgt := 153) hx hb dX7_poolFits_75 (by decide) (fun c22 => ?_) (fun c22 => ?_)
            · replace h := h.1 (k_le rfl rfl c22)
              refine lv_iconst (v := 1) hx hb dX7_poolFits_153 (by decide) ?_
              exact W.zret (v := 1) hx hb hr (nz (Or.inr rfl)) (fun t9 ht9 hW9 => ⟨⟨_, U70, rfl, ⟨h, hR.w, hsh, (Or.inr rfl)⟩, ⟨by rw [ht9]; exact hR.P, hR.D⟩⟩, hR.sS.F ht9⟩) hR.sS.2.2 dX7_poolFits_154
            · replace h := h.2 (k_nle rfl rfl c22)
              refine lv_iload_n hx hb dX7_poolFits_78 rfl (lv_at hl 1 rfl) ?_
              refine lv_aload_n hx hb dX7_poolFits_79 rfl (lv_at hl 0 rfl) ?_
              refine va_get (D := rD g) (ci := 6) (v := .ref (ad 11)) (C := RX7) (T := TX7) (N := 17) hx hb hts inX7 hown hR.K hR.P 9 (hR.at46 (hR.w.2.1 _ finC_2).2.1) rfl 4 (by decide) (hts _ kw_1300) (fun _ h9 => h9) (congrArg (fun z => some (vf ad z)) (hR.w.2.1 _ finC_7).1) dX7_poolFits_80 ?_
              refine va_alen (v := 500) hx hb hR.K hR.P 11 1 (hR.atI (hR.w.2.1 _ finC_7).2.1 (by decide)) rfl (by rw [(hR.w.2.1 _ finC_7).2.2]; rfl) dX7_poolFits_83 ?_
              refine lv_icmp_ge (tgt := 153) hx hb dX7_poolFits_84 (by decide) (fun c23 => ?_) (fun c23 => ?_)
              · replace h := h.1 (k_le (by decide) rfl c23)
                refine lv_iconst (v := 1) hx hb dX7_poolFits_153 (by decide) ?_
                exact W.zret (v := 1) hx hb hr (nz (Or.inr rfl)) (fun t9 ht9 hW9 => ⟨⟨_, U70, rfl, ⟨h, hR.w, hsh, (Or.inr rfl)⟩, ⟨by rw [ht9]; exact hR.P, hR.D⟩⟩, hR.sS.F ht9⟩) hR.sS.2.2 dX7_poolFits_154
              · replace h := h.2 (k_nle (by decide) rfl c23)
                refine lv_aload_n hx hb dX7_poolFits_87 rfl (lv_at hl 0 rfl) ?_
                obtain ⟨Q24, h0, h⟩ := h
                have hFc := cfree hR hA
                refine va_calli (va_runV (As := []) (rest := []) ⟨hx, hb, hml, hown, hts⟩ (rX7_entryFits l g ad H.size U70 hR.w  Q24 h0) (cwV 0 hts (gd_V kw_1427 kw_1302 kw_1303 kw_710 kw_1301) rfl rfl rfl (by decide +kernel) ⟨Nat.le_of_ble_eq_true rfl, Nat.le_of_ble_eq_true rfl⟩) ⟨cblind, va_recv hR.K hR.P (ci := 6) (q0 := 9) rfl (hR.at46 (hR.w.2.1 _ finC_2).2.1), fun U hU hW9 => cmk hU hW9 hR hex hE hFc⟩ rfl rfl hl.1 rfl (lv_room (Nat.le_of_ble_eq_true rfl)) dX7_poolFits_88 ⟨Nat.le_of_ble_eq_true rfl, Nat.le_of_ble_eq_true rfl⟩) hR.sS (fun q _ h => hFc q h) hFc (fun r25 S26 t9 H1 locs ht9 hvm9 hw9 hB9 hz9 hk9 hS => ?_)
                obtain ⟨hq27, hw9, hs9, hz_r25⟩ := hw9
                have hR : RepC g ad A s S26 H1 locs := hR.call ht9 hB9 hw9 hS hFc
                have hsh := hsh.tr hs9
                replace h := h r25 S26 hq27 hw9 hs9
                clear hB9 hz9 hk9 hvm9 ht9 hw9 hs9 hS
                generalize H1 = H at hR ⊢
                refine lv_if_ne (tgt := 96) hx hb dX7_poolFits_91 (by decide) (fun c28 => ?_) (fun c28 => ?_)
                · replace h := h.2 (k_ne rfl (by decide) c28)
                  refine lv_aload_n hx hb dX7_poolFits_96 rfl (lv_at hl 0 rfl) ?_
                  refine va_get (D := rD g) (ci := 6) (v := .ref (ad 11)) (C := RX7) (T := TX7) (N := 17) hx hb hts inX7 hown hR.K hR.P 9 (hR.at46 (hR.w.2.1 _ finC_2).2.1) rfl 4 (by decide) (hts _ kw_1300) (fun _ h9 => h9) (congrArg (fun z => some (vf ad z)) (hR.w.2.1 _ finC_7).1) dX7_poolFits_97 ?_
                  refine lv_iload_n hx hb dX7_poolFits_100 rfl (lv_at hl 1 rfl) ?_
                  refine lv_aload_n hx hb dX7_poolFits_101 rfl (lv_at hl 0 rfl) ?_
                  refine va_get (D := rD g) (ci := 6) (v := .int (qI S26 9 15)) (C := RX7) (T := TX7) (N := 17) hx hb hts inX7 hown hR.K hR.P 9 (hR.at46 (hR.w.2.1 _ finC_2).2.1) rfl 15 (by decide) (hts _ kw_1273) (fun _ h9 => h9) rfl dX7_poolFits_102 ?_
                  obtain ⟨hv29, h⟩ := h
                  refine va_iast hx hb hR.K hR.P hR.D hR.sS 11 1 (hR.atI (hR.w.2.1 _ finC_7).2.1 (by decide)) rfl (k_ixN (k_ix (n := 500) (x := v70_1) (a := v70_1.toInt) rfl hv29) (hR.w.2.1 _ finC_7).2.2) dX7_poolFits_105 (fun H locs hP hD hS => ?_)
                  have hTk9 : qT S26 11 = 218 := (hR.w.2.1 _ finC_7).2.1
                  have hR : RepC g ad A s (wI S26 11 v70_1.toInt.toNat (qI S26 9 15)) H locs := hR.aI (hR.w.2.1 _ finC_7).2.1 (by decide) hP hD hS
                  obtain ⟨S30, eS30⟩ : ∃ z, z = wI S26 11 v70_1.toInt.toNat (qI S26 9 15) := ⟨_, rfl⟩
                  rw [← eS30] at hR
                  replace h := h S30 eS30 hTk9 hR.w
                  have hsh : shy S S30 := by rw [eS30]; exact hsh
                  refine lv_iload_n hx hb dX7_poolFits_106 rfl (lv_at hl 1 rfl) ?_
                  refine lv_aload_n hx hb dX7_poolFits_107 rfl (lv_at hl 0 rfl) ?_
                  refine lv_aload_n hx hb dX7_poolFits_108 rfl (lv_at hl 0 rfl) ?_
                  refine va_get (D := rD g) (ci := 6) (v := .int (qI S30 9 15)) (C := RX7) (T := TX7) (N := 17) hx hb hts inX7 hown hR.K hR.P 9 (hR.at46 (hR.w.2.1 _ finC_2).2.1) rfl 15 (by decide) (hts _ kw_1273) (fun _ h9 => h9) rfl dX7_poolFits_109 ?_
                  obtain ⟨hv31, h⟩ := h
                  have hFc := cfree hR hA
                  refine va_calli (va_runV (As := [.int (qI S30 9 15)]) (rest := [.int v70_1]) ⟨hx, hb, hml, hown, hts⟩ (rX7_u1 l g ad H.size S30 (qI S30 9 15) hR.w  hv31) (cwV 1 hts (gd_V kw_1304 kw_1447 kw_1448 kw_710 kw_1446) rfl rfl rfl (by decide +kernel) ⟨Nat.le_of_ble_eq_true rfl, Nat.le_of_ble_eq_true rfl⟩) ⟨cblind, va_recv hR.K hR.P (ci := 6) (q0 := 9) rfl (hR.at46 (hR.w.2.1 _ finC_2).2.1), fun U hU hW9 => cmk hU hW9 hR hex hE hFc⟩ rfl rfl hl.1 rfl (lv_room (Nat.le_of_ble_eq_true rfl)) dX7_poolFits_112 ⟨Nat.le_of_ble_eq_true rfl, Nat.le_of_ble_eq_true rfl⟩) hR.sS (fun q _ h => hFc q h) hFc (fun r32 u9 t9 H1 locs ht9 hvm9 hw9 hB9 hz9 hk9 hS => ?_)
                  have hR : RepC g ad A s S30 H1 locs := hR.call ht9 hB9 hR.w hS hFc
                  obtain rfl : r32 = (fX7_u1 S30 (qI S30 9 15)) := hw9
                  clear hB9 hz9 hk9 hvm9 ht9 hS
                  generalize H1 = H at hR ⊢
                  obtain ⟨a34, ea34⟩ : ∃ z, z = (fX7_u1 S30 (qI S30 9 15)) := ⟨_, rfl⟩
                  rw [← ea34]
                  replace h := h a34 ea34
                  refine lv_iconst (v := 5) hx hb dX7_poolFits_115 (by decide) ?_
                  have J_124 : ∀ (U124 : MS) (t124_0 : Int32) (t124_1 : Int32) (H : Heap) (locs : List Loc) (ls : Array Slot), w_X7_poolFits_J124 Q (w_X7_poolFits_L70 Q n70) U124 t124_0 t124_1 → (t124_0 = 0 ∨ t124_0 = 1) → shy S U124 → RepC g ad A s U124 H locs → lv_has ls 2 [(0, .ref (ad 9))] → W p l e (headSpec (wt yX7_poolFits cX7_poolFits 2 (some .boolean)) ({ frames := 4, cells := 0, slots := 0, locals := 86 })).room s m ([.ref (ad 9)] : List Value).toArray below meth c H locs 0 0 (MQ below (va_Qi (fun (r : Int32) (u : MS) => Q r u ∧ wfC u ∧ shy S u ∧ (r = 0 ∨ r = 1)) (fun (u : MS) (t : State) => qEC g ad A u t) A) ([.ref (ad 9)] : List Value).toArray s 0 0 A) (F0 m 124 ls [.int t124_0, .int t124_1]) := by
                    intro U124 t124_0 t124_1 H locs ls h hz_t124_0 hsh hR hl
                    unfold w_X7_poolFits_J124 at h
                    replace h := h hR.w hz_t124_0
                    refine lv_iadd hx hb dX7_poolFits_124 ?_
                    refine lv_topi (fun z35 ez35 => ?_)
                    obtain rfl : z35 = (t124_1 + t124_0) := ez35
                    obtain ⟨a36, ea36⟩ : ∃ z, z = (t124_1 + t124_0) := ⟨_, rfl⟩
                    rw [← ea36]
                    replace h := h a36 ea36
                    refine lv_istore_n (lv' := [(1, .int a36), (0, .ref (ad 9))]) hx hb dX7_poolFits_125 rfl hl (by decide) rfl (fun ls hl => ?_)
                    refine lv_aload_n hx hb dX7_poolFits_126 rfl (lv_at hl 1 rfl) ?_
                    refine lv_dup hx hb dX7_poolFits_127 rfl ?_
                    refine va_get (D := rD g) (ci := 6) (v := .int (qI U124 9 15)) (C := RX7) (T := TX7) (N := 17) hx hb hts inX7 hown hR.K hR.P 9 (hR.at46 (hR.w.2.1 _ finC_2).2.1) rfl 15 (by decide) (hts _ kw_1273) (fun _ h9 => h9) rfl dX7_poolFits_128 ?_
                    refine lv_aload_n hx hb dX7_poolFits_131 rfl (lv_at hl 1 rfl) ?_
                    refine lv_aload_n hx hb dX7_poolFits_132 rfl (lv_at hl 1 rfl) ?_
                    refine lv_aload_n hx hb dX7_poolFits_133 rfl (lv_at hl 1 rfl) ?_
                    refine va_get (D := rD g) (ci := 6) (v := .int (qI U124 9 15)) (C := RX7) (T := TX7) (N := 17) hx hb hts inX7 hown hR.K hR.P 9 (hR.at46 (hR.w.2.1 _ finC_2).2.1) rfl 15 (by decide) (hts _ kw_1273) (fun _ h9 => h9) rfl dX7_poolFits_134 ?_
                    obtain ⟨hv37, h⟩ := h
                    have hFc := cfree hR hA
                    refine va_calli (va_runV (As := [.int (qI U124 9 15)]) (rest := [.ref (ad 9), .int (qI U124 9 15), .ref (ad 9)]) ⟨hx, hb, hml, hown, hts⟩ (rX7_u1 l g ad H.size U124 (qI U124 9 15) hR.w  hv37) (cwV 1 hts (gd_V kw_1304 kw_1447 kw_1448 kw_710 kw_1446) rfl rfl rfl (by decide +kernel) ⟨Nat.le_of_ble_eq_true rfl, Nat.le_of_ble_eq_true rfl⟩) ⟨cblind, va_recv hR.K hR.P (ci := 6) (q0 := 9) rfl (hR.at46 (hR.w.2.1 _ finC_2).2.1), fun U hU hW9 => cmk hU hW9 hR hex hE hFc⟩ rfl rfl hl.1 rfl (lv_room (Nat.le_of_ble_eq_true rfl)) dX7_poolFits_137 ⟨Nat.le_of_ble_eq_true rfl, Nat.le_of_ble_eq_true rfl⟩) hR.sS (fun q _ h => hFc q h) hFc (fun r38 u9 t9 H1 locs ht9 hvm9 hw9 hB9 hz9 hk9 hS => ?_)
                    have hR : RepC g ad A s U124 H1 locs := hR.call ht9 hB9 hR.w hS hFc
                    obtain rfl : r38 = (fX7_u1 U124 (qI U124 9 15)) := hw9
                    clear hB9 hz9 hk9 hvm9 ht9 hS
                    generalize H1 = H at hR ⊢
                    obtain ⟨a40, ea40⟩ : ∃ z, z = (fX7_u1 U124 (qI U124 9 15)) := ⟨_, rfl⟩
                    rw [← ea40]
                    replace h := h a40 ea40
                    obtain ⟨hv41, h⟩ := h
                    have hFc := cfree hR hA
                    refine va_calli (va_runV (As := [.int a40]) (rest := [.int (qI U124 9 15), .ref (ad 9)]) ⟨hx, hb, hml, hown, hts⟩ (rX7_entryLength l g ad H.size U124 a40 hR.w  hv41) (cwV 1 hts (gd_V kw_1306 kw_1308 kw_1309 kw_710 kw_1307) rfl rfl rfl (by decide +kernel) ⟨Nat.le_of_ble_eq_true rfl, Nat.le_of_ble_eq_true rfl⟩) ⟨cblind, va_recv hR.K hR.P (ci := 6) (q0 := 9) rfl (hR.at46 (hR.w.2.1 _ finC_2).2.1), fun U hU hW9 => cmk hU hW9 hR hex hE hFc⟩ rfl rfl hl.1 rfl (lv_room (Nat.le_of_ble_eq_true rfl)) dX7_poolFits_140 ⟨Nat.le_of_ble_eq_true rfl, Nat.le_of_ble_eq_true rfl⟩) hR.sS (fun q _ h => hFc q h) hFc (fun r42 u9 t9 H1 locs ht9 hvm9 hw9 hB9 hz9 hk9 hS => ?_)
                    have hR : RepC g ad A s U124 H1 locs := hR.call ht9 hB9 hR.w hS hFc
                    obtain rfl : r42 = (fX7_entryLength U124 a40) := hw9
                    clear hB9 hz9 hk9 hvm9 ht9 hS
                    generalize H1 = H at hR ⊢
                    obtain ⟨a44, ea44⟩ : ∃ z, z = (fX7_entryLength U124 a40) := ⟨_, rfl⟩
                    rw [← ea44]
                    replace h := h a44 ea44
                    refine lv_iadd hx hb dX7_poolFits_143 ?_
                    refine lv_topi (fun z45 ez45 => ?_)
                    obtain rfl : z45 = ((qI U124 9 15) + a44) := ez45
                    refine va_put (D := rD g) (ci := 6) (v := .int ((qI U124 9 15) + a44)) (ty := .int) (C := RX7) (T := TX7) (N := 17) hx hb hts inX7 tyX7 tyX7_ok nmX7 hown hR.K hR.P hR.D hR.sS 9 (hR.at46 (hR.w.2.1 _ finC_2).2.1) rfl 15 (by decide) (hts _ kw_1273) (fun _ h9 => h9) rfl (by decide +kernel) rfl rfl (Nat.le_of_ble_eq_true rfl) dX7_poolFits_144 (fun H locs hP hD hS => ?_)
                    have hTk9 : qT U124 9 = 46 := (hR.w.2.1 _ finC_2).2.1
                    have hR : RepC g ad A s (wI U124 9 15 ((qI U124 9 15) + a44)) H locs := hR.pI46 (hR.w.2.1 _ finC_2).2.1 FX7_s15 (fun q9 => absurd q9 (by decide)) hP hD hS
                    obtain ⟨S46, eS46⟩ : ∃ z, z = wI U124 9 15 ((qI U124 9 15) + a44) := ⟨_, rfl⟩
                    rw [← eS46] at hR
                    replace h := h S46 eS46 hTk9 hR.w
                    have hsh : shy S S46 := by rw [eS46]; exact hsh
                    obtain ⟨a47, ea47⟩ : ∃ z, z = (a36 + Int32.ofInt 1) := ⟨_, rfl⟩
                    replace h := h a47 ea47
                    refine lv_iinc (v := a47) (lv' := [(1, .int a47), (0, .ref (ad 9))]) hx hb dX7_poolFits_147 hl (k := 0) rfl ea47.symm (by decide) rfl (fun ls hl => ?_)
                    refine lv_goto (tgt := 70) hx hb dX7_poolFits_150 (by decide) ?_
                    exact ih_70 S46 a47 _ _ ls h  hsh hR (lv_sub hl [1, 0] rfl)
                  refine lv_icmp_ne (tgt := 123) hx hb dX7_poolFits_116 (by decide) (fun c48 => ?_) (fun c48 => ?_)
                  · replace h := h.2 (k_ne rfl (by decide) c48)
                    refine lv_iconst (v := 0) hx hb dX7_poolFits_123 (by decide) ?_
                    exact J_124 S30 0 v70_1 _ _ ls h (Or.inl rfl) hsh hR (lv_sub hl [0] rfl)
                  · replace h := h.1 (k_eq rfl (by decide) c48)
                    refine lv_iconst (v := 1) hx hb dX7_poolFits_119 (by decide) ?_
                    refine lv_goto (tgt := 124) hx hb dX7_poolFits_120 (by decide) ?_
                    exact J_124 S30 1 v70_1 _ _ ls h (Or.inr rfl) hsh hR (lv_sub hl [0] rfl)
                · replace h := h.1 (k_eq rfl (by decide) c28)
                  refine lv_iconst (v := 0) hx hb dX7_poolFits_94 (by decide) ?_
                  exact W.zret (v := 0) hx hb hr (nz (Or.inl rfl)) (fun t9 ht9 hW9 => ⟨⟨_, S26, rfl, ⟨h, hR.w, hsh, (Or.inl rfl)⟩, ⟨by rw [ht9]; exact hR.P, hR.D⟩⟩, hR.sS.F ht9⟩) hR.sS.2.2 dX7_poolFits_95
        obtain ⟨n9, h⟩ := h
        exact J_70 n9 S20 1 _ _ ls h  hsh hR (lv_sub hl [1, 0] rfl)
      · replace h := h.2 (k_nle rfl (by decide) c16)
        exact J_40 S10 _ _ ls h  hsh hR (lv_sub hl [0] rfl)
  · replace h := h.1 (k_eq rfl (by decide) c5)
    refine lv_iconst (v := 0) hx hb dX7_poolFits_8 (by decide) ?_
    exact W.zret (v := 0) hx hb hr (nz (Or.inl rfl)) (fun t9 ht9 hW9 => ⟨⟨_, S3, rfl, ⟨h, hR.w, hsh, (Or.inl rfl)⟩, ⟨by rw [ht9]; exact hR.P, hR.D⟩⟩, hR.sS.F ht9⟩) hR.sS.2.2 dX7_poolFits_9
def wX7_fieldsFit (S : MS) (Q : Int32 → MS → Prop) : Prop := (∀ S1, S1 = wI S 9 8 (0 : Int32) → qT S 9 = 46 → wfC S1 → (∀ S2, S2 = wI S1 9 7 (0 : Int32) → qT S1 9 = 46 → wfC S2 → (∃ Q3, wX7_membersFit S2 (0 : Int32) Q3 ∧ ∀ r4 S5, Q3 r4 S5 → wfC S5 → shy S2 S5 → (∀ S7, S7 = wI S5 9 7 r4 → qT S5 9 = 46 → wfC S7 → (((qI S7 9 7).toInt < 0 → Q (0 : Int32) S7) ∧ (¬ (qI S7 9 7).toInt < 0 → Q (1 : Int32) S7))))))
set_option maxHeartbeats 2000000 in
set_option maxRecDepth 100000 in
theorem rX7_fieldsFit (l : Launch) (g : Gr) (ad : Nat → Nat) (sz : Nat) (S : MS) (hw : wfC S) (Q : Int32 → MS → Prop) (h : wX7_fieldsFit S Q) : Met l yX7_fieldsFit (wt yX7_fieldsFit cX7_fieldsFit 1 (some .boolean)) ({ frames := 4, cells := 0, slots := 0, locals := 90 }) (va_Pc [.ref (ad 9)] (st_C g ad sz S)) (va_Qi (fun (r : Int32) (u : MS) => Q r u ∧ wfC u ∧ shy S u ∧ (r = 0 ∨ r = 1)) (fun (u : MS) (t : State) => qEC g ad (va_A (WdC g ad S) sz) u t) (va_A (WdC g ad S) sz)) 0 0 (va_A (WdC g ad S) sz) := by
  refine Met.ofW (cc := cX7_fieldsFit) (maxL := 1) (ret := (some .boolean)) (by decide) rfl ?_
  intro p e s m args below meth c s₁ B hml hv
  obtain ⟨rfl, hsz, hP, hK, hD0, hex, hE⟩ := hv
  have hx := B.exec
  have hb := B.bytes
  have hr := B.returns
  have hts0 := atoms_spec (ws := wt yX7_fieldsFit cX7_fieldsFit 1 (some .boolean)) B.pre
  have hts : ∀ w ∈ tb, w.before _ s = true := fun w h => hts0 w (List.mem_cons_of_mem _ h)
  have hown : s.vm.findClass RX7 = some m.cls := findClass_of_methodNamed B.named
  subst hsz
  have hD := hD0.self (sz := s.heap.size)
  generalize hAe : va_A (WdC g ad S) s.heap.size = A at hD hE ⊢
  have hA : ∀ q : Nat, s.heap.size ≤ q → A q := fun q h => by rw [← hAe]; exact Or.inr h
  have hR : RepC g ad A s S s.heap [] := ⟨hK, hP, hD, va_S.rf, hw⟩
  clear hK hP hD hD0
  have hl := lv_entry ([.ref (ad 9)]) (n := 1) (Nat.le_of_ble_eq_true rfl)
  rw [lg_entry_eq]
  generalize (lg_sl ([.ref (ad 9)]) ++ List.replicate (1 - (lg_sl ([.ref (ad 9)])).length) Slot.unset).toArray = ls at hl ⊢
  have hl : lv_has ls 1 [(0, .ref (ad 9))] := hl
  have hsh : shy S S := shy.rf
  unfold wX7_fieldsFit at h
  refine lv_aload_n hx hb dX7_fieldsFit_0 rfl (lv_at hl 0 rfl) ?_
  refine lv_iconst (v := 0) hx hb dX7_fieldsFit_1 (by decide) ?_
  refine va_put (D := rD g) (ci := 6) (v := .int 0) (ty := .int) (C := RX7) (T := TX7) (N := 17) hx hb hts inX7 tyX7 tyX7_ok nmX7 hown hR.K hR.P hR.D hR.sS 9 (hR.at46 (hR.w.2.1 _ finC_2).2.1) rfl 8 (by decide) (hts _ kw_1285) (fun _ h9 => h9) rfl (by decide +kernel) rfl rfl (Nat.le_of_ble_eq_true rfl) dX7_fieldsFit_2 (fun H locs hP hD hS => ?_)
  have hTk9 : qT S 9 = 46 := (hR.w.2.1 _ finC_2).2.1
  have hR : RepC g ad A s (wI S 9 8 (0 : Int32)) H locs := hR.pI46 (hR.w.2.1 _ finC_2).2.1 FX7_s8 (fun q9 => absurd q9 (by decide)) hP hD hS
  obtain ⟨S1, eS1⟩ : ∃ z, z = wI S 9 8 (0 : Int32) := ⟨_, rfl⟩
  rw [← eS1] at hR
  replace h := h S1 eS1 hTk9 hR.w
  have hsh : shy S S1 := by rw [eS1]; exact hsh
  refine lv_aload_n hx hb dX7_fieldsFit_5 rfl (lv_at hl 0 rfl) ?_
  refine lv_iconst (v := 0) hx hb dX7_fieldsFit_6 (by decide) ?_
  refine va_put (D := rD g) (ci := 6) (v := .int 0) (ty := .int) (C := RX7) (T := TX7) (N := 17) hx hb hts inX7 tyX7 tyX7_ok nmX7 hown hR.K hR.P hR.D hR.sS 9 (hR.at46 (hR.w.2.1 _ finC_2).2.1) rfl 7 (by decide) (hts _ kw_1287) (fun _ h9 => h9) rfl (by decide +kernel) rfl rfl (Nat.le_of_ble_eq_true rfl) dX7_fieldsFit_7 (fun H locs hP hD hS => ?_)
  have hTk9 : qT S1 9 = 46 := (hR.w.2.1 _ finC_2).2.1
  have hR : RepC g ad A s (wI S1 9 7 (0 : Int32)) H locs := hR.pI46 (hR.w.2.1 _ finC_2).2.1 FX7_s7 (fun q9 => absurd q9 (by decide)) hP hD hS
  obtain ⟨S2, eS2⟩ : ∃ z, z = wI S1 9 7 (0 : Int32) := ⟨_, rfl⟩
  rw [← eS2] at hR
  replace h := h S2 eS2 hTk9 hR.w
  have hsh : shy S S2 := by rw [eS2]; exact hsh
  refine lv_aload_n hx hb dX7_fieldsFit_10 rfl (lv_at hl 0 rfl) ?_
  refine lv_aload_n hx hb dX7_fieldsFit_11 rfl (lv_at hl 0 rfl) ?_
  refine lv_iconst (v := 0) hx hb dX7_fieldsFit_12 (by decide) ?_
  obtain ⟨Q3, h0, h⟩ := h
  have hFc := cfree hR hA
  refine va_calli (va_runV (As := [.int 0]) (rest := [.ref (ad 9)]) ⟨hx, hb, hml, hown, hts⟩ (rX7_membersFit l g ad H.size S2 (0 : Int32) hR.w  Q3 h0) (cwV 1 hts (gd_V kw_1319 kw_1397 kw_1398 kw_710 kw_1396) rfl rfl rfl (by decide +kernel) ⟨Nat.le_of_ble_eq_true rfl, Nat.le_of_ble_eq_true rfl⟩) ⟨cblind, va_recv hR.K hR.P (ci := 6) (q0 := 9) rfl (hR.at46 (hR.w.2.1 _ finC_2).2.1), fun U hU hW9 => cmk hU hW9 hR hex hE hFc⟩ rfl rfl hl.1 rfl (lv_room (Nat.le_of_ble_eq_true rfl)) dX7_fieldsFit_13 ⟨Nat.le_of_ble_eq_true rfl, Nat.le_of_ble_eq_true rfl⟩) hR.sS (fun q _ h => hFc q h) hFc (fun r4 S5 t9 H1 locs ht9 hvm9 hw9 hB9 hz9 hk9 hS => ?_)
  obtain ⟨hq6, hw9, hs9⟩ := hw9
  have hR : RepC g ad A s S5 H1 locs := hR.call ht9 hB9 hw9 hS hFc
  have hsh := hsh.tr hs9
  replace h := h r4 S5 hq6 hw9 hs9
  clear hB9 hz9 hk9 hvm9 ht9 hw9 hs9 hS
  generalize H1 = H at hR ⊢
  refine va_put (D := rD g) (ci := 6) (v := .int r4) (ty := .int) (C := RX7) (T := TX7) (N := 17) hx hb hts inX7 tyX7 tyX7_ok nmX7 hown hR.K hR.P hR.D hR.sS 9 (hR.at46 (hR.w.2.1 _ finC_2).2.1) rfl 7 (by decide) (hts _ kw_1287) (fun _ h9 => h9) rfl (by decide +kernel) rfl rfl (Nat.le_of_ble_eq_true rfl) dX7_fieldsFit_16 (fun H locs hP hD hS => ?_)
  have hTk9 : qT S5 9 = 46 := (hR.w.2.1 _ finC_2).2.1
  have hR : RepC g ad A s (wI S5 9 7 r4) H locs := hR.pI46 (hR.w.2.1 _ finC_2).2.1 FX7_s7 (fun q9 => absurd q9 (by decide)) hP hD hS
  obtain ⟨S7, eS7⟩ : ∃ z, z = wI S5 9 7 r4 := ⟨_, rfl⟩
  rw [← eS7] at hR
  replace h := h S7 eS7 hTk9 hR.w
  have hsh : shy S S7 := by rw [eS7]; exact hsh
  refine lv_aload_n hx hb dX7_fieldsFit_19 rfl (lv_at hl 0 rfl) ?_
  refine va_get (D := rD g) (ci := 6) (v := .int (qI S7 9 7)) (C := RX7) (T := TX7) (N := 17) hx hb hts inX7 hown hR.K hR.P 9 (hR.at46 (hR.w.2.1 _ finC_2).2.1) rfl 7 (by decide) (hts _ kw_1287) (fun _ h9 => h9) rfl dX7_fieldsFit_20 ?_
  refine lv_if_lt (tgt := 30) hx hb dX7_fieldsFit_23 (by decide) (fun c8 => ?_) (fun c8 => ?_)
  · replace h := h.1 (k_lt rfl (by decide) c8)
    refine lv_iconst (v := 0) hx hb dX7_fieldsFit_30 (by decide) ?_
    exact W.zret (v := 0) hx hb hr (nz (Or.inl rfl)) (fun t9 ht9 hW9 => ⟨⟨_, S7, rfl, ⟨h, hR.w, hsh, (Or.inl rfl)⟩, ⟨by rw [ht9]; exact hR.P, hR.D⟩⟩, hR.sS.F ht9⟩) hR.sS.2.2 dX7_fieldsFit_31
  · replace h := h.2 (k_nlt rfl (by decide) c8)
    refine lv_iconst (v := 1) hx hb dX7_fieldsFit_26 (by decide) ?_
    refine lv_goto (tgt := 31) hx hb dX7_fieldsFit_27 (by decide) ?_
    exact W.zret (v := 1) hx hb hr (nz (Or.inr rfl)) (fun t9 ht9 hW9 => ⟨⟨_, S7, rfl, ⟨h, hR.w, hsh, (Or.inr rfl)⟩, ⟨by rw [ht9]; exact hR.P, hR.D⟩⟩, hR.sS.F ht9⟩) hR.sS.2.2 dX7_fieldsFit_31
def wX7_methodsFit (S : MS) (Q : Int32 → MS → Prop) : Prop := (∃ Q1, wX7_membersFit S (qI S 9 7) Q1 ∧ ∀ r2 S3, Q1 r2 S3 → wfC S3 → shy S S3 → (∀ S5, S5 = wI S3 9 8 r2 → qT S3 9 = 46 → wfC S5 → (((qI S5 9 8).toInt < 0 → Q (0 : Int32) S5) ∧ (¬ (qI S5 9 8).toInt < 0 → Q (1 : Int32) S5))))
set_option maxHeartbeats 2000000 in
set_option maxRecDepth 100000 in
theorem rX7_methodsFit (l : Launch) (g : Gr) (ad : Nat → Nat) (sz : Nat) (S : MS) (hw : wfC S) (Q : Int32 → MS → Prop) (h : wX7_methodsFit S Q) : Met l yX7_methodsFit (wt yX7_methodsFit cX7_methodsFit 1 (some .boolean)) ({ frames := 4, cells := 0, slots := 0, locals := 90 }) (va_Pc [.ref (ad 9)] (st_C g ad sz S)) (va_Qi (fun (r : Int32) (u : MS) => Q r u ∧ wfC u ∧ shy S u ∧ (r = 0 ∨ r = 1)) (fun (u : MS) (t : State) => qEC g ad (va_A (WdC g ad S) sz) u t) (va_A (WdC g ad S) sz)) 0 0 (va_A (WdC g ad S) sz) := by
  refine Met.ofW (cc := cX7_methodsFit) (maxL := 1) (ret := (some .boolean)) (by decide) rfl ?_
  intro p e s m args below meth c s₁ B hml hv
  obtain ⟨rfl, hsz, hP, hK, hD0, hex, hE⟩ := hv
  have hx := B.exec
  have hb := B.bytes
  have hr := B.returns
  have hts0 := atoms_spec (ws := wt yX7_methodsFit cX7_methodsFit 1 (some .boolean)) B.pre
  have hts : ∀ w ∈ tb, w.before _ s = true := fun w h => hts0 w (List.mem_cons_of_mem _ h)
  have hown : s.vm.findClass RX7 = some m.cls := findClass_of_methodNamed B.named
  subst hsz
  have hD := hD0.self (sz := s.heap.size)
  generalize hAe : va_A (WdC g ad S) s.heap.size = A at hD hE ⊢
  have hA : ∀ q : Nat, s.heap.size ≤ q → A q := fun q h => by rw [← hAe]; exact Or.inr h
  have hR : RepC g ad A s S s.heap [] := ⟨hK, hP, hD, va_S.rf, hw⟩
  clear hK hP hD hD0
  have hl := lv_entry ([.ref (ad 9)]) (n := 1) (Nat.le_of_ble_eq_true rfl)
  rw [lg_entry_eq]
  generalize (lg_sl ([.ref (ad 9)]) ++ List.replicate (1 - (lg_sl ([.ref (ad 9)])).length) Slot.unset).toArray = ls at hl ⊢
  have hl : lv_has ls 1 [(0, .ref (ad 9))] := hl
  have hsh : shy S S := shy.rf
  unfold wX7_methodsFit at h
  refine lv_aload_n hx hb dX7_methodsFit_0 rfl (lv_at hl 0 rfl) ?_
  refine lv_aload_n hx hb dX7_methodsFit_1 rfl (lv_at hl 0 rfl) ?_
  refine lv_aload_n hx hb dX7_methodsFit_2 rfl (lv_at hl 0 rfl) ?_
  refine va_get (D := rD g) (ci := 6) (v := .int (qI S 9 7)) (C := RX7) (T := TX7) (N := 17) hx hb hts inX7 hown hR.K hR.P 9 (hR.at46 (hR.w.2.1 _ finC_2).2.1) rfl 7 (by decide) (hts _ kw_1287) (fun _ h9 => h9) rfl dX7_methodsFit_3 ?_
  obtain ⟨Q1, h0, h⟩ := h
  have hFc := cfree hR hA
  refine va_calli (va_runV (As := [.int (qI S 9 7)]) (rest := [.ref (ad 9)]) ⟨hx, hb, hml, hown, hts⟩ (rX7_membersFit l g ad s.heap.size S (qI S 9 7) hR.w  Q1 h0) (cwV 1 hts (gd_V kw_1319 kw_1397 kw_1398 kw_710 kw_1396) rfl rfl rfl (by decide +kernel) ⟨Nat.le_of_ble_eq_true rfl, Nat.le_of_ble_eq_true rfl⟩) ⟨cblind, va_recv hR.K hR.P (ci := 6) (q0 := 9) rfl (hR.at46 (hR.w.2.1 _ finC_2).2.1), fun U hU hW9 => cmk hU hW9 hR hex hE hFc⟩ rfl rfl hl.1 rfl (lv_room (Nat.le_of_ble_eq_true rfl)) dX7_methodsFit_6 ⟨Nat.le_of_ble_eq_true rfl, Nat.le_of_ble_eq_true rfl⟩) hR.sS (fun q _ h => hFc q h) hFc (fun r2 S3 t9 H1 locs ht9 hvm9 hw9 hB9 hz9 hk9 hS => ?_)
  obtain ⟨hq4, hw9, hs9⟩ := hw9
  have hR : RepC g ad A s S3 H1 locs := hR.call ht9 hB9 hw9 hS hFc
  have hsh := hsh.tr hs9
  replace h := h r2 S3 hq4 hw9 hs9
  clear hB9 hz9 hk9 hvm9 ht9 hw9 hs9 hS
  generalize H1 = H at hR ⊢
  refine va_put (D := rD g) (ci := 6) (v := .int r2) (ty := .int) (C := RX7) (T := TX7) (N := 17) hx hb hts inX7 tyX7 tyX7_ok nmX7 hown hR.K hR.P hR.D hR.sS 9 (hR.at46 (hR.w.2.1 _ finC_2).2.1) rfl 8 (by decide) (hts _ kw_1285) (fun _ h9 => h9) rfl (by decide +kernel) rfl rfl (Nat.le_of_ble_eq_true rfl) dX7_methodsFit_9 (fun H locs hP hD hS => ?_)
  have hTk9 : qT S3 9 = 46 := (hR.w.2.1 _ finC_2).2.1
  have hR : RepC g ad A s (wI S3 9 8 r2) H locs := hR.pI46 (hR.w.2.1 _ finC_2).2.1 FX7_s8 (fun q9 => absurd q9 (by decide)) hP hD hS
  obtain ⟨S5, eS5⟩ : ∃ z, z = wI S3 9 8 r2 := ⟨_, rfl⟩
  rw [← eS5] at hR
  replace h := h S5 eS5 hTk9 hR.w
  have hsh : shy S S5 := by rw [eS5]; exact hsh
  refine lv_aload_n hx hb dX7_methodsFit_12 rfl (lv_at hl 0 rfl) ?_
  refine va_get (D := rD g) (ci := 6) (v := .int (qI S5 9 8)) (C := RX7) (T := TX7) (N := 17) hx hb hts inX7 hown hR.K hR.P 9 (hR.at46 (hR.w.2.1 _ finC_2).2.1) rfl 8 (by decide) (hts _ kw_1285) (fun _ h9 => h9) rfl dX7_methodsFit_13 ?_
  refine lv_if_lt (tgt := 23) hx hb dX7_methodsFit_16 (by decide) (fun c6 => ?_) (fun c6 => ?_)
  · replace h := h.1 (k_lt rfl (by decide) c6)
    refine lv_iconst (v := 0) hx hb dX7_methodsFit_23 (by decide) ?_
    exact W.zret (v := 0) hx hb hr (nz (Or.inl rfl)) (fun t9 ht9 hW9 => ⟨⟨_, S5, rfl, ⟨h, hR.w, hsh, (Or.inl rfl)⟩, ⟨by rw [ht9]; exact hR.P, hR.D⟩⟩, hR.sS.F ht9⟩) hR.sS.2.2 dX7_methodsFit_24
  · replace h := h.2 (k_nlt rfl (by decide) c6)
    refine lv_iconst (v := 1) hx hb dX7_methodsFit_19 (by decide) ?_
    refine lv_goto (tgt := 24) hx hb dX7_methodsFit_20 (by decide) ?_
    exact W.zret (v := 1) hx hb hr (nz (Or.inr rfl)) (fun t9 ht9 hW9 => ⟨⟨_, S5, rfl, ⟨h, hR.w, hsh, (Or.inr rfl)⟩, ⟨by rw [ht9]; exact hR.P, hR.D⟩⟩, hR.sS.F ht9⟩) hR.sS.2.2 dX7_methodsFit_24
def w_X7_typesHold_J147 (Q : Int32 → MS → Prop) (k80 : MS → Int32 → Prop) (U147 : MS) (t147_0 : Int32) (v147_1 : Int32) : Prop := (wfC U147 → (t147_0 = 0 ∨ t147_0 = 1) → ((t147_0.toInt = 0 → (d_X7_memberPlace U147 v147_1 ∧ (∀ a9 : Int32, a9 = (fX7_memberPlace U147 v147_1) → (∃ Q11, wX7_breaks U147 (10 : Int32) (a9 + (4 : Int32)) Q11 ∧ ∀ r12 S13, Q11 r12 S13 → wfC S13 → shy U147 S13 → Q r12 S13)))) ∧ (¬ t147_0.toInt = 0 → (∀ a5 : Int32, a5 = (v147_1 + Int32.ofInt 1) → k80 U147 a5))))
def w_X7_typesHold_J146 (Q : Int32 → MS → Prop) (k80 : MS → Int32 → Prop) (U146 : MS) (v146_1 : Int32) : Prop := (wfC U146 → w_X7_typesHold_J147 Q k80 U146 0 v146_1)
def w_X7_typesHold_L80 (Q : Int32 → MS → Prop) : Nat → MS → Int32 → Prop
  | 0, _, _ => False
  | n80 + 1, U80, v80_1 => (wfC U80 → ((((qI U80 9 7) + (qI U80 9 8)).toInt ≤ v80_1.toInt → Q (1 : Int32) U80) ∧ (¬ ((qI U80 9 7) + (qI U80 9 8)).toInt ≤ v80_1.toInt → (((qI U80 9 7).toInt ≤ v80_1.toInt → (d_X7_typeOf U80 v80_1 ∧ (∀ a19 : Int32, a19 = (fX7_typeOf U80 v80_1) → (∃ Q20, wX7_isMethodType U80 a19 Q20 ∧ ∀ r21 S22, Q20 r21 S22 → wfC S22 → shy U80 S22 → ((r21.toInt = 0 → w_X7_typesHold_J146 Q (w_X7_typesHold_L80 Q n80) S22 v80_1) ∧ (¬ r21.toInt = 0 → ((8 < (qI S22 9 13).toInt → w_X7_typesHold_J146 Q (w_X7_typesHold_L80 Q n80) S22 v80_1) ∧ (¬ 8 < (qI S22 9 13).toInt → w_X7_typesHold_J147 Q (w_X7_typesHold_L80 Q n80) S22 1 v80_1)))))))) ∧ (¬ (qI U80 9 7).toInt ≤ v80_1.toInt → (d_X7_typeOf U80 v80_1 ∧ (∀ a29 : Int32, a29 = (fX7_typeOf U80 v80_1) → (d_X7_kindOfType U80 a29 ∧ (∀ a33 : Int32, a33 = (fX7_kindOfType U80 a29) → ((a33.toInt = 0 → w_X7_typesHold_J147 Q (w_X7_typesHold_L80 Q n80) U80 0 v80_1) ∧ (¬ a33.toInt = 0 → w_X7_typesHold_J147 Q (w_X7_typesHold_L80 Q n80) U80 1 v80_1)))))))))))
def w_X7_typesHold_J60 (Q : Int32 → MS → Prop) (U60 : MS) (v60_1 : Int32) : Prop := (wfC U60 → (d_X7_entryAt U60 v60_1 ∧ (∀ a42 : Int32, a42 = (fX7_entryAt U60 v60_1) → (∃ Q43, wX7_breaks U60 (10 : Int32) a42 Q43 ∧ ∀ r44 S45, Q43 r44 S45 → wfC S45 → shy U60 S45 → Q r44 S45))))
def w_X7_typesHold_J72 (Q : Int32 → MS → Prop) (k2 : MS → Int32 → Prop) (U72 : MS) (v72_1 : Int32) : Prop := (wfC U72 → (∀ a47 : Int32, a47 = (v72_1 + Int32.ofInt 1) → k2 U72 a47))
def w_X7_typesHold_J38 (Q : Int32 → MS → Prop) (k2 : MS → Int32 → Prop) (U38 : MS) (v38_1 : Int32) (v38_2 : Int32) : Prop := (wfC U38 → ((v38_2.toInt = 10 → (d_X7_secondOf U38 v38_1 ∧ (∀ a52 : Int32, a52 = (fX7_secondOf U38 v38_1) → (d_X7_secondOf U38 a52 ∧ (∀ a56 : Int32, a56 = (fX7_secondOf U38 a52) → (∃ Q57, wX7_isMethodType U38 a56 Q57 ∧ ∀ r58 S59, Q57 r58 S59 → wfC S59 → shy U38 S59 → ((r58.toInt = 0 → w_X7_typesHold_J60 Q S59 v38_1) ∧ (¬ r58.toInt = 0 → w_X7_typesHold_J72 Q k2 S59 v38_1)))))))) ∧ (¬ v38_2.toInt = 10 → w_X7_typesHold_J72 Q k2 U38 v38_1)))
def w_X7_typesHold_L2 (Q : Int32 → MS → Prop) : Nat → MS → Int32 → Prop
  | 0, _, _ => False
  | n2 + 1, U2, v2_1 => (wfC U2 → (((qI U2 9 5).toInt ≤ v2_1.toInt → (∃ n, w_X7_typesHold_L80 Q n U2 0)) ∧ (¬ (qI U2 9 5).toInt ≤ v2_1.toInt → (d_X7_tagOf U2 v2_1 ∧ (∀ a38 : Int32, a38 = (fX7_tagOf U2 v2_1) → ((a38.toInt = 9 → (d_X7_secondOf U2 v2_1 ∧ (∀ a66 : Int32, a66 = (fX7_secondOf U2 v2_1) → (d_X7_secondOf U2 a66 ∧ (∀ a70 : Int32, a70 = (fX7_secondOf U2 a66) → (d_X7_kindOfType U2 a70 ∧ (∀ a74 : Int32, a74 = (fX7_kindOfType U2 a70) → ((a74.toInt = 0 → w_X7_typesHold_J60 Q U2 v2_1) ∧ (¬ a74.toInt = 0 → w_X7_typesHold_J38 Q (w_X7_typesHold_L2 Q n2) U2 v2_1 a38))))))))) ∧ (¬ a38.toInt = 9 → w_X7_typesHold_J38 Q (w_X7_typesHold_L2 Q n2) U2 v2_1 a38)))))))
def wX7_typesHold (S : MS) (Q : Int32 → MS → Prop) : Prop := (∃ n, w_X7_typesHold_L2 Q n S 1)
set_option maxHeartbeats 2000000 in
set_option maxRecDepth 100000 in
theorem rX7_typesHold (l : Launch) (g : Gr) (ad : Nat → Nat) (sz : Nat) (S : MS) (hw : wfC S) (Q : Int32 → MS → Prop) (h : wX7_typesHold S Q) : Met l yX7_typesHold (wt yX7_typesHold cX7_typesHold 3 (some .boolean)) ({ frames := 4, cells := 0, slots := 0, locals := 89 }) (va_Pc [.ref (ad 9)] (st_C g ad sz S)) (va_Qi (fun (r : Int32) (u : MS) => Q r u ∧ wfC u ∧ shy S u ∧ (r = 0 ∨ r = 1)) (fun (u : MS) (t : State) => qEC g ad (va_A (WdC g ad S) sz) u t) (va_A (WdC g ad S) sz)) 0 0 (va_A (WdC g ad S) sz) := by
  refine Met.ofW (cc := cX7_typesHold) (maxL := 3) (ret := (some .boolean)) (by decide) rfl ?_
  intro p e s m args below meth c s₁ B hml hv
  obtain ⟨rfl, hsz, hP, hK, hD0, hex, hE⟩ := hv
  have hx := B.exec
  have hb := B.bytes
  have hr := B.returns
  have hts0 := atoms_spec (ws := wt yX7_typesHold cX7_typesHold 3 (some .boolean)) B.pre
  have hts : ∀ w ∈ tb, w.before _ s = true := fun w h => hts0 w (List.mem_cons_of_mem _ h)
  have hown : s.vm.findClass RX7 = some m.cls := findClass_of_methodNamed B.named
  subst hsz
  have hD := hD0.self (sz := s.heap.size)
  generalize hAe : va_A (WdC g ad S) s.heap.size = A at hD hE ⊢
  have hA : ∀ q : Nat, s.heap.size ≤ q → A q := fun q h => by rw [← hAe]; exact Or.inr h
  have hR : RepC g ad A s S s.heap [] := ⟨hK, hP, hD, va_S.rf, hw⟩
  clear hK hP hD hD0
  have hl := lv_entry ([.ref (ad 9)]) (n := 3) (Nat.le_of_ble_eq_true rfl)
  rw [lg_entry_eq]
  generalize (lg_sl ([.ref (ad 9)]) ++ List.replicate (3 - (lg_sl ([.ref (ad 9)])).length) Slot.unset).toArray = ls at hl ⊢
  have hl : lv_has ls 3 [(0, .ref (ad 9))] := hl
  have hsh : shy S S := shy.rf
  unfold wX7_typesHold at h
  refine lv_iconst (v := 1) hx hb dX7_typesHold_0 (by decide) ?_
  refine lv_istore_n (lv' := [(1, .int 1), (0, .ref (ad 9))]) hx hb dX7_typesHold_1 rfl hl (by decide) rfl (fun ls hl => ?_)
  have J_2 : ∀ (n2 : Nat) (U2 : MS) (v2_1 : Int32) (H : Heap) (locs : List Loc) (ls : Array Slot), w_X7_typesHold_L2 Q n2 U2 v2_1 → shy S U2 → RepC g ad A s U2 H locs → lv_has ls 3 [(0, .ref (ad 9)), (1, .int v2_1)] → W p l e (headSpec (wt yX7_typesHold cX7_typesHold 3 (some .boolean)) ({ frames := 4, cells := 0, slots := 0, locals := 89 })).room s m ([.ref (ad 9)] : List Value).toArray below meth c H locs 0 0 (MQ below (va_Qi (fun (r : Int32) (u : MS) => Q r u ∧ wfC u ∧ shy S u ∧ (r = 0 ∨ r = 1)) (fun (u : MS) (t : State) => qEC g ad A u t) A) ([.ref (ad 9)] : List Value).toArray s 0 0 A) (F0 m 2 ls []) := by
    intro n2
    induction n2 with
    | zero => intro U2 v2_1 H locs ls h hsh hR hl; unfold w_X7_typesHold_L2 at h; exact h.elim
    | succ n2 ih_2 =>
      intro U2 v2_1 H locs ls h hsh hR hl
      unfold w_X7_typesHold_L2 at h
      replace h := h hR.w
      refine lv_iload_n hx hb dX7_typesHold_2 rfl (lv_at hl 1 rfl) ?_
      refine lv_aload_n hx hb dX7_typesHold_3 rfl (lv_at hl 0 rfl) ?_
      refine va_get (D := rD g) (ci := 6) (v := .int (qI U2 9 5)) (C := RX7) (T := TX7) (N := 17) hx hb hts inX7 hown hR.K hR.P 9 (hR.at46 (hR.w.2.1 _ finC_2).2.1) rfl 5 (by decide) (hts _ kw_1294) (fun _ h9 => h9) rfl dX7_typesHold_4 ?_
      refine lv_icmp_ge (tgt := 78) hx hb dX7_typesHold_7 (by decide) (fun c1 => ?_) (fun c1 => ?_)
      · replace h := h.1 (k_le rfl rfl c1)
        refine lv_iconst (v := 0) hx hb dX7_typesHold_78 (by decide) ?_
        refine lv_istore_n (lv' := [(1, .int 0), (0, .ref (ad 9))]) hx hb dX7_typesHold_79 rfl hl (by decide) rfl (fun ls hl => ?_)
        have J_80 : ∀ (n80 : Nat) (U80 : MS) (v80_1 : Int32) (H : Heap) (locs : List Loc) (ls : Array Slot), w_X7_typesHold_L80 Q n80 U80 v80_1 → shy S U80 → RepC g ad A s U80 H locs → lv_has ls 3 [(0, .ref (ad 9)), (1, .int v80_1)] → W p l e (headSpec (wt yX7_typesHold cX7_typesHold 3 (some .boolean)) ({ frames := 4, cells := 0, slots := 0, locals := 89 })).room s m ([.ref (ad 9)] : List Value).toArray below meth c H locs 0 0 (MQ below (va_Qi (fun (r : Int32) (u : MS) => Q r u ∧ wfC u ∧ shy S u ∧ (r = 0 ∨ r = 1)) (fun (u : MS) (t : State) => qEC g ad A u t) A) ([.ref (ad 9)] : List Value).toArray s 0 0 A) (F0 m 80 ls []) := by
          intro n80
          induction n80 with
          | zero => intro U80 v80_1 H locs ls h hsh hR hl; unfold w_X7_typesHold_L80 at h; exact h.elim
          | succ n80 ih_80 =>
            intro U80 v80_1 H locs ls h hsh hR hl
            unfold w_X7_typesHold_L80 at h
            replace h := h hR.w
            refine lv_iload_n hx hb dX7_typesHold_80 rfl (lv_at hl 1 rfl) ?_
            refine lv_aload_n hx hb dX7_typesHold_81 rfl (lv_at hl 0 rfl) ?_
            refine va_get (D := rD g) (ci := 6) (v := .int (qI U80 9 7)) (C := RX7) (T := TX7) (N := 17) hx hb hts inX7 hown hR.K hR.P 9 (hR.at46 (hR.w.2.1 _ finC_2).2.1) rfl 7 (by decide) (hts _ kw_1287) (fun _ h9 => h9) rfl dX7_typesHold_82 ?_
            refine lv_aload_n hx hb dX7_typesHold_85 rfl (lv_at hl 0 rfl) ?_
            refine va_get (D := rD g) (ci := 6) (v := .int (qI U80 9 8)) (C := RX7) (T := TX7) (N := 17) hx hb hts inX7 hown hR.K hR.P 9 (hR.at46 (hR.w.2.1 _ finC_2).2.1) rfl 8 (by decide) (hts _ kw_1285) (fun _ h9 => h9) rfl dX7_typesHold_86 ?_
            refine lv_iadd hx hb dX7_typesHold_89 ?_
            refine lv_topi (fun z2 ez2 => ?_)
            obtain rfl : z2 = ((qI U80 9 7) + (qI U80 9 8)) := ez2
            refine lv_icmp_ge (tgt := 172) hx hb dX7_typesHold_90 (by decide) (fun c3 => ?_) (fun c3 => ?_)
            · replace h := h.1 (k_le rfl rfl c3)
              refine lv_iconst (v := 1) hx hb dX7_typesHold_172 (by decide) ?_
              exact W.zret (v := 1) hx hb hr (nz (Or.inr rfl)) (fun t9 ht9 hW9 => ⟨⟨_, U80, rfl, ⟨h, hR.w, hsh, (Or.inr rfl)⟩, ⟨by rw [ht9]; exact hR.P, hR.D⟩⟩, hR.sS.F ht9⟩) hR.sS.2.2 dX7_typesHold_173
            · replace h := h.2 (k_nle rfl rfl c3)
              refine lv_iload_n hx hb dX7_typesHold_93 rfl (lv_at hl 1 rfl) ?_
              refine lv_aload_n hx hb dX7_typesHold_94 rfl (lv_at hl 0 rfl) ?_
              refine va_get (D := rD g) (ci := 6) (v := .int (qI U80 9 7)) (C := RX7) (T := TX7) (N := 17) hx hb hts inX7 hown hR.K hR.P 9 (hR.at46 (hR.w.2.1 _ finC_2).2.1) rfl 7 (by decide) (hts _ kw_1287) (fun _ h9 => h9) rfl dX7_typesHold_95 ?_
              have J_147 : ∀ (U147 : MS) (t147_0 : Int32) (v147_1 : Int32) (H : Heap) (locs : List Loc) (ls : Array Slot), w_X7_typesHold_J147 Q (w_X7_typesHold_L80 Q n80) U147 t147_0 v147_1 → (t147_0 = 0 ∨ t147_0 = 1) → shy S U147 → RepC g ad A s U147 H locs → lv_has ls 3 [(0, .ref (ad 9)), (1, .int v147_1)] → W p l e (headSpec (wt yX7_typesHold cX7_typesHold 3 (some .boolean)) ({ frames := 4, cells := 0, slots := 0, locals := 89 })).room s m ([.ref (ad 9)] : List Value).toArray below meth c H locs 0 0 (MQ below (va_Qi (fun (r : Int32) (u : MS) => Q r u ∧ wfC u ∧ shy S u ∧ (r = 0 ∨ r = 1)) (fun (u : MS) (t : State) => qEC g ad A u t) A) ([.ref (ad 9)] : List Value).toArray s 0 0 A) (F0 m 147 ls [.int t147_0]) := by
                intro U147 t147_0 v147_1 H locs ls h hz_t147_0 hsh hR hl
                unfold w_X7_typesHold_J147 at h
                replace h := h hR.w hz_t147_0
                refine lv_istore_n (lv' := [(2, .int t147_0), (0, .ref (ad 9)), (1, .int v147_1)]) hx hb dX7_typesHold_147 rfl hl (by decide) rfl (fun ls hl => ?_)
                refine lv_iload_n hx hb dX7_typesHold_148 rfl (lv_at hl 0 rfl) ?_
                refine lv_if_ne (tgt := 166) hx hb dX7_typesHold_149 (by decide) (fun c4 => ?_) (fun c4 => ?_)
                · replace h := h.2 (k_ne rfl (by decide) c4)
                  obtain ⟨a5, ea5⟩ : ∃ z, z = (v147_1 + Int32.ofInt 1) := ⟨_, rfl⟩
                  replace h := h a5 ea5
                  refine lv_iinc (v := a5) (lv' := [(1, .int a5), (2, .int t147_0), (0, .ref (ad 9))]) hx hb dX7_typesHold_166 hl (k := 2) rfl ea5.symm (by decide) rfl (fun ls hl => ?_)
                  refine lv_goto (tgt := 80) hx hb dX7_typesHold_169 (by decide) ?_
                  exact ih_80 U147 a5 _ _ ls h  hsh hR (lv_sub hl [2, 0] rfl)
                · replace h := h.1 (k_eq rfl (by decide) c4)
                  refine lv_aload_n hx hb dX7_typesHold_152 rfl (lv_at hl 1 rfl) ?_
                  refine lv_bipush (v := 10) hx hb dX7_typesHold_153 (by decide) ?_
                  refine lv_aload_n hx hb dX7_typesHold_155 rfl (lv_at hl 1 rfl) ?_
                  refine lv_iload_n hx hb dX7_typesHold_156 rfl (lv_at hl 2 rfl) ?_
                  obtain ⟨hv6, h⟩ := h
                  have hFc := cfree hR hA
                  refine va_calli (va_runV (As := [.int v147_1]) (rest := [.int 10, .ref (ad 9)]) ⟨hx, hb, hml, hown, hts⟩ (rX7_memberPlace l g ad H.size U147 v147_1 hR.w  hv6) (cwV 1 hts (gd_V kw_1288 kw_1394 kw_1395 kw_710 kw_1393) rfl rfl rfl (by decide +kernel) ⟨Nat.le_of_ble_eq_true rfl, Nat.le_of_ble_eq_true rfl⟩) ⟨cblind, va_recv hR.K hR.P (ci := 6) (q0 := 9) rfl (hR.at46 (hR.w.2.1 _ finC_2).2.1), fun U hU hW9 => cmk hU hW9 hR hex hE hFc⟩ rfl rfl hl.1 rfl (lv_room (Nat.le_of_ble_eq_true rfl)) dX7_typesHold_157 ⟨Nat.le_of_ble_eq_true rfl, Nat.le_of_ble_eq_true rfl⟩) hR.sS (fun q _ h => hFc q h) hFc (fun r7 u9 t9 H1 locs ht9 hvm9 hw9 hB9 hz9 hk9 hS => ?_)
                  have hR : RepC g ad A s U147 H1 locs := hR.call ht9 hB9 hR.w hS hFc
                  obtain rfl : r7 = (fX7_memberPlace U147 v147_1) := hw9
                  clear hB9 hz9 hk9 hvm9 ht9 hS
                  generalize H1 = H at hR ⊢
                  obtain ⟨a9, ea9⟩ : ∃ z, z = (fX7_memberPlace U147 v147_1) := ⟨_, rfl⟩
                  rw [← ea9]
                  replace h := h a9 ea9
                  refine lv_iconst (v := 4) hx hb dX7_typesHold_160 (by decide) ?_
                  refine lv_iadd hx hb dX7_typesHold_161 ?_
                  refine lv_topi (fun z10 ez10 => ?_)
                  obtain rfl : z10 = (a9 + (4 : Int32)) := ez10
                  obtain ⟨Q11, h0, h⟩ := h
                  have hFc := cfree hR hA
                  refine va_calli (va_runV (As := [.int 10, .int (a9 + (4 : Int32))]) (rest := []) ⟨hx, hb, hml, hown, hts⟩ (rX7_breaks l g ad H.size U147 (10 : Int32) (a9 + (4 : Int32)) hR.w  Q11 h0) (cwV 2 hts (gd_V kw_1276 kw_1278 kw_1279 kw_710 kw_1277) rfl rfl rfl (by decide +kernel) ⟨Nat.le_of_ble_eq_true rfl, Nat.le_of_ble_eq_true rfl⟩) ⟨cblind, va_recv hR.K hR.P (ci := 6) (q0 := 9) rfl (hR.at46 (hR.w.2.1 _ finC_2).2.1), fun U hU hW9 => cmk hU hW9 hR hex hE hFc⟩ rfl rfl hl.1 rfl (lv_room (Nat.le_of_ble_eq_true rfl)) dX7_typesHold_162 ⟨Nat.le_of_ble_eq_true rfl, Nat.le_of_ble_eq_true rfl⟩) hR.sS (fun q _ h => hFc q h) hFc (fun r12 S13 t9 H1 locs ht9 hvm9 hw9 hB9 hz9 hk9 hS => ?_)
                  obtain ⟨hq14, hw9, hs9, hz_r12⟩ := hw9
                  have hR : RepC g ad A s S13 H1 locs := hR.call ht9 hB9 hw9 hS hFc
                  have hsh := hsh.tr hs9
                  replace h := h r12 S13 hq14 hw9 hs9
                  clear hB9 hz9 hk9 hvm9 ht9 hw9 hs9 hS
                  generalize H1 = H at hR ⊢
                  exact W.zret (v := r12) hx hb hr (nz hz_r12) (fun t9 ht9 hW9 => ⟨⟨_, S13, rfl, ⟨h, hR.w, hsh, hz_r12⟩, ⟨by rw [ht9]; exact hR.P, hR.D⟩⟩, hR.sS.F ht9⟩) hR.sS.2.2 dX7_typesHold_165
              refine lv_icmp_ge (tgt := 121) hx hb dX7_typesHold_98 (by decide) (fun c15 => ?_) (fun c15 => ?_)
              · replace h := h.1 (k_le rfl rfl c15)
                refine lv_aload_n hx hb dX7_typesHold_121 rfl (lv_at hl 0 rfl) ?_
                refine lv_aload_n hx hb dX7_typesHold_122 rfl (lv_at hl 0 rfl) ?_
                refine lv_iload_n hx hb dX7_typesHold_123 rfl (lv_at hl 1 rfl) ?_
                obtain ⟨hv16, h⟩ := h
                have hFc := cfree hR hA
                refine va_calli (va_runV (As := [.int v80_1]) (rest := [.ref (ad 9)]) ⟨hx, hb, hml, hown, hts⟩ (rX7_typeOf l g ad H.size U80 v80_1 hR.w  hv16) (cwV 1 hts (gd_V kw_1445 kw_1438 kw_1439 kw_710 kw_1437) rfl rfl rfl (by decide +kernel) ⟨Nat.le_of_ble_eq_true rfl, Nat.le_of_ble_eq_true rfl⟩) ⟨cblind, va_recv hR.K hR.P (ci := 6) (q0 := 9) rfl (hR.at46 (hR.w.2.1 _ finC_2).2.1), fun U hU hW9 => cmk hU hW9 hR hex hE hFc⟩ rfl rfl hl.1 rfl (lv_room (Nat.le_of_ble_eq_true rfl)) dX7_typesHold_124 ⟨Nat.le_of_ble_eq_true rfl, Nat.le_of_ble_eq_true rfl⟩) hR.sS (fun q _ h => hFc q h) hFc (fun r17 u9 t9 H1 locs ht9 hvm9 hw9 hB9 hz9 hk9 hS => ?_)
                have hR : RepC g ad A s U80 H1 locs := hR.call ht9 hB9 hR.w hS hFc
                obtain rfl : r17 = (fX7_typeOf U80 v80_1) := hw9
                clear hB9 hz9 hk9 hvm9 ht9 hS
                generalize H1 = H at hR ⊢
                obtain ⟨a19, ea19⟩ : ∃ z, z = (fX7_typeOf U80 v80_1) := ⟨_, rfl⟩
                rw [← ea19]
                replace h := h a19 ea19
                obtain ⟨Q20, h0, h⟩ := h
                have hFc := cfree hR hA
                refine va_calli (va_runV (As := [.int a19]) (rest := []) ⟨hx, hb, hml, hown, hts⟩ (rX7_isMethodType l g ad H.size U80 a19 hR.w  Q20 h0) (cwV 1 hts (gd_V kw_1444 kw_1344 kw_1345 kw_710 kw_1343) rfl rfl rfl (by decide +kernel) ⟨Nat.le_of_ble_eq_true rfl, Nat.le_of_ble_eq_true rfl⟩) ⟨cblind, va_recv hR.K hR.P (ci := 6) (q0 := 9) rfl (hR.at46 (hR.w.2.1 _ finC_2).2.1), fun U hU hW9 => cmk hU hW9 hR hex hE hFc⟩ rfl rfl hl.1 rfl (lv_room (Nat.le_of_ble_eq_true rfl)) dX7_typesHold_127 ⟨Nat.le_of_ble_eq_true rfl, Nat.le_of_ble_eq_true rfl⟩) hR.sS (fun q _ h => hFc q h) hFc (fun r21 S22 t9 H1 locs ht9 hvm9 hw9 hB9 hz9 hk9 hS => ?_)
                obtain ⟨hq23, hw9, hs9, hz_r21⟩ := hw9
                have hR : RepC g ad A s S22 H1 locs := hR.call ht9 hB9 hw9 hS hFc
                have hsh := hsh.tr hs9
                replace h := h r21 S22 hq23 hw9 hs9
                clear hB9 hz9 hk9 hvm9 ht9 hw9 hs9 hS
                generalize H1 = H at hR ⊢
                have J_146 : ∀ (U146 : MS) (v146_1 : Int32) (H : Heap) (locs : List Loc) (ls : Array Slot), w_X7_typesHold_J146 Q (w_X7_typesHold_L80 Q n80) U146 v146_1 → shy S U146 → RepC g ad A s U146 H locs → lv_has ls 3 [(0, .ref (ad 9)), (1, .int v146_1)] → W p l e (headSpec (wt yX7_typesHold cX7_typesHold 3 (some .boolean)) ({ frames := 4, cells := 0, slots := 0, locals := 89 })).room s m ([.ref (ad 9)] : List Value).toArray below meth c H locs 0 0 (MQ below (va_Qi (fun (r : Int32) (u : MS) => Q r u ∧ wfC u ∧ shy S u ∧ (r = 0 ∨ r = 1)) (fun (u : MS) (t : State) => qEC g ad A u t) A) ([.ref (ad 9)] : List Value).toArray s 0 0 A) (F0 m 146 ls []) := by
                  intro U146 v146_1 H locs ls h hsh hR hl
                  unfold w_X7_typesHold_J146 at h
                  replace h := h hR.w
                  refine lv_iconst (v := 0) hx hb dX7_typesHold_146 (by decide) ?_
                  exact J_147 U146 0 v146_1 _ _ ls h (Or.inl rfl) hsh hR (lv_sub hl [0, 1] rfl)
                refine lv_if_eq (tgt := 146) hx hb dX7_typesHold_130 (by decide) (fun c24 => ?_) (fun c24 => ?_)
                · replace h := h.1 (k_eq rfl (by decide) c24)
                  exact J_146 S22 v80_1 _ _ ls h  hsh hR (lv_sub hl [0, 1] rfl)
                · replace h := h.2 (k_ne rfl (by decide) c24)
                  refine lv_aload_n hx hb dX7_typesHold_133 rfl (lv_at hl 0 rfl) ?_
                  refine va_get (D := rD g) (ci := 6) (v := .int (qI S22 9 13)) (C := RX7) (T := TX7) (N := 17) hx hb hts inX7 hown hR.K hR.P 9 (hR.at46 (hR.w.2.1 _ finC_2).2.1) rfl 13 (by decide) (hts _ kw_1347) (fun _ h9 => h9) rfl dX7_typesHold_134 ?_
                  refine lv_bipush (v := 8) hx hb dX7_typesHold_137 (by decide) ?_
                  refine lv_icmp_gt (tgt := 146) hx hb dX7_typesHold_139 (by decide) (fun c25 => ?_) (fun c25 => ?_)
                  · replace h := h.1 (k_lt (by decide) rfl c25)
                    exact J_146 S22 v80_1 _ _ ls h  hsh hR (lv_sub hl [0, 1] rfl)
                  · replace h := h.2 (k_nlt (by decide) rfl c25)
                    refine lv_iconst (v := 1) hx hb dX7_typesHold_142 (by decide) ?_
                    refine lv_goto (tgt := 147) hx hb dX7_typesHold_143 (by decide) ?_
                    exact J_147 S22 1 v80_1 _ _ ls h (Or.inr rfl) hsh hR (lv_sub hl [0, 1] rfl)
              · replace h := h.2 (k_nle rfl rfl c15)
                refine lv_aload_n hx hb dX7_typesHold_101 rfl (lv_at hl 0 rfl) ?_
                refine lv_aload_n hx hb dX7_typesHold_102 rfl (lv_at hl 0 rfl) ?_
                refine lv_iload_n hx hb dX7_typesHold_103 rfl (lv_at hl 1 rfl) ?_
                obtain ⟨hv26, h⟩ := h
                have hFc := cfree hR hA
                refine va_calli (va_runV (As := [.int v80_1]) (rest := [.ref (ad 9)]) ⟨hx, hb, hml, hown, hts⟩ (rX7_typeOf l g ad H.size U80 v80_1 hR.w  hv26) (cwV 1 hts (gd_V kw_1445 kw_1438 kw_1439 kw_710 kw_1437) rfl rfl rfl (by decide +kernel) ⟨Nat.le_of_ble_eq_true rfl, Nat.le_of_ble_eq_true rfl⟩) ⟨cblind, va_recv hR.K hR.P (ci := 6) (q0 := 9) rfl (hR.at46 (hR.w.2.1 _ finC_2).2.1), fun U hU hW9 => cmk hU hW9 hR hex hE hFc⟩ rfl rfl hl.1 rfl (lv_room (Nat.le_of_ble_eq_true rfl)) dX7_typesHold_104 ⟨Nat.le_of_ble_eq_true rfl, Nat.le_of_ble_eq_true rfl⟩) hR.sS (fun q _ h => hFc q h) hFc (fun r27 u9 t9 H1 locs ht9 hvm9 hw9 hB9 hz9 hk9 hS => ?_)
                have hR : RepC g ad A s U80 H1 locs := hR.call ht9 hB9 hR.w hS hFc
                obtain rfl : r27 = (fX7_typeOf U80 v80_1) := hw9
                clear hB9 hz9 hk9 hvm9 ht9 hS
                generalize H1 = H at hR ⊢
                obtain ⟨a29, ea29⟩ : ∃ z, z = (fX7_typeOf U80 v80_1) := ⟨_, rfl⟩
                rw [← ea29]
                replace h := h a29 ea29
                obtain ⟨hv30, h⟩ := h
                have hFc := cfree hR hA
                refine va_calli (va_runV (As := [.int a29]) (rest := []) ⟨hx, hb, hml, hown, hts⟩ (rX7_kindOfType l g ad H.size U80 a29 hR.w  hv30) (cwV 1 hts (gd_V kw_1443 kw_1388 kw_1389 kw_710 kw_1387) rfl rfl rfl (by decide +kernel) ⟨Nat.le_of_ble_eq_true rfl, Nat.le_of_ble_eq_true rfl⟩) ⟨cblind, va_recv hR.K hR.P (ci := 6) (q0 := 9) rfl (hR.at46 (hR.w.2.1 _ finC_2).2.1), fun U hU hW9 => cmk hU hW9 hR hex hE hFc⟩ rfl rfl hl.1 rfl (lv_room (Nat.le_of_ble_eq_true rfl)) dX7_typesHold_107 ⟨Nat.le_of_ble_eq_true rfl, Nat.le_of_ble_eq_true rfl⟩) hR.sS (fun q _ h => hFc q h) hFc (fun r31 u9 t9 H1 locs ht9 hvm9 hw9 hB9 hz9 hk9 hS => ?_)
                have hR : RepC g ad A s U80 H1 locs := hR.call ht9 hB9 hR.w hS hFc
                obtain rfl : r31 = (fX7_kindOfType U80 a29) := hw9
                clear hB9 hz9 hk9 hvm9 ht9 hS
                generalize H1 = H at hR ⊢
                obtain ⟨a33, ea33⟩ : ∃ z, z = (fX7_kindOfType U80 a29) := ⟨_, rfl⟩
                rw [← ea33]
                replace h := h a33 ea33
                refine lv_if_eq (tgt := 117) hx hb dX7_typesHold_110 (by decide) (fun c34 => ?_) (fun c34 => ?_)
                · replace h := h.1 (k_eq rfl (by decide) c34)
                  refine lv_iconst (v := 0) hx hb dX7_typesHold_117 (by decide) ?_
                  refine lv_goto (tgt := 147) hx hb dX7_typesHold_118 (by decide) ?_
                  exact J_147 U80 0 v80_1 _ _ ls h (Or.inl rfl) hsh hR (lv_sub hl [0, 1] rfl)
                · replace h := h.2 (k_ne rfl (by decide) c34)
                  refine lv_iconst (v := 1) hx hb dX7_typesHold_113 (by decide) ?_
                  refine lv_goto (tgt := 147) hx hb dX7_typesHold_114 (by decide) ?_
                  exact J_147 U80 1 v80_1 _ _ ls h (Or.inr rfl) hsh hR (lv_sub hl [0, 1] rfl)
        obtain ⟨n9, h⟩ := h
        exact J_80 n9 U2 0 _ _ ls h  hsh hR (lv_sub hl [1, 0] rfl)
      · replace h := h.2 (k_nle rfl rfl c1)
        refine lv_aload_n hx hb dX7_typesHold_10 rfl (lv_at hl 0 rfl) ?_
        refine lv_iload_n hx hb dX7_typesHold_11 rfl (lv_at hl 1 rfl) ?_
        obtain ⟨hv35, h⟩ := h
        have hFc := cfree hR hA
        refine va_calli (va_runV (As := [.int v2_1]) (rest := []) ⟨hx, hb, hml, hown, hts⟩ (rX7_tagOf l g ad H.size U2 v2_1 hR.w  hv35) (cwV 1 hts (gd_V kw_1313 kw_1435 kw_1436 kw_710 kw_1434) rfl rfl rfl (by decide +kernel) ⟨Nat.le_of_ble_eq_true rfl, Nat.le_of_ble_eq_true rfl⟩) ⟨cblind, va_recv hR.K hR.P (ci := 6) (q0 := 9) rfl (hR.at46 (hR.w.2.1 _ finC_2).2.1), fun U hU hW9 => cmk hU hW9 hR hex hE hFc⟩ rfl rfl hl.1 rfl (lv_room (Nat.le_of_ble_eq_true rfl)) dX7_typesHold_12 ⟨Nat.le_of_ble_eq_true rfl, Nat.le_of_ble_eq_true rfl⟩) hR.sS (fun q _ h => hFc q h) hFc (fun r36 u9 t9 H1 locs ht9 hvm9 hw9 hB9 hz9 hk9 hS => ?_)
        have hR : RepC g ad A s U2 H1 locs := hR.call ht9 hB9 hR.w hS hFc
        obtain rfl : r36 = (fX7_tagOf U2 v2_1) := hw9
        clear hB9 hz9 hk9 hvm9 ht9 hS
        generalize H1 = H at hR ⊢
        obtain ⟨a38, ea38⟩ : ∃ z, z = (fX7_tagOf U2 v2_1) := ⟨_, rfl⟩
        rw [← ea38]
        replace h := h a38 ea38
        refine lv_istore_n (lv' := [(2, .int a38), (0, .ref (ad 9)), (1, .int v2_1)]) hx hb dX7_typesHold_15 rfl hl (by decide) rfl (fun ls hl => ?_)
        refine lv_iload_n hx hb dX7_typesHold_16 rfl (lv_at hl 0 rfl) ?_
        refine lv_bipush (v := 9) hx hb dX7_typesHold_17 (by decide) ?_
        have J_60 : ∀ (U60 : MS) (v60_1 : Int32) (H : Heap) (locs : List Loc) (ls : Array Slot), w_X7_typesHold_J60 Q U60 v60_1 → shy S U60 → RepC g ad A s U60 H locs → lv_has ls 3 [(0, .ref (ad 9)), (1, .int v60_1)] → W p l e (headSpec (wt yX7_typesHold cX7_typesHold 3 (some .boolean)) ({ frames := 4, cells := 0, slots := 0, locals := 89 })).room s m ([.ref (ad 9)] : List Value).toArray below meth c H locs 0 0 (MQ below (va_Qi (fun (r : Int32) (u : MS) => Q r u ∧ wfC u ∧ shy S u ∧ (r = 0 ∨ r = 1)) (fun (u : MS) (t : State) => qEC g ad A u t) A) ([.ref (ad 9)] : List Value).toArray s 0 0 A) (F0 m 60 ls []) := by
          intro U60 v60_1 H locs ls h hsh hR hl
          unfold w_X7_typesHold_J60 at h
          replace h := h hR.w
          refine lv_aload_n hx hb dX7_typesHold_60 rfl (lv_at hl 0 rfl) ?_
          refine lv_bipush (v := 10) hx hb dX7_typesHold_61 (by decide) ?_
          refine lv_aload_n hx hb dX7_typesHold_63 rfl (lv_at hl 0 rfl) ?_
          refine lv_iload_n hx hb dX7_typesHold_64 rfl (lv_at hl 1 rfl) ?_
          obtain ⟨hv39, h⟩ := h
          have hFc := cfree hR hA
          refine va_calli (va_runV (As := [.int v60_1]) (rest := [.int 10, .ref (ad 9)]) ⟨hx, hb, hml, hown, hts⟩ (rX7_entryAt l g ad H.size U60 v60_1 hR.w  hv39) (cwV 1 hts (gd_V kw_1296 kw_1298 kw_1299 kw_710 kw_1297) rfl rfl rfl (by decide +kernel) ⟨Nat.le_of_ble_eq_true rfl, Nat.le_of_ble_eq_true rfl⟩) ⟨cblind, va_recv hR.K hR.P (ci := 6) (q0 := 9) rfl (hR.at46 (hR.w.2.1 _ finC_2).2.1), fun U hU hW9 => cmk hU hW9 hR hex hE hFc⟩ rfl rfl hl.1 rfl (lv_room (Nat.le_of_ble_eq_true rfl)) dX7_typesHold_65 ⟨Nat.le_of_ble_eq_true rfl, Nat.le_of_ble_eq_true rfl⟩) hR.sS (fun q _ h => hFc q h) hFc (fun r40 u9 t9 H1 locs ht9 hvm9 hw9 hB9 hz9 hk9 hS => ?_)
          have hR : RepC g ad A s U60 H1 locs := hR.call ht9 hB9 hR.w hS hFc
          obtain rfl : r40 = (fX7_entryAt U60 v60_1) := hw9
          clear hB9 hz9 hk9 hvm9 ht9 hS
          generalize H1 = H at hR ⊢
          obtain ⟨a42, ea42⟩ : ∃ z, z = (fX7_entryAt U60 v60_1) := ⟨_, rfl⟩
          rw [← ea42]
          replace h := h a42 ea42
          obtain ⟨Q43, h0, h⟩ := h
          have hFc := cfree hR hA
          refine va_calli (va_runV (As := [.int 10, .int a42]) (rest := []) ⟨hx, hb, hml, hown, hts⟩ (rX7_breaks l g ad H.size U60 (10 : Int32) a42 hR.w  Q43 h0) (cwV 2 hts (gd_V kw_1276 kw_1278 kw_1279 kw_710 kw_1277) rfl rfl rfl (by decide +kernel) ⟨Nat.le_of_ble_eq_true rfl, Nat.le_of_ble_eq_true rfl⟩) ⟨cblind, va_recv hR.K hR.P (ci := 6) (q0 := 9) rfl (hR.at46 (hR.w.2.1 _ finC_2).2.1), fun U hU hW9 => cmk hU hW9 hR hex hE hFc⟩ rfl rfl hl.1 rfl (lv_room (Nat.le_of_ble_eq_true rfl)) dX7_typesHold_68 ⟨Nat.le_of_ble_eq_true rfl, Nat.le_of_ble_eq_true rfl⟩) hR.sS (fun q _ h => hFc q h) hFc (fun r44 S45 t9 H1 locs ht9 hvm9 hw9 hB9 hz9 hk9 hS => ?_)
          obtain ⟨hq46, hw9, hs9, hz_r44⟩ := hw9
          have hR : RepC g ad A s S45 H1 locs := hR.call ht9 hB9 hw9 hS hFc
          have hsh := hsh.tr hs9
          replace h := h r44 S45 hq46 hw9 hs9
          clear hB9 hz9 hk9 hvm9 ht9 hw9 hs9 hS
          generalize H1 = H at hR ⊢
          exact W.zret (v := r44) hx hb hr (nz hz_r44) (fun t9 ht9 hW9 => ⟨⟨_, S45, rfl, ⟨h, hR.w, hsh, hz_r44⟩, ⟨by rw [ht9]; exact hR.P, hR.D⟩⟩, hR.sS.F ht9⟩) hR.sS.2.2 dX7_typesHold_71
        have J_38 : ∀ (U38 : MS) (v38_1 : Int32) (v38_2 : Int32) (H : Heap) (locs : List Loc) (ls : Array Slot), w_X7_typesHold_J38 Q (w_X7_typesHold_L2 Q n2) U38 v38_1 v38_2 → shy S U38 → RepC g ad A s U38 H locs → lv_has ls 3 [(0, .ref (ad 9)), (1, .int v38_1), (2, .int v38_2)] → W p l e (headSpec (wt yX7_typesHold cX7_typesHold 3 (some .boolean)) ({ frames := 4, cells := 0, slots := 0, locals := 89 })).room s m ([.ref (ad 9)] : List Value).toArray below meth c H locs 0 0 (MQ below (va_Qi (fun (r : Int32) (u : MS) => Q r u ∧ wfC u ∧ shy S u ∧ (r = 0 ∨ r = 1)) (fun (u : MS) (t : State) => qEC g ad A u t) A) ([.ref (ad 9)] : List Value).toArray s 0 0 A) (F0 m 38 ls []) := by
          intro U38 v38_1 v38_2 H locs ls h hsh hR hl
          unfold w_X7_typesHold_J38 at h
          replace h := h hR.w
          refine lv_iload_n hx hb dX7_typesHold_38 rfl (lv_at hl 2 rfl) ?_
          refine lv_bipush (v := 10) hx hb dX7_typesHold_39 (by decide) ?_
          have J_72 : ∀ (U72 : MS) (v72_1 : Int32) (H : Heap) (locs : List Loc) (ls : Array Slot), w_X7_typesHold_J72 Q (w_X7_typesHold_L2 Q n2) U72 v72_1 → shy S U72 → RepC g ad A s U72 H locs → lv_has ls 3 [(0, .ref (ad 9)), (1, .int v72_1)] → W p l e (headSpec (wt yX7_typesHold cX7_typesHold 3 (some .boolean)) ({ frames := 4, cells := 0, slots := 0, locals := 89 })).room s m ([.ref (ad 9)] : List Value).toArray below meth c H locs 0 0 (MQ below (va_Qi (fun (r : Int32) (u : MS) => Q r u ∧ wfC u ∧ shy S u ∧ (r = 0 ∨ r = 1)) (fun (u : MS) (t : State) => qEC g ad A u t) A) ([.ref (ad 9)] : List Value).toArray s 0 0 A) (F0 m 72 ls []) := by
            intro U72 v72_1 H locs ls h hsh hR hl
            unfold w_X7_typesHold_J72 at h
            replace h := h hR.w
            obtain ⟨a47, ea47⟩ : ∃ z, z = (v72_1 + Int32.ofInt 1) := ⟨_, rfl⟩
            replace h := h a47 ea47
            refine lv_iinc (v := a47) (lv' := [(1, .int a47), (0, .ref (ad 9))]) hx hb dX7_typesHold_72 hl (k := 1) rfl ea47.symm (by decide) rfl (fun ls hl => ?_)
            refine lv_goto (tgt := 2) hx hb dX7_typesHold_75 (by decide) ?_
            exact ih_2 U72 a47 _ _ ls h  hsh hR (lv_sub hl [1, 0] rfl)
          refine lv_icmp_ne (tgt := 72) hx hb dX7_typesHold_41 (by decide) (fun c48 => ?_) (fun c48 => ?_)
          · replace h := h.2 (k_ne rfl (by decide) c48)
            exact J_72 U38 v38_1 _ _ ls h  hsh hR (lv_sub hl [0, 1] rfl)
          · replace h := h.1 (k_eq rfl (by decide) c48)
            refine lv_aload_n hx hb dX7_typesHold_44 rfl (lv_at hl 0 rfl) ?_
            refine lv_aload_n hx hb dX7_typesHold_45 rfl (lv_at hl 0 rfl) ?_
            refine lv_aload_n hx hb dX7_typesHold_46 rfl (lv_at hl 0 rfl) ?_
            refine lv_iload_n hx hb dX7_typesHold_47 rfl (lv_at hl 1 rfl) ?_
            obtain ⟨hv49, h⟩ := h
            have hFc := cfree hR hA
            refine va_calli (va_runV (As := [.int v38_1]) (rest := [.ref (ad 9), .ref (ad 9)]) ⟨hx, hb, hml, hown, hts⟩ (rX7_secondOf l g ad H.size U38 v38_1 hR.w  hv49) (cwV 1 hts (gd_V kw_1315 kw_1432 kw_1433 kw_710 kw_1431) rfl rfl rfl (by decide +kernel) ⟨Nat.le_of_ble_eq_true rfl, Nat.le_of_ble_eq_true rfl⟩) ⟨cblind, va_recv hR.K hR.P (ci := 6) (q0 := 9) rfl (hR.at46 (hR.w.2.1 _ finC_2).2.1), fun U hU hW9 => cmk hU hW9 hR hex hE hFc⟩ rfl rfl hl.1 rfl (lv_room (Nat.le_of_ble_eq_true rfl)) dX7_typesHold_48 ⟨Nat.le_of_ble_eq_true rfl, Nat.le_of_ble_eq_true rfl⟩) hR.sS (fun q _ h => hFc q h) hFc (fun r50 u9 t9 H1 locs ht9 hvm9 hw9 hB9 hz9 hk9 hS => ?_)
            have hR : RepC g ad A s U38 H1 locs := hR.call ht9 hB9 hR.w hS hFc
            obtain rfl : r50 = (fX7_secondOf U38 v38_1) := hw9
            clear hB9 hz9 hk9 hvm9 ht9 hS
            generalize H1 = H at hR ⊢
            obtain ⟨a52, ea52⟩ : ∃ z, z = (fX7_secondOf U38 v38_1) := ⟨_, rfl⟩
            rw [← ea52]
            replace h := h a52 ea52
            obtain ⟨hv53, h⟩ := h
            have hFc := cfree hR hA
            refine va_calli (va_runV (As := [.int a52]) (rest := [.ref (ad 9)]) ⟨hx, hb, hml, hown, hts⟩ (rX7_secondOf l g ad H.size U38 a52 hR.w  hv53) (cwV 1 hts (gd_V kw_1315 kw_1432 kw_1433 kw_710 kw_1431) rfl rfl rfl (by decide +kernel) ⟨Nat.le_of_ble_eq_true rfl, Nat.le_of_ble_eq_true rfl⟩) ⟨cblind, va_recv hR.K hR.P (ci := 6) (q0 := 9) rfl (hR.at46 (hR.w.2.1 _ finC_2).2.1), fun U hU hW9 => cmk hU hW9 hR hex hE hFc⟩ rfl rfl hl.1 rfl (lv_room (Nat.le_of_ble_eq_true rfl)) dX7_typesHold_51 ⟨Nat.le_of_ble_eq_true rfl, Nat.le_of_ble_eq_true rfl⟩) hR.sS (fun q _ h => hFc q h) hFc (fun r54 u9 t9 H1 locs ht9 hvm9 hw9 hB9 hz9 hk9 hS => ?_)
            have hR : RepC g ad A s U38 H1 locs := hR.call ht9 hB9 hR.w hS hFc
            obtain rfl : r54 = (fX7_secondOf U38 a52) := hw9
            clear hB9 hz9 hk9 hvm9 ht9 hS
            generalize H1 = H at hR ⊢
            obtain ⟨a56, ea56⟩ : ∃ z, z = (fX7_secondOf U38 a52) := ⟨_, rfl⟩
            rw [← ea56]
            replace h := h a56 ea56
            obtain ⟨Q57, h0, h⟩ := h
            have hFc := cfree hR hA
            refine va_calli (va_runV (As := [.int a56]) (rest := []) ⟨hx, hb, hml, hown, hts⟩ (rX7_isMethodType l g ad H.size U38 a56 hR.w  Q57 h0) (cwV 1 hts (gd_V kw_1444 kw_1344 kw_1345 kw_710 kw_1343) rfl rfl rfl (by decide +kernel) ⟨Nat.le_of_ble_eq_true rfl, Nat.le_of_ble_eq_true rfl⟩) ⟨cblind, va_recv hR.K hR.P (ci := 6) (q0 := 9) rfl (hR.at46 (hR.w.2.1 _ finC_2).2.1), fun U hU hW9 => cmk hU hW9 hR hex hE hFc⟩ rfl rfl hl.1 rfl (lv_room (Nat.le_of_ble_eq_true rfl)) dX7_typesHold_54 ⟨Nat.le_of_ble_eq_true rfl, Nat.le_of_ble_eq_true rfl⟩) hR.sS (fun q _ h => hFc q h) hFc (fun r58 S59 t9 H1 locs ht9 hvm9 hw9 hB9 hz9 hk9 hS => ?_)
            obtain ⟨hq60, hw9, hs9, hz_r58⟩ := hw9
            have hR : RepC g ad A s S59 H1 locs := hR.call ht9 hB9 hw9 hS hFc
            have hsh := hsh.tr hs9
            replace h := h r58 S59 hq60 hw9 hs9
            clear hB9 hz9 hk9 hvm9 ht9 hw9 hs9 hS
            generalize H1 = H at hR ⊢
            refine lv_if_ne (tgt := 72) hx hb dX7_typesHold_57 (by decide) (fun c61 => ?_) (fun c61 => ?_)
            · replace h := h.2 (k_ne rfl (by decide) c61)
              exact J_72 S59 v38_1 _ _ ls h  hsh hR (lv_sub hl [0, 1] rfl)
            · replace h := h.1 (k_eq rfl (by decide) c61)
              exact J_60 S59 v38_1 _ _ ls h  hsh hR (lv_sub hl [0, 1] rfl)
        refine lv_icmp_ne (tgt := 38) hx hb dX7_typesHold_19 (by decide) (fun c62 => ?_) (fun c62 => ?_)
        · replace h := h.2 (k_ne rfl (by decide) c62)
          exact J_38 U2 v2_1 a38 _ _ ls h  hsh hR (lv_sub hl [1, 2, 0] rfl)
        · replace h := h.1 (k_eq rfl (by decide) c62)
          refine lv_aload_n hx hb dX7_typesHold_22 rfl (lv_at hl 1 rfl) ?_
          refine lv_aload_n hx hb dX7_typesHold_23 rfl (lv_at hl 1 rfl) ?_
          refine lv_aload_n hx hb dX7_typesHold_24 rfl (lv_at hl 1 rfl) ?_
          refine lv_iload_n hx hb dX7_typesHold_25 rfl (lv_at hl 2 rfl) ?_
          obtain ⟨hv63, h⟩ := h
          have hFc := cfree hR hA
          refine va_calli (va_runV (As := [.int v2_1]) (rest := [.ref (ad 9), .ref (ad 9)]) ⟨hx, hb, hml, hown, hts⟩ (rX7_secondOf l g ad H.size U2 v2_1 hR.w  hv63) (cwV 1 hts (gd_V kw_1315 kw_1432 kw_1433 kw_710 kw_1431) rfl rfl rfl (by decide +kernel) ⟨Nat.le_of_ble_eq_true rfl, Nat.le_of_ble_eq_true rfl⟩) ⟨cblind, va_recv hR.K hR.P (ci := 6) (q0 := 9) rfl (hR.at46 (hR.w.2.1 _ finC_2).2.1), fun U hU hW9 => cmk hU hW9 hR hex hE hFc⟩ rfl rfl hl.1 rfl (lv_room (Nat.le_of_ble_eq_true rfl)) dX7_typesHold_26 ⟨Nat.le_of_ble_eq_true rfl, Nat.le_of_ble_eq_true rfl⟩) hR.sS (fun q _ h => hFc q h) hFc (fun r64 u9 t9 H1 locs ht9 hvm9 hw9 hB9 hz9 hk9 hS => ?_)
          have hR : RepC g ad A s U2 H1 locs := hR.call ht9 hB9 hR.w hS hFc
          obtain rfl : r64 = (fX7_secondOf U2 v2_1) := hw9
          clear hB9 hz9 hk9 hvm9 ht9 hS
          generalize H1 = H at hR ⊢
          obtain ⟨a66, ea66⟩ : ∃ z, z = (fX7_secondOf U2 v2_1) := ⟨_, rfl⟩
          rw [← ea66]
          replace h := h a66 ea66
          obtain ⟨hv67, h⟩ := h
          have hFc := cfree hR hA
          refine va_calli (va_runV (As := [.int a66]) (rest := [.ref (ad 9)]) ⟨hx, hb, hml, hown, hts⟩ (rX7_secondOf l g ad H.size U2 a66 hR.w  hv67) (cwV 1 hts (gd_V kw_1315 kw_1432 kw_1433 kw_710 kw_1431) rfl rfl rfl (by decide +kernel) ⟨Nat.le_of_ble_eq_true rfl, Nat.le_of_ble_eq_true rfl⟩) ⟨cblind, va_recv hR.K hR.P (ci := 6) (q0 := 9) rfl (hR.at46 (hR.w.2.1 _ finC_2).2.1), fun U hU hW9 => cmk hU hW9 hR hex hE hFc⟩ rfl rfl hl.1 rfl (lv_room (Nat.le_of_ble_eq_true rfl)) dX7_typesHold_29 ⟨Nat.le_of_ble_eq_true rfl, Nat.le_of_ble_eq_true rfl⟩) hR.sS (fun q _ h => hFc q h) hFc (fun r68 u9 t9 H1 locs ht9 hvm9 hw9 hB9 hz9 hk9 hS => ?_)
          have hR : RepC g ad A s U2 H1 locs := hR.call ht9 hB9 hR.w hS hFc
          obtain rfl : r68 = (fX7_secondOf U2 a66) := hw9
          clear hB9 hz9 hk9 hvm9 ht9 hS
          generalize H1 = H at hR ⊢
          obtain ⟨a70, ea70⟩ : ∃ z, z = (fX7_secondOf U2 a66) := ⟨_, rfl⟩
          rw [← ea70]
          replace h := h a70 ea70
          obtain ⟨hv71, h⟩ := h
          have hFc := cfree hR hA
          refine va_calli (va_runV (As := [.int a70]) (rest := []) ⟨hx, hb, hml, hown, hts⟩ (rX7_kindOfType l g ad H.size U2 a70 hR.w  hv71) (cwV 1 hts (gd_V kw_1443 kw_1388 kw_1389 kw_710 kw_1387) rfl rfl rfl (by decide +kernel) ⟨Nat.le_of_ble_eq_true rfl, Nat.le_of_ble_eq_true rfl⟩) ⟨cblind, va_recv hR.K hR.P (ci := 6) (q0 := 9) rfl (hR.at46 (hR.w.2.1 _ finC_2).2.1), fun U hU hW9 => cmk hU hW9 hR hex hE hFc⟩ rfl rfl hl.1 rfl (lv_room (Nat.le_of_ble_eq_true rfl)) dX7_typesHold_32 ⟨Nat.le_of_ble_eq_true rfl, Nat.le_of_ble_eq_true rfl⟩) hR.sS (fun q _ h => hFc q h) hFc (fun r72 u9 t9 H1 locs ht9 hvm9 hw9 hB9 hz9 hk9 hS => ?_)
          have hR : RepC g ad A s U2 H1 locs := hR.call ht9 hB9 hR.w hS hFc
          obtain rfl : r72 = (fX7_kindOfType U2 a70) := hw9
          clear hB9 hz9 hk9 hvm9 ht9 hS
          generalize H1 = H at hR ⊢
          obtain ⟨a74, ea74⟩ : ∃ z, z = (fX7_kindOfType U2 a70) := ⟨_, rfl⟩
          rw [← ea74]
          replace h := h a74 ea74
          refine lv_if_eq (tgt := 60) hx hb dX7_typesHold_35 (by decide) (fun c75 => ?_) (fun c75 => ?_)
          · replace h := h.1 (k_eq rfl (by decide) c75)
            exact J_60 U2 v2_1 _ _ ls h  hsh hR (lv_sub hl [1, 2] rfl)
          · replace h := h.2 (k_ne rfl (by decide) c75)
            exact J_38 U2 v2_1 a38 _ _ ls h  hsh hR (lv_sub hl [1, 2, 0] rfl)
  obtain ⟨n9, h⟩ := h
  exact J_2 n9 S 1 _ _ ls h  hsh hR (lv_sub hl [1, 0] rfl)
