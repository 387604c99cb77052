def wX8_setTarget (S : MS) (p0 : Nat) (x1 : Int32) (x2 : Int32) (x3 : Int32) (Q : MS → Prop) : Prop := (d_X8_opAt S p0 x1 ∧ (∀ a4 : Int32, a4 = (fX8_opAt S p0 x1) → (d_X6_isJump S a4 ∧ (∀ a8 : Int32, a8 = (fX6_isJump S a4) → ((a8.toInt = 0 → (d_X8_argAt S p0 x1 ∧ (∀ a13 : Int64, a13 = (fX8_argAt S p0 x1) → (∀ a16 : Int32, a16 = (((a13.toInt32) + (2 : Int32)) + x2) → ((a16.toInt < 0 → Q S) ∧ (¬ a16.toInt < 0 → (((qI S p0 4).toInt ≤ a16.toInt → Q S) ∧ (¬ (qI S p0 4).toInt ≤ a16.toInt → ((qR S p0 3 = some (qO S p0 3)) ∧ (((0 : Int) ≤ a16.toInt ∧ a16.toInt < (qN S (qO S p0 3) : Int)) ∧ (∀ S22, S22 = wI S (qO S p0 3) a16.toInt.toNat x3 → qT S (qO S p0 3) = 223 → wfC S22 → Q S22))))))))))) ∧ (¬ a8.toInt = 0 → (d_X8_opAt S p0 x1 ∧ (∀ a26 : Int32, a26 = (fX8_opAt S p0 x1) → (qT S p0 = 47 → (∃ Q27, wX8_set S p0 x1 a26 (x3.toInt64) Q27 ∧ ∀ S28, Q27 S28 → wfC S28 → shy S S28 → Q S28))))))))))
set_option maxHeartbeats 2000000 in
set_option maxRecDepth 100000 in
theorem rX8_setTarget (l : Launch) (g : Gr) (ad : Nat → Nat) (sz : Nat) (S : MS) (p0 : Nat) (x1 : Int32) (x2 : Int32) (x3 : Int32) (hw : wfC S) (hT_p0 : qT S p0 = 47) (Q : MS → Prop) (h : wX8_setTarget S p0 x1 x2 x3 Q) : Met l yX8_setTarget (wt yX8_setTarget cX8_setTarget 5 none) ({ frames := 1, cells := 0, slots := 0, locals := 24 }) (va_Pc [.ref (ad p0), .int x1, .int x2, .int x3] (st_C g ad sz S)) (va_Qv (fun (u : MS) => Q u ∧ wfC u ∧ shy S u) (fun (u : MS) (t : State) => qEC g ad (va_A (WdC g ad S) sz) u t) (va_A (WdC g ad S) sz)) 0 0 (va_A (WdC g ad S) sz) := by
  refine Met.ofW (cc := cX8_setTarget) (maxL := 5) (ret := none) (by decide) rfl ?_
  intro p e s m args below meth c s₁ B hml hv
  obtain ⟨rfl, hsz, hP, hK, hD0, hex, hE⟩ := hv
  have hx := B.exec
  have hb := B.bytes
  have hr := B.returns
  have hts0 := atoms_spec (ws := wt yX8_setTarget cX8_setTarget 5 none) B.pre
  have hts : ∀ w ∈ tb, w.before _ s = true := fun w h => hts0 w (List.mem_cons_of_mem _ h)
  have hown : s.vm.findClass RX8 = some m.cls := findClass_of_methodNamed B.named
  subst hsz
  have hD := hD0.self (sz := s.heap.size)
  generalize hAe : va_A (WdC g ad S) s.heap.size = A at hD hE ⊢
  have hA : ∀ q : Nat, s.heap.size ≤ q → A q := fun q h => by rw [← hAe]; exact Or.inr h
  have hR : RepC g ad A s S s.heap [] := ⟨hK, hP, hD, va_S.rf, hw⟩
  clear hK hP hD hD0
  have hl := lv_entry ([.ref (ad p0), .int x1, .int x2, .int x3]) (n := 5) (Nat.le_of_ble_eq_true rfl)
  rw [lg_entry_eq]
  generalize (lg_sl ([.ref (ad p0), .int x1, .int x2, .int x3]) ++ List.replicate (5 - (lg_sl ([.ref (ad p0), .int x1, .int x2, .int x3])).length) Slot.unset).toArray = ls at hl ⊢
  have hl : lv_has ls 5 [(0, .ref (ad p0)), (1, .int x1), (2, .int x2), (3, .int x3)] := hl
  have hsh : shy S S := shy.rf
  unfold wX8_setTarget at h
  refine lv_aload_n hx hb dX8_setTarget_0 rfl (lv_at hl 0 rfl) ?_
  refine lv_iload_n hx hb dX8_setTarget_1 rfl (lv_at hl 1 rfl) ?_
  obtain ⟨hv1, h⟩ := h
  have hFc := cfree hR hA
  refine va_calli (va_runV (As := [.int x1]) (rest := []) ⟨hx, hb, hml, hown, hts⟩ (rX8_opAt l g ad s.heap.size S p0 x1 hR.w hT_p0 hv1) (cwV 1 hts (gd_V kw_1528 kw_1513 kw_1514 kw_782 kw_1512) rfl rfl rfl (by decide +kernel) ⟨Nat.le_of_ble_eq_true rfl, Nat.le_of_ble_eq_true rfl⟩) ⟨cblind, va_recv hR.K hR.P (ci := 7) (q0 := p0) rfl (hR.at47 hT_p0), fun U hU hW9 => cmk hU hW9 hR hex hE hFc⟩ rfl rfl hl.1 rfl (lv_room (Nat.le_of_ble_eq_true rfl)) dX8_setTarget_2 ⟨Nat.le_of_ble_eq_true rfl, Nat.le_of_ble_eq_true rfl⟩) hR.sS (fun q _ h => hFc q h) hFc (fun r2 u9 t9 H1 locs ht9 hvm9 hw9 hB9 hz9 hk9 hS => ?_)
  have hR : RepC g ad A s S H1 locs := hR.call ht9 hB9 hR.w hS hFc
  obtain rfl : r2 = (fX8_opAt S p0 x1) := hw9
  clear hB9 hz9 hk9 hvm9 ht9 hS
  generalize H1 = H at hR ⊢
  obtain ⟨a4, ea4⟩ : ∃ z, z = (fX8_opAt S p0 x1) := ⟨_, rfl⟩
  rw [← ea4]
  replace h := h a4 ea4
  obtain ⟨hv5, h⟩ := h
  have hFc := cfree hR hA
  refine va_calli (va_runS (As := [.int a4]) (rest := []) ⟨hx, hb, hml, hown, hts⟩ (rX6_isJump l g ad H.size S a4 hR.w  hv5) (va_cwS 1 hts (gd_S kw_1529 kw_1225 kw_1207 kw_1224) rfl rfl rfl (by decide +kernel) ⟨Nat.le_of_ble_eq_true rfl, Nat.le_of_ble_eq_true rfl⟩) ⟨cblind, fun U hU hW9 => cmk hU hW9 hR hex hE hFc⟩ rfl rfl hl.1 rfl (lv_room (Nat.le_of_ble_eq_true rfl)) dX8_setTarget_5 ⟨Nat.le_of_ble_eq_true rfl, Nat.le_of_ble_eq_true rfl⟩) hR.sS (fun q _ h => hFc q h) hFc (fun r6 u9 t9 H1 locs ht9 hvm9 hw9 hB9 hz9 hk9 hS => ?_)
  have hR : RepC g ad A s S H1 locs := hR.call ht9 hB9 hR.w hS hFc
  obtain ⟨rfl, hz_r6⟩ := hw9
  clear hB9 hz9 hk9 hvm9 ht9 hS
  generalize H1 = H at hR ⊢
  obtain ⟨a8, ea8⟩ : ∃ z, z = (fX6_isJump S a4) := ⟨_, rfl⟩
  rw [← ea8]
  replace h := h a8 ea8
  rw [← ea8] at hz_r6
  refine lv_if_eq (tgt := 24) hx hb dX8_setTarget_8 (by decide) (fun c9 => ?_) (fun c9 => ?_)
  · replace h := h.1 (k_eq rfl (by decide) c9)
    refine lv_aload_n hx hb dX8_setTarget_24 rfl (lv_at hl 0 rfl) ?_
    refine lv_iload_n hx hb dX8_setTarget_25 rfl (lv_at hl 1 rfl) ?_
    obtain ⟨hv10, h⟩ := h
    have hFc := cfree hR hA
    refine va_calll (va_runV (As := [.int x1]) (rest := []) ⟨hx, hb, hml, hown, hts⟩ (rX8_argAt l g ad H.size S p0 x1 hR.w hT_p0 hv10) (cwV 1 hts (gd_V kw_1511 kw_1476 kw_1477 kw_782 kw_1475) rfl rfl rfl (by decide +kernel) ⟨Nat.le_of_ble_eq_true rfl, Nat.le_of_ble_eq_true rfl⟩) ⟨cblind, va_recv hR.K hR.P (ci := 7) (q0 := p0) rfl (hR.at47 hT_p0), fun U hU hW9 => cmk hU hW9 hR hex hE hFc⟩ rfl rfl hl.1 rfl (lv_room (Nat.le_of_ble_eq_true rfl)) dX8_setTarget_26 ⟨Nat.le_of_ble_eq_true rfl, Nat.le_of_ble_eq_true rfl⟩) hR.sS (fun q _ h => hFc q h) hFc (fun r11 u9 t9 H1 locs ht9 hvm9 hw9 hB9 hz9 hk9 hS => ?_)
    have hR : RepC g ad A s S H1 locs := hR.call ht9 hB9 hR.w hS hFc
    obtain rfl : r11 = (fX8_argAt S p0 x1) := hw9
    clear hB9 hz9 hk9 hvm9 ht9 hS
    generalize H1 = H at hR ⊢
    obtain ⟨a13, ea13⟩ : ∃ z, z = (fX8_argAt S p0 x1) := ⟨_, rfl⟩
    rw [← ea13]
    replace h := h a13 ea13
    refine lv_l2i (v := (a13.toInt32)) hx hb dX8_setTarget_29 rfl ?_
    refine lv_iconst (v := 2) hx hb dX8_setTarget_30 (by decide) ?_
    refine lv_iadd hx hb dX8_setTarget_31 ?_
    refine lv_topi (fun z14 ez14 => ?_)
    obtain rfl : z14 = ((a13.toInt32) + (2 : Int32)) := ez14
    refine lv_iload_n hx hb dX8_setTarget_32 rfl (lv_at hl 2 rfl) ?_
    refine lv_iadd hx hb dX8_setTarget_33 ?_
    refine lv_topi (fun z15 ez15 => ?_)
    obtain rfl : z15 = (((a13.toInt32) + (2 : Int32)) + x2) := ez15
    obtain ⟨a16, ea16⟩ : ∃ z, z = (((a13.toInt32) + (2 : Int32)) + x2) := ⟨_, rfl⟩
    rw [← ea16]
    replace h := h a16 ea16
    refine lv_istore (lv' := [(4, .int a16), (0, .ref (ad p0)), (1, .int x1), (2, .int x2), (3, .int x3)]) hx hb dX8_setTarget_34 hl (by decide) rfl (fun ls hl => ?_)
    refine lv_iload hx hb dX8_setTarget_36 (lv_at hl 0 rfl) ?_
    refine lv_if_lt (tgt := 58) hx hb dX8_setTarget_38 (by decide) (fun c17 => ?_) (fun c17 => ?_)
    · replace h := h.1 (k_lt rfl (by decide) c17)
      exact W.vret hx hb hr (fun t9 ht9 hW9 => ⟨⟨S, rfl, ⟨h, hR.w, hsh⟩, ⟨by rw [ht9]; exact hR.P, hR.D⟩⟩, hR.sS.F ht9⟩) hR.sS.2.2 dX8_setTarget_58
    · replace h := h.2 (k_nlt rfl (by decide) c17)
      refine lv_iload hx hb dX8_setTarget_41 (lv_at hl 0 rfl) ?_
      refine lv_aload_n hx hb dX8_setTarget_43 rfl (lv_at hl 1 rfl) ?_
      refine va_get (D := rD g) (ci := 7) (v := .int (qI S p0 4)) (C := RX8) (T := TX8) (N := 15) hx hb hts inX8 hown hR.K hR.P p0 (hR.at47 hT_p0) rfl 4 (by decide) (hts _ kw_1473) (fun _ h9 => h9) rfl dX8_setTarget_44 ?_
      refine lv_icmp_ge (tgt := 58) hx hb dX8_setTarget_47 (by decide) (fun c18 => ?_) (fun c18 => ?_)
      · replace h := h.1 (k_le rfl rfl c18)
        exact W.vret hx hb hr (fun t9 ht9 hW9 => ⟨⟨S, rfl, ⟨h, hR.w, hsh⟩, ⟨by rw [ht9]; exact hR.P, hR.D⟩⟩, hR.sS.F ht9⟩) hR.sS.2.2 dX8_setTarget_58
      · replace h := h.2 (k_nle rfl rfl c18)
        refine lv_aload_n hx hb dX8_setTarget_50 rfl (lv_at hl 1 rfl) ?_
        obtain ⟨hv20, h⟩ := h
        have hT_b19 : qT S (qO S p0 3) = 223 := hR.w.ref hv20 hT_p0
        refine va_get (D := rD g) (ci := 7) (v := .ref (ad (qO S p0 3))) (C := RX8) (T := TX8) (N := 15) hx hb hts inX8 hown hR.K hR.P p0 (hR.at47 hT_p0) rfl 3 (by decide) (hts _ kw_1474) (fun _ h9 => h9) (congrArg (fun z => some (vf ad z)) hv20) dX8_setTarget_51 ?_
        refine lv_iload hx hb dX8_setTarget_54 (lv_at hl 0 rfl) ?_
        refine lv_iload_n hx hb dX8_setTarget_56 rfl (lv_at hl 4 rfl) ?_
        obtain ⟨hv21, h⟩ := h
        refine va_iast hx hb hR.K hR.P hR.D hR.sS (qO S p0 3) 1 (hR.atI hT_b19 (by decide)) rfl (k_ix (x := a16) (a := a16.toInt) rfl hv21) dX8_setTarget_57 (fun H locs hP hD hS => ?_)
        have hTk9 : qT S (qO S p0 3) = 223 := hT_b19
        have hR : RepC g ad A s (wI S (qO S p0 3) a16.toInt.toNat x3) H locs := hR.aI hT_b19 (by decide) hP hD hS
        obtain ⟨S22, eS22⟩ : ∃ z, z = wI S (qO S p0 3) a16.toInt.toNat x3 := ⟨_, rfl⟩
        rw [← eS22] at hR
        replace h := h S22 eS22 hTk9 hR.w
        have hT_p0 : qT S22 p0 = 47 := (congrArg (fun z => qT z p0) eS22).trans hT_p0
        have hsh : shy S S22 := by rw [eS22]; exact hsh
        exact W.vret hx hb hr (fun t9 ht9 hW9 => ⟨⟨S22, rfl, ⟨h, hR.w, hsh⟩, ⟨by rw [ht9]; exact hR.P, hR.D⟩⟩, hR.sS.F ht9⟩) hR.sS.2.2 dX8_setTarget_58
  · replace h := h.2 (k_ne rfl (by decide) c9)
    refine lv_aload_n hx hb dX8_setTarget_11 rfl (lv_at hl 0 rfl) ?_
    refine lv_iload_n hx hb dX8_setTarget_12 rfl (lv_at hl 1 rfl) ?_
    refine lv_aload_n hx hb dX8_setTarget_13 rfl (lv_at hl 0 rfl) ?_
    refine lv_iload_n hx hb dX8_setTarget_14 rfl (lv_at hl 1 rfl) ?_
    obtain ⟨hv23, h⟩ := h
    have hFc := cfree hR hA
    refine va_calli (va_runV (As := [.int x1]) (rest := [.int x1, .ref (ad p0)]) ⟨hx, hb, hml, hown, hts⟩ (rX8_opAt l g ad H.size S p0 x1 hR.w hT_p0 hv23) (cwV 1 hts (gd_V kw_1528 kw_1513 kw_1514 kw_782 kw_1512) rfl rfl rfl (by decide +kernel) ⟨Nat.le_of_ble_eq_true rfl, Nat.le_of_ble_eq_true rfl⟩) ⟨cblind, va_recv hR.K hR.P (ci := 7) (q0 := p0) rfl (hR.at47 hT_p0), fun U hU hW9 => cmk hU hW9 hR hex hE hFc⟩ rfl rfl hl.1 rfl (lv_room (Nat.le_of_ble_eq_true rfl)) dX8_setTarget_15 ⟨Nat.le_of_ble_eq_true rfl, Nat.le_of_ble_eq_true rfl⟩) hR.sS (fun q _ h => hFc q h) hFc (fun r24 u9 t9 H1 locs ht9 hvm9 hw9 hB9 hz9 hk9 hS => ?_)
    have hR : RepC g ad A s S H1 locs := hR.call ht9 hB9 hR.w hS hFc
    obtain rfl : r24 = (fX8_opAt S p0 x1) := hw9
    clear hB9 hz9 hk9 hvm9 ht9 hS
    generalize H1 = H at hR ⊢
    obtain ⟨a26, ea26⟩ : ∃ z, z = (fX8_opAt S p0 x1) := ⟨_, rfl⟩
    rw [← ea26]
    replace h := h a26 ea26
    refine lv_iload_n hx hb dX8_setTarget_18 rfl (lv_at hl 3 rfl) ?_
    refine lv_i2l (v := (x3.toInt64)) hx hb dX8_setTarget_19 rfl ?_
    replace h := h (hT_p0)
    obtain ⟨Q27, h0, h⟩ := h
    have hFc := cfree hR hA
    refine va_callv (va_runV (As := [.int x1, .int a26, .long (x3.toInt64)]) (rest := []) ⟨hx, hb, hml, hown, hts⟩ (rX8_set l g ad H.size S p0 x1 a26 (x3.toInt64) hR.w hT_p0 Q27 h0) (cwV 3 hts (gd_V kw_1461 kw_1523 kw_1524 kw_782 kw_1522) rfl rfl rfl (by decide +kernel) ⟨Nat.le_of_ble_eq_true rfl, Nat.le_of_ble_eq_true rfl⟩) ⟨cblind, va_recv hR.K hR.P (ci := 7) (q0 := p0) rfl (hR.at47 hT_p0), fun U hU hW9 => cmk hU hW9 hR hex hE hFc⟩ rfl rfl hl.1 rfl (lv_room (Nat.le_of_ble_eq_true rfl)) dX8_setTarget_20 ⟨Nat.le_of_ble_eq_true rfl, Nat.le_of_ble_eq_true rfl⟩) hR.sS (fun q _ h => hFc q h) hFc (fun  S28 t9 H1 locs ht9 hvm9 hw9 hB9 hz9 hk9 hS => ?_)
    obtain ⟨hq29, hw9, hs9⟩ := hw9
    have hR : RepC g ad A s S28 H1 locs := hR.call ht9 hB9 hw9 hS hFc
    have hsh := hsh.tr hs9
    replace h := h  S28 hq29 hw9 hs9
    have hT_p0 := hs9.T hT_p0 (by decide)
    clear hB9 hz9 hk9 hvm9 ht9 hw9 hs9 hS
    generalize H1 = H at hR ⊢
    exact W.vret hx hb hr (fun t9 ht9 hW9 => ⟨⟨S28, rfl, ⟨h, hR.w, hsh⟩, ⟨by rw [ht9]; exact hR.P, hR.D⟩⟩, hR.sS.F ht9⟩) hR.sS.2.2 dX8_setTarget_23
def f_X8_catchHas_J36 (S : MS) : Int32 := (0 : Int32)
def d_X8_catchHas_J36 (S : MS) : Prop := True
def fX8_catchHas (S : MS) (p0 : Nat) (x1 : Int32) (x2 : Int32) : Int32 := (if x1.toInt < 0 then f_X8_catchHas_J36 S else (if (qI S p0 9).toInt ≤ x1.toInt then f_X8_catchHas_J36 S else (if x2.toInt < (qI S (qO S p0 5) x1.toInt.toNat).toInt then f_X8_catchHas_J36 S else (if (qI S (qO S p0 6) x1.toInt.toNat).toInt ≤ x2.toInt then f_X8_catchHas_J36 S else (1 : Int32)))))
def d_X8_catchHas (S : MS) (p0 : Nat) (x1 : Int32) (x2 : Int32) : Prop := (if x1.toInt < 0 then d_X8_catchHas_J36 S else (if (qI S p0 9).toInt ≤ x1.toInt then d_X8_catchHas_J36 S else ((qR S p0 5 = some (qO S p0 5)) ∧ (((0 : Int) ≤ x1.toInt ∧ x1.toInt < (qN S (qO S p0 5) : Int)) ∧ (if x2.toInt < (qI S (qO S p0 5) x1.toInt.toNat).toInt then d_X8_catchHas_J36 S else ((qR S p0 6 = some (qO S p0 6)) ∧ (((0 : Int) ≤ x1.toInt ∧ x1.toInt < (qN S (qO S p0 6) : Int)) ∧ (if (qI S (qO S p0 6) x1.toInt.toNat).toInt ≤ x2.toInt then d_X8_catchHas_J36 S else True))))))))
set_option maxHeartbeats 2000000 in
set_option maxRecDepth 100000 in
theorem rX8_catchHas (l : Launch) (g : Gr) (ad : Nat → Nat) (sz : Nat) (S : MS) (p0 : Nat) (x1 : Int32) (x2 : Int32) (hw : wfC S) (hT_p0 : qT S p0 = 47) (hd : d_X8_catchHas S p0 x1 x2) : Met l yX8_catchHas (wt yX8_catchHas cX8_catchHas 3 (some .boolean)) ({ frames := 0, cells := 0, slots := 0, locals := 0 }) (va_Pc [.ref (ad p0), .int x1, .int x2] (st_C g ad sz S)) (va_Qi (fun (r : Int32) (_ : Unit) => r = fX8_catchHas S p0 x1 x2 ∧ (r = 0 ∨ r = 1)) (fun (_ : Unit) (t : State) => qEC g ad (va_A (WdC g ad S) sz) S t) (va_A (WdC g ad S) sz)) 0 0 (va_A (WdC g ad S) sz) := by
  refine Met.ofW (cc := cX8_catchHas) (maxL := 3) (ret := (some .boolean)) (by decide) rfl ?_
  intro p e s m args below meth c s₁ B hml hv
  obtain ⟨rfl, hsz, hP, hK, hD0, hex, hE⟩ := hv
  have hx := B.exec
  have hb := B.bytes
  have hr := B.returns
  have hts0 := atoms_spec (ws := wt yX8_catchHas cX8_catchHas 3 (some .boolean)) B.pre
  have hts : ∀ w ∈ tb, w.before _ s = true := fun w h => hts0 w (List.mem_cons_of_mem _ h)
  have hown : s.vm.findClass RX8 = some m.cls := findClass_of_methodNamed B.named
  subst hsz
  have hD := hD0.self (sz := s.heap.size)
  generalize hAe : va_A (WdC g ad S) s.heap.size = A at hD hE ⊢
  have hA : ∀ q : Nat, s.heap.size ≤ q → A q := fun q h => by rw [← hAe]; exact Or.inr h
  have hR : RepC g ad A s S s.heap [] := ⟨hK, hP, hD, va_S.rf, hw⟩
  clear hK hP hD hD0
  have hl := lv_entry ([.ref (ad p0), .int x1, .int x2]) (n := 3) (Nat.le_of_ble_eq_true rfl)
  rw [lg_entry_eq]
  generalize (lg_sl ([.ref (ad p0), .int x1, .int x2]) ++ List.replicate (3 - (lg_sl ([.ref (ad p0), .int x1, .int x2])).length) Slot.unset).toArray = ls at hl ⊢
  have hl : lv_has ls 3 [(0, .ref (ad p0)), (1, .int x1), (2, .int x2)] := hl
  obtain ⟨r0, hf⟩ : ∃ r0, fX8_catchHas S p0 x1 x2 = r0 := ⟨_, rfl⟩
  have hf0 := hf
  unfold fX8_catchHas at hf
  unfold d_X8_catchHas at hd
  refine lv_iload_n hx hb dX8_catchHas_0 rfl (lv_at hl 1 rfl) ?_
  have J_36 : ∀ (H : Heap) (locs : List Loc) (ls : Array Slot), d_X8_catchHas_J36 S → f_X8_catchHas_J36 S = r0 → RepC g ad A s S H locs → lv_has ls 3 [] → W p l e (headSpec (wt yX8_catchHas cX8_catchHas 3 (some .boolean)) ({ frames := 0, cells := 0, slots := 0, locals := 0 })).room s m ([.ref (ad p0), .int x1, .int x2] : List Value).toArray below meth c H locs 0 0 (MQ below (va_Qi (fun (r : Int32) (_ : Unit) => r = fX8_catchHas S p0 x1 x2 ∧ (r = 0 ∨ r = 1)) (fun (_ : Unit) (t : State) => qEC g ad A S t) A) ([.ref (ad p0), .int x1, .int x2] : List Value).toArray s 0 0 A) (F0 m 36 ls []) := by
    intro H locs ls hd hf hR hl
    unfold d_X8_catchHas_J36 at hd
    unfold f_X8_catchHas_J36 at hf
    refine lv_iconst (v := 0) hx hb dX8_catchHas_36 (by decide) ?_
    exact W.zret (v := 0) hx hb hr (nz (Or.inl rfl)) (fun t9 ht9 hW9 => ⟨⟨_, (), rfl, ⟨hf.trans hf0.symm, (Or.inl rfl)⟩, ⟨by rw [ht9]; exact hR.P, hR.D⟩⟩, hR.sS.F ht9⟩) hR.sS.2.2 dX8_catchHas_37
  refine lv_if_lt (tgt := 36) hx hb dX8_catchHas_1 (by decide) (fun c1 => ?_) (fun c1 => ?_)
  · rw [if_pos (k_lt rfl (by decide) c1)] at hf
    (try rw [if_pos (k_lt rfl (by decide) c1)] at hd)
    exact J_36 _ _ ls hd hf  hR (lv_sub hl [] rfl)
  · rw [if_neg (k_nlt rfl (by decide) c1)] at hf
    (try rw [if_neg (k_nlt rfl (by decide) c1)] at hd)
    refine lv_iload_n hx hb dX8_catchHas_4 rfl (lv_at hl 1 rfl) ?_
    refine lv_aload_n hx hb dX8_catchHas_5 rfl (lv_at hl 0 rfl) ?_
    refine va_get (D := rD g) (ci := 7) (v := .int (qI S p0 9)) (C := RX8) (T := TX8) (N := 15) hx hb hts inX8 hown hR.K hR.P p0 (hR.at47 hT_p0) rfl 9 (by decide) (hts _ kw_1465) (fun _ h9 => h9) rfl dX8_catchHas_6 ?_
    refine lv_icmp_ge (tgt := 36) hx hb dX8_catchHas_9 (by decide) (fun c2 => ?_) (fun c2 => ?_)
    · rw [if_pos (k_le rfl rfl c2)] at hf
      (try rw [if_pos (k_le rfl rfl c2)] at hd)
      exact J_36 _ _ ls hd hf  hR (lv_sub hl [] rfl)
    · rw [if_neg (k_nle rfl rfl c2)] at hf
      (try rw [if_neg (k_nle rfl rfl c2)] at hd)
      refine lv_aload_n hx hb dX8_catchHas_12 rfl (lv_at hl 0 rfl) ?_
      obtain ⟨hv4, hd⟩ := hd
      have hT_b3 : qT S (qO S p0 5) = 224 := hR.w.ref hv4 hT_p0
      refine va_get (D := rD g) (ci := 7) (v := .ref (ad (qO S p0 5))) (C := RX8) (T := TX8) (N := 15) hx hb hts inX8 hown hR.K hR.P p0 (hR.at47 hT_p0) rfl 5 (by decide) (hts _ kw_1466) (fun _ h9 => h9) (congrArg (fun z => some (vf ad z)) hv4) dX8_catchHas_13 ?_
      refine lv_iload_n hx hb dX8_catchHas_16 rfl (lv_at hl 1 rfl) ?_
      obtain ⟨hv5, hd⟩ := hd
      refine va_iald hx hb hR.K hR.P (qO S p0 5) 1 (hR.atI hT_b3 (by decide)) rfl (k_ix (x := x1) (a := x1.toInt) rfl hv5) dX8_catchHas_17 ?_
      refine lv_topi (fun z6 ez6 => ?_)
      obtain rfl : z6 = (qI S (qO S p0 5) x1.toInt.toNat) := ez6
      refine lv_iload_n hx hb dX8_catchHas_18 rfl (lv_at hl 2 rfl) ?_
      refine lv_icmp_gt (tgt := 36) hx hb dX8_catchHas_19 (by decide) (fun c7 => ?_) (fun c7 => ?_)
      · rw [if_pos (k_lt rfl rfl c7)] at hf
        (try rw [if_pos (k_lt rfl rfl c7)] at hd)
        exact J_36 _ _ ls hd hf  hR (lv_sub hl [] rfl)
      · rw [if_neg (k_nlt rfl rfl c7)] at hf
        (try rw [if_neg (k_nlt rfl rfl c7)] at hd)
        refine lv_iload_n hx hb dX8_catchHas_22 rfl (lv_at hl 2 rfl) ?_
        refine lv_aload_n hx hb dX8_catchHas_23 rfl (lv_at hl 0 rfl) ?_
        obtain ⟨hv9, hd⟩ := hd
        have hT_b8 : qT S (qO S p0 6) = 225 := hR.w.ref hv9 hT_p0
        refine va_get (D := rD g) (ci := 7) (v := .ref (ad (qO S p0 6))) (C := RX8) (T := TX8) (N := 15) hx hb hts inX8 hown hR.K hR.P p0 (hR.at47 hT_p0) rfl 6 (by decide) (hts _ kw_1467) (fun _ h9 => h9) (congrArg (fun z => some (vf ad z)) hv9) dX8_catchHas_24 ?_
        refine lv_iload_n hx hb dX8_catchHas_27 rfl (lv_at hl 1 rfl) ?_
        obtain ⟨hv10, hd⟩ := hd
        refine va_iald hx hb hR.K hR.P (qO S p0 6) 1 (hR.atI hT_b8 (by decide)) rfl (k_ix (x := x1) (a := x1.toInt) rfl hv10) dX8_catchHas_28 ?_
        refine lv_topi (fun z11 ez11 => ?_)
        obtain rfl : z11 = (qI S (qO S p0 6) x1.toInt.toNat) := ez11
        refine lv_icmp_ge (tgt := 36) hx hb dX8_catchHas_29 (by decide) (fun c12 => ?_) (fun c12 => ?_)
        · rw [if_pos (k_le rfl rfl c12)] at hf
          (try rw [if_pos (k_le rfl rfl c12)] at hd)
          exact J_36 _ _ ls hd hf  hR (lv_sub hl [] rfl)
        · rw [if_neg (k_nle rfl rfl c12)] at hf
          (try rw [if_neg (k_nle rfl rfl c12)] at hd)
          refine lv_iconst (v := 1) hx hb dX8_catchHas_32 (by decide) ?_
          refine lv_goto (tgt := 37) hx hb dX8_catchHas_33 (by decide) ?_
          exact W.zret (v := 1) hx hb hr (nz (Or.inr rfl)) (fun t9 ht9 hW9 => ⟨⟨_, (), rfl, ⟨hf.trans hf0.symm, (Or.inr rfl)⟩, ⟨by rw [ht9]; exact hR.P, hR.D⟩⟩, hR.sS.F ht9⟩) hR.sS.2.2 dX8_catchHas_37
def w_X8_isCaught_L2 (Q : Int32 → MS → Prop) : Nat → MS → Nat → Int32 → Int32 → Prop
  | 0, _, _, _, _ => False
  | n2 + 1, U2, v2_0, v2_1, v2_2 => (wfC U2 → qT U2 v2_0 = 47 → (((qI U2 v2_0 9).toInt ≤ v2_2.toInt → Q (0 : Int32) U2) ∧ (¬ (qI U2 v2_0 9).toInt ≤ v2_2.toInt → (d_X8_catchHas U2 v2_0 v2_2 v2_1 ∧ (((fX8_catchHas U2 v2_0 v2_2 v2_1).toInt = 0 → (∀ a6 : Int32, a6 = (v2_2 + Int32.ofInt 1) → (w_X8_isCaught_L2 Q n2) U2 v2_0 v2_1 a6)) ∧ (¬ (fX8_catchHas U2 v2_0 v2_2 v2_1).toInt = 0 → Q (1 : Int32) U2))))))
def wX8_isCaught (S : MS) (p0 : Nat) (x1 : Int32) (Q : Int32 → MS → Prop) : Prop := (∃ n, w_X8_isCaught_L2 Q n S p0 x1 0)
set_option maxHeartbeats 2000000 in
set_option maxRecDepth 100000 in
theorem rX8_isCaught (l : Launch) (g : Gr) (ad : Nat → Nat) (sz : Nat) (S : MS) (p0 : Nat) (x1 : Int32) (hw : wfC S) (hT_p0 : qT S p0 = 47) (Q : Int32 → MS → Prop) (h : wX8_isCaught S p0 x1 Q) : Met l yX8_isCaught (wt yX8_isCaught cX8_isCaught 3 (some .boolean)) ({ frames := 1, cells := 0, slots := 0, locals := 22 }) (va_Pc [.ref (ad p0), .int x1] (st_C g ad sz S)) (va_Qi (fun (r : Int32) (u : MS) => Q r u ∧ wfC u ∧ shy S u ∧ (r = 0 ∨ r = 1)) (fun (u : MS) (t : State) => qEC g ad (va_A (WdC g ad S) sz) u t) (va_A (WdC g ad S) sz)) 0 0 (va_A (WdC g ad S) sz) := by
  refine Met.ofW (cc := cX8_isCaught) (maxL := 3) (ret := (some .boolean)) (by decide) rfl ?_
  intro p e s m args below meth c s₁ B hml hv
  obtain ⟨rfl, hsz, hP, hK, hD0, hex, hE⟩ := hv
  have hx := B.exec
  have hb := B.bytes
  have hr := B.returns
  have hts0 := atoms_spec (ws := wt yX8_isCaught cX8_isCaught 3 (some .boolean)) B.pre
  have hts : ∀ w ∈ tb, w.before _ s = true := fun w h => hts0 w (List.mem_cons_of_mem _ h)
  have hown : s.vm.findClass RX8 = some m.cls := findClass_of_methodNamed B.named
  subst hsz
  have hD := hD0.self (sz := s.heap.size)
  generalize hAe : va_A (WdC g ad S) s.heap.size = A at hD hE ⊢
  have hA : ∀ q : Nat, s.heap.size ≤ q → A q := fun q h => by rw [← hAe]; exact Or.inr h
  have hR : RepC g ad A s S s.heap [] := ⟨hK, hP, hD, va_S.rf, hw⟩
  clear hK hP hD hD0
  have hl := lv_entry ([.ref (ad p0), .int x1]) (n := 3) (Nat.le_of_ble_eq_true rfl)
  rw [lg_entry_eq]
  generalize (lg_sl ([.ref (ad p0), .int x1]) ++ List.replicate (3 - (lg_sl ([.ref (ad p0), .int x1])).length) Slot.unset).toArray = ls at hl ⊢
  have hl : lv_has ls 3 [(0, .ref (ad p0)), (1, .int x1)] := hl
  have hsh : shy S S := shy.rf
  unfold wX8_isCaught at h
  refine lv_iconst (v := 0) hx hb dX8_isCaught_0 (by decide) ?_
  refine lv_istore_n (lv' := [(2, .int 0), (0, .ref (ad p0)), (1, .int x1)]) hx hb dX8_isCaught_1 rfl hl (by decide) rfl (fun ls hl => ?_)
  have J_2 : ∀ (n2 : Nat) (U2 : MS) (v2_0 : Nat) (v2_1 : Int32) (v2_2 : Int32) (H : Heap) (locs : List Loc) (ls : Array Slot), w_X8_isCaught_L2 Q n2 U2 v2_0 v2_1 v2_2 → qT U2 v2_0 = 47 → shy S U2 → RepC g ad A s U2 H locs → lv_has ls 3 [(0, .ref (ad v2_0)), (1, .int v2_1), (2, .int v2_2)] → W p l e (headSpec (wt yX8_isCaught cX8_isCaught 3 (some .boolean)) ({ frames := 1, cells := 0, slots := 0, locals := 22 })).room s m ([.ref (ad p0), .int x1] : List Value).toArray below meth c H locs 0 0 (MQ below (va_Qi (fun (r : Int32) (u : MS) => Q r u ∧ wfC u ∧ shy S u ∧ (r = 0 ∨ r = 1)) (fun (u : MS) (t : State) => qEC g ad A u t) A) ([.ref (ad p0), .int x1] : List Value).toArray s 0 0 A) (F0 m 2 ls []) := by
    intro n2
    induction n2 with
    | zero => intro U2 v2_0 v2_1 v2_2 H locs ls h hT_v2_0 hsh hR hl; unfold w_X8_isCaught_L2 at h; exact h.elim
    | succ n2 ih_2 =>
      intro U2 v2_0 v2_1 v2_2 H locs ls h hT_v2_0 hsh hR hl
      unfold w_X8_isCaught_L2 at h
      replace h := h hR.w hT_v2_0
      refine lv_iload_n hx hb dX8_isCaught_2 rfl (lv_at hl 2 rfl) ?_
      refine lv_aload_n hx hb dX8_isCaught_3 rfl (lv_at hl 0 rfl) ?_
      refine va_get (D := rD g) (ci := 7) (v := .int (qI U2 v2_0 9)) (C := RX8) (T := TX8) (N := 15) hx hb hts inX8 hown hR.K hR.P v2_0 (hR.at47 hT_v2_0) rfl 9 (by decide) (hts _ kw_1465) (fun _ h9 => h9) rfl dX8_isCaught_4 ?_
      refine lv_icmp_ge (tgt := 27) hx hb dX8_isCaught_7 (by decide) (fun c1 => ?_) (fun c1 => ?_)
      · replace h := h.1 (k_le rfl rfl c1)
        refine lv_iconst (v := 0) hx hb dX8_isCaught_27 (by decide) ?_
        exact W.zret (v := 0) hx hb hr (nz (Or.inl rfl)) (fun t9 ht9 hW9 => ⟨⟨_, U2, rfl, ⟨h, hR.w, hsh, (Or.inl rfl)⟩, ⟨by rw [ht9]; exact hR.P, hR.D⟩⟩, hR.sS.F ht9⟩) hR.sS.2.2 dX8_isCaught_28
      · replace h := h.2 (k_nle rfl rfl c1)
        refine lv_aload_n hx hb dX8_isCaught_10 rfl (lv_at hl 0 rfl) ?_
        refine lv_iload_n hx hb dX8_isCaught_11 rfl (lv_at hl 2 rfl) ?_
        refine lv_iload_n hx hb dX8_isCaught_12 rfl (lv_at hl 1 rfl) ?_
        obtain ⟨hv2, h⟩ := h
        have hFc := cfree hR hA
        refine va_calli (va_runV (As := [.int v2_2, .int v2_1]) (rest := []) ⟨hx, hb, hml, hown, hts⟩ (rX8_catchHas l g ad H.size U2 v2_0 v2_2 v2_1 hR.w hT_v2_0 hv2) (cwV 2 hts (gd_V kw_1502 kw_1483 kw_1484 kw_782 kw_1482) rfl rfl rfl (by decide +kernel) ⟨Nat.le_of_ble_eq_true rfl, Nat.le_of_ble_eq_true rfl⟩) ⟨cblind, va_recv hR.K hR.P (ci := 7) (q0 := v2_0) rfl (hR.at47 hT_v2_0), fun U hU hW9 => cmk hU hW9 hR hex hE hFc⟩ rfl rfl hl.1 rfl (lv_room (Nat.le_of_ble_eq_true rfl)) dX8_isCaught_13 ⟨Nat.le_of_ble_eq_true rfl, Nat.le_of_ble_eq_true rfl⟩) hR.sS (fun q _ h => hFc q h) hFc (fun r3 u9 t9 H1 locs ht9 hvm9 hw9 hB9 hz9 hk9 hS => ?_)
        have hR : RepC g ad A s U2 H1 locs := hR.call ht9 hB9 hR.w hS hFc
        obtain ⟨rfl, hz_r3⟩ := hw9
        clear hB9 hz9 hk9 hvm9 ht9 hS
        generalize H1 = H at hR ⊢
        refine lv_if_eq (tgt := 21) hx hb dX8_isCaught_16 (by decide) (fun c5 => ?_) (fun c5 => ?_)
        · replace h := h.1 (k_eq rfl (by decide) c5)
          obtain ⟨a6, ea6⟩ : ∃ z, z = (v2_2 + Int32.ofInt 1) := ⟨_, rfl⟩
          replace h := h a6 ea6
          refine lv_iinc (v := a6) (lv' := [(2, .int a6), (0, .ref (ad v2_0)), (1, .int v2_1)]) hx hb dX8_isCaught_21 hl (k := 2) rfl ea6.symm (by decide) rfl (fun ls hl => ?_)
          refine lv_goto (tgt := 2) hx hb dX8_isCaught_24 (by decide) ?_
          exact ih_2 U2 v2_0 v2_1 a6 _ _ ls h hT_v2_0 hsh hR (lv_sub hl [1, 2, 0] rfl)
        · replace h := h.2 (k_ne rfl (by decide) c5)
          refine lv_iconst (v := 1) hx hb dX8_isCaught_19 (by decide) ?_
          exact W.zret (v := 1) hx hb hr (nz (Or.inr rfl)) (fun t9 ht9 hW9 => ⟨⟨_, U2, rfl, ⟨h, hR.w, hsh, (Or.inr rfl)⟩, ⟨by rw [ht9]; exact hR.P, hR.D⟩⟩, hR.sS.F ht9⟩) hR.sS.2.2 dX8_isCaught_20
  obtain ⟨n9, h⟩ := h
  exact J_2 n9 S p0 x1 0 _ _ ls h hT_p0 hsh hR (lv_sub hl [1, 2, 0] rfl)
def f_X8_heightAt_J20 (S : MS) : Int32 := (-1 : Int32)
def d_X8_heightAt_J20 (S : MS) : Prop := True
def fX8_heightAt (S : MS) (p0 : Nat) (x1 : Int32) : Int32 := (if (qR S p0 12) = none then f_X8_heightAt_J20 S else (if x1.toInt < 0 then f_X8_heightAt_J20 S else (if x1.toInt < (qN S (qO S p0 12) : Int) then (qI S (qO S p0 12) x1.toInt.toNat) else f_X8_heightAt_J20 S)))
def d_X8_heightAt (S : MS) (p0 : Nat) (x1 : Int32) : Prop := (if (qR S p0 12) = none then d_X8_heightAt_J20 S else (if x1.toInt < 0 then d_X8_heightAt_J20 S else ((qR S p0 12 = some (qO S p0 12)) ∧ (if x1.toInt < (qN S (qO S p0 12) : Int) then ((qR S p0 12 = some (qO S p0 12)) ∧ (((0 : Int) ≤ x1.toInt ∧ x1.toInt < (qN S (qO S p0 12) : Int)) ∧ True)) else d_X8_heightAt_J20 S))))
set_option maxHeartbeats 2000000 in
set_option maxRecDepth 100000 in
theorem rX8_heightAt (l : Launch) (g : Gr) (ad : Nat → Nat) (sz : Nat) (S : MS) (p0 : Nat) (x1 : Int32) (hw : wfC S) (hT_p0 : qT S p0 = 47) (hd : d_X8_heightAt S p0 x1) : Met l yX8_heightAt (wt yX8_heightAt cX8_heightAt 2 (some .int)) ({ frames := 0, cells := 0, slots := 0, locals := 0 }) (va_Pc [.ref (ad p0), .int x1] (st_C g ad sz S)) (va_Qi (fun (r : Int32) (_ : Unit) => r = fX8_heightAt S p0 x1) (fun (_ : Unit) (t : State) => qEC g ad (va_A (WdC g ad S) sz) S t) (va_A (WdC g ad S) sz)) 0 0 (va_A (WdC g ad S) sz) := by
  refine Met.ofW (cc := cX8_heightAt) (maxL := 2) (ret := (some .int)) (by decide) rfl ?_
  intro p e s m args below meth c s₁ B hml hv
  obtain ⟨rfl, hsz, hP, hK, hD0, hex, hE⟩ := hv
  have hx := B.exec
  have hb := B.bytes
  have hr := B.returns
  have hts0 := atoms_spec (ws := wt yX8_heightAt cX8_heightAt 2 (some .int)) B.pre
  have hts : ∀ w ∈ tb, w.before _ s = true := fun w h => hts0 w (List.mem_cons_of_mem _ h)
  have hown : s.vm.findClass RX8 = some m.cls := findClass_of_methodNamed B.named
  subst hsz
  have hD := hD0.self (sz := s.heap.size)
  generalize hAe : va_A (WdC g ad S) s.heap.size = A at hD hE ⊢
  have hA : ∀ q : Nat, s.heap.size ≤ q → A q := fun q h => by rw [← hAe]; exact Or.inr h
  have hR : RepC g ad A s S s.heap [] := ⟨hK, hP, hD, va_S.rf, hw⟩
  clear hK hP hD hD0
  have hl := lv_entry ([.ref (ad p0), .int x1]) (n := 2) (Nat.le_of_ble_eq_true rfl)
  rw [lg_entry_eq]
  generalize (lg_sl ([.ref (ad p0), .int x1]) ++ List.replicate (2 - (lg_sl ([.ref (ad p0), .int x1])).length) Slot.unset).toArray = ls at hl ⊢
  have hl : lv_has ls 2 [(0, .ref (ad p0)), (1, .int x1)] := hl
  obtain ⟨r0, hf⟩ : ∃ r0, fX8_heightAt S p0 x1 = r0 := ⟨_, rfl⟩
  have hf0 := hf
  unfold fX8_heightAt at hf
  unfold d_X8_heightAt at hd
  refine lv_aload_n hx hb dX8_heightAt_0 rfl (lv_at hl 0 rfl) ?_
  have hO_o1 : ∀ z, (qR S p0 12) = some z → qT S z = 104 := fun z q => hR.w.ref q hT_p0
  refine va_get (D := rD g) (ci := 7) (v := vf ad (qR S p0 12)) (C := RX8) (T := TX8) (N := 15) hx hb hts inX8 hown hR.K hR.P p0 (hR.at47 hT_p0) rfl 12 (by decide) (hts _ kw_1495) (fun _ h9 => h9) rfl dX8_heightAt_1 ?_
  have J_20 : ∀ (H : Heap) (locs : List Loc) (ls : Array Slot), d_X8_heightAt_J20 S → f_X8_heightAt_J20 S = r0 → RepC g ad A s S H locs → lv_has ls 2 [] → W p l e (headSpec (wt yX8_heightAt cX8_heightAt 2 (some .int)) ({ frames := 0, cells := 0, slots := 0, locals := 0 })).room s m ([.ref (ad p0), .int x1] : List Value).toArray below meth c H locs 0 0 (MQ below (va_Qi (fun (r : Int32) (_ : Unit) => r = fX8_heightAt S p0 x1) (fun (_ : Unit) (t : State) => qEC g ad A S t) A) ([.ref (ad p0), .int x1] : List Value).toArray s 0 0 A) (F0 m 20 ls []) := by
    intro H locs ls hd hf hR hl
    unfold d_X8_heightAt_J20 at hd
    unfold f_X8_heightAt_J20 at hf
    refine lv_iconst (v := (-1)) hx hb dX8_heightAt_20 (by decide) ?_
    refine lv_goto (tgt := 30) hx hb dX8_heightAt_21 (by decide) ?_
    exact W.iret (v := (-1)) hx hb hr (fun t9 ht9 hW9 => ⟨⟨_, (), rfl, hf.trans hf0.symm, ⟨by rw [ht9]; exact hR.P, hR.D⟩⟩, hR.sS.F ht9⟩) hR.sS.2.2 dX8_heightAt_30
  rcases hq_b2 : (qR S p0 12) with _ | b2
  · skip
    rw [if_pos (hq_b2)] at hf
    (try rw [if_pos (hq_b2)] at hd)
    refine lv_ifnullN (tgt := 20) hx hb dX8_heightAt_4 (by decide) ?_
    exact J_20 _ _ ls hd hf  hR (lv_sub hl [] rfl)
  · have hg_b2 : b2 = ((qR S p0 12)).getD 0 := by rw [hq_b2]; rfl
    have hT_b2 : qT S (((qR S p0 12)).getD 0) = 104 := hg_b2 ▸ hO_o1 _ hq_b2
    subst hg_b2
    rw [if_neg (fun q9 => Option.some_ne_none _ (hq_b2.symm.trans q9))] at hf
    (try rw [if_neg (fun q9 => Option.some_ne_none _ (hq_b2.symm.trans q9))] at hd)
    refine lv_ifnull hx hb dX8_heightAt_4 ?_
    refine lv_iload_n hx hb dX8_heightAt_7 rfl (lv_at hl 1 rfl) ?_
    refine lv_if_lt (tgt := 20) hx hb dX8_heightAt_8 (by decide) (fun c3 => ?_) (fun c3 => ?_)
    · rw [if_pos (k_lt rfl (by decide) c3)] at hf
      (try rw [if_pos (k_lt rfl (by decide) c3)] at hd)
      exact J_20 _ _ ls hd hf  hR (lv_sub hl [] rfl)
    · rw [if_neg (k_nlt rfl (by decide) c3)] at hf
      (try rw [if_neg (k_nlt rfl (by decide) c3)] at hd)
      refine lv_iload_n hx hb dX8_heightAt_11 rfl (lv_at hl 1 rfl) ?_
      refine lv_aload_n hx hb dX8_heightAt_12 rfl (lv_at hl 0 rfl) ?_
      obtain ⟨hv5, hd⟩ := hd
      have hT_b4 : qT S (qO S p0 12) = 104 := hR.w.ref hv5 hT_p0
      refine va_get (D := rD g) (ci := 7) (v := .ref (ad (qO S p0 12))) (C := RX8) (T := TX8) (N := 15) hx hb hts inX8 hown hR.K hR.P p0 (hR.at47 hT_p0) rfl 12 (by decide) (hts _ kw_1495) (fun _ h9 => h9) (congrArg (fun z => some (vf ad z)) hv5) dX8_heightAt_13 ?_
      refine va_alen (v := (Int32.ofNat (qN S (qO S p0 12)))) hx hb hR.K hR.P (qO S p0 12) 0 (hR.atB hT_b4 (by decide)) rfl rfl dX8_heightAt_16 ?_
      have hln6 : (Int32.ofNat (qN S (qO S p0 12))).toInt = (qN S (qO S p0 12) : Int) := toI_len (hR.w.len9 (hT_b4) (by decide))
      refine lv_icmp_lt (tgt := 24) hx hb dX8_heightAt_17 (by decide) (fun c7 => ?_) (fun c7 => ?_)
      · rw [if_pos (k_lt rfl hln6 c7)] at hf
        (try rw [if_pos (k_lt rfl hln6 c7)] at hd)
        refine lv_aload_n hx hb dX8_heightAt_24 rfl (lv_at hl 0 rfl) ?_
        obtain ⟨hv9, hd⟩ := hd
        have hT_b8 : qT S (qO S p0 12) = 104 := hR.w.ref hv9 hT_p0
        refine va_get (D := rD g) (ci := 7) (v := .ref (ad (qO S p0 12))) (C := RX8) (T := TX8) (N := 15) hx hb hts inX8 hown hR.K hR.P p0 (hR.at47 hT_p0) rfl 12 (by decide) (hts _ kw_1495) (fun _ h9 => h9) (congrArg (fun z => some (vf ad z)) hv9) dX8_heightAt_25 ?_
        refine lv_iload_n hx hb dX8_heightAt_28 rfl (lv_at hl 1 rfl) ?_
        obtain ⟨hv10, hd⟩ := hd
        refine va_bald hx hb hR.K hR.P (qO S p0 12) 0 (hR.atB hT_b8 (by decide)) rfl (k_ix (x := x1) (a := x1.toInt) rfl hv10) dX8_heightAt_29 ?_
        refine lv_topi (fun z11 ez11 => ?_)
        obtain rfl : z11 = (qI S (qO S p0 12) x1.toInt.toNat) := ez11
        exact W.iret (v := (qI S (qO S p0 12) x1.toInt.toNat)) hx hb hr (fun t9 ht9 hW9 => ⟨⟨_, (), rfl, hf.trans hf0.symm, ⟨by rw [ht9]; exact hR.P, hR.D⟩⟩, hR.sS.F ht9⟩) hR.sS.2.2 dX8_heightAt_30
      · rw [if_neg (k_nlt rfl hln6 c7)] at hf
        (try rw [if_neg (k_nlt rfl hln6 c7)] at hd)
        exact J_20 _ _ ls hd hf  hR (lv_sub hl [] rfl)
def f_X8_localAt_J70 (S : MS) (t70_0 : Int64) : Int32 := ((t70_0.toInt32) &&& (15 : Int32))
def d_X8_localAt_J70 (S : MS) (t70_0 : Int64) : Prop := True
def fX8_localAt (S : MS) (p0 : Nat) (x1 : Int32) (x2 : Int32) : Int32 := (if (qR S p0 13) = none then (0 : Int32) else (if (qR S p0 14) = none then (0 : Int32) else (if x1.toInt < 0 then (0 : Int32) else (if (qN S (qO S p0 13) : Int) ≤ x1.toInt then (0 : Int32) else (if x1.toInt < (qN S (qO S p0 14) : Int) then (if 16 ≤ x2.toInt then f_X8_localAt_J70 S (((qJ S (qO S p0 14) x1.toInt.toNat).toUInt64 >>> (((4 : Int32) * (x2 - (16 : Int32))).toInt64.toUInt64 &&& Int64.toUInt64 63)).toInt64) else f_X8_localAt_J70 S (((qJ S (qO S p0 13) x1.toInt.toNat).toUInt64 >>> (((4 : Int32) * x2).toInt64.toUInt64 &&& Int64.toUInt64 63)).toInt64)) else (0 : Int32))))))
def d_X8_localAt (S : MS) (p0 : Nat) (x1 : Int32) (x2 : Int32) : Prop := (if (qR S p0 13) = none then True else (if (qR S p0 14) = none then True else (if x1.toInt < 0 then True else ((qR S p0 13 = some (qO S p0 13)) ∧ (if (qN S (qO S p0 13) : Int) ≤ x1.toInt then True else ((qR S p0 14 = some (qO S p0 14)) ∧ (if x1.toInt < (qN S (qO S p0 14) : Int) then (if 16 ≤ x2.toInt then ((qR S p0 14 = some (qO S p0 14)) ∧ (((0 : Int) ≤ x1.toInt ∧ x1.toInt < (qN S (qO S p0 14) : Int)) ∧ d_X8_localAt_J70 S (((qJ S (qO S p0 14) x1.toInt.toNat).toUInt64 >>> (((4 : Int32) * (x2 - (16 : Int32))).toInt64.toUInt64 &&& Int64.toUInt64 63)).toInt64))) else ((qR S p0 13 = some (qO S p0 13)) ∧ (((0 : Int) ≤ x1.toInt ∧ x1.toInt < (qN S (qO S p0 13) : Int)) ∧ d_X8_localAt_J70 S (((qJ S (qO S p0 13) x1.toInt.toNat).toUInt64 >>> (((4 : Int32) * x2).toInt64.toUInt64 &&& Int64.toUInt64 63)).toInt64)))) else True)))))))
set_option maxHeartbeats 2000000 in
set_option maxRecDepth 100000 in
theorem rX8_localAt (l : Launch) (g : Gr) (ad : Nat → Nat) (sz : Nat) (S : MS) (p0 : Nat) (x1 : Int32) (x2 : Int32) (hw : wfC S) (hT_p0 : qT S p0 = 47) (hd : d_X8_localAt S p0 x1 x2) : Met l yX8_localAt (wt yX8_localAt cX8_localAt 3 (some .int)) ({ frames := 0, cells := 0, slots := 0, locals := 0 }) (va_Pc [.ref (ad p0), .int x1, .int x2] (st_C g ad sz S)) (va_Qi (fun (r : Int32) (_ : Unit) => r = fX8_localAt S p0 x1 x2) (fun (_ : Unit) (t : State) => qEC g ad (va_A (WdC g ad S) sz) S t) (va_A (WdC g ad S) sz)) 0 0 (va_A (WdC g ad S) sz) := by
  refine Met.ofW (cc := cX8_localAt) (maxL := 3) (ret := (some .int)) (by decide) rfl ?_
  intro p e s m args below meth c s₁ B hml hv
  obtain ⟨rfl, hsz, hP, hK, hD0, hex, hE⟩ := hv
  have hx := B.exec
  have hb := B.bytes
  have hr := B.returns
  have hts0 := atoms_spec (ws := wt yX8_localAt cX8_localAt 3 (some .int)) B.pre
  have hts : ∀ w ∈ tb, w.before _ s = true := fun w h => hts0 w (List.mem_cons_of_mem _ h)
  have hown : s.vm.findClass RX8 = some m.cls := findClass_of_methodNamed B.named
  subst hsz
  have hD := hD0.self (sz := s.heap.size)
  generalize hAe : va_A (WdC g ad S) s.heap.size = A at hD hE ⊢
  have hA : ∀ q : Nat, s.heap.size ≤ q → A q := fun q h => by rw [← hAe]; exact Or.inr h
  have hR : RepC g ad A s S s.heap [] := ⟨hK, hP, hD, va_S.rf, hw⟩
  clear hK hP hD hD0
  have hl := lv_entry ([.ref (ad p0), .int x1, .int x2]) (n := 3) (Nat.le_of_ble_eq_true rfl)
  rw [lg_entry_eq]
  generalize (lg_sl ([.ref (ad p0), .int x1, .int x2]) ++ List.replicate (3 - (lg_sl ([.ref (ad p0), .int x1, .int x2])).length) Slot.unset).toArray = ls at hl ⊢
  have hl : lv_has ls 3 [(0, .ref (ad p0)), (1, .int x1), (2, .int x2)] := hl
  obtain ⟨r0, hf⟩ : ∃ r0, fX8_localAt S p0 x1 x2 = r0 := ⟨_, rfl⟩
  have hf0 := hf
  unfold fX8_localAt at hf
  unfold d_X8_localAt at hd
  refine lv_aload_n hx hb dX8_localAt_0 rfl (lv_at hl 0 rfl) ?_
  have hO_o1 : ∀ z, (qR S p0 13) = some z → qT S z = 407 := fun z q => hR.w.ref q hT_p0
  refine va_get (D := rD g) (ci := 7) (v := vf ad (qR S p0 13)) (C := RX8) (T := TX8) (N := 15) hx hb hts inX8 hown hR.K hR.P p0 (hR.at47 hT_p0) rfl 13 (by decide) (hts _ kw_1506) (fun _ h9 => h9) rfl dX8_localAt_1 ?_
  rcases hq_b2 : (qR S p0 13) with _ | b2
  · skip
    rw [if_pos (hq_b2)] at hf
    (try rw [if_pos (hq_b2)] at hd)
    refine lv_ifnullN (tgt := 36) hx hb dX8_localAt_4 (by decide) ?_
    refine lv_iconst (v := 0) hx hb dX8_localAt_36 (by decide) ?_
    exact W.iret (v := 0) hx hb hr (fun t9 ht9 hW9 => ⟨⟨_, (), rfl, hf.trans hf0.symm, ⟨by rw [ht9]; exact hR.P, hR.D⟩⟩, hR.sS.F ht9⟩) hR.sS.2.2 dX8_localAt_37
  · have hg_b2 : b2 = ((qR S p0 13)).getD 0 := by rw [hq_b2]; rfl
    have hT_b2 : qT S (((qR S p0 13)).getD 0) = 407 := hg_b2 ▸ hO_o1 _ hq_b2
    subst hg_b2
    rw [if_neg (fun q9 => Option.some_ne_none _ (hq_b2.symm.trans q9))] at hf
    (try rw [if_neg (fun q9 => Option.some_ne_none _ (hq_b2.symm.trans q9))] at hd)
    refine lv_ifnull hx hb dX8_localAt_4 ?_
    refine lv_aload_n hx hb dX8_localAt_7 rfl (lv_at hl 0 rfl) ?_
    have hO_o3 : ∀ z, (qR S p0 14) = some z → qT S z = 408 := fun z q => hR.w.ref q hT_p0
    refine va_get (D := rD g) (ci := 7) (v := vf ad (qR S p0 14)) (C := RX8) (T := TX8) (N := 15) hx hb hts inX8 hown hR.K hR.P p0 (hR.at47 hT_p0) rfl 14 (by decide) (hts _ kw_1507) (fun _ h9 => h9) rfl dX8_localAt_8 ?_
    rcases hq_b4 : (qR S p0 14) with _ | b4
    · skip
      rw [if_pos (hq_b4)] at hf
      (try rw [if_pos (hq_b4)] at hd)
      refine lv_ifnullN (tgt := 36) hx hb dX8_localAt_11 (by decide) ?_
      refine lv_iconst (v := 0) hx hb dX8_localAt_36 (by decide) ?_
      exact W.iret (v := 0) hx hb hr (fun t9 ht9 hW9 => ⟨⟨_, (), rfl, hf.trans hf0.symm, ⟨by rw [ht9]; exact hR.P, hR.D⟩⟩, hR.sS.F ht9⟩) hR.sS.2.2 dX8_localAt_37
    · have hg_b4 : b4 = ((qR S p0 14)).getD 0 := by rw [hq_b4]; rfl
      have hT_b4 : qT S (((qR S p0 14)).getD 0) = 408 := hg_b4 ▸ hO_o3 _ hq_b4
      subst hg_b4
      rw [if_neg (fun q9 => Option.some_ne_none _ (hq_b4.symm.trans q9))] at hf
      (try rw [if_neg (fun q9 => Option.some_ne_none _ (hq_b4.symm.trans q9))] at hd)
      refine lv_ifnull hx hb dX8_localAt_11 ?_
      refine lv_iload_n hx hb dX8_localAt_14 rfl (lv_at hl 1 rfl) ?_
      refine lv_if_lt (tgt := 36) hx hb dX8_localAt_15 (by decide) (fun c5 => ?_) (fun c5 => ?_)
      · rw [if_pos (k_lt rfl (by decide) c5)] at hf
        (try rw [if_pos (k_lt rfl (by decide) c5)] at hd)
        refine lv_iconst (v := 0) hx hb dX8_localAt_36 (by decide) ?_
        exact W.iret (v := 0) hx hb hr (fun t9 ht9 hW9 => ⟨⟨_, (), rfl, hf.trans hf0.symm, ⟨by rw [ht9]; exact hR.P, hR.D⟩⟩, hR.sS.F ht9⟩) hR.sS.2.2 dX8_localAt_37
      · rw [if_neg (k_nlt rfl (by decide) c5)] at hf
        (try rw [if_neg (k_nlt rfl (by decide) c5)] at hd)
        refine lv_iload_n hx hb dX8_localAt_18 rfl (lv_at hl 1 rfl) ?_
        refine lv_aload_n hx hb dX8_localAt_19 rfl (lv_at hl 0 rfl) ?_
        obtain ⟨hv7, hd⟩ := hd
        have hT_b6 : qT S (qO S p0 13) = 407 := hR.w.ref hv7 hT_p0
        refine va_get (D := rD g) (ci := 7) (v := .ref (ad (qO S p0 13))) (C := RX8) (T := TX8) (N := 15) hx hb hts inX8 hown hR.K hR.P p0 (hR.at47 hT_p0) rfl 13 (by decide) (hts _ kw_1506) (fun _ h9 => h9) (congrArg (fun z => some (vf ad z)) hv7) dX8_localAt_20 ?_
        refine va_alen (v := (Int32.ofNat (qN S (qO S p0 13)))) hx hb hR.K hR.P (qO S p0 13) 3 (hR.atL hT_b6 (by decide)) rfl rfl dX8_localAt_23 ?_
        have hln8 : (Int32.ofNat (qN S (qO S p0 13))).toInt = (qN S (qO S p0 13) : Int) := toI_len (hR.w.len9 (hT_b6) (by decide))
        refine lv_icmp_ge (tgt := 36) hx hb dX8_localAt_24 (by decide) (fun c9 => ?_) (fun c9 => ?_)
        · rw [if_pos (k_le hln8 rfl c9)] at hf
          (try rw [if_pos (k_le hln8 rfl c9)] at hd)
          refine lv_iconst (v := 0) hx hb dX8_localAt_36 (by decide) ?_
          exact W.iret (v := 0) hx hb hr (fun t9 ht9 hW9 => ⟨⟨_, (), rfl, hf.trans hf0.symm, ⟨by rw [ht9]; exact hR.P, hR.D⟩⟩, hR.sS.F ht9⟩) hR.sS.2.2 dX8_localAt_37
        · rw [if_neg (k_nle hln8 rfl c9)] at hf
          (try rw [if_neg (k_nle hln8 rfl c9)] at hd)
          refine lv_iload_n hx hb dX8_localAt_27 rfl (lv_at hl 1 rfl) ?_
          refine lv_aload_n hx hb dX8_localAt_28 rfl (lv_at hl 0 rfl) ?_
          obtain ⟨hv11, hd⟩ := hd
          have hT_b10 : qT S (qO S p0 14) = 408 := hR.w.ref hv11 hT_p0
          refine va_get (D := rD g) (ci := 7) (v := .ref (ad (qO S p0 14))) (C := RX8) (T := TX8) (N := 15) hx hb hts inX8 hown hR.K hR.P p0 (hR.at47 hT_p0) rfl 14 (by decide) (hts _ kw_1507) (fun _ h9 => h9) (congrArg (fun z => some (vf ad z)) hv11) dX8_localAt_29 ?_
          refine va_alen (v := (Int32.ofNat (qN S (qO S p0 14)))) hx hb hR.K hR.P (qO S p0 14) 3 (hR.atL hT_b10 (by decide)) rfl rfl dX8_localAt_32 ?_
          have hln12 : (Int32.ofNat (qN S (qO S p0 14))).toInt = (qN S (qO S p0 14) : Int) := toI_len (hR.w.len9 (hT_b10) (by decide))
          refine lv_icmp_lt (tgt := 38) hx hb dX8_localAt_33 (by decide) (fun c13 => ?_) (fun c13 => ?_)
          · rw [if_pos (k_lt rfl hln12 c13)] at hf
            (try rw [if_pos (k_lt rfl hln12 c13)] at hd)
            refine lv_iload_n hx hb dX8_localAt_38 rfl (lv_at hl 2 rfl) ?_
            refine lv_bipush (v := 16) hx hb dX8_localAt_39 (by decide) ?_
            have J_70 : ∀ (t70_0 : Int64) (H : Heap) (locs : List Loc) (ls : Array Slot), d_X8_localAt_J70 S t70_0 → f_X8_localAt_J70 S t70_0 = r0 → RepC g ad A s S H locs → lv_has ls 3 [] → W p l e (headSpec (wt yX8_localAt cX8_localAt 3 (some .int)) ({ frames := 0, cells := 0, slots := 0, locals := 0 })).room s m ([.ref (ad p0), .int x1, .int x2] : List Value).toArray below meth c H locs 0 0 (MQ below (va_Qi (fun (r : Int32) (_ : Unit) => r = fX8_localAt S p0 x1 x2) (fun (_ : Unit) (t : State) => qEC g ad A S t) A) ([.ref (ad p0), .int x1, .int x2] : List Value).toArray s 0 0 A) (F0 m 70 ls [.long t70_0]) := by
              intro t70_0 H locs ls hd hf hR hl
              unfold d_X8_localAt_J70 at hd
              unfold f_X8_localAt_J70 at hf
              refine lv_l2i (v := (t70_0.toInt32)) hx hb dX8_localAt_70 rfl ?_
              refine lv_bipush (v := 15) hx hb dX8_localAt_71 (by decide) ?_
              refine lv_iand hx hb dX8_localAt_73 ?_
              refine lv_topi (fun z14 ez14 => ?_)
              obtain rfl : z14 = ((t70_0.toInt32) &&& (15 : Int32)) := ez14
              exact W.iret (v := ((t70_0.toInt32) &&& (15 : Int32))) hx hb hr (fun t9 ht9 hW9 => ⟨⟨_, (), rfl, hf.trans hf0.symm, ⟨by rw [ht9]; exact hR.P, hR.D⟩⟩, hR.sS.F ht9⟩) hR.sS.2.2 dX8_localAt_74
            refine lv_icmp_ge (tgt := 57) hx hb dX8_localAt_41 (by decide) (fun c15 => ?_) (fun c15 => ?_)
            · rw [if_pos (k_le (by decide) rfl c15)] at hf
              (try rw [if_pos (k_le (by decide) rfl c15)] at hd)
              refine lv_aload_n hx hb dX8_localAt_57 rfl (lv_at hl 0 rfl) ?_
              obtain ⟨hv17, hd⟩ := hd
              have hT_b16 : qT S (qO S p0 14) = 408 := hR.w.ref hv17 hT_p0
              refine va_get (D := rD g) (ci := 7) (v := .ref (ad (qO S p0 14))) (C := RX8) (T := TX8) (N := 15) hx hb hts inX8 hown hR.K hR.P p0 (hR.at47 hT_p0) rfl 14 (by decide) (hts _ kw_1507) (fun _ h9 => h9) (congrArg (fun z => some (vf ad z)) hv17) dX8_localAt_58 ?_
              refine lv_iload_n hx hb dX8_localAt_61 rfl (lv_at hl 1 rfl) ?_
              obtain ⟨hv18, hd⟩ := hd
              refine va_lald hx hb hR.K hR.P (qO S p0 14) 3 (hR.atL hT_b16 (by decide)) rfl (k_ix (x := x1) (a := x1.toInt) rfl hv18) dX8_localAt_62 ?_
              refine lv_topl (fun z19 ez19 => ?_)
              obtain rfl : z19 = (qJ S (qO S p0 14) x1.toInt.toNat) := ez19
              refine lv_iconst (v := 4) hx hb dX8_localAt_63 (by decide) ?_
              refine lv_iload_n hx hb dX8_localAt_64 rfl (lv_at hl 2 rfl) ?_
              refine lv_bipush (v := 16) hx hb dX8_localAt_65 (by decide) ?_
              refine lv_isub hx hb dX8_localAt_67 ?_
              refine lv_topi (fun z20 ez20 => ?_)
              obtain rfl : z20 = (x2 - (16 : Int32)) := ez20
              refine lv_imul hx hb dX8_localAt_68 ?_
              refine lv_topi (fun z21 ez21 => ?_)
              obtain rfl : z21 = ((4 : Int32) * (x2 - (16 : Int32))) := ez21
              refine lv_lushr (v := (((qJ S (qO S p0 14) x1.toInt.toNat).toUInt64 >>> (((4 : Int32) * (x2 - (16 : Int32))).toInt64.toUInt64 &&& Int64.toUInt64 63)).toInt64)) hx hb dX8_localAt_69 rfl ?_
              exact J_70 (((qJ S (qO S p0 14) x1.toInt.toNat).toUInt64 >>> (((4 : Int32) * (x2 - (16 : Int32))).toInt64.toUInt64 &&& Int64.toUInt64 63)).toInt64) _ _ ls hd hf  hR (lv_sub hl [] rfl)
            · rw [if_neg (k_nle (by decide) rfl c15)] at hf
              (try rw [if_neg (k_nle (by decide) rfl c15)] at hd)
              refine lv_aload_n hx hb dX8_localAt_44 rfl (lv_at hl 0 rfl) ?_
              obtain ⟨hv23, hd⟩ := hd
              have hT_b22 : qT S (qO S p0 13) = 407 := hR.w.ref hv23 hT_p0
              refine va_get (D := rD g) (ci := 7) (v := .ref (ad (qO S p0 13))) (C := RX8) (T := TX8) (N := 15) hx hb hts inX8 hown hR.K hR.P p0 (hR.at47 hT_p0) rfl 13 (by decide) (hts _ kw_1506) (fun _ h9 => h9) (congrArg (fun z => some (vf ad z)) hv23) dX8_localAt_45 ?_
              refine lv_iload_n hx hb dX8_localAt_48 rfl (lv_at hl 1 rfl) ?_
              obtain ⟨hv24, hd⟩ := hd
              refine va_lald hx hb hR.K hR.P (qO S p0 13) 3 (hR.atL hT_b22 (by decide)) rfl (k_ix (x := x1) (a := x1.toInt) rfl hv24) dX8_localAt_49 ?_
              refine lv_topl (fun z25 ez25 => ?_)
              obtain rfl : z25 = (qJ S (qO S p0 13) x1.toInt.toNat) := ez25
              refine lv_iconst (v := 4) hx hb dX8_localAt_50 (by decide) ?_
              refine lv_iload_n hx hb dX8_localAt_51 rfl (lv_at hl 2 rfl) ?_
              refine lv_imul hx hb dX8_localAt_52 ?_
              refine lv_topi (fun z26 ez26 => ?_)
              obtain rfl : z26 = ((4 : Int32) * x2) := ez26
              refine lv_lushr (v := (((qJ S (qO S p0 13) x1.toInt.toNat).toUInt64 >>> (((4 : Int32) * x2).toInt64.toUInt64 &&& Int64.toUInt64 63)).toInt64)) hx hb dX8_localAt_53 rfl ?_
              refine lv_goto (tgt := 70) hx hb dX8_localAt_54 (by decide) ?_
              exact J_70 (((qJ S (qO S p0 13) x1.toInt.toNat).toUInt64 >>> (((4 : Int32) * x2).toInt64.toUInt64 &&& Int64.toUInt64 63)).toInt64) _ _ ls hd hf  hR (lv_sub hl [] rfl)
          · rw [if_neg (k_nlt rfl hln12 c13)] at hf
            (try rw [if_neg (k_nlt rfl hln12 c13)] at hd)
            refine lv_iconst (v := 0) hx hb dX8_localAt_36 (by decide) ?_
            exact W.iret (v := 0) hx hb hr (fun t9 ht9 hW9 => ⟨⟨_, (), rfl, hf.trans hf0.symm, ⟨by rw [ht9]; exact hR.P, hR.D⟩⟩, hR.sS.F ht9⟩) hR.sS.2.2 dX8_localAt_37
def w_X8_copyFrom_L83 (Q : MS → Prop) : Nat → MS → Nat → Nat → Int32 → Prop
  | 0, _, _, _, _ => False
  | n83 + 1, U83, v83_0, v83_1, v83_2 => (wfC U83 → qT U83 v83_0 = 47 → qT U83 v83_1 = 47 → (((qI U83 v83_1 9).toInt ≤ v83_2.toInt → Q U83) ∧ (¬ (qI U83 v83_1 9).toInt ≤ v83_2.toInt → ((qR U83 v83_1 5 = some (qO U83 v83_1 5)) ∧ (((0 : Int) ≤ v83_2.toInt ∧ v83_2.toInt < (qN U83 (qO U83 v83_1 5) : Int)) ∧ ((qR U83 v83_1 6 = some (qO U83 v83_1 6)) ∧ (((0 : Int) ≤ v83_2.toInt ∧ v83_2.toInt < (qN U83 (qO U83 v83_1 6) : Int)) ∧ ((qR U83 v83_1 7 = some (qO U83 v83_1 7)) ∧ (((0 : Int) ≤ v83_2.toInt ∧ v83_2.toInt < (qN U83 (qO U83 v83_1 7) : Int)) ∧ ((qR U83 v83_1 8 = some (qO U83 v83_1 8)) ∧ (((0 : Int) ≤ v83_2.toInt ∧ v83_2.toInt < (qN U83 (qO U83 v83_1 8) : Int)) ∧ (qT U83 v83_0 = 47 → (∃ Q24, wX8_addCatch U83 v83_0 (qI U83 (qO U83 v83_1 5) v83_2.toInt.toNat) (qI U83 (qO U83 v83_1 6) v83_2.toInt.toNat) (qI U83 (qO U83 v83_1 7) v83_2.toInt.toNat) (qI U83 (qO U83 v83_1 8) v83_2.toInt.toNat) Q24 ∧ ∀ S25, Q24 S25 → wfC S25 → shy U83 S25 → (∀ a27 : Int32, a27 = (v83_2 + Int32.ofInt 1) → (w_X8_copyFrom_L83 Q n83) S25 v83_0 v83_1 a27))))))))))))))
def w_X8_copyFrom_L52 (Q : MS → Prop) : Nat → MS → Nat → Nat → Int32 → Prop
  | 0, _, _, _, _ => False
  | n52 + 1, U52, v52_0, v52_1, v52_2 => (wfC U52 → qT U52 v52_0 = 47 → qT U52 v52_1 = 47 → (((qI U52 v52_1 4).toInt ≤ v52_2.toInt → (∀ S6, S6 = wI U52 v52_0 9 (0 : Int32) → qT U52 v52_0 = 47 → wfC S6 → (∃ n, w_X8_copyFrom_L83 Q n S6 v52_0 v52_1 0))) ∧ (¬ (qI U52 v52_1 4).toInt ≤ v52_2.toInt → ((qR U52 v52_1 3 = some (qO U52 v52_1 3)) ∧ (((0 : Int) ≤ v52_2.toInt ∧ v52_2.toInt < (qN U52 (qO U52 v52_1 3) : Int)) ∧ (qT U52 v52_0 = 47 → (∃ Q32, wX8_addToTable U52 v52_0 (qI U52 (qO U52 v52_1 3) v52_2.toInt.toNat) Q32 ∧ ∀ S33, Q32 S33 → wfC S33 → shy U52 S33 → (∀ a35 : Int32, a35 = (v52_2 + Int32.ofInt 1) → (w_X8_copyFrom_L52 Q n52) S33 v52_0 v52_1 a35))))))))
def w_X8_copyFrom_L15 (Q : MS → Prop) : Nat → MS → Nat → Nat → Int32 → Prop
  | 0, _, _, _, _ => False
  | n15 + 1, U15, v15_0, v15_1, v15_2 => (wfC U15 → qT U15 v15_0 = 47 → qT U15 v15_1 = 47 → (((qI U15 v15_1 2).toInt ≤ v15_2.toInt → (∀ S4, S4 = wI U15 v15_0 4 (0 : Int32) → qT U15 v15_0 = 47 → wfC S4 → (∃ n, w_X8_copyFrom_L52 Q n S4 v15_0 v15_1 0))) ∧ (¬ (qI U15 v15_1 2).toInt ≤ v15_2.toInt → ((qR U15 v15_1 0 = some (qO U15 v15_1 0)) ∧ (((0 : Int) ≤ v15_2.toInt ∧ v15_2.toInt < (qN U15 (qO U15 v15_1 0) : Int)) ∧ ((qR U15 v15_1 1 = some (qO U15 v15_1 1)) ∧ (((0 : Int) ≤ v15_2.toInt ∧ v15_2.toInt < (qN U15 (qO U15 v15_1 1) : Int)) ∧ (qT U15 v15_0 = 47 → (∃ Q44, wX8_add U15 v15_0 (qI U15 (qO U15 v15_1 0) v15_2.toInt.toNat) (qJ U15 (qO U15 v15_1 1) v15_2.toInt.toNat) Q44 ∧ ∀ S45, Q44 S45 → wfC S45 → shy U15 S45 → (∀ a47 : Int32, a47 = (v15_2 + Int32.ofInt 1) → (w_X8_copyFrom_L15 Q n15) S45 v15_0 v15_1 a47))))))))))
def wX8_copyFrom (S : MS) (p0 : Nat) (p1 : Nat) (Q : MS → Prop) : Prop := (∀ S1, S1 = wI S p0 11 (qI S p1 11) → qT S p0 = 47 → wfC S1 → (∀ S2, S2 = wI S1 p0 2 (0 : Int32) → qT S1 p0 = 47 → wfC S2 → (∃ n, w_X8_copyFrom_L15 Q n S2 p0 p1 0)))
set_option maxHeartbeats 2000000 in
set_option maxRecDepth 100000 in
theorem rX8_copyFrom (l : Launch) (g : Gr) (ad : Nat → Nat) (sz : Nat) (S : MS) (p0 : Nat) (p1 : Nat) (hw : wfC S) (hT_p0 : qT S p0 = 47) (hT_p1 : qT S p1 = 47) (Q : MS → Prop) (h : wX8_copyFrom S p0 p1 Q) : Met l yX8_copyFrom (wt yX8_copyFrom cX8_copyFrom 3 none) ({ frames := 2, cells := 0, slots := 0, locals := 47 }) (va_Pc [.ref (ad p0), .ref (ad p1)] (st_C g ad sz S)) (va_Qv (fun (u : MS) => Q u ∧ wfC u ∧ shy S u) (fun (u : MS) (t : State) => qEC g ad (va_A (WdC g ad S) sz) u t) (va_A (WdC g ad S) sz)) 0 0 (va_A (WdC g ad S) sz) := by
  refine Met.ofW (cc := cX8_copyFrom) (maxL := 3) (ret := none) (by decide) rfl ?_
  intro p e s m args below meth c s₁ B hml hv
  obtain ⟨rfl, hsz, hP, hK, hD0, hex, hE⟩ := hv
  have hx := B.exec
  have hb := B.bytes
  have hr := B.returns
  have hts0 := atoms_spec (ws := wt yX8_copyFrom cX8_copyFrom 3 none) B.pre
  have hts : ∀ w ∈ tb, w.before _ s = true := fun w h => hts0 w (List.mem_cons_of_mem _ h)
  have hown : s.vm.findClass RX8 = some m.cls := findClass_of_methodNamed B.named
  subst hsz
  have hD := hD0.self (sz := s.heap.size)
  generalize hAe : va_A (WdC g ad S) s.heap.size = A at hD hE ⊢
  have hA : ∀ q : Nat, s.heap.size ≤ q → A q := fun q h => by rw [← hAe]; exact Or.inr h
  have hR : RepC g ad A s S s.heap [] := ⟨hK, hP, hD, va_S.rf, hw⟩
  clear hK hP hD hD0
  have hl := lv_entry ([.ref (ad p0), .ref (ad p1)]) (n := 3) (Nat.le_of_ble_eq_true rfl)
  rw [lg_entry_eq]
  generalize (lg_sl ([.ref (ad p0), .ref (ad p1)]) ++ List.replicate (3 - (lg_sl ([.ref (ad p0), .ref (ad p1)])).length) Slot.unset).toArray = ls at hl ⊢
  have hl : lv_has ls 3 [(0, .ref (ad p0)), (1, .ref (ad p1))] := hl
  have hsh : shy S S := shy.rf
  unfold wX8_copyFrom at h
  refine lv_aload_n hx hb dX8_copyFrom_0 rfl (lv_at hl 0 rfl) ?_
  refine lv_aload_n hx hb dX8_copyFrom_1 rfl (lv_at hl 1 rfl) ?_
  refine va_get (D := rD g) (ci := 7) (v := .int (qI S p1 11)) (C := RX8) (T := TX8) (N := 15) hx hb hts inX8 hown hR.K hR.P p1 (hR.at47 hT_p1) rfl 11 (by decide) (hts _ kw_1488) (fun _ h9 => h9) rfl dX8_copyFrom_2 ?_
  refine va_put (D := rD g) (ci := 7) (v := .int (qI S p1 11)) (ty := .int) (C := RX8) (T := TX8) (N := 15) hx hb hts inX8 tyX8 tyX8_ok nmX8 hown hR.K hR.P hR.D hR.sS p0 (hR.at47 hT_p0) rfl 11 (by decide) (hts _ kw_1488) (fun _ h9 => h9) rfl (by decide +kernel) rfl rfl (Nat.le_of_ble_eq_true rfl) dX8_copyFrom_5 (fun H locs hP hD hS => ?_)
  have hTk9 : qT S p0 = 47 := hT_p0
  have hR : RepC g ad A s (wI S p0 11 (qI S p1 11)) H locs := hR.pI47 hT_p0 FX8_s11 (fun q9 => absurd q9 (by decide)) hP hD hS
  obtain ⟨S1, eS1⟩ : ∃ z, z = wI S p0 11 (qI S p1 11) := ⟨_, rfl⟩
  rw [← eS1] at hR
  replace h := h S1 eS1 hTk9 hR.w
  have hT_p0 : qT S1 p0 = 47 := (congrArg (fun z => qT z p0) eS1).trans hT_p0
  have hT_p1 : qT S1 p1 = 47 := (congrArg (fun z => qT z p1) eS1).trans hT_p1
  have hsh : shy S S1 := by rw [eS1]; exact hsh
  refine lv_aload_n hx hb dX8_copyFrom_8 rfl (lv_at hl 0 rfl) ?_
  refine lv_iconst (v := 0) hx hb dX8_copyFrom_9 (by decide) ?_
  refine va_put (D := rD g) (ci := 7) (v := .int 0) (ty := .int) (C := RX8) (T := TX8) (N := 15) hx hb hts inX8 tyX8 tyX8_ok nmX8 hown hR.K hR.P hR.D hR.sS p0 (hR.at47 hT_p0) rfl 2 (by decide) (hts _ kw_1459) (fun _ h9 => h9) rfl (by decide +kernel) rfl rfl (Nat.le_of_ble_eq_true rfl) dX8_copyFrom_10 (fun H locs hP hD hS => ?_)
  have hTk9 : qT S1 p0 = 47 := hT_p0
  have hR : RepC g ad A s (wI S1 p0 2 (0 : Int32)) H locs := hR.pI47 hT_p0 FX8_s2 (fun q9 => absurd q9 (by decide)) hP hD hS
  obtain ⟨S2, eS2⟩ : ∃ z, z = wI S1 p0 2 (0 : Int32) := ⟨_, rfl⟩
  rw [← eS2] at hR
  replace h := h S2 eS2 hTk9 hR.w
  have hT_p0 : qT S2 p0 = 47 := (congrArg (fun z => qT z p0) eS2).trans hT_p0
  have hT_p1 : qT S2 p1 = 47 := (congrArg (fun z => qT z p1) eS2).trans hT_p1
  have hsh : shy S S2 := by rw [eS2]; exact hsh
  refine lv_iconst (v := 0) hx hb dX8_copyFrom_13 (by decide) ?_
  refine lv_istore_n (lv' := [(2, .int 0), (0, .ref (ad p0)), (1, .ref (ad p1))]) hx hb dX8_copyFrom_14 rfl hl (by decide) rfl (fun ls hl => ?_)
  have J_15 : ∀ (n15 : Nat) (U15 : MS) (v15_0 : Nat) (v15_1 : Nat) (v15_2 : Int32) (H : Heap) (locs : List Loc) (ls : Array Slot), w_X8_copyFrom_L15 Q n15 U15 v15_0 v15_1 v15_2 → qT U15 v15_0 = 47 → qT U15 v15_1 = 47 → shy S U15 → RepC g ad A s U15 H locs → lv_has ls 3 [(0, .ref (ad v15_0)), (1, .ref (ad v15_1)), (2, .int v15_2)] → W p l e (headSpec (wt yX8_copyFrom cX8_copyFrom 3 none) ({ frames := 2, cells := 0, slots := 0, locals := 47 })).room s m ([.ref (ad p0), .ref (ad p1)] : List Value).toArray below meth c H locs 0 0 (MQ below (va_Qv (fun (u : MS) => Q u ∧ wfC u ∧ shy S u) (fun (u : MS) (t : State) => qEC g ad A u t) A) ([.ref (ad p0), .ref (ad p1)] : List Value).toArray s 0 0 A) (F0 m 15 ls []) := by
    intro n15
    induction n15 with
    | zero => intro U15 v15_0 v15_1 v15_2 H locs ls h hT_v15_0 hT_v15_1 hsh hR hl; unfold w_X8_copyFrom_L15 at h; exact h.elim
    | succ n15 ih_15 =>
      intro U15 v15_0 v15_1 v15_2 H locs ls h hT_v15_0 hT_v15_1 hsh hR hl
      unfold w_X8_copyFrom_L15 at h
      replace h := h hR.w hT_v15_0 hT_v15_1
      refine lv_iload_n hx hb dX8_copyFrom_15 rfl (lv_at hl 2 rfl) ?_
      refine lv_aload_n hx hb dX8_copyFrom_16 rfl (lv_at hl 1 rfl) ?_
      refine va_get (D := rD g) (ci := 7) (v := .int (qI U15 v15_1 2)) (C := RX8) (T := TX8) (N := 15) hx hb hts inX8 hown hR.K hR.P v15_1 (hR.at47 hT_v15_1) rfl 2 (by decide) (hts _ kw_1459) (fun _ h9 => h9) rfl dX8_copyFrom_17 ?_
      refine lv_icmp_ge (tgt := 45) hx hb dX8_copyFrom_20 (by decide) (fun c3 => ?_) (fun c3 => ?_)
      · replace h := h.1 (k_le rfl rfl c3)
        refine lv_aload_n hx hb dX8_copyFrom_45 rfl (lv_at hl 0 rfl) ?_
        refine lv_iconst (v := 0) hx hb dX8_copyFrom_46 (by decide) ?_
        refine va_put (D := rD g) (ci := 7) (v := .int 0) (ty := .int) (C := RX8) (T := TX8) (N := 15) hx hb hts inX8 tyX8 tyX8_ok nmX8 hown hR.K hR.P hR.D hR.sS v15_0 (hR.at47 hT_v15_0) rfl 4 (by decide) (hts _ kw_1473) (fun _ h9 => h9) rfl (by decide +kernel) rfl rfl (Nat.le_of_ble_eq_true rfl) dX8_copyFrom_47 (fun H locs hP hD hS => ?_)
        have hTk9 : qT U15 v15_0 = 47 := hT_v15_0
        have hR : RepC g ad A s (wI U15 v15_0 4 (0 : Int32)) H locs := hR.pI47 hT_v15_0 FX8_s4 (fun q9 => absurd q9 (by decide)) hP hD hS
        obtain ⟨S4, eS4⟩ : ∃ z, z = wI U15 v15_0 4 (0 : Int32) := ⟨_, rfl⟩
        rw [← eS4] at hR
        replace h := h S4 eS4 hTk9 hR.w
        have hT_v15_0 : qT S4 v15_0 = 47 := (congrArg (fun z => qT z v15_0) eS4).trans hT_v15_0
        have hT_v15_1 : qT S4 v15_1 = 47 := (congrArg (fun z => qT z v15_1) eS4).trans hT_v15_1
        have hsh : shy S S4 := by rw [eS4]; exact hsh
        refine lv_iconst (v := 0) hx hb dX8_copyFrom_50 (by decide) ?_
        refine lv_istore_n (lv' := [(2, .int 0), (0, .ref (ad v15_0)), (1, .ref (ad v15_1))]) hx hb dX8_copyFrom_51 rfl hl (by decide) rfl (fun ls hl => ?_)
        have J_52 : ∀ (n52 : Nat) (U52 : MS) (v52_0 : Nat) (v52_1 : Nat) (v52_2 : Int32) (H : Heap) (locs : List Loc) (ls : Array Slot), w_X8_copyFrom_L52 Q n52 U52 v52_0 v52_1 v52_2 → qT U52 v52_0 = 47 → qT U52 v52_1 = 47 → shy S U52 → RepC g ad A s U52 H locs → lv_has ls 3 [(0, .ref (ad v52_0)), (1, .ref (ad v52_1)), (2, .int v52_2)] → W p l e (headSpec (wt yX8_copyFrom cX8_copyFrom 3 none) ({ frames := 2, cells := 0, slots := 0, locals := 47 })).room s m ([.ref (ad p0), .ref (ad p1)] : List Value).toArray below meth c H locs 0 0 (MQ below (va_Qv (fun (u : MS) => Q u ∧ wfC u ∧ shy S u) (fun (u : MS) (t : State) => qEC g ad A u t) A) ([.ref (ad p0), .ref (ad p1)] : List Value).toArray s 0 0 A) (F0 m 52 ls []) := by
          intro n52
          induction n52 with
          | zero => intro U52 v52_0 v52_1 v52_2 H locs ls h hT_v52_0 hT_v52_1 hsh hR hl; unfold w_X8_copyFrom_L52 at h; exact h.elim
          | succ n52 ih_52 =>
            intro U52 v52_0 v52_1 v52_2 H locs ls h hT_v52_0 hT_v52_1 hsh hR hl
            unfold w_X8_copyFrom_L52 at h
            replace h := h hR.w hT_v52_0 hT_v52_1
            refine lv_iload_n hx hb dX8_copyFrom_52 rfl (lv_at hl 2 rfl) ?_
            refine lv_aload_n hx hb dX8_copyFrom_53 rfl (lv_at hl 1 rfl) ?_
            refine va_get (D := rD g) (ci := 7) (v := .int (qI U52 v52_1 4)) (C := RX8) (T := TX8) (N := 15) hx hb hts inX8 hown hR.K hR.P v52_1 (hR.at47 hT_v52_1) rfl 4 (by decide) (hts _ kw_1473) (fun _ h9 => h9) rfl dX8_copyFrom_54 ?_
            refine lv_icmp_ge (tgt := 76) hx hb dX8_copyFrom_57 (by decide) (fun c5 => ?_) (fun c5 => ?_)
            · replace h := h.1 (k_le rfl rfl c5)
              refine lv_aload_n hx hb dX8_copyFrom_76 rfl (lv_at hl 0 rfl) ?_
              refine lv_iconst (v := 0) hx hb dX8_copyFrom_77 (by decide) ?_
              refine va_put (D := rD g) (ci := 7) (v := .int 0) (ty := .int) (C := RX8) (T := TX8) (N := 15) hx hb hts inX8 tyX8 tyX8_ok nmX8 hown hR.K hR.P hR.D hR.sS v52_0 (hR.at47 hT_v52_0) rfl 9 (by decide) (hts _ kw_1465) (fun _ h9 => h9) rfl (by decide +kernel) rfl rfl (Nat.le_of_ble_eq_true rfl) dX8_copyFrom_78 (fun H locs hP hD hS => ?_)
              have hTk9 : qT U52 v52_0 = 47 := hT_v52_0
              have hR : RepC g ad A s (wI U52 v52_0 9 (0 : Int32)) H locs := hR.pI47 hT_v52_0 FX8_s9 (fun q9 => absurd q9 (by decide)) hP hD hS
              obtain ⟨S6, eS6⟩ : ∃ z, z = wI U52 v52_0 9 (0 : Int32) := ⟨_, rfl⟩
              rw [← eS6] at hR
              replace h := h S6 eS6 hTk9 hR.w
              have hT_v52_0 : qT S6 v52_0 = 47 := (congrArg (fun z => qT z v52_0) eS6).trans hT_v52_0
              have hT_v52_1 : qT S6 v52_1 = 47 := (congrArg (fun z => qT z v52_1) eS6).trans hT_v52_1
              have hsh : shy S S6 := by rw [eS6]; exact hsh
              refine lv_iconst (v := 0) hx hb dX8_copyFrom_81 (by decide) ?_
              refine lv_istore_n (lv' := [(2, .int 0), (0, .ref (ad v52_0)), (1, .ref (ad v52_1))]) hx hb dX8_copyFrom_82 rfl hl (by decide) rfl (fun ls hl => ?_)
              have J_83 : ∀ (n83 : Nat) (U83 : MS) (v83_0 : Nat) (v83_1 : Nat) (v83_2 : Int32) (H : Heap) (locs : List Loc) (ls : Array Slot), w_X8_copyFrom_L83 Q n83 U83 v83_0 v83_1 v83_2 → qT U83 v83_0 = 47 → qT U83 v83_1 = 47 → shy S U83 → RepC g ad A s U83 H locs → lv_has ls 3 [(0, .ref (ad v83_0)), (1, .ref (ad v83_1)), (2, .int v83_2)] → W p l e (headSpec (wt yX8_copyFrom cX8_copyFrom 3 none) ({ frames := 2, cells := 0, slots := 0, locals := 47 })).room s m ([.ref (ad p0), .ref (ad p1)] : List Value).toArray below meth c H locs 0 0 (MQ below (va_Qv (fun (u : MS) => Q u ∧ wfC u ∧ shy S u) (fun (u : MS) (t : State) => qEC g ad A u t) A) ([.ref (ad p0), .ref (ad p1)] : List Value).toArray s 0 0 A) (F0 m 83 ls []) := by
                intro n83
                induction n83 with
                | zero => intro U83 v83_0 v83_1 v83_2 H locs ls h hT_v83_0 hT_v83_1 hsh hR hl; unfold w_X8_copyFrom_L83 at h; exact h.elim
                | succ n83 ih_83 =>
                  intro U83 v83_0 v83_1 v83_2 H locs ls h hT_v83_0 hT_v83_1 hsh hR hl
                  unfold w_X8_copyFrom_L83 at h
                  replace h := h hR.w hT_v83_0 hT_v83_1
                  refine lv_iload_n hx hb dX8_copyFrom_83 rfl (lv_at hl 2 rfl) ?_
                  refine lv_aload_n hx hb dX8_copyFrom_84 rfl (lv_at hl 1 rfl) ?_
                  refine va_get (D := rD g) (ci := 7) (v := .int (qI U83 v83_1 9)) (C := RX8) (T := TX8) (N := 15) hx hb hts inX8 hown hR.K hR.P v83_1 (hR.at47 hT_v83_1) rfl 9 (by decide) (hts _ kw_1465) (fun _ h9 => h9) rfl dX8_copyFrom_85 ?_
                  refine lv_icmp_ge (tgt := 125) hx hb dX8_copyFrom_88 (by decide) (fun c7 => ?_) (fun c7 => ?_)
                  · replace h := h.1 (k_le rfl rfl c7)
                    exact W.vret hx hb hr (fun t9 ht9 hW9 => ⟨⟨U83, rfl, ⟨h, hR.w, hsh⟩, ⟨by rw [ht9]; exact hR.P, hR.D⟩⟩, hR.sS.F ht9⟩) hR.sS.2.2 dX8_copyFrom_125
                  · replace h := h.2 (k_nle rfl rfl c7)
                    refine lv_aload_n hx hb dX8_copyFrom_91 rfl (lv_at hl 0 rfl) ?_
                    refine lv_aload_n hx hb dX8_copyFrom_92 rfl (lv_at hl 1 rfl) ?_
                    obtain ⟨hv9, h⟩ := h
                    have hT_b8 : qT U83 (qO U83 v83_1 5) = 224 := hR.w.ref hv9 hT_v83_1
                    refine va_get (D := rD g) (ci := 7) (v := .ref (ad (qO U83 v83_1 5))) (C := RX8) (T := TX8) (N := 15) hx hb hts inX8 hown hR.K hR.P v83_1 (hR.at47 hT_v83_1) rfl 5 (by decide) (hts _ kw_1466) (fun _ h9 => h9) (congrArg (fun z => some (vf ad z)) hv9) dX8_copyFrom_93 ?_
                    refine lv_iload_n hx hb dX8_copyFrom_96 rfl (lv_at hl 2 rfl) ?_
                    obtain ⟨hv10, h⟩ := h
                    refine va_iald hx hb hR.K hR.P (qO U83 v83_1 5) 1 (hR.atI hT_b8 (by decide)) rfl (k_ix (x := v83_2) (a := v83_2.toInt) rfl hv10) dX8_copyFrom_97 ?_
                    refine lv_topi (fun z11 ez11 => ?_)
                    obtain rfl : z11 = (qI U83 (qO U83 v83_1 5) v83_2.toInt.toNat) := ez11
                    refine lv_aload_n hx hb dX8_copyFrom_98 rfl (lv_at hl 1 rfl) ?_
                    obtain ⟨hv13, h⟩ := h
                    have hT_b12 : qT U83 (qO U83 v83_1 6) = 225 := hR.w.ref hv13 hT_v83_1
                    refine va_get (D := rD g) (ci := 7) (v := .ref (ad (qO U83 v83_1 6))) (C := RX8) (T := TX8) (N := 15) hx hb hts inX8 hown hR.K hR.P v83_1 (hR.at47 hT_v83_1) rfl 6 (by decide) (hts _ kw_1467) (fun _ h9 => h9) (congrArg (fun z => some (vf ad z)) hv13) dX8_copyFrom_99 ?_
                    refine lv_iload_n hx hb dX8_copyFrom_102 rfl (lv_at hl 2 rfl) ?_
                    obtain ⟨hv14, h⟩ := h
                    refine va_iald hx hb hR.K hR.P (qO U83 v83_1 6) 1 (hR.atI hT_b12 (by decide)) rfl (k_ix (x := v83_2) (a := v83_2.toInt) rfl hv14) dX8_copyFrom_103 ?_
                    refine lv_topi (fun z15 ez15 => ?_)
                    obtain rfl : z15 = (qI U83 (qO U83 v83_1 6) v83_2.toInt.toNat) := ez15
                    refine lv_aload_n hx hb dX8_copyFrom_104 rfl (lv_at hl 1 rfl) ?_
                    obtain ⟨hv17, h⟩ := h
                    have hT_b16 : qT U83 (qO U83 v83_1 7) = 226 := hR.w.ref hv17 hT_v83_1
                    refine va_get (D := rD g) (ci := 7) (v := .ref (ad (qO U83 v83_1 7))) (C := RX8) (T := TX8) (N := 15) hx hb hts inX8 hown hR.K hR.P v83_1 (hR.at47 hT_v83_1) rfl 7 (by decide) (hts _ kw_1468) (fun _ h9 => h9) (congrArg (fun z => some (vf ad z)) hv17) dX8_copyFrom_105 ?_
                    refine lv_iload_n hx hb dX8_copyFrom_108 rfl (lv_at hl 2 rfl) ?_
                    obtain ⟨hv18, h⟩ := h
                    refine va_iald hx hb hR.K hR.P (qO U83 v83_1 7) 1 (hR.atI hT_b16 (by decide)) rfl (k_ix (x := v83_2) (a := v83_2.toInt) rfl hv18) dX8_copyFrom_109 ?_
                    refine lv_topi (fun z19 ez19 => ?_)
                    obtain rfl : z19 = (qI U83 (qO U83 v83_1 7) v83_2.toInt.toNat) := ez19
                    refine lv_aload_n hx hb dX8_copyFrom_110 rfl (lv_at hl 1 rfl) ?_
                    obtain ⟨hv21, h⟩ := h
                    have hT_b20 : qT U83 (qO U83 v83_1 8) = 227 := hR.w.ref hv21 hT_v83_1
                    refine va_get (D := rD g) (ci := 7) (v := .ref (ad (qO U83 v83_1 8))) (C := RX8) (T := TX8) (N := 15) hx hb hts inX8 hown hR.K hR.P v83_1 (hR.at47 hT_v83_1) rfl 8 (by decide) (hts _ kw_1469) (fun _ h9 => h9) (congrArg (fun z => some (vf ad z)) hv21) dX8_copyFrom_111 ?_
                    refine lv_iload_n hx hb dX8_copyFrom_114 rfl (lv_at hl 2 rfl) ?_
                    obtain ⟨hv22, h⟩ := h
                    refine va_iald hx hb hR.K hR.P (qO U83 v83_1 8) 1 (hR.atI hT_b20 (by decide)) rfl (k_ix (x := v83_2) (a := v83_2.toInt) rfl hv22) dX8_copyFrom_115 ?_
                    refine lv_topi (fun z23 ez23 => ?_)
                    obtain rfl : z23 = (qI U83 (qO U83 v83_1 8) v83_2.toInt.toNat) := ez23
                    replace h := h (hT_v83_0)
                    obtain ⟨Q24, h0, h⟩ := h
                    have hFc := cfree hR hA
                    refine va_callv (va_runV (As := [.int (qI U83 (qO U83 v83_1 5) v83_2.toInt.toNat), .int (qI U83 (qO U83 v83_1 6) v83_2.toInt.toNat), .int (qI U83 (qO U83 v83_1 7) v83_2.toInt.toNat), .int (qI U83 (qO U83 v83_1 8) v83_2.toInt.toNat)]) (rest := []) ⟨hx, hb, hml, hown, hts⟩ (rX8_addCatch l g ad H.size U83 v83_0 (qI U83 (qO U83 v83_1 5) v83_2.toInt.toNat) (qI U83 (qO U83 v83_1 6) v83_2.toInt.toNat) (qI U83 (qO U83 v83_1 7) v83_2.toInt.toNat) (qI U83 (qO U83 v83_1 8) v83_2.toInt.toNat) hR.w hT_v83_0 Q24 h0) (cwV 4 hts (gd_V kw_1491 kw_1463 kw_1464 kw_782 kw_1462) rfl rfl rfl (by decide +kernel) ⟨Nat.le_of_ble_eq_true rfl, Nat.le_of_ble_eq_true rfl⟩) ⟨cblind, va_recv hR.K hR.P (ci := 7) (q0 := v83_0) rfl (hR.at47 hT_v83_0), fun U hU hW9 => cmk hU hW9 hR hex hE hFc⟩ rfl rfl hl.1 rfl (lv_room (Nat.le_of_ble_eq_true rfl)) dX8_copyFrom_116 ⟨Nat.le_of_ble_eq_true rfl, Nat.le_of_ble_eq_true rfl⟩) hR.sS (fun q _ h => hFc q h) hFc (fun  S25 t9 H1 locs ht9 hvm9 hw9 hB9 hz9 hk9 hS => ?_)
                    obtain ⟨hq26, hw9, hs9⟩ := hw9
                    have hR : RepC g ad A s S25 H1 locs := hR.call ht9 hB9 hw9 hS hFc
                    have hsh := hsh.tr hs9
                    replace h := h  S25 hq26 hw9 hs9
                    have hT_v83_0 := hs9.T hT_v83_0 (by decide)
                    have hT_v83_1 := hs9.T hT_v83_1 (by decide)
                    clear hB9 hz9 hk9 hvm9 ht9 hw9 hs9 hS
                    generalize H1 = H at hR ⊢
                    obtain ⟨a27, ea27⟩ : ∃ z, z = (v83_2 + Int32.ofInt 1) := ⟨_, rfl⟩
                    replace h := h a27 ea27
                    refine lv_iinc (v := a27) (lv' := [(2, .int a27), (0, .ref (ad v83_0)), (1, .ref (ad v83_1))]) hx hb dX8_copyFrom_119 hl (k := 2) rfl ea27.symm (by decide) rfl (fun ls hl => ?_)
                    refine lv_goto (tgt := 83) hx hb dX8_copyFrom_122 (by decide) ?_
                    exact ih_83 S25 v83_0 v83_1 a27 _ _ ls h hT_v83_0 hT_v83_1 hsh hR (lv_sub hl [1, 2, 0] rfl)
              obtain ⟨n9, h⟩ := h
              exact J_83 n9 S6 v52_0 v52_1 0 _ _ ls h hT_v52_0 hT_v52_1 hsh hR (lv_sub hl [1, 2, 0] rfl)
            · replace h := h.2 (k_nle rfl rfl c5)
              refine lv_aload_n hx hb dX8_copyFrom_60 rfl (lv_at hl 0 rfl) ?_
              refine lv_aload_n hx hb dX8_copyFrom_61 rfl (lv_at hl 1 rfl) ?_
              obtain ⟨hv29, h⟩ := h
              have hT_b28 : qT U52 (qO U52 v52_1 3) = 223 := hR.w.ref hv29 hT_v52_1
              refine va_get (D := rD g) (ci := 7) (v := .ref (ad (qO U52 v52_1 3))) (C := RX8) (T := TX8) (N := 15) hx hb hts inX8 hown hR.K hR.P v52_1 (hR.at47 hT_v52_1) rfl 3 (by decide) (hts _ kw_1474) (fun _ h9 => h9) (congrArg (fun z => some (vf ad z)) hv29) dX8_copyFrom_62 ?_
              refine lv_iload_n hx hb dX8_copyFrom_65 rfl (lv_at hl 2 rfl) ?_
              obtain ⟨hv30, h⟩ := h
              refine va_iald hx hb hR.K hR.P (qO U52 v52_1 3) 1 (hR.atI hT_b28 (by decide)) rfl (k_ix (x := v52_2) (a := v52_2.toInt) rfl hv30) dX8_copyFrom_66 ?_
              refine lv_topi (fun z31 ez31 => ?_)
              obtain rfl : z31 = (qI U52 (qO U52 v52_1 3) v52_2.toInt.toNat) := ez31
              replace h := h (hT_v52_0)
              obtain ⟨Q32, h0, h⟩ := h
              have hFc := cfree hR hA
              refine va_callv (va_runV (As := [.int (qI U52 (qO U52 v52_1 3) v52_2.toInt.toNat)]) (rest := []) ⟨hx, hb, hml, hown, hts⟩ (rX8_addToTable l g ad H.size U52 v52_0 (qI U52 (qO U52 v52_1 3) v52_2.toInt.toNat) hR.w hT_v52_0 Q32 h0) (cwV 1 hts (gd_V kw_1490 kw_1471 kw_1472 kw_782 kw_1470) rfl rfl rfl (by decide +kernel) ⟨Nat.le_of_ble_eq_true rfl, Nat.le_of_ble_eq_true rfl⟩) ⟨cblind, va_recv hR.K hR.P (ci := 7) (q0 := v52_0) rfl (hR.at47 hT_v52_0), fun U hU hW9 => cmk hU hW9 hR hex hE hFc⟩ rfl rfl hl.1 rfl (lv_room (Nat.le_of_ble_eq_true rfl)) dX8_copyFrom_67 ⟨Nat.le_of_ble_eq_true rfl, Nat.le_of_ble_eq_true rfl⟩) hR.sS (fun q _ h => hFc q h) hFc (fun  S33 t9 H1 locs ht9 hvm9 hw9 hB9 hz9 hk9 hS => ?_)
              obtain ⟨hq34, hw9, hs9⟩ := hw9
              have hR : RepC g ad A s S33 H1 locs := hR.call ht9 hB9 hw9 hS hFc
              have hsh := hsh.tr hs9
              replace h := h  S33 hq34 hw9 hs9
              have hT_v52_0 := hs9.T hT_v52_0 (by decide)
              have hT_v52_1 := hs9.T hT_v52_1 (by decide)
              clear hB9 hz9 hk9 hvm9 ht9 hw9 hs9 hS
              generalize H1 = H at hR ⊢
              obtain ⟨a35, ea35⟩ : ∃ z, z = (v52_2 + Int32.ofInt 1) := ⟨_, rfl⟩
              replace h := h a35 ea35
              refine lv_iinc (v := a35) (lv' := [(2, .int a35), (0, .ref (ad v52_0)), (1, .ref (ad v52_1))]) hx hb dX8_copyFrom_70 hl (k := 2) rfl ea35.symm (by decide) rfl (fun ls hl => ?_)
              refine lv_goto (tgt := 52) hx hb dX8_copyFrom_73 (by decide) ?_
              exact ih_52 S33 v52_0 v52_1 a35 _ _ ls h hT_v52_0 hT_v52_1 hsh hR (lv_sub hl [1, 2, 0] rfl)
        obtain ⟨n9, h⟩ := h
        exact J_52 n9 S4 v15_0 v15_1 0 _ _ ls h hT_v15_0 hT_v15_1 hsh hR (lv_sub hl [1, 2, 0] rfl)
      · replace h := h.2 (k_nle rfl rfl c3)
        refine lv_aload_n hx hb dX8_copyFrom_23 rfl (lv_at hl 0 rfl) ?_
        refine lv_aload_n hx hb dX8_copyFrom_24 rfl (lv_at hl 1 rfl) ?_
        obtain ⟨hv37, h⟩ := h
        have hT_b36 : qT U15 (qO U15 v15_1 0) = 222 := hR.w.ref hv37 hT_v15_1
        refine va_get (D := rD g) (ci := 7) (v := .ref (ad (qO U15 v15_1 0))) (C := RX8) (T := TX8) (N := 15) hx hb hts inX8 hown hR.K hR.P v15_1 (hR.at47 hT_v15_1) rfl 0 (by decide) (hts _ kw_1460) (fun _ h9 => h9) (congrArg (fun z => some (vf ad z)) hv37) dX8_copyFrom_25 ?_
        refine lv_iload_n hx hb dX8_copyFrom_28 rfl (lv_at hl 2 rfl) ?_
        obtain ⟨hv38, h⟩ := h
        refine va_iald hx hb hR.K hR.P (qO U15 v15_1 0) 1 (hR.atI hT_b36 (by decide)) rfl (k_ix (x := v15_2) (a := v15_2.toInt) rfl hv38) dX8_copyFrom_29 ?_
        refine lv_topi (fun z39 ez39 => ?_)
        obtain rfl : z39 = (qI U15 (qO U15 v15_1 0) v15_2.toInt.toNat) := ez39
        refine lv_aload_n hx hb dX8_copyFrom_30 rfl (lv_at hl 1 rfl) ?_
        obtain ⟨hv41, h⟩ := h
        have hT_b40 : qT U15 (qO U15 v15_1 1) = 406 := hR.w.ref hv41 hT_v15_1
        refine va_get (D := rD g) (ci := 7) (v := .ref (ad (qO U15 v15_1 1))) (C := RX8) (T := TX8) (N := 15) hx hb hts inX8 hown hR.K hR.P v15_1 (hR.at47 hT_v15_1) rfl 1 (by decide) (hts _ kw_1478) (fun _ h9 => h9) (congrArg (fun z => some (vf ad z)) hv41) dX8_copyFrom_31 ?_
        refine lv_iload_n hx hb dX8_copyFrom_34 rfl (lv_at hl 2 rfl) ?_
        obtain ⟨hv42, h⟩ := h
        refine va_lald hx hb hR.K hR.P (qO U15 v15_1 1) 3 (hR.atL hT_b40 (by decide)) rfl (k_ix (x := v15_2) (a := v15_2.toInt) rfl hv42) dX8_copyFrom_35 ?_
        refine lv_topl (fun z43 ez43 => ?_)
        obtain rfl : z43 = (qJ U15 (qO U15 v15_1 1) v15_2.toInt.toNat) := ez43
        replace h := h (hT_v15_0)
        obtain ⟨Q44, h0, h⟩ := h
        have hFc := cfree hR hA
        refine va_callv (va_runV (As := [.int (qI U15 (qO U15 v15_1 0) v15_2.toInt.toNat), .long (qJ U15 (qO U15 v15_1 1) v15_2.toInt.toNat)]) (rest := []) ⟨hx, hb, hml, hown, hts⟩ (rX8_add l g ad H.size U15 v15_0 (qI U15 (qO U15 v15_1 0) v15_2.toInt.toNat) (qJ U15 (qO U15 v15_1 1) v15_2.toInt.toNat) hR.w hT_v15_0 Q44 h0) (cwV 2 hts (gd_V kw_1489 kw_1457 kw_1458 kw_782 kw_1456) rfl rfl rfl (by decide +kernel) ⟨Nat.le_of_ble_eq_true rfl, Nat.le_of_ble_eq_true rfl⟩) ⟨cblind, va_recv hR.K hR.P (ci := 7) (q0 := v15_0) rfl (hR.at47 hT_v15_0), fun U hU hW9 => cmk hU hW9 hR hex hE hFc⟩ rfl rfl hl.1 rfl (lv_room (Nat.le_of_ble_eq_true rfl)) dX8_copyFrom_36 ⟨Nat.le_of_ble_eq_true rfl, Nat.le_of_ble_eq_true rfl⟩) hR.sS (fun q _ h => hFc q h) hFc (fun  S45 t9 H1 locs ht9 hvm9 hw9 hB9 hz9 hk9 hS => ?_)
        obtain ⟨hq46, hw9, hs9⟩ := hw9
        have hR : RepC g ad A s S45 H1 locs := hR.call ht9 hB9 hw9 hS hFc
        have hsh := hsh.tr hs9
        replace h := h  S45 hq46 hw9 hs9
        have hT_v15_0 := hs9.T hT_v15_0 (by decide)
        have hT_v15_1 := hs9.T hT_v15_1 (by decide)
        clear hB9 hz9 hk9 hvm9 ht9 hw9 hs9 hS
        generalize H1 = H at hR ⊢
        obtain ⟨a47, ea47⟩ : ∃ z, z = (v15_2 + Int32.ofInt 1) := ⟨_, rfl⟩
        replace h := h a47 ea47
        refine lv_iinc (v := a47) (lv' := [(2, .int a47), (0, .ref (ad v15_0)), (1, .ref (ad v15_1))]) hx hb dX8_copyFrom_39 hl (k := 2) rfl ea47.symm (by decide) rfl (fun ls hl => ?_)
        refine lv_goto (tgt := 15) hx hb dX8_copyFrom_42 (by decide) ?_
        exact ih_15 S45 v15_0 v15_1 a47 _ _ ls h hT_v15_0 hT_v15_1 hsh hR (lv_sub hl [1, 2, 0] rfl)
  obtain ⟨n9, h⟩ := h
  exact J_15 n9 S2 p0 p1 0 _ _ ls h hT_p0 hT_p1 hsh hR (lv_sub hl [1, 2, 0] rfl)
def fX8_behindRemoved (S : MS) (x0 : Int32) (x1 : Int32) (x2 : Int32) : Int32 := (if x1.toInt < x0.toInt then (if x1 < (x0 - x2) then (x0 - x2) else x1) else x0)
def d_X8_behindRemoved (S : MS) (x0 : Int32) (x1 : Int32) (x2 : Int32) : Prop := True
set_option maxHeartbeats 2000000 in
set_option maxRecDepth 100000 in
theorem rX8_behindRemoved (l : Launch) (g : Gr) (ad : Nat → Nat) (sz : Nat) (S : MS) (x0 : Int32) (x1 : Int32) (x2 : Int32) (hw : wfC S) (hd : d_X8_behindRemoved S x0 x1 x2) : Met l yX8_behindRemoved (wt yX8_behindRemoved cX8_behindRemoved 3 (some .int)) ({ frames := 1, cells := 0, slots := 0, locals := 13 }) (va_Pc [.int x0, .int x1, .int x2] (st_C g ad sz S)) (va_Qi (fun (r : Int32) (_ : Unit) => r = fX8_behindRemoved S x0 x1 x2) (fun (_ : Unit) (t : State) => qEC g ad (va_A (WdC g ad S) sz) S t) (va_A (WdC g ad S) sz)) 0 0 (va_A (WdC g ad S) sz) := by
  refine Met.ofW (cc := cX8_behindRemoved) (maxL := 3) (ret := (some .int)) (by decide) rfl ?_
  intro p e s m args below meth c s₁ B hml hv
  obtain ⟨rfl, hsz, hP, hK, hD0, hex, hE⟩ := hv
  have hx := B.exec
  have hb := B.bytes
  have hr := B.returns
  have hts0 := atoms_spec (ws := wt yX8_behindRemoved cX8_behindRemoved 3 (some .int)) B.pre
  have hts : ∀ w ∈ tb, w.before _ s = true := fun w h => hts0 w (List.mem_cons_of_mem _ h)
  have hown : s.vm.findClass RX8 = some m.cls := findClass_of_methodNamed B.named
  subst hsz
  have hD := hD0.self (sz := s.heap.size)
  generalize hAe : va_A (WdC g ad S) s.heap.size = A at hD hE ⊢
  have hA : ∀ q : Nat, s.heap.size ≤ q → A q := fun q h => by rw [← hAe]; exact Or.inr h
  have hR : RepC g ad A s S s.heap [] := ⟨hK, hP, hD, va_S.rf, hw⟩
  clear hK hP hD hD0
  have hl := lv_entry ([.int x0, .int x1, .int x2]) (n := 3) (Nat.le_of_ble_eq_true rfl)
  rw [lg_entry_eq]
  generalize (lg_sl ([.int x0, .int x1, .int x2]) ++ List.replicate (3 - (lg_sl ([.int x0, .int x1, .int x2])).length) Slot.unset).toArray = ls at hl ⊢
  have hl : lv_has ls 3 [(0, .int x0), (1, .int x1), (2, .int x2)] := hl
  obtain ⟨r0, hf⟩ : ∃ r0, fX8_behindRemoved S x0 x1 x2 = r0 := ⟨_, rfl⟩
  have hf0 := hf
  unfold fX8_behindRemoved at hf
  unfold d_X8_behindRemoved at hd
  refine lv_iload_n hx hb dX8_behindRemoved_0 rfl (lv_at hl 0 rfl) ?_
  refine lv_iload_n hx hb dX8_behindRemoved_1 rfl (lv_at hl 1 rfl) ?_
  refine lv_icmp_gt (tgt := 9) hx hb dX8_behindRemoved_2 (by decide) (fun c1 => ?_) (fun c1 => ?_)
  · rw [if_pos (k_lt rfl rfl c1)] at hf
    (try rw [if_pos (k_lt rfl rfl c1)] at hd)
    refine lv_iload_n hx hb dX8_behindRemoved_9 rfl (lv_at hl 1 rfl) ?_
    refine lv_iload_n hx hb dX8_behindRemoved_10 rfl (lv_at hl 0 rfl) ?_
    refine lv_iload_n hx hb dX8_behindRemoved_11 rfl (lv_at hl 2 rfl) ?_
    refine lv_isub hx hb dX8_behindRemoved_12 ?_
    refine lv_topi (fun z2 ez2 => ?_)
    obtain rfl : z2 = (x0 - x2) := ez2
    refine va_mmax hx hb (by rw [hml]; exact hl.1.symm) hown (hts _ kw_1481) (hts _ kw_1747) (hts _ kw_1748) (hts _ kw_1746) (Nat.le_of_ble_eq_true rfl) (Nat.le_of_ble_eq_true rfl) (Nat.le_of_ble_eq_true rfl) (Nat.le_of_ble_eq_true rfl) dX8_behindRemoved_13 ?_
    refine lv_topi (fun z3 ez3 => ?_)
    obtain rfl : z3 = (if x1 < (x0 - x2) then (x0 - x2) else x1) := ez3
    exact W.iret (v := (if x1 < (x0 - x2) then (x0 - x2) else x1)) hx hb hr (fun t9 ht9 hW9 => ⟨⟨_, (), rfl, hf.trans hf0.symm, ⟨by rw [ht9]; exact hR.P, hR.D⟩⟩, hR.sS.F ht9⟩) hR.sS.2.2 dX8_behindRemoved_16
  · rw [if_neg (k_nlt rfl rfl c1)] at hf
    (try rw [if_neg (k_nlt rfl rfl c1)] at hd)
    refine lv_iload_n hx hb dX8_behindRemoved_5 rfl (lv_at hl 0 rfl) ?_
    refine lv_goto (tgt := 16) hx hb dX8_behindRemoved_6 (by decide) ?_
    exact W.iret (v := x0) hx hb hr (fun t9 ht9 hW9 => ⟨⟨_, (), rfl, hf.trans hf0.symm, ⟨by rw [ht9]; exact hR.P, hR.D⟩⟩, hR.sS.F ht9⟩) hR.sS.2.2 dX8_behindRemoved_16
def wX9_forgetApplied (S : MS) (Q : MS → Prop) : Prop := (qT S 75 = 228 → (∃ Q1, wJ7_fill_53178 S 75 (0 : Int32) Q1 ∧ ∀ S2, Q1 S2 → wfC S2 → shy S S2 → Q S2))
set_option maxHeartbeats 2000000 in
set_option maxRecDepth 100000 in
theorem rX9_forgetApplied (l : Launch) (g : Gr) (ad : Nat → Nat) (sz : Nat) (S : MS) (hw : wfC S) (Q : MS → Prop) (h : wX9_forgetApplied S Q) : Met l yX9_forgetApplied (wt yX9_forgetApplied cX9_forgetApplied 1 none) ({ frames := 1, cells := 0, slots := 0, locals := 23 }) (va_Pc [.ref (ad 66)] (st_C g ad sz S)) (va_Qv (fun (u : MS) => Q u ∧ wfC u ∧ shy S u) (fun (u : MS) (t : State) => qEC g ad (va_A (WdC g ad S) sz) u t) (va_A (WdC g ad S) sz)) 0 0 (va_A (WdC g ad S) sz) := by
  refine Met.ofW (cc := cX9_forgetApplied) (maxL := 1) (ret := none) (by decide) rfl ?_
  intro p e s m args below meth c s₁ B hml hv
  obtain ⟨rfl, hsz, hP, hK, hD0, hex, hE⟩ := hv
  have hx := B.exec
  have hb := B.bytes
  have hr := B.returns
  have hts0 := atoms_spec (ws := wt yX9_forgetApplied cX9_forgetApplied 1 none) B.pre
  have hts : ∀ w ∈ tb, w.before _ s = true := fun w h => hts0 w (List.mem_cons_of_mem _ h)
  have hown : s.vm.findClass RX9 = some m.cls := findClass_of_methodNamed B.named
  subst hsz
  have hD := hD0.self (sz := s.heap.size)
  generalize hAe : va_A (WdC g ad S) s.heap.size = A at hD hE ⊢
  have hA : ∀ q : Nat, s.heap.size ≤ q → A q := fun q h => by rw [← hAe]; exact Or.inr h
  have hR : RepC g ad A s S s.heap [] := ⟨hK, hP, hD, va_S.rf, hw⟩
  clear hK hP hD hD0
  have hl := lv_entry ([.ref (ad 66)]) (n := 1) (Nat.le_of_ble_eq_true rfl)
  rw [lg_entry_eq]
  generalize (lg_sl ([.ref (ad 66)]) ++ List.replicate (1 - (lg_sl ([.ref (ad 66)])).length) Slot.unset).toArray = ls at hl ⊢
  have hl : lv_has ls 1 [(0, .ref (ad 66))] := hl
  have hsh : shy S S := shy.rf
  unfold wX9_forgetApplied at h
  refine lv_aload_n hx hb dX9_forgetApplied_0 rfl (lv_at hl 0 rfl) ?_
  refine va_get (D := rD g) (ci := 8) (v := .ref (ad 75)) (C := RX9) (T := TX9) (N := 6) hx hb hts inX9 hown hR.K hR.P 66 (hR.at48 (hR.w.2.1 _ finC_31).2.1) rfl 1 (by decide) (hts _ kw_1547) (fun _ h9 => h9) (congrArg (fun z => some (vf ad z)) (hR.w.2.1 _ finC_11).1) dX9_forgetApplied_1 ?_
  refine lv_iconst (v := 0) hx hb dX9_forgetApplied_4 (by decide) ?_
  replace h := h ((hR.w.2.1 _ finC_11).2.1)
  obtain ⟨Q1, h0, h⟩ := h
  have hFc := cfree hR hA
  refine va_callv (va_runS (As := [.ref (ad 75), .int 0]) (rest := []) ⟨hx, hb, hml, hown, hts⟩ (rJ7_fill_53178 l g ad s.heap.size S 75 (0 : Int32) hR.w (by decide) (hR.w.2.1 _ finC_11).2.1 Q1 h0) (va_cwS 2 hts (gd_S kw_1560 kw_1722 kw_1723 kw_1721) rfl rfl rfl (by decide +kernel) ⟨Nat.le_of_ble_eq_true rfl, Nat.le_of_ble_eq_true rfl⟩) ⟨cblind, fun U hU hW9 => cmk hU hW9 hR hex hE hFc⟩ rfl rfl hl.1 rfl (lv_room (Nat.le_of_ble_eq_true rfl)) dX9_forgetApplied_5 ⟨Nat.le_of_ble_eq_true rfl, Nat.le_of_ble_eq_true rfl⟩) hR.sS (fun q _ h => hFc q h) hFc (fun  S2 t9 H1 locs ht9 hvm9 hw9 hB9 hz9 hk9 hS => ?_)
  obtain ⟨hq3, hw9, hs9⟩ := hw9
  have hR : RepC g ad A s S2 H1 locs := hR.call ht9 hB9 hw9 hS hFc
  have hsh := hsh.tr hs9
  replace h := h  S2 hq3 hw9 hs9
  clear hB9 hz9 hk9 hvm9 ht9 hw9 hs9 hS
  generalize H1 = H at hR ⊢
  exact W.vret hx hb hr (fun t9 ht9 hW9 => ⟨⟨S2, rfl, ⟨h, hR.w, hsh⟩, ⟨by rw [ht9]; exact hR.P, hR.D⟩⟩, hR.sS.F ht9⟩) hR.sS.2.2 dX9_forgetApplied_8
def f_X9_appliedAt_J13 (S : MS) : Int32 := (0 : Int32)
def d_X9_appliedAt_J13 (S : MS) : Prop := True
def fX9_appliedAt (S : MS) (x1 : Int32) : Int32 := (if x1.toInt < 0 then f_X9_appliedAt_J13 S else (if x1.toInt < 12 then (qI S 75 x1.toInt.toNat) else f_X9_appliedAt_J13 S))
def d_X9_appliedAt (S : MS) (x1 : Int32) : Prop := (if x1.toInt < 0 then d_X9_appliedAt_J13 S else (if x1.toInt < 12 then (((0 : Int) ≤ x1.toInt ∧ x1.toInt < 12) ∧ True) else d_X9_appliedAt_J13 S))
set_option maxHeartbeats 2000000 in
set_option maxRecDepth 100000 in
theorem rX9_appliedAt (l : Launch) (g : Gr) (ad : Nat → Nat) (sz : Nat) (S : MS) (x1 : Int32) (hw : wfC S) (hd : d_X9_appliedAt S x1) : Met l yX9_appliedAt (wt yX9_appliedAt cX9_appliedAt 2 (some .int)) ({ frames := 0, cells := 0, slots := 0, locals := 0 }) (va_Pc [.ref (ad 66), .int x1] (st_C g ad sz S)) (va_Qi (fun (r : Int32) (_ : Unit) => r = fX9_appliedAt S x1) (fun (_ : Unit) (t : State) => qEC g ad (va_A (WdC g ad S) sz) S t) (va_A (WdC g ad S) sz)) 0 0 (va_A (WdC g ad S) sz) := by
  refine Met.ofW (cc := cX9_appliedAt) (maxL := 2) (ret := (some .int)) (by decide) rfl ?_
  intro p e s m args below meth c s₁ B hml hv
  obtain ⟨rfl, hsz, hP, hK, hD0, hex, hE⟩ := hv
  have hx := B.exec
  have hb := B.bytes
  have hr := B.returns
  have hts0 := atoms_spec (ws := wt yX9_appliedAt cX9_appliedAt 2 (some .int)) B.pre
  have hts : ∀ w ∈ tb, w.before _ s = true := fun w h => hts0 w (List.mem_cons_of_mem _ h)
  have hown : s.vm.findClass RX9 = some m.cls := findClass_of_methodNamed B.named
  subst hsz
  have hD := hD0.self (sz := s.heap.size)
  generalize hAe : va_A (WdC g ad S) s.heap.size = A at hD hE ⊢
  have hA : ∀ q : Nat, s.heap.size ≤ q → A q := fun q h => by rw [← hAe]; exact Or.inr h
  have hR : RepC g ad A s S s.heap [] := ⟨hK, hP, hD, va_S.rf, hw⟩
  clear hK hP hD hD0
  have hl := lv_entry ([.ref (ad 66), .int x1]) (n := 2) (Nat.le_of_ble_eq_true rfl)
  rw [lg_entry_eq]
  generalize (lg_sl ([.ref (ad 66), .int x1]) ++ List.replicate (2 - (lg_sl ([.ref (ad 66), .int x1])).length) Slot.unset).toArray = ls at hl ⊢
  have hl : lv_has ls 2 [(0, .ref (ad 66)), (1, .int x1)] := hl
  obtain ⟨r0, hf⟩ : ∃ r0, fX9_appliedAt S x1 = r0 := ⟨_, rfl⟩
  have hf0 := hf
  unfold fX9_appliedAt at hf
  unfold d_X9_appliedAt at hd
  refine lv_iload_n hx hb dX9_appliedAt_0 rfl (lv_at hl 1 rfl) ?_
  have J_13 : ∀ (H : Heap) (locs : List Loc) (ls : Array Slot), d_X9_appliedAt_J13 S → f_X9_appliedAt_J13 S = r0 → RepC g ad A s S H locs → lv_has ls 2 [] → W p l e (headSpec (wt yX9_appliedAt cX9_appliedAt 2 (some .int)) ({ frames := 0, cells := 0, slots := 0, locals := 0 })).room s m ([.ref (ad 66), .int x1] : List Value).toArray below meth c H locs 0 0 (MQ below (va_Qi (fun (r : Int32) (_ : Unit) => r = fX9_appliedAt S x1) (fun (_ : Unit) (t : State) => qEC g ad A S t) A) ([.ref (ad 66), .int x1] : List Value).toArray s 0 0 A) (F0 m 13 ls []) := by
    intro H locs ls hd hf hR hl
    unfold d_X9_appliedAt_J13 at hd
    unfold f_X9_appliedAt_J13 at hf
    refine lv_iconst (v := 0) hx hb dX9_appliedAt_13 (by decide) ?_
    refine lv_goto (tgt := 23) hx hb dX9_appliedAt_14 (by decide) ?_
    exact W.iret (v := 0) hx hb hr (fun t9 ht9 hW9 => ⟨⟨_, (), rfl, hf.trans hf0.symm, ⟨by rw [ht9]; exact hR.P, hR.D⟩⟩, hR.sS.F ht9⟩) hR.sS.2.2 dX9_appliedAt_23
  refine lv_if_lt (tgt := 13) hx hb dX9_appliedAt_1 (by decide) (fun c1 => ?_) (fun c1 => ?_)
  · rw [if_pos (k_lt rfl (by decide) c1)] at hf
    (try rw [if_pos (k_lt rfl (by decide) c1)] at hd)
    exact J_13 _ _ ls hd hf  hR (lv_sub hl [] rfl)
  · rw [if_neg (k_nlt rfl (by decide) c1)] at hf
    (try rw [if_neg (k_nlt rfl (by decide) c1)] at hd)
    refine lv_iload_n hx hb dX9_appliedAt_4 rfl (lv_at hl 1 rfl) ?_
    refine lv_aload_n hx hb dX9_appliedAt_5 rfl (lv_at hl 0 rfl) ?_
    refine va_get (D := rD g) (ci := 8) (v := .ref (ad 75)) (C := RX9) (T := TX9) (N := 6) hx hb hts inX9 hown hR.K hR.P 66 (hR.at48 (hR.w.2.1 _ finC_31).2.1) rfl 1 (by decide) (hts _ kw_1547) (fun _ h9 => h9) (congrArg (fun z => some (vf ad z)) (hR.w.2.1 _ finC_11).1) dX9_appliedAt_6 ?_
    refine va_alen (v := 12) hx hb hR.K hR.P 75 1 (hR.atI (hR.w.2.1 _ finC_11).2.1 (by decide)) rfl (by rw [(hR.w.2.1 _ finC_11).2.2]; rfl) dX9_appliedAt_9 ?_
    refine lv_icmp_lt (tgt := 17) hx hb dX9_appliedAt_10 (by decide) (fun c2 => ?_) (fun c2 => ?_)
    · rw [if_pos (k_lt rfl (by decide) c2)] at hf
      (try rw [if_pos (k_lt rfl (by decide) c2)] at hd)
      refine lv_aload_n hx hb dX9_appliedAt_17 rfl (lv_at hl 0 rfl) ?_
      refine va_get (D := rD g) (ci := 8) (v := .ref (ad 75)) (C := RX9) (T := TX9) (N := 6) hx hb hts inX9 hown hR.K hR.P 66 (hR.at48 (hR.w.2.1 _ finC_31).2.1) rfl 1 (by decide) (hts _ kw_1547) (fun _ h9 => h9) (congrArg (fun z => some (vf ad z)) (hR.w.2.1 _ finC_11).1) dX9_appliedAt_18 ?_
      refine lv_iload_n hx hb dX9_appliedAt_21 rfl (lv_at hl 1 rfl) ?_
      obtain ⟨hv3, hd⟩ := hd
      refine va_iald hx hb hR.K hR.P 75 1 (hR.atI (hR.w.2.1 _ finC_11).2.1 (by decide)) rfl (k_ixN (k_ix (n := 12) (x := x1) (a := x1.toInt) rfl hv3) (hR.w.2.1 _ finC_11).2.2) dX9_appliedAt_22 ?_
      refine lv_topi (fun z4 ez4 => ?_)
      obtain rfl : z4 = (qI S 75 x1.toInt.toNat) := ez4
      exact W.iret (v := (qI S 75 x1.toInt.toNat)) hx hb hr (fun t9 ht9 hW9 => ⟨⟨_, (), rfl, hf.trans hf0.symm, ⟨by rw [ht9]; exact hR.P, hR.D⟩⟩, hR.sS.F ht9⟩) hR.sS.2.2 dX9_appliedAt_23
    · rw [if_neg (k_nlt rfl (by decide) c2)] at hf
      (try rw [if_neg (k_nlt rfl (by decide) c2)] at hd)
      exact J_13 _ _ ls hd hf  hR (lv_sub hl [] rfl)
def w_X9_makeRoom_J69 (Q : MS → Prop) (U69 : MS) (v69_1 : Nat) : Prop := (wfC U69 → qT U69 v69_1 = 47 → (∀ S6, S6 = wI U69 (qO U69 66 0) 11 (qI U69 v69_1 11) → qT U69 (qO U69 66 0) = 47 → wfC S6 → Q S6))
def wX9_makeRoom (S : MS) (p1 : Nat) (Q : MS → Prop) : Prop := ((qR S (qO S 66 0) 0 = some (qO S (qO S 66 0) 0)) ∧ ((1296 ≤ (qN S (qO S (qO S 66 0) 0) : Int) → w_X9_makeRoom_J69 Q S p1) ∧ (¬ 1296 ≤ (qN S (qO S (qO S 66 0) 0) : Int) → ((qn S + 1 ≤ KCC ∧ qu S + 15 ≤ KSC) ∧ (∀ S11, S11 = wN S 47 0 15 → wfC S11 → (qT S11 (qn S) = 47 → (∃ Q13, wX8_init S11 (qn S) (1296 : Int32) (1200 : Int32) (16 : Int32) Q13 ∧ ∀ S14, Q13 S14 → wfC S14 → shx S11 S14 → (∀ S17, S17 = wR S14 66 0 (some (qn S)) → qT S14 66 = 48 → wfC S17 → (((qn S17 + 1 ≤ KCC ∧ qu S17 + 1297 ≤ KSC)) ∧ (∀ S21, S21 = wN S17 305 1297 1297 → wfC S21 → (∀ S23, S23 = wR S21 66 2 (some (qn S17)) → qT S21 66 = 48 → wfC S23 → (((qn S23 + 1 ≤ KCC ∧ qu S23 + 1297 ≤ KSC)) ∧ (∀ S27, S27 = wN S23 306 1297 1297 → wfC S27 → (∀ S29, S29 = wR S27 66 3 (some (qn S23)) → qT S27 66 = 48 → wfC S29 → (((qn S29 + 1 ≤ KCC ∧ qu S29 + 1297 ≤ KSC)) ∧ (∀ S33, S33 = wN S29 229 1297 1297 → wfC S33 → (∀ S35, S35 = wR S33 66 4 (some (qn S29)) → qT S33 66 = 48 → wfC S35 → (((qn S35 + 1 ≤ KCC ∧ qu S35 + 1297 ≤ KSC)) ∧ (∀ S39, S39 = wN S35 230 1297 1297 → wfC S39 → (∀ S41, S41 = wR S39 66 5 (some (qn S35)) → qT S39 66 = 48 → wfC S41 → w_X9_makeRoom_J69 Q S41 p1))))))))))))))))))))
set_option maxHeartbeats 2000000 in
set_option maxRecDepth 100000 in
theorem rX9_makeRoom (l : Launch) (g : Gr) (ad : Nat → Nat) (H0 : Heap) (S : MS) (p1 : Nat) (hw : wfC S) (hT_p1 : qT S p1 = 47) (Q : MS → Prop) (h : wX9_makeRoom S p1 Q) : Met l yX9_makeRoom (wt yX9_makeRoom cX9_makeRoom 2 none) ({ frames := 2, cells := KCC - qn S, slots := KSC - qu S, locals := 35 }) (va_Pc [.ref (ad 66), .ref (ad p1)] (st_CH g ad H0 S)) (va_Qv (fun (u : MS × (Nat → Nat)) => Q u.1 ∧ wfC u.1 ∧ shx S u.1 ∧ adk ad u.2 S) (fun (u : MS × (Nat → Nat)) (t : State) => qEHC g (va_A (WdC g ad S) H0.size) S H0 u t) (va_A (WdC g ad S) H0.size)) (KCC - qn S) (KSC - qu S) (va_A (WdC g ad S) H0.size) := by
  refine Met.ofW (cc := cX9_makeRoom) (maxL := 2) (ret := none) (by decide) rfl ?_
  intro p e s m args below meth c s₁ B hml hv
  obtain ⟨rfl, hH0, hsz, hP, hK, hD0, hex, hE⟩ := hv
  have hx := B.exec
  have hb := B.bytes
  have hr := B.returns
  have hts0 := atoms_spec (ws := wt yX9_makeRoom cX9_makeRoom 2 none) B.pre
  have hts : ∀ w ∈ tb, w.before _ s = true := fun w h => hts0 w (List.mem_cons_of_mem _ h)
  have hown : s.vm.findClass RX9 = some m.cls := findClass_of_methodNamed B.named
  subst hH0
  have hD := hD0.self (sz := s.heap.size)
  generalize hAe : va_A (WdC g ad S) s.heap.size = A at hD hE ⊢
  have hA : ∀ q : Nat, s.heap.size ≤ q → A q := fun q h => by rw [← hAe]; exact Or.inr h
  have hR : RepC g ad A s S s.heap [] := ⟨hK, hP, hD, va_S.rf, hw⟩
  clear hK hP hD hD0
  have hl := lv_entry ([.ref (ad 66), .ref (ad p1)]) (n := 2) (Nat.le_of_ble_eq_true rfl)
  rw [lg_entry_eq]
  generalize (lg_sl ([.ref (ad 66), .ref (ad p1)]) ++ List.replicate (2 - (lg_sl ([.ref (ad 66), .ref (ad p1)])).length) Slot.unset).toArray = ls at hl ⊢
  have hlg : lgC S S 0 0 := lgC.rf
  have hak : adk ad ad S := adk.rf
  have hl : lv_has ls 2 [(0, .ref (ad 66)), (1, .ref (ad p1))] := hl
  have hsh : shx S S := shx.rf
  unfold wX9_makeRoom at h
  refine lv_aload_n hx hb dX9_makeRoom_0 rfl (lv_at hl 0 rfl) ?_
  have hT_b1 : qT S (qO S 66 0) = 47 := hR.w.ref (hR.w.ptr ptrC_39) (hR.w.2.1 _ finC_31).2.1
  refine va_get (D := rD g) (ci := 8) (v := .ref (ad (qO S 66 0))) (C := RX9) (T := TX9) (N := 6) hx hb hts inX9 hown hR.K hR.P 66 (hR.at48 (hR.w.2.1 _ finC_31).2.1) rfl 0 (by decide) (hts _ kw_1552) (fun _ h9 => h9) (congrArg (fun z => some (vf ad z)) (hR.w.ptr ptrC_39)) dX9_makeRoom_1 ?_
  obtain ⟨hv3, h⟩ := h
  have hT_b2 : qT S (qO S (qO S 66 0) 0) = 222 := hR.w.ref hv3 hT_b1
  refine va_get (D := rD g) (ci := 7) (v := .ref (ad (qO S (qO S 66 0) 0))) (C := RX8) (T := TX8) (N := 15) hx hb hts inX8 hown hR.K hR.P (qO S 66 0) (hR.at47 hT_b1) rfl 0 (by decide) (hts _ kw_1687) (fun _ h9 => h9) (congrArg (fun z => some (vf ad z)) hv3) dX9_makeRoom_4 ?_
  refine va_alen (v := (Int32.ofNat (qN S (qO S (qO S 66 0) 0)))) hx hb hR.K hR.P (qO S (qO S 66 0) 0) 1 (hR.atI hT_b2 (by decide)) rfl rfl dX9_makeRoom_7 ?_
  have hln4 : (Int32.ofNat (qN S (qO S (qO S 66 0) 0))).toInt = (qN S (qO S (qO S 66 0) 0) : Int) := toI_len (hR.w.len9 (hT_b2) (by decide))
  refine lv_sipush (v := 1296) hx hb dX9_makeRoom_8 (by decide) ?_
  have J_69 : ∀ (ad69 : Nat → Nat) (dc69 ds69 : Nat) (U69 : MS) (v69_1 : Nat) (H : Heap) (locs : List Loc) (ls : Array Slot), w_X9_makeRoom_J69 Q U69 v69_1 → qT U69 v69_1 = 47 → shx S U69 → lgC S U69 dc69 ds69 → adk ad ad69 S → ogC ad69 A s s.heap → RepC g ad69 A s U69 H locs → lv_has ls 2 [(0, .ref (ad69 66)), (1, .ref (ad69 v69_1))] → W p l e (headSpec (wt yX9_makeRoom cX9_makeRoom 2 none) ({ frames := 2, cells := KCC - qn S, slots := KSC - qu S, locals := 35 })).room s m ([.ref (ad 66), .ref (ad p1)] : List Value).toArray below meth c H locs dc69 ds69 (MQ below (va_Qv (fun (u : MS × (Nat → Nat)) => Q u.1 ∧ wfC u.1 ∧ shx S u.1 ∧ adk ad u.2 S) (fun (u : MS × (Nat → Nat)) (t : State) => qEHC g A S s.heap u t) A) ([.ref (ad 66), .ref (ad p1)] : List Value).toArray s (KCC - qn S) (KSC - qu S) A) (F0 m 69 ls []) := by
    intro ad69 dc69 ds69 U69 v69_1 H locs ls h hT_v69_1 hsh hlg hak hE hR hl
    unfold w_X9_makeRoom_J69 at h
    replace h := h hR.w hT_v69_1
    refine lv_aload_n hx hb dX9_makeRoom_69 rfl (lv_at hl 0 rfl) ?_
    have hT_b5 : qT U69 (qO U69 66 0) = 47 := hR.w.ref (hR.w.ptr ptrC_39) (hR.w.2.1 _ finC_31).2.1
    refine va_get (D := rD g) (ci := 8) (v := .ref (ad69 (qO U69 66 0))) (C := RX9) (T := TX9) (N := 6) hx hb hts inX9 hown hR.K hR.P 66 (hR.at48 (hR.w.2.1 _ finC_31).2.1) rfl 0 (by decide) (hts _ kw_1552) (fun _ h9 => h9) (congrArg (fun z => some (vf ad69 z)) (hR.w.ptr ptrC_39)) dX9_makeRoom_70 ?_
    refine lv_aload_n hx hb dX9_makeRoom_73 rfl (lv_at hl 1 rfl) ?_
    refine va_get (D := rD g) (ci := 7) (v := .int (qI U69 v69_1 11)) (C := RX8) (T := TX8) (N := 15) hx hb hts inX8 hown hR.K hR.P v69_1 (hR.at47 hT_v69_1) rfl 11 (by decide) (hts _ kw_1688) (fun _ h9 => h9) rfl dX9_makeRoom_74 ?_
    refine va_put (D := rD g) (ci := 7) (v := .int (qI U69 v69_1 11)) (ty := .int) (C := RX8) (T := TX8) (N := 15) hx hb hts inX8 tyX8 tyX8_ok nmX8 hown hR.K hR.P hR.D hR.sS (qO U69 66 0) (hR.at47 hT_b5) rfl 11 (by decide) (hts _ kw_1688) (fun _ h9 => h9) rfl (by decide +kernel) rfl rfl (Nat.le_of_ble_eq_true rfl) dX9_makeRoom_77 (fun H locs hP hD hS => ?_)
    have hTk9 : qT U69 (qO U69 66 0) = 47 := hT_b5
    have hR : RepC g ad69 A s (wI U69 (qO U69 66 0) 11 (qI U69 v69_1 11)) H locs := hR.pI47 hT_b5 FX8_s11 (fun q9 => absurd q9 (by decide)) hP hD hS
    obtain ⟨S6, eS6⟩ : ∃ z, z = wI U69 (qO U69 66 0) 11 (qI U69 v69_1 11) := ⟨_, rfl⟩
    rw [← eS6] at hR
    replace h := h S6 eS6 hTk9 hR.w
    have hT_v69_1 : qT S6 v69_1 = 47 := (congrArg (fun z => qT z v69_1) eS6).trans hT_v69_1
    have hsh : shx S S6 := by rw [eS6]; exact hsh
    have hlg : lgC S S6 (dc69) (ds69) := by rw [eS6]; exact hlg
    refine W_led2 (fun hLd => ?_)
    refine W.widen (k := KCC - qn S) (n := KSC - qu S) hlg.c hlg.s ?_
    exact W.vret hx hb hr (fun t9 ht9 hW9 => ⟨⟨(S6, ad69), rfl, ⟨h, hR.w, hsh, hak⟩, ⟨⟨by rw [ht9]; exact hR.P, hR.D⟩, _, _, by rw [ht9]; exact hLd, hlg⟩⟩, hR.sS.F ht9⟩) hR.sS.2.2 dX9_makeRoom_80
  refine lv_icmp_ge (tgt := 69) hx hb dX9_makeRoom_11 (by decide) (fun c7 => ?_) (fun c7 => ?_)
  · replace h := h.1 (k_le (by decide) hln4 c7)
    exact J_69 ad (0) (0) S p1 _ _ ls h hT_p1 hsh hlg hak hE hR (lv_sub hl [0, 1] rfl)
  · replace h := h.2 (k_nle (by decide) hln4 c7)
    refine lv_aload_n hx hb dX9_makeRoom_14 rfl (lv_at hl 0 rfl) ?_
    obtain ⟨hv8, h⟩ := h
    have e9 : KCC = 300000 := rfl
    have e8 : KSC = 3553400 := rfl
    have e7 : TXB = 10000000 := rfl
    have hTX : qn S < TXB := by have := hv8.1; omega
    refine va_new (ci := 7) (fs := dfX8) (C := RX8) (T := TX8) (N := 15) hx hb hts inX8 tyX8 tyX8_ok hown (hts _ kw_1590) (hts _ kw_781) (hts _ kw_782) hR.K hR.P hR.D hR.sS hA rfl dfX8_ok (show 0 + 1 ≤ KCC - qn S from hlg.c1 hv8.1) (show 0 + 15 ≤ KSC - qu S from hlg.s1 hv8.2) dX9_makeRoom_15 (fun q9 H hP hD hS => ?_)
    have hw8 := hR.w
    have hR := hR.new (t := 47) (n := 0) (k := 15) hTX (by decide) (Nat.zero_le _) wN_C47 hP hD hS
    have hk8 : adk ad (adx ad (qn S) q9) S := adk.rf.new (Nat.le_refl _) hTX
    have hak := hak.new (q := q9) hlg.2.2.1 hTX
    have hE := hE.ad hk8
    have hlg : lgC S (wN S 47 0 15) (0 + 1) (0 + 15) := hlg.new (t := 47) (n := 0) ⟨hv8.1, hv8.2⟩
    have hs8 : shx S (wN S 47 0 15) := shx.newC (t := 47) (n := 0) (k := 15) shx.rf hw8 hTX
    obtain ⟨am10, eam10⟩ : ∃ z, z = adx ad (qn S) q9 := ⟨_, rfl⟩
    have eq_q9 : am10 (qn S) = q9 := by rw [eam10]; exact if_pos rfl
    rw [← eam10] at hR hk8 hak hE
    obtain ⟨S11, eS11⟩ : ∃ z, z = wN S 47 0 15 := ⟨_, rfl⟩
    rw [← eS11] at hR hlg hs8
    replace h := h S11 eS11 hR.w
    have hsh := hsh.tr hs8
    have hT_b12 : qT S11 (qn S) = 47 := by rw [eS11]; exact if_pos rfl
    have ea_0 : am10 66 = ad 66 := hk8 _ (hw8.hd (hw8.2.1 _ finC_31).2.1 (by decide) (by decide))
    have ea_1 : am10 p1 = ad p1 := hk8 _ (hw8.hd hT_p1 (by decide) (by decide))
    have hT_p1 := hs8.T hT_p1 (by decide)
    have hl : lv_has ls 2 [(0, .ref (am10 66)), (1, .ref (am10 p1))] := by simp only [ea_0, ea_1]; exact hl
    refine W.eq (g2 := F0 m 18 ls [.ref (am10 (qn S)), .ref (am10 66)]) (by simp only [ea_0, ea_1, eq_q9]) ?_
    clear hw8 hk8 hs8 hP hD hS e9 e8 e7 hTX
    refine lv_dup hx hb dX9_makeRoom_18 rfl ?_
    refine lv_sipush (v := 1296) hx hb dX9_makeRoom_19 (by decide) ?_
    refine lv_sipush (v := 1200) hx hb dX9_makeRoom_22 (by decide) ?_
    refine lv_bipush (v := 16) hx hb dX9_makeRoom_25 (by decide) ?_
    replace h := h (hT_b12)
    obtain ⟨Q13, h0, h⟩ := h
    have hFc := cfree hR hA
    refine W_led2 (fun hL0 => ?_)
    refine va_callv (va_runI (As := [.int 1296, .int 1200, .int 16]) (rest := [.ref (am10 (qn S)), .ref (am10 66)]) ⟨hx, hb, hml, hown, hts⟩ (rX8_init l g am10 H S11 (qn S) (1296 : Int32) (1200 : Int32) (16 : Int32) hR.w hT_b12 Q13 h0) (cwI 3 hts (gd_I kw_1496) rfl rfl rfl (hts _ kw_782) (hts _ kw_1591) (hts _ kw_1497) rfl (by decide +kernel) ⟨Nat.le_of_ble_eq_true rfl, Nat.le_of_ble_eq_true rfl⟩) ⟨cblindH, fun U hU hW9 => cmkH hU hW9 hR hex hE hFc⟩ rfl rfl hl.1 rfl (lv_room (Nat.le_of_ble_eq_true rfl)) dX9_makeRoom_27 ⟨(show 0 + 1 + (KCC - qn S11) ≤ KCC - qn S from hlg.cm), (show 0 + 15 + (KSC - qu S11) ≤ KSC - qu S from hlg.sm)⟩) hR.sS (fun q _ h => hFc q h) hFc (fun  S14 t9 H1 locs ht9 hvm9 hw9 hB9 hz9 hk9 hS => ?_)
    rcases S14 with ⟨S14, ak16⟩
    obtain ⟨hB9, dc9, ds9, hL9, hl9⟩ := hB9
    dsimp only at hw9 hB9 hl9
    rw [ht9] at hL9
    obtain ⟨hq15, hw9, hs9, hk8⟩ := hw9
    have hw8 := hR.w
    have hak := hak.tr hk8 hlg.2.2.1
    have hE := hE.ad hk8
    have hR : RepC g ak16 A s S14 H1 locs := hR.callH ht9 hB9 hw9 hS hFc
    have hsh := hsh.tr hs9
    refine W_tight2 (hL0.tr hL9).1 (hL0.tr hL9).2.1 ?_
    have hlg := hlg.call hl9
    replace h := h  S14 hq15 hw9 hs9
    have ea_0 : ak16 66 = am10 66 := hk8 _ (hw8.hd (hw8.2.1 _ finC_31).2.1 (by decide) (by decide))
    have ea_1 : ak16 p1 = am10 p1 := hk8 _ (hw8.hd hT_p1 (by decide) (by decide))
    have ea_2 : ak16 (qn S) = am10 (qn S) := hk8 _ (hw8.hd hT_b12 (by decide) (by decide))
    have hl : lv_has ls 2 [(0, .ref (ak16 66)), (1, .ref (ak16 p1))] := by simp only [ea_0, ea_1, ea_2]; exact hl
    refine W.eq (g2 := F0 m 30 ls ([.ref (ak16 (qn S)), .ref (ak16 66)])) (by first | (simp only [ea_0, ea_1, ea_2]; rfl) | simp only [ea_0, ea_1, ea_2]) ?_
    have hT_p1 := hs9.T hT_p1 (by decide)
    have hT_b12 := hs9.T hT_b12 (by decide)
    clear hB9 hz9 hk9 hvm9 ht9 hw9 hs9 hS hL0 hL9
    generalize H1 = H at hR ⊢
    generalize dc9 = dc_ak16, ds9 = ds_ak16 at hlg ⊢
    refine va_put (D := rD g) (ci := 8) (v := .ref (ak16 (qn S))) (ty := (.object "CodeFoundry$Row")) (C := RX9) (T := TX9) (N := 6) hx hb hts inX9 tyX9 tyX9_ok nmX9 hown hR.K hR.P hR.D hR.sS 66 (hR.at48 (hR.w.2.1 _ finC_31).2.1) rfl 0 (by decide) (hts _ kw_1552) (fun _ h9 => h9) rfl (by decide +kernel) rfl rfl (Nat.le_of_ble_eq_true rfl) dX9_makeRoom_30 (fun H locs hP hD hS => ?_)
    have hw9 : wfC (wR S14 66 0 (some (qn S))) := hR.w.put (fun b q9 => by cases q9; exact (hT_b12).trans (by rw [(hR.w.2.1 _ finC_31).2.1]; rfl)) (nofC_66_0) (by rw [(hR.w.2.1 _ finC_31).2.1]; decide) (fun b _ q9 => absurd (show otgC (qT S14 66) 0 = 0 by rw [(hR.w.2.1 _ finC_31).2.1]; decide) q9) (fun _ => Option.some_ne_none _)
    have hTk9 : qT S14 66 = 48 := (hR.w.2.1 _ finC_31).2.1
    have hR : RepC g ak16 A s (wR S14 66 0 (some (qn S))) H locs := hR.pR48 (hR.w.2.1 _ finC_31).2.1 FX9_s0 hw9 hP hD hS
    obtain ⟨S17, eS17⟩ : ∃ z, z = wR S14 66 0 (some (qn S)) := ⟨_, rfl⟩
    rw [← eS17] at hR
    replace h := h S17 eS17 hTk9 hR.w
    have hT_p1 : qT S17 p1 = 47 := (congrArg (fun z => qT z p1) eS17).trans hT_p1
    have hsh : shx S S17 := by rw [eS17]; exact hsh
    have hlg : lgC S S17 (0 + 1 + dc_ak16) (0 + 15 + ds_ak16) := by rw [eS17]; exact hlg
    refine lv_aload_n hx hb dX9_makeRoom_33 rfl (lv_at hl 0 rfl) ?_
    refine lv_sipush (v := 1297) hx hb dX9_makeRoom_34 (by decide) ?_
    obtain ⟨hv18, h⟩ := h
    have e9 : KCC = 300000 := rfl
    have e8 : KSC = 3553400 := rfl
    have e7 : TXB = 10000000 := rfl
    have hTX : qn S17 < TXB := by have := hv18.1; omega
    refine va_newa (atype := .boolean) (ty := .boolean) (a0 := (1297, .inl (fun _ => 0))) (N' := 1297) hx hb (hts (.arrayClass .boolean) kw_553) rfl hR.K hR.P hR.D hR.sS hA (fun _ => rfl) (by decide) (by decide) (by show 1297 * 1 ≤ 536870912; have := hv18.2; omega) (show 0 + 1 + dc_ak16 + 1 ≤ KCC - qn S from hlg.c1 hv18.1) (show 0 + 15 + ds_ak16 + 1297 ≤ KSC - qu S from hlg.s1 hv18.2) dX9_makeRoom_37 (fun q19 cA9 H hK9 hP hD hS => ?_)
    obtain rfl := cls_new3 hR.K hK9 (k := 2) rfl (fun _ h => by cases h)
    have hw8 := hR.w
    have hR := hR.new (t := 305) (n := 1297) (k := 1297) hTX (by decide) (by have := hv18.2; omega) (wN_CZ (by decide)) hP hD hS
    have hk8 : adk ak16 (adx ak16 (qn S17) q19) S17 := adk.rf.new (Nat.le_refl _) hTX
    have hak := hak.new (q := q19) hlg.2.2.1 hTX
    have hE := hE.ad hk8
    have hlg : lgC S (wN S17 305 1297 1297) (0 + 1 + dc_ak16 + 1) (0 + 15 + ds_ak16 + 1297) := hlg.new (t := 305) (n := 1297) ⟨hv18.1, hv18.2⟩
    have hs8 : shx S17 (wN S17 305 1297 1297) := shx.newC (t := 305) (n := 1297) (k := 1297) shx.rf hw8 hTX
    obtain ⟨am20, eam20⟩ : ∃ z, z = adx ak16 (qn S17) q19 := ⟨_, rfl⟩
    have eq_q19 : am20 (qn S17) = q19 := by rw [eam20]; exact if_pos rfl
    rw [← eam20] at hR hk8 hak hE
    obtain ⟨S21, eS21⟩ : ∃ z, z = wN S17 305 1297 1297 := ⟨_, rfl⟩
    rw [← eS21] at hR hlg hs8
    replace h := h S21 eS21 hR.w
    have hsh := hsh.tr hs8
    have hT_b22 : qT S21 (qn S17) = 305 := by rw [eS21]; exact if_pos rfl
    have ea_0 : am20 66 = ak16 66 := hk8 _ (hw8.hd (hw8.2.1 _ finC_31).2.1 (by decide) (by decide))
    have ea_1 : am20 p1 = ak16 p1 := hk8 _ (hw8.hd hT_p1 (by decide) (by decide))
    have hT_p1 := hs8.T hT_p1 (by decide)
    have hl : lv_has ls 2 [(0, .ref (am20 66)), (1, .ref (am20 p1))] := by simp only [ea_0, ea_1]; exact hl
    refine W.eq (g2 := F0 m 39 ls [.ref (am20 (qn S17)), .ref (am20 66)]) (by simp only [ea_0, ea_1, eq_q19]) ?_
    clear hw8 hk8 hs8 hP hD hS e9 e8 e7 hTX
    refine va_put (D := rD g) (ci := 8) (v := .ref (am20 (qn S17))) (ty := (.array .boolean)) (C := RX9) (T := TX9) (N := 6) hx hb hts inX9 tyX9 tyX9_ok nmX9 hown hR.K hR.P hR.D hR.sS 66 (hR.at48 (hR.w.2.1 _ finC_31).2.1) rfl 2 (by decide) (hts _ kw_1566) (fun _ h9 => h9) rfl (by decide +kernel) rfl rfl (Nat.le_of_ble_eq_true rfl) dX9_makeRoom_39 (fun H locs hP hD hS => ?_)
    have hw9 : wfC (wR S21 66 2 (some (qn S17))) := hR.w.put (fun b q9 => by cases q9; exact (hT_b22).trans (by rw [(hR.w.2.1 _ finC_31).2.1]; rfl)) (nofC_66_2) (by rw [(hR.w.2.1 _ finC_31).2.1]; decide) (fun b _ q9 => absurd (show otgC (qT S21 66) 2 = 0 by rw [(hR.w.2.1 _ finC_31).2.1]; decide) q9) (fun _ => Option.some_ne_none _)
    have hTk9 : qT S21 66 = 48 := (hR.w.2.1 _ finC_31).2.1
    have hR : RepC g am20 A s (wR S21 66 2 (some (qn S17))) H locs := hR.pR48 (hR.w.2.1 _ finC_31).2.1 FX9_s2 hw9 hP hD hS
    obtain ⟨S23, eS23⟩ : ∃ z, z = wR S21 66 2 (some (qn S17)) := ⟨_, rfl⟩
    rw [← eS23] at hR
    replace h := h S23 eS23 hTk9 hR.w
    have hT_p1 : qT S23 p1 = 47 := (congrArg (fun z => qT z p1) eS23).trans hT_p1
    have hsh : shx S S23 := by rw [eS23]; exact hsh
    have hlg : lgC S S23 (0 + 1 + dc_ak16 + 1) (0 + 15 + ds_ak16 + 1297) := by rw [eS23]; exact hlg
    refine lv_aload_n hx hb dX9_makeRoom_42 rfl (lv_at hl 0 rfl) ?_
    refine lv_sipush (v := 1297) hx hb dX9_makeRoom_43 (by decide) ?_
    obtain ⟨hv24, h⟩ := h
    have e9 : KCC = 300000 := rfl
    have e8 : KSC = 3553400 := rfl
    have e7 : TXB = 10000000 := rfl
    have hTX : qn S23 < TXB := by have := hv24.1; omega
    refine va_newa (atype := .boolean) (ty := .boolean) (a0 := (1297, .inl (fun _ => 0))) (N' := 1297) hx hb (hts (.arrayClass .boolean) kw_553) rfl hR.K hR.P hR.D hR.sS hA (fun _ => rfl) (by decide) (by decide) (by show 1297 * 1 ≤ 536870912; have := hv24.2; omega) (show 0 + 1 + dc_ak16 + 1 + 1 ≤ KCC - qn S from hlg.c1 hv24.1) (show 0 + 15 + ds_ak16 + 1297 + 1297 ≤ KSC - qu S from hlg.s1 hv24.2) dX9_makeRoom_46 (fun q25 cA9 H hK9 hP hD hS => ?_)
    obtain rfl := cls_new3 hR.K hK9 (k := 2) rfl (fun _ h => by cases h)
    have hw8 := hR.w
    have hR := hR.new (t := 306) (n := 1297) (k := 1297) hTX (by decide) (by have := hv24.2; omega) (wN_CZ (by decide)) hP hD hS
    have hk8 : adk am20 (adx am20 (qn S23) q25) S23 := adk.rf.new (Nat.le_refl _) hTX
    have hak := hak.new (q := q25) hlg.2.2.1 hTX
    have hE := hE.ad hk8
    have hlg : lgC S (wN S23 306 1297 1297) (0 + 1 + dc_ak16 + 1 + 1) (0 + 15 + ds_ak16 + 1297 + 1297) := hlg.new (t := 306) (n := 1297) ⟨hv24.1, hv24.2⟩
    have hs8 : shx S23 (wN S23 306 1297 1297) := shx.newC (t := 306) (n := 1297) (k := 1297) shx.rf hw8 hTX
    obtain ⟨am26, eam26⟩ : ∃ z, z = adx am20 (qn S23) q25 := ⟨_, rfl⟩
    have eq_q25 : am26 (qn S23) = q25 := by rw [eam26]; exact if_pos rfl
    rw [← eam26] at hR hk8 hak hE
    obtain ⟨S27, eS27⟩ : ∃ z, z = wN S23 306 1297 1297 := ⟨_, rfl⟩
    rw [← eS27] at hR hlg hs8
    replace h := h S27 eS27 hR.w
    have hsh := hsh.tr hs8
    have hT_b28 : qT S27 (qn S23) = 306 := by rw [eS27]; exact if_pos rfl
    have ea_0 : am26 66 = am20 66 := hk8 _ (hw8.hd (hw8.2.1 _ finC_31).2.1 (by decide) (by decide))
    have ea_1 : am26 p1 = am20 p1 := hk8 _ (hw8.hd hT_p1 (by decide) (by decide))
    have hT_p1 := hs8.T hT_p1 (by decide)
    have hl : lv_has ls 2 [(0, .ref (am26 66)), (1, .ref (am26 p1))] := by simp only [ea_0, ea_1]; exact hl
    refine W.eq (g2 := F0 m 48 ls [.ref (am26 (qn S23)), .ref (am26 66)]) (by simp only [ea_0, ea_1, eq_q25]) ?_
    clear hw8 hk8 hs8 hP hD hS e9 e8 e7 hTX
    refine va_put (D := rD g) (ci := 8) (v := .ref (am26 (qn S23))) (ty := (.array .boolean)) (C := RX9) (T := TX9) (N := 6) hx hb hts inX9 tyX9 tyX9_ok nmX9 hown hR.K hR.P hR.D hR.sS 66 (hR.at48 (hR.w.2.1 _ finC_31).2.1) rfl 3 (by decide) (hts _ kw_1554) (fun _ h9 => h9) rfl (by decide +kernel) rfl rfl (Nat.le_of_ble_eq_true rfl) dX9_makeRoom_48 (fun H locs hP hD hS => ?_)
    have hw9 : wfC (wR S27 66 3 (some (qn S23))) := hR.w.put (fun b q9 => by cases q9; exact (hT_b28).trans (by rw [(hR.w.2.1 _ finC_31).2.1]; rfl)) (nofC_66_3) (by rw [(hR.w.2.1 _ finC_31).2.1]; decide) (fun b _ q9 => absurd (show otgC (qT S27 66) 3 = 0 by rw [(hR.w.2.1 _ finC_31).2.1]; decide) q9) (fun _ => Option.some_ne_none _)
    have hTk9 : qT S27 66 = 48 := (hR.w.2.1 _ finC_31).2.1
    have hR : RepC g am26 A s (wR S27 66 3 (some (qn S23))) H locs := hR.pR48 (hR.w.2.1 _ finC_31).2.1 FX9_s3 hw9 hP hD hS
    obtain ⟨S29, eS29⟩ : ∃ z, z = wR S27 66 3 (some (qn S23)) := ⟨_, rfl⟩
    rw [← eS29] at hR
    replace h := h S29 eS29 hTk9 hR.w
    have hT_p1 : qT S29 p1 = 47 := (congrArg (fun z => qT z p1) eS29).trans hT_p1
    have hsh : shx S S29 := by rw [eS29]; exact hsh
    have hlg : lgC S S29 (0 + 1 + dc_ak16 + 1 + 1) (0 + 15 + ds_ak16 + 1297 + 1297) := by rw [eS29]; exact hlg
    refine lv_aload_n hx hb dX9_makeRoom_51 rfl (lv_at hl 0 rfl) ?_
    refine lv_sipush (v := 1297) hx hb dX9_makeRoom_52 (by decide) ?_
    obtain ⟨hv30, h⟩ := h
    have e9 : KCC = 300000 := rfl
    have e8 : KSC = 3553400 := rfl
    have e7 : TXB = 10000000 := rfl
    have hTX : qn S29 < TXB := by have := hv30.1; omega
    refine va_newa (atype := .int) (ty := .int) (a0 := (1297, .inl (fun _ => 0))) (N' := 1297) hx hb (hts (.arrayClass .int) kw_51) rfl hR.K hR.P hR.D hR.sS hA (fun _ => rfl) (by decide) (by decide) (by show 1297 * 4 ≤ 536870912; have := hv30.2; omega) (show 0 + 1 + dc_ak16 + 1 + 1 + 1 ≤ KCC - qn S from hlg.c1 hv30.1) (show 0 + 15 + ds_ak16 + 1297 + 1297 + 1297 ≤ KSC - qu S from hlg.s1 hv30.2) dX9_makeRoom_55 (fun q31 cA9 H hK9 hP hD hS => ?_)
    obtain rfl := cls_new3 hR.K hK9 (k := 1) rfl (fun _ h => by cases h)
    have hw8 := hR.w
    have hR := hR.new (t := 229) (n := 1297) (k := 1297) hTX (by decide) (by have := hv30.2; omega) (wN_CI (by decide)) hP hD hS
    have hk8 : adk am26 (adx am26 (qn S29) q31) S29 := adk.rf.new (Nat.le_refl _) hTX
    have hak := hak.new (q := q31) hlg.2.2.1 hTX
    have hE := hE.ad hk8
    have hlg : lgC S (wN S29 229 1297 1297) (0 + 1 + dc_ak16 + 1 + 1 + 1) (0 + 15 + ds_ak16 + 1297 + 1297 + 1297) := hlg.new (t := 229) (n := 1297) ⟨hv30.1, hv30.2⟩
    have hs8 : shx S29 (wN S29 229 1297 1297) := shx.newC (t := 229) (n := 1297) (k := 1297) shx.rf hw8 hTX
    obtain ⟨am32, eam32⟩ : ∃ z, z = adx am26 (qn S29) q31 := ⟨_, rfl⟩
    have eq_q31 : am32 (qn S29) = q31 := by rw [eam32]; exact if_pos rfl
    rw [← eam32] at hR hk8 hak hE
    obtain ⟨S33, eS33⟩ : ∃ z, z = wN S29 229 1297 1297 := ⟨_, rfl⟩
    rw [← eS33] at hR hlg hs8
    replace h := h S33 eS33 hR.w
    have hsh := hsh.tr hs8
    have hT_b34 : qT S33 (qn S29) = 229 := by rw [eS33]; exact if_pos rfl
    have ea_0 : am32 66 = am26 66 := hk8 _ (hw8.hd (hw8.2.1 _ finC_31).2.1 (by decide) (by decide))
    have ea_1 : am32 p1 = am26 p1 := hk8 _ (hw8.hd hT_p1 (by decide) (by decide))
    have hT_p1 := hs8.T hT_p1 (by decide)
    have hl : lv_has ls 2 [(0, .ref (am32 66)), (1, .ref (am32 p1))] := by simp only [ea_0, ea_1]; exact hl
    refine W.eq (g2 := F0 m 57 ls [.ref (am32 (qn S29)), .ref (am32 66)]) (by simp only [ea_0, ea_1, eq_q31]) ?_
    clear hw8 hk8 hs8 hP hD hS e9 e8 e7 hTX
    refine va_put (D := rD g) (ci := 8) (v := .ref (am32 (qn S29))) (ty := (.array .int)) (C := RX9) (T := TX9) (N := 6) hx hb hts inX9 tyX9 tyX9_ok nmX9 hown hR.K hR.P hR.D hR.sS 66 (hR.at48 (hR.w.2.1 _ finC_31).2.1) rfl 4 (by decide) (hts _ kw_1559) (fun _ h9 => h9) rfl (by decide +kernel) rfl rfl (Nat.le_of_ble_eq_true rfl) dX9_makeRoom_57 (fun H locs hP hD hS => ?_)
    have hw9 : wfC (wR S33 66 4 (some (qn S29))) := hR.w.put (fun b q9 => by cases q9; exact (hT_b34).trans (by rw [(hR.w.2.1 _ finC_31).2.1]; rfl)) (nofC_66_4) (by rw [(hR.w.2.1 _ finC_31).2.1]; decide) (fun b _ q9 => absurd (show otgC (qT S33 66) 4 = 0 by rw [(hR.w.2.1 _ finC_31).2.1]; decide) q9) (fun _ => Option.some_ne_none _)
    have hTk9 : qT S33 66 = 48 := (hR.w.2.1 _ finC_31).2.1
    have hR : RepC g am32 A s (wR S33 66 4 (some (qn S29))) H locs := hR.pR48 (hR.w.2.1 _ finC_31).2.1 FX9_s4 hw9 hP hD hS
    obtain ⟨S35, eS35⟩ : ∃ z, z = wR S33 66 4 (some (qn S29)) := ⟨_, rfl⟩
    rw [← eS35] at hR
    replace h := h S35 eS35 hTk9 hR.w
    have hT_p1 : qT S35 p1 = 47 := (congrArg (fun z => qT z p1) eS35).trans hT_p1
    have hsh : shx S S35 := by rw [eS35]; exact hsh
    have hlg : lgC S S35 (0 + 1 + dc_ak16 + 1 + 1 + 1) (0 + 15 + ds_ak16 + 1297 + 1297 + 1297) := by rw [eS35]; exact hlg
    refine lv_aload_n hx hb dX9_makeRoom_60 rfl (lv_at hl 0 rfl) ?_
    refine lv_sipush (v := 1297) hx hb dX9_makeRoom_61 (by decide) ?_
    obtain ⟨hv36, h⟩ := h
    have e9 : KCC = 300000 := rfl
    have e8 : KSC = 3553400 := rfl
    have e7 : TXB = 10000000 := rfl
    have hTX : qn S35 < TXB := by have := hv36.1; omega
    refine va_newa (atype := .int) (ty := .int) (a0 := (1297, .inl (fun _ => 0))) (N' := 1297) hx hb (hts (.arrayClass .int) kw_51) rfl hR.K hR.P hR.D hR.sS hA (fun _ => rfl) (by decide) (by decide) (by show 1297 * 4 ≤ 536870912; have := hv36.2; omega) (show 0 + 1 + dc_ak16 + 1 + 1 + 1 + 1 ≤ KCC - qn S from hlg.c1 hv36.1) (show 0 + 15 + ds_ak16 + 1297 + 1297 + 1297 + 1297 ≤ KSC - qu S from hlg.s1 hv36.2) dX9_makeRoom_64 (fun q37 cA9 H hK9 hP hD hS => ?_)
    obtain rfl := cls_new3 hR.K hK9 (k := 1) rfl (fun _ h => by cases h)
    have hw8 := hR.w
    have hR := hR.new (t := 230) (n := 1297) (k := 1297) hTX (by decide) (by have := hv36.2; omega) (wN_CI (by decide)) hP hD hS
    have hk8 : adk am32 (adx am32 (qn S35) q37) S35 := adk.rf.new (Nat.le_refl _) hTX
    have hak := hak.new (q := q37) hlg.2.2.1 hTX
    have hE := hE.ad hk8
    have hlg : lgC S (wN S35 230 1297 1297) (0 + 1 + dc_ak16 + 1 + 1 + 1 + 1) (0 + 15 + ds_ak16 + 1297 + 1297 + 1297 + 1297) := hlg.new (t := 230) (n := 1297) ⟨hv36.1, hv36.2⟩
    have hs8 : shx S35 (wN S35 230 1297 1297) := shx.newC (t := 230) (n := 1297) (k := 1297) shx.rf hw8 hTX
    obtain ⟨am38, eam38⟩ : ∃ z, z = adx am32 (qn S35) q37 := ⟨_, rfl⟩
    have eq_q37 : am38 (qn S35) = q37 := by rw [eam38]; exact if_pos rfl
    rw [← eam38] at hR hk8 hak hE
    obtain ⟨S39, eS39⟩ : ∃ z, z = wN S35 230 1297 1297 := ⟨_, rfl⟩
    rw [← eS39] at hR hlg hs8
    replace h := h S39 eS39 hR.w
    have hsh := hsh.tr hs8
    have hT_b40 : qT S39 (qn S35) = 230 := by rw [eS39]; exact if_pos rfl
    have ea_0 : am38 66 = am32 66 := hk8 _ (hw8.hd (hw8.2.1 _ finC_31).2.1 (by decide) (by decide))
    have ea_1 : am38 p1 = am32 p1 := hk8 _ (hw8.hd hT_p1 (by decide) (by decide))
    have hT_p1 := hs8.T hT_p1 (by decide)
    have hl : lv_has ls 2 [(0, .ref (am38 66)), (1, .ref (am38 p1))] := by simp only [ea_0, ea_1]; exact hl
    refine W.eq (g2 := F0 m 66 ls [.ref (am38 (qn S35)), .ref (am38 66)]) (by simp only [ea_0, ea_1, eq_q37]) ?_
    clear hw8 hk8 hs8 hP hD hS e9 e8 e7 hTX
    refine va_put (D := rD g) (ci := 8) (v := .ref (am38 (qn S35))) (ty := (.array .int)) (C := RX9) (T := TX9) (N := 6) hx hb hts inX9 tyX9 tyX9_ok nmX9 hown hR.K hR.P hR.D hR.sS 66 (hR.at48 (hR.w.2.1 _ finC_31).2.1) rfl 5 (by decide) (hts _ kw_1592) (fun _ h9 => h9) rfl (by decide +kernel) rfl rfl (Nat.le_of_ble_eq_true rfl) dX9_makeRoom_66 (fun H locs hP hD hS => ?_)
    have hw9 : wfC (wR S39 66 5 (some (qn S35))) := hR.w.put (fun b q9 => by cases q9; exact (hT_b40).trans (by rw [(hR.w.2.1 _ finC_31).2.1]; rfl)) (nofC_66_5) (by rw [(hR.w.2.1 _ finC_31).2.1]; decide) (fun b _ q9 => absurd (show otgC (qT S39 66) 5 = 0 by rw [(hR.w.2.1 _ finC_31).2.1]; decide) q9) (fun _ => Option.some_ne_none _)
    have hTk9 : qT S39 66 = 48 := (hR.w.2.1 _ finC_31).2.1
    have hR : RepC g am38 A s (wR S39 66 5 (some (qn S35))) H locs := hR.pR48 (hR.w.2.1 _ finC_31).2.1 FX9_s5 hw9 hP hD hS
    obtain ⟨S41, eS41⟩ : ∃ z, z = wR S39 66 5 (some (qn S35)) := ⟨_, rfl⟩
    rw [← eS41] at hR
    replace h := h S41 eS41 hTk9 hR.w
    have hT_p1 : qT S41 p1 = 47 := (congrArg (fun z => qT z p1) eS41).trans hT_p1
    have hsh : shx S S41 := by rw [eS41]; exact hsh
    have hlg : lgC S S41 (0 + 1 + dc_ak16 + 1 + 1 + 1 + 1) (0 + 15 + ds_ak16 + 1297 + 1297 + 1297 + 1297) := by rw [eS41]; exact hlg
    exact J_69 am38 (0 + 1 + dc_ak16 + 1 + 1 + 1 + 1) (0 + 15 + ds_ak16 + 1297 + 1297 + 1297 + 1297) S41 p1 _ _ ls h hT_p1 hsh hlg hak hE hR (lv_sub hl [0, 1] rfl)
def f_X9_placeOf_J13 (S : MS) : Int32 := (0 : Int32)
def d_X9_placeOf_J13 (S : MS) : Prop := True
def fX9_placeOf (S : MS) (x1 : Int32) : Int32 := (if x1.toInt < 0 then f_X9_placeOf_J13 S else (if x1.toInt < (qN S (qO S 66 5) : Int) then (qI S (qO S 66 5) x1.toInt.toNat) else f_X9_placeOf_J13 S))
def d_X9_placeOf (S : MS) (x1 : Int32) : Prop := (if x1.toInt < 0 then d_X9_placeOf_J13 S else (if x1.toInt < (qN S (qO S 66 5) : Int) then (((0 : Int) ≤ x1.toInt ∧ x1.toInt < (qN S (qO S 66 5) : Int)) ∧ True) else d_X9_placeOf_J13 S))
set_option maxHeartbeats 2000000 in
set_option maxRecDepth 100000 in
theorem rX9_placeOf (l : Launch) (g : Gr) (ad : Nat → Nat) (sz : Nat) (S : MS) (x1 : Int32) (hw : wfC S) (hd : d_X9_placeOf S x1) : Met l yX9_placeOf (wt yX9_placeOf cX9_placeOf 2 (some .int)) ({ frames := 0, cells := 0, slots := 0, locals := 0 }) (va_Pc [.ref (ad 66), .int x1] (st_C g ad sz S)) (va_Qi (fun (r : Int32) (_ : Unit) => r = fX9_placeOf S x1) (fun (_ : Unit) (t : State) => qEC g ad (va_A (WdC g ad S) sz) S t) (va_A (WdC g ad S) sz)) 0 0 (va_A (WdC g ad S) sz) := by
  refine Met.ofW (cc := cX9_placeOf) (maxL := 2) (ret := (some .int)) (by decide) rfl ?_
  intro p e s m args below meth c s₁ B hml hv
  obtain ⟨rfl, hsz, hP, hK, hD0, hex, hE⟩ := hv
  have hx := B.exec
  have hb := B.bytes
  have hr := B.returns
  have hts0 := atoms_spec (ws := wt yX9_placeOf cX9_placeOf 2 (some .int)) B.pre
  have hts : ∀ w ∈ tb, w.before _ s = true := fun w h => hts0 w (List.mem_cons_of_mem _ h)
  have hown : s.vm.findClass RX9 = some m.cls := findClass_of_methodNamed B.named
  subst hsz
  have hD := hD0.self (sz := s.heap.size)
  generalize hAe : va_A (WdC g ad S) s.heap.size = A at hD hE ⊢
  have hA : ∀ q : Nat, s.heap.size ≤ q → A q := fun q h => by rw [← hAe]; exact Or.inr h
  have hR : RepC g ad A s S s.heap [] := ⟨hK, hP, hD, va_S.rf, hw⟩
  clear hK hP hD hD0
  have hl := lv_entry ([.ref (ad 66), .int x1]) (n := 2) (Nat.le_of_ble_eq_true rfl)
  rw [lg_entry_eq]
  generalize (lg_sl ([.ref (ad 66), .int x1]) ++ List.replicate (2 - (lg_sl ([.ref (ad 66), .int x1])).length) Slot.unset).toArray = ls at hl ⊢
  have hl : lv_has ls 2 [(0, .ref (ad 66)), (1, .int x1)] := hl
  obtain ⟨r0, hf⟩ : ∃ r0, fX9_placeOf S x1 = r0 := ⟨_, rfl⟩
  have hf0 := hf
  unfold fX9_placeOf at hf
  unfold d_X9_placeOf at hd
  refine lv_iload_n hx hb dX9_placeOf_0 rfl (lv_at hl 1 rfl) ?_
  have J_13 : ∀ (H : Heap) (locs : List Loc) (ls : Array Slot), d_X9_placeOf_J13 S → f_X9_placeOf_J13 S = r0 → RepC g ad A s S H locs → lv_has ls 2 [] → W p l e (headSpec (wt yX9_placeOf cX9_placeOf 2 (some .int)) ({ frames := 0, cells := 0, slots := 0, locals := 0 })).room s m ([.ref (ad 66), .int x1] : List Value).toArray below meth c H locs 0 0 (MQ below (va_Qi (fun (r : Int32) (_ : Unit) => r = fX9_placeOf S x1) (fun (_ : Unit) (t : State) => qEC g ad A S t) A) ([.ref (ad 66), .int x1] : List Value).toArray s 0 0 A) (F0 m 13 ls []) := by
    intro H locs ls hd hf hR hl
    unfold d_X9_placeOf_J13 at hd
    unfold f_X9_placeOf_J13 at hf
    refine lv_iconst (v := 0) hx hb dX9_placeOf_13 (by decide) ?_
    refine lv_goto (tgt := 23) hx hb dX9_placeOf_14 (by decide) ?_
    exact W.iret (v := 0) hx hb hr (fun t9 ht9 hW9 => ⟨⟨_, (), rfl, hf.trans hf0.symm, ⟨by rw [ht9]; exact hR.P, hR.D⟩⟩, hR.sS.F ht9⟩) hR.sS.2.2 dX9_placeOf_23
  refine lv_if_lt (tgt := 13) hx hb dX9_placeOf_1 (by decide) (fun c1 => ?_) (fun c1 => ?_)
  · rw [if_pos (k_lt rfl (by decide) c1)] at hf
    (try rw [if_pos (k_lt rfl (by decide) c1)] at hd)
    exact J_13 _ _ ls hd hf  hR (lv_sub hl [] rfl)
  · rw [if_neg (k_nlt rfl (by decide) c1)] at hf
    (try rw [if_neg (k_nlt rfl (by decide) c1)] at hd)
    refine lv_iload_n hx hb dX9_placeOf_4 rfl (lv_at hl 1 rfl) ?_
    refine lv_aload_n hx hb dX9_placeOf_5 rfl (lv_at hl 0 rfl) ?_
    have hT_b2 : qT S (qO S 66 5) = 230 := hR.w.ref (hR.w.ptr ptrC_38) (hR.w.2.1 _ finC_31).2.1
    refine va_get (D := rD g) (ci := 8) (v := .ref (ad (qO S 66 5))) (C := RX9) (T := TX9) (N := 6) hx hb hts inX9 hown hR.K hR.P 66 (hR.at48 (hR.w.2.1 _ finC_31).2.1) rfl 5 (by decide) (hts _ kw_1592) (fun _ h9 => h9) (congrArg (fun z => some (vf ad z)) (hR.w.ptr ptrC_38)) dX9_placeOf_6 ?_
    refine va_alen (v := (Int32.ofNat (qN S (qO S 66 5)))) hx hb hR.K hR.P (qO S 66 5) 1 (hR.atI hT_b2 (by decide)) rfl rfl dX9_placeOf_9 ?_
    have hln3 : (Int32.ofNat (qN S (qO S 66 5))).toInt = (qN S (qO S 66 5) : Int) := toI_len (hR.w.len9 (hT_b2) (by decide))
    refine lv_icmp_lt (tgt := 17) hx hb dX9_placeOf_10 (by decide) (fun c4 => ?_) (fun c4 => ?_)
    · rw [if_pos (k_lt rfl hln3 c4)] at hf
      (try rw [if_pos (k_lt rfl hln3 c4)] at hd)
      refine lv_aload_n hx hb dX9_placeOf_17 rfl (lv_at hl 0 rfl) ?_
      have hT_b5 : qT S (qO S 66 5) = 230 := hR.w.ref (hR.w.ptr ptrC_38) (hR.w.2.1 _ finC_31).2.1
      refine va_get (D := rD g) (ci := 8) (v := .ref (ad (qO S 66 5))) (C := RX9) (T := TX9) (N := 6) hx hb hts inX9 hown hR.K hR.P 66 (hR.at48 (hR.w.2.1 _ finC_31).2.1) rfl 5 (by decide) (hts _ kw_1592) (fun _ h9 => h9) (congrArg (fun z => some (vf ad z)) (hR.w.ptr ptrC_38)) dX9_placeOf_18 ?_
      refine lv_iload_n hx hb dX9_placeOf_21 rfl (lv_at hl 1 rfl) ?_
      obtain ⟨hv6, hd⟩ := hd
      refine va_iald hx hb hR.K hR.P (qO S 66 5) 1 (hR.atI hT_b5 (by decide)) rfl (k_ix (x := x1) (a := x1.toInt) rfl hv6) dX9_placeOf_22 ?_
      refine lv_topi (fun z7 ez7 => ?_)
      obtain rfl : z7 = (qI S (qO S 66 5) x1.toInt.toNat) := ez7
      exact W.iret (v := (qI S (qO S 66 5) x1.toInt.toNat)) hx hb hr (fun t9 ht9 hW9 => ⟨⟨_, (), rfl, hf.trans hf0.symm, ⟨by rw [ht9]; exact hR.P, hR.D⟩⟩, hR.sS.F ht9⟩) hR.sS.2.2 dX9_placeOf_23
    · rw [if_neg (k_nlt rfl hln3 c4)] at hf
      (try rw [if_neg (k_nlt rfl hln3 c4)] at hd)
      exact J_13 _ _ ls hd hf  hR (lv_sub hl [] rfl)
def wX9_isNewlyReached (S : MS) (x1 : Int32) (Q : Int32 → MS → Prop) : Prop := ((x1.toInt < 0 → Q (0 : Int32) S) ∧ (¬ x1.toInt < 0 → (((qI S (qO S 66 0) 2).toInt ≤ x1.toInt → Q (0 : Int32) S) ∧ (¬ (qI S (qO S 66 0) 2).toInt ≤ x1.toInt → (((0 : Int) ≤ x1.toInt ∧ x1.toInt < (qN S (qO S 66 3) : Int)) ∧ (((qI S (qO S 66 3) x1.toInt.toNat).toInt = 0 → (((0 : Int) ≤ x1.toInt ∧ x1.toInt < (qN S (qO S 66 3) : Int)) ∧ (∀ S11, S11 = wI S (qO S 66 3) x1.toInt.toNat (vp_nar .boolean (1 : Int32)) → qT S (qO S 66 3) = 306 → wfC S11 → Q (1 : Int32) S11))) ∧ (¬ (qI S (qO S 66 3) x1.toInt.toNat).toInt = 0 → Q (0 : Int32) S)))))))
set_option maxHeartbeats 2000000 in
set_option maxRecDepth 100000 in
theorem rX9_isNewlyReached (l : Launch) (g : Gr) (ad : Nat → Nat) (sz : Nat) (S : MS) (x1 : Int32) (hw : wfC S) (Q : Int32 → MS → Prop) (h : wX9_isNewlyReached S x1 Q) : Met l yX9_isNewlyReached (wt yX9_isNewlyReached cX9_isNewlyReached 2 (some .boolean)) ({ frames := 0, cells := 0, slots := 0, locals := 0 }) (va_Pc [.ref (ad 66), .int x1] (st_C g ad sz S)) (va_Qi (fun (r : Int32) (u : MS) => Q r u ∧ wfC u ∧ shy S u ∧ (r = 0 ∨ r = 1)) (fun (u : MS) (t : State) => qEC g ad (va_A (WdC g ad S) sz) u t) (va_A (WdC g ad S) sz)) 0 0 (va_A (WdC g ad S) sz) := by
  refine Met.ofW (cc := cX9_isNewlyReached) (maxL := 2) (ret := (some .boolean)) (by decide) rfl ?_
  intro p e s m args below meth c s₁ B hml hv
  obtain ⟨rfl, hsz, hP, hK, hD0, hex, hE⟩ := hv
  have hx := B.exec
  have hb := B.bytes
  have hr := B.returns
  have hts0 := atoms_spec (ws := wt yX9_isNewlyReached cX9_isNewlyReached 2 (some .boolean)) B.pre
  have hts : ∀ w ∈ tb, w.before _ s = true := fun w h => hts0 w (List.mem_cons_of_mem _ h)
  have hown : s.vm.findClass RX9 = some m.cls := findClass_of_methodNamed B.named
  subst hsz
  have hD := hD0.self (sz := s.heap.size)
  generalize hAe : va_A (WdC g ad S) s.heap.size = A at hD hE ⊢
  have hA : ∀ q : Nat, s.heap.size ≤ q → A q := fun q h => by rw [← hAe]; exact Or.inr h
  have hR : RepC g ad A s S s.heap [] := ⟨hK, hP, hD, va_S.rf, hw⟩
  clear hK hP hD hD0
  have hl := lv_entry ([.ref (ad 66), .int x1]) (n := 2) (Nat.le_of_ble_eq_true rfl)
  rw [lg_entry_eq]
  generalize (lg_sl ([.ref (ad 66), .int x1]) ++ List.replicate (2 - (lg_sl ([.ref (ad 66), .int x1])).length) Slot.unset).toArray = ls at hl ⊢
  have hl : lv_has ls 2 [(0, .ref (ad 66)), (1, .int x1)] := hl
  have hsh : shy S S := shy.rf
  unfold wX9_isNewlyReached at h
  refine lv_iload_n hx hb dX9_isNewlyReached_0 rfl (lv_at hl 1 rfl) ?_
  refine lv_if_lt (tgt := 24) hx hb dX9_isNewlyReached_1 (by decide) (fun c1 => ?_) (fun c1 => ?_)
  · replace h := h.1 (k_lt rfl (by decide) c1)
    refine lv_iconst (v := 0) hx hb dX9_isNewlyReached_24 (by decide) ?_
    exact W.zret (v := 0) hx hb hr (nz (Or.inl rfl)) (fun t9 ht9 hW9 => ⟨⟨_, S, rfl, ⟨h, hR.w, hsh, (Or.inl rfl)⟩, ⟨by rw [ht9]; exact hR.P, hR.D⟩⟩, hR.sS.F ht9⟩) hR.sS.2.2 dX9_isNewlyReached_25
  · replace h := h.2 (k_nlt rfl (by decide) c1)
    refine lv_iload_n hx hb dX9_isNewlyReached_4 rfl (lv_at hl 1 rfl) ?_
    refine lv_aload_n hx hb dX9_isNewlyReached_5 rfl (lv_at hl 0 rfl) ?_
    have hT_b2 : qT S (qO S 66 0) = 47 := hR.w.ref (hR.w.ptr ptrC_39) (hR.w.2.1 _ finC_31).2.1
    refine va_get (D := rD g) (ci := 8) (v := .ref (ad (qO S 66 0))) (C := RX9) (T := TX9) (N := 6) hx hb hts inX9 hown hR.K hR.P 66 (hR.at48 (hR.w.2.1 _ finC_31).2.1) rfl 0 (by decide) (hts _ kw_1552) (fun _ h9 => h9) (congrArg (fun z => some (vf ad z)) (hR.w.ptr ptrC_39)) dX9_isNewlyReached_6 ?_
    refine va_get (D := rD g) (ci := 7) (v := .int (qI S (qO S 66 0) 2)) (C := RX8) (T := TX8) (N := 15) hx hb hts inX8 hown hR.K hR.P (qO S 66 0) (hR.at47 hT_b2) rfl 2 (by decide) (hts _ kw_1553) (fun _ h9 => h9) rfl dX9_isNewlyReached_9 ?_
    refine lv_icmp_ge (tgt := 24) hx hb dX9_isNewlyReached_12 (by decide) (fun c3 => ?_) (fun c3 => ?_)
    · replace h := h.1 (k_le rfl rfl c3)
      refine lv_iconst (v := 0) hx hb dX9_isNewlyReached_24 (by decide) ?_
      exact W.zret (v := 0) hx hb hr (nz (Or.inl rfl)) (fun t9 ht9 hW9 => ⟨⟨_, S, rfl, ⟨h, hR.w, hsh, (Or.inl rfl)⟩, ⟨by rw [ht9]; exact hR.P, hR.D⟩⟩, hR.sS.F ht9⟩) hR.sS.2.2 dX9_isNewlyReached_25
    · replace h := h.2 (k_nle rfl rfl c3)
      refine lv_aload_n hx hb dX9_isNewlyReached_15 rfl (lv_at hl 0 rfl) ?_
      have hT_b4 : qT S (qO S 66 3) = 306 := hR.w.ref (hR.w.ptr ptrC_36) (hR.w.2.1 _ finC_31).2.1
      refine va_get (D := rD g) (ci := 8) (v := .ref (ad (qO S 66 3))) (C := RX9) (T := TX9) (N := 6) hx hb hts inX9 hown hR.K hR.P 66 (hR.at48 (hR.w.2.1 _ finC_31).2.1) rfl 3 (by decide) (hts _ kw_1554) (fun _ h9 => h9) (congrArg (fun z => some (vf ad z)) (hR.w.ptr ptrC_36)) dX9_isNewlyReached_16 ?_
      refine lv_iload_n hx hb dX9_isNewlyReached_19 rfl (lv_at hl 1 rfl) ?_
      obtain ⟨hv5, h⟩ := h
      refine va_zald hx hb hR.K hR.P (qO S 66 3) 2 (hR.atZ hT_b4 (by decide)) rfl (k_ix (x := x1) (a := x1.toInt) rfl hv5) dX9_isNewlyReached_20 ?_
      refine lv_topi (fun z6 ez6 => ?_)
      obtain rfl : z6 = (qI S (qO S 66 3) x1.toInt.toNat) := ez6
      have hz7 := hR.w.bit3 (b := (qO S 66 3)) (j := x1.toInt.toNat) (hT_b4) (by decide)
      refine lv_if_eq (tgt := 26) hx hb dX9_isNewlyReached_21 (by decide) (fun c8 => ?_) (fun c8 => ?_)
      · replace h := h.1 (k_eq rfl (by decide) c8)
        refine lv_aload_n hx hb dX9_isNewlyReached_26 rfl (lv_at hl 0 rfl) ?_
        have hT_b9 : qT S (qO S 66 3) = 306 := hR.w.ref (hR.w.ptr ptrC_36) (hR.w.2.1 _ finC_31).2.1
        refine va_get (D := rD g) (ci := 8) (v := .ref (ad (qO S 66 3))) (C := RX9) (T := TX9) (N := 6) hx hb hts inX9 hown hR.K hR.P 66 (hR.at48 (hR.w.2.1 _ finC_31).2.1) rfl 3 (by decide) (hts _ kw_1554) (fun _ h9 => h9) (congrArg (fun z => some (vf ad z)) (hR.w.ptr ptrC_36)) dX9_isNewlyReached_27 ?_
        refine lv_iload_n hx hb dX9_isNewlyReached_30 rfl (lv_at hl 1 rfl) ?_
        refine lv_iconst (v := 1) hx hb dX9_isNewlyReached_31 (by decide) ?_
        obtain ⟨hv10, h⟩ := h
        refine va_zast hx hb hR.K hR.P hR.D hR.sS (qO S 66 3) 2 (hR.atZ hT_b9 (by decide)) rfl (k_ix (x := x1) (a := x1.toInt) rfl hv10) dX9_isNewlyReached_32 (fun H locs hP hD hS => ?_)
        have hTk9 : qT S (qO S 66 3) = 306 := hT_b9
        have hR : RepC g ad A s (wI S (qO S 66 3) x1.toInt.toNat (vp_nar .boolean (1 : Int32))) H locs := hR.aZ hT_b9 (by decide) (bit_nz2 (Or.inr rfl)) hP hD hS
        obtain ⟨S11, eS11⟩ : ∃ z, z = wI S (qO S 66 3) x1.toInt.toNat (vp_nar .boolean (1 : Int32)) := ⟨_, rfl⟩
        rw [← eS11] at hR
        replace h := h S11 eS11 hTk9 hR.w
        have hsh : shy S S11 := by rw [eS11]; exact hsh
        refine lv_iconst (v := 1) hx hb dX9_isNewlyReached_33 (by decide) ?_
        exact W.zret (v := 1) hx hb hr (nz (Or.inr rfl)) (fun t9 ht9 hW9 => ⟨⟨_, S11, rfl, ⟨h, hR.w, hsh, (Or.inr rfl)⟩, ⟨by rw [ht9]; exact hR.P, hR.D⟩⟩, hR.sS.F ht9⟩) hR.sS.2.2 dX9_isNewlyReached_34
      · replace h := h.2 (k_ne rfl (by decide) c8)
        refine lv_iconst (v := 0) hx hb dX9_isNewlyReached_24 (by decide) ?_
        exact W.zret (v := 0) hx hb hr (nz (Or.inl rfl)) (fun t9 ht9 hW9 => ⟨⟨_, S, rfl, ⟨h, hR.w, hsh, (Or.inl rfl)⟩, ⟨by rw [ht9]; exact hR.P, hR.D⟩⟩, hR.sS.F ht9⟩) hR.sS.2.2 dX9_isNewlyReached_25
def w_X9_isRedirected_J117 (Q : Int32 → MS → Prop) (k11 : MS → Int32 → Int32 → Int32 → Prop) (U117 : MS) (v117_1 : Int32) (v117_2 : Int32) (v117_3 : Int32) : Prop := (wfC U117 → (∀ a20 : Int32, a20 = (v117_3 + Int32.ofInt 1) → k11 U117 v117_1 v117_2 a20))
def w_X9_isRedirected_J75 (Q : Int32 → MS → Prop) (k11 : MS → Int32 → Int32 → Int32 → Prop) (U75 : MS) (v75_1 : Int32) (v75_2 : Int32) (v75_3 : Int32) (v75_4 : Int32) : Prop := (wfC U75 → (d_X8_targetAt U75 (qO U75 66 0) v75_1 v75_3 ∧ ((v75_4.toInt = (fX8_targetAt U75 (qO U75 66 0) v75_1 v75_3).toInt → w_X9_isRedirected_J117 Q k11 U75 v75_1 v75_2 v75_3) ∧ (¬ v75_4.toInt = (fX8_targetAt U75 (qO U75 66 0) v75_1 v75_3).toInt → (d_X8_opAt U75 (qO U75 66 0) v75_4 ∧ (((fX8_opAt U75 (qO U75 66 0) v75_4).toInt = 167 → w_X9_isRedirected_J117 Q k11 U75 v75_1 v75_2 v75_3) ∧ (¬ (fX8_opAt U75 (qO U75 66 0) v75_4).toInt = 167 → (qT U75 (qO U75 66 0) = 47 → (∃ Q28, wX8_setTarget U75 (qO U75 66 0) v75_1 v75_3 v75_4 Q28 ∧ ∀ S29, Q28 S29 → wfC S29 → shy U75 S29 → Q (1 : Int32) S29)))))))))
def w_X9_isRedirected_L30 (Q : Int32 → MS → Prop) (k11 : MS → Int32 → Int32 → Int32 → Prop) : Nat → MS → Int32 → Int32 → Int32 → Int32 → Int32 → Prop
  | 0, _, _, _, _, _, _ => False
  | n30 + 1, U30, v30_1, v30_2, v30_3, v30_4, v30_5 => (wfC U30 → (d_X8_opAt U30 (qO U30 66 0) v30_4 ∧ (((fX8_opAt U30 (qO U30 66 0) v30_4).toInt = 167 → (((qI U30 (qO U30 66 0) 2).toInt < v30_5.toInt → w_X9_isRedirected_J75 Q k11 U30 v30_1 v30_2 v30_3 v30_4) ∧ (¬ (qI U30 (qO U30 66 0) 2).toInt < v30_5.toInt → (d_X8_targetAt U30 (qO U30 66 0) v30_4 (0 : Int32) ∧ (∀ a38 : Int32, a38 = (fX8_targetAt U30 (qO U30 66 0) v30_4 (0 : Int32)) → (∀ a39 : Int32, a39 = (v30_5 + Int32.ofInt 1) → (w_X9_isRedirected_L30 Q k11 n30) U30 v30_1 v30_2 v30_3 a38 a39)))))) ∧ (¬ (fX8_opAt U30 (qO U30 66 0) v30_4).toInt = 167 → w_X9_isRedirected_J75 Q k11 U30 v30_1 v30_2 v30_3 v30_4))))
def w_X9_isRedirected_L11 (Q : Int32 → MS → Prop) : Nat → MS → Int32 → Int32 → Int32 → Prop
  | 0, _, _, _, _ => False
  | n11 + 1, U11, v11_1, v11_2, v11_3 => (wfC U11 → ((v11_2.toInt ≤ v11_3.toInt → Q (0 : Int32) U11) ∧ (¬ v11_2.toInt ≤ v11_3.toInt → (d_X8_targetAt U11 (qO U11 66 0) v11_1 v11_3 ∧ (∀ a11 : Int32, a11 = (fX8_targetAt U11 (qO U11 66 0) v11_1 v11_3) → (∃ n, w_X9_isRedirected_L30 Q (w_X9_isRedirected_L11 Q n11) n U11 v11_1 v11_2 v11_3 a11 0))))))
def wX9_isRedirected (S : MS) (x1 : Int32) (Q : Int32 → MS → Prop) : Prop := (d_X8_targetCount S (qO S 66 0) x1 ∧ (∀ a5 : Int32, a5 = (fX8_targetCount S (qO S 66 0) x1) → (∃ n, w_X9_isRedirected_L11 Q n S x1 a5 0)))
set_option maxHeartbeats 2000000 in
set_option maxRecDepth 100000 in
theorem rX9_isRedirected (l : Launch) (g : Gr) (ad : Nat → Nat) (sz : Nat) (S : MS) (x1 : Int32) (hw : wfC S) (Q : Int32 → MS → Prop) (h : wX9_isRedirected S x1 Q) : Met l yX9_isRedirected (wt yX9_isRedirected cX9_isRedirected 6 (some .boolean)) ({ frames := 2, cells := 0, slots := 0, locals := 48 }) (va_Pc [.ref (ad 66), .int x1] (st_C g ad sz S)) (va_Qi (fun (r : Int32) (u : MS) => Q r u ∧ wfC u ∧ shy S u ∧ (r = 0 ∨ r = 1)) (fun (u : MS) (t : State) => qEC g ad (va_A (WdC g ad S) sz) u t) (va_A (WdC g ad S) sz)) 0 0 (va_A (WdC g ad S) sz) := by
  refine Met.ofW (cc := cX9_isRedirected) (maxL := 6) (ret := (some .boolean)) (by decide) rfl ?_
  intro p e s m args below meth c s₁ B hml hv
  obtain ⟨rfl, hsz, hP, hK, hD0, hex, hE⟩ := hv
  have hx := B.exec
  have hb := B.bytes
  have hr := B.returns
  have hts0 := atoms_spec (ws := wt yX9_isRedirected cX9_isRedirected 6 (some .boolean)) B.pre
  have hts : ∀ w ∈ tb, w.before _ s = true := fun w h => hts0 w (List.mem_cons_of_mem _ h)
  have hown : s.vm.findClass RX9 = some m.cls := findClass_of_methodNamed B.named
  subst hsz
  have hD := hD0.self (sz := s.heap.size)
  generalize hAe : va_A (WdC g ad S) s.heap.size = A at hD hE ⊢
  have hA : ∀ q : Nat, s.heap.size ≤ q → A q := fun q h => by rw [← hAe]; exact Or.inr h
  have hR : RepC g ad A s S s.heap [] := ⟨hK, hP, hD, va_S.rf, hw⟩
  clear hK hP hD hD0
  have hl := lv_entry ([.ref (ad 66), .int x1]) (n := 6) (Nat.le_of_ble_eq_true rfl)
  rw [lg_entry_eq]
  generalize (lg_sl ([.ref (ad 66), .int x1]) ++ List.replicate (6 - (lg_sl ([.ref (ad 66), .int x1])).length) Slot.unset).toArray = ls at hl ⊢
  have hl : lv_has ls 6 [(0, .ref (ad 66)), (1, .int x1)] := hl
  have hsh : shy S S := shy.rf
  unfold wX9_isRedirected at h
  refine lv_aload_n hx hb dX9_isRedirected_0 rfl (lv_at hl 0 rfl) ?_
  have hT_b1 : qT S (qO S 66 0) = 47 := hR.w.ref (hR.w.ptr ptrC_39) (hR.w.2.1 _ finC_31).2.1
  refine va_get (D := rD g) (ci := 8) (v := .ref (ad (qO S 66 0))) (C := RX9) (T := TX9) (N := 6) hx hb hts inX9 hown hR.K hR.P 66 (hR.at48 (hR.w.2.1 _ finC_31).2.1) rfl 0 (by decide) (hts _ kw_1552) (fun _ h9 => h9) (congrArg (fun z => some (vf ad z)) (hR.w.ptr ptrC_39)) dX9_isRedirected_1 ?_
  refine lv_iload_n hx hb dX9_isRedirected_4 rfl (lv_at hl 1 rfl) ?_
  obtain ⟨hv2, h⟩ := h
  have hFc := cfree hR hA
  refine va_calli (va_runV (As := [.int x1]) (rest := []) ⟨hx, hb, hml, hown, hts⟩ (rX8_targetCount l g ad s.heap.size S (qO S 66 0) x1 hR.w hT_b1 hv2) (cwV 1 hts (gd_V kw_1567 kw_1541 kw_1542 kw_782 kw_1540) rfl rfl rfl (by decide +kernel) ⟨Nat.le_of_ble_eq_true rfl, Nat.le_of_ble_eq_true rfl⟩) ⟨cblind, va_recv hR.K hR.P (ci := 7) (q0 := (qO S 66 0)) rfl (hR.at47 hT_b1), fun U hU hW9 => cmk hU hW9 hR hex hE hFc⟩ rfl rfl hl.1 rfl (lv_room (Nat.le_of_ble_eq_true rfl)) dX9_isRedirected_5 ⟨Nat.le_of_ble_eq_true rfl, Nat.le_of_ble_eq_true rfl⟩) hR.sS (fun q _ h => hFc q h) hFc (fun r3 u9 t9 H1 locs ht9 hvm9 hw9 hB9 hz9 hk9 hS => ?_)
  have hR : RepC g ad A s S H1 locs := hR.call ht9 hB9 hR.w hS hFc
  obtain rfl : r3 = (fX8_targetCount S (qO S 66 0) x1) := hw9
  clear hB9 hz9 hk9 hvm9 ht9 hS
  generalize H1 = H at hR ⊢
  obtain ⟨a5, ea5⟩ : ∃ z, z = (fX8_targetCount S (qO S 66 0) x1) := ⟨_, rfl⟩
  rw [← ea5]
  replace h := h a5 ea5
  refine lv_istore_n (lv' := [(2, .int a5), (0, .ref (ad 66)), (1, .int x1)]) hx hb dX9_isRedirected_8 rfl hl (by decide) rfl (fun ls hl => ?_)
  refine lv_iconst (v := 0) hx hb dX9_isRedirected_9 (by decide) ?_
  refine lv_istore_n (lv' := [(3, .int 0), (2, .int a5), (0, .ref (ad 66)), (1, .int x1)]) hx hb dX9_isRedirected_10 rfl hl (by decide) rfl (fun ls hl => ?_)
  have J_11 : ∀ (n11 : Nat) (U11 : MS) (v11_1 : Int32) (v11_2 : Int32) (v11_3 : Int32) (H : Heap) (locs : List Loc) (ls : Array Slot), w_X9_isRedirected_L11 Q n11 U11 v11_1 v11_2 v11_3 → shy S U11 → RepC g ad A s U11 H locs → lv_has ls 6 [(0, .ref (ad 66)), (1, .int v11_1), (2, .int v11_2), (3, .int v11_3)] → W p l e (headSpec (wt yX9_isRedirected cX9_isRedirected 6 (some .boolean)) ({ frames := 2, cells := 0, slots := 0, locals := 48 })).room s m ([.ref (ad 66), .int x1] : List Value).toArray below meth c H locs 0 0 (MQ below (va_Qi (fun (r : Int32) (u : MS) => Q r u ∧ wfC u ∧ shy S u ∧ (r = 0 ∨ r = 1)) (fun (u : MS) (t : State) => qEC g ad A u t) A) ([.ref (ad 66), .int x1] : List Value).toArray s 0 0 A) (F0 m 11 ls []) := by
    intro n11
    induction n11 with
    | zero => intro U11 v11_1 v11_2 v11_3 H locs ls h hsh hR hl; unfold w_X9_isRedirected_L11 at h; exact h.elim
    | succ n11 ih_11 =>
      intro U11 v11_1 v11_2 v11_3 H locs ls h hsh hR hl
      unfold w_X9_isRedirected_L11 at h
      replace h := h hR.w
      refine lv_iload_n hx hb dX9_isRedirected_11 rfl (lv_at hl 3 rfl) ?_
      refine lv_iload_n hx hb dX9_isRedirected_12 rfl (lv_at hl 2 rfl) ?_
      refine lv_icmp_ge (tgt := 123) hx hb dX9_isRedirected_13 (by decide) (fun c6 => ?_) (fun c6 => ?_)
      · replace h := h.1 (k_le rfl rfl c6)
        refine lv_iconst (v := 0) hx hb dX9_isRedirected_123 (by decide) ?_
        exact W.zret (v := 0) hx hb hr (nz (Or.inl rfl)) (fun t9 ht9 hW9 => ⟨⟨_, U11, rfl, ⟨h, hR.w, hsh, (Or.inl rfl)⟩, ⟨by rw [ht9]; exact hR.P, hR.D⟩⟩, hR.sS.F ht9⟩) hR.sS.2.2 dX9_isRedirected_124
      · replace h := h.2 (k_nle rfl rfl c6)
        refine lv_aload_n hx hb dX9_isRedirected_16 rfl (lv_at hl 0 rfl) ?_
        have hT_b7 : qT U11 (qO U11 66 0) = 47 := hR.w.ref (hR.w.ptr ptrC_39) (hR.w.2.1 _ finC_31).2.1
        refine va_get (D := rD g) (ci := 8) (v := .ref (ad (qO U11 66 0))) (C := RX9) (T := TX9) (N := 6) hx hb hts inX9 hown hR.K hR.P 66 (hR.at48 (hR.w.2.1 _ finC_31).2.1) rfl 0 (by decide) (hts _ kw_1552) (fun _ h9 => h9) (congrArg (fun z => some (vf ad z)) (hR.w.ptr ptrC_39)) dX9_isRedirected_17 ?_
        refine lv_iload_n hx hb dX9_isRedirected_20 rfl (lv_at hl 1 rfl) ?_
        refine lv_iload_n hx hb dX9_isRedirected_21 rfl (lv_at hl 3 rfl) ?_
        obtain ⟨hv8, h⟩ := h
        have hFc := cfree hR hA
        refine va_calli (va_runV (As := [.int v11_1, .int v11_3]) (rest := []) ⟨hx, hb, hml, hown, hts⟩ (rX8_targetAt l g ad H.size U11 (qO U11 66 0) v11_1 v11_3 hR.w hT_b7 hv8) (cwV 2 hts (gd_V kw_1568 kw_1537 kw_1538 kw_782 kw_1536) rfl rfl rfl (by decide +kernel) ⟨Nat.le_of_ble_eq_true rfl, Nat.le_of_ble_eq_true rfl⟩) ⟨cblind, va_recv hR.K hR.P (ci := 7) (q0 := (qO U11 66 0)) rfl (hR.at47 hT_b7), fun U hU hW9 => cmk hU hW9 hR hex hE hFc⟩ rfl rfl hl.1 rfl (lv_room (Nat.le_of_ble_eq_true rfl)) dX9_isRedirected_22 ⟨Nat.le_of_ble_eq_true rfl, Nat.le_of_ble_eq_true rfl⟩) hR.sS (fun q _ h => hFc q h) hFc (fun r9 u9 t9 H1 locs ht9 hvm9 hw9 hB9 hz9 hk9 hS => ?_)
        have hR : RepC g ad A s U11 H1 locs := hR.call ht9 hB9 hR.w hS hFc
        obtain rfl : r9 = (fX8_targetAt U11 (qO U11 66 0) v11_1 v11_3) := hw9
        clear hB9 hz9 hk9 hvm9 ht9 hS
        generalize H1 = H at hR ⊢
        obtain ⟨a11, ea11⟩ : ∃ z, z = (fX8_targetAt U11 (qO U11 66 0) v11_1 v11_3) := ⟨_, rfl⟩
        rw [← ea11]
        replace h := h a11 ea11
        refine lv_istore (lv' := [(4, .int a11), (0, .ref (ad 66)), (1, .int v11_1), (2, .int v11_2), (3, .int v11_3)]) hx hb dX9_isRedirected_25 hl (by decide) rfl (fun ls hl => ?_)
        refine lv_iconst (v := 0) hx hb dX9_isRedirected_27 (by decide) ?_
        refine lv_istore (lv' := [(5, .int 0), (4, .int a11), (0, .ref (ad 66)), (1, .int v11_1), (2, .int v11_2), (3, .int v11_3)]) hx hb dX9_isRedirected_28 hl (by decide) rfl (fun ls hl => ?_)
        have J_30 : ∀ (n30 : Nat) (U30 : MS) (v30_1 : Int32) (v30_2 : Int32) (v30_3 : Int32) (v30_4 : Int32) (v30_5 : Int32) (H : Heap) (locs : List Loc) (ls : Array Slot), w_X9_isRedirected_L30 Q (w_X9_isRedirected_L11 Q n11) n30 U30 v30_1 v30_2 v30_3 v30_4 v30_5 → shy S U30 → RepC g ad A s U30 H locs → lv_has ls 6 [(0, .ref (ad 66)), (1, .int v30_1), (2, .int v30_2), (3, .int v30_3), (4, .int v30_4), (5, .int v30_5)] → W p l e (headSpec (wt yX9_isRedirected cX9_isRedirected 6 (some .boolean)) ({ frames := 2, cells := 0, slots := 0, locals := 48 })).room s m ([.ref (ad 66), .int x1] : List Value).toArray below meth c H locs 0 0 (MQ below (va_Qi (fun (r : Int32) (u : MS) => Q r u ∧ wfC u ∧ shy S u ∧ (r = 0 ∨ r = 1)) (fun (u : MS) (t : State) => qEC g ad A u t) A) ([.ref (ad 66), .int x1] : List Value).toArray s 0 0 A) (F0 m 30 ls []) := by
          intro n30
          induction n30 with
          | zero => intro U30 v30_1 v30_2 v30_3 v30_4 v30_5 H locs ls h hsh hR hl; unfold w_X9_isRedirected_L30 at h; exact h.elim
          | succ n30 ih_30 =>
            intro U30 v30_1 v30_2 v30_3 v30_4 v30_5 H locs ls h hsh hR hl
            unfold w_X9_isRedirected_L30 at h
            replace h := h hR.w
            refine lv_aload_n hx hb dX9_isRedirected_30 rfl (lv_at hl 0 rfl) ?_
            have hT_b12 : qT U30 (qO U30 66 0) = 47 := hR.w.ref (hR.w.ptr ptrC_39) (hR.w.2.1 _ finC_31).2.1
            refine va_get (D := rD g) (ci := 8) (v := .ref (ad (qO U30 66 0))) (C := RX9) (T := TX9) (N := 6) hx hb hts inX9 hown hR.K hR.P 66 (hR.at48 (hR.w.2.1 _ finC_31).2.1) rfl 0 (by decide) (hts _ kw_1552) (fun _ h9 => h9) (congrArg (fun z => some (vf ad z)) (hR.w.ptr ptrC_39)) dX9_isRedirected_31 ?_
            refine lv_iload hx hb dX9_isRedirected_34 (lv_at hl 4 rfl) ?_
            obtain ⟨hv13, h⟩ := h
            have hFc := cfree hR hA
            refine va_calli (va_runV (As := [.int v30_4]) (rest := []) ⟨hx, hb, hml, hown, hts⟩ (rX8_opAt l g ad H.size U30 (qO U30 66 0) v30_4 hR.w hT_b12 hv13) (cwV 1 hts (gd_V kw_1596 kw_1513 kw_1514 kw_782 kw_1512) rfl rfl rfl (by decide +kernel) ⟨Nat.le_of_ble_eq_true rfl, Nat.le_of_ble_eq_true rfl⟩) ⟨cblind, va_recv hR.K hR.P (ci := 7) (q0 := (qO U30 66 0)) rfl (hR.at47 hT_b12), fun U hU hW9 => cmk hU hW9 hR hex hE hFc⟩ rfl rfl hl.1 rfl (lv_room (Nat.le_of_ble_eq_true rfl)) dX9_isRedirected_36 ⟨Nat.le_of_ble_eq_true rfl, Nat.le_of_ble_eq_true rfl⟩) hR.sS (fun q _ h => hFc q h) hFc (fun r14 u9 t9 H1 locs ht9 hvm9 hw9 hB9 hz9 hk9 hS => ?_)
            have hR : RepC g ad A s U30 H1 locs := hR.call ht9 hB9 hR.w hS hFc
            obtain rfl : r14 = (fX8_opAt U30 (qO U30 66 0) v30_4) := hw9
            clear hB9 hz9 hk9 hvm9 ht9 hS
            generalize H1 = H at hR ⊢
            refine lv_sipush (v := 167) hx hb dX9_isRedirected_39 (by decide) ?_
            have J_75 : ∀ (U75 : MS) (v75_1 : Int32) (v75_2 : Int32) (v75_3 : Int32) (v75_4 : Int32) (H : Heap) (locs : List Loc) (ls : Array Slot), w_X9_isRedirected_J75 Q (w_X9_isRedirected_L11 Q n11) U75 v75_1 v75_2 v75_3 v75_4 → shy S U75 → RepC g ad A s U75 H locs → lv_has ls 6 [(0, .ref (ad 66)), (1, .int v75_1), (2, .int v75_2), (3, .int v75_3), (4, .int v75_4)] → W p l e (headSpec (wt yX9_isRedirected cX9_isRedirected 6 (some .boolean)) ({ frames := 2, cells := 0, slots := 0, locals := 48 })).room s m ([.ref (ad 66), .int x1] : List Value).toArray below meth c H locs 0 0 (MQ below (va_Qi (fun (r : Int32) (u : MS) => Q r u ∧ wfC u ∧ shy S u ∧ (r = 0 ∨ r = 1)) (fun (u : MS) (t : State) => qEC g ad A u t) A) ([.ref (ad 66), .int x1] : List Value).toArray s 0 0 A) (F0 m 75 ls []) := by
              intro U75 v75_1 v75_2 v75_3 v75_4 H locs ls h hsh hR hl
              unfold w_X9_isRedirected_J75 at h
              replace h := h hR.w
              refine lv_iload hx hb dX9_isRedirected_75 (lv_at hl 4 rfl) ?_
              refine lv_aload_n hx hb dX9_isRedirected_77 rfl (lv_at hl 0 rfl) ?_
              have hT_b16 : qT U75 (qO U75 66 0) = 47 := hR.w.ref (hR.w.ptr ptrC_39) (hR.w.2.1 _ finC_31).2.1
              refine va_get (D := rD g) (ci := 8) (v := .ref (ad (qO U75 66 0))) (C := RX9) (T := TX9) (N := 6) hx hb hts inX9 hown hR.K hR.P 66 (hR.at48 (hR.w.2.1 _ finC_31).2.1) rfl 0 (by decide) (hts _ kw_1552) (fun _ h9 => h9) (congrArg (fun z => some (vf ad z)) (hR.w.ptr ptrC_39)) dX9_isRedirected_78 ?_
              refine lv_iload_n hx hb dX9_isRedirected_81 rfl (lv_at hl 1 rfl) ?_
              refine lv_iload_n hx hb dX9_isRedirected_82 rfl (lv_at hl 3 rfl) ?_
              obtain ⟨hv17, h⟩ := h
              have hFc := cfree hR hA
              refine va_calli (va_runV (As := [.int v75_1, .int v75_3]) (rest := [.int v75_4]) ⟨hx, hb, hml, hown, hts⟩ (rX8_targetAt l g ad H.size U75 (qO U75 66 0) v75_1 v75_3 hR.w hT_b16 hv17) (cwV 2 hts (gd_V kw_1568 kw_1537 kw_1538 kw_782 kw_1536) rfl rfl rfl (by decide +kernel) ⟨Nat.le_of_ble_eq_true rfl, Nat.le_of_ble_eq_true rfl⟩) ⟨cblind, va_recv hR.K hR.P (ci := 7) (q0 := (qO U75 66 0)) rfl (hR.at47 hT_b16), fun U hU hW9 => cmk hU hW9 hR hex hE hFc⟩ rfl rfl hl.1 rfl (lv_room (Nat.le_of_ble_eq_true rfl)) dX9_isRedirected_83 ⟨Nat.le_of_ble_eq_true rfl, Nat.le_of_ble_eq_true rfl⟩) hR.sS (fun q _ h => hFc q h) hFc (fun r18 u9 t9 H1 locs ht9 hvm9 hw9 hB9 hz9 hk9 hS => ?_)
              have hR : RepC g ad A s U75 H1 locs := hR.call ht9 hB9 hR.w hS hFc
              obtain rfl : r18 = (fX8_targetAt U75 (qO U75 66 0) v75_1 v75_3) := hw9
              clear hB9 hz9 hk9 hvm9 ht9 hS
              generalize H1 = H at hR ⊢
              have J_117 : ∀ (U117 : MS) (v117_1 : Int32) (v117_2 : Int32) (v117_3 : Int32) (H : Heap) (locs : List Loc) (ls : Array Slot), w_X9_isRedirected_J117 Q (w_X9_isRedirected_L11 Q n11) U117 v117_1 v117_2 v117_3 → shy S U117 → RepC g ad A s U117 H locs → lv_has ls 6 [(0, .ref (ad 66)), (1, .int v117_1), (2, .int v117_2), (3, .int v117_3)] → W p l e (headSpec (wt yX9_isRedirected cX9_isRedirected 6 (some .boolean)) ({ frames := 2, cells := 0, slots := 0, locals := 48 })).room s m ([.ref (ad 66), .int x1] : List Value).toArray below meth c H locs 0 0 (MQ below (va_Qi (fun (r : Int32) (u : MS) => Q r u ∧ wfC u ∧ shy S u ∧ (r = 0 ∨ r = 1)) (fun (u : MS) (t : State) => qEC g ad A u t) A) ([.ref (ad 66), .int x1] : List Value).toArray s 0 0 A) (F0 m 117 ls []) := by
                intro U117 v117_1 v117_2 v117_3 H locs ls h hsh hR hl
                unfold w_X9_isRedirected_J117 at h
                replace h := h hR.w
                obtain ⟨a20, ea20⟩ : ∃ z, z = (v117_3 + Int32.ofInt 1) := ⟨_, rfl⟩
                replace h := h a20 ea20
                refine lv_iinc (v := a20) (lv' := [(3, .int a20), (0, .ref (ad 66)), (1, .int v117_1), (2, .int v117_2)]) hx hb dX9_isRedirected_117 hl (k := 3) rfl ea20.symm (by decide) rfl (fun ls hl => ?_)
                refine lv_goto (tgt := 11) hx hb dX9_isRedirected_120 (by decide) ?_
                exact ih_11 U117 v117_1 v117_2 a20 _ _ ls h  hsh hR (lv_sub hl [1, 2, 3, 0] rfl)
              refine lv_icmp_eq (tgt := 117) hx hb dX9_isRedirected_86 (by decide) (fun c21 => ?_) (fun c21 => ?_)
              · replace h := h.1 (k_eq rfl rfl c21)
                exact J_117 U75 v75_1 v75_2 v75_3 _ _ ls h  hsh hR (lv_sub hl [0, 1, 2, 3] rfl)
              · replace h := h.2 (k_ne rfl rfl c21)
                refine lv_aload_n hx hb dX9_isRedirected_89 rfl (lv_at hl 0 rfl) ?_
                have hT_b22 : qT U75 (qO U75 66 0) = 47 := hR.w.ref (hR.w.ptr ptrC_39) (hR.w.2.1 _ finC_31).2.1
                refine va_get (D := rD g) (ci := 8) (v := .ref (ad (qO U75 66 0))) (C := RX9) (T := TX9) (N := 6) hx hb hts inX9 hown hR.K hR.P 66 (hR.at48 (hR.w.2.1 _ finC_31).2.1) rfl 0 (by decide) (hts _ kw_1552) (fun _ h9 => h9) (congrArg (fun z => some (vf ad z)) (hR.w.ptr ptrC_39)) dX9_isRedirected_90 ?_
                refine lv_iload hx hb dX9_isRedirected_93 (lv_at hl 4 rfl) ?_
                obtain ⟨hv23, h⟩ := h
                have hFc := cfree hR hA
                refine va_calli (va_runV (As := [.int v75_4]) (rest := []) ⟨hx, hb, hml, hown, hts⟩ (rX8_opAt l g ad H.size U75 (qO U75 66 0) v75_4 hR.w hT_b22 hv23) (cwV 1 hts (gd_V kw_1596 kw_1513 kw_1514 kw_782 kw_1512) rfl rfl rfl (by decide +kernel) ⟨Nat.le_of_ble_eq_true rfl, Nat.le_of_ble_eq_true rfl⟩) ⟨cblind, va_recv hR.K hR.P (ci := 7) (q0 := (qO U75 66 0)) rfl (hR.at47 hT_b22), fun U hU hW9 => cmk hU hW9 hR hex hE hFc⟩ rfl rfl hl.1 rfl (lv_room (Nat.le_of_ble_eq_true rfl)) dX9_isRedirected_95 ⟨Nat.le_of_ble_eq_true rfl, Nat.le_of_ble_eq_true rfl⟩) hR.sS (fun q _ h => hFc q h) hFc (fun r24 u9 t9 H1 locs ht9 hvm9 hw9 hB9 hz9 hk9 hS => ?_)
                have hR : RepC g ad A s U75 H1 locs := hR.call ht9 hB9 hR.w hS hFc
                obtain rfl : r24 = (fX8_opAt U75 (qO U75 66 0) v75_4) := hw9
                clear hB9 hz9 hk9 hvm9 ht9 hS
                generalize H1 = H at hR ⊢
                refine lv_sipush (v := 167) hx hb dX9_isRedirected_98 (by decide) ?_
                refine lv_icmp_eq (tgt := 117) hx hb dX9_isRedirected_101 (by decide) (fun c26 => ?_) (fun c26 => ?_)
                · replace h := h.1 (k_eq rfl (by decide) c26)
                  exact J_117 U75 v75_1 v75_2 v75_3 _ _ ls h  hsh hR (lv_sub hl [0, 1, 2, 3] rfl)
                · replace h := h.2 (k_ne rfl (by decide) c26)
                  refine lv_aload_n hx hb dX9_isRedirected_104 rfl (lv_at hl 0 rfl) ?_
                  have hT_b27 : qT U75 (qO U75 66 0) = 47 := hR.w.ref (hR.w.ptr ptrC_39) (hR.w.2.1 _ finC_31).2.1
                  refine va_get (D := rD g) (ci := 8) (v := .ref (ad (qO U75 66 0))) (C := RX9) (T := TX9) (N := 6) hx hb hts inX9 hown hR.K hR.P 66 (hR.at48 (hR.w.2.1 _ finC_31).2.1) rfl 0 (by decide) (hts _ kw_1552) (fun _ h9 => h9) (congrArg (fun z => some (vf ad z)) (hR.w.ptr ptrC_39)) dX9_isRedirected_105 ?_
                  refine lv_iload_n hx hb dX9_isRedirected_108 rfl (lv_at hl 1 rfl) ?_
                  refine lv_iload_n hx hb dX9_isRedirected_109 rfl (lv_at hl 3 rfl) ?_
                  refine lv_iload hx hb dX9_isRedirected_110 (lv_at hl 4 rfl) ?_
                  replace h := h (hT_b27)
                  obtain ⟨Q28, h0, h⟩ := h
                  have hFc := cfree hR hA
                  refine va_callv (va_runV (As := [.int v75_1, .int v75_3, .int v75_4]) (rest := []) ⟨hx, hb, hml, hown, hts⟩ (rX8_setTarget l g ad H.size U75 (qO U75 66 0) v75_1 v75_3 v75_4 hR.w hT_b27 Q28 h0) (cwV 3 hts (gd_V kw_1651 kw_1526 kw_1527 kw_782 kw_1525) rfl rfl rfl (by decide +kernel) ⟨Nat.le_of_ble_eq_true rfl, Nat.le_of_ble_eq_true rfl⟩) ⟨cblind, va_recv hR.K hR.P (ci := 7) (q0 := (qO U75 66 0)) rfl (hR.at47 hT_b27), fun U hU hW9 => cmk hU hW9 hR hex hE hFc⟩ rfl rfl hl.1 rfl (lv_room (Nat.le_of_ble_eq_true rfl)) dX9_isRedirected_112 ⟨Nat.le_of_ble_eq_true rfl, Nat.le_of_ble_eq_true rfl⟩) hR.sS (fun q _ h => hFc q h) hFc (fun  S29 t9 H1 locs ht9 hvm9 hw9 hB9 hz9 hk9 hS => ?_)
                  obtain ⟨hq30, hw9, hs9⟩ := hw9
                  have hR : RepC g ad A s S29 H1 locs := hR.call ht9 hB9 hw9 hS hFc
                  have hsh := hsh.tr hs9
                  replace h := h  S29 hq30 hw9 hs9
                  clear hB9 hz9 hk9 hvm9 ht9 hw9 hs9 hS
                  generalize H1 = H at hR ⊢
                  refine lv_iconst (v := 1) hx hb dX9_isRedirected_115 (by decide) ?_
                  exact W.zret (v := 1) hx hb hr (nz (Or.inr rfl)) (fun t9 ht9 hW9 => ⟨⟨_, S29, rfl, ⟨h, hR.w, hsh, (Or.inr rfl)⟩, ⟨by rw [ht9]; exact hR.P, hR.D⟩⟩, hR.sS.F ht9⟩) hR.sS.2.2 dX9_isRedirected_116
            refine lv_icmp_ne (tgt := 75) hx hb dX9_isRedirected_42 (by decide) (fun c31 => ?_) (fun c31 => ?_)
            · replace h := h.2 (k_ne rfl (by decide) c31)
              exact J_75 U30 v30_1 v30_2 v30_3 v30_4 _ _ ls h  hsh hR (lv_sub hl [0, 1, 2, 3, 4] rfl)
            · replace h := h.1 (k_eq rfl (by decide) c31)
              refine lv_iload hx hb dX9_isRedirected_45 (lv_at hl 5 rfl) ?_
              refine lv_aload_n hx hb dX9_isRedirected_47 rfl (lv_at hl 0 rfl) ?_
              have hT_b32 : qT U30 (qO U30 66 0) = 47 := hR.w.ref (hR.w.ptr ptrC_39) (hR.w.2.1 _ finC_31).2.1
              refine va_get (D := rD g) (ci := 8) (v := .ref (ad (qO U30 66 0))) (C := RX9) (T := TX9) (N := 6) hx hb hts inX9 hown hR.K hR.P 66 (hR.at48 (hR.w.2.1 _ finC_31).2.1) rfl 0 (by decide) (hts _ kw_1552) (fun _ h9 => h9) (congrArg (fun z => some (vf ad z)) (hR.w.ptr ptrC_39)) dX9_isRedirected_48 ?_
              refine va_get (D := rD g) (ci := 7) (v := .int (qI U30 (qO U30 66 0) 2)) (C := RX8) (T := TX8) (N := 15) hx hb hts inX8 hown hR.K hR.P (qO U30 66 0) (hR.at47 hT_b32) rfl 2 (by decide) (hts _ kw_1553) (fun _ h9 => h9) rfl dX9_isRedirected_51 ?_
              refine lv_icmp_gt (tgt := 75) hx hb dX9_isRedirected_54 (by decide) (fun c33 => ?_) (fun c33 => ?_)
              · replace h := h.1 (k_lt rfl rfl c33)
                exact J_75 U30 v30_1 v30_2 v30_3 v30_4 _ _ ls h  hsh hR (lv_sub hl [0, 1, 2, 3, 4] rfl)
              · replace h := h.2 (k_nlt rfl rfl c33)
                refine lv_aload_n hx hb dX9_isRedirected_57 rfl (lv_at hl 0 rfl) ?_
                have hT_b34 : qT U30 (qO U30 66 0) = 47 := hR.w.ref (hR.w.ptr ptrC_39) (hR.w.2.1 _ finC_31).2.1
                refine va_get (D := rD g) (ci := 8) (v := .ref (ad (qO U30 66 0))) (C := RX9) (T := TX9) (N := 6) hx hb hts inX9 hown hR.K hR.P 66 (hR.at48 (hR.w.2.1 _ finC_31).2.1) rfl 0 (by decide) (hts _ kw_1552) (fun _ h9 => h9) (congrArg (fun z => some (vf ad z)) (hR.w.ptr ptrC_39)) dX9_isRedirected_58 ?_
                refine lv_iload hx hb dX9_isRedirected_61 (lv_at hl 4 rfl) ?_
                refine lv_iconst (v := 0) hx hb dX9_isRedirected_63 (by decide) ?_
                obtain ⟨hv35, h⟩ := h
                have hFc := cfree hR hA
                refine va_calli (va_runV (As := [.int v30_4, .int 0]) (rest := []) ⟨hx, hb, hml, hown, hts⟩ (rX8_targetAt l g ad H.size U30 (qO U30 66 0) v30_4 (0 : Int32) hR.w hT_b34 hv35) (cwV 2 hts (gd_V kw_1568 kw_1537 kw_1538 kw_782 kw_1536) rfl rfl rfl (by decide +kernel) ⟨Nat.le_of_ble_eq_true rfl, Nat.le_of_ble_eq_true rfl⟩) ⟨cblind, va_recv hR.K hR.P (ci := 7) (q0 := (qO U30 66 0)) rfl (hR.at47 hT_b34), fun U hU hW9 => cmk hU hW9 hR hex hE hFc⟩ rfl rfl hl.1 rfl (lv_room (Nat.le_of_ble_eq_true rfl)) dX9_isRedirected_64 ⟨Nat.le_of_ble_eq_true rfl, Nat.le_of_ble_eq_true rfl⟩) hR.sS (fun q _ h => hFc q h) hFc (fun r36 u9 t9 H1 locs ht9 hvm9 hw9 hB9 hz9 hk9 hS => ?_)
                have hR : RepC g ad A s U30 H1 locs := hR.call ht9 hB9 hR.w hS hFc
                obtain rfl : r36 = (fX8_targetAt U30 (qO U30 66 0) v30_4 (0 : Int32)) := hw9
                clear hB9 hz9 hk9 hvm9 ht9 hS
                generalize H1 = H at hR ⊢
                obtain ⟨a38, ea38⟩ : ∃ z, z = (fX8_targetAt U30 (qO U30 66 0) v30_4 (0 : Int32)) := ⟨_, rfl⟩
                rw [← ea38]
                replace h := h a38 ea38
                refine lv_istore (lv' := [(4, .int a38), (0, .ref (ad 66)), (1, .int v30_1), (2, .int v30_2), (3, .int v30_3), (5, .int v30_5)]) hx hb dX9_isRedirected_67 hl (by decide) rfl (fun ls hl => ?_)
                obtain ⟨a39, ea39⟩ : ∃ z, z = (v30_5 + Int32.ofInt 1) := ⟨_, rfl⟩
                replace h := h a39 ea39
                refine lv_iinc (v := a39) (lv' := [(5, .int a39), (4, .int a38), (0, .ref (ad 66)), (1, .int v30_1), (2, .int v30_2), (3, .int v30_3)]) hx hb dX9_isRedirected_69 hl (k := 5) rfl ea39.symm (by decide) rfl (fun ls hl => ?_)
                refine lv_goto (tgt := 30) hx hb dX9_isRedirected_72 (by decide) ?_
                exact ih_30 U30 v30_1 v30_2 v30_3 a38 a39 _ _ ls h  hsh hR (lv_sub hl [2, 3, 4, 5, 1, 0] rfl)
        obtain ⟨n9, h⟩ := h
        exact J_30 n9 U11 v11_1 v11_2 v11_3 a11 0 _ _ ls h  hsh hR (lv_sub hl [2, 3, 4, 5, 1, 0] rfl)
  obtain ⟨n9, h⟩ := h
  exact J_11 n9 S x1 a5 0 _ _ ls h  hsh hR (lv_sub hl [2, 3, 1, 0] rfl)
def wX9_mark (S : MS) (x1 : Int32) (Q : MS → Prop) : Prop := ((x1.toInt < 0 → Q S) ∧ (¬ x1.toInt < 0 → (((qN S (qO S 66 2) : Int) ≤ x1.toInt → Q S) ∧ (¬ (qN S (qO S 66 2) : Int) ≤ x1.toInt → (((0 : Int) ≤ x1.toInt ∧ x1.toInt < (qN S (qO S 66 2) : Int)) ∧ (∀ S7, S7 = wI S (qO S 66 2) x1.toInt.toNat (vp_nar .boolean (1 : Int32)) → qT S (qO S 66 2) = 305 → wfC S7 → Q S7))))))
set_option maxHeartbeats 2000000 in
set_option maxRecDepth 100000 in
theorem rX9_mark (l : Launch) (g : Gr) (ad : Nat → Nat) (sz : Nat) (S : MS) (x1 : Int32) (hw : wfC S) (Q : MS → Prop) (h : wX9_mark S x1 Q) : Met l yX9_mark (wt yX9_mark cX9_mark 2 none) ({ frames := 0, cells := 0, slots := 0, locals := 0 }) (va_Pc [.ref (ad 66), .int x1] (st_C g ad sz S)) (va_Qv (fun (u : MS) => Q u ∧ wfC u ∧ shy S u) (fun (u : MS) (t : State) => qEC g ad (va_A (WdC g ad S) sz) u t) (va_A (WdC g ad S) sz)) 0 0 (va_A (WdC g ad S) sz) := by
  refine Met.ofW (cc := cX9_mark) (maxL := 2) (ret := none) (by decide) rfl ?_
  intro p e s m args below meth c s₁ B hml hv
  obtain ⟨rfl, hsz, hP, hK, hD0, hex, hE⟩ := hv
  have hx := B.exec
  have hb := B.bytes
  have hr := B.returns
  have hts0 := atoms_spec (ws := wt yX9_mark cX9_mark 2 none) B.pre
  have hts : ∀ w ∈ tb, w.before _ s = true := fun w h => hts0 w (List.mem_cons_of_mem _ h)
  have hown : s.vm.findClass RX9 = some m.cls := findClass_of_methodNamed B.named
  subst hsz
  have hD := hD0.self (sz := s.heap.size)
  generalize hAe : va_A (WdC g ad S) s.heap.size = A at hD hE ⊢
  have hA : ∀ q : Nat, s.heap.size ≤ q → A q := fun q h => by rw [← hAe]; exact Or.inr h
  have hR : RepC g ad A s S s.heap [] := ⟨hK, hP, hD, va_S.rf, hw⟩
  clear hK hP hD hD0
  have hl := lv_entry ([.ref (ad 66), .int x1]) (n := 2) (Nat.le_of_ble_eq_true rfl)
  rw [lg_entry_eq]
  generalize (lg_sl ([.ref (ad 66), .int x1]) ++ List.replicate (2 - (lg_sl ([.ref (ad 66), .int x1])).length) Slot.unset).toArray = ls at hl ⊢
  have hl : lv_has ls 2 [(0, .ref (ad 66)), (1, .int x1)] := hl
  have hsh : shy S S := shy.rf
  unfold wX9_mark at h
  refine lv_iload_n hx hb dX9_mark_0 rfl (lv_at hl 1 rfl) ?_
  refine lv_if_lt (tgt := 20) hx hb dX9_mark_1 (by decide) (fun c1 => ?_) (fun c1 => ?_)
  · replace h := h.1 (k_lt rfl (by decide) c1)
    exact W.vret hx hb hr (fun t9 ht9 hW9 => ⟨⟨S, rfl, ⟨h, hR.w, hsh⟩, ⟨by rw [ht9]; exact hR.P, hR.D⟩⟩, hR.sS.F ht9⟩) hR.sS.2.2 dX9_mark_20
  · replace h := h.2 (k_nlt rfl (by decide) c1)
    refine lv_iload_n hx hb dX9_mark_4 rfl (lv_at hl 1 rfl) ?_
    refine lv_aload_n hx hb dX9_mark_5 rfl (lv_at hl 0 rfl) ?_
    have hT_b2 : qT S (qO S 66 2) = 305 := hR.w.ref (hR.w.ptr ptrC_35) (hR.w.2.1 _ finC_31).2.1
    refine va_get (D := rD g) (ci := 8) (v := .ref (ad (qO S 66 2))) (C := RX9) (T := TX9) (N := 6) hx hb hts inX9 hown hR.K hR.P 66 (hR.at48 (hR.w.2.1 _ finC_31).2.1) rfl 2 (by decide) (hts _ kw_1566) (fun _ h9 => h9) (congrArg (fun z => some (vf ad z)) (hR.w.ptr ptrC_35)) dX9_mark_6 ?_
    refine va_alen (v := (Int32.ofNat (qN S (qO S 66 2)))) hx hb hR.K hR.P (qO S 66 2) 2 (hR.atZ hT_b2 (by decide)) rfl rfl dX9_mark_9 ?_
    have hln3 : (Int32.ofNat (qN S (qO S 66 2))).toInt = (qN S (qO S 66 2) : Int) := toI_len (hR.w.len9 (hT_b2) (by decide))
    refine lv_icmp_ge (tgt := 20) hx hb dX9_mark_10 (by decide) (fun c4 => ?_) (fun c4 => ?_)
    · replace h := h.1 (k_le hln3 rfl c4)
      exact W.vret hx hb hr (fun t9 ht9 hW9 => ⟨⟨S, rfl, ⟨h, hR.w, hsh⟩, ⟨by rw [ht9]; exact hR.P, hR.D⟩⟩, hR.sS.F ht9⟩) hR.sS.2.2 dX9_mark_20
    · replace h := h.2 (k_nle hln3 rfl c4)
      refine lv_aload_n hx hb dX9_mark_13 rfl (lv_at hl 0 rfl) ?_
      have hT_b5 : qT S (qO S 66 2) = 305 := hR.w.ref (hR.w.ptr ptrC_35) (hR.w.2.1 _ finC_31).2.1
      refine va_get (D := rD g) (ci := 8) (v := .ref (ad (qO S 66 2))) (C := RX9) (T := TX9) (N := 6) hx hb hts inX9 hown hR.K hR.P 66 (hR.at48 (hR.w.2.1 _ finC_31).2.1) rfl 2 (by decide) (hts _ kw_1566) (fun _ h9 => h9) (congrArg (fun z => some (vf ad z)) (hR.w.ptr ptrC_35)) dX9_mark_14 ?_
      refine lv_iload_n hx hb dX9_mark_17 rfl (lv_at hl 1 rfl) ?_
      refine lv_iconst (v := 1) hx hb dX9_mark_18 (by decide) ?_
      obtain ⟨hv6, h⟩ := h
      refine va_zast hx hb hR.K hR.P hR.D hR.sS (qO S 66 2) 2 (hR.atZ hT_b5 (by decide)) rfl (k_ix (x := x1) (a := x1.toInt) rfl hv6) dX9_mark_19 (fun H locs hP hD hS => ?_)
      have hTk9 : qT S (qO S 66 2) = 305 := hT_b5
      have hR : RepC g ad A s (wI S (qO S 66 2) x1.toInt.toNat (vp_nar .boolean (1 : Int32))) H locs := hR.aZ hT_b5 (by decide) (bit_nz2 (Or.inr rfl)) hP hD hS
      obtain ⟨S7, eS7⟩ : ∃ z, z = wI S (qO S 66 2) x1.toInt.toNat (vp_nar .boolean (1 : Int32)) := ⟨_, rfl⟩
      rw [← eS7] at hR
      replace h := h S7 eS7 hTk9 hR.w
      have hsh : shy S S7 := by rw [eS7]; exact hsh
      exact W.vret hx hb hr (fun t9 ht9 hW9 => ⟨⟨S7, rfl, ⟨h, hR.w, hsh⟩, ⟨by rw [ht9]; exact hR.P, hR.D⟩⟩, hR.sS.F ht9⟩) hR.sS.2.2 dX9_mark_20
