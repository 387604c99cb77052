def f_X11_lengthOf_J33 (S : MS) (v33_4 : Int64) : Int32 := (if 0 ≤ (lg_cmp v33_4 (4 : Int64)).toInt then (2 : Int32) else (1 : Int32))
def d_X11_lengthOf_J33 (S : MS) (v33_4 : Int64) : Prop := True
def f_X11_lengthOf_J166 (S : MS) : Int32 := (1 : Int32)
def d_X11_lengthOf_J166 (S : MS) : Prop := True
def fX11_lengthOf (S : MS) (x1 : Int32) (x2 : Int32) : Int32 := (if (fX6_isLoad S (fX8_opAt S (qO S 25 15) x1)).toInt = 0 then (if (fX6_isStore S (fX8_opAt S (qO S 25 15) x1)).toInt = 0 then (if (fX6_isJump S (fX8_opAt S (qO S 25 15) x1)).toInt = 0 then (if (fX8_opAt S (qO S 25 15) x1).toInt = 17 then (fX11_lengthOfPush S (fX8_argAt S (qO S 25 15) x1) (qI S (qO S 25 16) x1.toInt.toNat)) else (if (fX8_opAt S (qO S 25 15) x1).toInt = 20 then (if (lg_cmp (fX8_argAt S (qO S 25 15) x1) 0).toInt = 0 then f_X11_lengthOf_J166 S else (if (lg_cmp (fX8_argAt S (qO S 25 15) x1) 1).toInt = 0 then f_X11_lengthOf_J166 S else (3 : Int32))) else (if (fX8_opAt S (qO S 25 15) x1).toInt = 132 then (if (fX11_isByte S ((fX8_stepOf S (qO S 25 15) x1).toInt64)).toInt = 0 then (6 : Int32) else (3 : Int32)) else (if (fX8_opAt S (qO S 25 15) x1).toInt = 170 then (((((x2 + (4 : Int32)) &&& (-4 : Int32)) - x2) + (8 : Int32)) + ((4 : Int32) * (fX8_targetCount S (qO S 25 15) x1))) else (if (fX8_opAt S (qO S 25 15) x1).toInt = 171 then ((((x2 + (4 : Int32)) &&& (-4 : Int32)) - x2) + ((8 : Int32) * (fX8_targetCount S (qO S 25 15) x1))) else (if (fX8_opAt S (qO S 25 15) x1).toInt = 178 then (3 : Int32) else (if (fX8_opAt S (qO S 25 15) x1).toInt = 179 then (3 : Int32) else (if (fX8_opAt S (qO S 25 15) x1).toInt = 184 then (3 : Int32) else (if (fX8_opAt S (qO S 25 15) x1).toInt = 188 then (2 : Int32) else (1 : Int32)))))))))) else (3 : Int32)) else f_X11_lengthOf_J33 S (fX8_argAt S (qO S 25 15) x1)) else f_X11_lengthOf_J33 S (fX8_argAt S (qO S 25 15) x1))
def d_X11_lengthOf (S : MS) (x1 : Int32) (x2 : Int32) : Prop := ((qR S 25 15 = some (qO S 25 15)) ∧ (d_X8_opAt S (qO S 25 15) x1 ∧ ((qR S 25 15 = some (qO S 25 15)) ∧ (d_X8_argAt S (qO S 25 15) x1 ∧ (d_X6_isLoad S (fX8_opAt S (qO S 25 15) x1) ∧ (if (fX6_isLoad S (fX8_opAt S (qO S 25 15) x1)).toInt = 0 then (d_X6_isStore S (fX8_opAt S (qO S 25 15) x1) ∧ (if (fX6_isStore S (fX8_opAt S (qO S 25 15) x1)).toInt = 0 then (d_X6_isJump S (fX8_opAt S (qO S 25 15) x1) ∧ (if (fX6_isJump S (fX8_opAt S (qO S 25 15) x1)).toInt = 0 then (if (fX8_opAt S (qO S 25 15) x1).toInt = 17 then (((0 : Int) ≤ x1.toInt ∧ x1.toInt < (qN S (qO S 25 16) : Int)) ∧ (d_X11_lengthOfPush S (fX8_argAt S (qO S 25 15) x1) (qI S (qO S 25 16) x1.toInt.toNat) ∧ True)) else (if (fX8_opAt S (qO S 25 15) x1).toInt = 20 then (if (lg_cmp (fX8_argAt S (qO S 25 15) x1) 0).toInt = 0 then d_X11_lengthOf_J166 S else (if (lg_cmp (fX8_argAt S (qO S 25 15) x1) 1).toInt = 0 then d_X11_lengthOf_J166 S else True)) else (if (fX8_opAt S (qO S 25 15) x1).toInt = 132 then ((qR S 25 15 = some (qO S 25 15)) ∧ (d_X8_stepOf S (qO S 25 15) x1 ∧ (d_X11_isByte S ((fX8_stepOf S (qO S 25 15) x1).toInt64) ∧ True))) else (if (fX8_opAt S (qO S 25 15) x1).toInt = 170 then ((qR S 25 15 = some (qO S 25 15)) ∧ (d_X8_targetCount S (qO S 25 15) x1 ∧ True)) else (if (fX8_opAt S (qO S 25 15) x1).toInt = 171 then ((qR S 25 15 = some (qO S 25 15)) ∧ (d_X8_targetCount S (qO S 25 15) x1 ∧ True)) else True))))) else True)) else d_X11_lengthOf_J33 S (fX8_argAt S (qO S 25 15) x1))) else d_X11_lengthOf_J33 S (fX8_argAt S (qO S 25 15) x1)))))))
set_option maxHeartbeats 2000000 in
set_option maxRecDepth 100000 in
theorem rX11_lengthOf (l : Launch) (g : Gr) (ad : Nat → Nat) (sz : Nat) (S : MS) (x1 : Int32) (x2 : Int32) (hw : wfC S) (hd : d_X11_lengthOf S x1 x2) : Met l yX11_lengthOf (wt yX11_lengthOf cX11_lengthOf 6 (some .int)) ({ frames := 2, cells := 0, slots := 0, locals := 43 }) (va_Pc [.ref (ad 25), .int x1, .int x2] (st_C g ad sz S)) (va_Qi (fun (r : Int32) (_ : Unit) => r = fX11_lengthOf S x1 x2) (fun (_ : Unit) (t : State) => qEC g ad (va_A (WdC g ad S) sz) S t) (va_A (WdC g ad S) sz)) 0 0 (va_A (WdC g ad S) sz) := by
  refine Met.ofW (cc := cX11_lengthOf) (maxL := 6) (ret := (some .int)) (by decide) rfl ?_
  intro p e s m args below meth c s₁ B hml hv
  obtain ⟨rfl, hsz, hP, hK, hD0, hex, hE⟩ := hv
  have hx := B.exec
  have hb := B.bytes
  have hr := B.returns
  have hts0 := atoms_spec (ws := wt yX11_lengthOf cX11_lengthOf 6 (some .int)) B.pre
  have hts : ∀ w ∈ tb, w.before _ s = true := fun w h => hts0 w (List.mem_cons_of_mem _ h)
  have hown : s.vm.findClass RX11 = some m.cls := findClass_of_methodNamed B.named
  subst hsz
  have hD := hD0.self (sz := s.heap.size)
  generalize hAe : va_A (WdC g ad S) s.heap.size = A at hD hE ⊢
  have hA : ∀ q : Nat, s.heap.size ≤ q → A q := fun q h => by rw [← hAe]; exact Or.inr h
  have hR : RepC g ad A s S s.heap [] := ⟨hK, hP, hD, va_S.rf, hw⟩
  clear hK hP hD hD0
  have hl := lv_entry ([.ref (ad 25), .int x1, .int x2]) (n := 6) (Nat.le_of_ble_eq_true rfl)
  rw [lg_entry_eq]
  generalize (lg_sl ([.ref (ad 25), .int x1, .int x2]) ++ List.replicate (6 - (lg_sl ([.ref (ad 25), .int x1, .int x2])).length) Slot.unset).toArray = ls at hl ⊢
  have hl : lv_has ls 6 [(0, .ref (ad 25)), (1, .int x1), (2, .int x2)] := hl
  obtain ⟨r0, hf⟩ : ∃ r0, fX11_lengthOf S x1 x2 = r0 := ⟨_, rfl⟩
  have hf0 := hf
  unfold fX11_lengthOf at hf
  unfold d_X11_lengthOf at hd
  refine lv_aload_n hx hb dX11_lengthOf_0 rfl (lv_at hl 0 rfl) ?_
  obtain ⟨hv2, hd⟩ := hd
  have hT_b1 : qT S (qO S 25 15) = 47 := hR.w.ref hv2 (hR.w.2.1 _ finC_28).2.1
  refine va_get (D := rD g) (ci := 10) (v := .ref (ad (qO S 25 15))) (C := RX11) (T := TX11) (N := 18) hx hb hts inX11 hown hR.K hR.P 25 (hR.at50 (hR.w.2.1 _ finC_28).2.1) rfl 15 (by decide) (hts _ kw_84) (fun _ h9 => h9) (congrArg (fun z => some (vf ad z)) hv2) dX11_lengthOf_1 ?_
  refine lv_iload_n hx hb dX11_lengthOf_4 rfl (lv_at hl 1 rfl) ?_
  obtain ⟨hv3, hd⟩ := hd
  have hFc := cfree hR hA
  refine va_calli (va_runV (As := [.int x1]) (rest := []) ⟨hx, hb, hml, hown, hts⟩ (rX8_opAt l g ad s.heap.size S (qO S 25 15) x1 hR.w hT_b1 hv3) (cwV 1 hts (gd_V kw_189 kw_1513 kw_1514 kw_782 kw_1512) rfl rfl rfl (by decide +kernel) ⟨Nat.le_of_ble_eq_true rfl, Nat.le_of_ble_eq_true rfl⟩) ⟨cblind, va_recv hR.K hR.P (ci := 7) (q0 := (qO S 25 15)) rfl (hR.at47 hT_b1), fun U hU hW9 => cmk hU hW9 hR hex hE hFc⟩ rfl rfl hl.1 rfl (lv_room (Nat.le_of_ble_eq_true rfl)) dX11_lengthOf_5 ⟨Nat.le_of_ble_eq_true rfl, Nat.le_of_ble_eq_true rfl⟩) hR.sS (fun q _ h => hFc q h) hFc (fun r4 u9 t9 H1 locs ht9 hvm9 hw9 hB9 hz9 hk9 hS => ?_)
  have hR : RepC g ad A s S H1 locs := hR.call ht9 hB9 hR.w hS hFc
  obtain rfl : r4 = (fX8_opAt S (qO S 25 15) x1) := hw9
  clear hB9 hz9 hk9 hvm9 ht9 hS
  generalize H1 = H at hR ⊢
  refine lv_istore_n (lv' := [(3, .int (fX8_opAt S (qO S 25 15) x1)), (0, .ref (ad 25)), (1, .int x1), (2, .int x2)]) hx hb dX11_lengthOf_8 rfl hl (by decide) rfl (fun ls hl => ?_)
  refine lv_aload_n hx hb dX11_lengthOf_9 rfl (lv_at hl 1 rfl) ?_
  obtain ⟨hv7, hd⟩ := hd
  have hT_b6 : qT S (qO S 25 15) = 47 := hR.w.ref hv7 (hR.w.2.1 _ finC_28).2.1
  refine va_get (D := rD g) (ci := 10) (v := .ref (ad (qO S 25 15))) (C := RX11) (T := TX11) (N := 18) hx hb hts inX11 hown hR.K hR.P 25 (hR.at50 (hR.w.2.1 _ finC_28).2.1) rfl 15 (by decide) (hts _ kw_84) (fun _ h9 => h9) (congrArg (fun z => some (vf ad z)) hv7) dX11_lengthOf_10 ?_
  refine lv_iload_n hx hb dX11_lengthOf_13 rfl (lv_at hl 2 rfl) ?_
  obtain ⟨hv8, hd⟩ := hd
  have hFc := cfree hR hA
  refine va_calll (va_runV (As := [.int x1]) (rest := []) ⟨hx, hb, hml, hown, hts⟩ (rX8_argAt l g ad H.size S (qO S 25 15) x1 hR.w hT_b6 hv8) (cwV 1 hts (gd_V kw_197 kw_1476 kw_1477 kw_782 kw_1475) rfl rfl rfl (by decide +kernel) ⟨Nat.le_of_ble_eq_true rfl, Nat.le_of_ble_eq_true rfl⟩) ⟨cblind, va_recv hR.K hR.P (ci := 7) (q0 := (qO S 25 15)) rfl (hR.at47 hT_b6), fun U hU hW9 => cmk hU hW9 hR hex hE hFc⟩ rfl rfl hl.1 rfl (lv_room (Nat.le_of_ble_eq_true rfl)) dX11_lengthOf_14 ⟨Nat.le_of_ble_eq_true rfl, Nat.le_of_ble_eq_true rfl⟩) hR.sS (fun q _ h => hFc q h) hFc (fun r9 u9 t9 H1 locs ht9 hvm9 hw9 hB9 hz9 hk9 hS => ?_)
  have hR : RepC g ad A s S H1 locs := hR.call ht9 hB9 hR.w hS hFc
  obtain rfl : r9 = (fX8_argAt S (qO S 25 15) x1) := hw9
  clear hB9 hz9 hk9 hvm9 ht9 hS
  generalize H1 = H at hR ⊢
  refine lv_lstore (lv' := [(4, .long (fX8_argAt S (qO S 25 15) x1)), (3, .int (fX8_opAt S (qO S 25 15) x1)), (0, .ref (ad 25)), (1, .int x1), (2, .int x2)]) hx hb dX11_lengthOf_17 hl (by decide) rfl (fun ls hl => ?_)
  refine lv_iload_n hx hb dX11_lengthOf_19 rfl (lv_at hl 1 rfl) ?_
  obtain ⟨hv11, hd⟩ := hd
  have hFc := cfree hR hA
  refine va_calli (va_runS (As := [.int (fX8_opAt S (qO S 25 15) x1)]) (rest := []) ⟨hx, hb, hml, hown, hts⟩ (rX6_isLoad l g ad H.size S (fX8_opAt S (qO S 25 15) x1) hR.w  hv11) (va_cwS 1 hts (gd_S kw_198 kw_1227 kw_1207 kw_1226) rfl rfl rfl (by decide +kernel) ⟨Nat.le_of_ble_eq_true rfl, Nat.le_of_ble_eq_true rfl⟩) ⟨cblind, fun U hU hW9 => cmk hU hW9 hR hex hE hFc⟩ rfl rfl hl.1 rfl (lv_room (Nat.le_of_ble_eq_true rfl)) dX11_lengthOf_20 ⟨Nat.le_of_ble_eq_true rfl, Nat.le_of_ble_eq_true rfl⟩) hR.sS (fun q _ h => hFc q h) hFc (fun r12 u9 t9 H1 locs ht9 hvm9 hw9 hB9 hz9 hk9 hS => ?_)
  have hR : RepC g ad A s S H1 locs := hR.call ht9 hB9 hR.w hS hFc
  obtain ⟨rfl, hz_r12⟩ := hw9
  clear hB9 hz9 hk9 hvm9 ht9 hS
  generalize H1 = H at hR ⊢
  have J_33 : ∀ (v33_4 : Int64) (H : Heap) (locs : List Loc) (ls : Array Slot), d_X11_lengthOf_J33 S v33_4 → f_X11_lengthOf_J33 S v33_4 = r0 → RepC g ad A s S H locs → lv_has ls 6 [(4, .long v33_4)] → W p l e (headSpec (wt yX11_lengthOf cX11_lengthOf 6 (some .int)) ({ frames := 2, cells := 0, slots := 0, locals := 43 })).room s m ([.ref (ad 25), .int x1, .int x2] : List Value).toArray below meth c H locs 0 0 (MQ below (va_Qi (fun (r : Int32) (_ : Unit) => r = fX11_lengthOf S x1 x2) (fun (_ : Unit) (t : State) => qEC g ad A S t) A) ([.ref (ad 25), .int x1, .int x2] : List Value).toArray s 0 0 A) (F0 m 33 ls []) := by
    intro v33_4 H locs ls hd hf hR hl
    unfold d_X11_lengthOf_J33 at hd
    unfold f_X11_lengthOf_J33 at hf
    refine lv_lload hx hb dX11_lengthOf_33 (lv_at hl 0 rfl) ?_
    refine lv_ldc2 hx hb hown (hts _ kw_200) dX11_lengthOf_35 ?_
    refine W.lcmp hx hb dX11_lengthOf_38 ?_
    refine lv_topi (fun z14 ez14 => ?_)
    obtain rfl : z14 = (lg_cmp v33_4 (4 : Int64)) := ez14
    refine lv_if_ge (tgt := 46) hx hb dX11_lengthOf_39 (by decide) (fun c15 => ?_) (fun c15 => ?_)
    · rw [if_pos (k_le (by decide) rfl c15)] at hf
      (try rw [if_pos (k_le (by decide) rfl c15)] at hd)
      refine lv_iconst (v := 2) hx hb dX11_lengthOf_46 (by decide) ?_
      exact W.iret (v := 2) hx hb hr (fun t9 ht9 hW9 => ⟨⟨_, (), rfl, hf.trans hf0.symm, ⟨by rw [ht9]; exact hR.P, hR.D⟩⟩, hR.sS.F ht9⟩) hR.sS.2.2 dX11_lengthOf_47
    · rw [if_neg (k_nle (by decide) rfl c15)] at hf
      (try rw [if_neg (k_nle (by decide) rfl c15)] at hd)
      refine lv_iconst (v := 1) hx hb dX11_lengthOf_42 (by decide) ?_
      refine lv_goto (tgt := 47) hx hb dX11_lengthOf_43 (by decide) ?_
      exact W.iret (v := 1) hx hb hr (fun t9 ht9 hW9 => ⟨⟨_, (), rfl, hf.trans hf0.symm, ⟨by rw [ht9]; exact hR.P, hR.D⟩⟩, hR.sS.F ht9⟩) hR.sS.2.2 dX11_lengthOf_47
  refine lv_if_ne (tgt := 33) hx hb dX11_lengthOf_23 (by decide) (fun c16 => ?_) (fun c16 => ?_)
  · rw [if_neg (k_ne rfl (by decide) c16)] at hf
    (try rw [if_neg (k_ne rfl (by decide) c16)] at hd)
    exact J_33 (fX8_argAt S (qO S 25 15) x1) _ _ ls hd hf  hR (lv_sub hl [0] rfl)
  · rw [if_pos (k_eq rfl (by decide) c16)] at hf
    (try rw [if_pos (k_eq rfl (by decide) c16)] at hd)
    refine lv_iload_n hx hb dX11_lengthOf_26 rfl (lv_at hl 1 rfl) ?_
    obtain ⟨hv17, hd⟩ := hd
    have hFc := cfree hR hA
    refine va_calli (va_runS (As := [.int (fX8_opAt S (qO S 25 15) x1)]) (rest := []) ⟨hx, hb, hml, hown, hts⟩ (rX6_isStore l g ad H.size S (fX8_opAt S (qO S 25 15) x1) hR.w  hv17) (va_cwS 1 hts (gd_S kw_199 kw_1231 kw_1207 kw_1230) rfl rfl rfl (by decide +kernel) ⟨Nat.le_of_ble_eq_true rfl, Nat.le_of_ble_eq_true rfl⟩) ⟨cblind, fun U hU hW9 => cmk hU hW9 hR hex hE hFc⟩ rfl rfl hl.1 rfl (lv_room (Nat.le_of_ble_eq_true rfl)) dX11_lengthOf_27 ⟨Nat.le_of_ble_eq_true rfl, Nat.le_of_ble_eq_true rfl⟩) hR.sS (fun q _ h => hFc q h) hFc (fun r18 u9 t9 H1 locs ht9 hvm9 hw9 hB9 hz9 hk9 hS => ?_)
    have hR : RepC g ad A s S H1 locs := hR.call ht9 hB9 hR.w hS hFc
    obtain ⟨rfl, hz_r18⟩ := hw9
    clear hB9 hz9 hk9 hvm9 ht9 hS
    generalize H1 = H at hR ⊢
    refine lv_if_eq (tgt := 48) hx hb dX11_lengthOf_30 (by decide) (fun c20 => ?_) (fun c20 => ?_)
    · rw [if_pos (k_eq rfl (by decide) c20)] at hf
      (try rw [if_pos (k_eq rfl (by decide) c20)] at hd)
      refine lv_iload_n hx hb dX11_lengthOf_48 rfl (lv_at hl 1 rfl) ?_
      obtain ⟨hv21, hd⟩ := hd
      have hFc := cfree hR hA
      refine va_calli (va_runS (As := [.int (fX8_opAt S (qO S 25 15) x1)]) (rest := []) ⟨hx, hb, hml, hown, hts⟩ (rX6_isJump l g ad H.size S (fX8_opAt S (qO S 25 15) x1) hR.w  hv21) (va_cwS 1 hts (gd_S kw_201 kw_1225 kw_1207 kw_1224) rfl rfl rfl (by decide +kernel) ⟨Nat.le_of_ble_eq_true rfl, Nat.le_of_ble_eq_true rfl⟩) ⟨cblind, fun U hU hW9 => cmk hU hW9 hR hex hE hFc⟩ rfl rfl hl.1 rfl (lv_room (Nat.le_of_ble_eq_true rfl)) dX11_lengthOf_49 ⟨Nat.le_of_ble_eq_true rfl, Nat.le_of_ble_eq_true rfl⟩) hR.sS (fun q _ h => hFc q h) hFc (fun r22 u9 t9 H1 locs ht9 hvm9 hw9 hB9 hz9 hk9 hS => ?_)
      have hR : RepC g ad A s S H1 locs := hR.call ht9 hB9 hR.w hS hFc
      obtain ⟨rfl, hz_r22⟩ := hw9
      clear hB9 hz9 hk9 hvm9 ht9 hS
      generalize H1 = H at hR ⊢
      refine lv_if_eq (tgt := 57) hx hb dX11_lengthOf_52 (by decide) (fun c24 => ?_) (fun c24 => ?_)
      · rw [if_pos (k_eq rfl (by decide) c24)] at hf
        (try rw [if_pos (k_eq rfl (by decide) c24)] at hd)
        refine lv_iload_n hx hb dX11_lengthOf_57 rfl (lv_at hl 1 rfl) ?_
        by_cases c9_17 : (fX8_opAt S (qO S 25 15) x1).toInt = 17
        · refine lv_lookup (off := 82) (tgt := 140) hx hb dX11_lengthOf_58 (by decide) (by rw [c9_17]; decide) (by decide) ?_
          rw [if_pos (c9_17)] at hf
          (try rw [if_pos (c9_17)] at hd)
          refine lv_lload hx hb dX11_lengthOf_140 (lv_at hl 0 rfl) ?_
          refine lv_aload_n hx hb dX11_lengthOf_142 rfl (lv_at hl 2 rfl) ?_
          have hT_b25 : qT S (qO S 25 16) = 244 := hR.w.ref (hR.w.ptr ptrC_10) (hR.w.2.1 _ finC_28).2.1
          refine va_get (D := rD g) (ci := 10) (v := .ref (ad (qO S 25 16))) (C := RX11) (T := TX11) (N := 18) hx hb hts inX11 hown hR.K hR.P 25 (hR.at50 (hR.w.2.1 _ finC_28).2.1) rfl 16 (by decide) (hts _ kw_168) (fun _ h9 => h9) (congrArg (fun z => some (vf ad z)) (hR.w.ptr ptrC_10)) dX11_lengthOf_143 ?_
          refine lv_iload_n hx hb dX11_lengthOf_146 rfl (lv_at hl 3 rfl) ?_
          obtain ⟨hv26, hd⟩ := hd
          refine va_iald hx hb hR.K hR.P (qO S 25 16) 1 (hR.atI hT_b25 (by decide)) rfl (k_ix (x := x1) (a := x1.toInt) rfl hv26) dX11_lengthOf_147 ?_
          refine lv_topi (fun z27 ez27 => ?_)
          obtain rfl : z27 = (qI S (qO S 25 16) x1.toInt.toNat) := ez27
          obtain ⟨hv28, hd⟩ := hd
          have hFc := cfree hR hA
          refine va_calli (va_runS (As := [.long (fX8_argAt S (qO S 25 15) x1), .int (qI S (qO S 25 16) x1.toInt.toNat)]) (rest := []) ⟨hx, hb, hml, hown, hts⟩ (rX11_lengthOfPush l g ad H.size S (fX8_argAt S (qO S 25 15) x1) (qI S (qO S 25 16) x1.toInt.toNat) hR.w  hv28) (va_cwS 2 hts (gd_S kw_202 kw_207 kw_83 kw_206) rfl rfl rfl (by decide +kernel) ⟨Nat.le_of_ble_eq_true rfl, Nat.le_of_ble_eq_true rfl⟩) ⟨cblind, fun U hU hW9 => cmk hU hW9 hR hex hE hFc⟩ rfl rfl hl.1 rfl (lv_room (Nat.le_of_ble_eq_true rfl)) dX11_lengthOf_148 ⟨Nat.le_of_ble_eq_true rfl, Nat.le_of_ble_eq_true rfl⟩) hR.sS (fun q _ h => hFc q h) hFc (fun r29 u9 t9 H1 locs ht9 hvm9 hw9 hB9 hz9 hk9 hS => ?_)
          have hR : RepC g ad A s S H1 locs := hR.call ht9 hB9 hR.w hS hFc
          obtain rfl : r29 = (fX11_lengthOfPush S (fX8_argAt S (qO S 25 15) x1) (qI S (qO S 25 16) x1.toInt.toNat)) := hw9
          clear hB9 hz9 hk9 hvm9 ht9 hS
          generalize H1 = H at hR ⊢
          exact W.iret (v := (fX11_lengthOfPush S (fX8_argAt S (qO S 25 15) x1) (qI S (qO S 25 16) x1.toInt.toNat))) hx hb hr (fun t9 ht9 hW9 => ⟨⟨_, (), rfl, hf.trans hf0.symm, ⟨by rw [ht9]; exact hR.P, hR.D⟩⟩, hR.sS.F ht9⟩) hR.sS.2.2 dX11_lengthOf_151
        rw [if_neg c9_17] at hf
        (try rw [if_neg c9_17] at hd)
        by_cases c9_20 : (fX8_opAt S (qO S 25 15) x1).toInt = 20
        · refine lv_lookup (off := 94) (tgt := 152) hx hb dX11_lengthOf_58 (by decide) (by rw [c9_20]; decide) (by decide) ?_
          rw [if_pos (c9_20)] at hf
          (try rw [if_pos (c9_20)] at hd)
          refine lv_lload hx hb dX11_lengthOf_152 (lv_at hl 0 rfl) ?_
          refine lv_lconst (v := 0) hx hb dX11_lengthOf_154 (by decide) ?_
          refine W.lcmp hx hb dX11_lengthOf_155 ?_
          refine lv_topi (fun z31 ez31 => ?_)
          obtain rfl : z31 = (lg_cmp (fX8_argAt S (qO S 25 15) x1) 0) := ez31
          have J_166 : ∀ (H : Heap) (locs : List Loc) (ls : Array Slot), d_X11_lengthOf_J166 S → f_X11_lengthOf_J166 S = r0 → RepC g ad A s S H locs → lv_has ls 6 [] → W p l e (headSpec (wt yX11_lengthOf cX11_lengthOf 6 (some .int)) ({ frames := 2, cells := 0, slots := 0, locals := 43 })).room s m ([.ref (ad 25), .int x1, .int x2] : List Value).toArray below meth c H locs 0 0 (MQ below (va_Qi (fun (r : Int32) (_ : Unit) => r = fX11_lengthOf S x1 x2) (fun (_ : Unit) (t : State) => qEC g ad A S t) A) ([.ref (ad 25), .int x1, .int x2] : List Value).toArray s 0 0 A) (F0 m 166 ls []) := by
            intro H locs ls hd hf hR hl
            unfold d_X11_lengthOf_J166 at hd
            unfold f_X11_lengthOf_J166 at hf
            refine lv_iconst (v := 1) hx hb dX11_lengthOf_166 (by decide) ?_
            refine lv_goto (tgt := 171) hx hb dX11_lengthOf_167 (by decide) ?_
            exact W.iret (v := 1) hx hb hr (fun t9 ht9 hW9 => ⟨⟨_, (), rfl, hf.trans hf0.symm, ⟨by rw [ht9]; exact hR.P, hR.D⟩⟩, hR.sS.F ht9⟩) hR.sS.2.2 dX11_lengthOf_171
          refine lv_if_eq (tgt := 166) hx hb dX11_lengthOf_156 (by decide) (fun c32 => ?_) (fun c32 => ?_)
          · rw [if_pos (k_eq rfl (by decide) c32)] at hf
            (try rw [if_pos (k_eq rfl (by decide) c32)] at hd)
            exact J_166 _ _ ls hd hf  hR (lv_sub hl [] rfl)
          · rw [if_neg (k_ne rfl (by decide) c32)] at hf
            (try rw [if_neg (k_ne rfl (by decide) c32)] at hd)
            refine lv_lload hx hb dX11_lengthOf_159 (lv_at hl 0 rfl) ?_
            refine lv_lconst (v := 1) hx hb dX11_lengthOf_161 (by decide) ?_
            refine W.lcmp hx hb dX11_lengthOf_162 ?_
            refine lv_topi (fun z33 ez33 => ?_)
            obtain rfl : z33 = (lg_cmp (fX8_argAt S (qO S 25 15) x1) 1) := ez33
            refine lv_if_ne (tgt := 170) hx hb dX11_lengthOf_163 (by decide) (fun c34 => ?_) (fun c34 => ?_)
            · rw [if_neg (k_ne rfl (by decide) c34)] at hf
              (try rw [if_neg (k_ne rfl (by decide) c34)] at hd)
              refine lv_iconst (v := 3) hx hb dX11_lengthOf_170 (by decide) ?_
              exact W.iret (v := 3) hx hb hr (fun t9 ht9 hW9 => ⟨⟨_, (), rfl, hf.trans hf0.symm, ⟨by rw [ht9]; exact hR.P, hR.D⟩⟩, hR.sS.F ht9⟩) hR.sS.2.2 dX11_lengthOf_171
            · rw [if_pos (k_eq rfl (by decide) c34)] at hf
              (try rw [if_pos (k_eq rfl (by decide) c34)] at hd)
              exact J_166 _ _ ls hd hf  hR (lv_sub hl [] rfl)
        rw [if_neg c9_20] at hf
        (try rw [if_neg c9_20] at hd)
        by_cases c9_132 : (fX8_opAt S (qO S 25 15) x1).toInt = 132
        · refine lv_lookup (off := 114) (tgt := 172) hx hb dX11_lengthOf_58 (by decide) (by rw [c9_132]; decide) (by decide) ?_
          rw [if_pos (c9_132)] at hf
          (try rw [if_pos (c9_132)] at hd)
          refine lv_aload_n hx hb dX11_lengthOf_172 rfl (lv_at hl 2 rfl) ?_
          obtain ⟨hv36, hd⟩ := hd
          have hT_b35 : qT S (qO S 25 15) = 47 := hR.w.ref hv36 (hR.w.2.1 _ finC_28).2.1
          refine va_get (D := rD g) (ci := 10) (v := .ref (ad (qO S 25 15))) (C := RX11) (T := TX11) (N := 18) hx hb hts inX11 hown hR.K hR.P 25 (hR.at50 (hR.w.2.1 _ finC_28).2.1) rfl 15 (by decide) (hts _ kw_84) (fun _ h9 => h9) (congrArg (fun z => some (vf ad z)) hv36) dX11_lengthOf_173 ?_
          refine lv_iload_n hx hb dX11_lengthOf_176 rfl (lv_at hl 3 rfl) ?_
          obtain ⟨hv37, hd⟩ := hd
          have hFc := cfree hR hA
          refine va_calli (va_runV (As := [.int x1]) (rest := []) ⟨hx, hb, hml, hown, hts⟩ (rX8_stepOf l g ad H.size S (qO S 25 15) x1 hR.w hT_b35 hv37) (cwV 1 hts (gd_V kw_203 kw_1531 kw_1532 kw_782 kw_1530) rfl rfl rfl (by decide +kernel) ⟨Nat.le_of_ble_eq_true rfl, Nat.le_of_ble_eq_true rfl⟩) ⟨cblind, va_recv hR.K hR.P (ci := 7) (q0 := (qO S 25 15)) rfl (hR.at47 hT_b35), fun U hU hW9 => cmk hU hW9 hR hex hE hFc⟩ rfl rfl hl.1 rfl (lv_room (Nat.le_of_ble_eq_true rfl)) dX11_lengthOf_177 ⟨Nat.le_of_ble_eq_true rfl, Nat.le_of_ble_eq_true rfl⟩) hR.sS (fun q _ h => hFc q h) hFc (fun r38 u9 t9 H1 locs ht9 hvm9 hw9 hB9 hz9 hk9 hS => ?_)
          have hR : RepC g ad A s S H1 locs := hR.call ht9 hB9 hR.w hS hFc
          obtain rfl : r38 = (fX8_stepOf S (qO S 25 15) x1) := hw9
          clear hB9 hz9 hk9 hvm9 ht9 hS
          generalize H1 = H at hR ⊢
          refine lv_i2l (v := ((fX8_stepOf S (qO S 25 15) x1).toInt64)) hx hb dX11_lengthOf_180 rfl ?_
          obtain ⟨hv40, hd⟩ := hd
          have hFc := cfree hR hA
          refine va_calli (va_runS (As := [.long ((fX8_stepOf S (qO S 25 15) x1).toInt64)]) (rest := []) ⟨hx, hb, hml, hown, hts⟩ (rX11_isByte l g ad H.size S ((fX8_stepOf S (qO S 25 15) x1).toInt64) hR.w  hv40) (va_cwS 1 hts (gd_S kw_204 kw_174 kw_83 kw_173) rfl rfl rfl (by decide +kernel) ⟨Nat.le_of_ble_eq_true rfl, Nat.le_of_ble_eq_true rfl⟩) ⟨cblind, fun U hU hW9 => cmk hU hW9 hR hex hE hFc⟩ rfl rfl hl.1 rfl (lv_room (Nat.le_of_ble_eq_true rfl)) dX11_lengthOf_181 ⟨Nat.le_of_ble_eq_true rfl, Nat.le_of_ble_eq_true rfl⟩) hR.sS (fun q _ h => hFc q h) hFc (fun r41 u9 t9 H1 locs ht9 hvm9 hw9 hB9 hz9 hk9 hS => ?_)
          have hR : RepC g ad A s S H1 locs := hR.call ht9 hB9 hR.w hS hFc
          obtain ⟨rfl, hz_r41⟩ := hw9
          clear hB9 hz9 hk9 hvm9 ht9 hS
          generalize H1 = H at hR ⊢
          refine lv_if_eq (tgt := 191) hx hb dX11_lengthOf_184 (by decide) (fun c43 => ?_) (fun c43 => ?_)
          · rw [if_pos (k_eq rfl (by decide) c43)] at hf
            (try rw [if_pos (k_eq rfl (by decide) c43)] at hd)
            refine lv_bipush (v := 6) hx hb dX11_lengthOf_191 (by decide) ?_
            exact W.iret (v := 6) hx hb hr (fun t9 ht9 hW9 => ⟨⟨_, (), rfl, hf.trans hf0.symm, ⟨by rw [ht9]; exact hR.P, hR.D⟩⟩, hR.sS.F ht9⟩) hR.sS.2.2 dX11_lengthOf_193
          · rw [if_neg (k_ne rfl (by decide) c43)] at hf
            (try rw [if_neg (k_ne rfl (by decide) c43)] at hd)
            refine lv_iconst (v := 3) hx hb dX11_lengthOf_187 (by decide) ?_
            refine lv_goto (tgt := 193) hx hb dX11_lengthOf_188 (by decide) ?_
            exact W.iret (v := 3) hx hb hr (fun t9 ht9 hW9 => ⟨⟨_, (), rfl, hf.trans hf0.symm, ⟨by rw [ht9]; exact hR.P, hR.D⟩⟩, hR.sS.F ht9⟩) hR.sS.2.2 dX11_lengthOf_193
        rw [if_neg c9_132] at hf
        (try rw [if_neg c9_132] at hd)
        by_cases c9_170 : (fX8_opAt S (qO S 25 15) x1).toInt = 170
        · refine lv_lookup (off := 136) (tgt := 194) hx hb dX11_lengthOf_58 (by decide) (by rw [c9_170]; decide) (by decide) ?_
          rw [if_pos (c9_170)] at hf
          (try rw [if_pos (c9_170)] at hd)
          refine lv_iload_n hx hb dX11_lengthOf_194 rfl (lv_at hl 4 rfl) ?_
          refine lv_iconst (v := 4) hx hb dX11_lengthOf_195 (by decide) ?_
          refine lv_iadd hx hb dX11_lengthOf_196 ?_
          refine lv_topi (fun z44 ez44 => ?_)
          obtain rfl : z44 = (x2 + (4 : Int32)) := ez44
          refine lv_bipush (v := (-4)) hx hb dX11_lengthOf_197 (by decide) ?_
          refine lv_iand hx hb dX11_lengthOf_199 ?_
          refine lv_topi (fun z45 ez45 => ?_)
          obtain rfl : z45 = ((x2 + (4 : Int32)) &&& (-4 : Int32)) := ez45
          refine lv_iload_n hx hb dX11_lengthOf_200 rfl (lv_at hl 4 rfl) ?_
          refine lv_isub hx hb dX11_lengthOf_201 ?_
          refine lv_topi (fun z46 ez46 => ?_)
          obtain rfl : z46 = (((x2 + (4 : Int32)) &&& (-4 : Int32)) - x2) := ez46
          refine lv_bipush (v := 8) hx hb dX11_lengthOf_202 (by decide) ?_
          refine lv_iadd hx hb dX11_lengthOf_204 ?_
          refine lv_topi (fun z47 ez47 => ?_)
          obtain rfl : z47 = ((((x2 + (4 : Int32)) &&& (-4 : Int32)) - x2) + (8 : Int32)) := ez47
          refine lv_iconst (v := 4) hx hb dX11_lengthOf_205 (by decide) ?_
          refine lv_aload_n hx hb dX11_lengthOf_206 rfl (lv_at hl 2 rfl) ?_
          obtain ⟨hv49, hd⟩ := hd
          have hT_b48 : qT S (qO S 25 15) = 47 := hR.w.ref hv49 (hR.w.2.1 _ finC_28).2.1
          refine va_get (D := rD g) (ci := 10) (v := .ref (ad (qO S 25 15))) (C := RX11) (T := TX11) (N := 18) hx hb hts inX11 hown hR.K hR.P 25 (hR.at50 (hR.w.2.1 _ finC_28).2.1) rfl 15 (by decide) (hts _ kw_84) (fun _ h9 => h9) (congrArg (fun z => some (vf ad z)) hv49) dX11_lengthOf_207 ?_
          refine lv_iload_n hx hb dX11_lengthOf_210 rfl (lv_at hl 3 rfl) ?_
          obtain ⟨hv50, hd⟩ := hd
          have hFc := cfree hR hA
          refine va_calli (va_runV (As := [.int x1]) (rest := [.int 4, .int ((((x2 + (4 : Int32)) &&& (-4 : Int32)) - x2) + (8 : Int32))]) ⟨hx, hb, hml, hown, hts⟩ (rX8_targetCount l g ad H.size S (qO S 25 15) x1 hR.w hT_b48 hv50) (cwV 1 hts (gd_V kw_205 kw_1541 kw_1542 kw_782 kw_1540) rfl rfl rfl (by decide +kernel) ⟨Nat.le_of_ble_eq_true rfl, Nat.le_of_ble_eq_true rfl⟩) ⟨cblind, va_recv hR.K hR.P (ci := 7) (q0 := (qO S 25 15)) rfl (hR.at47 hT_b48), fun U hU hW9 => cmk hU hW9 hR hex hE hFc⟩ rfl rfl hl.1 rfl (lv_room (Nat.le_of_ble_eq_true rfl)) dX11_lengthOf_211 ⟨Nat.le_of_ble_eq_true rfl, Nat.le_of_ble_eq_true rfl⟩) hR.sS (fun q _ h => hFc q h) hFc (fun r51 u9 t9 H1 locs ht9 hvm9 hw9 hB9 hz9 hk9 hS => ?_)
          have hR : RepC g ad A s S H1 locs := hR.call ht9 hB9 hR.w hS hFc
          obtain rfl : r51 = (fX8_targetCount S (qO S 25 15) x1) := hw9
          clear hB9 hz9 hk9 hvm9 ht9 hS
          generalize H1 = H at hR ⊢
          refine lv_imul hx hb dX11_lengthOf_214 ?_
          refine lv_topi (fun z53 ez53 => ?_)
          obtain rfl : z53 = ((4 : Int32) * (fX8_targetCount S (qO S 25 15) x1)) := ez53
          refine lv_iadd hx hb dX11_lengthOf_215 ?_
          refine lv_topi (fun z54 ez54 => ?_)
          obtain rfl : z54 = (((((x2 + (4 : Int32)) &&& (-4 : Int32)) - x2) + (8 : Int32)) + ((4 : Int32) * (fX8_targetCount S (qO S 25 15) x1))) := ez54
          exact W.iret (v := (((((x2 + (4 : Int32)) &&& (-4 : Int32)) - x2) + (8 : Int32)) + ((4 : Int32) * (fX8_targetCount S (qO S 25 15) x1)))) hx hb hr (fun t9 ht9 hW9 => ⟨⟨_, (), rfl, hf.trans hf0.symm, ⟨by rw [ht9]; exact hR.P, hR.D⟩⟩, hR.sS.F ht9⟩) hR.sS.2.2 dX11_lengthOf_216
        rw [if_neg c9_170] at hf
        (try rw [if_neg c9_170] at hd)
        by_cases c9_171 : (fX8_opAt S (qO S 25 15) x1).toInt = 171
        · refine lv_lookup (off := 159) (tgt := 217) hx hb dX11_lengthOf_58 (by decide) (by rw [c9_171]; decide) (by decide) ?_
          rw [if_pos (c9_171)] at hf
          (try rw [if_pos (c9_171)] at hd)
          refine lv_iload_n hx hb dX11_lengthOf_217 rfl (lv_at hl 4 rfl) ?_
          refine lv_iconst (v := 4) hx hb dX11_lengthOf_218 (by decide) ?_
          refine lv_iadd hx hb dX11_lengthOf_219 ?_
          refine lv_topi (fun z55 ez55 => ?_)
          obtain rfl : z55 = (x2 + (4 : Int32)) := ez55
          refine lv_bipush (v := (-4)) hx hb dX11_lengthOf_220 (by decide) ?_
          refine lv_iand hx hb dX11_lengthOf_222 ?_
          refine lv_topi (fun z56 ez56 => ?_)
          obtain rfl : z56 = ((x2 + (4 : Int32)) &&& (-4 : Int32)) := ez56
          refine lv_iload_n hx hb dX11_lengthOf_223 rfl (lv_at hl 4 rfl) ?_
          refine lv_isub hx hb dX11_lengthOf_224 ?_
          refine lv_topi (fun z57 ez57 => ?_)
          obtain rfl : z57 = (((x2 + (4 : Int32)) &&& (-4 : Int32)) - x2) := ez57
          refine lv_bipush (v := 8) hx hb dX11_lengthOf_225 (by decide) ?_
          refine lv_aload_n hx hb dX11_lengthOf_227 rfl (lv_at hl 2 rfl) ?_
          obtain ⟨hv59, hd⟩ := hd
          have hT_b58 : qT S (qO S 25 15) = 47 := hR.w.ref hv59 (hR.w.2.1 _ finC_28).2.1
          refine va_get (D := rD g) (ci := 10) (v := .ref (ad (qO S 25 15))) (C := RX11) (T := TX11) (N := 18) hx hb hts inX11 hown hR.K hR.P 25 (hR.at50 (hR.w.2.1 _ finC_28).2.1) rfl 15 (by decide) (hts _ kw_84) (fun _ h9 => h9) (congrArg (fun z => some (vf ad z)) hv59) dX11_lengthOf_228 ?_
          refine lv_iload_n hx hb dX11_lengthOf_231 rfl (lv_at hl 3 rfl) ?_
          obtain ⟨hv60, hd⟩ := hd
          have hFc := cfree hR hA
          refine va_calli (va_runV (As := [.int x1]) (rest := [.int 8, .int (((x2 + (4 : Int32)) &&& (-4 : Int32)) - x2)]) ⟨hx, hb, hml, hown, hts⟩ (rX8_targetCount l g ad H.size S (qO S 25 15) x1 hR.w hT_b58 hv60) (cwV 1 hts (gd_V kw_205 kw_1541 kw_1542 kw_782 kw_1540) rfl rfl rfl (by decide +kernel) ⟨Nat.le_of_ble_eq_true rfl, Nat.le_of_ble_eq_true rfl⟩) ⟨cblind, va_recv hR.K hR.P (ci := 7) (q0 := (qO S 25 15)) rfl (hR.at47 hT_b58), fun U hU hW9 => cmk hU hW9 hR hex hE hFc⟩ rfl rfl hl.1 rfl (lv_room (Nat.le_of_ble_eq_true rfl)) dX11_lengthOf_232 ⟨Nat.le_of_ble_eq_true rfl, Nat.le_of_ble_eq_true rfl⟩) hR.sS (fun q _ h => hFc q h) hFc (fun r61 u9 t9 H1 locs ht9 hvm9 hw9 hB9 hz9 hk9 hS => ?_)
          have hR : RepC g ad A s S H1 locs := hR.call ht9 hB9 hR.w hS hFc
          obtain rfl : r61 = (fX8_targetCount S (qO S 25 15) x1) := hw9
          clear hB9 hz9 hk9 hvm9 ht9 hS
          generalize H1 = H at hR ⊢
          refine lv_imul hx hb dX11_lengthOf_235 ?_
          refine lv_topi (fun z63 ez63 => ?_)
          obtain rfl : z63 = ((8 : Int32) * (fX8_targetCount S (qO S 25 15) x1)) := ez63
          refine lv_iadd hx hb dX11_lengthOf_236 ?_
          refine lv_topi (fun z64 ez64 => ?_)
          obtain rfl : z64 = ((((x2 + (4 : Int32)) &&& (-4 : Int32)) - x2) + ((8 : Int32) * (fX8_targetCount S (qO S 25 15) x1))) := ez64
          exact W.iret (v := ((((x2 + (4 : Int32)) &&& (-4 : Int32)) - x2) + ((8 : Int32) * (fX8_targetCount S (qO S 25 15) x1)))) hx hb hr (fun t9 ht9 hW9 => ⟨⟨_, (), rfl, hf.trans hf0.symm, ⟨by rw [ht9]; exact hR.P, hR.D⟩⟩, hR.sS.F ht9⟩) hR.sS.2.2 dX11_lengthOf_237
        rw [if_neg c9_171] at hf
        (try rw [if_neg c9_171] at hd)
        by_cases c9_178 : (fX8_opAt S (qO S 25 15) x1).toInt = 178
        · refine lv_lookup (off := 180) (tgt := 238) hx hb dX11_lengthOf_58 (by decide) (by rw [c9_178]; decide) (by decide) ?_
          rw [if_pos (c9_178)] at hf
          (try rw [if_pos (c9_178)] at hd)
          refine lv_iconst (v := 3) hx hb dX11_lengthOf_238 (by decide) ?_
          exact W.iret (v := 3) hx hb hr (fun t9 ht9 hW9 => ⟨⟨_, (), rfl, hf.trans hf0.symm, ⟨by rw [ht9]; exact hR.P, hR.D⟩⟩, hR.sS.F ht9⟩) hR.sS.2.2 dX11_lengthOf_239
        rw [if_neg c9_178] at hf
        (try rw [if_neg c9_178] at hd)
        by_cases c9_179 : (fX8_opAt S (qO S 25 15) x1).toInt = 179
        · refine lv_lookup (off := 180) (tgt := 238) hx hb dX11_lengthOf_58 (by decide) (by rw [c9_179]; decide) (by decide) ?_
          rw [if_pos (c9_179)] at hf
          (try rw [if_pos (c9_179)] at hd)
          refine lv_iconst (v := 3) hx hb dX11_lengthOf_238 (by decide) ?_
          exact W.iret (v := 3) hx hb hr (fun t9 ht9 hW9 => ⟨⟨_, (), rfl, hf.trans hf0.symm, ⟨by rw [ht9]; exact hR.P, hR.D⟩⟩, hR.sS.F ht9⟩) hR.sS.2.2 dX11_lengthOf_239
        rw [if_neg c9_179] at hf
        (try rw [if_neg c9_179] at hd)
        by_cases c9_184 : (fX8_opAt S (qO S 25 15) x1).toInt = 184
        · refine lv_lookup (off := 180) (tgt := 238) hx hb dX11_lengthOf_58 (by decide) (by rw [c9_184]; decide) (by decide) ?_
          rw [if_pos (c9_184)] at hf
          (try rw [if_pos (c9_184)] at hd)
          refine lv_iconst (v := 3) hx hb dX11_lengthOf_238 (by decide) ?_
          exact W.iret (v := 3) hx hb hr (fun t9 ht9 hW9 => ⟨⟨_, (), rfl, hf.trans hf0.symm, ⟨by rw [ht9]; exact hR.P, hR.D⟩⟩, hR.sS.F ht9⟩) hR.sS.2.2 dX11_lengthOf_239
        rw [if_neg c9_184] at hf
        (try rw [if_neg c9_184] at hd)
        by_cases c9_188 : (fX8_opAt S (qO S 25 15) x1).toInt = 188
        · refine lv_lookup (off := 182) (tgt := 240) hx hb dX11_lengthOf_58 (by decide) (by rw [c9_188]; decide) (by decide) ?_
          rw [if_pos (c9_188)] at hf
          (try rw [if_pos (c9_188)] at hd)
          refine lv_iconst (v := 2) hx hb dX11_lengthOf_240 (by decide) ?_
          exact W.iret (v := 2) hx hb hr (fun t9 ht9 hW9 => ⟨⟨_, (), rfl, hf.trans hf0.symm, ⟨by rw [ht9]; exact hR.P, hR.D⟩⟩, hR.sS.F ht9⟩) hR.sS.2.2 dX11_lengthOf_241
        rw [if_neg c9_188] at hf
        (try rw [if_neg c9_188] at hd)
        refine lv_lookup (off := 184) (tgt := 242) hx hb dX11_lengthOf_58 (by decide) (lx_cons c9_17 (lx_cons c9_20 (lx_cons c9_132 (lx_cons c9_170 (lx_cons c9_171 (lx_cons c9_178 (lx_cons c9_179 (lx_cons c9_184 (lx_cons c9_188 lx_nil))))))))) (by decide) ?_
        refine lv_iconst (v := 1) hx hb dX11_lengthOf_242 (by decide) ?_
        exact W.iret (v := 1) hx hb hr (fun t9 ht9 hW9 => ⟨⟨_, (), rfl, hf.trans hf0.symm, ⟨by rw [ht9]; exact hR.P, hR.D⟩⟩, hR.sS.F ht9⟩) hR.sS.2.2 dX11_lengthOf_243
      · rw [if_neg (k_ne rfl (by decide) c24)] at hf
        (try rw [if_neg (k_ne rfl (by decide) c24)] at hd)
        refine lv_iconst (v := 3) hx hb dX11_lengthOf_55 (by decide) ?_
        exact W.iret (v := 3) hx hb hr (fun t9 ht9 hW9 => ⟨⟨_, (), rfl, hf.trans hf0.symm, ⟨by rw [ht9]; exact hR.P, hR.D⟩⟩, hR.sS.F ht9⟩) hR.sS.2.2 dX11_lengthOf_56
    · rw [if_neg (k_ne rfl (by decide) c20)] at hf
      (try rw [if_neg (k_ne rfl (by decide) c20)] at hd)
      exact J_33 (fX8_argAt S (qO S 25 15) x1) _ _ ls hd hf  hR (lv_sub hl [0] rfl)
def w_X11_putInstruction_J33 (Q : MS → Prop) (U33 : MS) (v33_3 : Int32) (v33_4 : Int64) : Prop := (wfC U33 → (∃ Q17, wX11_putLocal U33 v33_3 (v33_4.toInt32) Q17 ∧ ∀ S18, Q17 S18 → wfC S18 → shx U33 S18 → Q S18))
def w_X11_putInstruction_J200 (Q : MS → Prop) (U200 : MS) (v200_1 : Int32) : Prop := (wfC U200 → (((0 : Int) ≤ v200_1.toInt ∧ v200_1.toInt < (qN U200 (qO U200 25 16) : Int)) ∧ (qT U200 28 = 40 → (∃ Q47, wX0_put2 U200 28 (qI U200 (qO U200 25 16) v200_1.toInt.toNat) Q47 ∧ ∀ S48, Q47 S48 → wfC S48 → shx U200 S48 → Q S48))))
def wX11_putInstruction (S : MS) (x1 : Int32) (x2 : Int32) (Q : MS → Prop) : Prop := ((qR S 25 15 = some (qO S 25 15)) ∧ (d_X8_opAt S (qO S 25 15) x1 ∧ (∀ a6 : Int32, a6 = (fX8_opAt S (qO S 25 15) x1) → ((qR S 25 15 = some (qO S 25 15)) ∧ (d_X8_argAt S (qO S 25 15) x1 ∧ (∀ a12 : Int64, a12 = (fX8_argAt S (qO S 25 15) x1) → (d_X6_isLoad S a6 ∧ (∀ a16 : Int32, a16 = (fX6_isLoad S a6) → ((a16.toInt = 0 → (d_X6_isStore S a6 ∧ (∀ a25 : Int32, a25 = (fX6_isStore S a6) → ((a25.toInt = 0 → (d_X6_isJump S a6 ∧ (∀ a30 : Int32, a30 = (fX6_isJump S a6) → ((a30.toInt = 0 → (d_X6_isSwitch S a6 ∧ (∀ a35 : Int32, a35 = (fX6_isSwitch S a6) → ((a35.toInt = 0 → ((a6.toInt = 17 → (((0 : Int) ≤ x1.toInt ∧ x1.toInt < (qN S (qO S 25 16) : Int)) ∧ (∃ Q85, wX11_putInt S (a12.toInt32) (qI S (qO S 25 16) x1.toInt.toNat) Q85 ∧ ∀ S86, Q85 S86 → wfC S86 → shx S S86 → Q S86))) ∧ (¬ a6.toInt = 17 → ((a6.toInt = 20 → (((0 : Int) ≤ x1.toInt ∧ x1.toInt < (qN S (qO S 25 16) : Int)) ∧ (∃ Q78, wX11_putLong S a12 (qI S (qO S 25 16) x1.toInt.toNat) Q78 ∧ ∀ S79, Q78 S79 → wfC S79 → shx S S79 → Q S79))) ∧ (¬ a6.toInt = 20 → ((a6.toInt = 132 → ((qR S 25 15 = some (qO S 25 15)) ∧ (d_X8_localOf S (qO S 25 15) x1 ∧ (∀ a64 : Int32, a64 = (fX8_localOf S (qO S 25 15) x1) → ((qR S 25 15 = some (qO S 25 15)) ∧ (d_X8_stepOf S (qO S 25 15) x1 ∧ (∀ a70 : Int32, a70 = (fX8_stepOf S (qO S 25 15) x1) → (∃ Q71, wX11_putGrow S a64 a70 Q71 ∧ ∀ S72, Q71 S72 → wfC S72 → shx S S72 → Q S72)))))))) ∧ (¬ a6.toInt = 132 → (qT S 28 = 40 → (∃ Q40, wX0_put S 28 a6 Q40 ∧ ∀ S41, Q40 S41 → wfC S41 → shx S S41 → ((a6.toInt = 178 → w_X11_putInstruction_J200 Q S41 x1) ∧ (¬ a6.toInt = 178 → ((a6.toInt = 179 → w_X11_putInstruction_J200 Q S41 x1) ∧ (¬ a6.toInt = 179 → ((a6.toInt = 184 → w_X11_putInstruction_J200 Q S41 x1) ∧ (¬ a6.toInt = 184 → ((a6.toInt = 188 → (qT S41 28 = 40 → (∃ Q55, wX0_put S41 28 (10 : Int32) Q55 ∧ ∀ S56, Q55 S56 → wfC S56 → shx S41 S56 → Q S56))) ∧ (¬ a6.toInt = 188 → Q S41))))))))))))))))) ∧ (¬ a35.toInt = 0 → (∃ Q89, wX11_putSwitch S x1 x2 Q89 ∧ ∀ S90, Q89 S90 → wfC S90 → shx S S90 → Q S90)))))) ∧ (¬ a30.toInt = 0 → (qT S 28 = 40 → (∃ Q93, wX0_put S 28 a6 Q93 ∧ ∀ S94, Q93 S94 → wfC S94 → shx S S94 → (d_X11_offsetOf S94 (a12.toInt32) ∧ (∀ a100 : Int32, a100 = (fX11_offsetOf S94 (a12.toInt32)) → (d_X11_offsetOf S94 x1 ∧ (∀ a104 : Int32, a104 = (fX11_offsetOf S94 x1) → (qT S94 28 = 40 → (∃ Q106, wX0_put2 S94 28 (a100 - a104) Q106 ∧ ∀ S107, Q106 S107 → wfC S107 → shx S94 S107 → Q S107))))))))))))) ∧ (¬ a25.toInt = 0 → w_X11_putInstruction_J33 Q S a6 a12))))) ∧ (¬ a16.toInt = 0 → w_X11_putInstruction_J33 Q S a6 a12))))))))))
set_option maxHeartbeats 2000000 in
set_option maxRecDepth 100000 in
theorem rX11_putInstruction (l : Launch) (g : Gr) (ad : Nat → Nat) (H0 : Heap) (S : MS) (x1 : Int32) (x2 : Int32) (hw : wfC S) (Q : MS → Prop) (h : wX11_putInstruction S x1 x2 Q) : Met l yX11_putInstruction (wt yX11_putInstruction cX11_putInstruction 6 none) ({ frames := 6, cells := KCC - qn S, slots := KSC - qu S, locals := 151 }) (va_Pc [.ref (ad 25), .int x1, .int x2] (st_CH g ad H0 S)) (va_Qv (fun (u : MS × (Nat → Nat)) => Q u.1 ∧ wfC u.1 ∧ shx S u.1 ∧ adk ad u.2 S) (fun (u : MS × (Nat → Nat)) (t : State) => qEHC g (va_A (WdC g ad S) H0.size) S H0 u t) (va_A (WdC g ad S) H0.size)) (KCC - qn S) (KSC - qu S) (va_A (WdC g ad S) H0.size) := by
  refine Met.ofW (cc := cX11_putInstruction) (maxL := 6) (ret := none) (by decide) rfl ?_
  intro p e s m args below meth c s₁ B hml hv
  obtain ⟨rfl, hH0, hsz, hP, hK, hD0, hex, hE⟩ := hv
  have hx := B.exec
  have hb := B.bytes
  have hr := B.returns
  have hts0 := atoms_spec (ws := wt yX11_putInstruction cX11_putInstruction 6 none) B.pre
  have hts : ∀ w ∈ tb, w.before _ s = true := fun w h => hts0 w (List.mem_cons_of_mem _ h)
  have hown : s.vm.findClass RX11 = some m.cls := findClass_of_methodNamed B.named
  subst hH0
  have hD := hD0.self (sz := s.heap.size)
  generalize hAe : va_A (WdC g ad S) s.heap.size = A at hD hE ⊢
  have hA : ∀ q : Nat, s.heap.size ≤ q → A q := fun q h => by rw [← hAe]; exact Or.inr h
  have hR : RepC g ad A s S s.heap [] := ⟨hK, hP, hD, va_S.rf, hw⟩
  clear hK hP hD hD0
  have hl := lv_entry ([.ref (ad 25), .int x1, .int x2]) (n := 6) (Nat.le_of_ble_eq_true rfl)
  rw [lg_entry_eq]
  generalize (lg_sl ([.ref (ad 25), .int x1, .int x2]) ++ List.replicate (6 - (lg_sl ([.ref (ad 25), .int x1, .int x2])).length) Slot.unset).toArray = ls at hl ⊢
  have hlg : lgC S S 0 0 := lgC.rf
  have hak : adk ad ad S := adk.rf
  have hl : lv_has ls 6 [(0, .ref (ad 25)), (1, .int x1), (2, .int x2)] := hl
  have hsh : shx S S := shx.rf
  unfold wX11_putInstruction at h
  refine lv_aload_n hx hb dX11_putInstruction_0 rfl (lv_at hl 0 rfl) ?_
  obtain ⟨hv2, h⟩ := h
  have hT_b1 : qT S (qO S 25 15) = 47 := hR.w.ref hv2 (hR.w.2.1 _ finC_28).2.1
  refine va_get (D := rD g) (ci := 10) (v := .ref (ad (qO S 25 15))) (C := RX11) (T := TX11) (N := 18) hx hb hts inX11 hown hR.K hR.P 25 (hR.at50 (hR.w.2.1 _ finC_28).2.1) rfl 15 (by decide) (hts _ kw_84) (fun _ h9 => h9) (congrArg (fun z => some (vf ad z)) hv2) dX11_putInstruction_1 ?_
  refine lv_iload_n hx hb dX11_putInstruction_4 rfl (lv_at hl 1 rfl) ?_
  obtain ⟨hv3, h⟩ := h
  have hFc := cfree hR hA
  refine va_calli (va_runV (As := [.int x1]) (rest := []) ⟨hx, hb, hml, hown, hts⟩ (rX8_opAt l g ad s.heap.size S (qO S 25 15) x1 hR.w hT_b1 hv3) (cwV 1 hts (gd_V kw_189 kw_1513 kw_1514 kw_782 kw_1512) rfl rfl rfl (by decide +kernel) ⟨Nat.le_of_ble_eq_true rfl, Nat.le_of_ble_eq_true rfl⟩) ⟨cblind, va_recv hR.K hR.P (ci := 7) (q0 := (qO S 25 15)) rfl (hR.at47 hT_b1), fun U hU hW9 => cmk hU hW9 hR hex hE hFc⟩ rfl rfl hl.1 rfl (lv_room (Nat.le_of_ble_eq_true rfl)) dX11_putInstruction_5 ⟨(show 0 + 0 ≤ KCC - qn S from hlg.c), (show 0 + 0 ≤ KSC - qu S from hlg.s)⟩) hR.sS (fun q _ h => hFc q h) hFc (fun r4 u9 t9 H1 locs ht9 hvm9 hw9 hB9 hz9 hk9 hS => ?_)
  have hR : RepC g ad A s S H1 locs := hR.call ht9 hB9 hR.w hS hFc
  obtain rfl : r4 = (fX8_opAt S (qO S 25 15) x1) := hw9
  clear hB9 hz9 hk9 hvm9 ht9 hS
  generalize H1 = H at hR ⊢
  obtain ⟨a6, ea6⟩ : ∃ z, z = (fX8_opAt S (qO S 25 15) x1) := ⟨_, rfl⟩
  rw [← ea6]
  replace h := h a6 ea6
  refine lv_istore_n (lv' := [(3, .int a6), (0, .ref (ad 25)), (1, .int x1), (2, .int x2)]) hx hb dX11_putInstruction_8 rfl hl (by decide) rfl (fun ls hl => ?_)
  refine lv_aload_n hx hb dX11_putInstruction_9 rfl (lv_at hl 1 rfl) ?_
  obtain ⟨hv8, h⟩ := h
  have hT_b7 : qT S (qO S 25 15) = 47 := hR.w.ref hv8 (hR.w.2.1 _ finC_28).2.1
  refine va_get (D := rD g) (ci := 10) (v := .ref (ad (qO S 25 15))) (C := RX11) (T := TX11) (N := 18) hx hb hts inX11 hown hR.K hR.P 25 (hR.at50 (hR.w.2.1 _ finC_28).2.1) rfl 15 (by decide) (hts _ kw_84) (fun _ h9 => h9) (congrArg (fun z => some (vf ad z)) hv8) dX11_putInstruction_10 ?_
  refine lv_iload_n hx hb dX11_putInstruction_13 rfl (lv_at hl 2 rfl) ?_
  obtain ⟨hv9, h⟩ := h
  have hFc := cfree hR hA
  refine va_calll (va_runV (As := [.int x1]) (rest := []) ⟨hx, hb, hml, hown, hts⟩ (rX8_argAt l g ad H.size S (qO S 25 15) x1 hR.w hT_b7 hv9) (cwV 1 hts (gd_V kw_197 kw_1476 kw_1477 kw_782 kw_1475) rfl rfl rfl (by decide +kernel) ⟨Nat.le_of_ble_eq_true rfl, Nat.le_of_ble_eq_true rfl⟩) ⟨cblind, va_recv hR.K hR.P (ci := 7) (q0 := (qO S 25 15)) rfl (hR.at47 hT_b7), fun U hU hW9 => cmk hU hW9 hR hex hE hFc⟩ rfl rfl hl.1 rfl (lv_room (Nat.le_of_ble_eq_true rfl)) dX11_putInstruction_14 ⟨(show 0 + 0 ≤ KCC - qn S from hlg.c), (show 0 + 0 ≤ KSC - qu S from hlg.s)⟩) hR.sS (fun q _ h => hFc q h) hFc (fun r10 u9 t9 H1 locs ht9 hvm9 hw9 hB9 hz9 hk9 hS => ?_)
  have hR : RepC g ad A s S H1 locs := hR.call ht9 hB9 hR.w hS hFc
  obtain rfl : r10 = (fX8_argAt S (qO S 25 15) x1) := hw9
  clear hB9 hz9 hk9 hvm9 ht9 hS
  generalize H1 = H at hR ⊢
  obtain ⟨a12, ea12⟩ : ∃ z, z = (fX8_argAt S (qO S 25 15) x1) := ⟨_, rfl⟩
  rw [← ea12]
  replace h := h a12 ea12
  refine lv_lstore (lv' := [(4, .long a12), (3, .int a6), (0, .ref (ad 25)), (1, .int x1), (2, .int x2)]) hx hb dX11_putInstruction_17 hl (by decide) rfl (fun ls hl => ?_)
  refine lv_iload_n hx hb dX11_putInstruction_19 rfl (lv_at hl 1 rfl) ?_
  obtain ⟨hv13, h⟩ := h
  have hFc := cfree hR hA
  refine va_calli (va_runS (As := [.int a6]) (rest := []) ⟨hx, hb, hml, hown, hts⟩ (rX6_isLoad l g ad H.size S a6 hR.w  hv13) (va_cwS 1 hts (gd_S kw_198 kw_1227 kw_1207 kw_1226) rfl rfl rfl (by decide +kernel) ⟨Nat.le_of_ble_eq_true rfl, Nat.le_of_ble_eq_true rfl⟩) ⟨cblind, fun U hU hW9 => cmk hU hW9 hR hex hE hFc⟩ rfl rfl hl.1 rfl (lv_room (Nat.le_of_ble_eq_true rfl)) dX11_putInstruction_20 ⟨(show 0 + 0 ≤ KCC - qn S from hlg.c), (show 0 + 0 ≤ KSC - qu S from hlg.s)⟩) hR.sS (fun q _ h => hFc q h) hFc (fun r14 u9 t9 H1 locs ht9 hvm9 hw9 hB9 hz9 hk9 hS => ?_)
  have hR : RepC g ad A s S H1 locs := hR.call ht9 hB9 hR.w hS hFc
  obtain ⟨rfl, hz_r14⟩ := hw9
  clear hB9 hz9 hk9 hvm9 ht9 hS
  generalize H1 = H at hR ⊢
  obtain ⟨a16, ea16⟩ : ∃ z, z = (fX6_isLoad S a6) := ⟨_, rfl⟩
  rw [← ea16]
  replace h := h a16 ea16
  rw [← ea16] at hz_r14
  have J_33 : ∀ (ad33 : Nat → Nat) (dc33 ds33 : Nat) (U33 : MS) (v33_3 : Int32) (v33_4 : Int64) (H : Heap) (locs : List Loc) (ls : Array Slot), w_X11_putInstruction_J33 Q U33 v33_3 v33_4 → shx S U33 → lgC S U33 dc33 ds33 → adk ad ad33 S → ogC ad33 A s s.heap → RepC g ad33 A s U33 H locs → lv_has ls 6 [(0, .ref (ad33 25)), (3, .int v33_3), (4, .long v33_4)] → W p l e (headSpec (wt yX11_putInstruction cX11_putInstruction 6 none) ({ frames := 6, cells := KCC - qn S, slots := KSC - qu S, locals := 151 })).room s m ([.ref (ad 25), .int x1, .int x2] : List Value).toArray below meth c H locs dc33 ds33 (MQ below (va_Qv (fun (u : MS × (Nat → Nat)) => Q u.1 ∧ wfC u.1 ∧ shx S u.1 ∧ adk ad u.2 S) (fun (u : MS × (Nat → Nat)) (t : State) => qEHC g A S s.heap u t) A) ([.ref (ad 25), .int x1, .int x2] : List Value).toArray s (KCC - qn S) (KSC - qu S) A) (F0 m 33 ls []) := by
    intro ad33 dc33 ds33 U33 v33_3 v33_4 H locs ls h hsh hlg hak hE hR hl
    unfold w_X11_putInstruction_J33 at h
    replace h := h hR.w
    refine lv_aload_n hx hb dX11_putInstruction_33 rfl (lv_at hl 0 rfl) ?_
    refine lv_iload_n hx hb dX11_putInstruction_34 rfl (lv_at hl 1 rfl) ?_
    refine lv_lload hx hb dX11_putInstruction_35 (lv_at hl 2 rfl) ?_
    refine lv_l2i (v := (v33_4.toInt32)) hx hb dX11_putInstruction_37 rfl ?_
    obtain ⟨Q17, h0, h⟩ := h
    have hFc := cfree hR hA
    refine W_led2 (fun hL0 => ?_)
    refine va_callv (va_runV (As := [.int v33_3, .int (v33_4.toInt32)]) (rest := []) ⟨hx, hb, hml, hown, hts⟩ (rX11_putLocal l g ad33 H U33 v33_3 (v33_4.toInt32) hR.w  Q17 h0) (cwV 2 hts (gd_V kw_242 kw_252 kw_253 kw_83 kw_251) rfl rfl rfl (by decide +kernel) ⟨Nat.le_of_ble_eq_true rfl, Nat.le_of_ble_eq_true rfl⟩) ⟨cblindH, va_recv hR.K hR.P (ci := 10) (q0 := 25) rfl (hR.at50 (hR.w.2.1 _ finC_28).2.1), fun U hU hW9 => cmkH hU hW9 hR hex hE hFc⟩ rfl rfl hl.1 rfl (lv_room (Nat.le_of_ble_eq_true rfl)) dX11_putInstruction_38 ⟨(show dc33 + (KCC - qn U33) ≤ KCC - qn S from hlg.cm), (show ds33 + (KSC - qu U33) ≤ KSC - qu S from hlg.sm)⟩) hR.sS (fun q _ h => hFc q h) hFc (fun  S18 t9 H1 locs ht9 hvm9 hw9 hB9 hz9 hk9 hS => ?_)
    rcases S18 with ⟨S18, ak20⟩
    obtain ⟨hB9, dc9, ds9, hL9, hl9⟩ := hB9
    dsimp only at hw9 hB9 hl9
    rw [ht9] at hL9
    obtain ⟨hq19, hw9, hs9, hk8⟩ := hw9
    have hw8 := hR.w
    have hak := hak.tr hk8 hlg.2.2.1
    have hE := hE.ad hk8
    have hR : RepC g ak20 A s S18 H1 locs := hR.callH ht9 hB9 hw9 hS hFc
    have hsh := hsh.tr hs9
    refine W_tight2 (hL0.tr hL9).1 (hL0.tr hL9).2.1 ?_
    have hlg := hlg.call hl9
    replace h := h  S18 hq19 hw9 hs9
    have ea_0 : ak20 25 = ad33 25 := hk8 _ (hw8.hd (hw8.2.1 _ finC_28).2.1 (by decide) (by decide))
    have hl : lv_has ls 6 [(0, .ref (ak20 25)), (3, .int v33_3), (4, .long v33_4)] := by simp only [ea_0]; exact hl
    clear hB9 hz9 hk9 hvm9 ht9 hw9 hs9 hS hL0 hL9
    generalize H1 = H at hR ⊢
    generalize dc9 = dc_ak20, ds9 = ds_ak20 at hlg ⊢
    refine lv_goto (tgt := 232) hx hb dX11_putInstruction_41 (by decide) ?_
    refine W_led2 (fun hLd => ?_)
    refine W.widen (k := KCC - qn S) (n := KSC - qu S) hlg.c hlg.s ?_
    exact W.vret hx hb hr (fun t9 ht9 hW9 => ⟨⟨(S18, ak20), rfl, ⟨h, hR.w, hsh, hak⟩, ⟨⟨by rw [ht9]; exact hR.P, hR.D⟩, _, _, by rw [ht9]; exact hLd, hlg⟩⟩, hR.sS.F ht9⟩) hR.sS.2.2 dX11_putInstruction_232
  refine lv_if_ne (tgt := 33) hx hb dX11_putInstruction_23 (by decide) (fun c21 => ?_) (fun c21 => ?_)
  · replace h := h.2 (k_ne rfl (by decide) c21)
    exact J_33 ad (0) (0) S a6 a12 _ _ ls h  hsh hlg hak hE hR (lv_sub hl [2, 1, 0] rfl)
  · replace h := h.1 (k_eq rfl (by decide) c21)
    refine lv_iload_n hx hb dX11_putInstruction_26 rfl (lv_at hl 1 rfl) ?_
    obtain ⟨hv22, h⟩ := h
    have hFc := cfree hR hA
    refine va_calli (va_runS (As := [.int a6]) (rest := []) ⟨hx, hb, hml, hown, hts⟩ (rX6_isStore l g ad H.size S a6 hR.w  hv22) (va_cwS 1 hts (gd_S kw_199 kw_1231 kw_1207 kw_1230) rfl rfl rfl (by decide +kernel) ⟨Nat.le_of_ble_eq_true rfl, Nat.le_of_ble_eq_true rfl⟩) ⟨cblind, fun U hU hW9 => cmk hU hW9 hR hex hE hFc⟩ rfl rfl hl.1 rfl (lv_room (Nat.le_of_ble_eq_true rfl)) dX11_putInstruction_27 ⟨(show 0 + 0 ≤ KCC - qn S from hlg.c), (show 0 + 0 ≤ KSC - qu S from hlg.s)⟩) hR.sS (fun q _ h => hFc q h) hFc (fun r23 u9 t9 H1 locs ht9 hvm9 hw9 hB9 hz9 hk9 hS => ?_)
    have hR : RepC g ad A s S H1 locs := hR.call ht9 hB9 hR.w hS hFc
    obtain ⟨rfl, hz_r23⟩ := hw9
    clear hB9 hz9 hk9 hvm9 ht9 hS
    generalize H1 = H at hR ⊢
    obtain ⟨a25, ea25⟩ : ∃ z, z = (fX6_isStore S a6) := ⟨_, rfl⟩
    rw [← ea25]
    replace h := h a25 ea25
    rw [← ea25] at hz_r23
    refine lv_if_eq (tgt := 44) hx hb dX11_putInstruction_30 (by decide) (fun c26 => ?_) (fun c26 => ?_)
    · replace h := h.1 (k_eq rfl (by decide) c26)
      refine lv_iload_n hx hb dX11_putInstruction_44 rfl (lv_at hl 1 rfl) ?_
      obtain ⟨hv27, h⟩ := h
      have hFc := cfree hR hA
      refine va_calli (va_runS (As := [.int a6]) (rest := []) ⟨hx, hb, hml, hown, hts⟩ (rX6_isJump l g ad H.size S a6 hR.w  hv27) (va_cwS 1 hts (gd_S kw_201 kw_1225 kw_1207 kw_1224) rfl rfl rfl (by decide +kernel) ⟨Nat.le_of_ble_eq_true rfl, Nat.le_of_ble_eq_true rfl⟩) ⟨cblind, fun U hU hW9 => cmk hU hW9 hR hex hE hFc⟩ rfl rfl hl.1 rfl (lv_room (Nat.le_of_ble_eq_true rfl)) dX11_putInstruction_45 ⟨(show 0 + 0 ≤ KCC - qn S from hlg.c), (show 0 + 0 ≤ KSC - qu S from hlg.s)⟩) hR.sS (fun q _ h => hFc q h) hFc (fun r28 u9 t9 H1 locs ht9 hvm9 hw9 hB9 hz9 hk9 hS => ?_)
      have hR : RepC g ad A s S H1 locs := hR.call ht9 hB9 hR.w hS hFc
      obtain ⟨rfl, hz_r28⟩ := hw9
      clear hB9 hz9 hk9 hvm9 ht9 hS
      generalize H1 = H at hR ⊢
      obtain ⟨a30, ea30⟩ : ∃ z, z = (fX6_isJump S a6) := ⟨_, rfl⟩
      rw [← ea30]
      replace h := h a30 ea30
      rw [← ea30] at hz_r28
      refine lv_if_eq (tgt := 82) hx hb dX11_putInstruction_48 (by decide) (fun c31 => ?_) (fun c31 => ?_)
      · replace h := h.1 (k_eq rfl (by decide) c31)
        refine lv_iload_n hx hb dX11_putInstruction_82 rfl (lv_at hl 1 rfl) ?_
        obtain ⟨hv32, h⟩ := h
        have hFc := cfree hR hA
        refine va_calli (va_runS (As := [.int a6]) (rest := []) ⟨hx, hb, hml, hown, hts⟩ (rX6_isSwitch l g ad H.size S a6 hR.w  hv32) (va_cwS 1 hts (gd_S kw_243 kw_1233 kw_1207 kw_1232) rfl rfl rfl (by decide +kernel) ⟨Nat.le_of_ble_eq_true rfl, Nat.le_of_ble_eq_true rfl⟩) ⟨cblind, fun U hU hW9 => cmk hU hW9 hR hex hE hFc⟩ rfl rfl hl.1 rfl (lv_room (Nat.le_of_ble_eq_true rfl)) dX11_putInstruction_83 ⟨(show 0 + 0 ≤ KCC - qn S from hlg.c), (show 0 + 0 ≤ KSC - qu S from hlg.s)⟩) hR.sS (fun q _ h => hFc q h) hFc (fun r33 u9 t9 H1 locs ht9 hvm9 hw9 hB9 hz9 hk9 hS => ?_)
        have hR : RepC g ad A s S H1 locs := hR.call ht9 hB9 hR.w hS hFc
        obtain ⟨rfl, hz_r33⟩ := hw9
        clear hB9 hz9 hk9 hvm9 ht9 hS
        generalize H1 = H at hR ⊢
        obtain ⟨a35, ea35⟩ : ∃ z, z = (fX6_isSwitch S a6) := ⟨_, rfl⟩
        rw [← ea35]
        replace h := h a35 ea35
        rw [← ea35] at hz_r33
        refine lv_if_eq (tgt := 98) hx hb dX11_putInstruction_86 (by decide) (fun c36 => ?_) (fun c36 => ?_)
        · replace h := h.1 (k_eq rfl (by decide) c36)
          refine lv_iload_n hx hb dX11_putInstruction_98 rfl (lv_at hl 1 rfl) ?_
          refine lv_bipush (v := 17) hx hb dX11_putInstruction_99 (by decide) ?_
          refine lv_icmp_ne (tgt := 120) hx hb dX11_putInstruction_101 (by decide) (fun c37 => ?_) (fun c37 => ?_)
          · replace h := h.2 (k_ne rfl (by decide) c37)
            refine lv_iload_n hx hb dX11_putInstruction_120 rfl (lv_at hl 1 rfl) ?_
            refine lv_bipush (v := 20) hx hb dX11_putInstruction_121 (by decide) ?_
            refine lv_icmp_ne (tgt := 141) hx hb dX11_putInstruction_123 (by decide) (fun c38 => ?_) (fun c38 => ?_)
            · replace h := h.2 (k_ne rfl (by decide) c38)
              refine lv_iload_n hx hb dX11_putInstruction_141 rfl (lv_at hl 1 rfl) ?_
              refine lv_sipush (v := 132) hx hb dX11_putInstruction_142 (by decide) ?_
              refine lv_icmp_ne (tgt := 171) hx hb dX11_putInstruction_145 (by decide) (fun c39 => ?_) (fun c39 => ?_)
              · replace h := h.2 (k_ne rfl (by decide) c39)
                refine lv_aload_n hx hb dX11_putInstruction_171 rfl (lv_at hl 2 rfl) ?_
                refine va_get (D := rD g) (ci := 10) (v := .ref (ad 28)) (C := RX11) (T := TX11) (N := 18) hx hb hts inX11 hown hR.K hR.P 25 (hR.at50 (hR.w.2.1 _ finC_28).2.1) rfl 1 (by decide) (hts _ kw_94) (fun _ h9 => h9) (congrArg (fun z => some (vf ad z)) (hR.w.2.1 _ finC_13).1) dX11_putInstruction_172 ?_
                refine lv_iload_n hx hb dX11_putInstruction_175 rfl (lv_at hl 1 rfl) ?_
                replace h := h ((hR.w.2.1 _ finC_13).2.1)
                obtain ⟨Q40, h0, h⟩ := h
                have hFc := cfree hR hA
                refine W_led2 (fun hL0 => ?_)
                refine va_callv (va_runV (As := [.int a6]) (rest := []) ⟨hx, hb, hml, hown, hts⟩ (rX0_put l g ad H S 28 a6 hR.w (hR.w.2.1 _ finC_13).2.1 Q40 h0) (cwV 1 hts (gd_V kw_140 kw_13 kw_14 kw_3 kw_12) rfl rfl rfl (by decide +kernel) ⟨Nat.le_of_ble_eq_true rfl, Nat.le_of_ble_eq_true rfl⟩) ⟨cblindH, va_recv hR.K hR.P (ci := 0) (q0 := 28) rfl (hR.at40 (hR.w.2.1 _ finC_13).2.1), fun U hU hW9 => cmkH hU hW9 hR hex hE hFc⟩ rfl rfl hl.1 rfl (lv_room (Nat.le_of_ble_eq_true rfl)) dX11_putInstruction_176 ⟨(show 0 + (KCC - qn S) ≤ KCC - qn S from hlg.cm), (show 0 + (KSC - qu S) ≤ KSC - qu S from hlg.sm)⟩) hR.sS (fun q _ h => hFc q h) hFc (fun  S41 t9 H1 locs ht9 hvm9 hw9 hB9 hz9 hk9 hS => ?_)
                rcases S41 with ⟨S41, ak43⟩
                obtain ⟨hB9, dc9, ds9, hL9, hl9⟩ := hB9
                dsimp only at hw9 hB9 hl9
                rw [ht9] at hL9
                obtain ⟨hq42, hw9, hs9, hk8⟩ := hw9
                have hw8 := hR.w
                have hak := hak.tr hk8 hlg.2.2.1
                have hE := hE.ad hk8
                have hR : RepC g ak43 A s S41 H1 locs := hR.callH ht9 hB9 hw9 hS hFc
                have hsh := hsh.tr hs9
                refine W_tight2 (hL0.tr hL9).1 (hL0.tr hL9).2.1 ?_
                have hlg := hlg.call hl9
                replace h := h  S41 hq42 hw9 hs9
                have ea_0 : ak43 25 = ad 25 := hk8 _ (hw8.hd (hw8.2.1 _ finC_28).2.1 (by decide) (by decide))
                have hl : lv_has ls 6 [(4, .long a12), (3, .int a6), (0, .ref (ak43 25)), (1, .int x1), (2, .int x2)] := by simp only [ea_0]; exact hl
                clear hB9 hz9 hk9 hvm9 ht9 hw9 hs9 hS hL0 hL9
                generalize H1 = H at hR ⊢
                generalize dc9 = dc_ak43, ds9 = ds_ak43 at hlg ⊢
                refine lv_iload_n hx hb dX11_putInstruction_179 rfl (lv_at hl 1 rfl) ?_
                refine lv_sipush (v := 178) hx hb dX11_putInstruction_180 (by decide) ?_
                have J_200 : ∀ (ad200 : Nat → Nat) (dc200 ds200 : Nat) (U200 : MS) (v200_1 : Int32) (H : Heap) (locs : List Loc) (ls : Array Slot), w_X11_putInstruction_J200 Q U200 v200_1 → shx S U200 → lgC S U200 dc200 ds200 → adk ad ad200 S → ogC ad200 A s s.heap → RepC g ad200 A s U200 H locs → lv_has ls 6 [(0, .ref (ad200 25)), (1, .int v200_1)] → W p l e (headSpec (wt yX11_putInstruction cX11_putInstruction 6 none) ({ frames := 6, cells := KCC - qn S, slots := KSC - qu S, locals := 151 })).room s m ([.ref (ad 25), .int x1, .int x2] : List Value).toArray below meth c H locs dc200 ds200 (MQ below (va_Qv (fun (u : MS × (Nat → Nat)) => Q u.1 ∧ wfC u.1 ∧ shx S u.1 ∧ adk ad u.2 S) (fun (u : MS × (Nat → Nat)) (t : State) => qEHC g A S s.heap u t) A) ([.ref (ad 25), .int x1, .int x2] : List Value).toArray s (KCC - qn S) (KSC - qu S) A) (F0 m 200 ls []) := by
                  intro ad200 dc200 ds200 U200 v200_1 H locs ls h hsh hlg hak hE hR hl
                  unfold w_X11_putInstruction_J200 at h
                  replace h := h hR.w
                  refine lv_aload_n hx hb dX11_putInstruction_200 rfl (lv_at hl 0 rfl) ?_
                  refine va_get (D := rD g) (ci := 10) (v := .ref (ad200 28)) (C := RX11) (T := TX11) (N := 18) hx hb hts inX11 hown hR.K hR.P 25 (hR.at50 (hR.w.2.1 _ finC_28).2.1) rfl 1 (by decide) (hts _ kw_94) (fun _ h9 => h9) (congrArg (fun z => some (vf ad200 z)) (hR.w.2.1 _ finC_13).1) dX11_putInstruction_201 ?_
                  refine lv_aload_n hx hb dX11_putInstruction_204 rfl (lv_at hl 0 rfl) ?_
                  have hT_b44 : qT U200 (qO U200 25 16) = 244 := hR.w.ref (hR.w.ptr ptrC_10) (hR.w.2.1 _ finC_28).2.1
                  refine va_get (D := rD g) (ci := 10) (v := .ref (ad200 (qO U200 25 16))) (C := RX11) (T := TX11) (N := 18) hx hb hts inX11 hown hR.K hR.P 25 (hR.at50 (hR.w.2.1 _ finC_28).2.1) rfl 16 (by decide) (hts _ kw_168) (fun _ h9 => h9) (congrArg (fun z => some (vf ad200 z)) (hR.w.ptr ptrC_10)) dX11_putInstruction_205 ?_
                  refine lv_iload_n hx hb dX11_putInstruction_208 rfl (lv_at hl 1 rfl) ?_
                  obtain ⟨hv45, h⟩ := h
                  refine va_iald hx hb hR.K hR.P (qO U200 25 16) 1 (hR.atI hT_b44 (by decide)) rfl (k_ix (x := v200_1) (a := v200_1.toInt) rfl hv45) dX11_putInstruction_209 ?_
                  refine lv_topi (fun z46 ez46 => ?_)
                  obtain rfl : z46 = (qI U200 (qO U200 25 16) v200_1.toInt.toNat) := ez46
                  replace h := h ((hR.w.2.1 _ finC_13).2.1)
                  obtain ⟨Q47, h0, h⟩ := h
                  have hFc := cfree hR hA
                  refine W_led2 (fun hL0 => ?_)
                  refine va_callv (va_runV (As := [.int (qI U200 (qO U200 25 16) v200_1.toInt.toNat)]) (rest := []) ⟨hx, hb, hml, hown, hts⟩ (rX0_put2 l g ad200 H U200 28 (qI U200 (qO U200 25 16) v200_1.toInt.toNat) hR.w (hR.w.2.1 _ finC_13).2.1 Q47 h0) (cwV 1 hts (gd_V kw_96 kw_17 kw_18 kw_3 kw_16) rfl rfl rfl (by decide +kernel) ⟨Nat.le_of_ble_eq_true rfl, Nat.le_of_ble_eq_true rfl⟩) ⟨cblindH, va_recv hR.K hR.P (ci := 0) (q0 := 28) rfl (hR.at40 (hR.w.2.1 _ finC_13).2.1), fun U hU hW9 => cmkH hU hW9 hR hex hE hFc⟩ rfl rfl hl.1 rfl (lv_room (Nat.le_of_ble_eq_true rfl)) dX11_putInstruction_210 ⟨(show dc200 + (KCC - qn U200) ≤ KCC - qn S from hlg.cm), (show ds200 + (KSC - qu U200) ≤ KSC - qu S from hlg.sm)⟩) hR.sS (fun q _ h => hFc q h) hFc (fun  S48 t9 H1 locs ht9 hvm9 hw9 hB9 hz9 hk9 hS => ?_)
                  rcases S48 with ⟨S48, ak50⟩
                  obtain ⟨hB9, dc9, ds9, hL9, hl9⟩ := hB9
                  dsimp only at hw9 hB9 hl9
                  rw [ht9] at hL9
                  obtain ⟨hq49, hw9, hs9, hk8⟩ := hw9
                  have hw8 := hR.w
                  have hak := hak.tr hk8 hlg.2.2.1
                  have hE := hE.ad hk8
                  have hR : RepC g ak50 A s S48 H1 locs := hR.callH ht9 hB9 hw9 hS hFc
                  have hsh := hsh.tr hs9
                  refine W_tight2 (hL0.tr hL9).1 (hL0.tr hL9).2.1 ?_
                  have hlg := hlg.call hl9
                  replace h := h  S48 hq49 hw9 hs9
                  have ea_0 : ak50 25 = ad200 25 := hk8 _ (hw8.hd (hw8.2.1 _ finC_28).2.1 (by decide) (by decide))
                  have hl : lv_has ls 6 [(0, .ref (ak50 25)), (1, .int v200_1)] := by simp only [ea_0]; exact hl
                  clear hB9 hz9 hk9 hvm9 ht9 hw9 hs9 hS hL0 hL9
                  generalize H1 = H at hR ⊢
                  generalize dc9 = dc_ak50, ds9 = ds_ak50 at hlg ⊢
                  refine lv_goto (tgt := 232) hx hb dX11_putInstruction_213 (by decide) ?_
                  refine W_led2 (fun hLd => ?_)
                  refine W.widen (k := KCC - qn S) (n := KSC - qu S) hlg.c hlg.s ?_
                  exact W.vret hx hb hr (fun t9 ht9 hW9 => ⟨⟨(S48, ak50), rfl, ⟨h, hR.w, hsh, hak⟩, ⟨⟨by rw [ht9]; exact hR.P, hR.D⟩, _, _, by rw [ht9]; exact hLd, hlg⟩⟩, hR.sS.F ht9⟩) hR.sS.2.2 dX11_putInstruction_232
                refine lv_icmp_eq (tgt := 200) hx hb dX11_putInstruction_183 (by decide) (fun c51 => ?_) (fun c51 => ?_)
                · replace h := h.1 (k_eq rfl (by decide) c51)
                  exact J_200 ak43 (0 + dc_ak43) (0 + ds_ak43) S41 x1 _ _ ls h  hsh hlg hak hE hR (lv_sub hl [2, 3] rfl)
                · replace h := h.2 (k_ne rfl (by decide) c51)
                  refine lv_iload_n hx hb dX11_putInstruction_186 rfl (lv_at hl 1 rfl) ?_
                  refine lv_sipush (v := 179) hx hb dX11_putInstruction_187 (by decide) ?_
                  refine lv_icmp_eq (tgt := 200) hx hb dX11_putInstruction_190 (by decide) (fun c52 => ?_) (fun c52 => ?_)
                  · replace h := h.1 (k_eq rfl (by decide) c52)
                    exact J_200 ak43 (0 + dc_ak43) (0 + ds_ak43) S41 x1 _ _ ls h  hsh hlg hak hE hR (lv_sub hl [2, 3] rfl)
                  · replace h := h.2 (k_ne rfl (by decide) c52)
                    refine lv_iload_n hx hb dX11_putInstruction_193 rfl (lv_at hl 1 rfl) ?_
                    refine lv_sipush (v := 184) hx hb dX11_putInstruction_194 (by decide) ?_
                    refine lv_icmp_ne (tgt := 216) hx hb dX11_putInstruction_197 (by decide) (fun c53 => ?_) (fun c53 => ?_)
                    · replace h := h.2 (k_ne rfl (by decide) c53)
                      refine lv_iload_n hx hb dX11_putInstruction_216 rfl (lv_at hl 1 rfl) ?_
                      refine lv_sipush (v := 188) hx hb dX11_putInstruction_217 (by decide) ?_
                      refine lv_icmp_ne (tgt := 232) hx hb dX11_putInstruction_220 (by decide) (fun c54 => ?_) (fun c54 => ?_)
                      · replace h := h.2 (k_ne rfl (by decide) c54)
                        refine W_led2 (fun hLd => ?_)
                        refine W.widen (k := KCC - qn S) (n := KSC - qu S) hlg.c hlg.s ?_
                        exact W.vret hx hb hr (fun t9 ht9 hW9 => ⟨⟨(S41, ak43), rfl, ⟨h, hR.w, hsh, hak⟩, ⟨⟨by rw [ht9]; exact hR.P, hR.D⟩, _, _, by rw [ht9]; exact hLd, hlg⟩⟩, hR.sS.F ht9⟩) hR.sS.2.2 dX11_putInstruction_232
                      · replace h := h.1 (k_eq rfl (by decide) c54)
                        refine lv_aload_n hx hb dX11_putInstruction_223 rfl (lv_at hl 2 rfl) ?_
                        refine va_get (D := rD g) (ci := 10) (v := .ref (ak43 28)) (C := RX11) (T := TX11) (N := 18) hx hb hts inX11 hown hR.K hR.P 25 (hR.at50 (hR.w.2.1 _ finC_28).2.1) rfl 1 (by decide) (hts _ kw_94) (fun _ h9 => h9) (congrArg (fun z => some (vf ak43 z)) (hR.w.2.1 _ finC_13).1) dX11_putInstruction_224 ?_
                        refine lv_bipush (v := 10) hx hb dX11_putInstruction_227 (by decide) ?_
                        replace h := h ((hR.w.2.1 _ finC_13).2.1)
                        obtain ⟨Q55, h0, h⟩ := h
                        have hFc := cfree hR hA
                        refine W_led2 (fun hL0 => ?_)
                        refine va_callv (va_runV (As := [.int 10]) (rest := []) ⟨hx, hb, hml, hown, hts⟩ (rX0_put l g ak43 H S41 28 (10 : Int32) hR.w (hR.w.2.1 _ finC_13).2.1 Q55 h0) (cwV 1 hts (gd_V kw_140 kw_13 kw_14 kw_3 kw_12) rfl rfl rfl (by decide +kernel) ⟨Nat.le_of_ble_eq_true rfl, Nat.le_of_ble_eq_true rfl⟩) ⟨cblindH, va_recv hR.K hR.P (ci := 0) (q0 := 28) rfl (hR.at40 (hR.w.2.1 _ finC_13).2.1), fun U hU hW9 => cmkH hU hW9 hR hex hE hFc⟩ rfl rfl hl.1 rfl (lv_room (Nat.le_of_ble_eq_true rfl)) dX11_putInstruction_229 ⟨(show 0 + dc_ak43 + (KCC - qn S41) ≤ KCC - qn S from hlg.cm), (show 0 + ds_ak43 + (KSC - qu S41) ≤ KSC - qu S from hlg.sm)⟩) hR.sS (fun q _ h => hFc q h) hFc (fun  S56 t9 H1 locs ht9 hvm9 hw9 hB9 hz9 hk9 hS => ?_)
                        rcases S56 with ⟨S56, ak58⟩
                        obtain ⟨hB9, dc9, ds9, hL9, hl9⟩ := hB9
                        dsimp only at hw9 hB9 hl9
                        rw [ht9] at hL9
                        obtain ⟨hq57, hw9, hs9, hk8⟩ := hw9
                        have hw8 := hR.w
                        have hak := hak.tr hk8 hlg.2.2.1
                        have hE := hE.ad hk8
                        have hR : RepC g ak58 A s S56 H1 locs := hR.callH ht9 hB9 hw9 hS hFc
                        have hsh := hsh.tr hs9
                        refine W_tight2 (hL0.tr hL9).1 (hL0.tr hL9).2.1 ?_
                        have hlg := hlg.call hl9
                        replace h := h  S56 hq57 hw9 hs9
                        have ea_0 : ak58 25 = ak43 25 := hk8 _ (hw8.hd (hw8.2.1 _ finC_28).2.1 (by decide) (by decide))
                        have hl : lv_has ls 6 [(4, .long a12), (3, .int a6), (0, .ref (ak58 25)), (1, .int x1), (2, .int x2)] := by simp only [ea_0]; exact hl
                        clear hB9 hz9 hk9 hvm9 ht9 hw9 hs9 hS hL0 hL9
                        generalize H1 = H at hR ⊢
                        generalize dc9 = dc_ak58, ds9 = ds_ak58 at hlg ⊢
                        refine W_led2 (fun hLd => ?_)
                        refine W.widen (k := KCC - qn S) (n := KSC - qu S) hlg.c hlg.s ?_
                        exact W.vret hx hb hr (fun t9 ht9 hW9 => ⟨⟨(S56, ak58), rfl, ⟨h, hR.w, hsh, hak⟩, ⟨⟨by rw [ht9]; exact hR.P, hR.D⟩, _, _, by rw [ht9]; exact hLd, hlg⟩⟩, hR.sS.F ht9⟩) hR.sS.2.2 dX11_putInstruction_232
                    · replace h := h.1 (k_eq rfl (by decide) c53)
                      exact J_200 ak43 (0 + dc_ak43) (0 + ds_ak43) S41 x1 _ _ ls h  hsh hlg hak hE hR (lv_sub hl [2, 3] rfl)
              · replace h := h.1 (k_eq rfl (by decide) c39)
                refine lv_aload_n hx hb dX11_putInstruction_148 rfl (lv_at hl 2 rfl) ?_
                refine lv_aload_n hx hb dX11_putInstruction_149 rfl (lv_at hl 2 rfl) ?_
                obtain ⟨hv60, h⟩ := h
                have hT_b59 : qT S (qO S 25 15) = 47 := hR.w.ref hv60 (hR.w.2.1 _ finC_28).2.1
                refine va_get (D := rD g) (ci := 10) (v := .ref (ad (qO S 25 15))) (C := RX11) (T := TX11) (N := 18) hx hb hts inX11 hown hR.K hR.P 25 (hR.at50 (hR.w.2.1 _ finC_28).2.1) rfl 15 (by decide) (hts _ kw_84) (fun _ h9 => h9) (congrArg (fun z => some (vf ad z)) hv60) dX11_putInstruction_150 ?_
                refine lv_iload_n hx hb dX11_putInstruction_153 rfl (lv_at hl 3 rfl) ?_
                obtain ⟨hv61, h⟩ := h
                have hFc := cfree hR hA
                refine va_calli (va_runV (As := [.int x1]) (rest := [.ref (ad 25)]) ⟨hx, hb, hml, hown, hts⟩ (rX8_localOf l g ad H.size S (qO S 25 15) x1 hR.w hT_b59 hv61) (cwV 1 hts (gd_V kw_191 kw_1509 kw_1510 kw_782 kw_1508) rfl rfl rfl (by decide +kernel) ⟨Nat.le_of_ble_eq_true rfl, Nat.le_of_ble_eq_true rfl⟩) ⟨cblind, va_recv hR.K hR.P (ci := 7) (q0 := (qO S 25 15)) rfl (hR.at47 hT_b59), fun U hU hW9 => cmk hU hW9 hR hex hE hFc⟩ rfl rfl hl.1 rfl (lv_room (Nat.le_of_ble_eq_true rfl)) dX11_putInstruction_154 ⟨(show 0 + 0 ≤ KCC - qn S from hlg.c), (show 0 + 0 ≤ KSC - qu S from hlg.s)⟩) hR.sS (fun q _ h => hFc q h) hFc (fun r62 u9 t9 H1 locs ht9 hvm9 hw9 hB9 hz9 hk9 hS => ?_)
                have hR : RepC g ad A s S H1 locs := hR.call ht9 hB9 hR.w hS hFc
                obtain rfl : r62 = (fX8_localOf S (qO S 25 15) x1) := hw9
                clear hB9 hz9 hk9 hvm9 ht9 hS
                generalize H1 = H at hR ⊢
                obtain ⟨a64, ea64⟩ : ∃ z, z = (fX8_localOf S (qO S 25 15) x1) := ⟨_, rfl⟩
                rw [← ea64]
                replace h := h a64 ea64
                refine lv_aload_n hx hb dX11_putInstruction_157 rfl (lv_at hl 2 rfl) ?_
                obtain ⟨hv66, h⟩ := h
                have hT_b65 : qT S (qO S 25 15) = 47 := hR.w.ref hv66 (hR.w.2.1 _ finC_28).2.1
                refine va_get (D := rD g) (ci := 10) (v := .ref (ad (qO S 25 15))) (C := RX11) (T := TX11) (N := 18) hx hb hts inX11 hown hR.K hR.P 25 (hR.at50 (hR.w.2.1 _ finC_28).2.1) rfl 15 (by decide) (hts _ kw_84) (fun _ h9 => h9) (congrArg (fun z => some (vf ad z)) hv66) dX11_putInstruction_158 ?_
                refine lv_iload_n hx hb dX11_putInstruction_161 rfl (lv_at hl 3 rfl) ?_
                obtain ⟨hv67, h⟩ := h
                have hFc := cfree hR hA
                refine va_calli (va_runV (As := [.int x1]) (rest := [.int a64, .ref (ad 25)]) ⟨hx, hb, hml, hown, hts⟩ (rX8_stepOf l g ad H.size S (qO S 25 15) x1 hR.w hT_b65 hv67) (cwV 1 hts (gd_V kw_203 kw_1531 kw_1532 kw_782 kw_1530) rfl rfl rfl (by decide +kernel) ⟨Nat.le_of_ble_eq_true rfl, Nat.le_of_ble_eq_true rfl⟩) ⟨cblind, va_recv hR.K hR.P (ci := 7) (q0 := (qO S 25 15)) rfl (hR.at47 hT_b65), fun U hU hW9 => cmk hU hW9 hR hex hE hFc⟩ rfl rfl hl.1 rfl (lv_room (Nat.le_of_ble_eq_true rfl)) dX11_putInstruction_162 ⟨(show 0 + 0 ≤ KCC - qn S from hlg.c), (show 0 + 0 ≤ KSC - qu S from hlg.s)⟩) hR.sS (fun q _ h => hFc q h) hFc (fun r68 u9 t9 H1 locs ht9 hvm9 hw9 hB9 hz9 hk9 hS => ?_)
                have hR : RepC g ad A s S H1 locs := hR.call ht9 hB9 hR.w hS hFc
                obtain rfl : r68 = (fX8_stepOf S (qO S 25 15) x1) := hw9
                clear hB9 hz9 hk9 hvm9 ht9 hS
                generalize H1 = H at hR ⊢
                obtain ⟨a70, ea70⟩ : ∃ z, z = (fX8_stepOf S (qO S 25 15) x1) := ⟨_, rfl⟩
                rw [← ea70]
                replace h := h a70 ea70
                obtain ⟨Q71, h0, h⟩ := h
                have hFc := cfree hR hA
                refine W_led2 (fun hL0 => ?_)
                refine va_callv (va_runV (As := [.int a64, .int a70]) (rest := []) ⟨hx, hb, hml, hown, hts⟩ (rX11_putGrow l g ad H S a64 a70 hR.w  Q71 h0) (cwV 2 hts (gd_V kw_247 kw_237 kw_238 kw_83 kw_236) rfl rfl rfl (by decide +kernel) ⟨Nat.le_of_ble_eq_true rfl, Nat.le_of_ble_eq_true rfl⟩) ⟨cblindH, va_recv hR.K hR.P (ci := 10) (q0 := 25) rfl (hR.at50 (hR.w.2.1 _ finC_28).2.1), fun U hU hW9 => cmkH hU hW9 hR hex hE hFc⟩ rfl rfl hl.1 rfl (lv_room (Nat.le_of_ble_eq_true rfl)) dX11_putInstruction_165 ⟨(show 0 + (KCC - qn S) ≤ KCC - qn S from hlg.cm), (show 0 + (KSC - qu S) ≤ KSC - qu S from hlg.sm)⟩) hR.sS (fun q _ h => hFc q h) hFc (fun  S72 t9 H1 locs ht9 hvm9 hw9 hB9 hz9 hk9 hS => ?_)
                rcases S72 with ⟨S72, ak74⟩
                obtain ⟨hB9, dc9, ds9, hL9, hl9⟩ := hB9
                dsimp only at hw9 hB9 hl9
                rw [ht9] at hL9
                obtain ⟨hq73, hw9, hs9, hk8⟩ := hw9
                have hw8 := hR.w
                have hak := hak.tr hk8 hlg.2.2.1
                have hE := hE.ad hk8
                have hR : RepC g ak74 A s S72 H1 locs := hR.callH ht9 hB9 hw9 hS hFc
                have hsh := hsh.tr hs9
                refine W_tight2 (hL0.tr hL9).1 (hL0.tr hL9).2.1 ?_
                have hlg := hlg.call hl9
                replace h := h  S72 hq73 hw9 hs9
                have ea_0 : ak74 25 = ad 25 := hk8 _ (hw8.hd (hw8.2.1 _ finC_28).2.1 (by decide) (by decide))
                have hl : lv_has ls 6 [(4, .long a12), (3, .int a6), (0, .ref (ak74 25)), (1, .int x1), (2, .int x2)] := by simp only [ea_0]; exact hl
                clear hB9 hz9 hk9 hvm9 ht9 hw9 hs9 hS hL0 hL9
                generalize H1 = H at hR ⊢
                generalize dc9 = dc_ak74, ds9 = ds_ak74 at hlg ⊢
                refine lv_goto (tgt := 232) hx hb dX11_putInstruction_168 (by decide) ?_
                refine W_led2 (fun hLd => ?_)
                refine W.widen (k := KCC - qn S) (n := KSC - qu S) hlg.c hlg.s ?_
                exact W.vret hx hb hr (fun t9 ht9 hW9 => ⟨⟨(S72, ak74), rfl, ⟨h, hR.w, hsh, hak⟩, ⟨⟨by rw [ht9]; exact hR.P, hR.D⟩, _, _, by rw [ht9]; exact hLd, hlg⟩⟩, hR.sS.F ht9⟩) hR.sS.2.2 dX11_putInstruction_232
            · replace h := h.1 (k_eq rfl (by decide) c38)
              refine lv_aload_n hx hb dX11_putInstruction_126 rfl (lv_at hl 2 rfl) ?_
              refine lv_lload hx hb dX11_putInstruction_127 (lv_at hl 0 rfl) ?_
              refine lv_aload_n hx hb dX11_putInstruction_129 rfl (lv_at hl 2 rfl) ?_
              have hT_b75 : qT S (qO S 25 16) = 244 := hR.w.ref (hR.w.ptr ptrC_10) (hR.w.2.1 _ finC_28).2.1
              refine va_get (D := rD g) (ci := 10) (v := .ref (ad (qO S 25 16))) (C := RX11) (T := TX11) (N := 18) hx hb hts inX11 hown hR.K hR.P 25 (hR.at50 (hR.w.2.1 _ finC_28).2.1) rfl 16 (by decide) (hts _ kw_168) (fun _ h9 => h9) (congrArg (fun z => some (vf ad z)) (hR.w.ptr ptrC_10)) dX11_putInstruction_130 ?_
              refine lv_iload_n hx hb dX11_putInstruction_133 rfl (lv_at hl 3 rfl) ?_
              obtain ⟨hv76, h⟩ := h
              refine va_iald hx hb hR.K hR.P (qO S 25 16) 1 (hR.atI hT_b75 (by decide)) rfl (k_ix (x := x1) (a := x1.toInt) rfl hv76) dX11_putInstruction_134 ?_
              refine lv_topi (fun z77 ez77 => ?_)
              obtain rfl : z77 = (qI S (qO S 25 16) x1.toInt.toNat) := ez77
              obtain ⟨Q78, h0, h⟩ := h
              have hFc := cfree hR hA
              refine W_led2 (fun hL0 => ?_)
              refine va_callv (va_runV (As := [.long a12, .int (qI S (qO S 25 16) x1.toInt.toNat)]) (rest := []) ⟨hx, hb, hml, hown, hts⟩ (rX11_putLong l g ad H S a12 (qI S (qO S 25 16) x1.toInt.toNat) hR.w  Q78 h0) (cwV 2 hts (gd_V kw_246 kw_255 kw_256 kw_83 kw_254) rfl rfl rfl (by decide +kernel) ⟨Nat.le_of_ble_eq_true rfl, Nat.le_of_ble_eq_true rfl⟩) ⟨cblindH, va_recv hR.K hR.P (ci := 10) (q0 := 25) rfl (hR.at50 (hR.w.2.1 _ finC_28).2.1), fun U hU hW9 => cmkH hU hW9 hR hex hE hFc⟩ rfl rfl hl.1 rfl (lv_room (Nat.le_of_ble_eq_true rfl)) dX11_putInstruction_135 ⟨(show 0 + (KCC - qn S) ≤ KCC - qn S from hlg.cm), (show 0 + (KSC - qu S) ≤ KSC - qu S from hlg.sm)⟩) hR.sS (fun q _ h => hFc q h) hFc (fun  S79 t9 H1 locs ht9 hvm9 hw9 hB9 hz9 hk9 hS => ?_)
              rcases S79 with ⟨S79, ak81⟩
              obtain ⟨hB9, dc9, ds9, hL9, hl9⟩ := hB9
              dsimp only at hw9 hB9 hl9
              rw [ht9] at hL9
              obtain ⟨hq80, hw9, hs9, hk8⟩ := hw9
              have hw8 := hR.w
              have hak := hak.tr hk8 hlg.2.2.1
              have hE := hE.ad hk8
              have hR : RepC g ak81 A s S79 H1 locs := hR.callH ht9 hB9 hw9 hS hFc
              have hsh := hsh.tr hs9
              refine W_tight2 (hL0.tr hL9).1 (hL0.tr hL9).2.1 ?_
              have hlg := hlg.call hl9
              replace h := h  S79 hq80 hw9 hs9
              have ea_0 : ak81 25 = ad 25 := hk8 _ (hw8.hd (hw8.2.1 _ finC_28).2.1 (by decide) (by decide))
              have hl : lv_has ls 6 [(4, .long a12), (3, .int a6), (0, .ref (ak81 25)), (1, .int x1), (2, .int x2)] := by simp only [ea_0]; exact hl
              clear hB9 hz9 hk9 hvm9 ht9 hw9 hs9 hS hL0 hL9
              generalize H1 = H at hR ⊢
              generalize dc9 = dc_ak81, ds9 = ds_ak81 at hlg ⊢
              refine lv_goto (tgt := 232) hx hb dX11_putInstruction_138 (by decide) ?_
              refine W_led2 (fun hLd => ?_)
              refine W.widen (k := KCC - qn S) (n := KSC - qu S) hlg.c hlg.s ?_
              exact W.vret hx hb hr (fun t9 ht9 hW9 => ⟨⟨(S79, ak81), rfl, ⟨h, hR.w, hsh, hak⟩, ⟨⟨by rw [ht9]; exact hR.P, hR.D⟩, _, _, by rw [ht9]; exact hLd, hlg⟩⟩, hR.sS.F ht9⟩) hR.sS.2.2 dX11_putInstruction_232
          · replace h := h.1 (k_eq rfl (by decide) c37)
            refine lv_aload_n hx hb dX11_putInstruction_104 rfl (lv_at hl 2 rfl) ?_
            refine lv_lload hx hb dX11_putInstruction_105 (lv_at hl 0 rfl) ?_
            refine lv_l2i (v := (a12.toInt32)) hx hb dX11_putInstruction_107 rfl ?_
            refine lv_aload_n hx hb dX11_putInstruction_108 rfl (lv_at hl 2 rfl) ?_
            have hT_b82 : qT S (qO S 25 16) = 244 := hR.w.ref (hR.w.ptr ptrC_10) (hR.w.2.1 _ finC_28).2.1
            refine va_get (D := rD g) (ci := 10) (v := .ref (ad (qO S 25 16))) (C := RX11) (T := TX11) (N := 18) hx hb hts inX11 hown hR.K hR.P 25 (hR.at50 (hR.w.2.1 _ finC_28).2.1) rfl 16 (by decide) (hts _ kw_168) (fun _ h9 => h9) (congrArg (fun z => some (vf ad z)) (hR.w.ptr ptrC_10)) dX11_putInstruction_109 ?_
            refine lv_iload_n hx hb dX11_putInstruction_112 rfl (lv_at hl 3 rfl) ?_
            obtain ⟨hv83, h⟩ := h
            refine va_iald hx hb hR.K hR.P (qO S 25 16) 1 (hR.atI hT_b82 (by decide)) rfl (k_ix (x := x1) (a := x1.toInt) rfl hv83) dX11_putInstruction_113 ?_
            refine lv_topi (fun z84 ez84 => ?_)
            obtain rfl : z84 = (qI S (qO S 25 16) x1.toInt.toNat) := ez84
            obtain ⟨Q85, h0, h⟩ := h
            have hFc := cfree hR hA
            refine W_led2 (fun hL0 => ?_)
            refine va_callv (va_runV (As := [.int (a12.toInt32), .int (qI S (qO S 25 16) x1.toInt.toNat)]) (rest := []) ⟨hx, hb, hml, hown, hts⟩ (rX11_putInt l g ad H S (a12.toInt32) (qI S (qO S 25 16) x1.toInt.toNat) hR.w  Q85 h0) (cwV 2 hts (gd_V kw_245 kw_249 kw_250 kw_83 kw_248) rfl rfl rfl (by decide +kernel) ⟨Nat.le_of_ble_eq_true rfl, Nat.le_of_ble_eq_true rfl⟩) ⟨cblindH, va_recv hR.K hR.P (ci := 10) (q0 := 25) rfl (hR.at50 (hR.w.2.1 _ finC_28).2.1), fun U hU hW9 => cmkH hU hW9 hR hex hE hFc⟩ rfl rfl hl.1 rfl (lv_room (Nat.le_of_ble_eq_true rfl)) dX11_putInstruction_114 ⟨(show 0 + (KCC - qn S) ≤ KCC - qn S from hlg.cm), (show 0 + (KSC - qu S) ≤ KSC - qu S from hlg.sm)⟩) hR.sS (fun q _ h => hFc q h) hFc (fun  S86 t9 H1 locs ht9 hvm9 hw9 hB9 hz9 hk9 hS => ?_)
            rcases S86 with ⟨S86, ak88⟩
            obtain ⟨hB9, dc9, ds9, hL9, hl9⟩ := hB9
            dsimp only at hw9 hB9 hl9
            rw [ht9] at hL9
            obtain ⟨hq87, hw9, hs9, hk8⟩ := hw9
            have hw8 := hR.w
            have hak := hak.tr hk8 hlg.2.2.1
            have hE := hE.ad hk8
            have hR : RepC g ak88 A s S86 H1 locs := hR.callH ht9 hB9 hw9 hS hFc
            have hsh := hsh.tr hs9
            refine W_tight2 (hL0.tr hL9).1 (hL0.tr hL9).2.1 ?_
            have hlg := hlg.call hl9
            replace h := h  S86 hq87 hw9 hs9
            have ea_0 : ak88 25 = ad 25 := hk8 _ (hw8.hd (hw8.2.1 _ finC_28).2.1 (by decide) (by decide))
            have hl : lv_has ls 6 [(4, .long a12), (3, .int a6), (0, .ref (ak88 25)), (1, .int x1), (2, .int x2)] := by simp only [ea_0]; exact hl
            clear hB9 hz9 hk9 hvm9 ht9 hw9 hs9 hS hL0 hL9
            generalize H1 = H at hR ⊢
            generalize dc9 = dc_ak88, ds9 = ds_ak88 at hlg ⊢
            refine lv_goto (tgt := 232) hx hb dX11_putInstruction_117 (by decide) ?_
            refine W_led2 (fun hLd => ?_)
            refine W.widen (k := KCC - qn S) (n := KSC - qu S) hlg.c hlg.s ?_
            exact W.vret hx hb hr (fun t9 ht9 hW9 => ⟨⟨(S86, ak88), rfl, ⟨h, hR.w, hsh, hak⟩, ⟨⟨by rw [ht9]; exact hR.P, hR.D⟩, _, _, by rw [ht9]; exact hLd, hlg⟩⟩, hR.sS.F ht9⟩) hR.sS.2.2 dX11_putInstruction_232
        · replace h := h.2 (k_ne rfl (by decide) c36)
          refine lv_aload_n hx hb dX11_putInstruction_89 rfl (lv_at hl 2 rfl) ?_
          refine lv_iload_n hx hb dX11_putInstruction_90 rfl (lv_at hl 3 rfl) ?_
          refine lv_iload_n hx hb dX11_putInstruction_91 rfl (lv_at hl 4 rfl) ?_
          obtain ⟨Q89, h0, h⟩ := h
          have hFc := cfree hR hA
          refine W_led2 (fun hL0 => ?_)
          refine va_callv (va_runV (As := [.int x1, .int x2]) (rest := []) ⟨hx, hb, hml, hown, hts⟩ (rX11_putSwitch l g ad H S x1 x2 hR.w  Q89 h0) (cwV 2 hts (gd_V kw_244 kw_261 kw_262 kw_83 kw_260) rfl rfl rfl (by decide +kernel) ⟨Nat.le_of_ble_eq_true rfl, Nat.le_of_ble_eq_true rfl⟩) ⟨cblindH, va_recv hR.K hR.P (ci := 10) (q0 := 25) rfl (hR.at50 (hR.w.2.1 _ finC_28).2.1), fun U hU hW9 => cmkH hU hW9 hR hex hE hFc⟩ rfl rfl hl.1 rfl (lv_room (Nat.le_of_ble_eq_true rfl)) dX11_putInstruction_92 ⟨(show 0 + (KCC - qn S) ≤ KCC - qn S from hlg.cm), (show 0 + (KSC - qu S) ≤ KSC - qu S from hlg.sm)⟩) hR.sS (fun q _ h => hFc q h) hFc (fun  S90 t9 H1 locs ht9 hvm9 hw9 hB9 hz9 hk9 hS => ?_)
          rcases S90 with ⟨S90, ak92⟩
          obtain ⟨hB9, dc9, ds9, hL9, hl9⟩ := hB9
          dsimp only at hw9 hB9 hl9
          rw [ht9] at hL9
          obtain ⟨hq91, hw9, hs9, hk8⟩ := hw9
          have hw8 := hR.w
          have hak := hak.tr hk8 hlg.2.2.1
          have hE := hE.ad hk8
          have hR : RepC g ak92 A s S90 H1 locs := hR.callH ht9 hB9 hw9 hS hFc
          have hsh := hsh.tr hs9
          refine W_tight2 (hL0.tr hL9).1 (hL0.tr hL9).2.1 ?_
          have hlg := hlg.call hl9
          replace h := h  S90 hq91 hw9 hs9
          have ea_0 : ak92 25 = ad 25 := hk8 _ (hw8.hd (hw8.2.1 _ finC_28).2.1 (by decide) (by decide))
          have hl : lv_has ls 6 [(4, .long a12), (3, .int a6), (0, .ref (ak92 25)), (1, .int x1), (2, .int x2)] := by simp only [ea_0]; exact hl
          clear hB9 hz9 hk9 hvm9 ht9 hw9 hs9 hS hL0 hL9
          generalize H1 = H at hR ⊢
          generalize dc9 = dc_ak92, ds9 = ds_ak92 at hlg ⊢
          refine lv_goto (tgt := 232) hx hb dX11_putInstruction_95 (by decide) ?_
          refine W_led2 (fun hLd => ?_)
          refine W.widen (k := KCC - qn S) (n := KSC - qu S) hlg.c hlg.s ?_
          exact W.vret hx hb hr (fun t9 ht9 hW9 => ⟨⟨(S90, ak92), rfl, ⟨h, hR.w, hsh, hak⟩, ⟨⟨by rw [ht9]; exact hR.P, hR.D⟩, _, _, by rw [ht9]; exact hLd, hlg⟩⟩, hR.sS.F ht9⟩) hR.sS.2.2 dX11_putInstruction_232
      · replace h := h.2 (k_ne rfl (by decide) c31)
        refine lv_aload_n hx hb dX11_putInstruction_51 rfl (lv_at hl 2 rfl) ?_
        refine va_get (D := rD g) (ci := 10) (v := .ref (ad 28)) (C := RX11) (T := TX11) (N := 18) hx hb hts inX11 hown hR.K hR.P 25 (hR.at50 (hR.w.2.1 _ finC_28).2.1) rfl 1 (by decide) (hts _ kw_94) (fun _ h9 => h9) (congrArg (fun z => some (vf ad z)) (hR.w.2.1 _ finC_13).1) dX11_putInstruction_52 ?_
        refine lv_iload_n hx hb dX11_putInstruction_55 rfl (lv_at hl 1 rfl) ?_
        replace h := h ((hR.w.2.1 _ finC_13).2.1)
        obtain ⟨Q93, h0, h⟩ := h
        have hFc := cfree hR hA
        refine W_led2 (fun hL0 => ?_)
        refine va_callv (va_runV (As := [.int a6]) (rest := []) ⟨hx, hb, hml, hown, hts⟩ (rX0_put l g ad H S 28 a6 hR.w (hR.w.2.1 _ finC_13).2.1 Q93 h0) (cwV 1 hts (gd_V kw_140 kw_13 kw_14 kw_3 kw_12) rfl rfl rfl (by decide +kernel) ⟨Nat.le_of_ble_eq_true rfl, Nat.le_of_ble_eq_true rfl⟩) ⟨cblindH, va_recv hR.K hR.P (ci := 0) (q0 := 28) rfl (hR.at40 (hR.w.2.1 _ finC_13).2.1), fun U hU hW9 => cmkH hU hW9 hR hex hE hFc⟩ rfl rfl hl.1 rfl (lv_room (Nat.le_of_ble_eq_true rfl)) dX11_putInstruction_56 ⟨(show 0 + (KCC - qn S) ≤ KCC - qn S from hlg.cm), (show 0 + (KSC - qu S) ≤ KSC - qu S from hlg.sm)⟩) hR.sS (fun q _ h => hFc q h) hFc (fun  S94 t9 H1 locs ht9 hvm9 hw9 hB9 hz9 hk9 hS => ?_)
        rcases S94 with ⟨S94, ak96⟩
        obtain ⟨hB9, dc9, ds9, hL9, hl9⟩ := hB9
        dsimp only at hw9 hB9 hl9
        rw [ht9] at hL9
        obtain ⟨hq95, hw9, hs9, hk8⟩ := hw9
        have hw8 := hR.w
        have hak := hak.tr hk8 hlg.2.2.1
        have hE := hE.ad hk8
        have hR : RepC g ak96 A s S94 H1 locs := hR.callH ht9 hB9 hw9 hS hFc
        have hsh := hsh.tr hs9
        refine W_tight2 (hL0.tr hL9).1 (hL0.tr hL9).2.1 ?_
        have hlg := hlg.call hl9
        replace h := h  S94 hq95 hw9 hs9
        have ea_0 : ak96 25 = ad 25 := hk8 _ (hw8.hd (hw8.2.1 _ finC_28).2.1 (by decide) (by decide))
        have hl : lv_has ls 6 [(4, .long a12), (3, .int a6), (0, .ref (ak96 25)), (1, .int x1), (2, .int x2)] := by simp only [ea_0]; exact hl
        clear hB9 hz9 hk9 hvm9 ht9 hw9 hs9 hS hL0 hL9
        generalize H1 = H at hR ⊢
        generalize dc9 = dc_ak96, ds9 = ds_ak96 at hlg ⊢
        refine lv_aload_n hx hb dX11_putInstruction_59 rfl (lv_at hl 2 rfl) ?_
        refine va_get (D := rD g) (ci := 10) (v := .ref (ak96 28)) (C := RX11) (T := TX11) (N := 18) hx hb hts inX11 hown hR.K hR.P 25 (hR.at50 (hR.w.2.1 _ finC_28).2.1) rfl 1 (by decide) (hts _ kw_94) (fun _ h9 => h9) (congrArg (fun z => some (vf ak96 z)) (hR.w.2.1 _ finC_13).1) dX11_putInstruction_60 ?_
        refine lv_aload_n hx hb dX11_putInstruction_63 rfl (lv_at hl 2 rfl) ?_
        refine lv_lload hx hb dX11_putInstruction_64 (lv_at hl 0 rfl) ?_
        refine lv_l2i (v := (a12.toInt32)) hx hb dX11_putInstruction_66 rfl ?_
        obtain ⟨hv97, h⟩ := h
        have hFc := cfree hR hA
        refine va_calli (va_runV (As := [.int (a12.toInt32)]) (rest := [.ref (ak96 28)]) ⟨hx, hb, hml, hown, hts⟩ (rX11_offsetOf l g ak96 H.size S94 (a12.toInt32) hR.w  hv97) (cwV 1 hts (gd_V kw_105 kw_228 kw_229 kw_83 kw_227) rfl rfl rfl (by decide +kernel) ⟨Nat.le_of_ble_eq_true rfl, Nat.le_of_ble_eq_true rfl⟩) ⟨cblind, va_recv hR.K hR.P (ci := 10) (q0 := 25) rfl (hR.at50 (hR.w.2.1 _ finC_28).2.1), fun U hU hW9 => cmk hU hW9 hR hex hE hFc⟩ rfl rfl hl.1 rfl (lv_room (Nat.le_of_ble_eq_true rfl)) dX11_putInstruction_67 ⟨(show 0 + dc_ak96 + 0 ≤ KCC - qn S from hlg.c), (show 0 + ds_ak96 + 0 ≤ KSC - qu S from hlg.s)⟩) hR.sS (fun q _ h => hFc q h) hFc (fun r98 u9 t9 H1 locs ht9 hvm9 hw9 hB9 hz9 hk9 hS => ?_)
        have hR : RepC g ak96 A s S94 H1 locs := hR.call ht9 hB9 hR.w hS hFc
        obtain rfl : r98 = (fX11_offsetOf S94 (a12.toInt32)) := hw9
        clear hB9 hz9 hk9 hvm9 ht9 hS
        generalize H1 = H at hR ⊢
        obtain ⟨a100, ea100⟩ : ∃ z, z = (fX11_offsetOf S94 (a12.toInt32)) := ⟨_, rfl⟩
        rw [← ea100]
        replace h := h a100 ea100
        refine lv_aload_n hx hb dX11_putInstruction_70 rfl (lv_at hl 2 rfl) ?_
        refine lv_iload_n hx hb dX11_putInstruction_71 rfl (lv_at hl 3 rfl) ?_
        obtain ⟨hv101, h⟩ := h
        have hFc := cfree hR hA
        refine va_calli (va_runV (As := [.int x1]) (rest := [.int a100, .ref (ak96 28)]) ⟨hx, hb, hml, hown, hts⟩ (rX11_offsetOf l g ak96 H.size S94 x1 hR.w  hv101) (cwV 1 hts (gd_V kw_105 kw_228 kw_229 kw_83 kw_227) rfl rfl rfl (by decide +kernel) ⟨Nat.le_of_ble_eq_true rfl, Nat.le_of_ble_eq_true rfl⟩) ⟨cblind, va_recv hR.K hR.P (ci := 10) (q0 := 25) rfl (hR.at50 (hR.w.2.1 _ finC_28).2.1), fun U hU hW9 => cmk hU hW9 hR hex hE hFc⟩ rfl rfl hl.1 rfl (lv_room (Nat.le_of_ble_eq_true rfl)) dX11_putInstruction_72 ⟨(show 0 + dc_ak96 + 0 ≤ KCC - qn S from hlg.c), (show 0 + ds_ak96 + 0 ≤ KSC - qu S from hlg.s)⟩) hR.sS (fun q _ h => hFc q h) hFc (fun r102 u9 t9 H1 locs ht9 hvm9 hw9 hB9 hz9 hk9 hS => ?_)
        have hR : RepC g ak96 A s S94 H1 locs := hR.call ht9 hB9 hR.w hS hFc
        obtain rfl : r102 = (fX11_offsetOf S94 x1) := hw9
        clear hB9 hz9 hk9 hvm9 ht9 hS
        generalize H1 = H at hR ⊢
        obtain ⟨a104, ea104⟩ : ∃ z, z = (fX11_offsetOf S94 x1) := ⟨_, rfl⟩
        rw [← ea104]
        replace h := h a104 ea104
        refine lv_isub hx hb dX11_putInstruction_75 ?_
        refine lv_topi (fun z105 ez105 => ?_)
        obtain rfl : z105 = (a100 - a104) := ez105
        replace h := h ((hR.w.2.1 _ finC_13).2.1)
        obtain ⟨Q106, h0, h⟩ := h
        have hFc := cfree hR hA
        refine W_led2 (fun hL0 => ?_)
        refine va_callv (va_runV (As := [.int (a100 - a104)]) (rest := []) ⟨hx, hb, hml, hown, hts⟩ (rX0_put2 l g ak96 H S94 28 (a100 - a104) hR.w (hR.w.2.1 _ finC_13).2.1 Q106 h0) (cwV 1 hts (gd_V kw_96 kw_17 kw_18 kw_3 kw_16) rfl rfl rfl (by decide +kernel) ⟨Nat.le_of_ble_eq_true rfl, Nat.le_of_ble_eq_true rfl⟩) ⟨cblindH, va_recv hR.K hR.P (ci := 0) (q0 := 28) rfl (hR.at40 (hR.w.2.1 _ finC_13).2.1), fun U hU hW9 => cmkH hU hW9 hR hex hE hFc⟩ rfl rfl hl.1 rfl (lv_room (Nat.le_of_ble_eq_true rfl)) dX11_putInstruction_76 ⟨(show 0 + dc_ak96 + (KCC - qn S94) ≤ KCC - qn S from hlg.cm), (show 0 + ds_ak96 + (KSC - qu S94) ≤ KSC - qu S from hlg.sm)⟩) hR.sS (fun q _ h => hFc q h) hFc (fun  S107 t9 H1 locs ht9 hvm9 hw9 hB9 hz9 hk9 hS => ?_)
        rcases S107 with ⟨S107, ak109⟩
        obtain ⟨hB9, dc9, ds9, hL9, hl9⟩ := hB9
        dsimp only at hw9 hB9 hl9
        rw [ht9] at hL9
        obtain ⟨hq108, hw9, hs9, hk8⟩ := hw9
        have hw8 := hR.w
        have hak := hak.tr hk8 hlg.2.2.1
        have hE := hE.ad hk8
        have hR : RepC g ak109 A s S107 H1 locs := hR.callH ht9 hB9 hw9 hS hFc
        have hsh := hsh.tr hs9
        refine W_tight2 (hL0.tr hL9).1 (hL0.tr hL9).2.1 ?_
        have hlg := hlg.call hl9
        replace h := h  S107 hq108 hw9 hs9
        have ea_0 : ak109 25 = ak96 25 := hk8 _ (hw8.hd (hw8.2.1 _ finC_28).2.1 (by decide) (by decide))
        have hl : lv_has ls 6 [(4, .long a12), (3, .int a6), (0, .ref (ak109 25)), (1, .int x1), (2, .int x2)] := by simp only [ea_0]; exact hl
        clear hB9 hz9 hk9 hvm9 ht9 hw9 hs9 hS hL0 hL9
        generalize H1 = H at hR ⊢
        generalize dc9 = dc_ak109, ds9 = ds_ak109 at hlg ⊢
        refine lv_goto (tgt := 232) hx hb dX11_putInstruction_79 (by decide) ?_
        refine W_led2 (fun hLd => ?_)
        refine W.widen (k := KCC - qn S) (n := KSC - qu S) hlg.c hlg.s ?_
        exact W.vret hx hb hr (fun t9 ht9 hW9 => ⟨⟨(S107, ak109), rfl, ⟨h, hR.w, hsh, hak⟩, ⟨⟨by rw [ht9]; exact hR.P, hR.D⟩, _, _, by rw [ht9]; exact hLd, hlg⟩⟩, hR.sS.F ht9⟩) hR.sS.2.2 dX11_putInstruction_232
    · replace h := h.2 (k_ne rfl (by decide) c26)
      exact J_33 ad (0) (0) S a6 a12 _ _ ls h  hsh hlg hak hE hR (lv_sub hl [2, 1, 0] rfl)
def wX12_size (S : MS) (x1 : Int32) (x2 : Int32) (Q : Int32 → MS → Prop) : Prop := (∃ Q1, wX12_unitAt S x1 Q1 ∧ ∀ b5 S3, Q1 b5 S3 → wfC S3 → shy S S3 → (∀ z, b5 = some z → qT S3 z = 49) → ((b5 = none → Q (-1 : Int32) S3) ∧ (¬ b5 = none → ((x2.toInt = 0 → Q (qI S3 ((b5).getD 0) 4) S3) ∧ (¬ x2.toInt = 0 → ((x2.toInt = 1 → Q (qI S3 ((b5).getD 0) 8) S3) ∧ (¬ x2.toInt = 1 → ((x2.toInt = 2 → Q (qI S3 ((b5).getD 0) 1) S3) ∧ (¬ x2.toInt = 2 → ((x2.toInt = 3 → Q (qI S3 ((b5).getD 0) 14) S3) ∧ (¬ x2.toInt = 3 → Q (-1 : Int32) S3)))))))))))
set_option maxHeartbeats 2000000 in
set_option maxRecDepth 100000 in
theorem rX12_size (l : Launch) (g : Gr) (ad : Nat → Nat) (sz : Nat) (S : MS) (x1 : Int32) (x2 : Int32) (hw : wfC S) (Q : Int32 → MS → Prop) (h : wX12_size S x1 x2 Q) : Met l yX12_size (wt yX12_size cX12_size 4 (some .int)) ({ frames := 1, cells := 0, slots := 0, locals := 21 }) (va_Pc [.ref (ad 0), .int x1, .int x2] (st_C g ad sz S)) (va_Qi (fun (r : Int32) (u : MS) => Q r u ∧ wfC u ∧ shy S u) (fun (u : MS) (t : State) => qEC g ad (va_A (WdC g ad S) sz) u t) (va_A (WdC g ad S) sz)) 0 0 (va_A (WdC g ad S) sz) := by
  refine Met.ofW (cc := cX12_size) (maxL := 4) (ret := (some .int)) (by decide) rfl ?_
  intro p e s m args below meth c s₁ B hml hv
  obtain ⟨rfl, hsz, hP, hK, hD0, hex, hE⟩ := hv
  have hx := B.exec
  have hb := B.bytes
  have hr := B.returns
  have hts0 := atoms_spec (ws := wt yX12_size cX12_size 4 (some .int)) B.pre
  have hts : ∀ w ∈ tb, w.before _ s = true := fun w h => hts0 w (List.mem_cons_of_mem _ h)
  have hown : s.vm.findClass RX12 = some m.cls := findClass_of_methodNamed B.named
  subst hsz
  have hD := hD0.self (sz := s.heap.size)
  generalize hAe : va_A (WdC g ad S) s.heap.size = A at hD hE ⊢
  have hA : ∀ q : Nat, s.heap.size ≤ q → A q := fun q h => by rw [← hAe]; exact Or.inr h
  have hR : RepC g ad A s S s.heap [] := ⟨hK, hP, hD, va_S.rf, hw⟩
  clear hK hP hD hD0
  have hl := lv_entry ([.ref (ad 0), .int x1, .int x2]) (n := 4) (Nat.le_of_ble_eq_true rfl)
  rw [lg_entry_eq]
  generalize (lg_sl ([.ref (ad 0), .int x1, .int x2]) ++ List.replicate (4 - (lg_sl ([.ref (ad 0), .int x1, .int x2])).length) Slot.unset).toArray = ls at hl ⊢
  have hl : lv_has ls 4 [(0, .ref (ad 0)), (1, .int x1), (2, .int x2)] := hl
  have hsh : shy S S := shy.rf
  unfold wX12_size at h
  refine lv_aload_n hx hb dX12_size_0 rfl (lv_at hl 0 rfl) ?_
  refine lv_iload_n hx hb dX12_size_1 rfl (lv_at hl 1 rfl) ?_
  obtain ⟨Q1, h0, h⟩ := h
  have hFc := cfree hR hA
  refine va_callq (va_runV (As := [.int x1]) (rest := []) ⟨hx, hb, hml, hown, hts⟩ (rX12_unitAt l g ad s.heap.size S x1 hR.w  Q1 h0) (cwV 1 hts (gd_V kw_431 kw_464 kw_465 kw_280 kw_463) rfl rfl rfl (by decide +kernel) ⟨Nat.le_of_ble_eq_true rfl, Nat.le_of_ble_eq_true rfl⟩) ⟨cblind, va_recv hR.K hR.P (ci := 11) (q0 := 0) rfl (hR.at51 hR.w.1), fun U hU hW9 => cmk hU hW9 hR hex hE hFc⟩ rfl rfl hl.1 rfl (lv_room (Nat.le_of_ble_eq_true rfl)) dX12_size_2 ⟨Nat.le_of_ble_eq_true rfl, Nat.le_of_ble_eq_true rfl⟩) hR.sS (fun q _ h => hFc q h) hFc (fun r2 S3 t9 H1 locs ht9 hvm9 hw9 hB9 hz9 hk9 hS => ?_)
  obtain ⟨b5, rfl, hq4, hw9, hs9, hO_b5⟩ := hw9
  have hR : RepC g ad A s S3 H1 locs := hR.call ht9 hB9 hw9 hS hFc
  have hsh := hsh.tr hs9
  replace h := h b5 S3 hq4 hw9 hs9 hO_b5
  clear hB9 hz9 hk9 hvm9 ht9 hw9 hs9 hS
  generalize H1 = H at hR ⊢
  rcases hq_b6 : b5 with _ | b6
  · skip
    replace h := h.1 (hq_b6)
    refine lv_astore_nN (lv' := [(3, .null), (0, .ref (ad 0)), (1, .int x1), (2, .int x2)]) hx hb dX12_size_5 rfl hl (by decide) rfl (fun ls hl => ?_)
    refine lv_aload_nN hx hb dX12_size_6 rfl (lv_at hl 0 rfl) ?_
    refine lv_ifnonnullN hx hb dX12_size_7 ?_
    refine lv_iconst (v := (-1)) hx hb dX12_size_10 (by decide) ?_
    exact W.iret (v := (-1)) hx hb hr (fun t9 ht9 hW9 => ⟨⟨_, S3, rfl, ⟨h, hR.w, hsh⟩, ⟨by rw [ht9]; exact hR.P, hR.D⟩⟩, hR.sS.F ht9⟩) hR.sS.2.2 dX12_size_11
  · have hg_b6 : b6 = (b5).getD 0 := by rw [hq_b6]; rfl
    have hT_b6 : qT S3 ((b5).getD 0) = 49 := hg_b6 ▸ hO_b5 _ hq_b6
    subst hg_b6
    replace h := h.2 (fun q9 => Option.some_ne_none _ (hq_b6.symm.trans q9))
    refine lv_astore_n (lv' := [(3, .ref (ad ((b5).getD 0))), (0, .ref (ad 0)), (1, .int x1), (2, .int x2)]) hx hb dX12_size_5 rfl hl (by decide) rfl (fun ls hl => ?_)
    refine lv_aload_n hx hb dX12_size_6 rfl (lv_at hl 0 rfl) ?_
    refine lv_ifnonnull (tgt := 12) hx hb dX12_size_7 (by decide) ?_
    refine lv_iload_n hx hb dX12_size_12 rfl (lv_at hl 3 rfl) ?_
    by_cases c9_0 : x2.toInt = 0
    · refine lv_tableIn (off := 31) (tgt := 44) hx hb dX12_size_13 (by rw [c9_0]; decide) (by rw [c9_0]; decide) (by rw [c9_0]; rfl) (by decide) ?_
      replace h := h.1 (c9_0)
      refine lv_aload_n hx hb dX12_size_44 rfl (lv_at hl 0 rfl) ?_
      refine va_get (D := rD g) (ci := 9) (v := .int (qI S3 ((b5).getD 0) 4)) (C := RX10) (T := TX10) (N := 18) hx hb hts inX10 hown hR.K hR.P ((b5).getD 0) (hR.at49 hT_b6) rfl 4 (by decide) (hts _ kw_320) (fun _ h9 => h9) rfl dX12_size_45 ?_
      exact W.iret (v := (qI S3 ((b5).getD 0) 4)) hx hb hr (fun t9 ht9 hW9 => ⟨⟨_, S3, rfl, ⟨h, hR.w, hsh⟩, ⟨by rw [ht9]; exact hR.P, hR.D⟩⟩, hR.sS.F ht9⟩) hR.sS.2.2 dX12_size_48
    replace h := h.2 c9_0
    by_cases c9_1 : x2.toInt = 1
    · refine lv_tableIn (off := 36) (tgt := 49) hx hb dX12_size_13 (by rw [c9_1]; decide) (by rw [c9_1]; decide) (by rw [c9_1]; rfl) (by decide) ?_
      replace h := h.1 (c9_1)
      refine lv_aload_n hx hb dX12_size_49 rfl (lv_at hl 0 rfl) ?_
      refine va_get (D := rD g) (ci := 9) (v := .int (qI S3 ((b5).getD 0) 8)) (C := RX10) (T := TX10) (N := 18) hx hb hts inX10 hown hR.K hR.P ((b5).getD 0) (hR.at49 hT_b6) rfl 8 (by decide) (hts _ kw_323) (fun _ h9 => h9) rfl dX12_size_50 ?_
      exact W.iret (v := (qI S3 ((b5).getD 0) 8)) hx hb hr (fun t9 ht9 hW9 => ⟨⟨_, S3, rfl, ⟨h, hR.w, hsh⟩, ⟨by rw [ht9]; exact hR.P, hR.D⟩⟩, hR.sS.F ht9⟩) hR.sS.2.2 dX12_size_53
    replace h := h.2 c9_1
    by_cases c9_2 : x2.toInt = 2
    · refine lv_tableIn (off := 41) (tgt := 54) hx hb dX12_size_13 (by rw [c9_2]; decide) (by rw [c9_2]; decide) (by rw [c9_2]; rfl) (by decide) ?_
      replace h := h.1 (c9_2)
      refine lv_aload_n hx hb dX12_size_54 rfl (lv_at hl 0 rfl) ?_
      refine va_get (D := rD g) (ci := 9) (v := .int (qI S3 ((b5).getD 0) 1)) (C := RX10) (T := TX10) (N := 18) hx hb hts inX10 hown hR.K hR.P ((b5).getD 0) (hR.at49 hT_b6) rfl 1 (by decide) (hts _ kw_444) (fun _ h9 => h9) rfl dX12_size_55 ?_
      exact W.iret (v := (qI S3 ((b5).getD 0) 1)) hx hb hr (fun t9 ht9 hW9 => ⟨⟨_, S3, rfl, ⟨h, hR.w, hsh⟩, ⟨by rw [ht9]; exact hR.P, hR.D⟩⟩, hR.sS.F ht9⟩) hR.sS.2.2 dX12_size_58
    replace h := h.2 c9_2
    by_cases c9_3 : x2.toInt = 3
    · refine lv_tableIn (off := 46) (tgt := 59) hx hb dX12_size_13 (by rw [c9_3]; decide) (by rw [c9_3]; decide) (by rw [c9_3]; rfl) (by decide) ?_
      replace h := h.1 (c9_3)
      refine lv_aload_n hx hb dX12_size_59 rfl (lv_at hl 0 rfl) ?_
      refine va_get (D := rD g) (ci := 9) (v := .int (qI S3 ((b5).getD 0) 14)) (C := RX10) (T := TX10) (N := 18) hx hb hts inX10 hown hR.K hR.P ((b5).getD 0) (hR.at49 hT_b6) rfl 14 (by decide) (hts _ kw_445) (fun _ h9 => h9) rfl dX12_size_60 ?_
      exact W.iret (v := (qI S3 ((b5).getD 0) 14)) hx hb hr (fun t9 ht9 hW9 => ⟨⟨_, S3, rfl, ⟨h, hR.w, hsh⟩, ⟨by rw [ht9]; exact hR.P, hR.D⟩⟩, hR.sS.F ht9⟩) hR.sS.2.2 dX12_size_63
    replace h := h.2 c9_3
    refine lv_tableOut (tgt := 64) hx hb dX12_size_13 (by omega) (by decide) ?_
    refine lv_iconst (v := (-1)) hx hb dX12_size_64 (by decide) ?_
    exact W.iret (v := (-1)) hx hb hr (fun t9 ht9 hW9 => ⟨⟨_, S3, rfl, ⟨h, hR.w, hsh⟩, ⟨by rw [ht9]; exact hR.P, hR.D⟩⟩, hR.sS.F ht9⟩) hR.sS.2.2 dX12_size_65
def wX12_length (S : MS) (x1 : Int32) (x2 : Int32) (Q : Int32 → MS → Prop) : Prop := (∃ Q1, wX12_rowAt S x1 x2 Q1 ∧ ∀ b5 S3, Q1 b5 S3 → wfC S3 → shy S S3 → (∀ z, b5 = some z → qT S3 z = 47) → ((b5 = none → Q (-1 : Int32) S3) ∧ (¬ b5 = none → Q (qI S3 ((b5).getD 0) 2) S3)))
set_option maxHeartbeats 2000000 in
set_option maxRecDepth 100000 in
theorem rX12_length (l : Launch) (g : Gr) (ad : Nat → Nat) (sz : Nat) (S : MS) (x1 : Int32) (x2 : Int32) (hw : wfC S) (Q : Int32 → MS → Prop) (h : wX12_length S x1 x2 Q) : Met l yX12_length (wt yX12_length cX12_length 4 (some .int)) ({ frames := 2, cells := 0, slots := 0, locals := 44 }) (va_Pc [.ref (ad 0), .int x1, .int x2] (st_C g ad sz S)) (va_Qi (fun (r : Int32) (u : MS) => Q r u ∧ wfC u ∧ shy S u) (fun (u : MS) (t : State) => qEC g ad (va_A (WdC g ad S) sz) u t) (va_A (WdC g ad S) sz)) 0 0 (va_A (WdC g ad S) sz) := by
  refine Met.ofW (cc := cX12_length) (maxL := 4) (ret := (some .int)) (by decide) rfl ?_
  intro p e s m args below meth c s₁ B hml hv
  obtain ⟨rfl, hsz, hP, hK, hD0, hex, hE⟩ := hv
  have hx := B.exec
  have hb := B.bytes
  have hr := B.returns
  have hts0 := atoms_spec (ws := wt yX12_length cX12_length 4 (some .int)) B.pre
  have hts : ∀ w ∈ tb, w.before _ s = true := fun w h => hts0 w (List.mem_cons_of_mem _ h)
  have hown : s.vm.findClass RX12 = some m.cls := findClass_of_methodNamed B.named
  subst hsz
  have hD := hD0.self (sz := s.heap.size)
  generalize hAe : va_A (WdC g ad S) s.heap.size = A at hD hE ⊢
  have hA : ∀ q : Nat, s.heap.size ≤ q → A q := fun q h => by rw [← hAe]; exact Or.inr h
  have hR : RepC g ad A s S s.heap [] := ⟨hK, hP, hD, va_S.rf, hw⟩
  clear hK hP hD hD0
  have hl := lv_entry ([.ref (ad 0), .int x1, .int x2]) (n := 4) (Nat.le_of_ble_eq_true rfl)
  rw [lg_entry_eq]
  generalize (lg_sl ([.ref (ad 0), .int x1, .int x2]) ++ List.replicate (4 - (lg_sl ([.ref (ad 0), .int x1, .int x2])).length) Slot.unset).toArray = ls at hl ⊢
  have hl : lv_has ls 4 [(0, .ref (ad 0)), (1, .int x1), (2, .int x2)] := hl
  have hsh : shy S S := shy.rf
  unfold wX12_length at h
  refine lv_aload_n hx hb dX12_length_0 rfl (lv_at hl 0 rfl) ?_
  refine lv_iload_n hx hb dX12_length_1 rfl (lv_at hl 1 rfl) ?_
  refine lv_iload_n hx hb dX12_length_2 rfl (lv_at hl 2 rfl) ?_
  obtain ⟨Q1, h0, h⟩ := h
  have hFc := cfree hR hA
  refine va_callq (va_runV (As := [.int x1, .int x2]) (rest := []) ⟨hx, hb, hml, hown, hts⟩ (rX12_rowAt l g ad s.heap.size S x1 x2 hR.w  Q1 h0) (cwV 2 hts (gd_V kw_299 kw_429 kw_430 kw_280 kw_428) rfl rfl rfl (by decide +kernel) ⟨Nat.le_of_ble_eq_true rfl, Nat.le_of_ble_eq_true rfl⟩) ⟨cblind, va_recv hR.K hR.P (ci := 11) (q0 := 0) rfl (hR.at51 hR.w.1), fun U hU hW9 => cmk hU hW9 hR hex hE hFc⟩ rfl rfl hl.1 rfl (lv_room (Nat.le_of_ble_eq_true rfl)) dX12_length_3 ⟨Nat.le_of_ble_eq_true rfl, Nat.le_of_ble_eq_true rfl⟩) hR.sS (fun q _ h => hFc q h) hFc (fun r2 S3 t9 H1 locs ht9 hvm9 hw9 hB9 hz9 hk9 hS => ?_)
  obtain ⟨b5, rfl, hq4, hw9, hs9, hO_b5⟩ := hw9
  have hR : RepC g ad A s S3 H1 locs := hR.call ht9 hB9 hw9 hS hFc
  have hsh := hsh.tr hs9
  replace h := h b5 S3 hq4 hw9 hs9 hO_b5
  clear hB9 hz9 hk9 hvm9 ht9 hw9 hs9 hS
  generalize H1 = H at hR ⊢
  rcases hq_b6 : b5 with _ | b6
  · skip
    replace h := h.1 (hq_b6)
    refine lv_astore_nN (lv' := [(3, .null), (0, .ref (ad 0)), (1, .int x1), (2, .int x2)]) hx hb dX12_length_6 rfl hl (by decide) rfl (fun ls hl => ?_)
    refine lv_aload_nN hx hb dX12_length_7 rfl (lv_at hl 0 rfl) ?_
    refine lv_ifnonnullN hx hb dX12_length_8 ?_
    refine lv_iconst (v := (-1)) hx hb dX12_length_11 (by decide) ?_
    refine lv_goto (tgt := 19) hx hb dX12_length_12 (by decide) ?_
    exact W.iret (v := (-1)) hx hb hr (fun t9 ht9 hW9 => ⟨⟨_, S3, rfl, ⟨h, hR.w, hsh⟩, ⟨by rw [ht9]; exact hR.P, hR.D⟩⟩, hR.sS.F ht9⟩) hR.sS.2.2 dX12_length_19
  · have hg_b6 : b6 = (b5).getD 0 := by rw [hq_b6]; rfl
    have hT_b6 : qT S3 ((b5).getD 0) = 47 := hg_b6 ▸ hO_b5 _ hq_b6
    subst hg_b6
    replace h := h.2 (fun q9 => Option.some_ne_none _ (hq_b6.symm.trans q9))
    refine lv_astore_n (lv' := [(3, .ref (ad ((b5).getD 0))), (0, .ref (ad 0)), (1, .int x1), (2, .int x2)]) hx hb dX12_length_6 rfl hl (by decide) rfl (fun ls hl => ?_)
    refine lv_aload_n hx hb dX12_length_7 rfl (lv_at hl 0 rfl) ?_
    refine lv_ifnonnull (tgt := 15) hx hb dX12_length_8 (by decide) ?_
    refine lv_aload_n hx hb dX12_length_15 rfl (lv_at hl 0 rfl) ?_
    refine va_get (D := rD g) (ci := 7) (v := .int (qI S3 ((b5).getD 0) 2)) (C := RX8) (T := TX8) (N := 15) hx hb hts inX8 hown hR.K hR.P ((b5).getD 0) (hR.at47 hT_b6) rfl 2 (by decide) (hts _ kw_413) (fun _ h9 => h9) rfl dX12_length_16 ?_
    exact W.iret (v := (qI S3 ((b5).getD 0) 2)) hx hb hr (fun t9 ht9 hW9 => ⟨⟨_, S3, rfl, ⟨h, hR.w, hsh⟩, ⟨by rw [ht9]; exact hR.P, hR.D⟩⟩, hR.sS.F ht9⟩) hR.sS.2.2 dX12_length_19
def w_X12_height_J18 (Q : Int32 → MS → Prop) (U18 : MS) (t18_0 : Option Nat) (v18_3 : Int32) : Prop := (wfC U18 → (∀ z, t18_0 = some z → qT U18 z = 47) → ((t18_0 = none → Q (-1 : Int32) U18) ∧ (¬ t18_0 = none → (d_X8_heightAt U18 ((t18_0).getD 0) v18_3 ∧ Q (fX8_heightAt U18 ((t18_0).getD 0) v18_3) U18))))
def wX12_height (S : MS) (x1 : Int32) (x2 : Int32) (x3 : Int32) (Q : Int32 → MS → Prop) : Prop := (∃ Q1, wX12_soundUnitAt S x1 Q1 ∧ ∀ b5 S3, Q1 b5 S3 → wfC S3 → shy S S3 → (∀ z, b5 = some z → qT S3 z = 49) → ((b5 = none → w_X12_height_J18 Q S3 none x3) ∧ (¬ b5 = none → (∃ Q11, wX12_rowAt S3 x1 x2 Q11 ∧ ∀ b15 S13, Q11 b15 S13 → wfC S13 → shy S3 S13 → (∀ z, b15 = some z → qT S13 z = 47) → w_X12_height_J18 Q S13 b15 x3))))
set_option maxHeartbeats 2000000 in
set_option maxRecDepth 100000 in
theorem rX12_height (l : Launch) (g : Gr) (ad : Nat → Nat) (sz : Nat) (S : MS) (x1 : Int32) (x2 : Int32) (x3 : Int32) (hw : wfC S) (Q : Int32 → MS → Prop) (h : wX12_height S x1 x2 x3 Q) : Met l yX12_height (wt yX12_height cX12_height 5 (some .int)) ({ frames := 2, cells := 0, slots := 0, locals := 44 }) (va_Pc [.ref (ad 0), .int x1, .int x2, .int x3] (st_C g ad sz S)) (va_Qi (fun (r : Int32) (u : MS) => Q r u ∧ wfC u ∧ shy S u) (fun (u : MS) (t : State) => qEC g ad (va_A (WdC g ad S) sz) u t) (va_A (WdC g ad S) sz)) 0 0 (va_A (WdC g ad S) sz) := by
  refine Met.ofW (cc := cX12_height) (maxL := 5) (ret := (some .int)) (by decide) rfl ?_
  intro p e s m args below meth c s₁ B hml hv
  obtain ⟨rfl, hsz, hP, hK, hD0, hex, hE⟩ := hv
  have hx := B.exec
  have hb := B.bytes
  have hr := B.returns
  have hts0 := atoms_spec (ws := wt yX12_height cX12_height 5 (some .int)) B.pre
  have hts : ∀ w ∈ tb, w.before _ s = true := fun w h => hts0 w (List.mem_cons_of_mem _ h)
  have hown : s.vm.findClass RX12 = some m.cls := findClass_of_methodNamed B.named
  subst hsz
  have hD := hD0.self (sz := s.heap.size)
  generalize hAe : va_A (WdC g ad S) s.heap.size = A at hD hE ⊢
  have hA : ∀ q : Nat, s.heap.size ≤ q → A q := fun q h => by rw [← hAe]; exact Or.inr h
  have hR : RepC g ad A s S s.heap [] := ⟨hK, hP, hD, va_S.rf, hw⟩
  clear hK hP hD hD0
  have hl := lv_entry ([.ref (ad 0), .int x1, .int x2, .int x3]) (n := 5) (Nat.le_of_ble_eq_true rfl)
  rw [lg_entry_eq]
  generalize (lg_sl ([.ref (ad 0), .int x1, .int x2, .int x3]) ++ List.replicate (5 - (lg_sl ([.ref (ad 0), .int x1, .int x2, .int x3])).length) Slot.unset).toArray = ls at hl ⊢
  have hl : lv_has ls 5 [(0, .ref (ad 0)), (1, .int x1), (2, .int x2), (3, .int x3)] := hl
  have hsh : shy S S := shy.rf
  unfold wX12_height at h
  refine lv_aload_n hx hb dX12_height_0 rfl (lv_at hl 0 rfl) ?_
  refine lv_iload_n hx hb dX12_height_1 rfl (lv_at hl 1 rfl) ?_
  obtain ⟨Q1, h0, h⟩ := h
  have hFc := cfree hR hA
  refine va_callq (va_runV (As := [.int x1]) (rest := []) ⟨hx, hb, hml, hown, hts⟩ (rX12_soundUnitAt l g ad s.heap.size S x1 hR.w  Q1 h0) (cwV 1 hts (gd_V kw_316 kw_447 kw_448 kw_280 kw_446) rfl rfl rfl (by decide +kernel) ⟨Nat.le_of_ble_eq_true rfl, Nat.le_of_ble_eq_true rfl⟩) ⟨cblind, va_recv hR.K hR.P (ci := 11) (q0 := 0) rfl (hR.at51 hR.w.1), fun U hU hW9 => cmk hU hW9 hR hex hE hFc⟩ rfl rfl hl.1 rfl (lv_room (Nat.le_of_ble_eq_true rfl)) dX12_height_2 ⟨Nat.le_of_ble_eq_true rfl, Nat.le_of_ble_eq_true rfl⟩) hR.sS (fun q _ h => hFc q h) hFc (fun r2 S3 t9 H1 locs ht9 hvm9 hw9 hB9 hz9 hk9 hS => ?_)
  obtain ⟨b5, rfl, hq4, hw9, hs9, hO_b5⟩ := hw9
  have hR : RepC g ad A s S3 H1 locs := hR.call ht9 hB9 hw9 hS hFc
  have hsh := hsh.tr hs9
  replace h := h b5 S3 hq4 hw9 hs9 hO_b5
  clear hB9 hz9 hk9 hvm9 ht9 hw9 hs9 hS
  generalize H1 = H at hR ⊢
  have J_18 : ∀ (U18 : MS) (t18_0 : Option Nat) (v18_3 : Int32) (H : Heap) (locs : List Loc) (ls : Array Slot), w_X12_height_J18 Q U18 t18_0 v18_3 → (∀ z, t18_0 = some z → qT U18 z = 47) → shy S U18 → RepC g ad A s U18 H locs → lv_has ls 5 [(3, .int v18_3)] → W p l e (headSpec (wt yX12_height cX12_height 5 (some .int)) ({ frames := 2, cells := 0, slots := 0, locals := 44 })).room s m ([.ref (ad 0), .int x1, .int x2, .int x3] : List Value).toArray below meth c H locs 0 0 (MQ below (va_Qi (fun (r : Int32) (u : MS) => Q r u ∧ wfC u ∧ shy S u) (fun (u : MS) (t : State) => qEC g ad A u t) A) ([.ref (ad 0), .int x1, .int x2, .int x3] : List Value).toArray s 0 0 A) (F0 m 18 ls [vf ad t18_0]) := by
    intro U18 t18_0 v18_3 H locs ls h hO_t18_0 hsh hR hl
    unfold w_X12_height_J18 at h
    replace h := h hR.w hO_t18_0
    rcases hq_b6 : t18_0 with _ | b6
    · skip
      replace h := h.1 (hq_b6)
      refine lv_astoreN (lv' := [(4, .null), (3, .int v18_3)]) hx hb dX12_height_18 hl (by decide) rfl (fun ls hl => ?_)
      refine lv_aloadN hx hb dX12_height_20 (lv_at hl 0 rfl) ?_
      refine lv_ifnonnullN hx hb dX12_height_22 ?_
      refine lv_iconst (v := (-1)) hx hb dX12_height_25 (by decide) ?_
      refine lv_goto (tgt := 35) hx hb dX12_height_26 (by decide) ?_
      exact W.iret (v := (-1)) hx hb hr (fun t9 ht9 hW9 => ⟨⟨_, U18, rfl, ⟨h, hR.w, hsh⟩, ⟨by rw [ht9]; exact hR.P, hR.D⟩⟩, hR.sS.F ht9⟩) hR.sS.2.2 dX12_height_35
    · have hg_b6 : b6 = (t18_0).getD 0 := by rw [hq_b6]; rfl
      have hT_b6 : qT U18 ((t18_0).getD 0) = 47 := hg_b6 ▸ hO_t18_0 _ hq_b6
      subst hg_b6
      replace h := h.2 (fun q9 => Option.some_ne_none _ (hq_b6.symm.trans q9))
      refine lv_astore (lv' := [(4, .ref (ad ((t18_0).getD 0))), (3, .int v18_3)]) hx hb dX12_height_18 hl (by decide) rfl (fun ls hl => ?_)
      refine lv_aload hx hb dX12_height_20 (lv_at hl 0 rfl) ?_
      refine lv_ifnonnull (tgt := 29) hx hb dX12_height_22 (by decide) ?_
      refine lv_aload hx hb dX12_height_29 (lv_at hl 0 rfl) ?_
      refine lv_iload_n hx hb dX12_height_31 rfl (lv_at hl 1 rfl) ?_
      obtain ⟨hv7, h⟩ := h
      have hFc := cfree hR hA
      refine va_calli (va_runV (As := [.int v18_3]) (rest := []) ⟨hx, hb, hml, hown, hts⟩ (rX8_heightAt l g ad H.size U18 ((t18_0).getD 0) v18_3 hR.w hT_b6 hv7) (cwV 1 hts (gd_V kw_375 kw_1493 kw_1494 kw_782 kw_1492) rfl rfl rfl (by decide +kernel) ⟨Nat.le_of_ble_eq_true rfl, Nat.le_of_ble_eq_true rfl⟩) ⟨cblind, va_recv hR.K hR.P (ci := 7) (q0 := ((t18_0).getD 0)) rfl (hR.at47 hT_b6), fun U hU hW9 => cmk hU hW9 hR hex hE hFc⟩ rfl rfl hl.1 rfl (lv_room (Nat.le_of_ble_eq_true rfl)) dX12_height_32 ⟨Nat.le_of_ble_eq_true rfl, Nat.le_of_ble_eq_true rfl⟩) hR.sS (fun q _ h => hFc q h) hFc (fun r8 u9 t9 H1 locs ht9 hvm9 hw9 hB9 hz9 hk9 hS => ?_)
      have hR : RepC g ad A s U18 H1 locs := hR.call ht9 hB9 hR.w hS hFc
      obtain rfl : r8 = (fX8_heightAt U18 ((t18_0).getD 0) v18_3) := hw9
      clear hB9 hz9 hk9 hvm9 ht9 hS
      generalize H1 = H at hR ⊢
      exact W.iret (v := (fX8_heightAt U18 ((t18_0).getD 0) v18_3)) hx hb hr (fun t9 ht9 hW9 => ⟨⟨_, U18, rfl, ⟨h, hR.w, hsh⟩, ⟨by rw [ht9]; exact hR.P, hR.D⟩⟩, hR.sS.F ht9⟩) hR.sS.2.2 dX12_height_35
  rcases hq_b10 : b5 with _ | b10
  · skip
    replace h := h.1 (hq_b10)
    refine lv_ifnonnullN hx hb dX12_height_5 ?_
    refine lv_null hx hb dX12_height_8 ?_
    refine lv_goto (tgt := 18) hx hb dX12_height_9 (by decide) ?_
    exact J_18 S3 none x3 _ _ ls h (fun z q9 => by cases q9) hsh hR (lv_sub hl [3] rfl)
  · have hg_b10 : b10 = (b5).getD 0 := by rw [hq_b10]; rfl
    have hT_b10 : qT S3 ((b5).getD 0) = 49 := hg_b10 ▸ hO_b5 _ hq_b10
    subst hg_b10
    replace h := h.2 (fun q9 => Option.some_ne_none _ (hq_b10.symm.trans q9))
    refine lv_ifnonnull (tgt := 12) hx hb dX12_height_5 (by decide) ?_
    refine lv_aload_n hx hb dX12_height_12 rfl (lv_at hl 0 rfl) ?_
    refine lv_iload_n hx hb dX12_height_13 rfl (lv_at hl 1 rfl) ?_
    refine lv_iload_n hx hb dX12_height_14 rfl (lv_at hl 2 rfl) ?_
    obtain ⟨Q11, h0, h⟩ := h
    have hFc := cfree hR hA
    refine va_callq (va_runV (As := [.int x1, .int x2]) (rest := []) ⟨hx, hb, hml, hown, hts⟩ (rX12_rowAt l g ad H.size S3 x1 x2 hR.w  Q11 h0) (cwV 2 hts (gd_V kw_299 kw_429 kw_430 kw_280 kw_428) rfl rfl rfl (by decide +kernel) ⟨Nat.le_of_ble_eq_true rfl, Nat.le_of_ble_eq_true rfl⟩) ⟨cblind, va_recv hR.K hR.P (ci := 11) (q0 := 0) rfl (hR.at51 hR.w.1), fun U hU hW9 => cmk hU hW9 hR hex hE hFc⟩ rfl rfl hl.1 rfl (lv_room (Nat.le_of_ble_eq_true rfl)) dX12_height_15 ⟨Nat.le_of_ble_eq_true rfl, Nat.le_of_ble_eq_true rfl⟩) hR.sS (fun q _ h => hFc q h) hFc (fun r12 S13 t9 H1 locs ht9 hvm9 hw9 hB9 hz9 hk9 hS => ?_)
    obtain ⟨b15, rfl, hq14, hw9, hs9, hO_b15⟩ := hw9
    have hR : RepC g ad A s S13 H1 locs := hR.call ht9 hB9 hw9 hS hFc
    have hsh := hsh.tr hs9
    replace h := h b15 S13 hq14 hw9 hs9 hO_b15
    clear hB9 hz9 hk9 hvm9 ht9 hw9 hs9 hS
    generalize H1 = H at hR ⊢
    exact J_18 S13 b15 x3 _ _ ls h hO_b15 hsh hR (lv_sub hl [3] rfl)
def w_X12_local_J18 (Q : Int32 → MS → Prop) (U18 : MS) (t18_0 : Option Nat) (v18_3 : Int32) (v18_4 : Int32) : Prop := (wfC U18 → (∀ z, t18_0 = some z → qT U18 z = 47) → ((t18_0 = none → Q (-1 : Int32) U18) ∧ (¬ t18_0 = none → (d_X8_heightAt U18 ((t18_0).getD 0) v18_3 ∧ (((fX8_heightAt U18 ((t18_0).getD 0) v18_3).toInt < 0 → Q (-1 : Int32) U18) ∧ (¬ (fX8_heightAt U18 ((t18_0).getD 0) v18_3).toInt < 0 → ((v18_4.toInt < 0 → Q (-1 : Int32) U18) ∧ (¬ v18_4.toInt < 0 → ((v18_4.toInt < 24 → (d_X8_localAt U18 ((t18_0).getD 0) v18_3 v18_4 ∧ Q (fX8_localAt U18 ((t18_0).getD 0) v18_3 v18_4) U18)) ∧ (¬ v18_4.toInt < 24 → Q (-1 : Int32) U18))))))))))
def wX12_local (S : MS) (x1 : Int32) (x2 : Int32) (x3 : Int32) (x4 : Int32) (Q : Int32 → MS → Prop) : Prop := (∃ Q1, wX12_soundUnitAt S x1 Q1 ∧ ∀ b5 S3, Q1 b5 S3 → wfC S3 → shy S S3 → (∀ z, b5 = some z → qT S3 z = 49) → ((b5 = none → w_X12_local_J18 Q S3 none x3 x4) ∧ (¬ b5 = none → (∃ Q17, wX12_rowAt S3 x1 x2 Q17 ∧ ∀ b21 S19, Q17 b21 S19 → wfC S19 → shy S3 S19 → (∀ z, b21 = some z → qT S19 z = 47) → w_X12_local_J18 Q S19 b21 x3 x4))))
set_option maxHeartbeats 2000000 in
set_option maxRecDepth 100000 in
theorem rX12_local (l : Launch) (g : Gr) (ad : Nat → Nat) (sz : Nat) (S : MS) (x1 : Int32) (x2 : Int32) (x3 : Int32) (x4 : Int32) (hw : wfC S) (Q : Int32 → MS → Prop) (h : wX12_local S x1 x2 x3 x4 Q) : Met l yX12_local (wt yX12_local cX12_local 6 (some .int)) ({ frames := 2, cells := 0, slots := 0, locals := 44 }) (va_Pc [.ref (ad 0), .int x1, .int x2, .int x3, .int x4] (st_C g ad sz S)) (va_Qi (fun (r : Int32) (u : MS) => Q r u ∧ wfC u ∧ shy S u) (fun (u : MS) (t : State) => qEC g ad (va_A (WdC g ad S) sz) u t) (va_A (WdC g ad S) sz)) 0 0 (va_A (WdC g ad S) sz) := by
  refine Met.ofW (cc := cX12_local) (maxL := 6) (ret := (some .int)) (by decide) rfl ?_
  intro p e s m args below meth c s₁ B hml hv
  obtain ⟨rfl, hsz, hP, hK, hD0, hex, hE⟩ := hv
  have hx := B.exec
  have hb := B.bytes
  have hr := B.returns
  have hts0 := atoms_spec (ws := wt yX12_local cX12_local 6 (some .int)) B.pre
  have hts : ∀ w ∈ tb, w.before _ s = true := fun w h => hts0 w (List.mem_cons_of_mem _ h)
  have hown : s.vm.findClass RX12 = some m.cls := findClass_of_methodNamed B.named
  subst hsz
  have hD := hD0.self (sz := s.heap.size)
  generalize hAe : va_A (WdC g ad S) s.heap.size = A at hD hE ⊢
  have hA : ∀ q : Nat, s.heap.size ≤ q → A q := fun q h => by rw [← hAe]; exact Or.inr h
  have hR : RepC g ad A s S s.heap [] := ⟨hK, hP, hD, va_S.rf, hw⟩
  clear hK hP hD hD0
  have hl := lv_entry ([.ref (ad 0), .int x1, .int x2, .int x3, .int x4]) (n := 6) (Nat.le_of_ble_eq_true rfl)
  rw [lg_entry_eq]
  generalize (lg_sl ([.ref (ad 0), .int x1, .int x2, .int x3, .int x4]) ++ List.replicate (6 - (lg_sl ([.ref (ad 0), .int x1, .int x2, .int x3, .int x4])).length) Slot.unset).toArray = ls at hl ⊢
  have hl : lv_has ls 6 [(0, .ref (ad 0)), (1, .int x1), (2, .int x2), (3, .int x3), (4, .int x4)] := hl
  have hsh : shy S S := shy.rf
  unfold wX12_local at h
  refine lv_aload_n hx hb dX12_local_0 rfl (lv_at hl 0 rfl) ?_
  refine lv_iload_n hx hb dX12_local_1 rfl (lv_at hl 1 rfl) ?_
  obtain ⟨Q1, h0, h⟩ := h
  have hFc := cfree hR hA
  refine va_callq (va_runV (As := [.int x1]) (rest := []) ⟨hx, hb, hml, hown, hts⟩ (rX12_soundUnitAt l g ad s.heap.size S x1 hR.w  Q1 h0) (cwV 1 hts (gd_V kw_316 kw_447 kw_448 kw_280 kw_446) rfl rfl rfl (by decide +kernel) ⟨Nat.le_of_ble_eq_true rfl, Nat.le_of_ble_eq_true rfl⟩) ⟨cblind, va_recv hR.K hR.P (ci := 11) (q0 := 0) rfl (hR.at51 hR.w.1), fun U hU hW9 => cmk hU hW9 hR hex hE hFc⟩ rfl rfl hl.1 rfl (lv_room (Nat.le_of_ble_eq_true rfl)) dX12_local_2 ⟨Nat.le_of_ble_eq_true rfl, Nat.le_of_ble_eq_true rfl⟩) hR.sS (fun q _ h => hFc q h) hFc (fun r2 S3 t9 H1 locs ht9 hvm9 hw9 hB9 hz9 hk9 hS => ?_)
  obtain ⟨b5, rfl, hq4, hw9, hs9, hO_b5⟩ := hw9
  have hR : RepC g ad A s S3 H1 locs := hR.call ht9 hB9 hw9 hS hFc
  have hsh := hsh.tr hs9
  replace h := h b5 S3 hq4 hw9 hs9 hO_b5
  clear hB9 hz9 hk9 hvm9 ht9 hw9 hs9 hS
  generalize H1 = H at hR ⊢
  have J_18 : ∀ (U18 : MS) (t18_0 : Option Nat) (v18_3 : Int32) (v18_4 : Int32) (H : Heap) (locs : List Loc) (ls : Array Slot), w_X12_local_J18 Q U18 t18_0 v18_3 v18_4 → (∀ z, t18_0 = some z → qT U18 z = 47) → shy S U18 → RepC g ad A s U18 H locs → lv_has ls 6 [(3, .int v18_3), (4, .int v18_4)] → W p l e (headSpec (wt yX12_local cX12_local 6 (some .int)) ({ frames := 2, cells := 0, slots := 0, locals := 44 })).room s m ([.ref (ad 0), .int x1, .int x2, .int x3, .int x4] : List Value).toArray below meth c H locs 0 0 (MQ below (va_Qi (fun (r : Int32) (u : MS) => Q r u ∧ wfC u ∧ shy S u) (fun (u : MS) (t : State) => qEC g ad A u t) A) ([.ref (ad 0), .int x1, .int x2, .int x3, .int x4] : List Value).toArray s 0 0 A) (F0 m 18 ls [vf ad t18_0]) := by
    intro U18 t18_0 v18_3 v18_4 H locs ls h hO_t18_0 hsh hR hl
    unfold w_X12_local_J18 at h
    replace h := h hR.w hO_t18_0
    rcases hq_b6 : t18_0 with _ | b6
    · skip
      replace h := h.1 (hq_b6)
      refine lv_astoreN (lv' := [(5, .null), (3, .int v18_3), (4, .int v18_4)]) hx hb dX12_local_18 hl (by decide) rfl (fun ls hl => ?_)
      refine lv_aloadN hx hb dX12_local_20 (lv_at hl 0 rfl) ?_
      refine lv_ifnullN (tgt := 46) hx hb dX12_local_22 (by decide) ?_
      refine lv_iconst (v := (-1)) hx hb dX12_local_46 (by decide) ?_
      exact W.iret (v := (-1)) hx hb hr (fun t9 ht9 hW9 => ⟨⟨_, U18, rfl, ⟨h, hR.w, hsh⟩, ⟨by rw [ht9]; exact hR.P, hR.D⟩⟩, hR.sS.F ht9⟩) hR.sS.2.2 dX12_local_47
    · have hg_b6 : b6 = (t18_0).getD 0 := by rw [hq_b6]; rfl
      have hT_b6 : qT U18 ((t18_0).getD 0) = 47 := hg_b6 ▸ hO_t18_0 _ hq_b6
      subst hg_b6
      replace h := h.2 (fun q9 => Option.some_ne_none _ (hq_b6.symm.trans q9))
      refine lv_astore (lv' := [(5, .ref (ad ((t18_0).getD 0))), (3, .int v18_3), (4, .int v18_4)]) hx hb dX12_local_18 hl (by decide) rfl (fun ls hl => ?_)
      refine lv_aload hx hb dX12_local_20 (lv_at hl 0 rfl) ?_
      refine lv_ifnull hx hb dX12_local_22 ?_
      refine lv_aload hx hb dX12_local_25 (lv_at hl 0 rfl) ?_
      refine lv_iload_n hx hb dX12_local_27 rfl (lv_at hl 1 rfl) ?_
      obtain ⟨hv7, h⟩ := h
      have hFc := cfree hR hA
      refine va_calli (va_runV (As := [.int v18_3]) (rest := []) ⟨hx, hb, hml, hown, hts⟩ (rX8_heightAt l g ad H.size U18 ((t18_0).getD 0) v18_3 hR.w hT_b6 hv7) (cwV 1 hts (gd_V kw_375 kw_1493 kw_1494 kw_782 kw_1492) rfl rfl rfl (by decide +kernel) ⟨Nat.le_of_ble_eq_true rfl, Nat.le_of_ble_eq_true rfl⟩) ⟨cblind, va_recv hR.K hR.P (ci := 7) (q0 := ((t18_0).getD 0)) rfl (hR.at47 hT_b6), fun U hU hW9 => cmk hU hW9 hR hex hE hFc⟩ rfl rfl hl.1 rfl (lv_room (Nat.le_of_ble_eq_true rfl)) dX12_local_28 ⟨Nat.le_of_ble_eq_true rfl, Nat.le_of_ble_eq_true rfl⟩) hR.sS (fun q _ h => hFc q h) hFc (fun r8 u9 t9 H1 locs ht9 hvm9 hw9 hB9 hz9 hk9 hS => ?_)
      have hR : RepC g ad A s U18 H1 locs := hR.call ht9 hB9 hR.w hS hFc
      obtain rfl : r8 = (fX8_heightAt U18 ((t18_0).getD 0) v18_3) := hw9
      clear hB9 hz9 hk9 hvm9 ht9 hS
      generalize H1 = H at hR ⊢
      refine lv_if_lt (tgt := 46) hx hb dX12_local_31 (by decide) (fun c10 => ?_) (fun c10 => ?_)
      · replace h := h.1 (k_lt rfl (by decide) c10)
        refine lv_iconst (v := (-1)) hx hb dX12_local_46 (by decide) ?_
        exact W.iret (v := (-1)) hx hb hr (fun t9 ht9 hW9 => ⟨⟨_, U18, rfl, ⟨h, hR.w, hsh⟩, ⟨by rw [ht9]; exact hR.P, hR.D⟩⟩, hR.sS.F ht9⟩) hR.sS.2.2 dX12_local_47
      · replace h := h.2 (k_nlt rfl (by decide) c10)
        refine lv_iload hx hb dX12_local_34 (lv_at hl 2 rfl) ?_
        refine lv_if_lt (tgt := 46) hx hb dX12_local_36 (by decide) (fun c11 => ?_) (fun c11 => ?_)
        · replace h := h.1 (k_lt rfl (by decide) c11)
          refine lv_iconst (v := (-1)) hx hb dX12_local_46 (by decide) ?_
          exact W.iret (v := (-1)) hx hb hr (fun t9 ht9 hW9 => ⟨⟨_, U18, rfl, ⟨h, hR.w, hsh⟩, ⟨by rw [ht9]; exact hR.P, hR.D⟩⟩, hR.sS.F ht9⟩) hR.sS.2.2 dX12_local_47
        · replace h := h.2 (k_nlt rfl (by decide) c11)
          refine lv_iload hx hb dX12_local_39 (lv_at hl 2 rfl) ?_
          refine lv_bipush (v := 24) hx hb dX12_local_41 (by decide) ?_
          refine lv_icmp_lt (tgt := 48) hx hb dX12_local_43 (by decide) (fun c12 => ?_) (fun c12 => ?_)
          · replace h := h.1 (k_lt rfl (by decide) c12)
            refine lv_aload hx hb dX12_local_48 (lv_at hl 0 rfl) ?_
            refine lv_iload_n hx hb dX12_local_50 rfl (lv_at hl 1 rfl) ?_
            refine lv_iload hx hb dX12_local_51 (lv_at hl 2 rfl) ?_
            obtain ⟨hv13, h⟩ := h
            have hFc := cfree hR hA
            refine va_calli (va_runV (As := [.int v18_3, .int v18_4]) (rest := []) ⟨hx, hb, hml, hown, hts⟩ (rX8_localAt l g ad H.size U18 ((t18_0).getD 0) v18_3 v18_4 hR.w hT_b6 hv13) (cwV 2 hts (gd_V kw_417 kw_1504 kw_1505 kw_782 kw_1503) rfl rfl rfl (by decide +kernel) ⟨Nat.le_of_ble_eq_true rfl, Nat.le_of_ble_eq_true rfl⟩) ⟨cblind, va_recv hR.K hR.P (ci := 7) (q0 := ((t18_0).getD 0)) rfl (hR.at47 hT_b6), fun U hU hW9 => cmk hU hW9 hR hex hE hFc⟩ rfl rfl hl.1 rfl (lv_room (Nat.le_of_ble_eq_true rfl)) dX12_local_53 ⟨Nat.le_of_ble_eq_true rfl, Nat.le_of_ble_eq_true rfl⟩) hR.sS (fun q _ h => hFc q h) hFc (fun r14 u9 t9 H1 locs ht9 hvm9 hw9 hB9 hz9 hk9 hS => ?_)
            have hR : RepC g ad A s U18 H1 locs := hR.call ht9 hB9 hR.w hS hFc
            obtain rfl : r14 = (fX8_localAt U18 ((t18_0).getD 0) v18_3 v18_4) := hw9
            clear hB9 hz9 hk9 hvm9 ht9 hS
            generalize H1 = H at hR ⊢
            exact W.iret (v := (fX8_localAt U18 ((t18_0).getD 0) v18_3 v18_4)) hx hb hr (fun t9 ht9 hW9 => ⟨⟨_, U18, rfl, ⟨h, hR.w, hsh⟩, ⟨by rw [ht9]; exact hR.P, hR.D⟩⟩, hR.sS.F ht9⟩) hR.sS.2.2 dX12_local_56
          · replace h := h.2 (k_nlt rfl (by decide) c12)
            refine lv_iconst (v := (-1)) hx hb dX12_local_46 (by decide) ?_
            exact W.iret (v := (-1)) hx hb hr (fun t9 ht9 hW9 => ⟨⟨_, U18, rfl, ⟨h, hR.w, hsh⟩, ⟨by rw [ht9]; exact hR.P, hR.D⟩⟩, hR.sS.F ht9⟩) hR.sS.2.2 dX12_local_47
  rcases hq_b16 : b5 with _ | b16
  · skip
    replace h := h.1 (hq_b16)
    refine lv_ifnonnullN hx hb dX12_local_5 ?_
    refine lv_null hx hb dX12_local_8 ?_
    refine lv_goto (tgt := 18) hx hb dX12_local_9 (by decide) ?_
    exact J_18 S3 none x3 x4 _ _ ls h (fun z q9 => by cases q9) hsh hR (lv_sub hl [3, 4] rfl)
  · have hg_b16 : b16 = (b5).getD 0 := by rw [hq_b16]; rfl
    have hT_b16 : qT S3 ((b5).getD 0) = 49 := hg_b16 ▸ hO_b5 _ hq_b16
    subst hg_b16
    replace h := h.2 (fun q9 => Option.some_ne_none _ (hq_b16.symm.trans q9))
    refine lv_ifnonnull (tgt := 12) hx hb dX12_local_5 (by decide) ?_
    refine lv_aload_n hx hb dX12_local_12 rfl (lv_at hl 0 rfl) ?_
    refine lv_iload_n hx hb dX12_local_13 rfl (lv_at hl 1 rfl) ?_
    refine lv_iload_n hx hb dX12_local_14 rfl (lv_at hl 2 rfl) ?_
    obtain ⟨Q17, h0, h⟩ := h
    have hFc := cfree hR hA
    refine va_callq (va_runV (As := [.int x1, .int x2]) (rest := []) ⟨hx, hb, hml, hown, hts⟩ (rX12_rowAt l g ad H.size S3 x1 x2 hR.w  Q17 h0) (cwV 2 hts (gd_V kw_299 kw_429 kw_430 kw_280 kw_428) rfl rfl rfl (by decide +kernel) ⟨Nat.le_of_ble_eq_true rfl, Nat.le_of_ble_eq_true rfl⟩) ⟨cblind, va_recv hR.K hR.P (ci := 11) (q0 := 0) rfl (hR.at51 hR.w.1), fun U hU hW9 => cmk hU hW9 hR hex hE hFc⟩ rfl rfl hl.1 rfl (lv_room (Nat.le_of_ble_eq_true rfl)) dX12_local_15 ⟨Nat.le_of_ble_eq_true rfl, Nat.le_of_ble_eq_true rfl⟩) hR.sS (fun q _ h => hFc q h) hFc (fun r18 S19 t9 H1 locs ht9 hvm9 hw9 hB9 hz9 hk9 hS => ?_)
    obtain ⟨b21, rfl, hq20, hw9, hs9, hO_b21⟩ := hw9
    have hR : RepC g ad A s S19 H1 locs := hR.call ht9 hB9 hw9 hS hFc
    have hsh := hsh.tr hs9
    replace h := h b21 S19 hq20 hw9 hs9 hO_b21
    clear hB9 hz9 hk9 hvm9 ht9 hw9 hs9 hS
    generalize H1 = H at hR ⊢
    exact J_18 S19 b21 x3 x4 _ _ ls h hO_b21 hsh hR (lv_sub hl [3, 4] rfl)
def wX12_stage (S : MS) (x1 : Int32) (Q : Int32 → MS → Prop) : Prop := (∃ Q1, wX12_soundUnitAt S x1 Q1 ∧ ∀ b5 S3, Q1 b5 S3 → wfC S3 → shy S S3 → (∀ z, b5 = some z → qT S3 z = 49) → ((b5 = none → Q (0 : Int32) S3) ∧ (¬ b5 = none → (qT S3 ((b5).getD 0) = 49 → (∃ Q7, wX5_setStage S3 ((b5).getD 0) Q7 ∧ ∀ S8, Q7 S8 → wfC S8 → shy S3 S8 → Q (1 : Int32) S8)))))
set_option maxHeartbeats 2000000 in
set_option maxRecDepth 100000 in
theorem rX12_stage (l : Launch) (g : Gr) (ad : Nat → Nat) (sz : Nat) (S : MS) (x1 : Int32) (hw : wfC S) (Q : Int32 → MS → Prop) (h : wX12_stage S x1 Q) : Met l yX12_stage (wt yX12_stage cX12_stage 3 (some .boolean)) ({ frames := 2, cells := 0, slots := 0, locals := 45 }) (va_Pc [.ref (ad 0), .int x1] (st_C g ad sz S)) (va_Qi (fun (r : Int32) (u : MS) => Q r u ∧ wfC u ∧ shy S u ∧ (r = 0 ∨ r = 1)) (fun (u : MS) (t : State) => qEC g ad (va_A (WdC g ad S) sz) u t) (va_A (WdC g ad S) sz)) 0 0 (va_A (WdC g ad S) sz) := by
  refine Met.ofW (cc := cX12_stage) (maxL := 3) (ret := (some .boolean)) (by decide) rfl ?_
  intro p e s m args below meth c s₁ B hml hv
  obtain ⟨rfl, hsz, hP, hK, hD0, hex, hE⟩ := hv
  have hx := B.exec
  have hb := B.bytes
  have hr := B.returns
  have hts0 := atoms_spec (ws := wt yX12_stage cX12_stage 3 (some .boolean)) B.pre
  have hts : ∀ w ∈ tb, w.before _ s = true := fun w h => hts0 w (List.mem_cons_of_mem _ h)
  have hown : s.vm.findClass RX12 = some m.cls := findClass_of_methodNamed B.named
  subst hsz
  have hD := hD0.self (sz := s.heap.size)
  generalize hAe : va_A (WdC g ad S) s.heap.size = A at hD hE ⊢
  have hA : ∀ q : Nat, s.heap.size ≤ q → A q := fun q h => by rw [← hAe]; exact Or.inr h
  have hR : RepC g ad A s S s.heap [] := ⟨hK, hP, hD, va_S.rf, hw⟩
  clear hK hP hD hD0
  have hl := lv_entry ([.ref (ad 0), .int x1]) (n := 3) (Nat.le_of_ble_eq_true rfl)
  rw [lg_entry_eq]
  generalize (lg_sl ([.ref (ad 0), .int x1]) ++ List.replicate (3 - (lg_sl ([.ref (ad 0), .int x1])).length) Slot.unset).toArray = ls at hl ⊢
  have hl : lv_has ls 3 [(0, .ref (ad 0)), (1, .int x1)] := hl
  have hsh : shy S S := shy.rf
  unfold wX12_stage at h
  refine lv_aload_n hx hb dX12_stage_0 rfl (lv_at hl 0 rfl) ?_
  refine lv_iload_n hx hb dX12_stage_1 rfl (lv_at hl 1 rfl) ?_
  obtain ⟨Q1, h0, h⟩ := h
  have hFc := cfree hR hA
  refine va_callq (va_runV (As := [.int x1]) (rest := []) ⟨hx, hb, hml, hown, hts⟩ (rX12_soundUnitAt l g ad s.heap.size S x1 hR.w  Q1 h0) (cwV 1 hts (gd_V kw_316 kw_447 kw_448 kw_280 kw_446) rfl rfl rfl (by decide +kernel) ⟨Nat.le_of_ble_eq_true rfl, Nat.le_of_ble_eq_true rfl⟩) ⟨cblind, va_recv hR.K hR.P (ci := 11) (q0 := 0) rfl (hR.at51 hR.w.1), fun U hU hW9 => cmk hU hW9 hR hex hE hFc⟩ rfl rfl hl.1 rfl (lv_room (Nat.le_of_ble_eq_true rfl)) dX12_stage_2 ⟨Nat.le_of_ble_eq_true rfl, Nat.le_of_ble_eq_true rfl⟩) hR.sS (fun q _ h => hFc q h) hFc (fun r2 S3 t9 H1 locs ht9 hvm9 hw9 hB9 hz9 hk9 hS => ?_)
  obtain ⟨b5, rfl, hq4, hw9, hs9, hO_b5⟩ := hw9
  have hR : RepC g ad A s S3 H1 locs := hR.call ht9 hB9 hw9 hS hFc
  have hsh := hsh.tr hs9
  replace h := h b5 S3 hq4 hw9 hs9 hO_b5
  clear hB9 hz9 hk9 hvm9 ht9 hw9 hs9 hS
  generalize H1 = H at hR ⊢
  rcases hq_b6 : b5 with _ | b6
  · skip
    replace h := h.1 (hq_b6)
    refine lv_astore_nN (lv' := [(2, .null), (0, .ref (ad 0)), (1, .int x1)]) hx hb dX12_stage_5 rfl hl (by decide) rfl (fun ls hl => ?_)
    refine lv_aload_nN hx hb dX12_stage_6 rfl (lv_at hl 0 rfl) ?_
    refine lv_ifnonnullN hx hb dX12_stage_7 ?_
    refine lv_iconst (v := 0) hx hb dX12_stage_10 (by decide) ?_
    exact W.zret (v := 0) hx hb hr (nz (Or.inl rfl)) (fun t9 ht9 hW9 => ⟨⟨_, S3, rfl, ⟨h, hR.w, hsh, (Or.inl rfl)⟩, ⟨by rw [ht9]; exact hR.P, hR.D⟩⟩, hR.sS.F ht9⟩) hR.sS.2.2 dX12_stage_11
  · have hg_b6 : b6 = (b5).getD 0 := by rw [hq_b6]; rfl
    have hT_b6 : qT S3 ((b5).getD 0) = 49 := hg_b6 ▸ hO_b5 _ hq_b6
    subst hg_b6
    replace h := h.2 (fun q9 => Option.some_ne_none _ (hq_b6.symm.trans q9))
    refine lv_astore_n (lv' := [(2, .ref (ad ((b5).getD 0))), (0, .ref (ad 0)), (1, .int x1)]) hx hb dX12_stage_5 rfl hl (by decide) rfl (fun ls hl => ?_)
    refine lv_aload_n hx hb dX12_stage_6 rfl (lv_at hl 0 rfl) ?_
    refine lv_ifnonnull (tgt := 12) hx hb dX12_stage_7 (by decide) ?_
    refine lv_aload_n hx hb dX12_stage_12 rfl (lv_at hl 1 rfl) ?_
    refine va_get (D := rD g) (ci := 11) (v := .ref (ad 44)) (C := RX12) (T := TX12) (N := 18) hx hb hts inX12 hown hR.K hR.P 0 (hR.at51 hR.w.1) rfl 7 (by decide) (hts _ kw_286) (fun _ h9 => h9) (congrArg (fun z => some (vf ad z)) (hR.w.2.1 _ finC_29).1) dX12_stage_13 ?_
    refine lv_aload_n hx hb dX12_stage_16 rfl (lv_at hl 0 rfl) ?_
    replace h := h (hT_b6)
    obtain ⟨Q7, h0, h⟩ := h
    have hFc := cfree hR hA
    refine va_callv (va_runV (As := [.ref (ad ((b5).getD 0))]) (rest := []) ⟨hx, hb, hml, hown, hts⟩ (rX5_setStage l g ad H.size S3 ((b5).getD 0) hR.w hT_b6 Q7 h0) (cwV 1 hts (gd_V kw_454 kw_1154 kw_1155 kw_398 kw_1153) rfl rfl rfl (by decide +kernel) ⟨Nat.le_of_ble_eq_true rfl, Nat.le_of_ble_eq_true rfl⟩) ⟨cblind, va_recv hR.K hR.P (ci := 5) (q0 := 44) rfl (hR.at45 (hR.w.2.1 _ finC_29).2.1), fun U hU hW9 => cmk hU hW9 hR hex hE hFc⟩ rfl rfl hl.1 rfl (lv_room (Nat.le_of_ble_eq_true rfl)) dX12_stage_17 ⟨Nat.le_of_ble_eq_true rfl, Nat.le_of_ble_eq_true rfl⟩) hR.sS (fun q _ h => hFc q h) hFc (fun  S8 t9 H1 locs ht9 hvm9 hw9 hB9 hz9 hk9 hS => ?_)
    obtain ⟨hq9, hw9, hs9⟩ := hw9
    have hR : RepC g ad A s S8 H1 locs := hR.call ht9 hB9 hw9 hS hFc
    have hsh := hsh.tr hs9
    replace h := h  S8 hq9 hw9 hs9
    have hT_b6 := hs9.T hT_b6 (by decide)
    clear hB9 hz9 hk9 hvm9 ht9 hw9 hs9 hS
    generalize H1 = H at hR ⊢
    refine lv_iconst (v := 1) hx hb dX12_stage_20 (by decide) ?_
    exact W.zret (v := 1) hx hb hr (nz (Or.inr rfl)) (fun t9 ht9 hW9 => ⟨⟨_, S8, rfl, ⟨h, hR.w, hsh, (Or.inr rfl)⟩, ⟨by rw [ht9]; exact hR.P, hR.D⟩⟩, hR.sS.F ht9⟩) hR.sS.2.2 dX12_stage_21
def wX12_element (S : MS) (x1 : Int32) (x2 : Int32) (Q : Int32 → MS → Prop) : Prop := (∃ Q1, wX5_elementAt S x1 x2 Q1 ∧ ∀ r2 S3, Q1 r2 S3 → wfC S3 → shy S S3 → Q r2 S3)
set_option maxHeartbeats 2000000 in
set_option maxRecDepth 100000 in
theorem rX12_element (l : Launch) (g : Gr) (ad : Nat → Nat) (sz : Nat) (S : MS) (x1 : Int32) (x2 : Int32) (hw : wfC S) (Q : Int32 → MS → Prop) (h : wX12_element S x1 x2 Q) : Met l yX12_element (wt yX12_element cX12_element 3 (some .int)) ({ frames := 3, cells := 0, slots := 0, locals := 65 }) (va_Pc [.ref (ad 0), .int x1, .int x2] (st_C g ad sz S)) (va_Qi (fun (r : Int32) (u : MS) => Q r u ∧ wfC u ∧ shy S u) (fun (u : MS) (t : State) => qEC g ad (va_A (WdC g ad S) sz) u t) (va_A (WdC g ad S) sz)) 0 0 (va_A (WdC g ad S) sz) := by
  refine Met.ofW (cc := cX12_element) (maxL := 3) (ret := (some .int)) (by decide) rfl ?_
  intro p e s m args below meth c s₁ B hml hv
  obtain ⟨rfl, hsz, hP, hK, hD0, hex, hE⟩ := hv
  have hx := B.exec
  have hb := B.bytes
  have hr := B.returns
  have hts0 := atoms_spec (ws := wt yX12_element cX12_element 3 (some .int)) B.pre
  have hts : ∀ w ∈ tb, w.before _ s = true := fun w h => hts0 w (List.mem_cons_of_mem _ h)
  have hown : s.vm.findClass RX12 = some m.cls := findClass_of_methodNamed B.named
  subst hsz
  have hD := hD0.self (sz := s.heap.size)
  generalize hAe : va_A (WdC g ad S) s.heap.size = A at hD hE ⊢
  have hA : ∀ q : Nat, s.heap.size ≤ q → A q := fun q h => by rw [← hAe]; exact Or.inr h
  have hR : RepC g ad A s S s.heap [] := ⟨hK, hP, hD, va_S.rf, hw⟩
  clear hK hP hD hD0
  have hl := lv_entry ([.ref (ad 0), .int x1, .int x2]) (n := 3) (Nat.le_of_ble_eq_true rfl)
  rw [lg_entry_eq]
  generalize (lg_sl ([.ref (ad 0), .int x1, .int x2]) ++ List.replicate (3 - (lg_sl ([.ref (ad 0), .int x1, .int x2])).length) Slot.unset).toArray = ls at hl ⊢
  have hl : lv_has ls 3 [(0, .ref (ad 0)), (1, .int x1), (2, .int x2)] := hl
  have hsh : shy S S := shy.rf
  unfold wX12_element at h
  refine lv_aload_n hx hb dX12_element_0 rfl (lv_at hl 0 rfl) ?_
  refine va_get (D := rD g) (ci := 11) (v := .ref (ad 44)) (C := RX12) (T := TX12) (N := 18) hx hb hts inX12 hown hR.K hR.P 0 (hR.at51 hR.w.1) rfl 7 (by decide) (hts _ kw_286) (fun _ h9 => h9) (congrArg (fun z => some (vf ad z)) (hR.w.2.1 _ finC_29).1) dX12_element_1 ?_
  refine lv_iload_n hx hb dX12_element_4 rfl (lv_at hl 1 rfl) ?_
  refine lv_iload_n hx hb dX12_element_5 rfl (lv_at hl 2 rfl) ?_
  obtain ⟨Q1, h0, h⟩ := h
  have hFc := cfree hR hA
  refine va_calli (va_runV (As := [.int x1, .int x2]) (rest := []) ⟨hx, hb, hml, hown, hts⟩ (rX5_elementAt l g ad s.heap.size S x1 x2 hR.w  Q1 h0) (cwV 2 hts (gd_V kw_345 kw_1033 kw_1034 kw_398 kw_1032) rfl rfl rfl (by decide +kernel) ⟨Nat.le_of_ble_eq_true rfl, Nat.le_of_ble_eq_true rfl⟩) ⟨cblind, va_recv hR.K hR.P (ci := 5) (q0 := 44) rfl (hR.at45 (hR.w.2.1 _ finC_29).2.1), fun U hU hW9 => cmk hU hW9 hR hex hE hFc⟩ rfl rfl hl.1 rfl (lv_room (Nat.le_of_ble_eq_true rfl)) dX12_element_6 ⟨Nat.le_of_ble_eq_true rfl, Nat.le_of_ble_eq_true rfl⟩) hR.sS (fun q _ h => hFc q h) hFc (fun r2 S3 t9 H1 locs ht9 hvm9 hw9 hB9 hz9 hk9 hS => ?_)
  obtain ⟨hq4, hw9, hs9⟩ := hw9
  have hR : RepC g ad A s S3 H1 locs := hR.call ht9 hB9 hw9 hS hFc
  have hsh := hsh.tr hs9
  replace h := h r2 S3 hq4 hw9 hs9
  clear hB9 hz9 hk9 hvm9 ht9 hw9 hs9 hS
  generalize H1 = H at hR ⊢
  exact W.iret (v := r2) hx hb hr (fun t9 ht9 hW9 => ⟨⟨_, S3, rfl, ⟨h, hR.w, hsh⟩, ⟨by rw [ht9]; exact hR.P, hR.D⟩⟩, hR.sS.F ht9⟩) hR.sS.2.2 dX12_element_9
def fX12_arrayLength (S : MS) (x1 : Int32) : Int32 := (fX5_lengthOf S x1)
def d_X12_arrayLength (S : MS) (x1 : Int32) : Prop := (d_X5_lengthOf S x1 ∧ True)
set_option maxHeartbeats 2000000 in
set_option maxRecDepth 100000 in
theorem rX12_arrayLength (l : Launch) (g : Gr) (ad : Nat → Nat) (sz : Nat) (S : MS) (x1 : Int32) (hw : wfC S) (hd : d_X12_arrayLength S x1) : Met l yX12_arrayLength (wt yX12_arrayLength cX12_arrayLength 2 (some .int)) ({ frames := 2, cells := 0, slots := 0, locals := 43 }) (va_Pc [.ref (ad 0), .int x1] (st_C g ad sz S)) (va_Qi (fun (r : Int32) (_ : Unit) => r = fX12_arrayLength S x1) (fun (_ : Unit) (t : State) => qEC g ad (va_A (WdC g ad S) sz) S t) (va_A (WdC g ad S) sz)) 0 0 (va_A (WdC g ad S) sz) := by
  refine Met.ofW (cc := cX12_arrayLength) (maxL := 2) (ret := (some .int)) (by decide) rfl ?_
  intro p e s m args below meth c s₁ B hml hv
  obtain ⟨rfl, hsz, hP, hK, hD0, hex, hE⟩ := hv
  have hx := B.exec
  have hb := B.bytes
  have hr := B.returns
  have hts0 := atoms_spec (ws := wt yX12_arrayLength cX12_arrayLength 2 (some .int)) B.pre
  have hts : ∀ w ∈ tb, w.before _ s = true := fun w h => hts0 w (List.mem_cons_of_mem _ h)
  have hown : s.vm.findClass RX12 = some m.cls := findClass_of_methodNamed B.named
  subst hsz
  have hD := hD0.self (sz := s.heap.size)
  generalize hAe : va_A (WdC g ad S) s.heap.size = A at hD hE ⊢
  have hA : ∀ q : Nat, s.heap.size ≤ q → A q := fun q h => by rw [← hAe]; exact Or.inr h
  have hR : RepC g ad A s S s.heap [] := ⟨hK, hP, hD, va_S.rf, hw⟩
  clear hK hP hD hD0
  have hl := lv_entry ([.ref (ad 0), .int x1]) (n := 2) (Nat.le_of_ble_eq_true rfl)
  rw [lg_entry_eq]
  generalize (lg_sl ([.ref (ad 0), .int x1]) ++ List.replicate (2 - (lg_sl ([.ref (ad 0), .int x1])).length) Slot.unset).toArray = ls at hl ⊢
  have hl : lv_has ls 2 [(0, .ref (ad 0)), (1, .int x1)] := hl
  obtain ⟨r0, hf⟩ : ∃ r0, fX12_arrayLength S x1 = r0 := ⟨_, rfl⟩
  have hf0 := hf
  unfold fX12_arrayLength at hf
  unfold d_X12_arrayLength at hd
  refine lv_aload_n hx hb dX12_arrayLength_0 rfl (lv_at hl 0 rfl) ?_
  refine va_get (D := rD g) (ci := 11) (v := .ref (ad 44)) (C := RX12) (T := TX12) (N := 18) hx hb hts inX12 hown hR.K hR.P 0 (hR.at51 hR.w.1) rfl 7 (by decide) (hts _ kw_286) (fun _ h9 => h9) (congrArg (fun z => some (vf ad z)) (hR.w.2.1 _ finC_29).1) dX12_arrayLength_1 ?_
  refine lv_iload_n hx hb dX12_arrayLength_4 rfl (lv_at hl 1 rfl) ?_
  obtain ⟨hv1, hd⟩ := hd
  have hFc := cfree hR hA
  refine va_calli (va_runV (As := [.int x1]) (rest := []) ⟨hx, hb, hml, hown, hts⟩ (rX5_lengthOf l g ad s.heap.size S x1 hR.w  hv1) (cwV 1 hts (gd_V kw_291 kw_1088 kw_1089 kw_398 kw_1087) rfl rfl rfl (by decide +kernel) ⟨Nat.le_of_ble_eq_true rfl, Nat.le_of_ble_eq_true rfl⟩) ⟨cblind, va_recv hR.K hR.P (ci := 5) (q0 := 44) rfl (hR.at45 (hR.w.2.1 _ finC_29).2.1), fun U hU hW9 => cmk hU hW9 hR hex hE hFc⟩ rfl rfl hl.1 rfl (lv_room (Nat.le_of_ble_eq_true rfl)) dX12_arrayLength_5 ⟨Nat.le_of_ble_eq_true rfl, Nat.le_of_ble_eq_true rfl⟩) hR.sS (fun q _ h => hFc q h) hFc (fun r2 u9 t9 H1 locs ht9 hvm9 hw9 hB9 hz9 hk9 hS => ?_)
  have hR : RepC g ad A s S H1 locs := hR.call ht9 hB9 hR.w hS hFc
  obtain rfl : r2 = (fX5_lengthOf S x1) := hw9
  clear hB9 hz9 hk9 hvm9 ht9 hS
  generalize H1 = H at hR ⊢
  exact W.iret (v := (fX5_lengthOf S x1)) hx hb hr (fun t9 ht9 hW9 => ⟨⟨_, (), rfl, hf.trans hf0.symm, ⟨by rw [ht9]; exact hR.P, hR.D⟩⟩, hR.sS.F ht9⟩) hR.sS.2.2 dX12_arrayLength_8
def w_X1_beginBody_J96 (Q : MS → Prop) (k46 : MS → Int32 → Int32 → Int32 → Int32 → Prop) (U96 : MS) (t96_0 : Int32) (t96_1 : Int32) (v96_1 : Int32) (v96_2 : Int32) (v96_4 : Int32) : Prop := (wfC U96 → (∀ a31 : Int32, a31 = (t96_1 + t96_0) → (∀ a32 : Int32, a32 = (v96_4 + Int32.ofInt 1) → k46 U96 v96_1 v96_2 a31 a32)))
def w_X1_beginBody_J84 (Q : MS → Prop) (k46 : MS → Int32 → Int32 → Int32 → Int32 → Prop) (U84 : MS) (v84_1 : Int32) (v84_2 : Int32) (v84_3 : Int32) (v84_4 : Int32) (v84_5 : Int32) : Prop := (wfC U84 → ((v84_5.toInt = 2 → w_X1_beginBody_J96 Q k46 U84 2 v84_3 v84_1 v84_2 v84_4) ∧ (¬ v84_5.toInt = 2 → w_X1_beginBody_J96 Q k46 U84 1 v84_3 v84_1 v84_2 v84_4)))
def w_X1_beginBody_L46 (Q : MS → Prop) : Nat → MS → Int32 → Int32 → Int32 → Int32 → Prop
  | 0, _, _, _, _, _ => False
  | n46 + 1, U46, v46_1, v46_2, v46_3, v46_4 => (wfC U46 → ((v46_2.toInt ≤ v46_4.toInt → (∀ S15, S15 = wI U46 16 5 (0 : Int32) → qT U46 16 = 41 → wfC S15 → (∃ Q16, wX1_comeTo S15 (0 : Int32) Q16 ∧ ∀ S17, Q16 S17 → wfC S17 → shy S15 S17 → Q S17))) ∧ (¬ v46_2.toInt ≤ v46_4.toInt → (∃ Q19, wX6_kindAt U46 v46_1 v46_4 Q19 ∧ ∀ r20 S21, Q19 r20 S21 → wfC S21 → shy U46 S21 → (d_X1_lowerType S21 r20 ∧ (∀ a26 : Int32, a26 = (fX1_lowerType S21 r20) → (∃ Q27, wX1_setPlace S21 v46_3 a26 Q27 ∧ ∀ S28, Q27 S28 → wfC S28 → shy S21 S28 → ((r20.toInt = 2 → (∃ Q36, wX1_setPlace S28 (v46_3 + (1 : Int32)) (3 : Int32) Q36 ∧ ∀ S37, Q36 S37 → wfC S37 → shy S28 S37 → w_X1_beginBody_J84 Q (w_X1_beginBody_L46 Q n46) S37 v46_1 v46_2 v46_3 v46_4 r20)) ∧ (¬ r20.toInt = 2 → w_X1_beginBody_J84 Q (w_X1_beginBody_L46 Q n46) S28 v46_1 v46_2 v46_3 v46_4 r20)))))))))
def w_X1_beginBody_L2 (Q : MS → Prop) : Nat → MS → Int32 → Prop
  | 0, _, _ => False
  | n2 + 1, U2, v2_1 => (wfC U2 → ((48 ≤ v2_1.toInt → ((qR U2 16 8 = some (qO U2 16 8)) ∧ ((qR U2 16 9 = some (qO U2 16 9)) ∧ (d_X10_takesOfMethod U2 (qO U2 16 8) (qI U2 (qO U2 16 9) 11) ∧ (∀ a9 : Int32, a9 = (fX10_takesOfMethod U2 (qO U2 16 8) (qI U2 (qO U2 16 9) 11)) → (∃ Q10, wX6_kindCount U2 a9 Q10 ∧ ∀ r11 S12, Q10 r11 S12 → wfC S12 → shy U2 S12 → (∃ n, w_X1_beginBody_L46 Q n S12 a9 r11 0 0))))))) ∧ (¬ 48 ≤ v2_1.toInt → (((0 : Int) ≤ v2_1.toInt ∧ v2_1.toInt < 48) ∧ (∀ S40, S40 = wI U2 24 v2_1.toInt.toNat (vp_nar .byte (0 : Int32)) → qT U2 24 = 103 → wfC S40 → (∀ a41 : Int32, a41 = (v2_1 + Int32.ofInt 1) → (w_X1_beginBody_L2 Q n2) S40 a41))))))
def wX1_beginBody (S : MS) (Q : MS → Prop) : Prop := (∃ n, w_X1_beginBody_L2 Q n S 0)
set_option maxHeartbeats 2000000 in
set_option maxRecDepth 100000 in
theorem rX1_beginBody (l : Launch) (g : Gr) (ad : Nat → Nat) (sz : Nat) (S : MS) (hw : wfC S) (Q : MS → Prop) (h : wX1_beginBody S Q) : Met l yX1_beginBody (wt yX1_beginBody cX1_beginBody 6 none) ({ frames := 3, cells := 0, slots := 0, locals := 66 }) (va_Pc [.ref (ad 16)] (st_C g ad sz S)) (va_Qv (fun (u : MS) => Q u ∧ wfC u ∧ shy S u) (fun (u : MS) (t : State) => qEC g ad (va_A (WdC g ad S) sz) u t) (va_A (WdC g ad S) sz)) 0 0 (va_A (WdC g ad S) sz) := by
  refine Met.ofW (cc := cX1_beginBody) (maxL := 6) (ret := none) (by decide) rfl ?_
  intro p e s m args below meth c s₁ B hml hv
  obtain ⟨rfl, hsz, hP, hK, hD0, hex, hE⟩ := hv
  have hx := B.exec
  have hb := B.bytes
  have hr := B.returns
  have hts0 := atoms_spec (ws := wt yX1_beginBody cX1_beginBody 6 none) B.pre
  have hts : ∀ w ∈ tb, w.before _ s = true := fun w h => hts0 w (List.mem_cons_of_mem _ h)
  have hown : s.vm.findClass RX1 = some m.cls := findClass_of_methodNamed B.named
  subst hsz
  have hD := hD0.self (sz := s.heap.size)
  generalize hAe : va_A (WdC g ad S) s.heap.size = A at hD hE ⊢
  have hA : ∀ q : Nat, s.heap.size ≤ q → A q := fun q h => by rw [← hAe]; exact Or.inr h
  have hR : RepC g ad A s S s.heap [] := ⟨hK, hP, hD, va_S.rf, hw⟩
  clear hK hP hD hD0
  have hl := lv_entry ([.ref (ad 16)]) (n := 6) (Nat.le_of_ble_eq_true rfl)
  rw [lg_entry_eq]
  generalize (lg_sl ([.ref (ad 16)]) ++ List.replicate (6 - (lg_sl ([.ref (ad 16)])).length) Slot.unset).toArray = ls at hl ⊢
  have hl : lv_has ls 6 [(0, .ref (ad 16))] := hl
  have hsh : shy S S := shy.rf
  unfold wX1_beginBody at h
  refine lv_iconst (v := 0) hx hb dX1_beginBody_0 (by decide) ?_
  refine lv_istore_n (lv' := [(1, .int 0), (0, .ref (ad 16))]) hx hb dX1_beginBody_1 rfl hl (by decide) rfl (fun ls hl => ?_)
  have J_2 : ∀ (n2 : Nat) (U2 : MS) (v2_1 : Int32) (H : Heap) (locs : List Loc) (ls : Array Slot), w_X1_beginBody_L2 Q n2 U2 v2_1 → shy S U2 → RepC g ad A s U2 H locs → lv_has ls 6 [(0, .ref (ad 16)), (1, .int v2_1)] → W p l e (headSpec (wt yX1_beginBody cX1_beginBody 6 none) ({ frames := 3, cells := 0, slots := 0, locals := 66 })).room s m ([.ref (ad 16)] : List Value).toArray below meth c H locs 0 0 (MQ below (va_Qv (fun (u : MS) => Q u ∧ wfC u ∧ shy S u) (fun (u : MS) (t : State) => qEC g ad A u t) A) ([.ref (ad 16)] : List Value).toArray s 0 0 A) (F0 m 2 ls []) := by
    intro n2
    induction n2 with
    | zero => intro U2 v2_1 H locs ls h hsh hR hl; unfold w_X1_beginBody_L2 at h; exact h.elim
    | succ n2 ih_2 =>
      intro U2 v2_1 H locs ls h hsh hR hl
      unfold w_X1_beginBody_L2 at h
      replace h := h hR.w
      refine lv_iload_n hx hb dX1_beginBody_2 rfl (lv_at hl 1 rfl) ?_
      refine lv_bipush (v := 48) hx hb dX1_beginBody_3 (by decide) ?_
      refine lv_icmp_ge (tgt := 21) hx hb dX1_beginBody_5 (by decide) (fun c1 => ?_) (fun c1 => ?_)
      · replace h := h.1 (k_le (by decide) rfl c1)
        refine lv_aload_n hx hb dX1_beginBody_21 rfl (lv_at hl 0 rfl) ?_
        obtain ⟨hv3, h⟩ := h
        have hT_b2 : qT U2 (qO U2 16 8) = 49 := hR.w.ref hv3 (hR.w.2.1 _ finC_27).2.1
        refine va_get (D := rD g) (ci := 1) (v := .ref (ad (qO U2 16 8))) (C := RX1) (T := TX1) (N := 10) hx hb hts inX1 hown hR.K hR.P 16 (hR.at41 (hR.w.2.1 _ finC_27).2.1) rfl 8 (by decide) (hts _ kw_478) (fun _ h9 => h9) (congrArg (fun z => some (vf ad z)) hv3) dX1_beginBody_22 ?_
        refine lv_aload_n hx hb dX1_beginBody_25 rfl (lv_at hl 0 rfl) ?_
        obtain ⟨hv5, h⟩ := h
        have hT_b4 : qT U2 (qO U2 16 9) = 47 := hR.w.ref hv5 (hR.w.2.1 _ finC_27).2.1
        refine va_get (D := rD g) (ci := 1) (v := .ref (ad (qO U2 16 9))) (C := RX1) (T := TX1) (N := 10) hx hb hts inX1 hown hR.K hR.P 16 (hR.at41 (hR.w.2.1 _ finC_27).2.1) rfl 9 (by decide) (hts _ kw_479) (fun _ h9 => h9) (congrArg (fun z => some (vf ad z)) hv5) dX1_beginBody_26 ?_
        refine va_get (D := rD g) (ci := 7) (v := .int (qI U2 (qO U2 16 9) 11)) (C := RX8) (T := TX8) (N := 15) hx hb hts inX8 hown hR.K hR.P (qO U2 16 9) (hR.at47 hT_b4) rfl 11 (by decide) (hts _ kw_480) (fun _ h9 => h9) rfl dX1_beginBody_29 ?_
        obtain ⟨hv6, h⟩ := h
        have hFc := cfree hR hA
        refine va_calli (va_runV (As := [.int (qI U2 (qO U2 16 9) 11)]) (rest := []) ⟨hx, hb, hml, hown, hts⟩ (rX10_takesOfMethod l g ad H.size U2 (qO U2 16 8) (qI U2 (qO U2 16 9) 11) hR.w hT_b2 hv6) (cwV 1 hts (gd_V kw_481 kw_78 kw_79 kw_34 kw_77) rfl rfl rfl (by decide +kernel) ⟨Nat.le_of_ble_eq_true rfl, Nat.le_of_ble_eq_true rfl⟩) ⟨cblind, va_recv hR.K hR.P (ci := 9) (q0 := (qO U2 16 8)) rfl (hR.at49 hT_b2), fun U hU hW9 => cmk hU hW9 hR hex hE hFc⟩ rfl rfl hl.1 rfl (lv_room (Nat.le_of_ble_eq_true rfl)) dX1_beginBody_32 ⟨Nat.le_of_ble_eq_true rfl, Nat.le_of_ble_eq_true rfl⟩) hR.sS (fun q _ h => hFc q h) hFc (fun r7 u9 t9 H1 locs ht9 hvm9 hw9 hB9 hz9 hk9 hS => ?_)
        have hR : RepC g ad A s U2 H1 locs := hR.call ht9 hB9 hR.w hS hFc
        obtain rfl : r7 = (fX10_takesOfMethod U2 (qO U2 16 8) (qI U2 (qO U2 16 9) 11)) := hw9
        clear hB9 hz9 hk9 hvm9 ht9 hS
        generalize H1 = H at hR ⊢
        obtain ⟨a9, ea9⟩ : ∃ z, z = (fX10_takesOfMethod U2 (qO U2 16 8) (qI U2 (qO U2 16 9) 11)) := ⟨_, rfl⟩
        rw [← ea9]
        replace h := h a9 ea9
        refine lv_istore_n (lv' := [(1, .int a9), (0, .ref (ad 16))]) hx hb dX1_beginBody_35 rfl hl (by decide) rfl (fun ls hl => ?_)
        refine lv_iload_n hx hb dX1_beginBody_36 rfl (lv_at hl 0 rfl) ?_
        obtain ⟨Q10, h0, h⟩ := h
        have hFc := cfree hR hA
        refine va_calli (va_runS (As := [.int a9]) (rest := []) ⟨hx, hb, hml, hown, hts⟩ (rX6_kindCount l g ad H.size U2 a9 hR.w  Q10 h0) (va_cwS 1 hts (gd_S kw_482 kw_1242 kw_1207 kw_1241) rfl rfl rfl (by decide +kernel) ⟨Nat.le_of_ble_eq_true rfl, Nat.le_of_ble_eq_true rfl⟩) ⟨cblind, fun U hU hW9 => cmk hU hW9 hR hex hE hFc⟩ rfl rfl hl.1 rfl (lv_room (Nat.le_of_ble_eq_true rfl)) dX1_beginBody_37 ⟨Nat.le_of_ble_eq_true rfl, Nat.le_of_ble_eq_true rfl⟩) hR.sS (fun q _ h => hFc q h) hFc (fun r11 S12 t9 H1 locs ht9 hvm9 hw9 hB9 hz9 hk9 hS => ?_)
        obtain ⟨hq13, hw9, hs9⟩ := hw9
        have hR : RepC g ad A s S12 H1 locs := hR.call ht9 hB9 hw9 hS hFc
        have hsh := hsh.tr hs9
        replace h := h r11 S12 hq13 hw9 hs9
        clear hB9 hz9 hk9 hvm9 ht9 hw9 hs9 hS
        generalize H1 = H at hR ⊢
        refine lv_istore_n (lv' := [(2, .int r11), (1, .int a9), (0, .ref (ad 16))]) hx hb dX1_beginBody_40 rfl hl (by decide) rfl (fun ls hl => ?_)
        refine lv_iconst (v := 0) hx hb dX1_beginBody_41 (by decide) ?_
        refine lv_istore_n (lv' := [(3, .int 0), (2, .int r11), (1, .int a9), (0, .ref (ad 16))]) hx hb dX1_beginBody_42 rfl hl (by decide) rfl (fun ls hl => ?_)
        refine lv_iconst (v := 0) hx hb dX1_beginBody_43 (by decide) ?_
        refine lv_istore (lv' := [(4, .int 0), (3, .int 0), (2, .int r11), (1, .int a9), (0, .ref (ad 16))]) hx hb dX1_beginBody_44 hl (by decide) rfl (fun ls hl => ?_)
        have J_46 : ∀ (n46 : Nat) (U46 : MS) (v46_1 : Int32) (v46_2 : Int32) (v46_3 : Int32) (v46_4 : Int32) (H : Heap) (locs : List Loc) (ls : Array Slot), w_X1_beginBody_L46 Q n46 U46 v46_1 v46_2 v46_3 v46_4 → shy S U46 → RepC g ad A s U46 H locs → lv_has ls 6 [(0, .ref (ad 16)), (1, .int v46_1), (2, .int v46_2), (3, .int v46_3), (4, .int v46_4)] → W p l e (headSpec (wt yX1_beginBody cX1_beginBody 6 none) ({ frames := 3, cells := 0, slots := 0, locals := 66 })).room s m ([.ref (ad 16)] : List Value).toArray below meth c H locs 0 0 (MQ below (va_Qv (fun (u : MS) => Q u ∧ wfC u ∧ shy S u) (fun (u : MS) (t : State) => qEC g ad A u t) A) ([.ref (ad 16)] : List Value).toArray s 0 0 A) (F0 m 46 ls []) := by
          intro n46
          induction n46 with
          | zero => intro U46 v46_1 v46_2 v46_3 v46_4 H locs ls h hsh hR hl; unfold w_X1_beginBody_L46 at h; exact h.elim
          | succ n46 ih_46 =>
            intro U46 v46_1 v46_2 v46_3 v46_4 H locs ls h hsh hR hl
            unfold w_X1_beginBody_L46 at h
            replace h := h hR.w
            refine lv_iload hx hb dX1_beginBody_46 (lv_at hl 4 rfl) ?_
            refine lv_iload_n hx hb dX1_beginBody_48 rfl (lv_at hl 2 rfl) ?_
            refine lv_icmp_ge (tgt := 104) hx hb dX1_beginBody_49 (by decide) (fun c14 => ?_) (fun c14 => ?_)
            · replace h := h.1 (k_le rfl rfl c14)
              refine lv_aload_n hx hb dX1_beginBody_104 rfl (lv_at hl 0 rfl) ?_
              refine lv_iconst (v := 0) hx hb dX1_beginBody_105 (by decide) ?_
              refine va_put (D := rD g) (ci := 1) (v := .int 0) (ty := .int) (C := RX1) (T := TX1) (N := 10) hx hb hts inX1 tyX1 tyX1_ok nmX1 hown hR.K hR.P hR.D hR.sS 16 (hR.at41 (hR.w.2.1 _ finC_27).2.1) rfl 5 (by decide) (hts _ kw_486) (fun _ h9 => h9) rfl (by decide +kernel) rfl rfl (Nat.le_of_ble_eq_true rfl) dX1_beginBody_106 (fun H locs hP hD hS => ?_)
              have hTk9 : qT U46 16 = 41 := (hR.w.2.1 _ finC_27).2.1
              have hR : RepC g ad A s (wI U46 16 5 (0 : Int32)) H locs := hR.pI41 (hR.w.2.1 _ finC_27).2.1 FX1_s5 (fun q9 => absurd q9 (by decide)) hP hD hS
              obtain ⟨S15, eS15⟩ : ∃ z, z = wI U46 16 5 (0 : Int32) := ⟨_, rfl⟩
              rw [← eS15] at hR
              replace h := h S15 eS15 hTk9 hR.w
              have hsh : shy S S15 := by rw [eS15]; exact hsh
              refine lv_aload_n hx hb dX1_beginBody_109 rfl (lv_at hl 0 rfl) ?_
              refine lv_iconst (v := 0) hx hb dX1_beginBody_110 (by decide) ?_
              obtain ⟨Q16, h0, h⟩ := h
              have hFc := cfree hR hA
              refine va_callv (va_runV (As := [.int 0]) (rest := []) ⟨hx, hb, hml, hown, hts⟩ (rX1_comeTo l g ad H.size S15 (0 : Int32) hR.w  Q16 h0) (cwV 1 hts (gd_V kw_487 kw_489 kw_490 kw_392 kw_488) rfl rfl rfl (by decide +kernel) ⟨Nat.le_of_ble_eq_true rfl, Nat.le_of_ble_eq_true rfl⟩) ⟨cblind, va_recv hR.K hR.P (ci := 1) (q0 := 16) rfl (hR.at41 (hR.w.2.1 _ finC_27).2.1), fun U hU hW9 => cmk hU hW9 hR hex hE hFc⟩ rfl rfl hl.1 rfl (lv_room (Nat.le_of_ble_eq_true rfl)) dX1_beginBody_111 ⟨Nat.le_of_ble_eq_true rfl, Nat.le_of_ble_eq_true rfl⟩) hR.sS (fun q _ h => hFc q h) hFc (fun  S17 t9 H1 locs ht9 hvm9 hw9 hB9 hz9 hk9 hS => ?_)
              obtain ⟨hq18, hw9, hs9⟩ := hw9
              have hR : RepC g ad A s S17 H1 locs := hR.call ht9 hB9 hw9 hS hFc
              have hsh := hsh.tr hs9
              replace h := h  S17 hq18 hw9 hs9
              clear hB9 hz9 hk9 hvm9 ht9 hw9 hs9 hS
              generalize H1 = H at hR ⊢
              exact W.vret hx hb hr (fun t9 ht9 hW9 => ⟨⟨S17, rfl, ⟨h, hR.w, hsh⟩, ⟨by rw [ht9]; exact hR.P, hR.D⟩⟩, hR.sS.F ht9⟩) hR.sS.2.2 dX1_beginBody_114
            · replace h := h.2 (k_nle rfl rfl c14)
              refine lv_iload_n hx hb dX1_beginBody_52 rfl (lv_at hl 1 rfl) ?_
              refine lv_iload hx hb dX1_beginBody_53 (lv_at hl 4 rfl) ?_
              obtain ⟨Q19, h0, h⟩ := h
              have hFc := cfree hR hA
              refine va_calli (va_runS (As := [.int v46_1, .int v46_4]) (rest := []) ⟨hx, hb, hml, hown, hts⟩ (rX6_kindAt l g ad H.size U46 v46_1 v46_4 hR.w  Q19 h0) (va_cwS 2 hts (gd_S kw_483 kw_1239 kw_1207 kw_1238) rfl rfl rfl (by decide +kernel) ⟨Nat.le_of_ble_eq_true rfl, Nat.le_of_ble_eq_true rfl⟩) ⟨cblind, fun U hU hW9 => cmk hU hW9 hR hex hE hFc⟩ rfl rfl hl.1 rfl (lv_room (Nat.le_of_ble_eq_true rfl)) dX1_beginBody_55 ⟨Nat.le_of_ble_eq_true rfl, Nat.le_of_ble_eq_true rfl⟩) hR.sS (fun q _ h => hFc q h) hFc (fun r20 S21 t9 H1 locs ht9 hvm9 hw9 hB9 hz9 hk9 hS => ?_)
              obtain ⟨hq22, hw9, hs9⟩ := hw9
              have hR : RepC g ad A s S21 H1 locs := hR.call ht9 hB9 hw9 hS hFc
              have hsh := hsh.tr hs9
              replace h := h r20 S21 hq22 hw9 hs9
              clear hB9 hz9 hk9 hvm9 ht9 hw9 hs9 hS
              generalize H1 = H at hR ⊢
              refine lv_istore (lv' := [(5, .int r20), (0, .ref (ad 16)), (1, .int v46_1), (2, .int v46_2), (3, .int v46_3), (4, .int v46_4)]) hx hb dX1_beginBody_58 hl (by decide) rfl (fun ls hl => ?_)
              refine lv_aload_n hx hb dX1_beginBody_60 rfl (lv_at hl 1 rfl) ?_
              refine lv_iload_n hx hb dX1_beginBody_61 rfl (lv_at hl 4 rfl) ?_
              refine lv_iload hx hb dX1_beginBody_62 (lv_at hl 0 rfl) ?_
              obtain ⟨hv23, h⟩ := h
              have hFc := cfree hR hA
              refine va_calli (va_runS (As := [.int r20]) (rest := [.int v46_3, .ref (ad 16)]) ⟨hx, hb, hml, hown, hts⟩ (rX1_lowerType l g ad H.size S21 r20 hR.w  hv23) (va_cwS 1 hts (gd_S kw_484 kw_574 kw_392 kw_573) rfl rfl rfl (by decide +kernel) ⟨Nat.le_of_ble_eq_true rfl, Nat.le_of_ble_eq_true rfl⟩) ⟨cblind, fun U hU hW9 => cmk hU hW9 hR hex hE hFc⟩ rfl rfl hl.1 rfl (lv_room (Nat.le_of_ble_eq_true rfl)) dX1_beginBody_64 ⟨Nat.le_of_ble_eq_true rfl, Nat.le_of_ble_eq_true rfl⟩) hR.sS (fun q _ h => hFc q h) hFc (fun r24 u9 t9 H1 locs ht9 hvm9 hw9 hB9 hz9 hk9 hS => ?_)
              have hR : RepC g ad A s S21 H1 locs := hR.call ht9 hB9 hR.w hS hFc
              obtain rfl : r24 = (fX1_lowerType S21 r20) := hw9
              clear hB9 hz9 hk9 hvm9 ht9 hS
              generalize H1 = H at hR ⊢
              obtain ⟨a26, ea26⟩ : ∃ z, z = (fX1_lowerType S21 r20) := ⟨_, rfl⟩
              rw [← ea26]
              replace h := h a26 ea26
              obtain ⟨Q27, h0, h⟩ := h
              have hFc := cfree hR hA
              refine va_callv (va_runV (As := [.int v46_3, .int a26]) (rest := []) ⟨hx, hb, hml, hown, hts⟩ (rX1_setPlace l g ad H.size S21 v46_3 a26 hR.w  Q27 h0) (cwV 2 hts (gd_V kw_485 kw_588 kw_589 kw_392 kw_587) rfl rfl rfl (by decide +kernel) ⟨Nat.le_of_ble_eq_true rfl, Nat.le_of_ble_eq_true rfl⟩) ⟨cblind, va_recv hR.K hR.P (ci := 1) (q0 := 16) rfl (hR.at41 (hR.w.2.1 _ finC_27).2.1), fun U hU hW9 => cmk hU hW9 hR hex hE hFc⟩ rfl rfl hl.1 rfl (lv_room (Nat.le_of_ble_eq_true rfl)) dX1_beginBody_67 ⟨Nat.le_of_ble_eq_true rfl, Nat.le_of_ble_eq_true rfl⟩) hR.sS (fun q _ h => hFc q h) hFc (fun  S28 t9 H1 locs ht9 hvm9 hw9 hB9 hz9 hk9 hS => ?_)
              obtain ⟨hq29, hw9, hs9⟩ := hw9
              have hR : RepC g ad A s S28 H1 locs := hR.call ht9 hB9 hw9 hS hFc
              have hsh := hsh.tr hs9
              replace h := h  S28 hq29 hw9 hs9
              clear hB9 hz9 hk9 hvm9 ht9 hw9 hs9 hS
              generalize H1 = H at hR ⊢
              refine lv_iload hx hb dX1_beginBody_70 (lv_at hl 0 rfl) ?_
              refine lv_iconst (v := 2) hx hb dX1_beginBody_72 (by decide) ?_
              have J_84 : ∀ (U84 : MS) (v84_1 : Int32) (v84_2 : Int32) (v84_3 : Int32) (v84_4 : Int32) (v84_5 : Int32) (H : Heap) (locs : List Loc) (ls : Array Slot), w_X1_beginBody_J84 Q (w_X1_beginBody_L46 Q n46) U84 v84_1 v84_2 v84_3 v84_4 v84_5 → shy S U84 → RepC g ad A s U84 H locs → lv_has ls 6 [(0, .ref (ad 16)), (1, .int v84_1), (2, .int v84_2), (3, .int v84_3), (4, .int v84_4), (5, .int v84_5)] → W p l e (headSpec (wt yX1_beginBody cX1_beginBody 6 none) ({ frames := 3, cells := 0, slots := 0, locals := 66 })).room s m ([.ref (ad 16)] : List Value).toArray below meth c H locs 0 0 (MQ below (va_Qv (fun (u : MS) => Q u ∧ wfC u ∧ shy S u) (fun (u : MS) (t : State) => qEC g ad A u t) A) ([.ref (ad 16)] : List Value).toArray s 0 0 A) (F0 m 84 ls []) := by
                intro U84 v84_1 v84_2 v84_3 v84_4 v84_5 H locs ls h hsh hR hl
                unfold w_X1_beginBody_J84 at h
                replace h := h hR.w
                refine lv_iload_n hx hb dX1_beginBody_84 rfl (lv_at hl 3 rfl) ?_
                refine lv_iload hx hb dX1_beginBody_85 (lv_at hl 5 rfl) ?_
                refine lv_iconst (v := 2) hx hb dX1_beginBody_87 (by decide) ?_
                have J_96 : ∀ (U96 : MS) (t96_0 : Int32) (t96_1 : Int32) (v96_1 : Int32) (v96_2 : Int32) (v96_4 : Int32) (H : Heap) (locs : List Loc) (ls : Array Slot), w_X1_beginBody_J96 Q (w_X1_beginBody_L46 Q n46) U96 t96_0 t96_1 v96_1 v96_2 v96_4 → shy S U96 → RepC g ad A s U96 H locs → lv_has ls 6 [(0, .ref (ad 16)), (1, .int v96_1), (2, .int v96_2), (4, .int v96_4)] → W p l e (headSpec (wt yX1_beginBody cX1_beginBody 6 none) ({ frames := 3, cells := 0, slots := 0, locals := 66 })).room s m ([.ref (ad 16)] : List Value).toArray below meth c H locs 0 0 (MQ below (va_Qv (fun (u : MS) => Q u ∧ wfC u ∧ shy S u) (fun (u : MS) (t : State) => qEC g ad A u t) A) ([.ref (ad 16)] : List Value).toArray s 0 0 A) (F0 m 96 ls [.int t96_0, .int t96_1]) := by
                  intro U96 t96_0 t96_1 v96_1 v96_2 v96_4 H locs ls h hsh hR hl
                  unfold w_X1_beginBody_J96 at h
                  replace h := h hR.w
                  refine lv_iadd hx hb dX1_beginBody_96 ?_
                  refine lv_topi (fun z30 ez30 => ?_)
                  obtain rfl : z30 = (t96_1 + t96_0) := ez30
                  obtain ⟨a31, ea31⟩ : ∃ z, z = (t96_1 + t96_0) := ⟨_, rfl⟩
                  rw [← ea31]
                  replace h := h a31 ea31
                  refine lv_istore_n (lv' := [(3, .int a31), (0, .ref (ad 16)), (1, .int v96_1), (2, .int v96_2), (4, .int v96_4)]) hx hb dX1_beginBody_97 rfl hl (by decide) rfl (fun ls hl => ?_)
                  obtain ⟨a32, ea32⟩ : ∃ z, z = (v96_4 + Int32.ofInt 1) := ⟨_, rfl⟩
                  replace h := h a32 ea32
                  refine lv_iinc (v := a32) (lv' := [(4, .int a32), (3, .int a31), (0, .ref (ad 16)), (1, .int v96_1), (2, .int v96_2)]) hx hb dX1_beginBody_98 hl (k := 4) rfl ea32.symm (by decide) rfl (fun ls hl => ?_)
                  refine lv_goto (tgt := 46) hx hb dX1_beginBody_101 (by decide) ?_
                  exact ih_46 U96 v96_1 v96_2 a31 a32 _ _ ls h  hsh hR (lv_sub hl [2, 3, 4, 1, 0] rfl)
                refine lv_icmp_ne (tgt := 95) hx hb dX1_beginBody_88 (by decide) (fun c33 => ?_) (fun c33 => ?_)
                · replace h := h.2 (k_ne rfl (by decide) c33)
                  refine lv_iconst (v := 1) hx hb dX1_beginBody_95 (by decide) ?_
                  exact J_96 U84 1 v84_3 v84_1 v84_2 v84_4 _ _ ls h  hsh hR (lv_sub hl [0, 1, 2, 4] rfl)
                · replace h := h.1 (k_eq rfl (by decide) c33)
                  refine lv_iconst (v := 2) hx hb dX1_beginBody_91 (by decide) ?_
                  refine lv_goto (tgt := 96) hx hb dX1_beginBody_92 (by decide) ?_
                  exact J_96 U84 2 v84_3 v84_1 v84_2 v84_4 _ _ ls h  hsh hR (lv_sub hl [0, 1, 2, 4] rfl)
              refine lv_icmp_ne (tgt := 84) hx hb dX1_beginBody_73 (by decide) (fun c34 => ?_) (fun c34 => ?_)
              · replace h := h.2 (k_ne rfl (by decide) c34)
                exact J_84 S28 v46_1 v46_2 v46_3 v46_4 r20 _ _ ls h  hsh hR (lv_sub hl [1, 2, 3, 4, 5, 0] rfl)
              · replace h := h.1 (k_eq rfl (by decide) c34)
                refine lv_aload_n hx hb dX1_beginBody_76 rfl (lv_at hl 1 rfl) ?_
                refine lv_iload_n hx hb dX1_beginBody_77 rfl (lv_at hl 4 rfl) ?_
                refine lv_iconst (v := 1) hx hb dX1_beginBody_78 (by decide) ?_
                refine lv_iadd hx hb dX1_beginBody_79 ?_
                refine lv_topi (fun z35 ez35 => ?_)
                obtain rfl : z35 = (v46_3 + (1 : Int32)) := ez35
                refine lv_iconst (v := 3) hx hb dX1_beginBody_80 (by decide) ?_
                obtain ⟨Q36, h0, h⟩ := h
                have hFc := cfree hR hA
                refine va_callv (va_runV (As := [.int (v46_3 + (1 : Int32)), .int 3]) (rest := []) ⟨hx, hb, hml, hown, hts⟩ (rX1_setPlace l g ad H.size S28 (v46_3 + (1 : Int32)) (3 : Int32) hR.w  Q36 h0) (cwV 2 hts (gd_V kw_485 kw_588 kw_589 kw_392 kw_587) rfl rfl rfl (by decide +kernel) ⟨Nat.le_of_ble_eq_true rfl, Nat.le_of_ble_eq_true rfl⟩) ⟨cblind, va_recv hR.K hR.P (ci := 1) (q0 := 16) rfl (hR.at41 (hR.w.2.1 _ finC_27).2.1), fun U hU hW9 => cmk hU hW9 hR hex hE hFc⟩ rfl rfl hl.1 rfl (lv_room (Nat.le_of_ble_eq_true rfl)) dX1_beginBody_81 ⟨Nat.le_of_ble_eq_true rfl, Nat.le_of_ble_eq_true rfl⟩) hR.sS (fun q _ h => hFc q h) hFc (fun  S37 t9 H1 locs ht9 hvm9 hw9 hB9 hz9 hk9 hS => ?_)
                obtain ⟨hq38, hw9, hs9⟩ := hw9
                have hR : RepC g ad A s S37 H1 locs := hR.call ht9 hB9 hw9 hS hFc
                have hsh := hsh.tr hs9
                replace h := h  S37 hq38 hw9 hs9
                clear hB9 hz9 hk9 hvm9 ht9 hw9 hs9 hS
                generalize H1 = H at hR ⊢
                exact J_84 S37 v46_1 v46_2 v46_3 v46_4 r20 _ _ ls h  hsh hR (lv_sub hl [1, 2, 3, 4, 5, 0] rfl)
        obtain ⟨n9, h⟩ := h
        exact J_46 n9 S12 a9 r11 0 0 _ _ ls h  hsh hR (lv_sub hl [4, 3, 2, 1, 0] rfl)
      · replace h := h.2 (k_nle (by decide) rfl c1)
        refine lv_aload_n hx hb dX1_beginBody_8 rfl (lv_at hl 0 rfl) ?_
        refine va_get (D := rD g) (ci := 1) (v := .ref (ad 24)) (C := RX1) (T := TX1) (N := 10) hx hb hts inX1 hown hR.K hR.P 16 (hR.at41 (hR.w.2.1 _ finC_27).2.1) rfl 4 (by decide) (hts _ kw_477) (fun _ h9 => h9) (congrArg (fun z => some (vf ad z)) (hR.w.2.1 _ finC_1).1) dX1_beginBody_9 ?_
        refine lv_iload_n hx hb dX1_beginBody_12 rfl (lv_at hl 1 rfl) ?_
        refine lv_iconst (v := 0) hx hb dX1_beginBody_13 (by decide) ?_
        obtain ⟨hv39, h⟩ := h
        refine va_bast hx hb hR.K hR.P hR.D hR.sS 24 0 (hR.atB (hR.w.2.1 _ finC_1).2.1 (by decide)) rfl (k_ixN (k_ix (n := 48) (x := v2_1) (a := v2_1.toInt) rfl hv39) (hR.w.2.1 _ finC_1).2.2) dX1_beginBody_14 (fun H locs hP hD hS => ?_)
        have hTk9 : qT U2 24 = 103 := (hR.w.2.1 _ finC_1).2.1
        have hR : RepC g ad A s (wI U2 24 v2_1.toInt.toNat (vp_nar .byte (0 : Int32))) H locs := hR.aB (hR.w.2.1 _ finC_1).2.1 (by decide) (fit_nb _) hP hD hS
        obtain ⟨S40, eS40⟩ : ∃ z, z = wI U2 24 v2_1.toInt.toNat (vp_nar .byte (0 : Int32)) := ⟨_, rfl⟩
        rw [← eS40] at hR
        replace h := h S40 eS40 hTk9 hR.w
        have hsh : shy S S40 := by rw [eS40]; exact hsh
        obtain ⟨a41, ea41⟩ : ∃ z, z = (v2_1 + Int32.ofInt 1) := ⟨_, rfl⟩
        replace h := h a41 ea41
        refine lv_iinc (v := a41) (lv' := [(1, .int a41), (0, .ref (ad 16))]) hx hb dX1_beginBody_15 hl (k := 1) rfl ea41.symm (by decide) rfl (fun ls hl => ?_)
        refine lv_goto (tgt := 2) hx hb dX1_beginBody_18 (by decide) ?_
        exact ih_2 S40 a41 _ _ ls h  hsh hR (lv_sub hl [1, 0] rfl)
  obtain ⟨n9, h⟩ := h
  exact J_2 n9 S 0 _ _ ls h  hsh hR (lv_sub hl [1, 0] rfl)
