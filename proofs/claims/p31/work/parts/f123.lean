def w_X2_catchHolds_J84 (Q : Int32 → MS → Prop) (U84 : MS) : Prop := (wfC U84 → Q (0 : Int32) U84)
def wX2_catchHolds (S : MS) (x1 : Int32) (Q : Int32 → MS → Prop) : Prop := (d_X7_u2 S x1 ∧ (∀ a4 : Int32, a4 = (fX7_u2 S x1) → (d_X7_u2 S (x1 + (2 : Int32)) ∧ (∀ a9 : Int32, a9 = (fX7_u2 S (x1 + (2 : Int32))) → (d_X2_isInstruction S (a4.toInt64) ∧ (∀ a13 : Int32, a13 = (fX2_isInstruction S (a4.toInt64)) → ((a13.toInt = 0 → w_X2_catchHolds_J84 Q S) ∧ (¬ a13.toInt = 0 → (d_X2_numberOf S (a9.toInt64) ∧ (∀ a18 : Int32, a18 = (fX2_numberOf S (a9.toInt64)) → ((a18.toInt < 0 → w_X2_catchHolds_J84 Q S) ∧ (¬ a18.toInt < 0 → ((a9.toInt ≤ a4.toInt → w_X2_catchHolds_J84 Q S) ∧ (¬ a9.toInt ≤ a4.toInt → (d_X7_u2 S (x1 + (4 : Int32)) ∧ (∀ a25 : Int32, a25 = (fX7_u2 S (x1 + (4 : Int32))) → (d_X2_isInstruction S (a25.toInt64) ∧ (∀ a29 : Int32, a29 = (fX2_isInstruction S (a25.toInt64)) → ((a29.toInt = 0 → w_X2_catchHolds_J84 Q S) ∧ (¬ a29.toInt = 0 → (d_X7_u2 S (x1 + (6 : Int32)) ∧ (∀ a35 : Int32, a35 = (fX7_u2 S (x1 + (6 : Int32))) → (∃ Q36, wX2_errorOf S a35 Q36 ∧ ∀ r37 S38, Q36 r37 S38 → wfC S38 → shy S S38 → ((r37.toInt < (-1) → w_X2_catchHolds_J84 Q S38) ∧ (¬ r37.toInt < (-1) → Q (1 : Int32) S38)))))))))))))))))))))))))
set_option maxHeartbeats 2000000 in
set_option maxRecDepth 100000 in
theorem rX2_catchHolds (l : Launch) (g : Gr) (ad : Nat → Nat) (sz : Nat) (S : MS) (x1 : Int32) (hw : wfC S) (Q : Int32 → MS → Prop) (h : wX2_catchHolds S x1 Q) : Met l yX2_catchHolds (wt yX2_catchHolds cX2_catchHolds 4 (some .boolean)) ({ frames := 6, cells := 0, slots := 0, locals := 130 }) (va_Pc [.ref (ad 8), .int x1] (st_C g ad sz S)) (va_Qi (fun (r : Int32) (u : MS) => Q r u ∧ wfC u ∧ shy S u ∧ (r = 0 ∨ r = 1)) (fun (u : MS) (t : State) => qEC g ad (va_A (WdC g ad S) sz) u t) (va_A (WdC g ad S) sz)) 0 0 (va_A (WdC g ad S) sz) := by
  refine Met.ofW (cc := cX2_catchHolds) (maxL := 4) (ret := (some .boolean)) (by decide) rfl ?_
  intro p e s m args below meth c s₁ B hml hv
  obtain ⟨rfl, hsz, hP, hK, hD0, hex, hE⟩ := hv
  have hx := B.exec
  have hb := B.bytes
  have hr := B.returns
  have hts0 := atoms_spec (ws := wt yX2_catchHolds cX2_catchHolds 4 (some .boolean)) B.pre
  have hts : ∀ w ∈ tb, w.before _ s = true := fun w h => hts0 w (List.mem_cons_of_mem _ h)
  have hown : s.vm.findClass RX2 = some m.cls := findClass_of_methodNamed B.named
  subst hsz
  have hD := hD0.self (sz := s.heap.size)
  generalize hAe : va_A (WdC g ad S) s.heap.size = A at hD hE ⊢
  have hA : ∀ q : Nat, s.heap.size ≤ q → A q := fun q h => by rw [← hAe]; exact Or.inr h
  have hR : RepC g ad A s S s.heap [] := ⟨hK, hP, hD, va_S.rf, hw⟩
  clear hK hP hD hD0
  have hl := lv_entry ([.ref (ad 8), .int x1]) (n := 4) (Nat.le_of_ble_eq_true rfl)
  rw [lg_entry_eq]
  generalize (lg_sl ([.ref (ad 8), .int x1]) ++ List.replicate (4 - (lg_sl ([.ref (ad 8), .int x1])).length) Slot.unset).toArray = ls at hl ⊢
  have hl : lv_has ls 4 [(0, .ref (ad 8)), (1, .int x1)] := hl
  have hsh : shy S S := shy.rf
  unfold wX2_catchHolds at h
  refine lv_aload_n hx hb dX2_catchHolds_0 rfl (lv_at hl 0 rfl) ?_
  refine va_get (D := rD g) (ci := 2) (v := .ref (ad 9)) (C := RX2) (T := TX2) (N := 12) hx hb hts inX2 hown hR.K hR.P 8 (hR.at42 (hR.w.2.1 _ finC_26).2.1) rfl 0 (by decide) (hts _ kw_632) (fun _ h9 => h9) (congrArg (fun z => some (vf ad z)) (hR.w.2.1 _ finC_2).1) dX2_catchHolds_1 ?_
  refine lv_iload_n hx hb dX2_catchHolds_4 rfl (lv_at hl 1 rfl) ?_
  obtain ⟨hv1, h⟩ := h
  have hFc := cfree hR hA
  refine va_calli (va_runV (As := [.int x1]) (rest := []) ⟨hx, hb, hml, hown, hts⟩ (rX7_u2 l g ad s.heap.size S x1 hR.w  hv1) (cwV 1 hts (gd_V kw_651 kw_1450 kw_1451 kw_710 kw_1449) rfl rfl rfl (by decide +kernel) ⟨Nat.le_of_ble_eq_true rfl, Nat.le_of_ble_eq_true rfl⟩) ⟨cblind, va_recv hR.K hR.P (ci := 6) (q0 := 9) rfl (hR.at46 (hR.w.2.1 _ finC_2).2.1), fun U hU hW9 => cmk hU hW9 hR hex hE hFc⟩ rfl rfl hl.1 rfl (lv_room (Nat.le_of_ble_eq_true rfl)) dX2_catchHolds_5 ⟨Nat.le_of_ble_eq_true rfl, Nat.le_of_ble_eq_true rfl⟩) hR.sS (fun q _ h => hFc q h) hFc (fun r2 u9 t9 H1 locs ht9 hvm9 hw9 hB9 hz9 hk9 hS => ?_)
  have hR : RepC g ad A s S H1 locs := hR.call ht9 hB9 hR.w hS hFc
  obtain rfl : r2 = (fX7_u2 S x1) := hw9
  clear hB9 hz9 hk9 hvm9 ht9 hS
  generalize H1 = H at hR ⊢
  obtain ⟨a4, ea4⟩ : ∃ z, z = (fX7_u2 S x1) := ⟨_, rfl⟩
  rw [← ea4]
  replace h := h a4 ea4
  refine lv_istore_n (lv' := [(2, .int a4), (0, .ref (ad 8)), (1, .int x1)]) hx hb dX2_catchHolds_8 rfl hl (by decide) rfl (fun ls hl => ?_)
  refine lv_aload_n hx hb dX2_catchHolds_9 rfl (lv_at hl 1 rfl) ?_
  refine va_get (D := rD g) (ci := 2) (v := .ref (ad 9)) (C := RX2) (T := TX2) (N := 12) hx hb hts inX2 hown hR.K hR.P 8 (hR.at42 (hR.w.2.1 _ finC_26).2.1) rfl 0 (by decide) (hts _ kw_632) (fun _ h9 => h9) (congrArg (fun z => some (vf ad z)) (hR.w.2.1 _ finC_2).1) dX2_catchHolds_10 ?_
  refine lv_iload_n hx hb dX2_catchHolds_13 rfl (lv_at hl 2 rfl) ?_
  refine lv_iconst (v := 2) hx hb dX2_catchHolds_14 (by decide) ?_
  refine lv_iadd hx hb dX2_catchHolds_15 ?_
  refine lv_topi (fun z5 ez5 => ?_)
  obtain rfl : z5 = (x1 + (2 : Int32)) := ez5
  obtain ⟨hv6, h⟩ := h
  have hFc := cfree hR hA
  refine va_calli (va_runV (As := [.int (x1 + (2 : Int32))]) (rest := []) ⟨hx, hb, hml, hown, hts⟩ (rX7_u2 l g ad H.size S (x1 + (2 : Int32)) hR.w  hv6) (cwV 1 hts (gd_V kw_651 kw_1450 kw_1451 kw_710 kw_1449) rfl rfl rfl (by decide +kernel) ⟨Nat.le_of_ble_eq_true rfl, Nat.le_of_ble_eq_true rfl⟩) ⟨cblind, va_recv hR.K hR.P (ci := 6) (q0 := 9) rfl (hR.at46 (hR.w.2.1 _ finC_2).2.1), fun U hU hW9 => cmk hU hW9 hR hex hE hFc⟩ rfl rfl hl.1 rfl (lv_room (Nat.le_of_ble_eq_true rfl)) dX2_catchHolds_16 ⟨Nat.le_of_ble_eq_true rfl, Nat.le_of_ble_eq_true rfl⟩) hR.sS (fun q _ h => hFc q h) hFc (fun r7 u9 t9 H1 locs ht9 hvm9 hw9 hB9 hz9 hk9 hS => ?_)
  have hR : RepC g ad A s S H1 locs := hR.call ht9 hB9 hR.w hS hFc
  obtain rfl : r7 = (fX7_u2 S (x1 + (2 : Int32))) := hw9
  clear hB9 hz9 hk9 hvm9 ht9 hS
  generalize H1 = H at hR ⊢
  obtain ⟨a9, ea9⟩ : ∃ z, z = (fX7_u2 S (x1 + (2 : Int32))) := ⟨_, rfl⟩
  rw [← ea9]
  replace h := h a9 ea9
  refine lv_istore_n (lv' := [(3, .int a9), (2, .int a4), (0, .ref (ad 8)), (1, .int x1)]) hx hb dX2_catchHolds_19 rfl hl (by decide) rfl (fun ls hl => ?_)
  refine lv_aload_n hx hb dX2_catchHolds_20 rfl (lv_at hl 2 rfl) ?_
  refine lv_iload_n hx hb dX2_catchHolds_21 rfl (lv_at hl 1 rfl) ?_
  refine lv_i2l (v := (a4.toInt64)) hx hb dX2_catchHolds_22 rfl ?_
  obtain ⟨hv10, h⟩ := h
  have hFc := cfree hR hA
  refine va_calli (va_runV (As := [.long (a4.toInt64)]) (rest := []) ⟨hx, hb, hml, hown, hts⟩ (rX2_isInstruction l g ad H.size S (a4.toInt64) hR.w  hv10) (cwV 1 hts (gd_V kw_672 kw_720 kw_721 kw_389 kw_719) rfl rfl rfl (by decide +kernel) ⟨Nat.le_of_ble_eq_true rfl, Nat.le_of_ble_eq_true rfl⟩) ⟨cblind, va_recv hR.K hR.P (ci := 2) (q0 := 8) rfl (hR.at42 (hR.w.2.1 _ finC_26).2.1), fun U hU hW9 => cmk hU hW9 hR hex hE hFc⟩ rfl rfl hl.1 rfl (lv_room (Nat.le_of_ble_eq_true rfl)) dX2_catchHolds_23 ⟨Nat.le_of_ble_eq_true rfl, Nat.le_of_ble_eq_true rfl⟩) hR.sS (fun q _ h => hFc q h) hFc (fun r11 u9 t9 H1 locs ht9 hvm9 hw9 hB9 hz9 hk9 hS => ?_)
  have hR : RepC g ad A s S H1 locs := hR.call ht9 hB9 hR.w hS hFc
  obtain ⟨rfl, hz_r11⟩ := hw9
  clear hB9 hz9 hk9 hvm9 ht9 hS
  generalize H1 = H at hR ⊢
  obtain ⟨a13, ea13⟩ : ∃ z, z = (fX2_isInstruction S (a4.toInt64)) := ⟨_, rfl⟩
  rw [← ea13]
  replace h := h a13 ea13
  rw [← ea13] at hz_r11
  have J_84 : ∀ (U84 : MS) (H : Heap) (locs : List Loc) (ls : Array Slot), w_X2_catchHolds_J84 Q U84 → shy S U84 → RepC g ad A s U84 H locs → lv_has ls 4 [] → W p l e (headSpec (wt yX2_catchHolds cX2_catchHolds 4 (some .boolean)) ({ frames := 6, cells := 0, slots := 0, locals := 130 })).room s m ([.ref (ad 8), .int x1] : List Value).toArray below meth c H locs 0 0 (MQ below (va_Qi (fun (r : Int32) (u : MS) => Q r u ∧ wfC u ∧ shy S u ∧ (r = 0 ∨ r = 1)) (fun (u : MS) (t : State) => qEC g ad A u t) A) ([.ref (ad 8), .int x1] : List Value).toArray s 0 0 A) (F0 m 84 ls []) := by
    intro U84 H locs ls h hsh hR hl
    unfold w_X2_catchHolds_J84 at h
    replace h := h hR.w
    refine lv_iconst (v := 0) hx hb dX2_catchHolds_84 (by decide) ?_
    exact W.zret (v := 0) hx hb hr (nz (Or.inl rfl)) (fun t9 ht9 hW9 => ⟨⟨_, U84, rfl, ⟨h, hR.w, hsh, (Or.inl rfl)⟩, ⟨by rw [ht9]; exact hR.P, hR.D⟩⟩, hR.sS.F ht9⟩) hR.sS.2.2 dX2_catchHolds_85
  refine lv_if_eq (tgt := 84) hx hb dX2_catchHolds_26 (by decide) (fun c14 => ?_) (fun c14 => ?_)
  · replace h := h.1 (k_eq rfl (by decide) c14)
    exact J_84 S _ _ ls h  hsh hR (lv_sub hl [] rfl)
  · replace h := h.2 (k_ne rfl (by decide) c14)
    refine lv_aload_n hx hb dX2_catchHolds_29 rfl (lv_at hl 2 rfl) ?_
    refine lv_iload_n hx hb dX2_catchHolds_30 rfl (lv_at hl 0 rfl) ?_
    refine lv_i2l (v := (a9.toInt64)) hx hb dX2_catchHolds_31 rfl ?_
    obtain ⟨hv15, h⟩ := h
    have hFc := cfree hR hA
    refine va_calli (va_runV (As := [.long (a9.toInt64)]) (rest := []) ⟨hx, hb, hml, hown, hts⟩ (rX2_numberOf l g ad H.size S (a9.toInt64) hR.w  hv15) (cwV 1 hts (gd_V kw_625 kw_761 kw_762 kw_389 kw_760) rfl rfl rfl (by decide +kernel) ⟨Nat.le_of_ble_eq_true rfl, Nat.le_of_ble_eq_true rfl⟩) ⟨cblind, va_recv hR.K hR.P (ci := 2) (q0 := 8) rfl (hR.at42 (hR.w.2.1 _ finC_26).2.1), fun U hU hW9 => cmk hU hW9 hR hex hE hFc⟩ rfl rfl hl.1 rfl (lv_room (Nat.le_of_ble_eq_true rfl)) dX2_catchHolds_32 ⟨Nat.le_of_ble_eq_true rfl, Nat.le_of_ble_eq_true rfl⟩) hR.sS (fun q _ h => hFc q h) hFc (fun r16 u9 t9 H1 locs ht9 hvm9 hw9 hB9 hz9 hk9 hS => ?_)
    have hR : RepC g ad A s S H1 locs := hR.call ht9 hB9 hR.w hS hFc
    obtain rfl : r16 = (fX2_numberOf S (a9.toInt64)) := hw9
    clear hB9 hz9 hk9 hvm9 ht9 hS
    generalize H1 = H at hR ⊢
    obtain ⟨a18, ea18⟩ : ∃ z, z = (fX2_numberOf S (a9.toInt64)) := ⟨_, rfl⟩
    rw [← ea18]
    replace h := h a18 ea18
    refine lv_if_lt (tgt := 84) hx hb dX2_catchHolds_35 (by decide) (fun c19 => ?_) (fun c19 => ?_)
    · replace h := h.1 (k_lt rfl (by decide) c19)
      exact J_84 S _ _ ls h  hsh hR (lv_sub hl [] rfl)
    · replace h := h.2 (k_nlt rfl (by decide) c19)
      refine lv_iload_n hx hb dX2_catchHolds_38 rfl (lv_at hl 1 rfl) ?_
      refine lv_iload_n hx hb dX2_catchHolds_39 rfl (lv_at hl 0 rfl) ?_
      refine lv_icmp_ge (tgt := 84) hx hb dX2_catchHolds_40 (by decide) (fun c20 => ?_) (fun c20 => ?_)
      · replace h := h.1 (k_le rfl rfl c20)
        exact J_84 S _ _ ls h  hsh hR (lv_sub hl [] rfl)
      · replace h := h.2 (k_nle rfl rfl c20)
        refine lv_aload_n hx hb dX2_catchHolds_43 rfl (lv_at hl 2 rfl) ?_
        refine lv_aload_n hx hb dX2_catchHolds_44 rfl (lv_at hl 2 rfl) ?_
        refine va_get (D := rD g) (ci := 2) (v := .ref (ad 9)) (C := RX2) (T := TX2) (N := 12) hx hb hts inX2 hown hR.K hR.P 8 (hR.at42 (hR.w.2.1 _ finC_26).2.1) rfl 0 (by decide) (hts _ kw_632) (fun _ h9 => h9) (congrArg (fun z => some (vf ad z)) (hR.w.2.1 _ finC_2).1) dX2_catchHolds_45 ?_
        refine lv_iload_n hx hb dX2_catchHolds_48 rfl (lv_at hl 3 rfl) ?_
        refine lv_iconst (v := 4) hx hb dX2_catchHolds_49 (by decide) ?_
        refine lv_iadd hx hb dX2_catchHolds_50 ?_
        refine lv_topi (fun z21 ez21 => ?_)
        obtain rfl : z21 = (x1 + (4 : Int32)) := ez21
        obtain ⟨hv22, h⟩ := h
        have hFc := cfree hR hA
        refine va_calli (va_runV (As := [.int (x1 + (4 : Int32))]) (rest := [.ref (ad 8)]) ⟨hx, hb, hml, hown, hts⟩ (rX7_u2 l g ad H.size S (x1 + (4 : Int32)) hR.w  hv22) (cwV 1 hts (gd_V kw_651 kw_1450 kw_1451 kw_710 kw_1449) rfl rfl rfl (by decide +kernel) ⟨Nat.le_of_ble_eq_true rfl, Nat.le_of_ble_eq_true rfl⟩) ⟨cblind, va_recv hR.K hR.P (ci := 6) (q0 := 9) rfl (hR.at46 (hR.w.2.1 _ finC_2).2.1), fun U hU hW9 => cmk hU hW9 hR hex hE hFc⟩ rfl rfl hl.1 rfl (lv_room (Nat.le_of_ble_eq_true rfl)) dX2_catchHolds_51 ⟨Nat.le_of_ble_eq_true rfl, Nat.le_of_ble_eq_true rfl⟩) hR.sS (fun q _ h => hFc q h) hFc (fun r23 u9 t9 H1 locs ht9 hvm9 hw9 hB9 hz9 hk9 hS => ?_)
        have hR : RepC g ad A s S H1 locs := hR.call ht9 hB9 hR.w hS hFc
        obtain rfl : r23 = (fX7_u2 S (x1 + (4 : Int32))) := hw9
        clear hB9 hz9 hk9 hvm9 ht9 hS
        generalize H1 = H at hR ⊢
        obtain ⟨a25, ea25⟩ : ∃ z, z = (fX7_u2 S (x1 + (4 : Int32))) := ⟨_, rfl⟩
        rw [← ea25]
        replace h := h a25 ea25
        refine lv_i2l (v := (a25.toInt64)) hx hb dX2_catchHolds_54 rfl ?_
        obtain ⟨hv26, h⟩ := h
        have hFc := cfree hR hA
        refine va_calli (va_runV (As := [.long (a25.toInt64)]) (rest := []) ⟨hx, hb, hml, hown, hts⟩ (rX2_isInstruction l g ad H.size S (a25.toInt64) hR.w  hv26) (cwV 1 hts (gd_V kw_672 kw_720 kw_721 kw_389 kw_719) rfl rfl rfl (by decide +kernel) ⟨Nat.le_of_ble_eq_true rfl, Nat.le_of_ble_eq_true rfl⟩) ⟨cblind, va_recv hR.K hR.P (ci := 2) (q0 := 8) rfl (hR.at42 (hR.w.2.1 _ finC_26).2.1), fun U hU hW9 => cmk hU hW9 hR hex hE hFc⟩ rfl rfl hl.1 rfl (lv_room (Nat.le_of_ble_eq_true rfl)) dX2_catchHolds_55 ⟨Nat.le_of_ble_eq_true rfl, Nat.le_of_ble_eq_true rfl⟩) hR.sS (fun q _ h => hFc q h) hFc (fun r27 u9 t9 H1 locs ht9 hvm9 hw9 hB9 hz9 hk9 hS => ?_)
        have hR : RepC g ad A s S H1 locs := hR.call ht9 hB9 hR.w hS hFc
        obtain ⟨rfl, hz_r27⟩ := hw9
        clear hB9 hz9 hk9 hvm9 ht9 hS
        generalize H1 = H at hR ⊢
        obtain ⟨a29, ea29⟩ : ∃ z, z = (fX2_isInstruction S (a25.toInt64)) := ⟨_, rfl⟩
        rw [← ea29]
        replace h := h a29 ea29
        rw [← ea29] at hz_r27
        refine lv_if_eq (tgt := 84) hx hb dX2_catchHolds_58 (by decide) (fun c30 => ?_) (fun c30 => ?_)
        · replace h := h.1 (k_eq rfl (by decide) c30)
          exact J_84 S _ _ ls h  hsh hR (lv_sub hl [] rfl)
        · replace h := h.2 (k_ne rfl (by decide) c30)
          refine lv_aload_n hx hb dX2_catchHolds_61 rfl (lv_at hl 2 rfl) ?_
          refine lv_aload_n hx hb dX2_catchHolds_62 rfl (lv_at hl 2 rfl) ?_
          refine va_get (D := rD g) (ci := 2) (v := .ref (ad 9)) (C := RX2) (T := TX2) (N := 12) hx hb hts inX2 hown hR.K hR.P 8 (hR.at42 (hR.w.2.1 _ finC_26).2.1) rfl 0 (by decide) (hts _ kw_632) (fun _ h9 => h9) (congrArg (fun z => some (vf ad z)) (hR.w.2.1 _ finC_2).1) dX2_catchHolds_63 ?_
          refine lv_iload_n hx hb dX2_catchHolds_66 rfl (lv_at hl 3 rfl) ?_
          refine lv_bipush (v := 6) hx hb dX2_catchHolds_67 (by decide) ?_
          refine lv_iadd hx hb dX2_catchHolds_69 ?_
          refine lv_topi (fun z31 ez31 => ?_)
          obtain rfl : z31 = (x1 + (6 : Int32)) := ez31
          obtain ⟨hv32, h⟩ := h
          have hFc := cfree hR hA
          refine va_calli (va_runV (As := [.int (x1 + (6 : Int32))]) (rest := [.ref (ad 8)]) ⟨hx, hb, hml, hown, hts⟩ (rX7_u2 l g ad H.size S (x1 + (6 : Int32)) hR.w  hv32) (cwV 1 hts (gd_V kw_651 kw_1450 kw_1451 kw_710 kw_1449) rfl rfl rfl (by decide +kernel) ⟨Nat.le_of_ble_eq_true rfl, Nat.le_of_ble_eq_true rfl⟩) ⟨cblind, va_recv hR.K hR.P (ci := 6) (q0 := 9) rfl (hR.at46 (hR.w.2.1 _ finC_2).2.1), fun U hU hW9 => cmk hU hW9 hR hex hE hFc⟩ rfl rfl hl.1 rfl (lv_room (Nat.le_of_ble_eq_true rfl)) dX2_catchHolds_70 ⟨Nat.le_of_ble_eq_true rfl, Nat.le_of_ble_eq_true rfl⟩) hR.sS (fun q _ h => hFc q h) hFc (fun r33 u9 t9 H1 locs ht9 hvm9 hw9 hB9 hz9 hk9 hS => ?_)
          have hR : RepC g ad A s S H1 locs := hR.call ht9 hB9 hR.w hS hFc
          obtain rfl : r33 = (fX7_u2 S (x1 + (6 : Int32))) := hw9
          clear hB9 hz9 hk9 hvm9 ht9 hS
          generalize H1 = H at hR ⊢
          obtain ⟨a35, ea35⟩ : ∃ z, z = (fX7_u2 S (x1 + (6 : Int32))) := ⟨_, rfl⟩
          rw [← ea35]
          replace h := h a35 ea35
          obtain ⟨Q36, h0, h⟩ := h
          have hFc := cfree hR hA
          refine va_calli (va_runV (As := [.int a35]) (rest := []) ⟨hx, hb, hml, hown, hts⟩ (rX2_errorOf l g ad H.size S a35 hR.w  Q36 h0) (cwV 1 hts (gd_V kw_673 kw_695 kw_696 kw_389 kw_694) rfl rfl rfl (by decide +kernel) ⟨Nat.le_of_ble_eq_true rfl, Nat.le_of_ble_eq_true rfl⟩) ⟨cblind, va_recv hR.K hR.P (ci := 2) (q0 := 8) rfl (hR.at42 (hR.w.2.1 _ finC_26).2.1), fun U hU hW9 => cmk hU hW9 hR hex hE hFc⟩ rfl rfl hl.1 rfl (lv_room (Nat.le_of_ble_eq_true rfl)) dX2_catchHolds_73 ⟨Nat.le_of_ble_eq_true rfl, Nat.le_of_ble_eq_true rfl⟩) hR.sS (fun q _ h => hFc q h) hFc (fun r37 S38 t9 H1 locs ht9 hvm9 hw9 hB9 hz9 hk9 hS => ?_)
          obtain ⟨hq39, hw9, hs9⟩ := hw9
          have hR : RepC g ad A s S38 H1 locs := hR.call ht9 hB9 hw9 hS hFc
          have hsh := hsh.tr hs9
          replace h := h r37 S38 hq39 hw9 hs9
          clear hB9 hz9 hk9 hvm9 ht9 hw9 hs9 hS
          generalize H1 = H at hR ⊢
          refine lv_iconst (v := (-1)) hx hb dX2_catchHolds_76 (by decide) ?_
          refine lv_icmp_lt (tgt := 84) hx hb dX2_catchHolds_77 (by decide) (fun c40 => ?_) (fun c40 => ?_)
          · replace h := h.1 (k_lt rfl (by decide) c40)
            exact J_84 S38 _ _ ls h  hsh hR (lv_sub hl [] rfl)
          · replace h := h.2 (k_nlt rfl (by decide) c40)
            refine lv_iconst (v := 1) hx hb dX2_catchHolds_80 (by decide) ?_
            refine lv_goto (tgt := 85) hx hb dX2_catchHolds_81 (by decide) ?_
            exact W.zret (v := 1) hx hb hr (nz (Or.inr rfl)) (fun t9 ht9 hW9 => ⟨⟨_, S38, rfl, ⟨h, hR.w, hsh, (Or.inr rfl)⟩, ⟨by rw [ht9]; exact hR.P, hR.D⟩⟩, hR.sS.F ht9⟩) hR.sS.2.2 dX2_catchHolds_85
def w_X2_build_L200 (Q : Nat → MS → Prop) : Nat → MS → Nat → Int32 → Prop
  | 0, _, _, _ => False
  | n200 + 1, U200, v200_1, v200_2 => (wfC U200 → qT U200 v200_1 = 49 → ((qR U200 v200_1 13 = some (qO U200 v200_1 13)) ∧ (((qN U200 (qO U200 v200_1 13) : Int) ≤ v200_2.toInt → Q v200_1 U200) ∧ (¬ (qN U200 (qO U200 v200_1 13) : Int) ≤ v200_2.toInt → (∀ a55 : Int32, a55 = ((qI U200 9 7) + v200_2) → ((qR U200 v200_1 9 = some (qO U200 v200_1 9)) ∧ (d_X7_nameOf U200 a55 ∧ (∀ a61 : Int32, a61 = (fX7_nameOf U200 a55) → (d_X7_entryAt U200 a61 ∧ (∀ a65 : Int32, a65 = (fX7_entryAt U200 a61) → (((0 : Int) ≤ v200_2.toInt ∧ v200_2.toInt < (qN U200 (qO U200 v200_1 9) : Int)) ∧ (∀ S67, S67 = wI U200 (qO U200 v200_1 9) v200_2.toInt.toNat a65 → qT U200 (qO U200 v200_1 9) = 234 → wfC S67 → ((qR S67 v200_1 10 = some (qO S67 v200_1 10)) ∧ (d_X7_typeOf S67 a55 ∧ (∀ a73 : Int32, a73 = (fX7_typeOf S67 a55) → (d_X7_entryAt S67 a73 ∧ (∀ a77 : Int32, a77 = (fX7_entryAt S67 a73) → (((0 : Int) ≤ v200_2.toInt ∧ v200_2.toInt < (qN S67 (qO S67 v200_1 10) : Int)) ∧ (∀ S79, S79 = wI S67 (qO S67 v200_1 10) v200_2.toInt.toNat a77 → qT S67 (qO S67 v200_1 10) = 235 → wfC S79 → (d_X7_typeOf S79 a55 ∧ (∀ a83 : Int32, a83 = (fX7_typeOf S79 a55) → (∃ Q84, wX7_isMethodType S79 a83 Q84 ∧ ∀ r85 S86, Q84 r85 S86 → wfC S86 → shy S79 S86 → ((qR S86 v200_1 11 = some (qO S86 v200_1 11)) ∧ (((0 : Int) ≤ v200_2.toInt ∧ v200_2.toInt < (qN S86 (qO S86 v200_1 11) : Int)) ∧ (∀ S91, S91 = wI S86 (qO S86 v200_1 11) v200_2.toInt.toNat (qI S86 9 12) → qT S86 (qO S86 v200_1 11) = 236 → wfC S91 → ((qR S91 v200_1 12 = some (qO S91 v200_1 12)) ∧ (((0 : Int) ≤ v200_2.toInt ∧ v200_2.toInt < (qN S91 (qO S91 v200_1 12) : Int)) ∧ (∀ S95, S95 = wI S91 (qO S91 v200_1 12) v200_2.toInt.toNat (qI S91 9 14) → qT S91 (qO S91 v200_1 12) = 237 → wfC S95 → (∀ a96 : Int32, a96 = (v200_2 + Int32.ofInt 1) → (w_X2_build_L200 Q n200) S95 v200_1 a96)))))))))))))))))))))))))))))
def w_X2_build_L120 (Q : Nat → MS → Prop) : Nat → MS → Nat → Int32 → Prop
  | 0, _, _, _ => False
  | n120 + 1, U120, v120_1, v120_2 => (wfC U120 → qT U120 v120_1 = 49 → ((qR U120 v120_1 5 = some (qO U120 v120_1 5)) ∧ (((qN U120 (qO U120 v120_1 5) : Int) ≤ v120_2.toInt → (∃ n, w_X2_build_L200 Q n U120 v120_1 0)) ∧ (¬ (qN U120 (qO U120 v120_1 5) : Int) ≤ v120_2.toInt → ((qR U120 v120_1 5 = some (qO U120 v120_1 5)) ∧ (d_X7_nameOf U120 v120_2 ∧ (∀ a102 : Int32, a102 = (fX7_nameOf U120 v120_2) → (d_X7_entryAt U120 a102 ∧ (∀ a106 : Int32, a106 = (fX7_entryAt U120 a102) → (((0 : Int) ≤ v120_2.toInt ∧ v120_2.toInt < (qN U120 (qO U120 v120_1 5) : Int)) ∧ (∀ S108, S108 = wI U120 (qO U120 v120_1 5) v120_2.toInt.toNat a106 → qT U120 (qO U120 v120_1 5) = 231 → wfC S108 → ((qR S108 v120_1 6 = some (qO S108 v120_1 6)) ∧ (d_X7_typeOf S108 v120_2 ∧ (∀ a114 : Int32, a114 = (fX7_typeOf S108 v120_2) → (d_X7_entryAt S108 a114 ∧ (∀ a118 : Int32, a118 = (fX7_entryAt S108 a114) → (((0 : Int) ≤ v120_2.toInt ∧ v120_2.toInt < (qN S108 (qO S108 v120_1 6) : Int)) ∧ (∀ S120, S120 = wI S108 (qO S108 v120_1 6) v120_2.toInt.toNat a118 → qT S108 (qO S108 v120_1 6) = 232 → wfC S120 → ((qR S120 v120_1 7 = some (qO S120 v120_1 7)) ∧ (d_X7_typeOf S120 v120_2 ∧ (∀ a126 : Int32, a126 = (fX7_typeOf S120 v120_2) → (d_X7_kindOfType S120 a126 ∧ (∀ a130 : Int32, a130 = (fX7_kindOfType S120 a126) → (((0 : Int) ≤ v120_2.toInt ∧ v120_2.toInt < (qN S120 (qO S120 v120_1 7) : Int)) ∧ (∀ S132, S132 = wI S120 (qO S120 v120_1 7) v120_2.toInt.toNat a130 → qT S120 (qO S120 v120_1 7) = 233 → wfC S132 → (∀ a133 : Int32, a133 = (v120_2 + Int32.ofInt 1) → (w_X2_build_L120 Q n120) S132 v120_1 a133))))))))))))))))))))))))))
def wX2_build (S : MS) (Q : Nat → MS → Prop) : Prop := ((qn S + 1 ≤ KCC ∧ qu S + 18 ≤ KSC) ∧ (∀ S4, S4 = wN S 49 0 18 → wfC S4 → (qT S4 (qO S4 9 0) = 101 → (∃ Q7, wJ7_copyOf_9075b S4 105 (qO S4 9 0) (qI S4 9 1) Q7 ∧ ∀ b12 S9, Q7 b12 S9 → wfC S9 → shx S4 S9 → qT S9 b12 = 105 → (qT S9 (qn S) = 49 → qT S9 b12 = 105 → (∃ Q13, wX10_init S9 (qn S) b12 (qI S9 9 7) (qI S9 9 8) Q13 ∧ ∀ S14, Q13 S14 → wfC S14 → shx S9 S14 → (∀ S17, S17 = wI S14 (qn S) 1 (qI S14 9 5) → qT S14 (qn S) = 49 → wfC S17 → (d_X7_u2 S17 ((qI S17 9 6) + (2 : Int32)) ∧ (∀ a22 : Int32, a22 = (fX7_u2 S17 ((qI S17 9 6) + (2 : Int32))) → (d_X7_firstOf S17 a22 ∧ (∀ a26 : Int32, a26 = (fX7_firstOf S17 a22) → (d_X7_entryAt S17 a26 ∧ (∀ a30 : Int32, a30 = (fX7_entryAt S17 a26) → (∀ S31, S31 = wI S17 (qn S) 2 a30 → qT S17 (qn S) = 49 → wfC S31 → (d_X7_u2 S31 ((qI S31 9 6) + (4 : Int32)) ∧ (∀ a36 : Int32, a36 = (fX7_u2 S31 ((qI S31 9 6) + (4 : Int32))) → (d_X7_firstOf S31 a36 ∧ (∀ a40 : Int32, a40 = (fX7_firstOf S31 a36) → (d_X7_entryAt S31 a40 ∧ (∀ a44 : Int32, a44 = (fX7_entryAt S31 a40) → (∀ S45, S45 = wI S31 (qn S) 3 a44 → qT S31 (qn S) = 49 → wfC S45 → (∃ n, w_X2_build_L120 Q n S45 (qn S) 0))))))))))))))))))))))
set_option maxHeartbeats 2000000 in
set_option maxRecDepth 100000 in
theorem rX2_build (l : Launch) (g : Gr) (ad : Nat → Nat) (H0 : Heap) (S : MS) (hw : wfC S) (Q : Nat → MS → Prop) (h : wX2_build S Q) : Met l yX2_build (wt yX2_build cX2_build 4 (some (.object "CodeFoundry$Unit"))) ({ frames := 4, cells := KCC - qn S, slots := KSC - qu S, locals := 89 }) (va_Pc [.ref (ad 8)] (st_CH g ad H0 S)) (va_Qq (fun (r : Option Nat) (u : MS × (Nat → Nat)) => ∃ b : Nat, r = some (u.2 b) ∧ Q b u.1 ∧ wfC u.1 ∧ shx S u.1 ∧ adk ad u.2 S ∧ qT u.1 b = 49) (fun (u : MS × (Nat → Nat)) (t : State) => qEHC g (va_A (WdC g ad S) H0.size) S H0 u t) (va_A (WdC g ad S) H0.size)) (KCC - qn S) (KSC - qu S) (va_A (WdC g ad S) H0.size) := by
  refine Met.ofW (cc := cX2_build) (maxL := 4) (ret := (some (.object "CodeFoundry$Unit"))) (by decide) rfl ?_
  intro p e s m args below meth c s₁ B hml hv
  obtain ⟨rfl, hH0, hsz, hP, hK, hD0, hex, hE⟩ := hv
  have hx := B.exec
  have hb := B.bytes
  have hr := B.returns
  have hts0 := atoms_spec (ws := wt yX2_build cX2_build 4 (some (.object "CodeFoundry$Unit"))) B.pre
  have hts : ∀ w ∈ tb, w.before _ s = true := fun w h => hts0 w (List.mem_cons_of_mem _ h)
  have hown : s.vm.findClass RX2 = some m.cls := findClass_of_methodNamed B.named
  subst hH0
  have hD := hD0.self (sz := s.heap.size)
  generalize hAe : va_A (WdC g ad S) s.heap.size = A at hD hE ⊢
  have hA : ∀ q : Nat, s.heap.size ≤ q → A q := fun q h => by rw [← hAe]; exact Or.inr h
  have hR : RepC g ad A s S s.heap [] := ⟨hK, hP, hD, va_S.rf, hw⟩
  clear hK hP hD hD0
  have hl := lv_entry ([.ref (ad 8)]) (n := 4) (Nat.le_of_ble_eq_true rfl)
  rw [lg_entry_eq]
  generalize (lg_sl ([.ref (ad 8)]) ++ List.replicate (4 - (lg_sl ([.ref (ad 8)])).length) Slot.unset).toArray = ls at hl ⊢
  have hlg : lgC S S 0 0 := lgC.rf
  have hak : adk ad ad S := adk.rf
  have hl : lv_has ls 4 [(0, .ref (ad 8))] := hl
  have hsh : shx S S := shx.rf
  unfold wX2_build at h
  obtain ⟨hv1, h⟩ := h
  have e9 : KCC = 300000 := rfl
  have e8 : KSC = 3553400 := rfl
  have e7 : TXB = 10000000 := rfl
  have hTX : qn S < TXB := by have := hv1.1; omega
  refine va_new (ci := 9) (fs := dfX10) (C := RX10) (T := TX10) (N := 18) hx hb hts inX10 tyX10 tyX10_ok hown (hts _ kw_640) (hts _ kw_641) (hts _ kw_34) hR.K hR.P hR.D hR.sS hA rfl dfX10_ok (show 0 + 1 ≤ KCC - qn S from hlg.c1 hv1.1) (show 0 + 18 ≤ KSC - qu S from hlg.s1 hv1.2) dX2_build_0 (fun q2 H hP hD hS => ?_)
  have hw8 := hR.w
  have hR := hR.new (t := 49) (n := 0) (k := 18) hTX (by decide) (Nat.zero_le _) wN_C49 hP hD hS
  have hk8 : adk ad (adx ad (qn S) q2) S := adk.rf.new (Nat.le_refl _) hTX
  have hak := hak.new (q := q2) hlg.2.2.1 hTX
  have hE := hE.ad hk8
  have hlg : lgC S (wN S 49 0 18) (0 + 1) (0 + 18) := hlg.new (t := 49) (n := 0) ⟨hv1.1, hv1.2⟩
  have hs8 : shx S (wN S 49 0 18) := shx.newC (t := 49) (n := 0) (k := 18) shx.rf hw8 hTX
  obtain ⟨am3, eam3⟩ : ∃ z, z = adx ad (qn S) q2 := ⟨_, rfl⟩
  have eq_q2 : am3 (qn S) = q2 := by rw [eam3]; exact if_pos rfl
  rw [← eam3] at hR hk8 hak hE
  obtain ⟨S4, eS4⟩ : ∃ z, z = wN S 49 0 18 := ⟨_, rfl⟩
  rw [← eS4] at hR hlg hs8
  replace h := h S4 eS4 hR.w
  have hsh := hsh.tr hs8
  have hT_b5 : qT S4 (qn S) = 49 := by rw [eS4]; exact if_pos rfl
  have ea_0 : am3 8 = ad 8 := hk8 _ (hw8.hd (hw8.2.1 _ finC_26).2.1 (by decide) (by decide))
  have hl : lv_has ls 4 [(0, .ref (am3 8))] := by simp only [ea_0]; exact hl
  refine W.eq (g2 := F0 m 3 ls [.ref (am3 (qn S))]) (by simp only [ea_0, eq_q2]) ?_
  clear hw8 hk8 hs8 hP hD hS e9 e8 e7 hTX
  refine lv_dup hx hb dX2_build_3 rfl ?_
  refine lv_aload_n hx hb dX2_build_4 rfl (lv_at hl 0 rfl) ?_
  refine va_get (D := rD g) (ci := 2) (v := .ref (am3 9)) (C := RX2) (T := TX2) (N := 12) hx hb hts inX2 hown hR.K hR.P 8 (hR.at42 (hR.w.2.1 _ finC_26).2.1) rfl 0 (by decide) (hts _ kw_632) (fun _ h9 => h9) (congrArg (fun z => some (vf am3 z)) (hR.w.2.1 _ finC_2).1) dX2_build_5 ?_
  have hT_b6 : qT S4 (qO S4 9 0) = 101 := hR.w.ref (hR.w.ptr ptrC_3) (hR.w.2.1 _ finC_2).2.1
  refine va_get (D := rD g) (ci := 6) (v := .ref (am3 (qO S4 9 0))) (C := RX7) (T := TX7) (N := 17) hx hb hts inX7 hown hR.K hR.P 9 (hR.at46 (hR.w.2.1 _ finC_2).2.1) rfl 0 (by decide) (hts _ kw_642) (fun _ h9 => h9) (congrArg (fun z => some (vf am3 z)) (hR.w.ptr ptrC_3)) dX2_build_8 ?_
  refine lv_aload_n hx hb dX2_build_11 rfl (lv_at hl 0 rfl) ?_
  refine va_get (D := rD g) (ci := 2) (v := .ref (am3 9)) (C := RX2) (T := TX2) (N := 12) hx hb hts inX2 hown hR.K hR.P 8 (hR.at42 (hR.w.2.1 _ finC_26).2.1) rfl 0 (by decide) (hts _ kw_632) (fun _ h9 => h9) (congrArg (fun z => some (vf am3 z)) (hR.w.2.1 _ finC_2).1) dX2_build_12 ?_
  refine va_get (D := rD g) (ci := 6) (v := .int (qI S4 9 1)) (C := RX7) (T := TX7) (N := 17) hx hb hts inX7 hown hR.K hR.P 9 (hR.at46 (hR.w.2.1 _ finC_2).2.1) rfl 1 (by decide) (hts _ kw_643) (fun _ h9 => h9) rfl dX2_build_15 ?_
  replace h := h (hT_b6)
  obtain ⟨Q7, h0, h⟩ := h
  have hFc := cfree hR hA
  refine W_led2 (fun hL0 => ?_)
  refine va_callq (va_runS (As := [.ref (am3 (qO S4 9 0)), .int (qI S4 9 1)]) (rest := [.ref (am3 (qn S)), .ref (am3 (qn S))]) ⟨hx, hb, hml, hown, hts⟩ (rJ7_copyOf_9075b l g am3 H S4 105 (qO S4 9 0) (qI S4 9 1) hR.w (by decide) (by decide) hT_b6 Q7 h0) (va_cwS 2 hts (gd_S kw_644 kw_1741 kw_1723 kw_1740) rfl rfl rfl (by decide +kernel) ⟨Nat.le_of_ble_eq_true rfl, Nat.le_of_ble_eq_true rfl⟩) ⟨cblindH, fun U hU hW9 => cmkH hU hW9 hR hex hE hFc⟩ rfl rfl hl.1 rfl (lv_room (Nat.le_of_ble_eq_true rfl)) dX2_build_18 ⟨(show 0 + 1 + (KCC - qn S4) ≤ KCC - qn S from hlg.cm), (show 0 + 18 + (KSC - qu S4) ≤ KSC - qu S from hlg.sm)⟩) hR.sS (fun q _ h => hFc q h) hFc (fun r8 S9 t9 H1 locs ht9 hvm9 hw9 hB9 hz9 hk9 hS => ?_)
  rcases S9 with ⟨S9, ak11⟩
  obtain ⟨hB9, dc9, ds9, hL9, hl9⟩ := hB9
  dsimp only at hw9 hB9 hl9
  rw [ht9] at hL9
  obtain ⟨b12, rfl, hq10, hw9, hs9, hk8, hT_b12⟩ := hw9
  have hw8 := hR.w
  have hak := hak.tr hk8 hlg.2.2.1
  have hE := hE.ad hk8
  have hR : RepC g ak11 A s S9 H1 locs := hR.callH ht9 hB9 hw9 hS hFc
  have hsh := hsh.tr hs9
  refine W_tight2 (hL0.tr hL9).1 (hL0.tr hL9).2.1 ?_
  have hlg := hlg.call hl9
  replace h := h b12 S9 hq10 hw9 hs9 hT_b12
  have ea_0 : ak11 8 = am3 8 := hk8 _ (hw8.hd (hw8.2.1 _ finC_26).2.1 (by decide) (by decide))
  have ea_1 : ak11 (qn S) = am3 (qn S) := hk8 _ (hw8.hd hT_b5 (by decide) (by decide))
  have hl : lv_has ls 4 [(0, .ref (ak11 8))] := by simp only [ea_0, ea_1]; exact hl
  refine W.eq (g2 := F0 m 21 ls (.ref (ak11 b12) :: [.ref (ak11 (qn S)), .ref (ak11 (qn S))])) (by first | (simp only [ea_0, ea_1]; rfl) | simp only [ea_0, ea_1]) ?_
  have hT_b5 := hs9.T hT_b5 (by decide)
  clear hB9 hz9 hk9 hvm9 ht9 hw9 hs9 hS hL0 hL9
  generalize H1 = H at hR ⊢
  generalize dc9 = dc_ak11, ds9 = ds_ak11 at hlg ⊢
  refine lv_aload_n hx hb dX2_build_21 rfl (lv_at hl 0 rfl) ?_
  refine va_get (D := rD g) (ci := 2) (v := .ref (ak11 9)) (C := RX2) (T := TX2) (N := 12) hx hb hts inX2 hown hR.K hR.P 8 (hR.at42 (hR.w.2.1 _ finC_26).2.1) rfl 0 (by decide) (hts _ kw_632) (fun _ h9 => h9) (congrArg (fun z => some (vf ak11 z)) (hR.w.2.1 _ finC_2).1) dX2_build_22 ?_
  refine va_get (D := rD g) (ci := 6) (v := .int (qI S9 9 7)) (C := RX7) (T := TX7) (N := 17) hx hb hts inX7 hown hR.K hR.P 9 (hR.at46 (hR.w.2.1 _ finC_2).2.1) rfl 7 (by decide) (hts _ kw_645) (fun _ h9 => h9) rfl dX2_build_25 ?_
  refine lv_aload_n hx hb dX2_build_28 rfl (lv_at hl 0 rfl) ?_
  refine va_get (D := rD g) (ci := 2) (v := .ref (ak11 9)) (C := RX2) (T := TX2) (N := 12) hx hb hts inX2 hown hR.K hR.P 8 (hR.at42 (hR.w.2.1 _ finC_26).2.1) rfl 0 (by decide) (hts _ kw_632) (fun _ h9 => h9) (congrArg (fun z => some (vf ak11 z)) (hR.w.2.1 _ finC_2).1) dX2_build_29 ?_
  refine va_get (D := rD g) (ci := 6) (v := .int (qI S9 9 8)) (C := RX7) (T := TX7) (N := 17) hx hb hts inX7 hown hR.K hR.P 9 (hR.at46 (hR.w.2.1 _ finC_2).2.1) rfl 8 (by decide) (hts _ kw_646) (fun _ h9 => h9) rfl dX2_build_32 ?_
  replace h := h (hT_b5) (hT_b12)
  obtain ⟨Q13, h0, h⟩ := h
  have hFc := cfree hR hA
  refine W_led2 (fun hL0 => ?_)
  refine va_callv (va_runI (As := [.ref (ak11 b12), .int (qI S9 9 7), .int (qI S9 9 8)]) (rest := [.ref (ak11 (qn S))]) ⟨hx, hb, hml, hown, hts⟩ (rX10_init l g ak11 H S9 (qn S) b12 (qI S9 9 7) (qI S9 9 8) hR.w hT_b5 hT_b12 Q13 h0) (cwI 3 hts (gd_I kw_44) rfl rfl rfl (hts _ kw_34) (hts _ kw_647) (hts _ kw_45) rfl (by decide +kernel) ⟨Nat.le_of_ble_eq_true rfl, Nat.le_of_ble_eq_true rfl⟩) ⟨cblindH, fun U hU hW9 => cmkH hU hW9 hR hex hE hFc⟩ rfl rfl hl.1 rfl (lv_room (Nat.le_of_ble_eq_true rfl)) dX2_build_35 ⟨(show 0 + 1 + dc_ak11 + (KCC - qn S9) ≤ KCC - qn S from hlg.cm), (show 0 + 18 + ds_ak11 + (KSC - qu S9) ≤ KSC - qu S from hlg.sm)⟩) hR.sS (fun q _ h => hFc q h) hFc (fun  S14 t9 H1 locs ht9 hvm9 hw9 hB9 hz9 hk9 hS => ?_)
  rcases S14 with ⟨S14, ak16⟩
  obtain ⟨hB9, dc9, ds9, hL9, hl9⟩ := hB9
  dsimp only at hw9 hB9 hl9
  rw [ht9] at hL9
  obtain ⟨hq15, hw9, hs9, hk8⟩ := hw9
  have hw8 := hR.w
  have hak := hak.tr hk8 hlg.2.2.1
  have hE := hE.ad hk8
  have hR : RepC g ak16 A s S14 H1 locs := hR.callH ht9 hB9 hw9 hS hFc
  have hsh := hsh.tr hs9
  refine W_tight2 (hL0.tr hL9).1 (hL0.tr hL9).2.1 ?_
  have hlg := hlg.call hl9
  replace h := h  S14 hq15 hw9 hs9
  have ea_0 : ak16 8 = ak11 8 := hk8 _ (hw8.hd (hw8.2.1 _ finC_26).2.1 (by decide) (by decide))
  have ea_1 : ak16 (qn S) = ak11 (qn S) := hk8 _ (hw8.hd hT_b5 (by decide) (by decide))
  have hl : lv_has ls 4 [(0, .ref (ak16 8))] := by simp only [ea_0, ea_1]; exact hl
  refine W.eq (g2 := F0 m 38 ls ([.ref (ak16 (qn S))])) (by first | (simp only [ea_0, ea_1]; rfl) | simp only [ea_0, ea_1]) ?_
  have hT_b5 := hs9.T hT_b5 (by decide)
  clear hB9 hz9 hk9 hvm9 ht9 hw9 hs9 hS hL0 hL9
  generalize H1 = H at hR ⊢
  generalize dc9 = dc_ak16, ds9 = ds_ak16 at hlg ⊢
  refine lv_astore_n (lv' := [(1, .ref (ak16 (qn S))), (0, .ref (ak16 8))]) hx hb dX2_build_38 rfl hl (by decide) rfl (fun ls hl => ?_)
  refine lv_aload_n hx hb dX2_build_39 rfl (lv_at hl 0 rfl) ?_
  refine lv_aload_n hx hb dX2_build_40 rfl (lv_at hl 1 rfl) ?_
  refine va_get (D := rD g) (ci := 2) (v := .ref (ak16 9)) (C := RX2) (T := TX2) (N := 12) hx hb hts inX2 hown hR.K hR.P 8 (hR.at42 (hR.w.2.1 _ finC_26).2.1) rfl 0 (by decide) (hts _ kw_632) (fun _ h9 => h9) (congrArg (fun z => some (vf ak16 z)) (hR.w.2.1 _ finC_2).1) dX2_build_41 ?_
  refine va_get (D := rD g) (ci := 6) (v := .int (qI S14 9 5)) (C := RX7) (T := TX7) (N := 17) hx hb hts inX7 hown hR.K hR.P 9 (hR.at46 (hR.w.2.1 _ finC_2).2.1) rfl 5 (by decide) (hts _ kw_648) (fun _ h9 => h9) rfl dX2_build_44 ?_
  refine va_put (D := rD g) (ci := 9) (v := .int (qI S14 9 5)) (ty := .int) (C := RX10) (T := TX10) (N := 18) hx hb hts inX10 tyX10 tyX10_ok nmX10 hown hR.K hR.P hR.D hR.sS (qn S) (hR.at49 hT_b5) rfl 1 (by decide) (hts _ kw_649) (fun _ h9 => h9) rfl (by decide +kernel) rfl rfl (Nat.le_of_ble_eq_true rfl) dX2_build_47 (fun H locs hP hD hS => ?_)
  have hTk9 : qT S14 (qn S) = 49 := hT_b5
  have hR : RepC g ak16 A s (wI S14 (qn S) 1 (qI S14 9 5)) H locs := hR.pI49 hT_b5 FX10_s1 (fun q9 => absurd q9 (by decide)) hP hD hS
  obtain ⟨S17, eS17⟩ : ∃ z, z = wI S14 (qn S) 1 (qI S14 9 5) := ⟨_, rfl⟩
  rw [← eS17] at hR
  replace h := h S17 eS17 hTk9 hR.w
  have hT_b5 : qT S17 (qn S) = 49 := (congrArg (fun z => qT z (qn S)) eS17).trans hT_b5
  have hsh : shx S S17 := by rw [eS17]; exact hsh
  have hlg : lgC S S17 (0 + 1 + dc_ak11 + dc_ak16) (0 + 18 + ds_ak11 + ds_ak16) := by rw [eS17]; exact hlg
  refine lv_aload_n hx hb dX2_build_50 rfl (lv_at hl 0 rfl) ?_
  refine lv_aload_n hx hb dX2_build_51 rfl (lv_at hl 1 rfl) ?_
  refine va_get (D := rD g) (ci := 2) (v := .ref (ak16 9)) (C := RX2) (T := TX2) (N := 12) hx hb hts inX2 hown hR.K hR.P 8 (hR.at42 (hR.w.2.1 _ finC_26).2.1) rfl 0 (by decide) (hts _ kw_632) (fun _ h9 => h9) (congrArg (fun z => some (vf ak16 z)) (hR.w.2.1 _ finC_2).1) dX2_build_52 ?_
  refine lv_aload_n hx hb dX2_build_55 rfl (lv_at hl 1 rfl) ?_
  refine va_get (D := rD g) (ci := 2) (v := .ref (ak16 9)) (C := RX2) (T := TX2) (N := 12) hx hb hts inX2 hown hR.K hR.P 8 (hR.at42 (hR.w.2.1 _ finC_26).2.1) rfl 0 (by decide) (hts _ kw_632) (fun _ h9 => h9) (congrArg (fun z => some (vf ak16 z)) (hR.w.2.1 _ finC_2).1) dX2_build_56 ?_
  refine lv_aload_n hx hb dX2_build_59 rfl (lv_at hl 1 rfl) ?_
  refine va_get (D := rD g) (ci := 2) (v := .ref (ak16 9)) (C := RX2) (T := TX2) (N := 12) hx hb hts inX2 hown hR.K hR.P 8 (hR.at42 (hR.w.2.1 _ finC_26).2.1) rfl 0 (by decide) (hts _ kw_632) (fun _ h9 => h9) (congrArg (fun z => some (vf ak16 z)) (hR.w.2.1 _ finC_2).1) dX2_build_60 ?_
  refine lv_aload_n hx hb dX2_build_63 rfl (lv_at hl 1 rfl) ?_
  refine va_get (D := rD g) (ci := 2) (v := .ref (ak16 9)) (C := RX2) (T := TX2) (N := 12) hx hb hts inX2 hown hR.K hR.P 8 (hR.at42 (hR.w.2.1 _ finC_26).2.1) rfl 0 (by decide) (hts _ kw_632) (fun _ h9 => h9) (congrArg (fun z => some (vf ak16 z)) (hR.w.2.1 _ finC_2).1) dX2_build_64 ?_
  refine va_get (D := rD g) (ci := 6) (v := .int (qI S17 9 6)) (C := RX7) (T := TX7) (N := 17) hx hb hts inX7 hown hR.K hR.P 9 (hR.at46 (hR.w.2.1 _ finC_2).2.1) rfl 6 (by decide) (hts _ kw_650) (fun _ h9 => h9) rfl dX2_build_67 ?_
  refine lv_iconst (v := 2) hx hb dX2_build_70 (by decide) ?_
  refine lv_iadd hx hb dX2_build_71 ?_
  refine lv_topi (fun z18 ez18 => ?_)
  obtain rfl : z18 = ((qI S17 9 6) + (2 : Int32)) := ez18
  obtain ⟨hv19, h⟩ := h
  have hFc := cfree hR hA
  refine va_calli (va_runV (As := [.int ((qI S17 9 6) + (2 : Int32))]) (rest := [.ref (ak16 9), .ref (ak16 9), .ref (ak16 (qn S))]) ⟨hx, hb, hml, hown, hts⟩ (rX7_u2 l g ak16 H.size S17 ((qI S17 9 6) + (2 : Int32)) hR.w  hv19) (cwV 1 hts (gd_V kw_651 kw_1450 kw_1451 kw_710 kw_1449) rfl rfl rfl (by decide +kernel) ⟨Nat.le_of_ble_eq_true rfl, Nat.le_of_ble_eq_true rfl⟩) ⟨cblind, va_recv hR.K hR.P (ci := 6) (q0 := 9) rfl (hR.at46 (hR.w.2.1 _ finC_2).2.1), fun U hU hW9 => cmk hU hW9 hR hex hE hFc⟩ rfl rfl hl.1 rfl (lv_room (Nat.le_of_ble_eq_true rfl)) dX2_build_72 ⟨(show 0 + 1 + dc_ak11 + dc_ak16 + 0 ≤ KCC - qn S from hlg.c), (show 0 + 18 + ds_ak11 + ds_ak16 + 0 ≤ KSC - qu S from hlg.s)⟩) hR.sS (fun q _ h => hFc q h) hFc (fun r20 u9 t9 H1 locs ht9 hvm9 hw9 hB9 hz9 hk9 hS => ?_)
  have hR : RepC g ak16 A s S17 H1 locs := hR.call ht9 hB9 hR.w hS hFc
  obtain rfl : r20 = (fX7_u2 S17 ((qI S17 9 6) + (2 : Int32))) := hw9
  clear hB9 hz9 hk9 hvm9 ht9 hS
  generalize H1 = H at hR ⊢
  obtain ⟨a22, ea22⟩ : ∃ z, z = (fX7_u2 S17 ((qI S17 9 6) + (2 : Int32))) := ⟨_, rfl⟩
  rw [← ea22]
  replace h := h a22 ea22
  obtain ⟨hv23, h⟩ := h
  have hFc := cfree hR hA
  refine va_calli (va_runV (As := [.int a22]) (rest := [.ref (ak16 9), .ref (ak16 (qn S))]) ⟨hx, hb, hml, hown, hts⟩ (rX7_firstOf l g ak16 H.size S17 a22 hR.w  hv23) (cwV 1 hts (gd_V kw_652 kw_1326 kw_1327 kw_710 kw_1325) rfl rfl rfl (by decide +kernel) ⟨Nat.le_of_ble_eq_true rfl, Nat.le_of_ble_eq_true rfl⟩) ⟨cblind, va_recv hR.K hR.P (ci := 6) (q0 := 9) rfl (hR.at46 (hR.w.2.1 _ finC_2).2.1), fun U hU hW9 => cmk hU hW9 hR hex hE hFc⟩ rfl rfl hl.1 rfl (lv_room (Nat.le_of_ble_eq_true rfl)) dX2_build_75 ⟨(show 0 + 1 + dc_ak11 + dc_ak16 + 0 ≤ KCC - qn S from hlg.c), (show 0 + 18 + ds_ak11 + ds_ak16 + 0 ≤ KSC - qu S from hlg.s)⟩) hR.sS (fun q _ h => hFc q h) hFc (fun r24 u9 t9 H1 locs ht9 hvm9 hw9 hB9 hz9 hk9 hS => ?_)
  have hR : RepC g ak16 A s S17 H1 locs := hR.call ht9 hB9 hR.w hS hFc
  obtain rfl : r24 = (fX7_firstOf S17 a22) := hw9
  clear hB9 hz9 hk9 hvm9 ht9 hS
  generalize H1 = H at hR ⊢
  obtain ⟨a26, ea26⟩ : ∃ z, z = (fX7_firstOf S17 a22) := ⟨_, rfl⟩
  rw [← ea26]
  replace h := h a26 ea26
  obtain ⟨hv27, h⟩ := h
  have hFc := cfree hR hA
  refine va_calli (va_runV (As := [.int a26]) (rest := [.ref (ak16 (qn S))]) ⟨hx, hb, hml, hown, hts⟩ (rX7_entryAt l g ak16 H.size S17 a26 hR.w  hv27) (cwV 1 hts (gd_V kw_633 kw_1298 kw_1299 kw_710 kw_1297) rfl rfl rfl (by decide +kernel) ⟨Nat.le_of_ble_eq_true rfl, Nat.le_of_ble_eq_true rfl⟩) ⟨cblind, va_recv hR.K hR.P (ci := 6) (q0 := 9) rfl (hR.at46 (hR.w.2.1 _ finC_2).2.1), fun U hU hW9 => cmk hU hW9 hR hex hE hFc⟩ rfl rfl hl.1 rfl (lv_room (Nat.le_of_ble_eq_true rfl)) dX2_build_78 ⟨(show 0 + 1 + dc_ak11 + dc_ak16 + 0 ≤ KCC - qn S from hlg.c), (show 0 + 18 + ds_ak11 + ds_ak16 + 0 ≤ KSC - qu S from hlg.s)⟩) hR.sS (fun q _ h => hFc q h) hFc (fun r28 u9 t9 H1 locs ht9 hvm9 hw9 hB9 hz9 hk9 hS => ?_)
  have hR : RepC g ak16 A s S17 H1 locs := hR.call ht9 hB9 hR.w hS hFc
  obtain rfl : r28 = (fX7_entryAt S17 a26) := hw9
  clear hB9 hz9 hk9 hvm9 ht9 hS
  generalize H1 = H at hR ⊢
  obtain ⟨a30, ea30⟩ : ∃ z, z = (fX7_entryAt S17 a26) := ⟨_, rfl⟩
  rw [← ea30]
  replace h := h a30 ea30
  refine va_put (D := rD g) (ci := 9) (v := .int a30) (ty := .int) (C := RX10) (T := TX10) (N := 18) hx hb hts inX10 tyX10 tyX10_ok nmX10 hown hR.K hR.P hR.D hR.sS (qn S) (hR.at49 hT_b5) rfl 2 (by decide) (hts _ kw_653) (fun _ h9 => h9) rfl (by decide +kernel) rfl rfl (Nat.le_of_ble_eq_true rfl) dX2_build_81 (fun H locs hP hD hS => ?_)
  have hTk9 : qT S17 (qn S) = 49 := hT_b5
  have hR : RepC g ak16 A s (wI S17 (qn S) 2 a30) H locs := hR.pI49 hT_b5 FX10_s2 (fun q9 => absurd q9 (by decide)) hP hD hS
  obtain ⟨S31, eS31⟩ : ∃ z, z = wI S17 (qn S) 2 a30 := ⟨_, rfl⟩
  rw [← eS31] at hR
  replace h := h S31 eS31 hTk9 hR.w
  have hT_b5 : qT S31 (qn S) = 49 := (congrArg (fun z => qT z (qn S)) eS31).trans hT_b5
  have hsh : shx S S31 := by rw [eS31]; exact hsh
  have hlg : lgC S S31 (0 + 1 + dc_ak11 + dc_ak16) (0 + 18 + ds_ak11 + ds_ak16) := by rw [eS31]; exact hlg
  refine lv_aload_n hx hb dX2_build_84 rfl (lv_at hl 0 rfl) ?_
  refine lv_aload_n hx hb dX2_build_85 rfl (lv_at hl 1 rfl) ?_
  refine va_get (D := rD g) (ci := 2) (v := .ref (ak16 9)) (C := RX2) (T := TX2) (N := 12) hx hb hts inX2 hown hR.K hR.P 8 (hR.at42 (hR.w.2.1 _ finC_26).2.1) rfl 0 (by decide) (hts _ kw_632) (fun _ h9 => h9) (congrArg (fun z => some (vf ak16 z)) (hR.w.2.1 _ finC_2).1) dX2_build_86 ?_
  refine lv_aload_n hx hb dX2_build_89 rfl (lv_at hl 1 rfl) ?_
  refine va_get (D := rD g) (ci := 2) (v := .ref (ak16 9)) (C := RX2) (T := TX2) (N := 12) hx hb hts inX2 hown hR.K hR.P 8 (hR.at42 (hR.w.2.1 _ finC_26).2.1) rfl 0 (by decide) (hts _ kw_632) (fun _ h9 => h9) (congrArg (fun z => some (vf ak16 z)) (hR.w.2.1 _ finC_2).1) dX2_build_90 ?_
  refine lv_aload_n hx hb dX2_build_93 rfl (lv_at hl 1 rfl) ?_
  refine va_get (D := rD g) (ci := 2) (v := .ref (ak16 9)) (C := RX2) (T := TX2) (N := 12) hx hb hts inX2 hown hR.K hR.P 8 (hR.at42 (hR.w.2.1 _ finC_26).2.1) rfl 0 (by decide) (hts _ kw_632) (fun _ h9 => h9) (congrArg (fun z => some (vf ak16 z)) (hR.w.2.1 _ finC_2).1) dX2_build_94 ?_
  refine lv_aload_n hx hb dX2_build_97 rfl (lv_at hl 1 rfl) ?_
  refine va_get (D := rD g) (ci := 2) (v := .ref (ak16 9)) (C := RX2) (T := TX2) (N := 12) hx hb hts inX2 hown hR.K hR.P 8 (hR.at42 (hR.w.2.1 _ finC_26).2.1) rfl 0 (by decide) (hts _ kw_632) (fun _ h9 => h9) (congrArg (fun z => some (vf ak16 z)) (hR.w.2.1 _ finC_2).1) dX2_build_98 ?_
  refine va_get (D := rD g) (ci := 6) (v := .int (qI S31 9 6)) (C := RX7) (T := TX7) (N := 17) hx hb hts inX7 hown hR.K hR.P 9 (hR.at46 (hR.w.2.1 _ finC_2).2.1) rfl 6 (by decide) (hts _ kw_650) (fun _ h9 => h9) rfl dX2_build_101 ?_
  refine lv_iconst (v := 4) hx hb dX2_build_104 (by decide) ?_
  refine lv_iadd hx hb dX2_build_105 ?_
  refine lv_topi (fun z32 ez32 => ?_)
  obtain rfl : z32 = ((qI S31 9 6) + (4 : Int32)) := ez32
  obtain ⟨hv33, h⟩ := h
  have hFc := cfree hR hA
  refine va_calli (va_runV (As := [.int ((qI S31 9 6) + (4 : Int32))]) (rest := [.ref (ak16 9), .ref (ak16 9), .ref (ak16 (qn S))]) ⟨hx, hb, hml, hown, hts⟩ (rX7_u2 l g ak16 H.size S31 ((qI S31 9 6) + (4 : Int32)) hR.w  hv33) (cwV 1 hts (gd_V kw_651 kw_1450 kw_1451 kw_710 kw_1449) rfl rfl rfl (by decide +kernel) ⟨Nat.le_of_ble_eq_true rfl, Nat.le_of_ble_eq_true rfl⟩) ⟨cblind, va_recv hR.K hR.P (ci := 6) (q0 := 9) rfl (hR.at46 (hR.w.2.1 _ finC_2).2.1), fun U hU hW9 => cmk hU hW9 hR hex hE hFc⟩ rfl rfl hl.1 rfl (lv_room (Nat.le_of_ble_eq_true rfl)) dX2_build_106 ⟨(show 0 + 1 + dc_ak11 + dc_ak16 + 0 ≤ KCC - qn S from hlg.c), (show 0 + 18 + ds_ak11 + ds_ak16 + 0 ≤ KSC - qu S from hlg.s)⟩) hR.sS (fun q _ h => hFc q h) hFc (fun r34 u9 t9 H1 locs ht9 hvm9 hw9 hB9 hz9 hk9 hS => ?_)
  have hR : RepC g ak16 A s S31 H1 locs := hR.call ht9 hB9 hR.w hS hFc
  obtain rfl : r34 = (fX7_u2 S31 ((qI S31 9 6) + (4 : Int32))) := hw9
  clear hB9 hz9 hk9 hvm9 ht9 hS
  generalize H1 = H at hR ⊢
  obtain ⟨a36, ea36⟩ : ∃ z, z = (fX7_u2 S31 ((qI S31 9 6) + (4 : Int32))) := ⟨_, rfl⟩
  rw [← ea36]
  replace h := h a36 ea36
  obtain ⟨hv37, h⟩ := h
  have hFc := cfree hR hA
  refine va_calli (va_runV (As := [.int a36]) (rest := [.ref (ak16 9), .ref (ak16 (qn S))]) ⟨hx, hb, hml, hown, hts⟩ (rX7_firstOf l g ak16 H.size S31 a36 hR.w  hv37) (cwV 1 hts (gd_V kw_652 kw_1326 kw_1327 kw_710 kw_1325) rfl rfl rfl (by decide +kernel) ⟨Nat.le_of_ble_eq_true rfl, Nat.le_of_ble_eq_true rfl⟩) ⟨cblind, va_recv hR.K hR.P (ci := 6) (q0 := 9) rfl (hR.at46 (hR.w.2.1 _ finC_2).2.1), fun U hU hW9 => cmk hU hW9 hR hex hE hFc⟩ rfl rfl hl.1 rfl (lv_room (Nat.le_of_ble_eq_true rfl)) dX2_build_109 ⟨(show 0 + 1 + dc_ak11 + dc_ak16 + 0 ≤ KCC - qn S from hlg.c), (show 0 + 18 + ds_ak11 + ds_ak16 + 0 ≤ KSC - qu S from hlg.s)⟩) hR.sS (fun q _ h => hFc q h) hFc (fun r38 u9 t9 H1 locs ht9 hvm9 hw9 hB9 hz9 hk9 hS => ?_)
  have hR : RepC g ak16 A s S31 H1 locs := hR.call ht9 hB9 hR.w hS hFc
  obtain rfl : r38 = (fX7_firstOf S31 a36) := hw9
  clear hB9 hz9 hk9 hvm9 ht9 hS
  generalize H1 = H at hR ⊢
  obtain ⟨a40, ea40⟩ : ∃ z, z = (fX7_firstOf S31 a36) := ⟨_, rfl⟩
  rw [← ea40]
  replace h := h a40 ea40
  obtain ⟨hv41, h⟩ := h
  have hFc := cfree hR hA
  refine va_calli (va_runV (As := [.int a40]) (rest := [.ref (ak16 (qn S))]) ⟨hx, hb, hml, hown, hts⟩ (rX7_entryAt l g ak16 H.size S31 a40 hR.w  hv41) (cwV 1 hts (gd_V kw_633 kw_1298 kw_1299 kw_710 kw_1297) rfl rfl rfl (by decide +kernel) ⟨Nat.le_of_ble_eq_true rfl, Nat.le_of_ble_eq_true rfl⟩) ⟨cblind, va_recv hR.K hR.P (ci := 6) (q0 := 9) rfl (hR.at46 (hR.w.2.1 _ finC_2).2.1), fun U hU hW9 => cmk hU hW9 hR hex hE hFc⟩ rfl rfl hl.1 rfl (lv_room (Nat.le_of_ble_eq_true rfl)) dX2_build_112 ⟨(show 0 + 1 + dc_ak11 + dc_ak16 + 0 ≤ KCC - qn S from hlg.c), (show 0 + 18 + ds_ak11 + ds_ak16 + 0 ≤ KSC - qu S from hlg.s)⟩) hR.sS (fun q _ h => hFc q h) hFc (fun r42 u9 t9 H1 locs ht9 hvm9 hw9 hB9 hz9 hk9 hS => ?_)
  have hR : RepC g ak16 A s S31 H1 locs := hR.call ht9 hB9 hR.w hS hFc
  obtain rfl : r42 = (fX7_entryAt S31 a40) := hw9
  clear hB9 hz9 hk9 hvm9 ht9 hS
  generalize H1 = H at hR ⊢
  obtain ⟨a44, ea44⟩ : ∃ z, z = (fX7_entryAt S31 a40) := ⟨_, rfl⟩
  rw [← ea44]
  replace h := h a44 ea44
  refine va_put (D := rD g) (ci := 9) (v := .int a44) (ty := .int) (C := RX10) (T := TX10) (N := 18) hx hb hts inX10 tyX10 tyX10_ok nmX10 hown hR.K hR.P hR.D hR.sS (qn S) (hR.at49 hT_b5) rfl 3 (by decide) (hts _ kw_654) (fun _ h9 => h9) rfl (by decide +kernel) rfl rfl (Nat.le_of_ble_eq_true rfl) dX2_build_115 (fun H locs hP hD hS => ?_)
  have hTk9 : qT S31 (qn S) = 49 := hT_b5
  have hR : RepC g ak16 A s (wI S31 (qn S) 3 a44) H locs := hR.pI49 hT_b5 FX10_s3 (fun q9 => absurd q9 (by decide)) hP hD hS
  obtain ⟨S45, eS45⟩ : ∃ z, z = wI S31 (qn S) 3 a44 := ⟨_, rfl⟩
  rw [← eS45] at hR
  replace h := h S45 eS45 hTk9 hR.w
  have hT_b5 : qT S45 (qn S) = 49 := (congrArg (fun z => qT z (qn S)) eS45).trans hT_b5
  have hsh : shx S S45 := by rw [eS45]; exact hsh
  have hlg : lgC S S45 (0 + 1 + dc_ak11 + dc_ak16) (0 + 18 + ds_ak11 + ds_ak16) := by rw [eS45]; exact hlg
  refine lv_iconst (v := 0) hx hb dX2_build_118 (by decide) ?_
  refine lv_istore_n (lv' := [(2, .int 0), (1, .ref (ak16 (qn S))), (0, .ref (ak16 8))]) hx hb dX2_build_119 rfl hl (by decide) rfl (fun ls hl => ?_)
  have J_120 : ∀ (n120 : Nat) (ad120 : Nat → Nat) (dc120 ds120 : Nat) (U120 : MS) (v120_1 : Nat) (v120_2 : Int32) (H : Heap) (locs : List Loc) (ls : Array Slot), w_X2_build_L120 Q n120 U120 v120_1 v120_2 → qT U120 v120_1 = 49 → shx S U120 → lgC S U120 dc120 ds120 → adk ad ad120 S → ogC ad120 A s s.heap → RepC g ad120 A s U120 H locs → lv_has ls 4 [(0, .ref (ad120 8)), (1, .ref (ad120 v120_1)), (2, .int v120_2)] → W p l e (headSpec (wt yX2_build cX2_build 4 (some (.object "CodeFoundry$Unit"))) ({ frames := 4, cells := KCC - qn S, slots := KSC - qu S, locals := 89 })).room s m ([.ref (ad 8)] : List Value).toArray below meth c H locs dc120 ds120 (MQ below (va_Qq (fun (r : Option Nat) (u : MS × (Nat → Nat)) => ∃ b : Nat, r = some (u.2 b) ∧ Q b u.1 ∧ wfC u.1 ∧ shx S u.1 ∧ adk ad u.2 S ∧ qT u.1 b = 49) (fun (u : MS × (Nat → Nat)) (t : State) => qEHC g A S s.heap u t) A) ([.ref (ad 8)] : List Value).toArray s (KCC - qn S) (KSC - qu S) A) (F0 m 120 ls []) := by
    intro n120
    induction n120 with
    | zero => intro ad120 dc120 ds120 U120 v120_1 v120_2 H locs ls h hT_v120_1 hsh hlg hak hE hR hl; unfold w_X2_build_L120 at h; exact h.elim
    | succ n120 ih_120 =>
      intro ad120 dc120 ds120 U120 v120_1 v120_2 H locs ls h hT_v120_1 hsh hlg hak hE hR hl
      unfold w_X2_build_L120 at h
      replace h := h hR.w hT_v120_1
      refine lv_iload_n hx hb dX2_build_120 rfl (lv_at hl 2 rfl) ?_
      refine lv_aload_n hx hb dX2_build_121 rfl (lv_at hl 1 rfl) ?_
      obtain ⟨hv47, h⟩ := h
      have hT_b46 : qT U120 (qO U120 v120_1 5) = 231 := hR.w.ref hv47 hT_v120_1
      refine va_get (D := rD g) (ci := 9) (v := .ref (ad120 (qO U120 v120_1 5))) (C := RX10) (T := TX10) (N := 18) hx hb hts inX10 hown hR.K hR.P v120_1 (hR.at49 hT_v120_1) rfl 5 (by decide) (hts _ kw_655) (fun _ h9 => h9) (congrArg (fun z => some (vf ad120 z)) hv47) dX2_build_122 ?_
      refine va_alen (v := (Int32.ofNat (qN U120 (qO U120 v120_1 5)))) hx hb hR.K hR.P (qO U120 v120_1 5) 1 (hR.atI hT_b46 (by decide)) rfl rfl dX2_build_125 ?_
      have hln48 : (Int32.ofNat (qN U120 (qO U120 v120_1 5))).toInt = (qN U120 (qO U120 v120_1 5) : Int) := toI_len (hR.w.len9 (hT_b46) (by decide))
      refine lv_icmp_ge (tgt := 198) hx hb dX2_build_126 (by decide) (fun c49 => ?_) (fun c49 => ?_)
      · replace h := h.1 (k_le hln48 rfl c49)
        refine lv_iconst (v := 0) hx hb dX2_build_198 (by decide) ?_
        refine lv_istore_n (lv' := [(2, .int 0), (0, .ref (ad120 8)), (1, .ref (ad120 v120_1))]) hx hb dX2_build_199 rfl hl (by decide) rfl (fun ls hl => ?_)
        have J_200 : ∀ (n200 : Nat) (ad200 : Nat → Nat) (dc200 ds200 : Nat) (U200 : MS) (v200_1 : Nat) (v200_2 : Int32) (H : Heap) (locs : List Loc) (ls : Array Slot), w_X2_build_L200 Q n200 U200 v200_1 v200_2 → qT U200 v200_1 = 49 → shx S U200 → lgC S U200 dc200 ds200 → adk ad ad200 S → ogC ad200 A s s.heap → RepC g ad200 A s U200 H locs → lv_has ls 4 [(0, .ref (ad200 8)), (1, .ref (ad200 v200_1)), (2, .int v200_2)] → W p l e (headSpec (wt yX2_build cX2_build 4 (some (.object "CodeFoundry$Unit"))) ({ frames := 4, cells := KCC - qn S, slots := KSC - qu S, locals := 89 })).room s m ([.ref (ad 8)] : List Value).toArray below meth c H locs dc200 ds200 (MQ below (va_Qq (fun (r : Option Nat) (u : MS × (Nat → Nat)) => ∃ b : Nat, r = some (u.2 b) ∧ Q b u.1 ∧ wfC u.1 ∧ shx S u.1 ∧ adk ad u.2 S ∧ qT u.1 b = 49) (fun (u : MS × (Nat → Nat)) (t : State) => qEHC g A S s.heap u t) A) ([.ref (ad 8)] : List Value).toArray s (KCC - qn S) (KSC - qu S) A) (F0 m 200 ls []) := by
          intro n200
          induction n200 with
          | zero => intro ad200 dc200 ds200 U200 v200_1 v200_2 H locs ls h hT_v200_1 hsh hlg hak hE hR hl; unfold w_X2_build_L200 at h; exact h.elim
          | succ n200 ih_200 =>
            intro ad200 dc200 ds200 U200 v200_1 v200_2 H locs ls h hT_v200_1 hsh hlg hak hE hR hl
            unfold w_X2_build_L200 at h
            replace h := h hR.w hT_v200_1
            refine lv_iload_n hx hb dX2_build_200 rfl (lv_at hl 2 rfl) ?_
            refine lv_aload_n hx hb dX2_build_201 rfl (lv_at hl 1 rfl) ?_
            obtain ⟨hv51, h⟩ := h
            have hT_b50 : qT U200 (qO U200 v200_1 13) = 6 := hR.w.ref hv51 hT_v200_1
            refine va_get (D := rD g) (ci := 9) (v := .ref (ad200 (qO U200 v200_1 13))) (C := RX10) (T := TX10) (N := 18) hx hb hts inX10 hown hR.K hR.P v200_1 (hR.at49 hT_v200_1) rfl 13 (by decide) (hts _ kw_661) (fun _ h9 => h9) (congrArg (fun z => some (vf ad200 z)) hv51) dX2_build_202 ?_
            refine va_alen (v := (Int32.ofNat (qN U200 (qO U200 v200_1 13)))) hx hb hR.K hR.P (qO U200 v200_1 13) 5 (hR.at6 hT_b50) rfl rfl dX2_build_205 ?_
            have hln52 : (Int32.ofNat (qN U200 (qO U200 v200_1 13))).toInt = (qN U200 (qO U200 v200_1 13) : Int) := toI_len (hR.w.len9 (hT_b50) (by decide))
            refine lv_icmp_ge (tgt := 309) hx hb dX2_build_206 (by decide) (fun c53 => ?_) (fun c53 => ?_)
            · replace h := h.1 (k_le hln52 rfl c53)
              refine lv_aload_n hx hb dX2_build_309 rfl (lv_at hl 1 rfl) ?_
              refine W_led2 (fun hLd => ?_)
              refine W.widen (k := KCC - qn S) (n := KSC - qu S) hlg.c hlg.s ?_
              exact W.aret (v := .ref (ad200 v200_1)) hx hb hr (Or.inl ⟨_, rfl⟩) (Or.inr ⟨_, rfl⟩) (fun t9 ht9 hW9 => ⟨⟨some (ad200 v200_1), (U200, ad200), rfl, ⟨v200_1, rfl, h, hR.w, hsh, hak, hT_v200_1⟩, ⟨⟨by rw [ht9]; exact hR.P, hR.D⟩, _, _, by rw [ht9]; exact hLd, hlg⟩⟩, hR.sS.F ht9⟩) hR.sS.2.2 dX2_build_310
            · replace h := h.2 (k_nle hln52 rfl c53)
              refine lv_aload_n hx hb dX2_build_209 rfl (lv_at hl 0 rfl) ?_
              refine va_get (D := rD g) (ci := 2) (v := .ref (ad200 9)) (C := RX2) (T := TX2) (N := 12) hx hb hts inX2 hown hR.K hR.P 8 (hR.at42 (hR.w.2.1 _ finC_26).2.1) rfl 0 (by decide) (hts _ kw_632) (fun _ h9 => h9) (congrArg (fun z => some (vf ad200 z)) (hR.w.2.1 _ finC_2).1) dX2_build_210 ?_
              refine va_get (D := rD g) (ci := 6) (v := .int (qI U200 9 7)) (C := RX7) (T := TX7) (N := 17) hx hb hts inX7 hown hR.K hR.P 9 (hR.at46 (hR.w.2.1 _ finC_2).2.1) rfl 7 (by decide) (hts _ kw_645) (fun _ h9 => h9) rfl dX2_build_213 ?_
              refine lv_iload_n hx hb dX2_build_216 rfl (lv_at hl 2 rfl) ?_
              refine lv_iadd hx hb dX2_build_217 ?_
              refine lv_topi (fun z54 ez54 => ?_)
              obtain rfl : z54 = ((qI U200 9 7) + v200_2) := ez54
              obtain ⟨a55, ea55⟩ : ∃ z, z = ((qI U200 9 7) + v200_2) := ⟨_, rfl⟩
              rw [← ea55]
              replace h := h a55 ea55
              refine lv_istore_n (lv' := [(3, .int a55), (0, .ref (ad200 8)), (1, .ref (ad200 v200_1)), (2, .int v200_2)]) hx hb dX2_build_218 rfl hl (by decide) rfl (fun ls hl => ?_)
              refine lv_aload_n hx hb dX2_build_219 rfl (lv_at hl 2 rfl) ?_
              obtain ⟨hv57, h⟩ := h
              have hT_b56 : qT U200 (qO U200 v200_1 9) = 234 := hR.w.ref hv57 hT_v200_1
              refine va_get (D := rD g) (ci := 9) (v := .ref (ad200 (qO U200 v200_1 9))) (C := RX10) (T := TX10) (N := 18) hx hb hts inX10 hown hR.K hR.P v200_1 (hR.at49 hT_v200_1) rfl 9 (by decide) (hts _ kw_662) (fun _ h9 => h9) (congrArg (fun z => some (vf ad200 z)) hv57) dX2_build_220 ?_
              refine lv_iload_n hx hb dX2_build_223 rfl (lv_at hl 3 rfl) ?_
              refine lv_aload_n hx hb dX2_build_224 rfl (lv_at hl 1 rfl) ?_
              refine va_get (D := rD g) (ci := 2) (v := .ref (ad200 9)) (C := RX2) (T := TX2) (N := 12) hx hb hts inX2 hown hR.K hR.P 8 (hR.at42 (hR.w.2.1 _ finC_26).2.1) rfl 0 (by decide) (hts _ kw_632) (fun _ h9 => h9) (congrArg (fun z => some (vf ad200 z)) (hR.w.2.1 _ finC_2).1) dX2_build_225 ?_
              refine lv_aload_n hx hb dX2_build_228 rfl (lv_at hl 1 rfl) ?_
              refine va_get (D := rD g) (ci := 2) (v := .ref (ad200 9)) (C := RX2) (T := TX2) (N := 12) hx hb hts inX2 hown hR.K hR.P 8 (hR.at42 (hR.w.2.1 _ finC_26).2.1) rfl 0 (by decide) (hts _ kw_632) (fun _ h9 => h9) (congrArg (fun z => some (vf ad200 z)) (hR.w.2.1 _ finC_2).1) dX2_build_229 ?_
              refine lv_iload_n hx hb dX2_build_232 rfl (lv_at hl 0 rfl) ?_
              obtain ⟨hv58, h⟩ := h
              have hFc := cfree hR hA
              refine va_calli (va_runV (As := [.int a55]) (rest := [.ref (ad200 9), .int v200_2, .ref (ad200 (qO U200 v200_1 9))]) ⟨hx, hb, hml, hown, hts⟩ (rX7_nameOf l g ad200 H.size U200 a55 hR.w  hv58) (cwV 1 hts (gd_V kw_656 kw_1409 kw_1410 kw_710 kw_1408) rfl rfl rfl (by decide +kernel) ⟨Nat.le_of_ble_eq_true rfl, Nat.le_of_ble_eq_true rfl⟩) ⟨cblind, va_recv hR.K hR.P (ci := 6) (q0 := 9) rfl (hR.at46 (hR.w.2.1 _ finC_2).2.1), fun U hU hW9 => cmk hU hW9 hR hex hE hFc⟩ rfl rfl hl.1 rfl (lv_room (Nat.le_of_ble_eq_true rfl)) dX2_build_233 ⟨(show dc200 + 0 ≤ KCC - qn S from hlg.c), (show ds200 + 0 ≤ KSC - qu S from hlg.s)⟩) hR.sS (fun q _ h => hFc q h) hFc (fun r59 u9 t9 H1 locs ht9 hvm9 hw9 hB9 hz9 hk9 hS => ?_)
              have hR : RepC g ad200 A s U200 H1 locs := hR.call ht9 hB9 hR.w hS hFc
              obtain rfl : r59 = (fX7_nameOf U200 a55) := hw9
              clear hB9 hz9 hk9 hvm9 ht9 hS
              generalize H1 = H at hR ⊢
              obtain ⟨a61, ea61⟩ : ∃ z, z = (fX7_nameOf U200 a55) := ⟨_, rfl⟩
              rw [← ea61]
              replace h := h a61 ea61
              obtain ⟨hv62, h⟩ := h
              have hFc := cfree hR hA
              refine va_calli (va_runV (As := [.int a61]) (rest := [.int v200_2, .ref (ad200 (qO U200 v200_1 9))]) ⟨hx, hb, hml, hown, hts⟩ (rX7_entryAt l g ad200 H.size U200 a61 hR.w  hv62) (cwV 1 hts (gd_V kw_633 kw_1298 kw_1299 kw_710 kw_1297) rfl rfl rfl (by decide +kernel) ⟨Nat.le_of_ble_eq_true rfl, Nat.le_of_ble_eq_true rfl⟩) ⟨cblind, va_recv hR.K hR.P (ci := 6) (q0 := 9) rfl (hR.at46 (hR.w.2.1 _ finC_2).2.1), fun U hU hW9 => cmk hU hW9 hR hex hE hFc⟩ rfl rfl hl.1 rfl (lv_room (Nat.le_of_ble_eq_true rfl)) dX2_build_236 ⟨(show dc200 + 0 ≤ KCC - qn S from hlg.c), (show ds200 + 0 ≤ KSC - qu S from hlg.s)⟩) hR.sS (fun q _ h => hFc q h) hFc (fun r63 u9 t9 H1 locs ht9 hvm9 hw9 hB9 hz9 hk9 hS => ?_)
              have hR : RepC g ad200 A s U200 H1 locs := hR.call ht9 hB9 hR.w hS hFc
              obtain rfl : r63 = (fX7_entryAt U200 a61) := hw9
              clear hB9 hz9 hk9 hvm9 ht9 hS
              generalize H1 = H at hR ⊢
              obtain ⟨a65, ea65⟩ : ∃ z, z = (fX7_entryAt U200 a61) := ⟨_, rfl⟩
              rw [← ea65]
              replace h := h a65 ea65
              obtain ⟨hv66, h⟩ := h
              refine va_iast hx hb hR.K hR.P hR.D hR.sS (qO U200 v200_1 9) 1 (hR.atI hT_b56 (by decide)) rfl (k_ix (x := v200_2) (a := v200_2.toInt) rfl hv66) dX2_build_239 (fun H locs hP hD hS => ?_)
              have hTk9 : qT U200 (qO U200 v200_1 9) = 234 := hT_b56
              have hR : RepC g ad200 A s (wI U200 (qO U200 v200_1 9) v200_2.toInt.toNat a65) H locs := hR.aI hT_b56 (by decide) hP hD hS
              obtain ⟨S67, eS67⟩ : ∃ z, z = wI U200 (qO U200 v200_1 9) v200_2.toInt.toNat a65 := ⟨_, rfl⟩
              rw [← eS67] at hR
              replace h := h S67 eS67 hTk9 hR.w
              have hT_v200_1 : qT S67 v200_1 = 49 := (congrArg (fun z => qT z v200_1) eS67).trans hT_v200_1
              have hsh : shx S S67 := by rw [eS67]; exact hsh
              have hlg : lgC S S67 (dc200) (ds200) := by rw [eS67]; exact hlg
              refine lv_aload_n hx hb dX2_build_240 rfl (lv_at hl 2 rfl) ?_
              obtain ⟨hv69, h⟩ := h
              have hT_b68 : qT S67 (qO S67 v200_1 10) = 235 := hR.w.ref hv69 hT_v200_1
              refine va_get (D := rD g) (ci := 9) (v := .ref (ad200 (qO S67 v200_1 10))) (C := RX10) (T := TX10) (N := 18) hx hb hts inX10 hown hR.K hR.P v200_1 (hR.at49 hT_v200_1) rfl 10 (by decide) (hts _ kw_663) (fun _ h9 => h9) (congrArg (fun z => some (vf ad200 z)) hv69) dX2_build_241 ?_
              refine lv_iload_n hx hb dX2_build_244 rfl (lv_at hl 3 rfl) ?_
              refine lv_aload_n hx hb dX2_build_245 rfl (lv_at hl 1 rfl) ?_
              refine va_get (D := rD g) (ci := 2) (v := .ref (ad200 9)) (C := RX2) (T := TX2) (N := 12) hx hb hts inX2 hown hR.K hR.P 8 (hR.at42 (hR.w.2.1 _ finC_26).2.1) rfl 0 (by decide) (hts _ kw_632) (fun _ h9 => h9) (congrArg (fun z => some (vf ad200 z)) (hR.w.2.1 _ finC_2).1) dX2_build_246 ?_
              refine lv_aload_n hx hb dX2_build_249 rfl (lv_at hl 1 rfl) ?_
              refine va_get (D := rD g) (ci := 2) (v := .ref (ad200 9)) (C := RX2) (T := TX2) (N := 12) hx hb hts inX2 hown hR.K hR.P 8 (hR.at42 (hR.w.2.1 _ finC_26).2.1) rfl 0 (by decide) (hts _ kw_632) (fun _ h9 => h9) (congrArg (fun z => some (vf ad200 z)) (hR.w.2.1 _ finC_2).1) dX2_build_250 ?_
              refine lv_iload_n hx hb dX2_build_253 rfl (lv_at hl 0 rfl) ?_
              obtain ⟨hv70, h⟩ := h
              have hFc := cfree hR hA
              refine va_calli (va_runV (As := [.int a55]) (rest := [.ref (ad200 9), .int v200_2, .ref (ad200 (qO S67 v200_1 10))]) ⟨hx, hb, hml, hown, hts⟩ (rX7_typeOf l g ad200 H.size S67 a55 hR.w  hv70) (cwV 1 hts (gd_V kw_658 kw_1438 kw_1439 kw_710 kw_1437) rfl rfl rfl (by decide +kernel) ⟨Nat.le_of_ble_eq_true rfl, Nat.le_of_ble_eq_true rfl⟩) ⟨cblind, va_recv hR.K hR.P (ci := 6) (q0 := 9) rfl (hR.at46 (hR.w.2.1 _ finC_2).2.1), fun U hU hW9 => cmk hU hW9 hR hex hE hFc⟩ rfl rfl hl.1 rfl (lv_room (Nat.le_of_ble_eq_true rfl)) dX2_build_254 ⟨(show dc200 + 0 ≤ KCC - qn S from hlg.c), (show ds200 + 0 ≤ KSC - qu S from hlg.s)⟩) hR.sS (fun q _ h => hFc q h) hFc (fun r71 u9 t9 H1 locs ht9 hvm9 hw9 hB9 hz9 hk9 hS => ?_)
              have hR : RepC g ad200 A s S67 H1 locs := hR.call ht9 hB9 hR.w hS hFc
              obtain rfl : r71 = (fX7_typeOf S67 a55) := hw9
              clear hB9 hz9 hk9 hvm9 ht9 hS
              generalize H1 = H at hR ⊢
              obtain ⟨a73, ea73⟩ : ∃ z, z = (fX7_typeOf S67 a55) := ⟨_, rfl⟩
              rw [← ea73]
              replace h := h a73 ea73
              obtain ⟨hv74, h⟩ := h
              have hFc := cfree hR hA
              refine va_calli (va_runV (As := [.int a73]) (rest := [.int v200_2, .ref (ad200 (qO S67 v200_1 10))]) ⟨hx, hb, hml, hown, hts⟩ (rX7_entryAt l g ad200 H.size S67 a73 hR.w  hv74) (cwV 1 hts (gd_V kw_633 kw_1298 kw_1299 kw_710 kw_1297) rfl rfl rfl (by decide +kernel) ⟨Nat.le_of_ble_eq_true rfl, Nat.le_of_ble_eq_true rfl⟩) ⟨cblind, va_recv hR.K hR.P (ci := 6) (q0 := 9) rfl (hR.at46 (hR.w.2.1 _ finC_2).2.1), fun U hU hW9 => cmk hU hW9 hR hex hE hFc⟩ rfl rfl hl.1 rfl (lv_room (Nat.le_of_ble_eq_true rfl)) dX2_build_257 ⟨(show dc200 + 0 ≤ KCC - qn S from hlg.c), (show ds200 + 0 ≤ KSC - qu S from hlg.s)⟩) hR.sS (fun q _ h => hFc q h) hFc (fun r75 u9 t9 H1 locs ht9 hvm9 hw9 hB9 hz9 hk9 hS => ?_)
              have hR : RepC g ad200 A s S67 H1 locs := hR.call ht9 hB9 hR.w hS hFc
              obtain rfl : r75 = (fX7_entryAt S67 a73) := hw9
              clear hB9 hz9 hk9 hvm9 ht9 hS
              generalize H1 = H at hR ⊢
              obtain ⟨a77, ea77⟩ : ∃ z, z = (fX7_entryAt S67 a73) := ⟨_, rfl⟩
              rw [← ea77]
              replace h := h a77 ea77
              obtain ⟨hv78, h⟩ := h
              refine va_iast hx hb hR.K hR.P hR.D hR.sS (qO S67 v200_1 10) 1 (hR.atI hT_b68 (by decide)) rfl (k_ix (x := v200_2) (a := v200_2.toInt) rfl hv78) dX2_build_260 (fun H locs hP hD hS => ?_)
              have hTk9 : qT S67 (qO S67 v200_1 10) = 235 := hT_b68
              have hR : RepC g ad200 A s (wI S67 (qO S67 v200_1 10) v200_2.toInt.toNat a77) H locs := hR.aI hT_b68 (by decide) hP hD hS
              obtain ⟨S79, eS79⟩ : ∃ z, z = wI S67 (qO S67 v200_1 10) v200_2.toInt.toNat a77 := ⟨_, rfl⟩
              rw [← eS79] at hR
              replace h := h S79 eS79 hTk9 hR.w
              have hT_v200_1 : qT S79 v200_1 = 49 := (congrArg (fun z => qT z v200_1) eS79).trans hT_v200_1
              have hsh : shx S S79 := by rw [eS79]; exact hsh
              have hlg : lgC S S79 (dc200) (ds200) := by rw [eS79]; exact hlg
              refine lv_aload_n hx hb dX2_build_261 rfl (lv_at hl 1 rfl) ?_
              refine va_get (D := rD g) (ci := 2) (v := .ref (ad200 9)) (C := RX2) (T := TX2) (N := 12) hx hb hts inX2 hown hR.K hR.P 8 (hR.at42 (hR.w.2.1 _ finC_26).2.1) rfl 0 (by decide) (hts _ kw_632) (fun _ h9 => h9) (congrArg (fun z => some (vf ad200 z)) (hR.w.2.1 _ finC_2).1) dX2_build_262 ?_
              refine lv_aload_n hx hb dX2_build_265 rfl (lv_at hl 1 rfl) ?_
              refine va_get (D := rD g) (ci := 2) (v := .ref (ad200 9)) (C := RX2) (T := TX2) (N := 12) hx hb hts inX2 hown hR.K hR.P 8 (hR.at42 (hR.w.2.1 _ finC_26).2.1) rfl 0 (by decide) (hts _ kw_632) (fun _ h9 => h9) (congrArg (fun z => some (vf ad200 z)) (hR.w.2.1 _ finC_2).1) dX2_build_266 ?_
              refine lv_iload_n hx hb dX2_build_269 rfl (lv_at hl 0 rfl) ?_
              obtain ⟨hv80, h⟩ := h
              have hFc := cfree hR hA
              refine va_calli (va_runV (As := [.int a55]) (rest := [.ref (ad200 9)]) ⟨hx, hb, hml, hown, hts⟩ (rX7_typeOf l g ad200 H.size S79 a55 hR.w  hv80) (cwV 1 hts (gd_V kw_658 kw_1438 kw_1439 kw_710 kw_1437) rfl rfl rfl (by decide +kernel) ⟨Nat.le_of_ble_eq_true rfl, Nat.le_of_ble_eq_true rfl⟩) ⟨cblind, va_recv hR.K hR.P (ci := 6) (q0 := 9) rfl (hR.at46 (hR.w.2.1 _ finC_2).2.1), fun U hU hW9 => cmk hU hW9 hR hex hE hFc⟩ rfl rfl hl.1 rfl (lv_room (Nat.le_of_ble_eq_true rfl)) dX2_build_270 ⟨(show dc200 + 0 ≤ KCC - qn S from hlg.c), (show ds200 + 0 ≤ KSC - qu S from hlg.s)⟩) hR.sS (fun q _ h => hFc q h) hFc (fun r81 u9 t9 H1 locs ht9 hvm9 hw9 hB9 hz9 hk9 hS => ?_)
              have hR : RepC g ad200 A s S79 H1 locs := hR.call ht9 hB9 hR.w hS hFc
              obtain rfl : r81 = (fX7_typeOf S79 a55) := hw9
              clear hB9 hz9 hk9 hvm9 ht9 hS
              generalize H1 = H at hR ⊢
              obtain ⟨a83, ea83⟩ : ∃ z, z = (fX7_typeOf S79 a55) := ⟨_, rfl⟩
              rw [← ea83]
              replace h := h a83 ea83
              obtain ⟨Q84, h0, h⟩ := h
              have hFc := cfree hR hA
              refine va_calli (va_runV (As := [.int a83]) (rest := []) ⟨hx, hb, hml, hown, hts⟩ (rX7_isMethodType l g ad200 H.size S79 a83 hR.w  Q84 h0) (cwV 1 hts (gd_V kw_664 kw_1344 kw_1345 kw_710 kw_1343) rfl rfl rfl (by decide +kernel) ⟨Nat.le_of_ble_eq_true rfl, Nat.le_of_ble_eq_true rfl⟩) ⟨cblind, va_recv hR.K hR.P (ci := 6) (q0 := 9) rfl (hR.at46 (hR.w.2.1 _ finC_2).2.1), fun U hU hW9 => cmk hU hW9 hR hex hE hFc⟩ rfl rfl hl.1 rfl (lv_room (Nat.le_of_ble_eq_true rfl)) dX2_build_273 ⟨(show dc200 + 0 ≤ KCC - qn S from hlg.c), (show ds200 + 0 ≤ KSC - qu S from hlg.s)⟩) hR.sS (fun q _ h => hFc q h) hFc (fun r85 S86 t9 H1 locs ht9 hvm9 hw9 hB9 hz9 hk9 hS => ?_)
              obtain ⟨hq87, hw9, hs9, hz_r85⟩ := hw9
              have hR : RepC g ad200 A s S86 H1 locs := hR.call ht9 hB9 hw9 hS hFc
              have hsh := hsh.tr hs9.1
              have hlg : lgC S S86 (dc200) (ds200) := hlg.same hs9
              replace h := h r85 S86 hq87 hw9 hs9
              have hT_v200_1 := hs9.T hT_v200_1 (by decide)
              clear hB9 hz9 hk9 hvm9 ht9 hw9 hs9 hS
              generalize H1 = H at hR ⊢
              refine lv_pop hx hb dX2_build_276 rfl ?_
              refine lv_aload_n hx hb dX2_build_277 rfl (lv_at hl 2 rfl) ?_
              obtain ⟨hv89, h⟩ := h
              have hT_b88 : qT S86 (qO S86 v200_1 11) = 236 := hR.w.ref hv89 hT_v200_1
              refine va_get (D := rD g) (ci := 9) (v := .ref (ad200 (qO S86 v200_1 11))) (C := RX10) (T := TX10) (N := 18) hx hb hts inX10 hown hR.K hR.P v200_1 (hR.at49 hT_v200_1) rfl 11 (by decide) (hts _ kw_665) (fun _ h9 => h9) (congrArg (fun z => some (vf ad200 z)) hv89) dX2_build_278 ?_
              refine lv_iload_n hx hb dX2_build_281 rfl (lv_at hl 3 rfl) ?_
              refine lv_aload_n hx hb dX2_build_282 rfl (lv_at hl 1 rfl) ?_
              refine va_get (D := rD g) (ci := 2) (v := .ref (ad200 9)) (C := RX2) (T := TX2) (N := 12) hx hb hts inX2 hown hR.K hR.P 8 (hR.at42 (hR.w.2.1 _ finC_26).2.1) rfl 0 (by decide) (hts _ kw_632) (fun _ h9 => h9) (congrArg (fun z => some (vf ad200 z)) (hR.w.2.1 _ finC_2).1) dX2_build_283 ?_
              refine va_get (D := rD g) (ci := 6) (v := .int (qI S86 9 12)) (C := RX7) (T := TX7) (N := 17) hx hb hts inX7 hown hR.K hR.P 9 (hR.at46 (hR.w.2.1 _ finC_2).2.1) rfl 12 (by decide) (hts _ kw_666) (fun _ h9 => h9) rfl dX2_build_286 ?_
              obtain ⟨hv90, h⟩ := h
              refine va_iast hx hb hR.K hR.P hR.D hR.sS (qO S86 v200_1 11) 1 (hR.atI hT_b88 (by decide)) rfl (k_ix (x := v200_2) (a := v200_2.toInt) rfl hv90) dX2_build_289 (fun H locs hP hD hS => ?_)
              have hTk9 : qT S86 (qO S86 v200_1 11) = 236 := hT_b88
              have hR : RepC g ad200 A s (wI S86 (qO S86 v200_1 11) v200_2.toInt.toNat (qI S86 9 12)) H locs := hR.aI hT_b88 (by decide) hP hD hS
              obtain ⟨S91, eS91⟩ : ∃ z, z = wI S86 (qO S86 v200_1 11) v200_2.toInt.toNat (qI S86 9 12) := ⟨_, rfl⟩
              rw [← eS91] at hR
              replace h := h S91 eS91 hTk9 hR.w
              have hT_v200_1 : qT S91 v200_1 = 49 := (congrArg (fun z => qT z v200_1) eS91).trans hT_v200_1
              have hsh : shx S S91 := by rw [eS91]; exact hsh
              have hlg : lgC S S91 (dc200) (ds200) := by rw [eS91]; exact hlg
              refine lv_aload_n hx hb dX2_build_290 rfl (lv_at hl 2 rfl) ?_
              obtain ⟨hv93, h⟩ := h
              have hT_b92 : qT S91 (qO S91 v200_1 12) = 237 := hR.w.ref hv93 hT_v200_1
              refine va_get (D := rD g) (ci := 9) (v := .ref (ad200 (qO S91 v200_1 12))) (C := RX10) (T := TX10) (N := 18) hx hb hts inX10 hown hR.K hR.P v200_1 (hR.at49 hT_v200_1) rfl 12 (by decide) (hts _ kw_667) (fun _ h9 => h9) (congrArg (fun z => some (vf ad200 z)) hv93) dX2_build_291 ?_
              refine lv_iload_n hx hb dX2_build_294 rfl (lv_at hl 3 rfl) ?_
              refine lv_aload_n hx hb dX2_build_295 rfl (lv_at hl 1 rfl) ?_
              refine va_get (D := rD g) (ci := 2) (v := .ref (ad200 9)) (C := RX2) (T := TX2) (N := 12) hx hb hts inX2 hown hR.K hR.P 8 (hR.at42 (hR.w.2.1 _ finC_26).2.1) rfl 0 (by decide) (hts _ kw_632) (fun _ h9 => h9) (congrArg (fun z => some (vf ad200 z)) (hR.w.2.1 _ finC_2).1) dX2_build_296 ?_
              refine va_get (D := rD g) (ci := 6) (v := .int (qI S91 9 14)) (C := RX7) (T := TX7) (N := 17) hx hb hts inX7 hown hR.K hR.P 9 (hR.at46 (hR.w.2.1 _ finC_2).2.1) rfl 14 (by decide) (hts _ kw_668) (fun _ h9 => h9) rfl dX2_build_299 ?_
              obtain ⟨hv94, h⟩ := h
              refine va_iast hx hb hR.K hR.P hR.D hR.sS (qO S91 v200_1 12) 1 (hR.atI hT_b92 (by decide)) rfl (k_ix (x := v200_2) (a := v200_2.toInt) rfl hv94) dX2_build_302 (fun H locs hP hD hS => ?_)
              have hTk9 : qT S91 (qO S91 v200_1 12) = 237 := hT_b92
              have hR : RepC g ad200 A s (wI S91 (qO S91 v200_1 12) v200_2.toInt.toNat (qI S91 9 14)) H locs := hR.aI hT_b92 (by decide) hP hD hS
              obtain ⟨S95, eS95⟩ : ∃ z, z = wI S91 (qO S91 v200_1 12) v200_2.toInt.toNat (qI S91 9 14) := ⟨_, rfl⟩
              rw [← eS95] at hR
              replace h := h S95 eS95 hTk9 hR.w
              have hT_v200_1 : qT S95 v200_1 = 49 := (congrArg (fun z => qT z v200_1) eS95).trans hT_v200_1
              have hsh : shx S S95 := by rw [eS95]; exact hsh
              have hlg : lgC S S95 (dc200) (ds200) := by rw [eS95]; exact hlg
              obtain ⟨a96, ea96⟩ : ∃ z, z = (v200_2 + Int32.ofInt 1) := ⟨_, rfl⟩
              replace h := h a96 ea96
              refine lv_iinc (v := a96) (lv' := [(2, .int a96), (3, .int a55), (0, .ref (ad200 8)), (1, .ref (ad200 v200_1))]) hx hb dX2_build_303 hl (k := 3) rfl ea96.symm (by decide) rfl (fun ls hl => ?_)
              refine lv_goto (tgt := 200) hx hb dX2_build_306 (by decide) ?_
              exact ih_200 ad200 (dc200) (ds200) S95 v200_1 a96 _ _ ls h hT_v200_1 hsh hlg hak hE hR (lv_sub hl [2, 3, 0] rfl)
        obtain ⟨n9, h⟩ := h
        exact J_200 n9 ad120 (dc120) (ds120) U120 v120_1 0 _ _ ls h hT_v120_1 hsh hlg hak hE hR (lv_sub hl [1, 2, 0] rfl)
      · replace h := h.2 (k_nle hln48 rfl c49)
        refine lv_aload_n hx hb dX2_build_129 rfl (lv_at hl 1 rfl) ?_
        obtain ⟨hv98, h⟩ := h
        have hT_b97 : qT U120 (qO U120 v120_1 5) = 231 := hR.w.ref hv98 hT_v120_1
        refine va_get (D := rD g) (ci := 9) (v := .ref (ad120 (qO U120 v120_1 5))) (C := RX10) (T := TX10) (N := 18) hx hb hts inX10 hown hR.K hR.P v120_1 (hR.at49 hT_v120_1) rfl 5 (by decide) (hts _ kw_655) (fun _ h9 => h9) (congrArg (fun z => some (vf ad120 z)) hv98) dX2_build_130 ?_
        refine lv_iload_n hx hb dX2_build_133 rfl (lv_at hl 2 rfl) ?_
        refine lv_aload_n hx hb dX2_build_134 rfl (lv_at hl 0 rfl) ?_
        refine va_get (D := rD g) (ci := 2) (v := .ref (ad120 9)) (C := RX2) (T := TX2) (N := 12) hx hb hts inX2 hown hR.K hR.P 8 (hR.at42 (hR.w.2.1 _ finC_26).2.1) rfl 0 (by decide) (hts _ kw_632) (fun _ h9 => h9) (congrArg (fun z => some (vf ad120 z)) (hR.w.2.1 _ finC_2).1) dX2_build_135 ?_
        refine lv_aload_n hx hb dX2_build_138 rfl (lv_at hl 0 rfl) ?_
        refine va_get (D := rD g) (ci := 2) (v := .ref (ad120 9)) (C := RX2) (T := TX2) (N := 12) hx hb hts inX2 hown hR.K hR.P 8 (hR.at42 (hR.w.2.1 _ finC_26).2.1) rfl 0 (by decide) (hts _ kw_632) (fun _ h9 => h9) (congrArg (fun z => some (vf ad120 z)) (hR.w.2.1 _ finC_2).1) dX2_build_139 ?_
        refine lv_iload_n hx hb dX2_build_142 rfl (lv_at hl 2 rfl) ?_
        obtain ⟨hv99, h⟩ := h
        have hFc := cfree hR hA
        refine va_calli (va_runV (As := [.int v120_2]) (rest := [.ref (ad120 9), .int v120_2, .ref (ad120 (qO U120 v120_1 5))]) ⟨hx, hb, hml, hown, hts⟩ (rX7_nameOf l g ad120 H.size U120 v120_2 hR.w  hv99) (cwV 1 hts (gd_V kw_656 kw_1409 kw_1410 kw_710 kw_1408) rfl rfl rfl (by decide +kernel) ⟨Nat.le_of_ble_eq_true rfl, Nat.le_of_ble_eq_true rfl⟩) ⟨cblind, va_recv hR.K hR.P (ci := 6) (q0 := 9) rfl (hR.at46 (hR.w.2.1 _ finC_2).2.1), fun U hU hW9 => cmk hU hW9 hR hex hE hFc⟩ rfl rfl hl.1 rfl (lv_room (Nat.le_of_ble_eq_true rfl)) dX2_build_143 ⟨(show dc120 + 0 ≤ KCC - qn S from hlg.c), (show ds120 + 0 ≤ KSC - qu S from hlg.s)⟩) hR.sS (fun q _ h => hFc q h) hFc (fun r100 u9 t9 H1 locs ht9 hvm9 hw9 hB9 hz9 hk9 hS => ?_)
        have hR : RepC g ad120 A s U120 H1 locs := hR.call ht9 hB9 hR.w hS hFc
        obtain rfl : r100 = (fX7_nameOf U120 v120_2) := hw9
        clear hB9 hz9 hk9 hvm9 ht9 hS
        generalize H1 = H at hR ⊢
        obtain ⟨a102, ea102⟩ : ∃ z, z = (fX7_nameOf U120 v120_2) := ⟨_, rfl⟩
        rw [← ea102]
        replace h := h a102 ea102
        obtain ⟨hv103, h⟩ := h
        have hFc := cfree hR hA
        refine va_calli (va_runV (As := [.int a102]) (rest := [.int v120_2, .ref (ad120 (qO U120 v120_1 5))]) ⟨hx, hb, hml, hown, hts⟩ (rX7_entryAt l g ad120 H.size U120 a102 hR.w  hv103) (cwV 1 hts (gd_V kw_633 kw_1298 kw_1299 kw_710 kw_1297) rfl rfl rfl (by decide +kernel) ⟨Nat.le_of_ble_eq_true rfl, Nat.le_of_ble_eq_true rfl⟩) ⟨cblind, va_recv hR.K hR.P (ci := 6) (q0 := 9) rfl (hR.at46 (hR.w.2.1 _ finC_2).2.1), fun U hU hW9 => cmk hU hW9 hR hex hE hFc⟩ rfl rfl hl.1 rfl (lv_room (Nat.le_of_ble_eq_true rfl)) dX2_build_146 ⟨(show dc120 + 0 ≤ KCC - qn S from hlg.c), (show ds120 + 0 ≤ KSC - qu S from hlg.s)⟩) hR.sS (fun q _ h => hFc q h) hFc (fun r104 u9 t9 H1 locs ht9 hvm9 hw9 hB9 hz9 hk9 hS => ?_)
        have hR : RepC g ad120 A s U120 H1 locs := hR.call ht9 hB9 hR.w hS hFc
        obtain rfl : r104 = (fX7_entryAt U120 a102) := hw9
        clear hB9 hz9 hk9 hvm9 ht9 hS
        generalize H1 = H at hR ⊢
        obtain ⟨a106, ea106⟩ : ∃ z, z = (fX7_entryAt U120 a102) := ⟨_, rfl⟩
        rw [← ea106]
        replace h := h a106 ea106
        obtain ⟨hv107, h⟩ := h
        refine va_iast hx hb hR.K hR.P hR.D hR.sS (qO U120 v120_1 5) 1 (hR.atI hT_b97 (by decide)) rfl (k_ix (x := v120_2) (a := v120_2.toInt) rfl hv107) dX2_build_149 (fun H locs hP hD hS => ?_)
        have hTk9 : qT U120 (qO U120 v120_1 5) = 231 := hT_b97
        have hR : RepC g ad120 A s (wI U120 (qO U120 v120_1 5) v120_2.toInt.toNat a106) H locs := hR.aI hT_b97 (by decide) hP hD hS
        obtain ⟨S108, eS108⟩ : ∃ z, z = wI U120 (qO U120 v120_1 5) v120_2.toInt.toNat a106 := ⟨_, rfl⟩
        rw [← eS108] at hR
        replace h := h S108 eS108 hTk9 hR.w
        have hT_v120_1 : qT S108 v120_1 = 49 := (congrArg (fun z => qT z v120_1) eS108).trans hT_v120_1
        have hsh : shx S S108 := by rw [eS108]; exact hsh
        have hlg : lgC S S108 (dc120) (ds120) := by rw [eS108]; exact hlg
        refine lv_aload_n hx hb dX2_build_150 rfl (lv_at hl 1 rfl) ?_
        obtain ⟨hv110, h⟩ := h
        have hT_b109 : qT S108 (qO S108 v120_1 6) = 232 := hR.w.ref hv110 hT_v120_1
        refine va_get (D := rD g) (ci := 9) (v := .ref (ad120 (qO S108 v120_1 6))) (C := RX10) (T := TX10) (N := 18) hx hb hts inX10 hown hR.K hR.P v120_1 (hR.at49 hT_v120_1) rfl 6 (by decide) (hts _ kw_657) (fun _ h9 => h9) (congrArg (fun z => some (vf ad120 z)) hv110) dX2_build_151 ?_
        refine lv_iload_n hx hb dX2_build_154 rfl (lv_at hl 2 rfl) ?_
        refine lv_aload_n hx hb dX2_build_155 rfl (lv_at hl 0 rfl) ?_
        refine va_get (D := rD g) (ci := 2) (v := .ref (ad120 9)) (C := RX2) (T := TX2) (N := 12) hx hb hts inX2 hown hR.K hR.P 8 (hR.at42 (hR.w.2.1 _ finC_26).2.1) rfl 0 (by decide) (hts _ kw_632) (fun _ h9 => h9) (congrArg (fun z => some (vf ad120 z)) (hR.w.2.1 _ finC_2).1) dX2_build_156 ?_
        refine lv_aload_n hx hb dX2_build_159 rfl (lv_at hl 0 rfl) ?_
        refine va_get (D := rD g) (ci := 2) (v := .ref (ad120 9)) (C := RX2) (T := TX2) (N := 12) hx hb hts inX2 hown hR.K hR.P 8 (hR.at42 (hR.w.2.1 _ finC_26).2.1) rfl 0 (by decide) (hts _ kw_632) (fun _ h9 => h9) (congrArg (fun z => some (vf ad120 z)) (hR.w.2.1 _ finC_2).1) dX2_build_160 ?_
        refine lv_iload_n hx hb dX2_build_163 rfl (lv_at hl 2 rfl) ?_
        obtain ⟨hv111, h⟩ := h
        have hFc := cfree hR hA
        refine va_calli (va_runV (As := [.int v120_2]) (rest := [.ref (ad120 9), .int v120_2, .ref (ad120 (qO S108 v120_1 6))]) ⟨hx, hb, hml, hown, hts⟩ (rX7_typeOf l g ad120 H.size S108 v120_2 hR.w  hv111) (cwV 1 hts (gd_V kw_658 kw_1438 kw_1439 kw_710 kw_1437) rfl rfl rfl (by decide +kernel) ⟨Nat.le_of_ble_eq_true rfl, Nat.le_of_ble_eq_true rfl⟩) ⟨cblind, va_recv hR.K hR.P (ci := 6) (q0 := 9) rfl (hR.at46 (hR.w.2.1 _ finC_2).2.1), fun U hU hW9 => cmk hU hW9 hR hex hE hFc⟩ rfl rfl hl.1 rfl (lv_room (Nat.le_of_ble_eq_true rfl)) dX2_build_164 ⟨(show dc120 + 0 ≤ KCC - qn S from hlg.c), (show ds120 + 0 ≤ KSC - qu S from hlg.s)⟩) hR.sS (fun q _ h => hFc q h) hFc (fun r112 u9 t9 H1 locs ht9 hvm9 hw9 hB9 hz9 hk9 hS => ?_)
        have hR : RepC g ad120 A s S108 H1 locs := hR.call ht9 hB9 hR.w hS hFc
        obtain rfl : r112 = (fX7_typeOf S108 v120_2) := hw9
        clear hB9 hz9 hk9 hvm9 ht9 hS
        generalize H1 = H at hR ⊢
        obtain ⟨a114, ea114⟩ : ∃ z, z = (fX7_typeOf S108 v120_2) := ⟨_, rfl⟩
        rw [← ea114]
        replace h := h a114 ea114
        obtain ⟨hv115, h⟩ := h
        have hFc := cfree hR hA
        refine va_calli (va_runV (As := [.int a114]) (rest := [.int v120_2, .ref (ad120 (qO S108 v120_1 6))]) ⟨hx, hb, hml, hown, hts⟩ (rX7_entryAt l g ad120 H.size S108 a114 hR.w  hv115) (cwV 1 hts (gd_V kw_633 kw_1298 kw_1299 kw_710 kw_1297) rfl rfl rfl (by decide +kernel) ⟨Nat.le_of_ble_eq_true rfl, Nat.le_of_ble_eq_true rfl⟩) ⟨cblind, va_recv hR.K hR.P (ci := 6) (q0 := 9) rfl (hR.at46 (hR.w.2.1 _ finC_2).2.1), fun U hU hW9 => cmk hU hW9 hR hex hE hFc⟩ rfl rfl hl.1 rfl (lv_room (Nat.le_of_ble_eq_true rfl)) dX2_build_167 ⟨(show dc120 + 0 ≤ KCC - qn S from hlg.c), (show ds120 + 0 ≤ KSC - qu S from hlg.s)⟩) hR.sS (fun q _ h => hFc q h) hFc (fun r116 u9 t9 H1 locs ht9 hvm9 hw9 hB9 hz9 hk9 hS => ?_)
        have hR : RepC g ad120 A s S108 H1 locs := hR.call ht9 hB9 hR.w hS hFc
        obtain rfl : r116 = (fX7_entryAt S108 a114) := hw9
        clear hB9 hz9 hk9 hvm9 ht9 hS
        generalize H1 = H at hR ⊢
        obtain ⟨a118, ea118⟩ : ∃ z, z = (fX7_entryAt S108 a114) := ⟨_, rfl⟩
        rw [← ea118]
        replace h := h a118 ea118
        obtain ⟨hv119, h⟩ := h
        refine va_iast hx hb hR.K hR.P hR.D hR.sS (qO S108 v120_1 6) 1 (hR.atI hT_b109 (by decide)) rfl (k_ix (x := v120_2) (a := v120_2.toInt) rfl hv119) dX2_build_170 (fun H locs hP hD hS => ?_)
        have hTk9 : qT S108 (qO S108 v120_1 6) = 232 := hT_b109
        have hR : RepC g ad120 A s (wI S108 (qO S108 v120_1 6) v120_2.toInt.toNat a118) H locs := hR.aI hT_b109 (by decide) hP hD hS
        obtain ⟨S120, eS120⟩ : ∃ z, z = wI S108 (qO S108 v120_1 6) v120_2.toInt.toNat a118 := ⟨_, rfl⟩
        rw [← eS120] at hR
        replace h := h S120 eS120 hTk9 hR.w
        have hT_v120_1 : qT S120 v120_1 = 49 := (congrArg (fun z => qT z v120_1) eS120).trans hT_v120_1
        have hsh : shx S S120 := by rw [eS120]; exact hsh
        have hlg : lgC S S120 (dc120) (ds120) := by rw [eS120]; exact hlg
        refine lv_aload_n hx hb dX2_build_171 rfl (lv_at hl 1 rfl) ?_
        obtain ⟨hv122, h⟩ := h
        have hT_b121 : qT S120 (qO S120 v120_1 7) = 233 := hR.w.ref hv122 hT_v120_1
        refine va_get (D := rD g) (ci := 9) (v := .ref (ad120 (qO S120 v120_1 7))) (C := RX10) (T := TX10) (N := 18) hx hb hts inX10 hown hR.K hR.P v120_1 (hR.at49 hT_v120_1) rfl 7 (by decide) (hts _ kw_659) (fun _ h9 => h9) (congrArg (fun z => some (vf ad120 z)) hv122) dX2_build_172 ?_
        refine lv_iload_n hx hb dX2_build_175 rfl (lv_at hl 2 rfl) ?_
        refine lv_aload_n hx hb dX2_build_176 rfl (lv_at hl 0 rfl) ?_
        refine va_get (D := rD g) (ci := 2) (v := .ref (ad120 9)) (C := RX2) (T := TX2) (N := 12) hx hb hts inX2 hown hR.K hR.P 8 (hR.at42 (hR.w.2.1 _ finC_26).2.1) rfl 0 (by decide) (hts _ kw_632) (fun _ h9 => h9) (congrArg (fun z => some (vf ad120 z)) (hR.w.2.1 _ finC_2).1) dX2_build_177 ?_
        refine lv_aload_n hx hb dX2_build_180 rfl (lv_at hl 0 rfl) ?_
        refine va_get (D := rD g) (ci := 2) (v := .ref (ad120 9)) (C := RX2) (T := TX2) (N := 12) hx hb hts inX2 hown hR.K hR.P 8 (hR.at42 (hR.w.2.1 _ finC_26).2.1) rfl 0 (by decide) (hts _ kw_632) (fun _ h9 => h9) (congrArg (fun z => some (vf ad120 z)) (hR.w.2.1 _ finC_2).1) dX2_build_181 ?_
        refine lv_iload_n hx hb dX2_build_184 rfl (lv_at hl 2 rfl) ?_
        obtain ⟨hv123, h⟩ := h
        have hFc := cfree hR hA
        refine va_calli (va_runV (As := [.int v120_2]) (rest := [.ref (ad120 9), .int v120_2, .ref (ad120 (qO S120 v120_1 7))]) ⟨hx, hb, hml, hown, hts⟩ (rX7_typeOf l g ad120 H.size S120 v120_2 hR.w  hv123) (cwV 1 hts (gd_V kw_658 kw_1438 kw_1439 kw_710 kw_1437) rfl rfl rfl (by decide +kernel) ⟨Nat.le_of_ble_eq_true rfl, Nat.le_of_ble_eq_true rfl⟩) ⟨cblind, va_recv hR.K hR.P (ci := 6) (q0 := 9) rfl (hR.at46 (hR.w.2.1 _ finC_2).2.1), fun U hU hW9 => cmk hU hW9 hR hex hE hFc⟩ rfl rfl hl.1 rfl (lv_room (Nat.le_of_ble_eq_true rfl)) dX2_build_185 ⟨(show dc120 + 0 ≤ KCC - qn S from hlg.c), (show ds120 + 0 ≤ KSC - qu S from hlg.s)⟩) hR.sS (fun q _ h => hFc q h) hFc (fun r124 u9 t9 H1 locs ht9 hvm9 hw9 hB9 hz9 hk9 hS => ?_)
        have hR : RepC g ad120 A s S120 H1 locs := hR.call ht9 hB9 hR.w hS hFc
        obtain rfl : r124 = (fX7_typeOf S120 v120_2) := hw9
        clear hB9 hz9 hk9 hvm9 ht9 hS
        generalize H1 = H at hR ⊢
        obtain ⟨a126, ea126⟩ : ∃ z, z = (fX7_typeOf S120 v120_2) := ⟨_, rfl⟩
        rw [← ea126]
        replace h := h a126 ea126
        obtain ⟨hv127, h⟩ := h
        have hFc := cfree hR hA
        refine va_calli (va_runV (As := [.int a126]) (rest := [.int v120_2, .ref (ad120 (qO S120 v120_1 7))]) ⟨hx, hb, hml, hown, hts⟩ (rX7_kindOfType l g ad120 H.size S120 a126 hR.w  hv127) (cwV 1 hts (gd_V kw_660 kw_1388 kw_1389 kw_710 kw_1387) rfl rfl rfl (by decide +kernel) ⟨Nat.le_of_ble_eq_true rfl, Nat.le_of_ble_eq_true rfl⟩) ⟨cblind, va_recv hR.K hR.P (ci := 6) (q0 := 9) rfl (hR.at46 (hR.w.2.1 _ finC_2).2.1), fun U hU hW9 => cmk hU hW9 hR hex hE hFc⟩ rfl rfl hl.1 rfl (lv_room (Nat.le_of_ble_eq_true rfl)) dX2_build_188 ⟨(show dc120 + 0 ≤ KCC - qn S from hlg.c), (show ds120 + 0 ≤ KSC - qu S from hlg.s)⟩) hR.sS (fun q _ h => hFc q h) hFc (fun r128 u9 t9 H1 locs ht9 hvm9 hw9 hB9 hz9 hk9 hS => ?_)
        have hR : RepC g ad120 A s S120 H1 locs := hR.call ht9 hB9 hR.w hS hFc
        obtain rfl : r128 = (fX7_kindOfType S120 a126) := hw9
        clear hB9 hz9 hk9 hvm9 ht9 hS
        generalize H1 = H at hR ⊢
        obtain ⟨a130, ea130⟩ : ∃ z, z = (fX7_kindOfType S120 a126) := ⟨_, rfl⟩
        rw [← ea130]
        replace h := h a130 ea130
        obtain ⟨hv131, h⟩ := h
        refine va_iast hx hb hR.K hR.P hR.D hR.sS (qO S120 v120_1 7) 1 (hR.atI hT_b121 (by decide)) rfl (k_ix (x := v120_2) (a := v120_2.toInt) rfl hv131) dX2_build_191 (fun H locs hP hD hS => ?_)
        have hTk9 : qT S120 (qO S120 v120_1 7) = 233 := hT_b121
        have hR : RepC g ad120 A s (wI S120 (qO S120 v120_1 7) v120_2.toInt.toNat a130) H locs := hR.aI hT_b121 (by decide) hP hD hS
        obtain ⟨S132, eS132⟩ : ∃ z, z = wI S120 (qO S120 v120_1 7) v120_2.toInt.toNat a130 := ⟨_, rfl⟩
        rw [← eS132] at hR
        replace h := h S132 eS132 hTk9 hR.w
        have hT_v120_1 : qT S132 v120_1 = 49 := (congrArg (fun z => qT z v120_1) eS132).trans hT_v120_1
        have hsh : shx S S132 := by rw [eS132]; exact hsh
        have hlg : lgC S S132 (dc120) (ds120) := by rw [eS132]; exact hlg
        obtain ⟨a133, ea133⟩ : ∃ z, z = (v120_2 + Int32.ofInt 1) := ⟨_, rfl⟩
        replace h := h a133 ea133
        refine lv_iinc (v := a133) (lv' := [(2, .int a133), (0, .ref (ad120 8)), (1, .ref (ad120 v120_1))]) hx hb dX2_build_192 hl (k := 2) rfl ea133.symm (by decide) rfl (fun ls hl => ?_)
        refine lv_goto (tgt := 120) hx hb dX2_build_195 (by decide) ?_
        exact ih_120 ad120 (dc120) (ds120) S132 v120_1 a133 _ _ ls h hT_v120_1 hsh hlg hak hE hR (lv_sub hl [1, 2, 0] rfl)
  obtain ⟨n9, h⟩ := h
  exact J_120 n9 ak16 (0 + 1 + dc_ak11 + dc_ak16) (0 + 18 + ds_ak11 + ds_ak16) S45 (qn S) 0 _ _ ls h hT_b5 hsh hlg hak hE hR (lv_sub hl [2, 1, 0] rfl)
def w_X2_tableRoom_J59 (Q : Int32 → MS → Prop) (k4 : MS → Int32 → Int32 → Prop) (U59 : MS) (v59_1 : Int32) (v59_2 : Int32) : Prop := (wfC U59 → (∃ Q9, wX2_lengthAt U59 v59_2 Q9 ∧ ∀ r10 S11, Q9 r10 S11 → wfC S11 → shy U59 S11 → (∀ a15 : Int32, a15 = (v59_2 + (if (1 : Int32) < r10 then r10 else (1 : Int32))) → k4 S11 v59_1 a15)))
def w_X2_tableRoom_J56 (Q : Int32 → MS → Prop) (k4 : MS → Int32 → Int32 → Prop) (U56 : MS) (t56_0 : Int32) (t56_1 : Int32) (t56_2 : Int32) (v56_2 : Int32) : Prop := (wfC U56 → (∀ a23 : Int32, a23 = (t56_2 + (t56_1 + t56_0)) → w_X2_tableRoom_J59 Q k4 U56 a23 v56_2))
def w_X2_tableRoom_L4 (Q : Int32 → MS → Prop) : Nat → MS → Int32 → Int32 → Prop
  | 0, _, _, _ => False
  | n4 + 1, U4, v4_1, v4_2 => (wfC U4 → (((qI U4 8 2).toInt ≤ v4_2.toInt → Q (if (0 : Int32) < v4_1 then v4_1 else (0 : Int32)) U4) ∧ (¬ (qI U4 8 2).toInt ≤ v4_2.toInt → (∃ Q3, wX2_decode U4 v4_2 Q3 ∧ ∀ S4, Q3 S4 → wfC S4 → shy U4 S4 → (d_X6_isSwitch S4 (qI S4 8 9) ∧ (((fX6_isSwitch S4 (qI S4 8 9)).toInt = 0 → w_X2_tableRoom_J59 Q (w_X2_tableRoom_L4 Q n4) S4 v4_1 v4_2) ∧ (¬ (fX6_isSwitch S4 (qI S4 8 9)).toInt = 0 → (d_X2_switchCount S4 ((qJ S4 8 10).toInt32) ∧ (∀ a20 : Int32, a20 = (fX2_switchCount S4 ((qJ S4 8 10).toInt32)) → (((qI S4 8 9).toInt = 170 → w_X2_tableRoom_J56 Q (w_X2_tableRoom_L4 Q n4) S4 a20 3 v4_1 v4_2) ∧ (¬ (qI S4 8 9).toInt = 170 → w_X2_tableRoom_J56 Q (w_X2_tableRoom_L4 Q n4) S4 ((2 : Int32) * a20) 3 v4_1 v4_2)))))))))))
def wX2_tableRoom (S : MS) (Q : Int32 → MS → Prop) : Prop := (∃ n, w_X2_tableRoom_L4 Q n S 0 0)
set_option maxHeartbeats 2000000 in
set_option maxRecDepth 100000 in
theorem rX2_tableRoom (l : Launch) (g : Gr) (ad : Nat → Nat) (sz : Nat) (S : MS) (hw : wfC S) (Q : Int32 → MS → Prop) (h : wX2_tableRoom S Q) : Met l yX2_tableRoom (wt yX2_tableRoom cX2_tableRoom 4 (some .int)) ({ frames := 4, cells := 0, slots := 0, locals := 88 }) (va_Pc [.ref (ad 8)] (st_C g ad sz S)) (va_Qi (fun (r : Int32) (u : MS) => Q r u ∧ wfC u ∧ shy S u) (fun (u : MS) (t : State) => qEC g ad (va_A (WdC g ad S) sz) u t) (va_A (WdC g ad S) sz)) 0 0 (va_A (WdC g ad S) sz) := by
  refine Met.ofW (cc := cX2_tableRoom) (maxL := 4) (ret := (some .int)) (by decide) rfl ?_
  intro p e s m args below meth c s₁ B hml hv
  obtain ⟨rfl, hsz, hP, hK, hD0, hex, hE⟩ := hv
  have hx := B.exec
  have hb := B.bytes
  have hr := B.returns
  have hts0 := atoms_spec (ws := wt yX2_tableRoom cX2_tableRoom 4 (some .int)) B.pre
  have hts : ∀ w ∈ tb, w.before _ s = true := fun w h => hts0 w (List.mem_cons_of_mem _ h)
  have hown : s.vm.findClass RX2 = some m.cls := findClass_of_methodNamed B.named
  subst hsz
  have hD := hD0.self (sz := s.heap.size)
  generalize hAe : va_A (WdC g ad S) s.heap.size = A at hD hE ⊢
  have hA : ∀ q : Nat, s.heap.size ≤ q → A q := fun q h => by rw [← hAe]; exact Or.inr h
  have hR : RepC g ad A s S s.heap [] := ⟨hK, hP, hD, va_S.rf, hw⟩
  clear hK hP hD hD0
  have hl := lv_entry ([.ref (ad 8)]) (n := 4) (Nat.le_of_ble_eq_true rfl)
  rw [lg_entry_eq]
  generalize (lg_sl ([.ref (ad 8)]) ++ List.replicate (4 - (lg_sl ([.ref (ad 8)])).length) Slot.unset).toArray = ls at hl ⊢
  have hl : lv_has ls 4 [(0, .ref (ad 8))] := hl
  have hsh : shy S S := shy.rf
  unfold wX2_tableRoom at h
  refine lv_iconst (v := 0) hx hb dX2_tableRoom_0 (by decide) ?_
  refine lv_istore_n (lv' := [(1, .int 0), (0, .ref (ad 8))]) hx hb dX2_tableRoom_1 rfl hl (by decide) rfl (fun ls hl => ?_)
  refine lv_iconst (v := 0) hx hb dX2_tableRoom_2 (by decide) ?_
  refine lv_istore_n (lv' := [(2, .int 0), (1, .int 0), (0, .ref (ad 8))]) hx hb dX2_tableRoom_3 rfl hl (by decide) rfl (fun ls hl => ?_)
  have J_4 : ∀ (n4 : Nat) (U4 : MS) (v4_1 : Int32) (v4_2 : Int32) (H : Heap) (locs : List Loc) (ls : Array Slot), w_X2_tableRoom_L4 Q n4 U4 v4_1 v4_2 → shy S U4 → RepC g ad A s U4 H locs → lv_has ls 4 [(0, .ref (ad 8)), (1, .int v4_1), (2, .int v4_2)] → W p l e (headSpec (wt yX2_tableRoom cX2_tableRoom 4 (some .int)) ({ frames := 4, cells := 0, slots := 0, locals := 88 })).room s m ([.ref (ad 8)] : List Value).toArray below meth c H locs 0 0 (MQ below (va_Qi (fun (r : Int32) (u : MS) => Q r u ∧ wfC u ∧ shy S u) (fun (u : MS) (t : State) => qEC g ad A u t) A) ([.ref (ad 8)] : List Value).toArray s 0 0 A) (F0 m 4 ls []) := by
    intro n4
    induction n4 with
    | zero => intro U4 v4_1 v4_2 H locs ls h hsh hR hl; unfold w_X2_tableRoom_L4 at h; exact h.elim
    | succ n4 ih_4 =>
      intro U4 v4_1 v4_2 H locs ls h hsh hR hl
      unfold w_X2_tableRoom_L4 at h
      replace h := h hR.w
      refine lv_iload_n hx hb dX2_tableRoom_4 rfl (lv_at hl 2 rfl) ?_
      refine lv_aload_n hx hb dX2_tableRoom_5 rfl (lv_at hl 0 rfl) ?_
      refine va_get (D := rD g) (ci := 2) (v := .int (qI U4 8 2)) (C := RX2) (T := TX2) (N := 12) hx hb hts inX2 hown hR.K hR.P 8 (hR.at42 (hR.w.2.1 _ finC_26).2.1) rfl 2 (by decide) (hts _ kw_716) (fun _ h9 => h9) rfl dX2_tableRoom_6 ?_
      refine lv_icmp_ge (tgt := 74) hx hb dX2_tableRoom_9 (by decide) (fun c1 => ?_) (fun c1 => ?_)
      · replace h := h.1 (k_le rfl rfl c1)
        refine lv_iconst (v := 0) hx hb dX2_tableRoom_74 (by decide) ?_
        refine lv_iload_n hx hb dX2_tableRoom_75 rfl (lv_at hl 1 rfl) ?_
        refine va_mmax hx hb (by rw [hml]; exact hl.1.symm) hown (hts _ kw_759) (hts _ kw_1747) (hts _ kw_1748) (hts _ kw_1746) (Nat.le_of_ble_eq_true rfl) (Nat.le_of_ble_eq_true rfl) (Nat.le_of_ble_eq_true rfl) (Nat.le_of_ble_eq_true rfl) dX2_tableRoom_76 ?_
        refine lv_topi (fun z2 ez2 => ?_)
        obtain rfl : z2 = (if (0 : Int32) < v4_1 then v4_1 else (0 : Int32)) := ez2
        exact W.iret (v := (if (0 : Int32) < v4_1 then v4_1 else (0 : Int32))) hx hb hr (fun t9 ht9 hW9 => ⟨⟨_, U4, rfl, ⟨h, hR.w, hsh⟩, ⟨by rw [ht9]; exact hR.P, hR.D⟩⟩, hR.sS.F ht9⟩) hR.sS.2.2 dX2_tableRoom_79
      · replace h := h.2 (k_nle rfl rfl c1)
        refine lv_aload_n hx hb dX2_tableRoom_12 rfl (lv_at hl 0 rfl) ?_
        refine lv_iload_n hx hb dX2_tableRoom_13 rfl (lv_at hl 2 rfl) ?_
        obtain ⟨Q3, h0, h⟩ := h
        have hFc := cfree hR hA
        refine va_callv (va_runV (As := [.int v4_2]) (rest := []) ⟨hx, hb, hml, hown, hts⟩ (rX2_decode l g ad H.size U4 v4_2 hR.w  Q3 h0) (cwV 1 hts (gd_V kw_769 kw_680 kw_681 kw_389 kw_679) rfl rfl rfl (by decide +kernel) ⟨Nat.le_of_ble_eq_true rfl, Nat.le_of_ble_eq_true rfl⟩) ⟨cblind, va_recv hR.K hR.P (ci := 2) (q0 := 8) rfl (hR.at42 (hR.w.2.1 _ finC_26).2.1), fun U hU hW9 => cmk hU hW9 hR hex hE hFc⟩ rfl rfl hl.1 rfl (lv_room (Nat.le_of_ble_eq_true rfl)) dX2_tableRoom_14 ⟨Nat.le_of_ble_eq_true rfl, Nat.le_of_ble_eq_true rfl⟩) hR.sS (fun q _ h => hFc q h) hFc (fun  S4 t9 H1 locs ht9 hvm9 hw9 hB9 hz9 hk9 hS => ?_)
        obtain ⟨hq5, hw9, hs9⟩ := hw9
        have hR : RepC g ad A s S4 H1 locs := hR.call ht9 hB9 hw9 hS hFc
        have hsh := hsh.tr hs9
        replace h := h  S4 hq5 hw9 hs9
        clear hB9 hz9 hk9 hvm9 ht9 hw9 hs9 hS
        generalize H1 = H at hR ⊢
        refine lv_aload_n hx hb dX2_tableRoom_17 rfl (lv_at hl 0 rfl) ?_
        refine va_get (D := rD g) (ci := 2) (v := .int (qI S4 8 9)) (C := RX2) (T := TX2) (N := 12) hx hb hts inX2 hown hR.K hR.P 8 (hR.at42 (hR.w.2.1 _ finC_26).2.1) rfl 9 (by decide) (hts _ kw_619) (fun _ h9 => h9) rfl dX2_tableRoom_18 ?_
        obtain ⟨hv6, h⟩ := h
        have hFc := cfree hR hA
        refine va_calli (va_runS (As := [.int (qI S4 8 9)]) (rest := []) ⟨hx, hb, hml, hown, hts⟩ (rX6_isSwitch l g ad H.size S4 (qI S4 8 9) hR.w  hv6) (va_cwS 1 hts (gd_S kw_630 kw_1233 kw_1207 kw_1232) rfl rfl rfl (by decide +kernel) ⟨Nat.le_of_ble_eq_true rfl, Nat.le_of_ble_eq_true rfl⟩) ⟨cblind, fun U hU hW9 => cmk hU hW9 hR hex hE hFc⟩ rfl rfl hl.1 rfl (lv_room (Nat.le_of_ble_eq_true rfl)) dX2_tableRoom_21 ⟨Nat.le_of_ble_eq_true rfl, Nat.le_of_ble_eq_true rfl⟩) hR.sS (fun q _ h => hFc q h) hFc (fun r7 u9 t9 H1 locs ht9 hvm9 hw9 hB9 hz9 hk9 hS => ?_)
        have hR : RepC g ad A s S4 H1 locs := hR.call ht9 hB9 hR.w hS hFc
        obtain ⟨rfl, hz_r7⟩ := hw9
        clear hB9 hz9 hk9 hvm9 ht9 hS
        generalize H1 = H at hR ⊢
        have J_59 : ∀ (U59 : MS) (v59_1 : Int32) (v59_2 : Int32) (H : Heap) (locs : List Loc) (ls : Array Slot), w_X2_tableRoom_J59 Q (w_X2_tableRoom_L4 Q n4) U59 v59_1 v59_2 → shy S U59 → RepC g ad A s U59 H locs → lv_has ls 4 [(0, .ref (ad 8)), (1, .int v59_1), (2, .int v59_2)] → W p l e (headSpec (wt yX2_tableRoom cX2_tableRoom 4 (some .int)) ({ frames := 4, cells := 0, slots := 0, locals := 88 })).room s m ([.ref (ad 8)] : List Value).toArray below meth c H locs 0 0 (MQ below (va_Qi (fun (r : Int32) (u : MS) => Q r u ∧ wfC u ∧ shy S u) (fun (u : MS) (t : State) => qEC g ad A u t) A) ([.ref (ad 8)] : List Value).toArray s 0 0 A) (F0 m 59 ls []) := by
          intro U59 v59_1 v59_2 H locs ls h hsh hR hl
          unfold w_X2_tableRoom_J59 at h
          replace h := h hR.w
          refine lv_iload_n hx hb dX2_tableRoom_59 rfl (lv_at hl 2 rfl) ?_
          refine lv_iconst (v := 1) hx hb dX2_tableRoom_60 (by decide) ?_
          refine lv_aload_n hx hb dX2_tableRoom_61 rfl (lv_at hl 0 rfl) ?_
          refine lv_iload_n hx hb dX2_tableRoom_62 rfl (lv_at hl 2 rfl) ?_
          obtain ⟨Q9, h0, h⟩ := h
          have hFc := cfree hR hA
          refine va_calli (va_runV (As := [.int v59_2]) (rest := [.int 1, .int v59_2]) ⟨hx, hb, hml, hown, hts⟩ (rX2_lengthAt l g ad H.size U59 v59_2 hR.w  Q9 h0) (cwV 1 hts (gd_V kw_717 kw_723 kw_724 kw_389 kw_722) rfl rfl rfl (by decide +kernel) ⟨Nat.le_of_ble_eq_true rfl, Nat.le_of_ble_eq_true rfl⟩) ⟨cblind, va_recv hR.K hR.P (ci := 2) (q0 := 8) rfl (hR.at42 (hR.w.2.1 _ finC_26).2.1), fun U hU hW9 => cmk hU hW9 hR hex hE hFc⟩ rfl rfl hl.1 rfl (lv_room (Nat.le_of_ble_eq_true rfl)) dX2_tableRoom_63 ⟨Nat.le_of_ble_eq_true rfl, Nat.le_of_ble_eq_true rfl⟩) hR.sS (fun q _ h => hFc q h) hFc (fun r10 S11 t9 H1 locs ht9 hvm9 hw9 hB9 hz9 hk9 hS => ?_)
          obtain ⟨hq12, hw9, hs9⟩ := hw9
          have hR : RepC g ad A s S11 H1 locs := hR.call ht9 hB9 hw9 hS hFc
          have hsh := hsh.tr hs9
          replace h := h r10 S11 hq12 hw9 hs9
          clear hB9 hz9 hk9 hvm9 ht9 hw9 hs9 hS
          generalize H1 = H at hR ⊢
          refine va_mmax hx hb (by rw [hml]; exact hl.1.symm) hown (hts _ kw_759) (hts _ kw_1747) (hts _ kw_1748) (hts _ kw_1746) (Nat.le_of_ble_eq_true rfl) (Nat.le_of_ble_eq_true rfl) (Nat.le_of_ble_eq_true rfl) (Nat.le_of_ble_eq_true rfl) dX2_tableRoom_66 ?_
          refine lv_topi (fun z13 ez13 => ?_)
          obtain rfl : z13 = (if (1 : Int32) < r10 then r10 else (1 : Int32)) := ez13
          refine lv_iadd hx hb dX2_tableRoom_69 ?_
          refine lv_topi (fun z14 ez14 => ?_)
          obtain rfl : z14 = (v59_2 + (if (1 : Int32) < r10 then r10 else (1 : Int32))) := ez14
          obtain ⟨a15, ea15⟩ : ∃ z, z = (v59_2 + (if (1 : Int32) < r10 then r10 else (1 : Int32))) := ⟨_, rfl⟩
          rw [← ea15]
          replace h := h a15 ea15
          refine lv_istore_n (lv' := [(2, .int a15), (0, .ref (ad 8)), (1, .int v59_1)]) hx hb dX2_tableRoom_70 rfl hl (by decide) rfl (fun ls hl => ?_)
          refine lv_goto (tgt := 4) hx hb dX2_tableRoom_71 (by decide) ?_
          exact ih_4 S11 v59_1 a15 _ _ ls h  hsh hR (lv_sub hl [1, 2, 0] rfl)
        refine lv_if_eq (tgt := 59) hx hb dX2_tableRoom_24 (by decide) (fun c16 => ?_) (fun c16 => ?_)
        · replace h := h.1 (k_eq rfl (by decide) c16)
          exact J_59 S4 v4_1 v4_2 _ _ ls h  hsh hR (lv_sub hl [0, 1, 2] rfl)
        · replace h := h.2 (k_ne rfl (by decide) c16)
          refine lv_aload_n hx hb dX2_tableRoom_27 rfl (lv_at hl 0 rfl) ?_
          refine lv_aload_n hx hb dX2_tableRoom_28 rfl (lv_at hl 0 rfl) ?_
          refine va_get (D := rD g) (ci := 2) (v := .long (qJ S4 8 10)) (C := RX2) (T := TX2) (N := 12) hx hb hts inX2 hown hR.K hR.P 8 (hR.at42 (hR.w.2.1 _ finC_26).2.1) rfl 10 (by decide) (hts _ kw_617) (fun _ h9 => h9) rfl dX2_tableRoom_29 ?_
          refine lv_l2i (v := ((qJ S4 8 10).toInt32)) hx hb dX2_tableRoom_32 rfl ?_
          obtain ⟨hv17, h⟩ := h
          have hFc := cfree hR hA
          refine va_calli (va_runV (As := [.int ((qJ S4 8 10).toInt32)]) (rest := []) ⟨hx, hb, hml, hown, hts⟩ (rX2_switchCount l g ad H.size S4 ((qJ S4 8 10).toInt32) hR.w  hv17) (cwV 1 hts (gd_V kw_618 kw_796 kw_797 kw_389 kw_795) rfl rfl rfl (by decide +kernel) ⟨Nat.le_of_ble_eq_true rfl, Nat.le_of_ble_eq_true rfl⟩) ⟨cblind, va_recv hR.K hR.P (ci := 2) (q0 := 8) rfl (hR.at42 (hR.w.2.1 _ finC_26).2.1), fun U hU hW9 => cmk hU hW9 hR hex hE hFc⟩ rfl rfl hl.1 rfl (lv_room (Nat.le_of_ble_eq_true rfl)) dX2_tableRoom_33 ⟨Nat.le_of_ble_eq_true rfl, Nat.le_of_ble_eq_true rfl⟩) hR.sS (fun q _ h => hFc q h) hFc (fun r18 u9 t9 H1 locs ht9 hvm9 hw9 hB9 hz9 hk9 hS => ?_)
          have hR : RepC g ad A s S4 H1 locs := hR.call ht9 hB9 hR.w hS hFc
          obtain rfl : r18 = (fX2_switchCount S4 ((qJ S4 8 10).toInt32)) := hw9
          clear hB9 hz9 hk9 hvm9 ht9 hS
          generalize H1 = H at hR ⊢
          obtain ⟨a20, ea20⟩ : ∃ z, z = (fX2_switchCount S4 ((qJ S4 8 10).toInt32)) := ⟨_, rfl⟩
          rw [← ea20]
          replace h := h a20 ea20
          refine lv_istore_n (lv' := [(3, .int a20), (0, .ref (ad 8)), (1, .int v4_1), (2, .int v4_2)]) hx hb dX2_tableRoom_36 rfl hl (by decide) rfl (fun ls hl => ?_)
          refine lv_iload_n hx hb dX2_tableRoom_37 rfl (lv_at hl 2 rfl) ?_
          refine lv_iconst (v := 3) hx hb dX2_tableRoom_38 (by decide) ?_
          refine lv_aload_n hx hb dX2_tableRoom_39 rfl (lv_at hl 1 rfl) ?_
          refine va_get (D := rD g) (ci := 2) (v := .int (qI S4 8 9)) (C := RX2) (T := TX2) (N := 12) hx hb hts inX2 hown hR.K hR.P 8 (hR.at42 (hR.w.2.1 _ finC_26).2.1) rfl 9 (by decide) (hts _ kw_619) (fun _ h9 => h9) rfl dX2_tableRoom_40 ?_
          refine lv_sipush (v := 170) hx hb dX2_tableRoom_43 (by decide) ?_
          have J_56 : ∀ (U56 : MS) (t56_0 : Int32) (t56_1 : Int32) (t56_2 : Int32) (v56_2 : Int32) (H : Heap) (locs : List Loc) (ls : Array Slot), w_X2_tableRoom_J56 Q (w_X2_tableRoom_L4 Q n4) U56 t56_0 t56_1 t56_2 v56_2 → shy S U56 → RepC g ad A s U56 H locs → lv_has ls 4 [(0, .ref (ad 8)), (2, .int v56_2)] → W p l e (headSpec (wt yX2_tableRoom cX2_tableRoom 4 (some .int)) ({ frames := 4, cells := 0, slots := 0, locals := 88 })).room s m ([.ref (ad 8)] : List Value).toArray below meth c H locs 0 0 (MQ below (va_Qi (fun (r : Int32) (u : MS) => Q r u ∧ wfC u ∧ shy S u) (fun (u : MS) (t : State) => qEC g ad A u t) A) ([.ref (ad 8)] : List Value).toArray s 0 0 A) (F0 m 56 ls [.int t56_0, .int t56_1, .int t56_2]) := by
            intro U56 t56_0 t56_1 t56_2 v56_2 H locs ls h hsh hR hl
            unfold w_X2_tableRoom_J56 at h
            replace h := h hR.w
            refine lv_iadd hx hb dX2_tableRoom_56 ?_
            refine lv_topi (fun z21 ez21 => ?_)
            obtain rfl : z21 = (t56_1 + t56_0) := ez21
            refine lv_iadd hx hb dX2_tableRoom_57 ?_
            refine lv_topi (fun z22 ez22 => ?_)
            obtain rfl : z22 = (t56_2 + (t56_1 + t56_0)) := ez22
            obtain ⟨a23, ea23⟩ : ∃ z, z = (t56_2 + (t56_1 + t56_0)) := ⟨_, rfl⟩
            rw [← ea23]
            replace h := h a23 ea23
            refine lv_istore_n (lv' := [(1, .int a23), (0, .ref (ad 8)), (2, .int v56_2)]) hx hb dX2_tableRoom_58 rfl hl (by decide) rfl (fun ls hl => ?_)
            exact J_59 U56 a23 v56_2 _ _ ls h  hsh hR (lv_sub hl [1, 0, 2] rfl)
          refine lv_icmp_ne (tgt := 53) hx hb dX2_tableRoom_46 (by decide) (fun c24 => ?_) (fun c24 => ?_)
          · replace h := h.2 (k_ne rfl (by decide) c24)
            refine lv_iconst (v := 2) hx hb dX2_tableRoom_53 (by decide) ?_
            refine lv_iload_n hx hb dX2_tableRoom_54 rfl (lv_at hl 0 rfl) ?_
            refine lv_imul hx hb dX2_tableRoom_55 ?_
            refine lv_topi (fun z25 ez25 => ?_)
            obtain rfl : z25 = ((2 : Int32) * a20) := ez25
            exact J_56 S4 ((2 : Int32) * a20) 3 v4_1 v4_2 _ _ ls h  hsh hR (lv_sub hl [1, 3] rfl)
          · replace h := h.1 (k_eq rfl (by decide) c24)
            refine lv_iload_n hx hb dX2_tableRoom_49 rfl (lv_at hl 0 rfl) ?_
            refine lv_goto (tgt := 56) hx hb dX2_tableRoom_50 (by decide) ?_
            exact J_56 S4 a20 3 v4_1 v4_2 _ _ ls h  hsh hR (lv_sub hl [1, 3] rfl)
  obtain ⟨n9, h⟩ := h
  exact J_4 n9 S 0 0 _ _ ls h  hsh hR (lv_sub hl [2, 1, 0] rfl)
def w_X2_addTo_J179 (Q : MS → Prop) (U179 : MS) (v179_1 : Nat) : Prop := (wfC U179 → qT U179 v179_1 = 47 → (∃ Q9, wX2_memberOf U179 ((qJ U179 8 10).toInt32) (9 : Int32) Q9 ∧ ∀ r10 S11, Q9 r10 S11 → wfC S11 → shy U179 S11 → (qT S11 v179_1 = 47 → (∃ Q13, wX8_add S11 v179_1 (qI U179 8 9) (r10.toInt64) Q13 ∧ ∀ S14, Q13 S14 → wfC S14 → shy S11 S14 → Q S14))))
def wX2_addTo (S : MS) (p1 : Nat) (Q : MS → Prop) : Prop := (d_X6_isJump S (qI S 8 9) ∧ (((fX6_isJump S (qI S 8 9)).toInt = 0 → (d_X6_isSwitch S (qI S 8 9) ∧ (((fX6_isSwitch S (qI S 8 9)).toInt = 0 → (((qI S 8 9).toInt = 9 → (qT S p1 = 47 → (∃ Q16, wX8_add S p1 (20 : Int32) (qJ S 8 10) Q16 ∧ ∀ S17, Q16 S17 → wfC S17 → shy S S17 → Q S17))) ∧ (¬ (qI S 8 9).toInt = 9 → (((qI S 8 9).toInt = 19 → (d_X7_entryAt S ((qJ S 8 10).toInt32) ∧ (d_X7_s4 S ((fX7_entryAt S ((qJ S 8 10).toInt32)) + (1 : Int32)) ∧ (qT S p1 = 47 → (∃ Q26, wX8_add S p1 (17 : Int32) ((fX7_s4 S ((fX7_entryAt S ((qJ S 8 10).toInt32)) + (1 : Int32))).toInt64) Q26 ∧ ∀ S27, Q26 S27 → wfC S27 → shy S S27 → Q S27))))) ∧ (¬ (qI S 8 9).toInt = 19 → (((qI S 8 9).toInt = 20 → (d_X7_entryAt S ((qJ S 8 10).toInt32) ∧ (d_X2_longAt S ((fX7_entryAt S ((qJ S 8 10).toInt32)) + (1 : Int32)) ∧ (qT S p1 = 47 → (∃ Q36, wX8_add S p1 (20 : Int32) (fX2_longAt S ((fX7_entryAt S ((qJ S 8 10).toInt32)) + (1 : Int32))) Q36 ∧ ∀ S37, Q36 S37 → wfC S37 → shy S S37 → Q S37))))) ∧ (¬ (qI S 8 9).toInt = 20 → (((qI S 8 9).toInt = 178 → w_X2_addTo_J179 Q S p1) ∧ (¬ (qI S 8 9).toInt = 178 → (((qI S 8 9).toInt = 179 → w_X2_addTo_J179 Q S p1) ∧ (¬ (qI S 8 9).toInt = 179 → (((qI S 8 9).toInt = 184 → (∃ Q39, wX2_memberOf S ((qJ S 8 10).toInt32) (10 : Int32) Q39 ∧ ∀ r40 S41, Q39 r40 S41 → wfC S41 → shy S S41 → (qT S41 p1 = 47 → (∃ Q43, wX8_add S41 p1 (qI S 8 9) (r40.toInt64) Q43 ∧ ∀ S44, Q43 S44 → wfC S44 → shy S41 S44 → Q S44)))) ∧ (¬ (qI S 8 9).toInt = 184 → (qT S p1 = 47 → (∃ Q46, wX8_add S p1 (qI S 8 9) (qJ S 8 10) Q46 ∧ ∀ S47, Q46 S47 → wfC S47 → shy S S47 → Q S47))))))))))))))) ∧ (¬ (fX6_isSwitch S (qI S 8 9)).toInt = 0 → (qT S p1 = 47 → (∃ Q49, wX2_addSwitch S p1 Q49 ∧ ∀ S50, Q49 S50 → wfC S50 → shy S S50 → Q S50)))))) ∧ (¬ (fX6_isJump S (qI S 8 9)).toInt = 0 → (d_X2_numberOf S (qJ S 8 10) ∧ (qT S p1 = 47 → (∃ Q55, wX8_add S p1 (qI S 8 9) ((fX2_numberOf S (qJ S 8 10)).toInt64) Q55 ∧ ∀ S56, Q55 S56 → wfC S56 → shy S S56 → Q S56))))))
set_option maxHeartbeats 2000000 in
set_option maxRecDepth 100000 in
theorem rX2_addTo (l : Launch) (g : Gr) (ad : Nat → Nat) (sz : Nat) (S : MS) (p1 : Nat) (hw : wfC S) (hT_p1 : qT S p1 = 47) (Q : MS → Prop) (h : wX2_addTo S p1 Q) : Met l yX2_addTo (wt yX2_addTo cX2_addTo 2 none) ({ frames := 4, cells := 0, slots := 0, locals := 88 }) (va_Pc [.ref (ad 8), .ref (ad p1)] (st_C g ad sz S)) (va_Qv (fun (u : MS) => Q u ∧ wfC u ∧ shy S u) (fun (u : MS) (t : State) => qEC g ad (va_A (WdC g ad S) sz) u t) (va_A (WdC g ad S) sz)) 0 0 (va_A (WdC g ad S) sz) := by
  refine Met.ofW (cc := cX2_addTo) (maxL := 2) (ret := none) (by decide) rfl ?_
  intro p e s m args below meth c s₁ B hml hv
  obtain ⟨rfl, hsz, hP, hK, hD0, hex, hE⟩ := hv
  have hx := B.exec
  have hb := B.bytes
  have hr := B.returns
  have hts0 := atoms_spec (ws := wt yX2_addTo cX2_addTo 2 none) B.pre
  have hts : ∀ w ∈ tb, w.before _ s = true := fun w h => hts0 w (List.mem_cons_of_mem _ h)
  have hown : s.vm.findClass RX2 = some m.cls := findClass_of_methodNamed B.named
  subst hsz
  have hD := hD0.self (sz := s.heap.size)
  generalize hAe : va_A (WdC g ad S) s.heap.size = A at hD hE ⊢
  have hA : ∀ q : Nat, s.heap.size ≤ q → A q := fun q h => by rw [← hAe]; exact Or.inr h
  have hR : RepC g ad A s S s.heap [] := ⟨hK, hP, hD, va_S.rf, hw⟩
  clear hK hP hD hD0
  have hl := lv_entry ([.ref (ad 8), .ref (ad p1)]) (n := 2) (Nat.le_of_ble_eq_true rfl)
  rw [lg_entry_eq]
  generalize (lg_sl ([.ref (ad 8), .ref (ad p1)]) ++ List.replicate (2 - (lg_sl ([.ref (ad 8), .ref (ad p1)])).length) Slot.unset).toArray = ls at hl ⊢
  have hl : lv_has ls 2 [(0, .ref (ad 8)), (1, .ref (ad p1))] := hl
  have hsh : shy S S := shy.rf
  unfold wX2_addTo at h
  refine lv_aload_n hx hb dX2_addTo_0 rfl (lv_at hl 0 rfl) ?_
  refine va_get (D := rD g) (ci := 2) (v := .int (qI S 8 9)) (C := RX2) (T := TX2) (N := 12) hx hb hts inX2 hown hR.K hR.P 8 (hR.at42 (hR.w.2.1 _ finC_26).2.1) rfl 9 (by decide) (hts _ kw_619) (fun _ h9 => h9) rfl dX2_addTo_1 ?_
  obtain ⟨hv1, h⟩ := h
  have hFc := cfree hR hA
  refine va_calli (va_runS (As := [.int (qI S 8 9)]) (rest := []) ⟨hx, hb, hml, hown, hts⟩ (rX6_isJump l g ad s.heap.size S (qI S 8 9) hR.w  hv1) (va_cwS 1 hts (gd_S kw_629 kw_1225 kw_1207 kw_1224) rfl rfl rfl (by decide +kernel) ⟨Nat.le_of_ble_eq_true rfl, Nat.le_of_ble_eq_true rfl⟩) ⟨cblind, fun U hU hW9 => cmk hU hW9 hR hex hE hFc⟩ rfl rfl hl.1 rfl (lv_room (Nat.le_of_ble_eq_true rfl)) dX2_addTo_4 ⟨Nat.le_of_ble_eq_true rfl, Nat.le_of_ble_eq_true rfl⟩) hR.sS (fun q _ h => hFc q h) hFc (fun r2 u9 t9 H1 locs ht9 hvm9 hw9 hB9 hz9 hk9 hS => ?_)
  have hR : RepC g ad A s S H1 locs := hR.call ht9 hB9 hR.w hS hFc
  obtain ⟨rfl, hz_r2⟩ := hw9
  clear hB9 hz9 hk9 hvm9 ht9 hS
  generalize H1 = H at hR ⊢
  refine lv_if_eq (tgt := 28) hx hb dX2_addTo_7 (by decide) (fun c4 => ?_) (fun c4 => ?_)
  · replace h := h.1 (k_eq rfl (by decide) c4)
    refine lv_aload_n hx hb dX2_addTo_28 rfl (lv_at hl 0 rfl) ?_
    refine va_get (D := rD g) (ci := 2) (v := .int (qI S 8 9)) (C := RX2) (T := TX2) (N := 12) hx hb hts inX2 hown hR.K hR.P 8 (hR.at42 (hR.w.2.1 _ finC_26).2.1) rfl 9 (by decide) (hts _ kw_619) (fun _ h9 => h9) rfl dX2_addTo_29 ?_
    obtain ⟨hv5, h⟩ := h
    have hFc := cfree hR hA
    refine va_calli (va_runS (As := [.int (qI S 8 9)]) (rest := []) ⟨hx, hb, hml, hown, hts⟩ (rX6_isSwitch l g ad H.size S (qI S 8 9) hR.w  hv5) (va_cwS 1 hts (gd_S kw_630 kw_1233 kw_1207 kw_1232) rfl rfl rfl (by decide +kernel) ⟨Nat.le_of_ble_eq_true rfl, Nat.le_of_ble_eq_true rfl⟩) ⟨cblind, fun U hU hW9 => cmk hU hW9 hR hex hE hFc⟩ rfl rfl hl.1 rfl (lv_room (Nat.le_of_ble_eq_true rfl)) dX2_addTo_32 ⟨Nat.le_of_ble_eq_true rfl, Nat.le_of_ble_eq_true rfl⟩) hR.sS (fun q _ h => hFc q h) hFc (fun r6 u9 t9 H1 locs ht9 hvm9 hw9 hB9 hz9 hk9 hS => ?_)
    have hR : RepC g ad A s S H1 locs := hR.call ht9 hB9 hR.w hS hFc
    obtain ⟨rfl, hz_r6⟩ := hw9
    clear hB9 hz9 hk9 hvm9 ht9 hS
    generalize H1 = H at hR ⊢
    refine lv_if_eq (tgt := 44) hx hb dX2_addTo_35 (by decide) (fun c8 => ?_) (fun c8 => ?_)
    · replace h := h.1 (k_eq rfl (by decide) c8)
      refine lv_aload_n hx hb dX2_addTo_44 rfl (lv_at hl 0 rfl) ?_
      refine va_get (D := rD g) (ci := 2) (v := .int (qI S 8 9)) (C := RX2) (T := TX2) (N := 12) hx hb hts inX2 hown hR.K hR.P 8 (hR.at42 (hR.w.2.1 _ finC_26).2.1) rfl 9 (by decide) (hts _ kw_619) (fun _ h9 => h9) rfl dX2_addTo_45 ?_
      have J_179 : ∀ (U179 : MS) (v179_1 : Nat) (H : Heap) (locs : List Loc) (ls : Array Slot), w_X2_addTo_J179 Q U179 v179_1 → qT U179 v179_1 = 47 → shy S U179 → RepC g ad A s U179 H locs → lv_has ls 2 [(0, .ref (ad 8)), (1, .ref (ad v179_1))] → W p l e (headSpec (wt yX2_addTo cX2_addTo 2 none) ({ frames := 4, cells := 0, slots := 0, locals := 88 })).room s m ([.ref (ad 8), .ref (ad p1)] : List Value).toArray below meth c H locs 0 0 (MQ below (va_Qv (fun (u : MS) => Q u ∧ wfC u ∧ shy S u) (fun (u : MS) (t : State) => qEC g ad A u t) A) ([.ref (ad 8), .ref (ad p1)] : List Value).toArray s 0 0 A) (F0 m 179 ls []) := by
        intro U179 v179_1 H locs ls h hT_v179_1 hsh hR hl
        unfold w_X2_addTo_J179 at h
        replace h := h hR.w hT_v179_1
        refine lv_aload_n hx hb dX2_addTo_179 rfl (lv_at hl 1 rfl) ?_
        refine lv_aload_n hx hb dX2_addTo_180 rfl (lv_at hl 0 rfl) ?_
        refine va_get (D := rD g) (ci := 2) (v := .int (qI U179 8 9)) (C := RX2) (T := TX2) (N := 12) hx hb hts inX2 hown hR.K hR.P 8 (hR.at42 (hR.w.2.1 _ finC_26).2.1) rfl 9 (by decide) (hts _ kw_619) (fun _ h9 => h9) rfl dX2_addTo_181 ?_
        refine lv_aload_n hx hb dX2_addTo_184 rfl (lv_at hl 0 rfl) ?_
        refine lv_aload_n hx hb dX2_addTo_185 rfl (lv_at hl 0 rfl) ?_
        refine va_get (D := rD g) (ci := 2) (v := .long (qJ U179 8 10)) (C := RX2) (T := TX2) (N := 12) hx hb hts inX2 hown hR.K hR.P 8 (hR.at42 (hR.w.2.1 _ finC_26).2.1) rfl 10 (by decide) (hts _ kw_617) (fun _ h9 => h9) rfl dX2_addTo_186 ?_
        refine lv_l2i (v := ((qJ U179 8 10).toInt32)) hx hb dX2_addTo_189 rfl ?_
        refine lv_bipush (v := 9) hx hb dX2_addTo_190 (by decide) ?_
        obtain ⟨Q9, h0, h⟩ := h
        have hFc := cfree hR hA
        refine va_calli (va_runV (As := [.int ((qJ U179 8 10).toInt32), .int 9]) (rest := [.int (qI U179 8 9), .ref (ad v179_1)]) ⟨hx, hb, hml, hown, hts⟩ (rX2_memberOf l g ad H.size U179 ((qJ U179 8 10).toInt32) (9 : Int32) hR.w  Q9 h0) (cwV 2 hts (gd_V kw_636 kw_750 kw_751 kw_389 kw_749) rfl rfl rfl (by decide +kernel) ⟨Nat.le_of_ble_eq_true rfl, Nat.le_of_ble_eq_true rfl⟩) ⟨cblind, va_recv hR.K hR.P (ci := 2) (q0 := 8) rfl (hR.at42 (hR.w.2.1 _ finC_26).2.1), fun U hU hW9 => cmk hU hW9 hR hex hE hFc⟩ rfl rfl hl.1 rfl (lv_room (Nat.le_of_ble_eq_true rfl)) dX2_addTo_192 ⟨Nat.le_of_ble_eq_true rfl, Nat.le_of_ble_eq_true rfl⟩) hR.sS (fun q _ h => hFc q h) hFc (fun r10 S11 t9 H1 locs ht9 hvm9 hw9 hB9 hz9 hk9 hS => ?_)
        obtain ⟨hq12, hw9, hs9⟩ := hw9
        have hR : RepC g ad A s S11 H1 locs := hR.call ht9 hB9 hw9 hS hFc
        have hsh := hsh.tr hs9
        replace h := h r10 S11 hq12 hw9 hs9
        have hT_v179_1 := hs9.T hT_v179_1 (by decide)
        clear hB9 hz9 hk9 hvm9 ht9 hw9 hs9 hS
        generalize H1 = H at hR ⊢
        refine lv_i2l (v := (r10.toInt64)) hx hb dX2_addTo_195 rfl ?_
        replace h := h (hT_v179_1)
        obtain ⟨Q13, h0, h⟩ := h
        have hFc := cfree hR hA
        refine va_callv (va_runV (As := [.int (qI U179 8 9), .long (r10.toInt64)]) (rest := []) ⟨hx, hb, hml, hown, hts⟩ (rX8_add l g ad H.size S11 v179_1 (qI U179 8 9) (r10.toInt64) hR.w hT_v179_1 Q13 h0) (cwV 2 hts (gd_V kw_621 kw_1457 kw_1458 kw_782 kw_1456) rfl rfl rfl (by decide +kernel) ⟨Nat.le_of_ble_eq_true rfl, Nat.le_of_ble_eq_true rfl⟩) ⟨cblind, va_recv hR.K hR.P (ci := 7) (q0 := v179_1) rfl (hR.at47 hT_v179_1), fun U hU hW9 => cmk hU hW9 hR hex hE hFc⟩ rfl rfl hl.1 rfl (lv_room (Nat.le_of_ble_eq_true rfl)) dX2_addTo_196 ⟨Nat.le_of_ble_eq_true rfl, Nat.le_of_ble_eq_true rfl⟩) hR.sS (fun q _ h => hFc q h) hFc (fun  S14 t9 H1 locs ht9 hvm9 hw9 hB9 hz9 hk9 hS => ?_)
        obtain ⟨hq15, hw9, hs9⟩ := hw9
        have hR : RepC g ad A s S14 H1 locs := hR.call ht9 hB9 hw9 hS hFc
        have hsh := hsh.tr hs9
        replace h := h  S14 hq15 hw9 hs9
        have hT_v179_1 := hs9.T hT_v179_1 (by decide)
        clear hB9 hz9 hk9 hvm9 ht9 hw9 hs9 hS
        generalize H1 = H at hR ⊢
        refine lv_goto (tgt := 237) hx hb dX2_addTo_199 (by decide) ?_
        exact W.vret hx hb hr (fun t9 ht9 hW9 => ⟨⟨S14, rfl, ⟨h, hR.w, hsh⟩, ⟨by rw [ht9]; exact hR.P, hR.D⟩⟩, hR.sS.F ht9⟩) hR.sS.2.2 dX2_addTo_237
      by_cases c9_9 : (qI S 8 9).toInt = 9
      · refine lv_lookup (off := 60) (tgt := 108) hx hb dX2_addTo_48 (by decide) (by rw [c9_9]; decide) (by decide) ?_
        replace h := h.1 (c9_9)
        refine lv_aload_n hx hb dX2_addTo_108 rfl (lv_at hl 1 rfl) ?_
        refine lv_bipush (v := 20) hx hb dX2_addTo_109 (by decide) ?_
        refine lv_aload_n hx hb dX2_addTo_111 rfl (lv_at hl 0 rfl) ?_
        refine va_get (D := rD g) (ci := 2) (v := .long (qJ S 8 10)) (C := RX2) (T := TX2) (N := 12) hx hb hts inX2 hown hR.K hR.P 8 (hR.at42 (hR.w.2.1 _ finC_26).2.1) rfl 10 (by decide) (hts _ kw_617) (fun _ h9 => h9) rfl dX2_addTo_112 ?_
        replace h := h (hT_p1)
        obtain ⟨Q16, h0, h⟩ := h
        have hFc := cfree hR hA
        refine va_callv (va_runV (As := [.int 20, .long (qJ S 8 10)]) (rest := []) ⟨hx, hb, hml, hown, hts⟩ (rX8_add l g ad H.size S p1 (20 : Int32) (qJ S 8 10) hR.w hT_p1 Q16 h0) (cwV 2 hts (gd_V kw_621 kw_1457 kw_1458 kw_782 kw_1456) rfl rfl rfl (by decide +kernel) ⟨Nat.le_of_ble_eq_true rfl, Nat.le_of_ble_eq_true rfl⟩) ⟨cblind, va_recv hR.K hR.P (ci := 7) (q0 := p1) rfl (hR.at47 hT_p1), fun U hU hW9 => cmk hU hW9 hR hex hE hFc⟩ rfl rfl hl.1 rfl (lv_room (Nat.le_of_ble_eq_true rfl)) dX2_addTo_115 ⟨Nat.le_of_ble_eq_true rfl, Nat.le_of_ble_eq_true rfl⟩) hR.sS (fun q _ h => hFc q h) hFc (fun  S17 t9 H1 locs ht9 hvm9 hw9 hB9 hz9 hk9 hS => ?_)
        obtain ⟨hq18, hw9, hs9⟩ := hw9
        have hR : RepC g ad A s S17 H1 locs := hR.call ht9 hB9 hw9 hS hFc
        have hsh := hsh.tr hs9
        replace h := h  S17 hq18 hw9 hs9
        have hT_p1 := hs9.T hT_p1 (by decide)
        clear hB9 hz9 hk9 hvm9 ht9 hw9 hs9 hS
        generalize H1 = H at hR ⊢
        refine lv_goto (tgt := 237) hx hb dX2_addTo_118 (by decide) ?_
        exact W.vret hx hb hr (fun t9 ht9 hW9 => ⟨⟨S17, rfl, ⟨h, hR.w, hsh⟩, ⟨by rw [ht9]; exact hR.P, hR.D⟩⟩, hR.sS.F ht9⟩) hR.sS.2.2 dX2_addTo_237
      replace h := h.2 c9_9
      by_cases c9_19 : (qI S 8 9).toInt = 19
      · refine lv_lookup (off := 73) (tgt := 121) hx hb dX2_addTo_48 (by decide) (by rw [c9_19]; decide) (by decide) ?_
        replace h := h.1 (c9_19)
        refine lv_aload_n hx hb dX2_addTo_121 rfl (lv_at hl 1 rfl) ?_
        refine lv_bipush (v := 17) hx hb dX2_addTo_122 (by decide) ?_
        refine lv_aload_n hx hb dX2_addTo_124 rfl (lv_at hl 0 rfl) ?_
        refine va_get (D := rD g) (ci := 2) (v := .ref (ad 9)) (C := RX2) (T := TX2) (N := 12) hx hb hts inX2 hown hR.K hR.P 8 (hR.at42 (hR.w.2.1 _ finC_26).2.1) rfl 0 (by decide) (hts _ kw_632) (fun _ h9 => h9) (congrArg (fun z => some (vf ad z)) (hR.w.2.1 _ finC_2).1) dX2_addTo_125 ?_
        refine lv_aload_n hx hb dX2_addTo_128 rfl (lv_at hl 0 rfl) ?_
        refine va_get (D := rD g) (ci := 2) (v := .ref (ad 9)) (C := RX2) (T := TX2) (N := 12) hx hb hts inX2 hown hR.K hR.P 8 (hR.at42 (hR.w.2.1 _ finC_26).2.1) rfl 0 (by decide) (hts _ kw_632) (fun _ h9 => h9) (congrArg (fun z => some (vf ad z)) (hR.w.2.1 _ finC_2).1) dX2_addTo_129 ?_
        refine lv_aload_n hx hb dX2_addTo_132 rfl (lv_at hl 0 rfl) ?_
        refine va_get (D := rD g) (ci := 2) (v := .long (qJ S 8 10)) (C := RX2) (T := TX2) (N := 12) hx hb hts inX2 hown hR.K hR.P 8 (hR.at42 (hR.w.2.1 _ finC_26).2.1) rfl 10 (by decide) (hts _ kw_617) (fun _ h9 => h9) rfl dX2_addTo_133 ?_
        refine lv_l2i (v := ((qJ S 8 10).toInt32)) hx hb dX2_addTo_136 rfl ?_
        obtain ⟨hv19, h⟩ := h
        have hFc := cfree hR hA
        refine va_calli (va_runV (As := [.int ((qJ S 8 10).toInt32)]) (rest := [.ref (ad 9), .int 17, .ref (ad p1)]) ⟨hx, hb, hml, hown, hts⟩ (rX7_entryAt l g ad H.size S ((qJ S 8 10).toInt32) hR.w  hv19) (cwV 1 hts (gd_V kw_633 kw_1298 kw_1299 kw_710 kw_1297) rfl rfl rfl (by decide +kernel) ⟨Nat.le_of_ble_eq_true rfl, Nat.le_of_ble_eq_true rfl⟩) ⟨cblind, va_recv hR.K hR.P (ci := 6) (q0 := 9) rfl (hR.at46 (hR.w.2.1 _ finC_2).2.1), fun U hU hW9 => cmk hU hW9 hR hex hE hFc⟩ rfl rfl hl.1 rfl (lv_room (Nat.le_of_ble_eq_true rfl)) dX2_addTo_137 ⟨Nat.le_of_ble_eq_true rfl, Nat.le_of_ble_eq_true rfl⟩) hR.sS (fun q _ h => hFc q h) hFc (fun r20 u9 t9 H1 locs ht9 hvm9 hw9 hB9 hz9 hk9 hS => ?_)
        have hR : RepC g ad A s S H1 locs := hR.call ht9 hB9 hR.w hS hFc
        obtain rfl : r20 = (fX7_entryAt S ((qJ S 8 10).toInt32)) := hw9
        clear hB9 hz9 hk9 hvm9 ht9 hS
        generalize H1 = H at hR ⊢
        refine lv_iconst (v := 1) hx hb dX2_addTo_140 (by decide) ?_
        refine lv_iadd hx hb dX2_addTo_141 ?_
        refine lv_topi (fun z22 ez22 => ?_)
        obtain rfl : z22 = ((fX7_entryAt S ((qJ S 8 10).toInt32)) + (1 : Int32)) := ez22
        obtain ⟨hv23, h⟩ := h
        have hFc := cfree hR hA
        refine va_calli (va_runV (As := [.int ((fX7_entryAt S ((qJ S 8 10).toInt32)) + (1 : Int32))]) (rest := [.int 17, .ref (ad p1)]) ⟨hx, hb, hml, hown, hts⟩ (rX7_s4 l g ad H.size S ((fX7_entryAt S ((qJ S 8 10).toInt32)) + (1 : Int32)) hR.w  hv23) (cwV 1 hts (gd_V kw_634 kw_1429 kw_1430 kw_710 kw_1428) rfl rfl rfl (by decide +kernel) ⟨Nat.le_of_ble_eq_true rfl, Nat.le_of_ble_eq_true rfl⟩) ⟨cblind, va_recv hR.K hR.P (ci := 6) (q0 := 9) rfl (hR.at46 (hR.w.2.1 _ finC_2).2.1), fun U hU hW9 => cmk hU hW9 hR hex hE hFc⟩ rfl rfl hl.1 rfl (lv_room (Nat.le_of_ble_eq_true rfl)) dX2_addTo_142 ⟨Nat.le_of_ble_eq_true rfl, Nat.le_of_ble_eq_true rfl⟩) hR.sS (fun q _ h => hFc q h) hFc (fun r24 u9 t9 H1 locs ht9 hvm9 hw9 hB9 hz9 hk9 hS => ?_)
        have hR : RepC g ad A s S H1 locs := hR.call ht9 hB9 hR.w hS hFc
        obtain rfl : r24 = (fX7_s4 S ((fX7_entryAt S ((qJ S 8 10).toInt32)) + (1 : Int32))) := hw9
        clear hB9 hz9 hk9 hvm9 ht9 hS
        generalize H1 = H at hR ⊢
        refine lv_i2l (v := ((fX7_s4 S ((fX7_entryAt S ((qJ S 8 10).toInt32)) + (1 : Int32))).toInt64)) hx hb dX2_addTo_145 rfl ?_
        replace h := h (hT_p1)
        obtain ⟨Q26, h0, h⟩ := h
        have hFc := cfree hR hA
        refine va_callv (va_runV (As := [.int 17, .long ((fX7_s4 S ((fX7_entryAt S ((qJ S 8 10).toInt32)) + (1 : Int32))).toInt64)]) (rest := []) ⟨hx, hb, hml, hown, hts⟩ (rX8_add l g ad H.size S p1 (17 : Int32) ((fX7_s4 S ((fX7_entryAt S ((qJ S 8 10).toInt32)) + (1 : Int32))).toInt64) hR.w hT_p1 Q26 h0) (cwV 2 hts (gd_V kw_621 kw_1457 kw_1458 kw_782 kw_1456) rfl rfl rfl (by decide +kernel) ⟨Nat.le_of_ble_eq_true rfl, Nat.le_of_ble_eq_true rfl⟩) ⟨cblind, va_recv hR.K hR.P (ci := 7) (q0 := p1) rfl (hR.at47 hT_p1), fun U hU hW9 => cmk hU hW9 hR hex hE hFc⟩ rfl rfl hl.1 rfl (lv_room (Nat.le_of_ble_eq_true rfl)) dX2_addTo_146 ⟨Nat.le_of_ble_eq_true rfl, Nat.le_of_ble_eq_true rfl⟩) hR.sS (fun q _ h => hFc q h) hFc (fun  S27 t9 H1 locs ht9 hvm9 hw9 hB9 hz9 hk9 hS => ?_)
        obtain ⟨hq28, hw9, hs9⟩ := hw9
        have hR : RepC g ad A s S27 H1 locs := hR.call ht9 hB9 hw9 hS hFc
        have hsh := hsh.tr hs9
        replace h := h  S27 hq28 hw9 hs9
        have hT_p1 := hs9.T hT_p1 (by decide)
        clear hB9 hz9 hk9 hvm9 ht9 hw9 hs9 hS
        generalize H1 = H at hR ⊢
        refine lv_goto (tgt := 237) hx hb dX2_addTo_149 (by decide) ?_
        exact W.vret hx hb hr (fun t9 ht9 hW9 => ⟨⟨S27, rfl, ⟨h, hR.w, hsh⟩, ⟨by rw [ht9]; exact hR.P, hR.D⟩⟩, hR.sS.F ht9⟩) hR.sS.2.2 dX2_addTo_237
      replace h := h.2 c9_19
      by_cases c9_20 : (qI S 8 9).toInt = 20
      · refine lv_lookup (off := 104) (tgt := 152) hx hb dX2_addTo_48 (by decide) (by rw [c9_20]; decide) (by decide) ?_
        replace h := h.1 (c9_20)
        refine lv_aload_n hx hb dX2_addTo_152 rfl (lv_at hl 1 rfl) ?_
        refine lv_bipush (v := 20) hx hb dX2_addTo_153 (by decide) ?_
        refine lv_aload_n hx hb dX2_addTo_155 rfl (lv_at hl 0 rfl) ?_
        refine lv_aload_n hx hb dX2_addTo_156 rfl (lv_at hl 0 rfl) ?_
        refine va_get (D := rD g) (ci := 2) (v := .ref (ad 9)) (C := RX2) (T := TX2) (N := 12) hx hb hts inX2 hown hR.K hR.P 8 (hR.at42 (hR.w.2.1 _ finC_26).2.1) rfl 0 (by decide) (hts _ kw_632) (fun _ h9 => h9) (congrArg (fun z => some (vf ad z)) (hR.w.2.1 _ finC_2).1) dX2_addTo_157 ?_
        refine lv_aload_n hx hb dX2_addTo_160 rfl (lv_at hl 0 rfl) ?_
        refine va_get (D := rD g) (ci := 2) (v := .long (qJ S 8 10)) (C := RX2) (T := TX2) (N := 12) hx hb hts inX2 hown hR.K hR.P 8 (hR.at42 (hR.w.2.1 _ finC_26).2.1) rfl 10 (by decide) (hts _ kw_617) (fun _ h9 => h9) rfl dX2_addTo_161 ?_
        refine lv_l2i (v := ((qJ S 8 10).toInt32)) hx hb dX2_addTo_164 rfl ?_
        obtain ⟨hv29, h⟩ := h
        have hFc := cfree hR hA
        refine va_calli (va_runV (As := [.int ((qJ S 8 10).toInt32)]) (rest := [.ref (ad 8), .int 20, .ref (ad p1)]) ⟨hx, hb, hml, hown, hts⟩ (rX7_entryAt l g ad H.size S ((qJ S 8 10).toInt32) hR.w  hv29) (cwV 1 hts (gd_V kw_633 kw_1298 kw_1299 kw_710 kw_1297) rfl rfl rfl (by decide +kernel) ⟨Nat.le_of_ble_eq_true rfl, Nat.le_of_ble_eq_true rfl⟩) ⟨cblind, va_recv hR.K hR.P (ci := 6) (q0 := 9) rfl (hR.at46 (hR.w.2.1 _ finC_2).2.1), fun U hU hW9 => cmk hU hW9 hR hex hE hFc⟩ rfl rfl hl.1 rfl (lv_room (Nat.le_of_ble_eq_true rfl)) dX2_addTo_165 ⟨Nat.le_of_ble_eq_true rfl, Nat.le_of_ble_eq_true rfl⟩) hR.sS (fun q _ h => hFc q h) hFc (fun r30 u9 t9 H1 locs ht9 hvm9 hw9 hB9 hz9 hk9 hS => ?_)
        have hR : RepC g ad A s S H1 locs := hR.call ht9 hB9 hR.w hS hFc
        obtain rfl : r30 = (fX7_entryAt S ((qJ S 8 10).toInt32)) := hw9
        clear hB9 hz9 hk9 hvm9 ht9 hS
        generalize H1 = H at hR ⊢
        refine lv_iconst (v := 1) hx hb dX2_addTo_168 (by decide) ?_
        refine lv_iadd hx hb dX2_addTo_169 ?_
        refine lv_topi (fun z32 ez32 => ?_)
        obtain rfl : z32 = ((fX7_entryAt S ((qJ S 8 10).toInt32)) + (1 : Int32)) := ez32
        obtain ⟨hv33, h⟩ := h
        have hFc := cfree hR hA
        refine va_calll (va_runV (As := [.int ((fX7_entryAt S ((qJ S 8 10).toInt32)) + (1 : Int32))]) (rest := [.int 20, .ref (ad p1)]) ⟨hx, hb, hml, hown, hts⟩ (rX2_longAt l g ad H.size S ((fX7_entryAt S ((qJ S 8 10).toInt32)) + (1 : Int32)) hR.w  hv33) (cwV 1 hts (gd_V kw_635 kw_736 kw_737 kw_389 kw_735) rfl rfl rfl (by decide +kernel) ⟨Nat.le_of_ble_eq_true rfl, Nat.le_of_ble_eq_true rfl⟩) ⟨cblind, va_recv hR.K hR.P (ci := 2) (q0 := 8) rfl (hR.at42 (hR.w.2.1 _ finC_26).2.1), fun U hU hW9 => cmk hU hW9 hR hex hE hFc⟩ rfl rfl hl.1 rfl (lv_room (Nat.le_of_ble_eq_true rfl)) dX2_addTo_170 ⟨Nat.le_of_ble_eq_true rfl, Nat.le_of_ble_eq_true rfl⟩) hR.sS (fun q _ h => hFc q h) hFc (fun r34 u9 t9 H1 locs ht9 hvm9 hw9 hB9 hz9 hk9 hS => ?_)
        have hR : RepC g ad A s S H1 locs := hR.call ht9 hB9 hR.w hS hFc
        obtain rfl : r34 = (fX2_longAt S ((fX7_entryAt S ((qJ S 8 10).toInt32)) + (1 : Int32))) := hw9
        clear hB9 hz9 hk9 hvm9 ht9 hS
        generalize H1 = H at hR ⊢
        replace h := h (hT_p1)
        obtain ⟨Q36, h0, h⟩ := h
        have hFc := cfree hR hA
        refine va_callv (va_runV (As := [.int 20, .long (fX2_longAt S ((fX7_entryAt S ((qJ S 8 10).toInt32)) + (1 : Int32)))]) (rest := []) ⟨hx, hb, hml, hown, hts⟩ (rX8_add l g ad H.size S p1 (20 : Int32) (fX2_longAt S ((fX7_entryAt S ((qJ S 8 10).toInt32)) + (1 : Int32))) hR.w hT_p1 Q36 h0) (cwV 2 hts (gd_V kw_621 kw_1457 kw_1458 kw_782 kw_1456) rfl rfl rfl (by decide +kernel) ⟨Nat.le_of_ble_eq_true rfl, Nat.le_of_ble_eq_true rfl⟩) ⟨cblind, va_recv hR.K hR.P (ci := 7) (q0 := p1) rfl (hR.at47 hT_p1), fun U hU hW9 => cmk hU hW9 hR hex hE hFc⟩ rfl rfl hl.1 rfl (lv_room (Nat.le_of_ble_eq_true rfl)) dX2_addTo_173 ⟨Nat.le_of_ble_eq_true rfl, Nat.le_of_ble_eq_true rfl⟩) hR.sS (fun q _ h => hFc q h) hFc (fun  S37 t9 H1 locs ht9 hvm9 hw9 hB9 hz9 hk9 hS => ?_)
        obtain ⟨hq38, hw9, hs9⟩ := hw9
        have hR : RepC g ad A s S37 H1 locs := hR.call ht9 hB9 hw9 hS hFc
        have hsh := hsh.tr hs9
        replace h := h  S37 hq38 hw9 hs9
        have hT_p1 := hs9.T hT_p1 (by decide)
        clear hB9 hz9 hk9 hvm9 ht9 hw9 hs9 hS
        generalize H1 = H at hR ⊢
        refine lv_goto (tgt := 237) hx hb dX2_addTo_176 (by decide) ?_
        exact W.vret hx hb hr (fun t9 ht9 hW9 => ⟨⟨S37, rfl, ⟨h, hR.w, hsh⟩, ⟨by rw [ht9]; exact hR.P, hR.D⟩⟩, hR.sS.F ht9⟩) hR.sS.2.2 dX2_addTo_237
      replace h := h.2 c9_20
      by_cases c9_178 : (qI S 8 9).toInt = 178
      · refine lv_lookup (off := 131) (tgt := 179) hx hb dX2_addTo_48 (by decide) (by rw [c9_178]; decide) (by decide) ?_
        replace h := h.1 (c9_178)
        exact J_179 S p1 _ _ ls h hT_p1 hsh hR (lv_sub hl [0, 1] rfl)
      replace h := h.2 c9_178
      by_cases c9_179 : (qI S 8 9).toInt = 179
      · refine lv_lookup (off := 131) (tgt := 179) hx hb dX2_addTo_48 (by decide) (by rw [c9_179]; decide) (by decide) ?_
        replace h := h.1 (c9_179)
        exact J_179 S p1 _ _ ls h hT_p1 hsh hR (lv_sub hl [0, 1] rfl)
      replace h := h.2 c9_179
      by_cases c9_184 : (qI S 8 9).toInt = 184
      · refine lv_lookup (off := 154) (tgt := 202) hx hb dX2_addTo_48 (by decide) (by rw [c9_184]; decide) (by decide) ?_
        replace h := h.1 (c9_184)
        refine lv_aload_n hx hb dX2_addTo_202 rfl (lv_at hl 1 rfl) ?_
        refine lv_aload_n hx hb dX2_addTo_203 rfl (lv_at hl 0 rfl) ?_
        refine va_get (D := rD g) (ci := 2) (v := .int (qI S 8 9)) (C := RX2) (T := TX2) (N := 12) hx hb hts inX2 hown hR.K hR.P 8 (hR.at42 (hR.w.2.1 _ finC_26).2.1) rfl 9 (by decide) (hts _ kw_619) (fun _ h9 => h9) rfl dX2_addTo_204 ?_
        refine lv_aload_n hx hb dX2_addTo_207 rfl (lv_at hl 0 rfl) ?_
        refine lv_aload_n hx hb dX2_addTo_208 rfl (lv_at hl 0 rfl) ?_
        refine va_get (D := rD g) (ci := 2) (v := .long (qJ S 8 10)) (C := RX2) (T := TX2) (N := 12) hx hb hts inX2 hown hR.K hR.P 8 (hR.at42 (hR.w.2.1 _ finC_26).2.1) rfl 10 (by decide) (hts _ kw_617) (fun _ h9 => h9) rfl dX2_addTo_209 ?_
        refine lv_l2i (v := ((qJ S 8 10).toInt32)) hx hb dX2_addTo_212 rfl ?_
        refine lv_bipush (v := 10) hx hb dX2_addTo_213 (by decide) ?_
        obtain ⟨Q39, h0, h⟩ := h
        have hFc := cfree hR hA
        refine va_calli (va_runV (As := [.int ((qJ S 8 10).toInt32), .int 10]) (rest := [.int (qI S 8 9), .ref (ad p1)]) ⟨hx, hb, hml, hown, hts⟩ (rX2_memberOf l g ad H.size S ((qJ S 8 10).toInt32) (10 : Int32) hR.w  Q39 h0) (cwV 2 hts (gd_V kw_636 kw_750 kw_751 kw_389 kw_749) rfl rfl rfl (by decide +kernel) ⟨Nat.le_of_ble_eq_true rfl, Nat.le_of_ble_eq_true rfl⟩) ⟨cblind, va_recv hR.K hR.P (ci := 2) (q0 := 8) rfl (hR.at42 (hR.w.2.1 _ finC_26).2.1), fun U hU hW9 => cmk hU hW9 hR hex hE hFc⟩ rfl rfl hl.1 rfl (lv_room (Nat.le_of_ble_eq_true rfl)) dX2_addTo_215 ⟨Nat.le_of_ble_eq_true rfl, Nat.le_of_ble_eq_true rfl⟩) hR.sS (fun q _ h => hFc q h) hFc (fun r40 S41 t9 H1 locs ht9 hvm9 hw9 hB9 hz9 hk9 hS => ?_)
        obtain ⟨hq42, hw9, hs9⟩ := hw9
        have hR : RepC g ad A s S41 H1 locs := hR.call ht9 hB9 hw9 hS hFc
        have hsh := hsh.tr hs9
        replace h := h r40 S41 hq42 hw9 hs9
        have hT_p1 := hs9.T hT_p1 (by decide)
        clear hB9 hz9 hk9 hvm9 ht9 hw9 hs9 hS
        generalize H1 = H at hR ⊢
        refine lv_i2l (v := (r40.toInt64)) hx hb dX2_addTo_218 rfl ?_
        replace h := h (hT_p1)
        obtain ⟨Q43, h0, h⟩ := h
        have hFc := cfree hR hA
        refine va_callv (va_runV (As := [.int (qI S 8 9), .long (r40.toInt64)]) (rest := []) ⟨hx, hb, hml, hown, hts⟩ (rX8_add l g ad H.size S41 p1 (qI S 8 9) (r40.toInt64) hR.w hT_p1 Q43 h0) (cwV 2 hts (gd_V kw_621 kw_1457 kw_1458 kw_782 kw_1456) rfl rfl rfl (by decide +kernel) ⟨Nat.le_of_ble_eq_true rfl, Nat.le_of_ble_eq_true rfl⟩) ⟨cblind, va_recv hR.K hR.P (ci := 7) (q0 := p1) rfl (hR.at47 hT_p1), fun U hU hW9 => cmk hU hW9 hR hex hE hFc⟩ rfl rfl hl.1 rfl (lv_room (Nat.le_of_ble_eq_true rfl)) dX2_addTo_219 ⟨Nat.le_of_ble_eq_true rfl, Nat.le_of_ble_eq_true rfl⟩) hR.sS (fun q _ h => hFc q h) hFc (fun  S44 t9 H1 locs ht9 hvm9 hw9 hB9 hz9 hk9 hS => ?_)
        obtain ⟨hq45, hw9, hs9⟩ := hw9
        have hR : RepC g ad A s S44 H1 locs := hR.call ht9 hB9 hw9 hS hFc
        have hsh := hsh.tr hs9
        replace h := h  S44 hq45 hw9 hs9
        have hT_p1 := hs9.T hT_p1 (by decide)
        clear hB9 hz9 hk9 hvm9 ht9 hw9 hs9 hS
        generalize H1 = H at hR ⊢
        refine lv_goto (tgt := 237) hx hb dX2_addTo_222 (by decide) ?_
        exact W.vret hx hb hr (fun t9 ht9 hW9 => ⟨⟨S44, rfl, ⟨h, hR.w, hsh⟩, ⟨by rw [ht9]; exact hR.P, hR.D⟩⟩, hR.sS.F ht9⟩) hR.sS.2.2 dX2_addTo_237
      replace h := h.2 c9_184
      refine lv_lookup (off := 177) (tgt := 225) hx hb dX2_addTo_48 (by decide) (lx_cons c9_9 (lx_cons c9_19 (lx_cons c9_20 (lx_cons c9_178 (lx_cons c9_179 (lx_cons c9_184 lx_nil)))))) (by decide) ?_
      refine lv_aload_n hx hb dX2_addTo_225 rfl (lv_at hl 1 rfl) ?_
      refine lv_aload_n hx hb dX2_addTo_226 rfl (lv_at hl 0 rfl) ?_
      refine va_get (D := rD g) (ci := 2) (v := .int (qI S 8 9)) (C := RX2) (T := TX2) (N := 12) hx hb hts inX2 hown hR.K hR.P 8 (hR.at42 (hR.w.2.1 _ finC_26).2.1) rfl 9 (by decide) (hts _ kw_619) (fun _ h9 => h9) rfl dX2_addTo_227 ?_
      refine lv_aload_n hx hb dX2_addTo_230 rfl (lv_at hl 0 rfl) ?_
      refine va_get (D := rD g) (ci := 2) (v := .long (qJ S 8 10)) (C := RX2) (T := TX2) (N := 12) hx hb hts inX2 hown hR.K hR.P 8 (hR.at42 (hR.w.2.1 _ finC_26).2.1) rfl 10 (by decide) (hts _ kw_617) (fun _ h9 => h9) rfl dX2_addTo_231 ?_
      replace h := h (hT_p1)
      obtain ⟨Q46, h0, h⟩ := h
      have hFc := cfree hR hA
      refine va_callv (va_runV (As := [.int (qI S 8 9), .long (qJ S 8 10)]) (rest := []) ⟨hx, hb, hml, hown, hts⟩ (rX8_add l g ad H.size S p1 (qI S 8 9) (qJ S 8 10) hR.w hT_p1 Q46 h0) (cwV 2 hts (gd_V kw_621 kw_1457 kw_1458 kw_782 kw_1456) rfl rfl rfl (by decide +kernel) ⟨Nat.le_of_ble_eq_true rfl, Nat.le_of_ble_eq_true rfl⟩) ⟨cblind, va_recv hR.K hR.P (ci := 7) (q0 := p1) rfl (hR.at47 hT_p1), fun U hU hW9 => cmk hU hW9 hR hex hE hFc⟩ rfl rfl hl.1 rfl (lv_room (Nat.le_of_ble_eq_true rfl)) dX2_addTo_234 ⟨Nat.le_of_ble_eq_true rfl, Nat.le_of_ble_eq_true rfl⟩) hR.sS (fun q _ h => hFc q h) hFc (fun  S47 t9 H1 locs ht9 hvm9 hw9 hB9 hz9 hk9 hS => ?_)
      obtain ⟨hq48, hw9, hs9⟩ := hw9
      have hR : RepC g ad A s S47 H1 locs := hR.call ht9 hB9 hw9 hS hFc
      have hsh := hsh.tr hs9
      replace h := h  S47 hq48 hw9 hs9
      have hT_p1 := hs9.T hT_p1 (by decide)
      clear hB9 hz9 hk9 hvm9 ht9 hw9 hs9 hS
      generalize H1 = H at hR ⊢
      exact W.vret hx hb hr (fun t9 ht9 hW9 => ⟨⟨S47, rfl, ⟨h, hR.w, hsh⟩, ⟨by rw [ht9]; exact hR.P, hR.D⟩⟩, hR.sS.F ht9⟩) hR.sS.2.2 dX2_addTo_237
    · replace h := h.2 (k_ne rfl (by decide) c8)
      refine lv_aload_n hx hb dX2_addTo_38 rfl (lv_at hl 0 rfl) ?_
      refine lv_aload_n hx hb dX2_addTo_39 rfl (lv_at hl 1 rfl) ?_
      replace h := h (hT_p1)
      obtain ⟨Q49, h0, h⟩ := h
      have hFc := cfree hR hA
      refine va_callv (va_runV (As := [.ref (ad p1)]) (rest := []) ⟨hx, hb, hml, hown, hts⟩ (rX2_addSwitch l g ad H.size S p1 hR.w hT_p1 Q49 h0) (cwV 1 hts (gd_V kw_631 kw_615 kw_616 kw_389 kw_614) rfl rfl rfl (by decide +kernel) ⟨Nat.le_of_ble_eq_true rfl, Nat.le_of_ble_eq_true rfl⟩) ⟨cblind, va_recv hR.K hR.P (ci := 2) (q0 := 8) rfl (hR.at42 (hR.w.2.1 _ finC_26).2.1), fun U hU hW9 => cmk hU hW9 hR hex hE hFc⟩ rfl rfl hl.1 rfl (lv_room (Nat.le_of_ble_eq_true rfl)) dX2_addTo_40 ⟨Nat.le_of_ble_eq_true rfl, Nat.le_of_ble_eq_true rfl⟩) hR.sS (fun q _ h => hFc q h) hFc (fun  S50 t9 H1 locs ht9 hvm9 hw9 hB9 hz9 hk9 hS => ?_)
      obtain ⟨hq51, hw9, hs9⟩ := hw9
      have hR : RepC g ad A s S50 H1 locs := hR.call ht9 hB9 hw9 hS hFc
      have hsh := hsh.tr hs9
      replace h := h  S50 hq51 hw9 hs9
      have hT_p1 := hs9.T hT_p1 (by decide)
      clear hB9 hz9 hk9 hvm9 ht9 hw9 hs9 hS
      generalize H1 = H at hR ⊢
      exact W.vret hx hb hr (fun t9 ht9 hW9 => ⟨⟨S50, rfl, ⟨h, hR.w, hsh⟩, ⟨by rw [ht9]; exact hR.P, hR.D⟩⟩, hR.sS.F ht9⟩) hR.sS.2.2 dX2_addTo_43
  · replace h := h.2 (k_ne rfl (by decide) c4)
    refine lv_aload_n hx hb dX2_addTo_10 rfl (lv_at hl 1 rfl) ?_
    refine lv_aload_n hx hb dX2_addTo_11 rfl (lv_at hl 0 rfl) ?_
    refine va_get (D := rD g) (ci := 2) (v := .int (qI S 8 9)) (C := RX2) (T := TX2) (N := 12) hx hb hts inX2 hown hR.K hR.P 8 (hR.at42 (hR.w.2.1 _ finC_26).2.1) rfl 9 (by decide) (hts _ kw_619) (fun _ h9 => h9) rfl dX2_addTo_12 ?_
    refine lv_aload_n hx hb dX2_addTo_15 rfl (lv_at hl 0 rfl) ?_
    refine lv_aload_n hx hb dX2_addTo_16 rfl (lv_at hl 0 rfl) ?_
    refine va_get (D := rD g) (ci := 2) (v := .long (qJ S 8 10)) (C := RX2) (T := TX2) (N := 12) hx hb hts inX2 hown hR.K hR.P 8 (hR.at42 (hR.w.2.1 _ finC_26).2.1) rfl 10 (by decide) (hts _ kw_617) (fun _ h9 => h9) rfl dX2_addTo_17 ?_
    obtain ⟨hv52, h⟩ := h
    have hFc := cfree hR hA
    refine va_calli (va_runV (As := [.long (qJ S 8 10)]) (rest := [.int (qI S 8 9), .ref (ad p1)]) ⟨hx, hb, hml, hown, hts⟩ (rX2_numberOf l g ad H.size S (qJ S 8 10) hR.w  hv52) (cwV 1 hts (gd_V kw_625 kw_761 kw_762 kw_389 kw_760) rfl rfl rfl (by decide +kernel) ⟨Nat.le_of_ble_eq_true rfl, Nat.le_of_ble_eq_true rfl⟩) ⟨cblind, va_recv hR.K hR.P (ci := 2) (q0 := 8) rfl (hR.at42 (hR.w.2.1 _ finC_26).2.1), fun U hU hW9 => cmk hU hW9 hR hex hE hFc⟩ rfl rfl hl.1 rfl (lv_room (Nat.le_of_ble_eq_true rfl)) dX2_addTo_20 ⟨Nat.le_of_ble_eq_true rfl, Nat.le_of_ble_eq_true rfl⟩) hR.sS (fun q _ h => hFc q h) hFc (fun r53 u9 t9 H1 locs ht9 hvm9 hw9 hB9 hz9 hk9 hS => ?_)
    have hR : RepC g ad A s S H1 locs := hR.call ht9 hB9 hR.w hS hFc
    obtain rfl : r53 = (fX2_numberOf S (qJ S 8 10)) := hw9
    clear hB9 hz9 hk9 hvm9 ht9 hS
    generalize H1 = H at hR ⊢
    refine lv_i2l (v := ((fX2_numberOf S (qJ S 8 10)).toInt64)) hx hb dX2_addTo_23 rfl ?_
    replace h := h (hT_p1)
    obtain ⟨Q55, h0, h⟩ := h
    have hFc := cfree hR hA
    refine va_callv (va_runV (As := [.int (qI S 8 9), .long ((fX2_numberOf S (qJ S 8 10)).toInt64)]) (rest := []) ⟨hx, hb, hml, hown, hts⟩ (rX8_add l g ad H.size S p1 (qI S 8 9) ((fX2_numberOf S (qJ S 8 10)).toInt64) hR.w hT_p1 Q55 h0) (cwV 2 hts (gd_V kw_621 kw_1457 kw_1458 kw_782 kw_1456) rfl rfl rfl (by decide +kernel) ⟨Nat.le_of_ble_eq_true rfl, Nat.le_of_ble_eq_true rfl⟩) ⟨cblind, va_recv hR.K hR.P (ci := 7) (q0 := p1) rfl (hR.at47 hT_p1), fun U hU hW9 => cmk hU hW9 hR hex hE hFc⟩ rfl rfl hl.1 rfl (lv_room (Nat.le_of_ble_eq_true rfl)) dX2_addTo_24 ⟨Nat.le_of_ble_eq_true rfl, Nat.le_of_ble_eq_true rfl⟩) hR.sS (fun q _ h => hFc q h) hFc (fun  S56 t9 H1 locs ht9 hvm9 hw9 hB9 hz9 hk9 hS => ?_)
    obtain ⟨hq57, hw9, hs9⟩ := hw9
    have hR : RepC g ad A s S56 H1 locs := hR.call ht9 hB9 hw9 hS hFc
    have hsh := hsh.tr hs9
    replace h := h  S56 hq57 hw9 hs9
    have hT_p1 := hs9.T hT_p1 (by decide)
    clear hB9 hz9 hk9 hvm9 ht9 hw9 hs9 hS
    generalize H1 = H at hR ⊢
    exact W.vret hx hb hr (fun t9 ht9 hW9 => ⟨⟨S56, rfl, ⟨h, hR.w, hsh⟩, ⟨by rw [ht9]; exact hR.P, hR.D⟩⟩, hR.sS.F ht9⟩) hR.sS.2.2 dX2_addTo_27
def w_X3_findLoops_J119 (Q : MS → Prop) (k18 : MS → Int32 → Prop) (U119 : MS) (v119_1 : Int32) : Prop := (wfC U119 → (∀ a24 : Int32, a24 = (v119_1 + Int32.ofInt 1) → k18 U119 a24))
def w_X3_findLoops_J105 (Q : MS → Prop) (k18 : MS → Int32 → Prop) (U105 : MS) (v105_1 : Int32) : Prop := (wfC U105 → (((0 : Int) ≤ v105_1.toInt ∧ v105_1.toInt < (qN U105 (qO U105 52 12) : Int)) ∧ (((qI U105 (qO U105 52 12) v105_1.toInt.toNat).toInt ≤ 0 → w_X3_findLoops_J119 Q k18 U105 v105_1) ∧ (¬ (qI U105 (qO U105 52 12) v105_1.toInt.toNat).toInt ≤ 0 → (∃ Q26, wX3_addLoop U105 v105_1 Q26 ∧ ∀ S27, Q26 S27 → wfC S27 → shy U105 S27 → w_X3_findLoops_J119 Q k18 S27 v105_1)))))
def w_X3_findLoops_J99 (Q : MS → Prop) (k40 : MS → Int32 → Int32 → Prop) (U99 : MS) (v99_1 : Int32) (v99_2 : Int32) : Prop := (wfC U99 → (∀ a42 : Int32, a42 = (v99_2 + Int32.ofInt 1) → k40 U99 v99_1 a42))
def w_X3_findLoops_L40 (Q : MS → Prop) (k18 : MS → Int32 → Prop) : Nat → MS → Int32 → Int32 → Prop
  | 0, _, _, _ => False
  | n40 + 1, U40, v40_1, v40_2 => (wfC U40 → (((0 : Int) ≤ v40_1.toInt ∧ v40_1.toInt < (qN U40 (qO U40 52 8) : Int)) ∧ (((qI U40 (qO U40 52 8) v40_1.toInt.toNat).toInt = 0 → w_X3_findLoops_J105 Q k18 U40 v40_1) ∧ (¬ (qI U40 (qO U40 52 8) v40_1.toInt.toNat).toInt = 0 → (((0 : Int) ≤ (v40_1 + (1 : Int32)).toInt ∧ (v40_1 + (1 : Int32)).toInt < (qN U40 (qO U40 52 6) : Int)) ∧ (((qI U40 (qO U40 52 6) (((v40_1 + (1 : Int32)).toInt).toNat)).toInt ≤ v40_2.toInt → w_X3_findLoops_J105 Q k18 U40 v40_1) ∧ (¬ (qI U40 (qO U40 52 6) (((v40_1 + (1 : Int32)).toInt).toNat)).toInt ≤ v40_2.toInt → (((0 : Int) ≤ v40_2.toInt ∧ v40_2.toInt < (qN U40 (qO U40 52 7) : Int)) ∧ (((0 : Int) ≤ (qI U40 (qO U40 52 7) v40_2.toInt.toNat).toInt ∧ (qI U40 (qO U40 52 7) v40_2.toInt.toNat).toInt < (qN U40 (qO U40 52 8) : Int)) ∧ (((qI U40 (qO U40 52 8) (((qI U40 (qO U40 52 7) v40_2.toInt.toNat).toInt).toNat)).toInt = 0 → w_X3_findLoops_J99 Q (w_X3_findLoops_L40 Q k18 n40) U40 v40_1 v40_2) ∧ (¬ (qI U40 (qO U40 52 8) (((qI U40 (qO U40 52 7) v40_2.toInt.toNat).toInt).toNat)).toInt = 0 → (((0 : Int) ≤ v40_2.toInt ∧ v40_2.toInt < (qN U40 (qO U40 52 7) : Int)) ∧ (d_X3_dominates U40 v40_1 (qI U40 (qO U40 52 7) v40_2.toInt.toNat) ∧ (((fX3_dominates U40 v40_1 (qI U40 (qO U40 52 7) v40_2.toInt.toNat)).toInt = 0 → w_X3_findLoops_J99 Q (w_X3_findLoops_L40 Q k18 n40) U40 v40_1 v40_2) ∧ (¬ (fX3_dominates U40 v40_1 (qI U40 (qO U40 52 7) v40_2.toInt.toNat)).toInt = 0 → (((0 : Int) ≤ v40_1.toInt ∧ v40_1.toInt < (qN U40 (qO U40 52 12) : Int)) ∧ (((0 : Int) ≤ v40_1.toInt ∧ v40_1.toInt < (qN U40 (qO U40 52 12) : Int)) ∧ (∀ S56, S56 = wI U40 (qO U40 52 12) v40_1.toInt.toNat ((qI U40 (qO U40 52 12) v40_1.toInt.toNat) + (1 : Int32)) → qT U40 (qO U40 52 12) = 209 → wfC S56 → w_X3_findLoops_J99 Q (w_X3_findLoops_L40 Q k18 n40) S56 v40_1 v40_2))))))))))))))))))
def w_X3_findLoops_L18 (Q : MS → Prop) : Nat → MS → Int32 → Prop
  | 0, _, _ => False
  | n18 + 1, U18, v18_1 => (wfC U18 → (((qI U18 52 1).toInt ≤ v18_1.toInt → Q U18) ∧ (¬ (qI U18 52 1).toInt ≤ v18_1.toInt → (((0 : Int) ≤ v18_1.toInt ∧ v18_1.toInt < (qN U18 (qO U18 52 12) : Int)) ∧ (∀ S12, S12 = wI U18 (qO U18 52 12) v18_1.toInt.toNat (0 : Int32) → qT U18 (qO U18 52 12) = 209 → wfC S12 → (((0 : Int) ≤ v18_1.toInt ∧ v18_1.toInt < (qN S12 (qO S12 52 6) : Int)) ∧ (∀ a16 : Int32, a16 = (qI S12 (qO S12 52 6) v18_1.toInt.toNat) → (∃ n, w_X3_findLoops_L40 Q (w_X3_findLoops_L18 Q n18) n S12 v18_1 a16))))))))
def wX3_findLoops (S : MS) (Q : MS → Prop) : Prop := (qT S (qO S 52 13) = 210 → (∃ Q2, wJ7_fill_53178 S (qO S 52 13) (0 : Int32) Q2 ∧ ∀ S3, Q2 S3 → wfC S3 → shy S S3 → (qT S3 (qO S3 52 14) = 211 → (∃ Q6, wJ7_fill_53178 S3 (qO S3 52 14) (-1 : Int32) Q6 ∧ ∀ S7, Q6 S7 → wfC S7 → shy S3 S7 → (∃ n, w_X3_findLoops_L18 Q n S7 0)))))
set_option maxHeartbeats 2000000 in
set_option maxRecDepth 100000 in
theorem rX3_findLoops (l : Launch) (g : Gr) (ad : Nat → Nat) (sz : Nat) (S : MS) (hw : wfC S) (Q : MS → Prop) (h : wX3_findLoops S Q) : Met l yX3_findLoops (wt yX3_findLoops cX3_findLoops 3 none) ({ frames := 2, cells := 0, slots := 0, locals := 48 }) (va_Pc [.ref (ad 52)] (st_C g ad sz S)) (va_Qv (fun (u : MS) => Q u ∧ wfC u ∧ shy S u) (fun (u : MS) (t : State) => qEC g ad (va_A (WdC g ad S) sz) u t) (va_A (WdC g ad S) sz)) 0 0 (va_A (WdC g ad S) sz) := by
  refine Met.ofW (cc := cX3_findLoops) (maxL := 3) (ret := none) (by decide) rfl ?_
  intro p e s m args below meth c s₁ B hml hv
  obtain ⟨rfl, hsz, hP, hK, hD0, hex, hE⟩ := hv
  have hx := B.exec
  have hb := B.bytes
  have hr := B.returns
  have hts0 := atoms_spec (ws := wt yX3_findLoops cX3_findLoops 3 none) B.pre
  have hts : ∀ w ∈ tb, w.before _ s = true := fun w h => hts0 w (List.mem_cons_of_mem _ h)
  have hown : s.vm.findClass RX3 = some m.cls := findClass_of_methodNamed B.named
  subst hsz
  have hD := hD0.self (sz := s.heap.size)
  generalize hAe : va_A (WdC g ad S) s.heap.size = A at hD hE ⊢
  have hA : ∀ q : Nat, s.heap.size ≤ q → A q := fun q h => by rw [← hAe]; exact Or.inr h
  have hR : RepC g ad A s S s.heap [] := ⟨hK, hP, hD, va_S.rf, hw⟩
  clear hK hP hD hD0
  have hl := lv_entry ([.ref (ad 52)]) (n := 3) (Nat.le_of_ble_eq_true rfl)
  rw [lg_entry_eq]
  generalize (lg_sl ([.ref (ad 52)]) ++ List.replicate (3 - (lg_sl ([.ref (ad 52)])).length) Slot.unset).toArray = ls at hl ⊢
  have hl : lv_has ls 3 [(0, .ref (ad 52))] := hl
  have hsh : shy S S := shy.rf
  unfold wX3_findLoops at h
  refine lv_aload_n hx hb dX3_findLoops_0 rfl (lv_at hl 0 rfl) ?_
  have hT_b1 : qT S (qO S 52 13) = 210 := hR.w.ref (hR.w.ptr ptrC_32) (hR.w.2.1 _ finC_30).2.1
  refine va_get (D := rD g) (ci := 3) (v := .ref (ad (qO S 52 13))) (C := RX3) (T := TX3) (N := 16) hx hb hts inX3 hown hR.K hR.P 52 (hR.at43 (hR.w.2.1 _ finC_30).2.1) rfl 13 (by decide) (hts _ kw_845) (fun _ h9 => h9) (congrArg (fun z => some (vf ad z)) (hR.w.ptr ptrC_32)) dX3_findLoops_1 ?_
  refine lv_iconst (v := 0) hx hb dX3_findLoops_4 (by decide) ?_
  replace h := h (hT_b1)
  obtain ⟨Q2, h0, h⟩ := h
  have hFc := cfree hR hA
  refine va_callv (va_runS (As := [.ref (ad (qO S 52 13)), .int 0]) (rest := []) ⟨hx, hb, hml, hown, hts⟩ (rJ7_fill_53178 l g ad s.heap.size S (qO S 52 13) (0 : Int32) hR.w (by decide) hT_b1 Q2 h0) (va_cwS 2 hts (gd_S kw_886 kw_1722 kw_1723 kw_1721) rfl rfl rfl (by decide +kernel) ⟨Nat.le_of_ble_eq_true rfl, Nat.le_of_ble_eq_true rfl⟩) ⟨cblind, fun U hU hW9 => cmk hU hW9 hR hex hE hFc⟩ rfl rfl hl.1 rfl (lv_room (Nat.le_of_ble_eq_true rfl)) dX3_findLoops_5 ⟨Nat.le_of_ble_eq_true rfl, Nat.le_of_ble_eq_true rfl⟩) hR.sS (fun q _ h => hFc q h) hFc (fun  S3 t9 H1 locs ht9 hvm9 hw9 hB9 hz9 hk9 hS => ?_)
  obtain ⟨hq4, hw9, hs9⟩ := hw9
  have hR : RepC g ad A s S3 H1 locs := hR.call ht9 hB9 hw9 hS hFc
  have hsh := hsh.tr hs9
  replace h := h  S3 hq4 hw9 hs9
  clear hB9 hz9 hk9 hvm9 ht9 hw9 hs9 hS
  generalize H1 = H at hR ⊢
  refine lv_aload_n hx hb dX3_findLoops_8 rfl (lv_at hl 0 rfl) ?_
  have hT_b5 : qT S3 (qO S3 52 14) = 211 := hR.w.ref (hR.w.ptr ptrC_33) (hR.w.2.1 _ finC_30).2.1
  refine va_get (D := rD g) (ci := 3) (v := .ref (ad (qO S3 52 14))) (C := RX3) (T := TX3) (N := 16) hx hb hts inX3 hown hR.K hR.P 52 (hR.at43 (hR.w.2.1 _ finC_30).2.1) rfl 14 (by decide) (hts _ kw_838) (fun _ h9 => h9) (congrArg (fun z => some (vf ad z)) (hR.w.ptr ptrC_33)) dX3_findLoops_9 ?_
  refine lv_iconst (v := (-1)) hx hb dX3_findLoops_12 (by decide) ?_
  replace h := h (hT_b5)
  obtain ⟨Q6, h0, h⟩ := h
  have hFc := cfree hR hA
  refine va_callv (va_runS (As := [.ref (ad (qO S3 52 14)), .int (-1)]) (rest := []) ⟨hx, hb, hml, hown, hts⟩ (rJ7_fill_53178 l g ad H.size S3 (qO S3 52 14) (-1 : Int32) hR.w (by decide) hT_b5 Q6 h0) (va_cwS 2 hts (gd_S kw_886 kw_1722 kw_1723 kw_1721) rfl rfl rfl (by decide +kernel) ⟨Nat.le_of_ble_eq_true rfl, Nat.le_of_ble_eq_true rfl⟩) ⟨cblind, fun U hU hW9 => cmk hU hW9 hR hex hE hFc⟩ rfl rfl hl.1 rfl (lv_room (Nat.le_of_ble_eq_true rfl)) dX3_findLoops_13 ⟨Nat.le_of_ble_eq_true rfl, Nat.le_of_ble_eq_true rfl⟩) hR.sS (fun q _ h => hFc q h) hFc (fun  S7 t9 H1 locs ht9 hvm9 hw9 hB9 hz9 hk9 hS => ?_)
  obtain ⟨hq8, hw9, hs9⟩ := hw9
  have hR : RepC g ad A s S7 H1 locs := hR.call ht9 hB9 hw9 hS hFc
  have hsh := hsh.tr hs9
  replace h := h  S7 hq8 hw9 hs9
  clear hB9 hz9 hk9 hvm9 ht9 hw9 hs9 hS
  generalize H1 = H at hR ⊢
  refine lv_iconst (v := 0) hx hb dX3_findLoops_16 (by decide) ?_
  refine lv_istore_n (lv' := [(1, .int 0), (0, .ref (ad 52))]) hx hb dX3_findLoops_17 rfl hl (by decide) rfl (fun ls hl => ?_)
  have J_18 : ∀ (n18 : Nat) (U18 : MS) (v18_1 : Int32) (H : Heap) (locs : List Loc) (ls : Array Slot), w_X3_findLoops_L18 Q n18 U18 v18_1 → shy S U18 → RepC g ad A s U18 H locs → lv_has ls 3 [(0, .ref (ad 52)), (1, .int v18_1)] → W p l e (headSpec (wt yX3_findLoops cX3_findLoops 3 none) ({ frames := 2, cells := 0, slots := 0, locals := 48 })).room s m ([.ref (ad 52)] : List Value).toArray below meth c H locs 0 0 (MQ below (va_Qv (fun (u : MS) => Q u ∧ wfC u ∧ shy S u) (fun (u : MS) (t : State) => qEC g ad A u t) A) ([.ref (ad 52)] : List Value).toArray s 0 0 A) (F0 m 18 ls []) := by
    intro n18
    induction n18 with
    | zero => intro U18 v18_1 H locs ls h hsh hR hl; unfold w_X3_findLoops_L18 at h; exact h.elim
    | succ n18 ih_18 =>
      intro U18 v18_1 H locs ls h hsh hR hl
      unfold w_X3_findLoops_L18 at h
      replace h := h hR.w
      refine lv_iload_n hx hb dX3_findLoops_18 rfl (lv_at hl 1 rfl) ?_
      refine lv_aload_n hx hb dX3_findLoops_19 rfl (lv_at hl 0 rfl) ?_
      refine va_get (D := rD g) (ci := 3) (v := .int (qI U18 52 1)) (C := RX3) (T := TX3) (N := 16) hx hb hts inX3 hown hR.K hR.P 52 (hR.at43 (hR.w.2.1 _ finC_30).2.1) rfl 1 (by decide) (hts _ kw_851) (fun _ h9 => h9) rfl dX3_findLoops_20 ?_
      refine lv_icmp_ge (tgt := 125) hx hb dX3_findLoops_23 (by decide) (fun c9 => ?_) (fun c9 => ?_)
      · replace h := h.1 (k_le rfl rfl c9)
        exact W.vret hx hb hr (fun t9 ht9 hW9 => ⟨⟨U18, rfl, ⟨h, hR.w, hsh⟩, ⟨by rw [ht9]; exact hR.P, hR.D⟩⟩, hR.sS.F ht9⟩) hR.sS.2.2 dX3_findLoops_125
      · replace h := h.2 (k_nle rfl rfl c9)
        refine lv_aload_n hx hb dX3_findLoops_26 rfl (lv_at hl 0 rfl) ?_
        have hT_b10 : qT U18 (qO U18 52 12) = 209 := hR.w.ref (hR.w.ptr ptrC_31) (hR.w.2.1 _ finC_30).2.1
        refine va_get (D := rD g) (ci := 3) (v := .ref (ad (qO U18 52 12))) (C := RX3) (T := TX3) (N := 16) hx hb hts inX3 hown hR.K hR.P 52 (hR.at43 (hR.w.2.1 _ finC_30).2.1) rfl 12 (by decide) (hts _ kw_918) (fun _ h9 => h9) (congrArg (fun z => some (vf ad z)) (hR.w.ptr ptrC_31)) dX3_findLoops_27 ?_
        refine lv_iload_n hx hb dX3_findLoops_30 rfl (lv_at hl 1 rfl) ?_
        refine lv_iconst (v := 0) hx hb dX3_findLoops_31 (by decide) ?_
        obtain ⟨hv11, h⟩ := h
        refine va_iast hx hb hR.K hR.P hR.D hR.sS (qO U18 52 12) 1 (hR.atI hT_b10 (by decide)) rfl (k_ix (x := v18_1) (a := v18_1.toInt) rfl hv11) dX3_findLoops_32 (fun H locs hP hD hS => ?_)
        have hTk9 : qT U18 (qO U18 52 12) = 209 := hT_b10
        have hR : RepC g ad A s (wI U18 (qO U18 52 12) v18_1.toInt.toNat (0 : Int32)) H locs := hR.aI hT_b10 (by decide) hP hD hS
        obtain ⟨S12, eS12⟩ : ∃ z, z = wI U18 (qO U18 52 12) v18_1.toInt.toNat (0 : Int32) := ⟨_, rfl⟩
        rw [← eS12] at hR
        replace h := h S12 eS12 hTk9 hR.w
        have hsh : shy S S12 := by rw [eS12]; exact hsh
        refine lv_aload_n hx hb dX3_findLoops_33 rfl (lv_at hl 0 rfl) ?_
        have hT_b13 : qT S12 (qO S12 52 6) = 206 := hR.w.ref (hR.w.ptr ptrC_26) (hR.w.2.1 _ finC_30).2.1
        refine va_get (D := rD g) (ci := 3) (v := .ref (ad (qO S12 52 6))) (C := RX3) (T := TX3) (N := 16) hx hb hts inX3 hown hR.K hR.P 52 (hR.at43 (hR.w.2.1 _ finC_30).2.1) rfl 6 (by decide) (hts _ kw_846) (fun _ h9 => h9) (congrArg (fun z => some (vf ad z)) (hR.w.ptr ptrC_26)) dX3_findLoops_34 ?_
        refine lv_iload_n hx hb dX3_findLoops_37 rfl (lv_at hl 1 rfl) ?_
        obtain ⟨hv14, h⟩ := h
        refine va_iald hx hb hR.K hR.P (qO S12 52 6) 1 (hR.atI hT_b13 (by decide)) rfl (k_ix (x := v18_1) (a := v18_1.toInt) rfl hv14) dX3_findLoops_38 ?_
        refine lv_topi (fun z15 ez15 => ?_)
        obtain rfl : z15 = (qI S12 (qO S12 52 6) v18_1.toInt.toNat) := ez15
        obtain ⟨a16, ea16⟩ : ∃ z, z = (qI S12 (qO S12 52 6) v18_1.toInt.toNat) := ⟨_, rfl⟩
        rw [← ea16]
        replace h := h a16 ea16
        refine lv_istore_n (lv' := [(2, .int a16), (0, .ref (ad 52)), (1, .int v18_1)]) hx hb dX3_findLoops_39 rfl hl (by decide) rfl (fun ls hl => ?_)
        have J_40 : ∀ (n40 : Nat) (U40 : MS) (v40_1 : Int32) (v40_2 : Int32) (H : Heap) (locs : List Loc) (ls : Array Slot), w_X3_findLoops_L40 Q (w_X3_findLoops_L18 Q n18) n40 U40 v40_1 v40_2 → shy S U40 → RepC g ad A s U40 H locs → lv_has ls 3 [(0, .ref (ad 52)), (1, .int v40_1), (2, .int v40_2)] → W p l e (headSpec (wt yX3_findLoops cX3_findLoops 3 none) ({ frames := 2, cells := 0, slots := 0, locals := 48 })).room s m ([.ref (ad 52)] : List Value).toArray below meth c H locs 0 0 (MQ below (va_Qv (fun (u : MS) => Q u ∧ wfC u ∧ shy S u) (fun (u : MS) (t : State) => qEC g ad A u t) A) ([.ref (ad 52)] : List Value).toArray s 0 0 A) (F0 m 40 ls []) := by
          intro n40
          induction n40 with
          | zero => intro U40 v40_1 v40_2 H locs ls h hsh hR hl; unfold w_X3_findLoops_L40 at h; exact h.elim
          | succ n40 ih_40 =>
            intro U40 v40_1 v40_2 H locs ls h hsh hR hl
            unfold w_X3_findLoops_L40 at h
            replace h := h hR.w
            refine lv_aload_n hx hb dX3_findLoops_40 rfl (lv_at hl 0 rfl) ?_
            have hT_b17 : qT U40 (qO U40 52 8) = 303 := hR.w.ref (hR.w.ptr ptrC_28) (hR.w.2.1 _ finC_30).2.1
            refine va_get (D := rD g) (ci := 3) (v := .ref (ad (qO U40 52 8))) (C := RX3) (T := TX3) (N := 16) hx hb hts inX3 hown hR.K hR.P 52 (hR.at43 (hR.w.2.1 _ finC_30).2.1) rfl 8 (by decide) (hts _ kw_847) (fun _ h9 => h9) (congrArg (fun z => some (vf ad z)) (hR.w.ptr ptrC_28)) dX3_findLoops_41 ?_
            refine lv_iload_n hx hb dX3_findLoops_44 rfl (lv_at hl 1 rfl) ?_
            obtain ⟨hv18, h⟩ := h
            refine va_zald hx hb hR.K hR.P (qO U40 52 8) 2 (hR.atZ hT_b17 (by decide)) rfl (k_ix (x := v40_1) (a := v40_1.toInt) rfl hv18) dX3_findLoops_45 ?_
            refine lv_topi (fun z19 ez19 => ?_)
            obtain rfl : z19 = (qI U40 (qO U40 52 8) v40_1.toInt.toNat) := ez19
            have hz20 := hR.w.bit3 (b := (qO U40 52 8)) (j := v40_1.toInt.toNat) (hT_b17) (by decide)
            have J_105 : ∀ (U105 : MS) (v105_1 : Int32) (H : Heap) (locs : List Loc) (ls : Array Slot), w_X3_findLoops_J105 Q (w_X3_findLoops_L18 Q n18) U105 v105_1 → shy S U105 → RepC g ad A s U105 H locs → lv_has ls 3 [(0, .ref (ad 52)), (1, .int v105_1)] → W p l e (headSpec (wt yX3_findLoops cX3_findLoops 3 none) ({ frames := 2, cells := 0, slots := 0, locals := 48 })).room s m ([.ref (ad 52)] : List Value).toArray below meth c H locs 0 0 (MQ below (va_Qv (fun (u : MS) => Q u ∧ wfC u ∧ shy S u) (fun (u : MS) (t : State) => qEC g ad A u t) A) ([.ref (ad 52)] : List Value).toArray s 0 0 A) (F0 m 105 ls []) := by
              intro U105 v105_1 H locs ls h hsh hR hl
              unfold w_X3_findLoops_J105 at h
              replace h := h hR.w
              refine lv_aload_n hx hb dX3_findLoops_105 rfl (lv_at hl 0 rfl) ?_
              have hT_b21 : qT U105 (qO U105 52 12) = 209 := hR.w.ref (hR.w.ptr ptrC_31) (hR.w.2.1 _ finC_30).2.1
              refine va_get (D := rD g) (ci := 3) (v := .ref (ad (qO U105 52 12))) (C := RX3) (T := TX3) (N := 16) hx hb hts inX3 hown hR.K hR.P 52 (hR.at43 (hR.w.2.1 _ finC_30).2.1) rfl 12 (by decide) (hts _ kw_918) (fun _ h9 => h9) (congrArg (fun z => some (vf ad z)) (hR.w.ptr ptrC_31)) dX3_findLoops_106 ?_
              refine lv_iload_n hx hb dX3_findLoops_109 rfl (lv_at hl 1 rfl) ?_
              obtain ⟨hv22, h⟩ := h
              refine va_iald hx hb hR.K hR.P (qO U105 52 12) 1 (hR.atI hT_b21 (by decide)) rfl (k_ix (x := v105_1) (a := v105_1.toInt) rfl hv22) dX3_findLoops_110 ?_
              refine lv_topi (fun z23 ez23 => ?_)
              obtain rfl : z23 = (qI U105 (qO U105 52 12) v105_1.toInt.toNat) := ez23
              have J_119 : ∀ (U119 : MS) (v119_1 : Int32) (H : Heap) (locs : List Loc) (ls : Array Slot), w_X3_findLoops_J119 Q (w_X3_findLoops_L18 Q n18) U119 v119_1 → shy S U119 → RepC g ad A s U119 H locs → lv_has ls 3 [(0, .ref (ad 52)), (1, .int v119_1)] → W p l e (headSpec (wt yX3_findLoops cX3_findLoops 3 none) ({ frames := 2, cells := 0, slots := 0, locals := 48 })).room s m ([.ref (ad 52)] : List Value).toArray below meth c H locs 0 0 (MQ below (va_Qv (fun (u : MS) => Q u ∧ wfC u ∧ shy S u) (fun (u : MS) (t : State) => qEC g ad A u t) A) ([.ref (ad 52)] : List Value).toArray s 0 0 A) (F0 m 119 ls []) := by
                intro U119 v119_1 H locs ls h hsh hR hl
                unfold w_X3_findLoops_J119 at h
                replace h := h hR.w
                obtain ⟨a24, ea24⟩ : ∃ z, z = (v119_1 + Int32.ofInt 1) := ⟨_, rfl⟩
                replace h := h a24 ea24
                refine lv_iinc (v := a24) (lv' := [(1, .int a24), (0, .ref (ad 52))]) hx hb dX3_findLoops_119 hl (k := 1) rfl ea24.symm (by decide) rfl (fun ls hl => ?_)
                refine lv_goto (tgt := 18) hx hb dX3_findLoops_122 (by decide) ?_
                exact ih_18 U119 a24 _ _ ls h  hsh hR (lv_sub hl [1, 0] rfl)
              refine lv_if_le (tgt := 119) hx hb dX3_findLoops_111 (by decide) (fun c25 => ?_) (fun c25 => ?_)
              · replace h := h.1 (k_le rfl (by decide) c25)
                exact J_119 U105 v105_1 _ _ ls h  hsh hR (lv_sub hl [0, 1] rfl)
              · replace h := h.2 (k_nle rfl (by decide) c25)
                refine lv_aload_n hx hb dX3_findLoops_114 rfl (lv_at hl 0 rfl) ?_
                refine lv_iload_n hx hb dX3_findLoops_115 rfl (lv_at hl 1 rfl) ?_
                obtain ⟨Q26, h0, h⟩ := h
                have hFc := cfree hR hA
                refine va_callv (va_runV (As := [.int v105_1]) (rest := []) ⟨hx, hb, hml, hown, hts⟩ (rX3_addLoop l g ad H.size U105 v105_1 hR.w  Q26 h0) (cwV 1 hts (gd_V kw_919 kw_843 kw_844 kw_401 kw_842) rfl rfl rfl (by decide +kernel) ⟨Nat.le_of_ble_eq_true rfl, Nat.le_of_ble_eq_true rfl⟩) ⟨cblind, va_recv hR.K hR.P (ci := 3) (q0 := 52) rfl (hR.at43 (hR.w.2.1 _ finC_30).2.1), fun U hU hW9 => cmk hU hW9 hR hex hE hFc⟩ rfl rfl hl.1 rfl (lv_room (Nat.le_of_ble_eq_true rfl)) dX3_findLoops_116 ⟨Nat.le_of_ble_eq_true rfl, Nat.le_of_ble_eq_true rfl⟩) hR.sS (fun q _ h => hFc q h) hFc (fun  S27 t9 H1 locs ht9 hvm9 hw9 hB9 hz9 hk9 hS => ?_)
                obtain ⟨hq28, hw9, hs9⟩ := hw9
                have hR : RepC g ad A s S27 H1 locs := hR.call ht9 hB9 hw9 hS hFc
                have hsh := hsh.tr hs9
                replace h := h  S27 hq28 hw9 hs9
                clear hB9 hz9 hk9 hvm9 ht9 hw9 hs9 hS
                generalize H1 = H at hR ⊢
                exact J_119 S27 v105_1 _ _ ls h  hsh hR (lv_sub hl [0, 1] rfl)
            refine lv_if_eq (tgt := 105) hx hb dX3_findLoops_46 (by decide) (fun c29 => ?_) (fun c29 => ?_)
            · replace h := h.1 (k_eq rfl (by decide) c29)
              exact J_105 U40 v40_1 _ _ ls h  hsh hR (lv_sub hl [0, 1] rfl)
            · replace h := h.2 (k_ne rfl (by decide) c29)
              refine lv_iload_n hx hb dX3_findLoops_49 rfl (lv_at hl 2 rfl) ?_
              refine lv_aload_n hx hb dX3_findLoops_50 rfl (lv_at hl 0 rfl) ?_
              have hT_b30 : qT U40 (qO U40 52 6) = 206 := hR.w.ref (hR.w.ptr ptrC_26) (hR.w.2.1 _ finC_30).2.1
              refine va_get (D := rD g) (ci := 3) (v := .ref (ad (qO U40 52 6))) (C := RX3) (T := TX3) (N := 16) hx hb hts inX3 hown hR.K hR.P 52 (hR.at43 (hR.w.2.1 _ finC_30).2.1) rfl 6 (by decide) (hts _ kw_846) (fun _ h9 => h9) (congrArg (fun z => some (vf ad z)) (hR.w.ptr ptrC_26)) dX3_findLoops_51 ?_
              refine lv_iload_n hx hb dX3_findLoops_54 rfl (lv_at hl 1 rfl) ?_
              refine lv_iconst (v := 1) hx hb dX3_findLoops_55 (by decide) ?_
              refine lv_iadd hx hb dX3_findLoops_56 ?_
              refine lv_topi (fun z31 ez31 => ?_)
              obtain rfl : z31 = (v40_1 + (1 : Int32)) := ez31
              obtain ⟨hv32, h⟩ := h
              refine va_iald hx hb hR.K hR.P (qO U40 52 6) 1 (hR.atI hT_b30 (by decide)) rfl (k_ix (x := (v40_1 + (1 : Int32))) (a := (v40_1 + (1 : Int32)).toInt) rfl hv32) dX3_findLoops_57 ?_
              refine lv_topi (fun z33 ez33 => ?_)
              obtain rfl : z33 = (qI U40 (qO U40 52 6) (((v40_1 + (1 : Int32)).toInt).toNat)) := ez33
              refine lv_icmp_ge (tgt := 105) hx hb dX3_findLoops_58 (by decide) (fun c34 => ?_) (fun c34 => ?_)
              · replace h := h.1 (k_le rfl rfl c34)
                exact J_105 U40 v40_1 _ _ ls h  hsh hR (lv_sub hl [0, 1] rfl)
              · replace h := h.2 (k_nle rfl rfl c34)
                refine lv_aload_n hx hb dX3_findLoops_61 rfl (lv_at hl 0 rfl) ?_
                have hT_b35 : qT U40 (qO U40 52 8) = 303 := hR.w.ref (hR.w.ptr ptrC_28) (hR.w.2.1 _ finC_30).2.1
                refine va_get (D := rD g) (ci := 3) (v := .ref (ad (qO U40 52 8))) (C := RX3) (T := TX3) (N := 16) hx hb hts inX3 hown hR.K hR.P 52 (hR.at43 (hR.w.2.1 _ finC_30).2.1) rfl 8 (by decide) (hts _ kw_847) (fun _ h9 => h9) (congrArg (fun z => some (vf ad z)) (hR.w.ptr ptrC_28)) dX3_findLoops_62 ?_
                refine lv_aload_n hx hb dX3_findLoops_65 rfl (lv_at hl 0 rfl) ?_
                have hT_b36 : qT U40 (qO U40 52 7) = 207 := hR.w.ref (hR.w.ptr ptrC_27) (hR.w.2.1 _ finC_30).2.1
                refine va_get (D := rD g) (ci := 3) (v := .ref (ad (qO U40 52 7))) (C := RX3) (T := TX3) (N := 16) hx hb hts inX3 hown hR.K hR.P 52 (hR.at43 (hR.w.2.1 _ finC_30).2.1) rfl 7 (by decide) (hts _ kw_848) (fun _ h9 => h9) (congrArg (fun z => some (vf ad z)) (hR.w.ptr ptrC_27)) dX3_findLoops_66 ?_
                refine lv_iload_n hx hb dX3_findLoops_69 rfl (lv_at hl 2 rfl) ?_
                obtain ⟨hv37, h⟩ := h
                refine va_iald hx hb hR.K hR.P (qO U40 52 7) 1 (hR.atI hT_b36 (by decide)) rfl (k_ix (x := v40_2) (a := v40_2.toInt) rfl hv37) dX3_findLoops_70 ?_
                refine lv_topi (fun z38 ez38 => ?_)
                obtain rfl : z38 = (qI U40 (qO U40 52 7) v40_2.toInt.toNat) := ez38
                obtain ⟨hv39, h⟩ := h
                refine va_zald hx hb hR.K hR.P (qO U40 52 8) 2 (hR.atZ hT_b35 (by decide)) rfl (k_ix (x := (qI U40 (qO U40 52 7) v40_2.toInt.toNat)) (a := (qI U40 (qO U40 52 7) v40_2.toInt.toNat).toInt) rfl hv39) dX3_findLoops_71 ?_
                refine lv_topi (fun z40 ez40 => ?_)
                obtain rfl : z40 = (qI U40 (qO U40 52 8) (((qI U40 (qO U40 52 7) v40_2.toInt.toNat).toInt).toNat)) := ez40
                have hz41 := hR.w.bit3 (b := (qO U40 52 8)) (j := ((qI U40 (qO U40 52 7) v40_2.toInt.toNat).toInt).toNat) (hT_b35) (by decide)
                have J_99 : ∀ (U99 : MS) (v99_1 : Int32) (v99_2 : Int32) (H : Heap) (locs : List Loc) (ls : Array Slot), w_X3_findLoops_J99 Q (w_X3_findLoops_L40 Q (w_X3_findLoops_L18 Q n18) n40) U99 v99_1 v99_2 → shy S U99 → RepC g ad A s U99 H locs → lv_has ls 3 [(0, .ref (ad 52)), (1, .int v99_1), (2, .int v99_2)] → W p l e (headSpec (wt yX3_findLoops cX3_findLoops 3 none) ({ frames := 2, cells := 0, slots := 0, locals := 48 })).room s m ([.ref (ad 52)] : List Value).toArray below meth c H locs 0 0 (MQ below (va_Qv (fun (u : MS) => Q u ∧ wfC u ∧ shy S u) (fun (u : MS) (t : State) => qEC g ad A u t) A) ([.ref (ad 52)] : List Value).toArray s 0 0 A) (F0 m 99 ls []) := by
                  intro U99 v99_1 v99_2 H locs ls h hsh hR hl
                  unfold w_X3_findLoops_J99 at h
                  replace h := h hR.w
                  obtain ⟨a42, ea42⟩ : ∃ z, z = (v99_2 + Int32.ofInt 1) := ⟨_, rfl⟩
                  replace h := h a42 ea42
                  refine lv_iinc (v := a42) (lv' := [(2, .int a42), (0, .ref (ad 52)), (1, .int v99_1)]) hx hb dX3_findLoops_99 hl (k := 2) rfl ea42.symm (by decide) rfl (fun ls hl => ?_)
                  refine lv_goto (tgt := 40) hx hb dX3_findLoops_102 (by decide) ?_
                  exact ih_40 U99 v99_1 a42 _ _ ls h  hsh hR (lv_sub hl [1, 2, 0] rfl)
                refine lv_if_eq (tgt := 99) hx hb dX3_findLoops_72 (by decide) (fun c43 => ?_) (fun c43 => ?_)
                · replace h := h.1 (k_eq rfl (by decide) c43)
                  exact J_99 U40 v40_1 v40_2 _ _ ls h  hsh hR (lv_sub hl [0, 1, 2] rfl)
                · replace h := h.2 (k_ne rfl (by decide) c43)
                  refine lv_aload_n hx hb dX3_findLoops_75 rfl (lv_at hl 0 rfl) ?_
                  refine lv_iload_n hx hb dX3_findLoops_76 rfl (lv_at hl 1 rfl) ?_
                  refine lv_aload_n hx hb dX3_findLoops_77 rfl (lv_at hl 0 rfl) ?_
                  have hT_b44 : qT U40 (qO U40 52 7) = 207 := hR.w.ref (hR.w.ptr ptrC_27) (hR.w.2.1 _ finC_30).2.1
                  refine va_get (D := rD g) (ci := 3) (v := .ref (ad (qO U40 52 7))) (C := RX3) (T := TX3) (N := 16) hx hb hts inX3 hown hR.K hR.P 52 (hR.at43 (hR.w.2.1 _ finC_30).2.1) rfl 7 (by decide) (hts _ kw_848) (fun _ h9 => h9) (congrArg (fun z => some (vf ad z)) (hR.w.ptr ptrC_27)) dX3_findLoops_78 ?_
                  refine lv_iload_n hx hb dX3_findLoops_81 rfl (lv_at hl 2 rfl) ?_
                  obtain ⟨hv45, h⟩ := h
                  refine va_iald hx hb hR.K hR.P (qO U40 52 7) 1 (hR.atI hT_b44 (by decide)) rfl (k_ix (x := v40_2) (a := v40_2.toInt) rfl hv45) dX3_findLoops_82 ?_
                  refine lv_topi (fun z46 ez46 => ?_)
                  obtain rfl : z46 = (qI U40 (qO U40 52 7) v40_2.toInt.toNat) := ez46
                  obtain ⟨hv47, h⟩ := h
                  have hFc := cfree hR hA
                  refine va_calli (va_runV (As := [.int v40_1, .int (qI U40 (qO U40 52 7) v40_2.toInt.toNat)]) (rest := []) ⟨hx, hb, hml, hown, hts⟩ (rX3_dominates l g ad H.size U40 v40_1 (qI U40 (qO U40 52 7) v40_2.toInt.toNat) hR.w  hv47) (cwV 2 hts (gd_V kw_849 kw_864 kw_865 kw_401 kw_863) rfl rfl rfl (by decide +kernel) ⟨Nat.le_of_ble_eq_true rfl, Nat.le_of_ble_eq_true rfl⟩) ⟨cblind, va_recv hR.K hR.P (ci := 3) (q0 := 52) rfl (hR.at43 (hR.w.2.1 _ finC_30).2.1), fun U hU hW9 => cmk hU hW9 hR hex hE hFc⟩ rfl rfl hl.1 rfl (lv_room (Nat.le_of_ble_eq_true rfl)) dX3_findLoops_83 ⟨Nat.le_of_ble_eq_true rfl, Nat.le_of_ble_eq_true rfl⟩) hR.sS (fun q _ h => hFc q h) hFc (fun r48 u9 t9 H1 locs ht9 hvm9 hw9 hB9 hz9 hk9 hS => ?_)
                  have hR : RepC g ad A s U40 H1 locs := hR.call ht9 hB9 hR.w hS hFc
                  obtain ⟨rfl, hz_r48⟩ := hw9
                  clear hB9 hz9 hk9 hvm9 ht9 hS
                  generalize H1 = H at hR ⊢
                  refine lv_if_eq (tgt := 99) hx hb dX3_findLoops_86 (by decide) (fun c50 => ?_) (fun c50 => ?_)
                  · replace h := h.1 (k_eq rfl (by decide) c50)
                    exact J_99 U40 v40_1 v40_2 _ _ ls h  hsh hR (lv_sub hl [0, 1, 2] rfl)
                  · replace h := h.2 (k_ne rfl (by decide) c50)
                    refine lv_aload_n hx hb dX3_findLoops_89 rfl (lv_at hl 0 rfl) ?_
                    have hT_b51 : qT U40 (qO U40 52 12) = 209 := hR.w.ref (hR.w.ptr ptrC_31) (hR.w.2.1 _ finC_30).2.1
                    refine va_get (D := rD g) (ci := 3) (v := .ref (ad (qO U40 52 12))) (C := RX3) (T := TX3) (N := 16) hx hb hts inX3 hown hR.K hR.P 52 (hR.at43 (hR.w.2.1 _ finC_30).2.1) rfl 12 (by decide) (hts _ kw_918) (fun _ h9 => h9) (congrArg (fun z => some (vf ad z)) (hR.w.ptr ptrC_31)) dX3_findLoops_90 ?_
                    refine lv_iload_n hx hb dX3_findLoops_93 rfl (lv_at hl 1 rfl) ?_
                    refine lv_dup2_11 hx hb dX3_findLoops_94 rfl rfl ?_
                    obtain ⟨hv52, h⟩ := h
                    refine va_iald hx hb hR.K hR.P (qO U40 52 12) 1 (hR.atI hT_b51 (by decide)) rfl (k_ix (x := v40_1) (a := v40_1.toInt) rfl hv52) dX3_findLoops_95 ?_
                    refine lv_topi (fun z53 ez53 => ?_)
                    obtain rfl : z53 = (qI U40 (qO U40 52 12) v40_1.toInt.toNat) := ez53
                    refine lv_iconst (v := 1) hx hb dX3_findLoops_96 (by decide) ?_
                    refine lv_iadd hx hb dX3_findLoops_97 ?_
                    refine lv_topi (fun z54 ez54 => ?_)
                    obtain rfl : z54 = ((qI U40 (qO U40 52 12) v40_1.toInt.toNat) + (1 : Int32)) := ez54
                    obtain ⟨hv55, h⟩ := h
                    refine va_iast hx hb hR.K hR.P hR.D hR.sS (qO U40 52 12) 1 (hR.atI hT_b51 (by decide)) rfl (k_ix (x := v40_1) (a := v40_1.toInt) rfl hv55) dX3_findLoops_98 (fun H locs hP hD hS => ?_)
                    have hTk9 : qT U40 (qO U40 52 12) = 209 := hT_b51
                    have hR : RepC g ad A s (wI U40 (qO U40 52 12) v40_1.toInt.toNat ((qI U40 (qO U40 52 12) v40_1.toInt.toNat) + (1 : Int32))) H locs := hR.aI hT_b51 (by decide) hP hD hS
                    obtain ⟨S56, eS56⟩ : ∃ z, z = wI U40 (qO U40 52 12) v40_1.toInt.toNat ((qI U40 (qO U40 52 12) v40_1.toInt.toNat) + (1 : Int32)) := ⟨_, rfl⟩
                    rw [← eS56] at hR
                    replace h := h S56 eS56 hTk9 hR.w
                    have hsh : shy S S56 := by rw [eS56]; exact hsh
                    exact J_99 S56 v40_1 v40_2 _ _ ls h  hsh hR (lv_sub hl [0, 1, 2] rfl)
        obtain ⟨n9, h⟩ := h
        exact J_40 n9 S12 v18_1 a16 _ _ ls h  hsh hR (lv_sub hl [1, 2, 0] rfl)
  obtain ⟨n9, h⟩ := h
  exact J_18 n9 S7 0 _ _ ls h  hsh hR (lv_sub hl [1, 0] rfl)
def w_X4_seek_J154 (Q : MS → Prop) (k45 : MS → Nat → Int32 → Prop) (U154 : MS) (v154_0 : Nat) (v154_4 : Int32) : Prop := (wfC U154 → qT U154 v154_0 = 44 → (∀ a21 : Int32, a21 = (v154_4 + Int32.ofInt 1) → k45 U154 v154_0 a21))
def w_X4_seek_J148 (Q : MS → Prop) (k67 : MS → Nat → Int32 → Int32 → Prop) (U148 : MS) (v148_0 : Nat) (v148_4 : Int32) (v148_5 : Int32) : Prop := (wfC U148 → qT U148 v148_0 = 44 → (∀ a37 : Int32, a37 = (v148_5 + Int32.ofInt 1) → k67 U148 v148_0 v148_4 a37))
def w_X4_seek_J142 (Q : MS → Prop) (k109 : MS → Nat → Int32 → Int32 → Int32 → Int32 → Prop) (U142 : MS) (v142_0 : Nat) (v142_4 : Int32) (v142_5 : Int32) (v142_6 : Int32) (v142_7 : Int32) : Prop := (wfC U142 → qT U142 v142_0 = 44 → (∀ a42 : Int32, a42 = (v142_7 + Int32.ofInt 1) → k109 U142 v142_0 v142_4 v142_5 v142_6 a42))
def w_X4_seek_L109 (Q : MS → Prop) (k67 : MS → Nat → Int32 → Int32 → Prop) : Nat → MS → Nat → Int32 → Int32 → Int32 → Int32 → Prop
  | 0, _, _, _, _, _, _ => False
  | n109 + 1, U109, v109_0, v109_4, v109_5, v109_6, v109_7 => (wfC U109 → qT U109 v109_0 = 44 → ((((v109_6.toUInt32 >>> (v109_7.toUInt32 &&& Int32.toUInt32 31)).toInt32).toInt ≤ 0 → w_X4_seek_J148 Q k67 U109 v109_0 v109_4 v109_5) ∧ (¬ ((v109_6.toUInt32 >>> (v109_7.toUInt32 &&& Int32.toUInt32 31)).toInt32).toInt ≤ 0 → ((31 ≤ v109_7.toInt → w_X4_seek_J148 Q k67 U109 v109_0 v109_4 v109_5) ∧ (¬ 31 ≤ v109_7.toInt → ((((v109_6 >>> (v109_7 &&& 31)) &&& (1 : Int32)).toInt = 0 → w_X4_seek_J142 Q (w_X4_seek_L109 Q k67 n109) U109 v109_0 v109_4 v109_5 v109_6 v109_7) ∧ (¬ ((v109_6 >>> (v109_7 &&& 31)) &&& (1 : Int32)).toInt = 0 → (qT U109 v109_0 = 44 → (∃ Q44, wX4_spread U109 v109_0 v109_5 v109_7 Q44 ∧ ∀ S45, Q44 S45 → wfC S45 → shy U109 S45 → w_X4_seek_J142 Q (w_X4_seek_L109 Q k67 n109) S45 v109_0 v109_4 v109_5 v109_6 v109_7)))))))))
def w_X4_seek_L67 (Q : MS → Prop) (k45 : MS → Nat → Int32 → Prop) : Nat → MS → Nat → Int32 → Int32 → Prop
  | 0, _, _, _, _ => False
  | n67 + 1, U67, v67_0, v67_4, v67_5 => (wfC U67 → qT U67 v67_0 = 44 → ((qR U67 v67_0 4 = some (qO U67 v67_0 4)) ∧ (((qI U67 (qO U67 v67_0 4) 2).toInt ≤ v67_5.toInt → w_X4_seek_J154 Q k45 U67 v67_0 v67_4) ∧ (¬ (qI U67 (qO U67 v67_0 4) 2).toInt ≤ v67_5.toInt → ((qR U67 v67_0 1 = some (qO U67 v67_0 1)) ∧ (((qN U67 (qO U67 v67_0 1) : Int) ≤ v67_5.toInt → w_X4_seek_J154 Q k45 U67 v67_0 v67_4) ∧ (¬ (qN U67 (qO U67 v67_0 1) : Int) ≤ v67_5.toInt → ((qR U67 v67_0 1 = some (qO U67 v67_0 1)) ∧ (((0 : Int) ≤ v67_5.toInt ∧ v67_5.toInt < (qN U67 (qO U67 v67_0 1) : Int)) ∧ (∀ a31 : Int32, a31 = (qI U67 (qO U67 v67_0 1) v67_5.toInt.toNat) → ((qR U67 v67_0 1 = some (qO U67 v67_0 1)) ∧ (((0 : Int) ≤ v67_5.toInt ∧ v67_5.toInt < (qN U67 (qO U67 v67_0 1) : Int)) ∧ (∀ S35, S35 = wI U67 (qO U67 v67_0 1) v67_5.toInt.toNat (0 : Int32) → qT U67 (qO U67 v67_0 1) = 214 → wfC S35 → (∃ n, w_X4_seek_L109 Q (w_X4_seek_L67 Q k45 n67) n S35 v67_0 v67_4 v67_5 a31 0))))))))))))))
def w_X4_seek_L45 (Q : MS → Prop) : Nat → MS → Nat → Int32 → Prop
  | 0, _, _, _ => False
  | n45 + 1, U45, v45_0, v45_4 => (wfC U45 → qT U45 v45_0 = 44 → (((qI U45 v45_0 6).toInt = 0 → Q U45) ∧ (¬ (qI U45 v45_0 6).toInt = 0 → ((1000000 ≤ v45_4.toInt → Q U45) ∧ (¬ 1000000 ≤ v45_4.toInt → (∀ S18, S18 = wI U45 v45_0 6 (0 : Int32) → qT U45 v45_0 = 44 → wfC S18 → (∃ n, w_X4_seek_L67 Q (w_X4_seek_L45 Q n45) n S18 v45_0 v45_4 0)))))))
def wX4_seek (S : MS) (p0 : Nat) (p1 : Nat) (p2 : Nat) (x3 : Int32) (Q : MS → Prop) : Prop := (∀ S1, S1 = wR S p0 3 (some p1) → qT S p0 = 44 → wfC S1 → (∀ S2, S2 = wR S1 p0 4 (some p2) → qT S1 p0 = 44 → wfC S2 → (∀ S3, S3 = wI S2 p0 5 x3 → qT S2 p0 = 44 → wfC S3 → (∀ S4, S4 = wI S3 p0 7 (0 : Int32) → qT S3 p0 = 44 → wfC S4 → ((qR S4 p0 4 = some (qO S4 p0 4)) ∧ (qT S4 p0 = 44 → (∃ Q7, wX4_makeRoom S4 p0 (qI S4 (qO S4 p0 4) 2) Q7 ∧ ∀ S8, Q7 S8 → wfC S8 → shx S4 S8 → (qT S8 p0 = 44 → (∃ Q11, wX4_comeTo S8 p0 (0 : Int32) (0 : Int32) Q11 ∧ ∀ S12, Q11 S12 → wfC S12 → shy S8 S12 → (∀ S14, S14 = wI S12 p0 6 (1 : Int32) → qT S12 p0 = 44 → wfC S14 → (∃ n, w_X4_seek_L45 Q n S14 p0 0)))))))))))
set_option maxHeartbeats 2000000 in
set_option maxRecDepth 100000 in
theorem rX4_seek (l : Launch) (g : Gr) (ad : Nat → Nat) (H0 : Heap) (S : MS) (p0 : Nat) (p1 : Nat) (p2 : Nat) (x3 : Int32) (hw : wfC S) (hT_p0 : qT S p0 = 44) (hT_p1 : qT S p1 = 49) (hT_p2 : qT S p2 = 47) (Q : MS → Prop) (h : wX4_seek S p0 p1 p2 x3 Q) : Met l yX4_seek (wt yX4_seek cX4_seek 8 none) ({ frames := 4, cells := KCC - qn S, slots := KSC - qu S, locals := 94 }) (va_Pc [.ref (ad p0), .ref (ad p1), .ref (ad p2), .int x3] (st_CH g ad H0 S)) (va_Qv (fun (u : MS × (Nat → Nat)) => Q u.1 ∧ wfC u.1 ∧ shx S u.1 ∧ adk ad u.2 S) (fun (u : MS × (Nat → Nat)) (t : State) => qEHC g (va_A (WdC g ad S) H0.size) S H0 u t) (va_A (WdC g ad S) H0.size)) (KCC - qn S) (KSC - qu S) (va_A (WdC g ad S) H0.size) := by
  refine Met.ofW (cc := cX4_seek) (maxL := 8) (ret := none) (by decide) rfl ?_
  intro p e s m args below meth c s₁ B hml hv
  obtain ⟨rfl, hH0, hsz, hP, hK, hD0, hex, hE⟩ := hv
  have hx := B.exec
  have hb := B.bytes
  have hr := B.returns
  have hts0 := atoms_spec (ws := wt yX4_seek cX4_seek 8 none) B.pre
  have hts : ∀ w ∈ tb, w.before _ s = true := fun w h => hts0 w (List.mem_cons_of_mem _ h)
  have hown : s.vm.findClass RX4 = some m.cls := findClass_of_methodNamed B.named
  subst hH0
  have hD := hD0.self (sz := s.heap.size)
  generalize hAe : va_A (WdC g ad S) s.heap.size = A at hD hE ⊢
  have hA : ∀ q : Nat, s.heap.size ≤ q → A q := fun q h => by rw [← hAe]; exact Or.inr h
  have hR : RepC g ad A s S s.heap [] := ⟨hK, hP, hD, va_S.rf, hw⟩
  clear hK hP hD hD0
  have hl := lv_entry ([.ref (ad p0), .ref (ad p1), .ref (ad p2), .int x3]) (n := 8) (Nat.le_of_ble_eq_true rfl)
  rw [lg_entry_eq]
  generalize (lg_sl ([.ref (ad p0), .ref (ad p1), .ref (ad p2), .int x3]) ++ List.replicate (8 - (lg_sl ([.ref (ad p0), .ref (ad p1), .ref (ad p2), .int x3])).length) Slot.unset).toArray = ls at hl ⊢
  have hlg : lgC S S 0 0 := lgC.rf
  have hak : adk ad ad S := adk.rf
  have hl : lv_has ls 8 [(0, .ref (ad p0)), (1, .ref (ad p1)), (2, .ref (ad p2)), (3, .int x3)] := hl
  have hsh : shx S S := shx.rf
  unfold wX4_seek at h
  refine lv_aload_n hx hb dX4_seek_0 rfl (lv_at hl 0 rfl) ?_
  refine lv_aload_n hx hb dX4_seek_1 rfl (lv_at hl 1 rfl) ?_
  refine va_put (D := rD g) (ci := 4) (v := .ref (ad p1)) (ty := (.object "CodeFoundry$Unit")) (C := RX4) (T := TX4) (N := 8) hx hb hts inX4 tyX4 tyX4_ok nmX4 hown hR.K hR.P hR.D hR.sS p0 (hR.at44 hT_p0) rfl 3 (by decide) (hts _ kw_978) (fun _ h9 => h9) rfl (by decide +kernel) rfl rfl (Nat.le_of_ble_eq_true rfl) dX4_seek_2 (fun H locs hP hD hS => ?_)
  have hw9 : wfC (wR S p0 3 (some p1)) := hR.w.put (fun b q9 => by cases q9; exact (hT_p1).trans (by rw [hT_p0]; rfl)) (hR.w.noown hT_p0 (by decide) (by decide)) (by rw [hT_p0]; decide) (fun b _ q9 => absurd (show otgC (qT S p0) 3 = 0 by rw [hT_p0]; decide) q9) (fun _ => Option.some_ne_none _)
  have hTk9 : qT S p0 = 44 := hT_p0
  have hR : RepC g ad A s (wR S p0 3 (some p1)) H locs := hR.pR44 hT_p0 FX4_s3 hw9 hP hD hS
  obtain ⟨S1, eS1⟩ : ∃ z, z = wR S p0 3 (some p1) := ⟨_, rfl⟩
  rw [← eS1] at hR
  replace h := h S1 eS1 hTk9 hR.w
  have hT_p0 : qT S1 p0 = 44 := (congrArg (fun z => qT z p0) eS1).trans hT_p0
  have hT_p1 : qT S1 p1 = 49 := (congrArg (fun z => qT z p1) eS1).trans hT_p1
  have hT_p2 : qT S1 p2 = 47 := (congrArg (fun z => qT z p2) eS1).trans hT_p2
  have hsh : shx S S1 := by rw [eS1]; exact hsh
  have hlg : lgC S S1 (0) (0) := by rw [eS1]; exact hlg
  refine lv_aload_n hx hb dX4_seek_5 rfl (lv_at hl 0 rfl) ?_
  refine lv_aload_n hx hb dX4_seek_6 rfl (lv_at hl 2 rfl) ?_
  refine va_put (D := rD g) (ci := 4) (v := .ref (ad p2)) (ty := (.object "CodeFoundry$Row")) (C := RX4) (T := TX4) (N := 8) hx hb hts inX4 tyX4 tyX4_ok nmX4 hown hR.K hR.P hR.D hR.sS p0 (hR.at44 hT_p0) rfl 4 (by decide) (hts _ kw_954) (fun _ h9 => h9) rfl (by decide +kernel) rfl rfl (Nat.le_of_ble_eq_true rfl) dX4_seek_7 (fun H locs hP hD hS => ?_)
  have hw9 : wfC (wR S1 p0 4 (some p2)) := hR.w.put (fun b q9 => by cases q9; exact (hT_p2).trans (by rw [hT_p0]; rfl)) (hR.w.noown hT_p0 (by decide) (by decide)) (by rw [hT_p0]; decide) (fun b _ q9 => absurd (show otgC (qT S1 p0) 4 = 0 by rw [hT_p0]; decide) q9) (fun _ => Option.some_ne_none _)
  have hTk9 : qT S1 p0 = 44 := hT_p0
  have hR : RepC g ad A s (wR S1 p0 4 (some p2)) H locs := hR.pR44 hT_p0 FX4_s4 hw9 hP hD hS
  obtain ⟨S2, eS2⟩ : ∃ z, z = wR S1 p0 4 (some p2) := ⟨_, rfl⟩
  rw [← eS2] at hR
  replace h := h S2 eS2 hTk9 hR.w
  have hT_p0 : qT S2 p0 = 44 := (congrArg (fun z => qT z p0) eS2).trans hT_p0
  have hT_p1 : qT S2 p1 = 49 := (congrArg (fun z => qT z p1) eS2).trans hT_p1
  have hT_p2 : qT S2 p2 = 47 := (congrArg (fun z => qT z p2) eS2).trans hT_p2
  have hsh : shx S S2 := by rw [eS2]; exact hsh
  have hlg : lgC S S2 (0) (0) := by rw [eS2]; exact hlg
  refine lv_aload_n hx hb dX4_seek_10 rfl (lv_at hl 0 rfl) ?_
  refine lv_iload_n hx hb dX4_seek_11 rfl (lv_at hl 3 rfl) ?_
  refine va_put (D := rD g) (ci := 4) (v := .int x3) (ty := .int) (C := RX4) (T := TX4) (N := 8) hx hb hts inX4 tyX4 tyX4_ok nmX4 hown hR.K hR.P hR.D hR.sS p0 (hR.at44 hT_p0) rfl 5 (by decide) (hts _ kw_979) (fun _ h9 => h9) rfl (by decide +kernel) rfl rfl (Nat.le_of_ble_eq_true rfl) dX4_seek_12 (fun H locs hP hD hS => ?_)
  have hTk9 : qT S2 p0 = 44 := hT_p0
  have hR : RepC g ad A s (wI S2 p0 5 x3) H locs := hR.pI44 hT_p0 FX4_s5 (fun q9 => absurd q9 (by decide)) hP hD hS
  obtain ⟨S3, eS3⟩ : ∃ z, z = wI S2 p0 5 x3 := ⟨_, rfl⟩
  rw [← eS3] at hR
  replace h := h S3 eS3 hTk9 hR.w
  have hT_p0 : qT S3 p0 = 44 := (congrArg (fun z => qT z p0) eS3).trans hT_p0
  have hT_p1 : qT S3 p1 = 49 := (congrArg (fun z => qT z p1) eS3).trans hT_p1
  have hT_p2 : qT S3 p2 = 47 := (congrArg (fun z => qT z p2) eS3).trans hT_p2
  have hsh : shx S S3 := by rw [eS3]; exact hsh
  have hlg : lgC S S3 (0) (0) := by rw [eS3]; exact hlg
  refine lv_aload_n hx hb dX4_seek_15 rfl (lv_at hl 0 rfl) ?_
  refine lv_iconst (v := 0) hx hb dX4_seek_16 (by decide) ?_
  refine va_put (D := rD g) (ci := 4) (v := .int 0) (ty := .int) (C := RX4) (T := TX4) (N := 8) hx hb hts inX4 tyX4 tyX4_ok nmX4 hown hR.K hR.P hR.D hR.sS p0 (hR.at44 hT_p0) rfl 7 (by decide) (hts _ kw_980) (fun _ h9 => h9) rfl (by decide +kernel) rfl rfl (Nat.le_of_ble_eq_true rfl) dX4_seek_17 (fun H locs hP hD hS => ?_)
  have hTk9 : qT S3 p0 = 44 := hT_p0
  have hR : RepC g ad A s (wI S3 p0 7 (0 : Int32)) H locs := hR.pI44 hT_p0 FX4_s7 (fun q9 => absurd q9 (by decide)) hP hD hS
  obtain ⟨S4, eS4⟩ : ∃ z, z = wI S3 p0 7 (0 : Int32) := ⟨_, rfl⟩
  rw [← eS4] at hR
  replace h := h S4 eS4 hTk9 hR.w
  have hT_p0 : qT S4 p0 = 44 := (congrArg (fun z => qT z p0) eS4).trans hT_p0
  have hT_p1 : qT S4 p1 = 49 := (congrArg (fun z => qT z p1) eS4).trans hT_p1
  have hT_p2 : qT S4 p2 = 47 := (congrArg (fun z => qT z p2) eS4).trans hT_p2
  have hsh : shx S S4 := by rw [eS4]; exact hsh
  have hlg : lgC S S4 (0) (0) := by rw [eS4]; exact hlg
  refine lv_aload_n hx hb dX4_seek_20 rfl (lv_at hl 0 rfl) ?_
  refine lv_aload_n hx hb dX4_seek_21 rfl (lv_at hl 0 rfl) ?_
  obtain ⟨hv6, h⟩ := h
  have hT_b5 : qT S4 (qO S4 p0 4) = 47 := hR.w.ref hv6 hT_p0
  refine va_get (D := rD g) (ci := 4) (v := .ref (ad (qO S4 p0 4))) (C := RX4) (T := TX4) (N := 8) hx hb hts inX4 hown hR.K hR.P p0 (hR.at44 hT_p0) rfl 4 (by decide) (hts _ kw_954) (fun _ h9 => h9) (congrArg (fun z => some (vf ad z)) hv6) dX4_seek_22 ?_
  refine va_get (D := rD g) (ci := 7) (v := .int (qI S4 (qO S4 p0 4) 2)) (C := RX8) (T := TX8) (N := 15) hx hb hts inX8 hown hR.K hR.P (qO S4 p0 4) (hR.at47 hT_b5) rfl 2 (by decide) (hts _ kw_955) (fun _ h9 => h9) rfl dX4_seek_25 ?_
  replace h := h (hT_p0)
  obtain ⟨Q7, h0, h⟩ := h
  have hFc := cfree hR hA
  refine W_led2 (fun hL0 => ?_)
  refine va_callv (va_runV (As := [.int (qI S4 (qO S4 p0 4) 2)]) (rest := []) ⟨hx, hb, hml, hown, hts⟩ (rX4_makeRoom l g ad H S4 p0 (qI S4 (qO S4 p0 4) 2) hR.w hT_p0 Q7 h0) (cwV 1 hts (gd_V kw_981 kw_972 kw_973 kw_167 kw_971) rfl rfl rfl (by decide +kernel) ⟨Nat.le_of_ble_eq_true rfl, Nat.le_of_ble_eq_true rfl⟩) ⟨cblindH, va_recv hR.K hR.P (ci := 4) (q0 := p0) rfl (hR.at44 hT_p0), fun U hU hW9 => cmkH hU hW9 hR hex hE hFc⟩ rfl rfl hl.1 rfl (lv_room (Nat.le_of_ble_eq_true rfl)) dX4_seek_28 ⟨(show 0 + (KCC - qn S4) ≤ KCC - qn S from hlg.cm), (show 0 + (KSC - qu S4) ≤ KSC - qu S from hlg.sm)⟩) hR.sS (fun q _ h => hFc q h) hFc (fun  S8 t9 H1 locs ht9 hvm9 hw9 hB9 hz9 hk9 hS => ?_)
  rcases S8 with ⟨S8, ak10⟩
  obtain ⟨hB9, dc9, ds9, hL9, hl9⟩ := hB9
  dsimp only at hw9 hB9 hl9
  rw [ht9] at hL9
  obtain ⟨hq9, hw9, hs9, hk8⟩ := hw9
  have hw8 := hR.w
  have hak := hak.tr hk8 hlg.2.2.1
  have hE := hE.ad hk8
  have hR : RepC g ak10 A s S8 H1 locs := hR.callH ht9 hB9 hw9 hS hFc
  have hsh := hsh.tr hs9
  refine W_tight2 (hL0.tr hL9).1 (hL0.tr hL9).2.1 ?_
  have hlg := hlg.call hl9
  replace h := h  S8 hq9 hw9 hs9
  have ea_0 : ak10 p0 = ad p0 := hk8 _ (hw8.hd hT_p0 (by decide) (by decide))
  have ea_1 : ak10 p1 = ad p1 := hk8 _ (hw8.hd hT_p1 (by decide) (by decide))
  have ea_2 : ak10 p2 = ad p2 := hk8 _ (hw8.hd hT_p2 (by decide) (by decide))
  have hl : lv_has ls 8 [(0, .ref (ak10 p0)), (1, .ref (ak10 p1)), (2, .ref (ak10 p2)), (3, .int x3)] := by simp only [ea_0, ea_1, ea_2]; exact hl
  have hT_p0 := hs9.T hT_p0 (by decide)
  have hT_p1 := hs9.T hT_p1 (by decide)
  have hT_p2 := hs9.T hT_p2 (by decide)
  clear hB9 hz9 hk9 hvm9 ht9 hw9 hs9 hS hL0 hL9
  generalize H1 = H at hR ⊢
  generalize dc9 = dc_ak10, ds9 = ds_ak10 at hlg ⊢
  refine lv_aload_n hx hb dX4_seek_31 rfl (lv_at hl 0 rfl) ?_
  refine lv_iconst (v := 0) hx hb dX4_seek_32 (by decide) ?_
  refine lv_iconst (v := 0) hx hb dX4_seek_33 (by decide) ?_
  replace h := h (hT_p0)
  obtain ⟨Q11, h0, h⟩ := h
  have hFc := cfree hR hA
  refine va_callv (va_runV (As := [.int 0, .int 0]) (rest := []) ⟨hx, hb, hml, hown, hts⟩ (rX4_comeTo l g ak10 H.size S8 p0 (0 : Int32) (0 : Int32) hR.w hT_p0 Q11 h0) (cwV 2 hts (gd_V kw_982 kw_952 kw_953 kw_167 kw_951) rfl rfl rfl (by decide +kernel) ⟨Nat.le_of_ble_eq_true rfl, Nat.le_of_ble_eq_true rfl⟩) ⟨cblind, va_recv hR.K hR.P (ci := 4) (q0 := p0) rfl (hR.at44 hT_p0), fun U hU hW9 => cmk hU hW9 hR hex hE hFc⟩ rfl rfl hl.1 rfl (lv_room (Nat.le_of_ble_eq_true rfl)) dX4_seek_34 ⟨(show 0 + dc_ak10 + 0 ≤ KCC - qn S from hlg.c), (show 0 + ds_ak10 + 0 ≤ KSC - qu S from hlg.s)⟩) hR.sS (fun q _ h => hFc q h) hFc (fun  S12 t9 H1 locs ht9 hvm9 hw9 hB9 hz9 hk9 hS => ?_)
  obtain ⟨hq13, hw9, hs9⟩ := hw9
  have hR : RepC g ak10 A s S12 H1 locs := hR.call ht9 hB9 hw9 hS hFc
  have hsh := hsh.tr hs9.1
  have hlg : lgC S S12 (0 + dc_ak10) (0 + ds_ak10) := hlg.same hs9
  replace h := h  S12 hq13 hw9 hs9
  have hT_p0 := hs9.T hT_p0 (by decide)
  have hT_p1 := hs9.T hT_p1 (by decide)
  have hT_p2 := hs9.T hT_p2 (by decide)
  clear hB9 hz9 hk9 hvm9 ht9 hw9 hs9 hS
  generalize H1 = H at hR ⊢
  refine lv_aload_n hx hb dX4_seek_37 rfl (lv_at hl 0 rfl) ?_
  refine lv_iconst (v := 1) hx hb dX4_seek_38 (by decide) ?_
  refine va_put (D := rD g) (ci := 4) (v := .int 1) (ty := .boolean) (C := RX4) (T := TX4) (N := 8) hx hb hts inX4 tyX4 tyX4_ok nmX4 hown hR.K hR.P hR.D hR.sS p0 (hR.at44 hT_p0) rfl 6 (by decide) (hts _ kw_958) (fun _ h9 => h9) rfl (by decide +kernel) rfl rfl (Nat.le_of_ble_eq_true rfl) dX4_seek_39 (fun H locs hP hD hS => ?_)
  have hTk9 : qT S12 p0 = 44 := hT_p0
  have hR : RepC g ak10 A s (wI S12 p0 6 (1 : Int32)) H locs := hR.pI44 hT_p0 FX4_s6 (fun _ => (Or.inr rfl)) hP hD hS
  obtain ⟨S14, eS14⟩ : ∃ z, z = wI S12 p0 6 (1 : Int32) := ⟨_, rfl⟩
  rw [← eS14] at hR
  replace h := h S14 eS14 hTk9 hR.w
  have hT_p0 : qT S14 p0 = 44 := (congrArg (fun z => qT z p0) eS14).trans hT_p0
  have hT_p1 : qT S14 p1 = 49 := (congrArg (fun z => qT z p1) eS14).trans hT_p1
  have hT_p2 : qT S14 p2 = 47 := (congrArg (fun z => qT z p2) eS14).trans hT_p2
  have hsh : shx S S14 := by rw [eS14]; exact hsh
  have hlg : lgC S S14 (0 + dc_ak10) (0 + ds_ak10) := by rw [eS14]; exact hlg
  refine lv_iconst (v := 0) hx hb dX4_seek_42 (by decide) ?_
  refine lv_istore (lv' := [(4, .int 0), (0, .ref (ak10 p0)), (1, .ref (ak10 p1)), (2, .ref (ak10 p2)), (3, .int x3)]) hx hb dX4_seek_43 hl (by decide) rfl (fun ls hl => ?_)
  have J_45 : ∀ (n45 : Nat) (ad45 : Nat → Nat) (dc45 ds45 : Nat) (U45 : MS) (v45_0 : Nat) (v45_4 : Int32) (H : Heap) (locs : List Loc) (ls : Array Slot), w_X4_seek_L45 Q n45 U45 v45_0 v45_4 → qT U45 v45_0 = 44 → shx S U45 → lgC S U45 dc45 ds45 → adk ad ad45 S → ogC ad45 A s s.heap → RepC g ad45 A s U45 H locs → lv_has ls 8 [(0, .ref (ad45 v45_0)), (4, .int v45_4)] → W p l e (headSpec (wt yX4_seek cX4_seek 8 none) ({ frames := 4, cells := KCC - qn S, slots := KSC - qu S, locals := 94 })).room s m ([.ref (ad p0), .ref (ad p1), .ref (ad p2), .int x3] : List Value).toArray below meth c H locs dc45 ds45 (MQ below (va_Qv (fun (u : MS × (Nat → Nat)) => Q u.1 ∧ wfC u.1 ∧ shx S u.1 ∧ adk ad u.2 S) (fun (u : MS × (Nat → Nat)) (t : State) => qEHC g A S s.heap u t) A) ([.ref (ad p0), .ref (ad p1), .ref (ad p2), .int x3] : List Value).toArray s (KCC - qn S) (KSC - qu S) A) (F0 m 45 ls []) := by
    intro n45
    induction n45 with
    | zero => intro ad45 dc45 ds45 U45 v45_0 v45_4 H locs ls h hT_v45_0 hsh hlg hak hE hR hl; unfold w_X4_seek_L45 at h; exact h.elim
    | succ n45 ih_45 =>
      intro ad45 dc45 ds45 U45 v45_0 v45_4 H locs ls h hT_v45_0 hsh hlg hak hE hR hl
      unfold w_X4_seek_L45 at h
      replace h := h hR.w hT_v45_0
      refine lv_aload_n hx hb dX4_seek_45 rfl (lv_at hl 0 rfl) ?_
      refine va_get (D := rD g) (ci := 4) (v := .int (qI U45 v45_0 6)) (C := RX4) (T := TX4) (N := 8) hx hb hts inX4 hown hR.K hR.P v45_0 (hR.at44 hT_v45_0) rfl 6 (by decide) (hts _ kw_958) (fun _ h9 => h9) rfl dX4_seek_46 ?_
      have hz15 := hR.w.bit (b := v45_0) (j := 6) (hT_v45_0) (by decide)
      refine lv_if_eq (tgt := 160) hx hb dX4_seek_49 (by decide) (fun c16 => ?_) (fun c16 => ?_)
      · replace h := h.1 (k_eq rfl (by decide) c16)
        refine W_led2 (fun hLd => ?_)
        refine W.widen (k := KCC - qn S) (n := KSC - qu S) hlg.c hlg.s ?_
        exact W.vret hx hb hr (fun t9 ht9 hW9 => ⟨⟨(U45, ad45), rfl, ⟨h, hR.w, hsh, hak⟩, ⟨⟨by rw [ht9]; exact hR.P, hR.D⟩, _, _, by rw [ht9]; exact hLd, hlg⟩⟩, hR.sS.F ht9⟩) hR.sS.2.2 dX4_seek_160
      · replace h := h.2 (k_ne rfl (by decide) c16)
        refine lv_iload hx hb dX4_seek_52 (lv_at hl 1 rfl) ?_
        refine lv_ldc hx hb hown (hts _ kw_983) dX4_seek_54 ?_
        refine lv_icmp_ge (tgt := 160) hx hb dX4_seek_56 (by decide) (fun c17 => ?_) (fun c17 => ?_)
        · replace h := h.1 (k_le (by decide) rfl c17)
          refine W_led2 (fun hLd => ?_)
          refine W.widen (k := KCC - qn S) (n := KSC - qu S) hlg.c hlg.s ?_
          exact W.vret hx hb hr (fun t9 ht9 hW9 => ⟨⟨(U45, ad45), rfl, ⟨h, hR.w, hsh, hak⟩, ⟨⟨by rw [ht9]; exact hR.P, hR.D⟩, _, _, by rw [ht9]; exact hLd, hlg⟩⟩, hR.sS.F ht9⟩) hR.sS.2.2 dX4_seek_160
        · replace h := h.2 (k_nle (by decide) rfl c17)
          refine lv_aload_n hx hb dX4_seek_59 rfl (lv_at hl 0 rfl) ?_
          refine lv_iconst (v := 0) hx hb dX4_seek_60 (by decide) ?_
          refine va_put (D := rD g) (ci := 4) (v := .int 0) (ty := .boolean) (C := RX4) (T := TX4) (N := 8) hx hb hts inX4 tyX4 tyX4_ok nmX4 hown hR.K hR.P hR.D hR.sS v45_0 (hR.at44 hT_v45_0) rfl 6 (by decide) (hts _ kw_958) (fun _ h9 => h9) rfl (by decide +kernel) rfl rfl (Nat.le_of_ble_eq_true rfl) dX4_seek_61 (fun H locs hP hD hS => ?_)
          have hTk9 : qT U45 v45_0 = 44 := hT_v45_0
          have hR : RepC g ad45 A s (wI U45 v45_0 6 (0 : Int32)) H locs := hR.pI44 hT_v45_0 FX4_s6 (fun _ => (Or.inl rfl)) hP hD hS
          obtain ⟨S18, eS18⟩ : ∃ z, z = wI U45 v45_0 6 (0 : Int32) := ⟨_, rfl⟩
          rw [← eS18] at hR
          replace h := h S18 eS18 hTk9 hR.w
          have hT_v45_0 : qT S18 v45_0 = 44 := (congrArg (fun z => qT z v45_0) eS18).trans hT_v45_0
          have hsh : shx S S18 := by rw [eS18]; exact hsh
          have hlg : lgC S S18 (dc45) (ds45) := by rw [eS18]; exact hlg
          refine lv_iconst (v := 0) hx hb dX4_seek_64 (by decide) ?_
          refine lv_istore (lv' := [(5, .int 0), (0, .ref (ad45 v45_0)), (4, .int v45_4)]) hx hb dX4_seek_65 hl (by decide) rfl (fun ls hl => ?_)
          have J_67 : ∀ (n67 : Nat) (ad67 : Nat → Nat) (dc67 ds67 : Nat) (U67 : MS) (v67_0 : Nat) (v67_4 : Int32) (v67_5 : Int32) (H : Heap) (locs : List Loc) (ls : Array Slot), w_X4_seek_L67 Q (w_X4_seek_L45 Q n45) n67 U67 v67_0 v67_4 v67_5 → qT U67 v67_0 = 44 → shx S U67 → lgC S U67 dc67 ds67 → adk ad ad67 S → ogC ad67 A s s.heap → RepC g ad67 A s U67 H locs → lv_has ls 8 [(0, .ref (ad67 v67_0)), (4, .int v67_4), (5, .int v67_5)] → W p l e (headSpec (wt yX4_seek cX4_seek 8 none) ({ frames := 4, cells := KCC - qn S, slots := KSC - qu S, locals := 94 })).room s m ([.ref (ad p0), .ref (ad p1), .ref (ad p2), .int x3] : List Value).toArray below meth c H locs dc67 ds67 (MQ below (va_Qv (fun (u : MS × (Nat → Nat)) => Q u.1 ∧ wfC u.1 ∧ shx S u.1 ∧ adk ad u.2 S) (fun (u : MS × (Nat → Nat)) (t : State) => qEHC g A S s.heap u t) A) ([.ref (ad p0), .ref (ad p1), .ref (ad p2), .int x3] : List Value).toArray s (KCC - qn S) (KSC - qu S) A) (F0 m 67 ls []) := by
            intro n67
            induction n67 with
            | zero => intro ad67 dc67 ds67 U67 v67_0 v67_4 v67_5 H locs ls h hT_v67_0 hsh hlg hak hE hR hl; unfold w_X4_seek_L67 at h; exact h.elim
            | succ n67 ih_67 =>
              intro ad67 dc67 ds67 U67 v67_0 v67_4 v67_5 H locs ls h hT_v67_0 hsh hlg hak hE hR hl
              unfold w_X4_seek_L67 at h
              replace h := h hR.w hT_v67_0
              refine lv_iload hx hb dX4_seek_67 (lv_at hl 2 rfl) ?_
              refine lv_aload_n hx hb dX4_seek_69 rfl (lv_at hl 0 rfl) ?_
              obtain ⟨hv20, h⟩ := h
              have hT_b19 : qT U67 (qO U67 v67_0 4) = 47 := hR.w.ref hv20 hT_v67_0
              refine va_get (D := rD g) (ci := 4) (v := .ref (ad67 (qO U67 v67_0 4))) (C := RX4) (T := TX4) (N := 8) hx hb hts inX4 hown hR.K hR.P v67_0 (hR.at44 hT_v67_0) rfl 4 (by decide) (hts _ kw_954) (fun _ h9 => h9) (congrArg (fun z => some (vf ad67 z)) hv20) dX4_seek_70 ?_
              refine va_get (D := rD g) (ci := 7) (v := .int (qI U67 (qO U67 v67_0 4) 2)) (C := RX8) (T := TX8) (N := 15) hx hb hts inX8 hown hR.K hR.P (qO U67 v67_0 4) (hR.at47 hT_b19) rfl 2 (by decide) (hts _ kw_955) (fun _ h9 => h9) rfl dX4_seek_73 ?_
              have J_154 : ∀ (ad154 : Nat → Nat) (dc154 ds154 : Nat) (U154 : MS) (v154_0 : Nat) (v154_4 : Int32) (H : Heap) (locs : List Loc) (ls : Array Slot), w_X4_seek_J154 Q (w_X4_seek_L45 Q n45) U154 v154_0 v154_4 → qT U154 v154_0 = 44 → shx S U154 → lgC S U154 dc154 ds154 → adk ad ad154 S → ogC ad154 A s s.heap → RepC g ad154 A s U154 H locs → lv_has ls 8 [(0, .ref (ad154 v154_0)), (4, .int v154_4)] → W p l e (headSpec (wt yX4_seek cX4_seek 8 none) ({ frames := 4, cells := KCC - qn S, slots := KSC - qu S, locals := 94 })).room s m ([.ref (ad p0), .ref (ad p1), .ref (ad p2), .int x3] : List Value).toArray below meth c H locs dc154 ds154 (MQ below (va_Qv (fun (u : MS × (Nat → Nat)) => Q u.1 ∧ wfC u.1 ∧ shx S u.1 ∧ adk ad u.2 S) (fun (u : MS × (Nat → Nat)) (t : State) => qEHC g A S s.heap u t) A) ([.ref (ad p0), .ref (ad p1), .ref (ad p2), .int x3] : List Value).toArray s (KCC - qn S) (KSC - qu S) A) (F0 m 154 ls []) := by
                intro ad154 dc154 ds154 U154 v154_0 v154_4 H locs ls h hT_v154_0 hsh hlg hak hE hR hl
                unfold w_X4_seek_J154 at h
                replace h := h hR.w hT_v154_0
                obtain ⟨a21, ea21⟩ : ∃ z, z = (v154_4 + Int32.ofInt 1) := ⟨_, rfl⟩
                replace h := h a21 ea21
                refine lv_iinc (v := a21) (lv' := [(4, .int a21), (0, .ref (ad154 v154_0))]) hx hb dX4_seek_154 hl (k := 1) rfl ea21.symm (by decide) rfl (fun ls hl => ?_)
                refine lv_goto (tgt := 45) hx hb dX4_seek_157 (by decide) ?_
                exact ih_45 ad154 (dc154) (ds154) U154 v154_0 a21 _ _ ls h hT_v154_0 hsh hlg hak hE hR (lv_sub hl [1, 0] rfl)
              refine lv_icmp_ge (tgt := 154) hx hb dX4_seek_76 (by decide) (fun c22 => ?_) (fun c22 => ?_)
              · replace h := h.1 (k_le rfl rfl c22)
                exact J_154 ad67 (dc67) (ds67) U67 v67_0 v67_4 _ _ ls h hT_v67_0 hsh hlg hak hE hR (lv_sub hl [0, 1] rfl)
              · replace h := h.2 (k_nle rfl rfl c22)
                refine lv_iload hx hb dX4_seek_79 (lv_at hl 2 rfl) ?_
                refine lv_aload_n hx hb dX4_seek_81 rfl (lv_at hl 0 rfl) ?_
                obtain ⟨hv24, h⟩ := h
                have hT_b23 : qT U67 (qO U67 v67_0 1) = 214 := hR.w.ref hv24 hT_v67_0
                refine va_get (D := rD g) (ci := 4) (v := .ref (ad67 (qO U67 v67_0 1))) (C := RX4) (T := TX4) (N := 8) hx hb hts inX4 hown hR.K hR.P v67_0 (hR.at44 hT_v67_0) rfl 1 (by decide) (hts _ kw_957) (fun _ h9 => h9) (congrArg (fun z => some (vf ad67 z)) hv24) dX4_seek_82 ?_
                refine va_alen (v := (Int32.ofNat (qN U67 (qO U67 v67_0 1)))) hx hb hR.K hR.P (qO U67 v67_0 1) 1 (hR.atI hT_b23 (by decide)) rfl rfl dX4_seek_85 ?_
                have hln25 : (Int32.ofNat (qN U67 (qO U67 v67_0 1))).toInt = (qN U67 (qO U67 v67_0 1) : Int) := toI_len (hR.w.len9 (hT_b23) (by decide))
                refine lv_icmp_ge (tgt := 154) hx hb dX4_seek_86 (by decide) (fun c26 => ?_) (fun c26 => ?_)
                · replace h := h.1 (k_le hln25 rfl c26)
                  exact J_154 ad67 (dc67) (ds67) U67 v67_0 v67_4 _ _ ls h hT_v67_0 hsh hlg hak hE hR (lv_sub hl [0, 1] rfl)
                · replace h := h.2 (k_nle hln25 rfl c26)
                  refine lv_aload_n hx hb dX4_seek_89 rfl (lv_at hl 0 rfl) ?_
                  obtain ⟨hv28, h⟩ := h
                  have hT_b27 : qT U67 (qO U67 v67_0 1) = 214 := hR.w.ref hv28 hT_v67_0
                  refine va_get (D := rD g) (ci := 4) (v := .ref (ad67 (qO U67 v67_0 1))) (C := RX4) (T := TX4) (N := 8) hx hb hts inX4 hown hR.K hR.P v67_0 (hR.at44 hT_v67_0) rfl 1 (by decide) (hts _ kw_957) (fun _ h9 => h9) (congrArg (fun z => some (vf ad67 z)) hv28) dX4_seek_90 ?_
                  refine lv_iload hx hb dX4_seek_93 (lv_at hl 2 rfl) ?_
                  obtain ⟨hv29, h⟩ := h
                  refine va_iald hx hb hR.K hR.P (qO U67 v67_0 1) 1 (hR.atI hT_b27 (by decide)) rfl (k_ix (x := v67_5) (a := v67_5.toInt) rfl hv29) dX4_seek_95 ?_
                  refine lv_topi (fun z30 ez30 => ?_)
                  obtain rfl : z30 = (qI U67 (qO U67 v67_0 1) v67_5.toInt.toNat) := ez30
                  obtain ⟨a31, ea31⟩ : ∃ z, z = (qI U67 (qO U67 v67_0 1) v67_5.toInt.toNat) := ⟨_, rfl⟩
                  rw [← ea31]
                  replace h := h a31 ea31
                  refine lv_istore (lv' := [(6, .int a31), (0, .ref (ad67 v67_0)), (4, .int v67_4), (5, .int v67_5)]) hx hb dX4_seek_96 hl (by decide) rfl (fun ls hl => ?_)
                  refine lv_aload_n hx hb dX4_seek_98 rfl (lv_at hl 1 rfl) ?_
                  obtain ⟨hv33, h⟩ := h
                  have hT_b32 : qT U67 (qO U67 v67_0 1) = 214 := hR.w.ref hv33 hT_v67_0
                  refine va_get (D := rD g) (ci := 4) (v := .ref (ad67 (qO U67 v67_0 1))) (C := RX4) (T := TX4) (N := 8) hx hb hts inX4 hown hR.K hR.P v67_0 (hR.at44 hT_v67_0) rfl 1 (by decide) (hts _ kw_957) (fun _ h9 => h9) (congrArg (fun z => some (vf ad67 z)) hv33) dX4_seek_99 ?_
                  refine lv_iload hx hb dX4_seek_102 (lv_at hl 3 rfl) ?_
                  refine lv_iconst (v := 0) hx hb dX4_seek_104 (by decide) ?_
                  obtain ⟨hv34, h⟩ := h
                  refine va_iast hx hb hR.K hR.P hR.D hR.sS (qO U67 v67_0 1) 1 (hR.atI hT_b32 (by decide)) rfl (k_ix (x := v67_5) (a := v67_5.toInt) rfl hv34) dX4_seek_105 (fun H locs hP hD hS => ?_)
                  have hTk9 : qT U67 (qO U67 v67_0 1) = 214 := hT_b32
                  have hR : RepC g ad67 A s (wI U67 (qO U67 v67_0 1) v67_5.toInt.toNat (0 : Int32)) H locs := hR.aI hT_b32 (by decide) hP hD hS
                  obtain ⟨S35, eS35⟩ : ∃ z, z = wI U67 (qO U67 v67_0 1) v67_5.toInt.toNat (0 : Int32) := ⟨_, rfl⟩
                  rw [← eS35] at hR
                  replace h := h S35 eS35 hTk9 hR.w
                  have hT_v67_0 : qT S35 v67_0 = 44 := (congrArg (fun z => qT z v67_0) eS35).trans hT_v67_0
                  have hsh : shx S S35 := by rw [eS35]; exact hsh
                  have hlg : lgC S S35 (dc67) (ds67) := by rw [eS35]; exact hlg
                  refine lv_iconst (v := 0) hx hb dX4_seek_106 (by decide) ?_
                  refine lv_istore (lv' := [(7, .int 0), (6, .int a31), (0, .ref (ad67 v67_0)), (4, .int v67_4), (5, .int v67_5)]) hx hb dX4_seek_107 hl (by decide) rfl (fun ls hl => ?_)
                  have J_109 : ∀ (n109 : Nat) (ad109 : Nat → Nat) (dc109 ds109 : Nat) (U109 : MS) (v109_0 : Nat) (v109_4 : Int32) (v109_5 : Int32) (v109_6 : Int32) (v109_7 : Int32) (H : Heap) (locs : List Loc) (ls : Array Slot), w_X4_seek_L109 Q (w_X4_seek_L67 Q (w_X4_seek_L45 Q n45) n67) n109 U109 v109_0 v109_4 v109_5 v109_6 v109_7 → qT U109 v109_0 = 44 → shx S U109 → lgC S U109 dc109 ds109 → adk ad ad109 S → ogC ad109 A s s.heap → RepC g ad109 A s U109 H locs → lv_has ls 8 [(0, .ref (ad109 v109_0)), (4, .int v109_4), (5, .int v109_5), (6, .int v109_6), (7, .int v109_7)] → W p l e (headSpec (wt yX4_seek cX4_seek 8 none) ({ frames := 4, cells := KCC - qn S, slots := KSC - qu S, locals := 94 })).room s m ([.ref (ad p0), .ref (ad p1), .ref (ad p2), .int x3] : List Value).toArray below meth c H locs dc109 ds109 (MQ below (va_Qv (fun (u : MS × (Nat → Nat)) => Q u.1 ∧ wfC u.1 ∧ shx S u.1 ∧ adk ad u.2 S) (fun (u : MS × (Nat → Nat)) (t : State) => qEHC g A S s.heap u t) A) ([.ref (ad p0), .ref (ad p1), .ref (ad p2), .int x3] : List Value).toArray s (KCC - qn S) (KSC - qu S) A) (F0 m 109 ls []) := by
                    intro n109
                    induction n109 with
                    | zero => intro ad109 dc109 ds109 U109 v109_0 v109_4 v109_5 v109_6 v109_7 H locs ls h hT_v109_0 hsh hlg hak hE hR hl; unfold w_X4_seek_L109 at h; exact h.elim
                    | succ n109 ih_109 =>
                      intro ad109 dc109 ds109 U109 v109_0 v109_4 v109_5 v109_6 v109_7 H locs ls h hT_v109_0 hsh hlg hak hE hR hl
                      unfold w_X4_seek_L109 at h
                      replace h := h hR.w hT_v109_0
                      refine lv_iload hx hb dX4_seek_109 (lv_at hl 3 rfl) ?_
                      refine lv_iload hx hb dX4_seek_111 (lv_at hl 4 rfl) ?_
                      refine lv_iushr hx hb dX4_seek_113 rfl ?_
                      refine lv_topi (fun z36 ez36 => ?_)
                      obtain rfl : z36 = ((v109_6.toUInt32 >>> (v109_7.toUInt32 &&& Int32.toUInt32 31)).toInt32) := ez36
                      have J_148 : ∀ (ad148 : Nat → Nat) (dc148 ds148 : Nat) (U148 : MS) (v148_0 : Nat) (v148_4 : Int32) (v148_5 : Int32) (H : Heap) (locs : List Loc) (ls : Array Slot), w_X4_seek_J148 Q (w_X4_seek_L67 Q (w_X4_seek_L45 Q n45) n67) U148 v148_0 v148_4 v148_5 → qT U148 v148_0 = 44 → shx S U148 → lgC S U148 dc148 ds148 → adk ad ad148 S → ogC ad148 A s s.heap → RepC g ad148 A s U148 H locs → lv_has ls 8 [(0, .ref (ad148 v148_0)), (4, .int v148_4), (5, .int v148_5)] → W p l e (headSpec (wt yX4_seek cX4_seek 8 none) ({ frames := 4, cells := KCC - qn S, slots := KSC - qu S, locals := 94 })).room s m ([.ref (ad p0), .ref (ad p1), .ref (ad p2), .int x3] : List Value).toArray below meth c H locs dc148 ds148 (MQ below (va_Qv (fun (u : MS × (Nat → Nat)) => Q u.1 ∧ wfC u.1 ∧ shx S u.1 ∧ adk ad u.2 S) (fun (u : MS × (Nat → Nat)) (t : State) => qEHC g A S s.heap u t) A) ([.ref (ad p0), .ref (ad p1), .ref (ad p2), .int x3] : List Value).toArray s (KCC - qn S) (KSC - qu S) A) (F0 m 148 ls []) := by
                        intro ad148 dc148 ds148 U148 v148_0 v148_4 v148_5 H locs ls h hT_v148_0 hsh hlg hak hE hR hl
                        unfold w_X4_seek_J148 at h
                        replace h := h hR.w hT_v148_0
                        obtain ⟨a37, ea37⟩ : ∃ z, z = (v148_5 + Int32.ofInt 1) := ⟨_, rfl⟩
                        replace h := h a37 ea37
                        refine lv_iinc (v := a37) (lv' := [(5, .int a37), (0, .ref (ad148 v148_0)), (4, .int v148_4)]) hx hb dX4_seek_148 hl (k := 2) rfl ea37.symm (by decide) rfl (fun ls hl => ?_)
                        refine lv_goto (tgt := 67) hx hb dX4_seek_151 (by decide) ?_
                        exact ih_67 ad148 (dc148) (ds148) U148 v148_0 v148_4 a37 _ _ ls h hT_v148_0 hsh hlg hak hE hR (lv_sub hl [1, 2, 0] rfl)
                      refine lv_if_le (tgt := 148) hx hb dX4_seek_114 (by decide) (fun c38 => ?_) (fun c38 => ?_)
                      · replace h := h.1 (k_le rfl (by decide) c38)
                        exact J_148 ad109 (dc109) (ds109) U109 v109_0 v109_4 v109_5 _ _ ls h hT_v109_0 hsh hlg hak hE hR (lv_sub hl [0, 1, 2] rfl)
                      · replace h := h.2 (k_nle rfl (by decide) c38)
                        refine lv_iload hx hb dX4_seek_117 (lv_at hl 4 rfl) ?_
                        refine lv_bipush (v := 31) hx hb dX4_seek_119 (by decide) ?_
                        refine lv_icmp_ge (tgt := 148) hx hb dX4_seek_121 (by decide) (fun c39 => ?_) (fun c39 => ?_)
                        · replace h := h.1 (k_le (by decide) rfl c39)
                          exact J_148 ad109 (dc109) (ds109) U109 v109_0 v109_4 v109_5 _ _ ls h hT_v109_0 hsh hlg hak hE hR (lv_sub hl [0, 1, 2] rfl)
                        · replace h := h.2 (k_nle (by decide) rfl c39)
                          refine lv_iload hx hb dX4_seek_124 (lv_at hl 3 rfl) ?_
                          refine lv_iload hx hb dX4_seek_126 (lv_at hl 4 rfl) ?_
                          refine lv_ishr hx hb dX4_seek_128 ?_
                          refine lv_topi (fun z40 ez40 => ?_)
                          obtain rfl : z40 = (v109_6 >>> (v109_7 &&& 31)) := ez40
                          refine lv_iconst (v := 1) hx hb dX4_seek_129 (by decide) ?_
                          refine lv_iand hx hb dX4_seek_130 ?_
                          refine lv_topi (fun z41 ez41 => ?_)
                          obtain rfl : z41 = ((v109_6 >>> (v109_7 &&& 31)) &&& (1 : Int32)) := ez41
                          have J_142 : ∀ (ad142 : Nat → Nat) (dc142 ds142 : Nat) (U142 : MS) (v142_0 : Nat) (v142_4 : Int32) (v142_5 : Int32) (v142_6 : Int32) (v142_7 : Int32) (H : Heap) (locs : List Loc) (ls : Array Slot), w_X4_seek_J142 Q (w_X4_seek_L109 Q (w_X4_seek_L67 Q (w_X4_seek_L45 Q n45) n67) n109) U142 v142_0 v142_4 v142_5 v142_6 v142_7 → qT U142 v142_0 = 44 → shx S U142 → lgC S U142 dc142 ds142 → adk ad ad142 S → ogC ad142 A s s.heap → RepC g ad142 A s U142 H locs → lv_has ls 8 [(0, .ref (ad142 v142_0)), (4, .int v142_4), (5, .int v142_5), (6, .int v142_6), (7, .int v142_7)] → W p l e (headSpec (wt yX4_seek cX4_seek 8 none) ({ frames := 4, cells := KCC - qn S, slots := KSC - qu S, locals := 94 })).room s m ([.ref (ad p0), .ref (ad p1), .ref (ad p2), .int x3] : List Value).toArray below meth c H locs dc142 ds142 (MQ below (va_Qv (fun (u : MS × (Nat → Nat)) => Q u.1 ∧ wfC u.1 ∧ shx S u.1 ∧ adk ad u.2 S) (fun (u : MS × (Nat → Nat)) (t : State) => qEHC g A S s.heap u t) A) ([.ref (ad p0), .ref (ad p1), .ref (ad p2), .int x3] : List Value).toArray s (KCC - qn S) (KSC - qu S) A) (F0 m 142 ls []) := by
                            intro ad142 dc142 ds142 U142 v142_0 v142_4 v142_5 v142_6 v142_7 H locs ls h hT_v142_0 hsh hlg hak hE hR hl
                            unfold w_X4_seek_J142 at h
                            replace h := h hR.w hT_v142_0
                            obtain ⟨a42, ea42⟩ : ∃ z, z = (v142_7 + Int32.ofInt 1) := ⟨_, rfl⟩
                            replace h := h a42 ea42
                            refine lv_iinc (v := a42) (lv' := [(7, .int a42), (0, .ref (ad142 v142_0)), (4, .int v142_4), (5, .int v142_5), (6, .int v142_6)]) hx hb dX4_seek_142 hl (k := 4) rfl ea42.symm (by decide) rfl (fun ls hl => ?_)
                            refine lv_goto (tgt := 109) hx hb dX4_seek_145 (by decide) ?_
                            exact ih_109 ad142 (dc142) (ds142) U142 v142_0 v142_4 v142_5 v142_6 a42 _ _ ls h hT_v142_0 hsh hlg hak hE hR (lv_sub hl [1, 2, 3, 4, 0] rfl)
                          refine lv_if_eq (tgt := 142) hx hb dX4_seek_131 (by decide) (fun c43 => ?_) (fun c43 => ?_)
                          · replace h := h.1 (k_eq rfl (by decide) c43)
                            exact J_142 ad109 (dc109) (ds109) U109 v109_0 v109_4 v109_5 v109_6 v109_7 _ _ ls h hT_v109_0 hsh hlg hak hE hR (lv_sub hl [0, 1, 2, 3, 4] rfl)
                          · replace h := h.2 (k_ne rfl (by decide) c43)
                            refine lv_aload_n hx hb dX4_seek_134 rfl (lv_at hl 0 rfl) ?_
                            refine lv_iload hx hb dX4_seek_135 (lv_at hl 2 rfl) ?_
                            refine lv_iload hx hb dX4_seek_137 (lv_at hl 4 rfl) ?_
                            replace h := h (hT_v109_0)
                            obtain ⟨Q44, h0, h⟩ := h
                            have hFc := cfree hR hA
                            refine va_callv (va_runV (As := [.int v109_5, .int v109_7]) (rest := []) ⟨hx, hb, hml, hown, hts⟩ (rX4_spread l g ad109 H.size U109 v109_0 v109_5 v109_7 hR.w hT_v109_0 Q44 h0) (cwV 2 hts (gd_V kw_984 kw_986 kw_987 kw_167 kw_985) rfl rfl rfl (by decide +kernel) ⟨Nat.le_of_ble_eq_true rfl, Nat.le_of_ble_eq_true rfl⟩) ⟨cblind, va_recv hR.K hR.P (ci := 4) (q0 := v109_0) rfl (hR.at44 hT_v109_0), fun U hU hW9 => cmk hU hW9 hR hex hE hFc⟩ rfl rfl hl.1 rfl (lv_room (Nat.le_of_ble_eq_true rfl)) dX4_seek_139 ⟨(show dc109 + 0 ≤ KCC - qn S from hlg.c), (show ds109 + 0 ≤ KSC - qu S from hlg.s)⟩) hR.sS (fun q _ h => hFc q h) hFc (fun  S45 t9 H1 locs ht9 hvm9 hw9 hB9 hz9 hk9 hS => ?_)
                            obtain ⟨hq46, hw9, hs9⟩ := hw9
                            have hR : RepC g ad109 A s S45 H1 locs := hR.call ht9 hB9 hw9 hS hFc
                            have hsh := hsh.tr hs9.1
                            have hlg : lgC S S45 (dc109) (ds109) := hlg.same hs9
                            replace h := h  S45 hq46 hw9 hs9
                            have hT_v109_0 := hs9.T hT_v109_0 (by decide)
                            clear hB9 hz9 hk9 hvm9 ht9 hw9 hs9 hS
                            generalize H1 = H at hR ⊢
                            exact J_142 ad109 (dc109) (ds109) S45 v109_0 v109_4 v109_5 v109_6 v109_7 _ _ ls h hT_v109_0 hsh hlg hak hE hR (lv_sub hl [0, 1, 2, 3, 4] rfl)
                  obtain ⟨n9, h⟩ := h
                  exact J_109 n9 ad67 (dc67) (ds67) S35 v67_0 v67_4 v67_5 a31 0 _ _ ls h hT_v67_0 hsh hlg hak hE hR (lv_sub hl [2, 3, 4, 1, 0] rfl)
          obtain ⟨n9, h⟩ := h
          exact J_67 n9 ad45 (dc45) (ds45) S18 v45_0 v45_4 0 _ _ ls h hT_v45_0 hsh hlg hak hE hR (lv_sub hl [1, 2, 0] rfl)
  obtain ⟨n9, h⟩ := h
  exact J_45 n9 ak10 (0 + dc_ak10) (0 + ds_ak10) S14 p0 0 _ _ ls h hT_p0 hsh hlg hak hE hR (lv_sub hl [1, 0] rfl)
