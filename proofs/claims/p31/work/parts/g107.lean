def w_isRightHeight_J59 (Q : Int32 → MS → Prop) (U59 : MS) : Prop := Q (0 : Int32) U59
def w_isRightHeight_J55 (Q : Int32 → MS → Prop) (U55 : MS) : Prop := Q (1 : Int32) U55
def w_isRightHeight_J34 (Q : Int32 → MS → Prop) (U34 : MS) (v34_1 : Int32) : Prop := (d_op U34 v34_1 ∧ (d_goesOn U34 (f_op U34 v34_1) ∧ (((f_goesOn U34 (f_op U34 v34_1)).toInt = 0 → w_isRightHeight_J55 Q U34) ∧ (¬ (f_goesOn U34 (f_op U34 v34_1)).toInt = 0 → ((v34_1.toInt = ((qI U34 0 52) - (1 : Int32)).toInt → w_isRightHeight_J59 Q U34) ∧ (¬ v34_1.toInt = ((qI U34 0 52) - (1 : Int32)).toInt → w_isRightHeight_J55 Q U34))))))
def w_isRightHeight (S : MS) (x1 : Int32) (x2 : Int32) (Q : Int32 → MS → Prop) : Prop := (∃ Q1, w_heightBehind S x1 x2 Q1 ∧ ∀ r2 S3, Q1 r2 S3 → ((r2.toInt < 0 → w_isRightHeight_J59 Q S3) ∧ (¬ r2.toInt < 0 → (((qI S3 0 56).toInt < r2.toInt → w_isRightHeight_J59 Q S3) ∧ (¬ (qI S3 0 56).toInt < r2.toInt → ((0 < (qI S3 0 56).toInt → w_isRightHeight_J34 Q S3 x1) ∧ (¬ 0 < (qI S3 0 56).toInt → (∃ Q17, w_hasCatch S3 x1 Q17 ∧ ∀ r18 S19, Q17 r18 S19 → ((r18.toInt = 0 → w_isRightHeight_J34 Q S19 x1) ∧ (¬ r18.toInt = 0 → w_isRightHeight_J59 Q S19))))))))))
set_option maxHeartbeats 2000000 in
set_option maxRecDepth 100000 in
theorem r_isRightHeight (l : Launch) (g : Gr) (ad : Nat → Nat) (sz : Nat) (S : MS) (x1 : Int32) (x2 : Int32) (hw : wfM S) (Q : Int32 → MS → Prop) (h : w_isRightHeight S x1 x2 Q) : Met l yX14_isRightHeight (wt2 yX14_isRightHeight cX14_isRightHeight 4 (some .boolean)) ({ frames := 6, cells := 0, slots := 0, locals := 131 }) (va_Pc [.ref (ad 0), .int x1, .int x2] (st_R g ad sz S)) (va_Qi (fun (r : Int32) (u : MS) => Q r u ∧ wfM u ∧ shy S u ∧ (r = 0 ∨ r = 1)) (fun (u : MS) (t : State) => qE g ad (va_A (Wd g ad S) sz) u t) (va_A (Wd g ad S) sz)) 0 0 (va_A (Wd g ad S) sz) := by
  refine Met.ofW (cc := cX14_isRightHeight) (maxL := 4) (ret := (some .boolean)) (by decide) rfl ?_
  intro p e s m args below meth c s₁ B hml hv
  obtain ⟨rfl, hsz, hP, hK, hD0, hex, hE⟩ := hv
  have hx := B.exec
  have hb := B.bytes
  have hr := B.returns
  have hts0 := atoms_spec (ws := wt2 yX14_isRightHeight cX14_isRightHeight 4 (some .boolean)) B.pre
  have hts : ∀ w ∈ tb2, w.before _ s = true := fun w h => hts0 w (List.mem_cons_of_mem _ h)
  have hown : s.vm.findClass RX14 = some m.cls := findClass_of_methodNamed B.named
  subst hsz
  have hD := hD0.self (sz := s.heap.size)
  generalize hAe : va_A (Wd g ad S) s.heap.size = A at hD hE ⊢
  have hA : ∀ q : Nat, s.heap.size ≤ q → A q := fun q h => by rw [← hAe]; exact Or.inr h
  have hR : Rep g ad A s S s.heap [] := ⟨hK, hP, hD, va_S.rf, hw⟩
  clear hK hP hD hD0
  have hl := lv_entry ([.ref (ad 0), .int x1, .int x2]) (n := 4) (Nat.le_of_ble_eq_true rfl)
  rw [lg_entry_eq]
  generalize (lg_sl ([.ref (ad 0), .int x1, .int x2]) ++ List.replicate (4 - (lg_sl ([.ref (ad 0), .int x1, .int x2])).length) Slot.unset).toArray = ls at hl ⊢
  have hl : lv_has ls 4 [(0, .ref (ad 0)), (1, .int x1), (2, .int x2)] := hl
  have hsh : shy S S := shy.rf
  unfold w_isRightHeight at h
  refine lv_aload_n hx hb dX14_isRightHeight_0 rfl (lv_at hl 0 rfl) ?_
  refine lv_iload_n hx hb dX14_isRightHeight_1 rfl (lv_at hl 1 rfl) ?_
  refine lv_iload_n hx hb dX14_isRightHeight_2 rfl (lv_at hl 2 rfl) ?_
  obtain ⟨Q1, h0, h⟩ := h
  have hFc := rfree hR hA
  refine va_calli (va_runV (As := [.int x1, .int x2]) (rest := []) ⟨hx, hb, hml, hown, hts⟩ (r_heightBehind l g ad s.heap.size S x1 x2 hR.w  Q1 h0) (cwV 2 hts (gd2_V kx_423 kx_424 kx_425 kx_177 kx_426) rfl rfl rfl (by decide +kernel) ⟨Nat.le_of_ble_eq_true rfl, Nat.le_of_ble_eq_true rfl⟩) ⟨rblind, va_recv hR.K hR.P (ci := 13) (q0 := 0) rfl (hR.at14 hR.w.1), fun U hU hW9 => rmk hU hW9 hR hex hE hFc⟩ rfl rfl hl.1 rfl (lv_room (Nat.le_of_ble_eq_true rfl)) dX14_isRightHeight_3 ⟨Nat.le_of_ble_eq_true rfl, Nat.le_of_ble_eq_true rfl⟩) hR.sS (fun q _ h => hFc q h) hFc (fun r2 S3 t9 H1 locs ht9 hvm9 hw9 hB9 hz9 hk9 hS => ?_)
  obtain ⟨hq4, hw9, hs9⟩ := hw9
  have hR : Rep g ad A s S3 H1 locs := hR.call ht9 hB9 hw9 hS hFc
  have hsh := hsh.tr hs9
  replace h := h r2 S3 hq4
  clear hB9 hz9 hk9 hvm9 ht9 hw9 hs9 hS
  generalize H1 = H at hR ⊢
  refine lv_istore_n (lv' := [(3, .int r2), (0, .ref (ad 0)), (1, .int x1), (2, .int x2)]) hx hb dX14_isRightHeight_6 rfl hl (by decide) rfl (fun ls hl => ?_)
  refine lv_iload_n hx hb dX14_isRightHeight_7 rfl (lv_at hl 0 rfl) ?_
  have J_59 : ∀ (U59 : MS) (H : Heap) (locs : List Loc) (ls : Array Slot), w_isRightHeight_J59 Q U59 → shy S U59 → Rep g ad A s U59 H locs → lv_has ls 4 [] → W p l e (headSpec (wt2 yX14_isRightHeight cX14_isRightHeight 4 (some .boolean)) ({ frames := 6, cells := 0, slots := 0, locals := 131 })).room s m ([.ref (ad 0), .int x1, .int x2] : List Value).toArray below meth c H locs 0 0 (MQ below (va_Qi (fun (r : Int32) (u : MS) => Q r u ∧ wfM u ∧ shy S u ∧ (r = 0 ∨ r = 1)) (fun (u : MS) (t : State) => qE g ad A u t) A) ([.ref (ad 0), .int x1, .int x2] : List Value).toArray s 0 0 A) (F0 m 59 ls []) := by
    intro U59 H locs ls h hsh hR hl
    unfold w_isRightHeight_J59 at h
    refine lv_iconst (v := 0) hx hb dX14_isRightHeight_59 (by decide) ?_
    exact W.zret (v := 0) hx hb hr (nz (Or.inl rfl)) (fun t9 ht9 hW9 => ⟨⟨_, U59, rfl, ⟨h, hR.w, hsh, (Or.inl rfl)⟩, ⟨by rw [ht9]; exact hR.P, hR.D⟩⟩, hR.sS.F ht9⟩) hR.sS.2.2 dX14_isRightHeight_60
  refine lv_if_lt (tgt := 59) hx hb dX14_isRightHeight_8 (by decide) (fun c5 => ?_) (fun c5 => ?_)
  · replace h := h.1 (k_lt rfl (by decide) c5)
    exact J_59 S3 _ _ ls h  hsh hR (lv_sub hl [] rfl)
  · replace h := h.2 (k_nlt rfl (by decide) c5)
    refine lv_iload_n hx hb dX14_isRightHeight_11 rfl (lv_at hl 0 rfl) ?_
    refine lv_aload_n hx hb dX14_isRightHeight_12 rfl (lv_at hl 1 rfl) ?_
    refine va_get (D := rD g) (ci := 13) (v := .int (qI S3 0 56)) (C := RX14) (T := TX14) (N := 143) hx hb hts in2X14 hown hR.K hR.P 0 (hR.at14 hR.w.1) rfl 56 (by decide) (hts _ kx_427) (fun _ h9 => h9) rfl dX14_isRightHeight_13 ?_
    refine lv_icmp_gt (tgt := 59) hx hb dX14_isRightHeight_16 (by decide) (fun c6 => ?_) (fun c6 => ?_)
    · replace h := h.1 (k_lt rfl rfl c6)
      exact J_59 S3 _ _ ls h  hsh hR (lv_sub hl [] rfl)
    · replace h := h.2 (k_nlt rfl rfl c6)
      refine lv_aload_n hx hb dX14_isRightHeight_19 rfl (lv_at hl 1 rfl) ?_
      refine va_get (D := rD g) (ci := 13) (v := .int (qI S3 0 56)) (C := RX14) (T := TX14) (N := 143) hx hb hts in2X14 hown hR.K hR.P 0 (hR.at14 hR.w.1) rfl 56 (by decide) (hts _ kx_427) (fun _ h9 => h9) rfl dX14_isRightHeight_20 ?_
      have J_34 : ∀ (U34 : MS) (v34_1 : Int32) (H : Heap) (locs : List Loc) (ls : Array Slot), w_isRightHeight_J34 Q U34 v34_1 → shy S U34 → Rep g ad A s U34 H locs → lv_has ls 4 [(0, .ref (ad 0)), (1, .int v34_1)] → W p l e (headSpec (wt2 yX14_isRightHeight cX14_isRightHeight 4 (some .boolean)) ({ frames := 6, cells := 0, slots := 0, locals := 131 })).room s m ([.ref (ad 0), .int x1, .int x2] : List Value).toArray below meth c H locs 0 0 (MQ below (va_Qi (fun (r : Int32) (u : MS) => Q r u ∧ wfM u ∧ shy S u ∧ (r = 0 ∨ r = 1)) (fun (u : MS) (t : State) => qE g ad A u t) A) ([.ref (ad 0), .int x1, .int x2] : List Value).toArray s 0 0 A) (F0 m 34 ls []) := by
        intro U34 v34_1 H locs ls h hsh hR hl
        unfold w_isRightHeight_J34 at h
        refine lv_aload_n hx hb dX14_isRightHeight_34 rfl (lv_at hl 0 rfl) ?_
        refine lv_iload_n hx hb dX14_isRightHeight_35 rfl (lv_at hl 1 rfl) ?_
        obtain ⟨hv7, h⟩ := h
        have hFc := rfree hR hA
        refine va_calli (va_runV (As := [.int v34_1]) (rest := []) ⟨hx, hb, hml, hown, hts⟩ (r_op l g ad H.size U34 v34_1 hR.w  hv7) (cwV 1 hts (gd2_V kx_379 kx_380 kx_381 kx_177 kx_382) rfl rfl rfl (by decide +kernel) ⟨Nat.le_of_ble_eq_true rfl, Nat.le_of_ble_eq_true rfl⟩) ⟨rblind, va_recv hR.K hR.P (ci := 13) (q0 := 0) rfl (hR.at14 hR.w.1), fun U hU hW9 => rmk hU hW9 hR hex hE hFc⟩ rfl rfl hl.1 rfl (lv_room (Nat.le_of_ble_eq_true rfl)) dX14_isRightHeight_36 ⟨Nat.le_of_ble_eq_true rfl, Nat.le_of_ble_eq_true rfl⟩) hR.sS (fun q _ h => hFc q h) hFc (fun r8 u9 t9 H1 locs ht9 hvm9 hw9 hB9 hz9 hk9 hS => ?_)
        have hR : Rep g ad A s U34 H1 locs := hR.call ht9 hB9 hR.w hS hFc
        obtain rfl : r8 = (f_op U34 v34_1) := hw9
        clear hB9 hz9 hk9 hvm9 ht9 hS
        generalize H1 = H at hR ⊢
        obtain ⟨hv10, h⟩ := h
        have hFc := rfree hR hA
        refine va_calli (va_runS (As := [.int (f_op U34 v34_1)]) (rest := []) ⟨hx, hb, hml, hown, hts⟩ (r_goesOn l g ad H.size U34 (f_op U34 v34_1) hR.w  hv10) (va_cwS 1 hts (gd2_S kx_428 kx_429 kx_177 kx_430) rfl rfl rfl (by decide +kernel) ⟨Nat.le_of_ble_eq_true rfl, Nat.le_of_ble_eq_true rfl⟩) ⟨rblind, fun U hU hW9 => rmk hU hW9 hR hex hE hFc⟩ rfl rfl hl.1 rfl (lv_room (Nat.le_of_ble_eq_true rfl)) dX14_isRightHeight_39 ⟨Nat.le_of_ble_eq_true rfl, Nat.le_of_ble_eq_true rfl⟩) hR.sS (fun q _ h => hFc q h) hFc (fun r11 u9 t9 H1 locs ht9 hvm9 hw9 hB9 hz9 hk9 hS => ?_)
        have hR : Rep g ad A s U34 H1 locs := hR.call ht9 hB9 hR.w hS hFc
        obtain ⟨rfl, hz_r11⟩ := hw9
        clear hB9 hz9 hk9 hvm9 ht9 hS
        generalize H1 = H at hR ⊢
        have J_55 : ∀ (U55 : MS) (H : Heap) (locs : List Loc) (ls : Array Slot), w_isRightHeight_J55 Q U55 → shy S U55 → Rep g ad A s U55 H locs → lv_has ls 4 [] → W p l e (headSpec (wt2 yX14_isRightHeight cX14_isRightHeight 4 (some .boolean)) ({ frames := 6, cells := 0, slots := 0, locals := 131 })).room s m ([.ref (ad 0), .int x1, .int x2] : List Value).toArray below meth c H locs 0 0 (MQ below (va_Qi (fun (r : Int32) (u : MS) => Q r u ∧ wfM u ∧ shy S u ∧ (r = 0 ∨ r = 1)) (fun (u : MS) (t : State) => qE g ad A u t) A) ([.ref (ad 0), .int x1, .int x2] : List Value).toArray s 0 0 A) (F0 m 55 ls []) := by
          intro U55 H locs ls h hsh hR hl
          unfold w_isRightHeight_J55 at h
          refine lv_iconst (v := 1) hx hb dX14_isRightHeight_55 (by decide) ?_
          refine lv_goto (tgt := 60) hx hb dX14_isRightHeight_56 (by decide) ?_
          exact W.zret (v := 1) hx hb hr (nz (Or.inr rfl)) (fun t9 ht9 hW9 => ⟨⟨_, U55, rfl, ⟨h, hR.w, hsh, (Or.inr rfl)⟩, ⟨by rw [ht9]; exact hR.P, hR.D⟩⟩, hR.sS.F ht9⟩) hR.sS.2.2 dX14_isRightHeight_60
        refine lv_if_eq (tgt := 55) hx hb dX14_isRightHeight_42 (by decide) (fun c13 => ?_) (fun c13 => ?_)
        · replace h := h.1 (k_eq rfl (by decide) c13)
          exact J_55 U34 _ _ ls h  hsh hR (lv_sub hl [] rfl)
        · replace h := h.2 (k_ne rfl (by decide) c13)
          refine lv_iload_n hx hb dX14_isRightHeight_45 rfl (lv_at hl 1 rfl) ?_
          refine lv_aload_n hx hb dX14_isRightHeight_46 rfl (lv_at hl 0 rfl) ?_
          refine va_get (D := rD g) (ci := 13) (v := .int (qI U34 0 52)) (C := RX14) (T := TX14) (N := 143) hx hb hts in2X14 hown hR.K hR.P 0 (hR.at14 hR.w.1) rfl 52 (by decide) (hts _ kx_370) (fun _ h9 => h9) rfl dX14_isRightHeight_47 ?_
          refine lv_iconst (v := 1) hx hb dX14_isRightHeight_50 (by decide) ?_
          refine lv_isub hx hb dX14_isRightHeight_51 ?_
          refine lv_topi (fun z14 ez14 => ?_)
          obtain rfl : z14 = ((qI U34 0 52) - (1 : Int32)) := ez14
          refine lv_icmp_eq (tgt := 59) hx hb dX14_isRightHeight_52 (by decide) (fun c15 => ?_) (fun c15 => ?_)
          · replace h := h.1 (k_eq rfl rfl c15)
            exact J_59 U34 _ _ ls h  hsh hR (lv_sub hl [] rfl)
          · replace h := h.2 (k_ne rfl rfl c15)
            exact J_55 U34 _ _ ls h  hsh hR (lv_sub hl [] rfl)
      refine lv_if_gt (tgt := 34) hx hb dX14_isRightHeight_23 (by decide) (fun c16 => ?_) (fun c16 => ?_)
      · replace h := h.1 (k_lt (by decide) rfl c16)
        exact J_34 S3 x1 _ _ ls h  hsh hR (lv_sub hl [1, 2] rfl)
      · replace h := h.2 (k_nlt (by decide) rfl c16)
        refine lv_aload_n hx hb dX14_isRightHeight_26 rfl (lv_at hl 1 rfl) ?_
        refine lv_iload_n hx hb dX14_isRightHeight_27 rfl (lv_at hl 2 rfl) ?_
        obtain ⟨Q17, h0, h⟩ := h
        have hFc := rfree hR hA
        refine va_calli (va_runV (As := [.int x1]) (rest := []) ⟨hx, hb, hml, hown, hts⟩ (r_hasCatch l g ad H.size S3 x1 hR.w  Q17 h0) (cwV 1 hts (gd2_V kx_431 kx_432 kx_433 kx_177 kx_434) rfl rfl rfl (by decide +kernel) ⟨Nat.le_of_ble_eq_true rfl, Nat.le_of_ble_eq_true rfl⟩) ⟨rblind, va_recv hR.K hR.P (ci := 13) (q0 := 0) rfl (hR.at14 hR.w.1), fun U hU hW9 => rmk hU hW9 hR hex hE hFc⟩ rfl rfl hl.1 rfl (lv_room (Nat.le_of_ble_eq_true rfl)) dX14_isRightHeight_28 ⟨Nat.le_of_ble_eq_true rfl, Nat.le_of_ble_eq_true rfl⟩) hR.sS (fun q _ h => hFc q h) hFc (fun r18 S19 t9 H1 locs ht9 hvm9 hw9 hB9 hz9 hk9 hS => ?_)
        obtain ⟨hq20, hw9, hs9, hz_r18⟩ := hw9
        have hR : Rep g ad A s S19 H1 locs := hR.call ht9 hB9 hw9 hS hFc
        have hsh := hsh.tr hs9
        replace h := h r18 S19 hq20
        clear hB9 hz9 hk9 hvm9 ht9 hw9 hs9 hS
        generalize H1 = H at hR ⊢
        refine lv_if_ne (tgt := 59) hx hb dX14_isRightHeight_31 (by decide) (fun c21 => ?_) (fun c21 => ?_)
        · replace h := h.2 (k_ne rfl (by decide) c21)
          exact J_59 S19 _ _ ls h  hsh hR (lv_sub hl [] rfl)
        · replace h := h.1 (k_eq rfl (by decide) c21)
          exact J_34 S19 x1 _ _ ls h  hsh hR (lv_sub hl [1, 2] rfl)
def w_spread_J91 (Q : MS → Prop) (k60 : MS → Int32 → Int32 → Prop) (U91 : MS) (v91_1 : Int32) (v91_4 : Int32) : Prop := (∀ a19 : Int32, a19 = (v91_4 + Int32.ofInt 1) → k60 U91 v91_1 a19)
def w_spread_L60 (Q : MS → Prop) : Nat → MS → Int32 → Int32 → Prop
  | 0, _, _, _ => False
  | n60 + 1, U60, v60_1, v60_4 => (((qI U60 0 54).toInt ≤ v60_4.toInt → Q U60) ∧ (¬ (qI U60 0 54).toInt ≤ v60_4.toInt → (d_isCaught U60 v60_1 v60_4 ∧ (((f_isCaught U60 v60_1 v60_4).toInt = 0 → w_spread_J91 Q (w_spread_L60 Q n60) U60 v60_1 v60_4) ∧ (¬ (f_isCaught U60 v60_1 v60_4).toInt = 0 → (d_catchWord U60 v60_4 (2 : Int32) ∧ (∃ Q24, w_come U60 (f_catchWord U60 v60_4 (2 : Int32)) (1 : Int32) Q24 ∧ ∀ S25, Q24 S25 → w_spread_J91 Q (w_spread_L60 Q n60) S25 v60_1 v60_4)))))))
def w_spread_L29 (Q : MS → Prop) : Nat → MS → Int32 → Int32 → Int32 → Prop
  | 0, _, _, _, _ => False
  | n29 + 1, U29, v29_1, v29_3, v29_4 => (d_ways U29 v29_1 ∧ (((f_ways U29 v29_1).toInt ≤ v29_4.toInt → (∃ n, w_spread_L60 Q n U29 v29_1 0)) ∧ (¬ (f_ways U29 v29_1).toInt ≤ v29_4.toInt → (d_way U29 v29_1 v29_4 ∧ (∃ Q30, w_come U29 (f_way U29 v29_1 v29_4) v29_3 Q30 ∧ ∀ S31, Q30 S31 → (∀ a33 : Int32, a33 = (v29_4 + Int32.ofInt 1) → (w_spread_L29 Q n29) S31 v29_1 v29_3 a33))))))
def w_spread_J26 (Q : MS → Prop) (U26 : MS) (v26_1 : Int32) (v26_3 : Int32) : Prop := (∃ n, w_spread_L29 Q n U26 v26_1 v26_3 0)
def w_spread (S : MS) (x1 : Int32) (x2 : Int32) (Q : MS → Prop) : Prop := (∃ Q1, w_heightBehind S x1 x2 Q1 ∧ ∀ r2 S3, Q1 r2 S3 → (d_op S3 x1 ∧ (d_goesOn S3 (f_op S3 x1) ∧ (((f_goesOn S3 (f_op S3 x1)).toInt = 0 → w_spread_J26 Q S3 x1 r2) ∧ (¬ (f_goesOn S3 (f_op S3 x1)).toInt = 0 → (∃ Q36, w_come S3 (x1 + (1 : Int32)) r2 Q36 ∧ ∀ S37, Q36 S37 → w_spread_J26 Q S37 x1 r2))))))
set_option maxHeartbeats 2000000 in
set_option maxRecDepth 100000 in
theorem r_spread (l : Launch) (g : Gr) (ad : Nat → Nat) (sz : Nat) (S : MS) (x1 : Int32) (x2 : Int32) (hw : wfM S) (Q : MS → Prop) (h : w_spread S x1 x2 Q) : Met l yX14_spread (wt2 yX14_spread cX14_spread 5 none) ({ frames := 6, cells := 0, slots := 0, locals := 131 }) (va_Pc [.ref (ad 0), .int x1, .int x2] (st_R g ad sz S)) (va_Qv (fun (u : MS) => Q u ∧ wfM u ∧ shy S u) (fun (u : MS) (t : State) => qE g ad (va_A (Wd g ad S) sz) u t) (va_A (Wd g ad S) sz)) 0 0 (va_A (Wd g ad S) sz) := by
  refine Met.ofW (cc := cX14_spread) (maxL := 5) (ret := none) (by decide) rfl ?_
  intro p e s m args below meth c s₁ B hml hv
  obtain ⟨rfl, hsz, hP, hK, hD0, hex, hE⟩ := hv
  have hx := B.exec
  have hb := B.bytes
  have hr := B.returns
  have hts0 := atoms_spec (ws := wt2 yX14_spread cX14_spread 5 none) B.pre
  have hts : ∀ w ∈ tb2, w.before _ s = true := fun w h => hts0 w (List.mem_cons_of_mem _ h)
  have hown : s.vm.findClass RX14 = some m.cls := findClass_of_methodNamed B.named
  subst hsz
  have hD := hD0.self (sz := s.heap.size)
  generalize hAe : va_A (Wd g ad S) s.heap.size = A at hD hE ⊢
  have hA : ∀ q : Nat, s.heap.size ≤ q → A q := fun q h => by rw [← hAe]; exact Or.inr h
  have hR : Rep g ad A s S s.heap [] := ⟨hK, hP, hD, va_S.rf, hw⟩
  clear hK hP hD hD0
  have hl := lv_entry ([.ref (ad 0), .int x1, .int x2]) (n := 5) (Nat.le_of_ble_eq_true rfl)
  rw [lg_entry_eq]
  generalize (lg_sl ([.ref (ad 0), .int x1, .int x2]) ++ List.replicate (5 - (lg_sl ([.ref (ad 0), .int x1, .int x2])).length) Slot.unset).toArray = ls at hl ⊢
  have hl : lv_has ls 5 [(0, .ref (ad 0)), (1, .int x1), (2, .int x2)] := hl
  have hsh : shy S S := shy.rf
  unfold w_spread at h
  refine lv_aload_n hx hb dX14_spread_0 rfl (lv_at hl 0 rfl) ?_
  refine lv_iload_n hx hb dX14_spread_1 rfl (lv_at hl 1 rfl) ?_
  refine lv_iload_n hx hb dX14_spread_2 rfl (lv_at hl 2 rfl) ?_
  obtain ⟨Q1, h0, h⟩ := h
  have hFc := rfree hR hA
  refine va_calli (va_runV (As := [.int x1, .int x2]) (rest := []) ⟨hx, hb, hml, hown, hts⟩ (r_heightBehind l g ad s.heap.size S x1 x2 hR.w  Q1 h0) (cwV 2 hts (gd2_V kx_423 kx_424 kx_425 kx_177 kx_426) rfl rfl rfl (by decide +kernel) ⟨Nat.le_of_ble_eq_true rfl, Nat.le_of_ble_eq_true rfl⟩) ⟨rblind, va_recv hR.K hR.P (ci := 13) (q0 := 0) rfl (hR.at14 hR.w.1), fun U hU hW9 => rmk hU hW9 hR hex hE hFc⟩ rfl rfl hl.1 rfl (lv_room (Nat.le_of_ble_eq_true rfl)) dX14_spread_3 ⟨Nat.le_of_ble_eq_true rfl, Nat.le_of_ble_eq_true rfl⟩) hR.sS (fun q _ h => hFc q h) hFc (fun r2 S3 t9 H1 locs ht9 hvm9 hw9 hB9 hz9 hk9 hS => ?_)
  obtain ⟨hq4, hw9, hs9⟩ := hw9
  have hR : Rep g ad A s S3 H1 locs := hR.call ht9 hB9 hw9 hS hFc
  have hsh := hsh.tr hs9
  replace h := h r2 S3 hq4
  clear hB9 hz9 hk9 hvm9 ht9 hw9 hs9 hS
  generalize H1 = H at hR ⊢
  refine lv_istore_n (lv' := [(3, .int r2), (0, .ref (ad 0)), (1, .int x1), (2, .int x2)]) hx hb dX14_spread_6 rfl hl (by decide) rfl (fun ls hl => ?_)
  refine lv_aload_n hx hb dX14_spread_7 rfl (lv_at hl 1 rfl) ?_
  refine lv_iload_n hx hb dX14_spread_8 rfl (lv_at hl 2 rfl) ?_
  obtain ⟨hv5, h⟩ := h
  have hFc := rfree hR hA
  refine va_calli (va_runV (As := [.int x1]) (rest := []) ⟨hx, hb, hml, hown, hts⟩ (r_op l g ad H.size S3 x1 hR.w  hv5) (cwV 1 hts (gd2_V kx_379 kx_380 kx_381 kx_177 kx_382) rfl rfl rfl (by decide +kernel) ⟨Nat.le_of_ble_eq_true rfl, Nat.le_of_ble_eq_true rfl⟩) ⟨rblind, va_recv hR.K hR.P (ci := 13) (q0 := 0) rfl (hR.at14 hR.w.1), fun U hU hW9 => rmk hU hW9 hR hex hE hFc⟩ rfl rfl hl.1 rfl (lv_room (Nat.le_of_ble_eq_true rfl)) dX14_spread_9 ⟨Nat.le_of_ble_eq_true rfl, Nat.le_of_ble_eq_true rfl⟩) hR.sS (fun q _ h => hFc q h) hFc (fun r6 u9 t9 H1 locs ht9 hvm9 hw9 hB9 hz9 hk9 hS => ?_)
  have hR : Rep g ad A s S3 H1 locs := hR.call ht9 hB9 hR.w hS hFc
  obtain rfl : r6 = (f_op S3 x1) := hw9
  clear hB9 hz9 hk9 hvm9 ht9 hS
  generalize H1 = H at hR ⊢
  obtain ⟨hv8, h⟩ := h
  have hFc := rfree hR hA
  refine va_calli (va_runS (As := [.int (f_op S3 x1)]) (rest := []) ⟨hx, hb, hml, hown, hts⟩ (r_goesOn l g ad H.size S3 (f_op S3 x1) hR.w  hv8) (va_cwS 1 hts (gd2_S kx_428 kx_429 kx_177 kx_430) rfl rfl rfl (by decide +kernel) ⟨Nat.le_of_ble_eq_true rfl, Nat.le_of_ble_eq_true rfl⟩) ⟨rblind, fun U hU hW9 => rmk hU hW9 hR hex hE hFc⟩ rfl rfl hl.1 rfl (lv_room (Nat.le_of_ble_eq_true rfl)) dX14_spread_12 ⟨Nat.le_of_ble_eq_true rfl, Nat.le_of_ble_eq_true rfl⟩) hR.sS (fun q _ h => hFc q h) hFc (fun r9 u9 t9 H1 locs ht9 hvm9 hw9 hB9 hz9 hk9 hS => ?_)
  have hR : Rep g ad A s S3 H1 locs := hR.call ht9 hB9 hR.w hS hFc
  obtain ⟨rfl, hz_r9⟩ := hw9
  clear hB9 hz9 hk9 hvm9 ht9 hS
  generalize H1 = H at hR ⊢
  have J_26 : ∀ (U26 : MS) (v26_1 : Int32) (v26_3 : Int32) (H : Heap) (locs : List Loc) (ls : Array Slot), w_spread_J26 Q U26 v26_1 v26_3 → shy S U26 → Rep g ad A s U26 H locs → lv_has ls 5 [(0, .ref (ad 0)), (1, .int v26_1), (3, .int v26_3)] → W p l e (headSpec (wt2 yX14_spread cX14_spread 5 none) ({ frames := 6, cells := 0, slots := 0, locals := 131 })).room s m ([.ref (ad 0), .int x1, .int x2] : List Value).toArray below meth c H locs 0 0 (MQ below (va_Qv (fun (u : MS) => Q u ∧ wfM u ∧ shy S u) (fun (u : MS) (t : State) => qE g ad A u t) A) ([.ref (ad 0), .int x1, .int x2] : List Value).toArray s 0 0 A) (F0 m 26 ls []) := by
    intro U26 v26_1 v26_3 H locs ls h hsh hR hl
    unfold w_spread_J26 at h
    refine lv_iconst (v := 0) hx hb dX14_spread_26 (by decide) ?_
    refine lv_istore (lv' := [(4, .int 0), (0, .ref (ad 0)), (1, .int v26_1), (3, .int v26_3)]) hx hb dX14_spread_27 hl (by decide) rfl (fun ls hl => ?_)
    have J_29 : ∀ (n29 : Nat) (U29 : MS) (v29_1 : Int32) (v29_3 : Int32) (v29_4 : Int32) (H : Heap) (locs : List Loc) (ls : Array Slot), w_spread_L29 Q n29 U29 v29_1 v29_3 v29_4 → shy S U29 → Rep g ad A s U29 H locs → lv_has ls 5 [(0, .ref (ad 0)), (1, .int v29_1), (3, .int v29_3), (4, .int v29_4)] → W p l e (headSpec (wt2 yX14_spread cX14_spread 5 none) ({ frames := 6, cells := 0, slots := 0, locals := 131 })).room s m ([.ref (ad 0), .int x1, .int x2] : List Value).toArray below meth c H locs 0 0 (MQ below (va_Qv (fun (u : MS) => Q u ∧ wfM u ∧ shy S u) (fun (u : MS) (t : State) => qE g ad A u t) A) ([.ref (ad 0), .int x1, .int x2] : List Value).toArray s 0 0 A) (F0 m 29 ls []) := by
      intro n29
      induction n29 with
      | zero => intro U29 v29_1 v29_3 v29_4 H locs ls h hsh hR hl; unfold w_spread_L29 at h; exact h.elim
      | succ n29 ih_29 =>
        intro U29 v29_1 v29_3 v29_4 H locs ls h hsh hR hl
        unfold w_spread_L29 at h
        refine lv_iload hx hb dX14_spread_29 (lv_at hl 3 rfl) ?_
        refine lv_aload_n hx hb dX14_spread_31 rfl (lv_at hl 0 rfl) ?_
        refine lv_iload_n hx hb dX14_spread_32 rfl (lv_at hl 1 rfl) ?_
        obtain ⟨hv11, h⟩ := h
        have hFc := rfree hR hA
        refine va_calli (va_runV (As := [.int v29_1]) (rest := [.int v29_4]) ⟨hx, hb, hml, hown, hts⟩ (r_ways l g ad H.size U29 v29_1 hR.w  hv11) (cwV 1 hts (gd2_V kx_435 kx_436 kx_437 kx_177 kx_438) rfl rfl rfl (by decide +kernel) ⟨Nat.le_of_ble_eq_true rfl, Nat.le_of_ble_eq_true rfl⟩) ⟨rblind, va_recv hR.K hR.P (ci := 13) (q0 := 0) rfl (hR.at14 hR.w.1), fun U hU hW9 => rmk hU hW9 hR hex hE hFc⟩ rfl rfl hl.1 rfl (lv_room (Nat.le_of_ble_eq_true rfl)) dX14_spread_33 ⟨Nat.le_of_ble_eq_true rfl, Nat.le_of_ble_eq_true rfl⟩) hR.sS (fun q _ h => hFc q h) hFc (fun r12 u9 t9 H1 locs ht9 hvm9 hw9 hB9 hz9 hk9 hS => ?_)
        have hR : Rep g ad A s U29 H1 locs := hR.call ht9 hB9 hR.w hS hFc
        obtain rfl : r12 = (f_ways U29 v29_1) := hw9
        clear hB9 hz9 hk9 hvm9 ht9 hS
        generalize H1 = H at hR ⊢
        refine lv_icmp_ge (tgt := 57) hx hb dX14_spread_36 (by decide) (fun c14 => ?_) (fun c14 => ?_)
        · replace h := h.1 (k_le rfl rfl c14)
          refine lv_iconst (v := 0) hx hb dX14_spread_57 (by decide) ?_
          refine lv_istore (lv' := [(4, .int 0), (0, .ref (ad 0)), (1, .int v29_1), (3, .int v29_3)]) hx hb dX14_spread_58 hl (by decide) rfl (fun ls hl => ?_)
          have J_60 : ∀ (n60 : Nat) (U60 : MS) (v60_1 : Int32) (v60_4 : Int32) (H : Heap) (locs : List Loc) (ls : Array Slot), w_spread_L60 Q n60 U60 v60_1 v60_4 → shy S U60 → Rep g ad A s U60 H locs → lv_has ls 5 [(0, .ref (ad 0)), (1, .int v60_1), (4, .int v60_4)] → W p l e (headSpec (wt2 yX14_spread cX14_spread 5 none) ({ frames := 6, cells := 0, slots := 0, locals := 131 })).room s m ([.ref (ad 0), .int x1, .int x2] : List Value).toArray below meth c H locs 0 0 (MQ below (va_Qv (fun (u : MS) => Q u ∧ wfM u ∧ shy S u) (fun (u : MS) (t : State) => qE g ad A u t) A) ([.ref (ad 0), .int x1, .int x2] : List Value).toArray s 0 0 A) (F0 m 60 ls []) := by
            intro n60
            induction n60 with
            | zero => intro U60 v60_1 v60_4 H locs ls h hsh hR hl; unfold w_spread_L60 at h; exact h.elim
            | succ n60 ih_60 =>
              intro U60 v60_1 v60_4 H locs ls h hsh hR hl
              unfold w_spread_L60 at h
              refine lv_iload hx hb dX14_spread_60 (lv_at hl 2 rfl) ?_
              refine lv_aload_n hx hb dX14_spread_62 rfl (lv_at hl 0 rfl) ?_
              refine va_get (D := rD g) (ci := 13) (v := .int (qI U60 0 54)) (C := RX14) (T := TX14) (N := 143) hx hb hts in2X14 hown hR.K hR.P 0 (hR.at14 hR.w.1) rfl 54 (by decide) (hts _ kx_374) (fun _ h9 => h9) rfl dX14_spread_63 ?_
              refine lv_icmp_ge (tgt := 97) hx hb dX14_spread_66 (by decide) (fun c15 => ?_) (fun c15 => ?_)
              · replace h := h.1 (k_le rfl rfl c15)
                exact W.vret hx hb hr (fun t9 ht9 hW9 => ⟨⟨U60, rfl, ⟨h, hR.w, hsh⟩, ⟨by rw [ht9]; exact hR.P, hR.D⟩⟩, hR.sS.F ht9⟩) hR.sS.2.2 dX14_spread_97
              · replace h := h.2 (k_nle rfl rfl c15)
                refine lv_aload_n hx hb dX14_spread_69 rfl (lv_at hl 0 rfl) ?_
                refine lv_iload_n hx hb dX14_spread_70 rfl (lv_at hl 1 rfl) ?_
                refine lv_iload hx hb dX14_spread_71 (lv_at hl 2 rfl) ?_
                obtain ⟨hv16, h⟩ := h
                have hFc := rfree hR hA
                refine va_calli (va_runV (As := [.int v60_1, .int v60_4]) (rest := []) ⟨hx, hb, hml, hown, hts⟩ (r_isCaught l g ad H.size U60 v60_1 v60_4 hR.w  hv16) (cwV 2 hts (gd2_V kx_419 kx_420 kx_421 kx_177 kx_422) rfl rfl rfl (by decide +kernel) ⟨Nat.le_of_ble_eq_true rfl, Nat.le_of_ble_eq_true rfl⟩) ⟨rblind, va_recv hR.K hR.P (ci := 13) (q0 := 0) rfl (hR.at14 hR.w.1), fun U hU hW9 => rmk hU hW9 hR hex hE hFc⟩ rfl rfl hl.1 rfl (lv_room (Nat.le_of_ble_eq_true rfl)) dX14_spread_73 ⟨Nat.le_of_ble_eq_true rfl, Nat.le_of_ble_eq_true rfl⟩) hR.sS (fun q _ h => hFc q h) hFc (fun r17 u9 t9 H1 locs ht9 hvm9 hw9 hB9 hz9 hk9 hS => ?_)
                have hR : Rep g ad A s U60 H1 locs := hR.call ht9 hB9 hR.w hS hFc
                obtain ⟨rfl, hz_r17⟩ := hw9
                clear hB9 hz9 hk9 hvm9 ht9 hS
                generalize H1 = H at hR ⊢
                have J_91 : ∀ (U91 : MS) (v91_1 : Int32) (v91_4 : Int32) (H : Heap) (locs : List Loc) (ls : Array Slot), w_spread_J91 Q (w_spread_L60 Q n60) U91 v91_1 v91_4 → shy S U91 → Rep g ad A s U91 H locs → lv_has ls 5 [(0, .ref (ad 0)), (1, .int v91_1), (4, .int v91_4)] → W p l e (headSpec (wt2 yX14_spread cX14_spread 5 none) ({ frames := 6, cells := 0, slots := 0, locals := 131 })).room s m ([.ref (ad 0), .int x1, .int x2] : List Value).toArray below meth c H locs 0 0 (MQ below (va_Qv (fun (u : MS) => Q u ∧ wfM u ∧ shy S u) (fun (u : MS) (t : State) => qE g ad A u t) A) ([.ref (ad 0), .int x1, .int x2] : List Value).toArray s 0 0 A) (F0 m 91 ls []) := by
                  intro U91 v91_1 v91_4 H locs ls h hsh hR hl
                  unfold w_spread_J91 at h
                  obtain ⟨a19, ea19⟩ : ∃ z, z = (v91_4 + Int32.ofInt 1) := ⟨_, rfl⟩
                  replace h := h a19 ea19
                  refine lv_iinc (v := a19) (lv' := [(4, .int a19), (0, .ref (ad 0)), (1, .int v91_1)]) hx hb dX14_spread_91 hl (k := 2) rfl ea19.symm (by decide) rfl (fun ls hl => ?_)
                  refine lv_goto (tgt := 60) hx hb dX14_spread_94 (by decide) ?_
                  exact ih_60 U91 v91_1 a19 _ _ ls h  hsh hR (lv_sub hl [1, 2, 0] rfl)
                refine lv_if_eq (tgt := 91) hx hb dX14_spread_76 (by decide) (fun c20 => ?_) (fun c20 => ?_)
                · replace h := h.1 (k_eq rfl (by decide) c20)
                  exact J_91 U60 v60_1 v60_4 _ _ ls h  hsh hR (lv_sub hl [0, 1, 2] rfl)
                · replace h := h.2 (k_ne rfl (by decide) c20)
                  refine lv_aload_n hx hb dX14_spread_79 rfl (lv_at hl 0 rfl) ?_
                  refine lv_aload_n hx hb dX14_spread_80 rfl (lv_at hl 0 rfl) ?_
                  refine lv_iload hx hb dX14_spread_81 (lv_at hl 2 rfl) ?_
                  refine lv_iconst (v := 2) hx hb dX14_spread_83 (by decide) ?_
                  obtain ⟨hv21, h⟩ := h
                  have hFc := rfree hR hA
                  refine va_calli (va_runV (As := [.int v60_4, .int 2]) (rest := [.ref (ad 0)]) ⟨hx, hb, hml, hown, hts⟩ (r_catchWord l g ad H.size U60 v60_4 (2 : Int32) hR.w  hv21) (cwV 2 hts (gd2_V kx_375 kx_376 kx_377 kx_177 kx_378) rfl rfl rfl (by decide +kernel) ⟨Nat.le_of_ble_eq_true rfl, Nat.le_of_ble_eq_true rfl⟩) ⟨rblind, va_recv hR.K hR.P (ci := 13) (q0 := 0) rfl (hR.at14 hR.w.1), fun U hU hW9 => rmk hU hW9 hR hex hE hFc⟩ rfl rfl hl.1 rfl (lv_room (Nat.le_of_ble_eq_true rfl)) dX14_spread_84 ⟨Nat.le_of_ble_eq_true rfl, Nat.le_of_ble_eq_true rfl⟩) hR.sS (fun q _ h => hFc q h) hFc (fun r22 u9 t9 H1 locs ht9 hvm9 hw9 hB9 hz9 hk9 hS => ?_)
                  have hR : Rep g ad A s U60 H1 locs := hR.call ht9 hB9 hR.w hS hFc
                  obtain rfl : r22 = (f_catchWord U60 v60_4 (2 : Int32)) := hw9
                  clear hB9 hz9 hk9 hvm9 ht9 hS
                  generalize H1 = H at hR ⊢
                  refine lv_iconst (v := 1) hx hb dX14_spread_87 (by decide) ?_
                  obtain ⟨Q24, h0, h⟩ := h
                  have hFc := rfree hR hA
                  refine va_callv (va_runV (As := [.int (f_catchWord U60 v60_4 (2 : Int32)), .int 1]) (rest := []) ⟨hx, hb, hml, hown, hts⟩ (r_come l g ad H.size U60 (f_catchWord U60 v60_4 (2 : Int32)) (1 : Int32) hR.w  Q24 h0) (cwV 2 hts (gd2_V kx_439 kx_440 kx_441 kx_177 kx_442) rfl rfl rfl (by decide +kernel) ⟨Nat.le_of_ble_eq_true rfl, Nat.le_of_ble_eq_true rfl⟩) ⟨rblind, va_recv hR.K hR.P (ci := 13) (q0 := 0) rfl (hR.at14 hR.w.1), fun U hU hW9 => rmk hU hW9 hR hex hE hFc⟩ rfl rfl hl.1 rfl (lv_room (Nat.le_of_ble_eq_true rfl)) dX14_spread_88 ⟨Nat.le_of_ble_eq_true rfl, Nat.le_of_ble_eq_true rfl⟩) hR.sS (fun q _ h => hFc q h) hFc (fun  S25 t9 H1 locs ht9 hvm9 hw9 hB9 hz9 hk9 hS => ?_)
                  obtain ⟨hq26, hw9, hs9⟩ := hw9
                  have hR : Rep g ad A s S25 H1 locs := hR.call ht9 hB9 hw9 hS hFc
                  have hsh := hsh.tr hs9
                  replace h := h  S25 hq26
                  clear hB9 hz9 hk9 hvm9 ht9 hw9 hs9 hS
                  generalize H1 = H at hR ⊢
                  exact J_91 S25 v60_1 v60_4 _ _ ls h  hsh hR (lv_sub hl [0, 1, 2] rfl)
          obtain ⟨n9, h⟩ := h
          exact J_60 n9 U29 v29_1 0 _ _ ls h  hsh hR (lv_sub hl [1, 2, 0] rfl)
        · replace h := h.2 (k_nle rfl rfl c14)
          refine lv_aload_n hx hb dX14_spread_39 rfl (lv_at hl 0 rfl) ?_
          refine lv_aload_n hx hb dX14_spread_40 rfl (lv_at hl 0 rfl) ?_
          refine lv_iload_n hx hb dX14_spread_41 rfl (lv_at hl 1 rfl) ?_
          refine lv_iload hx hb dX14_spread_42 (lv_at hl 3 rfl) ?_
          obtain ⟨hv27, h⟩ := h
          have hFc := rfree hR hA
          refine va_calli (va_runV (As := [.int v29_1, .int v29_4]) (rest := [.ref (ad 0)]) ⟨hx, hb, hml, hown, hts⟩ (r_way l g ad H.size U29 v29_1 v29_4 hR.w  hv27) (cwV 2 hts (gd2_V kx_443 kx_444 kx_445 kx_177 kx_446) rfl rfl rfl (by decide +kernel) ⟨Nat.le_of_ble_eq_true rfl, Nat.le_of_ble_eq_true rfl⟩) ⟨rblind, va_recv hR.K hR.P (ci := 13) (q0 := 0) rfl (hR.at14 hR.w.1), fun U hU hW9 => rmk hU hW9 hR hex hE hFc⟩ rfl rfl hl.1 rfl (lv_room (Nat.le_of_ble_eq_true rfl)) dX14_spread_44 ⟨Nat.le_of_ble_eq_true rfl, Nat.le_of_ble_eq_true rfl⟩) hR.sS (fun q _ h => hFc q h) hFc (fun r28 u9 t9 H1 locs ht9 hvm9 hw9 hB9 hz9 hk9 hS => ?_)
          have hR : Rep g ad A s U29 H1 locs := hR.call ht9 hB9 hR.w hS hFc
          obtain rfl : r28 = (f_way U29 v29_1 v29_4) := hw9
          clear hB9 hz9 hk9 hvm9 ht9 hS
          generalize H1 = H at hR ⊢
          refine lv_iload_n hx hb dX14_spread_47 rfl (lv_at hl 2 rfl) ?_
          obtain ⟨Q30, h0, h⟩ := h
          have hFc := rfree hR hA
          refine va_callv (va_runV (As := [.int (f_way U29 v29_1 v29_4), .int v29_3]) (rest := []) ⟨hx, hb, hml, hown, hts⟩ (r_come l g ad H.size U29 (f_way U29 v29_1 v29_4) v29_3 hR.w  Q30 h0) (cwV 2 hts (gd2_V kx_439 kx_440 kx_441 kx_177 kx_442) rfl rfl rfl (by decide +kernel) ⟨Nat.le_of_ble_eq_true rfl, Nat.le_of_ble_eq_true rfl⟩) ⟨rblind, va_recv hR.K hR.P (ci := 13) (q0 := 0) rfl (hR.at14 hR.w.1), fun U hU hW9 => rmk hU hW9 hR hex hE hFc⟩ rfl rfl hl.1 rfl (lv_room (Nat.le_of_ble_eq_true rfl)) dX14_spread_48 ⟨Nat.le_of_ble_eq_true rfl, Nat.le_of_ble_eq_true rfl⟩) hR.sS (fun q _ h => hFc q h) hFc (fun  S31 t9 H1 locs ht9 hvm9 hw9 hB9 hz9 hk9 hS => ?_)
          obtain ⟨hq32, hw9, hs9⟩ := hw9
          have hR : Rep g ad A s S31 H1 locs := hR.call ht9 hB9 hw9 hS hFc
          have hsh := hsh.tr hs9
          replace h := h  S31 hq32
          clear hB9 hz9 hk9 hvm9 ht9 hw9 hs9 hS
          generalize H1 = H at hR ⊢
          obtain ⟨a33, ea33⟩ : ∃ z, z = (v29_4 + Int32.ofInt 1) := ⟨_, rfl⟩
          replace h := h a33 ea33
          refine lv_iinc (v := a33) (lv' := [(4, .int a33), (0, .ref (ad 0)), (1, .int v29_1), (3, .int v29_3)]) hx hb dX14_spread_51 hl (k := 3) rfl ea33.symm (by decide) rfl (fun ls hl => ?_)
          refine lv_goto (tgt := 29) hx hb dX14_spread_54 (by decide) ?_
          exact ih_29 S31 v29_1 v29_3 a33 _ _ ls h  hsh hR (lv_sub hl [1, 2, 3, 0] rfl)
    obtain ⟨n9, h⟩ := h
    exact J_29 n9 U26 v26_1 v26_3 0 _ _ ls h  hsh hR (lv_sub hl [1, 2, 3, 0] rfl)
  refine lv_if_eq (tgt := 26) hx hb dX14_spread_15 (by decide) (fun c34 => ?_) (fun c34 => ?_)
  · replace h := h.1 (k_eq rfl (by decide) c34)
    exact J_26 S3 x1 r2 _ _ ls h  hsh hR (lv_sub hl [1, 2, 0] rfl)
  · replace h := h.2 (k_ne rfl (by decide) c34)
    refine lv_aload_n hx hb dX14_spread_18 rfl (lv_at hl 1 rfl) ?_
    refine lv_iload_n hx hb dX14_spread_19 rfl (lv_at hl 2 rfl) ?_
    refine lv_iconst (v := 1) hx hb dX14_spread_20 (by decide) ?_
    refine lv_iadd hx hb dX14_spread_21 ?_
    refine lv_topi (fun z35 ez35 => ?_)
    obtain rfl : z35 = (x1 + (1 : Int32)) := ez35
    refine lv_iload_n hx hb dX14_spread_22 rfl (lv_at hl 0 rfl) ?_
    obtain ⟨Q36, h0, h⟩ := h
    have hFc := rfree hR hA
    refine va_callv (va_runV (As := [.int (x1 + (1 : Int32)), .int r2]) (rest := []) ⟨hx, hb, hml, hown, hts⟩ (r_come l g ad H.size S3 (x1 + (1 : Int32)) r2 hR.w  Q36 h0) (cwV 2 hts (gd2_V kx_439 kx_440 kx_441 kx_177 kx_442) rfl rfl rfl (by decide +kernel) ⟨Nat.le_of_ble_eq_true rfl, Nat.le_of_ble_eq_true rfl⟩) ⟨rblind, va_recv hR.K hR.P (ci := 13) (q0 := 0) rfl (hR.at14 hR.w.1), fun U hU hW9 => rmk hU hW9 hR hex hE hFc⟩ rfl rfl hl.1 rfl (lv_room (Nat.le_of_ble_eq_true rfl)) dX14_spread_23 ⟨Nat.le_of_ble_eq_true rfl, Nat.le_of_ble_eq_true rfl⟩) hR.sS (fun q _ h => hFc q h) hFc (fun  S37 t9 H1 locs ht9 hvm9 hw9 hB9 hz9 hk9 hS => ?_)
    obtain ⟨hq38, hw9, hs9⟩ := hw9
    have hR : Rep g ad A s S37 H1 locs := hR.call ht9 hB9 hw9 hS hFc
    have hsh := hsh.tr hs9
    replace h := h  S37 hq38
    clear hB9 hz9 hk9 hvm9 ht9 hw9 hs9 hS
    generalize H1 = H at hR ⊢
    exact J_26 S37 x1 r2 _ _ ls h  hsh hR (lv_sub hl [1, 2, 0] rfl)
def w_findHeights_J98 (Q : MS → Prop) (k64 : MS → Int32 → Int32 → Int32 → Prop) (U98 : MS) (v98_1 : Int32) (v98_2 : Int32) (v98_3 : Int32) : Prop := (∀ a14 : Int32, a14 = (v98_3 + Int32.ofInt 1) → k64 U98 v98_1 v98_2 a14)
def w_findHeights_L64 (Q : MS → Prop) (k54 : MS → Int32 → Int32 → Prop) : Nat → MS → Int32 → Int32 → Int32 → Prop
  | 0, _, _, _, _ => False
  | n64 + 1, U64, v64_1, v64_2, v64_3 => ((v64_1.toInt < v64_3.toInt → (∀ a9 : Int32, a9 = (v64_2 + Int32.ofInt 1) → k54 U64 v64_1 a9)) ∧ (¬ v64_1.toInt < v64_3.toInt → (((0 : Int) ≤ v64_2.toInt ∧ v64_2.toInt < 9600) ∧ (((((qI U64 22 v64_2.toInt.toNat) >>> (v64_3 &&& 31)) &&& (1 : Int32)).toInt = 1 → (∃ Q16, w_isRightHeight U64 v64_2 v64_3 Q16 ∧ ∀ r17 S18, Q16 r17 S18 → ((r17.toInt = 0 → w_findHeights_J98 Q (w_findHeights_L64 Q k54 n64) S18 v64_1 v64_2 v64_3) ∧ (¬ r17.toInt = 0 → (∃ Q21, w_spread S18 v64_2 v64_3 Q21 ∧ ∀ S22, Q21 S22 → w_findHeights_J98 Q (w_findHeights_L64 Q k54 n64) S22 v64_1 v64_2 v64_3))))) ∧ (¬ (((qI U64 22 v64_2.toInt.toNat) >>> (v64_3 &&& 31)) &&& (1 : Int32)).toInt = 1 → w_findHeights_J98 Q (w_findHeights_L64 Q k54 n64) U64 v64_1 v64_2 v64_3)))))
def w_findHeights_L54 (Q : MS → Prop) (k40 : MS → Int32 → Prop) : Nat → MS → Int32 → Int32 → Prop
  | 0, _, _, _ => False
  | n54 + 1, U54, v54_1, v54_2 => (((qI U54 0 52).toInt ≤ v54_2.toInt → k40 U54 v54_1) ∧ (¬ (qI U54 0 52).toInt ≤ v54_2.toInt → (∃ n, w_findHeights_L64 Q (w_findHeights_L54 Q k40 n54) n U54 v54_1 v54_2 0)))
def w_findHeights_L40 (Q : MS → Prop) : Nat → MS → Int32 → Prop
  | 0, _, _ => False
  | n40 + 1, U40, v40_1 => (((qI U40 0 57).toInt = 0 → Q U40) ∧ (¬ (qI U40 0 57).toInt = 0 → (∀ S6, S6 = wI U40 0 57 0 → (∃ n, w_findHeights_L54 Q (w_findHeights_L40 Q n40) n S6 v40_1 0))))
def w_findHeights_L7 (Q : MS → Prop) : Nat → MS → Int32 → Int32 → Prop
  | 0, _, _, _ => False
  | n7 + 1, U7, v7_1, v7_2 => (((qI U7 0 52).toInt ≤ v7_2.toInt → (∀ S3, S3 = wI U7 22 0 (1 : Int32) → (∀ S4, S4 = wI S3 0 57 1 → (∃ n, w_findHeights_L40 Q n S4 v7_1)))) ∧ (¬ (qI U7 0 52).toInt ≤ v7_2.toInt → (((0 : Int) ≤ v7_2.toInt ∧ v7_2.toInt < 9600) ∧ (∀ S25, S25 = wI U7 22 v7_2.toInt.toNat (0 : Int32) → (∀ a26 : Int32, a26 = (v7_2 + Int32.ofInt 1) → (w_findHeights_L7 Q n7) S25 v7_1 a26)))))
def w_findHeights (S : MS) (x1 : Int32) (Q : MS → Prop) : Prop := (∀ S1, S1 = wI S 0 56 x1 → (∃ n, w_findHeights_L7 Q n S1 x1 0))
set_option maxHeartbeats 2000000 in
set_option maxRecDepth 100000 in
theorem r_findHeights (l : Launch) (g : Gr) (ad : Nat → Nat) (sz : Nat) (S : MS) (x1 : Int32) (hw : wfM S) (Q : MS → Prop) (h : w_findHeights S x1 Q) : Met l yX14_findHeights (wt2 yX14_findHeights cX14_findHeights 4 none) ({ frames := 7, cells := 0, slots := 0, locals := 155 }) (va_Pc [.ref (ad 0), .int x1] (st_R g ad sz S)) (va_Qv (fun (u : MS) => Q u ∧ wfM u ∧ shy S u) (fun (u : MS) (t : State) => qE g ad (va_A (Wd g ad S) sz) u t) (va_A (Wd g ad S) sz)) 0 0 (va_A (Wd g ad S) sz) := by
  refine Met.ofW (cc := cX14_findHeights) (maxL := 4) (ret := none) (by decide) rfl ?_
  intro p e s m args below meth c s₁ B hml hv
  obtain ⟨rfl, hsz, hP, hK, hD0, hex, hE⟩ := hv
  have hx := B.exec
  have hb := B.bytes
  have hr := B.returns
  have hts0 := atoms_spec (ws := wt2 yX14_findHeights cX14_findHeights 4 none) B.pre
  have hts : ∀ w ∈ tb2, w.before _ s = true := fun w h => hts0 w (List.mem_cons_of_mem _ h)
  have hown : s.vm.findClass RX14 = some m.cls := findClass_of_methodNamed B.named
  subst hsz
  have hD := hD0.self (sz := s.heap.size)
  generalize hAe : va_A (Wd g ad S) s.heap.size = A at hD hE ⊢
  have hA : ∀ q : Nat, s.heap.size ≤ q → A q := fun q h => by rw [← hAe]; exact Or.inr h
  have hR : Rep g ad A s S s.heap [] := ⟨hK, hP, hD, va_S.rf, hw⟩
  clear hK hP hD hD0
  have hl := lv_entry ([.ref (ad 0), .int x1]) (n := 4) (Nat.le_of_ble_eq_true rfl)
  rw [lg_entry_eq]
  generalize (lg_sl ([.ref (ad 0), .int x1]) ++ List.replicate (4 - (lg_sl ([.ref (ad 0), .int x1])).length) Slot.unset).toArray = ls at hl ⊢
  have hl : lv_has ls 4 [(0, .ref (ad 0)), (1, .int x1)] := hl
  have hsh : shy S S := shy.rf
  unfold w_findHeights at h
  refine lv_aload_n hx hb dX14_findHeights_0 rfl (lv_at hl 0 rfl) ?_
  refine lv_iload_n hx hb dX14_findHeights_1 rfl (lv_at hl 1 rfl) ?_
  refine va_put (D := rD g) (ci := 13) (v := .int x1) (ty := .int) (C := RX14) (T := TX14) (N := 143) hx hb hts in2X14 tyX14 tyX14_ok nmX14 hown hR.K hR.P hR.D hR.sS 0 (hR.at14 hR.w.1) rfl 56 (by decide) (hts _ kx_427) (fun _ h9 => h9) rfl (by decide +kernel) rfl rfl (Nat.le_of_ble_eq_true rfl) dX14_findHeights_2 (fun H locs hP hD hS => ?_)
  have hR : Rep g ad A s (wI S 0 56 x1) H locs := hR.pI hR.w.1 F14_s56 hP hD hS
  obtain ⟨S1, eS1⟩ : ∃ z, z = wI S 0 56 x1 := ⟨_, rfl⟩
  rw [← eS1] at hR
  replace h := h S1 eS1
  have hsh : shy S S1 := by rw [eS1]; exact hsh
  refine lv_iconst (v := 0) hx hb dX14_findHeights_5 (by decide) ?_
  refine lv_istore_n (lv' := [(2, .int 0), (0, .ref (ad 0)), (1, .int x1)]) hx hb dX14_findHeights_6 rfl hl (by decide) rfl (fun ls hl => ?_)
  have J_7 : ∀ (n7 : Nat) (U7 : MS) (v7_1 : Int32) (v7_2 : Int32) (H : Heap) (locs : List Loc) (ls : Array Slot), w_findHeights_L7 Q n7 U7 v7_1 v7_2 → shy S U7 → Rep g ad A s U7 H locs → lv_has ls 4 [(0, .ref (ad 0)), (1, .int v7_1), (2, .int v7_2)] → W p l e (headSpec (wt2 yX14_findHeights cX14_findHeights 4 none) ({ frames := 7, cells := 0, slots := 0, locals := 155 })).room s m ([.ref (ad 0), .int x1] : List Value).toArray below meth c H locs 0 0 (MQ below (va_Qv (fun (u : MS) => Q u ∧ wfM u ∧ shy S u) (fun (u : MS) (t : State) => qE g ad A u t) A) ([.ref (ad 0), .int x1] : List Value).toArray s 0 0 A) (F0 m 7 ls []) := by
    intro n7
    induction n7 with
    | zero => intro U7 v7_1 v7_2 H locs ls h hsh hR hl; unfold w_findHeights_L7 at h; exact h.elim
    | succ n7 ih_7 =>
      intro U7 v7_1 v7_2 H locs ls h hsh hR hl
      unfold w_findHeights_L7 at h
      refine lv_iload_n hx hb dX14_findHeights_7 rfl (lv_at hl 2 rfl) ?_
      refine lv_aload_n hx hb dX14_findHeights_8 rfl (lv_at hl 0 rfl) ?_
      refine va_get (D := rD g) (ci := 13) (v := .int (qI U7 0 52)) (C := RX14) (T := TX14) (N := 143) hx hb hts in2X14 hown hR.K hR.P 0 (hR.at14 hR.w.1) rfl 52 (by decide) (hts _ kx_370) (fun _ h9 => h9) rfl dX14_findHeights_9 ?_
      refine lv_icmp_ge (tgt := 28) hx hb dX14_findHeights_12 (by decide) (fun c2 => ?_) (fun c2 => ?_)
      · replace h := h.1 (k_le rfl rfl c2)
        refine lv_aload_n hx hb dX14_findHeights_28 rfl (lv_at hl 0 rfl) ?_
        refine va_get (D := rD g) (ci := 13) (v := .ref (ad 22)) (C := RX14) (T := TX14) (N := 143) hx hb hts in2X14 hown hR.K hR.P 0 (hR.at14 hR.w.1) rfl 55 (by decide) (hts _ kx_417) (fun _ h9 => h9) (congrArg (fun z => some (vf ad z)) (hR.w.2.1 _ fin_55).1) dX14_findHeights_29 ?_
        refine lv_iconst (v := 0) hx hb dX14_findHeights_32 (by decide) ?_
        refine lv_iconst (v := 1) hx hb dX14_findHeights_33 (by decide) ?_
        refine va_iast hx hb hR.K hR.P hR.D hR.sS 22 1 (hR.atI (hR.w.2.1 _ fin_55).2.1) rfl (k_ixN (k_ix (n := 9600) (x := (0 : Int32)) (a := 0) (by decide) (by decide)) (hR.w.2.1 _ fin_55).2.2) dX14_findHeights_34 (fun H locs hP hD hS => ?_)
        have hR : Rep g ad A s (wI U7 22 0 (1 : Int32)) H locs := hR.aI (hR.w.2.1 _ fin_55).2.1 hP hD hS
        obtain ⟨S3, eS3⟩ : ∃ z, z = wI U7 22 0 (1 : Int32) := ⟨_, rfl⟩
        rw [← eS3] at hR
        replace h := h S3 eS3
        have hsh : shy S S3 := by rw [eS3]; exact hsh
        refine lv_aload_n hx hb dX14_findHeights_35 rfl (lv_at hl 0 rfl) ?_
        refine lv_iconst (v := 1) hx hb dX14_findHeights_36 (by decide) ?_
        refine va_put (D := rD g) (ci := 13) (v := .int 1) (ty := .boolean) (C := RX14) (T := TX14) (N := 143) hx hb hts in2X14 tyX14 tyX14_ok nmX14 hown hR.K hR.P hR.D hR.sS 0 (hR.at14 hR.w.1) rfl 57 (by decide) (hts _ kx_418) (fun _ h9 => h9) rfl (by decide +kernel) rfl rfl (Nat.le_of_ble_eq_true rfl) dX14_findHeights_37 (fun H locs hP hD hS => ?_)
        have hR : Rep g ad A s (wI S3 0 57 1) H locs := hR.pI hR.w.1 F14_s57 hP hD hS
        obtain ⟨S4, eS4⟩ : ∃ z, z = wI S3 0 57 1 := ⟨_, rfl⟩
        rw [← eS4] at hR
        replace h := h S4 eS4
        have hsh : shy S S4 := by rw [eS4]; exact hsh
        have J_40 : ∀ (n40 : Nat) (U40 : MS) (v40_1 : Int32) (H : Heap) (locs : List Loc) (ls : Array Slot), w_findHeights_L40 Q n40 U40 v40_1 → shy S U40 → Rep g ad A s U40 H locs → lv_has ls 4 [(0, .ref (ad 0)), (1, .int v40_1)] → W p l e (headSpec (wt2 yX14_findHeights cX14_findHeights 4 none) ({ frames := 7, cells := 0, slots := 0, locals := 155 })).room s m ([.ref (ad 0), .int x1] : List Value).toArray below meth c H locs 0 0 (MQ below (va_Qv (fun (u : MS) => Q u ∧ wfM u ∧ shy S u) (fun (u : MS) (t : State) => qE g ad A u t) A) ([.ref (ad 0), .int x1] : List Value).toArray s 0 0 A) (F0 m 40 ls []) := by
          intro n40
          induction n40 with
          | zero => intro U40 v40_1 H locs ls h hsh hR hl; unfold w_findHeights_L40 at h; exact h.elim
          | succ n40 ih_40 =>
            intro U40 v40_1 H locs ls h hsh hR hl
            unfold w_findHeights_L40 at h
            refine lv_aload_n hx hb dX14_findHeights_40 rfl (lv_at hl 0 rfl) ?_
            refine va_get (D := rD g) (ci := 13) (v := .int (qI U40 0 57)) (C := RX14) (T := TX14) (N := 143) hx hb hts in2X14 hown hR.K hR.P 0 (hR.at14 hR.w.1) rfl 57 (by decide) (hts _ kx_418) (fun _ h9 => h9) rfl dX14_findHeights_41 ?_
            refine lv_if_eq (tgt := 113) hx hb dX14_findHeights_44 (by decide) (fun c5 => ?_) (fun c5 => ?_)
            · replace h := h.1 (k_eq rfl (by decide) c5)
              exact W.vret hx hb hr (fun t9 ht9 hW9 => ⟨⟨U40, rfl, ⟨h, hR.w, hsh⟩, ⟨by rw [ht9]; exact hR.P, hR.D⟩⟩, hR.sS.F ht9⟩) hR.sS.2.2 dX14_findHeights_113
            · replace h := h.2 (k_ne rfl (by decide) c5)
              refine lv_aload_n hx hb dX14_findHeights_47 rfl (lv_at hl 0 rfl) ?_
              refine lv_iconst (v := 0) hx hb dX14_findHeights_48 (by decide) ?_
              refine va_put (D := rD g) (ci := 13) (v := .int 0) (ty := .boolean) (C := RX14) (T := TX14) (N := 143) hx hb hts in2X14 tyX14 tyX14_ok nmX14 hown hR.K hR.P hR.D hR.sS 0 (hR.at14 hR.w.1) rfl 57 (by decide) (hts _ kx_418) (fun _ h9 => h9) rfl (by decide +kernel) rfl rfl (Nat.le_of_ble_eq_true rfl) dX14_findHeights_49 (fun H locs hP hD hS => ?_)
              have hR : Rep g ad A s (wI U40 0 57 0) H locs := hR.pI hR.w.1 F14_s57 hP hD hS
              obtain ⟨S6, eS6⟩ : ∃ z, z = wI U40 0 57 0 := ⟨_, rfl⟩
              rw [← eS6] at hR
              replace h := h S6 eS6
              have hsh : shy S S6 := by rw [eS6]; exact hsh
              refine lv_iconst (v := 0) hx hb dX14_findHeights_52 (by decide) ?_
              refine lv_istore_n (lv' := [(2, .int 0), (0, .ref (ad 0)), (1, .int v40_1)]) hx hb dX14_findHeights_53 rfl hl (by decide) rfl (fun ls hl => ?_)
              have J_54 : ∀ (n54 : Nat) (U54 : MS) (v54_1 : Int32) (v54_2 : Int32) (H : Heap) (locs : List Loc) (ls : Array Slot), w_findHeights_L54 Q (w_findHeights_L40 Q n40) n54 U54 v54_1 v54_2 → shy S U54 → Rep g ad A s U54 H locs → lv_has ls 4 [(0, .ref (ad 0)), (1, .int v54_1), (2, .int v54_2)] → W p l e (headSpec (wt2 yX14_findHeights cX14_findHeights 4 none) ({ frames := 7, cells := 0, slots := 0, locals := 155 })).room s m ([.ref (ad 0), .int x1] : List Value).toArray below meth c H locs 0 0 (MQ below (va_Qv (fun (u : MS) => Q u ∧ wfM u ∧ shy S u) (fun (u : MS) (t : State) => qE g ad A u t) A) ([.ref (ad 0), .int x1] : List Value).toArray s 0 0 A) (F0 m 54 ls []) := by
                intro n54
                induction n54 with
                | zero => intro U54 v54_1 v54_2 H locs ls h hsh hR hl; unfold w_findHeights_L54 at h; exact h.elim
                | succ n54 ih_54 =>
                  intro U54 v54_1 v54_2 H locs ls h hsh hR hl
                  unfold w_findHeights_L54 at h
                  refine lv_iload_n hx hb dX14_findHeights_54 rfl (lv_at hl 2 rfl) ?_
                  refine lv_aload_n hx hb dX14_findHeights_55 rfl (lv_at hl 0 rfl) ?_
                  refine va_get (D := rD g) (ci := 13) (v := .int (qI U54 0 52)) (C := RX14) (T := TX14) (N := 143) hx hb hts in2X14 hown hR.K hR.P 0 (hR.at14 hR.w.1) rfl 52 (by decide) (hts _ kx_370) (fun _ h9 => h9) rfl dX14_findHeights_56 ?_
                  refine lv_icmp_ge (tgt := 110) hx hb dX14_findHeights_59 (by decide) (fun c7 => ?_) (fun c7 => ?_)
                  · replace h := h.1 (k_le rfl rfl c7)
                    refine lv_goto (tgt := 40) hx hb dX14_findHeights_110 (by decide) ?_
                    exact ih_40 U54 v54_1 _ _ ls h  hsh hR (lv_sub hl [0, 1] rfl)
                  · replace h := h.2 (k_nle rfl rfl c7)
                    refine lv_iconst (v := 0) hx hb dX14_findHeights_62 (by decide) ?_
                    refine lv_istore_n (lv' := [(3, .int 0), (0, .ref (ad 0)), (1, .int v54_1), (2, .int v54_2)]) hx hb dX14_findHeights_63 rfl hl (by decide) rfl (fun ls hl => ?_)
                    have J_64 : ∀ (n64 : Nat) (U64 : MS) (v64_1 : Int32) (v64_2 : Int32) (v64_3 : Int32) (H : Heap) (locs : List Loc) (ls : Array Slot), w_findHeights_L64 Q (w_findHeights_L54 Q (w_findHeights_L40 Q n40) n54) n64 U64 v64_1 v64_2 v64_3 → shy S U64 → Rep g ad A s U64 H locs → lv_has ls 4 [(0, .ref (ad 0)), (1, .int v64_1), (2, .int v64_2), (3, .int v64_3)] → W p l e (headSpec (wt2 yX14_findHeights cX14_findHeights 4 none) ({ frames := 7, cells := 0, slots := 0, locals := 155 })).room s m ([.ref (ad 0), .int x1] : List Value).toArray below meth c H locs 0 0 (MQ below (va_Qv (fun (u : MS) => Q u ∧ wfM u ∧ shy S u) (fun (u : MS) (t : State) => qE g ad A u t) A) ([.ref (ad 0), .int x1] : List Value).toArray s 0 0 A) (F0 m 64 ls []) := by
                      intro n64
                      induction n64 with
                      | zero => intro U64 v64_1 v64_2 v64_3 H locs ls h hsh hR hl; unfold w_findHeights_L64 at h; exact h.elim
                      | succ n64 ih_64 =>
                        intro U64 v64_1 v64_2 v64_3 H locs ls h hsh hR hl
                        unfold w_findHeights_L64 at h
                        refine lv_iload_n hx hb dX14_findHeights_64 rfl (lv_at hl 3 rfl) ?_
                        refine lv_iload_n hx hb dX14_findHeights_65 rfl (lv_at hl 1 rfl) ?_
                        refine lv_icmp_gt (tgt := 104) hx hb dX14_findHeights_66 (by decide) (fun c8 => ?_) (fun c8 => ?_)
                        · replace h := h.1 (k_lt rfl rfl c8)
                          obtain ⟨a9, ea9⟩ : ∃ z, z = (v64_2 + Int32.ofInt 1) := ⟨_, rfl⟩
                          replace h := h a9 ea9
                          refine lv_iinc (v := a9) (lv' := [(2, .int a9), (0, .ref (ad 0)), (1, .int v64_1), (3, .int v64_3)]) hx hb dX14_findHeights_104 hl (k := 2) rfl ea9.symm (by decide) rfl (fun ls hl => ?_)
                          refine lv_goto (tgt := 54) hx hb dX14_findHeights_107 (by decide) ?_
                          exact ih_54 U64 v64_1 a9 _ _ ls h  hsh hR (lv_sub hl [1, 2, 0] rfl)
                        · replace h := h.2 (k_nlt rfl rfl c8)
                          refine lv_aload_n hx hb dX14_findHeights_69 rfl (lv_at hl 0 rfl) ?_
                          refine va_get (D := rD g) (ci := 13) (v := .ref (ad 22)) (C := RX14) (T := TX14) (N := 143) hx hb hts in2X14 hown hR.K hR.P 0 (hR.at14 hR.w.1) rfl 55 (by decide) (hts _ kx_417) (fun _ h9 => h9) (congrArg (fun z => some (vf ad z)) (hR.w.2.1 _ fin_55).1) dX14_findHeights_70 ?_
                          refine lv_iload_n hx hb dX14_findHeights_73 rfl (lv_at hl 2 rfl) ?_
                          obtain ⟨hv10, h⟩ := h
                          refine va_iald hx hb hR.K hR.P 22 1 (hR.atI (hR.w.2.1 _ fin_55).2.1) rfl (k_ixN (k_ix (n := 9600) (x := v64_2) (a := v64_2.toInt) rfl hv10) (hR.w.2.1 _ fin_55).2.2) dX14_findHeights_74 ?_
                          refine lv_topi (fun z11 ez11 => ?_)
                          obtain rfl : z11 = (qI U64 22 v64_2.toInt.toNat) := ez11
                          refine lv_iload_n hx hb dX14_findHeights_75 rfl (lv_at hl 3 rfl) ?_
                          refine lv_ishr hx hb dX14_findHeights_76 ?_
                          refine lv_topi (fun z12 ez12 => ?_)
                          obtain rfl : z12 = ((qI U64 22 v64_2.toInt.toNat) >>> (v64_3 &&& 31)) := ez12
                          refine lv_iconst (v := 1) hx hb dX14_findHeights_77 (by decide) ?_
                          refine lv_iand hx hb dX14_findHeights_78 ?_
                          refine lv_topi (fun z13 ez13 => ?_)
                          obtain rfl : z13 = (((qI U64 22 v64_2.toInt.toNat) >>> (v64_3 &&& 31)) &&& (1 : Int32)) := ez13
                          refine lv_iconst (v := 1) hx hb dX14_findHeights_79 (by decide) ?_
                          have J_98 : ∀ (U98 : MS) (v98_1 : Int32) (v98_2 : Int32) (v98_3 : Int32) (H : Heap) (locs : List Loc) (ls : Array Slot), w_findHeights_J98 Q (w_findHeights_L64 Q (w_findHeights_L54 Q (w_findHeights_L40 Q n40) n54) n64) U98 v98_1 v98_2 v98_3 → shy S U98 → Rep g ad A s U98 H locs → lv_has ls 4 [(0, .ref (ad 0)), (1, .int v98_1), (2, .int v98_2), (3, .int v98_3)] → W p l e (headSpec (wt2 yX14_findHeights cX14_findHeights 4 none) ({ frames := 7, cells := 0, slots := 0, locals := 155 })).room s m ([.ref (ad 0), .int x1] : List Value).toArray below meth c H locs 0 0 (MQ below (va_Qv (fun (u : MS) => Q u ∧ wfM u ∧ shy S u) (fun (u : MS) (t : State) => qE g ad A u t) A) ([.ref (ad 0), .int x1] : List Value).toArray s 0 0 A) (F0 m 98 ls []) := by
                            intro U98 v98_1 v98_2 v98_3 H locs ls h hsh hR hl
                            unfold w_findHeights_J98 at h
                            obtain ⟨a14, ea14⟩ : ∃ z, z = (v98_3 + Int32.ofInt 1) := ⟨_, rfl⟩
                            replace h := h a14 ea14
                            refine lv_iinc (v := a14) (lv' := [(3, .int a14), (0, .ref (ad 0)), (1, .int v98_1), (2, .int v98_2)]) hx hb dX14_findHeights_98 hl (k := 3) rfl ea14.symm (by decide) rfl (fun ls hl => ?_)
                            refine lv_goto (tgt := 64) hx hb dX14_findHeights_101 (by decide) ?_
                            exact ih_64 U98 v98_1 v98_2 a14 _ _ ls h  hsh hR (lv_sub hl [1, 2, 3, 0] rfl)
                          refine lv_icmp_ne (tgt := 98) hx hb dX14_findHeights_80 (by decide) (fun c15 => ?_) (fun c15 => ?_)
                          · replace h := h.2 (k_ne rfl (by decide) c15)
                            exact J_98 U64 v64_1 v64_2 v64_3 _ _ ls h  hsh hR (lv_sub hl [0, 1, 2, 3] rfl)
                          · replace h := h.1 (k_eq rfl (by decide) c15)
                            refine lv_aload_n hx hb dX14_findHeights_83 rfl (lv_at hl 0 rfl) ?_
                            refine lv_iload_n hx hb dX14_findHeights_84 rfl (lv_at hl 2 rfl) ?_
                            refine lv_iload_n hx hb dX14_findHeights_85 rfl (lv_at hl 3 rfl) ?_
                            obtain ⟨Q16, h0, h⟩ := h
                            have hFc := rfree hR hA
                            refine va_calli (va_runV (As := [.int v64_2, .int v64_3]) (rest := []) ⟨hx, hb, hml, hown, hts⟩ (r_isRightHeight l g ad H.size U64 v64_2 v64_3 hR.w  Q16 h0) (cwV 2 hts (gd2_V kx_447 kx_448 kx_449 kx_177 kx_450) rfl rfl rfl (by decide +kernel) ⟨Nat.le_of_ble_eq_true rfl, Nat.le_of_ble_eq_true rfl⟩) ⟨rblind, va_recv hR.K hR.P (ci := 13) (q0 := 0) rfl (hR.at14 hR.w.1), fun U hU hW9 => rmk hU hW9 hR hex hE hFc⟩ rfl rfl hl.1 rfl (lv_room (Nat.le_of_ble_eq_true rfl)) dX14_findHeights_86 ⟨Nat.le_of_ble_eq_true rfl, Nat.le_of_ble_eq_true rfl⟩) hR.sS (fun q _ h => hFc q h) hFc (fun r17 S18 t9 H1 locs ht9 hvm9 hw9 hB9 hz9 hk9 hS => ?_)
                            obtain ⟨hq19, hw9, hs9, hz_r17⟩ := hw9
                            have hR : Rep g ad A s S18 H1 locs := hR.call ht9 hB9 hw9 hS hFc
                            have hsh := hsh.tr hs9
                            replace h := h r17 S18 hq19
                            clear hB9 hz9 hk9 hvm9 ht9 hw9 hs9 hS
                            generalize H1 = H at hR ⊢
                            refine lv_if_eq (tgt := 98) hx hb dX14_findHeights_89 (by decide) (fun c20 => ?_) (fun c20 => ?_)
                            · replace h := h.1 (k_eq rfl (by decide) c20)
                              exact J_98 S18 v64_1 v64_2 v64_3 _ _ ls h  hsh hR (lv_sub hl [0, 1, 2, 3] rfl)
                            · replace h := h.2 (k_ne rfl (by decide) c20)
                              refine lv_aload_n hx hb dX14_findHeights_92 rfl (lv_at hl 0 rfl) ?_
                              refine lv_iload_n hx hb dX14_findHeights_93 rfl (lv_at hl 2 rfl) ?_
                              refine lv_iload_n hx hb dX14_findHeights_94 rfl (lv_at hl 3 rfl) ?_
                              obtain ⟨Q21, h0, h⟩ := h
                              have hFc := rfree hR hA
                              refine va_callv (va_runV (As := [.int v64_2, .int v64_3]) (rest := []) ⟨hx, hb, hml, hown, hts⟩ (r_spread l g ad H.size S18 v64_2 v64_3 hR.w  Q21 h0) (cwV 2 hts (gd2_V kx_451 kx_452 kx_453 kx_177 kx_454) rfl rfl rfl (by decide +kernel) ⟨Nat.le_of_ble_eq_true rfl, Nat.le_of_ble_eq_true rfl⟩) ⟨rblind, va_recv hR.K hR.P (ci := 13) (q0 := 0) rfl (hR.at14 hR.w.1), fun U hU hW9 => rmk hU hW9 hR hex hE hFc⟩ rfl rfl hl.1 rfl (lv_room (Nat.le_of_ble_eq_true rfl)) dX14_findHeights_95 ⟨Nat.le_of_ble_eq_true rfl, Nat.le_of_ble_eq_true rfl⟩) hR.sS (fun q _ h => hFc q h) hFc (fun  S22 t9 H1 locs ht9 hvm9 hw9 hB9 hz9 hk9 hS => ?_)
                              obtain ⟨hq23, hw9, hs9⟩ := hw9
                              have hR : Rep g ad A s S22 H1 locs := hR.call ht9 hB9 hw9 hS hFc
                              have hsh := hsh.tr hs9
                              replace h := h  S22 hq23
                              clear hB9 hz9 hk9 hvm9 ht9 hw9 hs9 hS
                              generalize H1 = H at hR ⊢
                              exact J_98 S22 v64_1 v64_2 v64_3 _ _ ls h  hsh hR (lv_sub hl [0, 1, 2, 3] rfl)
                    obtain ⟨n9, h⟩ := h
                    exact J_64 n9 U54 v54_1 v54_2 0 _ _ ls h  hsh hR (lv_sub hl [1, 2, 3, 0] rfl)
              obtain ⟨n9, h⟩ := h
              exact J_54 n9 S6 v40_1 0 _ _ ls h  hsh hR (lv_sub hl [1, 2, 0] rfl)
        obtain ⟨n9, h⟩ := h
        exact J_40 n9 S4 v7_1 _ _ ls h  hsh hR (lv_sub hl [0, 1] rfl)
      · replace h := h.2 (k_nle rfl rfl c2)
        refine lv_aload_n hx hb dX14_findHeights_15 rfl (lv_at hl 0 rfl) ?_
        refine va_get (D := rD g) (ci := 13) (v := .ref (ad 22)) (C := RX14) (T := TX14) (N := 143) hx hb hts in2X14 hown hR.K hR.P 0 (hR.at14 hR.w.1) rfl 55 (by decide) (hts _ kx_417) (fun _ h9 => h9) (congrArg (fun z => some (vf ad z)) (hR.w.2.1 _ fin_55).1) dX14_findHeights_16 ?_
        refine lv_iload_n hx hb dX14_findHeights_19 rfl (lv_at hl 2 rfl) ?_
        refine lv_iconst (v := 0) hx hb dX14_findHeights_20 (by decide) ?_
        obtain ⟨hv24, h⟩ := h
        refine va_iast hx hb hR.K hR.P hR.D hR.sS 22 1 (hR.atI (hR.w.2.1 _ fin_55).2.1) rfl (k_ixN (k_ix (n := 9600) (x := v7_2) (a := v7_2.toInt) rfl hv24) (hR.w.2.1 _ fin_55).2.2) dX14_findHeights_21 (fun H locs hP hD hS => ?_)
        have hR : Rep g ad A s (wI U7 22 v7_2.toInt.toNat (0 : Int32)) H locs := hR.aI (hR.w.2.1 _ fin_55).2.1 hP hD hS
        obtain ⟨S25, eS25⟩ : ∃ z, z = wI U7 22 v7_2.toInt.toNat (0 : Int32) := ⟨_, rfl⟩
        rw [← eS25] at hR
        replace h := h S25 eS25
        have hsh : shy S S25 := by rw [eS25]; exact hsh
        obtain ⟨a26, ea26⟩ : ∃ z, z = (v7_2 + Int32.ofInt 1) := ⟨_, rfl⟩
        replace h := h a26 ea26
        refine lv_iinc (v := a26) (lv' := [(2, .int a26), (0, .ref (ad 0)), (1, .int v7_1)]) hx hb dX14_findHeights_22 hl (k := 2) rfl ea26.symm (by decide) rfl (fun ls hl => ?_)
        refine lv_goto (tgt := 7) hx hb dX14_findHeights_25 (by decide) ?_
        exact ih_7 S25 v7_1 a26 _ _ ls h  hsh hR (lv_sub hl [1, 2, 0] rfl)
  obtain ⟨n9, h⟩ := h
  exact J_7 n9 S1 x1 0 _ _ ls h  hsh hR (lv_sub hl [1, 2, 0] rfl)
def w_heightAt_L31 (Q : Int32 → MS → Prop) : Nat → MS → Int32 → Int32 → Prop
  | 0, _, _, _ => False
  | n31 + 1, U31, v31_1, v31_2 => (((0 : Int) ≤ v31_1.toInt ∧ v31_1.toInt < 9600) ∧ (((((qI U31 22 v31_1.toInt.toNat) >>> (v31_2 &&& 31)) &&& (1 : Int32)).toInt = 0 → (∀ a16 : Int32, a16 = (v31_2 + Int32.ofInt 1) → (w_heightAt_L31 Q n31) U31 v31_1 a16)) ∧ (¬ (((qI U31 22 v31_1.toInt.toNat) >>> (v31_2 &&& 31)) &&& (1 : Int32)).toInt = 0 → Q v31_2 U31)))
def w_heightAt (S : MS) (x1 : Int32) (Q : Int32 → MS → Prop) : Prop := (((0 : Int) ≤ x1.toInt ∧ x1.toInt < 9600) ∧ (((qI S 22 x1.toInt.toNat).toInt = 0 → Q (-1 : Int32) S) ∧ (¬ (qI S 22 x1.toInt.toNat).toInt = 0 → (((0 : Int) ≤ x1.toInt ∧ x1.toInt < 9600) ∧ (((0 : Int) ≤ x1.toInt ∧ x1.toInt < 9600) ∧ ((((qI S 22 x1.toInt.toNat) &&& ((qI S 22 x1.toInt.toNat) - (1 : Int32))).toInt = 0 → (∃ n, w_heightAt_L31 Q n S x1 0)) ∧ (¬ ((qI S 22 x1.toInt.toNat) &&& ((qI S 22 x1.toInt.toNat) - (1 : Int32))).toInt = 0 → Q (-1 : Int32) S)))))))
set_option maxHeartbeats 2000000 in
set_option maxRecDepth 100000 in
theorem r_heightAt (l : Launch) (g : Gr) (ad : Nat → Nat) (sz : Nat) (S : MS) (x1 : Int32) (hw : wfM S) (Q : Int32 → MS → Prop) (h : w_heightAt S x1 Q) : Met l yX14_heightAt (wt2 yX14_heightAt cX14_heightAt 3 (some .int)) ({ frames := 0, cells := 0, slots := 0, locals := 0 }) (va_Pc [.ref (ad 0), .int x1] (st_R g ad sz S)) (va_Qi (fun (r : Int32) (u : MS) => Q r u ∧ wfM u ∧ shy S u) (fun (u : MS) (t : State) => qE g ad (va_A (Wd g ad S) sz) u t) (va_A (Wd g ad S) sz)) 0 0 (va_A (Wd g ad S) sz) := by
  refine Met.ofW (cc := cX14_heightAt) (maxL := 3) (ret := (some .int)) (by decide) rfl ?_
  intro p e s m args below meth c s₁ B hml hv
  obtain ⟨rfl, hsz, hP, hK, hD0, hex, hE⟩ := hv
  have hx := B.exec
  have hb := B.bytes
  have hr := B.returns
  have hts0 := atoms_spec (ws := wt2 yX14_heightAt cX14_heightAt 3 (some .int)) B.pre
  have hts : ∀ w ∈ tb2, w.before _ s = true := fun w h => hts0 w (List.mem_cons_of_mem _ h)
  have hown : s.vm.findClass RX14 = some m.cls := findClass_of_methodNamed B.named
  subst hsz
  have hD := hD0.self (sz := s.heap.size)
  generalize hAe : va_A (Wd g ad S) s.heap.size = A at hD hE ⊢
  have hA : ∀ q : Nat, s.heap.size ≤ q → A q := fun q h => by rw [← hAe]; exact Or.inr h
  have hR : Rep g ad A s S s.heap [] := ⟨hK, hP, hD, va_S.rf, hw⟩
  clear hK hP hD hD0
  have hl := lv_entry ([.ref (ad 0), .int x1]) (n := 3) (Nat.le_of_ble_eq_true rfl)
  rw [lg_entry_eq]
  generalize (lg_sl ([.ref (ad 0), .int x1]) ++ List.replicate (3 - (lg_sl ([.ref (ad 0), .int x1])).length) Slot.unset).toArray = ls at hl ⊢
  have hl : lv_has ls 3 [(0, .ref (ad 0)), (1, .int x1)] := hl
  have hsh : shy S S := shy.rf
  unfold w_heightAt at h
  refine lv_aload_n hx hb dX14_heightAt_0 rfl (lv_at hl 0 rfl) ?_
  refine va_get (D := rD g) (ci := 13) (v := .ref (ad 22)) (C := RX14) (T := TX14) (N := 143) hx hb hts in2X14 hown hR.K hR.P 0 (hR.at14 hR.w.1) rfl 55 (by decide) (hts _ kx_417) (fun _ h9 => h9) (congrArg (fun z => some (vf ad z)) (hR.w.2.1 _ fin_55).1) dX14_heightAt_1 ?_
  refine lv_iload_n hx hb dX14_heightAt_4 rfl (lv_at hl 1 rfl) ?_
  obtain ⟨hv1, h⟩ := h
  refine va_iald hx hb hR.K hR.P 22 1 (hR.atI (hR.w.2.1 _ fin_55).2.1) rfl (k_ixN (k_ix (n := 9600) (x := x1) (a := x1.toInt) rfl hv1) (hR.w.2.1 _ fin_55).2.2) dX14_heightAt_5 ?_
  refine lv_topi (fun z2 ez2 => ?_)
  obtain rfl : z2 = (qI S 22 x1.toInt.toNat) := ez2
  refine lv_if_eq (tgt := 27) hx hb dX14_heightAt_6 (by decide) (fun c3 => ?_) (fun c3 => ?_)
  · replace h := h.1 (k_eq rfl (by decide) c3)
    refine lv_iconst (v := (-1)) hx hb dX14_heightAt_27 (by decide) ?_
    exact W.iret (v := (-1)) hx hb hr (fun t9 ht9 hW9 => ⟨⟨_, S, rfl, ⟨h, hR.w, hsh⟩, ⟨by rw [ht9]; exact hR.P, hR.D⟩⟩, hR.sS.F ht9⟩) hR.sS.2.2 dX14_heightAt_28
  · replace h := h.2 (k_ne rfl (by decide) c3)
    refine lv_aload_n hx hb dX14_heightAt_9 rfl (lv_at hl 0 rfl) ?_
    refine va_get (D := rD g) (ci := 13) (v := .ref (ad 22)) (C := RX14) (T := TX14) (N := 143) hx hb hts in2X14 hown hR.K hR.P 0 (hR.at14 hR.w.1) rfl 55 (by decide) (hts _ kx_417) (fun _ h9 => h9) (congrArg (fun z => some (vf ad z)) (hR.w.2.1 _ fin_55).1) dX14_heightAt_10 ?_
    refine lv_iload_n hx hb dX14_heightAt_13 rfl (lv_at hl 1 rfl) ?_
    obtain ⟨hv4, h⟩ := h
    refine va_iald hx hb hR.K hR.P 22 1 (hR.atI (hR.w.2.1 _ fin_55).2.1) rfl (k_ixN (k_ix (n := 9600) (x := x1) (a := x1.toInt) rfl hv4) (hR.w.2.1 _ fin_55).2.2) dX14_heightAt_14 ?_
    refine lv_topi (fun z5 ez5 => ?_)
    obtain rfl : z5 = (qI S 22 x1.toInt.toNat) := ez5
    refine lv_aload_n hx hb dX14_heightAt_15 rfl (lv_at hl 0 rfl) ?_
    refine va_get (D := rD g) (ci := 13) (v := .ref (ad 22)) (C := RX14) (T := TX14) (N := 143) hx hb hts in2X14 hown hR.K hR.P 0 (hR.at14 hR.w.1) rfl 55 (by decide) (hts _ kx_417) (fun _ h9 => h9) (congrArg (fun z => some (vf ad z)) (hR.w.2.1 _ fin_55).1) dX14_heightAt_16 ?_
    refine lv_iload_n hx hb dX14_heightAt_19 rfl (lv_at hl 1 rfl) ?_
    obtain ⟨hv6, h⟩ := h
    refine va_iald hx hb hR.K hR.P 22 1 (hR.atI (hR.w.2.1 _ fin_55).2.1) rfl (k_ixN (k_ix (n := 9600) (x := x1) (a := x1.toInt) rfl hv6) (hR.w.2.1 _ fin_55).2.2) dX14_heightAt_20 ?_
    refine lv_topi (fun z7 ez7 => ?_)
    obtain rfl : z7 = (qI S 22 x1.toInt.toNat) := ez7
    refine lv_iconst (v := 1) hx hb dX14_heightAt_21 (by decide) ?_
    refine lv_isub hx hb dX14_heightAt_22 ?_
    refine lv_topi (fun z8 ez8 => ?_)
    obtain rfl : z8 = ((qI S 22 x1.toInt.toNat) - (1 : Int32)) := ez8
    refine lv_iand hx hb dX14_heightAt_23 ?_
    refine lv_topi (fun z9 ez9 => ?_)
    obtain rfl : z9 = ((qI S 22 x1.toInt.toNat) &&& ((qI S 22 x1.toInt.toNat) - (1 : Int32))) := ez9
    refine lv_if_eq (tgt := 29) hx hb dX14_heightAt_24 (by decide) (fun c10 => ?_) (fun c10 => ?_)
    · replace h := h.1 (k_eq rfl (by decide) c10)
      refine lv_iconst (v := 0) hx hb dX14_heightAt_29 (by decide) ?_
      refine lv_istore_n (lv' := [(2, .int 0), (0, .ref (ad 0)), (1, .int x1)]) hx hb dX14_heightAt_30 rfl hl (by decide) rfl (fun ls hl => ?_)
      have J_31 : ∀ (n31 : Nat) (U31 : MS) (v31_1 : Int32) (v31_2 : Int32) (H : Heap) (locs : List Loc) (ls : Array Slot), w_heightAt_L31 Q n31 U31 v31_1 v31_2 → shy S U31 → Rep g ad A s U31 H locs → lv_has ls 3 [(0, .ref (ad 0)), (1, .int v31_1), (2, .int v31_2)] → W p l e (headSpec (wt2 yX14_heightAt cX14_heightAt 3 (some .int)) ({ frames := 0, cells := 0, slots := 0, locals := 0 })).room s m ([.ref (ad 0), .int x1] : List Value).toArray below meth c H locs 0 0 (MQ below (va_Qi (fun (r : Int32) (u : MS) => Q r u ∧ wfM u ∧ shy S u) (fun (u : MS) (t : State) => qE g ad A u t) A) ([.ref (ad 0), .int x1] : List Value).toArray s 0 0 A) (F0 m 31 ls []) := by
        intro n31
        induction n31 with
        | zero => intro U31 v31_1 v31_2 H locs ls h hsh hR hl; unfold w_heightAt_L31 at h; exact h.elim
        | succ n31 ih_31 =>
          intro U31 v31_1 v31_2 H locs ls h hsh hR hl
          unfold w_heightAt_L31 at h
          refine lv_aload_n hx hb dX14_heightAt_31 rfl (lv_at hl 0 rfl) ?_
          refine va_get (D := rD g) (ci := 13) (v := .ref (ad 22)) (C := RX14) (T := TX14) (N := 143) hx hb hts in2X14 hown hR.K hR.P 0 (hR.at14 hR.w.1) rfl 55 (by decide) (hts _ kx_417) (fun _ h9 => h9) (congrArg (fun z => some (vf ad z)) (hR.w.2.1 _ fin_55).1) dX14_heightAt_32 ?_
          refine lv_iload_n hx hb dX14_heightAt_35 rfl (lv_at hl 1 rfl) ?_
          obtain ⟨hv11, h⟩ := h
          refine va_iald hx hb hR.K hR.P 22 1 (hR.atI (hR.w.2.1 _ fin_55).2.1) rfl (k_ixN (k_ix (n := 9600) (x := v31_1) (a := v31_1.toInt) rfl hv11) (hR.w.2.1 _ fin_55).2.2) dX14_heightAt_36 ?_
          refine lv_topi (fun z12 ez12 => ?_)
          obtain rfl : z12 = (qI U31 22 v31_1.toInt.toNat) := ez12
          refine lv_iload_n hx hb dX14_heightAt_37 rfl (lv_at hl 2 rfl) ?_
          refine lv_ishr hx hb dX14_heightAt_38 ?_
          refine lv_topi (fun z13 ez13 => ?_)
          obtain rfl : z13 = ((qI U31 22 v31_1.toInt.toNat) >>> (v31_2 &&& 31)) := ez13
          refine lv_iconst (v := 1) hx hb dX14_heightAt_39 (by decide) ?_
          refine lv_iand hx hb dX14_heightAt_40 ?_
          refine lv_topi (fun z14 ez14 => ?_)
          obtain rfl : z14 = (((qI U31 22 v31_1.toInt.toNat) >>> (v31_2 &&& 31)) &&& (1 : Int32)) := ez14
          refine lv_if_ne (tgt := 50) hx hb dX14_heightAt_41 (by decide) (fun c15 => ?_) (fun c15 => ?_)
          · replace h := h.2 (k_ne rfl (by decide) c15)
            refine lv_iload_n hx hb dX14_heightAt_50 rfl (lv_at hl 2 rfl) ?_
            exact W.iret (v := v31_2) hx hb hr (fun t9 ht9 hW9 => ⟨⟨_, U31, rfl, ⟨h, hR.w, hsh⟩, ⟨by rw [ht9]; exact hR.P, hR.D⟩⟩, hR.sS.F ht9⟩) hR.sS.2.2 dX14_heightAt_51
          · replace h := h.1 (k_eq rfl (by decide) c15)
            obtain ⟨a16, ea16⟩ : ∃ z, z = (v31_2 + Int32.ofInt 1) := ⟨_, rfl⟩
            replace h := h a16 ea16
            refine lv_iinc (v := a16) (lv' := [(2, .int a16), (0, .ref (ad 0)), (1, .int v31_1)]) hx hb dX14_heightAt_44 hl (k := 2) rfl ea16.symm (by decide) rfl (fun ls hl => ?_)
            refine lv_goto (tgt := 31) hx hb dX14_heightAt_47 (by decide) ?_
            exact ih_31 U31 v31_1 a16 _ _ ls h  hsh hR (lv_sub hl [1, 2, 0] rfl)
      obtain ⟨n9, h⟩ := h
      exact J_31 n9 S x1 0 _ _ ls h  hsh hR (lv_sub hl [1, 2, 0] rfl)
    · replace h := h.2 (k_ne rfl (by decide) c10)
      refine lv_iconst (v := (-1)) hx hb dX14_heightAt_27 (by decide) ?_
      exact W.iret (v := (-1)) hx hb hr (fun t9 ht9 hW9 => ⟨⟨_, S, rfl, ⟨h, hR.w, hsh⟩, ⟨by rw [ht9]; exact hR.P, hR.D⟩⟩, hR.sS.F ht9⟩) hR.sS.2.2 dX14_heightAt_28
def w_isHeightFault_J34 (Q : Int32 → MS → Prop) (U34 : MS) : Prop := Q (0 : Int32) U34
def w_isHeightFault_J30 (Q : Int32 → MS → Prop) (U30 : MS) : Prop := Q (1 : Int32) U30
def w_isHeightFault (S : MS) (x1 : Int32) (Q : Int32 → MS → Prop) : Prop := (((0 : Int) ≤ x1.toInt ∧ x1.toInt < 9600) ∧ (((qI S 22 x1.toInt.toNat).toInt = 0 → w_isHeightFault_J34 Q S) ∧ (¬ (qI S 22 x1.toInt.toNat).toInt = 0 → (∃ Q4, w_heightAt S x1 Q4 ∧ ∀ r5 S6, Q4 r5 S6 → ((r5.toInt < 0 → w_isHeightFault_J30 Q S6) ∧ (¬ r5.toInt < 0 → (∃ Q9, w_heightAt S6 x1 Q9 ∧ ∀ r10 S11, Q9 r10 S11 → (∃ Q13, w_isRightHeight S11 x1 r10 Q13 ∧ ∀ r14 S15, Q13 r14 S15 → ((r14.toInt = 0 → w_isHeightFault_J30 Q S15) ∧ (¬ r14.toInt = 0 → w_isHeightFault_J34 Q S15))))))))))
set_option maxHeartbeats 2000000 in
set_option maxRecDepth 100000 in
theorem r_isHeightFault (l : Launch) (g : Gr) (ad : Nat → Nat) (sz : Nat) (S : MS) (x1 : Int32) (hw : wfM S) (Q : Int32 → MS → Prop) (h : w_isHeightFault S x1 Q) : Met l yX14_isHeightFault (wt2 yX14_isHeightFault cX14_isHeightFault 2 (some .boolean)) ({ frames := 7, cells := 0, slots := 0, locals := 154 }) (va_Pc [.ref (ad 0), .int x1] (st_R g ad sz S)) (va_Qi (fun (r : Int32) (u : MS) => Q r u ∧ wfM u ∧ shy S u ∧ (r = 0 ∨ r = 1)) (fun (u : MS) (t : State) => qE g ad (va_A (Wd g ad S) sz) u t) (va_A (Wd g ad S) sz)) 0 0 (va_A (Wd g ad S) sz) := by
  refine Met.ofW (cc := cX14_isHeightFault) (maxL := 2) (ret := (some .boolean)) (by decide) rfl ?_
  intro p e s m args below meth c s₁ B hml hv
  obtain ⟨rfl, hsz, hP, hK, hD0, hex, hE⟩ := hv
  have hx := B.exec
  have hb := B.bytes
  have hr := B.returns
  have hts0 := atoms_spec (ws := wt2 yX14_isHeightFault cX14_isHeightFault 2 (some .boolean)) B.pre
  have hts : ∀ w ∈ tb2, w.before _ s = true := fun w h => hts0 w (List.mem_cons_of_mem _ h)
  have hown : s.vm.findClass RX14 = some m.cls := findClass_of_methodNamed B.named
  subst hsz
  have hD := hD0.self (sz := s.heap.size)
  generalize hAe : va_A (Wd g ad S) s.heap.size = A at hD hE ⊢
  have hA : ∀ q : Nat, s.heap.size ≤ q → A q := fun q h => by rw [← hAe]; exact Or.inr h
  have hR : Rep g ad A s S s.heap [] := ⟨hK, hP, hD, va_S.rf, hw⟩
  clear hK hP hD hD0
  have hl := lv_entry ([.ref (ad 0), .int x1]) (n := 2) (Nat.le_of_ble_eq_true rfl)
  rw [lg_entry_eq]
  generalize (lg_sl ([.ref (ad 0), .int x1]) ++ List.replicate (2 - (lg_sl ([.ref (ad 0), .int x1])).length) Slot.unset).toArray = ls at hl ⊢
  have hl : lv_has ls 2 [(0, .ref (ad 0)), (1, .int x1)] := hl
  have hsh : shy S S := shy.rf
  unfold w_isHeightFault at h
  refine lv_aload_n hx hb dX14_isHeightFault_0 rfl (lv_at hl 0 rfl) ?_
  refine va_get (D := rD g) (ci := 13) (v := .ref (ad 22)) (C := RX14) (T := TX14) (N := 143) hx hb hts in2X14 hown hR.K hR.P 0 (hR.at14 hR.w.1) rfl 55 (by decide) (hts _ kx_417) (fun _ h9 => h9) (congrArg (fun z => some (vf ad z)) (hR.w.2.1 _ fin_55).1) dX14_isHeightFault_1 ?_
  refine lv_iload_n hx hb dX14_isHeightFault_4 rfl (lv_at hl 1 rfl) ?_
  obtain ⟨hv1, h⟩ := h
  refine va_iald hx hb hR.K hR.P 22 1 (hR.atI (hR.w.2.1 _ fin_55).2.1) rfl (k_ixN (k_ix (n := 9600) (x := x1) (a := x1.toInt) rfl hv1) (hR.w.2.1 _ fin_55).2.2) dX14_isHeightFault_5 ?_
  refine lv_topi (fun z2 ez2 => ?_)
  obtain rfl : z2 = (qI S 22 x1.toInt.toNat) := ez2
  have J_34 : ∀ (U34 : MS) (H : Heap) (locs : List Loc) (ls : Array Slot), w_isHeightFault_J34 Q U34 → shy S U34 → Rep g ad A s U34 H locs → lv_has ls 2 [] → W p l e (headSpec (wt2 yX14_isHeightFault cX14_isHeightFault 2 (some .boolean)) ({ frames := 7, cells := 0, slots := 0, locals := 154 })).room s m ([.ref (ad 0), .int x1] : List Value).toArray below meth c H locs 0 0 (MQ below (va_Qi (fun (r : Int32) (u : MS) => Q r u ∧ wfM u ∧ shy S u ∧ (r = 0 ∨ r = 1)) (fun (u : MS) (t : State) => qE g ad A u t) A) ([.ref (ad 0), .int x1] : List Value).toArray s 0 0 A) (F0 m 34 ls []) := by
    intro U34 H locs ls h hsh hR hl
    unfold w_isHeightFault_J34 at h
    refine lv_iconst (v := 0) hx hb dX14_isHeightFault_34 (by decide) ?_
    exact W.zret (v := 0) hx hb hr (nz (Or.inl rfl)) (fun t9 ht9 hW9 => ⟨⟨_, U34, rfl, ⟨h, hR.w, hsh, (Or.inl rfl)⟩, ⟨by rw [ht9]; exact hR.P, hR.D⟩⟩, hR.sS.F ht9⟩) hR.sS.2.2 dX14_isHeightFault_35
  refine lv_if_eq (tgt := 34) hx hb dX14_isHeightFault_6 (by decide) (fun c3 => ?_) (fun c3 => ?_)
  · replace h := h.1 (k_eq rfl (by decide) c3)
    exact J_34 S _ _ ls h  hsh hR (lv_sub hl [] rfl)
  · replace h := h.2 (k_ne rfl (by decide) c3)
    refine lv_aload_n hx hb dX14_isHeightFault_9 rfl (lv_at hl 0 rfl) ?_
    refine lv_iload_n hx hb dX14_isHeightFault_10 rfl (lv_at hl 1 rfl) ?_
    obtain ⟨Q4, h0, h⟩ := h
    have hFc := rfree hR hA
    refine va_calli (va_runV (As := [.int x1]) (rest := []) ⟨hx, hb, hml, hown, hts⟩ (r_heightAt l g ad s.heap.size S x1 hR.w  Q4 h0) (cwV 1 hts (gd2_V kx_455 kx_456 kx_457 kx_177 kx_458) rfl rfl rfl (by decide +kernel) ⟨Nat.le_of_ble_eq_true rfl, Nat.le_of_ble_eq_true rfl⟩) ⟨rblind, va_recv hR.K hR.P (ci := 13) (q0 := 0) rfl (hR.at14 hR.w.1), fun U hU hW9 => rmk hU hW9 hR hex hE hFc⟩ rfl rfl hl.1 rfl (lv_room (Nat.le_of_ble_eq_true rfl)) dX14_isHeightFault_11 ⟨Nat.le_of_ble_eq_true rfl, Nat.le_of_ble_eq_true rfl⟩) hR.sS (fun q _ h => hFc q h) hFc (fun r5 S6 t9 H1 locs ht9 hvm9 hw9 hB9 hz9 hk9 hS => ?_)
    obtain ⟨hq7, hw9, hs9⟩ := hw9
    have hR : Rep g ad A s S6 H1 locs := hR.call ht9 hB9 hw9 hS hFc
    have hsh := hsh.tr hs9
    replace h := h r5 S6 hq7
    clear hB9 hz9 hk9 hvm9 ht9 hw9 hs9 hS
    generalize H1 = H at hR ⊢
    have J_30 : ∀ (U30 : MS) (H : Heap) (locs : List Loc) (ls : Array Slot), w_isHeightFault_J30 Q U30 → shy S U30 → Rep g ad A s U30 H locs → lv_has ls 2 [] → W p l e (headSpec (wt2 yX14_isHeightFault cX14_isHeightFault 2 (some .boolean)) ({ frames := 7, cells := 0, slots := 0, locals := 154 })).room s m ([.ref (ad 0), .int x1] : List Value).toArray below meth c H locs 0 0 (MQ below (va_Qi (fun (r : Int32) (u : MS) => Q r u ∧ wfM u ∧ shy S u ∧ (r = 0 ∨ r = 1)) (fun (u : MS) (t : State) => qE g ad A u t) A) ([.ref (ad 0), .int x1] : List Value).toArray s 0 0 A) (F0 m 30 ls []) := by
      intro U30 H locs ls h hsh hR hl
      unfold w_isHeightFault_J30 at h
      refine lv_iconst (v := 1) hx hb dX14_isHeightFault_30 (by decide) ?_
      refine lv_goto (tgt := 35) hx hb dX14_isHeightFault_31 (by decide) ?_
      exact W.zret (v := 1) hx hb hr (nz (Or.inr rfl)) (fun t9 ht9 hW9 => ⟨⟨_, U30, rfl, ⟨h, hR.w, hsh, (Or.inr rfl)⟩, ⟨by rw [ht9]; exact hR.P, hR.D⟩⟩, hR.sS.F ht9⟩) hR.sS.2.2 dX14_isHeightFault_35
    refine lv_if_lt (tgt := 30) hx hb dX14_isHeightFault_14 (by decide) (fun c8 => ?_) (fun c8 => ?_)
    · replace h := h.1 (k_lt rfl (by decide) c8)
      exact J_30 S6 _ _ ls h  hsh hR (lv_sub hl [] rfl)
    · replace h := h.2 (k_nlt rfl (by decide) c8)
      refine lv_aload_n hx hb dX14_isHeightFault_17 rfl (lv_at hl 0 rfl) ?_
      refine lv_iload_n hx hb dX14_isHeightFault_18 rfl (lv_at hl 1 rfl) ?_
      refine lv_aload_n hx hb dX14_isHeightFault_19 rfl (lv_at hl 0 rfl) ?_
      refine lv_iload_n hx hb dX14_isHeightFault_20 rfl (lv_at hl 1 rfl) ?_
      obtain ⟨Q9, h0, h⟩ := h
      have hFc := rfree hR hA
      refine va_calli (va_runV (As := [.int x1]) (rest := [.int x1, .ref (ad 0)]) ⟨hx, hb, hml, hown, hts⟩ (r_heightAt l g ad H.size S6 x1 hR.w  Q9 h0) (cwV 1 hts (gd2_V kx_455 kx_456 kx_457 kx_177 kx_458) rfl rfl rfl (by decide +kernel) ⟨Nat.le_of_ble_eq_true rfl, Nat.le_of_ble_eq_true rfl⟩) ⟨rblind, va_recv hR.K hR.P (ci := 13) (q0 := 0) rfl (hR.at14 hR.w.1), fun U hU hW9 => rmk hU hW9 hR hex hE hFc⟩ rfl rfl hl.1 rfl (lv_room (Nat.le_of_ble_eq_true rfl)) dX14_isHeightFault_21 ⟨Nat.le_of_ble_eq_true rfl, Nat.le_of_ble_eq_true rfl⟩) hR.sS (fun q _ h => hFc q h) hFc (fun r10 S11 t9 H1 locs ht9 hvm9 hw9 hB9 hz9 hk9 hS => ?_)
      obtain ⟨hq12, hw9, hs9⟩ := hw9
      have hR : Rep g ad A s S11 H1 locs := hR.call ht9 hB9 hw9 hS hFc
      have hsh := hsh.tr hs9
      replace h := h r10 S11 hq12
      clear hB9 hz9 hk9 hvm9 ht9 hw9 hs9 hS
      generalize H1 = H at hR ⊢
      obtain ⟨Q13, h0, h⟩ := h
      have hFc := rfree hR hA
      refine va_calli (va_runV (As := [.int x1, .int r10]) (rest := []) ⟨hx, hb, hml, hown, hts⟩ (r_isRightHeight l g ad H.size S11 x1 r10 hR.w  Q13 h0) (cwV 2 hts (gd2_V kx_447 kx_448 kx_449 kx_177 kx_450) rfl rfl rfl (by decide +kernel) ⟨Nat.le_of_ble_eq_true rfl, Nat.le_of_ble_eq_true rfl⟩) ⟨rblind, va_recv hR.K hR.P (ci := 13) (q0 := 0) rfl (hR.at14 hR.w.1), fun U hU hW9 => rmk hU hW9 hR hex hE hFc⟩ rfl rfl hl.1 rfl (lv_room (Nat.le_of_ble_eq_true rfl)) dX14_isHeightFault_24 ⟨Nat.le_of_ble_eq_true rfl, Nat.le_of_ble_eq_true rfl⟩) hR.sS (fun q _ h => hFc q h) hFc (fun r14 S15 t9 H1 locs ht9 hvm9 hw9 hB9 hz9 hk9 hS => ?_)
      obtain ⟨hq16, hw9, hs9, hz_r14⟩ := hw9
      have hR : Rep g ad A s S15 H1 locs := hR.call ht9 hB9 hw9 hS hFc
      have hsh := hsh.tr hs9
      replace h := h r14 S15 hq16
      clear hB9 hz9 hk9 hvm9 ht9 hw9 hs9 hS
      generalize H1 = H at hR ⊢
      refine lv_if_ne (tgt := 34) hx hb dX14_isHeightFault_27 (by decide) (fun c17 => ?_) (fun c17 => ?_)
      · replace h := h.2 (k_ne rfl (by decide) c17)
        exact J_34 S15 _ _ ls h  hsh hR (lv_sub hl [] rfl)
      · replace h := h.1 (k_eq rfl (by decide) c17)
        exact J_30 S15 _ _ ls h  hsh hR (lv_sub hl [] rfl)
def f_joined_J45 (S : MS) : Int32 := (0 : Int32)
def d_joined_J45 (S : MS) : Prop := True
def f_joined_J41 (S : MS) (v41_0 : Int32) : Int32 := v41_0
def d_joined_J41 (S : MS) (v41_0 : Int32) : Prop := True
def f_joined_J25 (S : MS) (v25_0 : Int32) (v25_1 : Int32) : Int32 := (if v25_1.toInt = 6 then (if v25_0.toInt = 4 then f_joined_J41 S v25_0 else (if v25_0.toInt = 5 then f_joined_J41 S v25_0 else f_joined_J45 S)) else f_joined_J45 S)
def d_joined_J25 (S : MS) (v25_0 : Int32) (v25_1 : Int32) : Prop := (if v25_1.toInt = 6 then (if v25_0.toInt = 4 then d_joined_J41 S v25_0 else (if v25_0.toInt = 5 then d_joined_J41 S v25_0 else d_joined_J45 S)) else d_joined_J45 S)
def f_joined (S : MS) (x0 : Int32) (x1 : Int32) : Int32 := (if x0.toInt = x1.toInt then x0 else (if x0.toInt = 6 then (if x1.toInt = 4 then x1 else (if x1.toInt = 5 then x1 else f_joined_J25 S x0 x1)) else f_joined_J25 S x0 x1))
def d_joined (S : MS) (x0 : Int32) (x1 : Int32) : Prop := (if x0.toInt = x1.toInt then True else (if x0.toInt = 6 then (if x1.toInt = 4 then True else (if x1.toInt = 5 then True else d_joined_J25 S x0 x1)) else d_joined_J25 S x0 x1))
set_option maxHeartbeats 2000000 in
set_option maxRecDepth 100000 in
theorem r_joined (l : Launch) (g : Gr) (ad : Nat → Nat) (sz : Nat) (S : MS) (x0 : Int32) (x1 : Int32) (hw : wfM S) (hd : d_joined S x0 x1) : Met l yX14_joined (wt2 yX14_joined cX14_joined 2 (some .int)) ({ frames := 0, cells := 0, slots := 0, locals := 0 }) (va_Pc [.int x0, .int x1] (st_R g ad sz S)) (va_Qi (fun (r : Int32) (_ : Unit) => r = f_joined S x0 x1) (fun (_ : Unit) (t : State) => qE g ad (va_A (Wd g ad S) sz) S t) (va_A (Wd g ad S) sz)) 0 0 (va_A (Wd g ad S) sz) := by
  refine Met.ofW (cc := cX14_joined) (maxL := 2) (ret := (some .int)) (by decide) rfl ?_
  intro p e s m args below meth c s₁ B hml hv
  obtain ⟨rfl, hsz, hP, hK, hD0, hex, hE⟩ := hv
  have hx := B.exec
  have hb := B.bytes
  have hr := B.returns
  have hts0 := atoms_spec (ws := wt2 yX14_joined cX14_joined 2 (some .int)) B.pre
  have hts : ∀ w ∈ tb2, w.before _ s = true := fun w h => hts0 w (List.mem_cons_of_mem _ h)
  have hown : s.vm.findClass RX14 = some m.cls := findClass_of_methodNamed B.named
  subst hsz
  have hD := hD0.self (sz := s.heap.size)
  generalize hAe : va_A (Wd g ad S) s.heap.size = A at hD hE ⊢
  have hA : ∀ q : Nat, s.heap.size ≤ q → A q := fun q h => by rw [← hAe]; exact Or.inr h
  have hR : Rep g ad A s S s.heap [] := ⟨hK, hP, hD, va_S.rf, hw⟩
  clear hK hP hD hD0
  have hl := lv_entry ([.int x0, .int x1]) (n := 2) (Nat.le_of_ble_eq_true rfl)
  rw [lg_entry_eq]
  generalize (lg_sl ([.int x0, .int x1]) ++ List.replicate (2 - (lg_sl ([.int x0, .int x1])).length) Slot.unset).toArray = ls at hl ⊢
  have hl : lv_has ls 2 [(0, .int x0), (1, .int x1)] := hl
  obtain ⟨r0, hf⟩ : ∃ r0, f_joined S x0 x1 = r0 := ⟨_, rfl⟩
  have hf0 := hf
  unfold f_joined at hf
  unfold d_joined at hd
  refine lv_iload_n hx hb dX14_joined_0 rfl (lv_at hl 0 rfl) ?_
  refine lv_iload_n hx hb dX14_joined_1 rfl (lv_at hl 1 rfl) ?_
  refine lv_icmp_ne (tgt := 7) hx hb dX14_joined_2 (by decide) (fun c1 => ?_) (fun c1 => ?_)
  · rw [if_neg (k_ne rfl rfl c1)] at hf
    (try rw [if_neg (k_ne rfl rfl c1)] at hd)
    refine lv_iload_n hx hb dX14_joined_7 rfl (lv_at hl 0 rfl) ?_
    refine lv_bipush (v := 6) hx hb dX14_joined_8 (by decide) ?_
    have J_25 : ∀ (v25_0 : Int32) (v25_1 : Int32) (H : Heap) (locs : List Loc) (ls : Array Slot), d_joined_J25 S v25_0 v25_1 → f_joined_J25 S v25_0 v25_1 = r0 → Rep g ad A s S H locs → lv_has ls 2 [(0, .int v25_0), (1, .int v25_1)] → W p l e (headSpec (wt2 yX14_joined cX14_joined 2 (some .int)) ({ frames := 0, cells := 0, slots := 0, locals := 0 })).room s m ([.int x0, .int x1] : List Value).toArray below meth c H locs 0 0 (MQ below (va_Qi (fun (r : Int32) (_ : Unit) => r = f_joined S x0 x1) (fun (_ : Unit) (t : State) => qE g ad A S t) A) ([.int x0, .int x1] : List Value).toArray s 0 0 A) (F0 m 25 ls []) := by
      intro v25_0 v25_1 H locs ls hd hf hR hl
      unfold d_joined_J25 at hd
      unfold f_joined_J25 at hf
      refine lv_iload_n hx hb dX14_joined_25 rfl (lv_at hl 1 rfl) ?_
      refine lv_bipush (v := 6) hx hb dX14_joined_26 (by decide) ?_
      have J_45 : ∀ (H : Heap) (locs : List Loc) (ls : Array Slot), d_joined_J45 S → f_joined_J45 S = r0 → Rep g ad A s S H locs → lv_has ls 2 [] → W p l e (headSpec (wt2 yX14_joined cX14_joined 2 (some .int)) ({ frames := 0, cells := 0, slots := 0, locals := 0 })).room s m ([.int x0, .int x1] : List Value).toArray below meth c H locs 0 0 (MQ below (va_Qi (fun (r : Int32) (_ : Unit) => r = f_joined S x0 x1) (fun (_ : Unit) (t : State) => qE g ad A S t) A) ([.int x0, .int x1] : List Value).toArray s 0 0 A) (F0 m 45 ls []) := by
        intro H locs ls hd hf hR hl
        unfold d_joined_J45 at hd
        unfold f_joined_J45 at hf
        refine lv_iconst (v := 0) hx hb dX14_joined_45 (by decide) ?_
        exact W.iret (v := 0) hx hb hr (fun t9 ht9 hW9 => ⟨⟨_, (), rfl, hf.trans hf0.symm, ⟨by rw [ht9]; exact hR.P, hR.D⟩⟩, hR.sS.F ht9⟩) hR.sS.2.2 dX14_joined_46
      refine lv_icmp_ne (tgt := 45) hx hb dX14_joined_28 (by decide) (fun c2 => ?_) (fun c2 => ?_)
      · rw [if_neg (k_ne rfl (by decide) c2)] at hf
        (try rw [if_neg (k_ne rfl (by decide) c2)] at hd)
        exact J_45 _ _ ls hd hf  hR (lv_sub hl [] rfl)
      · rw [if_pos (k_eq rfl (by decide) c2)] at hf
        (try rw [if_pos (k_eq rfl (by decide) c2)] at hd)
        refine lv_iload_n hx hb dX14_joined_31 rfl (lv_at hl 0 rfl) ?_
        refine lv_iconst (v := 4) hx hb dX14_joined_32 (by decide) ?_
        have J_41 : ∀ (v41_0 : Int32) (H : Heap) (locs : List Loc) (ls : Array Slot), d_joined_J41 S v41_0 → f_joined_J41 S v41_0 = r0 → Rep g ad A s S H locs → lv_has ls 2 [(0, .int v41_0)] → W p l e (headSpec (wt2 yX14_joined cX14_joined 2 (some .int)) ({ frames := 0, cells := 0, slots := 0, locals := 0 })).room s m ([.int x0, .int x1] : List Value).toArray below meth c H locs 0 0 (MQ below (va_Qi (fun (r : Int32) (_ : Unit) => r = f_joined S x0 x1) (fun (_ : Unit) (t : State) => qE g ad A S t) A) ([.int x0, .int x1] : List Value).toArray s 0 0 A) (F0 m 41 ls []) := by
          intro v41_0 H locs ls hd hf hR hl
          unfold d_joined_J41 at hd
          unfold f_joined_J41 at hf
          refine lv_iload_n hx hb dX14_joined_41 rfl (lv_at hl 0 rfl) ?_
          refine lv_goto (tgt := 46) hx hb dX14_joined_42 (by decide) ?_
          exact W.iret (v := v41_0) hx hb hr (fun t9 ht9 hW9 => ⟨⟨_, (), rfl, hf.trans hf0.symm, ⟨by rw [ht9]; exact hR.P, hR.D⟩⟩, hR.sS.F ht9⟩) hR.sS.2.2 dX14_joined_46
        refine lv_icmp_eq (tgt := 41) hx hb dX14_joined_33 (by decide) (fun c3 => ?_) (fun c3 => ?_)
        · rw [if_pos (k_eq rfl (by decide) c3)] at hf
          (try rw [if_pos (k_eq rfl (by decide) c3)] at hd)
          exact J_41 v25_0 _ _ ls hd hf  hR (lv_sub hl [0] rfl)
        · rw [if_neg (k_ne rfl (by decide) c3)] at hf
          (try rw [if_neg (k_ne rfl (by decide) c3)] at hd)
          refine lv_iload_n hx hb dX14_joined_36 rfl (lv_at hl 0 rfl) ?_
          refine lv_iconst (v := 5) hx hb dX14_joined_37 (by decide) ?_
          refine lv_icmp_ne (tgt := 45) hx hb dX14_joined_38 (by decide) (fun c4 => ?_) (fun c4 => ?_)
          · rw [if_neg (k_ne rfl (by decide) c4)] at hf
            (try rw [if_neg (k_ne rfl (by decide) c4)] at hd)
            exact J_45 _ _ ls hd hf  hR (lv_sub hl [] rfl)
          · rw [if_pos (k_eq rfl (by decide) c4)] at hf
            (try rw [if_pos (k_eq rfl (by decide) c4)] at hd)
            exact J_41 v25_0 _ _ ls hd hf  hR (lv_sub hl [0] rfl)
    refine lv_icmp_ne (tgt := 25) hx hb dX14_joined_10 (by decide) (fun c5 => ?_) (fun c5 => ?_)
    · rw [if_neg (k_ne rfl (by decide) c5)] at hf
      (try rw [if_neg (k_ne rfl (by decide) c5)] at hd)
      exact J_25 x0 x1 _ _ ls hd hf  hR (lv_sub hl [0, 1] rfl)
    · rw [if_pos (k_eq rfl (by decide) c5)] at hf
      (try rw [if_pos (k_eq rfl (by decide) c5)] at hd)
      refine lv_iload_n hx hb dX14_joined_13 rfl (lv_at hl 1 rfl) ?_
      refine lv_iconst (v := 4) hx hb dX14_joined_14 (by decide) ?_
      refine lv_icmp_eq (tgt := 23) hx hb dX14_joined_15 (by decide) (fun c6 => ?_) (fun c6 => ?_)
      · rw [if_pos (k_eq rfl (by decide) c6)] at hf
        (try rw [if_pos (k_eq rfl (by decide) c6)] at hd)
        refine lv_iload_n hx hb dX14_joined_23 rfl (lv_at hl 1 rfl) ?_
        exact W.iret (v := x1) hx hb hr (fun t9 ht9 hW9 => ⟨⟨_, (), rfl, hf.trans hf0.symm, ⟨by rw [ht9]; exact hR.P, hR.D⟩⟩, hR.sS.F ht9⟩) hR.sS.2.2 dX14_joined_24
      · rw [if_neg (k_ne rfl (by decide) c6)] at hf
        (try rw [if_neg (k_ne rfl (by decide) c6)] at hd)
        refine lv_iload_n hx hb dX14_joined_18 rfl (lv_at hl 1 rfl) ?_
        refine lv_iconst (v := 5) hx hb dX14_joined_19 (by decide) ?_
        refine lv_icmp_ne (tgt := 25) hx hb dX14_joined_20 (by decide) (fun c7 => ?_) (fun c7 => ?_)
        · rw [if_neg (k_ne rfl (by decide) c7)] at hf
          (try rw [if_neg (k_ne rfl (by decide) c7)] at hd)
          exact J_25 x0 x1 _ _ ls hd hf  hR (lv_sub hl [0, 1] rfl)
        · rw [if_pos (k_eq rfl (by decide) c7)] at hf
          (try rw [if_pos (k_eq rfl (by decide) c7)] at hd)
          refine lv_iload_n hx hb dX14_joined_23 rfl (lv_at hl 1 rfl) ?_
          exact W.iret (v := x1) hx hb hr (fun t9 ht9 hW9 => ⟨⟨_, (), rfl, hf.trans hf0.symm, ⟨by rw [ht9]; exact hR.P, hR.D⟩⟩, hR.sS.F ht9⟩) hR.sS.2.2 dX14_joined_24
  · rw [if_pos (k_eq rfl rfl c1)] at hf
    (try rw [if_pos (k_eq rfl rfl c1)] at hd)
    refine lv_iload_n hx hb dX14_joined_5 rfl (lv_at hl 0 rfl) ?_
    exact W.iret (v := x0) hx hb hr (fun t9 ht9 hW9 => ⟨⟨_, (), rfl, hf.trans hf0.symm, ⟨by rw [ht9]; exact hR.P, hR.D⟩⟩, hR.sS.F ht9⟩) hR.sS.2.2 dX14_joined_6
def f_isThing_J16 (S : MS) : Int32 := (1 : Int32)
def d_isThing_J16 (S : MS) : Prop := True
def f_isThing (S : MS) (x0 : Int32) : Int32 := (if x0.toInt = 4 then f_isThing_J16 S else (if x0.toInt = 5 then f_isThing_J16 S else (if x0.toInt = 6 then f_isThing_J16 S else (0 : Int32))))
def d_isThing (S : MS) (x0 : Int32) : Prop := (if x0.toInt = 4 then d_isThing_J16 S else (if x0.toInt = 5 then d_isThing_J16 S else (if x0.toInt = 6 then d_isThing_J16 S else True)))
set_option maxHeartbeats 2000000 in
set_option maxRecDepth 100000 in
theorem r_isThing (l : Launch) (g : Gr) (ad : Nat → Nat) (sz : Nat) (S : MS) (x0 : Int32) (hw : wfM S) (hd : d_isThing S x0) : Met l yX14_isThing (wt2 yX14_isThing cX14_isThing 1 (some .boolean)) ({ frames := 0, cells := 0, slots := 0, locals := 0 }) (va_Pc [.int x0] (st_R g ad sz S)) (va_Qi (fun (r : Int32) (_ : Unit) => r = f_isThing S x0 ∧ (r = 0 ∨ r = 1)) (fun (_ : Unit) (t : State) => qE g ad (va_A (Wd g ad S) sz) S t) (va_A (Wd g ad S) sz)) 0 0 (va_A (Wd g ad S) sz) := by
  refine Met.ofW (cc := cX14_isThing) (maxL := 1) (ret := (some .boolean)) (by decide) rfl ?_
  intro p e s m args below meth c s₁ B hml hv
  obtain ⟨rfl, hsz, hP, hK, hD0, hex, hE⟩ := hv
  have hx := B.exec
  have hb := B.bytes
  have hr := B.returns
  have hts0 := atoms_spec (ws := wt2 yX14_isThing cX14_isThing 1 (some .boolean)) B.pre
  have hts : ∀ w ∈ tb2, w.before _ s = true := fun w h => hts0 w (List.mem_cons_of_mem _ h)
  have hown : s.vm.findClass RX14 = some m.cls := findClass_of_methodNamed B.named
  subst hsz
  have hD := hD0.self (sz := s.heap.size)
  generalize hAe : va_A (Wd g ad S) s.heap.size = A at hD hE ⊢
  have hA : ∀ q : Nat, s.heap.size ≤ q → A q := fun q h => by rw [← hAe]; exact Or.inr h
  have hR : Rep g ad A s S s.heap [] := ⟨hK, hP, hD, va_S.rf, hw⟩
  clear hK hP hD hD0
  have hl := lv_entry ([.int x0]) (n := 1) (Nat.le_of_ble_eq_true rfl)
  rw [lg_entry_eq]
  generalize (lg_sl ([.int x0]) ++ List.replicate (1 - (lg_sl ([.int x0])).length) Slot.unset).toArray = ls at hl ⊢
  have hl : lv_has ls 1 [(0, .int x0)] := hl
  obtain ⟨r0, hf⟩ : ∃ r0, f_isThing S x0 = r0 := ⟨_, rfl⟩
  have hf0 := hf
  unfold f_isThing at hf
  unfold d_isThing at hd
  refine lv_iload_n hx hb dX14_isThing_0 rfl (lv_at hl 0 rfl) ?_
  refine lv_iconst (v := 4) hx hb dX14_isThing_1 (by decide) ?_
  have J_16 : ∀ (H : Heap) (locs : List Loc) (ls : Array Slot), d_isThing_J16 S → f_isThing_J16 S = r0 → Rep g ad A s S H locs → lv_has ls 1 [] → W p l e (headSpec (wt2 yX14_isThing cX14_isThing 1 (some .boolean)) ({ frames := 0, cells := 0, slots := 0, locals := 0 })).room s m ([.int x0] : List Value).toArray below meth c H locs 0 0 (MQ below (va_Qi (fun (r : Int32) (_ : Unit) => r = f_isThing S x0 ∧ (r = 0 ∨ r = 1)) (fun (_ : Unit) (t : State) => qE g ad A S t) A) ([.int x0] : List Value).toArray s 0 0 A) (F0 m 16 ls []) := by
    intro H locs ls hd hf hR hl
    unfold d_isThing_J16 at hd
    unfold f_isThing_J16 at hf
    refine lv_iconst (v := 1) hx hb dX14_isThing_16 (by decide) ?_
    refine lv_goto (tgt := 21) hx hb dX14_isThing_17 (by decide) ?_
    exact W.zret (v := 1) hx hb hr (nz (Or.inr rfl)) (fun t9 ht9 hW9 => ⟨⟨_, (), rfl, ⟨hf.trans hf0.symm, (Or.inr rfl)⟩, ⟨by rw [ht9]; exact hR.P, hR.D⟩⟩, hR.sS.F ht9⟩) hR.sS.2.2 dX14_isThing_21
  refine lv_icmp_eq (tgt := 16) hx hb dX14_isThing_2 (by decide) (fun c1 => ?_) (fun c1 => ?_)
  · rw [if_pos (k_eq rfl (by decide) c1)] at hf
    (try rw [if_pos (k_eq rfl (by decide) c1)] at hd)
    exact J_16 _ _ ls hd hf  hR (lv_sub hl [] rfl)
  · rw [if_neg (k_ne rfl (by decide) c1)] at hf
    (try rw [if_neg (k_ne rfl (by decide) c1)] at hd)
    refine lv_iload_n hx hb dX14_isThing_5 rfl (lv_at hl 0 rfl) ?_
    refine lv_iconst (v := 5) hx hb dX14_isThing_6 (by decide) ?_
    refine lv_icmp_eq (tgt := 16) hx hb dX14_isThing_7 (by decide) (fun c2 => ?_) (fun c2 => ?_)
    · rw [if_pos (k_eq rfl (by decide) c2)] at hf
      (try rw [if_pos (k_eq rfl (by decide) c2)] at hd)
      exact J_16 _ _ ls hd hf  hR (lv_sub hl [] rfl)
    · rw [if_neg (k_ne rfl (by decide) c2)] at hf
      (try rw [if_neg (k_ne rfl (by decide) c2)] at hd)
      refine lv_iload_n hx hb dX14_isThing_10 rfl (lv_at hl 0 rfl) ?_
      refine lv_bipush (v := 6) hx hb dX14_isThing_11 (by decide) ?_
      refine lv_icmp_ne (tgt := 20) hx hb dX14_isThing_13 (by decide) (fun c3 => ?_) (fun c3 => ?_)
      · rw [if_neg (k_ne rfl (by decide) c3)] at hf
        (try rw [if_neg (k_ne rfl (by decide) c3)] at hd)
        refine lv_iconst (v := 0) hx hb dX14_isThing_20 (by decide) ?_
        exact W.zret (v := 0) hx hb hr (nz (Or.inl rfl)) (fun t9 ht9 hW9 => ⟨⟨_, (), rfl, ⟨hf.trans hf0.symm, (Or.inl rfl)⟩, ⟨by rw [ht9]; exact hR.P, hR.D⟩⟩, hR.sS.F ht9⟩) hR.sS.2.2 dX14_isThing_21
      · rw [if_pos (k_eq rfl (by decide) c3)] at hf
        (try rw [if_pos (k_eq rfl (by decide) c3)] at hd)
        exact J_16 _ _ ls hd hf  hR (lv_sub hl [] rfl)
def f_isOne_J12 (S : MS) : Int32 := (1 : Int32)
def d_isOne_J12 (S : MS) : Prop := True
def f_isOne (S : MS) (x0 : Int32) : Int32 := (if x0.toInt = 1 then f_isOne_J12 S else (if (f_isThing S x0).toInt = 0 then (0 : Int32) else f_isOne_J12 S))
def d_isOne (S : MS) (x0 : Int32) : Prop := (if x0.toInt = 1 then d_isOne_J12 S else (d_isThing S x0 ∧ (if (f_isThing S x0).toInt = 0 then True else d_isOne_J12 S)))
set_option maxHeartbeats 2000000 in
set_option maxRecDepth 100000 in
theorem r_isOne (l : Launch) (g : Gr) (ad : Nat → Nat) (sz : Nat) (S : MS) (x0 : Int32) (hw : wfM S) (hd : d_isOne S x0) : Met l yX14_isOne (wt2 yX14_isOne cX14_isOne 1 (some .boolean)) ({ frames := 1, cells := 0, slots := 0, locals := 20 }) (va_Pc [.int x0] (st_R g ad sz S)) (va_Qi (fun (r : Int32) (_ : Unit) => r = f_isOne S x0 ∧ (r = 0 ∨ r = 1)) (fun (_ : Unit) (t : State) => qE g ad (va_A (Wd g ad S) sz) S t) (va_A (Wd g ad S) sz)) 0 0 (va_A (Wd g ad S) sz) := by
  refine Met.ofW (cc := cX14_isOne) (maxL := 1) (ret := (some .boolean)) (by decide) rfl ?_
  intro p e s m args below meth c s₁ B hml hv
  obtain ⟨rfl, hsz, hP, hK, hD0, hex, hE⟩ := hv
  have hx := B.exec
  have hb := B.bytes
  have hr := B.returns
  have hts0 := atoms_spec (ws := wt2 yX14_isOne cX14_isOne 1 (some .boolean)) B.pre
  have hts : ∀ w ∈ tb2, w.before _ s = true := fun w h => hts0 w (List.mem_cons_of_mem _ h)
  have hown : s.vm.findClass RX14 = some m.cls := findClass_of_methodNamed B.named
  subst hsz
  have hD := hD0.self (sz := s.heap.size)
  generalize hAe : va_A (Wd g ad S) s.heap.size = A at hD hE ⊢
  have hA : ∀ q : Nat, s.heap.size ≤ q → A q := fun q h => by rw [← hAe]; exact Or.inr h
  have hR : Rep g ad A s S s.heap [] := ⟨hK, hP, hD, va_S.rf, hw⟩
  clear hK hP hD hD0
  have hl := lv_entry ([.int x0]) (n := 1) (Nat.le_of_ble_eq_true rfl)
  rw [lg_entry_eq]
  generalize (lg_sl ([.int x0]) ++ List.replicate (1 - (lg_sl ([.int x0])).length) Slot.unset).toArray = ls at hl ⊢
  have hl : lv_has ls 1 [(0, .int x0)] := hl
  obtain ⟨r0, hf⟩ : ∃ r0, f_isOne S x0 = r0 := ⟨_, rfl⟩
  have hf0 := hf
  unfold f_isOne at hf
  unfold d_isOne at hd
  refine lv_iload_n hx hb dX14_isOne_0 rfl (lv_at hl 0 rfl) ?_
  refine lv_iconst (v := 1) hx hb dX14_isOne_1 (by decide) ?_
  have J_12 : ∀ (H : Heap) (locs : List Loc) (ls : Array Slot), d_isOne_J12 S → f_isOne_J12 S = r0 → Rep g ad A s S H locs → lv_has ls 1 [] → W p l e (headSpec (wt2 yX14_isOne cX14_isOne 1 (some .boolean)) ({ frames := 1, cells := 0, slots := 0, locals := 20 })).room s m ([.int x0] : List Value).toArray below meth c H locs 0 0 (MQ below (va_Qi (fun (r : Int32) (_ : Unit) => r = f_isOne S x0 ∧ (r = 0 ∨ r = 1)) (fun (_ : Unit) (t : State) => qE g ad A S t) A) ([.int x0] : List Value).toArray s 0 0 A) (F0 m 12 ls []) := by
    intro H locs ls hd hf hR hl
    unfold d_isOne_J12 at hd
    unfold f_isOne_J12 at hf
    refine lv_iconst (v := 1) hx hb dX14_isOne_12 (by decide) ?_
    refine lv_goto (tgt := 17) hx hb dX14_isOne_13 (by decide) ?_
    exact W.zret (v := 1) hx hb hr (nz (Or.inr rfl)) (fun t9 ht9 hW9 => ⟨⟨_, (), rfl, ⟨hf.trans hf0.symm, (Or.inr rfl)⟩, ⟨by rw [ht9]; exact hR.P, hR.D⟩⟩, hR.sS.F ht9⟩) hR.sS.2.2 dX14_isOne_17
  refine lv_icmp_eq (tgt := 12) hx hb dX14_isOne_2 (by decide) (fun c1 => ?_) (fun c1 => ?_)
  · rw [if_pos (k_eq rfl (by decide) c1)] at hf
    (try rw [if_pos (k_eq rfl (by decide) c1)] at hd)
    exact J_12 _ _ ls hd hf  hR (lv_sub hl [] rfl)
  · rw [if_neg (k_ne rfl (by decide) c1)] at hf
    (try rw [if_neg (k_ne rfl (by decide) c1)] at hd)
    refine lv_iload_n hx hb dX14_isOne_5 rfl (lv_at hl 0 rfl) ?_
    obtain ⟨hv2, hd⟩ := hd
    have hFc := rfree hR hA
    refine va_calli (va_runS (As := [.int x0]) (rest := []) ⟨hx, hb, hml, hown, hts⟩ (r_isThing l g ad s.heap.size S x0 hR.w  hv2) (va_cwS 1 hts (gd2_S kx_459 kx_460 kx_177 kx_461) rfl rfl rfl (by decide +kernel) ⟨Nat.le_of_ble_eq_true rfl, Nat.le_of_ble_eq_true rfl⟩) ⟨rblind, fun U hU hW9 => rmk hU hW9 hR hex hE hFc⟩ rfl rfl hl.1 rfl (lv_room (Nat.le_of_ble_eq_true rfl)) dX14_isOne_6 ⟨Nat.le_of_ble_eq_true rfl, Nat.le_of_ble_eq_true rfl⟩) hR.sS (fun q _ h => hFc q h) hFc (fun r3 u9 t9 H1 locs ht9 hvm9 hw9 hB9 hz9 hk9 hS => ?_)
    have hR : Rep g ad A s S H1 locs := hR.call ht9 hB9 hR.w hS hFc
    obtain ⟨rfl, hz_r3⟩ := hw9
    clear hB9 hz9 hk9 hvm9 ht9 hS
    generalize H1 = H at hR ⊢
    refine lv_if_eq (tgt := 16) hx hb dX14_isOne_9 (by decide) (fun c5 => ?_) (fun c5 => ?_)
    · rw [if_pos (k_eq rfl (by decide) c5)] at hf
      (try rw [if_pos (k_eq rfl (by decide) c5)] at hd)
      refine lv_iconst (v := 0) hx hb dX14_isOne_16 (by decide) ?_
      exact W.zret (v := 0) hx hb hr (nz (Or.inl rfl)) (fun t9 ht9 hW9 => ⟨⟨_, (), rfl, ⟨hf.trans hf0.symm, (Or.inl rfl)⟩, ⟨by rw [ht9]; exact hR.P, hR.D⟩⟩, hR.sS.F ht9⟩) hR.sS.2.2 dX14_isOne_17
    · rw [if_neg (k_ne rfl (by decide) c5)] at hf
      (try rw [if_neg (k_ne rfl (by decide) c5)] at hd)
      exact J_12 _ _ ls hd hf  hR (lv_sub hl [] rfl)
def w_push (S : MS) (x1 : Int32) (Q : MS → Prop) : Prop := (((0 : Int) ≤ (qI S 0 62).toInt ∧ (qI S 0 62).toInt < 28) ∧ (∀ S2, S2 = wI S 26 (((qI S 0 62).toInt).toNat) (vp_nar .byte (x1.toInt8.toInt32)) → (∀ S4, S4 = wI S2 0 62 ((qI S2 0 62) + (1 : Int32)) → Q S4)))
set_option maxHeartbeats 2000000 in
set_option maxRecDepth 100000 in
theorem r_push (l : Launch) (g : Gr) (ad : Nat → Nat) (sz : Nat) (S : MS) (x1 : Int32) (hw : wfM S) (Q : MS → Prop) (h : w_push S x1 Q) : Met l yX14_push (wt2 yX14_push cX14_push 2 none) ({ frames := 0, cells := 0, slots := 0, locals := 0 }) (va_Pc [.ref (ad 0), .int x1] (st_R g ad sz S)) (va_Qv (fun (u : MS) => Q u ∧ wfM u ∧ shy S u) (fun (u : MS) (t : State) => qE g ad (va_A (Wd g ad S) sz) u t) (va_A (Wd g ad S) sz)) 0 0 (va_A (Wd g ad S) sz) := by
  refine Met.ofW (cc := cX14_push) (maxL := 2) (ret := none) (by decide) rfl ?_
  intro p e s m args below meth c s₁ B hml hv
  obtain ⟨rfl, hsz, hP, hK, hD0, hex, hE⟩ := hv
  have hx := B.exec
  have hb := B.bytes
  have hr := B.returns
  have hts0 := atoms_spec (ws := wt2 yX14_push cX14_push 2 none) B.pre
  have hts : ∀ w ∈ tb2, w.before _ s = true := fun w h => hts0 w (List.mem_cons_of_mem _ h)
  have hown : s.vm.findClass RX14 = some m.cls := findClass_of_methodNamed B.named
  subst hsz
  have hD := hD0.self (sz := s.heap.size)
  generalize hAe : va_A (Wd g ad S) s.heap.size = A at hD hE ⊢
  have hA : ∀ q : Nat, s.heap.size ≤ q → A q := fun q h => by rw [← hAe]; exact Or.inr h
  have hR : Rep g ad A s S s.heap [] := ⟨hK, hP, hD, va_S.rf, hw⟩
  clear hK hP hD hD0
  have hl := lv_entry ([.ref (ad 0), .int x1]) (n := 2) (Nat.le_of_ble_eq_true rfl)
  rw [lg_entry_eq]
  generalize (lg_sl ([.ref (ad 0), .int x1]) ++ List.replicate (2 - (lg_sl ([.ref (ad 0), .int x1])).length) Slot.unset).toArray = ls at hl ⊢
  have hl : lv_has ls 2 [(0, .ref (ad 0)), (1, .int x1)] := hl
  have hsh : shy S S := shy.rf
  unfold w_push at h
  refine lv_aload_n hx hb dX14_push_0 rfl (lv_at hl 0 rfl) ?_
  refine va_get (D := rD g) (ci := 13) (v := .ref (ad 26)) (C := RX14) (T := TX14) (N := 143) hx hb hts in2X14 hown hR.K hR.P 0 (hR.at14 hR.w.1) rfl 61 (by decide) (hts _ kx_462) (fun _ h9 => h9) (congrArg (fun z => some (vf ad z)) (hR.w.2.1 _ fin_61).1) dX14_push_1 ?_
  refine lv_aload_n hx hb dX14_push_4 rfl (lv_at hl 0 rfl) ?_
  refine va_get (D := rD g) (ci := 13) (v := .int (qI S 0 62)) (C := RX14) (T := TX14) (N := 143) hx hb hts in2X14 hown hR.K hR.P 0 (hR.at14 hR.w.1) rfl 62 (by decide) (hts _ kx_463) (fun _ h9 => h9) rfl dX14_push_5 ?_
  refine lv_iload_n hx hb dX14_push_8 rfl (lv_at hl 1 rfl) ?_
  refine lv_i2b (v := (x1.toInt8.toInt32)) hx hb dX14_push_9 rfl ?_
  obtain ⟨hv1, h⟩ := h
  refine va_bast hx hb hR.K hR.P hR.D hR.sS 26 0 (hR.atB (hR.w.2.1 _ fin_61).2.1) rfl (k_ixN (k_ix (n := 28) (x := (qI S 0 62)) (a := (qI S 0 62).toInt) rfl hv1) (hR.w.2.1 _ fin_61).2.2) dX14_push_10 (fun H locs hP hD hS => ?_)
  have hR : Rep g ad A s (wI S 26 (((qI S 0 62).toInt).toNat) (vp_nar .byte (x1.toInt8.toInt32))) H locs := hR.aB (hR.w.2.1 _ fin_61).2.1 hP hD hS
  obtain ⟨S2, eS2⟩ : ∃ z, z = wI S 26 (((qI S 0 62).toInt).toNat) (vp_nar .byte (x1.toInt8.toInt32)) := ⟨_, rfl⟩
  rw [← eS2] at hR
  replace h := h S2 eS2
  have hsh : shy S S2 := by rw [eS2]; exact hsh
  refine lv_aload_n hx hb dX14_push_11 rfl (lv_at hl 0 rfl) ?_
  refine lv_dup hx hb dX14_push_12 rfl ?_
  refine va_get (D := rD g) (ci := 13) (v := .int (qI S2 0 62)) (C := RX14) (T := TX14) (N := 143) hx hb hts in2X14 hown hR.K hR.P 0 (hR.at14 hR.w.1) rfl 62 (by decide) (hts _ kx_463) (fun _ h9 => h9) rfl dX14_push_13 ?_
  refine lv_iconst (v := 1) hx hb dX14_push_16 (by decide) ?_
  refine lv_iadd hx hb dX14_push_17 ?_
  refine lv_topi (fun z3 ez3 => ?_)
  obtain rfl : z3 = ((qI S2 0 62) + (1 : Int32)) := ez3
  refine va_put (D := rD g) (ci := 13) (v := .int ((qI S2 0 62) + (1 : Int32))) (ty := .int) (C := RX14) (T := TX14) (N := 143) hx hb hts in2X14 tyX14 tyX14_ok nmX14 hown hR.K hR.P hR.D hR.sS 0 (hR.at14 hR.w.1) rfl 62 (by decide) (hts _ kx_463) (fun _ h9 => h9) rfl (by decide +kernel) rfl rfl (Nat.le_of_ble_eq_true rfl) dX14_push_18 (fun H locs hP hD hS => ?_)
  have hR : Rep g ad A s (wI S2 0 62 ((qI S2 0 62) + (1 : Int32))) H locs := hR.pI hR.w.1 F14_s62 hP hD hS
  obtain ⟨S4, eS4⟩ : ∃ z, z = wI S2 0 62 ((qI S2 0 62) + (1 : Int32)) := ⟨_, rfl⟩
  rw [← eS4] at hR
  replace h := h S4 eS4
  have hsh : shy S S4 := by rw [eS4]; exact hsh
  exact W.vret hx hb hr (fun t9 ht9 hW9 => ⟨⟨S4, rfl, ⟨h, hR.w, hsh⟩, ⟨by rw [ht9]; exact hR.P, hR.D⟩⟩, hR.sS.F ht9⟩) hR.sS.2.2 dX14_push_21
def w_pull (S : MS) (Q : Int32 → MS → Prop) : Prop := (∀ S2, S2 = wI S 0 62 ((qI S 0 62) - (1 : Int32)) → (((0 : Int) ≤ (qI S2 0 62).toInt ∧ (qI S2 0 62).toInt < 28) ∧ Q (qI S2 26 (((qI S2 0 62).toInt).toNat)) S2))
set_option maxHeartbeats 2000000 in
set_option maxRecDepth 100000 in
theorem r_pull (l : Launch) (g : Gr) (ad : Nat → Nat) (sz : Nat) (S : MS) (hw : wfM S) (Q : Int32 → MS → Prop) (h : w_pull S Q) : Met l yX14_pull (wt2 yX14_pull cX14_pull 1 (some .int)) ({ frames := 0, cells := 0, slots := 0, locals := 0 }) (va_Pc [.ref (ad 0)] (st_R g ad sz S)) (va_Qi (fun (r : Int32) (u : MS) => Q r u ∧ wfM u ∧ shy S u) (fun (u : MS) (t : State) => qE g ad (va_A (Wd g ad S) sz) u t) (va_A (Wd g ad S) sz)) 0 0 (va_A (Wd g ad S) sz) := by
  refine Met.ofW (cc := cX14_pull) (maxL := 1) (ret := (some .int)) (by decide) rfl ?_
  intro p e s m args below meth c s₁ B hml hv
  obtain ⟨rfl, hsz, hP, hK, hD0, hex, hE⟩ := hv
  have hx := B.exec
  have hb := B.bytes
  have hr := B.returns
  have hts0 := atoms_spec (ws := wt2 yX14_pull cX14_pull 1 (some .int)) B.pre
  have hts : ∀ w ∈ tb2, w.before _ s = true := fun w h => hts0 w (List.mem_cons_of_mem _ h)
  have hown : s.vm.findClass RX14 = some m.cls := findClass_of_methodNamed B.named
  subst hsz
  have hD := hD0.self (sz := s.heap.size)
  generalize hAe : va_A (Wd g ad S) s.heap.size = A at hD hE ⊢
  have hA : ∀ q : Nat, s.heap.size ≤ q → A q := fun q h => by rw [← hAe]; exact Or.inr h
  have hR : Rep g ad A s S s.heap [] := ⟨hK, hP, hD, va_S.rf, hw⟩
  clear hK hP hD hD0
  have hl := lv_entry ([.ref (ad 0)]) (n := 1) (Nat.le_of_ble_eq_true rfl)
  rw [lg_entry_eq]
  generalize (lg_sl ([.ref (ad 0)]) ++ List.replicate (1 - (lg_sl ([.ref (ad 0)])).length) Slot.unset).toArray = ls at hl ⊢
  have hl : lv_has ls 1 [(0, .ref (ad 0))] := hl
  have hsh : shy S S := shy.rf
  unfold w_pull at h
  refine lv_aload_n hx hb dX14_pull_0 rfl (lv_at hl 0 rfl) ?_
  refine lv_dup hx hb dX14_pull_1 rfl ?_
  refine va_get (D := rD g) (ci := 13) (v := .int (qI S 0 62)) (C := RX14) (T := TX14) (N := 143) hx hb hts in2X14 hown hR.K hR.P 0 (hR.at14 hR.w.1) rfl 62 (by decide) (hts _ kx_463) (fun _ h9 => h9) rfl dX14_pull_2 ?_
  refine lv_iconst (v := 1) hx hb dX14_pull_5 (by decide) ?_
  refine lv_isub hx hb dX14_pull_6 ?_
  refine lv_topi (fun z1 ez1 => ?_)
  obtain rfl : z1 = ((qI S 0 62) - (1 : Int32)) := ez1
  refine va_put (D := rD g) (ci := 13) (v := .int ((qI S 0 62) - (1 : Int32))) (ty := .int) (C := RX14) (T := TX14) (N := 143) hx hb hts in2X14 tyX14 tyX14_ok nmX14 hown hR.K hR.P hR.D hR.sS 0 (hR.at14 hR.w.1) rfl 62 (by decide) (hts _ kx_463) (fun _ h9 => h9) rfl (by decide +kernel) rfl rfl (Nat.le_of_ble_eq_true rfl) dX14_pull_7 (fun H locs hP hD hS => ?_)
  have hR : Rep g ad A s (wI S 0 62 ((qI S 0 62) - (1 : Int32))) H locs := hR.pI hR.w.1 F14_s62 hP hD hS
  obtain ⟨S2, eS2⟩ : ∃ z, z = wI S 0 62 ((qI S 0 62) - (1 : Int32)) := ⟨_, rfl⟩
  rw [← eS2] at hR
  replace h := h S2 eS2
  have hsh : shy S S2 := by rw [eS2]; exact hsh
  refine lv_aload_n hx hb dX14_pull_10 rfl (lv_at hl 0 rfl) ?_
  refine va_get (D := rD g) (ci := 13) (v := .ref (ad 26)) (C := RX14) (T := TX14) (N := 143) hx hb hts in2X14 hown hR.K hR.P 0 (hR.at14 hR.w.1) rfl 61 (by decide) (hts _ kx_462) (fun _ h9 => h9) (congrArg (fun z => some (vf ad z)) (hR.w.2.1 _ fin_61).1) dX14_pull_11 ?_
  refine lv_aload_n hx hb dX14_pull_14 rfl (lv_at hl 0 rfl) ?_
  refine va_get (D := rD g) (ci := 13) (v := .int (qI S2 0 62)) (C := RX14) (T := TX14) (N := 143) hx hb hts in2X14 hown hR.K hR.P 0 (hR.at14 hR.w.1) rfl 62 (by decide) (hts _ kx_463) (fun _ h9 => h9) rfl dX14_pull_15 ?_
  obtain ⟨hv3, h⟩ := h
  refine va_bald hx hb hR.K hR.P 26 0 (hR.atB (hR.w.2.1 _ fin_61).2.1) rfl (k_ixN (k_ix (n := 28) (x := (qI S2 0 62)) (a := (qI S2 0 62).toInt) rfl hv3) (hR.w.2.1 _ fin_61).2.2) dX14_pull_18 ?_
  refine lv_topi (fun z4 ez4 => ?_)
  obtain rfl : z4 = (qI S2 26 (((qI S2 0 62).toInt).toNat)) := ez4
  exact W.iret (v := (qI S2 26 (((qI S2 0 62).toInt).toNat))) hx hb hr (fun t9 ht9 hW9 => ⟨⟨_, S2, rfl, ⟨h, hR.w, hsh⟩, ⟨by rw [ht9]; exact hR.P, hR.D⟩⟩, hR.sS.F ht9⟩) hR.sS.2.2 dX14_pull_19
def w_need_J16 (Q : MS → Prop) (U16 : MS) : Prop := (∀ S1, S1 = wI U16 0 63 0 → Q S1)
def w_need (S : MS) (x1 : Int32) (Q : MS → Prop) : Prop := (((qI S 0 63).toInt = 0 → w_need_J16 Q S) ∧ (¬ (qI S 0 63).toInt = 0 → ((x1.toInt = 0 → w_need_J16 Q S) ∧ (¬ x1.toInt = 0 → (∀ S4, S4 = wI S 0 63 1 → Q S4)))))
set_option maxHeartbeats 2000000 in
set_option maxRecDepth 100000 in
theorem r_need (l : Launch) (g : Gr) (ad : Nat → Nat) (sz : Nat) (S : MS) (x1 : Int32) (hw : wfM S) (hz_x1 : x1 = 0 ∨ x1 = 1) (Q : MS → Prop) (h : w_need S x1 Q) : Met l yX14_need (wt2 yX14_need cX14_need 2 none) ({ frames := 0, cells := 0, slots := 0, locals := 0 }) (va_Pc [.ref (ad 0), .int x1] (st_R g ad sz S)) (va_Qv (fun (u : MS) => Q u ∧ wfM u ∧ shy S u) (fun (u : MS) (t : State) => qE g ad (va_A (Wd g ad S) sz) u t) (va_A (Wd g ad S) sz)) 0 0 (va_A (Wd g ad S) sz) := by
  refine Met.ofW (cc := cX14_need) (maxL := 2) (ret := none) (by decide) rfl ?_
  intro p e s m args below meth c s₁ B hml hv
  obtain ⟨rfl, hsz, hP, hK, hD0, hex, hE⟩ := hv
  have hx := B.exec
  have hb := B.bytes
  have hr := B.returns
  have hts0 := atoms_spec (ws := wt2 yX14_need cX14_need 2 none) B.pre
  have hts : ∀ w ∈ tb2, w.before _ s = true := fun w h => hts0 w (List.mem_cons_of_mem _ h)
  have hown : s.vm.findClass RX14 = some m.cls := findClass_of_methodNamed B.named
  subst hsz
  have hD := hD0.self (sz := s.heap.size)
  generalize hAe : va_A (Wd g ad S) s.heap.size = A at hD hE ⊢
  have hA : ∀ q : Nat, s.heap.size ≤ q → A q := fun q h => by rw [← hAe]; exact Or.inr h
  have hR : Rep g ad A s S s.heap [] := ⟨hK, hP, hD, va_S.rf, hw⟩
  clear hK hP hD hD0
  have hl := lv_entry ([.ref (ad 0), .int x1]) (n := 2) (Nat.le_of_ble_eq_true rfl)
  rw [lg_entry_eq]
  generalize (lg_sl ([.ref (ad 0), .int x1]) ++ List.replicate (2 - (lg_sl ([.ref (ad 0), .int x1])).length) Slot.unset).toArray = ls at hl ⊢
  have hl : lv_has ls 2 [(0, .ref (ad 0)), (1, .int x1)] := hl
  have hsh : shy S S := shy.rf
  unfold w_need at h
  refine lv_aload_n hx hb dX14_need_0 rfl (lv_at hl 0 rfl) ?_
  refine lv_aload_n hx hb dX14_need_1 rfl (lv_at hl 0 rfl) ?_
  refine va_get (D := rD g) (ci := 13) (v := .int (qI S 0 63)) (C := RX14) (T := TX14) (N := 143) hx hb hts in2X14 hown hR.K hR.P 0 (hR.at14 hR.w.1) rfl 63 (by decide) (hts _ kx_464) (fun _ h9 => h9) rfl dX14_need_2 ?_
  have J_16 : ∀ (U16 : MS) (H : Heap) (locs : List Loc) (ls : Array Slot), w_need_J16 Q U16 → shy S U16 → Rep g ad A s U16 H locs → lv_has ls 2 [] → W p l e (headSpec (wt2 yX14_need cX14_need 2 none) ({ frames := 0, cells := 0, slots := 0, locals := 0 })).room s m ([.ref (ad 0), .int x1] : List Value).toArray below meth c H locs 0 0 (MQ below (va_Qv (fun (u : MS) => Q u ∧ wfM u ∧ shy S u) (fun (u : MS) (t : State) => qE g ad A u t) A) ([.ref (ad 0), .int x1] : List Value).toArray s 0 0 A) (F0 m 16 ls [.ref (ad 0)]) := by
    intro U16 H locs ls h hsh hR hl
    unfold w_need_J16 at h
    refine lv_iconst (v := 0) hx hb dX14_need_16 (by decide) ?_
    refine va_put (D := rD g) (ci := 13) (v := .int 0) (ty := .boolean) (C := RX14) (T := TX14) (N := 143) hx hb hts in2X14 tyX14 tyX14_ok nmX14 hown hR.K hR.P hR.D hR.sS 0 (hR.at14 hR.w.1) rfl 63 (by decide) (hts _ kx_464) (fun _ h9 => h9) rfl (by decide +kernel) rfl rfl (Nat.le_of_ble_eq_true rfl) dX14_need_17 (fun H locs hP hD hS => ?_)
    have hR : Rep g ad A s (wI U16 0 63 0) H locs := hR.pI hR.w.1 F14_s63 hP hD hS
    obtain ⟨S1, eS1⟩ : ∃ z, z = wI U16 0 63 0 := ⟨_, rfl⟩
    rw [← eS1] at hR
    replace h := h S1 eS1
    have hsh : shy S S1 := by rw [eS1]; exact hsh
    exact W.vret hx hb hr (fun t9 ht9 hW9 => ⟨⟨S1, rfl, ⟨h, hR.w, hsh⟩, ⟨by rw [ht9]; exact hR.P, hR.D⟩⟩, hR.sS.F ht9⟩) hR.sS.2.2 dX14_need_20
  refine lv_if_eq (tgt := 16) hx hb dX14_need_5 (by decide) (fun c2 => ?_) (fun c2 => ?_)
  · replace h := h.1 (k_eq rfl (by decide) c2)
    exact J_16 S _ _ ls h  hsh hR (lv_sub hl [] rfl)
  · replace h := h.2 (k_ne rfl (by decide) c2)
    refine lv_iload_n hx hb dX14_need_8 rfl (lv_at hl 1 rfl) ?_
    refine lv_if_eq (tgt := 16) hx hb dX14_need_9 (by decide) (fun c3 => ?_) (fun c3 => ?_)
    · replace h := h.1 (k_eq rfl (by decide) c3)
      exact J_16 S _ _ ls h  hsh hR (lv_sub hl [] rfl)
    · replace h := h.2 (k_ne rfl (by decide) c3)
      refine lv_iconst (v := 1) hx hb dX14_need_12 (by decide) ?_
      refine lv_goto (tgt := 17) hx hb dX14_need_13 (by decide) ?_
      refine va_put (D := rD g) (ci := 13) (v := .int 1) (ty := .boolean) (C := RX14) (T := TX14) (N := 143) hx hb hts in2X14 tyX14 tyX14_ok nmX14 hown hR.K hR.P hR.D hR.sS 0 (hR.at14 hR.w.1) rfl 63 (by decide) (hts _ kx_464) (fun _ h9 => h9) rfl (by decide +kernel) rfl rfl (Nat.le_of_ble_eq_true rfl) dX14_need_17 (fun H locs hP hD hS => ?_)
      have hR : Rep g ad A s (wI S 0 63 1) H locs := hR.pI hR.w.1 F14_s63 hP hD hS
      obtain ⟨S4, eS4⟩ : ∃ z, z = wI S 0 63 1 := ⟨_, rfl⟩
      rw [← eS4] at hR
      replace h := h S4 eS4
      have hsh : shy S S4 := by rw [eS4]; exact hsh
      exact W.vret hx hb hr (fun t9 ht9 hW9 => ⟨⟨S4, rfl, ⟨h, hR.w, hsh⟩, ⟨by rw [ht9]; exact hR.P, hR.D⟩⟩, hR.sS.F ht9⟩) hR.sS.2.2 dX14_need_20
def w_takeLetter_J124 (Q : MS → Prop) (U124 : MS) (t124_0 : Int32) : Prop := (∃ Q13, w_need U124 t124_0 Q13 ∧ ∀ S14, Q13 S14 → Q S14)
def w_takeLetter_J123 (Q : MS → Prop) (U123 : MS) : Prop := w_takeLetter_J124 Q U123 0
def w_takeLetter_J80 (Q : MS → Prop) (U80 : MS) (t80_0 : Int32) : Prop := (∃ Q24, w_need U80 t80_0 Q24 ∧ ∀ S25, Q24 S25 → Q S25)
def w_takeLetter_J75 (Q : MS → Prop) (U75 : MS) : Prop := w_takeLetter_J80 Q U75 1
def w_takeLetter_J51 (Q : MS → Prop) (U51 : MS) (t51_0 : Int32) : Prop := (∃ Q29, w_need U51 t51_0 Q29 ∧ ∀ S30, Q29 S30 → Q S30)
def w_takeLetter_J46 (Q : MS → Prop) (U46 : MS) : Prop := w_takeLetter_J51 Q U46 1
def w_takeLetter_J22 (Q : MS → Prop) (U22 : MS) (t22_0 : Int32) : Prop := (∃ Q34, w_need U22 t22_0 Q34 ∧ ∀ S35, Q34 S35 → Q S35)
def w_takeLetter (S : MS) (x1 : Int32) (Q : MS → Prop) : Prop := (∃ Q1, w_pull S Q1 ∧ ∀ r2 S3, Q1 r2 S3 → ((x1.toInt = 73 → ((r2.toInt = 1 → w_takeLetter_J22 Q S3 1) ∧ (¬ r2.toInt = 1 → w_takeLetter_J22 Q S3 0))) ∧ (¬ x1.toInt = 73 → ((x1.toInt = 65 → ((r2.toInt = 4 → w_takeLetter_J46 Q S3) ∧ (¬ r2.toInt = 4 → ((r2.toInt = 6 → w_takeLetter_J46 Q S3) ∧ (¬ r2.toInt = 6 → w_takeLetter_J51 Q S3 0))))) ∧ (¬ x1.toInt = 65 → ((x1.toInt = 69 → ((r2.toInt = 5 → w_takeLetter_J75 Q S3) ∧ (¬ r2.toInt = 5 → ((r2.toInt = 6 → w_takeLetter_J75 Q S3) ∧ (¬ r2.toInt = 6 → w_takeLetter_J80 Q S3 0))))) ∧ (¬ x1.toInt = 69 → ((x1.toInt = 82 → (d_isThing S3 r2 ∧ (∃ Q21, w_need S3 (f_isThing S3 r2) Q21 ∧ ∀ S22, Q21 S22 → Q S22))) ∧ (¬ x1.toInt = 82 → (∃ Q9, w_pull S3 Q9 ∧ ∀ r10 S11, Q9 r10 S11 → ((r2.toInt = 3 → ((r10.toInt = 2 → w_takeLetter_J124 Q S11 1) ∧ (¬ r10.toInt = 2 → w_takeLetter_J123 Q S11))) ∧ (¬ r2.toInt = 3 → w_takeLetter_J123 Q S11))))))))))))
set_option maxHeartbeats 2000000 in
set_option maxRecDepth 100000 in
theorem r_takeLetter (l : Launch) (g : Gr) (ad : Nat → Nat) (sz : Nat) (S : MS) (x1 : Int32) (hw : wfM S) (Q : MS → Prop) (h : w_takeLetter S x1 Q) : Met l yX14_takeLetter (wt2 yX14_takeLetter cX14_takeLetter 4 none) ({ frames := 1, cells := 0, slots := 0, locals := 21 }) (va_Pc [.ref (ad 0), .int x1] (st_R g ad sz S)) (va_Qv (fun (u : MS) => Q u ∧ wfM u ∧ shy S u) (fun (u : MS) (t : State) => qE g ad (va_A (Wd g ad S) sz) u t) (va_A (Wd g ad S) sz)) 0 0 (va_A (Wd g ad S) sz) := by
  refine Met.ofW (cc := cX14_takeLetter) (maxL := 4) (ret := none) (by decide) rfl ?_
  intro p e s m args below meth c s₁ B hml hv
  obtain ⟨rfl, hsz, hP, hK, hD0, hex, hE⟩ := hv
  have hx := B.exec
  have hb := B.bytes
  have hr := B.returns
  have hts0 := atoms_spec (ws := wt2 yX14_takeLetter cX14_takeLetter 4 none) B.pre
  have hts : ∀ w ∈ tb2, w.before _ s = true := fun w h => hts0 w (List.mem_cons_of_mem _ h)
  have hown : s.vm.findClass RX14 = some m.cls := findClass_of_methodNamed B.named
  subst hsz
  have hD := hD0.self (sz := s.heap.size)
  generalize hAe : va_A (Wd g ad S) s.heap.size = A at hD hE ⊢
  have hA : ∀ q : Nat, s.heap.size ≤ q → A q := fun q h => by rw [← hAe]; exact Or.inr h
  have hR : Rep g ad A s S s.heap [] := ⟨hK, hP, hD, va_S.rf, hw⟩
  clear hK hP hD hD0
  have hl := lv_entry ([.ref (ad 0), .int x1]) (n := 4) (Nat.le_of_ble_eq_true rfl)
  rw [lg_entry_eq]
  generalize (lg_sl ([.ref (ad 0), .int x1]) ++ List.replicate (4 - (lg_sl ([.ref (ad 0), .int x1])).length) Slot.unset).toArray = ls at hl ⊢
  have hl : lv_has ls 4 [(0, .ref (ad 0)), (1, .int x1)] := hl
  have hsh : shy S S := shy.rf
  unfold w_takeLetter at h
  refine lv_aload_n hx hb dX14_takeLetter_0 rfl (lv_at hl 0 rfl) ?_
  obtain ⟨Q1, h0, h⟩ := h
  have hFc := rfree hR hA
  refine va_calli (va_runV (As := []) (rest := []) ⟨hx, hb, hml, hown, hts⟩ (r_pull l g ad s.heap.size S hR.w  Q1 h0) (cwV 0 hts (gd2_V kx_465 kx_466 kx_467 kx_177 kx_468) rfl rfl rfl (by decide +kernel) ⟨Nat.le_of_ble_eq_true rfl, Nat.le_of_ble_eq_true rfl⟩) ⟨rblind, va_recv hR.K hR.P (ci := 13) (q0 := 0) rfl (hR.at14 hR.w.1), fun U hU hW9 => rmk hU hW9 hR hex hE hFc⟩ rfl rfl hl.1 rfl (lv_room (Nat.le_of_ble_eq_true rfl)) dX14_takeLetter_1 ⟨Nat.le_of_ble_eq_true rfl, Nat.le_of_ble_eq_true rfl⟩) hR.sS (fun q _ h => hFc q h) hFc (fun r2 S3 t9 H1 locs ht9 hvm9 hw9 hB9 hz9 hk9 hS => ?_)
  obtain ⟨hq4, hw9, hs9⟩ := hw9
  have hR : Rep g ad A s S3 H1 locs := hR.call ht9 hB9 hw9 hS hFc
  have hsh := hsh.tr hs9
  replace h := h r2 S3 hq4
  clear hB9 hz9 hk9 hvm9 ht9 hw9 hs9 hS
  generalize H1 = H at hR ⊢
  refine lv_istore_n (lv' := [(2, .int r2), (0, .ref (ad 0)), (1, .int x1)]) hx hb dX14_takeLetter_4 rfl hl (by decide) rfl (fun ls hl => ?_)
  refine lv_iload_n hx hb dX14_takeLetter_5 rfl (lv_at hl 2 rfl) ?_
  refine lv_bipush (v := 73) hx hb dX14_takeLetter_6 (by decide) ?_
  refine lv_icmp_ne (tgt := 28) hx hb dX14_takeLetter_8 (by decide) (fun c5 => ?_) (fun c5 => ?_)
  · replace h := h.2 (k_ne rfl (by decide) c5)
    refine lv_iload_n hx hb dX14_takeLetter_28 rfl (lv_at hl 2 rfl) ?_
    refine lv_bipush (v := 65) hx hb dX14_takeLetter_29 (by decide) ?_
    refine lv_icmp_ne (tgt := 57) hx hb dX14_takeLetter_31 (by decide) (fun c6 => ?_) (fun c6 => ?_)
    · replace h := h.2 (k_ne rfl (by decide) c6)
      refine lv_iload_n hx hb dX14_takeLetter_57 rfl (lv_at hl 2 rfl) ?_
      refine lv_bipush (v := 69) hx hb dX14_takeLetter_58 (by decide) ?_
      refine lv_icmp_ne (tgt := 86) hx hb dX14_takeLetter_60 (by decide) (fun c7 => ?_) (fun c7 => ?_)
      · replace h := h.2 (k_ne rfl (by decide) c7)
        refine lv_iload_n hx hb dX14_takeLetter_86 rfl (lv_at hl 2 rfl) ?_
        refine lv_bipush (v := 82) hx hb dX14_takeLetter_87 (by decide) ?_
        refine lv_icmp_ne (tgt := 103) hx hb dX14_takeLetter_89 (by decide) (fun c8 => ?_) (fun c8 => ?_)
        · replace h := h.2 (k_ne rfl (by decide) c8)
          refine lv_aload_n hx hb dX14_takeLetter_103 rfl (lv_at hl 1 rfl) ?_
          obtain ⟨Q9, h0, h⟩ := h
          have hFc := rfree hR hA
          refine va_calli (va_runV (As := []) (rest := []) ⟨hx, hb, hml, hown, hts⟩ (r_pull l g ad H.size S3 hR.w  Q9 h0) (cwV 0 hts (gd2_V kx_465 kx_466 kx_467 kx_177 kx_468) rfl rfl rfl (by decide +kernel) ⟨Nat.le_of_ble_eq_true rfl, Nat.le_of_ble_eq_true rfl⟩) ⟨rblind, va_recv hR.K hR.P (ci := 13) (q0 := 0) rfl (hR.at14 hR.w.1), fun U hU hW9 => rmk hU hW9 hR hex hE hFc⟩ rfl rfl hl.1 rfl (lv_room (Nat.le_of_ble_eq_true rfl)) dX14_takeLetter_104 ⟨Nat.le_of_ble_eq_true rfl, Nat.le_of_ble_eq_true rfl⟩) hR.sS (fun q _ h => hFc q h) hFc (fun r10 S11 t9 H1 locs ht9 hvm9 hw9 hB9 hz9 hk9 hS => ?_)
          obtain ⟨hq12, hw9, hs9⟩ := hw9
          have hR : Rep g ad A s S11 H1 locs := hR.call ht9 hB9 hw9 hS hFc
          have hsh := hsh.tr hs9
          replace h := h r10 S11 hq12
          clear hB9 hz9 hk9 hvm9 ht9 hw9 hs9 hS
          generalize H1 = H at hR ⊢
          refine lv_istore_n (lv' := [(3, .int r10), (2, .int r2), (0, .ref (ad 0)), (1, .int x1)]) hx hb dX14_takeLetter_107 rfl hl (by decide) rfl (fun ls hl => ?_)
          refine lv_aload_n hx hb dX14_takeLetter_108 rfl (lv_at hl 2 rfl) ?_
          refine lv_iload_n hx hb dX14_takeLetter_109 rfl (lv_at hl 1 rfl) ?_
          refine lv_iconst (v := 3) hx hb dX14_takeLetter_110 (by decide) ?_
          have J_124 : ∀ (U124 : MS) (t124_0 : Int32) (H : Heap) (locs : List Loc) (ls : Array Slot), w_takeLetter_J124 Q U124 t124_0 → (t124_0 = 0 ∨ t124_0 = 1) → shy S U124 → Rep g ad A s U124 H locs → lv_has ls 4 [] → W p l e (headSpec (wt2 yX14_takeLetter cX14_takeLetter 4 none) ({ frames := 1, cells := 0, slots := 0, locals := 21 })).room s m ([.ref (ad 0), .int x1] : List Value).toArray below meth c H locs 0 0 (MQ below (va_Qv (fun (u : MS) => Q u ∧ wfM u ∧ shy S u) (fun (u : MS) (t : State) => qE g ad A u t) A) ([.ref (ad 0), .int x1] : List Value).toArray s 0 0 A) (F0 m 124 ls [.int t124_0, .ref (ad 0)]) := by
            intro U124 t124_0 H locs ls h hz_t124_0 hsh hR hl
            unfold w_takeLetter_J124 at h
            obtain ⟨Q13, h0, h⟩ := h
            have hFc := rfree hR hA
            refine va_callv (va_runV (As := [.int t124_0]) (rest := []) ⟨hx, hb, hml, hown, hts⟩ (r_need l g ad H.size U124 t124_0 hR.w hz_t124_0 Q13 h0) (cwV 1 hts (gd2_V kx_469 kx_470 kx_471 kx_177 kx_472) rfl rfl rfl (by decide +kernel) ⟨Nat.le_of_ble_eq_true rfl, Nat.le_of_ble_eq_true rfl⟩) ⟨rblind, va_recv hR.K hR.P (ci := 13) (q0 := 0) rfl (hR.at14 hR.w.1), fun U hU hW9 => rmk hU hW9 hR hex hE hFc⟩ rfl rfl hl.1 rfl (lv_room (Nat.le_of_ble_eq_true rfl)) dX14_takeLetter_124 ⟨Nat.le_of_ble_eq_true rfl, Nat.le_of_ble_eq_true rfl⟩) hR.sS (fun q _ h => hFc q h) hFc (fun  S14 t9 H1 locs ht9 hvm9 hw9 hB9 hz9 hk9 hS => ?_)
            obtain ⟨hq15, hw9, hs9⟩ := hw9
            have hR : Rep g ad A s S14 H1 locs := hR.call ht9 hB9 hw9 hS hFc
            have hsh := hsh.tr hs9
            replace h := h  S14 hq15
            clear hB9 hz9 hk9 hvm9 ht9 hw9 hs9 hS
            generalize H1 = H at hR ⊢
            exact W.vret hx hb hr (fun t9 ht9 hW9 => ⟨⟨S14, rfl, ⟨h, hR.w, hsh⟩, ⟨by rw [ht9]; exact hR.P, hR.D⟩⟩, hR.sS.F ht9⟩) hR.sS.2.2 dX14_takeLetter_127
          have J_123 : ∀ (U123 : MS) (H : Heap) (locs : List Loc) (ls : Array Slot), w_takeLetter_J123 Q U123 → shy S U123 → Rep g ad A s U123 H locs → lv_has ls 4 [] → W p l e (headSpec (wt2 yX14_takeLetter cX14_takeLetter 4 none) ({ frames := 1, cells := 0, slots := 0, locals := 21 })).room s m ([.ref (ad 0), .int x1] : List Value).toArray below meth c H locs 0 0 (MQ below (va_Qv (fun (u : MS) => Q u ∧ wfM u ∧ shy S u) (fun (u : MS) (t : State) => qE g ad A u t) A) ([.ref (ad 0), .int x1] : List Value).toArray s 0 0 A) (F0 m 123 ls [.ref (ad 0)]) := by
            intro U123 H locs ls h hsh hR hl
            unfold w_takeLetter_J123 at h
            refine lv_iconst (v := 0) hx hb dX14_takeLetter_123 (by decide) ?_
            exact J_124 U123 0 _ _ ls h (Or.inl rfl) hsh hR (lv_sub hl [] rfl)
          refine lv_icmp_ne (tgt := 123) hx hb dX14_takeLetter_111 (by decide) (fun c16 => ?_) (fun c16 => ?_)
          · replace h := h.2 (k_ne rfl (by decide) c16)
            exact J_123 S11 _ _ ls h  hsh hR (lv_sub hl [] rfl)
          · replace h := h.1 (k_eq rfl (by decide) c16)
            refine lv_iload_n hx hb dX14_takeLetter_114 rfl (lv_at hl 0 rfl) ?_
            refine lv_iconst (v := 2) hx hb dX14_takeLetter_115 (by decide) ?_
            refine lv_icmp_ne (tgt := 123) hx hb dX14_takeLetter_116 (by decide) (fun c17 => ?_) (fun c17 => ?_)
            · replace h := h.2 (k_ne rfl (by decide) c17)
              exact J_123 S11 _ _ ls h  hsh hR (lv_sub hl [] rfl)
            · replace h := h.1 (k_eq rfl (by decide) c17)
              refine lv_iconst (v := 1) hx hb dX14_takeLetter_119 (by decide) ?_
              refine lv_goto (tgt := 124) hx hb dX14_takeLetter_120 (by decide) ?_
              exact J_124 S11 1 _ _ ls h (Or.inr rfl) hsh hR (lv_sub hl [] rfl)
        · replace h := h.1 (k_eq rfl (by decide) c8)
          refine lv_aload_n hx hb dX14_takeLetter_92 rfl (lv_at hl 1 rfl) ?_
          refine lv_iload_n hx hb dX14_takeLetter_93 rfl (lv_at hl 0 rfl) ?_
          obtain ⟨hv18, h⟩ := h
          have hFc := rfree hR hA
          refine va_calli (va_runS (As := [.int r2]) (rest := [.ref (ad 0)]) ⟨hx, hb, hml, hown, hts⟩ (r_isThing l g ad H.size S3 r2 hR.w  hv18) (va_cwS 1 hts (gd2_S kx_459 kx_460 kx_177 kx_461) rfl rfl rfl (by decide +kernel) ⟨Nat.le_of_ble_eq_true rfl, Nat.le_of_ble_eq_true rfl⟩) ⟨rblind, fun U hU hW9 => rmk hU hW9 hR hex hE hFc⟩ rfl rfl hl.1 rfl (lv_room (Nat.le_of_ble_eq_true rfl)) dX14_takeLetter_94 ⟨Nat.le_of_ble_eq_true rfl, Nat.le_of_ble_eq_true rfl⟩) hR.sS (fun q _ h => hFc q h) hFc (fun r19 u9 t9 H1 locs ht9 hvm9 hw9 hB9 hz9 hk9 hS => ?_)
          have hR : Rep g ad A s S3 H1 locs := hR.call ht9 hB9 hR.w hS hFc
          obtain ⟨rfl, hz_r19⟩ := hw9
          clear hB9 hz9 hk9 hvm9 ht9 hS
          generalize H1 = H at hR ⊢
          obtain ⟨Q21, h0, h⟩ := h
          have hFc := rfree hR hA
          refine va_callv (va_runV (As := [.int (f_isThing S3 r2)]) (rest := []) ⟨hx, hb, hml, hown, hts⟩ (r_need l g ad H.size S3 (f_isThing S3 r2) hR.w hz_r19 Q21 h0) (cwV 1 hts (gd2_V kx_469 kx_470 kx_471 kx_177 kx_472) rfl rfl rfl (by decide +kernel) ⟨Nat.le_of_ble_eq_true rfl, Nat.le_of_ble_eq_true rfl⟩) ⟨rblind, va_recv hR.K hR.P (ci := 13) (q0 := 0) rfl (hR.at14 hR.w.1), fun U hU hW9 => rmk hU hW9 hR hex hE hFc⟩ rfl rfl hl.1 rfl (lv_room (Nat.le_of_ble_eq_true rfl)) dX14_takeLetter_97 ⟨Nat.le_of_ble_eq_true rfl, Nat.le_of_ble_eq_true rfl⟩) hR.sS (fun q _ h => hFc q h) hFc (fun  S22 t9 H1 locs ht9 hvm9 hw9 hB9 hz9 hk9 hS => ?_)
          obtain ⟨hq23, hw9, hs9⟩ := hw9
          have hR : Rep g ad A s S22 H1 locs := hR.call ht9 hB9 hw9 hS hFc
          have hsh := hsh.tr hs9
          replace h := h  S22 hq23
          clear hB9 hz9 hk9 hvm9 ht9 hw9 hs9 hS
          generalize H1 = H at hR ⊢
          refine lv_goto (tgt := 127) hx hb dX14_takeLetter_100 (by decide) ?_
          exact W.vret hx hb hr (fun t9 ht9 hW9 => ⟨⟨S22, rfl, ⟨h, hR.w, hsh⟩, ⟨by rw [ht9]; exact hR.P, hR.D⟩⟩, hR.sS.F ht9⟩) hR.sS.2.2 dX14_takeLetter_127
      · replace h := h.1 (k_eq rfl (by decide) c7)
        refine lv_aload_n hx hb dX14_takeLetter_63 rfl (lv_at hl 1 rfl) ?_
        refine lv_iload_n hx hb dX14_takeLetter_64 rfl (lv_at hl 0 rfl) ?_
        refine lv_iconst (v := 5) hx hb dX14_takeLetter_65 (by decide) ?_
        have J_80 : ∀ (U80 : MS) (t80_0 : Int32) (H : Heap) (locs : List Loc) (ls : Array Slot), w_takeLetter_J80 Q U80 t80_0 → (t80_0 = 0 ∨ t80_0 = 1) → shy S U80 → Rep g ad A s U80 H locs → lv_has ls 4 [] → W p l e (headSpec (wt2 yX14_takeLetter cX14_takeLetter 4 none) ({ frames := 1, cells := 0, slots := 0, locals := 21 })).room s m ([.ref (ad 0), .int x1] : List Value).toArray below meth c H locs 0 0 (MQ below (va_Qv (fun (u : MS) => Q u ∧ wfM u ∧ shy S u) (fun (u : MS) (t : State) => qE g ad A u t) A) ([.ref (ad 0), .int x1] : List Value).toArray s 0 0 A) (F0 m 80 ls [.int t80_0, .ref (ad 0)]) := by
          intro U80 t80_0 H locs ls h hz_t80_0 hsh hR hl
          unfold w_takeLetter_J80 at h
          obtain ⟨Q24, h0, h⟩ := h
          have hFc := rfree hR hA
          refine va_callv (va_runV (As := [.int t80_0]) (rest := []) ⟨hx, hb, hml, hown, hts⟩ (r_need l g ad H.size U80 t80_0 hR.w hz_t80_0 Q24 h0) (cwV 1 hts (gd2_V kx_469 kx_470 kx_471 kx_177 kx_472) rfl rfl rfl (by decide +kernel) ⟨Nat.le_of_ble_eq_true rfl, Nat.le_of_ble_eq_true rfl⟩) ⟨rblind, va_recv hR.K hR.P (ci := 13) (q0 := 0) rfl (hR.at14 hR.w.1), fun U hU hW9 => rmk hU hW9 hR hex hE hFc⟩ rfl rfl hl.1 rfl (lv_room (Nat.le_of_ble_eq_true rfl)) dX14_takeLetter_80 ⟨Nat.le_of_ble_eq_true rfl, Nat.le_of_ble_eq_true rfl⟩) hR.sS (fun q _ h => hFc q h) hFc (fun  S25 t9 H1 locs ht9 hvm9 hw9 hB9 hz9 hk9 hS => ?_)
          obtain ⟨hq26, hw9, hs9⟩ := hw9
          have hR : Rep g ad A s S25 H1 locs := hR.call ht9 hB9 hw9 hS hFc
          have hsh := hsh.tr hs9
          replace h := h  S25 hq26
          clear hB9 hz9 hk9 hvm9 ht9 hw9 hs9 hS
          generalize H1 = H at hR ⊢
          refine lv_goto (tgt := 127) hx hb dX14_takeLetter_83 (by decide) ?_
          exact W.vret hx hb hr (fun t9 ht9 hW9 => ⟨⟨S25, rfl, ⟨h, hR.w, hsh⟩, ⟨by rw [ht9]; exact hR.P, hR.D⟩⟩, hR.sS.F ht9⟩) hR.sS.2.2 dX14_takeLetter_127
        have J_75 : ∀ (U75 : MS) (H : Heap) (locs : List Loc) (ls : Array Slot), w_takeLetter_J75 Q U75 → shy S U75 → Rep g ad A s U75 H locs → lv_has ls 4 [] → W p l e (headSpec (wt2 yX14_takeLetter cX14_takeLetter 4 none) ({ frames := 1, cells := 0, slots := 0, locals := 21 })).room s m ([.ref (ad 0), .int x1] : List Value).toArray below meth c H locs 0 0 (MQ below (va_Qv (fun (u : MS) => Q u ∧ wfM u ∧ shy S u) (fun (u : MS) (t : State) => qE g ad A u t) A) ([.ref (ad 0), .int x1] : List Value).toArray s 0 0 A) (F0 m 75 ls [.ref (ad 0)]) := by
          intro U75 H locs ls h hsh hR hl
          unfold w_takeLetter_J75 at h
          refine lv_iconst (v := 1) hx hb dX14_takeLetter_75 (by decide) ?_
          refine lv_goto (tgt := 80) hx hb dX14_takeLetter_76 (by decide) ?_
          exact J_80 U75 1 _ _ ls h (Or.inr rfl) hsh hR (lv_sub hl [] rfl)
        refine lv_icmp_eq (tgt := 75) hx hb dX14_takeLetter_66 (by decide) (fun c27 => ?_) (fun c27 => ?_)
        · replace h := h.1 (k_eq rfl (by decide) c27)
          exact J_75 S3 _ _ ls h  hsh hR (lv_sub hl [] rfl)
        · replace h := h.2 (k_ne rfl (by decide) c27)
          refine lv_iload_n hx hb dX14_takeLetter_69 rfl (lv_at hl 0 rfl) ?_
          refine lv_bipush (v := 6) hx hb dX14_takeLetter_70 (by decide) ?_
          refine lv_icmp_ne (tgt := 79) hx hb dX14_takeLetter_72 (by decide) (fun c28 => ?_) (fun c28 => ?_)
          · replace h := h.2 (k_ne rfl (by decide) c28)
            refine lv_iconst (v := 0) hx hb dX14_takeLetter_79 (by decide) ?_
            exact J_80 S3 0 _ _ ls h (Or.inl rfl) hsh hR (lv_sub hl [] rfl)
          · replace h := h.1 (k_eq rfl (by decide) c28)
            exact J_75 S3 _ _ ls h  hsh hR (lv_sub hl [] rfl)
    · replace h := h.1 (k_eq rfl (by decide) c6)
      refine lv_aload_n hx hb dX14_takeLetter_34 rfl (lv_at hl 1 rfl) ?_
      refine lv_iload_n hx hb dX14_takeLetter_35 rfl (lv_at hl 0 rfl) ?_
      refine lv_iconst (v := 4) hx hb dX14_takeLetter_36 (by decide) ?_
      have J_51 : ∀ (U51 : MS) (t51_0 : Int32) (H : Heap) (locs : List Loc) (ls : Array Slot), w_takeLetter_J51 Q U51 t51_0 → (t51_0 = 0 ∨ t51_0 = 1) → shy S U51 → Rep g ad A s U51 H locs → lv_has ls 4 [] → W p l e (headSpec (wt2 yX14_takeLetter cX14_takeLetter 4 none) ({ frames := 1, cells := 0, slots := 0, locals := 21 })).room s m ([.ref (ad 0), .int x1] : List Value).toArray below meth c H locs 0 0 (MQ below (va_Qv (fun (u : MS) => Q u ∧ wfM u ∧ shy S u) (fun (u : MS) (t : State) => qE g ad A u t) A) ([.ref (ad 0), .int x1] : List Value).toArray s 0 0 A) (F0 m 51 ls [.int t51_0, .ref (ad 0)]) := by
        intro U51 t51_0 H locs ls h hz_t51_0 hsh hR hl
        unfold w_takeLetter_J51 at h
        obtain ⟨Q29, h0, h⟩ := h
        have hFc := rfree hR hA
        refine va_callv (va_runV (As := [.int t51_0]) (rest := []) ⟨hx, hb, hml, hown, hts⟩ (r_need l g ad H.size U51 t51_0 hR.w hz_t51_0 Q29 h0) (cwV 1 hts (gd2_V kx_469 kx_470 kx_471 kx_177 kx_472) rfl rfl rfl (by decide +kernel) ⟨Nat.le_of_ble_eq_true rfl, Nat.le_of_ble_eq_true rfl⟩) ⟨rblind, va_recv hR.K hR.P (ci := 13) (q0 := 0) rfl (hR.at14 hR.w.1), fun U hU hW9 => rmk hU hW9 hR hex hE hFc⟩ rfl rfl hl.1 rfl (lv_room (Nat.le_of_ble_eq_true rfl)) dX14_takeLetter_51 ⟨Nat.le_of_ble_eq_true rfl, Nat.le_of_ble_eq_true rfl⟩) hR.sS (fun q _ h => hFc q h) hFc (fun  S30 t9 H1 locs ht9 hvm9 hw9 hB9 hz9 hk9 hS => ?_)
        obtain ⟨hq31, hw9, hs9⟩ := hw9
        have hR : Rep g ad A s S30 H1 locs := hR.call ht9 hB9 hw9 hS hFc
        have hsh := hsh.tr hs9
        replace h := h  S30 hq31
        clear hB9 hz9 hk9 hvm9 ht9 hw9 hs9 hS
        generalize H1 = H at hR ⊢
        refine lv_goto (tgt := 127) hx hb dX14_takeLetter_54 (by decide) ?_
        exact W.vret hx hb hr (fun t9 ht9 hW9 => ⟨⟨S30, rfl, ⟨h, hR.w, hsh⟩, ⟨by rw [ht9]; exact hR.P, hR.D⟩⟩, hR.sS.F ht9⟩) hR.sS.2.2 dX14_takeLetter_127
      have J_46 : ∀ (U46 : MS) (H : Heap) (locs : List Loc) (ls : Array Slot), w_takeLetter_J46 Q U46 → shy S U46 → Rep g ad A s U46 H locs → lv_has ls 4 [] → W p l e (headSpec (wt2 yX14_takeLetter cX14_takeLetter 4 none) ({ frames := 1, cells := 0, slots := 0, locals := 21 })).room s m ([.ref (ad 0), .int x1] : List Value).toArray below meth c H locs 0 0 (MQ below (va_Qv (fun (u : MS) => Q u ∧ wfM u ∧ shy S u) (fun (u : MS) (t : State) => qE g ad A u t) A) ([.ref (ad 0), .int x1] : List Value).toArray s 0 0 A) (F0 m 46 ls [.ref (ad 0)]) := by
        intro U46 H locs ls h hsh hR hl
        unfold w_takeLetter_J46 at h
        refine lv_iconst (v := 1) hx hb dX14_takeLetter_46 (by decide) ?_
        refine lv_goto (tgt := 51) hx hb dX14_takeLetter_47 (by decide) ?_
        exact J_51 U46 1 _ _ ls h (Or.inr rfl) hsh hR (lv_sub hl [] rfl)
      refine lv_icmp_eq (tgt := 46) hx hb dX14_takeLetter_37 (by decide) (fun c32 => ?_) (fun c32 => ?_)
      · replace h := h.1 (k_eq rfl (by decide) c32)
        exact J_46 S3 _ _ ls h  hsh hR (lv_sub hl [] rfl)
      · replace h := h.2 (k_ne rfl (by decide) c32)
        refine lv_iload_n hx hb dX14_takeLetter_40 rfl (lv_at hl 0 rfl) ?_
        refine lv_bipush (v := 6) hx hb dX14_takeLetter_41 (by decide) ?_
        refine lv_icmp_ne (tgt := 50) hx hb dX14_takeLetter_43 (by decide) (fun c33 => ?_) (fun c33 => ?_)
        · replace h := h.2 (k_ne rfl (by decide) c33)
          refine lv_iconst (v := 0) hx hb dX14_takeLetter_50 (by decide) ?_
          exact J_51 S3 0 _ _ ls h (Or.inl rfl) hsh hR (lv_sub hl [] rfl)
        · replace h := h.1 (k_eq rfl (by decide) c33)
          exact J_46 S3 _ _ ls h  hsh hR (lv_sub hl [] rfl)
  · replace h := h.1 (k_eq rfl (by decide) c5)
    refine lv_aload_n hx hb dX14_takeLetter_11 rfl (lv_at hl 1 rfl) ?_
    refine lv_iload_n hx hb dX14_takeLetter_12 rfl (lv_at hl 0 rfl) ?_
    refine lv_iconst (v := 1) hx hb dX14_takeLetter_13 (by decide) ?_
    have J_22 : ∀ (U22 : MS) (t22_0 : Int32) (H : Heap) (locs : List Loc) (ls : Array Slot), w_takeLetter_J22 Q U22 t22_0 → (t22_0 = 0 ∨ t22_0 = 1) → shy S U22 → Rep g ad A s U22 H locs → lv_has ls 4 [] → W p l e (headSpec (wt2 yX14_takeLetter cX14_takeLetter 4 none) ({ frames := 1, cells := 0, slots := 0, locals := 21 })).room s m ([.ref (ad 0), .int x1] : List Value).toArray below meth c H locs 0 0 (MQ below (va_Qv (fun (u : MS) => Q u ∧ wfM u ∧ shy S u) (fun (u : MS) (t : State) => qE g ad A u t) A) ([.ref (ad 0), .int x1] : List Value).toArray s 0 0 A) (F0 m 22 ls [.int t22_0, .ref (ad 0)]) := by
      intro U22 t22_0 H locs ls h hz_t22_0 hsh hR hl
      unfold w_takeLetter_J22 at h
      obtain ⟨Q34, h0, h⟩ := h
      have hFc := rfree hR hA
      refine va_callv (va_runV (As := [.int t22_0]) (rest := []) ⟨hx, hb, hml, hown, hts⟩ (r_need l g ad H.size U22 t22_0 hR.w hz_t22_0 Q34 h0) (cwV 1 hts (gd2_V kx_469 kx_470 kx_471 kx_177 kx_472) rfl rfl rfl (by decide +kernel) ⟨Nat.le_of_ble_eq_true rfl, Nat.le_of_ble_eq_true rfl⟩) ⟨rblind, va_recv hR.K hR.P (ci := 13) (q0 := 0) rfl (hR.at14 hR.w.1), fun U hU hW9 => rmk hU hW9 hR hex hE hFc⟩ rfl rfl hl.1 rfl (lv_room (Nat.le_of_ble_eq_true rfl)) dX14_takeLetter_22 ⟨Nat.le_of_ble_eq_true rfl, Nat.le_of_ble_eq_true rfl⟩) hR.sS (fun q _ h => hFc q h) hFc (fun  S35 t9 H1 locs ht9 hvm9 hw9 hB9 hz9 hk9 hS => ?_)
      obtain ⟨hq36, hw9, hs9⟩ := hw9
      have hR : Rep g ad A s S35 H1 locs := hR.call ht9 hB9 hw9 hS hFc
      have hsh := hsh.tr hs9
      replace h := h  S35 hq36
      clear hB9 hz9 hk9 hvm9 ht9 hw9 hs9 hS
      generalize H1 = H at hR ⊢
      refine lv_goto (tgt := 127) hx hb dX14_takeLetter_25 (by decide) ?_
      exact W.vret hx hb hr (fun t9 ht9 hW9 => ⟨⟨S35, rfl, ⟨h, hR.w, hsh⟩, ⟨by rw [ht9]; exact hR.P, hR.D⟩⟩, hR.sS.F ht9⟩) hR.sS.2.2 dX14_takeLetter_127
    refine lv_icmp_ne (tgt := 21) hx hb dX14_takeLetter_14 (by decide) (fun c37 => ?_) (fun c37 => ?_)
    · replace h := h.2 (k_ne rfl (by decide) c37)
      refine lv_iconst (v := 0) hx hb dX14_takeLetter_21 (by decide) ?_
      exact J_22 S3 0 _ _ ls h (Or.inl rfl) hsh hR (lv_sub hl [] rfl)
    · replace h := h.1 (k_eq rfl (by decide) c37)
      refine lv_iconst (v := 1) hx hb dX14_takeLetter_17 (by decide) ?_
      refine lv_goto (tgt := 22) hx hb dX14_takeLetter_18 (by decide) ?_
      exact J_22 S3 1 _ _ ls h (Or.inr rfl) hsh hR (lv_sub hl [] rfl)
def w_giveLetters_J76 (Q : MS → Prop) (k2 : MS → Nat → Int32 → Int32 → Prop) (U76 : MS) (v76_1 : Nat) (v76_2 : Int32) (v76_3 : Int32) : Prop := (∀ a6 : Int32, a6 = (v76_3 + Int32.ofInt 1) → k2 U76 v76_1 v76_2 a6)
def w_giveLetters_J73 (Q : MS → Prop) (k2 : MS → Nat → Int32 → Int32 → Prop) (U73 : MS) (t73_0 : Int32) (v73_1 : Nat) (v73_2 : Int32) (v73_3 : Int32) : Prop := (∃ Q8, w_push U73 t73_0 Q8 ∧ ∀ S9, Q8 S9 → w_giveLetters_J76 Q k2 S9 v73_1 v73_2 v73_3)
def w_giveLetters_L2 (Q : MS → Prop) : Nat → MS → Nat → Int32 → Int32 → Prop
  | 0, _, _, _, _ => False
  | n2 + 1, U2, v2_1, v2_2, v2_3 => (((Int32.ofNat (qN U2 (v2_1 + 1))).toInt ≤ v2_3.toInt → Q U2) ∧ (¬ (Int32.ofNat (qN U2 (v2_1 + 1))).toInt ≤ v2_3.toInt → (((0 : Int) ≤ v2_3.toInt ∧ v2_3.toInt < (qN U2 (v2_1 + 1) : Int)) ∧ (∀ a5 : Int32, a5 = (cAt U2 v2_1 v2_3) → ((a5.toInt = 74 → (∃ Q14, w_push U2 (2 : Int32) Q14 ∧ ∀ S15, Q14 S15 → (∃ Q17, w_push S15 (3 : Int32) Q17 ∧ ∀ S18, Q17 S18 → w_giveLetters_J76 Q (w_giveLetters_L2 Q n2) S18 v2_1 v2_2 v2_3))) ∧ (¬ a5.toInt = 74 → ((a5.toInt = 73 → w_giveLetters_J73 Q (w_giveLetters_L2 Q n2) U2 1 v2_1 v2_2 v2_3) ∧ (¬ a5.toInt = 73 → ((a5.toInt = 65 → w_giveLetters_J73 Q (w_giveLetters_L2 Q n2) U2 4 v2_1 v2_2 v2_3) ∧ (¬ a5.toInt = 65 → ((a5.toInt = 78 → w_giveLetters_J73 Q (w_giveLetters_L2 Q n2) U2 6 v2_1 v2_2 v2_3) ∧ (¬ a5.toInt = 78 → w_giveLetters_J73 Q (w_giveLetters_L2 Q n2) U2 v2_2 v2_1 v2_2 v2_3))))))))))))
def w_giveLetters (S : MS) (p1 : Nat) (x2 : Int32) (Q : MS → Prop) : Prop := (∃ n, w_giveLetters_L2 Q n S p1 x2 0)
set_option maxHeartbeats 2000000 in
set_option maxRecDepth 100000 in
theorem r_giveLetters (l : Launch) (g : Gr) (ad : Nat → Nat) (sz : Nat) (S : MS) (p1 : Nat) (x2 : Int32) (hw : wfM S) (hT_p1 : qT S p1 = 12) (Q : MS → Prop) (h : w_giveLetters S p1 x2 Q) : Met l yX14_giveLetters (wt2 yX14_giveLetters cX14_giveLetters 5 none) ({ frames := 4, cells := 0, slots := 0, locals := 85 }) (va_Pc [.ref (ad 0), .ref (ad p1), .int x2] (st_R g ad sz S)) (va_Qv (fun (u : MS) => Q u ∧ wfM u ∧ shy S u) (fun (u : MS) (t : State) => qE g ad (va_A (Wd g ad S) sz) u t) (va_A (Wd g ad S) sz)) 0 0 (va_A (Wd g ad S) sz) := by
  refine Met.ofW (cc := cX14_giveLetters) (maxL := 5) (ret := none) (by decide) rfl ?_
  intro p e s m args below meth c s₁ B hml hv
  obtain ⟨rfl, hsz, hP, hK, hD0, hex, hE⟩ := hv
  have hx := B.exec
  have hb := B.bytes
  have hr := B.returns
  have hts0 := atoms_spec (ws := wt2 yX14_giveLetters cX14_giveLetters 5 none) B.pre
  have hts : ∀ w ∈ tb2, w.before _ s = true := fun w h => hts0 w (List.mem_cons_of_mem _ h)
  have hown : s.vm.findClass RX14 = some m.cls := findClass_of_methodNamed B.named
  subst hsz
  have hD := hD0.self (sz := s.heap.size)
  generalize hAe : va_A (Wd g ad S) s.heap.size = A at hD hE ⊢
  have hA : ∀ q : Nat, s.heap.size ≤ q → A q := fun q h => by rw [← hAe]; exact Or.inr h
  have hR : Rep g ad A s S s.heap [] := ⟨hK, hP, hD, va_S.rf, hw⟩
  clear hK hP hD hD0
  have hl := lv_entry ([.ref (ad 0), .ref (ad p1), .int x2]) (n := 5) (Nat.le_of_ble_eq_true rfl)
  rw [lg_entry_eq]
  generalize (lg_sl ([.ref (ad 0), .ref (ad p1), .int x2]) ++ List.replicate (5 - (lg_sl ([.ref (ad 0), .ref (ad p1), .int x2])).length) Slot.unset).toArray = ls at hl ⊢
  have hl : lv_has ls 5 [(0, .ref (ad 0)), (1, .ref (ad p1)), (2, .int x2)] := hl
  have hsh : shy S S := shy.rf
  unfold w_giveLetters at h
  refine lv_iconst (v := 0) hx hb dX14_giveLetters_0 (by decide) ?_
  refine lv_istore_n (lv' := [(3, .int 0), (0, .ref (ad 0)), (1, .ref (ad p1)), (2, .int x2)]) hx hb dX14_giveLetters_1 rfl hl (by decide) rfl (fun ls hl => ?_)
  have J_2 : ∀ (n2 : Nat) (U2 : MS) (v2_1 : Nat) (v2_2 : Int32) (v2_3 : Int32) (H : Heap) (locs : List Loc) (ls : Array Slot), w_giveLetters_L2 Q n2 U2 v2_1 v2_2 v2_3 → qT U2 v2_1 = 12 → shy S U2 → Rep g ad A s U2 H locs → lv_has ls 5 [(0, .ref (ad 0)), (1, .ref (ad v2_1)), (2, .int v2_2), (3, .int v2_3)] → W p l e (headSpec (wt2 yX14_giveLetters cX14_giveLetters 5 none) ({ frames := 4, cells := 0, slots := 0, locals := 85 })).room s m ([.ref (ad 0), .ref (ad p1), .int x2] : List Value).toArray below meth c H locs 0 0 (MQ below (va_Qv (fun (u : MS) => Q u ∧ wfM u ∧ shy S u) (fun (u : MS) (t : State) => qE g ad A u t) A) ([.ref (ad 0), .ref (ad p1), .int x2] : List Value).toArray s 0 0 A) (F0 m 2 ls []) := by
    intro n2
    induction n2 with
    | zero => intro U2 v2_1 v2_2 v2_3 H locs ls h hT_v2_1 hsh hR hl; unfold w_giveLetters_L2 at h; exact h.elim
    | succ n2 ih_2 =>
      intro U2 v2_1 v2_2 v2_3 H locs ls h hT_v2_1 hsh hR hl
      unfold w_giveLetters_L2 at h
      refine lv_iload_n hx hb dX14_giveLetters_2 rfl (lv_at hl 3 rfl) ?_
      refine lv_aload_n hx hb dX14_giveLetters_3 rfl (lv_at hl 1 rfl) ?_
      have hF : ∀ q, Ns H.size q → A q := fun q h => hA q (Nat.le_trans hR.sS.1 h)
      refine va_calli (va_runV (As := []) (rest := [.int v2_3]) ⟨hx, hb, hml, hown, hts⟩ (s_length l H.size (ad v2_1) (ad (v2_1 + 1)) (qN U2 (v2_1 + 1)) (qI U2 (v2_1 + 1))) (cwV 0 hts (gd2_V kx_248 kx_143 kx_144 kx_6 kx_145) rfl rfl rfl (by decide +kernel) ⟨Nat.le_of_ble_eq_true rfl, Nat.le_of_ble_eq_true rfl⟩) ⟨tblind (fun A u U H hv h => by exact tx1.moved hv h), (strR hts hR hE hA hT_v2_1), fun U hU hW9 => ⟨rfl, by rw [hU], str_at hts hR hE hA hT_v2_1 hU hW9, by rw [hU]; exact ((hE.1.kept hR.sS.2.1).narrow hF).moved hW9.alike⟩⟩ rfl rfl hl.1 rfl (lv_room (Nat.le_of_ble_eq_true rfl)) dX14_giveLetters_4 ⟨Nat.le_of_ble_eq_true rfl, Nat.le_of_ble_eq_true rfl⟩) hR.sS (fun q _ h => hF q h) hF (fun r1 u9 t9 H1 locs ht9 hvm9 hw9 hB9 hz9 hk9 hS => ?_)
      obtain rfl : r1 = (Int32.ofNat (qN U2 (v2_1 + 1))) := hw9
      have hR : Rep g ad A s U2 H1 locs := hR.keep hk9 hS
      clear hz9 hk9 hvm9 ht9 hB9 hF hS
      generalize H1 = H at hR ⊢
      refine lv_icmp_ge (tgt := 82) hx hb dX14_giveLetters_7 (by decide) (fun c2 => ?_) (fun c2 => ?_)
      · replace h := h.1 (k_le rfl rfl c2)
        exact W.vret hx hb hr (fun t9 ht9 hW9 => ⟨⟨U2, rfl, ⟨h, hR.w, hsh⟩, ⟨by rw [ht9]; exact hR.P, hR.D⟩⟩, hR.sS.F ht9⟩) hR.sS.2.2 dX14_giveLetters_82
      · replace h := h.2 (k_nle rfl rfl c2)
        refine lv_aload_n hx hb dX14_giveLetters_10 rfl (lv_at hl 1 rfl) ?_
        refine lv_iload_n hx hb dX14_giveLetters_11 rfl (lv_at hl 3 rfl) ?_
        obtain ⟨hv3, h⟩ := h
        have hF : ∀ q, Ns H.size q → A q := fun q h => hA q (Nat.le_trans hR.sS.1 h)
        refine va_calli (va_runV (As := [.int v2_3]) (rest := []) ⟨hx, hb, hml, hown, hts⟩ (s_charAt l H.size (ad v2_1) (ad (v2_1 + 1)) (qN U2 (v2_1 + 1)) (qI U2 (v2_1 + 1)) v2_3 (hR.w.len hT_v2_1) hv3) (cwV 1 hts (gd2_V kx_249 kx_250 kx_251 kx_6 kx_252) rfl rfl rfl (by decide +kernel) ⟨Nat.le_of_ble_eq_true rfl, Nat.le_of_ble_eq_true rfl⟩) ⟨tblind (fun A u U H hv h => by exact tx1.moved hv h), (strR hts hR hE hA hT_v2_1), fun U hU hW9 => ⟨rfl, by rw [hU], str_at hts hR hE hA hT_v2_1 hU hW9, by rw [hU]; exact ((hE.1.kept hR.sS.2.1).narrow hF).moved hW9.alike⟩⟩ rfl rfl hl.1 rfl (lv_room (Nat.le_of_ble_eq_true rfl)) dX14_giveLetters_12 ⟨Nat.le_of_ble_eq_true rfl, Nat.le_of_ble_eq_true rfl⟩) hR.sS (fun q _ h => hF q h) hF (fun r4 u9 t9 H1 locs ht9 hvm9 hw9 hB9 hz9 hk9 hS => ?_)
        obtain rfl : r4 = (cAt U2 v2_1 v2_3) := hw9
        have hR : Rep g ad A s U2 H1 locs := hR.keep hk9 hS
        clear hz9 hk9 hvm9 ht9 hB9 hF hS
        generalize H1 = H at hR ⊢
        obtain ⟨a5, ea5⟩ : ∃ z, z = (cAt U2 v2_1 v2_3) := ⟨_, rfl⟩
        rw [← ea5]
        replace h := h a5 ea5
        refine lv_istore (lv' := [(4, .int a5), (0, .ref (ad 0)), (1, .ref (ad v2_1)), (2, .int v2_2), (3, .int v2_3)]) hx hb dX14_giveLetters_15 hl (by decide) rfl (fun ls hl => ?_)
        refine lv_iload hx hb dX14_giveLetters_17 (lv_at hl 0 rfl) ?_
        refine lv_bipush (v := 74) hx hb dX14_giveLetters_19 (by decide) ?_
        have J_76 : ∀ (U76 : MS) (v76_1 : Nat) (v76_2 : Int32) (v76_3 : Int32) (H : Heap) (locs : List Loc) (ls : Array Slot), w_giveLetters_J76 Q (w_giveLetters_L2 Q n2) U76 v76_1 v76_2 v76_3 → qT U76 v76_1 = 12 → shy S U76 → Rep g ad A s U76 H locs → lv_has ls 5 [(0, .ref (ad 0)), (1, .ref (ad v76_1)), (2, .int v76_2), (3, .int v76_3)] → W p l e (headSpec (wt2 yX14_giveLetters cX14_giveLetters 5 none) ({ frames := 4, cells := 0, slots := 0, locals := 85 })).room s m ([.ref (ad 0), .ref (ad p1), .int x2] : List Value).toArray below meth c H locs 0 0 (MQ below (va_Qv (fun (u : MS) => Q u ∧ wfM u ∧ shy S u) (fun (u : MS) (t : State) => qE g ad A u t) A) ([.ref (ad 0), .ref (ad p1), .int x2] : List Value).toArray s 0 0 A) (F0 m 76 ls []) := by
          intro U76 v76_1 v76_2 v76_3 H locs ls h hT_v76_1 hsh hR hl
          unfold w_giveLetters_J76 at h
          obtain ⟨a6, ea6⟩ : ∃ z, z = (v76_3 + Int32.ofInt 1) := ⟨_, rfl⟩
          replace h := h a6 ea6
          refine lv_iinc (v := a6) (lv' := [(3, .int a6), (0, .ref (ad 0)), (1, .ref (ad v76_1)), (2, .int v76_2)]) hx hb dX14_giveLetters_76 hl (k := 3) rfl ea6.symm (by decide) rfl (fun ls hl => ?_)
          refine lv_goto (tgt := 2) hx hb dX14_giveLetters_79 (by decide) ?_
          exact ih_2 U76 v76_1 v76_2 a6 _ _ ls h hT_v76_1 hsh hR (lv_sub hl [1, 2, 3, 0] rfl)
        refine lv_icmp_ne (tgt := 37) hx hb dX14_giveLetters_21 (by decide) (fun c7 => ?_) (fun c7 => ?_)
        · replace h := h.2 (k_ne rfl (by decide) c7)
          refine lv_aload_n hx hb dX14_giveLetters_37 rfl (lv_at hl 1 rfl) ?_
          refine lv_iload hx hb dX14_giveLetters_38 (lv_at hl 0 rfl) ?_
          refine lv_bipush (v := 73) hx hb dX14_giveLetters_40 (by decide) ?_
          have J_73 : ∀ (U73 : MS) (t73_0 : Int32) (v73_1 : Nat) (v73_2 : Int32) (v73_3 : Int32) (H : Heap) (locs : List Loc) (ls : Array Slot), w_giveLetters_J73 Q (w_giveLetters_L2 Q n2) U73 t73_0 v73_1 v73_2 v73_3 → qT U73 v73_1 = 12 → shy S U73 → Rep g ad A s U73 H locs → lv_has ls 5 [(0, .ref (ad 0)), (1, .ref (ad v73_1)), (2, .int v73_2), (3, .int v73_3)] → W p l e (headSpec (wt2 yX14_giveLetters cX14_giveLetters 5 none) ({ frames := 4, cells := 0, slots := 0, locals := 85 })).room s m ([.ref (ad 0), .ref (ad p1), .int x2] : List Value).toArray below meth c H locs 0 0 (MQ below (va_Qv (fun (u : MS) => Q u ∧ wfM u ∧ shy S u) (fun (u : MS) (t : State) => qE g ad A u t) A) ([.ref (ad 0), .ref (ad p1), .int x2] : List Value).toArray s 0 0 A) (F0 m 73 ls [.int t73_0, .ref (ad 0)]) := by
            intro U73 t73_0 v73_1 v73_2 v73_3 H locs ls h hT_v73_1 hsh hR hl
            unfold w_giveLetters_J73 at h
            obtain ⟨Q8, h0, h⟩ := h
            have hFc := rfree hR hA
            refine va_callv (va_runV (As := [.int t73_0]) (rest := []) ⟨hx, hb, hml, hown, hts⟩ (r_push l g ad H.size U73 t73_0 hR.w  Q8 h0) (cwV 1 hts (gd2_V kx_473 kx_474 kx_475 kx_177 kx_476) rfl rfl rfl (by decide +kernel) ⟨Nat.le_of_ble_eq_true rfl, Nat.le_of_ble_eq_true rfl⟩) ⟨rblind, va_recv hR.K hR.P (ci := 13) (q0 := 0) rfl (hR.at14 hR.w.1), fun U hU hW9 => rmk hU hW9 hR hex hE hFc⟩ rfl rfl hl.1 rfl (lv_room (Nat.le_of_ble_eq_true rfl)) dX14_giveLetters_73 ⟨Nat.le_of_ble_eq_true rfl, Nat.le_of_ble_eq_true rfl⟩) hR.sS (fun q _ h => hFc q h) hFc (fun  S9 t9 H1 locs ht9 hvm9 hw9 hB9 hz9 hk9 hS => ?_)
            obtain ⟨hq10, hw9, hs9⟩ := hw9
            have hR : Rep g ad A s S9 H1 locs := hR.call ht9 hB9 hw9 hS hFc
            have hsh := hsh.tr hs9
            replace h := h  S9 hq10
            have hT_v73_1 := hs9.T hT_v73_1 (by decide)
            clear hB9 hz9 hk9 hvm9 ht9 hw9 hs9 hS
            generalize H1 = H at hR ⊢
            exact J_76 S9 v73_1 v73_2 v73_3 _ _ ls h hT_v73_1 hsh hR (lv_sub hl [0, 1, 2, 3] rfl)
          refine lv_icmp_ne (tgt := 49) hx hb dX14_giveLetters_42 (by decide) (fun c11 => ?_) (fun c11 => ?_)
          · replace h := h.2 (k_ne rfl (by decide) c11)
            refine lv_iload hx hb dX14_giveLetters_49 (lv_at hl 0 rfl) ?_
            refine lv_bipush (v := 65) hx hb dX14_giveLetters_51 (by decide) ?_
            refine lv_icmp_ne (tgt := 60) hx hb dX14_giveLetters_53 (by decide) (fun c12 => ?_) (fun c12 => ?_)
            · replace h := h.2 (k_ne rfl (by decide) c12)
              refine lv_iload hx hb dX14_giveLetters_60 (lv_at hl 0 rfl) ?_
              refine lv_bipush (v := 78) hx hb dX14_giveLetters_62 (by decide) ?_
              refine lv_icmp_ne (tgt := 72) hx hb dX14_giveLetters_64 (by decide) (fun c13 => ?_) (fun c13 => ?_)
              · replace h := h.2 (k_ne rfl (by decide) c13)
                refine lv_iload_n hx hb dX14_giveLetters_72 rfl (lv_at hl 3 rfl) ?_
                exact J_73 U2 v2_2 v2_1 v2_2 v2_3 _ _ ls h hT_v2_1 hsh hR (lv_sub hl [1, 2, 3, 4] rfl)
              · replace h := h.1 (k_eq rfl (by decide) c13)
                refine lv_bipush (v := 6) hx hb dX14_giveLetters_67 (by decide) ?_
                refine lv_goto (tgt := 73) hx hb dX14_giveLetters_69 (by decide) ?_
                exact J_73 U2 6 v2_1 v2_2 v2_3 _ _ ls h hT_v2_1 hsh hR (lv_sub hl [1, 2, 3, 4] rfl)
            · replace h := h.1 (k_eq rfl (by decide) c12)
              refine lv_iconst (v := 4) hx hb dX14_giveLetters_56 (by decide) ?_
              refine lv_goto (tgt := 73) hx hb dX14_giveLetters_57 (by decide) ?_
              exact J_73 U2 4 v2_1 v2_2 v2_3 _ _ ls h hT_v2_1 hsh hR (lv_sub hl [1, 2, 3, 4] rfl)
          · replace h := h.1 (k_eq rfl (by decide) c11)
            refine lv_iconst (v := 1) hx hb dX14_giveLetters_45 (by decide) ?_
            refine lv_goto (tgt := 73) hx hb dX14_giveLetters_46 (by decide) ?_
            exact J_73 U2 1 v2_1 v2_2 v2_3 _ _ ls h hT_v2_1 hsh hR (lv_sub hl [1, 2, 3, 4] rfl)
        · replace h := h.1 (k_eq rfl (by decide) c7)
          refine lv_aload_n hx hb dX14_giveLetters_24 rfl (lv_at hl 1 rfl) ?_
          refine lv_iconst (v := 2) hx hb dX14_giveLetters_25 (by decide) ?_
          obtain ⟨Q14, h0, h⟩ := h
          have hFc := rfree hR hA
          refine va_callv (va_runV (As := [.int 2]) (rest := []) ⟨hx, hb, hml, hown, hts⟩ (r_push l g ad H.size U2 (2 : Int32) hR.w  Q14 h0) (cwV 1 hts (gd2_V kx_473 kx_474 kx_475 kx_177 kx_476) rfl rfl rfl (by decide +kernel) ⟨Nat.le_of_ble_eq_true rfl, Nat.le_of_ble_eq_true rfl⟩) ⟨rblind, va_recv hR.K hR.P (ci := 13) (q0 := 0) rfl (hR.at14 hR.w.1), fun U hU hW9 => rmk hU hW9 hR hex hE hFc⟩ rfl rfl hl.1 rfl (lv_room (Nat.le_of_ble_eq_true rfl)) dX14_giveLetters_26 ⟨Nat.le_of_ble_eq_true rfl, Nat.le_of_ble_eq_true rfl⟩) hR.sS (fun q _ h => hFc q h) hFc (fun  S15 t9 H1 locs ht9 hvm9 hw9 hB9 hz9 hk9 hS => ?_)
          obtain ⟨hq16, hw9, hs9⟩ := hw9
          have hR : Rep g ad A s S15 H1 locs := hR.call ht9 hB9 hw9 hS hFc
          have hsh := hsh.tr hs9
          replace h := h  S15 hq16
          have hT_v2_1 := hs9.T hT_v2_1 (by decide)
          clear hB9 hz9 hk9 hvm9 ht9 hw9 hs9 hS
          generalize H1 = H at hR ⊢
          refine lv_aload_n hx hb dX14_giveLetters_29 rfl (lv_at hl 1 rfl) ?_
          refine lv_iconst (v := 3) hx hb dX14_giveLetters_30 (by decide) ?_
          obtain ⟨Q17, h0, h⟩ := h
          have hFc := rfree hR hA
          refine va_callv (va_runV (As := [.int 3]) (rest := []) ⟨hx, hb, hml, hown, hts⟩ (r_push l g ad H.size S15 (3 : Int32) hR.w  Q17 h0) (cwV 1 hts (gd2_V kx_473 kx_474 kx_475 kx_177 kx_476) rfl rfl rfl (by decide +kernel) ⟨Nat.le_of_ble_eq_true rfl, Nat.le_of_ble_eq_true rfl⟩) ⟨rblind, va_recv hR.K hR.P (ci := 13) (q0 := 0) rfl (hR.at14 hR.w.1), fun U hU hW9 => rmk hU hW9 hR hex hE hFc⟩ rfl rfl hl.1 rfl (lv_room (Nat.le_of_ble_eq_true rfl)) dX14_giveLetters_31 ⟨Nat.le_of_ble_eq_true rfl, Nat.le_of_ble_eq_true rfl⟩) hR.sS (fun q _ h => hFc q h) hFc (fun  S18 t9 H1 locs ht9 hvm9 hw9 hB9 hz9 hk9 hS => ?_)
          obtain ⟨hq19, hw9, hs9⟩ := hw9
          have hR : Rep g ad A s S18 H1 locs := hR.call ht9 hB9 hw9 hS hFc
          have hsh := hsh.tr hs9
          replace h := h  S18 hq19
          have hT_v2_1 := hs9.T hT_v2_1 (by decide)
          clear hB9 hz9 hk9 hvm9 ht9 hw9 hs9 hS
          generalize H1 = H at hR ⊢
          refine lv_goto (tgt := 76) hx hb dX14_giveLetters_34 (by decide) ?_
          exact J_76 S18 v2_1 v2_2 v2_3 _ _ ls h hT_v2_1 hsh hR (lv_sub hl [1, 2, 3, 4] rfl)
  obtain ⟨n9, h⟩ := h
  exact J_2 n9 S p1 x2 0 _ _ ls h hT_p1 hsh hR (lv_sub hl [1, 2, 3, 0] rfl)
def w_setLocal (S : MS) (x1 : Int32) (x2 : Int32) (Q : MS → Prop) : Prop := (((0 : Int) ≤ x1.toInt ∧ x1.toInt < 24) ∧ (∀ S2, S2 = wI S 25 x1.toInt.toNat (vp_nar .byte (x2.toInt8.toInt32)) → Q S2))
set_option maxHeartbeats 2000000 in
set_option maxRecDepth 100000 in
theorem r_setLocal (l : Launch) (g : Gr) (ad : Nat → Nat) (sz : Nat) (S : MS) (x1 : Int32) (x2 : Int32) (hw : wfM S) (Q : MS → Prop) (h : w_setLocal S x1 x2 Q) : Met l yX14_setLocal (wt2 yX14_setLocal cX14_setLocal 3 none) ({ frames := 0, cells := 0, slots := 0, locals := 0 }) (va_Pc [.ref (ad 0), .int x1, .int x2] (st_R g ad sz S)) (va_Qv (fun (u : MS) => Q u ∧ wfM u ∧ shy S u) (fun (u : MS) (t : State) => qE g ad (va_A (Wd g ad S) sz) u t) (va_A (Wd g ad S) sz)) 0 0 (va_A (Wd g ad S) sz) := by
  refine Met.ofW (cc := cX14_setLocal) (maxL := 3) (ret := none) (by decide) rfl ?_
  intro p e s m args below meth c s₁ B hml hv
  obtain ⟨rfl, hsz, hP, hK, hD0, hex, hE⟩ := hv
  have hx := B.exec
  have hb := B.bytes
  have hr := B.returns
  have hts0 := atoms_spec (ws := wt2 yX14_setLocal cX14_setLocal 3 none) B.pre
  have hts : ∀ w ∈ tb2, w.before _ s = true := fun w h => hts0 w (List.mem_cons_of_mem _ h)
  have hown : s.vm.findClass RX14 = some m.cls := findClass_of_methodNamed B.named
  subst hsz
  have hD := hD0.self (sz := s.heap.size)
  generalize hAe : va_A (Wd g ad S) s.heap.size = A at hD hE ⊢
  have hA : ∀ q : Nat, s.heap.size ≤ q → A q := fun q h => by rw [← hAe]; exact Or.inr h
  have hR : Rep g ad A s S s.heap [] := ⟨hK, hP, hD, va_S.rf, hw⟩
  clear hK hP hD hD0
  have hl := lv_entry ([.ref (ad 0), .int x1, .int x2]) (n := 3) (Nat.le_of_ble_eq_true rfl)
  rw [lg_entry_eq]
  generalize (lg_sl ([.ref (ad 0), .int x1, .int x2]) ++ List.replicate (3 - (lg_sl ([.ref (ad 0), .int x1, .int x2])).length) Slot.unset).toArray = ls at hl ⊢
  have hl : lv_has ls 3 [(0, .ref (ad 0)), (1, .int x1), (2, .int x2)] := hl
  have hsh : shy S S := shy.rf
  unfold w_setLocal at h
  refine lv_aload_n hx hb dX14_setLocal_0 rfl (lv_at hl 0 rfl) ?_
  refine va_get (D := rD g) (ci := 13) (v := .ref (ad 25)) (C := RX14) (T := TX14) (N := 143) hx hb hts in2X14 hown hR.K hR.P 0 (hR.at14 hR.w.1) rfl 60 (by decide) (hts _ kx_477) (fun _ h9 => h9) (congrArg (fun z => some (vf ad z)) (hR.w.2.1 _ fin_60).1) dX14_setLocal_1 ?_
  refine lv_iload_n hx hb dX14_setLocal_4 rfl (lv_at hl 1 rfl) ?_
  refine lv_iload_n hx hb dX14_setLocal_5 rfl (lv_at hl 2 rfl) ?_
  refine lv_i2b (v := (x2.toInt8.toInt32)) hx hb dX14_setLocal_6 rfl ?_
  obtain ⟨hv1, h⟩ := h
  refine va_bast hx hb hR.K hR.P hR.D hR.sS 25 0 (hR.atB (hR.w.2.1 _ fin_60).2.1) rfl (k_ixN (k_ix (n := 24) (x := x1) (a := x1.toInt) rfl hv1) (hR.w.2.1 _ fin_60).2.2) dX14_setLocal_7 (fun H locs hP hD hS => ?_)
  have hR : Rep g ad A s (wI S 25 x1.toInt.toNat (vp_nar .byte (x2.toInt8.toInt32))) H locs := hR.aB (hR.w.2.1 _ fin_60).2.1 hP hD hS
  obtain ⟨S2, eS2⟩ : ∃ z, z = wI S 25 x1.toInt.toNat (vp_nar .byte (x2.toInt8.toInt32)) := ⟨_, rfl⟩
  rw [← eS2] at hR
  replace h := h S2 eS2
  have hsh : shy S S2 := by rw [eS2]; exact hsh
  exact W.vret hx hb hr (fun t9 ht9 hW9 => ⟨⟨S2, rfl, ⟨h, hR.w, hsh⟩, ⟨by rw [ht9]; exact hR.P, hR.D⟩⟩, hR.sS.F ht9⟩) hR.sS.2.2 dX14_setLocal_8
def w_store_J91 (Q : MS → Prop) (U91 : MS) (t91_0 : Int32) (t91_1 : Int32) (v91_2 : Int32) (v91_4 : Int32) : Prop := (∃ Q2, w_setLocal U91 t91_1 t91_0 Q2 ∧ ∀ S3, Q2 S3 → ((v91_4.toInt = 2 → (∃ Q7, w_setLocal S3 (v91_2 + (1 : Int32)) (3 : Int32) Q7 ∧ ∀ S8, Q7 S8 → Q S8)) ∧ (¬ v91_4.toInt = 2 → Q S3)))
def w_store_J68 (Q : MS → Prop) (U68 : MS) (v68_1 : Int32) (v68_2 : Int32) (v68_3 : Int32) (v68_4 : Int32) : Prop := ((v68_1.toInt = 54 → w_store_J91 Q U68 1 v68_2 v68_2 v68_4) ∧ (¬ v68_1.toInt = 54 → ((v68_1.toInt = 55 → w_store_J91 Q U68 2 v68_2 v68_2 v68_4) ∧ (¬ v68_1.toInt = 55 → w_store_J91 Q U68 v68_3 v68_2 v68_2 v68_4))))
def w_store_J37 (Q : MS → Prop) (U37 : MS) (v37_1 : Int32) (v37_2 : Int32) (v37_3 : Int32) (v37_4 : Int32) : Prop := ((24 ≤ (v37_2 + v37_4).toInt → w_store_J68 Q U37 v37_1 v37_2 v37_3 v37_4) ∧ (¬ 24 ≤ (v37_2 + v37_4).toInt → (((0 : Int) ≤ (v37_2 + v37_4).toInt ∧ (v37_2 + v37_4).toInt < 24) ∧ (((qI U37 25 (((v37_2 + v37_4).toInt).toNat)).toInt = 3 → (∃ Q18, w_setLocal U37 (v37_2 + v37_4) (0 : Int32) Q18 ∧ ∀ S19, Q18 S19 → w_store_J68 Q S19 v37_1 v37_2 v37_3 v37_4)) ∧ (¬ (qI U37 25 (((v37_2 + v37_4).toInt).toNat)).toInt = 3 → w_store_J68 Q U37 v37_1 v37_2 v37_3 v37_4)))))
def w_store_J11 (Q : MS → Prop) (U11 : MS) (t11_0 : Int32) (v11_1 : Int32) (v11_2 : Int32) (v11_3 : Int32) : Prop := ((v11_2.toInt ≤ 0 → w_store_J37 Q U11 v11_1 v11_2 v11_3 t11_0) ∧ (¬ v11_2.toInt ≤ 0 → (((0 : Int) ≤ (v11_2 - (1 : Int32)).toInt ∧ (v11_2 - (1 : Int32)).toInt < 24) ∧ (((qI U11 25 (((v11_2 - (1 : Int32)).toInt).toNat)).toInt = 2 → (∃ Q27, w_setLocal U11 (v11_2 - (1 : Int32)) (0 : Int32) Q27 ∧ ∀ S28, Q27 S28 → w_store_J37 Q S28 v11_1 v11_2 v11_3 t11_0)) ∧ (¬ (qI U11 25 (((v11_2 - (1 : Int32)).toInt).toNat)).toInt = 2 → w_store_J37 Q U11 v11_1 v11_2 v11_3 t11_0)))))
def w_store (S : MS) (x1 : Int32) (x2 : Int32) (x3 : Int32) (Q : MS → Prop) : Prop := ((x1.toInt = 55 → w_store_J11 Q S 2 x1 x2 x3) ∧ (¬ x1.toInt = 55 → w_store_J11 Q S 1 x1 x2 x3))
set_option maxHeartbeats 2000000 in
set_option maxRecDepth 100000 in
theorem r_store (l : Launch) (g : Gr) (ad : Nat → Nat) (sz : Nat) (S : MS) (x1 : Int32) (x2 : Int32) (x3 : Int32) (hw : wfM S) (Q : MS → Prop) (h : w_store S x1 x2 x3 Q) : Met l yX14_store (wt2 yX14_store cX14_store 5 none) ({ frames := 1, cells := 0, slots := 0, locals := 22 }) (va_Pc [.ref (ad 0), .int x1, .int x2, .int x3] (st_R g ad sz S)) (va_Qv (fun (u : MS) => Q u ∧ wfM u ∧ shy S u) (fun (u : MS) (t : State) => qE g ad (va_A (Wd g ad S) sz) u t) (va_A (Wd g ad S) sz)) 0 0 (va_A (Wd g ad S) sz) := by
  refine Met.ofW (cc := cX14_store) (maxL := 5) (ret := none) (by decide) rfl ?_
  intro p e s m args below meth c s₁ B hml hv
  obtain ⟨rfl, hsz, hP, hK, hD0, hex, hE⟩ := hv
  have hx := B.exec
  have hb := B.bytes
  have hr := B.returns
  have hts0 := atoms_spec (ws := wt2 yX14_store cX14_store 5 none) B.pre
  have hts : ∀ w ∈ tb2, w.before _ s = true := fun w h => hts0 w (List.mem_cons_of_mem _ h)
  have hown : s.vm.findClass RX14 = some m.cls := findClass_of_methodNamed B.named
  subst hsz
  have hD := hD0.self (sz := s.heap.size)
  generalize hAe : va_A (Wd g ad S) s.heap.size = A at hD hE ⊢
  have hA : ∀ q : Nat, s.heap.size ≤ q → A q := fun q h => by rw [← hAe]; exact Or.inr h
  have hR : Rep g ad A s S s.heap [] := ⟨hK, hP, hD, va_S.rf, hw⟩
  clear hK hP hD hD0
  have hl := lv_entry ([.ref (ad 0), .int x1, .int x2, .int x3]) (n := 5) (Nat.le_of_ble_eq_true rfl)
  rw [lg_entry_eq]
  generalize (lg_sl ([.ref (ad 0), .int x1, .int x2, .int x3]) ++ List.replicate (5 - (lg_sl ([.ref (ad 0), .int x1, .int x2, .int x3])).length) Slot.unset).toArray = ls at hl ⊢
  have hl : lv_has ls 5 [(0, .ref (ad 0)), (1, .int x1), (2, .int x2), (3, .int x3)] := hl
  have hsh : shy S S := shy.rf
  unfold w_store at h
  refine lv_iload_n hx hb dX14_store_0 rfl (lv_at hl 1 rfl) ?_
  refine lv_bipush (v := 55) hx hb dX14_store_1 (by decide) ?_
  have J_11 : ∀ (U11 : MS) (t11_0 : Int32) (v11_1 : Int32) (v11_2 : Int32) (v11_3 : Int32) (H : Heap) (locs : List Loc) (ls : Array Slot), w_store_J11 Q U11 t11_0 v11_1 v11_2 v11_3 → shy S U11 → Rep g ad A s U11 H locs → lv_has ls 5 [(0, .ref (ad 0)), (1, .int v11_1), (2, .int v11_2), (3, .int v11_3)] → W p l e (headSpec (wt2 yX14_store cX14_store 5 none) ({ frames := 1, cells := 0, slots := 0, locals := 22 })).room s m ([.ref (ad 0), .int x1, .int x2, .int x3] : List Value).toArray below meth c H locs 0 0 (MQ below (va_Qv (fun (u : MS) => Q u ∧ wfM u ∧ shy S u) (fun (u : MS) (t : State) => qE g ad A u t) A) ([.ref (ad 0), .int x1, .int x2, .int x3] : List Value).toArray s 0 0 A) (F0 m 11 ls [.int t11_0]) := by
    intro U11 t11_0 v11_1 v11_2 v11_3 H locs ls h hsh hR hl
    unfold w_store_J11 at h
    refine lv_istore (lv' := [(4, .int t11_0), (0, .ref (ad 0)), (1, .int v11_1), (2, .int v11_2), (3, .int v11_3)]) hx hb dX14_store_11 hl (by decide) rfl (fun ls hl => ?_)
    refine lv_iload_n hx hb dX14_store_13 rfl (lv_at hl 3 rfl) ?_
    have J_37 : ∀ (U37 : MS) (v37_1 : Int32) (v37_2 : Int32) (v37_3 : Int32) (v37_4 : Int32) (H : Heap) (locs : List Loc) (ls : Array Slot), w_store_J37 Q U37 v37_1 v37_2 v37_3 v37_4 → shy S U37 → Rep g ad A s U37 H locs → lv_has ls 5 [(0, .ref (ad 0)), (1, .int v37_1), (2, .int v37_2), (3, .int v37_3), (4, .int v37_4)] → W p l e (headSpec (wt2 yX14_store cX14_store 5 none) ({ frames := 1, cells := 0, slots := 0, locals := 22 })).room s m ([.ref (ad 0), .int x1, .int x2, .int x3] : List Value).toArray below meth c H locs 0 0 (MQ below (va_Qv (fun (u : MS) => Q u ∧ wfM u ∧ shy S u) (fun (u : MS) (t : State) => qE g ad A u t) A) ([.ref (ad 0), .int x1, .int x2, .int x3] : List Value).toArray s 0 0 A) (F0 m 37 ls []) := by
      intro U37 v37_1 v37_2 v37_3 v37_4 H locs ls h hsh hR hl
      unfold w_store_J37 at h
      refine lv_iload_n hx hb dX14_store_37 rfl (lv_at hl 2 rfl) ?_
      refine lv_iload hx hb dX14_store_38 (lv_at hl 4 rfl) ?_
      refine lv_iadd hx hb dX14_store_40 ?_
      refine lv_topi (fun z1 ez1 => ?_)
      obtain rfl : z1 = (v37_2 + v37_4) := ez1
      refine lv_bipush (v := 24) hx hb dX14_store_41 (by decide) ?_
      have J_68 : ∀ (U68 : MS) (v68_1 : Int32) (v68_2 : Int32) (v68_3 : Int32) (v68_4 : Int32) (H : Heap) (locs : List Loc) (ls : Array Slot), w_store_J68 Q U68 v68_1 v68_2 v68_3 v68_4 → shy S U68 → Rep g ad A s U68 H locs → lv_has ls 5 [(0, .ref (ad 0)), (1, .int v68_1), (2, .int v68_2), (3, .int v68_3), (4, .int v68_4)] → W p l e (headSpec (wt2 yX14_store cX14_store 5 none) ({ frames := 1, cells := 0, slots := 0, locals := 22 })).room s m ([.ref (ad 0), .int x1, .int x2, .int x3] : List Value).toArray below meth c H locs 0 0 (MQ below (va_Qv (fun (u : MS) => Q u ∧ wfM u ∧ shy S u) (fun (u : MS) (t : State) => qE g ad A u t) A) ([.ref (ad 0), .int x1, .int x2, .int x3] : List Value).toArray s 0 0 A) (F0 m 68 ls []) := by
        intro U68 v68_1 v68_2 v68_3 v68_4 H locs ls h hsh hR hl
        unfold w_store_J68 at h
        refine lv_aload_n hx hb dX14_store_68 rfl (lv_at hl 0 rfl) ?_
        refine lv_iload_n hx hb dX14_store_69 rfl (lv_at hl 2 rfl) ?_
        refine lv_iload_n hx hb dX14_store_70 rfl (lv_at hl 1 rfl) ?_
        refine lv_bipush (v := 54) hx hb dX14_store_71 (by decide) ?_
        have J_91 : ∀ (U91 : MS) (t91_0 : Int32) (t91_1 : Int32) (v91_2 : Int32) (v91_4 : Int32) (H : Heap) (locs : List Loc) (ls : Array Slot), w_store_J91 Q U91 t91_0 t91_1 v91_2 v91_4 → shy S U91 → Rep g ad A s U91 H locs → lv_has ls 5 [(0, .ref (ad 0)), (2, .int v91_2), (4, .int v91_4)] → W p l e (headSpec (wt2 yX14_store cX14_store 5 none) ({ frames := 1, cells := 0, slots := 0, locals := 22 })).room s m ([.ref (ad 0), .int x1, .int x2, .int x3] : List Value).toArray below meth c H locs 0 0 (MQ below (va_Qv (fun (u : MS) => Q u ∧ wfM u ∧ shy S u) (fun (u : MS) (t : State) => qE g ad A u t) A) ([.ref (ad 0), .int x1, .int x2, .int x3] : List Value).toArray s 0 0 A) (F0 m 91 ls [.int t91_0, .int t91_1, .ref (ad 0)]) := by
          intro U91 t91_0 t91_1 v91_2 v91_4 H locs ls h hsh hR hl
          unfold w_store_J91 at h
          obtain ⟨Q2, h0, h⟩ := h
          have hFc := rfree hR hA
          refine va_callv (va_runV (As := [.int t91_1, .int t91_0]) (rest := []) ⟨hx, hb, hml, hown, hts⟩ (r_setLocal l g ad H.size U91 t91_1 t91_0 hR.w  Q2 h0) (cwV 2 hts (gd2_V kx_482 kx_483 kx_484 kx_177 kx_485) rfl rfl rfl (by decide +kernel) ⟨Nat.le_of_ble_eq_true rfl, Nat.le_of_ble_eq_true rfl⟩) ⟨rblind, va_recv hR.K hR.P (ci := 13) (q0 := 0) rfl (hR.at14 hR.w.1), fun U hU hW9 => rmk hU hW9 hR hex hE hFc⟩ rfl rfl hl.1 rfl (lv_room (Nat.le_of_ble_eq_true rfl)) dX14_store_91 ⟨Nat.le_of_ble_eq_true rfl, Nat.le_of_ble_eq_true rfl⟩) hR.sS (fun q _ h => hFc q h) hFc (fun  S3 t9 H1 locs ht9 hvm9 hw9 hB9 hz9 hk9 hS => ?_)
          obtain ⟨hq4, hw9, hs9⟩ := hw9
          have hR : Rep g ad A s S3 H1 locs := hR.call ht9 hB9 hw9 hS hFc
          have hsh := hsh.tr hs9
          replace h := h  S3 hq4
          clear hB9 hz9 hk9 hvm9 ht9 hw9 hs9 hS
          generalize H1 = H at hR ⊢
          refine lv_iload hx hb dX14_store_94 (lv_at hl 2 rfl) ?_
          refine lv_iconst (v := 2) hx hb dX14_store_96 (by decide) ?_
          refine lv_icmp_ne (tgt := 108) hx hb dX14_store_97 (by decide) (fun c5 => ?_) (fun c5 => ?_)
          · replace h := h.2 (k_ne rfl (by decide) c5)
            exact W.vret hx hb hr (fun t9 ht9 hW9 => ⟨⟨S3, rfl, ⟨h, hR.w, hsh⟩, ⟨by rw [ht9]; exact hR.P, hR.D⟩⟩, hR.sS.F ht9⟩) hR.sS.2.2 dX14_store_108
          · replace h := h.1 (k_eq rfl (by decide) c5)
            refine lv_aload_n hx hb dX14_store_100 rfl (lv_at hl 0 rfl) ?_
            refine lv_iload_n hx hb dX14_store_101 rfl (lv_at hl 1 rfl) ?_
            refine lv_iconst (v := 1) hx hb dX14_store_102 (by decide) ?_
            refine lv_iadd hx hb dX14_store_103 ?_
            refine lv_topi (fun z6 ez6 => ?_)
            obtain rfl : z6 = (v91_2 + (1 : Int32)) := ez6
            refine lv_iconst (v := 3) hx hb dX14_store_104 (by decide) ?_
            obtain ⟨Q7, h0, h⟩ := h
            have hFc := rfree hR hA
            refine va_callv (va_runV (As := [.int (v91_2 + (1 : Int32)), .int 3]) (rest := []) ⟨hx, hb, hml, hown, hts⟩ (r_setLocal l g ad H.size S3 (v91_2 + (1 : Int32)) (3 : Int32) hR.w  Q7 h0) (cwV 2 hts (gd2_V kx_482 kx_483 kx_484 kx_177 kx_485) rfl rfl rfl (by decide +kernel) ⟨Nat.le_of_ble_eq_true rfl, Nat.le_of_ble_eq_true rfl⟩) ⟨rblind, va_recv hR.K hR.P (ci := 13) (q0 := 0) rfl (hR.at14 hR.w.1), fun U hU hW9 => rmk hU hW9 hR hex hE hFc⟩ rfl rfl hl.1 rfl (lv_room (Nat.le_of_ble_eq_true rfl)) dX14_store_105 ⟨Nat.le_of_ble_eq_true rfl, Nat.le_of_ble_eq_true rfl⟩) hR.sS (fun q _ h => hFc q h) hFc (fun  S8 t9 H1 locs ht9 hvm9 hw9 hB9 hz9 hk9 hS => ?_)
            obtain ⟨hq9, hw9, hs9⟩ := hw9
            have hR : Rep g ad A s S8 H1 locs := hR.call ht9 hB9 hw9 hS hFc
            have hsh := hsh.tr hs9
            replace h := h  S8 hq9
            clear hB9 hz9 hk9 hvm9 ht9 hw9 hs9 hS
            generalize H1 = H at hR ⊢
            exact W.vret hx hb hr (fun t9 ht9 hW9 => ⟨⟨S8, rfl, ⟨h, hR.w, hsh⟩, ⟨by rw [ht9]; exact hR.P, hR.D⟩⟩, hR.sS.F ht9⟩) hR.sS.2.2 dX14_store_108
        refine lv_icmp_ne (tgt := 80) hx hb dX14_store_73 (by decide) (fun c10 => ?_) (fun c10 => ?_)
        · replace h := h.2 (k_ne rfl (by decide) c10)
          refine lv_iload_n hx hb dX14_store_80 rfl (lv_at hl 1 rfl) ?_
          refine lv_bipush (v := 55) hx hb dX14_store_81 (by decide) ?_
          refine lv_icmp_ne (tgt := 90) hx hb dX14_store_83 (by decide) (fun c11 => ?_) (fun c11 => ?_)
          · replace h := h.2 (k_ne rfl (by decide) c11)
            refine lv_iload_n hx hb dX14_store_90 rfl (lv_at hl 3 rfl) ?_
            exact J_91 U68 v68_3 v68_2 v68_2 v68_4 _ _ ls h  hsh hR (lv_sub hl [0, 2, 4] rfl)
          · replace h := h.1 (k_eq rfl (by decide) c11)
            refine lv_iconst (v := 2) hx hb dX14_store_86 (by decide) ?_
            refine lv_goto (tgt := 91) hx hb dX14_store_87 (by decide) ?_
            exact J_91 U68 2 v68_2 v68_2 v68_4 _ _ ls h  hsh hR (lv_sub hl [0, 2, 4] rfl)
        · replace h := h.1 (k_eq rfl (by decide) c10)
          refine lv_iconst (v := 1) hx hb dX14_store_76 (by decide) ?_
          refine lv_goto (tgt := 91) hx hb dX14_store_77 (by decide) ?_
          exact J_91 U68 1 v68_2 v68_2 v68_4 _ _ ls h  hsh hR (lv_sub hl [0, 2, 4] rfl)
      refine lv_icmp_ge (tgt := 68) hx hb dX14_store_43 (by decide) (fun c12 => ?_) (fun c12 => ?_)
      · replace h := h.1 (k_le (by decide) rfl c12)
        exact J_68 U37 v37_1 v37_2 v37_3 v37_4 _ _ ls h  hsh hR (lv_sub hl [0, 1, 2, 3, 4] rfl)
      · replace h := h.2 (k_nle (by decide) rfl c12)
        refine lv_aload_n hx hb dX14_store_46 rfl (lv_at hl 0 rfl) ?_
        refine va_get (D := rD g) (ci := 13) (v := .ref (ad 25)) (C := RX14) (T := TX14) (N := 143) hx hb hts in2X14 hown hR.K hR.P 0 (hR.at14 hR.w.1) rfl 60 (by decide) (hts _ kx_477) (fun _ h9 => h9) (congrArg (fun z => some (vf ad z)) (hR.w.2.1 _ fin_60).1) dX14_store_47 ?_
        refine lv_iload_n hx hb dX14_store_50 rfl (lv_at hl 2 rfl) ?_
        refine lv_iload hx hb dX14_store_51 (lv_at hl 4 rfl) ?_
        refine lv_iadd hx hb dX14_store_53 ?_
        refine lv_topi (fun z13 ez13 => ?_)
        obtain rfl : z13 = (v37_2 + v37_4) := ez13
        obtain ⟨hv14, h⟩ := h
        refine va_bald hx hb hR.K hR.P 25 0 (hR.atB (hR.w.2.1 _ fin_60).2.1) rfl (k_ixN (k_ix (n := 24) (x := (v37_2 + v37_4)) (a := (v37_2 + v37_4).toInt) rfl hv14) (hR.w.2.1 _ fin_60).2.2) dX14_store_54 ?_
        refine lv_topi (fun z15 ez15 => ?_)
        obtain rfl : z15 = (qI U37 25 (((v37_2 + v37_4).toInt).toNat)) := ez15
        refine lv_iconst (v := 3) hx hb dX14_store_55 (by decide) ?_
        refine lv_icmp_ne (tgt := 68) hx hb dX14_store_56 (by decide) (fun c16 => ?_) (fun c16 => ?_)
        · replace h := h.2 (k_ne rfl (by decide) c16)
          exact J_68 U37 v37_1 v37_2 v37_3 v37_4 _ _ ls h  hsh hR (lv_sub hl [0, 1, 2, 3, 4] rfl)
        · replace h := h.1 (k_eq rfl (by decide) c16)
          refine lv_aload_n hx hb dX14_store_59 rfl (lv_at hl 0 rfl) ?_
          refine lv_iload_n hx hb dX14_store_60 rfl (lv_at hl 2 rfl) ?_
          refine lv_iload hx hb dX14_store_61 (lv_at hl 4 rfl) ?_
          refine lv_iadd hx hb dX14_store_63 ?_
          refine lv_topi (fun z17 ez17 => ?_)
          obtain rfl : z17 = (v37_2 + v37_4) := ez17
          refine lv_iconst (v := 0) hx hb dX14_store_64 (by decide) ?_
          obtain ⟨Q18, h0, h⟩ := h
          have hFc := rfree hR hA
          refine va_callv (va_runV (As := [.int (v37_2 + v37_4), .int 0]) (rest := []) ⟨hx, hb, hml, hown, hts⟩ (r_setLocal l g ad H.size U37 (v37_2 + v37_4) (0 : Int32) hR.w  Q18 h0) (cwV 2 hts (gd2_V kx_482 kx_483 kx_484 kx_177 kx_485) rfl rfl rfl (by decide +kernel) ⟨Nat.le_of_ble_eq_true rfl, Nat.le_of_ble_eq_true rfl⟩) ⟨rblind, va_recv hR.K hR.P (ci := 13) (q0 := 0) rfl (hR.at14 hR.w.1), fun U hU hW9 => rmk hU hW9 hR hex hE hFc⟩ rfl rfl hl.1 rfl (lv_room (Nat.le_of_ble_eq_true rfl)) dX14_store_65 ⟨Nat.le_of_ble_eq_true rfl, Nat.le_of_ble_eq_true rfl⟩) hR.sS (fun q _ h => hFc q h) hFc (fun  S19 t9 H1 locs ht9 hvm9 hw9 hB9 hz9 hk9 hS => ?_)
          obtain ⟨hq20, hw9, hs9⟩ := hw9
          have hR : Rep g ad A s S19 H1 locs := hR.call ht9 hB9 hw9 hS hFc
          have hsh := hsh.tr hs9
          replace h := h  S19 hq20
          clear hB9 hz9 hk9 hvm9 ht9 hw9 hs9 hS
          generalize H1 = H at hR ⊢
          exact J_68 S19 v37_1 v37_2 v37_3 v37_4 _ _ ls h  hsh hR (lv_sub hl [0, 1, 2, 3, 4] rfl)
    refine lv_if_le (tgt := 37) hx hb dX14_store_14 (by decide) (fun c21 => ?_) (fun c21 => ?_)
    · replace h := h.1 (k_le rfl (by decide) c21)
      exact J_37 U11 v11_1 v11_2 v11_3 t11_0 _ _ ls h  hsh hR (lv_sub hl [1, 2, 3, 4, 0] rfl)
    · replace h := h.2 (k_nle rfl (by decide) c21)
      refine lv_aload_n hx hb dX14_store_17 rfl (lv_at hl 1 rfl) ?_
      refine va_get (D := rD g) (ci := 13) (v := .ref (ad 25)) (C := RX14) (T := TX14) (N := 143) hx hb hts in2X14 hown hR.K hR.P 0 (hR.at14 hR.w.1) rfl 60 (by decide) (hts _ kx_477) (fun _ h9 => h9) (congrArg (fun z => some (vf ad z)) (hR.w.2.1 _ fin_60).1) dX14_store_18 ?_
      refine lv_iload_n hx hb dX14_store_21 rfl (lv_at hl 3 rfl) ?_
      refine lv_iconst (v := 1) hx hb dX14_store_22 (by decide) ?_
      refine lv_isub hx hb dX14_store_23 ?_
      refine lv_topi (fun z22 ez22 => ?_)
      obtain rfl : z22 = (v11_2 - (1 : Int32)) := ez22
      obtain ⟨hv23, h⟩ := h
      refine va_bald hx hb hR.K hR.P 25 0 (hR.atB (hR.w.2.1 _ fin_60).2.1) rfl (k_ixN (k_ix (n := 24) (x := (v11_2 - (1 : Int32))) (a := (v11_2 - (1 : Int32)).toInt) rfl hv23) (hR.w.2.1 _ fin_60).2.2) dX14_store_24 ?_
      refine lv_topi (fun z24 ez24 => ?_)
      obtain rfl : z24 = (qI U11 25 (((v11_2 - (1 : Int32)).toInt).toNat)) := ez24
      refine lv_iconst (v := 2) hx hb dX14_store_25 (by decide) ?_
      refine lv_icmp_ne (tgt := 37) hx hb dX14_store_26 (by decide) (fun c25 => ?_) (fun c25 => ?_)
      · replace h := h.2 (k_ne rfl (by decide) c25)
        exact J_37 U11 v11_1 v11_2 v11_3 t11_0 _ _ ls h  hsh hR (lv_sub hl [1, 2, 3, 4, 0] rfl)
      · replace h := h.1 (k_eq rfl (by decide) c25)
        refine lv_aload_n hx hb dX14_store_29 rfl (lv_at hl 1 rfl) ?_
        refine lv_iload_n hx hb dX14_store_30 rfl (lv_at hl 3 rfl) ?_
        refine lv_iconst (v := 1) hx hb dX14_store_31 (by decide) ?_
        refine lv_isub hx hb dX14_store_32 ?_
        refine lv_topi (fun z26 ez26 => ?_)
        obtain rfl : z26 = (v11_2 - (1 : Int32)) := ez26
        refine lv_iconst (v := 0) hx hb dX14_store_33 (by decide) ?_
        obtain ⟨Q27, h0, h⟩ := h
        have hFc := rfree hR hA
        refine va_callv (va_runV (As := [.int (v11_2 - (1 : Int32)), .int 0]) (rest := []) ⟨hx, hb, hml, hown, hts⟩ (r_setLocal l g ad H.size U11 (v11_2 - (1 : Int32)) (0 : Int32) hR.w  Q27 h0) (cwV 2 hts (gd2_V kx_482 kx_483 kx_484 kx_177 kx_485) rfl rfl rfl (by decide +kernel) ⟨Nat.le_of_ble_eq_true rfl, Nat.le_of_ble_eq_true rfl⟩) ⟨rblind, va_recv hR.K hR.P (ci := 13) (q0 := 0) rfl (hR.at14 hR.w.1), fun U hU hW9 => rmk hU hW9 hR hex hE hFc⟩ rfl rfl hl.1 rfl (lv_room (Nat.le_of_ble_eq_true rfl)) dX14_store_34 ⟨Nat.le_of_ble_eq_true rfl, Nat.le_of_ble_eq_true rfl⟩) hR.sS (fun q _ h => hFc q h) hFc (fun  S28 t9 H1 locs ht9 hvm9 hw9 hB9 hz9 hk9 hS => ?_)
        obtain ⟨hq29, hw9, hs9⟩ := hw9
        have hR : Rep g ad A s S28 H1 locs := hR.call ht9 hB9 hw9 hS hFc
        have hsh := hsh.tr hs9
        replace h := h  S28 hq29
        clear hB9 hz9 hk9 hvm9 ht9 hw9 hs9 hS
        generalize H1 = H at hR ⊢
        exact J_37 S28 v11_1 v11_2 v11_3 t11_0 _ _ ls h  hsh hR (lv_sub hl [1, 2, 3, 4, 0] rfl)
  refine lv_icmp_ne (tgt := 10) hx hb dX14_store_3 (by decide) (fun c30 => ?_) (fun c30 => ?_)
  · replace h := h.2 (k_ne rfl (by decide) c30)
    refine lv_iconst (v := 1) hx hb dX14_store_10 (by decide) ?_
    exact J_11 S 1 x1 x2 x3 _ _ ls h  hsh hR (lv_sub hl [0, 1, 2, 3] rfl)
  · replace h := h.1 (k_eq rfl (by decide) c30)
    refine lv_iconst (v := 2) hx hb dX14_store_6 (by decide) ?_
    refine lv_goto (tgt := 11) hx hb dX14_store_7 (by decide) ?_
    exact J_11 S 2 x1 x2 x3 _ _ ls h  hsh hR (lv_sub hl [0, 1, 2, 3] rfl)
