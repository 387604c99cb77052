def w_X5_throwIt_J24 (Q : MS → Prop) (U24 : MS) : Prop := (wfC U24 → (∃ Q2, wX5_raise U24 (1 : Int32) Q2 ∧ ∀ S3, Q2 S3 → wfC S3 → shy U24 S3 → Q S3))
def wX5_throwIt (S : MS) (y1 : Int64) (Q : MS → Prop) : Prop := ((0 ≤ (lg_cmp y1 0).toInt → w_X5_throwIt_J24 Q S) ∧ (¬ 0 ≤ (lg_cmp y1 0).toInt → (((lg_cmp y1 (-4 : Int64)).toInt < 0 → w_X5_throwIt_J24 Q S) ∧ (¬ (lg_cmp y1 (-4 : Int64)).toInt < 0 → (∃ Q9, wX5_raise S (((-1 : Int64) - y1).toInt32) Q9 ∧ ∀ S10, Q9 S10 → wfC S10 → shy S S10 → Q S10)))))
set_option maxHeartbeats 2000000 in
set_option maxRecDepth 100000 in
theorem rX5_throwIt (l : Launch) (g : Gr) (ad : Nat → Nat) (sz : Nat) (S : MS) (y1 : Int64) (hw : wfC S) (Q : MS → Prop) (h : wX5_throwIt S y1 Q) : Met l yX5_throwIt (wt yX5_throwIt cX5_throwIt 3 none) ({ frames := 3, cells := 0, slots := 0, locals := 67 }) (va_Pc [.ref (ad 44), .long y1] (st_C g ad sz S)) (va_Qv (fun (u : MS) => Q u ∧ wfC u ∧ shy S u) (fun (u : MS) (t : State) => qEC g ad (va_A (WdC g ad S) sz) u t) (va_A (WdC g ad S) sz)) 0 0 (va_A (WdC g ad S) sz) := by
  refine Met.ofW (cc := cX5_throwIt) (maxL := 3) (ret := none) (by decide) rfl ?_
  intro p e s m args below meth c s₁ B hml hv
  obtain ⟨rfl, hsz, hP, hK, hD0, hex, hE⟩ := hv
  have hx := B.exec
  have hb := B.bytes
  have hr := B.returns
  have hts0 := atoms_spec (ws := wt yX5_throwIt cX5_throwIt 3 none) B.pre
  have hts : ∀ w ∈ tb, w.before _ s = true := fun w h => hts0 w (List.mem_cons_of_mem _ h)
  have hown : s.vm.findClass RX5 = some m.cls := findClass_of_methodNamed B.named
  subst hsz
  have hD := hD0.self (sz := s.heap.size)
  generalize hAe : va_A (WdC g ad S) s.heap.size = A at hD hE ⊢
  have hA : ∀ q : Nat, s.heap.size ≤ q → A q := fun q h => by rw [← hAe]; exact Or.inr h
  have hR : RepC g ad A s S s.heap [] := ⟨hK, hP, hD, va_S.rf, hw⟩
  clear hK hP hD hD0
  have hl := lv_entry ([.ref (ad 44), .long y1]) (n := 3) (Nat.le_of_ble_eq_true rfl)
  rw [lg_entry_eq]
  generalize (lg_sl ([.ref (ad 44), .long y1]) ++ List.replicate (3 - (lg_sl ([.ref (ad 44), .long y1])).length) Slot.unset).toArray = ls at hl ⊢
  have hl : lv_has ls 3 [(0, .ref (ad 44)), (1, .long y1)] := hl
  have hsh : shy S S := shy.rf
  unfold wX5_throwIt at h
  refine lv_aload_n hx hb dX5_throwIt_0 rfl (lv_at hl 0 rfl) ?_
  refine lv_lload_n hx hb dX5_throwIt_1 rfl (lv_at hl 1 rfl) ?_
  refine lv_lconst (v := 0) hx hb dX5_throwIt_2 (by decide) ?_
  refine W.lcmp hx hb dX5_throwIt_3 ?_
  refine lv_topi (fun z1 ez1 => ?_)
  obtain rfl : z1 = (lg_cmp y1 0) := ez1
  have J_24 : ∀ (U24 : MS) (H : Heap) (locs : List Loc) (ls : Array Slot), w_X5_throwIt_J24 Q U24 → shy S U24 → RepC g ad A s U24 H locs → lv_has ls 3 [] → W p l e (headSpec (wt yX5_throwIt cX5_throwIt 3 none) ({ frames := 3, cells := 0, slots := 0, locals := 67 })).room s m ([.ref (ad 44), .long y1] : List Value).toArray below meth c H locs 0 0 (MQ below (va_Qv (fun (u : MS) => Q u ∧ wfC u ∧ shy S u) (fun (u : MS) (t : State) => qEC g ad A u t) A) ([.ref (ad 44), .long y1] : List Value).toArray s 0 0 A) (F0 m 24 ls [.ref (ad 44)]) := by
    intro U24 H locs ls h hsh hR hl
    unfold w_X5_throwIt_J24 at h
    replace h := h hR.w
    refine lv_iconst (v := 1) hx hb dX5_throwIt_24 (by decide) ?_
    obtain ⟨Q2, h0, h⟩ := h
    have hFc := cfree hR hA
    refine va_callv (va_runV (As := [.int 1]) (rest := []) ⟨hx, hb, hml, hown, hts⟩ (rX5_raise l g ad H.size U24 (1 : Int32) hR.w  Q2 h0) (cwV 1 hts (gd_V kw_1017 kw_1136 kw_1137 kw_398 kw_1135) rfl rfl rfl (by decide +kernel) ⟨Nat.le_of_ble_eq_true rfl, Nat.le_of_ble_eq_true rfl⟩) ⟨cblind, va_recv hR.K hR.P (ci := 5) (q0 := 44) rfl (hR.at45 (hR.w.2.1 _ finC_29).2.1), fun U hU hW9 => cmk hU hW9 hR hex hE hFc⟩ rfl rfl hl.1 rfl (lv_room (Nat.le_of_ble_eq_true rfl)) dX5_throwIt_25 ⟨Nat.le_of_ble_eq_true rfl, Nat.le_of_ble_eq_true rfl⟩) hR.sS (fun q _ h => hFc q h) hFc (fun  S3 t9 H1 locs ht9 hvm9 hw9 hB9 hz9 hk9 hS => ?_)
    obtain ⟨hq4, hw9, hs9⟩ := hw9
    have hR : RepC g ad A s S3 H1 locs := hR.call ht9 hB9 hw9 hS hFc
    have hsh := hsh.tr hs9
    replace h := h  S3 hq4 hw9 hs9
    clear hB9 hz9 hk9 hvm9 ht9 hw9 hs9 hS
    generalize H1 = H at hR ⊢
    exact W.vret hx hb hr (fun t9 ht9 hW9 => ⟨⟨S3, rfl, ⟨h, hR.w, hsh⟩, ⟨by rw [ht9]; exact hR.P, hR.D⟩⟩, hR.sS.F ht9⟩) hR.sS.2.2 dX5_throwIt_28
  refine lv_if_ge (tgt := 24) hx hb dX5_throwIt_4 (by decide) (fun c5 => ?_) (fun c5 => ?_)
  · replace h := h.1 (k_le (by decide) rfl c5)
    exact J_24 S _ _ ls h  hsh hR (lv_sub hl [] rfl)
  · replace h := h.2 (k_nle (by decide) rfl c5)
    refine lv_lload_n hx hb dX5_throwIt_7 rfl (lv_at hl 1 rfl) ?_
    refine lv_ldc2 hx hb hown (hts _ kw_1189) dX5_throwIt_8 ?_
    refine W.lcmp hx hb dX5_throwIt_11 ?_
    refine lv_topi (fun z6 ez6 => ?_)
    obtain rfl : z6 = (lg_cmp y1 (-4 : Int64)) := ez6
    refine lv_if_lt (tgt := 24) hx hb dX5_throwIt_12 (by decide) (fun c7 => ?_) (fun c7 => ?_)
    · replace h := h.1 (k_lt rfl (by decide) c7)
      exact J_24 S _ _ ls h  hsh hR (lv_sub hl [] rfl)
    · replace h := h.2 (k_nlt rfl (by decide) c7)
      refine lv_ldc2 hx hb hown (hts _ kw_1190) dX5_throwIt_15 ?_
      refine lv_lload_n hx hb dX5_throwIt_18 rfl (lv_at hl 1 rfl) ?_
      refine lv_lsub hx hb dX5_throwIt_19 ?_
      refine lv_topl (fun z8 ez8 => ?_)
      obtain rfl : z8 = ((-1 : Int64) - y1) := ez8
      refine lv_l2i (v := (((-1 : Int64) - y1).toInt32)) hx hb dX5_throwIt_20 rfl ?_
      refine lv_goto (tgt := 25) hx hb dX5_throwIt_21 (by decide) ?_
      obtain ⟨Q9, h0, h⟩ := h
      have hFc := cfree hR hA
      refine va_callv (va_runV (As := [.int (((-1 : Int64) - y1).toInt32)]) (rest := []) ⟨hx, hb, hml, hown, hts⟩ (rX5_raise l g ad s.heap.size S (((-1 : Int64) - y1).toInt32) hR.w  Q9 h0) (cwV 1 hts (gd_V kw_1017 kw_1136 kw_1137 kw_398 kw_1135) rfl rfl rfl (by decide +kernel) ⟨Nat.le_of_ble_eq_true rfl, Nat.le_of_ble_eq_true rfl⟩) ⟨cblind, va_recv hR.K hR.P (ci := 5) (q0 := 44) rfl (hR.at45 (hR.w.2.1 _ finC_29).2.1), fun U hU hW9 => cmk hU hW9 hR hex hE hFc⟩ rfl rfl hl.1 rfl (lv_room (Nat.le_of_ble_eq_true rfl)) dX5_throwIt_25 ⟨Nat.le_of_ble_eq_true rfl, Nat.le_of_ble_eq_true rfl⟩) hR.sS (fun q _ h => hFc q h) hFc (fun  S10 t9 H1 locs ht9 hvm9 hw9 hB9 hz9 hk9 hS => ?_)
      obtain ⟨hq11, hw9, hs9⟩ := hw9
      have hR : RepC g ad A s S10 H1 locs := hR.call ht9 hB9 hw9 hS hFc
      have hsh := hsh.tr hs9
      replace h := h  S10 hq11 hw9 hs9
      clear hB9 hz9 hk9 hvm9 ht9 hw9 hs9 hS
      generalize H1 = H at hR ⊢
      exact W.vret hx hb hr (fun t9 ht9 hW9 => ⟨⟨S10, rfl, ⟨h, hR.w, hsh⟩, ⟨by rw [ht9]; exact hR.P, hR.D⟩⟩, hR.sS.F ht9⟩) hR.sS.2.2 dX5_throwIt_28
def w_X7_isSound_J150 (Q : Int32 → MS → Prop) (U150 : MS) : Prop := (wfC U150 → Q (0 : Int32) U150)
def w_X7_isSound_J146 (Q : Int32 → MS → Prop) (U146 : MS) : Prop := (wfC U146 → Q (1 : Int32) U146)
def wX7_isSound (S : MS) (p1 : Nat) (Q : Int32 → MS → Prop) : Prop := ((qR S p1 0 = some (qO S p1 0)) ∧ (∀ S3, S3 = wR S 9 0 (some (qO S p1 0)) → qT S 9 = 46 → wfC S3 → (∀ S4, S4 = wI S3 9 1 (qI S3 p1 1) → qT S3 9 = 46 → wfC S4 → (∀ S5, S5 = wI S4 9 2 (0 : Int32) → qT S4 9 = 46 → wfC S5 → (∀ S6, S6 = wI S5 9 3 (-1 : Int32) → qT S5 9 = 46 → wfC S6 → (∀ S7, S7 = wI S6 9 15 (0 : Int32) → qT S6 9 = 46 → wfC S7 → (∃ Q8, wX7_magicHolds S7 Q8 ∧ ∀ r9 S10, Q8 r9 S10 → wfC S10 → shy S7 S10 → ((r9.toInt = 0 → w_X7_isSound_J150 Q S10) ∧ (¬ r9.toInt = 0 → (∃ Q13, wX7_poolFits S10 Q13 ∧ ∀ r14 S15, Q13 r14 S15 → wfC S15 → shy S10 S15 → ((r14.toInt = 0 → w_X7_isSound_J150 Q S15) ∧ (¬ r14.toInt = 0 → (∃ Q18, wX7_headFits S15 Q18 ∧ ∀ r19 S20, Q18 r19 S20 → wfC S20 → shy S15 S20 → ((r19.toInt = 0 → w_X7_isSound_J150 Q S20) ∧ (¬ r19.toInt = 0 → (∃ Q23, wX7_fieldsFit S20 Q23 ∧ ∀ r24 S25, Q23 r24 S25 → wfC S25 → shy S20 S25 → ((r24.toInt = 0 → w_X7_isSound_J150 Q S25) ∧ (¬ r24.toInt = 0 → (∃ Q28, wX7_methodsFit S25 Q28 ∧ ∀ r29 S30, Q28 r29 S30 → wfC S30 → shy S25 S30 → ((r29.toInt = 0 → w_X7_isSound_J150 Q S30) ∧ (¬ r29.toInt = 0 → (∃ Q33, wX7_fileAttributesFit S30 Q33 ∧ ∀ r34 S35, Q33 r34 S35 → wfC S35 → shy S30 S35 → ((r34.toInt = 0 → w_X7_isSound_J150 Q S35) ∧ (¬ r34.toInt = 0 → (∃ Q38, wX7_entriesPoint S35 Q38 ∧ ∀ r39 S40, Q38 r39 S40 → wfC S40 → shy S35 S40 → ((r39.toInt = 0 → w_X7_isSound_J150 Q S40) ∧ (¬ r39.toInt = 0 → (∃ Q43, wX7_flagsHold S40 Q43 ∧ ∀ r44 S45, Q43 r44 S45 → wfC S45 → shy S40 S45 → ((r44.toInt = 0 → w_X7_isSound_J150 Q S45) ∧ (¬ r44.toInt = 0 → (∃ Q48, wX7_headHolds S45 Q48 ∧ ∀ r49 S50, Q48 r49 S50 → wfC S50 → shy S45 S50 → ((r49.toInt = 0 → w_X7_isSound_J150 Q S50) ∧ (¬ r49.toInt = 0 → (∃ Q53, wX7_namesHold S50 Q53 ∧ ∀ r54 S55, Q53 r54 S55 → wfC S55 → shy S50 S55 → ((r54.toInt = 0 → w_X7_isSound_J150 Q S55) ∧ (¬ r54.toInt = 0 → (∃ Q58, wX7_typesHold S55 Q58 ∧ ∀ r59 S60, Q58 r59 S60 → wfC S60 → shy S55 S60 → ((r59.toInt = 0 → w_X7_isSound_J150 Q S60) ∧ (¬ r59.toInt = 0 → (∃ Q63, wX7_noTwins S60 Q63 ∧ ∀ r64 S65, Q63 r64 S65 → wfC S65 → shy S60 S65 → ((r64.toInt = 0 → w_X7_isSound_J150 Q S65) ∧ (¬ r64.toInt = 0 → (∃ Q68, wX7_codesHold S65 Q68 ∧ ∀ r69 S70, Q68 r69 S70 → wfC S70 → shy S65 S70 → ((r69.toInt = 0 → w_X7_isSound_J150 Q S70) ∧ (¬ r69.toInt = 0 → (((qI S70 9 15).toInt = (qI S70 9 1).toInt → w_X7_isSound_J146 Q S70) ∧ (¬ (qI S70 9 15).toInt = (qI S70 9 1).toInt → (∃ Q74, wX7_breaks S70 (17 : Int32) (qI S70 9 15) Q74 ∧ ∀ r75 S76, Q74 r75 S76 → wfC S76 → shy S70 S76 → ((r75.toInt = 0 → w_X7_isSound_J150 Q S76) ∧ (¬ r75.toInt = 0 → w_X7_isSound_J146 Q S76))))))))))))))))))))))))))))))))))))))))))))))))))
set_option maxHeartbeats 2000000 in
set_option maxRecDepth 100000 in
theorem rX7_isSound (l : Launch) (g : Gr) (ad : Nat → Nat) (sz : Nat) (S : MS) (p1 : Nat) (hw : wfC S) (hT_p1 : qT S p1 = 40) (Q : Int32 → MS → Prop) (h : wX7_isSound S p1 Q) : Met l yX7_isSound (wt yX7_isSound cX7_isSound 2 (some .boolean)) ({ frames := 6, cells := 0, slots := 0, locals := 135 }) (va_Pc [.ref (ad 9), .ref (ad p1)] (st_C g ad sz S)) (va_Qi (fun (r : Int32) (u : MS) => Q r u ∧ wfC u ∧ shy S u ∧ (r = 0 ∨ r = 1)) (fun (u : MS) (t : State) => qEC g ad (va_A (WdC g ad S) sz) u t) (va_A (WdC g ad S) sz)) 0 0 (va_A (WdC g ad S) sz) := by
  refine Met.ofW (cc := cX7_isSound) (maxL := 2) (ret := (some .boolean)) (by decide) rfl ?_
  intro p e s m args below meth c s₁ B hml hv
  obtain ⟨rfl, hsz, hP, hK, hD0, hex, hE⟩ := hv
  have hx := B.exec
  have hb := B.bytes
  have hr := B.returns
  have hts0 := atoms_spec (ws := wt yX7_isSound cX7_isSound 2 (some .boolean)) B.pre
  have hts : ∀ w ∈ tb, w.before _ s = true := fun w h => hts0 w (List.mem_cons_of_mem _ h)
  have hown : s.vm.findClass RX7 = some m.cls := findClass_of_methodNamed B.named
  subst hsz
  have hD := hD0.self (sz := s.heap.size)
  generalize hAe : va_A (WdC g ad S) s.heap.size = A at hD hE ⊢
  have hA : ∀ q : Nat, s.heap.size ≤ q → A q := fun q h => by rw [← hAe]; exact Or.inr h
  have hR : RepC g ad A s S s.heap [] := ⟨hK, hP, hD, va_S.rf, hw⟩
  clear hK hP hD hD0
  have hl := lv_entry ([.ref (ad 9), .ref (ad p1)]) (n := 2) (Nat.le_of_ble_eq_true rfl)
  rw [lg_entry_eq]
  generalize (lg_sl ([.ref (ad 9), .ref (ad p1)]) ++ List.replicate (2 - (lg_sl ([.ref (ad 9), .ref (ad p1)])).length) Slot.unset).toArray = ls at hl ⊢
  have hl : lv_has ls 2 [(0, .ref (ad 9)), (1, .ref (ad p1))] := hl
  have hsh : shy S S := shy.rf
  unfold wX7_isSound at h
  refine lv_aload_n hx hb dX7_isSound_0 rfl (lv_at hl 0 rfl) ?_
  refine lv_aload_n hx hb dX7_isSound_1 rfl (lv_at hl 1 rfl) ?_
  obtain ⟨hv2, h⟩ := h
  have hT_b1 : qT S (qO S p1 0) = 101 := hR.w.ref hv2 hT_p1
  refine va_get (D := rD g) (ci := 0) (v := .ref (ad (qO S p1 0))) (C := RX0) (T := TX0) (N := 2) hx hb hts inX0 hown hR.K hR.P p1 (hR.at40 hT_p1) rfl 0 (by decide) (hts _ kw_1361) (fun _ h9 => h9) (congrArg (fun z => some (vf ad z)) hv2) dX7_isSound_2 ?_
  refine va_put (D := rD g) (ci := 6) (v := .ref (ad (qO S p1 0))) (ty := (.array .byte)) (C := RX7) (T := TX7) (N := 17) hx hb hts inX7 tyX7 tyX7_ok nmX7 hown hR.K hR.P hR.D hR.sS 9 (hR.at46 (hR.w.2.1 _ finC_2).2.1) rfl 0 (by decide) (hts _ kw_1341) (fun _ h9 => h9) rfl (by decide +kernel) rfl rfl (Nat.le_of_ble_eq_true rfl) dX7_isSound_5 (fun H locs hP hD hS => ?_)
  have hw9 : wfC (wR S 9 0 (some (qO S p1 0))) := hR.w.put (fun b q9 => by cases q9; exact (hT_b1).trans (by rw [(hR.w.2.1 _ finC_2).2.1]; rfl)) (nofC_9_0) (by rw [(hR.w.2.1 _ finC_2).2.1]; decide) (fun b _ q9 => absurd (show otgC (qT S 9) 0 = 0 by rw [(hR.w.2.1 _ finC_2).2.1]; decide) q9) (fun _ => Option.some_ne_none _)
  have hTk9 : qT S 9 = 46 := (hR.w.2.1 _ finC_2).2.1
  have hR : RepC g ad A s (wR S 9 0 (some (qO S p1 0))) H locs := hR.pR46 (hR.w.2.1 _ finC_2).2.1 FX7_s0 hw9 hP hD hS
  obtain ⟨S3, eS3⟩ : ∃ z, z = wR S 9 0 (some (qO S p1 0)) := ⟨_, rfl⟩
  rw [← eS3] at hR
  replace h := h S3 eS3 hTk9 hR.w
  have hT_p1 : qT S3 p1 = 40 := (congrArg (fun z => qT z p1) eS3).trans hT_p1
  have hsh : shy S S3 := by rw [eS3]; exact hsh
  refine lv_aload_n hx hb dX7_isSound_8 rfl (lv_at hl 0 rfl) ?_
  refine lv_aload_n hx hb dX7_isSound_9 rfl (lv_at hl 1 rfl) ?_
  refine va_get (D := rD g) (ci := 0) (v := .int (qI S3 p1 1)) (C := RX0) (T := TX0) (N := 2) hx hb hts inX0 hown hR.K hR.P p1 (hR.at40 hT_p1) rfl 1 (by decide) (hts _ kw_1362) (fun _ h9 => h9) rfl dX7_isSound_10 ?_
  refine va_put (D := rD g) (ci := 6) (v := .int (qI S3 p1 1)) (ty := .int) (C := RX7) (T := TX7) (N := 17) hx hb hts inX7 tyX7 tyX7_ok nmX7 hown hR.K hR.P hR.D hR.sS 9 (hR.at46 (hR.w.2.1 _ finC_2).2.1) rfl 1 (by decide) (hts _ kw_1275) (fun _ h9 => h9) rfl (by decide +kernel) rfl rfl (Nat.le_of_ble_eq_true rfl) dX7_isSound_13 (fun H locs hP hD hS => ?_)
  have hTk9 : qT S3 9 = 46 := (hR.w.2.1 _ finC_2).2.1
  have hR : RepC g ad A s (wI S3 9 1 (qI S3 p1 1)) H locs := hR.pI46 (hR.w.2.1 _ finC_2).2.1 FX7_s1 (fun q9 => absurd q9 (by decide)) hP hD hS
  obtain ⟨S4, eS4⟩ : ∃ z, z = wI S3 9 1 (qI S3 p1 1) := ⟨_, rfl⟩
  rw [← eS4] at hR
  replace h := h S4 eS4 hTk9 hR.w
  have hT_p1 : qT S4 p1 = 40 := (congrArg (fun z => qT z p1) eS4).trans hT_p1
  have hsh : shy S S4 := by rw [eS4]; exact hsh
  refine lv_aload_n hx hb dX7_isSound_16 rfl (lv_at hl 0 rfl) ?_
  refine lv_iconst (v := 0) hx hb dX7_isSound_17 (by decide) ?_
  refine va_put (D := rD g) (ci := 6) (v := .int 0) (ty := .int) (C := RX7) (T := TX7) (N := 17) hx hb hts inX7 tyX7 tyX7_ok nmX7 hown hR.K hR.P hR.D hR.sS 9 (hR.at46 (hR.w.2.1 _ finC_2).2.1) rfl 2 (by decide) (hts _ kw_1280) (fun _ h9 => h9) rfl (by decide +kernel) rfl rfl (Nat.le_of_ble_eq_true rfl) dX7_isSound_18 (fun H locs hP hD hS => ?_)
  have hTk9 : qT S4 9 = 46 := (hR.w.2.1 _ finC_2).2.1
  have hR : RepC g ad A s (wI S4 9 2 (0 : Int32)) H locs := hR.pI46 (hR.w.2.1 _ finC_2).2.1 FX7_s2 (fun q9 => absurd q9 (by decide)) hP hD hS
  obtain ⟨S5, eS5⟩ : ∃ z, z = wI S4 9 2 (0 : Int32) := ⟨_, rfl⟩
  rw [← eS5] at hR
  replace h := h S5 eS5 hTk9 hR.w
  have hT_p1 : qT S5 p1 = 40 := (congrArg (fun z => qT z p1) eS5).trans hT_p1
  have hsh : shy S S5 := by rw [eS5]; exact hsh
  refine lv_aload_n hx hb dX7_isSound_21 rfl (lv_at hl 0 rfl) ?_
  refine lv_iconst (v := (-1)) hx hb dX7_isSound_22 (by decide) ?_
  refine va_put (D := rD g) (ci := 6) (v := .int (-1)) (ty := .int) (C := RX7) (T := TX7) (N := 17) hx hb hts inX7 tyX7 tyX7_ok nmX7 hown hR.K hR.P hR.D hR.sS 9 (hR.at46 (hR.w.2.1 _ finC_2).2.1) rfl 3 (by decide) (hts _ kw_1281) (fun _ h9 => h9) rfl (by decide +kernel) rfl rfl (Nat.le_of_ble_eq_true rfl) dX7_isSound_23 (fun H locs hP hD hS => ?_)
  have hTk9 : qT S5 9 = 46 := (hR.w.2.1 _ finC_2).2.1
  have hR : RepC g ad A s (wI S5 9 3 (-1 : Int32)) H locs := hR.pI46 (hR.w.2.1 _ finC_2).2.1 FX7_s3 (fun q9 => absurd q9 (by decide)) hP hD hS
  obtain ⟨S6, eS6⟩ : ∃ z, z = wI S5 9 3 (-1 : Int32) := ⟨_, rfl⟩
  rw [← eS6] at hR
  replace h := h S6 eS6 hTk9 hR.w
  have hT_p1 : qT S6 p1 = 40 := (congrArg (fun z => qT z p1) eS6).trans hT_p1
  have hsh : shy S S6 := by rw [eS6]; exact hsh
  refine lv_aload_n hx hb dX7_isSound_26 rfl (lv_at hl 0 rfl) ?_
  refine lv_iconst (v := 0) hx hb dX7_isSound_27 (by decide) ?_
  refine va_put (D := rD g) (ci := 6) (v := .int 0) (ty := .int) (C := RX7) (T := TX7) (N := 17) hx hb hts inX7 tyX7 tyX7_ok nmX7 hown hR.K hR.P hR.D hR.sS 9 (hR.at46 (hR.w.2.1 _ finC_2).2.1) rfl 15 (by decide) (hts _ kw_1273) (fun _ h9 => h9) rfl (by decide +kernel) rfl rfl (Nat.le_of_ble_eq_true rfl) dX7_isSound_28 (fun H locs hP hD hS => ?_)
  have hTk9 : qT S6 9 = 46 := (hR.w.2.1 _ finC_2).2.1
  have hR : RepC g ad A s (wI S6 9 15 (0 : Int32)) H locs := hR.pI46 (hR.w.2.1 _ finC_2).2.1 FX7_s15 (fun q9 => absurd q9 (by decide)) hP hD hS
  obtain ⟨S7, eS7⟩ : ∃ z, z = wI S6 9 15 (0 : Int32) := ⟨_, rfl⟩
  rw [← eS7] at hR
  replace h := h S7 eS7 hTk9 hR.w
  have hT_p1 : qT S7 p1 = 40 := (congrArg (fun z => qT z p1) eS7).trans hT_p1
  have hsh : shy S S7 := by rw [eS7]; exact hsh
  refine lv_aload_n hx hb dX7_isSound_31 rfl (lv_at hl 0 rfl) ?_
  obtain ⟨Q8, h0, h⟩ := h
  have hFc := cfree hR hA
  refine va_calli (va_runV (As := []) (rest := []) ⟨hx, hb, hml, hown, hts⟩ (rX7_magicHolds l g ad H.size S7 hR.w  Q8 h0) (cwV 0 hts (gd_V kw_1363 kw_1391 kw_1392 kw_710 kw_1390) rfl rfl rfl (by decide +kernel) ⟨Nat.le_of_ble_eq_true rfl, Nat.le_of_ble_eq_true rfl⟩) ⟨cblind, va_recv hR.K hR.P (ci := 6) (q0 := 9) rfl (hR.at46 (hR.w.2.1 _ finC_2).2.1), fun U hU hW9 => cmk hU hW9 hR hex hE hFc⟩ rfl rfl hl.1 rfl (lv_room (Nat.le_of_ble_eq_true rfl)) dX7_isSound_32 ⟨Nat.le_of_ble_eq_true rfl, Nat.le_of_ble_eq_true rfl⟩) hR.sS (fun q _ h => hFc q h) hFc (fun r9 S10 t9 H1 locs ht9 hvm9 hw9 hB9 hz9 hk9 hS => ?_)
  obtain ⟨hq11, hw9, hs9, hz_r9⟩ := hw9
  have hR : RepC g ad A s S10 H1 locs := hR.call ht9 hB9 hw9 hS hFc
  have hsh := hsh.tr hs9
  replace h := h r9 S10 hq11 hw9 hs9
  have hT_p1 := hs9.T hT_p1 (by decide)
  clear hB9 hz9 hk9 hvm9 ht9 hw9 hs9 hS
  generalize H1 = H at hR ⊢
  have J_150 : ∀ (U150 : MS) (H : Heap) (locs : List Loc) (ls : Array Slot), w_X7_isSound_J150 Q U150 → shy S U150 → RepC g ad A s U150 H locs → lv_has ls 2 [] → W p l e (headSpec (wt yX7_isSound cX7_isSound 2 (some .boolean)) ({ frames := 6, cells := 0, slots := 0, locals := 135 })).room s m ([.ref (ad 9), .ref (ad p1)] : List Value).toArray below meth c H locs 0 0 (MQ below (va_Qi (fun (r : Int32) (u : MS) => Q r u ∧ wfC u ∧ shy S u ∧ (r = 0 ∨ r = 1)) (fun (u : MS) (t : State) => qEC g ad A u t) A) ([.ref (ad 9), .ref (ad p1)] : List Value).toArray s 0 0 A) (F0 m 150 ls []) := by
    intro U150 H locs ls h hsh hR hl
    unfold w_X7_isSound_J150 at h
    replace h := h hR.w
    refine lv_iconst (v := 0) hx hb dX7_isSound_150 (by decide) ?_
    exact W.zret (v := 0) hx hb hr (nz (Or.inl rfl)) (fun t9 ht9 hW9 => ⟨⟨_, U150, rfl, ⟨h, hR.w, hsh, (Or.inl rfl)⟩, ⟨by rw [ht9]; exact hR.P, hR.D⟩⟩, hR.sS.F ht9⟩) hR.sS.2.2 dX7_isSound_151
  refine lv_if_eq (tgt := 150) hx hb dX7_isSound_35 (by decide) (fun c12 => ?_) (fun c12 => ?_)
  · replace h := h.1 (k_eq rfl (by decide) c12)
    exact J_150 S10 _ _ ls h  hsh hR (lv_sub hl [] rfl)
  · replace h := h.2 (k_ne rfl (by decide) c12)
    refine lv_aload_n hx hb dX7_isSound_38 rfl (lv_at hl 0 rfl) ?_
    obtain ⟨Q13, h0, h⟩ := h
    have hFc := cfree hR hA
    refine va_calli (va_runV (As := []) (rest := []) ⟨hx, hb, hml, hown, hts⟩ (rX7_poolFits l g ad H.size S10 hR.w  Q13 h0) (cwV 0 hts (gd_V kw_1364 kw_1424 kw_1425 kw_710 kw_1423) rfl rfl rfl (by decide +kernel) ⟨Nat.le_of_ble_eq_true rfl, Nat.le_of_ble_eq_true rfl⟩) ⟨cblind, va_recv hR.K hR.P (ci := 6) (q0 := 9) rfl (hR.at46 (hR.w.2.1 _ finC_2).2.1), fun U hU hW9 => cmk hU hW9 hR hex hE hFc⟩ rfl rfl hl.1 rfl (lv_room (Nat.le_of_ble_eq_true rfl)) dX7_isSound_39 ⟨Nat.le_of_ble_eq_true rfl, Nat.le_of_ble_eq_true rfl⟩) hR.sS (fun q _ h => hFc q h) hFc (fun r14 S15 t9 H1 locs ht9 hvm9 hw9 hB9 hz9 hk9 hS => ?_)
    obtain ⟨hq16, hw9, hs9, hz_r14⟩ := hw9
    have hR : RepC g ad A s S15 H1 locs := hR.call ht9 hB9 hw9 hS hFc
    have hsh := hsh.tr hs9
    replace h := h r14 S15 hq16 hw9 hs9
    have hT_p1 := hs9.T hT_p1 (by decide)
    clear hB9 hz9 hk9 hvm9 ht9 hw9 hs9 hS
    generalize H1 = H at hR ⊢
    refine lv_if_eq (tgt := 150) hx hb dX7_isSound_42 (by decide) (fun c17 => ?_) (fun c17 => ?_)
    · replace h := h.1 (k_eq rfl (by decide) c17)
      exact J_150 S15 _ _ ls h  hsh hR (lv_sub hl [] rfl)
    · replace h := h.2 (k_ne rfl (by decide) c17)
      refine lv_aload_n hx hb dX7_isSound_45 rfl (lv_at hl 0 rfl) ?_
      obtain ⟨Q18, h0, h⟩ := h
      have hFc := cfree hR hA
      refine va_calli (va_runV (As := []) (rest := []) ⟨hx, hb, hml, hown, hts⟩ (rX7_headFits l g ad H.size S15 hR.w  Q18 h0) (cwV 0 hts (gd_V kw_1365 kw_1333 kw_1334 kw_710 kw_1332) rfl rfl rfl (by decide +kernel) ⟨Nat.le_of_ble_eq_true rfl, Nat.le_of_ble_eq_true rfl⟩) ⟨cblind, va_recv hR.K hR.P (ci := 6) (q0 := 9) rfl (hR.at46 (hR.w.2.1 _ finC_2).2.1), fun U hU hW9 => cmk hU hW9 hR hex hE hFc⟩ rfl rfl hl.1 rfl (lv_room (Nat.le_of_ble_eq_true rfl)) dX7_isSound_46 ⟨Nat.le_of_ble_eq_true rfl, Nat.le_of_ble_eq_true rfl⟩) hR.sS (fun q _ h => hFc q h) hFc (fun r19 S20 t9 H1 locs ht9 hvm9 hw9 hB9 hz9 hk9 hS => ?_)
      obtain ⟨hq21, hw9, hs9, hz_r19⟩ := hw9
      have hR : RepC g ad A s S20 H1 locs := hR.call ht9 hB9 hw9 hS hFc
      have hsh := hsh.tr hs9
      replace h := h r19 S20 hq21 hw9 hs9
      have hT_p1 := hs9.T hT_p1 (by decide)
      clear hB9 hz9 hk9 hvm9 ht9 hw9 hs9 hS
      generalize H1 = H at hR ⊢
      refine lv_if_eq (tgt := 150) hx hb dX7_isSound_49 (by decide) (fun c22 => ?_) (fun c22 => ?_)
      · replace h := h.1 (k_eq rfl (by decide) c22)
        exact J_150 S20 _ _ ls h  hsh hR (lv_sub hl [] rfl)
      · replace h := h.2 (k_ne rfl (by decide) c22)
        refine lv_aload_n hx hb dX7_isSound_52 rfl (lv_at hl 0 rfl) ?_
        obtain ⟨Q23, h0, h⟩ := h
        have hFc := cfree hR hA
        refine va_calli (va_runV (As := []) (rest := []) ⟨hx, hb, hml, hown, hts⟩ (rX7_fieldsFit l g ad H.size S20 hR.w  Q23 h0) (cwV 0 hts (gd_V kw_1366 kw_1317 kw_1318 kw_710 kw_1316) rfl rfl rfl (by decide +kernel) ⟨Nat.le_of_ble_eq_true rfl, Nat.le_of_ble_eq_true rfl⟩) ⟨cblind, va_recv hR.K hR.P (ci := 6) (q0 := 9) rfl (hR.at46 (hR.w.2.1 _ finC_2).2.1), fun U hU hW9 => cmk hU hW9 hR hex hE hFc⟩ rfl rfl hl.1 rfl (lv_room (Nat.le_of_ble_eq_true rfl)) dX7_isSound_53 ⟨Nat.le_of_ble_eq_true rfl, Nat.le_of_ble_eq_true rfl⟩) hR.sS (fun q _ h => hFc q h) hFc (fun r24 S25 t9 H1 locs ht9 hvm9 hw9 hB9 hz9 hk9 hS => ?_)
        obtain ⟨hq26, hw9, hs9, hz_r24⟩ := hw9
        have hR : RepC g ad A s S25 H1 locs := hR.call ht9 hB9 hw9 hS hFc
        have hsh := hsh.tr hs9
        replace h := h r24 S25 hq26 hw9 hs9
        have hT_p1 := hs9.T hT_p1 (by decide)
        clear hB9 hz9 hk9 hvm9 ht9 hw9 hs9 hS
        generalize H1 = H at hR ⊢
        refine lv_if_eq (tgt := 150) hx hb dX7_isSound_56 (by decide) (fun c27 => ?_) (fun c27 => ?_)
        · replace h := h.1 (k_eq rfl (by decide) c27)
          exact J_150 S25 _ _ ls h  hsh hR (lv_sub hl [] rfl)
        · replace h := h.2 (k_ne rfl (by decide) c27)
          refine lv_aload_n hx hb dX7_isSound_59 rfl (lv_at hl 0 rfl) ?_
          obtain ⟨Q28, h0, h⟩ := h
          have hFc := cfree hR hA
          refine va_calli (va_runV (As := []) (rest := []) ⟨hx, hb, hml, hown, hts⟩ (rX7_methodsFit l g ad H.size S25 hR.w  Q28 h0) (cwV 0 hts (gd_V kw_1367 kw_1400 kw_1401 kw_710 kw_1399) rfl rfl rfl (by decide +kernel) ⟨Nat.le_of_ble_eq_true rfl, Nat.le_of_ble_eq_true rfl⟩) ⟨cblind, va_recv hR.K hR.P (ci := 6) (q0 := 9) rfl (hR.at46 (hR.w.2.1 _ finC_2).2.1), fun U hU hW9 => cmk hU hW9 hR hex hE hFc⟩ rfl rfl hl.1 rfl (lv_room (Nat.le_of_ble_eq_true rfl)) dX7_isSound_60 ⟨Nat.le_of_ble_eq_true rfl, Nat.le_of_ble_eq_true rfl⟩) hR.sS (fun q _ h => hFc q h) hFc (fun r29 S30 t9 H1 locs ht9 hvm9 hw9 hB9 hz9 hk9 hS => ?_)
          obtain ⟨hq31, hw9, hs9, hz_r29⟩ := hw9
          have hR : RepC g ad A s S30 H1 locs := hR.call ht9 hB9 hw9 hS hFc
          have hsh := hsh.tr hs9
          replace h := h r29 S30 hq31 hw9 hs9
          have hT_p1 := hs9.T hT_p1 (by decide)
          clear hB9 hz9 hk9 hvm9 ht9 hw9 hs9 hS
          generalize H1 = H at hR ⊢
          refine lv_if_eq (tgt := 150) hx hb dX7_isSound_63 (by decide) (fun c32 => ?_) (fun c32 => ?_)
          · replace h := h.1 (k_eq rfl (by decide) c32)
            exact J_150 S30 _ _ ls h  hsh hR (lv_sub hl [] rfl)
          · replace h := h.2 (k_ne rfl (by decide) c32)
            refine lv_aload_n hx hb dX7_isSound_66 rfl (lv_at hl 0 rfl) ?_
            obtain ⟨Q33, h0, h⟩ := h
            have hFc := cfree hR hA
            refine va_calli (va_runV (As := []) (rest := []) ⟨hx, hb, hml, hown, hts⟩ (rX7_fileAttributesFit l g ad H.size S30 hR.w  Q33 h0) (cwV 0 hts (gd_V kw_1368 kw_1321 kw_1322 kw_710 kw_1320) rfl rfl rfl (by decide +kernel) ⟨Nat.le_of_ble_eq_true rfl, Nat.le_of_ble_eq_true rfl⟩) ⟨cblind, va_recv hR.K hR.P (ci := 6) (q0 := 9) rfl (hR.at46 (hR.w.2.1 _ finC_2).2.1), fun U hU hW9 => cmk hU hW9 hR hex hE hFc⟩ rfl rfl hl.1 rfl (lv_room (Nat.le_of_ble_eq_true rfl)) dX7_isSound_67 ⟨Nat.le_of_ble_eq_true rfl, Nat.le_of_ble_eq_true rfl⟩) hR.sS (fun q _ h => hFc q h) hFc (fun r34 S35 t9 H1 locs ht9 hvm9 hw9 hB9 hz9 hk9 hS => ?_)
            obtain ⟨hq36, hw9, hs9, hz_r34⟩ := hw9
            have hR : RepC g ad A s S35 H1 locs := hR.call ht9 hB9 hw9 hS hFc
            have hsh := hsh.tr hs9
            replace h := h r34 S35 hq36 hw9 hs9
            have hT_p1 := hs9.T hT_p1 (by decide)
            clear hB9 hz9 hk9 hvm9 ht9 hw9 hs9 hS
            generalize H1 = H at hR ⊢
            refine lv_if_eq (tgt := 150) hx hb dX7_isSound_70 (by decide) (fun c37 => ?_) (fun c37 => ?_)
            · replace h := h.1 (k_eq rfl (by decide) c37)
              exact J_150 S35 _ _ ls h  hsh hR (lv_sub hl [] rfl)
            · replace h := h.2 (k_ne rfl (by decide) c37)
              refine lv_aload_n hx hb dX7_isSound_73 rfl (lv_at hl 0 rfl) ?_
              obtain ⟨Q38, h0, h⟩ := h
              have hFc := cfree hR hA
              refine va_calli (va_runV (As := []) (rest := []) ⟨hx, hb, hml, hown, hts⟩ (rX7_entriesPoint l g ad H.size S35 hR.w  Q38 h0) (cwV 0 hts (gd_V kw_1369 kw_1292 kw_1293 kw_710 kw_1291) rfl rfl rfl (by decide +kernel) ⟨Nat.le_of_ble_eq_true rfl, Nat.le_of_ble_eq_true rfl⟩) ⟨cblind, va_recv hR.K hR.P (ci := 6) (q0 := 9) rfl (hR.at46 (hR.w.2.1 _ finC_2).2.1), fun U hU hW9 => cmk hU hW9 hR hex hE hFc⟩ rfl rfl hl.1 rfl (lv_room (Nat.le_of_ble_eq_true rfl)) dX7_isSound_74 ⟨Nat.le_of_ble_eq_true rfl, Nat.le_of_ble_eq_true rfl⟩) hR.sS (fun q _ h => hFc q h) hFc (fun r39 S40 t9 H1 locs ht9 hvm9 hw9 hB9 hz9 hk9 hS => ?_)
              obtain ⟨hq41, hw9, hs9, hz_r39⟩ := hw9
              have hR : RepC g ad A s S40 H1 locs := hR.call ht9 hB9 hw9 hS hFc
              have hsh := hsh.tr hs9
              replace h := h r39 S40 hq41 hw9 hs9
              have hT_p1 := hs9.T hT_p1 (by decide)
              clear hB9 hz9 hk9 hvm9 ht9 hw9 hs9 hS
              generalize H1 = H at hR ⊢
              refine lv_if_eq (tgt := 150) hx hb dX7_isSound_77 (by decide) (fun c42 => ?_) (fun c42 => ?_)
              · replace h := h.1 (k_eq rfl (by decide) c42)
                exact J_150 S40 _ _ ls h  hsh hR (lv_sub hl [] rfl)
              · replace h := h.2 (k_ne rfl (by decide) c42)
                refine lv_aload_n hx hb dX7_isSound_80 rfl (lv_at hl 0 rfl) ?_
                obtain ⟨Q43, h0, h⟩ := h
                have hFc := cfree hR hA
                refine va_calli (va_runV (As := []) (rest := []) ⟨hx, hb, hml, hown, hts⟩ (rX7_flagsHold l g ad H.size S40 hR.w  Q43 h0) (cwV 0 hts (gd_V kw_1370 kw_1329 kw_1330 kw_710 kw_1328) rfl rfl rfl (by decide +kernel) ⟨Nat.le_of_ble_eq_true rfl, Nat.le_of_ble_eq_true rfl⟩) ⟨cblind, va_recv hR.K hR.P (ci := 6) (q0 := 9) rfl (hR.at46 (hR.w.2.1 _ finC_2).2.1), fun U hU hW9 => cmk hU hW9 hR hex hE hFc⟩ rfl rfl hl.1 rfl (lv_room (Nat.le_of_ble_eq_true rfl)) dX7_isSound_81 ⟨Nat.le_of_ble_eq_true rfl, Nat.le_of_ble_eq_true rfl⟩) hR.sS (fun q _ h => hFc q h) hFc (fun r44 S45 t9 H1 locs ht9 hvm9 hw9 hB9 hz9 hk9 hS => ?_)
                obtain ⟨hq46, hw9, hs9, hz_r44⟩ := hw9
                have hR : RepC g ad A s S45 H1 locs := hR.call ht9 hB9 hw9 hS hFc
                have hsh := hsh.tr hs9
                replace h := h r44 S45 hq46 hw9 hs9
                have hT_p1 := hs9.T hT_p1 (by decide)
                clear hB9 hz9 hk9 hvm9 ht9 hw9 hs9 hS
                generalize H1 = H at hR ⊢
                refine lv_if_eq (tgt := 150) hx hb dX7_isSound_84 (by decide) (fun c47 => ?_) (fun c47 => ?_)
                · replace h := h.1 (k_eq rfl (by decide) c47)
                  exact J_150 S45 _ _ ls h  hsh hR (lv_sub hl [] rfl)
                · replace h := h.2 (k_ne rfl (by decide) c47)
                  refine lv_aload_n hx hb dX7_isSound_87 rfl (lv_at hl 0 rfl) ?_
                  obtain ⟨Q48, h0, h⟩ := h
                  have hFc := cfree hR hA
                  refine va_calli (va_runV (As := []) (rest := []) ⟨hx, hb, hml, hown, hts⟩ (rX7_headHolds l g ad H.size S45 hR.w  Q48 h0) (cwV 0 hts (gd_V kw_1371 kw_1336 kw_1337 kw_710 kw_1335) rfl rfl rfl (by decide +kernel) ⟨Nat.le_of_ble_eq_true rfl, Nat.le_of_ble_eq_true rfl⟩) ⟨cblind, va_recv hR.K hR.P (ci := 6) (q0 := 9) rfl (hR.at46 (hR.w.2.1 _ finC_2).2.1), fun U hU hW9 => cmk hU hW9 hR hex hE hFc⟩ rfl rfl hl.1 rfl (lv_room (Nat.le_of_ble_eq_true rfl)) dX7_isSound_88 ⟨Nat.le_of_ble_eq_true rfl, Nat.le_of_ble_eq_true rfl⟩) hR.sS (fun q _ h => hFc q h) hFc (fun r49 S50 t9 H1 locs ht9 hvm9 hw9 hB9 hz9 hk9 hS => ?_)
                  obtain ⟨hq51, hw9, hs9, hz_r49⟩ := hw9
                  have hR : RepC g ad A s S50 H1 locs := hR.call ht9 hB9 hw9 hS hFc
                  have hsh := hsh.tr hs9
                  replace h := h r49 S50 hq51 hw9 hs9
                  have hT_p1 := hs9.T hT_p1 (by decide)
                  clear hB9 hz9 hk9 hvm9 ht9 hw9 hs9 hS
                  generalize H1 = H at hR ⊢
                  refine lv_if_eq (tgt := 150) hx hb dX7_isSound_91 (by decide) (fun c52 => ?_) (fun c52 => ?_)
                  · replace h := h.1 (k_eq rfl (by decide) c52)
                    exact J_150 S50 _ _ ls h  hsh hR (lv_sub hl [] rfl)
                  · replace h := h.2 (k_ne rfl (by decide) c52)
                    refine lv_aload_n hx hb dX7_isSound_94 rfl (lv_at hl 0 rfl) ?_
                    obtain ⟨Q53, h0, h⟩ := h
                    have hFc := cfree hR hA
                    refine va_calli (va_runV (As := []) (rest := []) ⟨hx, hb, hml, hown, hts⟩ (rX7_namesHold l g ad H.size S50 hR.w  Q53 h0) (cwV 0 hts (gd_V kw_1372 kw_1415 kw_1416 kw_710 kw_1414) rfl rfl rfl (by decide +kernel) ⟨Nat.le_of_ble_eq_true rfl, Nat.le_of_ble_eq_true rfl⟩) ⟨cblind, va_recv hR.K hR.P (ci := 6) (q0 := 9) rfl (hR.at46 (hR.w.2.1 _ finC_2).2.1), fun U hU hW9 => cmk hU hW9 hR hex hE hFc⟩ rfl rfl hl.1 rfl (lv_room (Nat.le_of_ble_eq_true rfl)) dX7_isSound_95 ⟨Nat.le_of_ble_eq_true rfl, Nat.le_of_ble_eq_true rfl⟩) hR.sS (fun q _ h => hFc q h) hFc (fun r54 S55 t9 H1 locs ht9 hvm9 hw9 hB9 hz9 hk9 hS => ?_)
                    obtain ⟨hq56, hw9, hs9, hz_r54⟩ := hw9
                    have hR : RepC g ad A s S55 H1 locs := hR.call ht9 hB9 hw9 hS hFc
                    have hsh := hsh.tr hs9
                    replace h := h r54 S55 hq56 hw9 hs9
                    have hT_p1 := hs9.T hT_p1 (by decide)
                    clear hB9 hz9 hk9 hvm9 ht9 hw9 hs9 hS
                    generalize H1 = H at hR ⊢
                    refine lv_if_eq (tgt := 150) hx hb dX7_isSound_98 (by decide) (fun c57 => ?_) (fun c57 => ?_)
                    · replace h := h.1 (k_eq rfl (by decide) c57)
                      exact J_150 S55 _ _ ls h  hsh hR (lv_sub hl [] rfl)
                    · replace h := h.2 (k_ne rfl (by decide) c57)
                      refine lv_aload_n hx hb dX7_isSound_101 rfl (lv_at hl 0 rfl) ?_
                      obtain ⟨Q58, h0, h⟩ := h
                      have hFc := cfree hR hA
                      refine va_calli (va_runV (As := []) (rest := []) ⟨hx, hb, hml, hown, hts⟩ (rX7_typesHold l g ad H.size S55 hR.w  Q58 h0) (cwV 0 hts (gd_V kw_1373 kw_1441 kw_1442 kw_710 kw_1440) rfl rfl rfl (by decide +kernel) ⟨Nat.le_of_ble_eq_true rfl, Nat.le_of_ble_eq_true rfl⟩) ⟨cblind, va_recv hR.K hR.P (ci := 6) (q0 := 9) rfl (hR.at46 (hR.w.2.1 _ finC_2).2.1), fun U hU hW9 => cmk hU hW9 hR hex hE hFc⟩ rfl rfl hl.1 rfl (lv_room (Nat.le_of_ble_eq_true rfl)) dX7_isSound_102 ⟨Nat.le_of_ble_eq_true rfl, Nat.le_of_ble_eq_true rfl⟩) hR.sS (fun q _ h => hFc q h) hFc (fun r59 S60 t9 H1 locs ht9 hvm9 hw9 hB9 hz9 hk9 hS => ?_)
                      obtain ⟨hq61, hw9, hs9, hz_r59⟩ := hw9
                      have hR : RepC g ad A s S60 H1 locs := hR.call ht9 hB9 hw9 hS hFc
                      have hsh := hsh.tr hs9
                      replace h := h r59 S60 hq61 hw9 hs9
                      have hT_p1 := hs9.T hT_p1 (by decide)
                      clear hB9 hz9 hk9 hvm9 ht9 hw9 hs9 hS
                      generalize H1 = H at hR ⊢
                      refine lv_if_eq (tgt := 150) hx hb dX7_isSound_105 (by decide) (fun c62 => ?_) (fun c62 => ?_)
                      · replace h := h.1 (k_eq rfl (by decide) c62)
                        exact J_150 S60 _ _ ls h  hsh hR (lv_sub hl [] rfl)
                      · replace h := h.2 (k_ne rfl (by decide) c62)
                        refine lv_aload_n hx hb dX7_isSound_108 rfl (lv_at hl 0 rfl) ?_
                        obtain ⟨Q63, h0, h⟩ := h
                        have hFc := cfree hR hA
                        refine va_calli (va_runV (As := []) (rest := []) ⟨hx, hb, hml, hown, hts⟩ (rX7_noTwins l g ad H.size S60 hR.w  Q63 h0) (cwV 0 hts (gd_V kw_1374 kw_1419 kw_1420 kw_710 kw_1418) rfl rfl rfl (by decide +kernel) ⟨Nat.le_of_ble_eq_true rfl, Nat.le_of_ble_eq_true rfl⟩) ⟨cblind, va_recv hR.K hR.P (ci := 6) (q0 := 9) rfl (hR.at46 (hR.w.2.1 _ finC_2).2.1), fun U hU hW9 => cmk hU hW9 hR hex hE hFc⟩ rfl rfl hl.1 rfl (lv_room (Nat.le_of_ble_eq_true rfl)) dX7_isSound_109 ⟨Nat.le_of_ble_eq_true rfl, Nat.le_of_ble_eq_true rfl⟩) hR.sS (fun q _ h => hFc q h) hFc (fun r64 S65 t9 H1 locs ht9 hvm9 hw9 hB9 hz9 hk9 hS => ?_)
                        obtain ⟨hq66, hw9, hs9, hz_r64⟩ := hw9
                        have hR : RepC g ad A s S65 H1 locs := hR.call ht9 hB9 hw9 hS hFc
                        have hsh := hsh.tr hs9
                        replace h := h r64 S65 hq66 hw9 hs9
                        have hT_p1 := hs9.T hT_p1 (by decide)
                        clear hB9 hz9 hk9 hvm9 ht9 hw9 hs9 hS
                        generalize H1 = H at hR ⊢
                        refine lv_if_eq (tgt := 150) hx hb dX7_isSound_112 (by decide) (fun c67 => ?_) (fun c67 => ?_)
                        · replace h := h.1 (k_eq rfl (by decide) c67)
                          exact J_150 S65 _ _ ls h  hsh hR (lv_sub hl [] rfl)
                        · replace h := h.2 (k_ne rfl (by decide) c67)
                          refine lv_aload_n hx hb dX7_isSound_115 rfl (lv_at hl 0 rfl) ?_
                          obtain ⟨Q68, h0, h⟩ := h
                          have hFc := cfree hR hA
                          refine va_calli (va_runV (As := []) (rest := []) ⟨hx, hb, hml, hown, hts⟩ (rX7_codesHold l g ad H.size S65 hR.w  Q68 h0) (cwV 0 hts (gd_V kw_1375 kw_1283 kw_1284 kw_710 kw_1282) rfl rfl rfl (by decide +kernel) ⟨Nat.le_of_ble_eq_true rfl, Nat.le_of_ble_eq_true rfl⟩) ⟨cblind, va_recv hR.K hR.P (ci := 6) (q0 := 9) rfl (hR.at46 (hR.w.2.1 _ finC_2).2.1), fun U hU hW9 => cmk hU hW9 hR hex hE hFc⟩ rfl rfl hl.1 rfl (lv_room (Nat.le_of_ble_eq_true rfl)) dX7_isSound_116 ⟨Nat.le_of_ble_eq_true rfl, Nat.le_of_ble_eq_true rfl⟩) hR.sS (fun q _ h => hFc q h) hFc (fun r69 S70 t9 H1 locs ht9 hvm9 hw9 hB9 hz9 hk9 hS => ?_)
                          obtain ⟨hq71, hw9, hs9, hz_r69⟩ := hw9
                          have hR : RepC g ad A s S70 H1 locs := hR.call ht9 hB9 hw9 hS hFc
                          have hsh := hsh.tr hs9
                          replace h := h r69 S70 hq71 hw9 hs9
                          have hT_p1 := hs9.T hT_p1 (by decide)
                          clear hB9 hz9 hk9 hvm9 ht9 hw9 hs9 hS
                          generalize H1 = H at hR ⊢
                          refine lv_if_eq (tgt := 150) hx hb dX7_isSound_119 (by decide) (fun c72 => ?_) (fun c72 => ?_)
                          · replace h := h.1 (k_eq rfl (by decide) c72)
                            exact J_150 S70 _ _ ls h  hsh hR (lv_sub hl [] rfl)
                          · replace h := h.2 (k_ne rfl (by decide) c72)
                            refine lv_aload_n hx hb dX7_isSound_122 rfl (lv_at hl 0 rfl) ?_
                            refine va_get (D := rD g) (ci := 6) (v := .int (qI S70 9 15)) (C := RX7) (T := TX7) (N := 17) hx hb hts inX7 hown hR.K hR.P 9 (hR.at46 (hR.w.2.1 _ finC_2).2.1) rfl 15 (by decide) (hts _ kw_1273) (fun _ h9 => h9) rfl dX7_isSound_123 ?_
                            refine lv_aload_n hx hb dX7_isSound_126 rfl (lv_at hl 0 rfl) ?_
                            refine va_get (D := rD g) (ci := 6) (v := .int (qI S70 9 1)) (C := RX7) (T := TX7) (N := 17) hx hb hts inX7 hown hR.K hR.P 9 (hR.at46 (hR.w.2.1 _ finC_2).2.1) rfl 1 (by decide) (hts _ kw_1275) (fun _ h9 => h9) rfl dX7_isSound_127 ?_
                            have J_146 : ∀ (U146 : MS) (H : Heap) (locs : List Loc) (ls : Array Slot), w_X7_isSound_J146 Q U146 → shy S U146 → RepC g ad A s U146 H locs → lv_has ls 2 [] → W p l e (headSpec (wt yX7_isSound cX7_isSound 2 (some .boolean)) ({ frames := 6, cells := 0, slots := 0, locals := 135 })).room s m ([.ref (ad 9), .ref (ad p1)] : List Value).toArray below meth c H locs 0 0 (MQ below (va_Qi (fun (r : Int32) (u : MS) => Q r u ∧ wfC u ∧ shy S u ∧ (r = 0 ∨ r = 1)) (fun (u : MS) (t : State) => qEC g ad A u t) A) ([.ref (ad 9), .ref (ad p1)] : List Value).toArray s 0 0 A) (F0 m 146 ls []) := by
                              intro U146 H locs ls h hsh hR hl
                              unfold w_X7_isSound_J146 at h
                              replace h := h hR.w
                              refine lv_iconst (v := 1) hx hb dX7_isSound_146 (by decide) ?_
                              refine lv_goto (tgt := 151) hx hb dX7_isSound_147 (by decide) ?_
                              exact W.zret (v := 1) hx hb hr (nz (Or.inr rfl)) (fun t9 ht9 hW9 => ⟨⟨_, U146, rfl, ⟨h, hR.w, hsh, (Or.inr rfl)⟩, ⟨by rw [ht9]; exact hR.P, hR.D⟩⟩, hR.sS.F ht9⟩) hR.sS.2.2 dX7_isSound_151
                            refine lv_icmp_eq (tgt := 146) hx hb dX7_isSound_130 (by decide) (fun c73 => ?_) (fun c73 => ?_)
                            · replace h := h.1 (k_eq rfl rfl c73)
                              exact J_146 S70 _ _ ls h  hsh hR (lv_sub hl [] rfl)
                            · replace h := h.2 (k_ne rfl rfl c73)
                              refine lv_aload_n hx hb dX7_isSound_133 rfl (lv_at hl 0 rfl) ?_
                              refine lv_bipush (v := 17) hx hb dX7_isSound_134 (by decide) ?_
                              refine lv_aload_n hx hb dX7_isSound_136 rfl (lv_at hl 0 rfl) ?_
                              refine va_get (D := rD g) (ci := 6) (v := .int (qI S70 9 15)) (C := RX7) (T := TX7) (N := 17) hx hb hts inX7 hown hR.K hR.P 9 (hR.at46 (hR.w.2.1 _ finC_2).2.1) rfl 15 (by decide) (hts _ kw_1273) (fun _ h9 => h9) rfl dX7_isSound_137 ?_
                              obtain ⟨Q74, h0, h⟩ := h
                              have hFc := cfree hR hA
                              refine va_calli (va_runV (As := [.int 17, .int (qI S70 9 15)]) (rest := []) ⟨hx, hb, hml, hown, hts⟩ (rX7_breaks l g ad H.size S70 (17 : Int32) (qI S70 9 15) hR.w  Q74 h0) (cwV 2 hts (gd_V kw_1276 kw_1278 kw_1279 kw_710 kw_1277) rfl rfl rfl (by decide +kernel) ⟨Nat.le_of_ble_eq_true rfl, Nat.le_of_ble_eq_true rfl⟩) ⟨cblind, va_recv hR.K hR.P (ci := 6) (q0 := 9) rfl (hR.at46 (hR.w.2.1 _ finC_2).2.1), fun U hU hW9 => cmk hU hW9 hR hex hE hFc⟩ rfl rfl hl.1 rfl (lv_room (Nat.le_of_ble_eq_true rfl)) dX7_isSound_140 ⟨Nat.le_of_ble_eq_true rfl, Nat.le_of_ble_eq_true rfl⟩) hR.sS (fun q _ h => hFc q h) hFc (fun r75 S76 t9 H1 locs ht9 hvm9 hw9 hB9 hz9 hk9 hS => ?_)
                              obtain ⟨hq77, hw9, hs9, hz_r75⟩ := hw9
                              have hR : RepC g ad A s S76 H1 locs := hR.call ht9 hB9 hw9 hS hFc
                              have hsh := hsh.tr hs9
                              replace h := h r75 S76 hq77 hw9 hs9
                              have hT_p1 := hs9.T hT_p1 (by decide)
                              clear hB9 hz9 hk9 hvm9 ht9 hw9 hs9 hS
                              generalize H1 = H at hR ⊢
                              refine lv_if_eq (tgt := 150) hx hb dX7_isSound_143 (by decide) (fun c78 => ?_) (fun c78 => ?_)
                              · replace h := h.1 (k_eq rfl (by decide) c78)
                                exact J_150 S76 _ _ ls h  hsh hR (lv_sub hl [] rfl)
                              · replace h := h.2 (k_ne rfl (by decide) c78)
                                exact J_146 S76 _ _ ls h  hsh hR (lv_sub hl [] rfl)
def w_X9_isDone_J115 (Q : Int32 → MS → Prop) (U115 : MS) : Prop := (wfC U115 → Q (0 : Int32) U115)
def w_X9_isDone_J141 (Q : Int32 → MS → Prop) (U141 : MS) : Prop := (wfC U141 → Q (0 : Int32) U141)
def w_X9_isDone_J191 (Q : Int32 → MS → Prop) (U191 : MS) : Prop := (wfC U191 → Q (0 : Int32) U191)
def w_X9_isDone_J223 (Q : Int32 → MS → Prop) (U223 : MS) : Prop := (wfC U223 → Q (0 : Int32) U223)
def w_X9_isDone_J255 (Q : Int32 → MS → Prop) (U255 : MS) : Prop := (wfC U255 → Q (0 : Int32) U255)
def wX9_isDone (S : MS) (x1 : Int32) (x2 : Int32) (Q : Int32 → MS → Prop) : Prop := ((x1.toInt = 2 → (∃ Q88, wX9_isRedirected S x2 Q88 ∧ ∀ r89 S90, Q88 r89 S90 → wfC S90 → shy S S90 → Q r89 S90)) ∧ (¬ x1.toInt = 2 → ((x2.toInt < ((qI S (qO S 66 0) 2) - (1 : Int32)).toInt → ((x1.toInt = 3 → (d_X8_opAt S (qO S 66 0) x2 ∧ (((fX8_opAt S (qO S 66 0) x2).toInt = 167 → (d_X8_argAt S (qO S 66 0) x2 ∧ (((lg_cmp (fX8_argAt S (qO S 66 0) x2) ((x2 + (1 : Int32)).toInt64)).toInt = 0 → (∃ Q17, wX9_isDropped S x2 (1 : Int32) Q17 ∧ ∀ r18 S19, Q17 r18 S19 → wfC S19 → shy S S19 → ((r18.toInt = 0 → w_X9_isDone_J115 Q S19) ∧ (¬ r18.toInt = 0 → Q (1 : Int32) S19)))) ∧ (¬ (lg_cmp (fX8_argAt S (qO S 66 0) x2) ((x2 + (1 : Int32)).toInt64)).toInt = 0 → w_X9_isDone_J115 Q S)))) ∧ (¬ (fX8_opAt S (qO S 66 0) x2).toInt = 167 → w_X9_isDone_J115 Q S)))) ∧ (¬ x1.toInt = 3 → ((x1.toInt = 4 → (d_X8_opAt S (qO S 66 0) x2 ∧ (((fX8_opAt S (qO S 66 0) x2).toInt = 0 → (∃ Q27, wX9_isDropped S x2 (1 : Int32) Q27 ∧ ∀ r28 S29, Q27 r28 S29 → wfC S29 → shy S S29 → ((r28.toInt = 0 → w_X9_isDone_J141 Q S29) ∧ (¬ r28.toInt = 0 → Q (1 : Int32) S29)))) ∧ (¬ (fX8_opAt S (qO S 66 0) x2).toInt = 0 → w_X9_isDone_J141 Q S)))) ∧ (¬ x1.toInt = 4 → ((x1.toInt = 5 → (∃ Q32, wX9_isFolded S x2 Q32 ∧ ∀ r33 S34, Q32 r33 S34 → wfC S34 → shy S S34 → Q r33 S34)) ∧ (¬ x1.toInt = 5 → ((x1.toInt = 6 → (∃ Q36, wX9_isUnaryFolded S x2 Q36 ∧ ∀ r37 S38, Q36 r37 S38 → wfC S38 → shy S S38 → Q r37 S38)) ∧ (¬ x1.toInt = 6 → ((x1.toInt = 7 → (∃ Q40, wX9_isJumpDecided S x2 Q40 ∧ ∀ r41 S42, Q40 r41 S42 → wfC S42 → shy S S42 → Q r41 S42)) ∧ (¬ x1.toInt = 7 → ((x1.toInt = 8 → (d_X9_isWindow S x2 (2 : Int32) ∧ (((fX9_isWindow S x2 (2 : Int32)).toInt = 0 → w_X9_isDone_J191 Q S) ∧ (¬ (fX9_isWindow S x2 (2 : Int32)).toInt = 0 → (d_X9_isNeutral S x2 ∧ (((fX9_isNeutral S x2).toInt = 0 → w_X9_isDone_J191 Q S) ∧ (¬ (fX9_isNeutral S x2).toInt = 0 → (∃ Q52, wX9_isDropped S x2 (2 : Int32) Q52 ∧ ∀ r53 S54, Q52 r53 S54 → wfC S54 → shy S S54 → ((r53.toInt = 0 → w_X9_isDone_J191 Q S54) ∧ (¬ r53.toInt = 0 → Q (1 : Int32) S54)))))))))) ∧ (¬ x1.toInt = 8 → ((x1.toInt = 9 → (d_X9_isWindow S x2 (2 : Int32) ∧ (((fX9_isWindow S x2 (2 : Int32)).toInt = 0 → w_X9_isDone_J223 Q S) ∧ (¬ (fX9_isWindow S x2 (2 : Int32)).toInt = 0 → (d_X9_isPopped S x2 ∧ (((fX9_isPopped S x2).toInt = 0 → w_X9_isDone_J223 Q S) ∧ (¬ (fX9_isPopped S x2).toInt = 0 → (∃ Q65, wX9_isDropped S x2 (2 : Int32) Q65 ∧ ∀ r66 S67, Q65 r66 S67 → wfC S67 → shy S S67 → ((r66.toInt = 0 → w_X9_isDone_J223 Q S67) ∧ (¬ r66.toInt = 0 → Q (1 : Int32) S67)))))))))) ∧ (¬ x1.toInt = 9 → ((x1.toInt = 10 → (d_X9_isWindow S x2 (2 : Int32) ∧ (((fX9_isWindow S x2 (2 : Int32)).toInt = 0 → w_X9_isDone_J255 Q S) ∧ (¬ (fX9_isWindow S x2 (2 : Int32)).toInt = 0 → (∃ Q74, wX9_isPassedOn S x2 Q74 ∧ ∀ r75 S76, Q74 r75 S76 → wfC S76 → shy S S76 → ((r75.toInt = 0 → w_X9_isDone_J255 Q S76) ∧ (¬ r75.toInt = 0 → (∃ Q79, wX9_isDropped S76 x2 (2 : Int32) Q79 ∧ ∀ r80 S81, Q79 r80 S81 → wfC S81 → shy S76 S81 → ((r80.toInt = 0 → w_X9_isDone_J255 Q S81) ∧ (¬ r80.toInt = 0 → Q (1 : Int32) S81)))))))))) ∧ (¬ x1.toInt = 10 → (∃ Q84, wX9_isDeadStoreDone S x2 Q84 ∧ ∀ r85 S86, Q84 r85 S86 → wfC S86 → shy S S86 → Q r85 S86)))))))))))))))))) ∧ (¬ x2.toInt < ((qI S (qO S 66 0) 2) - (1 : Int32)).toInt → Q (0 : Int32) S))))
set_option maxHeartbeats 2000000 in
set_option maxRecDepth 100000 in
theorem rX9_isDone (l : Launch) (g : Gr) (ad : Nat → Nat) (sz : Nat) (S : MS) (x1 : Int32) (x2 : Int32) (hw : wfC S) (Q : Int32 → MS → Prop) (h : wX9_isDone S x1 x2 Q) : Met l yX9_isDone (wt yX9_isDone cX9_isDone 3 (some .boolean)) ({ frames := 4, cells := 0, slots := 0, locals := 98 }) (va_Pc [.ref (ad 66), .int x1, .int x2] (st_C g ad sz S)) (va_Qi (fun (r : Int32) (u : MS) => Q r u ∧ wfC u ∧ shy S u ∧ (r = 0 ∨ r = 1)) (fun (u : MS) (t : State) => qEC g ad (va_A (WdC g ad S) sz) u t) (va_A (WdC g ad S) sz)) 0 0 (va_A (WdC g ad S) sz) := by
  refine Met.ofW (cc := cX9_isDone) (maxL := 3) (ret := (some .boolean)) (by decide) rfl ?_
  intro p e s m args below meth c s₁ B hml hv
  obtain ⟨rfl, hsz, hP, hK, hD0, hex, hE⟩ := hv
  have hx := B.exec
  have hb := B.bytes
  have hr := B.returns
  have hts0 := atoms_spec (ws := wt yX9_isDone cX9_isDone 3 (some .boolean)) B.pre
  have hts : ∀ w ∈ tb, w.before _ s = true := fun w h => hts0 w (List.mem_cons_of_mem _ h)
  have hown : s.vm.findClass RX9 = some m.cls := findClass_of_methodNamed B.named
  subst hsz
  have hD := hD0.self (sz := s.heap.size)
  generalize hAe : va_A (WdC g ad S) s.heap.size = A at hD hE ⊢
  have hA : ∀ q : Nat, s.heap.size ≤ q → A q := fun q h => by rw [← hAe]; exact Or.inr h
  have hR : RepC g ad A s S s.heap [] := ⟨hK, hP, hD, va_S.rf, hw⟩
  clear hK hP hD hD0
  have hl := lv_entry ([.ref (ad 66), .int x1, .int x2]) (n := 3) (Nat.le_of_ble_eq_true rfl)
  rw [lg_entry_eq]
  generalize (lg_sl ([.ref (ad 66), .int x1, .int x2]) ++ List.replicate (3 - (lg_sl ([.ref (ad 66), .int x1, .int x2])).length) Slot.unset).toArray = ls at hl ⊢
  have hl : lv_has ls 3 [(0, .ref (ad 66)), (1, .int x1), (2, .int x2)] := hl
  have hsh : shy S S := shy.rf
  unfold wX9_isDone at h
  refine lv_iload_n hx hb dX9_isDone_0 rfl (lv_at hl 1 rfl) ?_
  refine lv_iconst (v := 2) hx hb dX9_isDone_1 (by decide) ?_
  refine lv_icmp_ne (tgt := 11) hx hb dX9_isDone_2 (by decide) (fun c1 => ?_) (fun c1 => ?_)
  · replace h := h.2 (k_ne rfl (by decide) c1)
    refine lv_iload_n hx hb dX9_isDone_11 rfl (lv_at hl 2 rfl) ?_
    refine lv_aload_n hx hb dX9_isDone_12 rfl (lv_at hl 0 rfl) ?_
    have hT_b2 : qT S (qO S 66 0) = 47 := hR.w.ref (hR.w.ptr ptrC_39) (hR.w.2.1 _ finC_31).2.1
    refine va_get (D := rD g) (ci := 8) (v := .ref (ad (qO S 66 0))) (C := RX9) (T := TX9) (N := 6) hx hb hts inX9 hown hR.K hR.P 66 (hR.at48 (hR.w.2.1 _ finC_31).2.1) rfl 0 (by decide) (hts _ kw_1552) (fun _ h9 => h9) (congrArg (fun z => some (vf ad z)) (hR.w.ptr ptrC_39)) dX9_isDone_13 ?_
    refine va_get (D := rD g) (ci := 7) (v := .int (qI S (qO S 66 0) 2)) (C := RX8) (T := TX8) (N := 15) hx hb hts inX8 hown hR.K hR.P (qO S 66 0) (hR.at47 hT_b2) rfl 2 (by decide) (hts _ kw_1553) (fun _ h9 => h9) rfl dX9_isDone_16 ?_
    refine lv_iconst (v := 1) hx hb dX9_isDone_19 (by decide) ?_
    refine lv_isub hx hb dX9_isDone_20 ?_
    refine lv_topi (fun z3 ez3 => ?_)
    obtain rfl : z3 = ((qI S (qO S 66 0) 2) - (1 : Int32)) := ez3
    refine lv_icmp_lt (tgt := 26) hx hb dX9_isDone_21 (by decide) (fun c4 => ?_) (fun c4 => ?_)
    · replace h := h.1 (k_lt rfl rfl c4)
      refine lv_iload_n hx hb dX9_isDone_26 rfl (lv_at hl 1 rfl) ?_
      by_cases c9_3 : x1.toInt = 3
      · refine lv_tableIn (off := 45) (tgt := 72) hx hb dX9_isDone_27 (by rw [c9_3]; decide) (by rw [c9_3]; decide) (by rw [c9_3]; rfl) (by decide) ?_
        replace h := h.1 (c9_3)
        refine lv_aload_n hx hb dX9_isDone_72 rfl (lv_at hl 0 rfl) ?_
        have hT_b5 : qT S (qO S 66 0) = 47 := hR.w.ref (hR.w.ptr ptrC_39) (hR.w.2.1 _ finC_31).2.1
        refine va_get (D := rD g) (ci := 8) (v := .ref (ad (qO S 66 0))) (C := RX9) (T := TX9) (N := 6) hx hb hts inX9 hown hR.K hR.P 66 (hR.at48 (hR.w.2.1 _ finC_31).2.1) rfl 0 (by decide) (hts _ kw_1552) (fun _ h9 => h9) (congrArg (fun z => some (vf ad z)) (hR.w.ptr ptrC_39)) dX9_isDone_73 ?_
        refine lv_iload_n hx hb dX9_isDone_76 rfl (lv_at hl 2 rfl) ?_
        obtain ⟨hv6, h⟩ := h
        have hFc := cfree hR hA
        refine va_calli (va_runV (As := [.int x2]) (rest := []) ⟨hx, hb, hml, hown, hts⟩ (rX8_opAt l g ad s.heap.size S (qO S 66 0) x2 hR.w hT_b5 hv6) (cwV 1 hts (gd_V kw_1596 kw_1513 kw_1514 kw_782 kw_1512) rfl rfl rfl (by decide +kernel) ⟨Nat.le_of_ble_eq_true rfl, Nat.le_of_ble_eq_true rfl⟩) ⟨cblind, va_recv hR.K hR.P (ci := 7) (q0 := (qO S 66 0)) rfl (hR.at47 hT_b5), fun U hU hW9 => cmk hU hW9 hR hex hE hFc⟩ rfl rfl hl.1 rfl (lv_room (Nat.le_of_ble_eq_true rfl)) dX9_isDone_77 ⟨Nat.le_of_ble_eq_true rfl, Nat.le_of_ble_eq_true rfl⟩) hR.sS (fun q _ h => hFc q h) hFc (fun r7 u9 t9 H1 locs ht9 hvm9 hw9 hB9 hz9 hk9 hS => ?_)
        have hR : RepC g ad A s S H1 locs := hR.call ht9 hB9 hR.w hS hFc
        obtain rfl : r7 = (fX8_opAt S (qO S 66 0) x2) := hw9
        clear hB9 hz9 hk9 hvm9 ht9 hS
        generalize H1 = H at hR ⊢
        refine lv_sipush (v := 167) hx hb dX9_isDone_80 (by decide) ?_
        have J_115 : ∀ (U115 : MS) (H : Heap) (locs : List Loc) (ls : Array Slot), w_X9_isDone_J115 Q U115 → shy S U115 → RepC g ad A s U115 H locs → lv_has ls 3 [] → W p l e (headSpec (wt yX9_isDone cX9_isDone 3 (some .boolean)) ({ frames := 4, cells := 0, slots := 0, locals := 98 })).room s m ([.ref (ad 66), .int x1, .int x2] : List Value).toArray below meth c H locs 0 0 (MQ below (va_Qi (fun (r : Int32) (u : MS) => Q r u ∧ wfC u ∧ shy S u ∧ (r = 0 ∨ r = 1)) (fun (u : MS) (t : State) => qEC g ad A u t) A) ([.ref (ad 66), .int x1, .int x2] : List Value).toArray s 0 0 A) (F0 m 115 ls []) := by
          intro U115 H locs ls h hsh hR hl
          unfold w_X9_isDone_J115 at h
          replace h := h hR.w
          refine lv_iconst (v := 0) hx hb dX9_isDone_115 (by decide) ?_
          exact W.zret (v := 0) hx hb hr (nz (Or.inl rfl)) (fun t9 ht9 hW9 => ⟨⟨_, U115, rfl, ⟨h, hR.w, hsh, (Or.inl rfl)⟩, ⟨by rw [ht9]; exact hR.P, hR.D⟩⟩, hR.sS.F ht9⟩) hR.sS.2.2 dX9_isDone_116
        refine lv_icmp_ne (tgt := 115) hx hb dX9_isDone_83 (by decide) (fun c9 => ?_) (fun c9 => ?_)
        · replace h := h.2 (k_ne rfl (by decide) c9)
          exact J_115 S _ _ ls h  hsh hR (lv_sub hl [] rfl)
        · replace h := h.1 (k_eq rfl (by decide) c9)
          refine lv_aload_n hx hb dX9_isDone_86 rfl (lv_at hl 0 rfl) ?_
          have hT_b10 : qT S (qO S 66 0) = 47 := hR.w.ref (hR.w.ptr ptrC_39) (hR.w.2.1 _ finC_31).2.1
          refine va_get (D := rD g) (ci := 8) (v := .ref (ad (qO S 66 0))) (C := RX9) (T := TX9) (N := 6) hx hb hts inX9 hown hR.K hR.P 66 (hR.at48 (hR.w.2.1 _ finC_31).2.1) rfl 0 (by decide) (hts _ kw_1552) (fun _ h9 => h9) (congrArg (fun z => some (vf ad z)) (hR.w.ptr ptrC_39)) dX9_isDone_87 ?_
          refine lv_iload_n hx hb dX9_isDone_90 rfl (lv_at hl 2 rfl) ?_
          obtain ⟨hv11, h⟩ := h
          have hFc := cfree hR hA
          refine va_calll (va_runV (As := [.int x2]) (rest := []) ⟨hx, hb, hml, hown, hts⟩ (rX8_argAt l g ad H.size S (qO S 66 0) x2 hR.w hT_b10 hv11) (cwV 1 hts (gd_V kw_1605 kw_1476 kw_1477 kw_782 kw_1475) rfl rfl rfl (by decide +kernel) ⟨Nat.le_of_ble_eq_true rfl, Nat.le_of_ble_eq_true rfl⟩) ⟨cblind, va_recv hR.K hR.P (ci := 7) (q0 := (qO S 66 0)) rfl (hR.at47 hT_b10), fun U hU hW9 => cmk hU hW9 hR hex hE hFc⟩ rfl rfl hl.1 rfl (lv_room (Nat.le_of_ble_eq_true rfl)) dX9_isDone_91 ⟨Nat.le_of_ble_eq_true rfl, Nat.le_of_ble_eq_true rfl⟩) hR.sS (fun q _ h => hFc q h) hFc (fun r12 u9 t9 H1 locs ht9 hvm9 hw9 hB9 hz9 hk9 hS => ?_)
          have hR : RepC g ad A s S H1 locs := hR.call ht9 hB9 hR.w hS hFc
          obtain rfl : r12 = (fX8_argAt S (qO S 66 0) x2) := hw9
          clear hB9 hz9 hk9 hvm9 ht9 hS
          generalize H1 = H at hR ⊢
          refine lv_iload_n hx hb dX9_isDone_94 rfl (lv_at hl 2 rfl) ?_
          refine lv_iconst (v := 1) hx hb dX9_isDone_95 (by decide) ?_
          refine lv_iadd hx hb dX9_isDone_96 ?_
          refine lv_topi (fun z14 ez14 => ?_)
          obtain rfl : z14 = (x2 + (1 : Int32)) := ez14
          refine lv_i2l (v := ((x2 + (1 : Int32)).toInt64)) hx hb dX9_isDone_97 rfl ?_
          refine W.lcmp hx hb dX9_isDone_98 ?_
          refine lv_topi (fun z15 ez15 => ?_)
          obtain rfl : z15 = (lg_cmp (fX8_argAt S (qO S 66 0) x2) ((x2 + (1 : Int32)).toInt64)) := ez15
          refine lv_if_ne (tgt := 115) hx hb dX9_isDone_99 (by decide) (fun c16 => ?_) (fun c16 => ?_)
          · replace h := h.2 (k_ne rfl (by decide) c16)
            exact J_115 S _ _ ls h  hsh hR (lv_sub hl [] rfl)
          · replace h := h.1 (k_eq rfl (by decide) c16)
            refine lv_aload_n hx hb dX9_isDone_102 rfl (lv_at hl 0 rfl) ?_
            refine lv_iload_n hx hb dX9_isDone_103 rfl (lv_at hl 2 rfl) ?_
            refine lv_iconst (v := 1) hx hb dX9_isDone_104 (by decide) ?_
            obtain ⟨Q17, h0, h⟩ := h
            have hFc := cfree hR hA
            refine va_calli (va_runV (As := [.int x2, .int 1]) (rest := []) ⟨hx, hb, hml, hown, hts⟩ (rX9_isDropped l g ad H.size S x2 (1 : Int32) hR.w  Q17 h0) (cwV 2 hts (gd_V kw_1606 kw_1616 kw_1617 kw_404 kw_1615) rfl rfl rfl (by decide +kernel) ⟨Nat.le_of_ble_eq_true rfl, Nat.le_of_ble_eq_true rfl⟩) ⟨cblind, va_recv hR.K hR.P (ci := 8) (q0 := 66) rfl (hR.at48 (hR.w.2.1 _ finC_31).2.1), fun U hU hW9 => cmk hU hW9 hR hex hE hFc⟩ rfl rfl hl.1 rfl (lv_room (Nat.le_of_ble_eq_true rfl)) dX9_isDone_105 ⟨Nat.le_of_ble_eq_true rfl, Nat.le_of_ble_eq_true rfl⟩) hR.sS (fun q _ h => hFc q h) hFc (fun r18 S19 t9 H1 locs ht9 hvm9 hw9 hB9 hz9 hk9 hS => ?_)
            obtain ⟨hq20, hw9, hs9, hz_r18⟩ := hw9
            have hR : RepC g ad A s S19 H1 locs := hR.call ht9 hB9 hw9 hS hFc
            have hsh := hsh.tr hs9
            replace h := h r18 S19 hq20 hw9 hs9
            clear hB9 hz9 hk9 hvm9 ht9 hw9 hs9 hS
            generalize H1 = H at hR ⊢
            refine lv_if_eq (tgt := 115) hx hb dX9_isDone_108 (by decide) (fun c21 => ?_) (fun c21 => ?_)
            · replace h := h.1 (k_eq rfl (by decide) c21)
              exact J_115 S19 _ _ ls h  hsh hR (lv_sub hl [] rfl)
            · replace h := h.2 (k_ne rfl (by decide) c21)
              refine lv_iconst (v := 1) hx hb dX9_isDone_111 (by decide) ?_
              refine lv_goto (tgt := 116) hx hb dX9_isDone_112 (by decide) ?_
              exact W.zret (v := 1) hx hb hr (nz (Or.inr rfl)) (fun t9 ht9 hW9 => ⟨⟨_, S19, rfl, ⟨h, hR.w, hsh, (Or.inr rfl)⟩, ⟨by rw [ht9]; exact hR.P, hR.D⟩⟩, hR.sS.F ht9⟩) hR.sS.2.2 dX9_isDone_116
      replace h := h.2 c9_3
      by_cases c9_4 : x1.toInt = 4
      · refine lv_tableIn (off := 90) (tgt := 117) hx hb dX9_isDone_27 (by rw [c9_4]; decide) (by rw [c9_4]; decide) (by rw [c9_4]; rfl) (by decide) ?_
        replace h := h.1 (c9_4)
        refine lv_aload_n hx hb dX9_isDone_117 rfl (lv_at hl 0 rfl) ?_
        have hT_b22 : qT S (qO S 66 0) = 47 := hR.w.ref (hR.w.ptr ptrC_39) (hR.w.2.1 _ finC_31).2.1
        refine va_get (D := rD g) (ci := 8) (v := .ref (ad (qO S 66 0))) (C := RX9) (T := TX9) (N := 6) hx hb hts inX9 hown hR.K hR.P 66 (hR.at48 (hR.w.2.1 _ finC_31).2.1) rfl 0 (by decide) (hts _ kw_1552) (fun _ h9 => h9) (congrArg (fun z => some (vf ad z)) (hR.w.ptr ptrC_39)) dX9_isDone_118 ?_
        refine lv_iload_n hx hb dX9_isDone_121 rfl (lv_at hl 2 rfl) ?_
        obtain ⟨hv23, h⟩ := h
        have hFc := cfree hR hA
        refine va_calli (va_runV (As := [.int x2]) (rest := []) ⟨hx, hb, hml, hown, hts⟩ (rX8_opAt l g ad s.heap.size S (qO S 66 0) x2 hR.w hT_b22 hv23) (cwV 1 hts (gd_V kw_1596 kw_1513 kw_1514 kw_782 kw_1512) rfl rfl rfl (by decide +kernel) ⟨Nat.le_of_ble_eq_true rfl, Nat.le_of_ble_eq_true rfl⟩) ⟨cblind, va_recv hR.K hR.P (ci := 7) (q0 := (qO S 66 0)) rfl (hR.at47 hT_b22), fun U hU hW9 => cmk hU hW9 hR hex hE hFc⟩ rfl rfl hl.1 rfl (lv_room (Nat.le_of_ble_eq_true rfl)) dX9_isDone_122 ⟨Nat.le_of_ble_eq_true rfl, Nat.le_of_ble_eq_true rfl⟩) hR.sS (fun q _ h => hFc q h) hFc (fun r24 u9 t9 H1 locs ht9 hvm9 hw9 hB9 hz9 hk9 hS => ?_)
        have hR : RepC g ad A s S H1 locs := hR.call ht9 hB9 hR.w hS hFc
        obtain rfl : r24 = (fX8_opAt S (qO S 66 0) x2) := hw9
        clear hB9 hz9 hk9 hvm9 ht9 hS
        generalize H1 = H at hR ⊢
        have J_141 : ∀ (U141 : MS) (H : Heap) (locs : List Loc) (ls : Array Slot), w_X9_isDone_J141 Q U141 → shy S U141 → RepC g ad A s U141 H locs → lv_has ls 3 [] → W p l e (headSpec (wt yX9_isDone cX9_isDone 3 (some .boolean)) ({ frames := 4, cells := 0, slots := 0, locals := 98 })).room s m ([.ref (ad 66), .int x1, .int x2] : List Value).toArray below meth c H locs 0 0 (MQ below (va_Qi (fun (r : Int32) (u : MS) => Q r u ∧ wfC u ∧ shy S u ∧ (r = 0 ∨ r = 1)) (fun (u : MS) (t : State) => qEC g ad A u t) A) ([.ref (ad 66), .int x1, .int x2] : List Value).toArray s 0 0 A) (F0 m 141 ls []) := by
          intro U141 H locs ls h hsh hR hl
          unfold w_X9_isDone_J141 at h
          replace h := h hR.w
          refine lv_iconst (v := 0) hx hb dX9_isDone_141 (by decide) ?_
          exact W.zret (v := 0) hx hb hr (nz (Or.inl rfl)) (fun t9 ht9 hW9 => ⟨⟨_, U141, rfl, ⟨h, hR.w, hsh, (Or.inl rfl)⟩, ⟨by rw [ht9]; exact hR.P, hR.D⟩⟩, hR.sS.F ht9⟩) hR.sS.2.2 dX9_isDone_142
        refine lv_if_ne (tgt := 141) hx hb dX9_isDone_125 (by decide) (fun c26 => ?_) (fun c26 => ?_)
        · replace h := h.2 (k_ne rfl (by decide) c26)
          exact J_141 S _ _ ls h  hsh hR (lv_sub hl [] rfl)
        · replace h := h.1 (k_eq rfl (by decide) c26)
          refine lv_aload_n hx hb dX9_isDone_128 rfl (lv_at hl 0 rfl) ?_
          refine lv_iload_n hx hb dX9_isDone_129 rfl (lv_at hl 2 rfl) ?_
          refine lv_iconst (v := 1) hx hb dX9_isDone_130 (by decide) ?_
          obtain ⟨Q27, h0, h⟩ := h
          have hFc := cfree hR hA
          refine va_calli (va_runV (As := [.int x2, .int 1]) (rest := []) ⟨hx, hb, hml, hown, hts⟩ (rX9_isDropped l g ad H.size S x2 (1 : Int32) hR.w  Q27 h0) (cwV 2 hts (gd_V kw_1606 kw_1616 kw_1617 kw_404 kw_1615) rfl rfl rfl (by decide +kernel) ⟨Nat.le_of_ble_eq_true rfl, Nat.le_of_ble_eq_true rfl⟩) ⟨cblind, va_recv hR.K hR.P (ci := 8) (q0 := 66) rfl (hR.at48 (hR.w.2.1 _ finC_31).2.1), fun U hU hW9 => cmk hU hW9 hR hex hE hFc⟩ rfl rfl hl.1 rfl (lv_room (Nat.le_of_ble_eq_true rfl)) dX9_isDone_131 ⟨Nat.le_of_ble_eq_true rfl, Nat.le_of_ble_eq_true rfl⟩) hR.sS (fun q _ h => hFc q h) hFc (fun r28 S29 t9 H1 locs ht9 hvm9 hw9 hB9 hz9 hk9 hS => ?_)
          obtain ⟨hq30, hw9, hs9, hz_r28⟩ := hw9
          have hR : RepC g ad A s S29 H1 locs := hR.call ht9 hB9 hw9 hS hFc
          have hsh := hsh.tr hs9
          replace h := h r28 S29 hq30 hw9 hs9
          clear hB9 hz9 hk9 hvm9 ht9 hw9 hs9 hS
          generalize H1 = H at hR ⊢
          refine lv_if_eq (tgt := 141) hx hb dX9_isDone_134 (by decide) (fun c31 => ?_) (fun c31 => ?_)
          · replace h := h.1 (k_eq rfl (by decide) c31)
            exact J_141 S29 _ _ ls h  hsh hR (lv_sub hl [] rfl)
          · replace h := h.2 (k_ne rfl (by decide) c31)
            refine lv_iconst (v := 1) hx hb dX9_isDone_137 (by decide) ?_
            refine lv_goto (tgt := 142) hx hb dX9_isDone_138 (by decide) ?_
            exact W.zret (v := 1) hx hb hr (nz (Or.inr rfl)) (fun t9 ht9 hW9 => ⟨⟨_, S29, rfl, ⟨h, hR.w, hsh, (Or.inr rfl)⟩, ⟨by rw [ht9]; exact hR.P, hR.D⟩⟩, hR.sS.F ht9⟩) hR.sS.2.2 dX9_isDone_142
      replace h := h.2 c9_4
      by_cases c9_5 : x1.toInt = 5
      · refine lv_tableIn (off := 116) (tgt := 143) hx hb dX9_isDone_27 (by rw [c9_5]; decide) (by rw [c9_5]; decide) (by rw [c9_5]; rfl) (by decide) ?_
        replace h := h.1 (c9_5)
        refine lv_aload_n hx hb dX9_isDone_143 rfl (lv_at hl 0 rfl) ?_
        refine lv_iload_n hx hb dX9_isDone_144 rfl (lv_at hl 2 rfl) ?_
        obtain ⟨Q32, h0, h⟩ := h
        have hFc := cfree hR hA
        refine va_calli (va_runV (As := [.int x2]) (rest := []) ⟨hx, hb, hml, hown, hts⟩ (rX9_isFolded l g ad s.heap.size S x2 hR.w  Q32 h0) (cwV 1 hts (gd_V kw_1607 kw_1619 kw_1620 kw_404 kw_1618) rfl rfl rfl (by decide +kernel) ⟨Nat.le_of_ble_eq_true rfl, Nat.le_of_ble_eq_true rfl⟩) ⟨cblind, va_recv hR.K hR.P (ci := 8) (q0 := 66) rfl (hR.at48 (hR.w.2.1 _ finC_31).2.1), fun U hU hW9 => cmk hU hW9 hR hex hE hFc⟩ rfl rfl hl.1 rfl (lv_room (Nat.le_of_ble_eq_true rfl)) dX9_isDone_145 ⟨Nat.le_of_ble_eq_true rfl, Nat.le_of_ble_eq_true rfl⟩) hR.sS (fun q _ h => hFc q h) hFc (fun r33 S34 t9 H1 locs ht9 hvm9 hw9 hB9 hz9 hk9 hS => ?_)
        obtain ⟨hq35, hw9, hs9, hz_r33⟩ := hw9
        have hR : RepC g ad A s S34 H1 locs := hR.call ht9 hB9 hw9 hS hFc
        have hsh := hsh.tr hs9
        replace h := h r33 S34 hq35 hw9 hs9
        clear hB9 hz9 hk9 hvm9 ht9 hw9 hs9 hS
        generalize H1 = H at hR ⊢
        exact W.zret (v := r33) hx hb hr (nz hz_r33) (fun t9 ht9 hW9 => ⟨⟨_, S34, rfl, ⟨h, hR.w, hsh, hz_r33⟩, ⟨by rw [ht9]; exact hR.P, hR.D⟩⟩, hR.sS.F ht9⟩) hR.sS.2.2 dX9_isDone_148
      replace h := h.2 c9_5
      by_cases c9_6 : x1.toInt = 6
      · refine lv_tableIn (off := 122) (tgt := 149) hx hb dX9_isDone_27 (by rw [c9_6]; decide) (by rw [c9_6]; decide) (by rw [c9_6]; rfl) (by decide) ?_
        replace h := h.1 (c9_6)
        refine lv_aload_n hx hb dX9_isDone_149 rfl (lv_at hl 0 rfl) ?_
        refine lv_iload_n hx hb dX9_isDone_150 rfl (lv_at hl 2 rfl) ?_
        obtain ⟨Q36, h0, h⟩ := h
        have hFc := cfree hR hA
        refine va_calli (va_runV (As := [.int x2]) (rest := []) ⟨hx, hb, hml, hown, hts⟩ (rX9_isUnaryFolded l g ad s.heap.size S x2 hR.w  Q36 h0) (cwV 1 hts (gd_V kw_1608 kw_1653 kw_1654 kw_404 kw_1652) rfl rfl rfl (by decide +kernel) ⟨Nat.le_of_ble_eq_true rfl, Nat.le_of_ble_eq_true rfl⟩) ⟨cblind, va_recv hR.K hR.P (ci := 8) (q0 := 66) rfl (hR.at48 (hR.w.2.1 _ finC_31).2.1), fun U hU hW9 => cmk hU hW9 hR hex hE hFc⟩ rfl rfl hl.1 rfl (lv_room (Nat.le_of_ble_eq_true rfl)) dX9_isDone_151 ⟨Nat.le_of_ble_eq_true rfl, Nat.le_of_ble_eq_true rfl⟩) hR.sS (fun q _ h => hFc q h) hFc (fun r37 S38 t9 H1 locs ht9 hvm9 hw9 hB9 hz9 hk9 hS => ?_)
        obtain ⟨hq39, hw9, hs9, hz_r37⟩ := hw9
        have hR : RepC g ad A s S38 H1 locs := hR.call ht9 hB9 hw9 hS hFc
        have hsh := hsh.tr hs9
        replace h := h r37 S38 hq39 hw9 hs9
        clear hB9 hz9 hk9 hvm9 ht9 hw9 hs9 hS
        generalize H1 = H at hR ⊢
        exact W.zret (v := r37) hx hb hr (nz hz_r37) (fun t9 ht9 hW9 => ⟨⟨_, S38, rfl, ⟨h, hR.w, hsh, hz_r37⟩, ⟨by rw [ht9]; exact hR.P, hR.D⟩⟩, hR.sS.F ht9⟩) hR.sS.2.2 dX9_isDone_154
      replace h := h.2 c9_6
      by_cases c9_7 : x1.toInt = 7
      · refine lv_tableIn (off := 128) (tgt := 155) hx hb dX9_isDone_27 (by rw [c9_7]; decide) (by rw [c9_7]; decide) (by rw [c9_7]; rfl) (by decide) ?_
        replace h := h.1 (c9_7)
        refine lv_aload_n hx hb dX9_isDone_155 rfl (lv_at hl 0 rfl) ?_
        refine lv_iload_n hx hb dX9_isDone_156 rfl (lv_at hl 2 rfl) ?_
        obtain ⟨Q40, h0, h⟩ := h
        have hFc := cfree hR hA
        refine va_calli (va_runV (As := [.int x2]) (rest := []) ⟨hx, hb, hml, hown, hts⟩ (rX9_isJumpDecided l g ad s.heap.size S x2 hR.w  Q40 h0) (cwV 1 hts (gd_V kw_1609 kw_1629 kw_1630 kw_404 kw_1628) rfl rfl rfl (by decide +kernel) ⟨Nat.le_of_ble_eq_true rfl, Nat.le_of_ble_eq_true rfl⟩) ⟨cblind, va_recv hR.K hR.P (ci := 8) (q0 := 66) rfl (hR.at48 (hR.w.2.1 _ finC_31).2.1), fun U hU hW9 => cmk hU hW9 hR hex hE hFc⟩ rfl rfl hl.1 rfl (lv_room (Nat.le_of_ble_eq_true rfl)) dX9_isDone_157 ⟨Nat.le_of_ble_eq_true rfl, Nat.le_of_ble_eq_true rfl⟩) hR.sS (fun q _ h => hFc q h) hFc (fun r41 S42 t9 H1 locs ht9 hvm9 hw9 hB9 hz9 hk9 hS => ?_)
        obtain ⟨hq43, hw9, hs9, hz_r41⟩ := hw9
        have hR : RepC g ad A s S42 H1 locs := hR.call ht9 hB9 hw9 hS hFc
        have hsh := hsh.tr hs9
        replace h := h r41 S42 hq43 hw9 hs9
        clear hB9 hz9 hk9 hvm9 ht9 hw9 hs9 hS
        generalize H1 = H at hR ⊢
        exact W.zret (v := r41) hx hb hr (nz hz_r41) (fun t9 ht9 hW9 => ⟨⟨_, S42, rfl, ⟨h, hR.w, hsh, hz_r41⟩, ⟨by rw [ht9]; exact hR.P, hR.D⟩⟩, hR.sS.F ht9⟩) hR.sS.2.2 dX9_isDone_160
      replace h := h.2 c9_7
      by_cases c9_8 : x1.toInt = 8
      · refine lv_tableIn (off := 134) (tgt := 161) hx hb dX9_isDone_27 (by rw [c9_8]; decide) (by rw [c9_8]; decide) (by rw [c9_8]; rfl) (by decide) ?_
        replace h := h.1 (c9_8)
        refine lv_aload_n hx hb dX9_isDone_161 rfl (lv_at hl 0 rfl) ?_
        refine lv_iload_n hx hb dX9_isDone_162 rfl (lv_at hl 2 rfl) ?_
        refine lv_iconst (v := 2) hx hb dX9_isDone_163 (by decide) ?_
        obtain ⟨hv44, h⟩ := h
        have hFc := cfree hR hA
        refine va_calli (va_runV (As := [.int x2, .int 2]) (rest := []) ⟨hx, hb, hml, hown, hts⟩ (rX9_isWindow l g ad s.heap.size S x2 (2 : Int32) hR.w  hv44) (cwV 2 hts (gd_V kw_1610 kw_1658 kw_1659 kw_404 kw_1657) rfl rfl rfl (by decide +kernel) ⟨Nat.le_of_ble_eq_true rfl, Nat.le_of_ble_eq_true rfl⟩) ⟨cblind, va_recv hR.K hR.P (ci := 8) (q0 := 66) rfl (hR.at48 (hR.w.2.1 _ finC_31).2.1), fun U hU hW9 => cmk hU hW9 hR hex hE hFc⟩ rfl rfl hl.1 rfl (lv_room (Nat.le_of_ble_eq_true rfl)) dX9_isDone_164 ⟨Nat.le_of_ble_eq_true rfl, Nat.le_of_ble_eq_true rfl⟩) hR.sS (fun q _ h => hFc q h) hFc (fun r45 u9 t9 H1 locs ht9 hvm9 hw9 hB9 hz9 hk9 hS => ?_)
        have hR : RepC g ad A s S H1 locs := hR.call ht9 hB9 hR.w hS hFc
        obtain ⟨rfl, hz_r45⟩ := hw9
        clear hB9 hz9 hk9 hvm9 ht9 hS
        generalize H1 = H at hR ⊢
        have J_191 : ∀ (U191 : MS) (H : Heap) (locs : List Loc) (ls : Array Slot), w_X9_isDone_J191 Q U191 → shy S U191 → RepC g ad A s U191 H locs → lv_has ls 3 [] → W p l e (headSpec (wt yX9_isDone cX9_isDone 3 (some .boolean)) ({ frames := 4, cells := 0, slots := 0, locals := 98 })).room s m ([.ref (ad 66), .int x1, .int x2] : List Value).toArray below meth c H locs 0 0 (MQ below (va_Qi (fun (r : Int32) (u : MS) => Q r u ∧ wfC u ∧ shy S u ∧ (r = 0 ∨ r = 1)) (fun (u : MS) (t : State) => qEC g ad A u t) A) ([.ref (ad 66), .int x1, .int x2] : List Value).toArray s 0 0 A) (F0 m 191 ls []) := by
          intro U191 H locs ls h hsh hR hl
          unfold w_X9_isDone_J191 at h
          replace h := h hR.w
          refine lv_iconst (v := 0) hx hb dX9_isDone_191 (by decide) ?_
          exact W.zret (v := 0) hx hb hr (nz (Or.inl rfl)) (fun t9 ht9 hW9 => ⟨⟨_, U191, rfl, ⟨h, hR.w, hsh, (Or.inl rfl)⟩, ⟨by rw [ht9]; exact hR.P, hR.D⟩⟩, hR.sS.F ht9⟩) hR.sS.2.2 dX9_isDone_192
        refine lv_if_eq (tgt := 191) hx hb dX9_isDone_167 (by decide) (fun c47 => ?_) (fun c47 => ?_)
        · replace h := h.1 (k_eq rfl (by decide) c47)
          exact J_191 S _ _ ls h  hsh hR (lv_sub hl [] rfl)
        · replace h := h.2 (k_ne rfl (by decide) c47)
          refine lv_aload_n hx hb dX9_isDone_170 rfl (lv_at hl 0 rfl) ?_
          refine lv_iload_n hx hb dX9_isDone_171 rfl (lv_at hl 2 rfl) ?_
          obtain ⟨hv48, h⟩ := h
          have hFc := cfree hR hA
          refine va_calli (va_runV (As := [.int x2]) (rest := []) ⟨hx, hb, hml, hown, hts⟩ (rX9_isNeutral l g ad H.size S x2 hR.w  hv48) (cwV 1 hts (gd_V kw_1611 kw_1633 kw_1634 kw_404 kw_1632) rfl rfl rfl (by decide +kernel) ⟨Nat.le_of_ble_eq_true rfl, Nat.le_of_ble_eq_true rfl⟩) ⟨cblind, va_recv hR.K hR.P (ci := 8) (q0 := 66) rfl (hR.at48 (hR.w.2.1 _ finC_31).2.1), fun U hU hW9 => cmk hU hW9 hR hex hE hFc⟩ rfl rfl hl.1 rfl (lv_room (Nat.le_of_ble_eq_true rfl)) dX9_isDone_172 ⟨Nat.le_of_ble_eq_true rfl, Nat.le_of_ble_eq_true rfl⟩) hR.sS (fun q _ h => hFc q h) hFc (fun r49 u9 t9 H1 locs ht9 hvm9 hw9 hB9 hz9 hk9 hS => ?_)
          have hR : RepC g ad A s S H1 locs := hR.call ht9 hB9 hR.w hS hFc
          obtain ⟨rfl, hz_r49⟩ := hw9
          clear hB9 hz9 hk9 hvm9 ht9 hS
          generalize H1 = H at hR ⊢
          refine lv_if_eq (tgt := 191) hx hb dX9_isDone_175 (by decide) (fun c51 => ?_) (fun c51 => ?_)
          · replace h := h.1 (k_eq rfl (by decide) c51)
            exact J_191 S _ _ ls h  hsh hR (lv_sub hl [] rfl)
          · replace h := h.2 (k_ne rfl (by decide) c51)
            refine lv_aload_n hx hb dX9_isDone_178 rfl (lv_at hl 0 rfl) ?_
            refine lv_iload_n hx hb dX9_isDone_179 rfl (lv_at hl 2 rfl) ?_
            refine lv_iconst (v := 2) hx hb dX9_isDone_180 (by decide) ?_
            obtain ⟨Q52, h0, h⟩ := h
            have hFc := cfree hR hA
            refine va_calli (va_runV (As := [.int x2, .int 2]) (rest := []) ⟨hx, hb, hml, hown, hts⟩ (rX9_isDropped l g ad H.size S x2 (2 : Int32) hR.w  Q52 h0) (cwV 2 hts (gd_V kw_1606 kw_1616 kw_1617 kw_404 kw_1615) rfl rfl rfl (by decide +kernel) ⟨Nat.le_of_ble_eq_true rfl, Nat.le_of_ble_eq_true rfl⟩) ⟨cblind, va_recv hR.K hR.P (ci := 8) (q0 := 66) rfl (hR.at48 (hR.w.2.1 _ finC_31).2.1), fun U hU hW9 => cmk hU hW9 hR hex hE hFc⟩ rfl rfl hl.1 rfl (lv_room (Nat.le_of_ble_eq_true rfl)) dX9_isDone_181 ⟨Nat.le_of_ble_eq_true rfl, Nat.le_of_ble_eq_true rfl⟩) hR.sS (fun q _ h => hFc q h) hFc (fun r53 S54 t9 H1 locs ht9 hvm9 hw9 hB9 hz9 hk9 hS => ?_)
            obtain ⟨hq55, hw9, hs9, hz_r53⟩ := hw9
            have hR : RepC g ad A s S54 H1 locs := hR.call ht9 hB9 hw9 hS hFc
            have hsh := hsh.tr hs9
            replace h := h r53 S54 hq55 hw9 hs9
            clear hB9 hz9 hk9 hvm9 ht9 hw9 hs9 hS
            generalize H1 = H at hR ⊢
            refine lv_if_eq (tgt := 191) hx hb dX9_isDone_184 (by decide) (fun c56 => ?_) (fun c56 => ?_)
            · replace h := h.1 (k_eq rfl (by decide) c56)
              exact J_191 S54 _ _ ls h  hsh hR (lv_sub hl [] rfl)
            · replace h := h.2 (k_ne rfl (by decide) c56)
              refine lv_iconst (v := 1) hx hb dX9_isDone_187 (by decide) ?_
              refine lv_goto (tgt := 192) hx hb dX9_isDone_188 (by decide) ?_
              exact W.zret (v := 1) hx hb hr (nz (Or.inr rfl)) (fun t9 ht9 hW9 => ⟨⟨_, S54, rfl, ⟨h, hR.w, hsh, (Or.inr rfl)⟩, ⟨by rw [ht9]; exact hR.P, hR.D⟩⟩, hR.sS.F ht9⟩) hR.sS.2.2 dX9_isDone_192
      replace h := h.2 c9_8
      by_cases c9_9 : x1.toInt = 9
      · refine lv_tableIn (off := 166) (tgt := 193) hx hb dX9_isDone_27 (by rw [c9_9]; decide) (by rw [c9_9]; decide) (by rw [c9_9]; rfl) (by decide) ?_
        replace h := h.1 (c9_9)
        refine lv_aload_n hx hb dX9_isDone_193 rfl (lv_at hl 0 rfl) ?_
        refine lv_iload_n hx hb dX9_isDone_194 rfl (lv_at hl 2 rfl) ?_
        refine lv_iconst (v := 2) hx hb dX9_isDone_195 (by decide) ?_
        obtain ⟨hv57, h⟩ := h
        have hFc := cfree hR hA
        refine va_calli (va_runV (As := [.int x2, .int 2]) (rest := []) ⟨hx, hb, hml, hown, hts⟩ (rX9_isWindow l g ad s.heap.size S x2 (2 : Int32) hR.w  hv57) (cwV 2 hts (gd_V kw_1610 kw_1658 kw_1659 kw_404 kw_1657) rfl rfl rfl (by decide +kernel) ⟨Nat.le_of_ble_eq_true rfl, Nat.le_of_ble_eq_true rfl⟩) ⟨cblind, va_recv hR.K hR.P (ci := 8) (q0 := 66) rfl (hR.at48 (hR.w.2.1 _ finC_31).2.1), fun U hU hW9 => cmk hU hW9 hR hex hE hFc⟩ rfl rfl hl.1 rfl (lv_room (Nat.le_of_ble_eq_true rfl)) dX9_isDone_196 ⟨Nat.le_of_ble_eq_true rfl, Nat.le_of_ble_eq_true rfl⟩) hR.sS (fun q _ h => hFc q h) hFc (fun r58 u9 t9 H1 locs ht9 hvm9 hw9 hB9 hz9 hk9 hS => ?_)
        have hR : RepC g ad A s S H1 locs := hR.call ht9 hB9 hR.w hS hFc
        obtain ⟨rfl, hz_r58⟩ := hw9
        clear hB9 hz9 hk9 hvm9 ht9 hS
        generalize H1 = H at hR ⊢
        have J_223 : ∀ (U223 : MS) (H : Heap) (locs : List Loc) (ls : Array Slot), w_X9_isDone_J223 Q U223 → shy S U223 → RepC g ad A s U223 H locs → lv_has ls 3 [] → W p l e (headSpec (wt yX9_isDone cX9_isDone 3 (some .boolean)) ({ frames := 4, cells := 0, slots := 0, locals := 98 })).room s m ([.ref (ad 66), .int x1, .int x2] : List Value).toArray below meth c H locs 0 0 (MQ below (va_Qi (fun (r : Int32) (u : MS) => Q r u ∧ wfC u ∧ shy S u ∧ (r = 0 ∨ r = 1)) (fun (u : MS) (t : State) => qEC g ad A u t) A) ([.ref (ad 66), .int x1, .int x2] : List Value).toArray s 0 0 A) (F0 m 223 ls []) := by
          intro U223 H locs ls h hsh hR hl
          unfold w_X9_isDone_J223 at h
          replace h := h hR.w
          refine lv_iconst (v := 0) hx hb dX9_isDone_223 (by decide) ?_
          exact W.zret (v := 0) hx hb hr (nz (Or.inl rfl)) (fun t9 ht9 hW9 => ⟨⟨_, U223, rfl, ⟨h, hR.w, hsh, (Or.inl rfl)⟩, ⟨by rw [ht9]; exact hR.P, hR.D⟩⟩, hR.sS.F ht9⟩) hR.sS.2.2 dX9_isDone_224
        refine lv_if_eq (tgt := 223) hx hb dX9_isDone_199 (by decide) (fun c60 => ?_) (fun c60 => ?_)
        · replace h := h.1 (k_eq rfl (by decide) c60)
          exact J_223 S _ _ ls h  hsh hR (lv_sub hl [] rfl)
        · replace h := h.2 (k_ne rfl (by decide) c60)
          refine lv_aload_n hx hb dX9_isDone_202 rfl (lv_at hl 0 rfl) ?_
          refine lv_iload_n hx hb dX9_isDone_203 rfl (lv_at hl 2 rfl) ?_
          obtain ⟨hv61, h⟩ := h
          have hFc := cfree hR hA
          refine va_calli (va_runV (As := [.int x2]) (rest := []) ⟨hx, hb, hml, hown, hts⟩ (rX9_isPopped l g ad H.size S x2 hR.w  hv61) (cwV 1 hts (gd_V kw_1612 kw_1645 kw_1646 kw_404 kw_1644) rfl rfl rfl (by decide +kernel) ⟨Nat.le_of_ble_eq_true rfl, Nat.le_of_ble_eq_true rfl⟩) ⟨cblind, va_recv hR.K hR.P (ci := 8) (q0 := 66) rfl (hR.at48 (hR.w.2.1 _ finC_31).2.1), fun U hU hW9 => cmk hU hW9 hR hex hE hFc⟩ rfl rfl hl.1 rfl (lv_room (Nat.le_of_ble_eq_true rfl)) dX9_isDone_204 ⟨Nat.le_of_ble_eq_true rfl, Nat.le_of_ble_eq_true rfl⟩) hR.sS (fun q _ h => hFc q h) hFc (fun r62 u9 t9 H1 locs ht9 hvm9 hw9 hB9 hz9 hk9 hS => ?_)
          have hR : RepC g ad A s S H1 locs := hR.call ht9 hB9 hR.w hS hFc
          obtain ⟨rfl, hz_r62⟩ := hw9
          clear hB9 hz9 hk9 hvm9 ht9 hS
          generalize H1 = H at hR ⊢
          refine lv_if_eq (tgt := 223) hx hb dX9_isDone_207 (by decide) (fun c64 => ?_) (fun c64 => ?_)
          · replace h := h.1 (k_eq rfl (by decide) c64)
            exact J_223 S _ _ ls h  hsh hR (lv_sub hl [] rfl)
          · replace h := h.2 (k_ne rfl (by decide) c64)
            refine lv_aload_n hx hb dX9_isDone_210 rfl (lv_at hl 0 rfl) ?_
            refine lv_iload_n hx hb dX9_isDone_211 rfl (lv_at hl 2 rfl) ?_
            refine lv_iconst (v := 2) hx hb dX9_isDone_212 (by decide) ?_
            obtain ⟨Q65, h0, h⟩ := h
            have hFc := cfree hR hA
            refine va_calli (va_runV (As := [.int x2, .int 2]) (rest := []) ⟨hx, hb, hml, hown, hts⟩ (rX9_isDropped l g ad H.size S x2 (2 : Int32) hR.w  Q65 h0) (cwV 2 hts (gd_V kw_1606 kw_1616 kw_1617 kw_404 kw_1615) rfl rfl rfl (by decide +kernel) ⟨Nat.le_of_ble_eq_true rfl, Nat.le_of_ble_eq_true rfl⟩) ⟨cblind, va_recv hR.K hR.P (ci := 8) (q0 := 66) rfl (hR.at48 (hR.w.2.1 _ finC_31).2.1), fun U hU hW9 => cmk hU hW9 hR hex hE hFc⟩ rfl rfl hl.1 rfl (lv_room (Nat.le_of_ble_eq_true rfl)) dX9_isDone_213 ⟨Nat.le_of_ble_eq_true rfl, Nat.le_of_ble_eq_true rfl⟩) hR.sS (fun q _ h => hFc q h) hFc (fun r66 S67 t9 H1 locs ht9 hvm9 hw9 hB9 hz9 hk9 hS => ?_)
            obtain ⟨hq68, hw9, hs9, hz_r66⟩ := hw9
            have hR : RepC g ad A s S67 H1 locs := hR.call ht9 hB9 hw9 hS hFc
            have hsh := hsh.tr hs9
            replace h := h r66 S67 hq68 hw9 hs9
            clear hB9 hz9 hk9 hvm9 ht9 hw9 hs9 hS
            generalize H1 = H at hR ⊢
            refine lv_if_eq (tgt := 223) hx hb dX9_isDone_216 (by decide) (fun c69 => ?_) (fun c69 => ?_)
            · replace h := h.1 (k_eq rfl (by decide) c69)
              exact J_223 S67 _ _ ls h  hsh hR (lv_sub hl [] rfl)
            · replace h := h.2 (k_ne rfl (by decide) c69)
              refine lv_iconst (v := 1) hx hb dX9_isDone_219 (by decide) ?_
              refine lv_goto (tgt := 224) hx hb dX9_isDone_220 (by decide) ?_
              exact W.zret (v := 1) hx hb hr (nz (Or.inr rfl)) (fun t9 ht9 hW9 => ⟨⟨_, S67, rfl, ⟨h, hR.w, hsh, (Or.inr rfl)⟩, ⟨by rw [ht9]; exact hR.P, hR.D⟩⟩, hR.sS.F ht9⟩) hR.sS.2.2 dX9_isDone_224
      replace h := h.2 c9_9
      by_cases c9_10 : x1.toInt = 10
      · refine lv_tableIn (off := 198) (tgt := 225) hx hb dX9_isDone_27 (by rw [c9_10]; decide) (by rw [c9_10]; decide) (by rw [c9_10]; rfl) (by decide) ?_
        replace h := h.1 (c9_10)
        refine lv_aload_n hx hb dX9_isDone_225 rfl (lv_at hl 0 rfl) ?_
        refine lv_iload_n hx hb dX9_isDone_226 rfl (lv_at hl 2 rfl) ?_
        refine lv_iconst (v := 2) hx hb dX9_isDone_227 (by decide) ?_
        obtain ⟨hv70, h⟩ := h
        have hFc := cfree hR hA
        refine va_calli (va_runV (As := [.int x2, .int 2]) (rest := []) ⟨hx, hb, hml, hown, hts⟩ (rX9_isWindow l g ad s.heap.size S x2 (2 : Int32) hR.w  hv70) (cwV 2 hts (gd_V kw_1610 kw_1658 kw_1659 kw_404 kw_1657) rfl rfl rfl (by decide +kernel) ⟨Nat.le_of_ble_eq_true rfl, Nat.le_of_ble_eq_true rfl⟩) ⟨cblind, va_recv hR.K hR.P (ci := 8) (q0 := 66) rfl (hR.at48 (hR.w.2.1 _ finC_31).2.1), fun U hU hW9 => cmk hU hW9 hR hex hE hFc⟩ rfl rfl hl.1 rfl (lv_room (Nat.le_of_ble_eq_true rfl)) dX9_isDone_228 ⟨Nat.le_of_ble_eq_true rfl, Nat.le_of_ble_eq_true rfl⟩) hR.sS (fun q _ h => hFc q h) hFc (fun r71 u9 t9 H1 locs ht9 hvm9 hw9 hB9 hz9 hk9 hS => ?_)
        have hR : RepC g ad A s S H1 locs := hR.call ht9 hB9 hR.w hS hFc
        obtain ⟨rfl, hz_r71⟩ := hw9
        clear hB9 hz9 hk9 hvm9 ht9 hS
        generalize H1 = H at hR ⊢
        have J_255 : ∀ (U255 : MS) (H : Heap) (locs : List Loc) (ls : Array Slot), w_X9_isDone_J255 Q U255 → shy S U255 → RepC g ad A s U255 H locs → lv_has ls 3 [] → W p l e (headSpec (wt yX9_isDone cX9_isDone 3 (some .boolean)) ({ frames := 4, cells := 0, slots := 0, locals := 98 })).room s m ([.ref (ad 66), .int x1, .int x2] : List Value).toArray below meth c H locs 0 0 (MQ below (va_Qi (fun (r : Int32) (u : MS) => Q r u ∧ wfC u ∧ shy S u ∧ (r = 0 ∨ r = 1)) (fun (u : MS) (t : State) => qEC g ad A u t) A) ([.ref (ad 66), .int x1, .int x2] : List Value).toArray s 0 0 A) (F0 m 255 ls []) := by
          intro U255 H locs ls h hsh hR hl
          unfold w_X9_isDone_J255 at h
          replace h := h hR.w
          refine lv_iconst (v := 0) hx hb dX9_isDone_255 (by decide) ?_
          exact W.zret (v := 0) hx hb hr (nz (Or.inl rfl)) (fun t9 ht9 hW9 => ⟨⟨_, U255, rfl, ⟨h, hR.w, hsh, (Or.inl rfl)⟩, ⟨by rw [ht9]; exact hR.P, hR.D⟩⟩, hR.sS.F ht9⟩) hR.sS.2.2 dX9_isDone_256
        refine lv_if_eq (tgt := 255) hx hb dX9_isDone_231 (by decide) (fun c73 => ?_) (fun c73 => ?_)
        · replace h := h.1 (k_eq rfl (by decide) c73)
          exact J_255 S _ _ ls h  hsh hR (lv_sub hl [] rfl)
        · replace h := h.2 (k_ne rfl (by decide) c73)
          refine lv_aload_n hx hb dX9_isDone_234 rfl (lv_at hl 0 rfl) ?_
          refine lv_iload_n hx hb dX9_isDone_235 rfl (lv_at hl 2 rfl) ?_
          obtain ⟨Q74, h0, h⟩ := h
          have hFc := cfree hR hA
          refine va_calli (va_runV (As := [.int x2]) (rest := []) ⟨hx, hb, hml, hown, hts⟩ (rX9_isPassedOn l g ad H.size S x2 hR.w  Q74 h0) (cwV 1 hts (gd_V kw_1613 kw_1641 kw_1642 kw_404 kw_1640) rfl rfl rfl (by decide +kernel) ⟨Nat.le_of_ble_eq_true rfl, Nat.le_of_ble_eq_true rfl⟩) ⟨cblind, va_recv hR.K hR.P (ci := 8) (q0 := 66) rfl (hR.at48 (hR.w.2.1 _ finC_31).2.1), fun U hU hW9 => cmk hU hW9 hR hex hE hFc⟩ rfl rfl hl.1 rfl (lv_room (Nat.le_of_ble_eq_true rfl)) dX9_isDone_236 ⟨Nat.le_of_ble_eq_true rfl, Nat.le_of_ble_eq_true rfl⟩) hR.sS (fun q _ h => hFc q h) hFc (fun r75 S76 t9 H1 locs ht9 hvm9 hw9 hB9 hz9 hk9 hS => ?_)
          obtain ⟨hq77, hw9, hs9, hz_r75⟩ := hw9
          have hR : RepC g ad A s S76 H1 locs := hR.call ht9 hB9 hw9 hS hFc
          have hsh := hsh.tr hs9
          replace h := h r75 S76 hq77 hw9 hs9
          clear hB9 hz9 hk9 hvm9 ht9 hw9 hs9 hS
          generalize H1 = H at hR ⊢
          refine lv_if_eq (tgt := 255) hx hb dX9_isDone_239 (by decide) (fun c78 => ?_) (fun c78 => ?_)
          · replace h := h.1 (k_eq rfl (by decide) c78)
            exact J_255 S76 _ _ ls h  hsh hR (lv_sub hl [] rfl)
          · replace h := h.2 (k_ne rfl (by decide) c78)
            refine lv_aload_n hx hb dX9_isDone_242 rfl (lv_at hl 0 rfl) ?_
            refine lv_iload_n hx hb dX9_isDone_243 rfl (lv_at hl 2 rfl) ?_
            refine lv_iconst (v := 2) hx hb dX9_isDone_244 (by decide) ?_
            obtain ⟨Q79, h0, h⟩ := h
            have hFc := cfree hR hA
            refine va_calli (va_runV (As := [.int x2, .int 2]) (rest := []) ⟨hx, hb, hml, hown, hts⟩ (rX9_isDropped l g ad H.size S76 x2 (2 : Int32) hR.w  Q79 h0) (cwV 2 hts (gd_V kw_1606 kw_1616 kw_1617 kw_404 kw_1615) rfl rfl rfl (by decide +kernel) ⟨Nat.le_of_ble_eq_true rfl, Nat.le_of_ble_eq_true rfl⟩) ⟨cblind, va_recv hR.K hR.P (ci := 8) (q0 := 66) rfl (hR.at48 (hR.w.2.1 _ finC_31).2.1), fun U hU hW9 => cmk hU hW9 hR hex hE hFc⟩ rfl rfl hl.1 rfl (lv_room (Nat.le_of_ble_eq_true rfl)) dX9_isDone_245 ⟨Nat.le_of_ble_eq_true rfl, Nat.le_of_ble_eq_true rfl⟩) hR.sS (fun q _ h => hFc q h) hFc (fun r80 S81 t9 H1 locs ht9 hvm9 hw9 hB9 hz9 hk9 hS => ?_)
            obtain ⟨hq82, hw9, hs9, hz_r80⟩ := hw9
            have hR : RepC g ad A s S81 H1 locs := hR.call ht9 hB9 hw9 hS hFc
            have hsh := hsh.tr hs9
            replace h := h r80 S81 hq82 hw9 hs9
            clear hB9 hz9 hk9 hvm9 ht9 hw9 hs9 hS
            generalize H1 = H at hR ⊢
            refine lv_if_eq (tgt := 255) hx hb dX9_isDone_248 (by decide) (fun c83 => ?_) (fun c83 => ?_)
            · replace h := h.1 (k_eq rfl (by decide) c83)
              exact J_255 S81 _ _ ls h  hsh hR (lv_sub hl [] rfl)
            · replace h := h.2 (k_ne rfl (by decide) c83)
              refine lv_iconst (v := 1) hx hb dX9_isDone_251 (by decide) ?_
              refine lv_goto (tgt := 256) hx hb dX9_isDone_252 (by decide) ?_
              exact W.zret (v := 1) hx hb hr (nz (Or.inr rfl)) (fun t9 ht9 hW9 => ⟨⟨_, S81, rfl, ⟨h, hR.w, hsh, (Or.inr rfl)⟩, ⟨by rw [ht9]; exact hR.P, hR.D⟩⟩, hR.sS.F ht9⟩) hR.sS.2.2 dX9_isDone_256
      replace h := h.2 c9_10
      refine lv_tableOut (tgt := 257) hx hb dX9_isDone_27 (by omega) (by decide) ?_
      refine lv_aload_n hx hb dX9_isDone_257 rfl (lv_at hl 0 rfl) ?_
      refine lv_iload_n hx hb dX9_isDone_258 rfl (lv_at hl 2 rfl) ?_
      obtain ⟨Q84, h0, h⟩ := h
      have hFc := cfree hR hA
      refine va_calli (va_runV (As := [.int x2]) (rest := []) ⟨hx, hb, hml, hown, hts⟩ (rX9_isDeadStoreDone l g ad s.heap.size S x2 hR.w  Q84 h0) (cwV 1 hts (gd_V kw_1614 kw_1594 kw_1595 kw_404 kw_1593) rfl rfl rfl (by decide +kernel) ⟨Nat.le_of_ble_eq_true rfl, Nat.le_of_ble_eq_true rfl⟩) ⟨cblind, va_recv hR.K hR.P (ci := 8) (q0 := 66) rfl (hR.at48 (hR.w.2.1 _ finC_31).2.1), fun U hU hW9 => cmk hU hW9 hR hex hE hFc⟩ rfl rfl hl.1 rfl (lv_room (Nat.le_of_ble_eq_true rfl)) dX9_isDone_259 ⟨Nat.le_of_ble_eq_true rfl, Nat.le_of_ble_eq_true rfl⟩) hR.sS (fun q _ h => hFc q h) hFc (fun r85 S86 t9 H1 locs ht9 hvm9 hw9 hB9 hz9 hk9 hS => ?_)
      obtain ⟨hq87, hw9, hs9, hz_r85⟩ := hw9
      have hR : RepC g ad A s S86 H1 locs := hR.call ht9 hB9 hw9 hS hFc
      have hsh := hsh.tr hs9
      replace h := h r85 S86 hq87 hw9 hs9
      clear hB9 hz9 hk9 hvm9 ht9 hw9 hs9 hS
      generalize H1 = H at hR ⊢
      exact W.zret (v := r85) hx hb hr (nz hz_r85) (fun t9 ht9 hW9 => ⟨⟨_, S86, rfl, ⟨h, hR.w, hsh, hz_r85⟩, ⟨by rw [ht9]; exact hR.P, hR.D⟩⟩, hR.sS.F ht9⟩) hR.sS.2.2 dX9_isDone_262
    · replace h := h.2 (k_nlt rfl rfl c4)
      refine lv_iconst (v := 0) hx hb dX9_isDone_24 (by decide) ?_
      exact W.zret (v := 0) hx hb hr (nz (Or.inl rfl)) (fun t9 ht9 hW9 => ⟨⟨_, S, rfl, ⟨h, hR.w, hsh, (Or.inl rfl)⟩, ⟨by rw [ht9]; exact hR.P, hR.D⟩⟩, hR.sS.F ht9⟩) hR.sS.2.2 dX9_isDone_25
  · replace h := h.1 (k_eq rfl (by decide) c1)
    refine lv_aload_n hx hb dX9_isDone_5 rfl (lv_at hl 0 rfl) ?_
    refine lv_iload_n hx hb dX9_isDone_6 rfl (lv_at hl 2 rfl) ?_
    obtain ⟨Q88, h0, h⟩ := h
    have hFc := cfree hR hA
    refine va_calli (va_runV (As := [.int x2]) (rest := []) ⟨hx, hb, hml, hown, hts⟩ (rX9_isRedirected l g ad s.heap.size S x2 hR.w  Q88 h0) (cwV 1 hts (gd_V kw_1604 kw_1649 kw_1650 kw_404 kw_1648) rfl rfl rfl (by decide +kernel) ⟨Nat.le_of_ble_eq_true rfl, Nat.le_of_ble_eq_true rfl⟩) ⟨cblind, va_recv hR.K hR.P (ci := 8) (q0 := 66) rfl (hR.at48 (hR.w.2.1 _ finC_31).2.1), fun U hU hW9 => cmk hU hW9 hR hex hE hFc⟩ rfl rfl hl.1 rfl (lv_room (Nat.le_of_ble_eq_true rfl)) dX9_isDone_7 ⟨Nat.le_of_ble_eq_true rfl, Nat.le_of_ble_eq_true rfl⟩) hR.sS (fun q _ h => hFc q h) hFc (fun r89 S90 t9 H1 locs ht9 hvm9 hw9 hB9 hz9 hk9 hS => ?_)
    obtain ⟨hq91, hw9, hs9, hz_r89⟩ := hw9
    have hR : RepC g ad A s S90 H1 locs := hR.call ht9 hB9 hw9 hS hFc
    have hsh := hsh.tr hs9
    replace h := h r89 S90 hq91 hw9 hs9
    clear hB9 hz9 hk9 hvm9 ht9 hw9 hs9 hS
    generalize H1 = H at hR ⊢
    exact W.zret (v := r89) hx hb hr (nz hz_r89) (fun t9 ht9 hW9 => ⟨⟨_, S90, rfl, ⟨h, hR.w, hsh, hz_r89⟩, ⟨by rw [ht9]; exact hR.P, hR.D⟩⟩, hR.sS.F ht9⟩) hR.sS.2.2 dX9_isDone_10
def w_X9_dropUnreached_J62 (Q : Int32 → MS → Prop) (k19 : MS → Int32 → Int32 → Int32 → Int32 → Prop) (U62 : MS) (v62_1 : Int32) (v62_2 : Int32) (v62_3 : Int32) (v62_4 : Int32) : Prop := (wfC U62 → (v62_1 = 0 ∨ v62_1 = 1) → (∀ a11 : Int32, a11 = (v62_4 + Int32.ofInt 1) → k19 U62 v62_1 v62_2 v62_3 a11))
def w_X9_dropUnreached_L19 (Q : Int32 → MS → Prop) : Nat → MS → Int32 → Int32 → Int32 → Int32 → Prop
  | 0, _, _, _, _, _ => False
  | n19 + 1, U19, v19_1, v19_2, v19_3, v19_4 => (wfC U19 → (v19_1 = 0 ∨ v19_1 = 1) → ((v19_3.toInt ≤ v19_4.toInt → Q v19_1 U19) ∧ (¬ v19_3.toInt ≤ v19_4.toInt → (((0 : Int) ≤ v19_4.toInt ∧ v19_4.toInt < (qN U19 (qO U19 66 3) : Int)) ∧ (((qI U19 (qO U19 66 3) v19_4.toInt.toNat).toInt = 0 → (qT U19 (qO U19 66 0) = 47 → (∃ Q14, wX8_remove U19 (qO U19 66 0) v19_2 (1 : Int32) Q14 ∧ ∀ S15, Q14 S15 → wfC S15 → shy U19 S15 → (∀ S19, S19 = wI S15 75 1 ((qI S15 75 1) + (1 : Int32)) → qT S15 75 = 228 → wfC S19 → w_X9_dropUnreached_J62 Q (w_X9_dropUnreached_L19 Q n19) S19 1 v19_2 v19_3 v19_4)))) ∧ (¬ (qI U19 (qO U19 66 3) v19_4.toInt.toNat).toInt = 0 → (∀ a20 : Int32, a20 = (v19_2 + Int32.ofInt 1) → w_X9_dropUnreached_J62 Q (w_X9_dropUnreached_L19 Q n19) U19 v19_1 a20 v19_3 v19_4)))))))
def wX9_dropUnreached (S : MS) (Q : Int32 → MS → Prop) : Prop := (∃ Q1, wX9_findReached S Q1 ∧ ∀ S2, Q1 S2 → wfC S2 → shy S S2 → (∀ a5 : Int32, a5 = (qI S2 (qO S2 66 0) 2) → (∃ n, w_X9_dropUnreached_L19 Q n S2 0 0 a5 0)))
set_option maxHeartbeats 2000000 in
set_option maxRecDepth 100000 in
theorem rX9_dropUnreached (l : Launch) (g : Gr) (ad : Nat → Nat) (sz : Nat) (S : MS) (hw : wfC S) (Q : Int32 → MS → Prop) (h : wX9_dropUnreached S Q) : Met l yX9_dropUnreached (wt yX9_dropUnreached cX9_dropUnreached 5 (some .boolean)) ({ frames := 4, cells := 0, slots := 0, locals := 90 }) (va_Pc [.ref (ad 66)] (st_C g ad sz S)) (va_Qi (fun (r : Int32) (u : MS) => Q r u ∧ wfC u ∧ shy S u ∧ (r = 0 ∨ r = 1)) (fun (u : MS) (t : State) => qEC g ad (va_A (WdC g ad S) sz) u t) (va_A (WdC g ad S) sz)) 0 0 (va_A (WdC g ad S) sz) := by
  refine Met.ofW (cc := cX9_dropUnreached) (maxL := 5) (ret := (some .boolean)) (by decide) rfl ?_
  intro p e s m args below meth c s₁ B hml hv
  obtain ⟨rfl, hsz, hP, hK, hD0, hex, hE⟩ := hv
  have hx := B.exec
  have hb := B.bytes
  have hr := B.returns
  have hts0 := atoms_spec (ws := wt yX9_dropUnreached cX9_dropUnreached 5 (some .boolean)) B.pre
  have hts : ∀ w ∈ tb, w.before _ s = true := fun w h => hts0 w (List.mem_cons_of_mem _ h)
  have hown : s.vm.findClass RX9 = some m.cls := findClass_of_methodNamed B.named
  subst hsz
  have hD := hD0.self (sz := s.heap.size)
  generalize hAe : va_A (WdC g ad S) s.heap.size = A at hD hE ⊢
  have hA : ∀ q : Nat, s.heap.size ≤ q → A q := fun q h => by rw [← hAe]; exact Or.inr h
  have hR : RepC g ad A s S s.heap [] := ⟨hK, hP, hD, va_S.rf, hw⟩
  clear hK hP hD hD0
  have hl := lv_entry ([.ref (ad 66)]) (n := 5) (Nat.le_of_ble_eq_true rfl)
  rw [lg_entry_eq]
  generalize (lg_sl ([.ref (ad 66)]) ++ List.replicate (5 - (lg_sl ([.ref (ad 66)])).length) Slot.unset).toArray = ls at hl ⊢
  have hl : lv_has ls 5 [(0, .ref (ad 66))] := hl
  have hsh : shy S S := shy.rf
  unfold wX9_dropUnreached at h
  refine lv_aload_n hx hb dX9_dropUnreached_0 rfl (lv_at hl 0 rfl) ?_
  obtain ⟨Q1, h0, h⟩ := h
  have hFc := cfree hR hA
  refine va_callv (va_runV (As := []) (rest := []) ⟨hx, hb, hml, hown, hts⟩ (rX9_findReached l g ad s.heap.size S hR.w  Q1 h0) (cwV 0 hts (gd_V kw_1551 kw_1575 kw_1576 kw_404 kw_1574) rfl rfl rfl (by decide +kernel) ⟨Nat.le_of_ble_eq_true rfl, Nat.le_of_ble_eq_true rfl⟩) ⟨cblind, va_recv hR.K hR.P (ci := 8) (q0 := 66) rfl (hR.at48 (hR.w.2.1 _ finC_31).2.1), fun U hU hW9 => cmk hU hW9 hR hex hE hFc⟩ rfl rfl hl.1 rfl (lv_room (Nat.le_of_ble_eq_true rfl)) dX9_dropUnreached_1 ⟨Nat.le_of_ble_eq_true rfl, Nat.le_of_ble_eq_true rfl⟩) hR.sS (fun q _ h => hFc q h) hFc (fun  S2 t9 H1 locs ht9 hvm9 hw9 hB9 hz9 hk9 hS => ?_)
  obtain ⟨hq3, hw9, hs9⟩ := hw9
  have hR : RepC g ad A s S2 H1 locs := hR.call ht9 hB9 hw9 hS hFc
  have hsh := hsh.tr hs9
  replace h := h  S2 hq3 hw9 hs9
  clear hB9 hz9 hk9 hvm9 ht9 hw9 hs9 hS
  generalize H1 = H at hR ⊢
  refine lv_iconst (v := 0) hx hb dX9_dropUnreached_4 (by decide) ?_
  refine lv_istore_n (lv' := [(1, .int 0), (0, .ref (ad 66))]) hx hb dX9_dropUnreached_5 rfl hl (by decide) rfl (fun ls hl => ?_)
  refine lv_iconst (v := 0) hx hb dX9_dropUnreached_6 (by decide) ?_
  refine lv_istore_n (lv' := [(2, .int 0), (1, .int 0), (0, .ref (ad 66))]) hx hb dX9_dropUnreached_7 rfl hl (by decide) rfl (fun ls hl => ?_)
  refine lv_aload_n hx hb dX9_dropUnreached_8 rfl (lv_at hl 2 rfl) ?_
  have hT_b4 : qT S2 (qO S2 66 0) = 47 := hR.w.ref (hR.w.ptr ptrC_39) (hR.w.2.1 _ finC_31).2.1
  refine va_get (D := rD g) (ci := 8) (v := .ref (ad (qO S2 66 0))) (C := RX9) (T := TX9) (N := 6) hx hb hts inX9 hown hR.K hR.P 66 (hR.at48 (hR.w.2.1 _ finC_31).2.1) rfl 0 (by decide) (hts _ kw_1552) (fun _ h9 => h9) (congrArg (fun z => some (vf ad z)) (hR.w.ptr ptrC_39)) dX9_dropUnreached_9 ?_
  refine va_get (D := rD g) (ci := 7) (v := .int (qI S2 (qO S2 66 0) 2)) (C := RX8) (T := TX8) (N := 15) hx hb hts inX8 hown hR.K hR.P (qO S2 66 0) (hR.at47 hT_b4) rfl 2 (by decide) (hts _ kw_1553) (fun _ h9 => h9) rfl dX9_dropUnreached_12 ?_
  obtain ⟨a5, ea5⟩ : ∃ z, z = (qI S2 (qO S2 66 0) 2) := ⟨_, rfl⟩
  rw [← ea5]
  replace h := h a5 ea5
  refine lv_istore_n (lv' := [(3, .int a5), (2, .int 0), (1, .int 0), (0, .ref (ad 66))]) hx hb dX9_dropUnreached_15 rfl hl (by decide) rfl (fun ls hl => ?_)
  refine lv_iconst (v := 0) hx hb dX9_dropUnreached_16 (by decide) ?_
  refine lv_istore (lv' := [(4, .int 0), (3, .int a5), (2, .int 0), (1, .int 0), (0, .ref (ad 66))]) hx hb dX9_dropUnreached_17 hl (by decide) rfl (fun ls hl => ?_)
  have J_19 : ∀ (n19 : Nat) (U19 : MS) (v19_1 : Int32) (v19_2 : Int32) (v19_3 : Int32) (v19_4 : Int32) (H : Heap) (locs : List Loc) (ls : Array Slot), w_X9_dropUnreached_L19 Q n19 U19 v19_1 v19_2 v19_3 v19_4 → (v19_1 = 0 ∨ v19_1 = 1) → shy S U19 → RepC g ad A s U19 H locs → lv_has ls 5 [(0, .ref (ad 66)), (1, .int v19_1), (2, .int v19_2), (3, .int v19_3), (4, .int v19_4)] → W p l e (headSpec (wt yX9_dropUnreached cX9_dropUnreached 5 (some .boolean)) ({ frames := 4, cells := 0, slots := 0, locals := 90 })).room s m ([.ref (ad 66)] : List Value).toArray below meth c H locs 0 0 (MQ below (va_Qi (fun (r : Int32) (u : MS) => Q r u ∧ wfC u ∧ shy S u ∧ (r = 0 ∨ r = 1)) (fun (u : MS) (t : State) => qEC g ad A u t) A) ([.ref (ad 66)] : List Value).toArray s 0 0 A) (F0 m 19 ls []) := by
    intro n19
    induction n19 with
    | zero => intro U19 v19_1 v19_2 v19_3 v19_4 H locs ls h hz_v19_1 hsh hR hl; unfold w_X9_dropUnreached_L19 at h; exact h.elim
    | succ n19 ih_19 =>
      intro U19 v19_1 v19_2 v19_3 v19_4 H locs ls h hz_v19_1 hsh hR hl
      unfold w_X9_dropUnreached_L19 at h
      replace h := h hR.w hz_v19_1
      refine lv_iload hx hb dX9_dropUnreached_19 (lv_at hl 4 rfl) ?_
      refine lv_iload_n hx hb dX9_dropUnreached_21 rfl (lv_at hl 3 rfl) ?_
      refine lv_icmp_ge (tgt := 68) hx hb dX9_dropUnreached_22 (by decide) (fun c6 => ?_) (fun c6 => ?_)
      · replace h := h.1 (k_le rfl rfl c6)
        refine lv_iload_n hx hb dX9_dropUnreached_68 rfl (lv_at hl 1 rfl) ?_
        exact W.zret (v := v19_1) hx hb hr (nz hz_v19_1) (fun t9 ht9 hW9 => ⟨⟨_, U19, rfl, ⟨h, hR.w, hsh, hz_v19_1⟩, ⟨by rw [ht9]; exact hR.P, hR.D⟩⟩, hR.sS.F ht9⟩) hR.sS.2.2 dX9_dropUnreached_69
      · replace h := h.2 (k_nle rfl rfl c6)
        refine lv_aload_n hx hb dX9_dropUnreached_25 rfl (lv_at hl 0 rfl) ?_
        have hT_b7 : qT U19 (qO U19 66 3) = 306 := hR.w.ref (hR.w.ptr ptrC_36) (hR.w.2.1 _ finC_31).2.1
        refine va_get (D := rD g) (ci := 8) (v := .ref (ad (qO U19 66 3))) (C := RX9) (T := TX9) (N := 6) hx hb hts inX9 hown hR.K hR.P 66 (hR.at48 (hR.w.2.1 _ finC_31).2.1) rfl 3 (by decide) (hts _ kw_1554) (fun _ h9 => h9) (congrArg (fun z => some (vf ad z)) (hR.w.ptr ptrC_36)) dX9_dropUnreached_26 ?_
        refine lv_iload hx hb dX9_dropUnreached_29 (lv_at hl 4 rfl) ?_
        obtain ⟨hv8, h⟩ := h
        refine va_zald hx hb hR.K hR.P (qO U19 66 3) 2 (hR.atZ hT_b7 (by decide)) rfl (k_ix (x := v19_4) (a := v19_4.toInt) rfl hv8) dX9_dropUnreached_31 ?_
        refine lv_topi (fun z9 ez9 => ?_)
        obtain rfl : z9 = (qI U19 (qO U19 66 3) v19_4.toInt.toNat) := ez9
        have hz10 := hR.w.bit3 (b := (qO U19 66 3)) (j := v19_4.toInt.toNat) (hT_b7) (by decide)
        have J_62 : ∀ (U62 : MS) (v62_1 : Int32) (v62_2 : Int32) (v62_3 : Int32) (v62_4 : Int32) (H : Heap) (locs : List Loc) (ls : Array Slot), w_X9_dropUnreached_J62 Q (w_X9_dropUnreached_L19 Q n19) U62 v62_1 v62_2 v62_3 v62_4 → (v62_1 = 0 ∨ v62_1 = 1) → shy S U62 → RepC g ad A s U62 H locs → lv_has ls 5 [(0, .ref (ad 66)), (1, .int v62_1), (2, .int v62_2), (3, .int v62_3), (4, .int v62_4)] → W p l e (headSpec (wt yX9_dropUnreached cX9_dropUnreached 5 (some .boolean)) ({ frames := 4, cells := 0, slots := 0, locals := 90 })).room s m ([.ref (ad 66)] : List Value).toArray below meth c H locs 0 0 (MQ below (va_Qi (fun (r : Int32) (u : MS) => Q r u ∧ wfC u ∧ shy S u ∧ (r = 0 ∨ r = 1)) (fun (u : MS) (t : State) => qEC g ad A u t) A) ([.ref (ad 66)] : List Value).toArray s 0 0 A) (F0 m 62 ls []) := by
          intro U62 v62_1 v62_2 v62_3 v62_4 H locs ls h hz_v62_1 hsh hR hl
          unfold w_X9_dropUnreached_J62 at h
          replace h := h hR.w hz_v62_1
          obtain ⟨a11, ea11⟩ : ∃ z, z = (v62_4 + Int32.ofInt 1) := ⟨_, rfl⟩
          replace h := h a11 ea11
          refine lv_iinc (v := a11) (lv' := [(4, .int a11), (0, .ref (ad 66)), (1, .int v62_1), (2, .int v62_2), (3, .int v62_3)]) hx hb dX9_dropUnreached_62 hl (k := 4) rfl ea11.symm (by decide) rfl (fun ls hl => ?_)
          refine lv_goto (tgt := 19) hx hb dX9_dropUnreached_65 (by decide) ?_
          exact ih_19 U62 v62_1 v62_2 v62_3 a11 _ _ ls h hz_v62_1 hsh hR (lv_sub hl [1, 2, 3, 4, 0] rfl)
        refine lv_if_eq (tgt := 41) hx hb dX9_dropUnreached_32 (by decide) (fun c12 => ?_) (fun c12 => ?_)
        · replace h := h.1 (k_eq rfl (by decide) c12)
          refine lv_aload_n hx hb dX9_dropUnreached_41 rfl (lv_at hl 0 rfl) ?_
          have hT_b13 : qT U19 (qO U19 66 0) = 47 := hR.w.ref (hR.w.ptr ptrC_39) (hR.w.2.1 _ finC_31).2.1
          refine va_get (D := rD g) (ci := 8) (v := .ref (ad (qO U19 66 0))) (C := RX9) (T := TX9) (N := 6) hx hb hts inX9 hown hR.K hR.P 66 (hR.at48 (hR.w.2.1 _ finC_31).2.1) rfl 0 (by decide) (hts _ kw_1552) (fun _ h9 => h9) (congrArg (fun z => some (vf ad z)) (hR.w.ptr ptrC_39)) dX9_dropUnreached_42 ?_
          refine lv_iload_n hx hb dX9_dropUnreached_45 rfl (lv_at hl 2 rfl) ?_
          refine lv_iconst (v := 1) hx hb dX9_dropUnreached_46 (by decide) ?_
          replace h := h (hT_b13)
          obtain ⟨Q14, h0, h⟩ := h
          have hFc := cfree hR hA
          refine va_callv (va_runV (As := [.int v19_2, .int 1]) (rest := []) ⟨hx, hb, hml, hown, hts⟩ (rX8_remove l g ad H.size U19 (qO U19 66 0) v19_2 (1 : Int32) hR.w hT_b13 Q14 h0) (cwV 2 hts (gd_V kw_1555 kw_1516 kw_1517 kw_782 kw_1515) rfl rfl rfl (by decide +kernel) ⟨Nat.le_of_ble_eq_true rfl, Nat.le_of_ble_eq_true rfl⟩) ⟨cblind, va_recv hR.K hR.P (ci := 7) (q0 := (qO U19 66 0)) rfl (hR.at47 hT_b13), fun U hU hW9 => cmk hU hW9 hR hex hE hFc⟩ rfl rfl hl.1 rfl (lv_room (Nat.le_of_ble_eq_true rfl)) dX9_dropUnreached_47 ⟨Nat.le_of_ble_eq_true rfl, Nat.le_of_ble_eq_true rfl⟩) hR.sS (fun q _ h => hFc q h) hFc (fun  S15 t9 H1 locs ht9 hvm9 hw9 hB9 hz9 hk9 hS => ?_)
          obtain ⟨hq16, hw9, hs9⟩ := hw9
          have hR : RepC g ad A s S15 H1 locs := hR.call ht9 hB9 hw9 hS hFc
          have hsh := hsh.tr hs9
          replace h := h  S15 hq16 hw9 hs9
          clear hB9 hz9 hk9 hvm9 ht9 hw9 hs9 hS
          generalize H1 = H at hR ⊢
          refine lv_aload_n hx hb dX9_dropUnreached_50 rfl (lv_at hl 0 rfl) ?_
          refine va_get (D := rD g) (ci := 8) (v := .ref (ad 75)) (C := RX9) (T := TX9) (N := 6) hx hb hts inX9 hown hR.K hR.P 66 (hR.at48 (hR.w.2.1 _ finC_31).2.1) rfl 1 (by decide) (hts _ kw_1547) (fun _ h9 => h9) (congrArg (fun z => some (vf ad z)) (hR.w.2.1 _ finC_11).1) dX9_dropUnreached_51 ?_
          refine lv_iconst (v := 1) hx hb dX9_dropUnreached_54 (by decide) ?_
          refine lv_dup2_11 hx hb dX9_dropUnreached_55 rfl rfl ?_
          refine va_iald hx hb hR.K hR.P 75 1 (hR.atI (hR.w.2.1 _ finC_11).2.1 (by decide)) rfl (k_ixN (k_ix (n := 12) (x := (1 : Int32)) (a := 1) (by decide) (by decide)) (hR.w.2.1 _ finC_11).2.2) dX9_dropUnreached_56 ?_
          refine lv_topi (fun z17 ez17 => ?_)
          obtain rfl : z17 = (qI S15 75 1) := ez17
          refine lv_iconst (v := 1) hx hb dX9_dropUnreached_57 (by decide) ?_
          refine lv_iadd hx hb dX9_dropUnreached_58 ?_
          refine lv_topi (fun z18 ez18 => ?_)
          obtain rfl : z18 = ((qI S15 75 1) + (1 : Int32)) := ez18
          refine va_iast hx hb hR.K hR.P hR.D hR.sS 75 1 (hR.atI (hR.w.2.1 _ finC_11).2.1 (by decide)) rfl (k_ixN (k_ix (n := 12) (x := (1 : Int32)) (a := 1) (by decide) (by decide)) (hR.w.2.1 _ finC_11).2.2) dX9_dropUnreached_59 (fun H locs hP hD hS => ?_)
          have hTk9 : qT S15 75 = 228 := (hR.w.2.1 _ finC_11).2.1
          have hR : RepC g ad A s (wI S15 75 1 ((qI S15 75 1) + (1 : Int32))) H locs := hR.aI (hR.w.2.1 _ finC_11).2.1 (by decide) hP hD hS
          obtain ⟨S19, eS19⟩ : ∃ z, z = wI S15 75 1 ((qI S15 75 1) + (1 : Int32)) := ⟨_, rfl⟩
          rw [← eS19] at hR
          replace h := h S19 eS19 hTk9 hR.w
          have hsh : shy S S19 := by rw [eS19]; exact hsh
          refine lv_iconst (v := 1) hx hb dX9_dropUnreached_60 (by decide) ?_
          refine lv_istore_n (lv' := [(1, .int 1), (0, .ref (ad 66)), (2, .int v19_2), (3, .int v19_3), (4, .int v19_4)]) hx hb dX9_dropUnreached_61 rfl hl (by decide) rfl (fun ls hl => ?_)
          exact J_62 S19 1 v19_2 v19_3 v19_4 _ _ ls h (Or.inr rfl) hsh hR (lv_sub hl [1, 0, 2, 3, 4] rfl)
        · replace h := h.2 (k_ne rfl (by decide) c12)
          obtain ⟨a20, ea20⟩ : ∃ z, z = (v19_2 + Int32.ofInt 1) := ⟨_, rfl⟩
          replace h := h a20 ea20
          refine lv_iinc (v := a20) (lv' := [(2, .int a20), (0, .ref (ad 66)), (1, .int v19_1), (3, .int v19_3), (4, .int v19_4)]) hx hb dX9_dropUnreached_35 hl (k := 2) rfl ea20.symm (by decide) rfl (fun ls hl => ?_)
          refine lv_goto (tgt := 62) hx hb dX9_dropUnreached_38 (by decide) ?_
          exact J_62 U19 v19_1 a20 v19_3 v19_4 _ _ ls h hz_v19_1 hsh hR (lv_sub hl [1, 2, 0, 3, 4] rfl)
  obtain ⟨n9, h⟩ := h
  exact J_19 n9 S2 0 0 a5 0 _ _ ls h (Or.inl rfl) hsh hR (lv_sub hl [4, 3, 2, 1, 0] rfl)
def w_X9_findLive_J62 (Q : MS → Prop) (k34 : MS → Int32 → Int32 → Int32 → Prop) (U62 : MS) (t62_0 : Int32) (t62_1 : Int32) (v62_2 : Int32) (v62_3 : Int32) (v62_4 : Int32) : Prop := (wfC U62 → (t62_0 = 0 ∨ t62_0 = 1) → (∀ a20 : Int32, a20 = (t62_1 ||| t62_0) → (((0 : Int) ≤ v62_3.toInt ∧ v62_3.toInt < (qN U62 (qO U62 66 4) : Int)) ∧ (∀ S23, S23 = wI U62 (qO U62 66 4) v62_3.toInt.toNat v62_4 → qT U62 (qO U62 66 4) = 229 → wfC S23 → (∀ a24 : Int32, a24 = (v62_3 + Int32.ofInt (-1)) → k34 S23 a20 v62_2 a24)))))
def w_X9_findLive_L34 (Q : MS → Prop) (k12 : MS → Int32 → Int32 → Prop) : Nat → MS → Int32 → Int32 → Int32 → Prop
  | 0, _, _, _, _ => False
  | n34 + 1, U34, v34_1, v34_2, v34_3 => (wfC U34 → ((v34_3.toInt < 0 → (∀ a11 : Int32, a11 = (v34_2 + Int32.ofInt 1) → k12 U34 v34_1 a11)) ∧ (¬ v34_3.toInt < 0 → (∃ Q12, wX9_liveBefore U34 v34_3 Q12 ∧ ∀ r13 S14, Q12 r13 S14 → wfC S14 → shy U34 S14 → (((0 : Int) ≤ v34_3.toInt ∧ v34_3.toInt < (qN S14 (qO S14 66 4) : Int)) ∧ ((r13.toInt = (qI S14 (qO S14 66 4) v34_3.toInt.toNat).toInt → w_X9_findLive_J62 Q (w_X9_findLive_L34 Q k12 n34) S14 0 v34_1 v34_2 v34_3 r13) ∧ (¬ r13.toInt = (qI S14 (qO S14 66 4) v34_3.toInt.toNat).toInt → w_X9_findLive_J62 Q (w_X9_findLive_L34 Q k12 n34) S14 1 v34_1 v34_2 v34_3 r13)))))))
def w_X9_findLive_L12 (Q : MS → Prop) : Nat → MS → Int32 → Int32 → Prop
  | 0, _, _, _ => False
  | n12 + 1, U12, v12_1, v12_2 => (wfC U12 → ((v12_1.toInt = 0 → Q U12) ∧ (¬ v12_1.toInt = 0 → ((1000000 ≤ v12_2.toInt → Q U12) ∧ (¬ 1000000 ≤ v12_2.toInt → (∀ a9 : Int32, a9 = ((qI U12 (qO U12 66 0) 2) - (1 : Int32)) → (∃ n, w_X9_findLive_L34 Q (w_X9_findLive_L12 Q n12) n U12 0 v12_2 a9)))))))
def wX9_findLive (S : MS) (Q : MS → Prop) : Prop := (qT S (qO S 66 4) = 229 → (∃ Q2, wJ7_fill_53178 S (qO S 66 4) (0 : Int32) Q2 ∧ ∀ S3, Q2 S3 → wfC S3 → shy S S3 → (∃ n, w_X9_findLive_L12 Q n S3 1 0)))
set_option maxHeartbeats 2000000 in
set_option maxRecDepth 100000 in
theorem rX9_findLive (l : Launch) (g : Gr) (ad : Nat → Nat) (sz : Nat) (S : MS) (hw : wfC S) (Q : MS → Prop) (h : wX9_findLive S Q) : Met l yX9_findLive (wt yX9_findLive cX9_findLive 5 none) ({ frames := 4, cells := 0, slots := 0, locals := 91 }) (va_Pc [.ref (ad 66)] (st_C g ad sz S)) (va_Qv (fun (u : MS) => Q u ∧ wfC u ∧ shy S u) (fun (u : MS) (t : State) => qEC g ad (va_A (WdC g ad S) sz) u t) (va_A (WdC g ad S) sz)) 0 0 (va_A (WdC g ad S) sz) := by
  refine Met.ofW (cc := cX9_findLive) (maxL := 5) (ret := none) (by decide) rfl ?_
  intro p e s m args below meth c s₁ B hml hv
  obtain ⟨rfl, hsz, hP, hK, hD0, hex, hE⟩ := hv
  have hx := B.exec
  have hb := B.bytes
  have hr := B.returns
  have hts0 := atoms_spec (ws := wt yX9_findLive cX9_findLive 5 none) B.pre
  have hts : ∀ w ∈ tb, w.before _ s = true := fun w h => hts0 w (List.mem_cons_of_mem _ h)
  have hown : s.vm.findClass RX9 = some m.cls := findClass_of_methodNamed B.named
  subst hsz
  have hD := hD0.self (sz := s.heap.size)
  generalize hAe : va_A (WdC g ad S) s.heap.size = A at hD hE ⊢
  have hA : ∀ q : Nat, s.heap.size ≤ q → A q := fun q h => by rw [← hAe]; exact Or.inr h
  have hR : RepC g ad A s S s.heap [] := ⟨hK, hP, hD, va_S.rf, hw⟩
  clear hK hP hD hD0
  have hl := lv_entry ([.ref (ad 66)]) (n := 5) (Nat.le_of_ble_eq_true rfl)
  rw [lg_entry_eq]
  generalize (lg_sl ([.ref (ad 66)]) ++ List.replicate (5 - (lg_sl ([.ref (ad 66)])).length) Slot.unset).toArray = ls at hl ⊢
  have hl : lv_has ls 5 [(0, .ref (ad 66))] := hl
  have hsh : shy S S := shy.rf
  unfold wX9_findLive at h
  refine lv_aload_n hx hb dX9_findLive_0 rfl (lv_at hl 0 rfl) ?_
  have hT_b1 : qT S (qO S 66 4) = 229 := hR.w.ref (hR.w.ptr ptrC_37) (hR.w.2.1 _ finC_31).2.1
  refine va_get (D := rD g) (ci := 8) (v := .ref (ad (qO S 66 4))) (C := RX9) (T := TX9) (N := 6) hx hb hts inX9 hown hR.K hR.P 66 (hR.at48 (hR.w.2.1 _ finC_31).2.1) rfl 4 (by decide) (hts _ kw_1559) (fun _ h9 => h9) (congrArg (fun z => some (vf ad z)) (hR.w.ptr ptrC_37)) dX9_findLive_1 ?_
  refine lv_iconst (v := 0) hx hb dX9_findLive_4 (by decide) ?_
  replace h := h (hT_b1)
  obtain ⟨Q2, h0, h⟩ := h
  have hFc := cfree hR hA
  refine va_callv (va_runS (As := [.ref (ad (qO S 66 4)), .int 0]) (rest := []) ⟨hx, hb, hml, hown, hts⟩ (rJ7_fill_53178 l g ad s.heap.size S (qO S 66 4) (0 : Int32) hR.w (by decide) hT_b1 Q2 h0) (va_cwS 2 hts (gd_S kw_1560 kw_1722 kw_1723 kw_1721) rfl rfl rfl (by decide +kernel) ⟨Nat.le_of_ble_eq_true rfl, Nat.le_of_ble_eq_true rfl⟩) ⟨cblind, fun U hU hW9 => cmk hU hW9 hR hex hE hFc⟩ rfl rfl hl.1 rfl (lv_room (Nat.le_of_ble_eq_true rfl)) dX9_findLive_5 ⟨Nat.le_of_ble_eq_true rfl, Nat.le_of_ble_eq_true rfl⟩) hR.sS (fun q _ h => hFc q h) hFc (fun  S3 t9 H1 locs ht9 hvm9 hw9 hB9 hz9 hk9 hS => ?_)
  obtain ⟨hq4, hw9, hs9⟩ := hw9
  have hR : RepC g ad A s S3 H1 locs := hR.call ht9 hB9 hw9 hS hFc
  have hsh := hsh.tr hs9
  replace h := h  S3 hq4 hw9 hs9
  clear hB9 hz9 hk9 hvm9 ht9 hw9 hs9 hS
  generalize H1 = H at hR ⊢
  refine lv_iconst (v := 1) hx hb dX9_findLive_8 (by decide) ?_
  refine lv_istore_n (lv' := [(1, .int 1), (0, .ref (ad 66))]) hx hb dX9_findLive_9 rfl hl (by decide) rfl (fun ls hl => ?_)
  refine lv_iconst (v := 0) hx hb dX9_findLive_10 (by decide) ?_
  refine lv_istore_n (lv' := [(2, .int 0), (1, .int 1), (0, .ref (ad 66))]) hx hb dX9_findLive_11 rfl hl (by decide) rfl (fun ls hl => ?_)
  have J_12 : ∀ (n12 : Nat) (U12 : MS) (v12_1 : Int32) (v12_2 : Int32) (H : Heap) (locs : List Loc) (ls : Array Slot), w_X9_findLive_L12 Q n12 U12 v12_1 v12_2 → shy S U12 → RepC g ad A s U12 H locs → lv_has ls 5 [(0, .ref (ad 66)), (1, .int v12_1), (2, .int v12_2)] → W p l e (headSpec (wt yX9_findLive cX9_findLive 5 none) ({ frames := 4, cells := 0, slots := 0, locals := 91 })).room s m ([.ref (ad 66)] : List Value).toArray below meth c H locs 0 0 (MQ below (va_Qv (fun (u : MS) => Q u ∧ wfC u ∧ shy S u) (fun (u : MS) (t : State) => qEC g ad A u t) A) ([.ref (ad 66)] : List Value).toArray s 0 0 A) (F0 m 12 ls []) := by
    intro n12
    induction n12 with
    | zero => intro U12 v12_1 v12_2 H locs ls h hsh hR hl; unfold w_X9_findLive_L12 at h; exact h.elim
    | succ n12 ih_12 =>
      intro U12 v12_1 v12_2 H locs ls h hsh hR hl
      unfold w_X9_findLive_L12 at h
      replace h := h hR.w
      refine lv_iload_n hx hb dX9_findLive_12 rfl (lv_at hl 1 rfl) ?_
      refine lv_if_eq (tgt := 84) hx hb dX9_findLive_13 (by decide) (fun c5 => ?_) (fun c5 => ?_)
      · replace h := h.1 (k_eq rfl (by decide) c5)
        exact W.vret hx hb hr (fun t9 ht9 hW9 => ⟨⟨U12, rfl, ⟨h, hR.w, hsh⟩, ⟨by rw [ht9]; exact hR.P, hR.D⟩⟩, hR.sS.F ht9⟩) hR.sS.2.2 dX9_findLive_84
      · replace h := h.2 (k_ne rfl (by decide) c5)
        refine lv_iload_n hx hb dX9_findLive_16 rfl (lv_at hl 2 rfl) ?_
        refine lv_ldc hx hb hown (hts _ kw_1561) dX9_findLive_17 ?_
        refine lv_icmp_ge (tgt := 84) hx hb dX9_findLive_19 (by decide) (fun c6 => ?_) (fun c6 => ?_)
        · replace h := h.1 (k_le (by decide) rfl c6)
          exact W.vret hx hb hr (fun t9 ht9 hW9 => ⟨⟨U12, rfl, ⟨h, hR.w, hsh⟩, ⟨by rw [ht9]; exact hR.P, hR.D⟩⟩, hR.sS.F ht9⟩) hR.sS.2.2 dX9_findLive_84
        · replace h := h.2 (k_nle (by decide) rfl c6)
          refine lv_iconst (v := 0) hx hb dX9_findLive_22 (by decide) ?_
          refine lv_istore_n (lv' := [(1, .int 0), (0, .ref (ad 66)), (2, .int v12_2)]) hx hb dX9_findLive_23 rfl hl (by decide) rfl (fun ls hl => ?_)
          refine lv_aload_n hx hb dX9_findLive_24 rfl (lv_at hl 1 rfl) ?_
          have hT_b7 : qT U12 (qO U12 66 0) = 47 := hR.w.ref (hR.w.ptr ptrC_39) (hR.w.2.1 _ finC_31).2.1
          refine va_get (D := rD g) (ci := 8) (v := .ref (ad (qO U12 66 0))) (C := RX9) (T := TX9) (N := 6) hx hb hts inX9 hown hR.K hR.P 66 (hR.at48 (hR.w.2.1 _ finC_31).2.1) rfl 0 (by decide) (hts _ kw_1552) (fun _ h9 => h9) (congrArg (fun z => some (vf ad z)) (hR.w.ptr ptrC_39)) dX9_findLive_25 ?_
          refine va_get (D := rD g) (ci := 7) (v := .int (qI U12 (qO U12 66 0) 2)) (C := RX8) (T := TX8) (N := 15) hx hb hts inX8 hown hR.K hR.P (qO U12 66 0) (hR.at47 hT_b7) rfl 2 (by decide) (hts _ kw_1553) (fun _ h9 => h9) rfl dX9_findLive_28 ?_
          refine lv_iconst (v := 1) hx hb dX9_findLive_31 (by decide) ?_
          refine lv_isub hx hb dX9_findLive_32 ?_
          refine lv_topi (fun z8 ez8 => ?_)
          obtain rfl : z8 = ((qI U12 (qO U12 66 0) 2) - (1 : Int32)) := ez8
          obtain ⟨a9, ea9⟩ : ∃ z, z = ((qI U12 (qO U12 66 0) 2) - (1 : Int32)) := ⟨_, rfl⟩
          rw [← ea9]
          replace h := h a9 ea9
          refine lv_istore_n (lv' := [(3, .int a9), (1, .int 0), (0, .ref (ad 66)), (2, .int v12_2)]) hx hb dX9_findLive_33 rfl hl (by decide) rfl (fun ls hl => ?_)
          have J_34 : ∀ (n34 : Nat) (U34 : MS) (v34_1 : Int32) (v34_2 : Int32) (v34_3 : Int32) (H : Heap) (locs : List Loc) (ls : Array Slot), w_X9_findLive_L34 Q (w_X9_findLive_L12 Q n12) n34 U34 v34_1 v34_2 v34_3 → shy S U34 → RepC g ad A s U34 H locs → lv_has ls 5 [(0, .ref (ad 66)), (1, .int v34_1), (2, .int v34_2), (3, .int v34_3)] → W p l e (headSpec (wt yX9_findLive cX9_findLive 5 none) ({ frames := 4, cells := 0, slots := 0, locals := 91 })).room s m ([.ref (ad 66)] : List Value).toArray below meth c H locs 0 0 (MQ below (va_Qv (fun (u : MS) => Q u ∧ wfC u ∧ shy S u) (fun (u : MS) (t : State) => qEC g ad A u t) A) ([.ref (ad 66)] : List Value).toArray s 0 0 A) (F0 m 34 ls []) := by
            intro n34
            induction n34 with
            | zero => intro U34 v34_1 v34_2 v34_3 H locs ls h hsh hR hl; unfold w_X9_findLive_L34 at h; exact h.elim
            | succ n34 ih_34 =>
              intro U34 v34_1 v34_2 v34_3 H locs ls h hsh hR hl
              unfold w_X9_findLive_L34 at h
              replace h := h hR.w
              refine lv_iload_n hx hb dX9_findLive_34 rfl (lv_at hl 3 rfl) ?_
              refine lv_if_lt (tgt := 78) hx hb dX9_findLive_35 (by decide) (fun c10 => ?_) (fun c10 => ?_)
              · replace h := h.1 (k_lt rfl (by decide) c10)
                obtain ⟨a11, ea11⟩ : ∃ z, z = (v34_2 + Int32.ofInt 1) := ⟨_, rfl⟩
                replace h := h a11 ea11
                refine lv_iinc (v := a11) (lv' := [(2, .int a11), (0, .ref (ad 66)), (1, .int v34_1), (3, .int v34_3)]) hx hb dX9_findLive_78 hl (k := 2) rfl ea11.symm (by decide) rfl (fun ls hl => ?_)
                refine lv_goto (tgt := 12) hx hb dX9_findLive_81 (by decide) ?_
                exact ih_12 U34 v34_1 a11 _ _ ls h  hsh hR (lv_sub hl [1, 2, 0] rfl)
              · replace h := h.2 (k_nlt rfl (by decide) c10)
                refine lv_aload_n hx hb dX9_findLive_38 rfl (lv_at hl 0 rfl) ?_
                refine lv_iload_n hx hb dX9_findLive_39 rfl (lv_at hl 3 rfl) ?_
                obtain ⟨Q12, h0, h⟩ := h
                have hFc := cfree hR hA
                refine va_calli (va_runV (As := [.int v34_3]) (rest := []) ⟨hx, hb, hml, hown, hts⟩ (rX9_liveBefore l g ad H.size U34 v34_3 hR.w  Q12 h0) (cwV 1 hts (gd_V kw_1562 kw_1664 kw_1665 kw_404 kw_1663) rfl rfl rfl (by decide +kernel) ⟨Nat.le_of_ble_eq_true rfl, Nat.le_of_ble_eq_true rfl⟩) ⟨cblind, va_recv hR.K hR.P (ci := 8) (q0 := 66) rfl (hR.at48 (hR.w.2.1 _ finC_31).2.1), fun U hU hW9 => cmk hU hW9 hR hex hE hFc⟩ rfl rfl hl.1 rfl (lv_room (Nat.le_of_ble_eq_true rfl)) dX9_findLive_40 ⟨Nat.le_of_ble_eq_true rfl, Nat.le_of_ble_eq_true rfl⟩) hR.sS (fun q _ h => hFc q h) hFc (fun r13 S14 t9 H1 locs ht9 hvm9 hw9 hB9 hz9 hk9 hS => ?_)
                obtain ⟨hq15, hw9, hs9⟩ := hw9
                have hR : RepC g ad A s S14 H1 locs := hR.call ht9 hB9 hw9 hS hFc
                have hsh := hsh.tr hs9
                replace h := h r13 S14 hq15 hw9 hs9
                clear hB9 hz9 hk9 hvm9 ht9 hw9 hs9 hS
                generalize H1 = H at hR ⊢
                refine lv_istore (lv' := [(4, .int r13), (0, .ref (ad 66)), (1, .int v34_1), (2, .int v34_2), (3, .int v34_3)]) hx hb dX9_findLive_43 hl (by decide) rfl (fun ls hl => ?_)
                refine lv_iload_n hx hb dX9_findLive_45 rfl (lv_at hl 2 rfl) ?_
                refine lv_iload hx hb dX9_findLive_46 (lv_at hl 0 rfl) ?_
                refine lv_aload_n hx hb dX9_findLive_48 rfl (lv_at hl 1 rfl) ?_
                have hT_b16 : qT S14 (qO S14 66 4) = 229 := hR.w.ref (hR.w.ptr ptrC_37) (hR.w.2.1 _ finC_31).2.1
                refine va_get (D := rD g) (ci := 8) (v := .ref (ad (qO S14 66 4))) (C := RX9) (T := TX9) (N := 6) hx hb hts inX9 hown hR.K hR.P 66 (hR.at48 (hR.w.2.1 _ finC_31).2.1) rfl 4 (by decide) (hts _ kw_1559) (fun _ h9 => h9) (congrArg (fun z => some (vf ad z)) (hR.w.ptr ptrC_37)) dX9_findLive_49 ?_
                refine lv_iload_n hx hb dX9_findLive_52 rfl (lv_at hl 4 rfl) ?_
                obtain ⟨hv17, h⟩ := h
                refine va_iald hx hb hR.K hR.P (qO S14 66 4) 1 (hR.atI hT_b16 (by decide)) rfl (k_ix (x := v34_3) (a := v34_3.toInt) rfl hv17) dX9_findLive_53 ?_
                refine lv_topi (fun z18 ez18 => ?_)
                obtain rfl : z18 = (qI S14 (qO S14 66 4) v34_3.toInt.toNat) := ez18
                have J_62 : ∀ (U62 : MS) (t62_0 : Int32) (t62_1 : Int32) (v62_2 : Int32) (v62_3 : Int32) (v62_4 : Int32) (H : Heap) (locs : List Loc) (ls : Array Slot), w_X9_findLive_J62 Q (w_X9_findLive_L34 Q (w_X9_findLive_L12 Q n12) n34) U62 t62_0 t62_1 v62_2 v62_3 v62_4 → (t62_0 = 0 ∨ t62_0 = 1) → shy S U62 → RepC g ad A s U62 H locs → lv_has ls 5 [(0, .ref (ad 66)), (2, .int v62_2), (3, .int v62_3), (4, .int v62_4)] → W p l e (headSpec (wt yX9_findLive cX9_findLive 5 none) ({ frames := 4, cells := 0, slots := 0, locals := 91 })).room s m ([.ref (ad 66)] : List Value).toArray below meth c H locs 0 0 (MQ below (va_Qv (fun (u : MS) => Q u ∧ wfC u ∧ shy S u) (fun (u : MS) (t : State) => qEC g ad A u t) A) ([.ref (ad 66)] : List Value).toArray s 0 0 A) (F0 m 62 ls [.int t62_0, .int t62_1]) := by
                  intro U62 t62_0 t62_1 v62_2 v62_3 v62_4 H locs ls h hz_t62_0 hsh hR hl
                  unfold w_X9_findLive_J62 at h
                  replace h := h hR.w hz_t62_0
                  refine lv_ior hx hb dX9_findLive_62 ?_
                  refine lv_topi (fun z19 ez19 => ?_)
                  obtain rfl : z19 = (t62_1 ||| t62_0) := ez19
                  obtain ⟨a20, ea20⟩ : ∃ z, z = (t62_1 ||| t62_0) := ⟨_, rfl⟩
                  rw [← ea20]
                  replace h := h a20 ea20
                  refine lv_istore_n (lv' := [(1, .int a20), (0, .ref (ad 66)), (2, .int v62_2), (3, .int v62_3), (4, .int v62_4)]) hx hb dX9_findLive_63 rfl hl (by decide) rfl (fun ls hl => ?_)
                  refine lv_aload_n hx hb dX9_findLive_64 rfl (lv_at hl 1 rfl) ?_
                  have hT_b21 : qT U62 (qO U62 66 4) = 229 := hR.w.ref (hR.w.ptr ptrC_37) (hR.w.2.1 _ finC_31).2.1
                  refine va_get (D := rD g) (ci := 8) (v := .ref (ad (qO U62 66 4))) (C := RX9) (T := TX9) (N := 6) hx hb hts inX9 hown hR.K hR.P 66 (hR.at48 (hR.w.2.1 _ finC_31).2.1) rfl 4 (by decide) (hts _ kw_1559) (fun _ h9 => h9) (congrArg (fun z => some (vf ad z)) (hR.w.ptr ptrC_37)) dX9_findLive_65 ?_
                  refine lv_iload_n hx hb dX9_findLive_68 rfl (lv_at hl 3 rfl) ?_
                  refine lv_iload hx hb dX9_findLive_69 (lv_at hl 4 rfl) ?_
                  obtain ⟨hv22, h⟩ := h
                  refine va_iast hx hb hR.K hR.P hR.D hR.sS (qO U62 66 4) 1 (hR.atI hT_b21 (by decide)) rfl (k_ix (x := v62_3) (a := v62_3.toInt) rfl hv22) dX9_findLive_71 (fun H locs hP hD hS => ?_)
                  have hTk9 : qT U62 (qO U62 66 4) = 229 := hT_b21
                  have hR : RepC g ad A s (wI U62 (qO U62 66 4) v62_3.toInt.toNat v62_4) H locs := hR.aI hT_b21 (by decide) hP hD hS
                  obtain ⟨S23, eS23⟩ : ∃ z, z = wI U62 (qO U62 66 4) v62_3.toInt.toNat v62_4 := ⟨_, rfl⟩
                  rw [← eS23] at hR
                  replace h := h S23 eS23 hTk9 hR.w
                  have hsh : shy S S23 := by rw [eS23]; exact hsh
                  obtain ⟨a24, ea24⟩ : ∃ z, z = (v62_3 + Int32.ofInt (-1)) := ⟨_, rfl⟩
                  replace h := h a24 ea24
                  refine lv_iinc (v := a24) (lv' := [(3, .int a24), (1, .int a20), (0, .ref (ad 66)), (2, .int v62_2), (4, .int v62_4)]) hx hb dX9_findLive_72 hl (k := 3) rfl ea24.symm (by decide) rfl (fun ls hl => ?_)
                  refine lv_goto (tgt := 34) hx hb dX9_findLive_75 (by decide) ?_
                  exact ih_34 S23 a20 v62_2 a24 _ _ ls h  hsh hR (lv_sub hl [2, 1, 3, 0] rfl)
                refine lv_icmp_eq (tgt := 61) hx hb dX9_findLive_54 (by decide) (fun c25 => ?_) (fun c25 => ?_)
                · replace h := h.1 (k_eq rfl rfl c25)
                  refine lv_iconst (v := 0) hx hb dX9_findLive_61 (by decide) ?_
                  exact J_62 S14 0 v34_1 v34_2 v34_3 r13 _ _ ls h (Or.inl rfl) hsh hR (lv_sub hl [1, 3, 4, 0] rfl)
                · replace h := h.2 (k_ne rfl rfl c25)
                  refine lv_iconst (v := 1) hx hb dX9_findLive_57 (by decide) ?_
                  refine lv_goto (tgt := 62) hx hb dX9_findLive_58 (by decide) ?_
                  exact J_62 S14 1 v34_1 v34_2 v34_3 r13 _ _ ls h (Or.inr rfl) hsh hR (lv_sub hl [1, 3, 4, 0] rfl)
          obtain ⟨n9, h⟩ := h
          exact J_34 n9 U12 0 v12_2 a9 _ _ ls h  hsh hR (lv_sub hl [2, 1, 3, 0] rfl)
  obtain ⟨n9, h⟩ := h
  exact J_12 n9 S3 1 0 _ _ ls h  hsh hR (lv_sub hl [2, 1, 0] rfl)
def w_X11_addMethod_L229 (Q : MS → Prop) : Nat → MS → Int32 → Prop
  | 0, _, _ => False
  | n229 + 1, U229, v229_5 => (wfC U229 → ((qR U229 25 15 = some (qO U229 25 15)) ∧ (((qI U229 (qO U229 25 15) 9).toInt ≤ v229_5.toInt → (qT U229 28 = 40 → (∃ Q101, wX0_put2 U229 28 (0 : Int32) Q101 ∧ ∀ S102, Q101 S102 → wfC S102 → shx U229 S102 → Q S102))) ∧ (¬ (qI U229 (qO U229 25 15) 9).toInt ≤ v229_5.toInt → ((qR U229 25 15 = some (qO U229 25 15)) ∧ ((qR U229 (qO U229 25 15) 5 = some (qO U229 (qO U229 25 15) 5)) ∧ (((0 : Int) ≤ v229_5.toInt ∧ v229_5.toInt < (qN U229 (qO U229 (qO U229 25 15) 5) : Int)) ∧ (d_X11_offsetOf U229 (qI U229 (qO U229 (qO U229 25 15) 5) v229_5.toInt.toNat) ∧ (∀ a114 : Int32, a114 = (fX11_offsetOf U229 (qI U229 (qO U229 (qO U229 25 15) 5) v229_5.toInt.toNat)) → (qT U229 28 = 40 → (∃ Q115, wX0_put2 U229 28 a114 Q115 ∧ ∀ S116, Q115 S116 → wfC S116 → shx U229 S116 → ((qR S116 25 15 = some (qO S116 25 15)) ∧ ((qR S116 (qO S116 25 15) 6 = some (qO S116 (qO S116 25 15) 6)) ∧ (((0 : Int) ≤ v229_5.toInt ∧ v229_5.toInt < (qN S116 (qO S116 (qO S116 25 15) 6) : Int)) ∧ (d_X11_offsetOf S116 (qI S116 (qO S116 (qO S116 25 15) 6) v229_5.toInt.toNat) ∧ (∀ a128 : Int32, a128 = (fX11_offsetOf S116 (qI S116 (qO S116 (qO S116 25 15) 6) v229_5.toInt.toNat)) → (qT S116 28 = 40 → (∃ Q129, wX0_put2 S116 28 a128 Q129 ∧ ∀ S130, Q129 S130 → wfC S130 → shx S116 S130 → ((qR S130 25 15 = some (qO S130 25 15)) ∧ ((qR S130 (qO S130 25 15) 7 = some (qO S130 (qO S130 25 15) 7)) ∧ (((0 : Int) ≤ v229_5.toInt ∧ v229_5.toInt < (qN S130 (qO S130 (qO S130 25 15) 7) : Int)) ∧ (d_X11_offsetOf S130 (qI S130 (qO S130 (qO S130 25 15) 7) v229_5.toInt.toNat) ∧ (∀ a142 : Int32, a142 = (fX11_offsetOf S130 (qI S130 (qO S130 (qO S130 25 15) 7) v229_5.toInt.toNat)) → (qT S130 28 = 40 → (∃ Q143, wX0_put2 S130 28 a142 Q143 ∧ ∀ S144, Q143 S144 → wfC S144 → shx S130 S144 → ((qR S144 25 15 = some (qO S144 25 15)) ∧ ((qR S144 (qO S144 25 15) 8 = some (qO S144 (qO S144 25 15) 8)) ∧ (((0 : Int) ≤ v229_5.toInt ∧ v229_5.toInt < (qN S144 (qO S144 (qO S144 25 15) 8) : Int)) ∧ (∃ Q153, wX11_classOf S144 (qI S144 (qO S144 (qO S144 25 15) 8) v229_5.toInt.toNat) Q153 ∧ ∀ r154 S155, Q153 r154 S155 → wfC S155 → shx S144 S155 → (qT S155 28 = 40 → (∃ Q158, wX0_put2 S155 28 r154 Q158 ∧ ∀ S159, Q158 S159 → wfC S159 → shx S155 S159 → (∀ a162 : Int32, a162 = (v229_5 + Int32.ofInt 1) → (w_X11_addMethod_L229 Q n229) S159 a162))))))))))))))))))))))))))))))))
def w_X11_addMethod_L186 (Q : MS → Prop) : Nat → MS → Int32 → Int32 → Prop
  | 0, _, _, _ => False
  | n186 + 1, U186, v186_4, v186_5 => (wfC U186 → ((qR U186 25 15 = some (qO U186 25 15)) ∧ (((qI U186 (qO U186 25 15) 2).toInt ≤ v186_5.toInt → ((qR U186 25 15 = some (qO U186 25 15)) ∧ (qT U186 28 = 40 → (∃ Q94, wX0_put2 U186 28 (qI U186 (qO U186 25 15) 9) Q94 ∧ ∀ S95, Q94 S95 → wfC S95 → shx U186 S95 → (∃ n, w_X11_addMethod_L229 Q n S95 0))))) ∧ (¬ (qI U186 (qO U186 25 15) 2).toInt ≤ v186_5.toInt → (∃ Q163, wX11_putInstruction U186 v186_5 v186_4 Q163 ∧ ∀ S164, Q163 S164 → wfC S164 → shx U186 S164 → (∀ a167 : Int32, a167 = (v186_5 + Int32.ofInt 1) → (w_X11_addMethod_L186 Q n186) S164 v186_4 a167))))))
def wX11_addMethod (S : MS) (p1 : Option Nat) (Q : MS → Prop) : Prop := ((p1 = none → (∀ S2, S2 = wR S 25 15 none → qT S 25 = 50 → wfC S2 → (((qR S2 25 15) = none → Q S2) ∧ (¬ (qR S2 25 15) = none → ((qR S2 25 15 = some (qO S2 25 15)) ∧ (((qI S2 (qO S2 25 15) 11).toInt < 0 → Q S2) ∧ (¬ (qI S2 (qO S2 25 15) 11).toInt < 0 → ((qR S2 25 15 = some (qO S2 25 15)) ∧ ((qR S2 25 7 = some (qO S2 25 7)) ∧ ((qR S2 (qO S2 25 7) 9 = some (qO S2 (qO S2 25 7) 9)) ∧ (((qI S2 (qO S2 25 15) 11).toInt < (qN S2 (qO S2 (qO S2 25 7) 9) : Int) → ((qR S2 25 7 = some (qO S2 25 7)) ∧ ((qR S2 (qO S2 25 7) 9 = some (qO S2 (qO S2 25 7) 9)) ∧ ((qR S2 25 15 = some (qO S2 25 15)) ∧ (((0 : Int) ≤ (qI S2 (qO S2 25 15) 11).toInt ∧ (qI S2 (qO S2 25 15) 11).toInt < (qN S2 (qO S2 (qO S2 25 7) 9) : Int)) ∧ (∃ Q24, wX11_nameEntry S2 (qI S2 (qO S2 (qO S2 25 7) 9) (((qI S2 (qO S2 25 15) 11).toInt).toNat)) Q24 ∧ ∀ r25 S26, Q24 r25 S26 → wfC S26 → shx S2 S26 → ((qR S26 25 7 = some (qO S26 25 7)) ∧ ((qR S26 (qO S26 25 7) 10 = some (qO S26 (qO S26 25 7) 10)) ∧ ((qR S26 25 15 = some (qO S26 25 15)) ∧ (((0 : Int) ≤ (qI S26 (qO S26 25 15) 11).toInt ∧ (qI S26 (qO S26 25 15) 11).toInt < (qN S26 (qO S26 (qO S26 25 7) 10) : Int)) ∧ (∃ Q37, wX11_nameEntry S26 (qI S26 (qO S26 (qO S26 25 7) 10) (((qI S26 (qO S26 25 15) 11).toInt).toNat)) Q37 ∧ ∀ r38 S39, Q37 r38 S39 → wfC S39 → shx S26 S39 → (∃ Q42, wX11_putMember S39 r25 r38 (1 : Int32) Q42 ∧ ∀ S43, Q42 S43 → wfC S43 → shx S39 S43 → (∃ Q46, wX11_layOut S43 Q46 ∧ ∀ r47 S48, Q46 r47 S48 → wfC S48 → shx S43 S48 → ((qR S48 25 7 = some (qO S48 25 7)) ∧ ((qR S48 25 15 = some (qO S48 25 15)) ∧ (qT S48 38 = 44 → qT S48 (qO S48 25 7) = 49 → qT S48 (qO S48 25 15) = 47 → (∃ Q55, wX4_seek S48 38 (qO S48 25 7) (qO S48 25 15) (28 : Int32) Q55 ∧ ∀ S56, Q55 S56 → wfC S56 → shx S48 S56 → (qT S56 28 = 40 → (∃ Q59, wX0_put2 S56 28 (qI S56 25 8) Q59 ∧ ∀ S60, Q59 S60 → wfC S60 → shx S56 S60 → ((qR S60 25 15 = some (qO S60 25 15)) ∧ (qT S60 28 = 40 → (∃ Q68, wX0_put4 S60 28 (((12 : Int32) + r47) + ((8 : Int32) * (qI S60 (qO S60 25 15) 9))) Q68 ∧ ∀ S69, Q68 S69 → wfC S69 → shx S60 S69 → (qT S69 28 = 40 → (∃ Q72, wX0_put2 S69 28 (qI S69 38 7) Q72 ∧ ∀ S73, Q72 S73 → wfC S73 → shx S69 S73 → (∃ Q76, wX11_leastLocals S73 Q76 ∧ ∀ r77 S78, Q76 r77 S78 → wfC S78 → shy S73 S78 → (qT S78 28 = 40 → (∃ Q80, wX0_put2 S78 28 r77 Q80 ∧ ∀ S81, Q80 S81 → wfC S81 → shx S78 S81 → (qT S81 28 = 40 → (∃ Q84, wX0_put4 S81 28 r47 Q84 ∧ ∀ S85, Q84 S85 → wfC S85 → shx S81 S85 → (∀ a88 : Int32, a88 = (qI S85 28 1) → (∃ n, w_X11_addMethod_L186 Q n S85 a88 0))))))))))))))))))))))))))))))) ∧ (¬ (qI S2 (qO S2 25 15) 11).toInt < (qN S2 (qO S2 (qO S2 25 7) 9) : Int) → Q S2)))))))))))) ∧ (¬ p1 = none → (∀ S168, S168 = wR S 25 15 (some ((p1).getD 0)) → qT S 25 = 50 → wfC S168 → (((qR S168 25 15) = none → Q S168) ∧ (¬ (qR S168 25 15) = none → ((qR S168 25 15 = some (qO S168 25 15)) ∧ (((qI S168 (qO S168 25 15) 11).toInt < 0 → Q S168) ∧ (¬ (qI S168 (qO S168 25 15) 11).toInt < 0 → ((qR S168 25 15 = some (qO S168 25 15)) ∧ ((qR S168 25 7 = some (qO S168 25 7)) ∧ ((qR S168 (qO S168 25 7) 9 = some (qO S168 (qO S168 25 7) 9)) ∧ (((qI S168 (qO S168 25 15) 11).toInt < (qN S168 (qO S168 (qO S168 25 7) 9) : Int) → ((qR S168 25 7 = some (qO S168 25 7)) ∧ ((qR S168 (qO S168 25 7) 9 = some (qO S168 (qO S168 25 7) 9)) ∧ ((qR S168 25 15 = some (qO S168 25 15)) ∧ (((0 : Int) ≤ (qI S168 (qO S168 25 15) 11).toInt ∧ (qI S168 (qO S168 25 15) 11).toInt < (qN S168 (qO S168 (qO S168 25 7) 9) : Int)) ∧ (∃ Q190, wX11_nameEntry S168 (qI S168 (qO S168 (qO S168 25 7) 9) (((qI S168 (qO S168 25 15) 11).toInt).toNat)) Q190 ∧ ∀ r191 S192, Q190 r191 S192 → wfC S192 → shx S168 S192 → ((qR S192 25 7 = some (qO S192 25 7)) ∧ ((qR S192 (qO S192 25 7) 10 = some (qO S192 (qO S192 25 7) 10)) ∧ ((qR S192 25 15 = some (qO S192 25 15)) ∧ (((0 : Int) ≤ (qI S192 (qO S192 25 15) 11).toInt ∧ (qI S192 (qO S192 25 15) 11).toInt < (qN S192 (qO S192 (qO S192 25 7) 10) : Int)) ∧ (∃ Q203, wX11_nameEntry S192 (qI S192 (qO S192 (qO S192 25 7) 10) (((qI S192 (qO S192 25 15) 11).toInt).toNat)) Q203 ∧ ∀ r204 S205, Q203 r204 S205 → wfC S205 → shx S192 S205 → (∃ Q208, wX11_putMember S205 r191 r204 (1 : Int32) Q208 ∧ ∀ S209, Q208 S209 → wfC S209 → shx S205 S209 → (∃ Q212, wX11_layOut S209 Q212 ∧ ∀ r213 S214, Q212 r213 S214 → wfC S214 → shx S209 S214 → ((qR S214 25 7 = some (qO S214 25 7)) ∧ ((qR S214 25 15 = some (qO S214 25 15)) ∧ (qT S214 38 = 44 → qT S214 (qO S214 25 7) = 49 → qT S214 (qO S214 25 15) = 47 → (∃ Q221, wX4_seek S214 38 (qO S214 25 7) (qO S214 25 15) (28 : Int32) Q221 ∧ ∀ S222, Q221 S222 → wfC S222 → shx S214 S222 → (qT S222 28 = 40 → (∃ Q225, wX0_put2 S222 28 (qI S222 25 8) Q225 ∧ ∀ S226, Q225 S226 → wfC S226 → shx S222 S226 → ((qR S226 25 15 = some (qO S226 25 15)) ∧ (qT S226 28 = 40 → (∃ Q234, wX0_put4 S226 28 (((12 : Int32) + r213) + ((8 : Int32) * (qI S226 (qO S226 25 15) 9))) Q234 ∧ ∀ S235, Q234 S235 → wfC S235 → shx S226 S235 → (qT S235 28 = 40 → (∃ Q238, wX0_put2 S235 28 (qI S235 38 7) Q238 ∧ ∀ S239, Q238 S239 → wfC S239 → shx S235 S239 → (∃ Q242, wX11_leastLocals S239 Q242 ∧ ∀ r243 S244, Q242 r243 S244 → wfC S244 → shy S239 S244 → (qT S244 28 = 40 → (∃ Q246, wX0_put2 S244 28 r243 Q246 ∧ ∀ S247, Q246 S247 → wfC S247 → shx S244 S247 → (qT S247 28 = 40 → (∃ Q250, wX0_put4 S247 28 r213 Q250 ∧ ∀ S251, Q250 S251 → wfC S251 → shx S247 S251 → (∀ a254 : Int32, a254 = (qI S251 28 1) → (∃ n, w_X11_addMethod_L186 Q n S251 a254 0))))))))))))))))))))))))))))))) ∧ (¬ (qI S168 (qO S168 25 15) 11).toInt < (qN S168 (qO S168 (qO S168 25 7) 9) : Int) → Q S168)))))))))))))
set_option maxHeartbeats 2000000 in
set_option maxRecDepth 100000 in
theorem rX11_addMethod (l : Launch) (g : Gr) (ad : Nat → Nat) (H0 : Heap) (S : MS) (p1 : Option Nat) (hw : wfC S) (hO_p1 : ∀ z, p1 = some z → qT S z = 47) (Q : MS → Prop) (h : wX11_addMethod S p1 Q) : Met l yX11_addMethod (wt yX11_addMethod cX11_addMethod 6 none) ({ frames := 8, cells := KCC - qn S, slots := KSC - qu S, locals := 197 }) (va_Pc [.ref (ad 25), vf ad p1] (st_CH g ad H0 S)) (va_Qv (fun (u : MS × (Nat → Nat)) => Q u.1 ∧ wfC u.1 ∧ shx S u.1 ∧ adk ad u.2 S) (fun (u : MS × (Nat → Nat)) (t : State) => qEHC g (va_A (WdC g ad S) H0.size) S H0 u t) (va_A (WdC g ad S) H0.size)) (KCC - qn S) (KSC - qu S) (va_A (WdC g ad S) H0.size) := by
  refine Met.ofW (cc := cX11_addMethod) (maxL := 6) (ret := none) (by decide) rfl ?_
  intro p e s m args below meth c s₁ B hml hv
  obtain ⟨rfl, hH0, hsz, hP, hK, hD0, hex, hE⟩ := hv
  have hx := B.exec
  have hb := B.bytes
  have hr := B.returns
  have hts0 := atoms_spec (ws := wt yX11_addMethod cX11_addMethod 6 none) B.pre
  have hts : ∀ w ∈ tb, w.before _ s = true := fun w h => hts0 w (List.mem_cons_of_mem _ h)
  have hown : s.vm.findClass RX11 = some m.cls := findClass_of_methodNamed B.named
  subst hH0
  have hD := hD0.self (sz := s.heap.size)
  generalize hAe : va_A (WdC g ad S) s.heap.size = A at hD hE ⊢
  have hA : ∀ q : Nat, s.heap.size ≤ q → A q := fun q h => by rw [← hAe]; exact Or.inr h
  have hR : RepC g ad A s S s.heap [] := ⟨hK, hP, hD, va_S.rf, hw⟩
  clear hK hP hD hD0
  have hl := lv_entry ([.ref (ad 25), vf ad p1]) (n := 6) (by cases p1 <;> exact Nat.le_of_ble_eq_true rfl)
  rw [lg_entry_eq]
  generalize (lg_sl ([.ref (ad 25), vf ad p1]) ++ List.replicate (6 - (lg_sl ([.ref (ad 25), vf ad p1])).length) Slot.unset).toArray = ls at hl ⊢
  have hlg : lgC S S 0 0 := lgC.rf
  have hak : adk ad ad S := adk.rf
  have hl : lv_has ls 6 [(0, .ref (ad 25)), (1, vf ad p1)] := by cases p1 <;> exact hl
  have hsh : shx S S := shx.rf
  unfold wX11_addMethod at h
  refine lv_aload_n hx hb dX11_addMethod_0 rfl (lv_at hl 0 rfl) ?_
  rcases (show p1 = none ∨ ∃ z, p1 = some z by cases p1 <;> simp) with hq_b1 | ⟨b1, hq_b1⟩
  · rw [hq_b1] at hl
    skip
    replace h := h.1 (hq_b1)
    refine lv_aload_nN hx hb dX11_addMethod_1 rfl (lv_at hl 1 rfl) ?_
    refine va_put (D := rD g) (ci := 10) (v := vf ad none) (ty := (.object "CodeFoundry$Row")) (C := RX11) (T := TX11) (N := 18) hx hb hts inX11 tyX11 tyX11_ok nmX11 hown hR.K hR.P hR.D hR.sS 25 (hR.at50 (hR.w.2.1 _ finC_28).2.1) rfl 15 (by decide) (hts _ kw_84) (fun _ h9 => h9) rfl (by decide +kernel) rfl rfl (Nat.le_of_ble_eq_true rfl) dX11_addMethod_2 (fun H locs hP hD hS => ?_)
    have hw9 : wfC (wR S 25 15 none) := hR.w.put (fun b q9 => by cases q9) (nofC_25_15) (by rw [(hR.w.2.1 _ finC_28).2.1]; decide) (fun b _ q9 => absurd (show otgC (qT S 25) 15 = 0 by rw [(hR.w.2.1 _ finC_28).2.1]; decide) q9) (fun q9 => absurd q9 nopC_25_15)
    have hTk9 : qT S 25 = 50 := (hR.w.2.1 _ finC_28).2.1
    have hR : RepC g ad A s (wR S 25 15 none) H locs := hR.pR50 (hR.w.2.1 _ finC_28).2.1 FX11_s15 hw9 hP hD hS
    obtain ⟨S2, eS2⟩ : ∃ z, z = wR S 25 15 none := ⟨_, rfl⟩
    rw [← eS2] at hR
    replace h := h S2 eS2 hTk9 hR.w
    have hsh : shx S S2 := by rw [eS2]; exact hsh
    have hlg : lgC S S2 (0) (0) := by rw [eS2]; exact hlg
    refine lv_aload_n hx hb dX11_addMethod_5 rfl (lv_at hl 0 rfl) ?_
    have hO_o3 : ∀ z, (qR S2 25 15) = some z → qT S2 z = 47 := fun z q => hR.w.ref q (hR.w.2.1 _ finC_28).2.1
    refine va_get (D := rD g) (ci := 10) (v := vf ad (qR S2 25 15)) (C := RX11) (T := TX11) (N := 18) hx hb hts inX11 hown hR.K hR.P 25 (hR.at50 (hR.w.2.1 _ finC_28).2.1) rfl 15 (by decide) (hts _ kw_84) (fun _ h9 => h9) rfl dX11_addMethod_6 ?_
    rcases hq_b4 : (qR S2 25 15) with _ | b4
    · skip
      replace h := h.1 (hq_b4)
      refine lv_ifnullN (tgt := 40) hx hb dX11_addMethod_9 (by decide) ?_
      refine W_led2 (fun hLd => ?_)
      refine W.widen (k := KCC - qn S) (n := KSC - qu S) hlg.c hlg.s ?_
      exact W.vret hx hb hr (fun t9 ht9 hW9 => ⟨⟨(S2, ad), rfl, ⟨h, hR.w, hsh, hak⟩, ⟨⟨by rw [ht9]; exact hR.P, hR.D⟩, _, _, by rw [ht9]; exact hLd, hlg⟩⟩, hR.sS.F ht9⟩) hR.sS.2.2 dX11_addMethod_40
    · have hg_b4 : b4 = ((qR S2 25 15)).getD 0 := by rw [hq_b4]; rfl
      have hT_b4 : qT S2 (((qR S2 25 15)).getD 0) = 47 := hg_b4 ▸ hO_o3 _ hq_b4
      subst hg_b4
      replace h := h.2 (fun q9 => Option.some_ne_none _ (hq_b4.symm.trans q9))
      refine lv_ifnull hx hb dX11_addMethod_9 ?_
      refine lv_aload_n hx hb dX11_addMethod_12 rfl (lv_at hl 0 rfl) ?_
      obtain ⟨hv6, h⟩ := h
      have hT_b5 : qT S2 (qO S2 25 15) = 47 := hR.w.ref hv6 (hR.w.2.1 _ finC_28).2.1
      refine va_get (D := rD g) (ci := 10) (v := .ref (ad (qO S2 25 15))) (C := RX11) (T := TX11) (N := 18) hx hb hts inX11 hown hR.K hR.P 25 (hR.at50 (hR.w.2.1 _ finC_28).2.1) rfl 15 (by decide) (hts _ kw_84) (fun _ h9 => h9) (congrArg (fun z => some (vf ad z)) hv6) dX11_addMethod_13 ?_
      refine va_get (D := rD g) (ci := 7) (v := .int (qI S2 (qO S2 25 15) 11)) (C := RX8) (T := TX8) (N := 15) hx hb hts inX8 hown hR.K hR.P (qO S2 25 15) (hR.at47 hT_b5) rfl 11 (by decide) (hts _ kw_85) (fun _ h9 => h9) rfl dX11_addMethod_16 ?_
      refine lv_if_lt (tgt := 40) hx hb dX11_addMethod_19 (by decide) (fun c7 => ?_) (fun c7 => ?_)
      · replace h := h.1 (k_lt rfl (by decide) c7)
        refine W_led2 (fun hLd => ?_)
        refine W.widen (k := KCC - qn S) (n := KSC - qu S) hlg.c hlg.s ?_
        exact W.vret hx hb hr (fun t9 ht9 hW9 => ⟨⟨(S2, ad), rfl, ⟨h, hR.w, hsh, hak⟩, ⟨⟨by rw [ht9]; exact hR.P, hR.D⟩, _, _, by rw [ht9]; exact hLd, hlg⟩⟩, hR.sS.F ht9⟩) hR.sS.2.2 dX11_addMethod_40
      · replace h := h.2 (k_nlt rfl (by decide) c7)
        refine lv_aload_n hx hb dX11_addMethod_22 rfl (lv_at hl 0 rfl) ?_
        obtain ⟨hv9, h⟩ := h
        have hT_b8 : qT S2 (qO S2 25 15) = 47 := hR.w.ref hv9 (hR.w.2.1 _ finC_28).2.1
        refine va_get (D := rD g) (ci := 10) (v := .ref (ad (qO S2 25 15))) (C := RX11) (T := TX11) (N := 18) hx hb hts inX11 hown hR.K hR.P 25 (hR.at50 (hR.w.2.1 _ finC_28).2.1) rfl 15 (by decide) (hts _ kw_84) (fun _ h9 => h9) (congrArg (fun z => some (vf ad z)) hv9) dX11_addMethod_23 ?_
        refine va_get (D := rD g) (ci := 7) (v := .int (qI S2 (qO S2 25 15) 11)) (C := RX8) (T := TX8) (N := 15) hx hb hts inX8 hown hR.K hR.P (qO S2 25 15) (hR.at47 hT_b8) rfl 11 (by decide) (hts _ kw_85) (fun _ h9 => h9) rfl dX11_addMethod_26 ?_
        refine lv_aload_n hx hb dX11_addMethod_29 rfl (lv_at hl 0 rfl) ?_
        obtain ⟨hv11, h⟩ := h
        have hT_b10 : qT S2 (qO S2 25 7) = 49 := hR.w.ref hv11 (hR.w.2.1 _ finC_28).2.1
        refine va_get (D := rD g) (ci := 10) (v := .ref (ad (qO S2 25 7))) (C := RX11) (T := TX11) (N := 18) hx hb hts inX11 hown hR.K hR.P 25 (hR.at50 (hR.w.2.1 _ finC_28).2.1) rfl 7 (by decide) (hts _ kw_86) (fun _ h9 => h9) (congrArg (fun z => some (vf ad z)) hv11) dX11_addMethod_30 ?_
        obtain ⟨hv13, h⟩ := h
        have hT_b12 : qT S2 (qO S2 (qO S2 25 7) 9) = 234 := hR.w.ref hv13 hT_b10
        refine va_get (D := rD g) (ci := 9) (v := .ref (ad (qO S2 (qO S2 25 7) 9))) (C := RX10) (T := TX10) (N := 18) hx hb hts inX10 hown hR.K hR.P (qO S2 25 7) (hR.at49 hT_b10) rfl 9 (by decide) (hts _ kw_87) (fun _ h9 => h9) (congrArg (fun z => some (vf ad z)) hv13) dX11_addMethod_33 ?_
        refine va_alen (v := (Int32.ofNat (qN S2 (qO S2 (qO S2 25 7) 9)))) hx hb hR.K hR.P (qO S2 (qO S2 25 7) 9) 1 (hR.atI hT_b12 (by decide)) rfl rfl dX11_addMethod_36 ?_
        have hln14 : (Int32.ofNat (qN S2 (qO S2 (qO S2 25 7) 9))).toInt = (qN S2 (qO S2 (qO S2 25 7) 9) : Int) := toI_len (hR.w.len9 (hT_b12) (by decide))
        refine lv_icmp_lt (tgt := 41) hx hb dX11_addMethod_37 (by decide) (fun c15 => ?_) (fun c15 => ?_)
        · replace h := h.1 (k_lt rfl hln14 c15)
          refine lv_aload_n hx hb dX11_addMethod_41 rfl (lv_at hl 0 rfl) ?_
          refine lv_aload_n hx hb dX11_addMethod_42 rfl (lv_at hl 0 rfl) ?_
          obtain ⟨hv17, h⟩ := h
          have hT_b16 : qT S2 (qO S2 25 7) = 49 := hR.w.ref hv17 (hR.w.2.1 _ finC_28).2.1
          refine va_get (D := rD g) (ci := 10) (v := .ref (ad (qO S2 25 7))) (C := RX11) (T := TX11) (N := 18) hx hb hts inX11 hown hR.K hR.P 25 (hR.at50 (hR.w.2.1 _ finC_28).2.1) rfl 7 (by decide) (hts _ kw_86) (fun _ h9 => h9) (congrArg (fun z => some (vf ad z)) hv17) dX11_addMethod_43 ?_
          obtain ⟨hv19, h⟩ := h
          have hT_b18 : qT S2 (qO S2 (qO S2 25 7) 9) = 234 := hR.w.ref hv19 hT_b16
          refine va_get (D := rD g) (ci := 9) (v := .ref (ad (qO S2 (qO S2 25 7) 9))) (C := RX10) (T := TX10) (N := 18) hx hb hts inX10 hown hR.K hR.P (qO S2 25 7) (hR.at49 hT_b16) rfl 9 (by decide) (hts _ kw_87) (fun _ h9 => h9) (congrArg (fun z => some (vf ad z)) hv19) dX11_addMethod_46 ?_
          refine lv_aload_n hx hb dX11_addMethod_49 rfl (lv_at hl 0 rfl) ?_
          obtain ⟨hv21, h⟩ := h
          have hT_b20 : qT S2 (qO S2 25 15) = 47 := hR.w.ref hv21 (hR.w.2.1 _ finC_28).2.1
          refine va_get (D := rD g) (ci := 10) (v := .ref (ad (qO S2 25 15))) (C := RX11) (T := TX11) (N := 18) hx hb hts inX11 hown hR.K hR.P 25 (hR.at50 (hR.w.2.1 _ finC_28).2.1) rfl 15 (by decide) (hts _ kw_84) (fun _ h9 => h9) (congrArg (fun z => some (vf ad z)) hv21) dX11_addMethod_50 ?_
          refine va_get (D := rD g) (ci := 7) (v := .int (qI S2 (qO S2 25 15) 11)) (C := RX8) (T := TX8) (N := 15) hx hb hts inX8 hown hR.K hR.P (qO S2 25 15) (hR.at47 hT_b20) rfl 11 (by decide) (hts _ kw_85) (fun _ h9 => h9) rfl dX11_addMethod_53 ?_
          obtain ⟨hv22, h⟩ := h
          refine va_iald hx hb hR.K hR.P (qO S2 (qO S2 25 7) 9) 1 (hR.atI hT_b18 (by decide)) rfl (k_ix (x := (qI S2 (qO S2 25 15) 11)) (a := (qI S2 (qO S2 25 15) 11).toInt) rfl hv22) dX11_addMethod_56 ?_
          refine lv_topi (fun z23 ez23 => ?_)
          obtain rfl : z23 = (qI S2 (qO S2 (qO S2 25 7) 9) (((qI S2 (qO S2 25 15) 11).toInt).toNat)) := ez23
          obtain ⟨Q24, h0, h⟩ := h
          have hFc := cfree hR hA
          refine W_led2 (fun hL0 => ?_)
          refine va_calli (va_runV (As := [.int (qI S2 (qO S2 (qO S2 25 7) 9) (((qI S2 (qO S2 25 15) 11).toInt).toNat))]) (rest := []) ⟨hx, hb, hml, hown, hts⟩ (rX11_nameEntry l g ad H S2 (qI S2 (qO S2 (qO S2 25 7) 9) (((qI S2 (qO S2 25 15) 11).toInt).toNat)) hR.w  Q24 h0) (cwV 1 hts (gd_V kw_88 kw_217 kw_218 kw_83 kw_216) rfl rfl rfl (by decide +kernel) ⟨Nat.le_of_ble_eq_true rfl, Nat.le_of_ble_eq_true rfl⟩) ⟨cblindH, va_recv hR.K hR.P (ci := 10) (q0 := 25) rfl (hR.at50 (hR.w.2.1 _ finC_28).2.1), fun U hU hW9 => cmkH hU hW9 hR hex hE hFc⟩ rfl rfl hl.1 rfl (lv_room (Nat.le_of_ble_eq_true rfl)) dX11_addMethod_57 ⟨(show 0 + (KCC - qn S2) ≤ KCC - qn S from hlg.cm), (show 0 + (KSC - qu S2) ≤ KSC - qu S from hlg.sm)⟩) hR.sS (fun q _ h => hFc q h) hFc (fun r25 S26 t9 H1 locs ht9 hvm9 hw9 hB9 hz9 hk9 hS => ?_)
          rcases S26 with ⟨S26, ak28⟩
          obtain ⟨hB9, dc9, ds9, hL9, hl9⟩ := hB9
          dsimp only at hw9 hB9 hl9
          rw [ht9] at hL9
          obtain ⟨hq27, hw9, hs9, hk8⟩ := hw9
          have hw8 := hR.w
          have hak := hak.tr hk8 hlg.2.2.1
          have hE := hE.ad hk8
          have hR : RepC g ak28 A s S26 H1 locs := hR.callH ht9 hB9 hw9 hS hFc
          have hsh := hsh.tr hs9
          refine W_tight2 (hL0.tr hL9).1 (hL0.tr hL9).2.1 ?_
          have hlg := hlg.call hl9
          replace h := h r25 S26 hq27 hw9 hs9
          have ea_0 : ak28 25 = ad 25 := hk8 _ (hw8.hd (hw8.2.1 _ finC_28).2.1 (by decide) (by decide))
          have hl : lv_has ls 6 [(0, .ref (ak28 25)), (1, .null)] := by simp only [ea_0]; exact hl
          clear hB9 hz9 hk9 hvm9 ht9 hw9 hs9 hS hL0 hL9
          generalize H1 = H at hR ⊢
          generalize dc9 = dc_ak28, ds9 = ds_ak28 at hlg ⊢
          refine lv_istore_n (lv' := [(2, .int r25), (0, .ref (ak28 25)), (1, .null)]) hx hb dX11_addMethod_60 rfl hl (by decide) rfl (fun ls hl => ?_)
          refine lv_aload_n hx hb dX11_addMethod_61 rfl (lv_at hl 1 rfl) ?_
          refine lv_iload_n hx hb dX11_addMethod_62 rfl (lv_at hl 0 rfl) ?_
          refine lv_aload_n hx hb dX11_addMethod_63 rfl (lv_at hl 1 rfl) ?_
          refine lv_aload_n hx hb dX11_addMethod_64 rfl (lv_at hl 1 rfl) ?_
          obtain ⟨hv30, h⟩ := h
          have hT_b29 : qT S26 (qO S26 25 7) = 49 := hR.w.ref hv30 (hR.w.2.1 _ finC_28).2.1
          refine va_get (D := rD g) (ci := 10) (v := .ref (ak28 (qO S26 25 7))) (C := RX11) (T := TX11) (N := 18) hx hb hts inX11 hown hR.K hR.P 25 (hR.at50 (hR.w.2.1 _ finC_28).2.1) rfl 7 (by decide) (hts _ kw_86) (fun _ h9 => h9) (congrArg (fun z => some (vf ak28 z)) hv30) dX11_addMethod_65 ?_
          obtain ⟨hv32, h⟩ := h
          have hT_b31 : qT S26 (qO S26 (qO S26 25 7) 10) = 235 := hR.w.ref hv32 hT_b29
          refine va_get (D := rD g) (ci := 9) (v := .ref (ak28 (qO S26 (qO S26 25 7) 10))) (C := RX10) (T := TX10) (N := 18) hx hb hts inX10 hown hR.K hR.P (qO S26 25 7) (hR.at49 hT_b29) rfl 10 (by decide) (hts _ kw_89) (fun _ h9 => h9) (congrArg (fun z => some (vf ak28 z)) hv32) dX11_addMethod_68 ?_
          refine lv_aload_n hx hb dX11_addMethod_71 rfl (lv_at hl 1 rfl) ?_
          obtain ⟨hv34, h⟩ := h
          have hT_b33 : qT S26 (qO S26 25 15) = 47 := hR.w.ref hv34 (hR.w.2.1 _ finC_28).2.1
          refine va_get (D := rD g) (ci := 10) (v := .ref (ak28 (qO S26 25 15))) (C := RX11) (T := TX11) (N := 18) hx hb hts inX11 hown hR.K hR.P 25 (hR.at50 (hR.w.2.1 _ finC_28).2.1) rfl 15 (by decide) (hts _ kw_84) (fun _ h9 => h9) (congrArg (fun z => some (vf ak28 z)) hv34) dX11_addMethod_72 ?_
          refine va_get (D := rD g) (ci := 7) (v := .int (qI S26 (qO S26 25 15) 11)) (C := RX8) (T := TX8) (N := 15) hx hb hts inX8 hown hR.K hR.P (qO S26 25 15) (hR.at47 hT_b33) rfl 11 (by decide) (hts _ kw_85) (fun _ h9 => h9) rfl dX11_addMethod_75 ?_
          obtain ⟨hv35, h⟩ := h
          refine va_iald hx hb hR.K hR.P (qO S26 (qO S26 25 7) 10) 1 (hR.atI hT_b31 (by decide)) rfl (k_ix (x := (qI S26 (qO S26 25 15) 11)) (a := (qI S26 (qO S26 25 15) 11).toInt) rfl hv35) dX11_addMethod_78 ?_
          refine lv_topi (fun z36 ez36 => ?_)
          obtain rfl : z36 = (qI S26 (qO S26 (qO S26 25 7) 10) (((qI S26 (qO S26 25 15) 11).toInt).toNat)) := ez36
          obtain ⟨Q37, h0, h⟩ := h
          have hFc := cfree hR hA
          refine W_led2 (fun hL0 => ?_)
          refine va_calli (va_runV (As := [.int (qI S26 (qO S26 (qO S26 25 7) 10) (((qI S26 (qO S26 25 15) 11).toInt).toNat))]) (rest := [.int r25, .ref (ak28 25)]) ⟨hx, hb, hml, hown, hts⟩ (rX11_nameEntry l g ak28 H S26 (qI S26 (qO S26 (qO S26 25 7) 10) (((qI S26 (qO S26 25 15) 11).toInt).toNat)) hR.w  Q37 h0) (cwV 1 hts (gd_V kw_88 kw_217 kw_218 kw_83 kw_216) rfl rfl rfl (by decide +kernel) ⟨Nat.le_of_ble_eq_true rfl, Nat.le_of_ble_eq_true rfl⟩) ⟨cblindH, va_recv hR.K hR.P (ci := 10) (q0 := 25) rfl (hR.at50 (hR.w.2.1 _ finC_28).2.1), fun U hU hW9 => cmkH hU hW9 hR hex hE hFc⟩ rfl rfl hl.1 rfl (lv_room (Nat.le_of_ble_eq_true rfl)) dX11_addMethod_79 ⟨(show 0 + dc_ak28 + (KCC - qn S26) ≤ KCC - qn S from hlg.cm), (show 0 + ds_ak28 + (KSC - qu S26) ≤ KSC - qu S from hlg.sm)⟩) hR.sS (fun q _ h => hFc q h) hFc (fun r38 S39 t9 H1 locs ht9 hvm9 hw9 hB9 hz9 hk9 hS => ?_)
          rcases S39 with ⟨S39, ak41⟩
          obtain ⟨hB9, dc9, ds9, hL9, hl9⟩ := hB9
          dsimp only at hw9 hB9 hl9
          rw [ht9] at hL9
          obtain ⟨hq40, hw9, hs9, hk8⟩ := hw9
          have hw8 := hR.w
          have hak := hak.tr hk8 hlg.2.2.1
          have hE := hE.ad hk8
          have hR : RepC g ak41 A s S39 H1 locs := hR.callH ht9 hB9 hw9 hS hFc
          have hsh := hsh.tr hs9
          refine W_tight2 (hL0.tr hL9).1 (hL0.tr hL9).2.1 ?_
          have hlg := hlg.call hl9
          replace h := h r38 S39 hq40 hw9 hs9
          have ea_0 : ak41 25 = ak28 25 := hk8 _ (hw8.hd (hw8.2.1 _ finC_28).2.1 (by decide) (by decide))
          have hl : lv_has ls 6 [(2, .int r25), (0, .ref (ak41 25)), (1, .null)] := by simp only [ea_0]; exact hl
          refine W.eq (g2 := F0 m 82 ls (.int r38 :: [.int r25, .ref (ak41 25)])) (by first | (simp only [ea_0]; rfl) | simp only [ea_0]) ?_
          clear hB9 hz9 hk9 hvm9 ht9 hw9 hs9 hS hL0 hL9
          generalize H1 = H at hR ⊢
          generalize dc9 = dc_ak41, ds9 = ds_ak41 at hlg ⊢
          refine lv_iconst (v := 1) hx hb dX11_addMethod_82 (by decide) ?_
          obtain ⟨Q42, h0, h⟩ := h
          have hFc := cfree hR hA
          refine W_led2 (fun hL0 => ?_)
          refine va_callv (va_runV (As := [.int r25, .int r38, .int 1]) (rest := []) ⟨hx, hb, hml, hown, hts⟩ (rX11_putMember l g ak41 H S39 r25 r38 (1 : Int32) hR.w  Q42 h0) (cwV 3 hts (gd_V kw_90 kw_258 kw_259 kw_83 kw_257) rfl rfl rfl (by decide +kernel) ⟨Nat.le_of_ble_eq_true rfl, Nat.le_of_ble_eq_true rfl⟩) ⟨cblindH, va_recv hR.K hR.P (ci := 10) (q0 := 25) rfl (hR.at50 (hR.w.2.1 _ finC_28).2.1), fun U hU hW9 => cmkH hU hW9 hR hex hE hFc⟩ rfl rfl hl.1 rfl (lv_room (Nat.le_of_ble_eq_true rfl)) dX11_addMethod_83 ⟨(show 0 + dc_ak28 + dc_ak41 + (KCC - qn S39) ≤ KCC - qn S from hlg.cm), (show 0 + ds_ak28 + ds_ak41 + (KSC - qu S39) ≤ KSC - qu S from hlg.sm)⟩) hR.sS (fun q _ h => hFc q h) hFc (fun  S43 t9 H1 locs ht9 hvm9 hw9 hB9 hz9 hk9 hS => ?_)
          rcases S43 with ⟨S43, ak45⟩
          obtain ⟨hB9, dc9, ds9, hL9, hl9⟩ := hB9
          dsimp only at hw9 hB9 hl9
          rw [ht9] at hL9
          obtain ⟨hq44, hw9, hs9, hk8⟩ := hw9
          have hw8 := hR.w
          have hak := hak.tr hk8 hlg.2.2.1
          have hE := hE.ad hk8
          have hR : RepC g ak45 A s S43 H1 locs := hR.callH ht9 hB9 hw9 hS hFc
          have hsh := hsh.tr hs9
          refine W_tight2 (hL0.tr hL9).1 (hL0.tr hL9).2.1 ?_
          have hlg := hlg.call hl9
          replace h := h  S43 hq44 hw9 hs9
          have ea_0 : ak45 25 = ak41 25 := hk8 _ (hw8.hd (hw8.2.1 _ finC_28).2.1 (by decide) (by decide))
          have hl : lv_has ls 6 [(2, .int r25), (0, .ref (ak45 25)), (1, .null)] := by simp only [ea_0]; exact hl
          clear hB9 hz9 hk9 hvm9 ht9 hw9 hs9 hS hL0 hL9
          generalize H1 = H at hR ⊢
          generalize dc9 = dc_ak45, ds9 = ds_ak45 at hlg ⊢
          refine lv_aload_n hx hb dX11_addMethod_86 rfl (lv_at hl 1 rfl) ?_
          obtain ⟨Q46, h0, h⟩ := h
          have hFc := cfree hR hA
          refine W_led2 (fun hL0 => ?_)
          refine va_calli (va_runV (As := []) (rest := []) ⟨hx, hb, hml, hown, hts⟩ (rX11_layOut l g ak45 H S43 hR.w  Q46 h0) (cwV 0 hts (gd_V kw_91 kw_180 kw_181 kw_83 kw_179) rfl rfl rfl (by decide +kernel) ⟨Nat.le_of_ble_eq_true rfl, Nat.le_of_ble_eq_true rfl⟩) ⟨cblindH, va_recv hR.K hR.P (ci := 10) (q0 := 25) rfl (hR.at50 (hR.w.2.1 _ finC_28).2.1), fun U hU hW9 => cmkH hU hW9 hR hex hE hFc⟩ rfl rfl hl.1 rfl (lv_room (Nat.le_of_ble_eq_true rfl)) dX11_addMethod_87 ⟨(show 0 + dc_ak28 + dc_ak41 + dc_ak45 + (KCC - qn S43) ≤ KCC - qn S from hlg.cm), (show 0 + ds_ak28 + ds_ak41 + ds_ak45 + (KSC - qu S43) ≤ KSC - qu S from hlg.sm)⟩) hR.sS (fun q _ h => hFc q h) hFc (fun r47 S48 t9 H1 locs ht9 hvm9 hw9 hB9 hz9 hk9 hS => ?_)
          rcases S48 with ⟨S48, ak50⟩
          obtain ⟨hB9, dc9, ds9, hL9, hl9⟩ := hB9
          dsimp only at hw9 hB9 hl9
          rw [ht9] at hL9
          obtain ⟨hq49, hw9, hs9, hk8⟩ := hw9
          have hw8 := hR.w
          have hak := hak.tr hk8 hlg.2.2.1
          have hE := hE.ad hk8
          have hR : RepC g ak50 A s S48 H1 locs := hR.callH ht9 hB9 hw9 hS hFc
          have hsh := hsh.tr hs9
          refine W_tight2 (hL0.tr hL9).1 (hL0.tr hL9).2.1 ?_
          have hlg := hlg.call hl9
          replace h := h r47 S48 hq49 hw9 hs9
          have ea_0 : ak50 25 = ak45 25 := hk8 _ (hw8.hd (hw8.2.1 _ finC_28).2.1 (by decide) (by decide))
          have hl : lv_has ls 6 [(2, .int r25), (0, .ref (ak50 25)), (1, .null)] := by simp only [ea_0]; exact hl
          clear hB9 hz9 hk9 hvm9 ht9 hw9 hs9 hS hL0 hL9
          generalize H1 = H at hR ⊢
          generalize dc9 = dc_ak50, ds9 = ds_ak50 at hlg ⊢
          refine lv_istore_n (lv' := [(3, .int r47), (2, .int r25), (0, .ref (ak50 25)), (1, .null)]) hx hb dX11_addMethod_90 rfl hl (by decide) rfl (fun ls hl => ?_)
          refine lv_aload_n hx hb dX11_addMethod_91 rfl (lv_at hl 2 rfl) ?_
          refine va_get (D := rD g) (ci := 10) (v := .ref (ak50 38)) (C := RX11) (T := TX11) (N := 18) hx hb hts inX11 hown hR.K hR.P 25 (hR.at50 (hR.w.2.1 _ finC_28).2.1) rfl 14 (by decide) (hts _ kw_92) (fun _ h9 => h9) (congrArg (fun z => some (vf ak50 z)) (hR.w.2.1 _ finC_21).1) dX11_addMethod_92 ?_
          refine lv_aload_n hx hb dX11_addMethod_95 rfl (lv_at hl 2 rfl) ?_
          obtain ⟨hv52, h⟩ := h
          have hT_b51 : qT S48 (qO S48 25 7) = 49 := hR.w.ref hv52 (hR.w.2.1 _ finC_28).2.1
          refine va_get (D := rD g) (ci := 10) (v := .ref (ak50 (qO S48 25 7))) (C := RX11) (T := TX11) (N := 18) hx hb hts inX11 hown hR.K hR.P 25 (hR.at50 (hR.w.2.1 _ finC_28).2.1) rfl 7 (by decide) (hts _ kw_86) (fun _ h9 => h9) (congrArg (fun z => some (vf ak50 z)) hv52) dX11_addMethod_96 ?_
          refine lv_aload_n hx hb dX11_addMethod_99 rfl (lv_at hl 2 rfl) ?_
          obtain ⟨hv54, h⟩ := h
          have hT_b53 : qT S48 (qO S48 25 15) = 47 := hR.w.ref hv54 (hR.w.2.1 _ finC_28).2.1
          refine va_get (D := rD g) (ci := 10) (v := .ref (ak50 (qO S48 25 15))) (C := RX11) (T := TX11) (N := 18) hx hb hts inX11 hown hR.K hR.P 25 (hR.at50 (hR.w.2.1 _ finC_28).2.1) rfl 15 (by decide) (hts _ kw_84) (fun _ h9 => h9) (congrArg (fun z => some (vf ak50 z)) hv54) dX11_addMethod_100 ?_
          refine lv_bipush (v := 28) hx hb dX11_addMethod_103 (by decide) ?_
          replace h := h ((hR.w.2.1 _ finC_21).2.1) (hT_b51) (hT_b53)
          obtain ⟨Q55, h0, h⟩ := h
          have hFc := cfree hR hA
          refine W_led2 (fun hL0 => ?_)
          refine va_callv (va_runV (As := [.ref (ak50 (qO S48 25 7)), .ref (ak50 (qO S48 25 15)), .int 28]) (rest := []) ⟨hx, hb, hml, hown, hts⟩ (rX4_seek l g ak50 H S48 38 (qO S48 25 7) (qO S48 25 15) (28 : Int32) hR.w (hR.w.2.1 _ finC_21).2.1 hT_b51 hT_b53 Q55 h0) (cwV 3 hts (gd_V kw_93 kw_976 kw_977 kw_167 kw_975) rfl rfl rfl (by decide +kernel) ⟨Nat.le_of_ble_eq_true rfl, Nat.le_of_ble_eq_true rfl⟩) ⟨cblindH, va_recv hR.K hR.P (ci := 4) (q0 := 38) rfl (hR.at44 (hR.w.2.1 _ finC_21).2.1), fun U hU hW9 => cmkH hU hW9 hR hex hE hFc⟩ rfl rfl hl.1 rfl (lv_room (Nat.le_of_ble_eq_true rfl)) dX11_addMethod_105 ⟨(show 0 + dc_ak28 + dc_ak41 + dc_ak45 + dc_ak50 + (KCC - qn S48) ≤ KCC - qn S from hlg.cm), (show 0 + ds_ak28 + ds_ak41 + ds_ak45 + ds_ak50 + (KSC - qu S48) ≤ KSC - qu S from hlg.sm)⟩) hR.sS (fun q _ h => hFc q h) hFc (fun  S56 t9 H1 locs ht9 hvm9 hw9 hB9 hz9 hk9 hS => ?_)
          rcases S56 with ⟨S56, ak58⟩
          obtain ⟨hB9, dc9, ds9, hL9, hl9⟩ := hB9
          dsimp only at hw9 hB9 hl9
          rw [ht9] at hL9
          obtain ⟨hq57, hw9, hs9, hk8⟩ := hw9
          have hw8 := hR.w
          have hak := hak.tr hk8 hlg.2.2.1
          have hE := hE.ad hk8
          have hR : RepC g ak58 A s S56 H1 locs := hR.callH ht9 hB9 hw9 hS hFc
          have hsh := hsh.tr hs9
          refine W_tight2 (hL0.tr hL9).1 (hL0.tr hL9).2.1 ?_
          have hlg := hlg.call hl9
          replace h := h  S56 hq57 hw9 hs9
          have ea_0 : ak58 25 = ak50 25 := hk8 _ (hw8.hd (hw8.2.1 _ finC_28).2.1 (by decide) (by decide))
          have hl : lv_has ls 6 [(3, .int r47), (2, .int r25), (0, .ref (ak58 25)), (1, .null)] := by simp only [ea_0]; exact hl
          clear hB9 hz9 hk9 hvm9 ht9 hw9 hs9 hS hL0 hL9
          generalize H1 = H at hR ⊢
          generalize dc9 = dc_ak58, ds9 = ds_ak58 at hlg ⊢
          refine lv_aload_n hx hb dX11_addMethod_108 rfl (lv_at hl 2 rfl) ?_
          refine va_get (D := rD g) (ci := 10) (v := .ref (ak58 28)) (C := RX11) (T := TX11) (N := 18) hx hb hts inX11 hown hR.K hR.P 25 (hR.at50 (hR.w.2.1 _ finC_28).2.1) rfl 1 (by decide) (hts _ kw_94) (fun _ h9 => h9) (congrArg (fun z => some (vf ak58 z)) (hR.w.2.1 _ finC_13).1) dX11_addMethod_109 ?_
          refine lv_aload_n hx hb dX11_addMethod_112 rfl (lv_at hl 2 rfl) ?_
          refine va_get (D := rD g) (ci := 10) (v := .int (qI S56 25 8)) (C := RX11) (T := TX11) (N := 18) hx hb hts inX11 hown hR.K hR.P 25 (hR.at50 (hR.w.2.1 _ finC_28).2.1) rfl 8 (by decide) (hts _ kw_95) (fun _ h9 => h9) rfl dX11_addMethod_113 ?_
          replace h := h ((hR.w.2.1 _ finC_13).2.1)
          obtain ⟨Q59, h0, h⟩ := h
          have hFc := cfree hR hA
          refine W_led2 (fun hL0 => ?_)
          refine va_callv (va_runV (As := [.int (qI S56 25 8)]) (rest := []) ⟨hx, hb, hml, hown, hts⟩ (rX0_put2 l g ak58 H S56 28 (qI S56 25 8) hR.w (hR.w.2.1 _ finC_13).2.1 Q59 h0) (cwV 1 hts (gd_V kw_96 kw_17 kw_18 kw_3 kw_16) rfl rfl rfl (by decide +kernel) ⟨Nat.le_of_ble_eq_true rfl, Nat.le_of_ble_eq_true rfl⟩) ⟨cblindH, va_recv hR.K hR.P (ci := 0) (q0 := 28) rfl (hR.at40 (hR.w.2.1 _ finC_13).2.1), fun U hU hW9 => cmkH hU hW9 hR hex hE hFc⟩ rfl rfl hl.1 rfl (lv_room (Nat.le_of_ble_eq_true rfl)) dX11_addMethod_116 ⟨(show 0 + dc_ak28 + dc_ak41 + dc_ak45 + dc_ak50 + dc_ak58 + (KCC - qn S56) ≤ KCC - qn S from hlg.cm), (show 0 + ds_ak28 + ds_ak41 + ds_ak45 + ds_ak50 + ds_ak58 + (KSC - qu S56) ≤ KSC - qu S from hlg.sm)⟩) hR.sS (fun q _ h => hFc q h) hFc (fun  S60 t9 H1 locs ht9 hvm9 hw9 hB9 hz9 hk9 hS => ?_)
          rcases S60 with ⟨S60, ak62⟩
          obtain ⟨hB9, dc9, ds9, hL9, hl9⟩ := hB9
          dsimp only at hw9 hB9 hl9
          rw [ht9] at hL9
          obtain ⟨hq61, hw9, hs9, hk8⟩ := hw9
          have hw8 := hR.w
          have hak := hak.tr hk8 hlg.2.2.1
          have hE := hE.ad hk8
          have hR : RepC g ak62 A s S60 H1 locs := hR.callH ht9 hB9 hw9 hS hFc
          have hsh := hsh.tr hs9
          refine W_tight2 (hL0.tr hL9).1 (hL0.tr hL9).2.1 ?_
          have hlg := hlg.call hl9
          replace h := h  S60 hq61 hw9 hs9
          have ea_0 : ak62 25 = ak58 25 := hk8 _ (hw8.hd (hw8.2.1 _ finC_28).2.1 (by decide) (by decide))
          have hl : lv_has ls 6 [(3, .int r47), (2, .int r25), (0, .ref (ak62 25)), (1, .null)] := by simp only [ea_0]; exact hl
          clear hB9 hz9 hk9 hvm9 ht9 hw9 hs9 hS hL0 hL9
          generalize H1 = H at hR ⊢
          generalize dc9 = dc_ak62, ds9 = ds_ak62 at hlg ⊢
          refine lv_aload_n hx hb dX11_addMethod_119 rfl (lv_at hl 2 rfl) ?_
          refine va_get (D := rD g) (ci := 10) (v := .ref (ak62 28)) (C := RX11) (T := TX11) (N := 18) hx hb hts inX11 hown hR.K hR.P 25 (hR.at50 (hR.w.2.1 _ finC_28).2.1) rfl 1 (by decide) (hts _ kw_94) (fun _ h9 => h9) (congrArg (fun z => some (vf ak62 z)) (hR.w.2.1 _ finC_13).1) dX11_addMethod_120 ?_
          refine lv_bipush (v := 12) hx hb dX11_addMethod_123 (by decide) ?_
          refine lv_iload_n hx hb dX11_addMethod_125 rfl (lv_at hl 0 rfl) ?_
          refine lv_iadd hx hb dX11_addMethod_126 ?_
          refine lv_topi (fun z63 ez63 => ?_)
          obtain rfl : z63 = ((12 : Int32) + r47) := ez63
          refine lv_bipush (v := 8) hx hb dX11_addMethod_127 (by decide) ?_
          refine lv_aload_n hx hb dX11_addMethod_129 rfl (lv_at hl 2 rfl) ?_
          obtain ⟨hv65, h⟩ := h
          have hT_b64 : qT S60 (qO S60 25 15) = 47 := hR.w.ref hv65 (hR.w.2.1 _ finC_28).2.1
          refine va_get (D := rD g) (ci := 10) (v := .ref (ak62 (qO S60 25 15))) (C := RX11) (T := TX11) (N := 18) hx hb hts inX11 hown hR.K hR.P 25 (hR.at50 (hR.w.2.1 _ finC_28).2.1) rfl 15 (by decide) (hts _ kw_84) (fun _ h9 => h9) (congrArg (fun z => some (vf ak62 z)) hv65) dX11_addMethod_130 ?_
          refine va_get (D := rD g) (ci := 7) (v := .int (qI S60 (qO S60 25 15) 9)) (C := RX8) (T := TX8) (N := 15) hx hb hts inX8 hown hR.K hR.P (qO S60 25 15) (hR.at47 hT_b64) rfl 9 (by decide) (hts _ kw_97) (fun _ h9 => h9) rfl dX11_addMethod_133 ?_
          refine lv_imul hx hb dX11_addMethod_136 ?_
          refine lv_topi (fun z66 ez66 => ?_)
          obtain rfl : z66 = ((8 : Int32) * (qI S60 (qO S60 25 15) 9)) := ez66
          refine lv_iadd hx hb dX11_addMethod_137 ?_
          refine lv_topi (fun z67 ez67 => ?_)
          obtain rfl : z67 = (((12 : Int32) + r47) + ((8 : Int32) * (qI S60 (qO S60 25 15) 9))) := ez67
          replace h := h ((hR.w.2.1 _ finC_13).2.1)
          obtain ⟨Q68, h0, h⟩ := h
          have hFc := cfree hR hA
          refine W_led2 (fun hL0 => ?_)
          refine va_callv (va_runV (As := [.int (((12 : Int32) + r47) + ((8 : Int32) * (qI S60 (qO S60 25 15) 9)))]) (rest := []) ⟨hx, hb, hml, hown, hts⟩ (rX0_put4 l g ak62 H S60 28 (((12 : Int32) + r47) + ((8 : Int32) * (qI S60 (qO S60 25 15) 9))) hR.w (hR.w.2.1 _ finC_13).2.1 Q68 h0) (cwV 1 hts (gd_V kw_98 kw_21 kw_22 kw_3 kw_20) rfl rfl rfl (by decide +kernel) ⟨Nat.le_of_ble_eq_true rfl, Nat.le_of_ble_eq_true rfl⟩) ⟨cblindH, va_recv hR.K hR.P (ci := 0) (q0 := 28) rfl (hR.at40 (hR.w.2.1 _ finC_13).2.1), fun U hU hW9 => cmkH hU hW9 hR hex hE hFc⟩ rfl rfl hl.1 rfl (lv_room (Nat.le_of_ble_eq_true rfl)) dX11_addMethod_138 ⟨(show 0 + dc_ak28 + dc_ak41 + dc_ak45 + dc_ak50 + dc_ak58 + dc_ak62 + (KCC - qn S60) ≤ KCC - qn S from hlg.cm), (show 0 + ds_ak28 + ds_ak41 + ds_ak45 + ds_ak50 + ds_ak58 + ds_ak62 + (KSC - qu S60) ≤ KSC - qu S from hlg.sm)⟩) hR.sS (fun q _ h => hFc q h) hFc (fun  S69 t9 H1 locs ht9 hvm9 hw9 hB9 hz9 hk9 hS => ?_)
          rcases S69 with ⟨S69, ak71⟩
          obtain ⟨hB9, dc9, ds9, hL9, hl9⟩ := hB9
          dsimp only at hw9 hB9 hl9
          rw [ht9] at hL9
          obtain ⟨hq70, hw9, hs9, hk8⟩ := hw9
          have hw8 := hR.w
          have hak := hak.tr hk8 hlg.2.2.1
          have hE := hE.ad hk8
          have hR : RepC g ak71 A s S69 H1 locs := hR.callH ht9 hB9 hw9 hS hFc
          have hsh := hsh.tr hs9
          refine W_tight2 (hL0.tr hL9).1 (hL0.tr hL9).2.1 ?_
          have hlg := hlg.call hl9
          replace h := h  S69 hq70 hw9 hs9
          have ea_0 : ak71 25 = ak62 25 := hk8 _ (hw8.hd (hw8.2.1 _ finC_28).2.1 (by decide) (by decide))
          have hl : lv_has ls 6 [(3, .int r47), (2, .int r25), (0, .ref (ak71 25)), (1, .null)] := by simp only [ea_0]; exact hl
          clear hB9 hz9 hk9 hvm9 ht9 hw9 hs9 hS hL0 hL9
          generalize H1 = H at hR ⊢
          generalize dc9 = dc_ak71, ds9 = ds_ak71 at hlg ⊢
          refine lv_aload_n hx hb dX11_addMethod_141 rfl (lv_at hl 2 rfl) ?_
          refine va_get (D := rD g) (ci := 10) (v := .ref (ak71 28)) (C := RX11) (T := TX11) (N := 18) hx hb hts inX11 hown hR.K hR.P 25 (hR.at50 (hR.w.2.1 _ finC_28).2.1) rfl 1 (by decide) (hts _ kw_94) (fun _ h9 => h9) (congrArg (fun z => some (vf ak71 z)) (hR.w.2.1 _ finC_13).1) dX11_addMethod_142 ?_
          refine lv_aload_n hx hb dX11_addMethod_145 rfl (lv_at hl 2 rfl) ?_
          refine va_get (D := rD g) (ci := 10) (v := .ref (ak71 38)) (C := RX11) (T := TX11) (N := 18) hx hb hts inX11 hown hR.K hR.P 25 (hR.at50 (hR.w.2.1 _ finC_28).2.1) rfl 14 (by decide) (hts _ kw_92) (fun _ h9 => h9) (congrArg (fun z => some (vf ak71 z)) (hR.w.2.1 _ finC_21).1) dX11_addMethod_146 ?_
          refine va_get (D := rD g) (ci := 4) (v := .int (qI S69 38 7)) (C := RX4) (T := TX4) (N := 8) hx hb hts inX4 hown hR.K hR.P 38 (hR.at44 (hR.w.2.1 _ finC_21).2.1) rfl 7 (by decide) (hts _ kw_99) (fun _ h9 => h9) rfl dX11_addMethod_149 ?_
          replace h := h ((hR.w.2.1 _ finC_13).2.1)
          obtain ⟨Q72, h0, h⟩ := h
          have hFc := cfree hR hA
          refine W_led2 (fun hL0 => ?_)
          refine va_callv (va_runV (As := [.int (qI S69 38 7)]) (rest := []) ⟨hx, hb, hml, hown, hts⟩ (rX0_put2 l g ak71 H S69 28 (qI S69 38 7) hR.w (hR.w.2.1 _ finC_13).2.1 Q72 h0) (cwV 1 hts (gd_V kw_96 kw_17 kw_18 kw_3 kw_16) rfl rfl rfl (by decide +kernel) ⟨Nat.le_of_ble_eq_true rfl, Nat.le_of_ble_eq_true rfl⟩) ⟨cblindH, va_recv hR.K hR.P (ci := 0) (q0 := 28) rfl (hR.at40 (hR.w.2.1 _ finC_13).2.1), fun U hU hW9 => cmkH hU hW9 hR hex hE hFc⟩ rfl rfl hl.1 rfl (lv_room (Nat.le_of_ble_eq_true rfl)) dX11_addMethod_152 ⟨(show 0 + dc_ak28 + dc_ak41 + dc_ak45 + dc_ak50 + dc_ak58 + dc_ak62 + dc_ak71 + (KCC - qn S69) ≤ KCC - qn S from hlg.cm), (show 0 + ds_ak28 + ds_ak41 + ds_ak45 + ds_ak50 + ds_ak58 + ds_ak62 + ds_ak71 + (KSC - qu S69) ≤ KSC - qu S from hlg.sm)⟩) hR.sS (fun q _ h => hFc q h) hFc (fun  S73 t9 H1 locs ht9 hvm9 hw9 hB9 hz9 hk9 hS => ?_)
          rcases S73 with ⟨S73, ak75⟩
          obtain ⟨hB9, dc9, ds9, hL9, hl9⟩ := hB9
          dsimp only at hw9 hB9 hl9
          rw [ht9] at hL9
          obtain ⟨hq74, hw9, hs9, hk8⟩ := hw9
          have hw8 := hR.w
          have hak := hak.tr hk8 hlg.2.2.1
          have hE := hE.ad hk8
          have hR : RepC g ak75 A s S73 H1 locs := hR.callH ht9 hB9 hw9 hS hFc
          have hsh := hsh.tr hs9
          refine W_tight2 (hL0.tr hL9).1 (hL0.tr hL9).2.1 ?_
          have hlg := hlg.call hl9
          replace h := h  S73 hq74 hw9 hs9
          have ea_0 : ak75 25 = ak71 25 := hk8 _ (hw8.hd (hw8.2.1 _ finC_28).2.1 (by decide) (by decide))
          have hl : lv_has ls 6 [(3, .int r47), (2, .int r25), (0, .ref (ak75 25)), (1, .null)] := by simp only [ea_0]; exact hl
          clear hB9 hz9 hk9 hvm9 ht9 hw9 hs9 hS hL0 hL9
          generalize H1 = H at hR ⊢
          generalize dc9 = dc_ak75, ds9 = ds_ak75 at hlg ⊢
          refine lv_aload_n hx hb dX11_addMethod_155 rfl (lv_at hl 2 rfl) ?_
          refine va_get (D := rD g) (ci := 10) (v := .ref (ak75 28)) (C := RX11) (T := TX11) (N := 18) hx hb hts inX11 hown hR.K hR.P 25 (hR.at50 (hR.w.2.1 _ finC_28).2.1) rfl 1 (by decide) (hts _ kw_94) (fun _ h9 => h9) (congrArg (fun z => some (vf ak75 z)) (hR.w.2.1 _ finC_13).1) dX11_addMethod_156 ?_
          refine lv_aload_n hx hb dX11_addMethod_159 rfl (lv_at hl 2 rfl) ?_
          obtain ⟨Q76, h0, h⟩ := h
          have hFc := cfree hR hA
          refine va_calli (va_runV (As := []) (rest := [.ref (ak75 28)]) ⟨hx, hb, hml, hown, hts⟩ (rX11_leastLocals l g ak75 H.size S73 hR.w  Q76 h0) (cwV 0 hts (gd_V kw_100 kw_185 kw_186 kw_83 kw_184) rfl rfl rfl (by decide +kernel) ⟨Nat.le_of_ble_eq_true rfl, Nat.le_of_ble_eq_true rfl⟩) ⟨cblind, va_recv hR.K hR.P (ci := 10) (q0 := 25) rfl (hR.at50 (hR.w.2.1 _ finC_28).2.1), fun U hU hW9 => cmk hU hW9 hR hex hE hFc⟩ rfl rfl hl.1 rfl (lv_room (Nat.le_of_ble_eq_true rfl)) dX11_addMethod_160 ⟨(show 0 + dc_ak28 + dc_ak41 + dc_ak45 + dc_ak50 + dc_ak58 + dc_ak62 + dc_ak71 + dc_ak75 + 0 ≤ KCC - qn S from hlg.c), (show 0 + ds_ak28 + ds_ak41 + ds_ak45 + ds_ak50 + ds_ak58 + ds_ak62 + ds_ak71 + ds_ak75 + 0 ≤ KSC - qu S from hlg.s)⟩) hR.sS (fun q _ h => hFc q h) hFc (fun r77 S78 t9 H1 locs ht9 hvm9 hw9 hB9 hz9 hk9 hS => ?_)
          obtain ⟨hq79, hw9, hs9⟩ := hw9
          have hR : RepC g ak75 A s S78 H1 locs := hR.call ht9 hB9 hw9 hS hFc
          have hsh := hsh.tr hs9.1
          have hlg : lgC S S78 (0 + dc_ak28 + dc_ak41 + dc_ak45 + dc_ak50 + dc_ak58 + dc_ak62 + dc_ak71 + dc_ak75) (0 + ds_ak28 + ds_ak41 + ds_ak45 + ds_ak50 + ds_ak58 + ds_ak62 + ds_ak71 + ds_ak75) := hlg.same hs9
          replace h := h r77 S78 hq79 hw9 hs9
          clear hB9 hz9 hk9 hvm9 ht9 hw9 hs9 hS
          generalize H1 = H at hR ⊢
          replace h := h ((hR.w.2.1 _ finC_13).2.1)
          obtain ⟨Q80, h0, h⟩ := h
          have hFc := cfree hR hA
          refine W_led2 (fun hL0 => ?_)
          refine va_callv (va_runV (As := [.int r77]) (rest := []) ⟨hx, hb, hml, hown, hts⟩ (rX0_put2 l g ak75 H S78 28 r77 hR.w (hR.w.2.1 _ finC_13).2.1 Q80 h0) (cwV 1 hts (gd_V kw_96 kw_17 kw_18 kw_3 kw_16) rfl rfl rfl (by decide +kernel) ⟨Nat.le_of_ble_eq_true rfl, Nat.le_of_ble_eq_true rfl⟩) ⟨cblindH, va_recv hR.K hR.P (ci := 0) (q0 := 28) rfl (hR.at40 (hR.w.2.1 _ finC_13).2.1), fun U hU hW9 => cmkH hU hW9 hR hex hE hFc⟩ rfl rfl hl.1 rfl (lv_room (Nat.le_of_ble_eq_true rfl)) dX11_addMethod_163 ⟨(show 0 + dc_ak28 + dc_ak41 + dc_ak45 + dc_ak50 + dc_ak58 + dc_ak62 + dc_ak71 + dc_ak75 + (KCC - qn S78) ≤ KCC - qn S from hlg.cm), (show 0 + ds_ak28 + ds_ak41 + ds_ak45 + ds_ak50 + ds_ak58 + ds_ak62 + ds_ak71 + ds_ak75 + (KSC - qu S78) ≤ KSC - qu S from hlg.sm)⟩) hR.sS (fun q _ h => hFc q h) hFc (fun  S81 t9 H1 locs ht9 hvm9 hw9 hB9 hz9 hk9 hS => ?_)
          rcases S81 with ⟨S81, ak83⟩
          obtain ⟨hB9, dc9, ds9, hL9, hl9⟩ := hB9
          dsimp only at hw9 hB9 hl9
          rw [ht9] at hL9
          obtain ⟨hq82, hw9, hs9, hk8⟩ := hw9
          have hw8 := hR.w
          have hak := hak.tr hk8 hlg.2.2.1
          have hE := hE.ad hk8
          have hR : RepC g ak83 A s S81 H1 locs := hR.callH ht9 hB9 hw9 hS hFc
          have hsh := hsh.tr hs9
          refine W_tight2 (hL0.tr hL9).1 (hL0.tr hL9).2.1 ?_
          have hlg := hlg.call hl9
          replace h := h  S81 hq82 hw9 hs9
          have ea_0 : ak83 25 = ak75 25 := hk8 _ (hw8.hd (hw8.2.1 _ finC_28).2.1 (by decide) (by decide))
          have hl : lv_has ls 6 [(3, .int r47), (2, .int r25), (0, .ref (ak83 25)), (1, .null)] := by simp only [ea_0]; exact hl
          clear hB9 hz9 hk9 hvm9 ht9 hw9 hs9 hS hL0 hL9
          generalize H1 = H at hR ⊢
          generalize dc9 = dc_ak83, ds9 = ds_ak83 at hlg ⊢
          refine lv_aload_n hx hb dX11_addMethod_166 rfl (lv_at hl 2 rfl) ?_
          refine va_get (D := rD g) (ci := 10) (v := .ref (ak83 28)) (C := RX11) (T := TX11) (N := 18) hx hb hts inX11 hown hR.K hR.P 25 (hR.at50 (hR.w.2.1 _ finC_28).2.1) rfl 1 (by decide) (hts _ kw_94) (fun _ h9 => h9) (congrArg (fun z => some (vf ak83 z)) (hR.w.2.1 _ finC_13).1) dX11_addMethod_167 ?_
          refine lv_iload_n hx hb dX11_addMethod_170 rfl (lv_at hl 0 rfl) ?_
          replace h := h ((hR.w.2.1 _ finC_13).2.1)
          obtain ⟨Q84, h0, h⟩ := h
          have hFc := cfree hR hA
          refine W_led2 (fun hL0 => ?_)
          refine va_callv (va_runV (As := [.int r47]) (rest := []) ⟨hx, hb, hml, hown, hts⟩ (rX0_put4 l g ak83 H S81 28 r47 hR.w (hR.w.2.1 _ finC_13).2.1 Q84 h0) (cwV 1 hts (gd_V kw_98 kw_21 kw_22 kw_3 kw_20) rfl rfl rfl (by decide +kernel) ⟨Nat.le_of_ble_eq_true rfl, Nat.le_of_ble_eq_true rfl⟩) ⟨cblindH, va_recv hR.K hR.P (ci := 0) (q0 := 28) rfl (hR.at40 (hR.w.2.1 _ finC_13).2.1), fun U hU hW9 => cmkH hU hW9 hR hex hE hFc⟩ rfl rfl hl.1 rfl (lv_room (Nat.le_of_ble_eq_true rfl)) dX11_addMethod_171 ⟨(show 0 + dc_ak28 + dc_ak41 + dc_ak45 + dc_ak50 + dc_ak58 + dc_ak62 + dc_ak71 + dc_ak75 + dc_ak83 + (KCC - qn S81) ≤ KCC - qn S from hlg.cm), (show 0 + ds_ak28 + ds_ak41 + ds_ak45 + ds_ak50 + ds_ak58 + ds_ak62 + ds_ak71 + ds_ak75 + ds_ak83 + (KSC - qu S81) ≤ KSC - qu S from hlg.sm)⟩) hR.sS (fun q _ h => hFc q h) hFc (fun  S85 t9 H1 locs ht9 hvm9 hw9 hB9 hz9 hk9 hS => ?_)
          rcases S85 with ⟨S85, ak87⟩
          obtain ⟨hB9, dc9, ds9, hL9, hl9⟩ := hB9
          dsimp only at hw9 hB9 hl9
          rw [ht9] at hL9
          obtain ⟨hq86, hw9, hs9, hk8⟩ := hw9
          have hw8 := hR.w
          have hak := hak.tr hk8 hlg.2.2.1
          have hE := hE.ad hk8
          have hR : RepC g ak87 A s S85 H1 locs := hR.callH ht9 hB9 hw9 hS hFc
          have hsh := hsh.tr hs9
          refine W_tight2 (hL0.tr hL9).1 (hL0.tr hL9).2.1 ?_
          have hlg := hlg.call hl9
          replace h := h  S85 hq86 hw9 hs9
          have ea_0 : ak87 25 = ak83 25 := hk8 _ (hw8.hd (hw8.2.1 _ finC_28).2.1 (by decide) (by decide))
          have hl : lv_has ls 6 [(3, .int r47), (2, .int r25), (0, .ref (ak87 25)), (1, .null)] := by simp only [ea_0]; exact hl
          clear hB9 hz9 hk9 hvm9 ht9 hw9 hs9 hS hL0 hL9
          generalize H1 = H at hR ⊢
          generalize dc9 = dc_ak87, ds9 = ds_ak87 at hlg ⊢
          refine lv_aload_n hx hb dX11_addMethod_174 rfl (lv_at hl 2 rfl) ?_
          refine va_get (D := rD g) (ci := 10) (v := .ref (ak87 28)) (C := RX11) (T := TX11) (N := 18) hx hb hts inX11 hown hR.K hR.P 25 (hR.at50 (hR.w.2.1 _ finC_28).2.1) rfl 1 (by decide) (hts _ kw_94) (fun _ h9 => h9) (congrArg (fun z => some (vf ak87 z)) (hR.w.2.1 _ finC_13).1) dX11_addMethod_175 ?_
          refine va_get (D := rD g) (ci := 0) (v := .int (qI S85 28 1)) (C := RX0) (T := TX0) (N := 2) hx hb hts inX0 hown hR.K hR.P 28 (hR.at40 (hR.w.2.1 _ finC_13).2.1) rfl 1 (by decide) (hts _ kw_101) (fun _ h9 => h9) rfl dX11_addMethod_178 ?_
          obtain ⟨a88, ea88⟩ : ∃ z, z = (qI S85 28 1) := ⟨_, rfl⟩
          rw [← ea88]
          replace h := h a88 ea88
          refine lv_istore (lv' := [(4, .int a88), (3, .int r47), (2, .int r25), (0, .ref (ak87 25)), (1, .null)]) hx hb dX11_addMethod_181 hl (by decide) rfl (fun ls hl => ?_)
          refine lv_iconst (v := 0) hx hb dX11_addMethod_183 (by decide) ?_
          refine lv_istore (lv' := [(5, .int 0), (4, .int a88), (3, .int r47), (2, .int r25), (0, .ref (ak87 25)), (1, .null)]) hx hb dX11_addMethod_184 hl (by decide) rfl (fun ls hl => ?_)
          have J_186 : ∀ (n186 : Nat) (ad186 : Nat → Nat) (dc186 ds186 : Nat) (U186 : MS) (v186_4 : Int32) (v186_5 : Int32) (H : Heap) (locs : List Loc) (ls : Array Slot), w_X11_addMethod_L186 Q n186 U186 v186_4 v186_5 → shx S U186 → lgC S U186 dc186 ds186 → adk ad ad186 S → ogC ad186 A s s.heap → RepC g ad186 A s U186 H locs → lv_has ls 6 [(0, .ref (ad186 25)), (4, .int v186_4), (5, .int v186_5)] → W p l e (headSpec (wt yX11_addMethod cX11_addMethod 6 none) ({ frames := 8, cells := KCC - qn S, slots := KSC - qu S, locals := 197 })).room s m ([.ref (ad 25), vf ad p1] : List Value).toArray below meth c H locs dc186 ds186 (MQ below (va_Qv (fun (u : MS × (Nat → Nat)) => Q u.1 ∧ wfC u.1 ∧ shx S u.1 ∧ adk ad u.2 S) (fun (u : MS × (Nat → Nat)) (t : State) => qEHC g A S s.heap u t) A) ([.ref (ad 25), vf ad p1] : List Value).toArray s (KCC - qn S) (KSC - qu S) A) (F0 m 186 ls []) := by
            intro n186
            induction n186 with
            | zero => intro ad186 dc186 ds186 U186 v186_4 v186_5 H locs ls h hsh hlg hak hE hR hl; unfold w_X11_addMethod_L186 at h; exact h.elim
            | succ n186 ih_186 =>
              intro ad186 dc186 ds186 U186 v186_4 v186_5 H locs ls h hsh hlg hak hE hR hl
              unfold w_X11_addMethod_L186 at h
              replace h := h hR.w
              refine lv_iload hx hb dX11_addMethod_186 (lv_at hl 2 rfl) ?_
              refine lv_aload_n hx hb dX11_addMethod_188 rfl (lv_at hl 0 rfl) ?_
              obtain ⟨hv90, h⟩ := h
              have hT_b89 : qT U186 (qO U186 25 15) = 47 := hR.w.ref hv90 (hR.w.2.1 _ finC_28).2.1
              refine va_get (D := rD g) (ci := 10) (v := .ref (ad186 (qO U186 25 15))) (C := RX11) (T := TX11) (N := 18) hx hb hts inX11 hown hR.K hR.P 25 (hR.at50 (hR.w.2.1 _ finC_28).2.1) rfl 15 (by decide) (hts _ kw_84) (fun _ h9 => h9) (congrArg (fun z => some (vf ad186 z)) hv90) dX11_addMethod_189 ?_
              refine va_get (D := rD g) (ci := 7) (v := .int (qI U186 (qO U186 25 15) 2)) (C := RX8) (T := TX8) (N := 15) hx hb hts inX8 hown hR.K hR.P (qO U186 25 15) (hR.at47 hT_b89) rfl 2 (by decide) (hts _ kw_102) (fun _ h9 => h9) rfl dX11_addMethod_192 ?_
              refine lv_icmp_ge (tgt := 212) hx hb dX11_addMethod_195 (by decide) (fun c91 => ?_) (fun c91 => ?_)
              · replace h := h.1 (k_le rfl rfl c91)
                refine lv_aload_n hx hb dX11_addMethod_212 rfl (lv_at hl 0 rfl) ?_
                refine va_get (D := rD g) (ci := 10) (v := .ref (ad186 28)) (C := RX11) (T := TX11) (N := 18) hx hb hts inX11 hown hR.K hR.P 25 (hR.at50 (hR.w.2.1 _ finC_28).2.1) rfl 1 (by decide) (hts _ kw_94) (fun _ h9 => h9) (congrArg (fun z => some (vf ad186 z)) (hR.w.2.1 _ finC_13).1) dX11_addMethod_213 ?_
                refine lv_aload_n hx hb dX11_addMethod_216 rfl (lv_at hl 0 rfl) ?_
                obtain ⟨hv93, h⟩ := h
                have hT_b92 : qT U186 (qO U186 25 15) = 47 := hR.w.ref hv93 (hR.w.2.1 _ finC_28).2.1
                refine va_get (D := rD g) (ci := 10) (v := .ref (ad186 (qO U186 25 15))) (C := RX11) (T := TX11) (N := 18) hx hb hts inX11 hown hR.K hR.P 25 (hR.at50 (hR.w.2.1 _ finC_28).2.1) rfl 15 (by decide) (hts _ kw_84) (fun _ h9 => h9) (congrArg (fun z => some (vf ad186 z)) hv93) dX11_addMethod_217 ?_
                refine va_get (D := rD g) (ci := 7) (v := .int (qI U186 (qO U186 25 15) 9)) (C := RX8) (T := TX8) (N := 15) hx hb hts inX8 hown hR.K hR.P (qO U186 25 15) (hR.at47 hT_b92) rfl 9 (by decide) (hts _ kw_97) (fun _ h9 => h9) rfl dX11_addMethod_220 ?_
                replace h := h ((hR.w.2.1 _ finC_13).2.1)
                obtain ⟨Q94, h0, h⟩ := h
                have hFc := cfree hR hA
                refine W_led2 (fun hL0 => ?_)
                refine va_callv (va_runV (As := [.int (qI U186 (qO U186 25 15) 9)]) (rest := []) ⟨hx, hb, hml, hown, hts⟩ (rX0_put2 l g ad186 H U186 28 (qI U186 (qO U186 25 15) 9) hR.w (hR.w.2.1 _ finC_13).2.1 Q94 h0) (cwV 1 hts (gd_V kw_96 kw_17 kw_18 kw_3 kw_16) rfl rfl rfl (by decide +kernel) ⟨Nat.le_of_ble_eq_true rfl, Nat.le_of_ble_eq_true rfl⟩) ⟨cblindH, va_recv hR.K hR.P (ci := 0) (q0 := 28) rfl (hR.at40 (hR.w.2.1 _ finC_13).2.1), fun U hU hW9 => cmkH hU hW9 hR hex hE hFc⟩ rfl rfl hl.1 rfl (lv_room (Nat.le_of_ble_eq_true rfl)) dX11_addMethod_223 ⟨(show dc186 + (KCC - qn U186) ≤ KCC - qn S from hlg.cm), (show ds186 + (KSC - qu U186) ≤ KSC - qu S from hlg.sm)⟩) hR.sS (fun q _ h => hFc q h) hFc (fun  S95 t9 H1 locs ht9 hvm9 hw9 hB9 hz9 hk9 hS => ?_)
                rcases S95 with ⟨S95, ak97⟩
                obtain ⟨hB9, dc9, ds9, hL9, hl9⟩ := hB9
                dsimp only at hw9 hB9 hl9
                rw [ht9] at hL9
                obtain ⟨hq96, hw9, hs9, hk8⟩ := hw9
                have hw8 := hR.w
                have hak := hak.tr hk8 hlg.2.2.1
                have hE := hE.ad hk8
                have hR : RepC g ak97 A s S95 H1 locs := hR.callH ht9 hB9 hw9 hS hFc
                have hsh := hsh.tr hs9
                refine W_tight2 (hL0.tr hL9).1 (hL0.tr hL9).2.1 ?_
                have hlg := hlg.call hl9
                replace h := h  S95 hq96 hw9 hs9
                have ea_0 : ak97 25 = ad186 25 := hk8 _ (hw8.hd (hw8.2.1 _ finC_28).2.1 (by decide) (by decide))
                have hl : lv_has ls 6 [(0, .ref (ak97 25)), (4, .int v186_4), (5, .int v186_5)] := by simp only [ea_0]; exact hl
                clear hB9 hz9 hk9 hvm9 ht9 hw9 hs9 hS hL0 hL9
                generalize H1 = H at hR ⊢
                generalize dc9 = dc_ak97, ds9 = ds_ak97 at hlg ⊢
                refine lv_iconst (v := 0) hx hb dX11_addMethod_226 (by decide) ?_
                refine lv_istore (lv' := [(5, .int 0), (0, .ref (ak97 25)), (4, .int v186_4)]) hx hb dX11_addMethod_227 hl (by decide) rfl (fun ls hl => ?_)
                have J_229 : ∀ (n229 : Nat) (ad229 : Nat → Nat) (dc229 ds229 : Nat) (U229 : MS) (v229_5 : Int32) (H : Heap) (locs : List Loc) (ls : Array Slot), w_X11_addMethod_L229 Q n229 U229 v229_5 → shx S U229 → lgC S U229 dc229 ds229 → adk ad ad229 S → ogC ad229 A s s.heap → RepC g ad229 A s U229 H locs → lv_has ls 6 [(0, .ref (ad229 25)), (5, .int v229_5)] → W p l e (headSpec (wt yX11_addMethod cX11_addMethod 6 none) ({ frames := 8, cells := KCC - qn S, slots := KSC - qu S, locals := 197 })).room s m ([.ref (ad 25), vf ad p1] : List Value).toArray below meth c H locs dc229 ds229 (MQ below (va_Qv (fun (u : MS × (Nat → Nat)) => Q u.1 ∧ wfC u.1 ∧ shx S u.1 ∧ adk ad u.2 S) (fun (u : MS × (Nat → Nat)) (t : State) => qEHC g A S s.heap u t) A) ([.ref (ad 25), vf ad p1] : List Value).toArray s (KCC - qn S) (KSC - qu S) A) (F0 m 229 ls []) := by
                  intro n229
                  induction n229 with
                  | zero => intro ad229 dc229 ds229 U229 v229_5 H locs ls h hsh hlg hak hE hR hl; unfold w_X11_addMethod_L229 at h; exact h.elim
                  | succ n229 ih_229 =>
                    intro ad229 dc229 ds229 U229 v229_5 H locs ls h hsh hlg hak hE hR hl
                    unfold w_X11_addMethod_L229 at h
                    replace h := h hR.w
                    refine lv_iload hx hb dX11_addMethod_229 (lv_at hl 1 rfl) ?_
                    refine lv_aload_n hx hb dX11_addMethod_231 rfl (lv_at hl 0 rfl) ?_
                    obtain ⟨hv99, h⟩ := h
                    have hT_b98 : qT U229 (qO U229 25 15) = 47 := hR.w.ref hv99 (hR.w.2.1 _ finC_28).2.1
                    refine va_get (D := rD g) (ci := 10) (v := .ref (ad229 (qO U229 25 15))) (C := RX11) (T := TX11) (N := 18) hx hb hts inX11 hown hR.K hR.P 25 (hR.at50 (hR.w.2.1 _ finC_28).2.1) rfl 15 (by decide) (hts _ kw_84) (fun _ h9 => h9) (congrArg (fun z => some (vf ad229 z)) hv99) dX11_addMethod_232 ?_
                    refine va_get (D := rD g) (ci := 7) (v := .int (qI U229 (qO U229 25 15) 9)) (C := RX8) (T := TX8) (N := 15) hx hb hts inX8 hown hR.K hR.P (qO U229 25 15) (hR.at47 hT_b98) rfl 9 (by decide) (hts _ kw_97) (fun _ h9 => h9) rfl dX11_addMethod_235 ?_
                    refine lv_icmp_ge (tgt := 331) hx hb dX11_addMethod_238 (by decide) (fun c100 => ?_) (fun c100 => ?_)
                    · replace h := h.1 (k_le rfl rfl c100)
                      refine lv_aload_n hx hb dX11_addMethod_331 rfl (lv_at hl 0 rfl) ?_
                      refine va_get (D := rD g) (ci := 10) (v := .ref (ad229 28)) (C := RX11) (T := TX11) (N := 18) hx hb hts inX11 hown hR.K hR.P 25 (hR.at50 (hR.w.2.1 _ finC_28).2.1) rfl 1 (by decide) (hts _ kw_94) (fun _ h9 => h9) (congrArg (fun z => some (vf ad229 z)) (hR.w.2.1 _ finC_13).1) dX11_addMethod_332 ?_
                      refine lv_iconst (v := 0) hx hb dX11_addMethod_335 (by decide) ?_
                      replace h := h ((hR.w.2.1 _ finC_13).2.1)
                      obtain ⟨Q101, h0, h⟩ := h
                      have hFc := cfree hR hA
                      refine W_led2 (fun hL0 => ?_)
                      refine va_callv (va_runV (As := [.int 0]) (rest := []) ⟨hx, hb, hml, hown, hts⟩ (rX0_put2 l g ad229 H U229 28 (0 : Int32) hR.w (hR.w.2.1 _ finC_13).2.1 Q101 h0) (cwV 1 hts (gd_V kw_96 kw_17 kw_18 kw_3 kw_16) rfl rfl rfl (by decide +kernel) ⟨Nat.le_of_ble_eq_true rfl, Nat.le_of_ble_eq_true rfl⟩) ⟨cblindH, va_recv hR.K hR.P (ci := 0) (q0 := 28) rfl (hR.at40 (hR.w.2.1 _ finC_13).2.1), fun U hU hW9 => cmkH hU hW9 hR hex hE hFc⟩ rfl rfl hl.1 rfl (lv_room (Nat.le_of_ble_eq_true rfl)) dX11_addMethod_336 ⟨(show dc229 + (KCC - qn U229) ≤ KCC - qn S from hlg.cm), (show ds229 + (KSC - qu U229) ≤ KSC - qu S from hlg.sm)⟩) hR.sS (fun q _ h => hFc q h) hFc (fun  S102 t9 H1 locs ht9 hvm9 hw9 hB9 hz9 hk9 hS => ?_)
                      rcases S102 with ⟨S102, ak104⟩
                      obtain ⟨hB9, dc9, ds9, hL9, hl9⟩ := hB9
                      dsimp only at hw9 hB9 hl9
                      rw [ht9] at hL9
                      obtain ⟨hq103, hw9, hs9, hk8⟩ := hw9
                      have hw8 := hR.w
                      have hak := hak.tr hk8 hlg.2.2.1
                      have hE := hE.ad hk8
                      have hR : RepC g ak104 A s S102 H1 locs := hR.callH ht9 hB9 hw9 hS hFc
                      have hsh := hsh.tr hs9
                      refine W_tight2 (hL0.tr hL9).1 (hL0.tr hL9).2.1 ?_
                      have hlg := hlg.call hl9
                      replace h := h  S102 hq103 hw9 hs9
                      have ea_0 : ak104 25 = ad229 25 := hk8 _ (hw8.hd (hw8.2.1 _ finC_28).2.1 (by decide) (by decide))
                      have hl : lv_has ls 6 [(0, .ref (ak104 25)), (5, .int v229_5)] := by simp only [ea_0]; exact hl
                      clear hB9 hz9 hk9 hvm9 ht9 hw9 hs9 hS hL0 hL9
                      generalize H1 = H at hR ⊢
                      generalize dc9 = dc_ak104, ds9 = ds_ak104 at hlg ⊢
                      refine W_led2 (fun hLd => ?_)
                      refine W.widen (k := KCC - qn S) (n := KSC - qu S) hlg.c hlg.s ?_
                      exact W.vret hx hb hr (fun t9 ht9 hW9 => ⟨⟨(S102, ak104), rfl, ⟨h, hR.w, hsh, hak⟩, ⟨⟨by rw [ht9]; exact hR.P, hR.D⟩, _, _, by rw [ht9]; exact hLd, hlg⟩⟩, hR.sS.F ht9⟩) hR.sS.2.2 dX11_addMethod_339
                    · replace h := h.2 (k_nle rfl rfl c100)
                      refine lv_aload_n hx hb dX11_addMethod_241 rfl (lv_at hl 0 rfl) ?_
                      refine va_get (D := rD g) (ci := 10) (v := .ref (ad229 28)) (C := RX11) (T := TX11) (N := 18) hx hb hts inX11 hown hR.K hR.P 25 (hR.at50 (hR.w.2.1 _ finC_28).2.1) rfl 1 (by decide) (hts _ kw_94) (fun _ h9 => h9) (congrArg (fun z => some (vf ad229 z)) (hR.w.2.1 _ finC_13).1) dX11_addMethod_242 ?_
                      refine lv_aload_n hx hb dX11_addMethod_245 rfl (lv_at hl 0 rfl) ?_
                      refine lv_aload_n hx hb dX11_addMethod_246 rfl (lv_at hl 0 rfl) ?_
                      obtain ⟨hv106, h⟩ := h
                      have hT_b105 : qT U229 (qO U229 25 15) = 47 := hR.w.ref hv106 (hR.w.2.1 _ finC_28).2.1
                      refine va_get (D := rD g) (ci := 10) (v := .ref (ad229 (qO U229 25 15))) (C := RX11) (T := TX11) (N := 18) hx hb hts inX11 hown hR.K hR.P 25 (hR.at50 (hR.w.2.1 _ finC_28).2.1) rfl 15 (by decide) (hts _ kw_84) (fun _ h9 => h9) (congrArg (fun z => some (vf ad229 z)) hv106) dX11_addMethod_247 ?_
                      obtain ⟨hv108, h⟩ := h
                      have hT_b107 : qT U229 (qO U229 (qO U229 25 15) 5) = 224 := hR.w.ref hv108 hT_b105
                      refine va_get (D := rD g) (ci := 7) (v := .ref (ad229 (qO U229 (qO U229 25 15) 5))) (C := RX8) (T := TX8) (N := 15) hx hb hts inX8 hown hR.K hR.P (qO U229 25 15) (hR.at47 hT_b105) rfl 5 (by decide) (hts _ kw_104) (fun _ h9 => h9) (congrArg (fun z => some (vf ad229 z)) hv108) dX11_addMethod_250 ?_
                      refine lv_iload hx hb dX11_addMethod_253 (lv_at hl 1 rfl) ?_
                      obtain ⟨hv109, h⟩ := h
                      refine va_iald hx hb hR.K hR.P (qO U229 (qO U229 25 15) 5) 1 (hR.atI hT_b107 (by decide)) rfl (k_ix (x := v229_5) (a := v229_5.toInt) rfl hv109) dX11_addMethod_255 ?_
                      refine lv_topi (fun z110 ez110 => ?_)
                      obtain rfl : z110 = (qI U229 (qO U229 (qO U229 25 15) 5) v229_5.toInt.toNat) := ez110
                      obtain ⟨hv111, h⟩ := h
                      have hFc := cfree hR hA
                      refine va_calli (va_runV (As := [.int (qI U229 (qO U229 (qO U229 25 15) 5) v229_5.toInt.toNat)]) (rest := [.ref (ad229 28)]) ⟨hx, hb, hml, hown, hts⟩ (rX11_offsetOf l g ad229 H.size U229 (qI U229 (qO U229 (qO U229 25 15) 5) v229_5.toInt.toNat) hR.w  hv111) (cwV 1 hts (gd_V kw_105 kw_228 kw_229 kw_83 kw_227) rfl rfl rfl (by decide +kernel) ⟨Nat.le_of_ble_eq_true rfl, Nat.le_of_ble_eq_true rfl⟩) ⟨cblind, va_recv hR.K hR.P (ci := 10) (q0 := 25) rfl (hR.at50 (hR.w.2.1 _ finC_28).2.1), fun U hU hW9 => cmk hU hW9 hR hex hE hFc⟩ rfl rfl hl.1 rfl (lv_room (Nat.le_of_ble_eq_true rfl)) dX11_addMethod_256 ⟨(show dc229 + 0 ≤ KCC - qn S from hlg.c), (show ds229 + 0 ≤ KSC - qu S from hlg.s)⟩) hR.sS (fun q _ h => hFc q h) hFc (fun r112 u9 t9 H1 locs ht9 hvm9 hw9 hB9 hz9 hk9 hS => ?_)
                      have hR : RepC g ad229 A s U229 H1 locs := hR.call ht9 hB9 hR.w hS hFc
                      obtain rfl : r112 = (fX11_offsetOf U229 (qI U229 (qO U229 (qO U229 25 15) 5) v229_5.toInt.toNat)) := hw9
                      clear hB9 hz9 hk9 hvm9 ht9 hS
                      generalize H1 = H at hR ⊢
                      obtain ⟨a114, ea114⟩ : ∃ z, z = (fX11_offsetOf U229 (qI U229 (qO U229 (qO U229 25 15) 5) v229_5.toInt.toNat)) := ⟨_, rfl⟩
                      rw [← ea114]
                      replace h := h a114 ea114
                      replace h := h ((hR.w.2.1 _ finC_13).2.1)
                      obtain ⟨Q115, h0, h⟩ := h
                      have hFc := cfree hR hA
                      refine W_led2 (fun hL0 => ?_)
                      refine va_callv (va_runV (As := [.int a114]) (rest := []) ⟨hx, hb, hml, hown, hts⟩ (rX0_put2 l g ad229 H U229 28 a114 hR.w (hR.w.2.1 _ finC_13).2.1 Q115 h0) (cwV 1 hts (gd_V kw_96 kw_17 kw_18 kw_3 kw_16) rfl rfl rfl (by decide +kernel) ⟨Nat.le_of_ble_eq_true rfl, Nat.le_of_ble_eq_true rfl⟩) ⟨cblindH, va_recv hR.K hR.P (ci := 0) (q0 := 28) rfl (hR.at40 (hR.w.2.1 _ finC_13).2.1), fun U hU hW9 => cmkH hU hW9 hR hex hE hFc⟩ rfl rfl hl.1 rfl (lv_room (Nat.le_of_ble_eq_true rfl)) dX11_addMethod_259 ⟨(show dc229 + (KCC - qn U229) ≤ KCC - qn S from hlg.cm), (show ds229 + (KSC - qu U229) ≤ KSC - qu S from hlg.sm)⟩) hR.sS (fun q _ h => hFc q h) hFc (fun  S116 t9 H1 locs ht9 hvm9 hw9 hB9 hz9 hk9 hS => ?_)
                      rcases S116 with ⟨S116, ak118⟩
                      obtain ⟨hB9, dc9, ds9, hL9, hl9⟩ := hB9
                      dsimp only at hw9 hB9 hl9
                      rw [ht9] at hL9
                      obtain ⟨hq117, hw9, hs9, hk8⟩ := hw9
                      have hw8 := hR.w
                      have hak := hak.tr hk8 hlg.2.2.1
                      have hE := hE.ad hk8
                      have hR : RepC g ak118 A s S116 H1 locs := hR.callH ht9 hB9 hw9 hS hFc
                      have hsh := hsh.tr hs9
                      refine W_tight2 (hL0.tr hL9).1 (hL0.tr hL9).2.1 ?_
                      have hlg := hlg.call hl9
                      replace h := h  S116 hq117 hw9 hs9
                      have ea_0 : ak118 25 = ad229 25 := hk8 _ (hw8.hd (hw8.2.1 _ finC_28).2.1 (by decide) (by decide))
                      have hl : lv_has ls 6 [(0, .ref (ak118 25)), (5, .int v229_5)] := by simp only [ea_0]; exact hl
                      clear hB9 hz9 hk9 hvm9 ht9 hw9 hs9 hS hL0 hL9
                      generalize H1 = H at hR ⊢
                      generalize dc9 = dc_ak118, ds9 = ds_ak118 at hlg ⊢
                      refine lv_aload_n hx hb dX11_addMethod_262 rfl (lv_at hl 0 rfl) ?_
                      refine va_get (D := rD g) (ci := 10) (v := .ref (ak118 28)) (C := RX11) (T := TX11) (N := 18) hx hb hts inX11 hown hR.K hR.P 25 (hR.at50 (hR.w.2.1 _ finC_28).2.1) rfl 1 (by decide) (hts _ kw_94) (fun _ h9 => h9) (congrArg (fun z => some (vf ak118 z)) (hR.w.2.1 _ finC_13).1) dX11_addMethod_263 ?_
                      refine lv_aload_n hx hb dX11_addMethod_266 rfl (lv_at hl 0 rfl) ?_
                      refine lv_aload_n hx hb dX11_addMethod_267 rfl (lv_at hl 0 rfl) ?_
                      obtain ⟨hv120, h⟩ := h
                      have hT_b119 : qT S116 (qO S116 25 15) = 47 := hR.w.ref hv120 (hR.w.2.1 _ finC_28).2.1
                      refine va_get (D := rD g) (ci := 10) (v := .ref (ak118 (qO S116 25 15))) (C := RX11) (T := TX11) (N := 18) hx hb hts inX11 hown hR.K hR.P 25 (hR.at50 (hR.w.2.1 _ finC_28).2.1) rfl 15 (by decide) (hts _ kw_84) (fun _ h9 => h9) (congrArg (fun z => some (vf ak118 z)) hv120) dX11_addMethod_268 ?_
                      obtain ⟨hv122, h⟩ := h
                      have hT_b121 : qT S116 (qO S116 (qO S116 25 15) 6) = 225 := hR.w.ref hv122 hT_b119
                      refine va_get (D := rD g) (ci := 7) (v := .ref (ak118 (qO S116 (qO S116 25 15) 6))) (C := RX8) (T := TX8) (N := 15) hx hb hts inX8 hown hR.K hR.P (qO S116 25 15) (hR.at47 hT_b119) rfl 6 (by decide) (hts _ kw_106) (fun _ h9 => h9) (congrArg (fun z => some (vf ak118 z)) hv122) dX11_addMethod_271 ?_
                      refine lv_iload hx hb dX11_addMethod_274 (lv_at hl 1 rfl) ?_
                      obtain ⟨hv123, h⟩ := h
                      refine va_iald hx hb hR.K hR.P (qO S116 (qO S116 25 15) 6) 1 (hR.atI hT_b121 (by decide)) rfl (k_ix (x := v229_5) (a := v229_5.toInt) rfl hv123) dX11_addMethod_276 ?_
                      refine lv_topi (fun z124 ez124 => ?_)
                      obtain rfl : z124 = (qI S116 (qO S116 (qO S116 25 15) 6) v229_5.toInt.toNat) := ez124
                      obtain ⟨hv125, h⟩ := h
                      have hFc := cfree hR hA
                      refine va_calli (va_runV (As := [.int (qI S116 (qO S116 (qO S116 25 15) 6) v229_5.toInt.toNat)]) (rest := [.ref (ak118 28)]) ⟨hx, hb, hml, hown, hts⟩ (rX11_offsetOf l g ak118 H.size S116 (qI S116 (qO S116 (qO S116 25 15) 6) v229_5.toInt.toNat) hR.w  hv125) (cwV 1 hts (gd_V kw_105 kw_228 kw_229 kw_83 kw_227) rfl rfl rfl (by decide +kernel) ⟨Nat.le_of_ble_eq_true rfl, Nat.le_of_ble_eq_true rfl⟩) ⟨cblind, va_recv hR.K hR.P (ci := 10) (q0 := 25) rfl (hR.at50 (hR.w.2.1 _ finC_28).2.1), fun U hU hW9 => cmk hU hW9 hR hex hE hFc⟩ rfl rfl hl.1 rfl (lv_room (Nat.le_of_ble_eq_true rfl)) dX11_addMethod_277 ⟨(show dc229 + dc_ak118 + 0 ≤ KCC - qn S from hlg.c), (show ds229 + ds_ak118 + 0 ≤ KSC - qu S from hlg.s)⟩) hR.sS (fun q _ h => hFc q h) hFc (fun r126 u9 t9 H1 locs ht9 hvm9 hw9 hB9 hz9 hk9 hS => ?_)
                      have hR : RepC g ak118 A s S116 H1 locs := hR.call ht9 hB9 hR.w hS hFc
                      obtain rfl : r126 = (fX11_offsetOf S116 (qI S116 (qO S116 (qO S116 25 15) 6) v229_5.toInt.toNat)) := hw9
                      clear hB9 hz9 hk9 hvm9 ht9 hS
                      generalize H1 = H at hR ⊢
                      obtain ⟨a128, ea128⟩ : ∃ z, z = (fX11_offsetOf S116 (qI S116 (qO S116 (qO S116 25 15) 6) v229_5.toInt.toNat)) := ⟨_, rfl⟩
                      rw [← ea128]
                      replace h := h a128 ea128
                      replace h := h ((hR.w.2.1 _ finC_13).2.1)
                      obtain ⟨Q129, h0, h⟩ := h
                      have hFc := cfree hR hA
                      refine W_led2 (fun hL0 => ?_)
                      refine va_callv (va_runV (As := [.int a128]) (rest := []) ⟨hx, hb, hml, hown, hts⟩ (rX0_put2 l g ak118 H S116 28 a128 hR.w (hR.w.2.1 _ finC_13).2.1 Q129 h0) (cwV 1 hts (gd_V kw_96 kw_17 kw_18 kw_3 kw_16) rfl rfl rfl (by decide +kernel) ⟨Nat.le_of_ble_eq_true rfl, Nat.le_of_ble_eq_true rfl⟩) ⟨cblindH, va_recv hR.K hR.P (ci := 0) (q0 := 28) rfl (hR.at40 (hR.w.2.1 _ finC_13).2.1), fun U hU hW9 => cmkH hU hW9 hR hex hE hFc⟩ rfl rfl hl.1 rfl (lv_room (Nat.le_of_ble_eq_true rfl)) dX11_addMethod_280 ⟨(show dc229 + dc_ak118 + (KCC - qn S116) ≤ KCC - qn S from hlg.cm), (show ds229 + ds_ak118 + (KSC - qu S116) ≤ KSC - qu S from hlg.sm)⟩) hR.sS (fun q _ h => hFc q h) hFc (fun  S130 t9 H1 locs ht9 hvm9 hw9 hB9 hz9 hk9 hS => ?_)
                      rcases S130 with ⟨S130, ak132⟩
                      obtain ⟨hB9, dc9, ds9, hL9, hl9⟩ := hB9
                      dsimp only at hw9 hB9 hl9
                      rw [ht9] at hL9
                      obtain ⟨hq131, hw9, hs9, hk8⟩ := hw9
                      have hw8 := hR.w
                      have hak := hak.tr hk8 hlg.2.2.1
                      have hE := hE.ad hk8
                      have hR : RepC g ak132 A s S130 H1 locs := hR.callH ht9 hB9 hw9 hS hFc
                      have hsh := hsh.tr hs9
                      refine W_tight2 (hL0.tr hL9).1 (hL0.tr hL9).2.1 ?_
                      have hlg := hlg.call hl9
                      replace h := h  S130 hq131 hw9 hs9
                      have ea_0 : ak132 25 = ak118 25 := hk8 _ (hw8.hd (hw8.2.1 _ finC_28).2.1 (by decide) (by decide))
                      have hl : lv_has ls 6 [(0, .ref (ak132 25)), (5, .int v229_5)] := by simp only [ea_0]; exact hl
                      clear hB9 hz9 hk9 hvm9 ht9 hw9 hs9 hS hL0 hL9
                      generalize H1 = H at hR ⊢
                      generalize dc9 = dc_ak132, ds9 = ds_ak132 at hlg ⊢
                      refine lv_aload_n hx hb dX11_addMethod_283 rfl (lv_at hl 0 rfl) ?_
                      refine va_get (D := rD g) (ci := 10) (v := .ref (ak132 28)) (C := RX11) (T := TX11) (N := 18) hx hb hts inX11 hown hR.K hR.P 25 (hR.at50 (hR.w.2.1 _ finC_28).2.1) rfl 1 (by decide) (hts _ kw_94) (fun _ h9 => h9) (congrArg (fun z => some (vf ak132 z)) (hR.w.2.1 _ finC_13).1) dX11_addMethod_284 ?_
                      refine lv_aload_n hx hb dX11_addMethod_287 rfl (lv_at hl 0 rfl) ?_
                      refine lv_aload_n hx hb dX11_addMethod_288 rfl (lv_at hl 0 rfl) ?_
                      obtain ⟨hv134, h⟩ := h
                      have hT_b133 : qT S130 (qO S130 25 15) = 47 := hR.w.ref hv134 (hR.w.2.1 _ finC_28).2.1
                      refine va_get (D := rD g) (ci := 10) (v := .ref (ak132 (qO S130 25 15))) (C := RX11) (T := TX11) (N := 18) hx hb hts inX11 hown hR.K hR.P 25 (hR.at50 (hR.w.2.1 _ finC_28).2.1) rfl 15 (by decide) (hts _ kw_84) (fun _ h9 => h9) (congrArg (fun z => some (vf ak132 z)) hv134) dX11_addMethod_289 ?_
                      obtain ⟨hv136, h⟩ := h
                      have hT_b135 : qT S130 (qO S130 (qO S130 25 15) 7) = 226 := hR.w.ref hv136 hT_b133
                      refine va_get (D := rD g) (ci := 7) (v := .ref (ak132 (qO S130 (qO S130 25 15) 7))) (C := RX8) (T := TX8) (N := 15) hx hb hts inX8 hown hR.K hR.P (qO S130 25 15) (hR.at47 hT_b133) rfl 7 (by decide) (hts _ kw_107) (fun _ h9 => h9) (congrArg (fun z => some (vf ak132 z)) hv136) dX11_addMethod_292 ?_
                      refine lv_iload hx hb dX11_addMethod_295 (lv_at hl 1 rfl) ?_
                      obtain ⟨hv137, h⟩ := h
                      refine va_iald hx hb hR.K hR.P (qO S130 (qO S130 25 15) 7) 1 (hR.atI hT_b135 (by decide)) rfl (k_ix (x := v229_5) (a := v229_5.toInt) rfl hv137) dX11_addMethod_297 ?_
                      refine lv_topi (fun z138 ez138 => ?_)
                      obtain rfl : z138 = (qI S130 (qO S130 (qO S130 25 15) 7) v229_5.toInt.toNat) := ez138
                      obtain ⟨hv139, h⟩ := h
                      have hFc := cfree hR hA
                      refine va_calli (va_runV (As := [.int (qI S130 (qO S130 (qO S130 25 15) 7) v229_5.toInt.toNat)]) (rest := [.ref (ak132 28)]) ⟨hx, hb, hml, hown, hts⟩ (rX11_offsetOf l g ak132 H.size S130 (qI S130 (qO S130 (qO S130 25 15) 7) v229_5.toInt.toNat) hR.w  hv139) (cwV 1 hts (gd_V kw_105 kw_228 kw_229 kw_83 kw_227) rfl rfl rfl (by decide +kernel) ⟨Nat.le_of_ble_eq_true rfl, Nat.le_of_ble_eq_true rfl⟩) ⟨cblind, va_recv hR.K hR.P (ci := 10) (q0 := 25) rfl (hR.at50 (hR.w.2.1 _ finC_28).2.1), fun U hU hW9 => cmk hU hW9 hR hex hE hFc⟩ rfl rfl hl.1 rfl (lv_room (Nat.le_of_ble_eq_true rfl)) dX11_addMethod_298 ⟨(show dc229 + dc_ak118 + dc_ak132 + 0 ≤ KCC - qn S from hlg.c), (show ds229 + ds_ak118 + ds_ak132 + 0 ≤ KSC - qu S from hlg.s)⟩) hR.sS (fun q _ h => hFc q h) hFc (fun r140 u9 t9 H1 locs ht9 hvm9 hw9 hB9 hz9 hk9 hS => ?_)
                      have hR : RepC g ak132 A s S130 H1 locs := hR.call ht9 hB9 hR.w hS hFc
                      obtain rfl : r140 = (fX11_offsetOf S130 (qI S130 (qO S130 (qO S130 25 15) 7) v229_5.toInt.toNat)) := hw9
                      clear hB9 hz9 hk9 hvm9 ht9 hS
                      generalize H1 = H at hR ⊢
                      obtain ⟨a142, ea142⟩ : ∃ z, z = (fX11_offsetOf S130 (qI S130 (qO S130 (qO S130 25 15) 7) v229_5.toInt.toNat)) := ⟨_, rfl⟩
                      rw [← ea142]
                      replace h := h a142 ea142
                      replace h := h ((hR.w.2.1 _ finC_13).2.1)
                      obtain ⟨Q143, h0, h⟩ := h
                      have hFc := cfree hR hA
                      refine W_led2 (fun hL0 => ?_)
                      refine va_callv (va_runV (As := [.int a142]) (rest := []) ⟨hx, hb, hml, hown, hts⟩ (rX0_put2 l g ak132 H S130 28 a142 hR.w (hR.w.2.1 _ finC_13).2.1 Q143 h0) (cwV 1 hts (gd_V kw_96 kw_17 kw_18 kw_3 kw_16) rfl rfl rfl (by decide +kernel) ⟨Nat.le_of_ble_eq_true rfl, Nat.le_of_ble_eq_true rfl⟩) ⟨cblindH, va_recv hR.K hR.P (ci := 0) (q0 := 28) rfl (hR.at40 (hR.w.2.1 _ finC_13).2.1), fun U hU hW9 => cmkH hU hW9 hR hex hE hFc⟩ rfl rfl hl.1 rfl (lv_room (Nat.le_of_ble_eq_true rfl)) dX11_addMethod_301 ⟨(show dc229 + dc_ak118 + dc_ak132 + (KCC - qn S130) ≤ KCC - qn S from hlg.cm), (show ds229 + ds_ak118 + ds_ak132 + (KSC - qu S130) ≤ KSC - qu S from hlg.sm)⟩) hR.sS (fun q _ h => hFc q h) hFc (fun  S144 t9 H1 locs ht9 hvm9 hw9 hB9 hz9 hk9 hS => ?_)
                      rcases S144 with ⟨S144, ak146⟩
                      obtain ⟨hB9, dc9, ds9, hL9, hl9⟩ := hB9
                      dsimp only at hw9 hB9 hl9
                      rw [ht9] at hL9
                      obtain ⟨hq145, hw9, hs9, hk8⟩ := hw9
                      have hw8 := hR.w
                      have hak := hak.tr hk8 hlg.2.2.1
                      have hE := hE.ad hk8
                      have hR : RepC g ak146 A s S144 H1 locs := hR.callH ht9 hB9 hw9 hS hFc
                      have hsh := hsh.tr hs9
                      refine W_tight2 (hL0.tr hL9).1 (hL0.tr hL9).2.1 ?_
                      have hlg := hlg.call hl9
                      replace h := h  S144 hq145 hw9 hs9
                      have ea_0 : ak146 25 = ak132 25 := hk8 _ (hw8.hd (hw8.2.1 _ finC_28).2.1 (by decide) (by decide))
                      have hl : lv_has ls 6 [(0, .ref (ak146 25)), (5, .int v229_5)] := by simp only [ea_0]; exact hl
                      clear hB9 hz9 hk9 hvm9 ht9 hw9 hs9 hS hL0 hL9
                      generalize H1 = H at hR ⊢
                      generalize dc9 = dc_ak146, ds9 = ds_ak146 at hlg ⊢
                      refine lv_aload_n hx hb dX11_addMethod_304 rfl (lv_at hl 0 rfl) ?_
                      refine va_get (D := rD g) (ci := 10) (v := .ref (ak146 28)) (C := RX11) (T := TX11) (N := 18) hx hb hts inX11 hown hR.K hR.P 25 (hR.at50 (hR.w.2.1 _ finC_28).2.1) rfl 1 (by decide) (hts _ kw_94) (fun _ h9 => h9) (congrArg (fun z => some (vf ak146 z)) (hR.w.2.1 _ finC_13).1) dX11_addMethod_305 ?_
                      refine lv_aload_n hx hb dX11_addMethod_308 rfl (lv_at hl 0 rfl) ?_
                      refine lv_aload_n hx hb dX11_addMethod_309 rfl (lv_at hl 0 rfl) ?_
                      obtain ⟨hv148, h⟩ := h
                      have hT_b147 : qT S144 (qO S144 25 15) = 47 := hR.w.ref hv148 (hR.w.2.1 _ finC_28).2.1
                      refine va_get (D := rD g) (ci := 10) (v := .ref (ak146 (qO S144 25 15))) (C := RX11) (T := TX11) (N := 18) hx hb hts inX11 hown hR.K hR.P 25 (hR.at50 (hR.w.2.1 _ finC_28).2.1) rfl 15 (by decide) (hts _ kw_84) (fun _ h9 => h9) (congrArg (fun z => some (vf ak146 z)) hv148) dX11_addMethod_310 ?_
                      obtain ⟨hv150, h⟩ := h
                      have hT_b149 : qT S144 (qO S144 (qO S144 25 15) 8) = 227 := hR.w.ref hv150 hT_b147
                      refine va_get (D := rD g) (ci := 7) (v := .ref (ak146 (qO S144 (qO S144 25 15) 8))) (C := RX8) (T := TX8) (N := 15) hx hb hts inX8 hown hR.K hR.P (qO S144 25 15) (hR.at47 hT_b147) rfl 8 (by decide) (hts _ kw_108) (fun _ h9 => h9) (congrArg (fun z => some (vf ak146 z)) hv150) dX11_addMethod_313 ?_
                      refine lv_iload hx hb dX11_addMethod_316 (lv_at hl 1 rfl) ?_
                      obtain ⟨hv151, h⟩ := h
                      refine va_iald hx hb hR.K hR.P (qO S144 (qO S144 25 15) 8) 1 (hR.atI hT_b149 (by decide)) rfl (k_ix (x := v229_5) (a := v229_5.toInt) rfl hv151) dX11_addMethod_318 ?_
                      refine lv_topi (fun z152 ez152 => ?_)
                      obtain rfl : z152 = (qI S144 (qO S144 (qO S144 25 15) 8) v229_5.toInt.toNat) := ez152
                      obtain ⟨Q153, h0, h⟩ := h
                      have hFc := cfree hR hA
                      refine W_led2 (fun hL0 => ?_)
                      refine va_calli (va_runV (As := [.int (qI S144 (qO S144 (qO S144 25 15) 8) v229_5.toInt.toNat)]) (rest := [.ref (ak146 28)]) ⟨hx, hb, hml, hown, hts⟩ (rX11_classOf l g ak146 H S144 (qI S144 (qO S144 (qO S144 25 15) 8) v229_5.toInt.toNat) hR.w  Q153 h0) (cwV 1 hts (gd_V kw_109 kw_132 kw_133 kw_83 kw_131) rfl rfl rfl (by decide +kernel) ⟨Nat.le_of_ble_eq_true rfl, Nat.le_of_ble_eq_true rfl⟩) ⟨cblindH, va_recv hR.K hR.P (ci := 10) (q0 := 25) rfl (hR.at50 (hR.w.2.1 _ finC_28).2.1), fun U hU hW9 => cmkH hU hW9 hR hex hE hFc⟩ rfl rfl hl.1 rfl (lv_room (Nat.le_of_ble_eq_true rfl)) dX11_addMethod_319 ⟨(show dc229 + dc_ak118 + dc_ak132 + dc_ak146 + (KCC - qn S144) ≤ KCC - qn S from hlg.cm), (show ds229 + ds_ak118 + ds_ak132 + ds_ak146 + (KSC - qu S144) ≤ KSC - qu S from hlg.sm)⟩) hR.sS (fun q _ h => hFc q h) hFc (fun r154 S155 t9 H1 locs ht9 hvm9 hw9 hB9 hz9 hk9 hS => ?_)
                      rcases S155 with ⟨S155, ak157⟩
                      obtain ⟨hB9, dc9, ds9, hL9, hl9⟩ := hB9
                      dsimp only at hw9 hB9 hl9
                      rw [ht9] at hL9
                      obtain ⟨hq156, hw9, hs9, hk8⟩ := hw9
                      have hw8 := hR.w
                      have hak := hak.tr hk8 hlg.2.2.1
                      have hE := hE.ad hk8
                      have hR : RepC g ak157 A s S155 H1 locs := hR.callH ht9 hB9 hw9 hS hFc
                      have hsh := hsh.tr hs9
                      refine W_tight2 (hL0.tr hL9).1 (hL0.tr hL9).2.1 ?_
                      have hlg := hlg.call hl9
                      replace h := h r154 S155 hq156 hw9 hs9
                      have ea_0 : ak157 25 = ak146 25 := hk8 _ (hw8.hd (hw8.2.1 _ finC_28).2.1 (by decide) (by decide))
                      have ea_1 : ak157 28 = ak146 28 := hk8 _ (hw8.hd (hw8.2.1 _ finC_13).2.1 (by decide) (by decide))
                      have hl : lv_has ls 6 [(0, .ref (ak157 25)), (5, .int v229_5)] := by simp only [ea_0, ea_1]; exact hl
                      refine W.eq (g2 := F0 m 322 ls (.int r154 :: [.ref (ak157 28)])) (by first | (simp only [ea_0, ea_1]; rfl) | simp only [ea_0, ea_1]) ?_
                      clear hB9 hz9 hk9 hvm9 ht9 hw9 hs9 hS hL0 hL9
                      generalize H1 = H at hR ⊢
                      generalize dc9 = dc_ak157, ds9 = ds_ak157 at hlg ⊢
                      replace h := h ((hR.w.2.1 _ finC_13).2.1)
                      obtain ⟨Q158, h0, h⟩ := h
                      have hFc := cfree hR hA
                      refine W_led2 (fun hL0 => ?_)
                      refine va_callv (va_runV (As := [.int r154]) (rest := []) ⟨hx, hb, hml, hown, hts⟩ (rX0_put2 l g ak157 H S155 28 r154 hR.w (hR.w.2.1 _ finC_13).2.1 Q158 h0) (cwV 1 hts (gd_V kw_96 kw_17 kw_18 kw_3 kw_16) rfl rfl rfl (by decide +kernel) ⟨Nat.le_of_ble_eq_true rfl, Nat.le_of_ble_eq_true rfl⟩) ⟨cblindH, va_recv hR.K hR.P (ci := 0) (q0 := 28) rfl (hR.at40 (hR.w.2.1 _ finC_13).2.1), fun U hU hW9 => cmkH hU hW9 hR hex hE hFc⟩ rfl rfl hl.1 rfl (lv_room (Nat.le_of_ble_eq_true rfl)) dX11_addMethod_322 ⟨(show dc229 + dc_ak118 + dc_ak132 + dc_ak146 + dc_ak157 + (KCC - qn S155) ≤ KCC - qn S from hlg.cm), (show ds229 + ds_ak118 + ds_ak132 + ds_ak146 + ds_ak157 + (KSC - qu S155) ≤ KSC - qu S from hlg.sm)⟩) hR.sS (fun q _ h => hFc q h) hFc (fun  S159 t9 H1 locs ht9 hvm9 hw9 hB9 hz9 hk9 hS => ?_)
                      rcases S159 with ⟨S159, ak161⟩
                      obtain ⟨hB9, dc9, ds9, hL9, hl9⟩ := hB9
                      dsimp only at hw9 hB9 hl9
                      rw [ht9] at hL9
                      obtain ⟨hq160, hw9, hs9, hk8⟩ := hw9
                      have hw8 := hR.w
                      have hak := hak.tr hk8 hlg.2.2.1
                      have hE := hE.ad hk8
                      have hR : RepC g ak161 A s S159 H1 locs := hR.callH ht9 hB9 hw9 hS hFc
                      have hsh := hsh.tr hs9
                      refine W_tight2 (hL0.tr hL9).1 (hL0.tr hL9).2.1 ?_
                      have hlg := hlg.call hl9
                      replace h := h  S159 hq160 hw9 hs9
                      have ea_0 : ak161 25 = ak157 25 := hk8 _ (hw8.hd (hw8.2.1 _ finC_28).2.1 (by decide) (by decide))
                      have hl : lv_has ls 6 [(0, .ref (ak161 25)), (5, .int v229_5)] := by simp only [ea_0]; exact hl
                      clear hB9 hz9 hk9 hvm9 ht9 hw9 hs9 hS hL0 hL9
                      generalize H1 = H at hR ⊢
                      generalize dc9 = dc_ak161, ds9 = ds_ak161 at hlg ⊢
                      obtain ⟨a162, ea162⟩ : ∃ z, z = (v229_5 + Int32.ofInt 1) := ⟨_, rfl⟩
                      replace h := h a162 ea162
                      refine lv_iinc (v := a162) (lv' := [(5, .int a162), (0, .ref (ak161 25))]) hx hb dX11_addMethod_325 hl (k := 1) rfl ea162.symm (by decide) rfl (fun ls hl => ?_)
                      refine lv_goto (tgt := 229) hx hb dX11_addMethod_328 (by decide) ?_
                      exact ih_229 ak161 (dc229 + dc_ak118 + dc_ak132 + dc_ak146 + dc_ak157 + dc_ak161) (ds229 + ds_ak118 + ds_ak132 + ds_ak146 + ds_ak157 + ds_ak161) S159 a162 _ _ ls h  hsh hlg hak hE hR (lv_sub hl [1, 0] rfl)
                obtain ⟨n9, h⟩ := h
                exact J_229 n9 ak97 (dc186 + dc_ak97) (ds186 + ds_ak97) S95 0 _ _ ls h  hsh hlg hak hE hR (lv_sub hl [1, 0] rfl)
              · replace h := h.2 (k_nle rfl rfl c91)
                refine lv_aload_n hx hb dX11_addMethod_198 rfl (lv_at hl 0 rfl) ?_
                refine lv_iload hx hb dX11_addMethod_199 (lv_at hl 2 rfl) ?_
                refine lv_iload hx hb dX11_addMethod_201 (lv_at hl 1 rfl) ?_
                obtain ⟨Q163, h0, h⟩ := h
                have hFc := cfree hR hA
                refine W_led2 (fun hL0 => ?_)
                refine va_callv (va_runV (As := [.int v186_5, .int v186_4]) (rest := []) ⟨hx, hb, hml, hown, hts⟩ (rX11_putInstruction l g ad186 H U186 v186_5 v186_4 hR.w  Q163 h0) (cwV 2 hts (gd_V kw_103 kw_240 kw_241 kw_83 kw_239) rfl rfl rfl (by decide +kernel) ⟨Nat.le_of_ble_eq_true rfl, Nat.le_of_ble_eq_true rfl⟩) ⟨cblindH, va_recv hR.K hR.P (ci := 10) (q0 := 25) rfl (hR.at50 (hR.w.2.1 _ finC_28).2.1), fun U hU hW9 => cmkH hU hW9 hR hex hE hFc⟩ rfl rfl hl.1 rfl (lv_room (Nat.le_of_ble_eq_true rfl)) dX11_addMethod_203 ⟨(show dc186 + (KCC - qn U186) ≤ KCC - qn S from hlg.cm), (show ds186 + (KSC - qu U186) ≤ KSC - qu S from hlg.sm)⟩) hR.sS (fun q _ h => hFc q h) hFc (fun  S164 t9 H1 locs ht9 hvm9 hw9 hB9 hz9 hk9 hS => ?_)
                rcases S164 with ⟨S164, ak166⟩
                obtain ⟨hB9, dc9, ds9, hL9, hl9⟩ := hB9
                dsimp only at hw9 hB9 hl9
                rw [ht9] at hL9
                obtain ⟨hq165, hw9, hs9, hk8⟩ := hw9
                have hw8 := hR.w
                have hak := hak.tr hk8 hlg.2.2.1
                have hE := hE.ad hk8
                have hR : RepC g ak166 A s S164 H1 locs := hR.callH ht9 hB9 hw9 hS hFc
                have hsh := hsh.tr hs9
                refine W_tight2 (hL0.tr hL9).1 (hL0.tr hL9).2.1 ?_
                have hlg := hlg.call hl9
                replace h := h  S164 hq165 hw9 hs9
                have ea_0 : ak166 25 = ad186 25 := hk8 _ (hw8.hd (hw8.2.1 _ finC_28).2.1 (by decide) (by decide))
                have hl : lv_has ls 6 [(0, .ref (ak166 25)), (4, .int v186_4), (5, .int v186_5)] := by simp only [ea_0]; exact hl
                clear hB9 hz9 hk9 hvm9 ht9 hw9 hs9 hS hL0 hL9
                generalize H1 = H at hR ⊢
                generalize dc9 = dc_ak166, ds9 = ds_ak166 at hlg ⊢
                obtain ⟨a167, ea167⟩ : ∃ z, z = (v186_5 + Int32.ofInt 1) := ⟨_, rfl⟩
                replace h := h a167 ea167
                refine lv_iinc (v := a167) (lv' := [(5, .int a167), (0, .ref (ak166 25)), (4, .int v186_4)]) hx hb dX11_addMethod_206 hl (k := 2) rfl ea167.symm (by decide) rfl (fun ls hl => ?_)
                refine lv_goto (tgt := 186) hx hb dX11_addMethod_209 (by decide) ?_
                exact ih_186 ak166 (dc186 + dc_ak166) (ds186 + ds_ak166) S164 v186_4 a167 _ _ ls h  hsh hlg hak hE hR (lv_sub hl [1, 2, 0] rfl)
          obtain ⟨n9, h⟩ := h
          exact J_186 n9 ak87 (0 + dc_ak28 + dc_ak41 + dc_ak45 + dc_ak50 + dc_ak58 + dc_ak62 + dc_ak71 + dc_ak75 + dc_ak83 + dc_ak87) (0 + ds_ak28 + ds_ak41 + ds_ak45 + ds_ak50 + ds_ak58 + ds_ak62 + ds_ak71 + ds_ak75 + ds_ak83 + ds_ak87) S85 a88 0 _ _ ls h  hsh hlg hak hE hR (lv_sub hl [4, 1, 0] rfl)
        · replace h := h.2 (k_nlt rfl hln14 c15)
          refine W_led2 (fun hLd => ?_)
          refine W.widen (k := KCC - qn S) (n := KSC - qu S) hlg.c hlg.s ?_
          exact W.vret hx hb hr (fun t9 ht9 hW9 => ⟨⟨(S2, ad), rfl, ⟨h, hR.w, hsh, hak⟩, ⟨⟨by rw [ht9]; exact hR.P, hR.D⟩, _, _, by rw [ht9]; exact hLd, hlg⟩⟩, hR.sS.F ht9⟩) hR.sS.2.2 dX11_addMethod_40
  · rw [hq_b1] at hl
    have hg_b1 : b1 = (p1).getD 0 := by rw [hq_b1]; rfl
    have hT_b1 : qT S ((p1).getD 0) = 47 := hg_b1 ▸ hO_p1 _ hq_b1
    subst hg_b1
    replace h := h.2 (fun q9 => Option.some_ne_none _ (hq_b1.symm.trans q9))
    refine lv_aload_n hx hb dX11_addMethod_1 rfl (lv_at hl 1 rfl) ?_
    refine va_put (D := rD g) (ci := 10) (v := .ref (ad ((p1).getD 0))) (ty := (.object "CodeFoundry$Row")) (C := RX11) (T := TX11) (N := 18) hx hb hts inX11 tyX11 tyX11_ok nmX11 hown hR.K hR.P hR.D hR.sS 25 (hR.at50 (hR.w.2.1 _ finC_28).2.1) rfl 15 (by decide) (hts _ kw_84) (fun _ h9 => h9) rfl (by decide +kernel) rfl rfl (Nat.le_of_ble_eq_true rfl) dX11_addMethod_2 (fun H locs hP hD hS => ?_)
    have hw9 : wfC (wR S 25 15 (some ((p1).getD 0))) := hR.w.put (fun b q9 => by cases q9; exact (hT_b1).trans (by rw [(hR.w.2.1 _ finC_28).2.1]; rfl)) (nofC_25_15) (by rw [(hR.w.2.1 _ finC_28).2.1]; decide) (fun b _ q9 => absurd (show otgC (qT S 25) 15 = 0 by rw [(hR.w.2.1 _ finC_28).2.1]; decide) q9) (fun _ => Option.some_ne_none _)
    have hTk9 : qT S 25 = 50 := (hR.w.2.1 _ finC_28).2.1
    have hR : RepC g ad A s (wR S 25 15 (some ((p1).getD 0))) H locs := hR.pR50 (hR.w.2.1 _ finC_28).2.1 FX11_s15 hw9 hP hD hS
    obtain ⟨S168, eS168⟩ : ∃ z, z = wR S 25 15 (some ((p1).getD 0)) := ⟨_, rfl⟩
    rw [← eS168] at hR
    replace h := h S168 eS168 hTk9 hR.w
    have hT_b1 : qT S168 ((p1).getD 0) = 47 := (congrArg (fun z => qT z ((p1).getD 0)) eS168).trans hT_b1
    have hsh : shx S S168 := by rw [eS168]; exact hsh
    have hlg : lgC S S168 (0) (0) := by rw [eS168]; exact hlg
    refine lv_aload_n hx hb dX11_addMethod_5 rfl (lv_at hl 0 rfl) ?_
    have hO_o169 : ∀ z, (qR S168 25 15) = some z → qT S168 z = 47 := fun z q => hR.w.ref q (hR.w.2.1 _ finC_28).2.1
    refine va_get (D := rD g) (ci := 10) (v := vf ad (qR S168 25 15)) (C := RX11) (T := TX11) (N := 18) hx hb hts inX11 hown hR.K hR.P 25 (hR.at50 (hR.w.2.1 _ finC_28).2.1) rfl 15 (by decide) (hts _ kw_84) (fun _ h9 => h9) rfl dX11_addMethod_6 ?_
    rcases hq_b170 : (qR S168 25 15) with _ | b170
    · skip
      replace h := h.1 (hq_b170)
      refine lv_ifnullN (tgt := 40) hx hb dX11_addMethod_9 (by decide) ?_
      refine W_led2 (fun hLd => ?_)
      refine W.widen (k := KCC - qn S) (n := KSC - qu S) hlg.c hlg.s ?_
      exact W.vret hx hb hr (fun t9 ht9 hW9 => ⟨⟨(S168, ad), rfl, ⟨h, hR.w, hsh, hak⟩, ⟨⟨by rw [ht9]; exact hR.P, hR.D⟩, _, _, by rw [ht9]; exact hLd, hlg⟩⟩, hR.sS.F ht9⟩) hR.sS.2.2 dX11_addMethod_40
    · have hg_b170 : b170 = ((qR S168 25 15)).getD 0 := by rw [hq_b170]; rfl
      have hT_b170 : qT S168 (((qR S168 25 15)).getD 0) = 47 := hg_b170 ▸ hO_o169 _ hq_b170
      subst hg_b170
      replace h := h.2 (fun q9 => Option.some_ne_none _ (hq_b170.symm.trans q9))
      refine lv_ifnull hx hb dX11_addMethod_9 ?_
      refine lv_aload_n hx hb dX11_addMethod_12 rfl (lv_at hl 0 rfl) ?_
      obtain ⟨hv172, h⟩ := h
      have hT_b171 : qT S168 (qO S168 25 15) = 47 := hR.w.ref hv172 (hR.w.2.1 _ finC_28).2.1
      refine va_get (D := rD g) (ci := 10) (v := .ref (ad (qO S168 25 15))) (C := RX11) (T := TX11) (N := 18) hx hb hts inX11 hown hR.K hR.P 25 (hR.at50 (hR.w.2.1 _ finC_28).2.1) rfl 15 (by decide) (hts _ kw_84) (fun _ h9 => h9) (congrArg (fun z => some (vf ad z)) hv172) dX11_addMethod_13 ?_
      refine va_get (D := rD g) (ci := 7) (v := .int (qI S168 (qO S168 25 15) 11)) (C := RX8) (T := TX8) (N := 15) hx hb hts inX8 hown hR.K hR.P (qO S168 25 15) (hR.at47 hT_b171) rfl 11 (by decide) (hts _ kw_85) (fun _ h9 => h9) rfl dX11_addMethod_16 ?_
      refine lv_if_lt (tgt := 40) hx hb dX11_addMethod_19 (by decide) (fun c173 => ?_) (fun c173 => ?_)
      · replace h := h.1 (k_lt rfl (by decide) c173)
        refine W_led2 (fun hLd => ?_)
        refine W.widen (k := KCC - qn S) (n := KSC - qu S) hlg.c hlg.s ?_
        exact W.vret hx hb hr (fun t9 ht9 hW9 => ⟨⟨(S168, ad), rfl, ⟨h, hR.w, hsh, hak⟩, ⟨⟨by rw [ht9]; exact hR.P, hR.D⟩, _, _, by rw [ht9]; exact hLd, hlg⟩⟩, hR.sS.F ht9⟩) hR.sS.2.2 dX11_addMethod_40
      · replace h := h.2 (k_nlt rfl (by decide) c173)
        refine lv_aload_n hx hb dX11_addMethod_22 rfl (lv_at hl 0 rfl) ?_
        obtain ⟨hv175, h⟩ := h
        have hT_b174 : qT S168 (qO S168 25 15) = 47 := hR.w.ref hv175 (hR.w.2.1 _ finC_28).2.1
        refine va_get (D := rD g) (ci := 10) (v := .ref (ad (qO S168 25 15))) (C := RX11) (T := TX11) (N := 18) hx hb hts inX11 hown hR.K hR.P 25 (hR.at50 (hR.w.2.1 _ finC_28).2.1) rfl 15 (by decide) (hts _ kw_84) (fun _ h9 => h9) (congrArg (fun z => some (vf ad z)) hv175) dX11_addMethod_23 ?_
        refine va_get (D := rD g) (ci := 7) (v := .int (qI S168 (qO S168 25 15) 11)) (C := RX8) (T := TX8) (N := 15) hx hb hts inX8 hown hR.K hR.P (qO S168 25 15) (hR.at47 hT_b174) rfl 11 (by decide) (hts _ kw_85) (fun _ h9 => h9) rfl dX11_addMethod_26 ?_
        refine lv_aload_n hx hb dX11_addMethod_29 rfl (lv_at hl 0 rfl) ?_
        obtain ⟨hv177, h⟩ := h
        have hT_b176 : qT S168 (qO S168 25 7) = 49 := hR.w.ref hv177 (hR.w.2.1 _ finC_28).2.1
        refine va_get (D := rD g) (ci := 10) (v := .ref (ad (qO S168 25 7))) (C := RX11) (T := TX11) (N := 18) hx hb hts inX11 hown hR.K hR.P 25 (hR.at50 (hR.w.2.1 _ finC_28).2.1) rfl 7 (by decide) (hts _ kw_86) (fun _ h9 => h9) (congrArg (fun z => some (vf ad z)) hv177) dX11_addMethod_30 ?_
        obtain ⟨hv179, h⟩ := h
        have hT_b178 : qT S168 (qO S168 (qO S168 25 7) 9) = 234 := hR.w.ref hv179 hT_b176
        refine va_get (D := rD g) (ci := 9) (v := .ref (ad (qO S168 (qO S168 25 7) 9))) (C := RX10) (T := TX10) (N := 18) hx hb hts inX10 hown hR.K hR.P (qO S168 25 7) (hR.at49 hT_b176) rfl 9 (by decide) (hts _ kw_87) (fun _ h9 => h9) (congrArg (fun z => some (vf ad z)) hv179) dX11_addMethod_33 ?_
        refine va_alen (v := (Int32.ofNat (qN S168 (qO S168 (qO S168 25 7) 9)))) hx hb hR.K hR.P (qO S168 (qO S168 25 7) 9) 1 (hR.atI hT_b178 (by decide)) rfl rfl dX11_addMethod_36 ?_
        have hln180 : (Int32.ofNat (qN S168 (qO S168 (qO S168 25 7) 9))).toInt = (qN S168 (qO S168 (qO S168 25 7) 9) : Int) := toI_len (hR.w.len9 (hT_b178) (by decide))
        refine lv_icmp_lt (tgt := 41) hx hb dX11_addMethod_37 (by decide) (fun c181 => ?_) (fun c181 => ?_)
        · replace h := h.1 (k_lt rfl hln180 c181)
          refine lv_aload_n hx hb dX11_addMethod_41 rfl (lv_at hl 0 rfl) ?_
          refine lv_aload_n hx hb dX11_addMethod_42 rfl (lv_at hl 0 rfl) ?_
          obtain ⟨hv183, h⟩ := h
          have hT_b182 : qT S168 (qO S168 25 7) = 49 := hR.w.ref hv183 (hR.w.2.1 _ finC_28).2.1
          refine va_get (D := rD g) (ci := 10) (v := .ref (ad (qO S168 25 7))) (C := RX11) (T := TX11) (N := 18) hx hb hts inX11 hown hR.K hR.P 25 (hR.at50 (hR.w.2.1 _ finC_28).2.1) rfl 7 (by decide) (hts _ kw_86) (fun _ h9 => h9) (congrArg (fun z => some (vf ad z)) hv183) dX11_addMethod_43 ?_
          obtain ⟨hv185, h⟩ := h
          have hT_b184 : qT S168 (qO S168 (qO S168 25 7) 9) = 234 := hR.w.ref hv185 hT_b182
          refine va_get (D := rD g) (ci := 9) (v := .ref (ad (qO S168 (qO S168 25 7) 9))) (C := RX10) (T := TX10) (N := 18) hx hb hts inX10 hown hR.K hR.P (qO S168 25 7) (hR.at49 hT_b182) rfl 9 (by decide) (hts _ kw_87) (fun _ h9 => h9) (congrArg (fun z => some (vf ad z)) hv185) dX11_addMethod_46 ?_
          refine lv_aload_n hx hb dX11_addMethod_49 rfl (lv_at hl 0 rfl) ?_
          obtain ⟨hv187, h⟩ := h
          have hT_b186 : qT S168 (qO S168 25 15) = 47 := hR.w.ref hv187 (hR.w.2.1 _ finC_28).2.1
          refine va_get (D := rD g) (ci := 10) (v := .ref (ad (qO S168 25 15))) (C := RX11) (T := TX11) (N := 18) hx hb hts inX11 hown hR.K hR.P 25 (hR.at50 (hR.w.2.1 _ finC_28).2.1) rfl 15 (by decide) (hts _ kw_84) (fun _ h9 => h9) (congrArg (fun z => some (vf ad z)) hv187) dX11_addMethod_50 ?_
          refine va_get (D := rD g) (ci := 7) (v := .int (qI S168 (qO S168 25 15) 11)) (C := RX8) (T := TX8) (N := 15) hx hb hts inX8 hown hR.K hR.P (qO S168 25 15) (hR.at47 hT_b186) rfl 11 (by decide) (hts _ kw_85) (fun _ h9 => h9) rfl dX11_addMethod_53 ?_
          obtain ⟨hv188, h⟩ := h
          refine va_iald hx hb hR.K hR.P (qO S168 (qO S168 25 7) 9) 1 (hR.atI hT_b184 (by decide)) rfl (k_ix (x := (qI S168 (qO S168 25 15) 11)) (a := (qI S168 (qO S168 25 15) 11).toInt) rfl hv188) dX11_addMethod_56 ?_
          refine lv_topi (fun z189 ez189 => ?_)
          obtain rfl : z189 = (qI S168 (qO S168 (qO S168 25 7) 9) (((qI S168 (qO S168 25 15) 11).toInt).toNat)) := ez189
          obtain ⟨Q190, h0, h⟩ := h
          have hFc := cfree hR hA
          refine W_led2 (fun hL0 => ?_)
          refine va_calli (va_runV (As := [.int (qI S168 (qO S168 (qO S168 25 7) 9) (((qI S168 (qO S168 25 15) 11).toInt).toNat))]) (rest := []) ⟨hx, hb, hml, hown, hts⟩ (rX11_nameEntry l g ad H S168 (qI S168 (qO S168 (qO S168 25 7) 9) (((qI S168 (qO S168 25 15) 11).toInt).toNat)) hR.w  Q190 h0) (cwV 1 hts (gd_V kw_88 kw_217 kw_218 kw_83 kw_216) rfl rfl rfl (by decide +kernel) ⟨Nat.le_of_ble_eq_true rfl, Nat.le_of_ble_eq_true rfl⟩) ⟨cblindH, va_recv hR.K hR.P (ci := 10) (q0 := 25) rfl (hR.at50 (hR.w.2.1 _ finC_28).2.1), fun U hU hW9 => cmkH hU hW9 hR hex hE hFc⟩ rfl rfl hl.1 rfl (lv_room (Nat.le_of_ble_eq_true rfl)) dX11_addMethod_57 ⟨(show 0 + (KCC - qn S168) ≤ KCC - qn S from hlg.cm), (show 0 + (KSC - qu S168) ≤ KSC - qu S from hlg.sm)⟩) hR.sS (fun q _ h => hFc q h) hFc (fun r191 S192 t9 H1 locs ht9 hvm9 hw9 hB9 hz9 hk9 hS => ?_)
          rcases S192 with ⟨S192, ak194⟩
          obtain ⟨hB9, dc9, ds9, hL9, hl9⟩ := hB9
          dsimp only at hw9 hB9 hl9
          rw [ht9] at hL9
          obtain ⟨hq193, hw9, hs9, hk8⟩ := hw9
          have hw8 := hR.w
          have hak := hak.tr hk8 hlg.2.2.1
          have hE := hE.ad hk8
          have hR : RepC g ak194 A s S192 H1 locs := hR.callH ht9 hB9 hw9 hS hFc
          have hsh := hsh.tr hs9
          refine W_tight2 (hL0.tr hL9).1 (hL0.tr hL9).2.1 ?_
          have hlg := hlg.call hl9
          replace h := h r191 S192 hq193 hw9 hs9
          have ea_0 : ak194 25 = ad 25 := hk8 _ (hw8.hd (hw8.2.1 _ finC_28).2.1 (by decide) (by decide))
          have ea_1 : ak194 ((p1).getD 0) = ad ((p1).getD 0) := hk8 _ (hw8.hd hT_b1 (by decide) (by decide))
          have hl : lv_has ls 6 [(0, .ref (ak194 25)), (1, .ref (ak194 ((p1).getD 0)))] := by simp only [ea_0, ea_1]; exact hl
          have hT_b1 := hs9.T hT_b1 (by decide)
          clear hB9 hz9 hk9 hvm9 ht9 hw9 hs9 hS hL0 hL9
          generalize H1 = H at hR ⊢
          generalize dc9 = dc_ak194, ds9 = ds_ak194 at hlg ⊢
          refine lv_istore_n (lv' := [(2, .int r191), (0, .ref (ak194 25)), (1, .ref (ak194 ((p1).getD 0)))]) hx hb dX11_addMethod_60 rfl hl (by decide) rfl (fun ls hl => ?_)
          refine lv_aload_n hx hb dX11_addMethod_61 rfl (lv_at hl 1 rfl) ?_
          refine lv_iload_n hx hb dX11_addMethod_62 rfl (lv_at hl 0 rfl) ?_
          refine lv_aload_n hx hb dX11_addMethod_63 rfl (lv_at hl 1 rfl) ?_
          refine lv_aload_n hx hb dX11_addMethod_64 rfl (lv_at hl 1 rfl) ?_
          obtain ⟨hv196, h⟩ := h
          have hT_b195 : qT S192 (qO S192 25 7) = 49 := hR.w.ref hv196 (hR.w.2.1 _ finC_28).2.1
          refine va_get (D := rD g) (ci := 10) (v := .ref (ak194 (qO S192 25 7))) (C := RX11) (T := TX11) (N := 18) hx hb hts inX11 hown hR.K hR.P 25 (hR.at50 (hR.w.2.1 _ finC_28).2.1) rfl 7 (by decide) (hts _ kw_86) (fun _ h9 => h9) (congrArg (fun z => some (vf ak194 z)) hv196) dX11_addMethod_65 ?_
          obtain ⟨hv198, h⟩ := h
          have hT_b197 : qT S192 (qO S192 (qO S192 25 7) 10) = 235 := hR.w.ref hv198 hT_b195
          refine va_get (D := rD g) (ci := 9) (v := .ref (ak194 (qO S192 (qO S192 25 7) 10))) (C := RX10) (T := TX10) (N := 18) hx hb hts inX10 hown hR.K hR.P (qO S192 25 7) (hR.at49 hT_b195) rfl 10 (by decide) (hts _ kw_89) (fun _ h9 => h9) (congrArg (fun z => some (vf ak194 z)) hv198) dX11_addMethod_68 ?_
          refine lv_aload_n hx hb dX11_addMethod_71 rfl (lv_at hl 1 rfl) ?_
          obtain ⟨hv200, h⟩ := h
          have hT_b199 : qT S192 (qO S192 25 15) = 47 := hR.w.ref hv200 (hR.w.2.1 _ finC_28).2.1
          refine va_get (D := rD g) (ci := 10) (v := .ref (ak194 (qO S192 25 15))) (C := RX11) (T := TX11) (N := 18) hx hb hts inX11 hown hR.K hR.P 25 (hR.at50 (hR.w.2.1 _ finC_28).2.1) rfl 15 (by decide) (hts _ kw_84) (fun _ h9 => h9) (congrArg (fun z => some (vf ak194 z)) hv200) dX11_addMethod_72 ?_
          refine va_get (D := rD g) (ci := 7) (v := .int (qI S192 (qO S192 25 15) 11)) (C := RX8) (T := TX8) (N := 15) hx hb hts inX8 hown hR.K hR.P (qO S192 25 15) (hR.at47 hT_b199) rfl 11 (by decide) (hts _ kw_85) (fun _ h9 => h9) rfl dX11_addMethod_75 ?_
          obtain ⟨hv201, h⟩ := h
          refine va_iald hx hb hR.K hR.P (qO S192 (qO S192 25 7) 10) 1 (hR.atI hT_b197 (by decide)) rfl (k_ix (x := (qI S192 (qO S192 25 15) 11)) (a := (qI S192 (qO S192 25 15) 11).toInt) rfl hv201) dX11_addMethod_78 ?_
          refine lv_topi (fun z202 ez202 => ?_)
          obtain rfl : z202 = (qI S192 (qO S192 (qO S192 25 7) 10) (((qI S192 (qO S192 25 15) 11).toInt).toNat)) := ez202
          obtain ⟨Q203, h0, h⟩ := h
          have hFc := cfree hR hA
          refine W_led2 (fun hL0 => ?_)
          refine va_calli (va_runV (As := [.int (qI S192 (qO S192 (qO S192 25 7) 10) (((qI S192 (qO S192 25 15) 11).toInt).toNat))]) (rest := [.int r191, .ref (ak194 25)]) ⟨hx, hb, hml, hown, hts⟩ (rX11_nameEntry l g ak194 H S192 (qI S192 (qO S192 (qO S192 25 7) 10) (((qI S192 (qO S192 25 15) 11).toInt).toNat)) hR.w  Q203 h0) (cwV 1 hts (gd_V kw_88 kw_217 kw_218 kw_83 kw_216) rfl rfl rfl (by decide +kernel) ⟨Nat.le_of_ble_eq_true rfl, Nat.le_of_ble_eq_true rfl⟩) ⟨cblindH, va_recv hR.K hR.P (ci := 10) (q0 := 25) rfl (hR.at50 (hR.w.2.1 _ finC_28).2.1), fun U hU hW9 => cmkH hU hW9 hR hex hE hFc⟩ rfl rfl hl.1 rfl (lv_room (Nat.le_of_ble_eq_true rfl)) dX11_addMethod_79 ⟨(show 0 + dc_ak194 + (KCC - qn S192) ≤ KCC - qn S from hlg.cm), (show 0 + ds_ak194 + (KSC - qu S192) ≤ KSC - qu S from hlg.sm)⟩) hR.sS (fun q _ h => hFc q h) hFc (fun r204 S205 t9 H1 locs ht9 hvm9 hw9 hB9 hz9 hk9 hS => ?_)
          rcases S205 with ⟨S205, ak207⟩
          obtain ⟨hB9, dc9, ds9, hL9, hl9⟩ := hB9
          dsimp only at hw9 hB9 hl9
          rw [ht9] at hL9
          obtain ⟨hq206, hw9, hs9, hk8⟩ := hw9
          have hw8 := hR.w
          have hak := hak.tr hk8 hlg.2.2.1
          have hE := hE.ad hk8
          have hR : RepC g ak207 A s S205 H1 locs := hR.callH ht9 hB9 hw9 hS hFc
          have hsh := hsh.tr hs9
          refine W_tight2 (hL0.tr hL9).1 (hL0.tr hL9).2.1 ?_
          have hlg := hlg.call hl9
          replace h := h r204 S205 hq206 hw9 hs9
          have ea_0 : ak207 25 = ak194 25 := hk8 _ (hw8.hd (hw8.2.1 _ finC_28).2.1 (by decide) (by decide))
          have ea_1 : ak207 ((p1).getD 0) = ak194 ((p1).getD 0) := hk8 _ (hw8.hd hT_b1 (by decide) (by decide))
          have hl : lv_has ls 6 [(2, .int r191), (0, .ref (ak207 25)), (1, .ref (ak207 ((p1).getD 0)))] := by simp only [ea_0, ea_1]; exact hl
          refine W.eq (g2 := F0 m 82 ls (.int r204 :: [.int r191, .ref (ak207 25)])) (by first | (simp only [ea_0, ea_1]; rfl) | simp only [ea_0, ea_1]) ?_
          have hT_b1 := hs9.T hT_b1 (by decide)
          clear hB9 hz9 hk9 hvm9 ht9 hw9 hs9 hS hL0 hL9
          generalize H1 = H at hR ⊢
          generalize dc9 = dc_ak207, ds9 = ds_ak207 at hlg ⊢
          refine lv_iconst (v := 1) hx hb dX11_addMethod_82 (by decide) ?_
          obtain ⟨Q208, h0, h⟩ := h
          have hFc := cfree hR hA
          refine W_led2 (fun hL0 => ?_)
          refine va_callv (va_runV (As := [.int r191, .int r204, .int 1]) (rest := []) ⟨hx, hb, hml, hown, hts⟩ (rX11_putMember l g ak207 H S205 r191 r204 (1 : Int32) hR.w  Q208 h0) (cwV 3 hts (gd_V kw_90 kw_258 kw_259 kw_83 kw_257) rfl rfl rfl (by decide +kernel) ⟨Nat.le_of_ble_eq_true rfl, Nat.le_of_ble_eq_true rfl⟩) ⟨cblindH, va_recv hR.K hR.P (ci := 10) (q0 := 25) rfl (hR.at50 (hR.w.2.1 _ finC_28).2.1), fun U hU hW9 => cmkH hU hW9 hR hex hE hFc⟩ rfl rfl hl.1 rfl (lv_room (Nat.le_of_ble_eq_true rfl)) dX11_addMethod_83 ⟨(show 0 + dc_ak194 + dc_ak207 + (KCC - qn S205) ≤ KCC - qn S from hlg.cm), (show 0 + ds_ak194 + ds_ak207 + (KSC - qu S205) ≤ KSC - qu S from hlg.sm)⟩) hR.sS (fun q _ h => hFc q h) hFc (fun  S209 t9 H1 locs ht9 hvm9 hw9 hB9 hz9 hk9 hS => ?_)
          rcases S209 with ⟨S209, ak211⟩
          obtain ⟨hB9, dc9, ds9, hL9, hl9⟩ := hB9
          dsimp only at hw9 hB9 hl9
          rw [ht9] at hL9
          obtain ⟨hq210, hw9, hs9, hk8⟩ := hw9
          have hw8 := hR.w
          have hak := hak.tr hk8 hlg.2.2.1
          have hE := hE.ad hk8
          have hR : RepC g ak211 A s S209 H1 locs := hR.callH ht9 hB9 hw9 hS hFc
          have hsh := hsh.tr hs9
          refine W_tight2 (hL0.tr hL9).1 (hL0.tr hL9).2.1 ?_
          have hlg := hlg.call hl9
          replace h := h  S209 hq210 hw9 hs9
          have ea_0 : ak211 25 = ak207 25 := hk8 _ (hw8.hd (hw8.2.1 _ finC_28).2.1 (by decide) (by decide))
          have ea_1 : ak211 ((p1).getD 0) = ak207 ((p1).getD 0) := hk8 _ (hw8.hd hT_b1 (by decide) (by decide))
          have hl : lv_has ls 6 [(2, .int r191), (0, .ref (ak211 25)), (1, .ref (ak211 ((p1).getD 0)))] := by simp only [ea_0, ea_1]; exact hl
          have hT_b1 := hs9.T hT_b1 (by decide)
          clear hB9 hz9 hk9 hvm9 ht9 hw9 hs9 hS hL0 hL9
          generalize H1 = H at hR ⊢
          generalize dc9 = dc_ak211, ds9 = ds_ak211 at hlg ⊢
          refine lv_aload_n hx hb dX11_addMethod_86 rfl (lv_at hl 1 rfl) ?_
          obtain ⟨Q212, h0, h⟩ := h
          have hFc := cfree hR hA
          refine W_led2 (fun hL0 => ?_)
          refine va_calli (va_runV (As := []) (rest := []) ⟨hx, hb, hml, hown, hts⟩ (rX11_layOut l g ak211 H S209 hR.w  Q212 h0) (cwV 0 hts (gd_V kw_91 kw_180 kw_181 kw_83 kw_179) rfl rfl rfl (by decide +kernel) ⟨Nat.le_of_ble_eq_true rfl, Nat.le_of_ble_eq_true rfl⟩) ⟨cblindH, va_recv hR.K hR.P (ci := 10) (q0 := 25) rfl (hR.at50 (hR.w.2.1 _ finC_28).2.1), fun U hU hW9 => cmkH hU hW9 hR hex hE hFc⟩ rfl rfl hl.1 rfl (lv_room (Nat.le_of_ble_eq_true rfl)) dX11_addMethod_87 ⟨(show 0 + dc_ak194 + dc_ak207 + dc_ak211 + (KCC - qn S209) ≤ KCC - qn S from hlg.cm), (show 0 + ds_ak194 + ds_ak207 + ds_ak211 + (KSC - qu S209) ≤ KSC - qu S from hlg.sm)⟩) hR.sS (fun q _ h => hFc q h) hFc (fun r213 S214 t9 H1 locs ht9 hvm9 hw9 hB9 hz9 hk9 hS => ?_)
          rcases S214 with ⟨S214, ak216⟩
          obtain ⟨hB9, dc9, ds9, hL9, hl9⟩ := hB9
          dsimp only at hw9 hB9 hl9
          rw [ht9] at hL9
          obtain ⟨hq215, hw9, hs9, hk8⟩ := hw9
          have hw8 := hR.w
          have hak := hak.tr hk8 hlg.2.2.1
          have hE := hE.ad hk8
          have hR : RepC g ak216 A s S214 H1 locs := hR.callH ht9 hB9 hw9 hS hFc
          have hsh := hsh.tr hs9
          refine W_tight2 (hL0.tr hL9).1 (hL0.tr hL9).2.1 ?_
          have hlg := hlg.call hl9
          replace h := h r213 S214 hq215 hw9 hs9
          have ea_0 : ak216 25 = ak211 25 := hk8 _ (hw8.hd (hw8.2.1 _ finC_28).2.1 (by decide) (by decide))
          have ea_1 : ak216 ((p1).getD 0) = ak211 ((p1).getD 0) := hk8 _ (hw8.hd hT_b1 (by decide) (by decide))
          have hl : lv_has ls 6 [(2, .int r191), (0, .ref (ak216 25)), (1, .ref (ak216 ((p1).getD 0)))] := by simp only [ea_0, ea_1]; exact hl
          have hT_b1 := hs9.T hT_b1 (by decide)
          clear hB9 hz9 hk9 hvm9 ht9 hw9 hs9 hS hL0 hL9
          generalize H1 = H at hR ⊢
          generalize dc9 = dc_ak216, ds9 = ds_ak216 at hlg ⊢
          refine lv_istore_n (lv' := [(3, .int r213), (2, .int r191), (0, .ref (ak216 25)), (1, .ref (ak216 ((p1).getD 0)))]) hx hb dX11_addMethod_90 rfl hl (by decide) rfl (fun ls hl => ?_)
          refine lv_aload_n hx hb dX11_addMethod_91 rfl (lv_at hl 2 rfl) ?_
          refine va_get (D := rD g) (ci := 10) (v := .ref (ak216 38)) (C := RX11) (T := TX11) (N := 18) hx hb hts inX11 hown hR.K hR.P 25 (hR.at50 (hR.w.2.1 _ finC_28).2.1) rfl 14 (by decide) (hts _ kw_92) (fun _ h9 => h9) (congrArg (fun z => some (vf ak216 z)) (hR.w.2.1 _ finC_21).1) dX11_addMethod_92 ?_
          refine lv_aload_n hx hb dX11_addMethod_95 rfl (lv_at hl 2 rfl) ?_
          obtain ⟨hv218, h⟩ := h
          have hT_b217 : qT S214 (qO S214 25 7) = 49 := hR.w.ref hv218 (hR.w.2.1 _ finC_28).2.1
          refine va_get (D := rD g) (ci := 10) (v := .ref (ak216 (qO S214 25 7))) (C := RX11) (T := TX11) (N := 18) hx hb hts inX11 hown hR.K hR.P 25 (hR.at50 (hR.w.2.1 _ finC_28).2.1) rfl 7 (by decide) (hts _ kw_86) (fun _ h9 => h9) (congrArg (fun z => some (vf ak216 z)) hv218) dX11_addMethod_96 ?_
          refine lv_aload_n hx hb dX11_addMethod_99 rfl (lv_at hl 2 rfl) ?_
          obtain ⟨hv220, h⟩ := h
          have hT_b219 : qT S214 (qO S214 25 15) = 47 := hR.w.ref hv220 (hR.w.2.1 _ finC_28).2.1
          refine va_get (D := rD g) (ci := 10) (v := .ref (ak216 (qO S214 25 15))) (C := RX11) (T := TX11) (N := 18) hx hb hts inX11 hown hR.K hR.P 25 (hR.at50 (hR.w.2.1 _ finC_28).2.1) rfl 15 (by decide) (hts _ kw_84) (fun _ h9 => h9) (congrArg (fun z => some (vf ak216 z)) hv220) dX11_addMethod_100 ?_
          refine lv_bipush (v := 28) hx hb dX11_addMethod_103 (by decide) ?_
          replace h := h ((hR.w.2.1 _ finC_21).2.1) (hT_b217) (hT_b219)
          obtain ⟨Q221, h0, h⟩ := h
          have hFc := cfree hR hA
          refine W_led2 (fun hL0 => ?_)
          refine va_callv (va_runV (As := [.ref (ak216 (qO S214 25 7)), .ref (ak216 (qO S214 25 15)), .int 28]) (rest := []) ⟨hx, hb, hml, hown, hts⟩ (rX4_seek l g ak216 H S214 38 (qO S214 25 7) (qO S214 25 15) (28 : Int32) hR.w (hR.w.2.1 _ finC_21).2.1 hT_b217 hT_b219 Q221 h0) (cwV 3 hts (gd_V kw_93 kw_976 kw_977 kw_167 kw_975) rfl rfl rfl (by decide +kernel) ⟨Nat.le_of_ble_eq_true rfl, Nat.le_of_ble_eq_true rfl⟩) ⟨cblindH, va_recv hR.K hR.P (ci := 4) (q0 := 38) rfl (hR.at44 (hR.w.2.1 _ finC_21).2.1), fun U hU hW9 => cmkH hU hW9 hR hex hE hFc⟩ rfl rfl hl.1 rfl (lv_room (Nat.le_of_ble_eq_true rfl)) dX11_addMethod_105 ⟨(show 0 + dc_ak194 + dc_ak207 + dc_ak211 + dc_ak216 + (KCC - qn S214) ≤ KCC - qn S from hlg.cm), (show 0 + ds_ak194 + ds_ak207 + ds_ak211 + ds_ak216 + (KSC - qu S214) ≤ KSC - qu S from hlg.sm)⟩) hR.sS (fun q _ h => hFc q h) hFc (fun  S222 t9 H1 locs ht9 hvm9 hw9 hB9 hz9 hk9 hS => ?_)
          rcases S222 with ⟨S222, ak224⟩
          obtain ⟨hB9, dc9, ds9, hL9, hl9⟩ := hB9
          dsimp only at hw9 hB9 hl9
          rw [ht9] at hL9
          obtain ⟨hq223, hw9, hs9, hk8⟩ := hw9
          have hw8 := hR.w
          have hak := hak.tr hk8 hlg.2.2.1
          have hE := hE.ad hk8
          have hR : RepC g ak224 A s S222 H1 locs := hR.callH ht9 hB9 hw9 hS hFc
          have hsh := hsh.tr hs9
          refine W_tight2 (hL0.tr hL9).1 (hL0.tr hL9).2.1 ?_
          have hlg := hlg.call hl9
          replace h := h  S222 hq223 hw9 hs9
          have ea_0 : ak224 25 = ak216 25 := hk8 _ (hw8.hd (hw8.2.1 _ finC_28).2.1 (by decide) (by decide))
          have ea_1 : ak224 ((p1).getD 0) = ak216 ((p1).getD 0) := hk8 _ (hw8.hd hT_b1 (by decide) (by decide))
          have hl : lv_has ls 6 [(3, .int r213), (2, .int r191), (0, .ref (ak224 25)), (1, .ref (ak224 ((p1).getD 0)))] := by simp only [ea_0, ea_1]; exact hl
          have hT_b1 := hs9.T hT_b1 (by decide)
          clear hB9 hz9 hk9 hvm9 ht9 hw9 hs9 hS hL0 hL9
          generalize H1 = H at hR ⊢
          generalize dc9 = dc_ak224, ds9 = ds_ak224 at hlg ⊢
          refine lv_aload_n hx hb dX11_addMethod_108 rfl (lv_at hl 2 rfl) ?_
          refine va_get (D := rD g) (ci := 10) (v := .ref (ak224 28)) (C := RX11) (T := TX11) (N := 18) hx hb hts inX11 hown hR.K hR.P 25 (hR.at50 (hR.w.2.1 _ finC_28).2.1) rfl 1 (by decide) (hts _ kw_94) (fun _ h9 => h9) (congrArg (fun z => some (vf ak224 z)) (hR.w.2.1 _ finC_13).1) dX11_addMethod_109 ?_
          refine lv_aload_n hx hb dX11_addMethod_112 rfl (lv_at hl 2 rfl) ?_
          refine va_get (D := rD g) (ci := 10) (v := .int (qI S222 25 8)) (C := RX11) (T := TX11) (N := 18) hx hb hts inX11 hown hR.K hR.P 25 (hR.at50 (hR.w.2.1 _ finC_28).2.1) rfl 8 (by decide) (hts _ kw_95) (fun _ h9 => h9) rfl dX11_addMethod_113 ?_
          replace h := h ((hR.w.2.1 _ finC_13).2.1)
          obtain ⟨Q225, h0, h⟩ := h
          have hFc := cfree hR hA
          refine W_led2 (fun hL0 => ?_)
          refine va_callv (va_runV (As := [.int (qI S222 25 8)]) (rest := []) ⟨hx, hb, hml, hown, hts⟩ (rX0_put2 l g ak224 H S222 28 (qI S222 25 8) hR.w (hR.w.2.1 _ finC_13).2.1 Q225 h0) (cwV 1 hts (gd_V kw_96 kw_17 kw_18 kw_3 kw_16) rfl rfl rfl (by decide +kernel) ⟨Nat.le_of_ble_eq_true rfl, Nat.le_of_ble_eq_true rfl⟩) ⟨cblindH, va_recv hR.K hR.P (ci := 0) (q0 := 28) rfl (hR.at40 (hR.w.2.1 _ finC_13).2.1), fun U hU hW9 => cmkH hU hW9 hR hex hE hFc⟩ rfl rfl hl.1 rfl (lv_room (Nat.le_of_ble_eq_true rfl)) dX11_addMethod_116 ⟨(show 0 + dc_ak194 + dc_ak207 + dc_ak211 + dc_ak216 + dc_ak224 + (KCC - qn S222) ≤ KCC - qn S from hlg.cm), (show 0 + ds_ak194 + ds_ak207 + ds_ak211 + ds_ak216 + ds_ak224 + (KSC - qu S222) ≤ KSC - qu S from hlg.sm)⟩) hR.sS (fun q _ h => hFc q h) hFc (fun  S226 t9 H1 locs ht9 hvm9 hw9 hB9 hz9 hk9 hS => ?_)
          rcases S226 with ⟨S226, ak228⟩
          obtain ⟨hB9, dc9, ds9, hL9, hl9⟩ := hB9
          dsimp only at hw9 hB9 hl9
          rw [ht9] at hL9
          obtain ⟨hq227, hw9, hs9, hk8⟩ := hw9
          have hw8 := hR.w
          have hak := hak.tr hk8 hlg.2.2.1
          have hE := hE.ad hk8
          have hR : RepC g ak228 A s S226 H1 locs := hR.callH ht9 hB9 hw9 hS hFc
          have hsh := hsh.tr hs9
          refine W_tight2 (hL0.tr hL9).1 (hL0.tr hL9).2.1 ?_
          have hlg := hlg.call hl9
          replace h := h  S226 hq227 hw9 hs9
          have ea_0 : ak228 25 = ak224 25 := hk8 _ (hw8.hd (hw8.2.1 _ finC_28).2.1 (by decide) (by decide))
          have ea_1 : ak228 ((p1).getD 0) = ak224 ((p1).getD 0) := hk8 _ (hw8.hd hT_b1 (by decide) (by decide))
          have hl : lv_has ls 6 [(3, .int r213), (2, .int r191), (0, .ref (ak228 25)), (1, .ref (ak228 ((p1).getD 0)))] := by simp only [ea_0, ea_1]; exact hl
          have hT_b1 := hs9.T hT_b1 (by decide)
          clear hB9 hz9 hk9 hvm9 ht9 hw9 hs9 hS hL0 hL9
          generalize H1 = H at hR ⊢
          generalize dc9 = dc_ak228, ds9 = ds_ak228 at hlg ⊢
          refine lv_aload_n hx hb dX11_addMethod_119 rfl (lv_at hl 2 rfl) ?_
          refine va_get (D := rD g) (ci := 10) (v := .ref (ak228 28)) (C := RX11) (T := TX11) (N := 18) hx hb hts inX11 hown hR.K hR.P 25 (hR.at50 (hR.w.2.1 _ finC_28).2.1) rfl 1 (by decide) (hts _ kw_94) (fun _ h9 => h9) (congrArg (fun z => some (vf ak228 z)) (hR.w.2.1 _ finC_13).1) dX11_addMethod_120 ?_
          refine lv_bipush (v := 12) hx hb dX11_addMethod_123 (by decide) ?_
          refine lv_iload_n hx hb dX11_addMethod_125 rfl (lv_at hl 0 rfl) ?_
          refine lv_iadd hx hb dX11_addMethod_126 ?_
          refine lv_topi (fun z229 ez229 => ?_)
          obtain rfl : z229 = ((12 : Int32) + r213) := ez229
          refine lv_bipush (v := 8) hx hb dX11_addMethod_127 (by decide) ?_
          refine lv_aload_n hx hb dX11_addMethod_129 rfl (lv_at hl 2 rfl) ?_
          obtain ⟨hv231, h⟩ := h
          have hT_b230 : qT S226 (qO S226 25 15) = 47 := hR.w.ref hv231 (hR.w.2.1 _ finC_28).2.1
          refine va_get (D := rD g) (ci := 10) (v := .ref (ak228 (qO S226 25 15))) (C := RX11) (T := TX11) (N := 18) hx hb hts inX11 hown hR.K hR.P 25 (hR.at50 (hR.w.2.1 _ finC_28).2.1) rfl 15 (by decide) (hts _ kw_84) (fun _ h9 => h9) (congrArg (fun z => some (vf ak228 z)) hv231) dX11_addMethod_130 ?_
          refine va_get (D := rD g) (ci := 7) (v := .int (qI S226 (qO S226 25 15) 9)) (C := RX8) (T := TX8) (N := 15) hx hb hts inX8 hown hR.K hR.P (qO S226 25 15) (hR.at47 hT_b230) rfl 9 (by decide) (hts _ kw_97) (fun _ h9 => h9) rfl dX11_addMethod_133 ?_
          refine lv_imul hx hb dX11_addMethod_136 ?_
          refine lv_topi (fun z232 ez232 => ?_)
          obtain rfl : z232 = ((8 : Int32) * (qI S226 (qO S226 25 15) 9)) := ez232
          refine lv_iadd hx hb dX11_addMethod_137 ?_
          refine lv_topi (fun z233 ez233 => ?_)
          obtain rfl : z233 = (((12 : Int32) + r213) + ((8 : Int32) * (qI S226 (qO S226 25 15) 9))) := ez233
          replace h := h ((hR.w.2.1 _ finC_13).2.1)
          obtain ⟨Q234, h0, h⟩ := h
          have hFc := cfree hR hA
          refine W_led2 (fun hL0 => ?_)
          refine va_callv (va_runV (As := [.int (((12 : Int32) + r213) + ((8 : Int32) * (qI S226 (qO S226 25 15) 9)))]) (rest := []) ⟨hx, hb, hml, hown, hts⟩ (rX0_put4 l g ak228 H S226 28 (((12 : Int32) + r213) + ((8 : Int32) * (qI S226 (qO S226 25 15) 9))) hR.w (hR.w.2.1 _ finC_13).2.1 Q234 h0) (cwV 1 hts (gd_V kw_98 kw_21 kw_22 kw_3 kw_20) rfl rfl rfl (by decide +kernel) ⟨Nat.le_of_ble_eq_true rfl, Nat.le_of_ble_eq_true rfl⟩) ⟨cblindH, va_recv hR.K hR.P (ci := 0) (q0 := 28) rfl (hR.at40 (hR.w.2.1 _ finC_13).2.1), fun U hU hW9 => cmkH hU hW9 hR hex hE hFc⟩ rfl rfl hl.1 rfl (lv_room (Nat.le_of_ble_eq_true rfl)) dX11_addMethod_138 ⟨(show 0 + dc_ak194 + dc_ak207 + dc_ak211 + dc_ak216 + dc_ak224 + dc_ak228 + (KCC - qn S226) ≤ KCC - qn S from hlg.cm), (show 0 + ds_ak194 + ds_ak207 + ds_ak211 + ds_ak216 + ds_ak224 + ds_ak228 + (KSC - qu S226) ≤ KSC - qu S from hlg.sm)⟩) hR.sS (fun q _ h => hFc q h) hFc (fun  S235 t9 H1 locs ht9 hvm9 hw9 hB9 hz9 hk9 hS => ?_)
          rcases S235 with ⟨S235, ak237⟩
          obtain ⟨hB9, dc9, ds9, hL9, hl9⟩ := hB9
          dsimp only at hw9 hB9 hl9
          rw [ht9] at hL9
          obtain ⟨hq236, hw9, hs9, hk8⟩ := hw9
          have hw8 := hR.w
          have hak := hak.tr hk8 hlg.2.2.1
          have hE := hE.ad hk8
          have hR : RepC g ak237 A s S235 H1 locs := hR.callH ht9 hB9 hw9 hS hFc
          have hsh := hsh.tr hs9
          refine W_tight2 (hL0.tr hL9).1 (hL0.tr hL9).2.1 ?_
          have hlg := hlg.call hl9
          replace h := h  S235 hq236 hw9 hs9
          have ea_0 : ak237 25 = ak228 25 := hk8 _ (hw8.hd (hw8.2.1 _ finC_28).2.1 (by decide) (by decide))
          have ea_1 : ak237 ((p1).getD 0) = ak228 ((p1).getD 0) := hk8 _ (hw8.hd hT_b1 (by decide) (by decide))
          have hl : lv_has ls 6 [(3, .int r213), (2, .int r191), (0, .ref (ak237 25)), (1, .ref (ak237 ((p1).getD 0)))] := by simp only [ea_0, ea_1]; exact hl
          have hT_b1 := hs9.T hT_b1 (by decide)
          clear hB9 hz9 hk9 hvm9 ht9 hw9 hs9 hS hL0 hL9
          generalize H1 = H at hR ⊢
          generalize dc9 = dc_ak237, ds9 = ds_ak237 at hlg ⊢
          refine lv_aload_n hx hb dX11_addMethod_141 rfl (lv_at hl 2 rfl) ?_
          refine va_get (D := rD g) (ci := 10) (v := .ref (ak237 28)) (C := RX11) (T := TX11) (N := 18) hx hb hts inX11 hown hR.K hR.P 25 (hR.at50 (hR.w.2.1 _ finC_28).2.1) rfl 1 (by decide) (hts _ kw_94) (fun _ h9 => h9) (congrArg (fun z => some (vf ak237 z)) (hR.w.2.1 _ finC_13).1) dX11_addMethod_142 ?_
          refine lv_aload_n hx hb dX11_addMethod_145 rfl (lv_at hl 2 rfl) ?_
          refine va_get (D := rD g) (ci := 10) (v := .ref (ak237 38)) (C := RX11) (T := TX11) (N := 18) hx hb hts inX11 hown hR.K hR.P 25 (hR.at50 (hR.w.2.1 _ finC_28).2.1) rfl 14 (by decide) (hts _ kw_92) (fun _ h9 => h9) (congrArg (fun z => some (vf ak237 z)) (hR.w.2.1 _ finC_21).1) dX11_addMethod_146 ?_
          refine va_get (D := rD g) (ci := 4) (v := .int (qI S235 38 7)) (C := RX4) (T := TX4) (N := 8) hx hb hts inX4 hown hR.K hR.P 38 (hR.at44 (hR.w.2.1 _ finC_21).2.1) rfl 7 (by decide) (hts _ kw_99) (fun _ h9 => h9) rfl dX11_addMethod_149 ?_
          replace h := h ((hR.w.2.1 _ finC_13).2.1)
          obtain ⟨Q238, h0, h⟩ := h
          have hFc := cfree hR hA
          refine W_led2 (fun hL0 => ?_)
          refine va_callv (va_runV (As := [.int (qI S235 38 7)]) (rest := []) ⟨hx, hb, hml, hown, hts⟩ (rX0_put2 l g ak237 H S235 28 (qI S235 38 7) hR.w (hR.w.2.1 _ finC_13).2.1 Q238 h0) (cwV 1 hts (gd_V kw_96 kw_17 kw_18 kw_3 kw_16) rfl rfl rfl (by decide +kernel) ⟨Nat.le_of_ble_eq_true rfl, Nat.le_of_ble_eq_true rfl⟩) ⟨cblindH, va_recv hR.K hR.P (ci := 0) (q0 := 28) rfl (hR.at40 (hR.w.2.1 _ finC_13).2.1), fun U hU hW9 => cmkH hU hW9 hR hex hE hFc⟩ rfl rfl hl.1 rfl (lv_room (Nat.le_of_ble_eq_true rfl)) dX11_addMethod_152 ⟨(show 0 + dc_ak194 + dc_ak207 + dc_ak211 + dc_ak216 + dc_ak224 + dc_ak228 + dc_ak237 + (KCC - qn S235) ≤ KCC - qn S from hlg.cm), (show 0 + ds_ak194 + ds_ak207 + ds_ak211 + ds_ak216 + ds_ak224 + ds_ak228 + ds_ak237 + (KSC - qu S235) ≤ KSC - qu S from hlg.sm)⟩) hR.sS (fun q _ h => hFc q h) hFc (fun  S239 t9 H1 locs ht9 hvm9 hw9 hB9 hz9 hk9 hS => ?_)
          rcases S239 with ⟨S239, ak241⟩
          obtain ⟨hB9, dc9, ds9, hL9, hl9⟩ := hB9
          dsimp only at hw9 hB9 hl9
          rw [ht9] at hL9
          obtain ⟨hq240, hw9, hs9, hk8⟩ := hw9
          have hw8 := hR.w
          have hak := hak.tr hk8 hlg.2.2.1
          have hE := hE.ad hk8
          have hR : RepC g ak241 A s S239 H1 locs := hR.callH ht9 hB9 hw9 hS hFc
          have hsh := hsh.tr hs9
          refine W_tight2 (hL0.tr hL9).1 (hL0.tr hL9).2.1 ?_
          have hlg := hlg.call hl9
          replace h := h  S239 hq240 hw9 hs9
          have ea_0 : ak241 25 = ak237 25 := hk8 _ (hw8.hd (hw8.2.1 _ finC_28).2.1 (by decide) (by decide))
          have ea_1 : ak241 ((p1).getD 0) = ak237 ((p1).getD 0) := hk8 _ (hw8.hd hT_b1 (by decide) (by decide))
          have hl : lv_has ls 6 [(3, .int r213), (2, .int r191), (0, .ref (ak241 25)), (1, .ref (ak241 ((p1).getD 0)))] := by simp only [ea_0, ea_1]; exact hl
          have hT_b1 := hs9.T hT_b1 (by decide)
          clear hB9 hz9 hk9 hvm9 ht9 hw9 hs9 hS hL0 hL9
          generalize H1 = H at hR ⊢
          generalize dc9 = dc_ak241, ds9 = ds_ak241 at hlg ⊢
          refine lv_aload_n hx hb dX11_addMethod_155 rfl (lv_at hl 2 rfl) ?_
          refine va_get (D := rD g) (ci := 10) (v := .ref (ak241 28)) (C := RX11) (T := TX11) (N := 18) hx hb hts inX11 hown hR.K hR.P 25 (hR.at50 (hR.w.2.1 _ finC_28).2.1) rfl 1 (by decide) (hts _ kw_94) (fun _ h9 => h9) (congrArg (fun z => some (vf ak241 z)) (hR.w.2.1 _ finC_13).1) dX11_addMethod_156 ?_
          refine lv_aload_n hx hb dX11_addMethod_159 rfl (lv_at hl 2 rfl) ?_
          obtain ⟨Q242, h0, h⟩ := h
          have hFc := cfree hR hA
          refine va_calli (va_runV (As := []) (rest := [.ref (ak241 28)]) ⟨hx, hb, hml, hown, hts⟩ (rX11_leastLocals l g ak241 H.size S239 hR.w  Q242 h0) (cwV 0 hts (gd_V kw_100 kw_185 kw_186 kw_83 kw_184) rfl rfl rfl (by decide +kernel) ⟨Nat.le_of_ble_eq_true rfl, Nat.le_of_ble_eq_true rfl⟩) ⟨cblind, va_recv hR.K hR.P (ci := 10) (q0 := 25) rfl (hR.at50 (hR.w.2.1 _ finC_28).2.1), fun U hU hW9 => cmk hU hW9 hR hex hE hFc⟩ rfl rfl hl.1 rfl (lv_room (Nat.le_of_ble_eq_true rfl)) dX11_addMethod_160 ⟨(show 0 + dc_ak194 + dc_ak207 + dc_ak211 + dc_ak216 + dc_ak224 + dc_ak228 + dc_ak237 + dc_ak241 + 0 ≤ KCC - qn S from hlg.c), (show 0 + ds_ak194 + ds_ak207 + ds_ak211 + ds_ak216 + ds_ak224 + ds_ak228 + ds_ak237 + ds_ak241 + 0 ≤ KSC - qu S from hlg.s)⟩) hR.sS (fun q _ h => hFc q h) hFc (fun r243 S244 t9 H1 locs ht9 hvm9 hw9 hB9 hz9 hk9 hS => ?_)
          obtain ⟨hq245, hw9, hs9⟩ := hw9
          have hR : RepC g ak241 A s S244 H1 locs := hR.call ht9 hB9 hw9 hS hFc
          have hsh := hsh.tr hs9.1
          have hlg : lgC S S244 (0 + dc_ak194 + dc_ak207 + dc_ak211 + dc_ak216 + dc_ak224 + dc_ak228 + dc_ak237 + dc_ak241) (0 + ds_ak194 + ds_ak207 + ds_ak211 + ds_ak216 + ds_ak224 + ds_ak228 + ds_ak237 + ds_ak241) := hlg.same hs9
          replace h := h r243 S244 hq245 hw9 hs9
          have hT_b1 := hs9.T hT_b1 (by decide)
          clear hB9 hz9 hk9 hvm9 ht9 hw9 hs9 hS
          generalize H1 = H at hR ⊢
          replace h := h ((hR.w.2.1 _ finC_13).2.1)
          obtain ⟨Q246, h0, h⟩ := h
          have hFc := cfree hR hA
          refine W_led2 (fun hL0 => ?_)
          refine va_callv (va_runV (As := [.int r243]) (rest := []) ⟨hx, hb, hml, hown, hts⟩ (rX0_put2 l g ak241 H S244 28 r243 hR.w (hR.w.2.1 _ finC_13).2.1 Q246 h0) (cwV 1 hts (gd_V kw_96 kw_17 kw_18 kw_3 kw_16) rfl rfl rfl (by decide +kernel) ⟨Nat.le_of_ble_eq_true rfl, Nat.le_of_ble_eq_true rfl⟩) ⟨cblindH, va_recv hR.K hR.P (ci := 0) (q0 := 28) rfl (hR.at40 (hR.w.2.1 _ finC_13).2.1), fun U hU hW9 => cmkH hU hW9 hR hex hE hFc⟩ rfl rfl hl.1 rfl (lv_room (Nat.le_of_ble_eq_true rfl)) dX11_addMethod_163 ⟨(show 0 + dc_ak194 + dc_ak207 + dc_ak211 + dc_ak216 + dc_ak224 + dc_ak228 + dc_ak237 + dc_ak241 + (KCC - qn S244) ≤ KCC - qn S from hlg.cm), (show 0 + ds_ak194 + ds_ak207 + ds_ak211 + ds_ak216 + ds_ak224 + ds_ak228 + ds_ak237 + ds_ak241 + (KSC - qu S244) ≤ KSC - qu S from hlg.sm)⟩) hR.sS (fun q _ h => hFc q h) hFc (fun  S247 t9 H1 locs ht9 hvm9 hw9 hB9 hz9 hk9 hS => ?_)
          rcases S247 with ⟨S247, ak249⟩
          obtain ⟨hB9, dc9, ds9, hL9, hl9⟩ := hB9
          dsimp only at hw9 hB9 hl9
          rw [ht9] at hL9
          obtain ⟨hq248, hw9, hs9, hk8⟩ := hw9
          have hw8 := hR.w
          have hak := hak.tr hk8 hlg.2.2.1
          have hE := hE.ad hk8
          have hR : RepC g ak249 A s S247 H1 locs := hR.callH ht9 hB9 hw9 hS hFc
          have hsh := hsh.tr hs9
          refine W_tight2 (hL0.tr hL9).1 (hL0.tr hL9).2.1 ?_
          have hlg := hlg.call hl9
          replace h := h  S247 hq248 hw9 hs9
          have ea_0 : ak249 25 = ak241 25 := hk8 _ (hw8.hd (hw8.2.1 _ finC_28).2.1 (by decide) (by decide))
          have ea_1 : ak249 ((p1).getD 0) = ak241 ((p1).getD 0) := hk8 _ (hw8.hd hT_b1 (by decide) (by decide))
          have hl : lv_has ls 6 [(3, .int r213), (2, .int r191), (0, .ref (ak249 25)), (1, .ref (ak249 ((p1).getD 0)))] := by simp only [ea_0, ea_1]; exact hl
          have hT_b1 := hs9.T hT_b1 (by decide)
          clear hB9 hz9 hk9 hvm9 ht9 hw9 hs9 hS hL0 hL9
          generalize H1 = H at hR ⊢
          generalize dc9 = dc_ak249, ds9 = ds_ak249 at hlg ⊢
          refine lv_aload_n hx hb dX11_addMethod_166 rfl (lv_at hl 2 rfl) ?_
          refine va_get (D := rD g) (ci := 10) (v := .ref (ak249 28)) (C := RX11) (T := TX11) (N := 18) hx hb hts inX11 hown hR.K hR.P 25 (hR.at50 (hR.w.2.1 _ finC_28).2.1) rfl 1 (by decide) (hts _ kw_94) (fun _ h9 => h9) (congrArg (fun z => some (vf ak249 z)) (hR.w.2.1 _ finC_13).1) dX11_addMethod_167 ?_
          refine lv_iload_n hx hb dX11_addMethod_170 rfl (lv_at hl 0 rfl) ?_
          replace h := h ((hR.w.2.1 _ finC_13).2.1)
          obtain ⟨Q250, h0, h⟩ := h
          have hFc := cfree hR hA
          refine W_led2 (fun hL0 => ?_)
          refine va_callv (va_runV (As := [.int r213]) (rest := []) ⟨hx, hb, hml, hown, hts⟩ (rX0_put4 l g ak249 H S247 28 r213 hR.w (hR.w.2.1 _ finC_13).2.1 Q250 h0) (cwV 1 hts (gd_V kw_98 kw_21 kw_22 kw_3 kw_20) rfl rfl rfl (by decide +kernel) ⟨Nat.le_of_ble_eq_true rfl, Nat.le_of_ble_eq_true rfl⟩) ⟨cblindH, va_recv hR.K hR.P (ci := 0) (q0 := 28) rfl (hR.at40 (hR.w.2.1 _ finC_13).2.1), fun U hU hW9 => cmkH hU hW9 hR hex hE hFc⟩ rfl rfl hl.1 rfl (lv_room (Nat.le_of_ble_eq_true rfl)) dX11_addMethod_171 ⟨(show 0 + dc_ak194 + dc_ak207 + dc_ak211 + dc_ak216 + dc_ak224 + dc_ak228 + dc_ak237 + dc_ak241 + dc_ak249 + (KCC - qn S247) ≤ KCC - qn S from hlg.cm), (show 0 + ds_ak194 + ds_ak207 + ds_ak211 + ds_ak216 + ds_ak224 + ds_ak228 + ds_ak237 + ds_ak241 + ds_ak249 + (KSC - qu S247) ≤ KSC - qu S from hlg.sm)⟩) hR.sS (fun q _ h => hFc q h) hFc (fun  S251 t9 H1 locs ht9 hvm9 hw9 hB9 hz9 hk9 hS => ?_)
          rcases S251 with ⟨S251, ak253⟩
          obtain ⟨hB9, dc9, ds9, hL9, hl9⟩ := hB9
          dsimp only at hw9 hB9 hl9
          rw [ht9] at hL9
          obtain ⟨hq252, hw9, hs9, hk8⟩ := hw9
          have hw8 := hR.w
          have hak := hak.tr hk8 hlg.2.2.1
          have hE := hE.ad hk8
          have hR : RepC g ak253 A s S251 H1 locs := hR.callH ht9 hB9 hw9 hS hFc
          have hsh := hsh.tr hs9
          refine W_tight2 (hL0.tr hL9).1 (hL0.tr hL9).2.1 ?_
          have hlg := hlg.call hl9
          replace h := h  S251 hq252 hw9 hs9
          have ea_0 : ak253 25 = ak249 25 := hk8 _ (hw8.hd (hw8.2.1 _ finC_28).2.1 (by decide) (by decide))
          have ea_1 : ak253 ((p1).getD 0) = ak249 ((p1).getD 0) := hk8 _ (hw8.hd hT_b1 (by decide) (by decide))
          have hl : lv_has ls 6 [(3, .int r213), (2, .int r191), (0, .ref (ak253 25)), (1, .ref (ak253 ((p1).getD 0)))] := by simp only [ea_0, ea_1]; exact hl
          have hT_b1 := hs9.T hT_b1 (by decide)
          clear hB9 hz9 hk9 hvm9 ht9 hw9 hs9 hS hL0 hL9
          generalize H1 = H at hR ⊢
          generalize dc9 = dc_ak253, ds9 = ds_ak253 at hlg ⊢
          refine lv_aload_n hx hb dX11_addMethod_174 rfl (lv_at hl 2 rfl) ?_
          refine va_get (D := rD g) (ci := 10) (v := .ref (ak253 28)) (C := RX11) (T := TX11) (N := 18) hx hb hts inX11 hown hR.K hR.P 25 (hR.at50 (hR.w.2.1 _ finC_28).2.1) rfl 1 (by decide) (hts _ kw_94) (fun _ h9 => h9) (congrArg (fun z => some (vf ak253 z)) (hR.w.2.1 _ finC_13).1) dX11_addMethod_175 ?_
          refine va_get (D := rD g) (ci := 0) (v := .int (qI S251 28 1)) (C := RX0) (T := TX0) (N := 2) hx hb hts inX0 hown hR.K hR.P 28 (hR.at40 (hR.w.2.1 _ finC_13).2.1) rfl 1 (by decide) (hts _ kw_101) (fun _ h9 => h9) rfl dX11_addMethod_178 ?_
          obtain ⟨a254, ea254⟩ : ∃ z, z = (qI S251 28 1) := ⟨_, rfl⟩
          rw [← ea254]
          replace h := h a254 ea254
          refine lv_istore (lv' := [(4, .int a254), (3, .int r213), (2, .int r191), (0, .ref (ak253 25)), (1, .ref (ak253 ((p1).getD 0)))]) hx hb dX11_addMethod_181 hl (by decide) rfl (fun ls hl => ?_)
          refine lv_iconst (v := 0) hx hb dX11_addMethod_183 (by decide) ?_
          refine lv_istore (lv' := [(5, .int 0), (4, .int a254), (3, .int r213), (2, .int r191), (0, .ref (ak253 25)), (1, .ref (ak253 ((p1).getD 0)))]) hx hb dX11_addMethod_184 hl (by decide) rfl (fun ls hl => ?_)
          have J_186 : ∀ (n186 : Nat) (ad186 : Nat → Nat) (dc186 ds186 : Nat) (U186 : MS) (v186_4 : Int32) (v186_5 : Int32) (H : Heap) (locs : List Loc) (ls : Array Slot), w_X11_addMethod_L186 Q n186 U186 v186_4 v186_5 → shx S U186 → lgC S U186 dc186 ds186 → adk ad ad186 S → ogC ad186 A s s.heap → RepC g ad186 A s U186 H locs → lv_has ls 6 [(0, .ref (ad186 25)), (4, .int v186_4), (5, .int v186_5)] → W p l e (headSpec (wt yX11_addMethod cX11_addMethod 6 none) ({ frames := 8, cells := KCC - qn S, slots := KSC - qu S, locals := 197 })).room s m ([.ref (ad 25), vf ad p1] : List Value).toArray below meth c H locs dc186 ds186 (MQ below (va_Qv (fun (u : MS × (Nat → Nat)) => Q u.1 ∧ wfC u.1 ∧ shx S u.1 ∧ adk ad u.2 S) (fun (u : MS × (Nat → Nat)) (t : State) => qEHC g A S s.heap u t) A) ([.ref (ad 25), vf ad p1] : List Value).toArray s (KCC - qn S) (KSC - qu S) A) (F0 m 186 ls []) := by
            intro n186
            induction n186 with
            | zero => intro ad186 dc186 ds186 U186 v186_4 v186_5 H locs ls h hsh hlg hak hE hR hl; unfold w_X11_addMethod_L186 at h; exact h.elim
            | succ n186 ih_186 =>
              intro ad186 dc186 ds186 U186 v186_4 v186_5 H locs ls h hsh hlg hak hE hR hl
              unfold w_X11_addMethod_L186 at h
              replace h := h hR.w
              refine lv_iload hx hb dX11_addMethod_186 (lv_at hl 2 rfl) ?_
              refine lv_aload_n hx hb dX11_addMethod_188 rfl (lv_at hl 0 rfl) ?_
              obtain ⟨hv256, h⟩ := h
              have hT_b255 : qT U186 (qO U186 25 15) = 47 := hR.w.ref hv256 (hR.w.2.1 _ finC_28).2.1
              refine va_get (D := rD g) (ci := 10) (v := .ref (ad186 (qO U186 25 15))) (C := RX11) (T := TX11) (N := 18) hx hb hts inX11 hown hR.K hR.P 25 (hR.at50 (hR.w.2.1 _ finC_28).2.1) rfl 15 (by decide) (hts _ kw_84) (fun _ h9 => h9) (congrArg (fun z => some (vf ad186 z)) hv256) dX11_addMethod_189 ?_
              refine va_get (D := rD g) (ci := 7) (v := .int (qI U186 (qO U186 25 15) 2)) (C := RX8) (T := TX8) (N := 15) hx hb hts inX8 hown hR.K hR.P (qO U186 25 15) (hR.at47 hT_b255) rfl 2 (by decide) (hts _ kw_102) (fun _ h9 => h9) rfl dX11_addMethod_192 ?_
              refine lv_icmp_ge (tgt := 212) hx hb dX11_addMethod_195 (by decide) (fun c257 => ?_) (fun c257 => ?_)
              · replace h := h.1 (k_le rfl rfl c257)
                refine lv_aload_n hx hb dX11_addMethod_212 rfl (lv_at hl 0 rfl) ?_
                refine va_get (D := rD g) (ci := 10) (v := .ref (ad186 28)) (C := RX11) (T := TX11) (N := 18) hx hb hts inX11 hown hR.K hR.P 25 (hR.at50 (hR.w.2.1 _ finC_28).2.1) rfl 1 (by decide) (hts _ kw_94) (fun _ h9 => h9) (congrArg (fun z => some (vf ad186 z)) (hR.w.2.1 _ finC_13).1) dX11_addMethod_213 ?_
                refine lv_aload_n hx hb dX11_addMethod_216 rfl (lv_at hl 0 rfl) ?_
                obtain ⟨hv259, h⟩ := h
                have hT_b258 : qT U186 (qO U186 25 15) = 47 := hR.w.ref hv259 (hR.w.2.1 _ finC_28).2.1
                refine va_get (D := rD g) (ci := 10) (v := .ref (ad186 (qO U186 25 15))) (C := RX11) (T := TX11) (N := 18) hx hb hts inX11 hown hR.K hR.P 25 (hR.at50 (hR.w.2.1 _ finC_28).2.1) rfl 15 (by decide) (hts _ kw_84) (fun _ h9 => h9) (congrArg (fun z => some (vf ad186 z)) hv259) dX11_addMethod_217 ?_
                refine va_get (D := rD g) (ci := 7) (v := .int (qI U186 (qO U186 25 15) 9)) (C := RX8) (T := TX8) (N := 15) hx hb hts inX8 hown hR.K hR.P (qO U186 25 15) (hR.at47 hT_b258) rfl 9 (by decide) (hts _ kw_97) (fun _ h9 => h9) rfl dX11_addMethod_220 ?_
                replace h := h ((hR.w.2.1 _ finC_13).2.1)
                obtain ⟨Q260, h0, h⟩ := h
                have hFc := cfree hR hA
                refine W_led2 (fun hL0 => ?_)
                refine va_callv (va_runV (As := [.int (qI U186 (qO U186 25 15) 9)]) (rest := []) ⟨hx, hb, hml, hown, hts⟩ (rX0_put2 l g ad186 H U186 28 (qI U186 (qO U186 25 15) 9) hR.w (hR.w.2.1 _ finC_13).2.1 Q260 h0) (cwV 1 hts (gd_V kw_96 kw_17 kw_18 kw_3 kw_16) rfl rfl rfl (by decide +kernel) ⟨Nat.le_of_ble_eq_true rfl, Nat.le_of_ble_eq_true rfl⟩) ⟨cblindH, va_recv hR.K hR.P (ci := 0) (q0 := 28) rfl (hR.at40 (hR.w.2.1 _ finC_13).2.1), fun U hU hW9 => cmkH hU hW9 hR hex hE hFc⟩ rfl rfl hl.1 rfl (lv_room (Nat.le_of_ble_eq_true rfl)) dX11_addMethod_223 ⟨(show dc186 + (KCC - qn U186) ≤ KCC - qn S from hlg.cm), (show ds186 + (KSC - qu U186) ≤ KSC - qu S from hlg.sm)⟩) hR.sS (fun q _ h => hFc q h) hFc (fun  S261 t9 H1 locs ht9 hvm9 hw9 hB9 hz9 hk9 hS => ?_)
                rcases S261 with ⟨S261, ak263⟩
                obtain ⟨hB9, dc9, ds9, hL9, hl9⟩ := hB9
                dsimp only at hw9 hB9 hl9
                rw [ht9] at hL9
                obtain ⟨hq262, hw9, hs9, hk8⟩ := hw9
                have hw8 := hR.w
                have hak := hak.tr hk8 hlg.2.2.1
                have hE := hE.ad hk8
                have hR : RepC g ak263 A s S261 H1 locs := hR.callH ht9 hB9 hw9 hS hFc
                have hsh := hsh.tr hs9
                refine W_tight2 (hL0.tr hL9).1 (hL0.tr hL9).2.1 ?_
                have hlg := hlg.call hl9
                replace h := h  S261 hq262 hw9 hs9
                have ea_0 : ak263 25 = ad186 25 := hk8 _ (hw8.hd (hw8.2.1 _ finC_28).2.1 (by decide) (by decide))
                have hl : lv_has ls 6 [(0, .ref (ak263 25)), (4, .int v186_4), (5, .int v186_5)] := by simp only [ea_0]; exact hl
                clear hB9 hz9 hk9 hvm9 ht9 hw9 hs9 hS hL0 hL9
                generalize H1 = H at hR ⊢
                generalize dc9 = dc_ak263, ds9 = ds_ak263 at hlg ⊢
                refine lv_iconst (v := 0) hx hb dX11_addMethod_226 (by decide) ?_
                refine lv_istore (lv' := [(5, .int 0), (0, .ref (ak263 25)), (4, .int v186_4)]) hx hb dX11_addMethod_227 hl (by decide) rfl (fun ls hl => ?_)
                have J_229 : ∀ (n229 : Nat) (ad229 : Nat → Nat) (dc229 ds229 : Nat) (U229 : MS) (v229_5 : Int32) (H : Heap) (locs : List Loc) (ls : Array Slot), w_X11_addMethod_L229 Q n229 U229 v229_5 → shx S U229 → lgC S U229 dc229 ds229 → adk ad ad229 S → ogC ad229 A s s.heap → RepC g ad229 A s U229 H locs → lv_has ls 6 [(0, .ref (ad229 25)), (5, .int v229_5)] → W p l e (headSpec (wt yX11_addMethod cX11_addMethod 6 none) ({ frames := 8, cells := KCC - qn S, slots := KSC - qu S, locals := 197 })).room s m ([.ref (ad 25), vf ad p1] : List Value).toArray below meth c H locs dc229 ds229 (MQ below (va_Qv (fun (u : MS × (Nat → Nat)) => Q u.1 ∧ wfC u.1 ∧ shx S u.1 ∧ adk ad u.2 S) (fun (u : MS × (Nat → Nat)) (t : State) => qEHC g A S s.heap u t) A) ([.ref (ad 25), vf ad p1] : List Value).toArray s (KCC - qn S) (KSC - qu S) A) (F0 m 229 ls []) := by
                  intro n229
                  induction n229 with
                  | zero => intro ad229 dc229 ds229 U229 v229_5 H locs ls h hsh hlg hak hE hR hl; unfold w_X11_addMethod_L229 at h; exact h.elim
                  | succ n229 ih_229 =>
                    intro ad229 dc229 ds229 U229 v229_5 H locs ls h hsh hlg hak hE hR hl
                    unfold w_X11_addMethod_L229 at h
                    replace h := h hR.w
                    refine lv_iload hx hb dX11_addMethod_229 (lv_at hl 1 rfl) ?_
                    refine lv_aload_n hx hb dX11_addMethod_231 rfl (lv_at hl 0 rfl) ?_
                    obtain ⟨hv265, h⟩ := h
                    have hT_b264 : qT U229 (qO U229 25 15) = 47 := hR.w.ref hv265 (hR.w.2.1 _ finC_28).2.1
                    refine va_get (D := rD g) (ci := 10) (v := .ref (ad229 (qO U229 25 15))) (C := RX11) (T := TX11) (N := 18) hx hb hts inX11 hown hR.K hR.P 25 (hR.at50 (hR.w.2.1 _ finC_28).2.1) rfl 15 (by decide) (hts _ kw_84) (fun _ h9 => h9) (congrArg (fun z => some (vf ad229 z)) hv265) dX11_addMethod_232 ?_
                    refine va_get (D := rD g) (ci := 7) (v := .int (qI U229 (qO U229 25 15) 9)) (C := RX8) (T := TX8) (N := 15) hx hb hts inX8 hown hR.K hR.P (qO U229 25 15) (hR.at47 hT_b264) rfl 9 (by decide) (hts _ kw_97) (fun _ h9 => h9) rfl dX11_addMethod_235 ?_
                    refine lv_icmp_ge (tgt := 331) hx hb dX11_addMethod_238 (by decide) (fun c266 => ?_) (fun c266 => ?_)
                    · replace h := h.1 (k_le rfl rfl c266)
                      refine lv_aload_n hx hb dX11_addMethod_331 rfl (lv_at hl 0 rfl) ?_
                      refine va_get (D := rD g) (ci := 10) (v := .ref (ad229 28)) (C := RX11) (T := TX11) (N := 18) hx hb hts inX11 hown hR.K hR.P 25 (hR.at50 (hR.w.2.1 _ finC_28).2.1) rfl 1 (by decide) (hts _ kw_94) (fun _ h9 => h9) (congrArg (fun z => some (vf ad229 z)) (hR.w.2.1 _ finC_13).1) dX11_addMethod_332 ?_
                      refine lv_iconst (v := 0) hx hb dX11_addMethod_335 (by decide) ?_
                      replace h := h ((hR.w.2.1 _ finC_13).2.1)
                      obtain ⟨Q267, h0, h⟩ := h
                      have hFc := cfree hR hA
                      refine W_led2 (fun hL0 => ?_)
                      refine va_callv (va_runV (As := [.int 0]) (rest := []) ⟨hx, hb, hml, hown, hts⟩ (rX0_put2 l g ad229 H U229 28 (0 : Int32) hR.w (hR.w.2.1 _ finC_13).2.1 Q267 h0) (cwV 1 hts (gd_V kw_96 kw_17 kw_18 kw_3 kw_16) rfl rfl rfl (by decide +kernel) ⟨Nat.le_of_ble_eq_true rfl, Nat.le_of_ble_eq_true rfl⟩) ⟨cblindH, va_recv hR.K hR.P (ci := 0) (q0 := 28) rfl (hR.at40 (hR.w.2.1 _ finC_13).2.1), fun U hU hW9 => cmkH hU hW9 hR hex hE hFc⟩ rfl rfl hl.1 rfl (lv_room (Nat.le_of_ble_eq_true rfl)) dX11_addMethod_336 ⟨(show dc229 + (KCC - qn U229) ≤ KCC - qn S from hlg.cm), (show ds229 + (KSC - qu U229) ≤ KSC - qu S from hlg.sm)⟩) hR.sS (fun q _ h => hFc q h) hFc (fun  S268 t9 H1 locs ht9 hvm9 hw9 hB9 hz9 hk9 hS => ?_)
                      rcases S268 with ⟨S268, ak270⟩
                      obtain ⟨hB9, dc9, ds9, hL9, hl9⟩ := hB9
                      dsimp only at hw9 hB9 hl9
                      rw [ht9] at hL9
                      obtain ⟨hq269, hw9, hs9, hk8⟩ := hw9
                      have hw8 := hR.w
                      have hak := hak.tr hk8 hlg.2.2.1
                      have hE := hE.ad hk8
                      have hR : RepC g ak270 A s S268 H1 locs := hR.callH ht9 hB9 hw9 hS hFc
                      have hsh := hsh.tr hs9
                      refine W_tight2 (hL0.tr hL9).1 (hL0.tr hL9).2.1 ?_
                      have hlg := hlg.call hl9
                      replace h := h  S268 hq269 hw9 hs9
                      have ea_0 : ak270 25 = ad229 25 := hk8 _ (hw8.hd (hw8.2.1 _ finC_28).2.1 (by decide) (by decide))
                      have hl : lv_has ls 6 [(0, .ref (ak270 25)), (5, .int v229_5)] := by simp only [ea_0]; exact hl
                      clear hB9 hz9 hk9 hvm9 ht9 hw9 hs9 hS hL0 hL9
                      generalize H1 = H at hR ⊢
                      generalize dc9 = dc_ak270, ds9 = ds_ak270 at hlg ⊢
                      refine W_led2 (fun hLd => ?_)
                      refine W.widen (k := KCC - qn S) (n := KSC - qu S) hlg.c hlg.s ?_
                      exact W.vret hx hb hr (fun t9 ht9 hW9 => ⟨⟨(S268, ak270), rfl, ⟨h, hR.w, hsh, hak⟩, ⟨⟨by rw [ht9]; exact hR.P, hR.D⟩, _, _, by rw [ht9]; exact hLd, hlg⟩⟩, hR.sS.F ht9⟩) hR.sS.2.2 dX11_addMethod_339
                    · replace h := h.2 (k_nle rfl rfl c266)
                      refine lv_aload_n hx hb dX11_addMethod_241 rfl (lv_at hl 0 rfl) ?_
                      refine va_get (D := rD g) (ci := 10) (v := .ref (ad229 28)) (C := RX11) (T := TX11) (N := 18) hx hb hts inX11 hown hR.K hR.P 25 (hR.at50 (hR.w.2.1 _ finC_28).2.1) rfl 1 (by decide) (hts _ kw_94) (fun _ h9 => h9) (congrArg (fun z => some (vf ad229 z)) (hR.w.2.1 _ finC_13).1) dX11_addMethod_242 ?_
                      refine lv_aload_n hx hb dX11_addMethod_245 rfl (lv_at hl 0 rfl) ?_
                      refine lv_aload_n hx hb dX11_addMethod_246 rfl (lv_at hl 0 rfl) ?_
                      obtain ⟨hv272, h⟩ := h
                      have hT_b271 : qT U229 (qO U229 25 15) = 47 := hR.w.ref hv272 (hR.w.2.1 _ finC_28).2.1
                      refine va_get (D := rD g) (ci := 10) (v := .ref (ad229 (qO U229 25 15))) (C := RX11) (T := TX11) (N := 18) hx hb hts inX11 hown hR.K hR.P 25 (hR.at50 (hR.w.2.1 _ finC_28).2.1) rfl 15 (by decide) (hts _ kw_84) (fun _ h9 => h9) (congrArg (fun z => some (vf ad229 z)) hv272) dX11_addMethod_247 ?_
                      obtain ⟨hv274, h⟩ := h
                      have hT_b273 : qT U229 (qO U229 (qO U229 25 15) 5) = 224 := hR.w.ref hv274 hT_b271
                      refine va_get (D := rD g) (ci := 7) (v := .ref (ad229 (qO U229 (qO U229 25 15) 5))) (C := RX8) (T := TX8) (N := 15) hx hb hts inX8 hown hR.K hR.P (qO U229 25 15) (hR.at47 hT_b271) rfl 5 (by decide) (hts _ kw_104) (fun _ h9 => h9) (congrArg (fun z => some (vf ad229 z)) hv274) dX11_addMethod_250 ?_
                      refine lv_iload hx hb dX11_addMethod_253 (lv_at hl 1 rfl) ?_
                      obtain ⟨hv275, h⟩ := h
                      refine va_iald hx hb hR.K hR.P (qO U229 (qO U229 25 15) 5) 1 (hR.atI hT_b273 (by decide)) rfl (k_ix (x := v229_5) (a := v229_5.toInt) rfl hv275) dX11_addMethod_255 ?_
                      refine lv_topi (fun z276 ez276 => ?_)
                      obtain rfl : z276 = (qI U229 (qO U229 (qO U229 25 15) 5) v229_5.toInt.toNat) := ez276
                      obtain ⟨hv277, h⟩ := h
                      have hFc := cfree hR hA
                      refine va_calli (va_runV (As := [.int (qI U229 (qO U229 (qO U229 25 15) 5) v229_5.toInt.toNat)]) (rest := [.ref (ad229 28)]) ⟨hx, hb, hml, hown, hts⟩ (rX11_offsetOf l g ad229 H.size U229 (qI U229 (qO U229 (qO U229 25 15) 5) v229_5.toInt.toNat) hR.w  hv277) (cwV 1 hts (gd_V kw_105 kw_228 kw_229 kw_83 kw_227) rfl rfl rfl (by decide +kernel) ⟨Nat.le_of_ble_eq_true rfl, Nat.le_of_ble_eq_true rfl⟩) ⟨cblind, va_recv hR.K hR.P (ci := 10) (q0 := 25) rfl (hR.at50 (hR.w.2.1 _ finC_28).2.1), fun U hU hW9 => cmk hU hW9 hR hex hE hFc⟩ rfl rfl hl.1 rfl (lv_room (Nat.le_of_ble_eq_true rfl)) dX11_addMethod_256 ⟨(show dc229 + 0 ≤ KCC - qn S from hlg.c), (show ds229 + 0 ≤ KSC - qu S from hlg.s)⟩) hR.sS (fun q _ h => hFc q h) hFc (fun r278 u9 t9 H1 locs ht9 hvm9 hw9 hB9 hz9 hk9 hS => ?_)
                      have hR : RepC g ad229 A s U229 H1 locs := hR.call ht9 hB9 hR.w hS hFc
                      obtain rfl : r278 = (fX11_offsetOf U229 (qI U229 (qO U229 (qO U229 25 15) 5) v229_5.toInt.toNat)) := hw9
                      clear hB9 hz9 hk9 hvm9 ht9 hS
                      generalize H1 = H at hR ⊢
                      obtain ⟨a280, ea280⟩ : ∃ z, z = (fX11_offsetOf U229 (qI U229 (qO U229 (qO U229 25 15) 5) v229_5.toInt.toNat)) := ⟨_, rfl⟩
                      rw [← ea280]
                      replace h := h a280 ea280
                      replace h := h ((hR.w.2.1 _ finC_13).2.1)
                      obtain ⟨Q281, h0, h⟩ := h
                      have hFc := cfree hR hA
                      refine W_led2 (fun hL0 => ?_)
                      refine va_callv (va_runV (As := [.int a280]) (rest := []) ⟨hx, hb, hml, hown, hts⟩ (rX0_put2 l g ad229 H U229 28 a280 hR.w (hR.w.2.1 _ finC_13).2.1 Q281 h0) (cwV 1 hts (gd_V kw_96 kw_17 kw_18 kw_3 kw_16) rfl rfl rfl (by decide +kernel) ⟨Nat.le_of_ble_eq_true rfl, Nat.le_of_ble_eq_true rfl⟩) ⟨cblindH, va_recv hR.K hR.P (ci := 0) (q0 := 28) rfl (hR.at40 (hR.w.2.1 _ finC_13).2.1), fun U hU hW9 => cmkH hU hW9 hR hex hE hFc⟩ rfl rfl hl.1 rfl (lv_room (Nat.le_of_ble_eq_true rfl)) dX11_addMethod_259 ⟨(show dc229 + (KCC - qn U229) ≤ KCC - qn S from hlg.cm), (show ds229 + (KSC - qu U229) ≤ KSC - qu S from hlg.sm)⟩) hR.sS (fun q _ h => hFc q h) hFc (fun  S282 t9 H1 locs ht9 hvm9 hw9 hB9 hz9 hk9 hS => ?_)
                      rcases S282 with ⟨S282, ak284⟩
                      obtain ⟨hB9, dc9, ds9, hL9, hl9⟩ := hB9
                      dsimp only at hw9 hB9 hl9
                      rw [ht9] at hL9
                      obtain ⟨hq283, hw9, hs9, hk8⟩ := hw9
                      have hw8 := hR.w
                      have hak := hak.tr hk8 hlg.2.2.1
                      have hE := hE.ad hk8
                      have hR : RepC g ak284 A s S282 H1 locs := hR.callH ht9 hB9 hw9 hS hFc
                      have hsh := hsh.tr hs9
                      refine W_tight2 (hL0.tr hL9).1 (hL0.tr hL9).2.1 ?_
                      have hlg := hlg.call hl9
                      replace h := h  S282 hq283 hw9 hs9
                      have ea_0 : ak284 25 = ad229 25 := hk8 _ (hw8.hd (hw8.2.1 _ finC_28).2.1 (by decide) (by decide))
                      have hl : lv_has ls 6 [(0, .ref (ak284 25)), (5, .int v229_5)] := by simp only [ea_0]; exact hl
                      clear hB9 hz9 hk9 hvm9 ht9 hw9 hs9 hS hL0 hL9
                      generalize H1 = H at hR ⊢
                      generalize dc9 = dc_ak284, ds9 = ds_ak284 at hlg ⊢
                      refine lv_aload_n hx hb dX11_addMethod_262 rfl (lv_at hl 0 rfl) ?_
                      refine va_get (D := rD g) (ci := 10) (v := .ref (ak284 28)) (C := RX11) (T := TX11) (N := 18) hx hb hts inX11 hown hR.K hR.P 25 (hR.at50 (hR.w.2.1 _ finC_28).2.1) rfl 1 (by decide) (hts _ kw_94) (fun _ h9 => h9) (congrArg (fun z => some (vf ak284 z)) (hR.w.2.1 _ finC_13).1) dX11_addMethod_263 ?_
                      refine lv_aload_n hx hb dX11_addMethod_266 rfl (lv_at hl 0 rfl) ?_
                      refine lv_aload_n hx hb dX11_addMethod_267 rfl (lv_at hl 0 rfl) ?_
                      obtain ⟨hv286, h⟩ := h
                      have hT_b285 : qT S282 (qO S282 25 15) = 47 := hR.w.ref hv286 (hR.w.2.1 _ finC_28).2.1
                      refine va_get (D := rD g) (ci := 10) (v := .ref (ak284 (qO S282 25 15))) (C := RX11) (T := TX11) (N := 18) hx hb hts inX11 hown hR.K hR.P 25 (hR.at50 (hR.w.2.1 _ finC_28).2.1) rfl 15 (by decide) (hts _ kw_84) (fun _ h9 => h9) (congrArg (fun z => some (vf ak284 z)) hv286) dX11_addMethod_268 ?_
                      obtain ⟨hv288, h⟩ := h
                      have hT_b287 : qT S282 (qO S282 (qO S282 25 15) 6) = 225 := hR.w.ref hv288 hT_b285
                      refine va_get (D := rD g) (ci := 7) (v := .ref (ak284 (qO S282 (qO S282 25 15) 6))) (C := RX8) (T := TX8) (N := 15) hx hb hts inX8 hown hR.K hR.P (qO S282 25 15) (hR.at47 hT_b285) rfl 6 (by decide) (hts _ kw_106) (fun _ h9 => h9) (congrArg (fun z => some (vf ak284 z)) hv288) dX11_addMethod_271 ?_
                      refine lv_iload hx hb dX11_addMethod_274 (lv_at hl 1 rfl) ?_
                      obtain ⟨hv289, h⟩ := h
                      refine va_iald hx hb hR.K hR.P (qO S282 (qO S282 25 15) 6) 1 (hR.atI hT_b287 (by decide)) rfl (k_ix (x := v229_5) (a := v229_5.toInt) rfl hv289) dX11_addMethod_276 ?_
                      refine lv_topi (fun z290 ez290 => ?_)
                      obtain rfl : z290 = (qI S282 (qO S282 (qO S282 25 15) 6) v229_5.toInt.toNat) := ez290
                      obtain ⟨hv291, h⟩ := h
                      have hFc := cfree hR hA
                      refine va_calli (va_runV (As := [.int (qI S282 (qO S282 (qO S282 25 15) 6) v229_5.toInt.toNat)]) (rest := [.ref (ak284 28)]) ⟨hx, hb, hml, hown, hts⟩ (rX11_offsetOf l g ak284 H.size S282 (qI S282 (qO S282 (qO S282 25 15) 6) v229_5.toInt.toNat) hR.w  hv291) (cwV 1 hts (gd_V kw_105 kw_228 kw_229 kw_83 kw_227) rfl rfl rfl (by decide +kernel) ⟨Nat.le_of_ble_eq_true rfl, Nat.le_of_ble_eq_true rfl⟩) ⟨cblind, va_recv hR.K hR.P (ci := 10) (q0 := 25) rfl (hR.at50 (hR.w.2.1 _ finC_28).2.1), fun U hU hW9 => cmk hU hW9 hR hex hE hFc⟩ rfl rfl hl.1 rfl (lv_room (Nat.le_of_ble_eq_true rfl)) dX11_addMethod_277 ⟨(show dc229 + dc_ak284 + 0 ≤ KCC - qn S from hlg.c), (show ds229 + ds_ak284 + 0 ≤ KSC - qu S from hlg.s)⟩) hR.sS (fun q _ h => hFc q h) hFc (fun r292 u9 t9 H1 locs ht9 hvm9 hw9 hB9 hz9 hk9 hS => ?_)
                      have hR : RepC g ak284 A s S282 H1 locs := hR.call ht9 hB9 hR.w hS hFc
                      obtain rfl : r292 = (fX11_offsetOf S282 (qI S282 (qO S282 (qO S282 25 15) 6) v229_5.toInt.toNat)) := hw9
                      clear hB9 hz9 hk9 hvm9 ht9 hS
                      generalize H1 = H at hR ⊢
                      obtain ⟨a294, ea294⟩ : ∃ z, z = (fX11_offsetOf S282 (qI S282 (qO S282 (qO S282 25 15) 6) v229_5.toInt.toNat)) := ⟨_, rfl⟩
                      rw [← ea294]
                      replace h := h a294 ea294
                      replace h := h ((hR.w.2.1 _ finC_13).2.1)
                      obtain ⟨Q295, h0, h⟩ := h
                      have hFc := cfree hR hA
                      refine W_led2 (fun hL0 => ?_)
                      refine va_callv (va_runV (As := [.int a294]) (rest := []) ⟨hx, hb, hml, hown, hts⟩ (rX0_put2 l g ak284 H S282 28 a294 hR.w (hR.w.2.1 _ finC_13).2.1 Q295 h0) (cwV 1 hts (gd_V kw_96 kw_17 kw_18 kw_3 kw_16) rfl rfl rfl (by decide +kernel) ⟨Nat.le_of_ble_eq_true rfl, Nat.le_of_ble_eq_true rfl⟩) ⟨cblindH, va_recv hR.K hR.P (ci := 0) (q0 := 28) rfl (hR.at40 (hR.w.2.1 _ finC_13).2.1), fun U hU hW9 => cmkH hU hW9 hR hex hE hFc⟩ rfl rfl hl.1 rfl (lv_room (Nat.le_of_ble_eq_true rfl)) dX11_addMethod_280 ⟨(show dc229 + dc_ak284 + (KCC - qn S282) ≤ KCC - qn S from hlg.cm), (show ds229 + ds_ak284 + (KSC - qu S282) ≤ KSC - qu S from hlg.sm)⟩) hR.sS (fun q _ h => hFc q h) hFc (fun  S296 t9 H1 locs ht9 hvm9 hw9 hB9 hz9 hk9 hS => ?_)
                      rcases S296 with ⟨S296, ak298⟩
                      obtain ⟨hB9, dc9, ds9, hL9, hl9⟩ := hB9
                      dsimp only at hw9 hB9 hl9
                      rw [ht9] at hL9
                      obtain ⟨hq297, hw9, hs9, hk8⟩ := hw9
                      have hw8 := hR.w
                      have hak := hak.tr hk8 hlg.2.2.1
                      have hE := hE.ad hk8
                      have hR : RepC g ak298 A s S296 H1 locs := hR.callH ht9 hB9 hw9 hS hFc
                      have hsh := hsh.tr hs9
                      refine W_tight2 (hL0.tr hL9).1 (hL0.tr hL9).2.1 ?_
                      have hlg := hlg.call hl9
                      replace h := h  S296 hq297 hw9 hs9
                      have ea_0 : ak298 25 = ak284 25 := hk8 _ (hw8.hd (hw8.2.1 _ finC_28).2.1 (by decide) (by decide))
                      have hl : lv_has ls 6 [(0, .ref (ak298 25)), (5, .int v229_5)] := by simp only [ea_0]; exact hl
                      clear hB9 hz9 hk9 hvm9 ht9 hw9 hs9 hS hL0 hL9
                      generalize H1 = H at hR ⊢
                      generalize dc9 = dc_ak298, ds9 = ds_ak298 at hlg ⊢
                      refine lv_aload_n hx hb dX11_addMethod_283 rfl (lv_at hl 0 rfl) ?_
                      refine va_get (D := rD g) (ci := 10) (v := .ref (ak298 28)) (C := RX11) (T := TX11) (N := 18) hx hb hts inX11 hown hR.K hR.P 25 (hR.at50 (hR.w.2.1 _ finC_28).2.1) rfl 1 (by decide) (hts _ kw_94) (fun _ h9 => h9) (congrArg (fun z => some (vf ak298 z)) (hR.w.2.1 _ finC_13).1) dX11_addMethod_284 ?_
                      refine lv_aload_n hx hb dX11_addMethod_287 rfl (lv_at hl 0 rfl) ?_
                      refine lv_aload_n hx hb dX11_addMethod_288 rfl (lv_at hl 0 rfl) ?_
                      obtain ⟨hv300, h⟩ := h
                      have hT_b299 : qT S296 (qO S296 25 15) = 47 := hR.w.ref hv300 (hR.w.2.1 _ finC_28).2.1
                      refine va_get (D := rD g) (ci := 10) (v := .ref (ak298 (qO S296 25 15))) (C := RX11) (T := TX11) (N := 18) hx hb hts inX11 hown hR.K hR.P 25 (hR.at50 (hR.w.2.1 _ finC_28).2.1) rfl 15 (by decide) (hts _ kw_84) (fun _ h9 => h9) (congrArg (fun z => some (vf ak298 z)) hv300) dX11_addMethod_289 ?_
                      obtain ⟨hv302, h⟩ := h
                      have hT_b301 : qT S296 (qO S296 (qO S296 25 15) 7) = 226 := hR.w.ref hv302 hT_b299
                      refine va_get (D := rD g) (ci := 7) (v := .ref (ak298 (qO S296 (qO S296 25 15) 7))) (C := RX8) (T := TX8) (N := 15) hx hb hts inX8 hown hR.K hR.P (qO S296 25 15) (hR.at47 hT_b299) rfl 7 (by decide) (hts _ kw_107) (fun _ h9 => h9) (congrArg (fun z => some (vf ak298 z)) hv302) dX11_addMethod_292 ?_
                      refine lv_iload hx hb dX11_addMethod_295 (lv_at hl 1 rfl) ?_
                      obtain ⟨hv303, h⟩ := h
                      refine va_iald hx hb hR.K hR.P (qO S296 (qO S296 25 15) 7) 1 (hR.atI hT_b301 (by decide)) rfl (k_ix (x := v229_5) (a := v229_5.toInt) rfl hv303) dX11_addMethod_297 ?_
                      refine lv_topi (fun z304 ez304 => ?_)
                      obtain rfl : z304 = (qI S296 (qO S296 (qO S296 25 15) 7) v229_5.toInt.toNat) := ez304
                      obtain ⟨hv305, h⟩ := h
                      have hFc := cfree hR hA
                      refine va_calli (va_runV (As := [.int (qI S296 (qO S296 (qO S296 25 15) 7) v229_5.toInt.toNat)]) (rest := [.ref (ak298 28)]) ⟨hx, hb, hml, hown, hts⟩ (rX11_offsetOf l g ak298 H.size S296 (qI S296 (qO S296 (qO S296 25 15) 7) v229_5.toInt.toNat) hR.w  hv305) (cwV 1 hts (gd_V kw_105 kw_228 kw_229 kw_83 kw_227) rfl rfl rfl (by decide +kernel) ⟨Nat.le_of_ble_eq_true rfl, Nat.le_of_ble_eq_true rfl⟩) ⟨cblind, va_recv hR.K hR.P (ci := 10) (q0 := 25) rfl (hR.at50 (hR.w.2.1 _ finC_28).2.1), fun U hU hW9 => cmk hU hW9 hR hex hE hFc⟩ rfl rfl hl.1 rfl (lv_room (Nat.le_of_ble_eq_true rfl)) dX11_addMethod_298 ⟨(show dc229 + dc_ak284 + dc_ak298 + 0 ≤ KCC - qn S from hlg.c), (show ds229 + ds_ak284 + ds_ak298 + 0 ≤ KSC - qu S from hlg.s)⟩) hR.sS (fun q _ h => hFc q h) hFc (fun r306 u9 t9 H1 locs ht9 hvm9 hw9 hB9 hz9 hk9 hS => ?_)
                      have hR : RepC g ak298 A s S296 H1 locs := hR.call ht9 hB9 hR.w hS hFc
                      obtain rfl : r306 = (fX11_offsetOf S296 (qI S296 (qO S296 (qO S296 25 15) 7) v229_5.toInt.toNat)) := hw9
                      clear hB9 hz9 hk9 hvm9 ht9 hS
                      generalize H1 = H at hR ⊢
                      obtain ⟨a308, ea308⟩ : ∃ z, z = (fX11_offsetOf S296 (qI S296 (qO S296 (qO S296 25 15) 7) v229_5.toInt.toNat)) := ⟨_, rfl⟩
                      rw [← ea308]
                      replace h := h a308 ea308
                      replace h := h ((hR.w.2.1 _ finC_13).2.1)
                      obtain ⟨Q309, h0, h⟩ := h
                      have hFc := cfree hR hA
                      refine W_led2 (fun hL0 => ?_)
                      refine va_callv (va_runV (As := [.int a308]) (rest := []) ⟨hx, hb, hml, hown, hts⟩ (rX0_put2 l g ak298 H S296 28 a308 hR.w (hR.w.2.1 _ finC_13).2.1 Q309 h0) (cwV 1 hts (gd_V kw_96 kw_17 kw_18 kw_3 kw_16) rfl rfl rfl (by decide +kernel) ⟨Nat.le_of_ble_eq_true rfl, Nat.le_of_ble_eq_true rfl⟩) ⟨cblindH, va_recv hR.K hR.P (ci := 0) (q0 := 28) rfl (hR.at40 (hR.w.2.1 _ finC_13).2.1), fun U hU hW9 => cmkH hU hW9 hR hex hE hFc⟩ rfl rfl hl.1 rfl (lv_room (Nat.le_of_ble_eq_true rfl)) dX11_addMethod_301 ⟨(show dc229 + dc_ak284 + dc_ak298 + (KCC - qn S296) ≤ KCC - qn S from hlg.cm), (show ds229 + ds_ak284 + ds_ak298 + (KSC - qu S296) ≤ KSC - qu S from hlg.sm)⟩) hR.sS (fun q _ h => hFc q h) hFc (fun  S310 t9 H1 locs ht9 hvm9 hw9 hB9 hz9 hk9 hS => ?_)
                      rcases S310 with ⟨S310, ak312⟩
                      obtain ⟨hB9, dc9, ds9, hL9, hl9⟩ := hB9
                      dsimp only at hw9 hB9 hl9
                      rw [ht9] at hL9
                      obtain ⟨hq311, hw9, hs9, hk8⟩ := hw9
                      have hw8 := hR.w
                      have hak := hak.tr hk8 hlg.2.2.1
                      have hE := hE.ad hk8
                      have hR : RepC g ak312 A s S310 H1 locs := hR.callH ht9 hB9 hw9 hS hFc
                      have hsh := hsh.tr hs9
                      refine W_tight2 (hL0.tr hL9).1 (hL0.tr hL9).2.1 ?_
                      have hlg := hlg.call hl9
                      replace h := h  S310 hq311 hw9 hs9
                      have ea_0 : ak312 25 = ak298 25 := hk8 _ (hw8.hd (hw8.2.1 _ finC_28).2.1 (by decide) (by decide))
                      have hl : lv_has ls 6 [(0, .ref (ak312 25)), (5, .int v229_5)] := by simp only [ea_0]; exact hl
                      clear hB9 hz9 hk9 hvm9 ht9 hw9 hs9 hS hL0 hL9
                      generalize H1 = H at hR ⊢
                      generalize dc9 = dc_ak312, ds9 = ds_ak312 at hlg ⊢
                      refine lv_aload_n hx hb dX11_addMethod_304 rfl (lv_at hl 0 rfl) ?_
                      refine va_get (D := rD g) (ci := 10) (v := .ref (ak312 28)) (C := RX11) (T := TX11) (N := 18) hx hb hts inX11 hown hR.K hR.P 25 (hR.at50 (hR.w.2.1 _ finC_28).2.1) rfl 1 (by decide) (hts _ kw_94) (fun _ h9 => h9) (congrArg (fun z => some (vf ak312 z)) (hR.w.2.1 _ finC_13).1) dX11_addMethod_305 ?_
                      refine lv_aload_n hx hb dX11_addMethod_308 rfl (lv_at hl 0 rfl) ?_
                      refine lv_aload_n hx hb dX11_addMethod_309 rfl (lv_at hl 0 rfl) ?_
                      obtain ⟨hv314, h⟩ := h
                      have hT_b313 : qT S310 (qO S310 25 15) = 47 := hR.w.ref hv314 (hR.w.2.1 _ finC_28).2.1
                      refine va_get (D := rD g) (ci := 10) (v := .ref (ak312 (qO S310 25 15))) (C := RX11) (T := TX11) (N := 18) hx hb hts inX11 hown hR.K hR.P 25 (hR.at50 (hR.w.2.1 _ finC_28).2.1) rfl 15 (by decide) (hts _ kw_84) (fun _ h9 => h9) (congrArg (fun z => some (vf ak312 z)) hv314) dX11_addMethod_310 ?_
                      obtain ⟨hv316, h⟩ := h
                      have hT_b315 : qT S310 (qO S310 (qO S310 25 15) 8) = 227 := hR.w.ref hv316 hT_b313
                      refine va_get (D := rD g) (ci := 7) (v := .ref (ak312 (qO S310 (qO S310 25 15) 8))) (C := RX8) (T := TX8) (N := 15) hx hb hts inX8 hown hR.K hR.P (qO S310 25 15) (hR.at47 hT_b313) rfl 8 (by decide) (hts _ kw_108) (fun _ h9 => h9) (congrArg (fun z => some (vf ak312 z)) hv316) dX11_addMethod_313 ?_
                      refine lv_iload hx hb dX11_addMethod_316 (lv_at hl 1 rfl) ?_
                      obtain ⟨hv317, h⟩ := h
                      refine va_iald hx hb hR.K hR.P (qO S310 (qO S310 25 15) 8) 1 (hR.atI hT_b315 (by decide)) rfl (k_ix (x := v229_5) (a := v229_5.toInt) rfl hv317) dX11_addMethod_318 ?_
                      refine lv_topi (fun z318 ez318 => ?_)
                      obtain rfl : z318 = (qI S310 (qO S310 (qO S310 25 15) 8) v229_5.toInt.toNat) := ez318
                      obtain ⟨Q319, h0, h⟩ := h
                      have hFc := cfree hR hA
                      refine W_led2 (fun hL0 => ?_)
                      refine va_calli (va_runV (As := [.int (qI S310 (qO S310 (qO S310 25 15) 8) v229_5.toInt.toNat)]) (rest := [.ref (ak312 28)]) ⟨hx, hb, hml, hown, hts⟩ (rX11_classOf l g ak312 H S310 (qI S310 (qO S310 (qO S310 25 15) 8) v229_5.toInt.toNat) hR.w  Q319 h0) (cwV 1 hts (gd_V kw_109 kw_132 kw_133 kw_83 kw_131) rfl rfl rfl (by decide +kernel) ⟨Nat.le_of_ble_eq_true rfl, Nat.le_of_ble_eq_true rfl⟩) ⟨cblindH, va_recv hR.K hR.P (ci := 10) (q0 := 25) rfl (hR.at50 (hR.w.2.1 _ finC_28).2.1), fun U hU hW9 => cmkH hU hW9 hR hex hE hFc⟩ rfl rfl hl.1 rfl (lv_room (Nat.le_of_ble_eq_true rfl)) dX11_addMethod_319 ⟨(show dc229 + dc_ak284 + dc_ak298 + dc_ak312 + (KCC - qn S310) ≤ KCC - qn S from hlg.cm), (show ds229 + ds_ak284 + ds_ak298 + ds_ak312 + (KSC - qu S310) ≤ KSC - qu S from hlg.sm)⟩) hR.sS (fun q _ h => hFc q h) hFc (fun r320 S321 t9 H1 locs ht9 hvm9 hw9 hB9 hz9 hk9 hS => ?_)
                      rcases S321 with ⟨S321, ak323⟩
                      obtain ⟨hB9, dc9, ds9, hL9, hl9⟩ := hB9
                      dsimp only at hw9 hB9 hl9
                      rw [ht9] at hL9
                      obtain ⟨hq322, hw9, hs9, hk8⟩ := hw9
                      have hw8 := hR.w
                      have hak := hak.tr hk8 hlg.2.2.1
                      have hE := hE.ad hk8
                      have hR : RepC g ak323 A s S321 H1 locs := hR.callH ht9 hB9 hw9 hS hFc
                      have hsh := hsh.tr hs9
                      refine W_tight2 (hL0.tr hL9).1 (hL0.tr hL9).2.1 ?_
                      have hlg := hlg.call hl9
                      replace h := h r320 S321 hq322 hw9 hs9
                      have ea_0 : ak323 25 = ak312 25 := hk8 _ (hw8.hd (hw8.2.1 _ finC_28).2.1 (by decide) (by decide))
                      have ea_1 : ak323 28 = ak312 28 := hk8 _ (hw8.hd (hw8.2.1 _ finC_13).2.1 (by decide) (by decide))
                      have hl : lv_has ls 6 [(0, .ref (ak323 25)), (5, .int v229_5)] := by simp only [ea_0, ea_1]; exact hl
                      refine W.eq (g2 := F0 m 322 ls (.int r320 :: [.ref (ak323 28)])) (by first | (simp only [ea_0, ea_1]; rfl) | simp only [ea_0, ea_1]) ?_
                      clear hB9 hz9 hk9 hvm9 ht9 hw9 hs9 hS hL0 hL9
                      generalize H1 = H at hR ⊢
                      generalize dc9 = dc_ak323, ds9 = ds_ak323 at hlg ⊢
                      replace h := h ((hR.w.2.1 _ finC_13).2.1)
                      obtain ⟨Q324, h0, h⟩ := h
                      have hFc := cfree hR hA
                      refine W_led2 (fun hL0 => ?_)
                      refine va_callv (va_runV (As := [.int r320]) (rest := []) ⟨hx, hb, hml, hown, hts⟩ (rX0_put2 l g ak323 H S321 28 r320 hR.w (hR.w.2.1 _ finC_13).2.1 Q324 h0) (cwV 1 hts (gd_V kw_96 kw_17 kw_18 kw_3 kw_16) rfl rfl rfl (by decide +kernel) ⟨Nat.le_of_ble_eq_true rfl, Nat.le_of_ble_eq_true rfl⟩) ⟨cblindH, va_recv hR.K hR.P (ci := 0) (q0 := 28) rfl (hR.at40 (hR.w.2.1 _ finC_13).2.1), fun U hU hW9 => cmkH hU hW9 hR hex hE hFc⟩ rfl rfl hl.1 rfl (lv_room (Nat.le_of_ble_eq_true rfl)) dX11_addMethod_322 ⟨(show dc229 + dc_ak284 + dc_ak298 + dc_ak312 + dc_ak323 + (KCC - qn S321) ≤ KCC - qn S from hlg.cm), (show ds229 + ds_ak284 + ds_ak298 + ds_ak312 + ds_ak323 + (KSC - qu S321) ≤ KSC - qu S from hlg.sm)⟩) hR.sS (fun q _ h => hFc q h) hFc (fun  S325 t9 H1 locs ht9 hvm9 hw9 hB9 hz9 hk9 hS => ?_)
                      rcases S325 with ⟨S325, ak327⟩
                      obtain ⟨hB9, dc9, ds9, hL9, hl9⟩ := hB9
                      dsimp only at hw9 hB9 hl9
                      rw [ht9] at hL9
                      obtain ⟨hq326, hw9, hs9, hk8⟩ := hw9
                      have hw8 := hR.w
                      have hak := hak.tr hk8 hlg.2.2.1
                      have hE := hE.ad hk8
                      have hR : RepC g ak327 A s S325 H1 locs := hR.callH ht9 hB9 hw9 hS hFc
                      have hsh := hsh.tr hs9
                      refine W_tight2 (hL0.tr hL9).1 (hL0.tr hL9).2.1 ?_
                      have hlg := hlg.call hl9
                      replace h := h  S325 hq326 hw9 hs9
                      have ea_0 : ak327 25 = ak323 25 := hk8 _ (hw8.hd (hw8.2.1 _ finC_28).2.1 (by decide) (by decide))
                      have hl : lv_has ls 6 [(0, .ref (ak327 25)), (5, .int v229_5)] := by simp only [ea_0]; exact hl
                      clear hB9 hz9 hk9 hvm9 ht9 hw9 hs9 hS hL0 hL9
                      generalize H1 = H at hR ⊢
                      generalize dc9 = dc_ak327, ds9 = ds_ak327 at hlg ⊢
                      obtain ⟨a328, ea328⟩ : ∃ z, z = (v229_5 + Int32.ofInt 1) := ⟨_, rfl⟩
                      replace h := h a328 ea328
                      refine lv_iinc (v := a328) (lv' := [(5, .int a328), (0, .ref (ak327 25))]) hx hb dX11_addMethod_325 hl (k := 1) rfl ea328.symm (by decide) rfl (fun ls hl => ?_)
                      refine lv_goto (tgt := 229) hx hb dX11_addMethod_328 (by decide) ?_
                      exact ih_229 ak327 (dc229 + dc_ak284 + dc_ak298 + dc_ak312 + dc_ak323 + dc_ak327) (ds229 + ds_ak284 + ds_ak298 + ds_ak312 + ds_ak323 + ds_ak327) S325 a328 _ _ ls h  hsh hlg hak hE hR (lv_sub hl [1, 0] rfl)
                obtain ⟨n9, h⟩ := h
                exact J_229 n9 ak263 (dc186 + dc_ak263) (ds186 + ds_ak263) S261 0 _ _ ls h  hsh hlg hak hE hR (lv_sub hl [1, 0] rfl)
              · replace h := h.2 (k_nle rfl rfl c257)
                refine lv_aload_n hx hb dX11_addMethod_198 rfl (lv_at hl 0 rfl) ?_
                refine lv_iload hx hb dX11_addMethod_199 (lv_at hl 2 rfl) ?_
                refine lv_iload hx hb dX11_addMethod_201 (lv_at hl 1 rfl) ?_
                obtain ⟨Q329, h0, h⟩ := h
                have hFc := cfree hR hA
                refine W_led2 (fun hL0 => ?_)
                refine va_callv (va_runV (As := [.int v186_5, .int v186_4]) (rest := []) ⟨hx, hb, hml, hown, hts⟩ (rX11_putInstruction l g ad186 H U186 v186_5 v186_4 hR.w  Q329 h0) (cwV 2 hts (gd_V kw_103 kw_240 kw_241 kw_83 kw_239) rfl rfl rfl (by decide +kernel) ⟨Nat.le_of_ble_eq_true rfl, Nat.le_of_ble_eq_true rfl⟩) ⟨cblindH, va_recv hR.K hR.P (ci := 10) (q0 := 25) rfl (hR.at50 (hR.w.2.1 _ finC_28).2.1), fun U hU hW9 => cmkH hU hW9 hR hex hE hFc⟩ rfl rfl hl.1 rfl (lv_room (Nat.le_of_ble_eq_true rfl)) dX11_addMethod_203 ⟨(show dc186 + (KCC - qn U186) ≤ KCC - qn S from hlg.cm), (show ds186 + (KSC - qu U186) ≤ KSC - qu S from hlg.sm)⟩) hR.sS (fun q _ h => hFc q h) hFc (fun  S330 t9 H1 locs ht9 hvm9 hw9 hB9 hz9 hk9 hS => ?_)
                rcases S330 with ⟨S330, ak332⟩
                obtain ⟨hB9, dc9, ds9, hL9, hl9⟩ := hB9
                dsimp only at hw9 hB9 hl9
                rw [ht9] at hL9
                obtain ⟨hq331, hw9, hs9, hk8⟩ := hw9
                have hw8 := hR.w
                have hak := hak.tr hk8 hlg.2.2.1
                have hE := hE.ad hk8
                have hR : RepC g ak332 A s S330 H1 locs := hR.callH ht9 hB9 hw9 hS hFc
                have hsh := hsh.tr hs9
                refine W_tight2 (hL0.tr hL9).1 (hL0.tr hL9).2.1 ?_
                have hlg := hlg.call hl9
                replace h := h  S330 hq331 hw9 hs9
                have ea_0 : ak332 25 = ad186 25 := hk8 _ (hw8.hd (hw8.2.1 _ finC_28).2.1 (by decide) (by decide))
                have hl : lv_has ls 6 [(0, .ref (ak332 25)), (4, .int v186_4), (5, .int v186_5)] := by simp only [ea_0]; exact hl
                clear hB9 hz9 hk9 hvm9 ht9 hw9 hs9 hS hL0 hL9
                generalize H1 = H at hR ⊢
                generalize dc9 = dc_ak332, ds9 = ds_ak332 at hlg ⊢
                obtain ⟨a333, ea333⟩ : ∃ z, z = (v186_5 + Int32.ofInt 1) := ⟨_, rfl⟩
                replace h := h a333 ea333
                refine lv_iinc (v := a333) (lv' := [(5, .int a333), (0, .ref (ak332 25)), (4, .int v186_4)]) hx hb dX11_addMethod_206 hl (k := 2) rfl ea333.symm (by decide) rfl (fun ls hl => ?_)
                refine lv_goto (tgt := 186) hx hb dX11_addMethod_209 (by decide) ?_
                exact ih_186 ak332 (dc186 + dc_ak332) (ds186 + ds_ak332) S330 v186_4 a333 _ _ ls h  hsh hlg hak hE hR (lv_sub hl [1, 2, 0] rfl)
          obtain ⟨n9, h⟩ := h
          exact J_186 n9 ak253 (0 + dc_ak194 + dc_ak207 + dc_ak211 + dc_ak216 + dc_ak224 + dc_ak228 + dc_ak237 + dc_ak241 + dc_ak249 + dc_ak253) (0 + ds_ak194 + ds_ak207 + ds_ak211 + ds_ak216 + ds_ak224 + ds_ak228 + ds_ak237 + ds_ak241 + ds_ak249 + ds_ak253) S251 a254 0 _ _ ls h  hsh hlg hak hE hR (lv_sub hl [4, 1, 0] rfl)
        · replace h := h.2 (k_nlt rfl hln180 c181)
          refine W_led2 (fun hLd => ?_)
          refine W.widen (k := KCC - qn S) (n := KSC - qu S) hlg.c hlg.s ?_
          exact W.vret hx hb hr (fun t9 ht9 hW9 => ⟨⟨(S168, ad), rfl, ⟨h, hR.w, hsh, hak⟩, ⟨⟨by rw [ht9]; exact hR.P, hR.D⟩, _, _, by rw [ht9]; exact hLd, hlg⟩⟩, hR.sS.F ht9⟩) hR.sS.2.2 dX11_addMethod_40
