def w_X1_flowFrom_L114 (Q : MS → Prop) : Nat → MS → Int32 → Int32 → Int32 → Prop
  | 0, _, _, _, _ => False
  | n114 + 1, U114, v114_1, v114_2, v114_3 => (wfC U114 → ((v114_2.toInt ≤ v114_3.toInt → Q U114) ∧ (¬ v114_2.toInt ≤ v114_3.toInt → ((qR U114 16 9 = some (qO U114 16 9)) ∧ (d_X8_targetAt U114 (qO U114 16 9) v114_1 v114_3 ∧ (∀ a35 : Int32, a35 = (fX8_targetAt U114 (qO U114 16 9) v114_1 v114_3) → (∃ Q36, wX1_comeTo U114 a35 Q36 ∧ ∀ S37, Q36 S37 → wfC S37 → shy U114 S37 → (∀ a39 : Int32, a39 = (v114_3 + Int32.ofInt 1) → (w_X1_flowFrom_L114 Q n114) S37 v114_1 v114_2 a39))))))))
def w_X1_flowFrom_J103 (Q : MS → Prop) (U103 : MS) (v103_1 : Int32) : Prop := (wfC U103 → ((qR U103 16 9 = some (qO U103 16 9)) ∧ (d_X8_targetCount U103 (qO U103 16 9) v103_1 ∧ (∀ a28 : Int32, a28 = (fX8_targetCount U103 (qO U103 16 9) v103_1) → (∃ n, w_X1_flowFrom_L114 Q n U103 v103_1 a28 0)))))
def w_X1_flowFrom_J72 (Q : MS → Prop) (U72 : MS) (v72_1 : Int32) : Prop := (wfC U72 → (∃ Q7, wX1_takeUp U72 v72_1 Q7 ∧ ∀ S8, Q7 S8 → wfC S8 → shy U72 S8 → (∃ Q10, wX1_goThrough S8 v72_1 Q10 ∧ ∀ S11, Q10 S11 → wfC S11 → shy S8 S11 → ((qR S11 16 9 = some (qO S11 16 9)) ∧ (d_X8_opAt S11 (qO S11 16 9) v72_1 ∧ (∀ a18 : Int32, a18 = (fX8_opAt S11 (qO S11 16 9) v72_1) → (d_X6_goesOn S11 a18 ∧ (∀ a22 : Int32, a22 = (fX6_goesOn S11 a18) → ((a22.toInt = 0 → w_X1_flowFrom_J103 Q S11 v72_1) ∧ (¬ a22.toInt = 0 → (∃ Q42, wX1_comeTo S11 (v72_1 + (1 : Int32)) Q42 ∧ ∀ S43, Q42 S43 → wfC S43 → shy S11 S43 → w_X1_flowFrom_J103 Q S43 v72_1)))))))))))
def w_X1_flowFrom_J66 (Q : MS → Prop) (k30 : MS → Int32 → Int32 → Prop) (U66 : MS) (v66_1 : Int32) (v66_2 : Int32) : Prop := (wfC U66 → (∀ a62 : Int32, a62 = (v66_2 + Int32.ofInt 1) → k30 U66 v66_1 a62))
def w_X1_flowFrom_L30 (Q : MS → Prop) : Nat → MS → Int32 → Int32 → Prop
  | 0, _, _, _ => False
  | n30 + 1, U30, v30_1, v30_2 => (wfC U30 → ((qR U30 16 9 = some (qO U30 16 9)) ∧ (((qI U30 (qO U30 16 9) 9).toInt ≤ v30_2.toInt → w_X1_flowFrom_J72 Q U30 v30_1) ∧ (¬ (qI U30 (qO U30 16 9) 9).toInt ≤ v30_2.toInt → ((qR U30 16 9 = some (qO U30 16 9)) ∧ (d_X8_catchHas U30 (qO U30 16 9) v30_2 v30_1 ∧ (∀ a61 : Int32, a61 = (fX8_catchHas U30 (qO U30 16 9) v30_2 v30_1) → ((a61.toInt = 0 → w_X1_flowFrom_J66 Q (w_X1_flowFrom_L30 Q n30) U30 v30_1 v30_2) ∧ (¬ a61.toInt = 0 → ((qR U30 16 9 = some (qO U30 16 9)) ∧ ((qR U30 (qO U30 16 9) 7 = some (qO U30 (qO U30 16 9) 7)) ∧ (((0 : Int) ≤ v30_2.toInt ∧ v30_2.toInt < (qN U30 (qO U30 (qO U30 16 9) 7) : Int)) ∧ (∃ Q70, wX1_comeTo U30 (qI U30 (qO U30 (qO U30 16 9) 7) v30_2.toInt.toNat) Q70 ∧ ∀ S71, Q70 S71 → wfC S71 → shy U30 S71 → w_X1_flowFrom_J66 Q (w_X1_flowFrom_L30 Q n30) S71 v30_1 v30_2)))))))))))))
def wX1_flowFrom (S : MS) (x1 : Int32) (Q : MS → Prop) : Prop := ((qR S 16 9 = some (qO S 16 9)) ∧ (qT S (qO S 16 9) = 47 → (∃ Q3, wX8_isCaught S (qO S 16 9) x1 Q3 ∧ ∀ r4 S5, Q3 r4 S5 → wfC S5 → shy S S5 → ((r4.toInt = 0 → w_X1_flowFrom_J72 Q S5 x1) ∧ (¬ r4.toInt = 0 → (∃ Q46, wX1_takeUp S5 x1 Q46 ∧ ∀ S47, Q46 S47 → wfC S47 → shy S5 S47 → (∀ S49, S49 = wI S47 16 5 (1 : Int32) → qT S47 16 = 41 → wfC S49 → (∃ Q50, wX1_setPlace S49 (24 : Int32) (5 : Int32) Q50 ∧ ∀ S51, Q50 S51 → wfC S51 → shy S49 S51 → (∃ n, w_X1_flowFrom_L30 Q n S51 x1 0)))))))))
set_option maxHeartbeats 2000000 in
set_option maxRecDepth 100000 in
theorem rX1_flowFrom (l : Launch) (g : Gr) (ad : Nat → Nat) (sz : Nat) (S : MS) (x1 : Int32) (hw : wfC S) (Q : MS → Prop) (h : wX1_flowFrom S x1 Q) : Met l yX1_flowFrom (wt yX1_flowFrom cX1_flowFrom 4 none) ({ frames := 5, cells := 0, slots := 0, locals := 110 }) (va_Pc [.ref (ad 16), .int x1] (st_C g ad sz S)) (va_Qv (fun (u : MS) => Q u ∧ wfC u ∧ shy S u) (fun (u : MS) (t : State) => qEC g ad (va_A (WdC g ad S) sz) u t) (va_A (WdC g ad S) sz)) 0 0 (va_A (WdC g ad S) sz) := by
  refine Met.ofW (cc := cX1_flowFrom) (maxL := 4) (ret := none) (by decide) rfl ?_
  intro p e s m args below meth c s₁ B hml hv
  obtain ⟨rfl, hsz, hP, hK, hD0, hex, hE⟩ := hv
  have hx := B.exec
  have hb := B.bytes
  have hr := B.returns
  have hts0 := atoms_spec (ws := wt yX1_flowFrom cX1_flowFrom 4 none) B.pre
  have hts : ∀ w ∈ tb, w.before _ s = true := fun w h => hts0 w (List.mem_cons_of_mem _ h)
  have hown : s.vm.findClass RX1 = some m.cls := findClass_of_methodNamed B.named
  subst hsz
  have hD := hD0.self (sz := s.heap.size)
  generalize hAe : va_A (WdC g ad S) s.heap.size = A at hD hE ⊢
  have hA : ∀ q : Nat, s.heap.size ≤ q → A q := fun q h => by rw [← hAe]; exact Or.inr h
  have hR : RepC g ad A s S s.heap [] := ⟨hK, hP, hD, va_S.rf, hw⟩
  clear hK hP hD hD0
  have hl := lv_entry ([.ref (ad 16), .int x1]) (n := 4) (Nat.le_of_ble_eq_true rfl)
  rw [lg_entry_eq]
  generalize (lg_sl ([.ref (ad 16), .int x1]) ++ List.replicate (4 - (lg_sl ([.ref (ad 16), .int x1])).length) Slot.unset).toArray = ls at hl ⊢
  have hl : lv_has ls 4 [(0, .ref (ad 16)), (1, .int x1)] := hl
  have hsh : shy S S := shy.rf
  unfold wX1_flowFrom at h
  refine lv_aload_n hx hb dX1_flowFrom_0 rfl (lv_at hl 0 rfl) ?_
  obtain ⟨hv2, h⟩ := h
  have hT_b1 : qT S (qO S 16 9) = 47 := hR.w.ref hv2 (hR.w.2.1 _ finC_27).2.1
  refine va_get (D := rD g) (ci := 1) (v := .ref (ad (qO S 16 9))) (C := RX1) (T := TX1) (N := 10) hx hb hts inX1 hown hR.K hR.P 16 (hR.at41 (hR.w.2.1 _ finC_27).2.1) rfl 9 (by decide) (hts _ kw_479) (fun _ h9 => h9) (congrArg (fun z => some (vf ad z)) hv2) dX1_flowFrom_1 ?_
  refine lv_iload_n hx hb dX1_flowFrom_4 rfl (lv_at hl 1 rfl) ?_
  replace h := h (hT_b1)
  obtain ⟨Q3, h0, h⟩ := h
  have hFc := cfree hR hA
  refine va_calli (va_runV (As := [.int x1]) (rest := []) ⟨hx, hb, hml, hown, hts⟩ (rX8_isCaught l g ad s.heap.size S (qO S 16 9) x1 hR.w hT_b1 Q3 h0) (cwV 1 hts (gd_V kw_513 kw_1500 kw_1501 kw_782 kw_1499) rfl rfl rfl (by decide +kernel) ⟨Nat.le_of_ble_eq_true rfl, Nat.le_of_ble_eq_true rfl⟩) ⟨cblind, va_recv hR.K hR.P (ci := 7) (q0 := (qO S 16 9)) rfl (hR.at47 hT_b1), fun U hU hW9 => cmk hU hW9 hR hex hE hFc⟩ rfl rfl hl.1 rfl (lv_room (Nat.le_of_ble_eq_true rfl)) dX1_flowFrom_5 ⟨Nat.le_of_ble_eq_true rfl, Nat.le_of_ble_eq_true rfl⟩) hR.sS (fun q _ h => hFc q h) hFc (fun r4 S5 t9 H1 locs ht9 hvm9 hw9 hB9 hz9 hk9 hS => ?_)
  obtain ⟨hq6, hw9, hs9, hz_r4⟩ := hw9
  have hR : RepC g ad A s S5 H1 locs := hR.call ht9 hB9 hw9 hS hFc
  have hsh := hsh.tr hs9
  replace h := h r4 S5 hq6 hw9 hs9
  clear hB9 hz9 hk9 hvm9 ht9 hw9 hs9 hS
  generalize H1 = H at hR ⊢
  have J_72 : ∀ (U72 : MS) (v72_1 : Int32) (H : Heap) (locs : List Loc) (ls : Array Slot), w_X1_flowFrom_J72 Q U72 v72_1 → shy S U72 → RepC g ad A s U72 H locs → lv_has ls 4 [(0, .ref (ad 16)), (1, .int v72_1)] → W p l e (headSpec (wt yX1_flowFrom cX1_flowFrom 4 none) ({ frames := 5, cells := 0, slots := 0, locals := 110 })).room s m ([.ref (ad 16), .int x1] : List Value).toArray below meth c H locs 0 0 (MQ below (va_Qv (fun (u : MS) => Q u ∧ wfC u ∧ shy S u) (fun (u : MS) (t : State) => qEC g ad A u t) A) ([.ref (ad 16), .int x1] : List Value).toArray s 0 0 A) (F0 m 72 ls []) := by
    intro U72 v72_1 H locs ls h hsh hR hl
    unfold w_X1_flowFrom_J72 at h
    replace h := h hR.w
    refine lv_aload_n hx hb dX1_flowFrom_72 rfl (lv_at hl 0 rfl) ?_
    refine lv_iload_n hx hb dX1_flowFrom_73 rfl (lv_at hl 1 rfl) ?_
    obtain ⟨Q7, h0, h⟩ := h
    have hFc := cfree hR hA
    refine va_callv (va_runV (As := [.int v72_1]) (rest := []) ⟨hx, hb, hml, hown, hts⟩ (rX1_takeUp l g ad H.size U72 v72_1 hR.w  Q7 h0) (cwV 1 hts (gd_V kw_514 kw_609 kw_610 kw_392 kw_608) rfl rfl rfl (by decide +kernel) ⟨Nat.le_of_ble_eq_true rfl, Nat.le_of_ble_eq_true rfl⟩) ⟨cblind, va_recv hR.K hR.P (ci := 1) (q0 := 16) rfl (hR.at41 (hR.w.2.1 _ finC_27).2.1), fun U hU hW9 => cmk hU hW9 hR hex hE hFc⟩ rfl rfl hl.1 rfl (lv_room (Nat.le_of_ble_eq_true rfl)) dX1_flowFrom_74 ⟨Nat.le_of_ble_eq_true rfl, Nat.le_of_ble_eq_true rfl⟩) hR.sS (fun q _ h => hFc q h) hFc (fun  S8 t9 H1 locs ht9 hvm9 hw9 hB9 hz9 hk9 hS => ?_)
    obtain ⟨hq9, hw9, hs9⟩ := hw9
    have hR : RepC g ad A s S8 H1 locs := hR.call ht9 hB9 hw9 hS hFc
    have hsh := hsh.tr hs9
    replace h := h  S8 hq9 hw9 hs9
    clear hB9 hz9 hk9 hvm9 ht9 hw9 hs9 hS
    generalize H1 = H at hR ⊢
    refine lv_aload_n hx hb dX1_flowFrom_77 rfl (lv_at hl 0 rfl) ?_
    refine lv_iload_n hx hb dX1_flowFrom_78 rfl (lv_at hl 1 rfl) ?_
    obtain ⟨Q10, h0, h⟩ := h
    have hFc := cfree hR hA
    refine va_callv (va_runV (As := [.int v72_1]) (rest := []) ⟨hx, hb, hml, hown, hts⟩ (rX1_goThrough l g ad H.size S8 v72_1 hR.w  Q10 h0) (cwV 1 hts (gd_V kw_518 kw_528 kw_529 kw_392 kw_527) rfl rfl rfl (by decide +kernel) ⟨Nat.le_of_ble_eq_true rfl, Nat.le_of_ble_eq_true rfl⟩) ⟨cblind, va_recv hR.K hR.P (ci := 1) (q0 := 16) rfl (hR.at41 (hR.w.2.1 _ finC_27).2.1), fun U hU hW9 => cmk hU hW9 hR hex hE hFc⟩ rfl rfl hl.1 rfl (lv_room (Nat.le_of_ble_eq_true rfl)) dX1_flowFrom_79 ⟨Nat.le_of_ble_eq_true rfl, Nat.le_of_ble_eq_true rfl⟩) hR.sS (fun q _ h => hFc q h) hFc (fun  S11 t9 H1 locs ht9 hvm9 hw9 hB9 hz9 hk9 hS => ?_)
    obtain ⟨hq12, hw9, hs9⟩ := hw9
    have hR : RepC g ad A s S11 H1 locs := hR.call ht9 hB9 hw9 hS hFc
    have hsh := hsh.tr hs9
    replace h := h  S11 hq12 hw9 hs9
    clear hB9 hz9 hk9 hvm9 ht9 hw9 hs9 hS
    generalize H1 = H at hR ⊢
    refine lv_aload_n hx hb dX1_flowFrom_82 rfl (lv_at hl 0 rfl) ?_
    obtain ⟨hv14, h⟩ := h
    have hT_b13 : qT S11 (qO S11 16 9) = 47 := hR.w.ref hv14 (hR.w.2.1 _ finC_27).2.1
    refine va_get (D := rD g) (ci := 1) (v := .ref (ad (qO S11 16 9))) (C := RX1) (T := TX1) (N := 10) hx hb hts inX1 hown hR.K hR.P 16 (hR.at41 (hR.w.2.1 _ finC_27).2.1) rfl 9 (by decide) (hts _ kw_479) (fun _ h9 => h9) (congrArg (fun z => some (vf ad z)) hv14) dX1_flowFrom_83 ?_
    refine lv_iload_n hx hb dX1_flowFrom_86 rfl (lv_at hl 1 rfl) ?_
    obtain ⟨hv15, h⟩ := h
    have hFc := cfree hR hA
    refine va_calli (va_runV (As := [.int v72_1]) (rest := []) ⟨hx, hb, hml, hown, hts⟩ (rX8_opAt l g ad H.size S11 (qO S11 16 9) v72_1 hR.w hT_b13 hv15) (cwV 1 hts (gd_V kw_519 kw_1513 kw_1514 kw_782 kw_1512) rfl rfl rfl (by decide +kernel) ⟨Nat.le_of_ble_eq_true rfl, Nat.le_of_ble_eq_true rfl⟩) ⟨cblind, va_recv hR.K hR.P (ci := 7) (q0 := (qO S11 16 9)) rfl (hR.at47 hT_b13), fun U hU hW9 => cmk hU hW9 hR hex hE hFc⟩ rfl rfl hl.1 rfl (lv_room (Nat.le_of_ble_eq_true rfl)) dX1_flowFrom_87 ⟨Nat.le_of_ble_eq_true rfl, Nat.le_of_ble_eq_true rfl⟩) hR.sS (fun q _ h => hFc q h) hFc (fun r16 u9 t9 H1 locs ht9 hvm9 hw9 hB9 hz9 hk9 hS => ?_)
    have hR : RepC g ad A s S11 H1 locs := hR.call ht9 hB9 hR.w hS hFc
    obtain rfl : r16 = (fX8_opAt S11 (qO S11 16 9) v72_1) := hw9
    clear hB9 hz9 hk9 hvm9 ht9 hS
    generalize H1 = H at hR ⊢
    obtain ⟨a18, ea18⟩ : ∃ z, z = (fX8_opAt S11 (qO S11 16 9) v72_1) := ⟨_, rfl⟩
    rw [← ea18]
    replace h := h a18 ea18
    obtain ⟨hv19, h⟩ := h
    have hFc := cfree hR hA
    refine va_calli (va_runS (As := [.int a18]) (rest := []) ⟨hx, hb, hml, hown, hts⟩ (rX6_goesOn l g ad H.size S11 a18 hR.w  hv19) (va_cwS 1 hts (gd_S kw_520 kw_1219 kw_1207 kw_1218) rfl rfl rfl (by decide +kernel) ⟨Nat.le_of_ble_eq_true rfl, Nat.le_of_ble_eq_true rfl⟩) ⟨cblind, fun U hU hW9 => cmk hU hW9 hR hex hE hFc⟩ rfl rfl hl.1 rfl (lv_room (Nat.le_of_ble_eq_true rfl)) dX1_flowFrom_90 ⟨Nat.le_of_ble_eq_true rfl, Nat.le_of_ble_eq_true rfl⟩) hR.sS (fun q _ h => hFc q h) hFc (fun r20 u9 t9 H1 locs ht9 hvm9 hw9 hB9 hz9 hk9 hS => ?_)
    have hR : RepC g ad A s S11 H1 locs := hR.call ht9 hB9 hR.w hS hFc
    obtain ⟨rfl, hz_r20⟩ := hw9
    clear hB9 hz9 hk9 hvm9 ht9 hS
    generalize H1 = H at hR ⊢
    obtain ⟨a22, ea22⟩ : ∃ z, z = (fX6_goesOn S11 a18) := ⟨_, rfl⟩
    rw [← ea22]
    replace h := h a22 ea22
    rw [← ea22] at hz_r20
    have J_103 : ∀ (U103 : MS) (v103_1 : Int32) (H : Heap) (locs : List Loc) (ls : Array Slot), w_X1_flowFrom_J103 Q U103 v103_1 → shy S U103 → RepC g ad A s U103 H locs → lv_has ls 4 [(0, .ref (ad 16)), (1, .int v103_1)] → W p l e (headSpec (wt yX1_flowFrom cX1_flowFrom 4 none) ({ frames := 5, cells := 0, slots := 0, locals := 110 })).room s m ([.ref (ad 16), .int x1] : List Value).toArray below meth c H locs 0 0 (MQ below (va_Qv (fun (u : MS) => Q u ∧ wfC u ∧ shy S u) (fun (u : MS) (t : State) => qEC g ad A u t) A) ([.ref (ad 16), .int x1] : List Value).toArray s 0 0 A) (F0 m 103 ls []) := by
      intro U103 v103_1 H locs ls h hsh hR hl
      unfold w_X1_flowFrom_J103 at h
      replace h := h hR.w
      refine lv_aload_n hx hb dX1_flowFrom_103 rfl (lv_at hl 0 rfl) ?_
      obtain ⟨hv24, h⟩ := h
      have hT_b23 : qT U103 (qO U103 16 9) = 47 := hR.w.ref hv24 (hR.w.2.1 _ finC_27).2.1
      refine va_get (D := rD g) (ci := 1) (v := .ref (ad (qO U103 16 9))) (C := RX1) (T := TX1) (N := 10) hx hb hts inX1 hown hR.K hR.P 16 (hR.at41 (hR.w.2.1 _ finC_27).2.1) rfl 9 (by decide) (hts _ kw_479) (fun _ h9 => h9) (congrArg (fun z => some (vf ad z)) hv24) dX1_flowFrom_104 ?_
      refine lv_iload_n hx hb dX1_flowFrom_107 rfl (lv_at hl 1 rfl) ?_
      obtain ⟨hv25, h⟩ := h
      have hFc := cfree hR hA
      refine va_calli (va_runV (As := [.int v103_1]) (rest := []) ⟨hx, hb, hml, hown, hts⟩ (rX8_targetCount l g ad H.size U103 (qO U103 16 9) v103_1 hR.w hT_b23 hv25) (cwV 1 hts (gd_V kw_521 kw_1541 kw_1542 kw_782 kw_1540) rfl rfl rfl (by decide +kernel) ⟨Nat.le_of_ble_eq_true rfl, Nat.le_of_ble_eq_true rfl⟩) ⟨cblind, va_recv hR.K hR.P (ci := 7) (q0 := (qO U103 16 9)) rfl (hR.at47 hT_b23), fun U hU hW9 => cmk hU hW9 hR hex hE hFc⟩ rfl rfl hl.1 rfl (lv_room (Nat.le_of_ble_eq_true rfl)) dX1_flowFrom_108 ⟨Nat.le_of_ble_eq_true rfl, Nat.le_of_ble_eq_true rfl⟩) hR.sS (fun q _ h => hFc q h) hFc (fun r26 u9 t9 H1 locs ht9 hvm9 hw9 hB9 hz9 hk9 hS => ?_)
      have hR : RepC g ad A s U103 H1 locs := hR.call ht9 hB9 hR.w hS hFc
      obtain rfl : r26 = (fX8_targetCount U103 (qO U103 16 9) v103_1) := hw9
      clear hB9 hz9 hk9 hvm9 ht9 hS
      generalize H1 = H at hR ⊢
      obtain ⟨a28, ea28⟩ : ∃ z, z = (fX8_targetCount U103 (qO U103 16 9) v103_1) := ⟨_, rfl⟩
      rw [← ea28]
      replace h := h a28 ea28
      refine lv_istore_n (lv' := [(2, .int a28), (0, .ref (ad 16)), (1, .int v103_1)]) hx hb dX1_flowFrom_111 rfl hl (by decide) rfl (fun ls hl => ?_)
      refine lv_iconst (v := 0) hx hb dX1_flowFrom_112 (by decide) ?_
      refine lv_istore_n (lv' := [(3, .int 0), (2, .int a28), (0, .ref (ad 16)), (1, .int v103_1)]) hx hb dX1_flowFrom_113 rfl hl (by decide) rfl (fun ls hl => ?_)
      have J_114 : ∀ (n114 : Nat) (U114 : MS) (v114_1 : Int32) (v114_2 : Int32) (v114_3 : Int32) (H : Heap) (locs : List Loc) (ls : Array Slot), w_X1_flowFrom_L114 Q n114 U114 v114_1 v114_2 v114_3 → shy S U114 → RepC g ad A s U114 H locs → lv_has ls 4 [(0, .ref (ad 16)), (1, .int v114_1), (2, .int v114_2), (3, .int v114_3)] → W p l e (headSpec (wt yX1_flowFrom cX1_flowFrom 4 none) ({ frames := 5, cells := 0, slots := 0, locals := 110 })).room s m ([.ref (ad 16), .int x1] : List Value).toArray below meth c H locs 0 0 (MQ below (va_Qv (fun (u : MS) => Q u ∧ wfC u ∧ shy S u) (fun (u : MS) (t : State) => qEC g ad A u t) A) ([.ref (ad 16), .int x1] : List Value).toArray s 0 0 A) (F0 m 114 ls []) := by
        intro n114
        induction n114 with
        | zero => intro U114 v114_1 v114_2 v114_3 H locs ls h hsh hR hl; unfold w_X1_flowFrom_L114 at h; exact h.elim
        | succ n114 ih_114 =>
          intro U114 v114_1 v114_2 v114_3 H locs ls h hsh hR hl
          unfold w_X1_flowFrom_L114 at h
          replace h := h hR.w
          refine lv_iload_n hx hb dX1_flowFrom_114 rfl (lv_at hl 3 rfl) ?_
          refine lv_iload_n hx hb dX1_flowFrom_115 rfl (lv_at hl 2 rfl) ?_
          refine lv_icmp_ge (tgt := 138) hx hb dX1_flowFrom_116 (by decide) (fun c29 => ?_) (fun c29 => ?_)
          · replace h := h.1 (k_le rfl rfl c29)
            exact W.vret hx hb hr (fun t9 ht9 hW9 => ⟨⟨U114, rfl, ⟨h, hR.w, hsh⟩, ⟨by rw [ht9]; exact hR.P, hR.D⟩⟩, hR.sS.F ht9⟩) hR.sS.2.2 dX1_flowFrom_138
          · replace h := h.2 (k_nle rfl rfl c29)
            refine lv_aload_n hx hb dX1_flowFrom_119 rfl (lv_at hl 0 rfl) ?_
            refine lv_aload_n hx hb dX1_flowFrom_120 rfl (lv_at hl 0 rfl) ?_
            obtain ⟨hv31, h⟩ := h
            have hT_b30 : qT U114 (qO U114 16 9) = 47 := hR.w.ref hv31 (hR.w.2.1 _ finC_27).2.1
            refine va_get (D := rD g) (ci := 1) (v := .ref (ad (qO U114 16 9))) (C := RX1) (T := TX1) (N := 10) hx hb hts inX1 hown hR.K hR.P 16 (hR.at41 (hR.w.2.1 _ finC_27).2.1) rfl 9 (by decide) (hts _ kw_479) (fun _ h9 => h9) (congrArg (fun z => some (vf ad z)) hv31) dX1_flowFrom_121 ?_
            refine lv_iload_n hx hb dX1_flowFrom_124 rfl (lv_at hl 1 rfl) ?_
            refine lv_iload_n hx hb dX1_flowFrom_125 rfl (lv_at hl 3 rfl) ?_
            obtain ⟨hv32, h⟩ := h
            have hFc := cfree hR hA
            refine va_calli (va_runV (As := [.int v114_1, .int v114_3]) (rest := [.ref (ad 16)]) ⟨hx, hb, hml, hown, hts⟩ (rX8_targetAt l g ad H.size U114 (qO U114 16 9) v114_1 v114_3 hR.w hT_b30 hv32) (cwV 2 hts (gd_V kw_522 kw_1537 kw_1538 kw_782 kw_1536) rfl rfl rfl (by decide +kernel) ⟨Nat.le_of_ble_eq_true rfl, Nat.le_of_ble_eq_true rfl⟩) ⟨cblind, va_recv hR.K hR.P (ci := 7) (q0 := (qO U114 16 9)) rfl (hR.at47 hT_b30), fun U hU hW9 => cmk hU hW9 hR hex hE hFc⟩ rfl rfl hl.1 rfl (lv_room (Nat.le_of_ble_eq_true rfl)) dX1_flowFrom_126 ⟨Nat.le_of_ble_eq_true rfl, Nat.le_of_ble_eq_true rfl⟩) hR.sS (fun q _ h => hFc q h) hFc (fun r33 u9 t9 H1 locs ht9 hvm9 hw9 hB9 hz9 hk9 hS => ?_)
            have hR : RepC g ad A s U114 H1 locs := hR.call ht9 hB9 hR.w hS hFc
            obtain rfl : r33 = (fX8_targetAt U114 (qO U114 16 9) v114_1 v114_3) := hw9
            clear hB9 hz9 hk9 hvm9 ht9 hS
            generalize H1 = H at hR ⊢
            obtain ⟨a35, ea35⟩ : ∃ z, z = (fX8_targetAt U114 (qO U114 16 9) v114_1 v114_3) := ⟨_, rfl⟩
            rw [← ea35]
            replace h := h a35 ea35
            obtain ⟨Q36, h0, h⟩ := h
            have hFc := cfree hR hA
            refine va_callv (va_runV (As := [.int a35]) (rest := []) ⟨hx, hb, hml, hown, hts⟩ (rX1_comeTo l g ad H.size U114 a35 hR.w  Q36 h0) (cwV 1 hts (gd_V kw_487 kw_489 kw_490 kw_392 kw_488) rfl rfl rfl (by decide +kernel) ⟨Nat.le_of_ble_eq_true rfl, Nat.le_of_ble_eq_true rfl⟩) ⟨cblind, va_recv hR.K hR.P (ci := 1) (q0 := 16) rfl (hR.at41 (hR.w.2.1 _ finC_27).2.1), fun U hU hW9 => cmk hU hW9 hR hex hE hFc⟩ rfl rfl hl.1 rfl (lv_room (Nat.le_of_ble_eq_true rfl)) dX1_flowFrom_129 ⟨Nat.le_of_ble_eq_true rfl, Nat.le_of_ble_eq_true rfl⟩) hR.sS (fun q _ h => hFc q h) hFc (fun  S37 t9 H1 locs ht9 hvm9 hw9 hB9 hz9 hk9 hS => ?_)
            obtain ⟨hq38, hw9, hs9⟩ := hw9
            have hR : RepC g ad A s S37 H1 locs := hR.call ht9 hB9 hw9 hS hFc
            have hsh := hsh.tr hs9
            replace h := h  S37 hq38 hw9 hs9
            clear hB9 hz9 hk9 hvm9 ht9 hw9 hs9 hS
            generalize H1 = H at hR ⊢
            obtain ⟨a39, ea39⟩ : ∃ z, z = (v114_3 + Int32.ofInt 1) := ⟨_, rfl⟩
            replace h := h a39 ea39
            refine lv_iinc (v := a39) (lv' := [(3, .int a39), (0, .ref (ad 16)), (1, .int v114_1), (2, .int v114_2)]) hx hb dX1_flowFrom_132 hl (k := 3) rfl ea39.symm (by decide) rfl (fun ls hl => ?_)
            refine lv_goto (tgt := 114) hx hb dX1_flowFrom_135 (by decide) ?_
            exact ih_114 S37 v114_1 v114_2 a39 _ _ ls h  hsh hR (lv_sub hl [1, 2, 3, 0] rfl)
      obtain ⟨n9, h⟩ := h
      exact J_114 n9 U103 v103_1 a28 0 _ _ ls h  hsh hR (lv_sub hl [2, 3, 1, 0] rfl)
    refine lv_if_eq (tgt := 103) hx hb dX1_flowFrom_93 (by decide) (fun c40 => ?_) (fun c40 => ?_)
    · replace h := h.1 (k_eq rfl (by decide) c40)
      exact J_103 S11 v72_1 _ _ ls h  hsh hR (lv_sub hl [0, 1] rfl)
    · replace h := h.2 (k_ne rfl (by decide) c40)
      refine lv_aload_n hx hb dX1_flowFrom_96 rfl (lv_at hl 0 rfl) ?_
      refine lv_iload_n hx hb dX1_flowFrom_97 rfl (lv_at hl 1 rfl) ?_
      refine lv_iconst (v := 1) hx hb dX1_flowFrom_98 (by decide) ?_
      refine lv_iadd hx hb dX1_flowFrom_99 ?_
      refine lv_topi (fun z41 ez41 => ?_)
      obtain rfl : z41 = (v72_1 + (1 : Int32)) := ez41
      obtain ⟨Q42, h0, h⟩ := h
      have hFc := cfree hR hA
      refine va_callv (va_runV (As := [.int (v72_1 + (1 : Int32))]) (rest := []) ⟨hx, hb, hml, hown, hts⟩ (rX1_comeTo l g ad H.size S11 (v72_1 + (1 : Int32)) hR.w  Q42 h0) (cwV 1 hts (gd_V kw_487 kw_489 kw_490 kw_392 kw_488) rfl rfl rfl (by decide +kernel) ⟨Nat.le_of_ble_eq_true rfl, Nat.le_of_ble_eq_true rfl⟩) ⟨cblind, va_recv hR.K hR.P (ci := 1) (q0 := 16) rfl (hR.at41 (hR.w.2.1 _ finC_27).2.1), fun U hU hW9 => cmk hU hW9 hR hex hE hFc⟩ rfl rfl hl.1 rfl (lv_room (Nat.le_of_ble_eq_true rfl)) dX1_flowFrom_100 ⟨Nat.le_of_ble_eq_true rfl, Nat.le_of_ble_eq_true rfl⟩) hR.sS (fun q _ h => hFc q h) hFc (fun  S43 t9 H1 locs ht9 hvm9 hw9 hB9 hz9 hk9 hS => ?_)
      obtain ⟨hq44, hw9, hs9⟩ := hw9
      have hR : RepC g ad A s S43 H1 locs := hR.call ht9 hB9 hw9 hS hFc
      have hsh := hsh.tr hs9
      replace h := h  S43 hq44 hw9 hs9
      clear hB9 hz9 hk9 hvm9 ht9 hw9 hs9 hS
      generalize H1 = H at hR ⊢
      exact J_103 S43 v72_1 _ _ ls h  hsh hR (lv_sub hl [0, 1] rfl)
  refine lv_if_eq (tgt := 72) hx hb dX1_flowFrom_8 (by decide) (fun c45 => ?_) (fun c45 => ?_)
  · replace h := h.1 (k_eq rfl (by decide) c45)
    exact J_72 S5 x1 _ _ ls h  hsh hR (lv_sub hl [0, 1] rfl)
  · replace h := h.2 (k_ne rfl (by decide) c45)
    refine lv_aload_n hx hb dX1_flowFrom_11 rfl (lv_at hl 0 rfl) ?_
    refine lv_iload_n hx hb dX1_flowFrom_12 rfl (lv_at hl 1 rfl) ?_
    obtain ⟨Q46, h0, h⟩ := h
    have hFc := cfree hR hA
    refine va_callv (va_runV (As := [.int x1]) (rest := []) ⟨hx, hb, hml, hown, hts⟩ (rX1_takeUp l g ad H.size S5 x1 hR.w  Q46 h0) (cwV 1 hts (gd_V kw_514 kw_609 kw_610 kw_392 kw_608) rfl rfl rfl (by decide +kernel) ⟨Nat.le_of_ble_eq_true rfl, Nat.le_of_ble_eq_true rfl⟩) ⟨cblind, va_recv hR.K hR.P (ci := 1) (q0 := 16) rfl (hR.at41 (hR.w.2.1 _ finC_27).2.1), fun U hU hW9 => cmk hU hW9 hR hex hE hFc⟩ rfl rfl hl.1 rfl (lv_room (Nat.le_of_ble_eq_true rfl)) dX1_flowFrom_13 ⟨Nat.le_of_ble_eq_true rfl, Nat.le_of_ble_eq_true rfl⟩) hR.sS (fun q _ h => hFc q h) hFc (fun  S47 t9 H1 locs ht9 hvm9 hw9 hB9 hz9 hk9 hS => ?_)
    obtain ⟨hq48, hw9, hs9⟩ := hw9
    have hR : RepC g ad A s S47 H1 locs := hR.call ht9 hB9 hw9 hS hFc
    have hsh := hsh.tr hs9
    replace h := h  S47 hq48 hw9 hs9
    clear hB9 hz9 hk9 hvm9 ht9 hw9 hs9 hS
    generalize H1 = H at hR ⊢
    refine lv_aload_n hx hb dX1_flowFrom_16 rfl (lv_at hl 0 rfl) ?_
    refine lv_iconst (v := 1) hx hb dX1_flowFrom_17 (by decide) ?_
    refine va_put (D := rD g) (ci := 1) (v := .int 1) (ty := .int) (C := RX1) (T := TX1) (N := 10) hx hb hts inX1 tyX1 tyX1_ok nmX1 hown hR.K hR.P hR.D hR.sS 16 (hR.at41 (hR.w.2.1 _ finC_27).2.1) rfl 5 (by decide) (hts _ kw_486) (fun _ h9 => h9) rfl (by decide +kernel) rfl rfl (Nat.le_of_ble_eq_true rfl) dX1_flowFrom_18 (fun H locs hP hD hS => ?_)
    have hTk9 : qT S47 16 = 41 := (hR.w.2.1 _ finC_27).2.1
    have hR : RepC g ad A s (wI S47 16 5 (1 : Int32)) H locs := hR.pI41 (hR.w.2.1 _ finC_27).2.1 FX1_s5 (fun q9 => absurd q9 (by decide)) hP hD hS
    obtain ⟨S49, eS49⟩ : ∃ z, z = wI S47 16 5 (1 : Int32) := ⟨_, rfl⟩
    rw [← eS49] at hR
    replace h := h S49 eS49 hTk9 hR.w
    have hsh : shy S S49 := by rw [eS49]; exact hsh
    refine lv_aload_n hx hb dX1_flowFrom_21 rfl (lv_at hl 0 rfl) ?_
    refine lv_bipush (v := 24) hx hb dX1_flowFrom_22 (by decide) ?_
    refine lv_iconst (v := 5) hx hb dX1_flowFrom_24 (by decide) ?_
    obtain ⟨Q50, h0, h⟩ := h
    have hFc := cfree hR hA
    refine va_callv (va_runV (As := [.int 24, .int 5]) (rest := []) ⟨hx, hb, hml, hown, hts⟩ (rX1_setPlace l g ad H.size S49 (24 : Int32) (5 : Int32) hR.w  Q50 h0) (cwV 2 hts (gd_V kw_485 kw_588 kw_589 kw_392 kw_587) rfl rfl rfl (by decide +kernel) ⟨Nat.le_of_ble_eq_true rfl, Nat.le_of_ble_eq_true rfl⟩) ⟨cblind, va_recv hR.K hR.P (ci := 1) (q0 := 16) rfl (hR.at41 (hR.w.2.1 _ finC_27).2.1), fun U hU hW9 => cmk hU hW9 hR hex hE hFc⟩ rfl rfl hl.1 rfl (lv_room (Nat.le_of_ble_eq_true rfl)) dX1_flowFrom_25 ⟨Nat.le_of_ble_eq_true rfl, Nat.le_of_ble_eq_true rfl⟩) hR.sS (fun q _ h => hFc q h) hFc (fun  S51 t9 H1 locs ht9 hvm9 hw9 hB9 hz9 hk9 hS => ?_)
    obtain ⟨hq52, hw9, hs9⟩ := hw9
    have hR : RepC g ad A s S51 H1 locs := hR.call ht9 hB9 hw9 hS hFc
    have hsh := hsh.tr hs9
    replace h := h  S51 hq52 hw9 hs9
    clear hB9 hz9 hk9 hvm9 ht9 hw9 hs9 hS
    generalize H1 = H at hR ⊢
    refine lv_iconst (v := 0) hx hb dX1_flowFrom_28 (by decide) ?_
    refine lv_istore_n (lv' := [(2, .int 0), (0, .ref (ad 16)), (1, .int x1)]) hx hb dX1_flowFrom_29 rfl hl (by decide) rfl (fun ls hl => ?_)
    have J_30 : ∀ (n30 : Nat) (U30 : MS) (v30_1 : Int32) (v30_2 : Int32) (H : Heap) (locs : List Loc) (ls : Array Slot), w_X1_flowFrom_L30 Q n30 U30 v30_1 v30_2 → shy S U30 → RepC g ad A s U30 H locs → lv_has ls 4 [(0, .ref (ad 16)), (1, .int v30_1), (2, .int v30_2)] → W p l e (headSpec (wt yX1_flowFrom cX1_flowFrom 4 none) ({ frames := 5, cells := 0, slots := 0, locals := 110 })).room s m ([.ref (ad 16), .int x1] : List Value).toArray below meth c H locs 0 0 (MQ below (va_Qv (fun (u : MS) => Q u ∧ wfC u ∧ shy S u) (fun (u : MS) (t : State) => qEC g ad A u t) A) ([.ref (ad 16), .int x1] : List Value).toArray s 0 0 A) (F0 m 30 ls []) := by
      intro n30
      induction n30 with
      | zero => intro U30 v30_1 v30_2 H locs ls h hsh hR hl; unfold w_X1_flowFrom_L30 at h; exact h.elim
      | succ n30 ih_30 =>
        intro U30 v30_1 v30_2 H locs ls h hsh hR hl
        unfold w_X1_flowFrom_L30 at h
        replace h := h hR.w
        refine lv_iload_n hx hb dX1_flowFrom_30 rfl (lv_at hl 2 rfl) ?_
        refine lv_aload_n hx hb dX1_flowFrom_31 rfl (lv_at hl 0 rfl) ?_
        obtain ⟨hv54, h⟩ := h
        have hT_b53 : qT U30 (qO U30 16 9) = 47 := hR.w.ref hv54 (hR.w.2.1 _ finC_27).2.1
        refine va_get (D := rD g) (ci := 1) (v := .ref (ad (qO U30 16 9))) (C := RX1) (T := TX1) (N := 10) hx hb hts inX1 hown hR.K hR.P 16 (hR.at41 (hR.w.2.1 _ finC_27).2.1) rfl 9 (by decide) (hts _ kw_479) (fun _ h9 => h9) (congrArg (fun z => some (vf ad z)) hv54) dX1_flowFrom_32 ?_
        refine va_get (D := rD g) (ci := 7) (v := .int (qI U30 (qO U30 16 9) 9)) (C := RX8) (T := TX8) (N := 15) hx hb hts inX8 hown hR.K hR.P (qO U30 16 9) (hR.at47 hT_b53) rfl 9 (by decide) (hts _ kw_515) (fun _ h9 => h9) rfl dX1_flowFrom_35 ?_
        refine lv_icmp_ge (tgt := 72) hx hb dX1_flowFrom_38 (by decide) (fun c55 => ?_) (fun c55 => ?_)
        · replace h := h.1 (k_le rfl rfl c55)
          exact J_72 U30 v30_1 _ _ ls h  hsh hR (lv_sub hl [0, 1] rfl)
        · replace h := h.2 (k_nle rfl rfl c55)
          refine lv_aload_n hx hb dX1_flowFrom_41 rfl (lv_at hl 0 rfl) ?_
          obtain ⟨hv57, h⟩ := h
          have hT_b56 : qT U30 (qO U30 16 9) = 47 := hR.w.ref hv57 (hR.w.2.1 _ finC_27).2.1
          refine va_get (D := rD g) (ci := 1) (v := .ref (ad (qO U30 16 9))) (C := RX1) (T := TX1) (N := 10) hx hb hts inX1 hown hR.K hR.P 16 (hR.at41 (hR.w.2.1 _ finC_27).2.1) rfl 9 (by decide) (hts _ kw_479) (fun _ h9 => h9) (congrArg (fun z => some (vf ad z)) hv57) dX1_flowFrom_42 ?_
          refine lv_iload_n hx hb dX1_flowFrom_45 rfl (lv_at hl 2 rfl) ?_
          refine lv_iload_n hx hb dX1_flowFrom_46 rfl (lv_at hl 1 rfl) ?_
          obtain ⟨hv58, h⟩ := h
          have hFc := cfree hR hA
          refine va_calli (va_runV (As := [.int v30_2, .int v30_1]) (rest := []) ⟨hx, hb, hml, hown, hts⟩ (rX8_catchHas l g ad H.size U30 (qO U30 16 9) v30_2 v30_1 hR.w hT_b56 hv58) (cwV 2 hts (gd_V kw_516 kw_1483 kw_1484 kw_782 kw_1482) rfl rfl rfl (by decide +kernel) ⟨Nat.le_of_ble_eq_true rfl, Nat.le_of_ble_eq_true rfl⟩) ⟨cblind, va_recv hR.K hR.P (ci := 7) (q0 := (qO U30 16 9)) rfl (hR.at47 hT_b56), fun U hU hW9 => cmk hU hW9 hR hex hE hFc⟩ rfl rfl hl.1 rfl (lv_room (Nat.le_of_ble_eq_true rfl)) dX1_flowFrom_47 ⟨Nat.le_of_ble_eq_true rfl, Nat.le_of_ble_eq_true rfl⟩) hR.sS (fun q _ h => hFc q h) hFc (fun r59 u9 t9 H1 locs ht9 hvm9 hw9 hB9 hz9 hk9 hS => ?_)
          have hR : RepC g ad A s U30 H1 locs := hR.call ht9 hB9 hR.w hS hFc
          obtain ⟨rfl, hz_r59⟩ := hw9
          clear hB9 hz9 hk9 hvm9 ht9 hS
          generalize H1 = H at hR ⊢
          obtain ⟨a61, ea61⟩ : ∃ z, z = (fX8_catchHas U30 (qO U30 16 9) v30_2 v30_1) := ⟨_, rfl⟩
          rw [← ea61]
          replace h := h a61 ea61
          rw [← ea61] at hz_r59
          have J_66 : ∀ (U66 : MS) (v66_1 : Int32) (v66_2 : Int32) (H : Heap) (locs : List Loc) (ls : Array Slot), w_X1_flowFrom_J66 Q (w_X1_flowFrom_L30 Q n30) U66 v66_1 v66_2 → shy S U66 → RepC g ad A s U66 H locs → lv_has ls 4 [(0, .ref (ad 16)), (1, .int v66_1), (2, .int v66_2)] → W p l e (headSpec (wt yX1_flowFrom cX1_flowFrom 4 none) ({ frames := 5, cells := 0, slots := 0, locals := 110 })).room s m ([.ref (ad 16), .int x1] : List Value).toArray below meth c H locs 0 0 (MQ below (va_Qv (fun (u : MS) => Q u ∧ wfC u ∧ shy S u) (fun (u : MS) (t : State) => qEC g ad A u t) A) ([.ref (ad 16), .int x1] : List Value).toArray s 0 0 A) (F0 m 66 ls []) := by
            intro U66 v66_1 v66_2 H locs ls h hsh hR hl
            unfold w_X1_flowFrom_J66 at h
            replace h := h hR.w
            obtain ⟨a62, ea62⟩ : ∃ z, z = (v66_2 + Int32.ofInt 1) := ⟨_, rfl⟩
            replace h := h a62 ea62
            refine lv_iinc (v := a62) (lv' := [(2, .int a62), (0, .ref (ad 16)), (1, .int v66_1)]) hx hb dX1_flowFrom_66 hl (k := 2) rfl ea62.symm (by decide) rfl (fun ls hl => ?_)
            refine lv_goto (tgt := 30) hx hb dX1_flowFrom_69 (by decide) ?_
            exact ih_30 U66 v66_1 a62 _ _ ls h  hsh hR (lv_sub hl [1, 2, 0] rfl)
          refine lv_if_eq (tgt := 66) hx hb dX1_flowFrom_50 (by decide) (fun c63 => ?_) (fun c63 => ?_)
          · replace h := h.1 (k_eq rfl (by decide) c63)
            exact J_66 U30 v30_1 v30_2 _ _ ls h  hsh hR (lv_sub hl [0, 1, 2] rfl)
          · replace h := h.2 (k_ne rfl (by decide) c63)
            refine lv_aload_n hx hb dX1_flowFrom_53 rfl (lv_at hl 0 rfl) ?_
            refine lv_aload_n hx hb dX1_flowFrom_54 rfl (lv_at hl 0 rfl) ?_
            obtain ⟨hv65, h⟩ := h
            have hT_b64 : qT U30 (qO U30 16 9) = 47 := hR.w.ref hv65 (hR.w.2.1 _ finC_27).2.1
            refine va_get (D := rD g) (ci := 1) (v := .ref (ad (qO U30 16 9))) (C := RX1) (T := TX1) (N := 10) hx hb hts inX1 hown hR.K hR.P 16 (hR.at41 (hR.w.2.1 _ finC_27).2.1) rfl 9 (by decide) (hts _ kw_479) (fun _ h9 => h9) (congrArg (fun z => some (vf ad z)) hv65) dX1_flowFrom_55 ?_
            obtain ⟨hv67, h⟩ := h
            have hT_b66 : qT U30 (qO U30 (qO U30 16 9) 7) = 226 := hR.w.ref hv67 hT_b64
            refine va_get (D := rD g) (ci := 7) (v := .ref (ad (qO U30 (qO U30 16 9) 7))) (C := RX8) (T := TX8) (N := 15) hx hb hts inX8 hown hR.K hR.P (qO U30 16 9) (hR.at47 hT_b64) rfl 7 (by decide) (hts _ kw_517) (fun _ h9 => h9) (congrArg (fun z => some (vf ad z)) hv67) dX1_flowFrom_58 ?_
            refine lv_iload_n hx hb dX1_flowFrom_61 rfl (lv_at hl 2 rfl) ?_
            obtain ⟨hv68, h⟩ := h
            refine va_iald hx hb hR.K hR.P (qO U30 (qO U30 16 9) 7) 1 (hR.atI hT_b66 (by decide)) rfl (k_ix (x := v30_2) (a := v30_2.toInt) rfl hv68) dX1_flowFrom_62 ?_
            refine lv_topi (fun z69 ez69 => ?_)
            obtain rfl : z69 = (qI U30 (qO U30 (qO U30 16 9) 7) v30_2.toInt.toNat) := ez69
            obtain ⟨Q70, h0, h⟩ := h
            have hFc := cfree hR hA
            refine va_callv (va_runV (As := [.int (qI U30 (qO U30 (qO U30 16 9) 7) v30_2.toInt.toNat)]) (rest := []) ⟨hx, hb, hml, hown, hts⟩ (rX1_comeTo l g ad H.size U30 (qI U30 (qO U30 (qO U30 16 9) 7) v30_2.toInt.toNat) hR.w  Q70 h0) (cwV 1 hts (gd_V kw_487 kw_489 kw_490 kw_392 kw_488) rfl rfl rfl (by decide +kernel) ⟨Nat.le_of_ble_eq_true rfl, Nat.le_of_ble_eq_true rfl⟩) ⟨cblind, va_recv hR.K hR.P (ci := 1) (q0 := 16) rfl (hR.at41 (hR.w.2.1 _ finC_27).2.1), fun U hU hW9 => cmk hU hW9 hR hex hE hFc⟩ rfl rfl hl.1 rfl (lv_room (Nat.le_of_ble_eq_true rfl)) dX1_flowFrom_63 ⟨Nat.le_of_ble_eq_true rfl, Nat.le_of_ble_eq_true rfl⟩) hR.sS (fun q _ h => hFc q h) hFc (fun  S71 t9 H1 locs ht9 hvm9 hw9 hB9 hz9 hk9 hS => ?_)
            obtain ⟨hq72, hw9, hs9⟩ := hw9
            have hR : RepC g ad A s S71 H1 locs := hR.call ht9 hB9 hw9 hS hFc
            have hsh := hsh.tr hs9
            replace h := h  S71 hq72 hw9 hs9
            clear hB9 hz9 hk9 hvm9 ht9 hw9 hs9 hS
            generalize H1 = H at hR ⊢
            exact J_66 S71 v30_1 v30_2 _ _ ls h  hsh hR (lv_sub hl [0, 1, 2] rfl)
    obtain ⟨n9, h⟩ := h
    exact J_30 n9 S51 x1 0 _ _ ls h  hsh hR (lv_sub hl [1, 2, 0] rfl)
def wX1_hasBadTypes (S : MS) (x1 : Int32) (Q : Int32 → MS → Prop) : Prop := (((0 : Int) ≤ x1.toInt ∧ x1.toInt < (qN S (qO S 16 2) : Int)) ∧ (((qI S (qO S 16 2) x1.toInt.toNat).toInt = 0 → Q (0 : Int32) S) ∧ (¬ (qI S (qO S 16 2) x1.toInt.toNat).toInt = 0 → (∃ Q6, wX1_takeUp S x1 Q6 ∧ ∀ S7, Q6 S7 → wfC S7 → shy S S7 → (∀ S9, S9 = wI S7 16 6 (0 : Int32) → qT S7 16 = 41 → wfC S9 → (∃ Q10, wX1_goThrough S9 x1 Q10 ∧ ∀ S11, Q10 S11 → wfC S11 → shy S9 S11 → Q (qI S11 16 6) S11))))))
set_option maxHeartbeats 2000000 in
set_option maxRecDepth 100000 in
theorem rX1_hasBadTypes (l : Launch) (g : Gr) (ad : Nat → Nat) (sz : Nat) (S : MS) (x1 : Int32) (hw : wfC S) (Q : Int32 → MS → Prop) (h : wX1_hasBadTypes S x1 Q) : Met l yX1_hasBadTypes (wt yX1_hasBadTypes cX1_hasBadTypes 2 (some .boolean)) ({ frames := 5, cells := 0, slots := 0, locals := 110 }) (va_Pc [.ref (ad 16), .int x1] (st_C g ad sz S)) (va_Qi (fun (r : Int32) (u : MS) => Q r u ∧ wfC u ∧ shy S u ∧ (r = 0 ∨ r = 1)) (fun (u : MS) (t : State) => qEC g ad (va_A (WdC g ad S) sz) u t) (va_A (WdC g ad S) sz)) 0 0 (va_A (WdC g ad S) sz) := by
  refine Met.ofW (cc := cX1_hasBadTypes) (maxL := 2) (ret := (some .boolean)) (by decide) rfl ?_
  intro p e s m args below meth c s₁ B hml hv
  obtain ⟨rfl, hsz, hP, hK, hD0, hex, hE⟩ := hv
  have hx := B.exec
  have hb := B.bytes
  have hr := B.returns
  have hts0 := atoms_spec (ws := wt yX1_hasBadTypes cX1_hasBadTypes 2 (some .boolean)) B.pre
  have hts : ∀ w ∈ tb, w.before _ s = true := fun w h => hts0 w (List.mem_cons_of_mem _ h)
  have hown : s.vm.findClass RX1 = some m.cls := findClass_of_methodNamed B.named
  subst hsz
  have hD := hD0.self (sz := s.heap.size)
  generalize hAe : va_A (WdC g ad S) s.heap.size = A at hD hE ⊢
  have hA : ∀ q : Nat, s.heap.size ≤ q → A q := fun q h => by rw [← hAe]; exact Or.inr h
  have hR : RepC g ad A s S s.heap [] := ⟨hK, hP, hD, va_S.rf, hw⟩
  clear hK hP hD hD0
  have hl := lv_entry ([.ref (ad 16), .int x1]) (n := 2) (Nat.le_of_ble_eq_true rfl)
  rw [lg_entry_eq]
  generalize (lg_sl ([.ref (ad 16), .int x1]) ++ List.replicate (2 - (lg_sl ([.ref (ad 16), .int x1])).length) Slot.unset).toArray = ls at hl ⊢
  have hl : lv_has ls 2 [(0, .ref (ad 16)), (1, .int x1)] := hl
  have hsh : shy S S := shy.rf
  unfold wX1_hasBadTypes at h
  refine lv_aload_n hx hb dX1_hasBadTypes_0 rfl (lv_at hl 0 rfl) ?_
  have hT_b1 : qT S (qO S 16 2) = 301 := hR.w.ref (hR.w.ptr ptrC_5) (hR.w.2.1 _ finC_27).2.1
  refine va_get (D := rD g) (ci := 1) (v := .ref (ad (qO S 16 2))) (C := RX1) (T := TX1) (N := 10) hx hb hts inX1 hown hR.K hR.P 16 (hR.at41 (hR.w.2.1 _ finC_27).2.1) rfl 2 (by decide) (hts _ kw_494) (fun _ h9 => h9) (congrArg (fun z => some (vf ad z)) (hR.w.ptr ptrC_5)) dX1_hasBadTypes_1 ?_
  refine lv_iload_n hx hb dX1_hasBadTypes_4 rfl (lv_at hl 1 rfl) ?_
  obtain ⟨hv2, h⟩ := h
  refine va_zald hx hb hR.K hR.P (qO S 16 2) 2 (hR.atZ hT_b1 (by decide)) rfl (k_ix (x := x1) (a := x1.toInt) rfl hv2) dX1_hasBadTypes_5 ?_
  refine lv_topi (fun z3 ez3 => ?_)
  obtain rfl : z3 = (qI S (qO S 16 2) x1.toInt.toNat) := ez3
  have hz4 := hR.w.bit3 (b := (qO S 16 2)) (j := x1.toInt.toNat) (hT_b1) (by decide)
  refine lv_if_ne (tgt := 11) hx hb dX1_hasBadTypes_6 (by decide) (fun c5 => ?_) (fun c5 => ?_)
  · replace h := h.2 (k_ne rfl (by decide) c5)
    refine lv_aload_n hx hb dX1_hasBadTypes_11 rfl (lv_at hl 0 rfl) ?_
    refine lv_iload_n hx hb dX1_hasBadTypes_12 rfl (lv_at hl 1 rfl) ?_
    obtain ⟨Q6, h0, h⟩ := h
    have hFc := cfree hR hA
    refine va_callv (va_runV (As := [.int x1]) (rest := []) ⟨hx, hb, hml, hown, hts⟩ (rX1_takeUp l g ad s.heap.size S x1 hR.w  Q6 h0) (cwV 1 hts (gd_V kw_514 kw_609 kw_610 kw_392 kw_608) rfl rfl rfl (by decide +kernel) ⟨Nat.le_of_ble_eq_true rfl, Nat.le_of_ble_eq_true rfl⟩) ⟨cblind, va_recv hR.K hR.P (ci := 1) (q0 := 16) rfl (hR.at41 (hR.w.2.1 _ finC_27).2.1), fun U hU hW9 => cmk hU hW9 hR hex hE hFc⟩ rfl rfl hl.1 rfl (lv_room (Nat.le_of_ble_eq_true rfl)) dX1_hasBadTypes_13 ⟨Nat.le_of_ble_eq_true rfl, Nat.le_of_ble_eq_true rfl⟩) hR.sS (fun q _ h => hFc q h) hFc (fun  S7 t9 H1 locs ht9 hvm9 hw9 hB9 hz9 hk9 hS => ?_)
    obtain ⟨hq8, hw9, hs9⟩ := hw9
    have hR : RepC g ad A s S7 H1 locs := hR.call ht9 hB9 hw9 hS hFc
    have hsh := hsh.tr hs9
    replace h := h  S7 hq8 hw9 hs9
    clear hB9 hz9 hk9 hvm9 ht9 hw9 hs9 hS
    generalize H1 = H at hR ⊢
    refine lv_aload_n hx hb dX1_hasBadTypes_16 rfl (lv_at hl 0 rfl) ?_
    refine lv_iconst (v := 0) hx hb dX1_hasBadTypes_17 (by decide) ?_
    refine va_put (D := rD g) (ci := 1) (v := .int 0) (ty := .boolean) (C := RX1) (T := TX1) (N := 10) hx hb hts inX1 tyX1 tyX1_ok nmX1 hown hR.K hR.P hR.D hR.sS 16 (hR.at41 (hR.w.2.1 _ finC_27).2.1) rfl 6 (by decide) (hts _ kw_536) (fun _ h9 => h9) rfl (by decide +kernel) rfl rfl (Nat.le_of_ble_eq_true rfl) dX1_hasBadTypes_18 (fun H locs hP hD hS => ?_)
    have hTk9 : qT S7 16 = 41 := (hR.w.2.1 _ finC_27).2.1
    have hR : RepC g ad A s (wI S7 16 6 (0 : Int32)) H locs := hR.pI41 (hR.w.2.1 _ finC_27).2.1 FX1_s6 (fun _ => (Or.inl rfl)) hP hD hS
    obtain ⟨S9, eS9⟩ : ∃ z, z = wI S7 16 6 (0 : Int32) := ⟨_, rfl⟩
    rw [← eS9] at hR
    replace h := h S9 eS9 hTk9 hR.w
    have hsh : shy S S9 := by rw [eS9]; exact hsh
    refine lv_aload_n hx hb dX1_hasBadTypes_21 rfl (lv_at hl 0 rfl) ?_
    refine lv_iload_n hx hb dX1_hasBadTypes_22 rfl (lv_at hl 1 rfl) ?_
    obtain ⟨Q10, h0, h⟩ := h
    have hFc := cfree hR hA
    refine va_callv (va_runV (As := [.int x1]) (rest := []) ⟨hx, hb, hml, hown, hts⟩ (rX1_goThrough l g ad H.size S9 x1 hR.w  Q10 h0) (cwV 1 hts (gd_V kw_518 kw_528 kw_529 kw_392 kw_527) rfl rfl rfl (by decide +kernel) ⟨Nat.le_of_ble_eq_true rfl, Nat.le_of_ble_eq_true rfl⟩) ⟨cblind, va_recv hR.K hR.P (ci := 1) (q0 := 16) rfl (hR.at41 (hR.w.2.1 _ finC_27).2.1), fun U hU hW9 => cmk hU hW9 hR hex hE hFc⟩ rfl rfl hl.1 rfl (lv_room (Nat.le_of_ble_eq_true rfl)) dX1_hasBadTypes_23 ⟨Nat.le_of_ble_eq_true rfl, Nat.le_of_ble_eq_true rfl⟩) hR.sS (fun q _ h => hFc q h) hFc (fun  S11 t9 H1 locs ht9 hvm9 hw9 hB9 hz9 hk9 hS => ?_)
    obtain ⟨hq12, hw9, hs9⟩ := hw9
    have hR : RepC g ad A s S11 H1 locs := hR.call ht9 hB9 hw9 hS hFc
    have hsh := hsh.tr hs9
    replace h := h  S11 hq12 hw9 hs9
    clear hB9 hz9 hk9 hvm9 ht9 hw9 hs9 hS
    generalize H1 = H at hR ⊢
    refine lv_aload_n hx hb dX1_hasBadTypes_26 rfl (lv_at hl 0 rfl) ?_
    refine va_get (D := rD g) (ci := 1) (v := .int (qI S11 16 6)) (C := RX1) (T := TX1) (N := 10) hx hb hts inX1 hown hR.K hR.P 16 (hR.at41 (hR.w.2.1 _ finC_27).2.1) rfl 6 (by decide) (hts _ kw_536) (fun _ h9 => h9) rfl dX1_hasBadTypes_27 ?_
    have hz13 := hR.w.bit (b := 16) (j := 6) ((hR.w.2.1 _ finC_27).2.1) (by decide)
    exact W.zret (v := (qI S11 16 6)) hx hb hr (nz hz13) (fun t9 ht9 hW9 => ⟨⟨_, S11, rfl, ⟨h, hR.w, hsh, hz13⟩, ⟨by rw [ht9]; exact hR.P, hR.D⟩⟩, hR.sS.F ht9⟩) hR.sS.2.2 dX1_hasBadTypes_30
  · replace h := h.1 (k_eq rfl (by decide) c5)
    refine lv_iconst (v := 0) hx hb dX1_hasBadTypes_9 (by decide) ?_
    exact W.zret (v := 0) hx hb hr (nz (Or.inl rfl)) (fun t9 ht9 hW9 => ⟨⟨_, S, rfl, ⟨h, hR.w, hsh, (Or.inl rfl)⟩, ⟨by rw [ht9]; exact hR.P, hR.D⟩⟩, hR.sS.F ht9⟩) hR.sS.2.2 dX1_hasBadTypes_10
def w_X2_limitsHold_L2 (Q : Int32 → MS → Prop) : Nat → MS → Int32 → Prop
  | 0, _, _ => False
  | n2 + 1, U2, v2_1 => (wfC U2 → (((qI U2 9 8).toInt ≤ v2_1.toInt → Q (1 : Int32) U2) ∧ (¬ (qI U2 9 8).toInt ≤ v2_1.toInt → ((24 ≤ v2_1.toInt → Q (1 : Int32) U2) ∧ (¬ 24 ≤ v2_1.toInt → (d_X7_typeOf U2 ((qI U2 9 7) + v2_1) ∧ (∀ a7 : Int32, a7 = (fX7_typeOf U2 ((qI U2 9 7) + v2_1)) → (∃ Q8, wX7_isMethodType U2 a7 Q8 ∧ ∀ r9 S10, Q8 r9 S10 → wfC S10 → shy U2 S10 → (((0 : Int) ≤ v2_1.toInt ∧ v2_1.toInt < 24) ∧ (((0 : Int) ≤ v2_1.toInt ∧ v2_1.toInt < 24) ∧ (∃ Q16, wX2_headHolds S10 (qI S10 13 v2_1.toInt.toNat) (qI S10 14 v2_1.toInt.toNat) (qI S10 9 13) Q16 ∧ ∀ r17 S18, Q16 r17 S18 → wfC S18 → shy S10 S18 → ((r17.toInt = 0 → Q (0 : Int32) S18) ∧ (¬ r17.toInt = 0 → (∀ a21 : Int32, a21 = (v2_1 + Int32.ofInt 1) → (w_X2_limitsHold_L2 Q n2) S18 a21))))))))))))))
def wX2_limitsHold (S : MS) (Q : Int32 → MS → Prop) : Prop := (∃ n, w_X2_limitsHold_L2 Q n S 0)
set_option maxHeartbeats 2000000 in
set_option maxRecDepth 100000 in
theorem rX2_limitsHold (l : Launch) (g : Gr) (ad : Nat → Nat) (sz : Nat) (S : MS) (hw : wfC S) (Q : Int32 → MS → Prop) (h : wX2_limitsHold S Q) : Met l yX2_limitsHold (wt yX2_limitsHold cX2_limitsHold 2 (some .boolean)) ({ frames := 4, cells := 0, slots := 0, locals := 93 }) (va_Pc [.ref (ad 8)] (st_C g ad sz S)) (va_Qi (fun (r : Int32) (u : MS) => Q r u ∧ wfC u ∧ shy S u ∧ (r = 0 ∨ r = 1)) (fun (u : MS) (t : State) => qEC g ad (va_A (WdC g ad S) sz) u t) (va_A (WdC g ad S) sz)) 0 0 (va_A (WdC g ad S) sz) := by
  refine Met.ofW (cc := cX2_limitsHold) (maxL := 2) (ret := (some .boolean)) (by decide) rfl ?_
  intro p e s m args below meth c s₁ B hml hv
  obtain ⟨rfl, hsz, hP, hK, hD0, hex, hE⟩ := hv
  have hx := B.exec
  have hb := B.bytes
  have hr := B.returns
  have hts0 := atoms_spec (ws := wt yX2_limitsHold cX2_limitsHold 2 (some .boolean)) B.pre
  have hts : ∀ w ∈ tb, w.before _ s = true := fun w h => hts0 w (List.mem_cons_of_mem _ h)
  have hown : s.vm.findClass RX2 = some m.cls := findClass_of_methodNamed B.named
  subst hsz
  have hD := hD0.self (sz := s.heap.size)
  generalize hAe : va_A (WdC g ad S) s.heap.size = A at hD hE ⊢
  have hA : ∀ q : Nat, s.heap.size ≤ q → A q := fun q h => by rw [← hAe]; exact Or.inr h
  have hR : RepC g ad A s S s.heap [] := ⟨hK, hP, hD, va_S.rf, hw⟩
  clear hK hP hD hD0
  have hl := lv_entry ([.ref (ad 8)]) (n := 2) (Nat.le_of_ble_eq_true rfl)
  rw [lg_entry_eq]
  generalize (lg_sl ([.ref (ad 8)]) ++ List.replicate (2 - (lg_sl ([.ref (ad 8)])).length) Slot.unset).toArray = ls at hl ⊢
  have hl : lv_has ls 2 [(0, .ref (ad 8))] := hl
  have hsh : shy S S := shy.rf
  unfold wX2_limitsHold at h
  refine lv_iconst (v := 0) hx hb dX2_limitsHold_0 (by decide) ?_
  refine lv_istore_n (lv' := [(1, .int 0), (0, .ref (ad 8))]) hx hb dX2_limitsHold_1 rfl hl (by decide) rfl (fun ls hl => ?_)
  have J_2 : ∀ (n2 : Nat) (U2 : MS) (v2_1 : Int32) (H : Heap) (locs : List Loc) (ls : Array Slot), w_X2_limitsHold_L2 Q n2 U2 v2_1 → shy S U2 → RepC g ad A s U2 H locs → lv_has ls 2 [(0, .ref (ad 8)), (1, .int v2_1)] → W p l e (headSpec (wt yX2_limitsHold cX2_limitsHold 2 (some .boolean)) ({ frames := 4, cells := 0, slots := 0, locals := 93 })).room s m ([.ref (ad 8)] : List Value).toArray below meth c H locs 0 0 (MQ below (va_Qi (fun (r : Int32) (u : MS) => Q r u ∧ wfC u ∧ shy S u ∧ (r = 0 ∨ r = 1)) (fun (u : MS) (t : State) => qEC g ad A u t) A) ([.ref (ad 8)] : List Value).toArray s 0 0 A) (F0 m 2 ls []) := by
    intro n2
    induction n2 with
    | zero => intro U2 v2_1 H locs ls h hsh hR hl; unfold w_X2_limitsHold_L2 at h; exact h.elim
    | succ n2 ih_2 =>
      intro U2 v2_1 H locs ls h hsh hR hl
      unfold w_X2_limitsHold_L2 at h
      replace h := h hR.w
      refine lv_iload_n hx hb dX2_limitsHold_2 rfl (lv_at hl 1 rfl) ?_
      refine lv_aload_n hx hb dX2_limitsHold_3 rfl (lv_at hl 0 rfl) ?_
      refine va_get (D := rD g) (ci := 2) (v := .ref (ad 9)) (C := RX2) (T := TX2) (N := 12) hx hb hts inX2 hown hR.K hR.P 8 (hR.at42 (hR.w.2.1 _ finC_26).2.1) rfl 0 (by decide) (hts _ kw_632) (fun _ h9 => h9) (congrArg (fun z => some (vf ad z)) (hR.w.2.1 _ finC_2).1) dX2_limitsHold_4 ?_
      refine va_get (D := rD g) (ci := 6) (v := .int (qI U2 9 8)) (C := RX7) (T := TX7) (N := 17) hx hb hts inX7 hown hR.K hR.P 9 (hR.at46 (hR.w.2.1 _ finC_2).2.1) rfl 8 (by decide) (hts _ kw_646) (fun _ h9 => h9) rfl dX2_limitsHold_7 ?_
      refine lv_icmp_ge (tgt := 83) hx hb dX2_limitsHold_10 (by decide) (fun c1 => ?_) (fun c1 => ?_)
      · replace h := h.1 (k_le rfl rfl c1)
        refine lv_iconst (v := 1) hx hb dX2_limitsHold_83 (by decide) ?_
        exact W.zret (v := 1) hx hb hr (nz (Or.inr rfl)) (fun t9 ht9 hW9 => ⟨⟨_, U2, rfl, ⟨h, hR.w, hsh, (Or.inr rfl)⟩, ⟨by rw [ht9]; exact hR.P, hR.D⟩⟩, hR.sS.F ht9⟩) hR.sS.2.2 dX2_limitsHold_84
      · replace h := h.2 (k_nle rfl rfl c1)
        refine lv_iload_n hx hb dX2_limitsHold_13 rfl (lv_at hl 1 rfl) ?_
        refine lv_bipush (v := 24) hx hb dX2_limitsHold_14 (by decide) ?_
        refine lv_icmp_ge (tgt := 83) hx hb dX2_limitsHold_16 (by decide) (fun c2 => ?_) (fun c2 => ?_)
        · replace h := h.1 (k_le (by decide) rfl c2)
          refine lv_iconst (v := 1) hx hb dX2_limitsHold_83 (by decide) ?_
          exact W.zret (v := 1) hx hb hr (nz (Or.inr rfl)) (fun t9 ht9 hW9 => ⟨⟨_, U2, rfl, ⟨h, hR.w, hsh, (Or.inr rfl)⟩, ⟨by rw [ht9]; exact hR.P, hR.D⟩⟩, hR.sS.F ht9⟩) hR.sS.2.2 dX2_limitsHold_84
        · replace h := h.2 (k_nle (by decide) rfl c2)
          refine lv_aload_n hx hb dX2_limitsHold_19 rfl (lv_at hl 0 rfl) ?_
          refine va_get (D := rD g) (ci := 2) (v := .ref (ad 9)) (C := RX2) (T := TX2) (N := 12) hx hb hts inX2 hown hR.K hR.P 8 (hR.at42 (hR.w.2.1 _ finC_26).2.1) rfl 0 (by decide) (hts _ kw_632) (fun _ h9 => h9) (congrArg (fun z => some (vf ad z)) (hR.w.2.1 _ finC_2).1) dX2_limitsHold_20 ?_
          refine lv_aload_n hx hb dX2_limitsHold_23 rfl (lv_at hl 0 rfl) ?_
          refine va_get (D := rD g) (ci := 2) (v := .ref (ad 9)) (C := RX2) (T := TX2) (N := 12) hx hb hts inX2 hown hR.K hR.P 8 (hR.at42 (hR.w.2.1 _ finC_26).2.1) rfl 0 (by decide) (hts _ kw_632) (fun _ h9 => h9) (congrArg (fun z => some (vf ad z)) (hR.w.2.1 _ finC_2).1) dX2_limitsHold_24 ?_
          refine lv_aload_n hx hb dX2_limitsHold_27 rfl (lv_at hl 0 rfl) ?_
          refine va_get (D := rD g) (ci := 2) (v := .ref (ad 9)) (C := RX2) (T := TX2) (N := 12) hx hb hts inX2 hown hR.K hR.P 8 (hR.at42 (hR.w.2.1 _ finC_26).2.1) rfl 0 (by decide) (hts _ kw_632) (fun _ h9 => h9) (congrArg (fun z => some (vf ad z)) (hR.w.2.1 _ finC_2).1) dX2_limitsHold_28 ?_
          refine va_get (D := rD g) (ci := 6) (v := .int (qI U2 9 7)) (C := RX7) (T := TX7) (N := 17) hx hb hts inX7 hown hR.K hR.P 9 (hR.at46 (hR.w.2.1 _ finC_2).2.1) rfl 7 (by decide) (hts _ kw_645) (fun _ h9 => h9) rfl dX2_limitsHold_31 ?_
          refine lv_iload_n hx hb dX2_limitsHold_34 rfl (lv_at hl 1 rfl) ?_
          refine lv_iadd hx hb dX2_limitsHold_35 ?_
          refine lv_topi (fun z3 ez3 => ?_)
          obtain rfl : z3 = ((qI U2 9 7) + v2_1) := ez3
          obtain ⟨hv4, h⟩ := h
          have hFc := cfree hR hA
          refine va_calli (va_runV (As := [.int ((qI U2 9 7) + v2_1)]) (rest := [.ref (ad 9)]) ⟨hx, hb, hml, hown, hts⟩ (rX7_typeOf l g ad H.size U2 ((qI U2 9 7) + v2_1) hR.w  hv4) (cwV 1 hts (gd_V kw_658 kw_1438 kw_1439 kw_710 kw_1437) rfl rfl rfl (by decide +kernel) ⟨Nat.le_of_ble_eq_true rfl, Nat.le_of_ble_eq_true rfl⟩) ⟨cblind, va_recv hR.K hR.P (ci := 6) (q0 := 9) rfl (hR.at46 (hR.w.2.1 _ finC_2).2.1), fun U hU hW9 => cmk hU hW9 hR hex hE hFc⟩ rfl rfl hl.1 rfl (lv_room (Nat.le_of_ble_eq_true rfl)) dX2_limitsHold_36 ⟨Nat.le_of_ble_eq_true rfl, Nat.le_of_ble_eq_true rfl⟩) hR.sS (fun q _ h => hFc q h) hFc (fun r5 u9 t9 H1 locs ht9 hvm9 hw9 hB9 hz9 hk9 hS => ?_)
          have hR : RepC g ad A s U2 H1 locs := hR.call ht9 hB9 hR.w hS hFc
          obtain rfl : r5 = (fX7_typeOf U2 ((qI U2 9 7) + v2_1)) := hw9
          clear hB9 hz9 hk9 hvm9 ht9 hS
          generalize H1 = H at hR ⊢
          obtain ⟨a7, ea7⟩ : ∃ z, z = (fX7_typeOf U2 ((qI U2 9 7) + v2_1)) := ⟨_, rfl⟩
          rw [← ea7]
          replace h := h a7 ea7
          obtain ⟨Q8, h0, h⟩ := h
          have hFc := cfree hR hA
          refine va_calli (va_runV (As := [.int a7]) (rest := []) ⟨hx, hb, hml, hown, hts⟩ (rX7_isMethodType l g ad H.size U2 a7 hR.w  Q8 h0) (cwV 1 hts (gd_V kw_664 kw_1344 kw_1345 kw_710 kw_1343) rfl rfl rfl (by decide +kernel) ⟨Nat.le_of_ble_eq_true rfl, Nat.le_of_ble_eq_true rfl⟩) ⟨cblind, va_recv hR.K hR.P (ci := 6) (q0 := 9) rfl (hR.at46 (hR.w.2.1 _ finC_2).2.1), fun U hU hW9 => cmk hU hW9 hR hex hE hFc⟩ rfl rfl hl.1 rfl (lv_room (Nat.le_of_ble_eq_true rfl)) dX2_limitsHold_39 ⟨Nat.le_of_ble_eq_true rfl, Nat.le_of_ble_eq_true rfl⟩) hR.sS (fun q _ h => hFc q h) hFc (fun r9 S10 t9 H1 locs ht9 hvm9 hw9 hB9 hz9 hk9 hS => ?_)
          obtain ⟨hq11, hw9, hs9, hz_r9⟩ := hw9
          have hR : RepC g ad A s S10 H1 locs := hR.call ht9 hB9 hw9 hS hFc
          have hsh := hsh.tr hs9
          replace h := h r9 S10 hq11 hw9 hs9
          clear hB9 hz9 hk9 hvm9 ht9 hw9 hs9 hS
          generalize H1 = H at hR ⊢
          refine lv_pop hx hb dX2_limitsHold_42 rfl ?_
          refine lv_aload_n hx hb dX2_limitsHold_43 rfl (lv_at hl 0 rfl) ?_
          refine lv_aload_n hx hb dX2_limitsHold_44 rfl (lv_at hl 0 rfl) ?_
          refine va_get (D := rD g) (ci := 2) (v := .ref (ad 9)) (C := RX2) (T := TX2) (N := 12) hx hb hts inX2 hown hR.K hR.P 8 (hR.at42 (hR.w.2.1 _ finC_26).2.1) rfl 0 (by decide) (hts _ kw_632) (fun _ h9 => h9) (congrArg (fun z => some (vf ad z)) (hR.w.2.1 _ finC_2).1) dX2_limitsHold_45 ?_
          refine va_get (D := rD g) (ci := 6) (v := .ref (ad 13)) (C := RX7) (T := TX7) (N := 17) hx hb hts inX7 hown hR.K hR.P 9 (hR.at46 (hR.w.2.1 _ finC_2).2.1) rfl 10 (by decide) (hts _ kw_731) (fun _ h9 => h9) (congrArg (fun z => some (vf ad z)) (hR.w.2.1 _ finC_9).1) dX2_limitsHold_48 ?_
          refine lv_iload_n hx hb dX2_limitsHold_51 rfl (lv_at hl 1 rfl) ?_
          obtain ⟨hv12, h⟩ := h
          refine va_iald hx hb hR.K hR.P 13 1 (hR.atI (hR.w.2.1 _ finC_9).2.1 (by decide)) rfl (k_ixN (k_ix (n := 24) (x := v2_1) (a := v2_1.toInt) rfl hv12) (hR.w.2.1 _ finC_9).2.2) dX2_limitsHold_52 ?_
          refine lv_topi (fun z13 ez13 => ?_)
          obtain rfl : z13 = (qI S10 13 v2_1.toInt.toNat) := ez13
          refine lv_aload_n hx hb dX2_limitsHold_53 rfl (lv_at hl 0 rfl) ?_
          refine va_get (D := rD g) (ci := 2) (v := .ref (ad 9)) (C := RX2) (T := TX2) (N := 12) hx hb hts inX2 hown hR.K hR.P 8 (hR.at42 (hR.w.2.1 _ finC_26).2.1) rfl 0 (by decide) (hts _ kw_632) (fun _ h9 => h9) (congrArg (fun z => some (vf ad z)) (hR.w.2.1 _ finC_2).1) dX2_limitsHold_54 ?_
          refine va_get (D := rD g) (ci := 6) (v := .ref (ad 14)) (C := RX7) (T := TX7) (N := 17) hx hb hts inX7 hown hR.K hR.P 9 (hR.at46 (hR.w.2.1 _ finC_2).2.1) rfl 11 (by decide) (hts _ kw_732) (fun _ h9 => h9) (congrArg (fun z => some (vf ad z)) (hR.w.2.1 _ finC_10).1) dX2_limitsHold_57 ?_
          refine lv_iload_n hx hb dX2_limitsHold_60 rfl (lv_at hl 1 rfl) ?_
          obtain ⟨hv14, h⟩ := h
          refine va_iald hx hb hR.K hR.P 14 1 (hR.atI (hR.w.2.1 _ finC_10).2.1 (by decide)) rfl (k_ixN (k_ix (n := 24) (x := v2_1) (a := v2_1.toInt) rfl hv14) (hR.w.2.1 _ finC_10).2.2) dX2_limitsHold_61 ?_
          refine lv_topi (fun z15 ez15 => ?_)
          obtain rfl : z15 = (qI S10 14 v2_1.toInt.toNat) := ez15
          refine lv_aload_n hx hb dX2_limitsHold_62 rfl (lv_at hl 0 rfl) ?_
          refine va_get (D := rD g) (ci := 2) (v := .ref (ad 9)) (C := RX2) (T := TX2) (N := 12) hx hb hts inX2 hown hR.K hR.P 8 (hR.at42 (hR.w.2.1 _ finC_26).2.1) rfl 0 (by decide) (hts _ kw_632) (fun _ h9 => h9) (congrArg (fun z => some (vf ad z)) (hR.w.2.1 _ finC_2).1) dX2_limitsHold_63 ?_
          refine va_get (D := rD g) (ci := 6) (v := .int (qI S10 9 13)) (C := RX7) (T := TX7) (N := 17) hx hb hts inX7 hown hR.K hR.P 9 (hR.at46 (hR.w.2.1 _ finC_2).2.1) rfl 13 (by decide) (hts _ kw_733) (fun _ h9 => h9) rfl dX2_limitsHold_66 ?_
          obtain ⟨Q16, h0, h⟩ := h
          have hFc := cfree hR hA
          refine va_calli (va_runV (As := [.int (qI S10 13 v2_1.toInt.toNat), .int (qI S10 14 v2_1.toInt.toNat), .int (qI S10 9 13)]) (rest := []) ⟨hx, hb, hml, hown, hts⟩ (rX2_headHolds l g ad H.size S10 (qI S10 13 v2_1.toInt.toNat) (qI S10 14 v2_1.toInt.toNat) (qI S10 9 13) hR.w  Q16 h0) (cwV 3 hts (gd_V kw_734 kw_701 kw_702 kw_389 kw_700) rfl rfl rfl (by decide +kernel) ⟨Nat.le_of_ble_eq_true rfl, Nat.le_of_ble_eq_true rfl⟩) ⟨cblind, va_recv hR.K hR.P (ci := 2) (q0 := 8) rfl (hR.at42 (hR.w.2.1 _ finC_26).2.1), fun U hU hW9 => cmk hU hW9 hR hex hE hFc⟩ rfl rfl hl.1 rfl (lv_room (Nat.le_of_ble_eq_true rfl)) dX2_limitsHold_69 ⟨Nat.le_of_ble_eq_true rfl, Nat.le_of_ble_eq_true rfl⟩) hR.sS (fun q _ h => hFc q h) hFc (fun r17 S18 t9 H1 locs ht9 hvm9 hw9 hB9 hz9 hk9 hS => ?_)
          obtain ⟨hq19, hw9, hs9, hz_r17⟩ := hw9
          have hR : RepC g ad A s S18 H1 locs := hR.call ht9 hB9 hw9 hS hFc
          have hsh := hsh.tr hs9
          replace h := h r17 S18 hq19 hw9 hs9
          clear hB9 hz9 hk9 hvm9 ht9 hw9 hs9 hS
          generalize H1 = H at hR ⊢
          refine lv_if_ne (tgt := 77) hx hb dX2_limitsHold_72 (by decide) (fun c20 => ?_) (fun c20 => ?_)
          · replace h := h.2 (k_ne rfl (by decide) c20)
            obtain ⟨a21, ea21⟩ : ∃ z, z = (v2_1 + Int32.ofInt 1) := ⟨_, rfl⟩
            replace h := h a21 ea21
            refine lv_iinc (v := a21) (lv' := [(1, .int a21), (0, .ref (ad 8))]) hx hb dX2_limitsHold_77 hl (k := 1) rfl ea21.symm (by decide) rfl (fun ls hl => ?_)
            refine lv_goto (tgt := 2) hx hb dX2_limitsHold_80 (by decide) ?_
            exact ih_2 S18 a21 _ _ ls h  hsh hR (lv_sub hl [1, 0] rfl)
          · replace h := h.1 (k_eq rfl (by decide) c20)
            refine lv_iconst (v := 0) hx hb dX2_limitsHold_75 (by decide) ?_
            exact W.zret (v := 0) hx hb hr (nz (Or.inl rfl)) (fun t9 ht9 hW9 => ⟨⟨_, S18, rfl, ⟨h, hR.w, hsh, (Or.inl rfl)⟩, ⟨by rw [ht9]; exact hR.P, hR.D⟩⟩, hR.sS.F ht9⟩) hR.sS.2.2 dX2_limitsHold_76
  obtain ⟨n9, h⟩ := h
  exact J_2 n9 S 0 _ _ ls h  hsh hR (lv_sub hl [1, 0] rfl)
def w_X2_instructionsHold_L20 (Q : Int32 → MS → Prop) (k2 : MS → Int32 → Prop) : Nat → MS → Int32 → Int32 → Prop
  | 0, _, _, _ => False
  | n20 + 1, U20, v20_1, v20_2 => (wfC U20 → (((qI U20 8 2).toInt ≤ v20_2.toInt → (∀ a6 : Int32, a6 = (v20_1 + Int32.ofInt 1) → k2 U20 a6)) ∧ (¬ (qI U20 8 2).toInt ≤ v20_2.toInt → (∃ Q7, wX2_lengthAt U20 v20_2 Q7 ∧ ∀ r8 S9, Q7 r8 S9 → wfC S9 → shy U20 S9 → ((0 < r8.toInt → (∃ Q12, wX2_lengthAt S9 v20_2 Q12 ∧ ∀ r13 S14, Q12 r13 S14 → wfC S14 → shy S9 S14 → (∀ a17 : Int32, a17 = (v20_2 + r13) → (w_X2_instructionsHold_L20 Q k2 n20) S14 v20_1 a17))) ∧ (¬ 0 < r8.toInt → (∃ Q19, wX7_breaks S9 (15 : Int32) ((qI S9 8 1) + v20_2) Q19 ∧ ∀ r20 S21, Q19 r20 S21 → wfC S21 → shy S9 S21 → Q r20 S21)))))))
def w_X2_instructionsHold_L2 (Q : Int32 → MS → Prop) : Nat → MS → Int32 → Prop
  | 0, _, _ => False
  | n2 + 1, U2, v2_1 => (wfC U2 → (((qI U2 9 8).toInt ≤ v2_1.toInt → Q (1 : Int32) U2) ∧ (¬ (qI U2 9 8).toInt ≤ v2_1.toInt → (∃ Q2, wX2_lookAt U2 v2_1 Q2 ∧ ∀ S3, Q2 S3 → wfC S3 → shy U2 S3 → (∃ n, w_X2_instructionsHold_L20 Q (w_X2_instructionsHold_L2 Q n2) n S3 v2_1 0)))))
def wX2_instructionsHold (S : MS) (Q : Int32 → MS → Prop) : Prop := (∃ n, w_X2_instructionsHold_L2 Q n S 0)
set_option maxHeartbeats 2000000 in
set_option maxRecDepth 100000 in
theorem rX2_instructionsHold (l : Launch) (g : Gr) (ad : Nat → Nat) (sz : Nat) (S : MS) (hw : wfC S) (Q : Int32 → MS → Prop) (h : wX2_instructionsHold S Q) : Met l yX2_instructionsHold (wt yX2_instructionsHold cX2_instructionsHold 3 (some .boolean)) ({ frames := 4, cells := 0, slots := 0, locals := 88 }) (va_Pc [.ref (ad 8)] (st_C g ad sz S)) (va_Qi (fun (r : Int32) (u : MS) => Q r u ∧ wfC u ∧ shy S u ∧ (r = 0 ∨ r = 1)) (fun (u : MS) (t : State) => qEC g ad (va_A (WdC g ad S) sz) u t) (va_A (WdC g ad S) sz)) 0 0 (va_A (WdC g ad S) sz) := by
  refine Met.ofW (cc := cX2_instructionsHold) (maxL := 3) (ret := (some .boolean)) (by decide) rfl ?_
  intro p e s m args below meth c s₁ B hml hv
  obtain ⟨rfl, hsz, hP, hK, hD0, hex, hE⟩ := hv
  have hx := B.exec
  have hb := B.bytes
  have hr := B.returns
  have hts0 := atoms_spec (ws := wt yX2_instructionsHold cX2_instructionsHold 3 (some .boolean)) B.pre
  have hts : ∀ w ∈ tb, w.before _ s = true := fun w h => hts0 w (List.mem_cons_of_mem _ h)
  have hown : s.vm.findClass RX2 = some m.cls := findClass_of_methodNamed B.named
  subst hsz
  have hD := hD0.self (sz := s.heap.size)
  generalize hAe : va_A (WdC g ad S) s.heap.size = A at hD hE ⊢
  have hA : ∀ q : Nat, s.heap.size ≤ q → A q := fun q h => by rw [← hAe]; exact Or.inr h
  have hR : RepC g ad A s S s.heap [] := ⟨hK, hP, hD, va_S.rf, hw⟩
  clear hK hP hD hD0
  have hl := lv_entry ([.ref (ad 8)]) (n := 3) (Nat.le_of_ble_eq_true rfl)
  rw [lg_entry_eq]
  generalize (lg_sl ([.ref (ad 8)]) ++ List.replicate (3 - (lg_sl ([.ref (ad 8)])).length) Slot.unset).toArray = ls at hl ⊢
  have hl : lv_has ls 3 [(0, .ref (ad 8))] := hl
  have hsh : shy S S := shy.rf
  unfold wX2_instructionsHold at h
  refine lv_iconst (v := 0) hx hb dX2_instructionsHold_0 (by decide) ?_
  refine lv_istore_n (lv' := [(1, .int 0), (0, .ref (ad 8))]) hx hb dX2_instructionsHold_1 rfl hl (by decide) rfl (fun ls hl => ?_)
  have J_2 : ∀ (n2 : Nat) (U2 : MS) (v2_1 : Int32) (H : Heap) (locs : List Loc) (ls : Array Slot), w_X2_instructionsHold_L2 Q n2 U2 v2_1 → shy S U2 → RepC g ad A s U2 H locs → lv_has ls 3 [(0, .ref (ad 8)), (1, .int v2_1)] → W p l e (headSpec (wt yX2_instructionsHold cX2_instructionsHold 3 (some .boolean)) ({ frames := 4, cells := 0, slots := 0, locals := 88 })).room s m ([.ref (ad 8)] : List Value).toArray below meth c H locs 0 0 (MQ below (va_Qi (fun (r : Int32) (u : MS) => Q r u ∧ wfC u ∧ shy S u ∧ (r = 0 ∨ r = 1)) (fun (u : MS) (t : State) => qEC g ad A u t) A) ([.ref (ad 8)] : List Value).toArray s 0 0 A) (F0 m 2 ls []) := by
    intro n2
    induction n2 with
    | zero => intro U2 v2_1 H locs ls h hsh hR hl; unfold w_X2_instructionsHold_L2 at h; exact h.elim
    | succ n2 ih_2 =>
      intro U2 v2_1 H locs ls h hsh hR hl
      unfold w_X2_instructionsHold_L2 at h
      replace h := h hR.w
      refine lv_iload_n hx hb dX2_instructionsHold_2 rfl (lv_at hl 1 rfl) ?_
      refine lv_aload_n hx hb dX2_instructionsHold_3 rfl (lv_at hl 0 rfl) ?_
      refine va_get (D := rD g) (ci := 2) (v := .ref (ad 9)) (C := RX2) (T := TX2) (N := 12) hx hb hts inX2 hown hR.K hR.P 8 (hR.at42 (hR.w.2.1 _ finC_26).2.1) rfl 0 (by decide) (hts _ kw_632) (fun _ h9 => h9) (congrArg (fun z => some (vf ad z)) (hR.w.2.1 _ finC_2).1) dX2_instructionsHold_4 ?_
      refine va_get (D := rD g) (ci := 6) (v := .int (qI U2 9 8)) (C := RX7) (T := TX7) (N := 17) hx hb hts inX7 hown hR.K hR.P 9 (hR.at46 (hR.w.2.1 _ finC_2).2.1) rfl 8 (by decide) (hts _ kw_646) (fun _ h9 => h9) rfl dX2_instructionsHold_7 ?_
      refine lv_icmp_ge (tgt := 69) hx hb dX2_instructionsHold_10 (by decide) (fun c1 => ?_) (fun c1 => ?_)
      · replace h := h.1 (k_le rfl rfl c1)
        refine lv_iconst (v := 1) hx hb dX2_instructionsHold_69 (by decide) ?_
        exact W.zret (v := 1) hx hb hr (nz (Or.inr rfl)) (fun t9 ht9 hW9 => ⟨⟨_, U2, rfl, ⟨h, hR.w, hsh, (Or.inr rfl)⟩, ⟨by rw [ht9]; exact hR.P, hR.D⟩⟩, hR.sS.F ht9⟩) hR.sS.2.2 dX2_instructionsHold_70
      · replace h := h.2 (k_nle rfl rfl c1)
        refine lv_aload_n hx hb dX2_instructionsHold_13 rfl (lv_at hl 0 rfl) ?_
        refine lv_iload_n hx hb dX2_instructionsHold_14 rfl (lv_at hl 1 rfl) ?_
        obtain ⟨Q2, h0, h⟩ := h
        have hFc := cfree hR hA
        refine va_callv (va_runV (As := [.int v2_1]) (rest := []) ⟨hx, hb, hml, hown, hts⟩ (rX2_lookAt l g ad H.size U2 v2_1 hR.w  Q2 h0) (cwV 1 hts (gd_V kw_715 kw_739 kw_740 kw_389 kw_738) rfl rfl rfl (by decide +kernel) ⟨Nat.le_of_ble_eq_true rfl, Nat.le_of_ble_eq_true rfl⟩) ⟨cblind, va_recv hR.K hR.P (ci := 2) (q0 := 8) rfl (hR.at42 (hR.w.2.1 _ finC_26).2.1), fun U hU hW9 => cmk hU hW9 hR hex hE hFc⟩ rfl rfl hl.1 rfl (lv_room (Nat.le_of_ble_eq_true rfl)) dX2_instructionsHold_15 ⟨Nat.le_of_ble_eq_true rfl, Nat.le_of_ble_eq_true rfl⟩) hR.sS (fun q _ h => hFc q h) hFc (fun  S3 t9 H1 locs ht9 hvm9 hw9 hB9 hz9 hk9 hS => ?_)
        obtain ⟨hq4, hw9, hs9⟩ := hw9
        have hR : RepC g ad A s S3 H1 locs := hR.call ht9 hB9 hw9 hS hFc
        have hsh := hsh.tr hs9
        replace h := h  S3 hq4 hw9 hs9
        clear hB9 hz9 hk9 hvm9 ht9 hw9 hs9 hS
        generalize H1 = H at hR ⊢
        refine lv_iconst (v := 0) hx hb dX2_instructionsHold_18 (by decide) ?_
        refine lv_istore_n (lv' := [(2, .int 0), (0, .ref (ad 8)), (1, .int v2_1)]) hx hb dX2_instructionsHold_19 rfl hl (by decide) rfl (fun ls hl => ?_)
        have J_20 : ∀ (n20 : Nat) (U20 : MS) (v20_1 : Int32) (v20_2 : Int32) (H : Heap) (locs : List Loc) (ls : Array Slot), w_X2_instructionsHold_L20 Q (w_X2_instructionsHold_L2 Q n2) n20 U20 v20_1 v20_2 → shy S U20 → RepC g ad A s U20 H locs → lv_has ls 3 [(0, .ref (ad 8)), (1, .int v20_1), (2, .int v20_2)] → W p l e (headSpec (wt yX2_instructionsHold cX2_instructionsHold 3 (some .boolean)) ({ frames := 4, cells := 0, slots := 0, locals := 88 })).room s m ([.ref (ad 8)] : List Value).toArray below meth c H locs 0 0 (MQ below (va_Qi (fun (r : Int32) (u : MS) => Q r u ∧ wfC u ∧ shy S u ∧ (r = 0 ∨ r = 1)) (fun (u : MS) (t : State) => qEC g ad A u t) A) ([.ref (ad 8)] : List Value).toArray s 0 0 A) (F0 m 20 ls []) := by
          intro n20
          induction n20 with
          | zero => intro U20 v20_1 v20_2 H locs ls h hsh hR hl; unfold w_X2_instructionsHold_L20 at h; exact h.elim
          | succ n20 ih_20 =>
            intro U20 v20_1 v20_2 H locs ls h hsh hR hl
            unfold w_X2_instructionsHold_L20 at h
            replace h := h hR.w
            refine lv_iload_n hx hb dX2_instructionsHold_20 rfl (lv_at hl 2 rfl) ?_
            refine lv_aload_n hx hb dX2_instructionsHold_21 rfl (lv_at hl 0 rfl) ?_
            refine va_get (D := rD g) (ci := 2) (v := .int (qI U20 8 2)) (C := RX2) (T := TX2) (N := 12) hx hb hts inX2 hown hR.K hR.P 8 (hR.at42 (hR.w.2.1 _ finC_26).2.1) rfl 2 (by decide) (hts _ kw_716) (fun _ h9 => h9) rfl dX2_instructionsHold_22 ?_
            refine lv_icmp_ge (tgt := 63) hx hb dX2_instructionsHold_25 (by decide) (fun c5 => ?_) (fun c5 => ?_)
            · replace h := h.1 (k_le rfl rfl c5)
              obtain ⟨a6, ea6⟩ : ∃ z, z = (v20_1 + Int32.ofInt 1) := ⟨_, rfl⟩
              replace h := h a6 ea6
              refine lv_iinc (v := a6) (lv' := [(1, .int a6), (0, .ref (ad 8)), (2, .int v20_2)]) hx hb dX2_instructionsHold_63 hl (k := 1) rfl ea6.symm (by decide) rfl (fun ls hl => ?_)
              refine lv_goto (tgt := 2) hx hb dX2_instructionsHold_66 (by decide) ?_
              exact ih_2 U20 a6 _ _ ls h  hsh hR (lv_sub hl [1, 0] rfl)
            · replace h := h.2 (k_nle rfl rfl c5)
              refine lv_aload_n hx hb dX2_instructionsHold_28 rfl (lv_at hl 0 rfl) ?_
              refine lv_iload_n hx hb dX2_instructionsHold_29 rfl (lv_at hl 2 rfl) ?_
              obtain ⟨Q7, h0, h⟩ := h
              have hFc := cfree hR hA
              refine va_calli (va_runV (As := [.int v20_2]) (rest := []) ⟨hx, hb, hml, hown, hts⟩ (rX2_lengthAt l g ad H.size U20 v20_2 hR.w  Q7 h0) (cwV 1 hts (gd_V kw_717 kw_723 kw_724 kw_389 kw_722) rfl rfl rfl (by decide +kernel) ⟨Nat.le_of_ble_eq_true rfl, Nat.le_of_ble_eq_true rfl⟩) ⟨cblind, va_recv hR.K hR.P (ci := 2) (q0 := 8) rfl (hR.at42 (hR.w.2.1 _ finC_26).2.1), fun U hU hW9 => cmk hU hW9 hR hex hE hFc⟩ rfl rfl hl.1 rfl (lv_room (Nat.le_of_ble_eq_true rfl)) dX2_instructionsHold_30 ⟨Nat.le_of_ble_eq_true rfl, Nat.le_of_ble_eq_true rfl⟩) hR.sS (fun q _ h => hFc q h) hFc (fun r8 S9 t9 H1 locs ht9 hvm9 hw9 hB9 hz9 hk9 hS => ?_)
              obtain ⟨hq10, hw9, hs9⟩ := hw9
              have hR : RepC g ad A s S9 H1 locs := hR.call ht9 hB9 hw9 hS hFc
              have hsh := hsh.tr hs9
              replace h := h r8 S9 hq10 hw9 hs9
              clear hB9 hz9 hk9 hvm9 ht9 hw9 hs9 hS
              generalize H1 = H at hR ⊢
              refine lv_if_gt (tgt := 52) hx hb dX2_instructionsHold_33 (by decide) (fun c11 => ?_) (fun c11 => ?_)
              · replace h := h.1 (k_lt (by decide) rfl c11)
                refine lv_iload_n hx hb dX2_instructionsHold_52 rfl (lv_at hl 2 rfl) ?_
                refine lv_aload_n hx hb dX2_instructionsHold_53 rfl (lv_at hl 0 rfl) ?_
                refine lv_iload_n hx hb dX2_instructionsHold_54 rfl (lv_at hl 2 rfl) ?_
                obtain ⟨Q12, h0, h⟩ := h
                have hFc := cfree hR hA
                refine va_calli (va_runV (As := [.int v20_2]) (rest := [.int v20_2]) ⟨hx, hb, hml, hown, hts⟩ (rX2_lengthAt l g ad H.size S9 v20_2 hR.w  Q12 h0) (cwV 1 hts (gd_V kw_717 kw_723 kw_724 kw_389 kw_722) rfl rfl rfl (by decide +kernel) ⟨Nat.le_of_ble_eq_true rfl, Nat.le_of_ble_eq_true rfl⟩) ⟨cblind, va_recv hR.K hR.P (ci := 2) (q0 := 8) rfl (hR.at42 (hR.w.2.1 _ finC_26).2.1), fun U hU hW9 => cmk hU hW9 hR hex hE hFc⟩ rfl rfl hl.1 rfl (lv_room (Nat.le_of_ble_eq_true rfl)) dX2_instructionsHold_55 ⟨Nat.le_of_ble_eq_true rfl, Nat.le_of_ble_eq_true rfl⟩) hR.sS (fun q _ h => hFc q h) hFc (fun r13 S14 t9 H1 locs ht9 hvm9 hw9 hB9 hz9 hk9 hS => ?_)
                obtain ⟨hq15, hw9, hs9⟩ := hw9
                have hR : RepC g ad A s S14 H1 locs := hR.call ht9 hB9 hw9 hS hFc
                have hsh := hsh.tr hs9
                replace h := h r13 S14 hq15 hw9 hs9
                clear hB9 hz9 hk9 hvm9 ht9 hw9 hs9 hS
                generalize H1 = H at hR ⊢
                refine lv_iadd hx hb dX2_instructionsHold_58 ?_
                refine lv_topi (fun z16 ez16 => ?_)
                obtain rfl : z16 = (v20_2 + r13) := ez16
                obtain ⟨a17, ea17⟩ : ∃ z, z = (v20_2 + r13) := ⟨_, rfl⟩
                rw [← ea17]
                replace h := h a17 ea17
                refine lv_istore_n (lv' := [(2, .int a17), (0, .ref (ad 8)), (1, .int v20_1)]) hx hb dX2_instructionsHold_59 rfl hl (by decide) rfl (fun ls hl => ?_)
                refine lv_goto (tgt := 20) hx hb dX2_instructionsHold_60 (by decide) ?_
                exact ih_20 S14 v20_1 a17 _ _ ls h  hsh hR (lv_sub hl [1, 2, 0] rfl)
              · replace h := h.2 (k_nlt (by decide) rfl c11)
                refine lv_aload_n hx hb dX2_instructionsHold_36 rfl (lv_at hl 0 rfl) ?_
                refine va_get (D := rD g) (ci := 2) (v := .ref (ad 9)) (C := RX2) (T := TX2) (N := 12) hx hb hts inX2 hown hR.K hR.P 8 (hR.at42 (hR.w.2.1 _ finC_26).2.1) rfl 0 (by decide) (hts _ kw_632) (fun _ h9 => h9) (congrArg (fun z => some (vf ad z)) (hR.w.2.1 _ finC_2).1) dX2_instructionsHold_37 ?_
                refine lv_bipush (v := 15) hx hb dX2_instructionsHold_40 (by decide) ?_
                refine lv_aload_n hx hb dX2_instructionsHold_42 rfl (lv_at hl 0 rfl) ?_
                refine va_get (D := rD g) (ci := 2) (v := .int (qI S9 8 1)) (C := RX2) (T := TX2) (N := 12) hx hb hts inX2 hown hR.K hR.P 8 (hR.at42 (hR.w.2.1 _ finC_26).2.1) rfl 1 (by decide) (hts _ kw_718) (fun _ h9 => h9) rfl dX2_instructionsHold_43 ?_
                refine lv_iload_n hx hb dX2_instructionsHold_46 rfl (lv_at hl 2 rfl) ?_
                refine lv_iadd hx hb dX2_instructionsHold_47 ?_
                refine lv_topi (fun z18 ez18 => ?_)
                obtain rfl : z18 = ((qI S9 8 1) + v20_2) := ez18
                obtain ⟨Q19, h0, h⟩ := h
                have hFc := cfree hR hA
                refine va_calli (va_runV (As := [.int 15, .int ((qI S9 8 1) + v20_2)]) (rest := []) ⟨hx, hb, hml, hown, hts⟩ (rX7_breaks l g ad H.size S9 (15 : Int32) ((qI S9 8 1) + v20_2) hR.w  Q19 h0) (cwV 2 hts (gd_V kw_677 kw_1278 kw_1279 kw_710 kw_1277) rfl rfl rfl (by decide +kernel) ⟨Nat.le_of_ble_eq_true rfl, Nat.le_of_ble_eq_true rfl⟩) ⟨cblind, va_recv hR.K hR.P (ci := 6) (q0 := 9) rfl (hR.at46 (hR.w.2.1 _ finC_2).2.1), fun U hU hW9 => cmk hU hW9 hR hex hE hFc⟩ rfl rfl hl.1 rfl (lv_room (Nat.le_of_ble_eq_true rfl)) dX2_instructionsHold_48 ⟨Nat.le_of_ble_eq_true rfl, Nat.le_of_ble_eq_true rfl⟩) hR.sS (fun q _ h => hFc q h) hFc (fun r20 S21 t9 H1 locs ht9 hvm9 hw9 hB9 hz9 hk9 hS => ?_)
                obtain ⟨hq22, hw9, hs9, hz_r20⟩ := hw9
                have hR : RepC g ad A s S21 H1 locs := hR.call ht9 hB9 hw9 hS hFc
                have hsh := hsh.tr hs9
                replace h := h r20 S21 hq22 hw9 hs9
                clear hB9 hz9 hk9 hvm9 ht9 hw9 hs9 hS
                generalize H1 = H at hR ⊢
                exact W.zret (v := r20) hx hb hr (nz hz_r20) (fun t9 ht9 hW9 => ⟨⟨_, S21, rfl, ⟨h, hR.w, hsh, hz_r20⟩, ⟨by rw [ht9]; exact hR.P, hR.D⟩⟩, hR.sS.F ht9⟩) hR.sS.2.2 dX2_instructionsHold_51
        obtain ⟨n9, h⟩ := h
        exact J_20 n9 S3 v2_1 0 _ _ ls h  hsh hR (lv_sub hl [1, 2, 0] rfl)
  obtain ⟨n9, h⟩ := h
  exact J_2 n9 S 0 _ _ ls h  hsh hR (lv_sub hl [1, 0] rfl)
def w_X2_pointersHold_L77 (Q : Int32 → MS → Prop) (k2 : MS → Int32 → Prop) : Nat → MS → Int32 → Int32 → Prop
  | 0, _, _, _ => False
  | n77 + 1, U77, v77_1, v77_2 => (wfC U77 → (((qI U77 8 6).toInt ≤ v77_2.toInt → (∀ a10 : Int32, a10 = (v77_1 + Int32.ofInt 1) → k2 U77 a10)) ∧ (¬ (qI U77 8 6).toInt ≤ v77_2.toInt → (∃ Q13, wX2_catchHolds U77 ((qI U77 8 5) + ((8 : Int32) * v77_2)) Q13 ∧ ∀ r14 S15, Q13 r14 S15 → wfC S15 → shy U77 S15 → ((r14.toInt = 0 → (∃ Q21, wX7_breaks S15 (16 : Int32) ((qI S15 8 5) + ((8 : Int32) * v77_2)) Q21 ∧ ∀ r22 S23, Q21 r22 S23 → wfC S23 → shy S15 S23 → Q r22 S23)) ∧ (¬ r14.toInt = 0 → (∀ a18 : Int32, a18 = (v77_2 + Int32.ofInt 1) → (w_X2_pointersHold_L77 Q k2 n77) S15 v77_1 a18)))))))
def w_X2_pointersHold_L24 (Q : Int32 → MS → Prop) (k2 : MS → Int32 → Prop) : Nat → MS → Int32 → Int32 → Prop
  | 0, _, _, _ => False
  | n24 + 1, U24, v24_1, v24_2 => (wfC U24 → (((qI U24 8 2).toInt ≤ v24_2.toInt → (∃ n, w_X2_pointersHold_L77 Q k2 n U24 v24_1 0)) ∧ (¬ (qI U24 8 2).toInt ≤ v24_2.toInt → (∃ Q25, wX2_decode U24 v24_2 Q25 ∧ ∀ S26, Q25 S26 → wfC S26 → shy U24 S26 → (∃ Q28, wX2_pointsWell S26 Q28 ∧ ∀ r29 S30, Q28 r29 S30 → wfC S30 → shy S26 S30 → ((r29.toInt = 0 → (∃ Q41, wX7_breaks S30 (16 : Int32) ((qI S30 8 1) + v24_2) Q41 ∧ ∀ r42 S43, Q41 r42 S43 → wfC S43 → shy S30 S43 → Q r42 S43)) ∧ (¬ r29.toInt = 0 → (∃ Q33, wX2_lengthAt S30 v24_2 Q33 ∧ ∀ r34 S35, Q33 r34 S35 → wfC S35 → shy S30 S35 → (∀ a39 : Int32, a39 = (v24_2 + (if (1 : Int32) < r34 then r34 else (1 : Int32))) → (w_X2_pointersHold_L24 Q k2 n24) S35 v24_1 a39)))))))))
def w_X2_pointersHold_L2 (Q : Int32 → MS → Prop) : Nat → MS → Int32 → Prop
  | 0, _, _ => False
  | n2 + 1, U2, v2_1 => (wfC U2 → (((qI U2 9 8).toInt ≤ v2_1.toInt → Q (1 : Int32) U2) ∧ (¬ (qI U2 9 8).toInt ≤ v2_1.toInt → (∃ Q2, wX2_lookAt U2 v2_1 Q2 ∧ ∀ S3, Q2 S3 → wfC S3 → shy U2 S3 → (∃ Q5, wX2_numberInstructions S3 Q5 ∧ ∀ S6, Q5 S6 → wfC S6 → shy S3 S6 → (∃ n, w_X2_pointersHold_L24 Q (w_X2_pointersHold_L2 Q n2) n S6 v2_1 0))))))
def wX2_pointersHold (S : MS) (Q : Int32 → MS → Prop) : Prop := (∃ n, w_X2_pointersHold_L2 Q n S 0)
set_option maxHeartbeats 2000000 in
set_option maxRecDepth 100000 in
theorem rX2_pointersHold (l : Launch) (g : Gr) (ad : Nat → Nat) (sz : Nat) (S : MS) (hw : wfC S) (Q : Int32 → MS → Prop) (h : wX2_pointersHold S Q) : Met l yX2_pointersHold (wt yX2_pointersHold cX2_pointersHold 3 (some .boolean)) ({ frames := 7, cells := 0, slots := 0, locals := 153 }) (va_Pc [.ref (ad 8)] (st_C g ad sz S)) (va_Qi (fun (r : Int32) (u : MS) => Q r u ∧ wfC u ∧ shy S u ∧ (r = 0 ∨ r = 1)) (fun (u : MS) (t : State) => qEC g ad (va_A (WdC g ad S) sz) u t) (va_A (WdC g ad S) sz)) 0 0 (va_A (WdC g ad S) sz) := by
  refine Met.ofW (cc := cX2_pointersHold) (maxL := 3) (ret := (some .boolean)) (by decide) rfl ?_
  intro p e s m args below meth c s₁ B hml hv
  obtain ⟨rfl, hsz, hP, hK, hD0, hex, hE⟩ := hv
  have hx := B.exec
  have hb := B.bytes
  have hr := B.returns
  have hts0 := atoms_spec (ws := wt yX2_pointersHold cX2_pointersHold 3 (some .boolean)) B.pre
  have hts : ∀ w ∈ tb, w.before _ s = true := fun w h => hts0 w (List.mem_cons_of_mem _ h)
  have hown : s.vm.findClass RX2 = some m.cls := findClass_of_methodNamed B.named
  subst hsz
  have hD := hD0.self (sz := s.heap.size)
  generalize hAe : va_A (WdC g ad S) s.heap.size = A at hD hE ⊢
  have hA : ∀ q : Nat, s.heap.size ≤ q → A q := fun q h => by rw [← hAe]; exact Or.inr h
  have hR : RepC g ad A s S s.heap [] := ⟨hK, hP, hD, va_S.rf, hw⟩
  clear hK hP hD hD0
  have hl := lv_entry ([.ref (ad 8)]) (n := 3) (Nat.le_of_ble_eq_true rfl)
  rw [lg_entry_eq]
  generalize (lg_sl ([.ref (ad 8)]) ++ List.replicate (3 - (lg_sl ([.ref (ad 8)])).length) Slot.unset).toArray = ls at hl ⊢
  have hl : lv_has ls 3 [(0, .ref (ad 8))] := hl
  have hsh : shy S S := shy.rf
  unfold wX2_pointersHold at h
  refine lv_iconst (v := 0) hx hb dX2_pointersHold_0 (by decide) ?_
  refine lv_istore_n (lv' := [(1, .int 0), (0, .ref (ad 8))]) hx hb dX2_pointersHold_1 rfl hl (by decide) rfl (fun ls hl => ?_)
  have J_2 : ∀ (n2 : Nat) (U2 : MS) (v2_1 : Int32) (H : Heap) (locs : List Loc) (ls : Array Slot), w_X2_pointersHold_L2 Q n2 U2 v2_1 → shy S U2 → RepC g ad A s U2 H locs → lv_has ls 3 [(0, .ref (ad 8)), (1, .int v2_1)] → W p l e (headSpec (wt yX2_pointersHold cX2_pointersHold 3 (some .boolean)) ({ frames := 7, cells := 0, slots := 0, locals := 153 })).room s m ([.ref (ad 8)] : List Value).toArray below meth c H locs 0 0 (MQ below (va_Qi (fun (r : Int32) (u : MS) => Q r u ∧ wfC u ∧ shy S u ∧ (r = 0 ∨ r = 1)) (fun (u : MS) (t : State) => qEC g ad A u t) A) ([.ref (ad 8)] : List Value).toArray s 0 0 A) (F0 m 2 ls []) := by
    intro n2
    induction n2 with
    | zero => intro U2 v2_1 H locs ls h hsh hR hl; unfold w_X2_pointersHold_L2 at h; exact h.elim
    | succ n2 ih_2 =>
      intro U2 v2_1 H locs ls h hsh hR hl
      unfold w_X2_pointersHold_L2 at h
      replace h := h hR.w
      refine lv_iload_n hx hb dX2_pointersHold_2 rfl (lv_at hl 1 rfl) ?_
      refine lv_aload_n hx hb dX2_pointersHold_3 rfl (lv_at hl 0 rfl) ?_
      refine va_get (D := rD g) (ci := 2) (v := .ref (ad 9)) (C := RX2) (T := TX2) (N := 12) hx hb hts inX2 hown hR.K hR.P 8 (hR.at42 (hR.w.2.1 _ finC_26).2.1) rfl 0 (by decide) (hts _ kw_632) (fun _ h9 => h9) (congrArg (fun z => some (vf ad z)) (hR.w.2.1 _ finC_2).1) dX2_pointersHold_4 ?_
      refine va_get (D := rD g) (ci := 6) (v := .int (qI U2 9 8)) (C := RX7) (T := TX7) (N := 17) hx hb hts inX7 hown hR.K hR.P 9 (hR.at46 (hR.w.2.1 _ finC_2).2.1) rfl 8 (by decide) (hts _ kw_646) (fun _ h9 => h9) rfl dX2_pointersHold_7 ?_
      refine lv_icmp_ge (tgt := 132) hx hb dX2_pointersHold_10 (by decide) (fun c1 => ?_) (fun c1 => ?_)
      · replace h := h.1 (k_le rfl rfl c1)
        refine lv_iconst (v := 1) hx hb dX2_pointersHold_132 (by decide) ?_
        exact W.zret (v := 1) hx hb hr (nz (Or.inr rfl)) (fun t9 ht9 hW9 => ⟨⟨_, U2, rfl, ⟨h, hR.w, hsh, (Or.inr rfl)⟩, ⟨by rw [ht9]; exact hR.P, hR.D⟩⟩, hR.sS.F ht9⟩) hR.sS.2.2 dX2_pointersHold_133
      · replace h := h.2 (k_nle rfl rfl c1)
        refine lv_aload_n hx hb dX2_pointersHold_13 rfl (lv_at hl 0 rfl) ?_
        refine lv_iload_n hx hb dX2_pointersHold_14 rfl (lv_at hl 1 rfl) ?_
        obtain ⟨Q2, h0, h⟩ := h
        have hFc := cfree hR hA
        refine va_callv (va_runV (As := [.int v2_1]) (rest := []) ⟨hx, hb, hml, hown, hts⟩ (rX2_lookAt l g ad H.size U2 v2_1 hR.w  Q2 h0) (cwV 1 hts (gd_V kw_715 kw_739 kw_740 kw_389 kw_738) rfl rfl rfl (by decide +kernel) ⟨Nat.le_of_ble_eq_true rfl, Nat.le_of_ble_eq_true rfl⟩) ⟨cblind, va_recv hR.K hR.P (ci := 2) (q0 := 8) rfl (hR.at42 (hR.w.2.1 _ finC_26).2.1), fun U hU hW9 => cmk hU hW9 hR hex hE hFc⟩ rfl rfl hl.1 rfl (lv_room (Nat.le_of_ble_eq_true rfl)) dX2_pointersHold_15 ⟨Nat.le_of_ble_eq_true rfl, Nat.le_of_ble_eq_true rfl⟩) hR.sS (fun q _ h => hFc q h) hFc (fun  S3 t9 H1 locs ht9 hvm9 hw9 hB9 hz9 hk9 hS => ?_)
        obtain ⟨hq4, hw9, hs9⟩ := hw9
        have hR : RepC g ad A s S3 H1 locs := hR.call ht9 hB9 hw9 hS hFc
        have hsh := hsh.tr hs9
        replace h := h  S3 hq4 hw9 hs9
        clear hB9 hz9 hk9 hvm9 ht9 hw9 hs9 hS
        generalize H1 = H at hR ⊢
        refine lv_aload_n hx hb dX2_pointersHold_18 rfl (lv_at hl 0 rfl) ?_
        obtain ⟨Q5, h0, h⟩ := h
        have hFc := cfree hR hA
        refine va_callv (va_runV (As := []) (rest := []) ⟨hx, hb, hml, hown, hts⟩ (rX2_numberInstructions l g ad H.size S3 hR.w  Q5 h0) (cwV 0 hts (gd_V kw_768 kw_755 kw_756 kw_389 kw_754) rfl rfl rfl (by decide +kernel) ⟨Nat.le_of_ble_eq_true rfl, Nat.le_of_ble_eq_true rfl⟩) ⟨cblind, va_recv hR.K hR.P (ci := 2) (q0 := 8) rfl (hR.at42 (hR.w.2.1 _ finC_26).2.1), fun U hU hW9 => cmk hU hW9 hR hex hE hFc⟩ rfl rfl hl.1 rfl (lv_room (Nat.le_of_ble_eq_true rfl)) dX2_pointersHold_19 ⟨Nat.le_of_ble_eq_true rfl, Nat.le_of_ble_eq_true rfl⟩) hR.sS (fun q _ h => hFc q h) hFc (fun  S6 t9 H1 locs ht9 hvm9 hw9 hB9 hz9 hk9 hS => ?_)
        obtain ⟨hq7, hw9, hs9⟩ := hw9
        have hR : RepC g ad A s S6 H1 locs := hR.call ht9 hB9 hw9 hS hFc
        have hsh := hsh.tr hs9
        replace h := h  S6 hq7 hw9 hs9
        clear hB9 hz9 hk9 hvm9 ht9 hw9 hs9 hS
        generalize H1 = H at hR ⊢
        refine lv_iconst (v := 0) hx hb dX2_pointersHold_22 (by decide) ?_
        refine lv_istore_n (lv' := [(2, .int 0), (0, .ref (ad 8)), (1, .int v2_1)]) hx hb dX2_pointersHold_23 rfl hl (by decide) rfl (fun ls hl => ?_)
        have J_24 : ∀ (n24 : Nat) (U24 : MS) (v24_1 : Int32) (v24_2 : Int32) (H : Heap) (locs : List Loc) (ls : Array Slot), w_X2_pointersHold_L24 Q (w_X2_pointersHold_L2 Q n2) n24 U24 v24_1 v24_2 → shy S U24 → RepC g ad A s U24 H locs → lv_has ls 3 [(0, .ref (ad 8)), (1, .int v24_1), (2, .int v24_2)] → W p l e (headSpec (wt yX2_pointersHold cX2_pointersHold 3 (some .boolean)) ({ frames := 7, cells := 0, slots := 0, locals := 153 })).room s m ([.ref (ad 8)] : List Value).toArray below meth c H locs 0 0 (MQ below (va_Qi (fun (r : Int32) (u : MS) => Q r u ∧ wfC u ∧ shy S u ∧ (r = 0 ∨ r = 1)) (fun (u : MS) (t : State) => qEC g ad A u t) A) ([.ref (ad 8)] : List Value).toArray s 0 0 A) (F0 m 24 ls []) := by
          intro n24
          induction n24 with
          | zero => intro U24 v24_1 v24_2 H locs ls h hsh hR hl; unfold w_X2_pointersHold_L24 at h; exact h.elim
          | succ n24 ih_24 =>
            intro U24 v24_1 v24_2 H locs ls h hsh hR hl
            unfold w_X2_pointersHold_L24 at h
            replace h := h hR.w
            refine lv_iload_n hx hb dX2_pointersHold_24 rfl (lv_at hl 2 rfl) ?_
            refine lv_aload_n hx hb dX2_pointersHold_25 rfl (lv_at hl 0 rfl) ?_
            refine va_get (D := rD g) (ci := 2) (v := .int (qI U24 8 2)) (C := RX2) (T := TX2) (N := 12) hx hb hts inX2 hown hR.K hR.P 8 (hR.at42 (hR.w.2.1 _ finC_26).2.1) rfl 2 (by decide) (hts _ kw_716) (fun _ h9 => h9) rfl dX2_pointersHold_26 ?_
            refine lv_icmp_ge (tgt := 75) hx hb dX2_pointersHold_29 (by decide) (fun c8 => ?_) (fun c8 => ?_)
            · replace h := h.1 (k_le rfl rfl c8)
              refine lv_iconst (v := 0) hx hb dX2_pointersHold_75 (by decide) ?_
              refine lv_istore_n (lv' := [(2, .int 0), (0, .ref (ad 8)), (1, .int v24_1)]) hx hb dX2_pointersHold_76 rfl hl (by decide) rfl (fun ls hl => ?_)
              have J_77 : ∀ (n77 : Nat) (U77 : MS) (v77_1 : Int32) (v77_2 : Int32) (H : Heap) (locs : List Loc) (ls : Array Slot), w_X2_pointersHold_L77 Q (w_X2_pointersHold_L2 Q n2) n77 U77 v77_1 v77_2 → shy S U77 → RepC g ad A s U77 H locs → lv_has ls 3 [(0, .ref (ad 8)), (1, .int v77_1), (2, .int v77_2)] → W p l e (headSpec (wt yX2_pointersHold cX2_pointersHold 3 (some .boolean)) ({ frames := 7, cells := 0, slots := 0, locals := 153 })).room s m ([.ref (ad 8)] : List Value).toArray below meth c H locs 0 0 (MQ below (va_Qi (fun (r : Int32) (u : MS) => Q r u ∧ wfC u ∧ shy S u ∧ (r = 0 ∨ r = 1)) (fun (u : MS) (t : State) => qEC g ad A u t) A) ([.ref (ad 8)] : List Value).toArray s 0 0 A) (F0 m 77 ls []) := by
                intro n77
                induction n77 with
                | zero => intro U77 v77_1 v77_2 H locs ls h hsh hR hl; unfold w_X2_pointersHold_L77 at h; exact h.elim
                | succ n77 ih_77 =>
                  intro U77 v77_1 v77_2 H locs ls h hsh hR hl
                  unfold w_X2_pointersHold_L77 at h
                  replace h := h hR.w
                  refine lv_iload_n hx hb dX2_pointersHold_77 rfl (lv_at hl 2 rfl) ?_
                  refine lv_aload_n hx hb dX2_pointersHold_78 rfl (lv_at hl 0 rfl) ?_
                  refine va_get (D := rD g) (ci := 2) (v := .int (qI U77 8 6)) (C := RX2) (T := TX2) (N := 12) hx hb hts inX2 hown hR.K hR.P 8 (hR.at42 (hR.w.2.1 _ finC_26).2.1) rfl 6 (by decide) (hts _ kw_745) (fun _ h9 => h9) rfl dX2_pointersHold_79 ?_
                  refine lv_icmp_ge (tgt := 126) hx hb dX2_pointersHold_82 (by decide) (fun c9 => ?_) (fun c9 => ?_)
                  · replace h := h.1 (k_le rfl rfl c9)
                    obtain ⟨a10, ea10⟩ : ∃ z, z = (v77_1 + Int32.ofInt 1) := ⟨_, rfl⟩
                    replace h := h a10 ea10
                    refine lv_iinc (v := a10) (lv' := [(1, .int a10), (0, .ref (ad 8)), (2, .int v77_2)]) hx hb dX2_pointersHold_126 hl (k := 1) rfl ea10.symm (by decide) rfl (fun ls hl => ?_)
                    refine lv_goto (tgt := 2) hx hb dX2_pointersHold_129 (by decide) ?_
                    exact ih_2 U77 a10 _ _ ls h  hsh hR (lv_sub hl [1, 0] rfl)
                  · replace h := h.2 (k_nle rfl rfl c9)
                    refine lv_aload_n hx hb dX2_pointersHold_85 rfl (lv_at hl 0 rfl) ?_
                    refine lv_aload_n hx hb dX2_pointersHold_86 rfl (lv_at hl 0 rfl) ?_
                    refine va_get (D := rD g) (ci := 2) (v := .int (qI U77 8 5)) (C := RX2) (T := TX2) (N := 12) hx hb hts inX2 hown hR.K hR.P 8 (hR.at42 (hR.w.2.1 _ finC_26).2.1) rfl 5 (by decide) (hts _ kw_744) (fun _ h9 => h9) rfl dX2_pointersHold_87 ?_
                    refine lv_bipush (v := 8) hx hb dX2_pointersHold_90 (by decide) ?_
                    refine lv_iload_n hx hb dX2_pointersHold_92 rfl (lv_at hl 2 rfl) ?_
                    refine lv_imul hx hb dX2_pointersHold_93 ?_
                    refine lv_topi (fun z11 ez11 => ?_)
                    obtain rfl : z11 = ((8 : Int32) * v77_2) := ez11
                    refine lv_iadd hx hb dX2_pointersHold_94 ?_
                    refine lv_topi (fun z12 ez12 => ?_)
                    obtain rfl : z12 = ((qI U77 8 5) + ((8 : Int32) * v77_2)) := ez12
                    obtain ⟨Q13, h0, h⟩ := h
                    have hFc := cfree hR hA
                    refine va_calli (va_runV (As := [.int ((qI U77 8 5) + ((8 : Int32) * v77_2))]) (rest := []) ⟨hx, hb, hml, hown, hts⟩ (rX2_catchHolds l g ad H.size U77 ((qI U77 8 5) + ((8 : Int32) * v77_2)) hR.w  Q13 h0) (cwV 1 hts (gd_V kw_771 kw_670 kw_671 kw_389 kw_669) rfl rfl rfl (by decide +kernel) ⟨Nat.le_of_ble_eq_true rfl, Nat.le_of_ble_eq_true rfl⟩) ⟨cblind, va_recv hR.K hR.P (ci := 2) (q0 := 8) rfl (hR.at42 (hR.w.2.1 _ finC_26).2.1), fun U hU hW9 => cmk hU hW9 hR hex hE hFc⟩ rfl rfl hl.1 rfl (lv_room (Nat.le_of_ble_eq_true rfl)) dX2_pointersHold_95 ⟨Nat.le_of_ble_eq_true rfl, Nat.le_of_ble_eq_true rfl⟩) hR.sS (fun q _ h => hFc q h) hFc (fun r14 S15 t9 H1 locs ht9 hvm9 hw9 hB9 hz9 hk9 hS => ?_)
                    obtain ⟨hq16, hw9, hs9, hz_r14⟩ := hw9
                    have hR : RepC g ad A s S15 H1 locs := hR.call ht9 hB9 hw9 hS hFc
                    have hsh := hsh.tr hs9
                    replace h := h r14 S15 hq16 hw9 hs9
                    clear hB9 hz9 hk9 hvm9 ht9 hw9 hs9 hS
                    generalize H1 = H at hR ⊢
                    refine lv_if_ne (tgt := 120) hx hb dX2_pointersHold_98 (by decide) (fun c17 => ?_) (fun c17 => ?_)
                    · replace h := h.2 (k_ne rfl (by decide) c17)
                      obtain ⟨a18, ea18⟩ : ∃ z, z = (v77_2 + Int32.ofInt 1) := ⟨_, rfl⟩
                      replace h := h a18 ea18
                      refine lv_iinc (v := a18) (lv' := [(2, .int a18), (0, .ref (ad 8)), (1, .int v77_1)]) hx hb dX2_pointersHold_120 hl (k := 2) rfl ea18.symm (by decide) rfl (fun ls hl => ?_)
                      refine lv_goto (tgt := 77) hx hb dX2_pointersHold_123 (by decide) ?_
                      exact ih_77 S15 v77_1 a18 _ _ ls h  hsh hR (lv_sub hl [1, 2, 0] rfl)
                    · replace h := h.1 (k_eq rfl (by decide) c17)
                      refine lv_aload_n hx hb dX2_pointersHold_101 rfl (lv_at hl 0 rfl) ?_
                      refine va_get (D := rD g) (ci := 2) (v := .ref (ad 9)) (C := RX2) (T := TX2) (N := 12) hx hb hts inX2 hown hR.K hR.P 8 (hR.at42 (hR.w.2.1 _ finC_26).2.1) rfl 0 (by decide) (hts _ kw_632) (fun _ h9 => h9) (congrArg (fun z => some (vf ad z)) (hR.w.2.1 _ finC_2).1) dX2_pointersHold_102 ?_
                      refine lv_bipush (v := 16) hx hb dX2_pointersHold_105 (by decide) ?_
                      refine lv_aload_n hx hb dX2_pointersHold_107 rfl (lv_at hl 0 rfl) ?_
                      refine va_get (D := rD g) (ci := 2) (v := .int (qI S15 8 5)) (C := RX2) (T := TX2) (N := 12) hx hb hts inX2 hown hR.K hR.P 8 (hR.at42 (hR.w.2.1 _ finC_26).2.1) rfl 5 (by decide) (hts _ kw_744) (fun _ h9 => h9) rfl dX2_pointersHold_108 ?_
                      refine lv_bipush (v := 8) hx hb dX2_pointersHold_111 (by decide) ?_
                      refine lv_iload_n hx hb dX2_pointersHold_113 rfl (lv_at hl 2 rfl) ?_
                      refine lv_imul hx hb dX2_pointersHold_114 ?_
                      refine lv_topi (fun z19 ez19 => ?_)
                      obtain rfl : z19 = ((8 : Int32) * v77_2) := ez19
                      refine lv_iadd hx hb dX2_pointersHold_115 ?_
                      refine lv_topi (fun z20 ez20 => ?_)
                      obtain rfl : z20 = ((qI S15 8 5) + ((8 : Int32) * v77_2)) := ez20
                      obtain ⟨Q21, h0, h⟩ := h
                      have hFc := cfree hR hA
                      refine va_calli (va_runV (As := [.int 16, .int ((qI S15 8 5) + ((8 : Int32) * v77_2))]) (rest := []) ⟨hx, hb, hml, hown, hts⟩ (rX7_breaks l g ad H.size S15 (16 : Int32) ((qI S15 8 5) + ((8 : Int32) * v77_2)) hR.w  Q21 h0) (cwV 2 hts (gd_V kw_677 kw_1278 kw_1279 kw_710 kw_1277) rfl rfl rfl (by decide +kernel) ⟨Nat.le_of_ble_eq_true rfl, Nat.le_of_ble_eq_true rfl⟩) ⟨cblind, va_recv hR.K hR.P (ci := 6) (q0 := 9) rfl (hR.at46 (hR.w.2.1 _ finC_2).2.1), fun U hU hW9 => cmk hU hW9 hR hex hE hFc⟩ rfl rfl hl.1 rfl (lv_room (Nat.le_of_ble_eq_true rfl)) dX2_pointersHold_116 ⟨Nat.le_of_ble_eq_true rfl, Nat.le_of_ble_eq_true rfl⟩) hR.sS (fun q _ h => hFc q h) hFc (fun r22 S23 t9 H1 locs ht9 hvm9 hw9 hB9 hz9 hk9 hS => ?_)
                      obtain ⟨hq24, hw9, hs9, hz_r22⟩ := hw9
                      have hR : RepC g ad A s S23 H1 locs := hR.call ht9 hB9 hw9 hS hFc
                      have hsh := hsh.tr hs9
                      replace h := h r22 S23 hq24 hw9 hs9
                      clear hB9 hz9 hk9 hvm9 ht9 hw9 hs9 hS
                      generalize H1 = H at hR ⊢
                      exact W.zret (v := r22) hx hb hr (nz hz_r22) (fun t9 ht9 hW9 => ⟨⟨_, S23, rfl, ⟨h, hR.w, hsh, hz_r22⟩, ⟨by rw [ht9]; exact hR.P, hR.D⟩⟩, hR.sS.F ht9⟩) hR.sS.2.2 dX2_pointersHold_119
              obtain ⟨n9, h⟩ := h
              exact J_77 n9 U24 v24_1 0 _ _ ls h  hsh hR (lv_sub hl [1, 2, 0] rfl)
            · replace h := h.2 (k_nle rfl rfl c8)
              refine lv_aload_n hx hb dX2_pointersHold_32 rfl (lv_at hl 0 rfl) ?_
              refine lv_iload_n hx hb dX2_pointersHold_33 rfl (lv_at hl 2 rfl) ?_
              obtain ⟨Q25, h0, h⟩ := h
              have hFc := cfree hR hA
              refine va_callv (va_runV (As := [.int v24_2]) (rest := []) ⟨hx, hb, hml, hown, hts⟩ (rX2_decode l g ad H.size U24 v24_2 hR.w  Q25 h0) (cwV 1 hts (gd_V kw_769 kw_680 kw_681 kw_389 kw_679) rfl rfl rfl (by decide +kernel) ⟨Nat.le_of_ble_eq_true rfl, Nat.le_of_ble_eq_true rfl⟩) ⟨cblind, va_recv hR.K hR.P (ci := 2) (q0 := 8) rfl (hR.at42 (hR.w.2.1 _ finC_26).2.1), fun U hU hW9 => cmk hU hW9 hR hex hE hFc⟩ rfl rfl hl.1 rfl (lv_room (Nat.le_of_ble_eq_true rfl)) dX2_pointersHold_34 ⟨Nat.le_of_ble_eq_true rfl, Nat.le_of_ble_eq_true rfl⟩) hR.sS (fun q _ h => hFc q h) hFc (fun  S26 t9 H1 locs ht9 hvm9 hw9 hB9 hz9 hk9 hS => ?_)
              obtain ⟨hq27, hw9, hs9⟩ := hw9
              have hR : RepC g ad A s S26 H1 locs := hR.call ht9 hB9 hw9 hS hFc
              have hsh := hsh.tr hs9
              replace h := h  S26 hq27 hw9 hs9
              clear hB9 hz9 hk9 hvm9 ht9 hw9 hs9 hS
              generalize H1 = H at hR ⊢
              refine lv_aload_n hx hb dX2_pointersHold_37 rfl (lv_at hl 0 rfl) ?_
              obtain ⟨Q28, h0, h⟩ := h
              have hFc := cfree hR hA
              refine va_calli (va_runV (As := []) (rest := []) ⟨hx, hb, hml, hown, hts⟩ (rX2_pointsWell l g ad H.size S26 hR.w  Q28 h0) (cwV 0 hts (gd_V kw_770 kw_773 kw_774 kw_389 kw_772) rfl rfl rfl (by decide +kernel) ⟨Nat.le_of_ble_eq_true rfl, Nat.le_of_ble_eq_true rfl⟩) ⟨cblind, va_recv hR.K hR.P (ci := 2) (q0 := 8) rfl (hR.at42 (hR.w.2.1 _ finC_26).2.1), fun U hU hW9 => cmk hU hW9 hR hex hE hFc⟩ rfl rfl hl.1 rfl (lv_room (Nat.le_of_ble_eq_true rfl)) dX2_pointersHold_38 ⟨Nat.le_of_ble_eq_true rfl, Nat.le_of_ble_eq_true rfl⟩) hR.sS (fun q _ h => hFc q h) hFc (fun r29 S30 t9 H1 locs ht9 hvm9 hw9 hB9 hz9 hk9 hS => ?_)
              obtain ⟨hq31, hw9, hs9, hz_r29⟩ := hw9
              have hR : RepC g ad A s S30 H1 locs := hR.call ht9 hB9 hw9 hS hFc
              have hsh := hsh.tr hs9
              replace h := h r29 S30 hq31 hw9 hs9
              clear hB9 hz9 hk9 hvm9 ht9 hw9 hs9 hS
              generalize H1 = H at hR ⊢
              refine lv_if_ne (tgt := 60) hx hb dX2_pointersHold_41 (by decide) (fun c32 => ?_) (fun c32 => ?_)
              · replace h := h.2 (k_ne rfl (by decide) c32)
                refine lv_iload_n hx hb dX2_pointersHold_60 rfl (lv_at hl 2 rfl) ?_
                refine lv_iconst (v := 1) hx hb dX2_pointersHold_61 (by decide) ?_
                refine lv_aload_n hx hb dX2_pointersHold_62 rfl (lv_at hl 0 rfl) ?_
                refine lv_iload_n hx hb dX2_pointersHold_63 rfl (lv_at hl 2 rfl) ?_
                obtain ⟨Q33, h0, h⟩ := h
                have hFc := cfree hR hA
                refine va_calli (va_runV (As := [.int v24_2]) (rest := [.int 1, .int v24_2]) ⟨hx, hb, hml, hown, hts⟩ (rX2_lengthAt l g ad H.size S30 v24_2 hR.w  Q33 h0) (cwV 1 hts (gd_V kw_717 kw_723 kw_724 kw_389 kw_722) rfl rfl rfl (by decide +kernel) ⟨Nat.le_of_ble_eq_true rfl, Nat.le_of_ble_eq_true rfl⟩) ⟨cblind, va_recv hR.K hR.P (ci := 2) (q0 := 8) rfl (hR.at42 (hR.w.2.1 _ finC_26).2.1), fun U hU hW9 => cmk hU hW9 hR hex hE hFc⟩ rfl rfl hl.1 rfl (lv_room (Nat.le_of_ble_eq_true rfl)) dX2_pointersHold_64 ⟨Nat.le_of_ble_eq_true rfl, Nat.le_of_ble_eq_true rfl⟩) hR.sS (fun q _ h => hFc q h) hFc (fun r34 S35 t9 H1 locs ht9 hvm9 hw9 hB9 hz9 hk9 hS => ?_)
                obtain ⟨hq36, hw9, hs9⟩ := hw9
                have hR : RepC g ad A s S35 H1 locs := hR.call ht9 hB9 hw9 hS hFc
                have hsh := hsh.tr hs9
                replace h := h r34 S35 hq36 hw9 hs9
                clear hB9 hz9 hk9 hvm9 ht9 hw9 hs9 hS
                generalize H1 = H at hR ⊢
                refine va_mmax hx hb (by rw [hml]; exact hl.1.symm) hown (hts _ kw_759) (hts _ kw_1747) (hts _ kw_1748) (hts _ kw_1746) (Nat.le_of_ble_eq_true rfl) (Nat.le_of_ble_eq_true rfl) (Nat.le_of_ble_eq_true rfl) (Nat.le_of_ble_eq_true rfl) dX2_pointersHold_67 ?_
                refine lv_topi (fun z37 ez37 => ?_)
                obtain rfl : z37 = (if (1 : Int32) < r34 then r34 else (1 : Int32)) := ez37
                refine lv_iadd hx hb dX2_pointersHold_70 ?_
                refine lv_topi (fun z38 ez38 => ?_)
                obtain rfl : z38 = (v24_2 + (if (1 : Int32) < r34 then r34 else (1 : Int32))) := ez38
                obtain ⟨a39, ea39⟩ : ∃ z, z = (v24_2 + (if (1 : Int32) < r34 then r34 else (1 : Int32))) := ⟨_, rfl⟩
                rw [← ea39]
                replace h := h a39 ea39
                refine lv_istore_n (lv' := [(2, .int a39), (0, .ref (ad 8)), (1, .int v24_1)]) hx hb dX2_pointersHold_71 rfl hl (by decide) rfl (fun ls hl => ?_)
                refine lv_goto (tgt := 24) hx hb dX2_pointersHold_72 (by decide) ?_
                exact ih_24 S35 v24_1 a39 _ _ ls h  hsh hR (lv_sub hl [1, 2, 0] rfl)
              · replace h := h.1 (k_eq rfl (by decide) c32)
                refine lv_aload_n hx hb dX2_pointersHold_44 rfl (lv_at hl 0 rfl) ?_
                refine va_get (D := rD g) (ci := 2) (v := .ref (ad 9)) (C := RX2) (T := TX2) (N := 12) hx hb hts inX2 hown hR.K hR.P 8 (hR.at42 (hR.w.2.1 _ finC_26).2.1) rfl 0 (by decide) (hts _ kw_632) (fun _ h9 => h9) (congrArg (fun z => some (vf ad z)) (hR.w.2.1 _ finC_2).1) dX2_pointersHold_45 ?_
                refine lv_bipush (v := 16) hx hb dX2_pointersHold_48 (by decide) ?_
                refine lv_aload_n hx hb dX2_pointersHold_50 rfl (lv_at hl 0 rfl) ?_
                refine va_get (D := rD g) (ci := 2) (v := .int (qI S30 8 1)) (C := RX2) (T := TX2) (N := 12) hx hb hts inX2 hown hR.K hR.P 8 (hR.at42 (hR.w.2.1 _ finC_26).2.1) rfl 1 (by decide) (hts _ kw_718) (fun _ h9 => h9) rfl dX2_pointersHold_51 ?_
                refine lv_iload_n hx hb dX2_pointersHold_54 rfl (lv_at hl 2 rfl) ?_
                refine lv_iadd hx hb dX2_pointersHold_55 ?_
                refine lv_topi (fun z40 ez40 => ?_)
                obtain rfl : z40 = ((qI S30 8 1) + v24_2) := ez40
                obtain ⟨Q41, h0, h⟩ := h
                have hFc := cfree hR hA
                refine va_calli (va_runV (As := [.int 16, .int ((qI S30 8 1) + v24_2)]) (rest := []) ⟨hx, hb, hml, hown, hts⟩ (rX7_breaks l g ad H.size S30 (16 : Int32) ((qI S30 8 1) + v24_2) hR.w  Q41 h0) (cwV 2 hts (gd_V kw_677 kw_1278 kw_1279 kw_710 kw_1277) rfl rfl rfl (by decide +kernel) ⟨Nat.le_of_ble_eq_true rfl, Nat.le_of_ble_eq_true rfl⟩) ⟨cblind, va_recv hR.K hR.P (ci := 6) (q0 := 9) rfl (hR.at46 (hR.w.2.1 _ finC_2).2.1), fun U hU hW9 => cmk hU hW9 hR hex hE hFc⟩ rfl rfl hl.1 rfl (lv_room (Nat.le_of_ble_eq_true rfl)) dX2_pointersHold_56 ⟨Nat.le_of_ble_eq_true rfl, Nat.le_of_ble_eq_true rfl⟩) hR.sS (fun q _ h => hFc q h) hFc (fun r42 S43 t9 H1 locs ht9 hvm9 hw9 hB9 hz9 hk9 hS => ?_)
                obtain ⟨hq44, hw9, hs9, hz_r42⟩ := hw9
                have hR : RepC g ad A s S43 H1 locs := hR.call ht9 hB9 hw9 hS hFc
                have hsh := hsh.tr hs9
                replace h := h r42 S43 hq44 hw9 hs9
                clear hB9 hz9 hk9 hvm9 ht9 hw9 hs9 hS
                generalize H1 = H at hR ⊢
                exact W.zret (v := r42) hx hb hr (nz hz_r42) (fun t9 ht9 hW9 => ⟨⟨_, S43, rfl, ⟨h, hR.w, hsh, hz_r42⟩, ⟨by rw [ht9]; exact hR.P, hR.D⟩⟩, hR.sS.F ht9⟩) hR.sS.2.2 dX2_pointersHold_59
        obtain ⟨n9, h⟩ := h
        exact J_24 n9 S6 v2_1 0 _ _ ls h  hsh hR (lv_sub hl [1, 2, 0] rfl)
  obtain ⟨n9, h⟩ := h
  exact J_2 n9 S 0 _ _ ls h  hsh hR (lv_sub hl [1, 0] rfl)
def w_X2_rowOf_L79 (Q : Nat → MS → Prop) : Nat → MS → Nat → Int32 → Prop
  | 0, _, _, _ => False
  | n79 + 1, U79, v79_2, v79_3 => (wfC U79 → qT U79 v79_2 = 47 → (((qI U79 8 6).toInt ≤ v79_3.toInt → Q v79_2 U79) ∧ (¬ (qI U79 8 6).toInt ≤ v79_3.toInt → (∀ a26 : Int32, a26 = ((qI U79 8 5) + ((8 : Int32) * v79_3)) → (d_X7_u2 U79 a26 ∧ (∀ a30 : Int32, a30 = (fX7_u2 U79 a26) → (d_X2_numberOf U79 (a30.toInt64) ∧ (∀ a34 : Int32, a34 = (fX2_numberOf U79 (a30.toInt64)) → (d_X7_u2 U79 (a26 + (2 : Int32)) ∧ (∀ a39 : Int32, a39 = (fX7_u2 U79 (a26 + (2 : Int32))) → (d_X2_numberOf U79 (a39.toInt64) ∧ (∀ a43 : Int32, a43 = (fX2_numberOf U79 (a39.toInt64)) → (d_X7_u2 U79 (a26 + (4 : Int32)) ∧ (∀ a48 : Int32, a48 = (fX7_u2 U79 (a26 + (4 : Int32))) → (d_X2_numberOf U79 (a48.toInt64) ∧ (∀ a52 : Int32, a52 = (fX2_numberOf U79 (a48.toInt64)) → (d_X7_u2 U79 (a26 + (6 : Int32)) ∧ (∀ a57 : Int32, a57 = (fX7_u2 U79 (a26 + (6 : Int32))) → (∃ Q58, wX2_errorOf U79 a57 Q58 ∧ ∀ r59 S60, Q58 r59 S60 → wfC S60 → shy U79 S60 → (qT S60 v79_2 = 47 → (∃ Q62, wX8_addCatch S60 v79_2 a34 a43 a52 r59 Q62 ∧ ∀ S63, Q62 S63 → wfC S63 → shy S60 S63 → (∀ a65 : Int32, a65 = (v79_3 + Int32.ofInt 1) → (w_X2_rowOf_L79 Q n79) S63 v79_2 a65))))))))))))))))))))))
def w_X2_rowOf_L44 (Q : Nat → MS → Prop) : Nat → MS → Nat → Int32 → Prop
  | 0, _, _, _ => False
  | n44 + 1, U44, v44_2, v44_3 => (wfC U44 → qT U44 v44_2 = 47 → (((qI U44 8 2).toInt ≤ v44_3.toInt → (∃ n, w_X2_rowOf_L79 Q n U44 v44_2 0)) ∧ (¬ (qI U44 8 2).toInt ≤ v44_3.toInt → (∃ Q66, wX2_decode U44 v44_3 Q66 ∧ ∀ S67, Q66 S67 → wfC S67 → shy U44 S67 → (qT S67 v44_2 = 47 → (∃ Q69, wX2_addTo S67 v44_2 Q69 ∧ ∀ S70, Q69 S70 → wfC S70 → shy S67 S70 → (∃ Q72, wX2_lengthAt S70 v44_3 Q72 ∧ ∀ r73 S74, Q72 r73 S74 → wfC S74 → shy S70 S74 → (∀ a78 : Int32, a78 = (v44_3 + (if (1 : Int32) < r73 then r73 else (1 : Int32))) → (w_X2_rowOf_L44 Q n44) S74 v44_2 a78))))))))
def wX2_rowOf (S : MS) (x1 : Int32) (Q : Nat → MS → Prop) : Prop := (∃ Q1, wX2_lookAt S x1 Q1 ∧ ∀ S2, Q1 S2 → wfC S2 → shy S S2 → (∃ Q4, wX2_numberInstructions S2 Q4 ∧ ∀ S5, Q4 S5 → wfC S5 → shy S2 S5 → ((qn S5 + 1 ≤ KCC ∧ qu S5 + 15 ≤ KSC) ∧ (∀ S10, S10 = wN S5 47 0 15 → wfC S10 → (∃ Q12, wX2_tableRoom S10 Q12 ∧ ∀ r13 S14, Q12 r13 S14 → wfC S14 → shy S10 S14 → (qT S14 (qn S5) = 47 → (∃ Q16, wX8_init S14 (qn S5) (qI S10 8 8) r13 (qI S14 8 6) Q16 ∧ ∀ S17, Q16 S17 → wfC S17 → shx S14 S17 → (∀ S20, S20 = wI S17 (qn S5) 11 x1 → qT S17 (qn S5) = 47 → wfC S20 → (∀ S21, S21 = wI S20 (qn S5) 10 (qI S20 8 3) → qT S20 (qn S5) = 47 → wfC S21 → (∃ n, w_X2_rowOf_L44 Q n S21 (qn S5) 0))))))))))
set_option maxHeartbeats 2000000 in
set_option maxRecDepth 100000 in
theorem rX2_rowOf (l : Launch) (g : Gr) (ad : Nat → Nat) (H0 : Heap) (S : MS) (x1 : Int32) (hw : wfC S) (Q : Nat → MS → Prop) (h : wX2_rowOf S x1 Q) : Met l yX2_rowOf (wt yX2_rowOf cX2_rowOf 5 (some (.object "CodeFoundry$Row"))) ({ frames := 6, cells := KCC - qn S, slots := KSC - qu S, locals := 130 }) (va_Pc [.ref (ad 8), .int x1] (st_CH g ad H0 S)) (va_Qq (fun (r : Option Nat) (u : MS × (Nat → Nat)) => ∃ b : Nat, r = some (u.2 b) ∧ Q b u.1 ∧ wfC u.1 ∧ shx S u.1 ∧ adk ad u.2 S ∧ qT u.1 b = 47) (fun (u : MS × (Nat → Nat)) (t : State) => qEHC g (va_A (WdC g ad S) H0.size) S H0 u t) (va_A (WdC g ad S) H0.size)) (KCC - qn S) (KSC - qu S) (va_A (WdC g ad S) H0.size) := by
  refine Met.ofW (cc := cX2_rowOf) (maxL := 5) (ret := (some (.object "CodeFoundry$Row"))) (by decide) rfl ?_
  intro p e s m args below meth c s₁ B hml hv
  obtain ⟨rfl, hH0, hsz, hP, hK, hD0, hex, hE⟩ := hv
  have hx := B.exec
  have hb := B.bytes
  have hr := B.returns
  have hts0 := atoms_spec (ws := wt yX2_rowOf cX2_rowOf 5 (some (.object "CodeFoundry$Row"))) B.pre
  have hts : ∀ w ∈ tb, w.before _ s = true := fun w h => hts0 w (List.mem_cons_of_mem _ h)
  have hown : s.vm.findClass RX2 = some m.cls := findClass_of_methodNamed B.named
  subst hH0
  have hD := hD0.self (sz := s.heap.size)
  generalize hAe : va_A (WdC g ad S) s.heap.size = A at hD hE ⊢
  have hA : ∀ q : Nat, s.heap.size ≤ q → A q := fun q h => by rw [← hAe]; exact Or.inr h
  have hR : RepC g ad A s S s.heap [] := ⟨hK, hP, hD, va_S.rf, hw⟩
  clear hK hP hD hD0
  have hl := lv_entry ([.ref (ad 8), .int x1]) (n := 5) (Nat.le_of_ble_eq_true rfl)
  rw [lg_entry_eq]
  generalize (lg_sl ([.ref (ad 8), .int x1]) ++ List.replicate (5 - (lg_sl ([.ref (ad 8), .int x1])).length) Slot.unset).toArray = ls at hl ⊢
  have hlg : lgC S S 0 0 := lgC.rf
  have hak : adk ad ad S := adk.rf
  have hl : lv_has ls 5 [(0, .ref (ad 8)), (1, .int x1)] := hl
  have hsh : shx S S := shx.rf
  unfold wX2_rowOf at h
  refine lv_aload_n hx hb dX2_rowOf_0 rfl (lv_at hl 0 rfl) ?_
  refine lv_iload_n hx hb dX2_rowOf_1 rfl (lv_at hl 1 rfl) ?_
  obtain ⟨Q1, h0, h⟩ := h
  have hFc := cfree hR hA
  refine va_callv (va_runV (As := [.int x1]) (rest := []) ⟨hx, hb, hml, hown, hts⟩ (rX2_lookAt l g ad s.heap.size S x1 hR.w  Q1 h0) (cwV 1 hts (gd_V kw_715 kw_739 kw_740 kw_389 kw_738) rfl rfl rfl (by decide +kernel) ⟨Nat.le_of_ble_eq_true rfl, Nat.le_of_ble_eq_true rfl⟩) ⟨cblind, va_recv hR.K hR.P (ci := 2) (q0 := 8) rfl (hR.at42 (hR.w.2.1 _ finC_26).2.1), fun U hU hW9 => cmk hU hW9 hR hex hE hFc⟩ rfl rfl hl.1 rfl (lv_room (Nat.le_of_ble_eq_true rfl)) dX2_rowOf_2 ⟨(show 0 + 0 ≤ KCC - qn S from hlg.c), (show 0 + 0 ≤ KSC - qu S from hlg.s)⟩) hR.sS (fun q _ h => hFc q h) hFc (fun  S2 t9 H1 locs ht9 hvm9 hw9 hB9 hz9 hk9 hS => ?_)
  obtain ⟨hq3, hw9, hs9⟩ := hw9
  have hR : RepC g ad A s S2 H1 locs := hR.call ht9 hB9 hw9 hS hFc
  have hsh := hsh.tr hs9.1
  have hlg : lgC S S2 (0) (0) := hlg.same hs9
  replace h := h  S2 hq3 hw9 hs9
  clear hB9 hz9 hk9 hvm9 ht9 hw9 hs9 hS
  generalize H1 = H at hR ⊢
  refine lv_aload_n hx hb dX2_rowOf_5 rfl (lv_at hl 0 rfl) ?_
  obtain ⟨Q4, h0, h⟩ := h
  have hFc := cfree hR hA
  refine va_callv (va_runV (As := []) (rest := []) ⟨hx, hb, hml, hown, hts⟩ (rX2_numberInstructions l g ad H.size S2 hR.w  Q4 h0) (cwV 0 hts (gd_V kw_768 kw_755 kw_756 kw_389 kw_754) rfl rfl rfl (by decide +kernel) ⟨Nat.le_of_ble_eq_true rfl, Nat.le_of_ble_eq_true rfl⟩) ⟨cblind, va_recv hR.K hR.P (ci := 2) (q0 := 8) rfl (hR.at42 (hR.w.2.1 _ finC_26).2.1), fun U hU hW9 => cmk hU hW9 hR hex hE hFc⟩ rfl rfl hl.1 rfl (lv_room (Nat.le_of_ble_eq_true rfl)) dX2_rowOf_6 ⟨(show 0 + 0 ≤ KCC - qn S from hlg.c), (show 0 + 0 ≤ KSC - qu S from hlg.s)⟩) hR.sS (fun q _ h => hFc q h) hFc (fun  S5 t9 H1 locs ht9 hvm9 hw9 hB9 hz9 hk9 hS => ?_)
  obtain ⟨hq6, hw9, hs9⟩ := hw9
  have hR : RepC g ad A s S5 H1 locs := hR.call ht9 hB9 hw9 hS hFc
  have hsh := hsh.tr hs9.1
  have hlg : lgC S S5 (0) (0) := hlg.same hs9
  replace h := h  S5 hq6 hw9 hs9
  clear hB9 hz9 hk9 hvm9 ht9 hw9 hs9 hS
  generalize H1 = H at hR ⊢
  obtain ⟨hv7, h⟩ := h
  have e9 : KCC = 300000 := rfl
  have e8 : KSC = 3553400 := rfl
  have e7 : TXB = 10000000 := rfl
  have hTX : qn S5 < TXB := by have := hv7.1; omega
  refine va_new (ci := 7) (fs := dfX8) (C := RX8) (T := TX8) (N := 15) hx hb hts inX8 tyX8 tyX8_ok hown (hts _ kw_780) (hts _ kw_781) (hts _ kw_782) hR.K hR.P hR.D hR.sS hA rfl dfX8_ok (show 0 + 1 ≤ KCC - qn S from hlg.c1 hv7.1) (show 0 + 15 ≤ KSC - qu S from hlg.s1 hv7.2) dX2_rowOf_9 (fun q8 H hP hD hS => ?_)
  have hw8 := hR.w
  have hR := hR.new (t := 47) (n := 0) (k := 15) hTX (by decide) (Nat.zero_le _) wN_C47 hP hD hS
  have hk8 : adk ad (adx ad (qn S5) q8) S5 := adk.rf.new (Nat.le_refl _) hTX
  have hak := hak.new (q := q8) hlg.2.2.1 hTX
  have hE := hE.ad hk8
  have hlg : lgC S (wN S5 47 0 15) (0 + 1) (0 + 15) := hlg.new (t := 47) (n := 0) ⟨hv7.1, hv7.2⟩
  have hs8 : shx S5 (wN S5 47 0 15) := shx.newC (t := 47) (n := 0) (k := 15) shx.rf hw8 hTX
  obtain ⟨am9, eam9⟩ : ∃ z, z = adx ad (qn S5) q8 := ⟨_, rfl⟩
  have eq_q8 : am9 (qn S5) = q8 := by rw [eam9]; exact if_pos rfl
  rw [← eam9] at hR hk8 hak hE
  obtain ⟨S10, eS10⟩ : ∃ z, z = wN S5 47 0 15 := ⟨_, rfl⟩
  rw [← eS10] at hR hlg hs8
  replace h := h S10 eS10 hR.w
  have hsh := hsh.tr hs8
  have hT_b11 : qT S10 (qn S5) = 47 := by rw [eS10]; exact if_pos rfl
  have ea_0 : am9 8 = ad 8 := hk8 _ (hw8.hd (hw8.2.1 _ finC_26).2.1 (by decide) (by decide))
  have hl : lv_has ls 5 [(0, .ref (am9 8)), (1, .int x1)] := by simp only [ea_0]; exact hl
  refine W.eq (g2 := F0 m 12 ls [.ref (am9 (qn S5))]) (by simp only [ea_0, eq_q8]) ?_
  clear hw8 hk8 hs8 hP hD hS e9 e8 e7 hTX
  refine lv_dup hx hb dX2_rowOf_12 rfl ?_
  refine lv_aload_n hx hb dX2_rowOf_13 rfl (lv_at hl 0 rfl) ?_
  refine va_get (D := rD g) (ci := 2) (v := .int (qI S10 8 8)) (C := RX2) (T := TX2) (N := 12) hx hb hts inX2 hown hR.K hR.P 8 (hR.at42 (hR.w.2.1 _ finC_26).2.1) rfl 8 (by decide) (hts _ kw_758) (fun _ h9 => h9) rfl dX2_rowOf_14 ?_
  refine lv_aload_n hx hb dX2_rowOf_17 rfl (lv_at hl 0 rfl) ?_
  obtain ⟨Q12, h0, h⟩ := h
  have hFc := cfree hR hA
  refine va_calli (va_runV (As := []) (rest := [.int (qI S10 8 8), .ref (am9 (qn S5)), .ref (am9 (qn S5))]) ⟨hx, hb, hml, hown, hts⟩ (rX2_tableRoom l g am9 H.size S10 hR.w  Q12 h0) (cwV 0 hts (gd_V kw_783 kw_806 kw_807 kw_389 kw_805) rfl rfl rfl (by decide +kernel) ⟨Nat.le_of_ble_eq_true rfl, Nat.le_of_ble_eq_true rfl⟩) ⟨cblind, va_recv hR.K hR.P (ci := 2) (q0 := 8) rfl (hR.at42 (hR.w.2.1 _ finC_26).2.1), fun U hU hW9 => cmk hU hW9 hR hex hE hFc⟩ rfl rfl hl.1 rfl (lv_room (Nat.le_of_ble_eq_true rfl)) dX2_rowOf_18 ⟨(show 0 + 1 + 0 ≤ KCC - qn S from hlg.c), (show 0 + 15 + 0 ≤ KSC - qu S from hlg.s)⟩) hR.sS (fun q _ h => hFc q h) hFc (fun r13 S14 t9 H1 locs ht9 hvm9 hw9 hB9 hz9 hk9 hS => ?_)
  obtain ⟨hq15, hw9, hs9⟩ := hw9
  have hR : RepC g am9 A s S14 H1 locs := hR.call ht9 hB9 hw9 hS hFc
  have hsh := hsh.tr hs9.1
  have hlg : lgC S S14 (0 + 1) (0 + 15) := hlg.same hs9
  replace h := h r13 S14 hq15 hw9 hs9
  have hT_b11 := hs9.T hT_b11 (by decide)
  clear hB9 hz9 hk9 hvm9 ht9 hw9 hs9 hS
  generalize H1 = H at hR ⊢
  refine lv_aload_n hx hb dX2_rowOf_21 rfl (lv_at hl 0 rfl) ?_
  refine va_get (D := rD g) (ci := 2) (v := .int (qI S14 8 6)) (C := RX2) (T := TX2) (N := 12) hx hb hts inX2 hown hR.K hR.P 8 (hR.at42 (hR.w.2.1 _ finC_26).2.1) rfl 6 (by decide) (hts _ kw_745) (fun _ h9 => h9) rfl dX2_rowOf_22 ?_
  replace h := h (hT_b11)
  obtain ⟨Q16, h0, h⟩ := h
  have hFc := cfree hR hA
  refine W_led2 (fun hL0 => ?_)
  refine va_callv (va_runI (As := [.int (qI S10 8 8), .int r13, .int (qI S14 8 6)]) (rest := [.ref (am9 (qn S5))]) ⟨hx, hb, hml, hown, hts⟩ (rX8_init l g am9 H S14 (qn S5) (qI S10 8 8) r13 (qI S14 8 6) hR.w hT_b11 Q16 h0) (cwI 3 hts (gd_I kw_1496) rfl rfl rfl (hts _ kw_782) (hts _ kw_784) (hts _ kw_1497) rfl (by decide +kernel) ⟨Nat.le_of_ble_eq_true rfl, Nat.le_of_ble_eq_true rfl⟩) ⟨cblindH, fun U hU hW9 => cmkH hU hW9 hR hex hE hFc⟩ rfl rfl hl.1 rfl (lv_room (Nat.le_of_ble_eq_true rfl)) dX2_rowOf_25 ⟨(show 0 + 1 + (KCC - qn S14) ≤ KCC - qn S from hlg.cm), (show 0 + 15 + (KSC - qu S14) ≤ KSC - qu S from hlg.sm)⟩) hR.sS (fun q _ h => hFc q h) hFc (fun  S17 t9 H1 locs ht9 hvm9 hw9 hB9 hz9 hk9 hS => ?_)
  rcases S17 with ⟨S17, ak19⟩
  obtain ⟨hB9, dc9, ds9, hL9, hl9⟩ := hB9
  dsimp only at hw9 hB9 hl9
  rw [ht9] at hL9
  obtain ⟨hq18, hw9, hs9, hk8⟩ := hw9
  have hw8 := hR.w
  have hak := hak.tr hk8 hlg.2.2.1
  have hE := hE.ad hk8
  have hR : RepC g ak19 A s S17 H1 locs := hR.callH ht9 hB9 hw9 hS hFc
  have hsh := hsh.tr hs9
  refine W_tight2 (hL0.tr hL9).1 (hL0.tr hL9).2.1 ?_
  have hlg := hlg.call hl9
  replace h := h  S17 hq18 hw9 hs9
  have ea_0 : ak19 8 = am9 8 := hk8 _ (hw8.hd (hw8.2.1 _ finC_26).2.1 (by decide) (by decide))
  have ea_1 : ak19 (qn S5) = am9 (qn S5) := hk8 _ (hw8.hd hT_b11 (by decide) (by decide))
  have hl : lv_has ls 5 [(0, .ref (ak19 8)), (1, .int x1)] := by simp only [ea_0, ea_1]; exact hl
  refine W.eq (g2 := F0 m 28 ls ([.ref (ak19 (qn S5))])) (by first | (simp only [ea_0, ea_1]; rfl) | simp only [ea_0, ea_1]) ?_
  have hT_b11 := hs9.T hT_b11 (by decide)
  clear hB9 hz9 hk9 hvm9 ht9 hw9 hs9 hS hL0 hL9
  generalize H1 = H at hR ⊢
  generalize dc9 = dc_ak19, ds9 = ds_ak19 at hlg ⊢
  refine lv_astore_n (lv' := [(2, .ref (ak19 (qn S5))), (0, .ref (ak19 8)), (1, .int x1)]) hx hb dX2_rowOf_28 rfl hl (by decide) rfl (fun ls hl => ?_)
  refine lv_aload_n hx hb dX2_rowOf_29 rfl (lv_at hl 0 rfl) ?_
  refine lv_iload_n hx hb dX2_rowOf_30 rfl (lv_at hl 2 rfl) ?_
  refine va_put (D := rD g) (ci := 7) (v := .int x1) (ty := .int) (C := RX8) (T := TX8) (N := 15) hx hb hts inX8 tyX8 tyX8_ok nmX8 hown hR.K hR.P hR.D hR.sS (qn S5) (hR.at47 hT_b11) rfl 11 (by decide) (hts _ kw_785) (fun _ h9 => h9) rfl (by decide +kernel) rfl rfl (Nat.le_of_ble_eq_true rfl) dX2_rowOf_31 (fun H locs hP hD hS => ?_)
  have hTk9 : qT S17 (qn S5) = 47 := hT_b11
  have hR : RepC g ak19 A s (wI S17 (qn S5) 11 x1) H locs := hR.pI47 hT_b11 FX8_s11 (fun q9 => absurd q9 (by decide)) hP hD hS
  obtain ⟨S20, eS20⟩ : ∃ z, z = wI S17 (qn S5) 11 x1 := ⟨_, rfl⟩
  rw [← eS20] at hR
  replace h := h S20 eS20 hTk9 hR.w
  have hT_b11 : qT S20 (qn S5) = 47 := (congrArg (fun z => qT z (qn S5)) eS20).trans hT_b11
  have hsh : shx S S20 := by rw [eS20]; exact hsh
  have hlg : lgC S S20 (0 + 1 + dc_ak19) (0 + 15 + ds_ak19) := by rw [eS20]; exact hlg
  refine lv_aload_n hx hb dX2_rowOf_34 rfl (lv_at hl 0 rfl) ?_
  refine lv_aload_n hx hb dX2_rowOf_35 rfl (lv_at hl 1 rfl) ?_
  refine va_get (D := rD g) (ci := 2) (v := .int (qI S20 8 3)) (C := RX2) (T := TX2) (N := 12) hx hb hts inX2 hown hR.K hR.P 8 (hR.at42 (hR.w.2.1 _ finC_26).2.1) rfl 3 (by decide) (hts _ kw_741) (fun _ h9 => h9) rfl dX2_rowOf_36 ?_
  refine va_put (D := rD g) (ci := 7) (v := .int (qI S20 8 3)) (ty := .int) (C := RX8) (T := TX8) (N := 15) hx hb hts inX8 tyX8 tyX8_ok nmX8 hown hR.K hR.P hR.D hR.sS (qn S5) (hR.at47 hT_b11) rfl 10 (by decide) (hts _ kw_786) (fun _ h9 => h9) rfl (by decide +kernel) rfl rfl (Nat.le_of_ble_eq_true rfl) dX2_rowOf_39 (fun H locs hP hD hS => ?_)
  have hTk9 : qT S20 (qn S5) = 47 := hT_b11
  have hR : RepC g ak19 A s (wI S20 (qn S5) 10 (qI S20 8 3)) H locs := hR.pI47 hT_b11 FX8_s10 (fun q9 => absurd q9 (by decide)) hP hD hS
  obtain ⟨S21, eS21⟩ : ∃ z, z = wI S20 (qn S5) 10 (qI S20 8 3) := ⟨_, rfl⟩
  rw [← eS21] at hR
  replace h := h S21 eS21 hTk9 hR.w
  have hT_b11 : qT S21 (qn S5) = 47 := (congrArg (fun z => qT z (qn S5)) eS21).trans hT_b11
  have hsh : shx S S21 := by rw [eS21]; exact hsh
  have hlg : lgC S S21 (0 + 1 + dc_ak19) (0 + 15 + ds_ak19) := by rw [eS21]; exact hlg
  refine lv_iconst (v := 0) hx hb dX2_rowOf_42 (by decide) ?_
  refine lv_istore_n (lv' := [(3, .int 0), (2, .ref (ak19 (qn S5))), (0, .ref (ak19 8)), (1, .int x1)]) hx hb dX2_rowOf_43 rfl hl (by decide) rfl (fun ls hl => ?_)
  have J_44 : ∀ (n44 : Nat) (ad44 : Nat → Nat) (dc44 ds44 : Nat) (U44 : MS) (v44_2 : Nat) (v44_3 : Int32) (H : Heap) (locs : List Loc) (ls : Array Slot), w_X2_rowOf_L44 Q n44 U44 v44_2 v44_3 → qT U44 v44_2 = 47 → shx S U44 → lgC S U44 dc44 ds44 → adk ad ad44 S → ogC ad44 A s s.heap → RepC g ad44 A s U44 H locs → lv_has ls 5 [(0, .ref (ad44 8)), (2, .ref (ad44 v44_2)), (3, .int v44_3)] → W p l e (headSpec (wt yX2_rowOf cX2_rowOf 5 (some (.object "CodeFoundry$Row"))) ({ frames := 6, cells := KCC - qn S, slots := KSC - qu S, locals := 130 })).room s m ([.ref (ad 8), .int x1] : List Value).toArray below meth c H locs dc44 ds44 (MQ below (va_Qq (fun (r : Option Nat) (u : MS × (Nat → Nat)) => ∃ b : Nat, r = some (u.2 b) ∧ Q b u.1 ∧ wfC u.1 ∧ shx S u.1 ∧ adk ad u.2 S ∧ qT u.1 b = 47) (fun (u : MS × (Nat → Nat)) (t : State) => qEHC g A S s.heap u t) A) ([.ref (ad 8), .int x1] : List Value).toArray s (KCC - qn S) (KSC - qu S) A) (F0 m 44 ls []) := by
    intro n44
    induction n44 with
    | zero => intro ad44 dc44 ds44 U44 v44_2 v44_3 H locs ls h hT_v44_2 hsh hlg hak hE hR hl; unfold w_X2_rowOf_L44 at h; exact h.elim
    | succ n44 ih_44 =>
      intro ad44 dc44 ds44 U44 v44_2 v44_3 H locs ls h hT_v44_2 hsh hlg hak hE hR hl
      unfold w_X2_rowOf_L44 at h
      replace h := h hR.w hT_v44_2
      refine lv_iload_n hx hb dX2_rowOf_44 rfl (lv_at hl 2 rfl) ?_
      refine lv_aload_n hx hb dX2_rowOf_45 rfl (lv_at hl 0 rfl) ?_
      refine va_get (D := rD g) (ci := 2) (v := .int (qI U44 8 2)) (C := RX2) (T := TX2) (N := 12) hx hb hts inX2 hown hR.K hR.P 8 (hR.at42 (hR.w.2.1 _ finC_26).2.1) rfl 2 (by decide) (hts _ kw_716) (fun _ h9 => h9) rfl dX2_rowOf_46 ?_
      refine lv_icmp_ge (tgt := 77) hx hb dX2_rowOf_49 (by decide) (fun c22 => ?_) (fun c22 => ?_)
      · replace h := h.1 (k_le rfl rfl c22)
        refine lv_iconst (v := 0) hx hb dX2_rowOf_77 (by decide) ?_
        refine lv_istore_n (lv' := [(3, .int 0), (0, .ref (ad44 8)), (2, .ref (ad44 v44_2))]) hx hb dX2_rowOf_78 rfl hl (by decide) rfl (fun ls hl => ?_)
        have J_79 : ∀ (n79 : Nat) (ad79 : Nat → Nat) (dc79 ds79 : Nat) (U79 : MS) (v79_2 : Nat) (v79_3 : Int32) (H : Heap) (locs : List Loc) (ls : Array Slot), w_X2_rowOf_L79 Q n79 U79 v79_2 v79_3 → qT U79 v79_2 = 47 → shx S U79 → lgC S U79 dc79 ds79 → adk ad ad79 S → ogC ad79 A s s.heap → RepC g ad79 A s U79 H locs → lv_has ls 5 [(0, .ref (ad79 8)), (2, .ref (ad79 v79_2)), (3, .int v79_3)] → W p l e (headSpec (wt yX2_rowOf cX2_rowOf 5 (some (.object "CodeFoundry$Row"))) ({ frames := 6, cells := KCC - qn S, slots := KSC - qu S, locals := 130 })).room s m ([.ref (ad 8), .int x1] : List Value).toArray below meth c H locs dc79 ds79 (MQ below (va_Qq (fun (r : Option Nat) (u : MS × (Nat → Nat)) => ∃ b : Nat, r = some (u.2 b) ∧ Q b u.1 ∧ wfC u.1 ∧ shx S u.1 ∧ adk ad u.2 S ∧ qT u.1 b = 47) (fun (u : MS × (Nat → Nat)) (t : State) => qEHC g A S s.heap u t) A) ([.ref (ad 8), .int x1] : List Value).toArray s (KCC - qn S) (KSC - qu S) A) (F0 m 79 ls []) := by
          intro n79
          induction n79 with
          | zero => intro ad79 dc79 ds79 U79 v79_2 v79_3 H locs ls h hT_v79_2 hsh hlg hak hE hR hl; unfold w_X2_rowOf_L79 at h; exact h.elim
          | succ n79 ih_79 =>
            intro ad79 dc79 ds79 U79 v79_2 v79_3 H locs ls h hT_v79_2 hsh hlg hak hE hR hl
            unfold w_X2_rowOf_L79 at h
            replace h := h hR.w hT_v79_2
            refine lv_iload_n hx hb dX2_rowOf_79 rfl (lv_at hl 2 rfl) ?_
            refine lv_aload_n hx hb dX2_rowOf_80 rfl (lv_at hl 0 rfl) ?_
            refine va_get (D := rD g) (ci := 2) (v := .int (qI U79 8 6)) (C := RX2) (T := TX2) (N := 12) hx hb hts inX2 hown hR.K hR.P 8 (hR.at42 (hR.w.2.1 _ finC_26).2.1) rfl 6 (by decide) (hts _ kw_745) (fun _ h9 => h9) rfl dX2_rowOf_81 ?_
            refine lv_icmp_ge (tgt := 170) hx hb dX2_rowOf_84 (by decide) (fun c23 => ?_) (fun c23 => ?_)
            · replace h := h.1 (k_le rfl rfl c23)
              refine lv_aload_n hx hb dX2_rowOf_170 rfl (lv_at hl 1 rfl) ?_
              refine W_led2 (fun hLd => ?_)
              refine W.widen (k := KCC - qn S) (n := KSC - qu S) hlg.c hlg.s ?_
              exact W.aret (v := .ref (ad79 v79_2)) hx hb hr (Or.inl ⟨_, rfl⟩) (Or.inr ⟨_, rfl⟩) (fun t9 ht9 hW9 => ⟨⟨some (ad79 v79_2), (U79, ad79), rfl, ⟨v79_2, rfl, h, hR.w, hsh, hak, hT_v79_2⟩, ⟨⟨by rw [ht9]; exact hR.P, hR.D⟩, _, _, by rw [ht9]; exact hLd, hlg⟩⟩, hR.sS.F ht9⟩) hR.sS.2.2 dX2_rowOf_171
            · replace h := h.2 (k_nle rfl rfl c23)
              refine lv_aload_n hx hb dX2_rowOf_87 rfl (lv_at hl 0 rfl) ?_
              refine va_get (D := rD g) (ci := 2) (v := .int (qI U79 8 5)) (C := RX2) (T := TX2) (N := 12) hx hb hts inX2 hown hR.K hR.P 8 (hR.at42 (hR.w.2.1 _ finC_26).2.1) rfl 5 (by decide) (hts _ kw_744) (fun _ h9 => h9) rfl dX2_rowOf_88 ?_
              refine lv_bipush (v := 8) hx hb dX2_rowOf_91 (by decide) ?_
              refine lv_iload_n hx hb dX2_rowOf_93 rfl (lv_at hl 2 rfl) ?_
              refine lv_imul hx hb dX2_rowOf_94 ?_
              refine lv_topi (fun z24 ez24 => ?_)
              obtain rfl : z24 = ((8 : Int32) * v79_3) := ez24
              refine lv_iadd hx hb dX2_rowOf_95 ?_
              refine lv_topi (fun z25 ez25 => ?_)
              obtain rfl : z25 = ((qI U79 8 5) + ((8 : Int32) * v79_3)) := ez25
              obtain ⟨a26, ea26⟩ : ∃ z, z = ((qI U79 8 5) + ((8 : Int32) * v79_3)) := ⟨_, rfl⟩
              rw [← ea26]
              replace h := h a26 ea26
              refine lv_istore (lv' := [(4, .int a26), (0, .ref (ad79 8)), (2, .ref (ad79 v79_2)), (3, .int v79_3)]) hx hb dX2_rowOf_96 hl (by decide) rfl (fun ls hl => ?_)
              refine lv_aload_n hx hb dX2_rowOf_98 rfl (lv_at hl 2 rfl) ?_
              refine lv_aload_n hx hb dX2_rowOf_99 rfl (lv_at hl 1 rfl) ?_
              refine lv_aload_n hx hb dX2_rowOf_100 rfl (lv_at hl 1 rfl) ?_
              refine va_get (D := rD g) (ci := 2) (v := .ref (ad79 9)) (C := RX2) (T := TX2) (N := 12) hx hb hts inX2 hown hR.K hR.P 8 (hR.at42 (hR.w.2.1 _ finC_26).2.1) rfl 0 (by decide) (hts _ kw_632) (fun _ h9 => h9) (congrArg (fun z => some (vf ad79 z)) (hR.w.2.1 _ finC_2).1) dX2_rowOf_101 ?_
              refine lv_iload hx hb dX2_rowOf_104 (lv_at hl 0 rfl) ?_
              obtain ⟨hv27, h⟩ := h
              have hFc := cfree hR hA
              refine va_calli (va_runV (As := [.int a26]) (rest := [.ref (ad79 8), .ref (ad79 v79_2)]) ⟨hx, hb, hml, hown, hts⟩ (rX7_u2 l g ad79 H.size U79 a26 hR.w  hv27) (cwV 1 hts (gd_V kw_651 kw_1450 kw_1451 kw_710 kw_1449) rfl rfl rfl (by decide +kernel) ⟨Nat.le_of_ble_eq_true rfl, Nat.le_of_ble_eq_true rfl⟩) ⟨cblind, va_recv hR.K hR.P (ci := 6) (q0 := 9) rfl (hR.at46 (hR.w.2.1 _ finC_2).2.1), fun U hU hW9 => cmk hU hW9 hR hex hE hFc⟩ rfl rfl hl.1 rfl (lv_room (Nat.le_of_ble_eq_true rfl)) dX2_rowOf_106 ⟨(show dc79 + 0 ≤ KCC - qn S from hlg.c), (show ds79 + 0 ≤ KSC - qu S from hlg.s)⟩) hR.sS (fun q _ h => hFc q h) hFc (fun r28 u9 t9 H1 locs ht9 hvm9 hw9 hB9 hz9 hk9 hS => ?_)
              have hR : RepC g ad79 A s U79 H1 locs := hR.call ht9 hB9 hR.w hS hFc
              obtain rfl : r28 = (fX7_u2 U79 a26) := hw9
              clear hB9 hz9 hk9 hvm9 ht9 hS
              generalize H1 = H at hR ⊢
              obtain ⟨a30, ea30⟩ : ∃ z, z = (fX7_u2 U79 a26) := ⟨_, rfl⟩
              rw [← ea30]
              replace h := h a30 ea30
              refine lv_i2l (v := (a30.toInt64)) hx hb dX2_rowOf_109 rfl ?_
              obtain ⟨hv31, h⟩ := h
              have hFc := cfree hR hA
              refine va_calli (va_runV (As := [.long (a30.toInt64)]) (rest := [.ref (ad79 v79_2)]) ⟨hx, hb, hml, hown, hts⟩ (rX2_numberOf l g ad79 H.size U79 (a30.toInt64) hR.w  hv31) (cwV 1 hts (gd_V kw_625 kw_761 kw_762 kw_389 kw_760) rfl rfl rfl (by decide +kernel) ⟨Nat.le_of_ble_eq_true rfl, Nat.le_of_ble_eq_true rfl⟩) ⟨cblind, va_recv hR.K hR.P (ci := 2) (q0 := 8) rfl (hR.at42 (hR.w.2.1 _ finC_26).2.1), fun U hU hW9 => cmk hU hW9 hR hex hE hFc⟩ rfl rfl hl.1 rfl (lv_room (Nat.le_of_ble_eq_true rfl)) dX2_rowOf_110 ⟨(show dc79 + 0 ≤ KCC - qn S from hlg.c), (show ds79 + 0 ≤ KSC - qu S from hlg.s)⟩) hR.sS (fun q _ h => hFc q h) hFc (fun r32 u9 t9 H1 locs ht9 hvm9 hw9 hB9 hz9 hk9 hS => ?_)
              have hR : RepC g ad79 A s U79 H1 locs := hR.call ht9 hB9 hR.w hS hFc
              obtain rfl : r32 = (fX2_numberOf U79 (a30.toInt64)) := hw9
              clear hB9 hz9 hk9 hvm9 ht9 hS
              generalize H1 = H at hR ⊢
              obtain ⟨a34, ea34⟩ : ∃ z, z = (fX2_numberOf U79 (a30.toInt64)) := ⟨_, rfl⟩
              rw [← ea34]
              replace h := h a34 ea34
              refine lv_aload_n hx hb dX2_rowOf_113 rfl (lv_at hl 1 rfl) ?_
              refine lv_aload_n hx hb dX2_rowOf_114 rfl (lv_at hl 1 rfl) ?_
              refine va_get (D := rD g) (ci := 2) (v := .ref (ad79 9)) (C := RX2) (T := TX2) (N := 12) hx hb hts inX2 hown hR.K hR.P 8 (hR.at42 (hR.w.2.1 _ finC_26).2.1) rfl 0 (by decide) (hts _ kw_632) (fun _ h9 => h9) (congrArg (fun z => some (vf ad79 z)) (hR.w.2.1 _ finC_2).1) dX2_rowOf_115 ?_
              refine lv_iload hx hb dX2_rowOf_118 (lv_at hl 0 rfl) ?_
              refine lv_iconst (v := 2) hx hb dX2_rowOf_120 (by decide) ?_
              refine lv_iadd hx hb dX2_rowOf_121 ?_
              refine lv_topi (fun z35 ez35 => ?_)
              obtain rfl : z35 = (a26 + (2 : Int32)) := ez35
              obtain ⟨hv36, h⟩ := h
              have hFc := cfree hR hA
              refine va_calli (va_runV (As := [.int (a26 + (2 : Int32))]) (rest := [.ref (ad79 8), .int a34, .ref (ad79 v79_2)]) ⟨hx, hb, hml, hown, hts⟩ (rX7_u2 l g ad79 H.size U79 (a26 + (2 : Int32)) hR.w  hv36) (cwV 1 hts (gd_V kw_651 kw_1450 kw_1451 kw_710 kw_1449) rfl rfl rfl (by decide +kernel) ⟨Nat.le_of_ble_eq_true rfl, Nat.le_of_ble_eq_true rfl⟩) ⟨cblind, va_recv hR.K hR.P (ci := 6) (q0 := 9) rfl (hR.at46 (hR.w.2.1 _ finC_2).2.1), fun U hU hW9 => cmk hU hW9 hR hex hE hFc⟩ rfl rfl hl.1 rfl (lv_room (Nat.le_of_ble_eq_true rfl)) dX2_rowOf_122 ⟨(show dc79 + 0 ≤ KCC - qn S from hlg.c), (show ds79 + 0 ≤ KSC - qu S from hlg.s)⟩) hR.sS (fun q _ h => hFc q h) hFc (fun r37 u9 t9 H1 locs ht9 hvm9 hw9 hB9 hz9 hk9 hS => ?_)
              have hR : RepC g ad79 A s U79 H1 locs := hR.call ht9 hB9 hR.w hS hFc
              obtain rfl : r37 = (fX7_u2 U79 (a26 + (2 : Int32))) := hw9
              clear hB9 hz9 hk9 hvm9 ht9 hS
              generalize H1 = H at hR ⊢
              obtain ⟨a39, ea39⟩ : ∃ z, z = (fX7_u2 U79 (a26 + (2 : Int32))) := ⟨_, rfl⟩
              rw [← ea39]
              replace h := h a39 ea39
              refine lv_i2l (v := (a39.toInt64)) hx hb dX2_rowOf_125 rfl ?_
              obtain ⟨hv40, h⟩ := h
              have hFc := cfree hR hA
              refine va_calli (va_runV (As := [.long (a39.toInt64)]) (rest := [.int a34, .ref (ad79 v79_2)]) ⟨hx, hb, hml, hown, hts⟩ (rX2_numberOf l g ad79 H.size U79 (a39.toInt64) hR.w  hv40) (cwV 1 hts (gd_V kw_625 kw_761 kw_762 kw_389 kw_760) rfl rfl rfl (by decide +kernel) ⟨Nat.le_of_ble_eq_true rfl, Nat.le_of_ble_eq_true rfl⟩) ⟨cblind, va_recv hR.K hR.P (ci := 2) (q0 := 8) rfl (hR.at42 (hR.w.2.1 _ finC_26).2.1), fun U hU hW9 => cmk hU hW9 hR hex hE hFc⟩ rfl rfl hl.1 rfl (lv_room (Nat.le_of_ble_eq_true rfl)) dX2_rowOf_126 ⟨(show dc79 + 0 ≤ KCC - qn S from hlg.c), (show ds79 + 0 ≤ KSC - qu S from hlg.s)⟩) hR.sS (fun q _ h => hFc q h) hFc (fun r41 u9 t9 H1 locs ht9 hvm9 hw9 hB9 hz9 hk9 hS => ?_)
              have hR : RepC g ad79 A s U79 H1 locs := hR.call ht9 hB9 hR.w hS hFc
              obtain rfl : r41 = (fX2_numberOf U79 (a39.toInt64)) := hw9
              clear hB9 hz9 hk9 hvm9 ht9 hS
              generalize H1 = H at hR ⊢
              obtain ⟨a43, ea43⟩ : ∃ z, z = (fX2_numberOf U79 (a39.toInt64)) := ⟨_, rfl⟩
              rw [← ea43]
              replace h := h a43 ea43
              refine lv_aload_n hx hb dX2_rowOf_129 rfl (lv_at hl 1 rfl) ?_
              refine lv_aload_n hx hb dX2_rowOf_130 rfl (lv_at hl 1 rfl) ?_
              refine va_get (D := rD g) (ci := 2) (v := .ref (ad79 9)) (C := RX2) (T := TX2) (N := 12) hx hb hts inX2 hown hR.K hR.P 8 (hR.at42 (hR.w.2.1 _ finC_26).2.1) rfl 0 (by decide) (hts _ kw_632) (fun _ h9 => h9) (congrArg (fun z => some (vf ad79 z)) (hR.w.2.1 _ finC_2).1) dX2_rowOf_131 ?_
              refine lv_iload hx hb dX2_rowOf_134 (lv_at hl 0 rfl) ?_
              refine lv_iconst (v := 4) hx hb dX2_rowOf_136 (by decide) ?_
              refine lv_iadd hx hb dX2_rowOf_137 ?_
              refine lv_topi (fun z44 ez44 => ?_)
              obtain rfl : z44 = (a26 + (4 : Int32)) := ez44
              obtain ⟨hv45, h⟩ := h
              have hFc := cfree hR hA
              refine va_calli (va_runV (As := [.int (a26 + (4 : Int32))]) (rest := [.ref (ad79 8), .int a43, .int a34, .ref (ad79 v79_2)]) ⟨hx, hb, hml, hown, hts⟩ (rX7_u2 l g ad79 H.size U79 (a26 + (4 : Int32)) hR.w  hv45) (cwV 1 hts (gd_V kw_651 kw_1450 kw_1451 kw_710 kw_1449) rfl rfl rfl (by decide +kernel) ⟨Nat.le_of_ble_eq_true rfl, Nat.le_of_ble_eq_true rfl⟩) ⟨cblind, va_recv hR.K hR.P (ci := 6) (q0 := 9) rfl (hR.at46 (hR.w.2.1 _ finC_2).2.1), fun U hU hW9 => cmk hU hW9 hR hex hE hFc⟩ rfl rfl hl.1 rfl (lv_room (Nat.le_of_ble_eq_true rfl)) dX2_rowOf_138 ⟨(show dc79 + 0 ≤ KCC - qn S from hlg.c), (show ds79 + 0 ≤ KSC - qu S from hlg.s)⟩) hR.sS (fun q _ h => hFc q h) hFc (fun r46 u9 t9 H1 locs ht9 hvm9 hw9 hB9 hz9 hk9 hS => ?_)
              have hR : RepC g ad79 A s U79 H1 locs := hR.call ht9 hB9 hR.w hS hFc
              obtain rfl : r46 = (fX7_u2 U79 (a26 + (4 : Int32))) := hw9
              clear hB9 hz9 hk9 hvm9 ht9 hS
              generalize H1 = H at hR ⊢
              obtain ⟨a48, ea48⟩ : ∃ z, z = (fX7_u2 U79 (a26 + (4 : Int32))) := ⟨_, rfl⟩
              rw [← ea48]
              replace h := h a48 ea48
              refine lv_i2l (v := (a48.toInt64)) hx hb dX2_rowOf_141 rfl ?_
              obtain ⟨hv49, h⟩ := h
              have hFc := cfree hR hA
              refine va_calli (va_runV (As := [.long (a48.toInt64)]) (rest := [.int a43, .int a34, .ref (ad79 v79_2)]) ⟨hx, hb, hml, hown, hts⟩ (rX2_numberOf l g ad79 H.size U79 (a48.toInt64) hR.w  hv49) (cwV 1 hts (gd_V kw_625 kw_761 kw_762 kw_389 kw_760) rfl rfl rfl (by decide +kernel) ⟨Nat.le_of_ble_eq_true rfl, Nat.le_of_ble_eq_true rfl⟩) ⟨cblind, va_recv hR.K hR.P (ci := 2) (q0 := 8) rfl (hR.at42 (hR.w.2.1 _ finC_26).2.1), fun U hU hW9 => cmk hU hW9 hR hex hE hFc⟩ rfl rfl hl.1 rfl (lv_room (Nat.le_of_ble_eq_true rfl)) dX2_rowOf_142 ⟨(show dc79 + 0 ≤ KCC - qn S from hlg.c), (show ds79 + 0 ≤ KSC - qu S from hlg.s)⟩) hR.sS (fun q _ h => hFc q h) hFc (fun r50 u9 t9 H1 locs ht9 hvm9 hw9 hB9 hz9 hk9 hS => ?_)
              have hR : RepC g ad79 A s U79 H1 locs := hR.call ht9 hB9 hR.w hS hFc
              obtain rfl : r50 = (fX2_numberOf U79 (a48.toInt64)) := hw9
              clear hB9 hz9 hk9 hvm9 ht9 hS
              generalize H1 = H at hR ⊢
              obtain ⟨a52, ea52⟩ : ∃ z, z = (fX2_numberOf U79 (a48.toInt64)) := ⟨_, rfl⟩
              rw [← ea52]
              replace h := h a52 ea52
              refine lv_aload_n hx hb dX2_rowOf_145 rfl (lv_at hl 1 rfl) ?_
              refine lv_aload_n hx hb dX2_rowOf_146 rfl (lv_at hl 1 rfl) ?_
              refine va_get (D := rD g) (ci := 2) (v := .ref (ad79 9)) (C := RX2) (T := TX2) (N := 12) hx hb hts inX2 hown hR.K hR.P 8 (hR.at42 (hR.w.2.1 _ finC_26).2.1) rfl 0 (by decide) (hts _ kw_632) (fun _ h9 => h9) (congrArg (fun z => some (vf ad79 z)) (hR.w.2.1 _ finC_2).1) dX2_rowOf_147 ?_
              refine lv_iload hx hb dX2_rowOf_150 (lv_at hl 0 rfl) ?_
              refine lv_bipush (v := 6) hx hb dX2_rowOf_152 (by decide) ?_
              refine lv_iadd hx hb dX2_rowOf_154 ?_
              refine lv_topi (fun z53 ez53 => ?_)
              obtain rfl : z53 = (a26 + (6 : Int32)) := ez53
              obtain ⟨hv54, h⟩ := h
              have hFc := cfree hR hA
              refine va_calli (va_runV (As := [.int (a26 + (6 : Int32))]) (rest := [.ref (ad79 8), .int a52, .int a43, .int a34, .ref (ad79 v79_2)]) ⟨hx, hb, hml, hown, hts⟩ (rX7_u2 l g ad79 H.size U79 (a26 + (6 : Int32)) hR.w  hv54) (cwV 1 hts (gd_V kw_651 kw_1450 kw_1451 kw_710 kw_1449) rfl rfl rfl (by decide +kernel) ⟨Nat.le_of_ble_eq_true rfl, Nat.le_of_ble_eq_true rfl⟩) ⟨cblind, va_recv hR.K hR.P (ci := 6) (q0 := 9) rfl (hR.at46 (hR.w.2.1 _ finC_2).2.1), fun U hU hW9 => cmk hU hW9 hR hex hE hFc⟩ rfl rfl hl.1 rfl (lv_room (Nat.le_of_ble_eq_true rfl)) dX2_rowOf_155 ⟨(show dc79 + 0 ≤ KCC - qn S from hlg.c), (show ds79 + 0 ≤ KSC - qu S from hlg.s)⟩) hR.sS (fun q _ h => hFc q h) hFc (fun r55 u9 t9 H1 locs ht9 hvm9 hw9 hB9 hz9 hk9 hS => ?_)
              have hR : RepC g ad79 A s U79 H1 locs := hR.call ht9 hB9 hR.w hS hFc
              obtain rfl : r55 = (fX7_u2 U79 (a26 + (6 : Int32))) := hw9
              clear hB9 hz9 hk9 hvm9 ht9 hS
              generalize H1 = H at hR ⊢
              obtain ⟨a57, ea57⟩ : ∃ z, z = (fX7_u2 U79 (a26 + (6 : Int32))) := ⟨_, rfl⟩
              rw [← ea57]
              replace h := h a57 ea57
              obtain ⟨Q58, h0, h⟩ := h
              have hFc := cfree hR hA
              refine va_calli (va_runV (As := [.int a57]) (rest := [.int a52, .int a43, .int a34, .ref (ad79 v79_2)]) ⟨hx, hb, hml, hown, hts⟩ (rX2_errorOf l g ad79 H.size U79 a57 hR.w  Q58 h0) (cwV 1 hts (gd_V kw_673 kw_695 kw_696 kw_389 kw_694) rfl rfl rfl (by decide +kernel) ⟨Nat.le_of_ble_eq_true rfl, Nat.le_of_ble_eq_true rfl⟩) ⟨cblind, va_recv hR.K hR.P (ci := 2) (q0 := 8) rfl (hR.at42 (hR.w.2.1 _ finC_26).2.1), fun U hU hW9 => cmk hU hW9 hR hex hE hFc⟩ rfl rfl hl.1 rfl (lv_room (Nat.le_of_ble_eq_true rfl)) dX2_rowOf_158 ⟨(show dc79 + 0 ≤ KCC - qn S from hlg.c), (show ds79 + 0 ≤ KSC - qu S from hlg.s)⟩) hR.sS (fun q _ h => hFc q h) hFc (fun r59 S60 t9 H1 locs ht9 hvm9 hw9 hB9 hz9 hk9 hS => ?_)
              obtain ⟨hq61, hw9, hs9⟩ := hw9
              have hR : RepC g ad79 A s S60 H1 locs := hR.call ht9 hB9 hw9 hS hFc
              have hsh := hsh.tr hs9.1
              have hlg : lgC S S60 (dc79) (ds79) := hlg.same hs9
              replace h := h r59 S60 hq61 hw9 hs9
              have hT_v79_2 := hs9.T hT_v79_2 (by decide)
              clear hB9 hz9 hk9 hvm9 ht9 hw9 hs9 hS
              generalize H1 = H at hR ⊢
              replace h := h (hT_v79_2)
              obtain ⟨Q62, h0, h⟩ := h
              have hFc := cfree hR hA
              refine va_callv (va_runV (As := [.int a34, .int a43, .int a52, .int r59]) (rest := []) ⟨hx, hb, hml, hown, hts⟩ (rX8_addCatch l g ad79 H.size S60 v79_2 a34 a43 a52 r59 hR.w hT_v79_2 Q62 h0) (cwV 4 hts (gd_V kw_788 kw_1463 kw_1464 kw_782 kw_1462) rfl rfl rfl (by decide +kernel) ⟨Nat.le_of_ble_eq_true rfl, Nat.le_of_ble_eq_true rfl⟩) ⟨cblind, va_recv hR.K hR.P (ci := 7) (q0 := v79_2) rfl (hR.at47 hT_v79_2), fun U hU hW9 => cmk hU hW9 hR hex hE hFc⟩ rfl rfl hl.1 rfl (lv_room (Nat.le_of_ble_eq_true rfl)) dX2_rowOf_161 ⟨(show dc79 + 0 ≤ KCC - qn S from hlg.c), (show ds79 + 0 ≤ KSC - qu S from hlg.s)⟩) hR.sS (fun q _ h => hFc q h) hFc (fun  S63 t9 H1 locs ht9 hvm9 hw9 hB9 hz9 hk9 hS => ?_)
              obtain ⟨hq64, hw9, hs9⟩ := hw9
              have hR : RepC g ad79 A s S63 H1 locs := hR.call ht9 hB9 hw9 hS hFc
              have hsh := hsh.tr hs9.1
              have hlg : lgC S S63 (dc79) (ds79) := hlg.same hs9
              replace h := h  S63 hq64 hw9 hs9
              have hT_v79_2 := hs9.T hT_v79_2 (by decide)
              clear hB9 hz9 hk9 hvm9 ht9 hw9 hs9 hS
              generalize H1 = H at hR ⊢
              obtain ⟨a65, ea65⟩ : ∃ z, z = (v79_3 + Int32.ofInt 1) := ⟨_, rfl⟩
              replace h := h a65 ea65
              refine lv_iinc (v := a65) (lv' := [(3, .int a65), (4, .int a26), (0, .ref (ad79 8)), (2, .ref (ad79 v79_2))]) hx hb dX2_rowOf_164 hl (k := 3) rfl ea65.symm (by decide) rfl (fun ls hl => ?_)
              refine lv_goto (tgt := 79) hx hb dX2_rowOf_167 (by decide) ?_
              exact ih_79 ad79 (dc79) (ds79) S63 v79_2 a65 _ _ ls h hT_v79_2 hsh hlg hak hE hR (lv_sub hl [2, 3, 0] rfl)
        obtain ⟨n9, h⟩ := h
        exact J_79 n9 ad44 (dc44) (ds44) U44 v44_2 0 _ _ ls h hT_v44_2 hsh hlg hak hE hR (lv_sub hl [1, 2, 0] rfl)
      · replace h := h.2 (k_nle rfl rfl c22)
        refine lv_aload_n hx hb dX2_rowOf_52 rfl (lv_at hl 0 rfl) ?_
        refine lv_iload_n hx hb dX2_rowOf_53 rfl (lv_at hl 2 rfl) ?_
        obtain ⟨Q66, h0, h⟩ := h
        have hFc := cfree hR hA
        refine va_callv (va_runV (As := [.int v44_3]) (rest := []) ⟨hx, hb, hml, hown, hts⟩ (rX2_decode l g ad44 H.size U44 v44_3 hR.w  Q66 h0) (cwV 1 hts (gd_V kw_769 kw_680 kw_681 kw_389 kw_679) rfl rfl rfl (by decide +kernel) ⟨Nat.le_of_ble_eq_true rfl, Nat.le_of_ble_eq_true rfl⟩) ⟨cblind, va_recv hR.K hR.P (ci := 2) (q0 := 8) rfl (hR.at42 (hR.w.2.1 _ finC_26).2.1), fun U hU hW9 => cmk hU hW9 hR hex hE hFc⟩ rfl rfl hl.1 rfl (lv_room (Nat.le_of_ble_eq_true rfl)) dX2_rowOf_54 ⟨(show dc44 + 0 ≤ KCC - qn S from hlg.c), (show ds44 + 0 ≤ KSC - qu S from hlg.s)⟩) hR.sS (fun q _ h => hFc q h) hFc (fun  S67 t9 H1 locs ht9 hvm9 hw9 hB9 hz9 hk9 hS => ?_)
        obtain ⟨hq68, hw9, hs9⟩ := hw9
        have hR : RepC g ad44 A s S67 H1 locs := hR.call ht9 hB9 hw9 hS hFc
        have hsh := hsh.tr hs9.1
        have hlg : lgC S S67 (dc44) (ds44) := hlg.same hs9
        replace h := h  S67 hq68 hw9 hs9
        have hT_v44_2 := hs9.T hT_v44_2 (by decide)
        clear hB9 hz9 hk9 hvm9 ht9 hw9 hs9 hS
        generalize H1 = H at hR ⊢
        refine lv_aload_n hx hb dX2_rowOf_57 rfl (lv_at hl 0 rfl) ?_
        refine lv_aload_n hx hb dX2_rowOf_58 rfl (lv_at hl 1 rfl) ?_
        replace h := h (hT_v44_2)
        obtain ⟨Q69, h0, h⟩ := h
        have hFc := cfree hR hA
        refine va_callv (va_runV (As := [.ref (ad44 v44_2)]) (rest := []) ⟨hx, hb, hml, hown, hts⟩ (rX2_addTo l g ad44 H.size S67 v44_2 hR.w hT_v44_2 Q69 h0) (cwV 1 hts (gd_V kw_787 kw_627 kw_628 kw_389 kw_626) rfl rfl rfl (by decide +kernel) ⟨Nat.le_of_ble_eq_true rfl, Nat.le_of_ble_eq_true rfl⟩) ⟨cblind, va_recv hR.K hR.P (ci := 2) (q0 := 8) rfl (hR.at42 (hR.w.2.1 _ finC_26).2.1), fun U hU hW9 => cmk hU hW9 hR hex hE hFc⟩ rfl rfl hl.1 rfl (lv_room (Nat.le_of_ble_eq_true rfl)) dX2_rowOf_59 ⟨(show dc44 + 0 ≤ KCC - qn S from hlg.c), (show ds44 + 0 ≤ KSC - qu S from hlg.s)⟩) hR.sS (fun q _ h => hFc q h) hFc (fun  S70 t9 H1 locs ht9 hvm9 hw9 hB9 hz9 hk9 hS => ?_)
        obtain ⟨hq71, hw9, hs9⟩ := hw9
        have hR : RepC g ad44 A s S70 H1 locs := hR.call ht9 hB9 hw9 hS hFc
        have hsh := hsh.tr hs9.1
        have hlg : lgC S S70 (dc44) (ds44) := hlg.same hs9
        replace h := h  S70 hq71 hw9 hs9
        have hT_v44_2 := hs9.T hT_v44_2 (by decide)
        clear hB9 hz9 hk9 hvm9 ht9 hw9 hs9 hS
        generalize H1 = H at hR ⊢
        refine lv_iload_n hx hb dX2_rowOf_62 rfl (lv_at hl 2 rfl) ?_
        refine lv_iconst (v := 1) hx hb dX2_rowOf_63 (by decide) ?_
        refine lv_aload_n hx hb dX2_rowOf_64 rfl (lv_at hl 0 rfl) ?_
        refine lv_iload_n hx hb dX2_rowOf_65 rfl (lv_at hl 2 rfl) ?_
        obtain ⟨Q72, h0, h⟩ := h
        have hFc := cfree hR hA
        refine va_calli (va_runV (As := [.int v44_3]) (rest := [.int 1, .int v44_3]) ⟨hx, hb, hml, hown, hts⟩ (rX2_lengthAt l g ad44 H.size S70 v44_3 hR.w  Q72 h0) (cwV 1 hts (gd_V kw_717 kw_723 kw_724 kw_389 kw_722) rfl rfl rfl (by decide +kernel) ⟨Nat.le_of_ble_eq_true rfl, Nat.le_of_ble_eq_true rfl⟩) ⟨cblind, va_recv hR.K hR.P (ci := 2) (q0 := 8) rfl (hR.at42 (hR.w.2.1 _ finC_26).2.1), fun U hU hW9 => cmk hU hW9 hR hex hE hFc⟩ rfl rfl hl.1 rfl (lv_room (Nat.le_of_ble_eq_true rfl)) dX2_rowOf_66 ⟨(show dc44 + 0 ≤ KCC - qn S from hlg.c), (show ds44 + 0 ≤ KSC - qu S from hlg.s)⟩) hR.sS (fun q _ h => hFc q h) hFc (fun r73 S74 t9 H1 locs ht9 hvm9 hw9 hB9 hz9 hk9 hS => ?_)
        obtain ⟨hq75, hw9, hs9⟩ := hw9
        have hR : RepC g ad44 A s S74 H1 locs := hR.call ht9 hB9 hw9 hS hFc
        have hsh := hsh.tr hs9.1
        have hlg : lgC S S74 (dc44) (ds44) := hlg.same hs9
        replace h := h r73 S74 hq75 hw9 hs9
        have hT_v44_2 := hs9.T hT_v44_2 (by decide)
        clear hB9 hz9 hk9 hvm9 ht9 hw9 hs9 hS
        generalize H1 = H at hR ⊢
        refine va_mmax hx hb (by rw [hml]; exact hl.1.symm) hown (hts _ kw_759) (hts _ kw_1747) (hts _ kw_1748) (hts _ kw_1746) (Nat.le_of_ble_eq_true rfl) (Nat.le_of_ble_eq_true rfl) (show dc44 ≤ KCC - qn S from hlg.c) (show ds44 ≤ KSC - qu S from hlg.s) dX2_rowOf_69 ?_
        refine lv_topi (fun z76 ez76 => ?_)
        obtain rfl : z76 = (if (1 : Int32) < r73 then r73 else (1 : Int32)) := ez76
        refine lv_iadd hx hb dX2_rowOf_72 ?_
        refine lv_topi (fun z77 ez77 => ?_)
        obtain rfl : z77 = (v44_3 + (if (1 : Int32) < r73 then r73 else (1 : Int32))) := ez77
        obtain ⟨a78, ea78⟩ : ∃ z, z = (v44_3 + (if (1 : Int32) < r73 then r73 else (1 : Int32))) := ⟨_, rfl⟩
        rw [← ea78]
        replace h := h a78 ea78
        refine lv_istore_n (lv' := [(3, .int a78), (0, .ref (ad44 8)), (2, .ref (ad44 v44_2))]) hx hb dX2_rowOf_73 rfl hl (by decide) rfl (fun ls hl => ?_)
        refine lv_goto (tgt := 44) hx hb dX2_rowOf_74 (by decide) ?_
        exact ih_44 ad44 (dc44) (ds44) S74 v44_2 a78 _ _ ls h hT_v44_2 hsh hlg hak hE hR (lv_sub hl [1, 2, 0] rfl)
  obtain ⟨n9, h⟩ := h
  exact J_44 n9 ak19 (0 + 1 + dc_ak19) (0 + 15 + ds_ak19) S21 (qn S5) 0 _ _ ls h hT_b11 hsh hlg hak hE hR (lv_sub hl [2, 1, 0] rfl)
def wX3_draw (S : MS) (p1 : Option Nat) (Q : MS → Prop) : Prop := ((p1 = none → Q S) ∧ (¬ p1 = none → (((some ((p1).getD 0)) = (qR S 52 0) → Q S) ∧ (¬ (some ((p1).getD 0)) = (qR S 52 0) → (∀ S4, S4 = wR S 52 0 (some ((p1).getD 0)) → qT S 52 = 43 → wfC S4 → (∃ Q5, wX3_findBlocks S4 Q5 ∧ ∀ S6, Q5 S6 → wfC S6 → shx S4 S6 → (∃ Q9, wX3_makeRoom S6 Q9 ∧ ∀ S10, Q9 S10 → wfC S10 → shx S6 S10 → (∃ Q13, wX3_findEdges S10 Q13 ∧ ∀ S14, Q13 S14 → wfC S14 → shx S10 S14 → (∃ Q17, wX3_findBacks S14 Q17 ∧ ∀ S18, Q17 S18 → wfC S18 → shx S14 S18 → (∃ Q21, wX3_findReached S18 Q21 ∧ ∀ S22, Q21 S22 → wfC S22 → shy S18 S22 → (∃ Q24, wX3_findDominators S22 Q24 ∧ ∀ S25, Q24 S25 → wfC S25 → shy S22 S25 → (∃ Q27, wX3_findLoops S25 Q27 ∧ ∀ S28, Q27 S28 → wfC S28 → shy S25 S28 → Q S28))))))))))))
set_option maxHeartbeats 2000000 in
set_option maxRecDepth 100000 in
theorem rX3_draw (l : Launch) (g : Gr) (ad : Nat → Nat) (H0 : Heap) (S : MS) (p1 : Option Nat) (hw : wfC S) (hO_p1 : ∀ z, p1 = some z → qT S z = 47) (Q : MS → Prop) (h : wX3_draw S p1 Q) : Met l yX3_draw (wt yX3_draw cX3_draw 2 none) ({ frames := 4, cells := KCC - qn S, slots := KSC - qu S, locals := 110 }) (va_Pc [.ref (ad 52), vf ad p1] (st_CH g ad H0 S)) (va_Qv (fun (u : MS × (Nat → Nat)) => Q u.1 ∧ wfC u.1 ∧ shx S u.1 ∧ adk ad u.2 S) (fun (u : MS × (Nat → Nat)) (t : State) => qEHC g (va_A (WdC g ad S) H0.size) S H0 u t) (va_A (WdC g ad S) H0.size)) (KCC - qn S) (KSC - qu S) (va_A (WdC g ad S) H0.size) := by
  refine Met.ofW (cc := cX3_draw) (maxL := 2) (ret := none) (by decide) rfl ?_
  intro p e s m args below meth c s₁ B hml hv
  obtain ⟨rfl, hH0, hsz, hP, hK, hD0, hex, hE⟩ := hv
  have hx := B.exec
  have hb := B.bytes
  have hr := B.returns
  have hts0 := atoms_spec (ws := wt yX3_draw cX3_draw 2 none) B.pre
  have hts : ∀ w ∈ tb, w.before _ s = true := fun w h => hts0 w (List.mem_cons_of_mem _ h)
  have hown : s.vm.findClass RX3 = some m.cls := findClass_of_methodNamed B.named
  subst hH0
  have hD := hD0.self (sz := s.heap.size)
  generalize hAe : va_A (WdC g ad S) s.heap.size = A at hD hE ⊢
  have hA : ∀ q : Nat, s.heap.size ≤ q → A q := fun q h => by rw [← hAe]; exact Or.inr h
  have hR : RepC g ad A s S s.heap [] := ⟨hK, hP, hD, va_S.rf, hw⟩
  clear hK hP hD hD0
  have hl := lv_entry ([.ref (ad 52), vf ad p1]) (n := 2) (by cases p1 <;> exact Nat.le_of_ble_eq_true rfl)
  rw [lg_entry_eq]
  generalize (lg_sl ([.ref (ad 52), vf ad p1]) ++ List.replicate (2 - (lg_sl ([.ref (ad 52), vf ad p1])).length) Slot.unset).toArray = ls at hl ⊢
  have hlg : lgC S S 0 0 := lgC.rf
  have hak : adk ad ad S := adk.rf
  have hl : lv_has ls 2 [(0, .ref (ad 52)), (1, vf ad p1)] := by cases p1 <;> exact hl
  have hsh : shx S S := shx.rf
  unfold wX3_draw at h
  rcases (show p1 = none ∨ ∃ z, p1 = some z by cases p1 <;> simp) with hq_b1 | ⟨b1, hq_b1⟩
  · rw [hq_b1] at hl
    skip
    replace h := h.1 (hq_b1)
    refine lv_aload_nN hx hb dX3_draw_0 rfl (lv_at hl 1 rfl) ?_
    refine lv_ifnullN (tgt := 12) hx hb dX3_draw_1 (by decide) ?_
    refine W_led2 (fun hLd => ?_)
    refine W.widen (k := KCC - qn S) (n := KSC - qu S) hlg.c hlg.s ?_
    exact W.vret hx hb hr (fun t9 ht9 hW9 => ⟨⟨(S, ad), rfl, ⟨h, hR.w, hsh, hak⟩, ⟨⟨by rw [ht9]; exact hR.P, hR.D⟩, _, _, by rw [ht9]; exact hLd, hlg⟩⟩, hR.sS.F ht9⟩) hR.sS.2.2 dX3_draw_12
  · rw [hq_b1] at hl
    have hg_b1 : b1 = (p1).getD 0 := by rw [hq_b1]; rfl
    have hT_b1 : qT S ((p1).getD 0) = 47 := hg_b1 ▸ hO_p1 _ hq_b1
    subst hg_b1
    replace h := h.2 (fun q9 => Option.some_ne_none _ (hq_b1.symm.trans q9))
    refine lv_aload_n hx hb dX3_draw_0 rfl (lv_at hl 1 rfl) ?_
    refine lv_ifnull hx hb dX3_draw_1 ?_
    refine lv_aload_n hx hb dX3_draw_4 rfl (lv_at hl 1 rfl) ?_
    refine lv_aload_n hx hb dX3_draw_5 rfl (lv_at hl 0 rfl) ?_
    have hO_o2 : ∀ z, (qR S 52 0) = some z → qT S z = 47 := fun z q => hR.w.ref q (hR.w.2.1 _ finC_30).2.1
    refine va_get (D := rD g) (ci := 3) (v := vf ad (qR S 52 0)) (C := RX3) (T := TX3) (N := 16) hx hb hts inX3 hown hR.K hR.P 52 (hR.at43 (hR.w.2.1 _ finC_30).2.1) rfl 0 (by decide) (hts _ kw_836) (fun _ h9 => h9) rfl dX3_draw_6 ?_
    have hac3 := hR.opt_inj (x := (some ((p1).getD 0))) (y := (qR S 52 0)) (fun z q9 => by cases q9; exact hR.w.lt hT_b1 (by decide) (by decide) (by decide)) (fun z q9 => hR.w.lt (hO_o2 z q9) (by decide) (by decide) (by decide))
    refine lv_acmp_ne (rx := (some (ad ((p1).getD 0)))) (ry := ((qR S 52 0).map ad)) (tgt := 13) hx hb dX3_draw_9 (by decide) (fun c3 => ?_) (fun c3 => ?_)
    · replace h := h.2 (fun q9 => c3 (congrArg (Option.map ad) q9))
      refine lv_aload_n hx hb dX3_draw_13 rfl (lv_at hl 0 rfl) ?_
      refine lv_aload_n hx hb dX3_draw_14 rfl (lv_at hl 1 rfl) ?_
      refine va_put (D := rD g) (ci := 3) (v := .ref (ad ((p1).getD 0))) (ty := (.object "CodeFoundry$Row")) (C := RX3) (T := TX3) (N := 16) hx hb hts inX3 tyX3 tyX3_ok nmX3 hown hR.K hR.P hR.D hR.sS 52 (hR.at43 (hR.w.2.1 _ finC_30).2.1) rfl 0 (by decide) (hts _ kw_836) (fun _ h9 => h9) rfl (by decide +kernel) rfl rfl (Nat.le_of_ble_eq_true rfl) dX3_draw_15 (fun H locs hP hD hS => ?_)
      have hw9 : wfC (wR S 52 0 (some ((p1).getD 0))) := hR.w.put (fun b q9 => by cases q9; exact (hT_b1).trans (by rw [(hR.w.2.1 _ finC_30).2.1]; rfl)) (nofC_52_0) (by rw [(hR.w.2.1 _ finC_30).2.1]; decide) (fun b _ q9 => absurd (show otgC (qT S 52) 0 = 0 by rw [(hR.w.2.1 _ finC_30).2.1]; decide) q9) (fun _ => Option.some_ne_none _)
      have hTk9 : qT S 52 = 43 := (hR.w.2.1 _ finC_30).2.1
      have hR : RepC g ad A s (wR S 52 0 (some ((p1).getD 0))) H locs := hR.pR43 (hR.w.2.1 _ finC_30).2.1 FX3_s0 hw9 hP hD hS
      obtain ⟨S4, eS4⟩ : ∃ z, z = wR S 52 0 (some ((p1).getD 0)) := ⟨_, rfl⟩
      rw [← eS4] at hR
      replace h := h S4 eS4 hTk9 hR.w
      have hT_b1 : qT S4 ((p1).getD 0) = 47 := (congrArg (fun z => qT z ((p1).getD 0)) eS4).trans hT_b1
      have hsh : shx S S4 := by rw [eS4]; exact hsh
      have hlg : lgC S S4 (0) (0) := by rw [eS4]; exact hlg
      refine lv_aload_n hx hb dX3_draw_18 rfl (lv_at hl 0 rfl) ?_
      obtain ⟨Q5, h0, h⟩ := h
      have hFc := cfree hR hA
      refine W_led2 (fun hL0 => ?_)
      refine va_callv (va_runV (As := []) (rest := []) ⟨hx, hb, hml, hown, hts⟩ (rX3_findBlocks l g ad H S4 hR.w  Q5 h0) (cwV 0 hts (gd_V kw_875 kw_889 kw_890 kw_401 kw_888) rfl rfl rfl (by decide +kernel) ⟨Nat.le_of_ble_eq_true rfl, Nat.le_of_ble_eq_true rfl⟩) ⟨cblindH, va_recv hR.K hR.P (ci := 3) (q0 := 52) rfl (hR.at43 (hR.w.2.1 _ finC_30).2.1), fun U hU hW9 => cmkH hU hW9 hR hex hE hFc⟩ rfl rfl hl.1 rfl (lv_room (Nat.le_of_ble_eq_true rfl)) dX3_draw_19 ⟨(show 0 + (KCC - qn S4) ≤ KCC - qn S from hlg.cm), (show 0 + (KSC - qu S4) ≤ KSC - qu S from hlg.sm)⟩) hR.sS (fun q _ h => hFc q h) hFc (fun  S6 t9 H1 locs ht9 hvm9 hw9 hB9 hz9 hk9 hS => ?_)
      rcases S6 with ⟨S6, ak8⟩
      obtain ⟨hB9, dc9, ds9, hL9, hl9⟩ := hB9
      dsimp only at hw9 hB9 hl9
      rw [ht9] at hL9
      obtain ⟨hq7, hw9, hs9, hk8⟩ := hw9
      have hw8 := hR.w
      have hak := hak.tr hk8 hlg.2.2.1
      have hE := hE.ad hk8
      have hR : RepC g ak8 A s S6 H1 locs := hR.callH ht9 hB9 hw9 hS hFc
      have hsh := hsh.tr hs9
      refine W_tight2 (hL0.tr hL9).1 (hL0.tr hL9).2.1 ?_
      have hlg := hlg.call hl9
      replace h := h  S6 hq7 hw9 hs9
      have ea_0 : ak8 52 = ad 52 := hk8 _ (hw8.hd (hw8.2.1 _ finC_30).2.1 (by decide) (by decide))
      have ea_1 : ak8 ((p1).getD 0) = ad ((p1).getD 0) := hk8 _ (hw8.hd hT_b1 (by decide) (by decide))
      have hl : lv_has ls 2 [(0, .ref (ak8 52)), (1, .ref (ak8 ((p1).getD 0)))] := by simp only [ea_0, ea_1]; exact hl
      have hT_b1 := hs9.T hT_b1 (by decide)
      clear hB9 hz9 hk9 hvm9 ht9 hw9 hs9 hS hL0 hL9
      generalize H1 = H at hR ⊢
      generalize dc9 = dc_ak8, ds9 = ds_ak8 at hlg ⊢
      refine lv_aload_n hx hb dX3_draw_22 rfl (lv_at hl 0 rfl) ?_
      obtain ⟨Q9, h0, h⟩ := h
      have hFc := cfree hR hA
      refine W_led2 (fun hL0 => ?_)
      refine va_callv (va_runV (As := []) (rest := []) ⟨hx, hb, hml, hown, hts⟩ (rX3_makeRoom l g ak8 H S6 hR.w  Q9 h0) (cwV 0 hts (gd_V kw_876 kw_936 kw_937 kw_401 kw_935) rfl rfl rfl (by decide +kernel) ⟨Nat.le_of_ble_eq_true rfl, Nat.le_of_ble_eq_true rfl⟩) ⟨cblindH, va_recv hR.K hR.P (ci := 3) (q0 := 52) rfl (hR.at43 (hR.w.2.1 _ finC_30).2.1), fun U hU hW9 => cmkH hU hW9 hR hex hE hFc⟩ rfl rfl hl.1 rfl (lv_room (Nat.le_of_ble_eq_true rfl)) dX3_draw_23 ⟨(show 0 + dc_ak8 + (KCC - qn S6) ≤ KCC - qn S from hlg.cm), (show 0 + ds_ak8 + (KSC - qu S6) ≤ KSC - qu S from hlg.sm)⟩) hR.sS (fun q _ h => hFc q h) hFc (fun  S10 t9 H1 locs ht9 hvm9 hw9 hB9 hz9 hk9 hS => ?_)
      rcases S10 with ⟨S10, ak12⟩
      obtain ⟨hB9, dc9, ds9, hL9, hl9⟩ := hB9
      dsimp only at hw9 hB9 hl9
      rw [ht9] at hL9
      obtain ⟨hq11, hw9, hs9, hk8⟩ := hw9
      have hw8 := hR.w
      have hak := hak.tr hk8 hlg.2.2.1
      have hE := hE.ad hk8
      have hR : RepC g ak12 A s S10 H1 locs := hR.callH ht9 hB9 hw9 hS hFc
      have hsh := hsh.tr hs9
      refine W_tight2 (hL0.tr hL9).1 (hL0.tr hL9).2.1 ?_
      have hlg := hlg.call hl9
      replace h := h  S10 hq11 hw9 hs9
      have ea_0 : ak12 52 = ak8 52 := hk8 _ (hw8.hd (hw8.2.1 _ finC_30).2.1 (by decide) (by decide))
      have ea_1 : ak12 ((p1).getD 0) = ak8 ((p1).getD 0) := hk8 _ (hw8.hd hT_b1 (by decide) (by decide))
      have hl : lv_has ls 2 [(0, .ref (ak12 52)), (1, .ref (ak12 ((p1).getD 0)))] := by simp only [ea_0, ea_1]; exact hl
      have hT_b1 := hs9.T hT_b1 (by decide)
      clear hB9 hz9 hk9 hvm9 ht9 hw9 hs9 hS hL0 hL9
      generalize H1 = H at hR ⊢
      generalize dc9 = dc_ak12, ds9 = ds_ak12 at hlg ⊢
      refine lv_aload_n hx hb dX3_draw_26 rfl (lv_at hl 0 rfl) ?_
      obtain ⟨Q13, h0, h⟩ := h
      have hFc := cfree hR hA
      refine W_led2 (fun hL0 => ?_)
      refine va_callv (va_runV (As := []) (rest := []) ⟨hx, hb, hml, hown, hts⟩ (rX3_findEdges l g ak12 H S10 hR.w  Q13 h0) (cwV 0 hts (gd_V kw_877 kw_910 kw_911 kw_401 kw_909) rfl rfl rfl (by decide +kernel) ⟨Nat.le_of_ble_eq_true rfl, Nat.le_of_ble_eq_true rfl⟩) ⟨cblindH, va_recv hR.K hR.P (ci := 3) (q0 := 52) rfl (hR.at43 (hR.w.2.1 _ finC_30).2.1), fun U hU hW9 => cmkH hU hW9 hR hex hE hFc⟩ rfl rfl hl.1 rfl (lv_room (Nat.le_of_ble_eq_true rfl)) dX3_draw_27 ⟨(show 0 + dc_ak8 + dc_ak12 + (KCC - qn S10) ≤ KCC - qn S from hlg.cm), (show 0 + ds_ak8 + ds_ak12 + (KSC - qu S10) ≤ KSC - qu S from hlg.sm)⟩) hR.sS (fun q _ h => hFc q h) hFc (fun  S14 t9 H1 locs ht9 hvm9 hw9 hB9 hz9 hk9 hS => ?_)
      rcases S14 with ⟨S14, ak16⟩
      obtain ⟨hB9, dc9, ds9, hL9, hl9⟩ := hB9
      dsimp only at hw9 hB9 hl9
      rw [ht9] at hL9
      obtain ⟨hq15, hw9, hs9, hk8⟩ := hw9
      have hw8 := hR.w
      have hak := hak.tr hk8 hlg.2.2.1
      have hE := hE.ad hk8
      have hR : RepC g ak16 A s S14 H1 locs := hR.callH ht9 hB9 hw9 hS hFc
      have hsh := hsh.tr hs9
      refine W_tight2 (hL0.tr hL9).1 (hL0.tr hL9).2.1 ?_
      have hlg := hlg.call hl9
      replace h := h  S14 hq15 hw9 hs9
      have ea_0 : ak16 52 = ak12 52 := hk8 _ (hw8.hd (hw8.2.1 _ finC_30).2.1 (by decide) (by decide))
      have ea_1 : ak16 ((p1).getD 0) = ak12 ((p1).getD 0) := hk8 _ (hw8.hd hT_b1 (by decide) (by decide))
      have hl : lv_has ls 2 [(0, .ref (ak16 52)), (1, .ref (ak16 ((p1).getD 0)))] := by simp only [ea_0, ea_1]; exact hl
      have hT_b1 := hs9.T hT_b1 (by decide)
      clear hB9 hz9 hk9 hvm9 ht9 hw9 hs9 hS hL0 hL9
      generalize H1 = H at hR ⊢
      generalize dc9 = dc_ak16, ds9 = ds_ak16 at hlg ⊢
      refine lv_aload_n hx hb dX3_draw_30 rfl (lv_at hl 0 rfl) ?_
      obtain ⟨Q17, h0, h⟩ := h
      have hFc := cfree hR hA
      refine W_led2 (fun hL0 => ?_)
      refine va_callv (va_runV (As := []) (rest := []) ⟨hx, hb, hml, hown, hts⟩ (rX3_findBacks l g ak16 H S14 hR.w  Q17 h0) (cwV 0 hts (gd_V kw_878 kw_883 kw_884 kw_401 kw_882) rfl rfl rfl (by decide +kernel) ⟨Nat.le_of_ble_eq_true rfl, Nat.le_of_ble_eq_true rfl⟩) ⟨cblindH, va_recv hR.K hR.P (ci := 3) (q0 := 52) rfl (hR.at43 (hR.w.2.1 _ finC_30).2.1), fun U hU hW9 => cmkH hU hW9 hR hex hE hFc⟩ rfl rfl hl.1 rfl (lv_room (Nat.le_of_ble_eq_true rfl)) dX3_draw_31 ⟨(show 0 + dc_ak8 + dc_ak12 + dc_ak16 + (KCC - qn S14) ≤ KCC - qn S from hlg.cm), (show 0 + ds_ak8 + ds_ak12 + ds_ak16 + (KSC - qu S14) ≤ KSC - qu S from hlg.sm)⟩) hR.sS (fun q _ h => hFc q h) hFc (fun  S18 t9 H1 locs ht9 hvm9 hw9 hB9 hz9 hk9 hS => ?_)
      rcases S18 with ⟨S18, ak20⟩
      obtain ⟨hB9, dc9, ds9, hL9, hl9⟩ := hB9
      dsimp only at hw9 hB9 hl9
      rw [ht9] at hL9
      obtain ⟨hq19, hw9, hs9, hk8⟩ := hw9
      have hw8 := hR.w
      have hak := hak.tr hk8 hlg.2.2.1
      have hE := hE.ad hk8
      have hR : RepC g ak20 A s S18 H1 locs := hR.callH ht9 hB9 hw9 hS hFc
      have hsh := hsh.tr hs9
      refine W_tight2 (hL0.tr hL9).1 (hL0.tr hL9).2.1 ?_
      have hlg := hlg.call hl9
      replace h := h  S18 hq19 hw9 hs9
      have ea_0 : ak20 52 = ak16 52 := hk8 _ (hw8.hd (hw8.2.1 _ finC_30).2.1 (by decide) (by decide))
      have ea_1 : ak20 ((p1).getD 0) = ak16 ((p1).getD 0) := hk8 _ (hw8.hd hT_b1 (by decide) (by decide))
      have hl : lv_has ls 2 [(0, .ref (ak20 52)), (1, .ref (ak20 ((p1).getD 0)))] := by simp only [ea_0, ea_1]; exact hl
      have hT_b1 := hs9.T hT_b1 (by decide)
      clear hB9 hz9 hk9 hvm9 ht9 hw9 hs9 hS hL0 hL9
      generalize H1 = H at hR ⊢
      generalize dc9 = dc_ak20, ds9 = ds_ak20 at hlg ⊢
      refine lv_aload_n hx hb dX3_draw_34 rfl (lv_at hl 0 rfl) ?_
      obtain ⟨Q21, h0, h⟩ := h
      have hFc := cfree hR hA
      refine va_callv (va_runV (As := []) (rest := []) ⟨hx, hb, hml, hown, hts⟩ (rX3_findReached l g ak20 H.size S18 hR.w  Q21 h0) (cwV 0 hts (gd_V kw_879 kw_921 kw_922 kw_401 kw_920) rfl rfl rfl (by decide +kernel) ⟨Nat.le_of_ble_eq_true rfl, Nat.le_of_ble_eq_true rfl⟩) ⟨cblind, va_recv hR.K hR.P (ci := 3) (q0 := 52) rfl (hR.at43 (hR.w.2.1 _ finC_30).2.1), fun U hU hW9 => cmk hU hW9 hR hex hE hFc⟩ rfl rfl hl.1 rfl (lv_room (Nat.le_of_ble_eq_true rfl)) dX3_draw_35 ⟨(show 0 + dc_ak8 + dc_ak12 + dc_ak16 + dc_ak20 + 0 ≤ KCC - qn S from hlg.c), (show 0 + ds_ak8 + ds_ak12 + ds_ak16 + ds_ak20 + 0 ≤ KSC - qu S from hlg.s)⟩) hR.sS (fun q _ h => hFc q h) hFc (fun  S22 t9 H1 locs ht9 hvm9 hw9 hB9 hz9 hk9 hS => ?_)
      obtain ⟨hq23, hw9, hs9⟩ := hw9
      have hR : RepC g ak20 A s S22 H1 locs := hR.call ht9 hB9 hw9 hS hFc
      have hsh := hsh.tr hs9.1
      have hlg : lgC S S22 (0 + dc_ak8 + dc_ak12 + dc_ak16 + dc_ak20) (0 + ds_ak8 + ds_ak12 + ds_ak16 + ds_ak20) := hlg.same hs9
      replace h := h  S22 hq23 hw9 hs9
      have hT_b1 := hs9.T hT_b1 (by decide)
      clear hB9 hz9 hk9 hvm9 ht9 hw9 hs9 hS
      generalize H1 = H at hR ⊢
      refine lv_aload_n hx hb dX3_draw_38 rfl (lv_at hl 0 rfl) ?_
      obtain ⟨Q24, h0, h⟩ := h
      have hFc := cfree hR hA
      refine va_callv (va_runV (As := []) (rest := []) ⟨hx, hb, hml, hown, hts⟩ (rX3_findDominators l g ak20 H.size S22 hR.w  Q24 h0) (cwV 0 hts (gd_V kw_880 kw_901 kw_902 kw_401 kw_900) rfl rfl rfl (by decide +kernel) ⟨Nat.le_of_ble_eq_true rfl, Nat.le_of_ble_eq_true rfl⟩) ⟨cblind, va_recv hR.K hR.P (ci := 3) (q0 := 52) rfl (hR.at43 (hR.w.2.1 _ finC_30).2.1), fun U hU hW9 => cmk hU hW9 hR hex hE hFc⟩ rfl rfl hl.1 rfl (lv_room (Nat.le_of_ble_eq_true rfl)) dX3_draw_39 ⟨(show 0 + dc_ak8 + dc_ak12 + dc_ak16 + dc_ak20 + 0 ≤ KCC - qn S from hlg.c), (show 0 + ds_ak8 + ds_ak12 + ds_ak16 + ds_ak20 + 0 ≤ KSC - qu S from hlg.s)⟩) hR.sS (fun q _ h => hFc q h) hFc (fun  S25 t9 H1 locs ht9 hvm9 hw9 hB9 hz9 hk9 hS => ?_)
      obtain ⟨hq26, hw9, hs9⟩ := hw9
      have hR : RepC g ak20 A s S25 H1 locs := hR.call ht9 hB9 hw9 hS hFc
      have hsh := hsh.tr hs9.1
      have hlg : lgC S S25 (0 + dc_ak8 + dc_ak12 + dc_ak16 + dc_ak20) (0 + ds_ak8 + ds_ak12 + ds_ak16 + ds_ak20) := hlg.same hs9
      replace h := h  S25 hq26 hw9 hs9
      have hT_b1 := hs9.T hT_b1 (by decide)
      clear hB9 hz9 hk9 hvm9 ht9 hw9 hs9 hS
      generalize H1 = H at hR ⊢
      refine lv_aload_n hx hb dX3_draw_42 rfl (lv_at hl 0 rfl) ?_
      obtain ⟨Q27, h0, h⟩ := h
      have hFc := cfree hR hA
      refine va_callv (va_runV (As := []) (rest := []) ⟨hx, hb, hml, hown, hts⟩ (rX3_findLoops l g ak20 H.size S25 hR.w  Q27 h0) (cwV 0 hts (gd_V kw_881 kw_916 kw_917 kw_401 kw_915) rfl rfl rfl (by decide +kernel) ⟨Nat.le_of_ble_eq_true rfl, Nat.le_of_ble_eq_true rfl⟩) ⟨cblind, va_recv hR.K hR.P (ci := 3) (q0 := 52) rfl (hR.at43 (hR.w.2.1 _ finC_30).2.1), fun U hU hW9 => cmk hU hW9 hR hex hE hFc⟩ rfl rfl hl.1 rfl (lv_room (Nat.le_of_ble_eq_true rfl)) dX3_draw_43 ⟨(show 0 + dc_ak8 + dc_ak12 + dc_ak16 + dc_ak20 + 0 ≤ KCC - qn S from hlg.c), (show 0 + ds_ak8 + ds_ak12 + ds_ak16 + ds_ak20 + 0 ≤ KSC - qu S from hlg.s)⟩) hR.sS (fun q _ h => hFc q h) hFc (fun  S28 t9 H1 locs ht9 hvm9 hw9 hB9 hz9 hk9 hS => ?_)
      obtain ⟨hq29, hw9, hs9⟩ := hw9
      have hR : RepC g ak20 A s S28 H1 locs := hR.call ht9 hB9 hw9 hS hFc
      have hsh := hsh.tr hs9.1
      have hlg : lgC S S28 (0 + dc_ak8 + dc_ak12 + dc_ak16 + dc_ak20) (0 + ds_ak8 + ds_ak12 + ds_ak16 + ds_ak20) := hlg.same hs9
      replace h := h  S28 hq29 hw9 hs9
      have hT_b1 := hs9.T hT_b1 (by decide)
      clear hB9 hz9 hk9 hvm9 ht9 hw9 hs9 hS
      generalize H1 = H at hR ⊢
      refine W_led2 (fun hLd => ?_)
      refine W.widen (k := KCC - qn S) (n := KSC - qu S) hlg.c hlg.s ?_
      exact W.vret hx hb hr (fun t9 ht9 hW9 => ⟨⟨(S28, ak20), rfl, ⟨h, hR.w, hsh, hak⟩, ⟨⟨by rw [ht9]; exact hR.P, hR.D⟩, _, _, by rw [ht9]; exact hLd, hlg⟩⟩, hR.sS.F ht9⟩) hR.sS.2.2 dX3_draw_46
    · replace h := h.1 (hac3 c3)
      refine W_led2 (fun hLd => ?_)
      refine W.widen (k := KCC - qn S) (n := KSC - qu S) hlg.c hlg.s ?_
      exact W.vret hx hb hr (fun t9 ht9 hW9 => ⟨⟨(S, ad), rfl, ⟨h, hR.w, hsh, hak⟩, ⟨⟨by rw [ht9]; exact hR.P, hR.D⟩, _, _, by rw [ht9]; exact hLd, hlg⟩⟩, hR.sS.F ht9⟩) hR.sS.2.2 dX3_draw_12
def w_X5_calculate_J42 (Q : MS → Prop) (U42 : MS) (v42_1 : Int32) (v42_3 : Int64) (v42_5 : Int64) : Prop := (wfC U42 → (d_X6_gives U42 v42_1 ∧ (∀ a22 : Int32, a22 = (fX6_gives U42 v42_1) → (d_X6_binary U42 v42_1 v42_5 v42_3 ∧ (∀ a26 : Int64, a26 = (fX6_binary U42 v42_1 v42_5 v42_3) → (∃ Q27, wX5_push_ U42 a22 a26 Q27 ∧ ∀ S28, Q27 S28 → wfC S28 → shy U42 S28 → (∀ S31, S31 = wI S28 44 13 ((qI S28 44 13) + (1 : Int32)) → qT S28 44 = 45 → wfC S31 → Q S31)))))))
def wX5_calculate (S : MS) (x1 : Int32) (Q : MS → Prop) : Prop := (d_X6_takes S x1 ∧ (∀ a4 : Int32, a4 = (fX6_takes S x1) → (∃ Q6, wX5_pop_ S (a4 &&& (15 : Int32)) Q6 ∧ ∀ r7 S8, Q6 r7 S8 → wfC S8 → shy S S8 → (∃ Q11, wX5_pop_ S8 (a4 >>> ((4 : Int32) &&& 31)) Q11 ∧ ∀ r12 S13, Q11 r12 S13 → wfC S13 → shy S8 S13 → (d_X6_isDivision S13 x1 ∧ (∀ a18 : Int32, a18 = (fX6_isDivision S13 x1) → ((a18.toInt = 0 → w_X5_calculate_J42 Q S13 x1 r7 r12) ∧ (¬ a18.toInt = 0 → (((lg_cmp r7 0).toInt = 0 → (∃ Q35, wX5_raise S13 (0 : Int32) Q35 ∧ ∀ S36, Q35 S36 → wfC S36 → shy S13 S36 → Q S36)) ∧ (¬ (lg_cmp r7 0).toInt = 0 → w_X5_calculate_J42 Q S13 x1 r7 r12))))))))))
set_option maxHeartbeats 2000000 in
set_option maxRecDepth 100000 in
theorem rX5_calculate (l : Launch) (g : Gr) (ad : Nat → Nat) (sz : Nat) (S : MS) (x1 : Int32) (hw : wfC S) (Q : MS → Prop) (h : wX5_calculate S x1 Q) : Met l yX5_calculate (wt yX5_calculate cX5_calculate 7 none) ({ frames := 3, cells := 0, slots := 0, locals := 67 }) (va_Pc [.ref (ad 44), .int x1] (st_C g ad sz S)) (va_Qv (fun (u : MS) => Q u ∧ wfC u ∧ shy S u) (fun (u : MS) (t : State) => qEC g ad (va_A (WdC g ad S) sz) u t) (va_A (WdC g ad S) sz)) 0 0 (va_A (WdC g ad S) sz) := by
  refine Met.ofW (cc := cX5_calculate) (maxL := 7) (ret := none) (by decide) rfl ?_
  intro p e s m args below meth c s₁ B hml hv
  obtain ⟨rfl, hsz, hP, hK, hD0, hex, hE⟩ := hv
  have hx := B.exec
  have hb := B.bytes
  have hr := B.returns
  have hts0 := atoms_spec (ws := wt yX5_calculate cX5_calculate 7 none) B.pre
  have hts : ∀ w ∈ tb, w.before _ s = true := fun w h => hts0 w (List.mem_cons_of_mem _ h)
  have hown : s.vm.findClass RX5 = some m.cls := findClass_of_methodNamed B.named
  subst hsz
  have hD := hD0.self (sz := s.heap.size)
  generalize hAe : va_A (WdC g ad S) s.heap.size = A at hD hE ⊢
  have hA : ∀ q : Nat, s.heap.size ≤ q → A q := fun q h => by rw [← hAe]; exact Or.inr h
  have hR : RepC g ad A s S s.heap [] := ⟨hK, hP, hD, va_S.rf, hw⟩
  clear hK hP hD hD0
  have hl := lv_entry ([.ref (ad 44), .int x1]) (n := 7) (Nat.le_of_ble_eq_true rfl)
  rw [lg_entry_eq]
  generalize (lg_sl ([.ref (ad 44), .int x1]) ++ List.replicate (7 - (lg_sl ([.ref (ad 44), .int x1])).length) Slot.unset).toArray = ls at hl ⊢
  have hl : lv_has ls 7 [(0, .ref (ad 44)), (1, .int x1)] := hl
  have hsh : shy S S := shy.rf
  unfold wX5_calculate at h
  refine lv_iload_n hx hb dX5_calculate_0 rfl (lv_at hl 1 rfl) ?_
  obtain ⟨hv1, h⟩ := h
  have hFc := cfree hR hA
  refine va_calli (va_runS (As := [.int x1]) (rest := []) ⟨hx, hb, hml, hown, hts⟩ (rX6_takes l g ad s.heap.size S x1 hR.w  hv1) (va_cwS 1 hts (gd_S kw_1014 kw_1255 kw_1207 kw_1254) rfl rfl rfl (by decide +kernel) ⟨Nat.le_of_ble_eq_true rfl, Nat.le_of_ble_eq_true rfl⟩) ⟨cblind, fun U hU hW9 => cmk hU hW9 hR hex hE hFc⟩ rfl rfl hl.1 rfl (lv_room (Nat.le_of_ble_eq_true rfl)) dX5_calculate_1 ⟨Nat.le_of_ble_eq_true rfl, Nat.le_of_ble_eq_true rfl⟩) hR.sS (fun q _ h => hFc q h) hFc (fun r2 u9 t9 H1 locs ht9 hvm9 hw9 hB9 hz9 hk9 hS => ?_)
  have hR : RepC g ad A s S H1 locs := hR.call ht9 hB9 hR.w hS hFc
  obtain rfl : r2 = (fX6_takes S x1) := hw9
  clear hB9 hz9 hk9 hvm9 ht9 hS
  generalize H1 = H at hR ⊢
  obtain ⟨a4, ea4⟩ : ∃ z, z = (fX6_takes S x1) := ⟨_, rfl⟩
  rw [← ea4]
  replace h := h a4 ea4
  refine lv_istore_n (lv' := [(2, .int a4), (0, .ref (ad 44)), (1, .int x1)]) hx hb dX5_calculate_4 rfl hl (by decide) rfl (fun ls hl => ?_)
  refine lv_aload_n hx hb dX5_calculate_5 rfl (lv_at hl 1 rfl) ?_
  refine lv_iload_n hx hb dX5_calculate_6 rfl (lv_at hl 0 rfl) ?_
  refine lv_bipush (v := 15) hx hb dX5_calculate_7 (by decide) ?_
  refine lv_iand hx hb dX5_calculate_9 ?_
  refine lv_topi (fun z5 ez5 => ?_)
  obtain rfl : z5 = (a4 &&& (15 : Int32)) := ez5
  obtain ⟨Q6, h0, h⟩ := h
  have hFc := cfree hR hA
  refine va_calll (va_runV (As := [.int (a4 &&& (15 : Int32))]) (rest := []) ⟨hx, hb, hml, hown, hts⟩ (rX5_pop_ l g ad H.size S (a4 &&& (15 : Int32)) hR.w  Q6 h0) (cwV 1 hts (gd_V kw_1015 kw_1127 kw_1128 kw_398 kw_1126) rfl rfl rfl (by decide +kernel) ⟨Nat.le_of_ble_eq_true rfl, Nat.le_of_ble_eq_true rfl⟩) ⟨cblind, va_recv hR.K hR.P (ci := 5) (q0 := 44) rfl (hR.at45 (hR.w.2.1 _ finC_29).2.1), fun U hU hW9 => cmk hU hW9 hR hex hE hFc⟩ rfl rfl hl.1 rfl (lv_room (Nat.le_of_ble_eq_true rfl)) dX5_calculate_10 ⟨Nat.le_of_ble_eq_true rfl, Nat.le_of_ble_eq_true rfl⟩) hR.sS (fun q _ h => hFc q h) hFc (fun r7 S8 t9 H1 locs ht9 hvm9 hw9 hB9 hz9 hk9 hS => ?_)
  obtain ⟨hq9, hw9, hs9⟩ := hw9
  have hR : RepC g ad A s S8 H1 locs := hR.call ht9 hB9 hw9 hS hFc
  have hsh := hsh.tr hs9
  replace h := h r7 S8 hq9 hw9 hs9
  clear hB9 hz9 hk9 hvm9 ht9 hw9 hs9 hS
  generalize H1 = H at hR ⊢
  refine lv_lstore_n (lv' := [(3, .long r7), (2, .int a4), (0, .ref (ad 44)), (1, .int x1)]) hx hb dX5_calculate_13 rfl hl (by decide) rfl (fun ls hl => ?_)
  refine lv_aload_n hx hb dX5_calculate_14 rfl (lv_at hl 2 rfl) ?_
  refine lv_iload_n hx hb dX5_calculate_15 rfl (lv_at hl 1 rfl) ?_
  refine lv_iconst (v := 4) hx hb dX5_calculate_16 (by decide) ?_
  refine lv_ishr hx hb dX5_calculate_17 ?_
  refine lv_topi (fun z10 ez10 => ?_)
  obtain rfl : z10 = (a4 >>> ((4 : Int32) &&& 31)) := ez10
  obtain ⟨Q11, h0, h⟩ := h
  have hFc := cfree hR hA
  refine va_calll (va_runV (As := [.int (a4 >>> ((4 : Int32) &&& 31))]) (rest := []) ⟨hx, hb, hml, hown, hts⟩ (rX5_pop_ l g ad H.size S8 (a4 >>> ((4 : Int32) &&& 31)) hR.w  Q11 h0) (cwV 1 hts (gd_V kw_1015 kw_1127 kw_1128 kw_398 kw_1126) rfl rfl rfl (by decide +kernel) ⟨Nat.le_of_ble_eq_true rfl, Nat.le_of_ble_eq_true rfl⟩) ⟨cblind, va_recv hR.K hR.P (ci := 5) (q0 := 44) rfl (hR.at45 (hR.w.2.1 _ finC_29).2.1), fun U hU hW9 => cmk hU hW9 hR hex hE hFc⟩ rfl rfl hl.1 rfl (lv_room (Nat.le_of_ble_eq_true rfl)) dX5_calculate_18 ⟨Nat.le_of_ble_eq_true rfl, Nat.le_of_ble_eq_true rfl⟩) hR.sS (fun q _ h => hFc q h) hFc (fun r12 S13 t9 H1 locs ht9 hvm9 hw9 hB9 hz9 hk9 hS => ?_)
  obtain ⟨hq14, hw9, hs9⟩ := hw9
  have hR : RepC g ad A s S13 H1 locs := hR.call ht9 hB9 hw9 hS hFc
  have hsh := hsh.tr hs9
  replace h := h r12 S13 hq14 hw9 hs9
  clear hB9 hz9 hk9 hvm9 ht9 hw9 hs9 hS
  generalize H1 = H at hR ⊢
  refine lv_lstore (lv' := [(5, .long r12), (3, .long r7), (2, .int a4), (0, .ref (ad 44)), (1, .int x1)]) hx hb dX5_calculate_21 hl (by decide) rfl (fun ls hl => ?_)
  refine lv_iload_n hx hb dX5_calculate_23 rfl (lv_at hl 4 rfl) ?_
  obtain ⟨hv15, h⟩ := h
  have hFc := cfree hR hA
  refine va_calli (va_runS (As := [.int x1]) (rest := []) ⟨hx, hb, hml, hown, hts⟩ (rX6_isDivision l g ad H.size S13 x1 hR.w  hv15) (va_cwS 1 hts (gd_S kw_1016 kw_1223 kw_1207 kw_1222) rfl rfl rfl (by decide +kernel) ⟨Nat.le_of_ble_eq_true rfl, Nat.le_of_ble_eq_true rfl⟩) ⟨cblind, fun U hU hW9 => cmk hU hW9 hR hex hE hFc⟩ rfl rfl hl.1 rfl (lv_room (Nat.le_of_ble_eq_true rfl)) dX5_calculate_24 ⟨Nat.le_of_ble_eq_true rfl, Nat.le_of_ble_eq_true rfl⟩) hR.sS (fun q _ h => hFc q h) hFc (fun r16 u9 t9 H1 locs ht9 hvm9 hw9 hB9 hz9 hk9 hS => ?_)
  have hR : RepC g ad A s S13 H1 locs := hR.call ht9 hB9 hR.w hS hFc
  obtain ⟨rfl, hz_r16⟩ := hw9
  clear hB9 hz9 hk9 hvm9 ht9 hS
  generalize H1 = H at hR ⊢
  obtain ⟨a18, ea18⟩ : ∃ z, z = (fX6_isDivision S13 x1) := ⟨_, rfl⟩
  rw [← ea18]
  replace h := h a18 ea18
  rw [← ea18] at hz_r16
  have J_42 : ∀ (U42 : MS) (v42_1 : Int32) (v42_3 : Int64) (v42_5 : Int64) (H : Heap) (locs : List Loc) (ls : Array Slot), w_X5_calculate_J42 Q U42 v42_1 v42_3 v42_5 → shy S U42 → RepC g ad A s U42 H locs → lv_has ls 7 [(0, .ref (ad 44)), (1, .int v42_1), (3, .long v42_3), (5, .long v42_5)] → W p l e (headSpec (wt yX5_calculate cX5_calculate 7 none) ({ frames := 3, cells := 0, slots := 0, locals := 67 })).room s m ([.ref (ad 44), .int x1] : List Value).toArray below meth c H locs 0 0 (MQ below (va_Qv (fun (u : MS) => Q u ∧ wfC u ∧ shy S u) (fun (u : MS) (t : State) => qEC g ad A u t) A) ([.ref (ad 44), .int x1] : List Value).toArray s 0 0 A) (F0 m 42 ls []) := by
    intro U42 v42_1 v42_3 v42_5 H locs ls h hsh hR hl
    unfold w_X5_calculate_J42 at h
    replace h := h hR.w
    refine lv_aload_n hx hb dX5_calculate_42 rfl (lv_at hl 0 rfl) ?_
    refine lv_iload_n hx hb dX5_calculate_43 rfl (lv_at hl 1 rfl) ?_
    obtain ⟨hv19, h⟩ := h
    have hFc := cfree hR hA
    refine va_calli (va_runS (As := [.int v42_1]) (rest := [.ref (ad 44)]) ⟨hx, hb, hml, hown, hts⟩ (rX6_gives l g ad H.size U42 v42_1 hR.w  hv19) (va_cwS 1 hts (gd_S kw_1018 kw_1216 kw_1207 kw_1215) rfl rfl rfl (by decide +kernel) ⟨Nat.le_of_ble_eq_true rfl, Nat.le_of_ble_eq_true rfl⟩) ⟨cblind, fun U hU hW9 => cmk hU hW9 hR hex hE hFc⟩ rfl rfl hl.1 rfl (lv_room (Nat.le_of_ble_eq_true rfl)) dX5_calculate_44 ⟨Nat.le_of_ble_eq_true rfl, Nat.le_of_ble_eq_true rfl⟩) hR.sS (fun q _ h => hFc q h) hFc (fun r20 u9 t9 H1 locs ht9 hvm9 hw9 hB9 hz9 hk9 hS => ?_)
    have hR : RepC g ad A s U42 H1 locs := hR.call ht9 hB9 hR.w hS hFc
    obtain rfl : r20 = (fX6_gives U42 v42_1) := hw9
    clear hB9 hz9 hk9 hvm9 ht9 hS
    generalize H1 = H at hR ⊢
    obtain ⟨a22, ea22⟩ : ∃ z, z = (fX6_gives U42 v42_1) := ⟨_, rfl⟩
    rw [← ea22]
    replace h := h a22 ea22
    refine lv_iload_n hx hb dX5_calculate_47 rfl (lv_at hl 1 rfl) ?_
    refine lv_lload hx hb dX5_calculate_48 (lv_at hl 3 rfl) ?_
    refine lv_lload_n hx hb dX5_calculate_50 rfl (lv_at hl 2 rfl) ?_
    obtain ⟨hv23, h⟩ := h
    have hFc := cfree hR hA
    refine va_calll (va_runS (As := [.int v42_1, .long v42_5, .long v42_3]) (rest := [.int a22, .ref (ad 44)]) ⟨hx, hb, hml, hown, hts⟩ (rX6_binary l g ad H.size U42 v42_1 v42_5 v42_3 hR.w  hv23) (va_cwS 3 hts (gd_S kw_1019 kw_1206 kw_1207 kw_1205) rfl rfl rfl (by decide +kernel) ⟨Nat.le_of_ble_eq_true rfl, Nat.le_of_ble_eq_true rfl⟩) ⟨cblind, fun U hU hW9 => cmk hU hW9 hR hex hE hFc⟩ rfl rfl hl.1 rfl (lv_room (Nat.le_of_ble_eq_true rfl)) dX5_calculate_51 ⟨Nat.le_of_ble_eq_true rfl, Nat.le_of_ble_eq_true rfl⟩) hR.sS (fun q _ h => hFc q h) hFc (fun r24 u9 t9 H1 locs ht9 hvm9 hw9 hB9 hz9 hk9 hS => ?_)
    have hR : RepC g ad A s U42 H1 locs := hR.call ht9 hB9 hR.w hS hFc
    obtain rfl : r24 = (fX6_binary U42 v42_1 v42_5 v42_3) := hw9
    clear hB9 hz9 hk9 hvm9 ht9 hS
    generalize H1 = H at hR ⊢
    obtain ⟨a26, ea26⟩ : ∃ z, z = (fX6_binary U42 v42_1 v42_5 v42_3) := ⟨_, rfl⟩
    rw [← ea26]
    replace h := h a26 ea26
    obtain ⟨Q27, h0, h⟩ := h
    have hFc := cfree hR hA
    refine va_callv (va_runV (As := [.int a22, .long a26]) (rest := []) ⟨hx, hb, hml, hown, hts⟩ (rX5_push_ l g ad H.size U42 a22 a26 hR.w  Q27 h0) (cwV 2 hts (gd_V kw_1020 kw_1133 kw_1134 kw_398 kw_1132) rfl rfl rfl (by decide +kernel) ⟨Nat.le_of_ble_eq_true rfl, Nat.le_of_ble_eq_true rfl⟩) ⟨cblind, va_recv hR.K hR.P (ci := 5) (q0 := 44) rfl (hR.at45 (hR.w.2.1 _ finC_29).2.1), fun U hU hW9 => cmk hU hW9 hR hex hE hFc⟩ rfl rfl hl.1 rfl (lv_room (Nat.le_of_ble_eq_true rfl)) dX5_calculate_54 ⟨Nat.le_of_ble_eq_true rfl, Nat.le_of_ble_eq_true rfl⟩) hR.sS (fun q _ h => hFc q h) hFc (fun  S28 t9 H1 locs ht9 hvm9 hw9 hB9 hz9 hk9 hS => ?_)
    obtain ⟨hq29, hw9, hs9⟩ := hw9
    have hR : RepC g ad A s S28 H1 locs := hR.call ht9 hB9 hw9 hS hFc
    have hsh := hsh.tr hs9
    replace h := h  S28 hq29 hw9 hs9
    clear hB9 hz9 hk9 hvm9 ht9 hw9 hs9 hS
    generalize H1 = H at hR ⊢
    refine lv_aload_n hx hb dX5_calculate_57 rfl (lv_at hl 0 rfl) ?_
    refine lv_dup hx hb dX5_calculate_58 rfl ?_
    refine va_get (D := rD g) (ci := 5) (v := .int (qI S28 44 13)) (C := RX5) (T := TX5) (N := 20) hx hb hts inX5 hown hR.K hR.P 44 (hR.at45 (hR.w.2.1 _ finC_29).2.1) rfl 13 (by decide) (hts _ kw_1021) (fun _ h9 => h9) rfl dX5_calculate_59 ?_
    refine lv_iconst (v := 1) hx hb dX5_calculate_62 (by decide) ?_
    refine lv_iadd hx hb dX5_calculate_63 ?_
    refine lv_topi (fun z30 ez30 => ?_)
    obtain rfl : z30 = ((qI S28 44 13) + (1 : Int32)) := ez30
    refine va_put (D := rD g) (ci := 5) (v := .int ((qI S28 44 13) + (1 : Int32))) (ty := .int) (C := RX5) (T := TX5) (N := 20) hx hb hts inX5 tyX5 tyX5_ok nmX5 hown hR.K hR.P hR.D hR.sS 44 (hR.at45 (hR.w.2.1 _ finC_29).2.1) rfl 13 (by decide) (hts _ kw_1021) (fun _ h9 => h9) rfl (by decide +kernel) rfl rfl (Nat.le_of_ble_eq_true rfl) dX5_calculate_64 (fun H locs hP hD hS => ?_)
    have hTk9 : qT S28 44 = 45 := (hR.w.2.1 _ finC_29).2.1
    have hR : RepC g ad A s (wI S28 44 13 ((qI S28 44 13) + (1 : Int32))) H locs := hR.pI45 (hR.w.2.1 _ finC_29).2.1 FX5_s13 (fun q9 => absurd q9 (by decide)) hP hD hS
    obtain ⟨S31, eS31⟩ : ∃ z, z = wI S28 44 13 ((qI S28 44 13) + (1 : Int32)) := ⟨_, rfl⟩
    rw [← eS31] at hR
    replace h := h S31 eS31 hTk9 hR.w
    have hsh : shy S S31 := by rw [eS31]; exact hsh
    exact W.vret hx hb hr (fun t9 ht9 hW9 => ⟨⟨S31, rfl, ⟨h, hR.w, hsh⟩, ⟨by rw [ht9]; exact hR.P, hR.D⟩⟩, hR.sS.F ht9⟩) hR.sS.2.2 dX5_calculate_67
  refine lv_if_eq (tgt := 42) hx hb dX5_calculate_27 (by decide) (fun c32 => ?_) (fun c32 => ?_)
  · replace h := h.1 (k_eq rfl (by decide) c32)
    exact J_42 S13 x1 r7 r12 _ _ ls h  hsh hR (lv_sub hl [3, 4, 1, 0] rfl)
  · replace h := h.2 (k_ne rfl (by decide) c32)
    refine lv_lload_n hx hb dX5_calculate_30 rfl (lv_at hl 1 rfl) ?_
    refine lv_lconst (v := 0) hx hb dX5_calculate_31 (by decide) ?_
    refine W.lcmp hx hb dX5_calculate_32 ?_
    refine lv_topi (fun z33 ez33 => ?_)
    obtain rfl : z33 = (lg_cmp r7 0) := ez33
    refine lv_if_ne (tgt := 42) hx hb dX5_calculate_33 (by decide) (fun c34 => ?_) (fun c34 => ?_)
    · replace h := h.2 (k_ne rfl (by decide) c34)
      exact J_42 S13 x1 r7 r12 _ _ ls h  hsh hR (lv_sub hl [3, 4, 1, 0] rfl)
    · replace h := h.1 (k_eq rfl (by decide) c34)
      refine lv_aload_n hx hb dX5_calculate_36 rfl (lv_at hl 3 rfl) ?_
      refine lv_iconst (v := 0) hx hb dX5_calculate_37 (by decide) ?_
      obtain ⟨Q35, h0, h⟩ := h
      have hFc := cfree hR hA
      refine va_callv (va_runV (As := [.int 0]) (rest := []) ⟨hx, hb, hml, hown, hts⟩ (rX5_raise l g ad H.size S13 (0 : Int32) hR.w  Q35 h0) (cwV 1 hts (gd_V kw_1017 kw_1136 kw_1137 kw_398 kw_1135) rfl rfl rfl (by decide +kernel) ⟨Nat.le_of_ble_eq_true rfl, Nat.le_of_ble_eq_true rfl⟩) ⟨cblind, va_recv hR.K hR.P (ci := 5) (q0 := 44) rfl (hR.at45 (hR.w.2.1 _ finC_29).2.1), fun U hU hW9 => cmk hU hW9 hR hex hE hFc⟩ rfl rfl hl.1 rfl (lv_room (Nat.le_of_ble_eq_true rfl)) dX5_calculate_38 ⟨Nat.le_of_ble_eq_true rfl, Nat.le_of_ble_eq_true rfl⟩) hR.sS (fun q _ h => hFc q h) hFc (fun  S36 t9 H1 locs ht9 hvm9 hw9 hB9 hz9 hk9 hS => ?_)
      obtain ⟨hq37, hw9, hs9⟩ := hw9
      have hR : RepC g ad A s S36 H1 locs := hR.call ht9 hB9 hw9 hS hFc
      have hsh := hsh.tr hs9
      replace h := h  S36 hq37 hw9 hs9
      clear hB9 hz9 hk9 hvm9 ht9 hw9 hs9 hS
      generalize H1 = H at hR ⊢
      exact W.vret hx hb hr (fun t9 ht9 hW9 => ⟨⟨S36, rfl, ⟨h, hR.w, hsh⟩, ⟨by rw [ht9]; exact hR.P, hR.D⟩⟩, hR.sS.F ht9⟩) hR.sS.2.2 dX5_calculate_41
