def w_X1_goThrough_J213 (Q : MS → Prop) (U213 : MS) (t213_0 : Int32) (t213_1 : Int32) : Prop := (wfC U213 → (t213_0 = 0 ∨ t213_0 = 1) → (((t213_1 ||| t213_0) = 0 ∨ (t213_1 ||| t213_0) = 1) ∧ (∀ S41, S41 = wI U213 16 6 (t213_1 ||| t213_0) → qT U213 16 = 41 → wfC S41 → Q S41)))
def w_X1_goThrough_J212 (Q : MS → Prop) (U212 : MS) (t212_0 : Int32) : Prop := (wfC U212 → w_X1_goThrough_J213 Q U212 0 t212_0)
def w_X1_goThrough_L131 (Q : MS → Prop) : Nat → MS → Int32 → Int32 → Int32 → Int32 → Prop
  | 0, _, _, _, _, _ => False
  | n131 + 1, U131, v131_1, v131_2, v131_3, v131_4 => (wfC U131 → ((v131_4.toInt ≤ 0 → ((qR U131 16 8 = some (qO U131 16 8)) ∧ ((qR U131 16 9 = some (qO U131 16 9)) ∧ (d_X10_gives U131 (qO U131 16 8) (qO U131 16 9) v131_1 ∧ (∀ a34 : Int32, a34 = (fX10_gives U131 (qO U131 16 8) (qO U131 16 9) v131_1) → (∃ Q35, wX1_give U131 a34 Q35 ∧ ∀ S36, Q35 S36 → wfC S36 → shy U131 S36 → ((v131_2.toInt < 172 → w_X1_goThrough_J212 Q S36 (qI S36 16 6)) ∧ (¬ v131_2.toInt < 172 → ((177 < v131_2.toInt → w_X1_goThrough_J212 Q S36 (qI S36 16 6)) ∧ (¬ 177 < v131_2.toInt → ((qR S36 16 8 = some (qO S36 16 8)) ∧ ((qR S36 16 9 = some (qO S36 16 9)) ∧ (d_X10_givesOfMethod S36 (qO S36 16 8) (qI S36 (qO S36 16 9) 11) ∧ (∀ a51 : Int32, a51 = (fX10_givesOfMethod S36 (qO S36 16 8) (qI S36 (qO S36 16 9) 11)) → ((v131_3.toInt = a51.toInt → w_X1_goThrough_J212 Q S36 (qI S36 16 6)) ∧ (¬ v131_3.toInt = a51.toInt → w_X1_goThrough_J213 Q S36 1 (qI S36 16 6))))))))))))))))) ∧ (¬ v131_4.toInt ≤ 0 → (∃ Q54, wX1_take U131 (v131_4 &&& (15 : Int32)) Q54 ∧ ∀ r55 S56, Q54 r55 S56 → wfC S56 → shy U131 S56 → (∀ a59 : Int32, a59 = (v131_4 >>> ((4 : Int32) &&& 31)) → (w_X1_goThrough_L131 Q n131) S56 v131_1 v131_2 v131_3 a59)))))
def w_X1_goThrough_J108 (Q : MS → Prop) (U108 : MS) (t108_0 : Int32) (t108_1 : Int32) : Prop := (wfC U108 → (t108_0 = 0 ∨ t108_0 = 1) → (((t108_1 ||| t108_0) = 0 ∨ (t108_1 ||| t108_0) = 1) ∧ (∀ S73, S73 = wI U108 16 6 (t108_1 ||| t108_0) → qT U108 16 = 41 → wfC S73 → Q S73)))
def w_X1_goThrough_J29 (Q : MS → Prop) (U29 : MS) (v29_1 : Int32) (v29_2 : Int32) : Prop := (wfC U29 → (d_X6_isLoad U29 v29_2 ∧ (∀ a10 : Int32, a10 = (fX6_isLoad U29 v29_2) → ((a10.toInt = 0 → (d_X6_isStore U29 v29_2 ∧ (∀ a15 : Int32, a15 = (fX6_isStore U29 v29_2) → ((a15.toInt = 0 → ((v29_2.toInt = 132 → ((qR U29 16 9 = some (qO U29 16 9)) ∧ (d_X8_localOf U29 (qO U29 16 9) v29_1 ∧ (∀ a66 : Int32, a66 = (fX8_localOf U29 (qO U29 16 9) v29_1) → (d_X1_placeAt U29 a66 ∧ (∀ a70 : Int32, a70 = (fX1_placeAt U29 a66) → ((a70.toInt = 1 → w_X1_goThrough_J108 Q U29 0 (qI U29 16 6)) ∧ (¬ a70.toInt = 1 → w_X1_goThrough_J108 Q U29 1 (qI U29 16 6))))))))) ∧ (¬ v29_2.toInt = 132 → ((qR U29 16 8 = some (qO U29 16 8)) ∧ ((qR U29 16 9 = some (qO U29 16 9)) ∧ (d_X10_takes U29 (qO U29 16 8) (qO U29 16 9) v29_1 ∧ (∀ a25 : Int32, a25 = (fX10_takes U29 (qO U29 16 8) (qO U29 16 9) v29_1) → (∃ n, w_X1_goThrough_L131 Q n U29 v29_1 v29_2 a25 a25)))))))) ∧ (¬ a15.toInt = 0 → ((qR U29 16 9 = some (qO U29 16 9)) ∧ (d_X8_localOf U29 (qO U29 16 9) v29_1 ∧ (∀ a80 : Int32, a80 = (fX8_localOf U29 (qO U29 16 9) v29_1) → (∃ Q81, wX1_store U29 v29_2 a80 Q81 ∧ ∀ S82, Q81 S82 → wfC S82 → shy U29 S82 → Q S82))))))))) ∧ (¬ a10.toInt = 0 → ((qR U29 16 9 = some (qO U29 16 9)) ∧ (d_X8_localOf U29 (qO U29 16 9) v29_1 ∧ (∀ a89 : Int32, a89 = (fX8_localOf U29 (qO U29 16 9) v29_1) → (∃ Q90, wX1_load U29 v29_2 a89 Q90 ∧ ∀ S91, Q90 S91 → wfC S91 → shy U29 S91 → Q S91)))))))))
def wX1_goThrough (S : MS) (x1 : Int32) (Q : MS → Prop) : Prop := ((qR S 16 9 = some (qO S 16 9)) ∧ (d_X8_opAt S (qO S 16 9) x1 ∧ (∀ a6 : Int32, a6 = (fX8_opAt S (qO S 16 9) x1) → ((a6.toInt < 87 → w_X1_goThrough_J29 Q S x1 a6) ∧ (¬ a6.toInt < 87 → ((95 < a6.toInt → w_X1_goThrough_J29 Q S x1 a6) ∧ (¬ 95 < a6.toInt → (∃ Q95, wX1_shuffle S a6 Q95 ∧ ∀ S96, Q95 S96 → wfC S96 → shy S S96 → Q S96))))))))
set_option maxHeartbeats 2000000 in
set_option maxRecDepth 100000 in
theorem rX1_goThrough (l : Launch) (g : Gr) (ad : Nat → Nat) (sz : Nat) (S : MS) (x1 : Int32) (hw : wfC S) (Q : MS → Prop) (h : wX1_goThrough S x1 Q) : Met l yX1_goThrough (wt yX1_goThrough cX1_goThrough 5 none) ({ frames := 4, cells := 0, slots := 0, locals := 86 }) (va_Pc [.ref (ad 16), .int x1] (st_C g ad sz S)) (va_Qv (fun (u : MS) => Q u ∧ wfC u ∧ shy S u) (fun (u : MS) (t : State) => qEC g ad (va_A (WdC g ad S) sz) u t) (va_A (WdC g ad S) sz)) 0 0 (va_A (WdC g ad S) sz) := by
  refine Met.ofW (cc := cX1_goThrough) (maxL := 5) (ret := none) (by decide) rfl ?_
  intro p e s m args below meth c s₁ B hml hv
  obtain ⟨rfl, hsz, hP, hK, hD0, hex, hE⟩ := hv
  have hx := B.exec
  have hb := B.bytes
  have hr := B.returns
  have hts0 := atoms_spec (ws := wt yX1_goThrough cX1_goThrough 5 none) B.pre
  have hts : ∀ w ∈ tb, w.before _ s = true := fun w h => hts0 w (List.mem_cons_of_mem _ h)
  have hown : s.vm.findClass RX1 = some m.cls := findClass_of_methodNamed B.named
  subst hsz
  have hD := hD0.self (sz := s.heap.size)
  generalize hAe : va_A (WdC g ad S) s.heap.size = A at hD hE ⊢
  have hA : ∀ q : Nat, s.heap.size ≤ q → A q := fun q h => by rw [← hAe]; exact Or.inr h
  have hR : RepC g ad A s S s.heap [] := ⟨hK, hP, hD, va_S.rf, hw⟩
  clear hK hP hD hD0
  have hl := lv_entry ([.ref (ad 16), .int x1]) (n := 5) (Nat.le_of_ble_eq_true rfl)
  rw [lg_entry_eq]
  generalize (lg_sl ([.ref (ad 16), .int x1]) ++ List.replicate (5 - (lg_sl ([.ref (ad 16), .int x1])).length) Slot.unset).toArray = ls at hl ⊢
  have hl : lv_has ls 5 [(0, .ref (ad 16)), (1, .int x1)] := hl
  have hsh : shy S S := shy.rf
  unfold wX1_goThrough at h
  refine lv_aload_n hx hb dX1_goThrough_0 rfl (lv_at hl 0 rfl) ?_
  obtain ⟨hv2, h⟩ := h
  have hT_b1 : qT S (qO S 16 9) = 47 := hR.w.ref hv2 (hR.w.2.1 _ finC_27).2.1
  refine va_get (D := rD g) (ci := 1) (v := .ref (ad (qO S 16 9))) (C := RX1) (T := TX1) (N := 10) hx hb hts inX1 hown hR.K hR.P 16 (hR.at41 (hR.w.2.1 _ finC_27).2.1) rfl 9 (by decide) (hts _ kw_479) (fun _ h9 => h9) (congrArg (fun z => some (vf ad z)) hv2) dX1_goThrough_1 ?_
  refine lv_iload_n hx hb dX1_goThrough_4 rfl (lv_at hl 1 rfl) ?_
  obtain ⟨hv3, h⟩ := h
  have hFc := cfree hR hA
  refine va_calli (va_runV (As := [.int x1]) (rest := []) ⟨hx, hb, hml, hown, hts⟩ (rX8_opAt l g ad s.heap.size S (qO S 16 9) x1 hR.w hT_b1 hv3) (cwV 1 hts (gd_V kw_519 kw_1513 kw_1514 kw_782 kw_1512) rfl rfl rfl (by decide +kernel) ⟨Nat.le_of_ble_eq_true rfl, Nat.le_of_ble_eq_true rfl⟩) ⟨cblind, va_recv hR.K hR.P (ci := 7) (q0 := (qO S 16 9)) rfl (hR.at47 hT_b1), fun U hU hW9 => cmk hU hW9 hR hex hE hFc⟩ rfl rfl hl.1 rfl (lv_room (Nat.le_of_ble_eq_true rfl)) dX1_goThrough_5 ⟨Nat.le_of_ble_eq_true rfl, Nat.le_of_ble_eq_true rfl⟩) hR.sS (fun q _ h => hFc q h) hFc (fun r4 u9 t9 H1 locs ht9 hvm9 hw9 hB9 hz9 hk9 hS => ?_)
  have hR : RepC g ad A s S H1 locs := hR.call ht9 hB9 hR.w hS hFc
  obtain rfl : r4 = (fX8_opAt S (qO S 16 9) x1) := hw9
  clear hB9 hz9 hk9 hvm9 ht9 hS
  generalize H1 = H at hR ⊢
  obtain ⟨a6, ea6⟩ : ∃ z, z = (fX8_opAt S (qO S 16 9) x1) := ⟨_, rfl⟩
  rw [← ea6]
  replace h := h a6 ea6
  refine lv_istore_n (lv' := [(2, .int a6), (0, .ref (ad 16)), (1, .int x1)]) hx hb dX1_goThrough_8 rfl hl (by decide) rfl (fun ls hl => ?_)
  refine lv_iload_n hx hb dX1_goThrough_9 rfl (lv_at hl 0 rfl) ?_
  refine lv_bipush (v := 87) hx hb dX1_goThrough_10 (by decide) ?_
  have J_29 : ∀ (U29 : MS) (v29_1 : Int32) (v29_2 : Int32) (H : Heap) (locs : List Loc) (ls : Array Slot), w_X1_goThrough_J29 Q U29 v29_1 v29_2 → shy S U29 → RepC g ad A s U29 H locs → lv_has ls 5 [(0, .ref (ad 16)), (1, .int v29_1), (2, .int v29_2)] → W p l e (headSpec (wt yX1_goThrough cX1_goThrough 5 none) ({ frames := 4, cells := 0, slots := 0, locals := 86 })).room s m ([.ref (ad 16), .int x1] : List Value).toArray below meth c H locs 0 0 (MQ below (va_Qv (fun (u : MS) => Q u ∧ wfC u ∧ shy S u) (fun (u : MS) (t : State) => qEC g ad A u t) A) ([.ref (ad 16), .int x1] : List Value).toArray s 0 0 A) (F0 m 29 ls []) := by
    intro U29 v29_1 v29_2 H locs ls h hsh hR hl
    unfold w_X1_goThrough_J29 at h
    replace h := h hR.w
    refine lv_iload_n hx hb dX1_goThrough_29 rfl (lv_at hl 2 rfl) ?_
    obtain ⟨hv7, h⟩ := h
    have hFc := cfree hR hA
    refine va_calli (va_runS (As := [.int v29_2]) (rest := []) ⟨hx, hb, hml, hown, hts⟩ (rX6_isLoad l g ad H.size U29 v29_2 hR.w  hv7) (va_cwS 1 hts (gd_S kw_531 kw_1227 kw_1207 kw_1226) rfl rfl rfl (by decide +kernel) ⟨Nat.le_of_ble_eq_true rfl, Nat.le_of_ble_eq_true rfl⟩) ⟨cblind, fun U hU hW9 => cmk hU hW9 hR hex hE hFc⟩ rfl rfl hl.1 rfl (lv_room (Nat.le_of_ble_eq_true rfl)) dX1_goThrough_30 ⟨Nat.le_of_ble_eq_true rfl, Nat.le_of_ble_eq_true rfl⟩) hR.sS (fun q _ h => hFc q h) hFc (fun r8 u9 t9 H1 locs ht9 hvm9 hw9 hB9 hz9 hk9 hS => ?_)
    have hR : RepC g ad A s U29 H1 locs := hR.call ht9 hB9 hR.w hS hFc
    obtain ⟨rfl, hz_r8⟩ := hw9
    clear hB9 hz9 hk9 hvm9 ht9 hS
    generalize H1 = H at hR ⊢
    obtain ⟨a10, ea10⟩ : ∃ z, z = (fX6_isLoad U29 v29_2) := ⟨_, rfl⟩
    rw [← ea10]
    replace h := h a10 ea10
    rw [← ea10] at hz_r8
    refine lv_if_eq (tgt := 52) hx hb dX1_goThrough_33 (by decide) (fun c11 => ?_) (fun c11 => ?_)
    · replace h := h.1 (k_eq rfl (by decide) c11)
      refine lv_iload_n hx hb dX1_goThrough_52 rfl (lv_at hl 2 rfl) ?_
      obtain ⟨hv12, h⟩ := h
      have hFc := cfree hR hA
      refine va_calli (va_runS (As := [.int v29_2]) (rest := []) ⟨hx, hb, hml, hown, hts⟩ (rX6_isStore l g ad H.size U29 v29_2 hR.w  hv12) (va_cwS 1 hts (gd_S kw_534 kw_1231 kw_1207 kw_1230) rfl rfl rfl (by decide +kernel) ⟨Nat.le_of_ble_eq_true rfl, Nat.le_of_ble_eq_true rfl⟩) ⟨cblind, fun U hU hW9 => cmk hU hW9 hR hex hE hFc⟩ rfl rfl hl.1 rfl (lv_room (Nat.le_of_ble_eq_true rfl)) dX1_goThrough_53 ⟨Nat.le_of_ble_eq_true rfl, Nat.le_of_ble_eq_true rfl⟩) hR.sS (fun q _ h => hFc q h) hFc (fun r13 u9 t9 H1 locs ht9 hvm9 hw9 hB9 hz9 hk9 hS => ?_)
      have hR : RepC g ad A s U29 H1 locs := hR.call ht9 hB9 hR.w hS hFc
      obtain ⟨rfl, hz_r13⟩ := hw9
      clear hB9 hz9 hk9 hvm9 ht9 hS
      generalize H1 = H at hR ⊢
      obtain ⟨a15, ea15⟩ : ∃ z, z = (fX6_isStore U29 v29_2) := ⟨_, rfl⟩
      rw [← ea15]
      replace h := h a15 ea15
      rw [← ea15] at hz_r13
      refine lv_if_eq (tgt := 75) hx hb dX1_goThrough_56 (by decide) (fun c16 => ?_) (fun c16 => ?_)
      · replace h := h.1 (k_eq rfl (by decide) c16)
        refine lv_iload_n hx hb dX1_goThrough_75 rfl (lv_at hl 2 rfl) ?_
        refine lv_sipush (v := 132) hx hb dX1_goThrough_76 (by decide) ?_
        refine lv_icmp_ne (tgt := 115) hx hb dX1_goThrough_79 (by decide) (fun c17 => ?_) (fun c17 => ?_)
        · replace h := h.2 (k_ne rfl (by decide) c17)
          refine lv_aload_n hx hb dX1_goThrough_115 rfl (lv_at hl 0 rfl) ?_
          obtain ⟨hv19, h⟩ := h
          have hT_b18 : qT U29 (qO U29 16 8) = 49 := hR.w.ref hv19 (hR.w.2.1 _ finC_27).2.1
          refine va_get (D := rD g) (ci := 1) (v := .ref (ad (qO U29 16 8))) (C := RX1) (T := TX1) (N := 10) hx hb hts inX1 hown hR.K hR.P 16 (hR.at41 (hR.w.2.1 _ finC_27).2.1) rfl 8 (by decide) (hts _ kw_478) (fun _ h9 => h9) (congrArg (fun z => some (vf ad z)) hv19) dX1_goThrough_116 ?_
          refine lv_aload_n hx hb dX1_goThrough_119 rfl (lv_at hl 0 rfl) ?_
          obtain ⟨hv21, h⟩ := h
          have hT_b20 : qT U29 (qO U29 16 9) = 47 := hR.w.ref hv21 (hR.w.2.1 _ finC_27).2.1
          refine va_get (D := rD g) (ci := 1) (v := .ref (ad (qO U29 16 9))) (C := RX1) (T := TX1) (N := 10) hx hb hts inX1 hown hR.K hR.P 16 (hR.at41 (hR.w.2.1 _ finC_27).2.1) rfl 9 (by decide) (hts _ kw_479) (fun _ h9 => h9) (congrArg (fun z => some (vf ad z)) hv21) dX1_goThrough_120 ?_
          refine lv_iload_n hx hb dX1_goThrough_123 rfl (lv_at hl 1 rfl) ?_
          obtain ⟨hv22, h⟩ := h
          have hFc := cfree hR hA
          refine va_calli (va_runV (As := [.ref (ad (qO U29 16 9)), .int v29_1]) (rest := []) ⟨hx, hb, hml, hown, hts⟩ (rX10_takes l g ad H.size U29 (qO U29 16 8) (qO U29 16 9) v29_1 hR.w hT_b18 hT_b20 hv22) (cwV 2 hts (gd_V kw_538 kw_73 kw_74 kw_34 kw_72) rfl rfl rfl (by decide +kernel) ⟨Nat.le_of_ble_eq_true rfl, Nat.le_of_ble_eq_true rfl⟩) ⟨cblind, va_recv hR.K hR.P (ci := 9) (q0 := (qO U29 16 8)) rfl (hR.at49 hT_b18), fun U hU hW9 => cmk hU hW9 hR hex hE hFc⟩ rfl rfl hl.1 rfl (lv_room (Nat.le_of_ble_eq_true rfl)) dX1_goThrough_124 ⟨Nat.le_of_ble_eq_true rfl, Nat.le_of_ble_eq_true rfl⟩) hR.sS (fun q _ h => hFc q h) hFc (fun r23 u9 t9 H1 locs ht9 hvm9 hw9 hB9 hz9 hk9 hS => ?_)
          have hR : RepC g ad A s U29 H1 locs := hR.call ht9 hB9 hR.w hS hFc
          obtain rfl : r23 = (fX10_takes U29 (qO U29 16 8) (qO U29 16 9) v29_1) := hw9
          clear hB9 hz9 hk9 hvm9 ht9 hS
          generalize H1 = H at hR ⊢
          obtain ⟨a25, ea25⟩ : ∃ z, z = (fX10_takes U29 (qO U29 16 8) (qO U29 16 9) v29_1) := ⟨_, rfl⟩
          rw [← ea25]
          replace h := h a25 ea25
          refine lv_istore_n (lv' := [(3, .int a25), (0, .ref (ad 16)), (1, .int v29_1), (2, .int v29_2)]) hx hb dX1_goThrough_127 rfl hl (by decide) rfl (fun ls hl => ?_)
          refine lv_iload_n hx hb dX1_goThrough_128 rfl (lv_at hl 0 rfl) ?_
          refine lv_istore (lv' := [(4, .int a25), (3, .int a25), (0, .ref (ad 16)), (1, .int v29_1), (2, .int v29_2)]) hx hb dX1_goThrough_129 hl (by decide) rfl (fun ls hl => ?_)
          have J_131 : ∀ (n131 : Nat) (U131 : MS) (v131_1 : Int32) (v131_2 : Int32) (v131_3 : Int32) (v131_4 : Int32) (H : Heap) (locs : List Loc) (ls : Array Slot), w_X1_goThrough_L131 Q n131 U131 v131_1 v131_2 v131_3 v131_4 → shy S U131 → RepC g ad A s U131 H locs → lv_has ls 5 [(0, .ref (ad 16)), (1, .int v131_1), (2, .int v131_2), (3, .int v131_3), (4, .int v131_4)] → W p l e (headSpec (wt yX1_goThrough cX1_goThrough 5 none) ({ frames := 4, cells := 0, slots := 0, locals := 86 })).room s m ([.ref (ad 16), .int x1] : List Value).toArray below meth c H locs 0 0 (MQ below (va_Qv (fun (u : MS) => Q u ∧ wfC u ∧ shy S u) (fun (u : MS) (t : State) => qEC g ad A u t) A) ([.ref (ad 16), .int x1] : List Value).toArray s 0 0 A) (F0 m 131 ls []) := by
            intro n131
            induction n131 with
            | zero => intro U131 v131_1 v131_2 v131_3 v131_4 H locs ls h hsh hR hl; unfold w_X1_goThrough_L131 at h; exact h.elim
            | succ n131 ih_131 =>
              intro U131 v131_1 v131_2 v131_3 v131_4 H locs ls h hsh hR hl
              unfold w_X1_goThrough_L131 at h
              replace h := h hR.w
              refine lv_iload hx hb dX1_goThrough_131 (lv_at hl 4 rfl) ?_
              refine lv_if_le (tgt := 155) hx hb dX1_goThrough_133 (by decide) (fun c26 => ?_) (fun c26 => ?_)
              · replace h := h.1 (k_le rfl (by decide) c26)
                refine lv_aload_n hx hb dX1_goThrough_155 rfl (lv_at hl 0 rfl) ?_
                refine lv_aload_n hx hb dX1_goThrough_156 rfl (lv_at hl 0 rfl) ?_
                obtain ⟨hv28, h⟩ := h
                have hT_b27 : qT U131 (qO U131 16 8) = 49 := hR.w.ref hv28 (hR.w.2.1 _ finC_27).2.1
                refine va_get (D := rD g) (ci := 1) (v := .ref (ad (qO U131 16 8))) (C := RX1) (T := TX1) (N := 10) hx hb hts inX1 hown hR.K hR.P 16 (hR.at41 (hR.w.2.1 _ finC_27).2.1) rfl 8 (by decide) (hts _ kw_478) (fun _ h9 => h9) (congrArg (fun z => some (vf ad z)) hv28) dX1_goThrough_157 ?_
                refine lv_aload_n hx hb dX1_goThrough_160 rfl (lv_at hl 0 rfl) ?_
                obtain ⟨hv30, h⟩ := h
                have hT_b29 : qT U131 (qO U131 16 9) = 47 := hR.w.ref hv30 (hR.w.2.1 _ finC_27).2.1
                refine va_get (D := rD g) (ci := 1) (v := .ref (ad (qO U131 16 9))) (C := RX1) (T := TX1) (N := 10) hx hb hts inX1 hown hR.K hR.P 16 (hR.at41 (hR.w.2.1 _ finC_27).2.1) rfl 9 (by decide) (hts _ kw_479) (fun _ h9 => h9) (congrArg (fun z => some (vf ad z)) hv30) dX1_goThrough_161 ?_
                refine lv_iload_n hx hb dX1_goThrough_164 rfl (lv_at hl 1 rfl) ?_
                obtain ⟨hv31, h⟩ := h
                have hFc := cfree hR hA
                refine va_calli (va_runV (As := [.ref (ad (qO U131 16 9)), .int v131_1]) (rest := [.ref (ad 16)]) ⟨hx, hb, hml, hown, hts⟩ (rX10_gives l g ad H.size U131 (qO U131 16 8) (qO U131 16 9) v131_1 hR.w hT_b27 hT_b29 hv31) (cwV 2 hts (gd_V kw_540 kw_32 kw_33 kw_34 kw_31) rfl rfl rfl (by decide +kernel) ⟨Nat.le_of_ble_eq_true rfl, Nat.le_of_ble_eq_true rfl⟩) ⟨cblind, va_recv hR.K hR.P (ci := 9) (q0 := (qO U131 16 8)) rfl (hR.at49 hT_b27), fun U hU hW9 => cmk hU hW9 hR hex hE hFc⟩ rfl rfl hl.1 rfl (lv_room (Nat.le_of_ble_eq_true rfl)) dX1_goThrough_165 ⟨Nat.le_of_ble_eq_true rfl, Nat.le_of_ble_eq_true rfl⟩) hR.sS (fun q _ h => hFc q h) hFc (fun r32 u9 t9 H1 locs ht9 hvm9 hw9 hB9 hz9 hk9 hS => ?_)
                have hR : RepC g ad A s U131 H1 locs := hR.call ht9 hB9 hR.w hS hFc
                obtain rfl : r32 = (fX10_gives U131 (qO U131 16 8) (qO U131 16 9) v131_1) := hw9
                clear hB9 hz9 hk9 hvm9 ht9 hS
                generalize H1 = H at hR ⊢
                obtain ⟨a34, ea34⟩ : ∃ z, z = (fX10_gives U131 (qO U131 16 8) (qO U131 16 9) v131_1) := ⟨_, rfl⟩
                rw [← ea34]
                replace h := h a34 ea34
                obtain ⟨Q35, h0, h⟩ := h
                have hFc := cfree hR hA
                refine va_callv (va_runV (As := [.int a34]) (rest := []) ⟨hx, hb, hml, hown, hts⟩ (rX1_give l g ad H.size U131 a34 hR.w  Q35 h0) (cwV 1 hts (gd_V kw_541 kw_524 kw_525 kw_392 kw_523) rfl rfl rfl (by decide +kernel) ⟨Nat.le_of_ble_eq_true rfl, Nat.le_of_ble_eq_true rfl⟩) ⟨cblind, va_recv hR.K hR.P (ci := 1) (q0 := 16) rfl (hR.at41 (hR.w.2.1 _ finC_27).2.1), fun U hU hW9 => cmk hU hW9 hR hex hE hFc⟩ rfl rfl hl.1 rfl (lv_room (Nat.le_of_ble_eq_true rfl)) dX1_goThrough_168 ⟨Nat.le_of_ble_eq_true rfl, Nat.le_of_ble_eq_true rfl⟩) hR.sS (fun q _ h => hFc q h) hFc (fun  S36 t9 H1 locs ht9 hvm9 hw9 hB9 hz9 hk9 hS => ?_)
                obtain ⟨hq37, hw9, hs9⟩ := hw9
                have hR : RepC g ad A s S36 H1 locs := hR.call ht9 hB9 hw9 hS hFc
                have hsh := hsh.tr hs9
                replace h := h  S36 hq37 hw9 hs9
                clear hB9 hz9 hk9 hvm9 ht9 hw9 hs9 hS
                generalize H1 = H at hR ⊢
                refine lv_aload_n hx hb dX1_goThrough_171 rfl (lv_at hl 0 rfl) ?_
                refine lv_dup hx hb dX1_goThrough_172 rfl ?_
                refine va_get (D := rD g) (ci := 1) (v := .int (qI S36 16 6)) (C := RX1) (T := TX1) (N := 10) hx hb hts inX1 hown hR.K hR.P 16 (hR.at41 (hR.w.2.1 _ finC_27).2.1) rfl 6 (by decide) (hts _ kw_536) (fun _ h9 => h9) rfl dX1_goThrough_173 ?_
                have hz38 := hR.w.bit (b := 16) (j := 6) ((hR.w.2.1 _ finC_27).2.1) (by decide)
                refine lv_iload_n hx hb dX1_goThrough_176 rfl (lv_at hl 2 rfl) ?_
                refine lv_sipush (v := 172) hx hb dX1_goThrough_177 (by decide) ?_
                have J_213 : ∀ (U213 : MS) (t213_0 : Int32) (t213_1 : Int32) (H : Heap) (locs : List Loc) (ls : Array Slot), w_X1_goThrough_J213 Q U213 t213_0 t213_1 → (t213_0 = 0 ∨ t213_0 = 1) → shy S U213 → RepC g ad A s U213 H locs → lv_has ls 5 [] → W p l e (headSpec (wt yX1_goThrough cX1_goThrough 5 none) ({ frames := 4, cells := 0, slots := 0, locals := 86 })).room s m ([.ref (ad 16), .int x1] : List Value).toArray below meth c H locs 0 0 (MQ below (va_Qv (fun (u : MS) => Q u ∧ wfC u ∧ shy S u) (fun (u : MS) (t : State) => qEC g ad A u t) A) ([.ref (ad 16), .int x1] : List Value).toArray s 0 0 A) (F0 m 213 ls [.int t213_0, .int t213_1, .ref (ad 16)]) := by
                  intro U213 t213_0 t213_1 H locs ls h hz_t213_0 hsh hR hl
                  unfold w_X1_goThrough_J213 at h
                  replace h := h hR.w hz_t213_0
                  refine lv_ior hx hb dX1_goThrough_213 ?_
                  refine lv_topi (fun z39 ez39 => ?_)
                  obtain rfl : z39 = (t213_1 ||| t213_0) := ez39
                  obtain ⟨hv40, h⟩ := h
                  refine va_put (D := rD g) (ci := 1) (v := .int (t213_1 ||| t213_0)) (ty := .boolean) (C := RX1) (T := TX1) (N := 10) hx hb hts inX1 tyX1 tyX1_ok nmX1 hown hR.K hR.P hR.D hR.sS 16 (hR.at41 (hR.w.2.1 _ finC_27).2.1) rfl 6 (by decide) (hts _ kw_536) (fun _ h9 => h9) rfl (by decide +kernel) (nz hv40) (fz2 hv40) (Nat.le_of_ble_eq_true rfl) dX1_goThrough_214 (fun H locs hP hD hS => ?_)
                  have hTk9 : qT U213 16 = 41 := (hR.w.2.1 _ finC_27).2.1
                  have hR : RepC g ad A s (wI U213 16 6 (t213_1 ||| t213_0)) H locs := hR.pI41 (hR.w.2.1 _ finC_27).2.1 FX1_s6 (fun _ => hv40) hP hD hS
                  obtain ⟨S41, eS41⟩ : ∃ z, z = wI U213 16 6 (t213_1 ||| t213_0) := ⟨_, rfl⟩
                  rw [← eS41] at hR
                  replace h := h S41 eS41 hTk9 hR.w
                  have hsh : shy S S41 := by rw [eS41]; exact hsh
                  exact W.vret hx hb hr (fun t9 ht9 hW9 => ⟨⟨S41, rfl, ⟨h, hR.w, hsh⟩, ⟨by rw [ht9]; exact hR.P, hR.D⟩⟩, hR.sS.F ht9⟩) hR.sS.2.2 dX1_goThrough_217
                have J_212 : ∀ (U212 : MS) (t212_0 : Int32) (H : Heap) (locs : List Loc) (ls : Array Slot), w_X1_goThrough_J212 Q U212 t212_0 → shy S U212 → RepC g ad A s U212 H locs → lv_has ls 5 [] → W p l e (headSpec (wt yX1_goThrough cX1_goThrough 5 none) ({ frames := 4, cells := 0, slots := 0, locals := 86 })).room s m ([.ref (ad 16), .int x1] : List Value).toArray below meth c H locs 0 0 (MQ below (va_Qv (fun (u : MS) => Q u ∧ wfC u ∧ shy S u) (fun (u : MS) (t : State) => qEC g ad A u t) A) ([.ref (ad 16), .int x1] : List Value).toArray s 0 0 A) (F0 m 212 ls [.int t212_0, .ref (ad 16)]) := by
                  intro U212 t212_0 H locs ls h hsh hR hl
                  unfold w_X1_goThrough_J212 at h
                  replace h := h hR.w
                  refine lv_iconst (v := 0) hx hb dX1_goThrough_212 (by decide) ?_
                  exact J_213 U212 0 t212_0 _ _ ls h (Or.inl rfl) hsh hR (lv_sub hl [] rfl)
                refine lv_icmp_lt (tgt := 212) hx hb dX1_goThrough_180 (by decide) (fun c42 => ?_) (fun c42 => ?_)
                · replace h := h.1 (k_lt rfl (by decide) c42)
                  exact J_212 S36 (qI S36 16 6) _ _ ls h  hsh hR (lv_sub hl [] rfl)
                · replace h := h.2 (k_nlt rfl (by decide) c42)
                  refine lv_iload_n hx hb dX1_goThrough_183 rfl (lv_at hl 2 rfl) ?_
                  refine lv_sipush (v := 177) hx hb dX1_goThrough_184 (by decide) ?_
                  refine lv_icmp_gt (tgt := 212) hx hb dX1_goThrough_187 (by decide) (fun c43 => ?_) (fun c43 => ?_)
                  · replace h := h.1 (k_lt (by decide) rfl c43)
                    exact J_212 S36 (qI S36 16 6) _ _ ls h  hsh hR (lv_sub hl [] rfl)
                  · replace h := h.2 (k_nlt (by decide) rfl c43)
                    refine lv_iload_n hx hb dX1_goThrough_190 rfl (lv_at hl 3 rfl) ?_
                    refine lv_aload_n hx hb dX1_goThrough_191 rfl (lv_at hl 0 rfl) ?_
                    obtain ⟨hv45, h⟩ := h
                    have hT_b44 : qT S36 (qO S36 16 8) = 49 := hR.w.ref hv45 (hR.w.2.1 _ finC_27).2.1
                    refine va_get (D := rD g) (ci := 1) (v := .ref (ad (qO S36 16 8))) (C := RX1) (T := TX1) (N := 10) hx hb hts inX1 hown hR.K hR.P 16 (hR.at41 (hR.w.2.1 _ finC_27).2.1) rfl 8 (by decide) (hts _ kw_478) (fun _ h9 => h9) (congrArg (fun z => some (vf ad z)) hv45) dX1_goThrough_192 ?_
                    refine lv_aload_n hx hb dX1_goThrough_195 rfl (lv_at hl 0 rfl) ?_
                    obtain ⟨hv47, h⟩ := h
                    have hT_b46 : qT S36 (qO S36 16 9) = 47 := hR.w.ref hv47 (hR.w.2.1 _ finC_27).2.1
                    refine va_get (D := rD g) (ci := 1) (v := .ref (ad (qO S36 16 9))) (C := RX1) (T := TX1) (N := 10) hx hb hts inX1 hown hR.K hR.P 16 (hR.at41 (hR.w.2.1 _ finC_27).2.1) rfl 9 (by decide) (hts _ kw_479) (fun _ h9 => h9) (congrArg (fun z => some (vf ad z)) hv47) dX1_goThrough_196 ?_
                    refine va_get (D := rD g) (ci := 7) (v := .int (qI S36 (qO S36 16 9) 11)) (C := RX8) (T := TX8) (N := 15) hx hb hts inX8 hown hR.K hR.P (qO S36 16 9) (hR.at47 hT_b46) rfl 11 (by decide) (hts _ kw_480) (fun _ h9 => h9) rfl dX1_goThrough_199 ?_
                    obtain ⟨hv48, h⟩ := h
                    have hFc := cfree hR hA
                    refine va_calli (va_runV (As := [.int (qI S36 (qO S36 16 9) 11)]) (rest := [.int v131_3, .int (qI S36 16 6), .ref (ad 16)]) ⟨hx, hb, hml, hown, hts⟩ (rX10_givesOfMethod l g ad H.size S36 (qO S36 16 8) (qI S36 (qO S36 16 9) 11) hR.w hT_b44 hv48) (cwV 1 hts (gd_V kw_542 kw_41 kw_42 kw_34 kw_40) rfl rfl rfl (by decide +kernel) ⟨Nat.le_of_ble_eq_true rfl, Nat.le_of_ble_eq_true rfl⟩) ⟨cblind, va_recv hR.K hR.P (ci := 9) (q0 := (qO S36 16 8)) rfl (hR.at49 hT_b44), fun U hU hW9 => cmk hU hW9 hR hex hE hFc⟩ rfl rfl hl.1 rfl (lv_room (Nat.le_of_ble_eq_true rfl)) dX1_goThrough_202 ⟨Nat.le_of_ble_eq_true rfl, Nat.le_of_ble_eq_true rfl⟩) hR.sS (fun q _ h => hFc q h) hFc (fun r49 u9 t9 H1 locs ht9 hvm9 hw9 hB9 hz9 hk9 hS => ?_)
                    have hR : RepC g ad A s S36 H1 locs := hR.call ht9 hB9 hR.w hS hFc
                    obtain rfl : r49 = (fX10_givesOfMethod S36 (qO S36 16 8) (qI S36 (qO S36 16 9) 11)) := hw9
                    clear hB9 hz9 hk9 hvm9 ht9 hS
                    generalize H1 = H at hR ⊢
                    obtain ⟨a51, ea51⟩ : ∃ z, z = (fX10_givesOfMethod S36 (qO S36 16 8) (qI S36 (qO S36 16 9) 11)) := ⟨_, rfl⟩
                    rw [← ea51]
                    replace h := h a51 ea51
                    refine lv_icmp_eq (tgt := 212) hx hb dX1_goThrough_205 (by decide) (fun c52 => ?_) (fun c52 => ?_)
                    · replace h := h.1 (k_eq rfl rfl c52)
                      exact J_212 S36 (qI S36 16 6) _ _ ls h  hsh hR (lv_sub hl [] rfl)
                    · replace h := h.2 (k_ne rfl rfl c52)
                      refine lv_iconst (v := 1) hx hb dX1_goThrough_208 (by decide) ?_
                      refine lv_goto (tgt := 213) hx hb dX1_goThrough_209 (by decide) ?_
                      exact J_213 S36 1 (qI S36 16 6) _ _ ls h (Or.inr rfl) hsh hR (lv_sub hl [] rfl)
              · replace h := h.2 (k_nle rfl (by decide) c26)
                refine lv_aload_n hx hb dX1_goThrough_136 rfl (lv_at hl 0 rfl) ?_
                refine lv_iload hx hb dX1_goThrough_137 (lv_at hl 4 rfl) ?_
                refine lv_bipush (v := 15) hx hb dX1_goThrough_139 (by decide) ?_
                refine lv_iand hx hb dX1_goThrough_141 ?_
                refine lv_topi (fun z53 ez53 => ?_)
                obtain rfl : z53 = (v131_4 &&& (15 : Int32)) := ez53
                obtain ⟨Q54, h0, h⟩ := h
                have hFc := cfree hR hA
                refine va_calli (va_runV (As := [.int (v131_4 &&& (15 : Int32))]) (rest := []) ⟨hx, hb, hml, hown, hts⟩ (rX1_take l g ad H.size U131 (v131_4 &&& (15 : Int32)) hR.w  Q54 h0) (cwV 1 hts (gd_V kw_539 kw_601 kw_602 kw_392 kw_600) rfl rfl rfl (by decide +kernel) ⟨Nat.le_of_ble_eq_true rfl, Nat.le_of_ble_eq_true rfl⟩) ⟨cblind, va_recv hR.K hR.P (ci := 1) (q0 := 16) rfl (hR.at41 (hR.w.2.1 _ finC_27).2.1), fun U hU hW9 => cmk hU hW9 hR hex hE hFc⟩ rfl rfl hl.1 rfl (lv_room (Nat.le_of_ble_eq_true rfl)) dX1_goThrough_142 ⟨Nat.le_of_ble_eq_true rfl, Nat.le_of_ble_eq_true rfl⟩) hR.sS (fun q _ h => hFc q h) hFc (fun r55 S56 t9 H1 locs ht9 hvm9 hw9 hB9 hz9 hk9 hS => ?_)
                obtain ⟨hq57, hw9, hs9⟩ := hw9
                have hR : RepC g ad A s S56 H1 locs := hR.call ht9 hB9 hw9 hS hFc
                have hsh := hsh.tr hs9
                replace h := h r55 S56 hq57 hw9 hs9
                clear hB9 hz9 hk9 hvm9 ht9 hw9 hs9 hS
                generalize H1 = H at hR ⊢
                refine lv_pop hx hb dX1_goThrough_145 rfl ?_
                refine lv_iload hx hb dX1_goThrough_146 (lv_at hl 4 rfl) ?_
                refine lv_iconst (v := 4) hx hb dX1_goThrough_148 (by decide) ?_
                refine lv_ishr hx hb dX1_goThrough_149 ?_
                refine lv_topi (fun z58 ez58 => ?_)
                obtain rfl : z58 = (v131_4 >>> ((4 : Int32) &&& 31)) := ez58
                obtain ⟨a59, ea59⟩ : ∃ z, z = (v131_4 >>> ((4 : Int32) &&& 31)) := ⟨_, rfl⟩
                rw [← ea59]
                replace h := h a59 ea59
                refine lv_istore (lv' := [(4, .int a59), (0, .ref (ad 16)), (1, .int v131_1), (2, .int v131_2), (3, .int v131_3)]) hx hb dX1_goThrough_150 hl (by decide) rfl (fun ls hl => ?_)
                refine lv_goto (tgt := 131) hx hb dX1_goThrough_152 (by decide) ?_
                exact ih_131 S56 v131_1 v131_2 v131_3 a59 _ _ ls h  hsh hR (lv_sub hl [1, 2, 3, 4, 0] rfl)
          obtain ⟨n9, h⟩ := h
          exact J_131 n9 U29 v29_1 v29_2 a25 a25 _ _ ls h  hsh hR (lv_sub hl [2, 3, 4, 1, 0] rfl)
        · replace h := h.1 (k_eq rfl (by decide) c17)
          refine lv_aload_n hx hb dX1_goThrough_82 rfl (lv_at hl 0 rfl) ?_
          refine lv_dup hx hb dX1_goThrough_83 rfl ?_
          refine va_get (D := rD g) (ci := 1) (v := .int (qI U29 16 6)) (C := RX1) (T := TX1) (N := 10) hx hb hts inX1 hown hR.K hR.P 16 (hR.at41 (hR.w.2.1 _ finC_27).2.1) rfl 6 (by decide) (hts _ kw_536) (fun _ h9 => h9) rfl dX1_goThrough_84 ?_
          have hz60 := hR.w.bit (b := 16) (j := 6) ((hR.w.2.1 _ finC_27).2.1) (by decide)
          refine lv_aload_n hx hb dX1_goThrough_87 rfl (lv_at hl 0 rfl) ?_
          refine lv_aload_n hx hb dX1_goThrough_88 rfl (lv_at hl 0 rfl) ?_
          obtain ⟨hv62, h⟩ := h
          have hT_b61 : qT U29 (qO U29 16 9) = 47 := hR.w.ref hv62 (hR.w.2.1 _ finC_27).2.1
          refine va_get (D := rD g) (ci := 1) (v := .ref (ad (qO U29 16 9))) (C := RX1) (T := TX1) (N := 10) hx hb hts inX1 hown hR.K hR.P 16 (hR.at41 (hR.w.2.1 _ finC_27).2.1) rfl 9 (by decide) (hts _ kw_479) (fun _ h9 => h9) (congrArg (fun z => some (vf ad z)) hv62) dX1_goThrough_89 ?_
          refine lv_iload_n hx hb dX1_goThrough_92 rfl (lv_at hl 1 rfl) ?_
          obtain ⟨hv63, h⟩ := h
          have hFc := cfree hR hA
          refine va_calli (va_runV (As := [.int v29_1]) (rest := [.ref (ad 16), .int (qI U29 16 6), .ref (ad 16)]) ⟨hx, hb, hml, hown, hts⟩ (rX8_localOf l g ad H.size U29 (qO U29 16 9) v29_1 hR.w hT_b61 hv63) (cwV 1 hts (gd_V kw_532 kw_1509 kw_1510 kw_782 kw_1508) rfl rfl rfl (by decide +kernel) ⟨Nat.le_of_ble_eq_true rfl, Nat.le_of_ble_eq_true rfl⟩) ⟨cblind, va_recv hR.K hR.P (ci := 7) (q0 := (qO U29 16 9)) rfl (hR.at47 hT_b61), fun U hU hW9 => cmk hU hW9 hR hex hE hFc⟩ rfl rfl hl.1 rfl (lv_room (Nat.le_of_ble_eq_true rfl)) dX1_goThrough_93 ⟨Nat.le_of_ble_eq_true rfl, Nat.le_of_ble_eq_true rfl⟩) hR.sS (fun q _ h => hFc q h) hFc (fun r64 u9 t9 H1 locs ht9 hvm9 hw9 hB9 hz9 hk9 hS => ?_)
          have hR : RepC g ad A s U29 H1 locs := hR.call ht9 hB9 hR.w hS hFc
          obtain rfl : r64 = (fX8_localOf U29 (qO U29 16 9) v29_1) := hw9
          clear hB9 hz9 hk9 hvm9 ht9 hS
          generalize H1 = H at hR ⊢
          obtain ⟨a66, ea66⟩ : ∃ z, z = (fX8_localOf U29 (qO U29 16 9) v29_1) := ⟨_, rfl⟩
          rw [← ea66]
          replace h := h a66 ea66
          obtain ⟨hv67, h⟩ := h
          have hFc := cfree hR hA
          refine va_calli (va_runV (As := [.int a66]) (rest := [.int (qI U29 16 6), .ref (ad 16)]) ⟨hx, hb, hml, hown, hts⟩ (rX1_placeAt l g ad H.size U29 a66 hR.w  hv67) (cwV 1 hts (gd_V kw_537 kw_579 kw_580 kw_392 kw_578) rfl rfl rfl (by decide +kernel) ⟨Nat.le_of_ble_eq_true rfl, Nat.le_of_ble_eq_true rfl⟩) ⟨cblind, va_recv hR.K hR.P (ci := 1) (q0 := 16) rfl (hR.at41 (hR.w.2.1 _ finC_27).2.1), fun U hU hW9 => cmk hU hW9 hR hex hE hFc⟩ rfl rfl hl.1 rfl (lv_room (Nat.le_of_ble_eq_true rfl)) dX1_goThrough_96 ⟨Nat.le_of_ble_eq_true rfl, Nat.le_of_ble_eq_true rfl⟩) hR.sS (fun q _ h => hFc q h) hFc (fun r68 u9 t9 H1 locs ht9 hvm9 hw9 hB9 hz9 hk9 hS => ?_)
          have hR : RepC g ad A s U29 H1 locs := hR.call ht9 hB9 hR.w hS hFc
          obtain rfl : r68 = (fX1_placeAt U29 a66) := hw9
          clear hB9 hz9 hk9 hvm9 ht9 hS
          generalize H1 = H at hR ⊢
          obtain ⟨a70, ea70⟩ : ∃ z, z = (fX1_placeAt U29 a66) := ⟨_, rfl⟩
          rw [← ea70]
          replace h := h a70 ea70
          refine lv_iconst (v := 1) hx hb dX1_goThrough_99 (by decide) ?_
          have J_108 : ∀ (U108 : MS) (t108_0 : Int32) (t108_1 : Int32) (H : Heap) (locs : List Loc) (ls : Array Slot), w_X1_goThrough_J108 Q U108 t108_0 t108_1 → (t108_0 = 0 ∨ t108_0 = 1) → shy S U108 → RepC g ad A s U108 H locs → lv_has ls 5 [] → W p l e (headSpec (wt yX1_goThrough cX1_goThrough 5 none) ({ frames := 4, cells := 0, slots := 0, locals := 86 })).room s m ([.ref (ad 16), .int x1] : List Value).toArray below meth c H locs 0 0 (MQ below (va_Qv (fun (u : MS) => Q u ∧ wfC u ∧ shy S u) (fun (u : MS) (t : State) => qEC g ad A u t) A) ([.ref (ad 16), .int x1] : List Value).toArray s 0 0 A) (F0 m 108 ls [.int t108_0, .int t108_1, .ref (ad 16)]) := by
            intro U108 t108_0 t108_1 H locs ls h hz_t108_0 hsh hR hl
            unfold w_X1_goThrough_J108 at h
            replace h := h hR.w hz_t108_0
            refine lv_ior hx hb dX1_goThrough_108 ?_
            refine lv_topi (fun z71 ez71 => ?_)
            obtain rfl : z71 = (t108_1 ||| t108_0) := ez71
            obtain ⟨hv72, h⟩ := h
            refine va_put (D := rD g) (ci := 1) (v := .int (t108_1 ||| t108_0)) (ty := .boolean) (C := RX1) (T := TX1) (N := 10) hx hb hts inX1 tyX1 tyX1_ok nmX1 hown hR.K hR.P hR.D hR.sS 16 (hR.at41 (hR.w.2.1 _ finC_27).2.1) rfl 6 (by decide) (hts _ kw_536) (fun _ h9 => h9) rfl (by decide +kernel) (nz hv72) (fz2 hv72) (Nat.le_of_ble_eq_true rfl) dX1_goThrough_109 (fun H locs hP hD hS => ?_)
            have hTk9 : qT U108 16 = 41 := (hR.w.2.1 _ finC_27).2.1
            have hR : RepC g ad A s (wI U108 16 6 (t108_1 ||| t108_0)) H locs := hR.pI41 (hR.w.2.1 _ finC_27).2.1 FX1_s6 (fun _ => hv72) hP hD hS
            obtain ⟨S73, eS73⟩ : ∃ z, z = wI U108 16 6 (t108_1 ||| t108_0) := ⟨_, rfl⟩
            rw [← eS73] at hR
            replace h := h S73 eS73 hTk9 hR.w
            have hsh : shy S S73 := by rw [eS73]; exact hsh
            refine lv_goto (tgt := 217) hx hb dX1_goThrough_112 (by decide) ?_
            exact W.vret hx hb hr (fun t9 ht9 hW9 => ⟨⟨S73, rfl, ⟨h, hR.w, hsh⟩, ⟨by rw [ht9]; exact hR.P, hR.D⟩⟩, hR.sS.F ht9⟩) hR.sS.2.2 dX1_goThrough_217
          refine lv_icmp_eq (tgt := 107) hx hb dX1_goThrough_100 (by decide) (fun c74 => ?_) (fun c74 => ?_)
          · replace h := h.1 (k_eq rfl (by decide) c74)
            refine lv_iconst (v := 0) hx hb dX1_goThrough_107 (by decide) ?_
            exact J_108 U29 0 (qI U29 16 6) _ _ ls h (Or.inl rfl) hsh hR (lv_sub hl [] rfl)
          · replace h := h.2 (k_ne rfl (by decide) c74)
            refine lv_iconst (v := 1) hx hb dX1_goThrough_103 (by decide) ?_
            refine lv_goto (tgt := 108) hx hb dX1_goThrough_104 (by decide) ?_
            exact J_108 U29 1 (qI U29 16 6) _ _ ls h (Or.inr rfl) hsh hR (lv_sub hl [] rfl)
      · replace h := h.2 (k_ne rfl (by decide) c16)
        refine lv_aload_n hx hb dX1_goThrough_59 rfl (lv_at hl 0 rfl) ?_
        refine lv_iload_n hx hb dX1_goThrough_60 rfl (lv_at hl 2 rfl) ?_
        refine lv_aload_n hx hb dX1_goThrough_61 rfl (lv_at hl 0 rfl) ?_
        obtain ⟨hv76, h⟩ := h
        have hT_b75 : qT U29 (qO U29 16 9) = 47 := hR.w.ref hv76 (hR.w.2.1 _ finC_27).2.1
        refine va_get (D := rD g) (ci := 1) (v := .ref (ad (qO U29 16 9))) (C := RX1) (T := TX1) (N := 10) hx hb hts inX1 hown hR.K hR.P 16 (hR.at41 (hR.w.2.1 _ finC_27).2.1) rfl 9 (by decide) (hts _ kw_479) (fun _ h9 => h9) (congrArg (fun z => some (vf ad z)) hv76) dX1_goThrough_62 ?_
        refine lv_iload_n hx hb dX1_goThrough_65 rfl (lv_at hl 1 rfl) ?_
        obtain ⟨hv77, h⟩ := h
        have hFc := cfree hR hA
        refine va_calli (va_runV (As := [.int v29_1]) (rest := [.int v29_2, .ref (ad 16)]) ⟨hx, hb, hml, hown, hts⟩ (rX8_localOf l g ad H.size U29 (qO U29 16 9) v29_1 hR.w hT_b75 hv77) (cwV 1 hts (gd_V kw_532 kw_1509 kw_1510 kw_782 kw_1508) rfl rfl rfl (by decide +kernel) ⟨Nat.le_of_ble_eq_true rfl, Nat.le_of_ble_eq_true rfl⟩) ⟨cblind, va_recv hR.K hR.P (ci := 7) (q0 := (qO U29 16 9)) rfl (hR.at47 hT_b75), fun U hU hW9 => cmk hU hW9 hR hex hE hFc⟩ rfl rfl hl.1 rfl (lv_room (Nat.le_of_ble_eq_true rfl)) dX1_goThrough_66 ⟨Nat.le_of_ble_eq_true rfl, Nat.le_of_ble_eq_true rfl⟩) hR.sS (fun q _ h => hFc q h) hFc (fun r78 u9 t9 H1 locs ht9 hvm9 hw9 hB9 hz9 hk9 hS => ?_)
        have hR : RepC g ad A s U29 H1 locs := hR.call ht9 hB9 hR.w hS hFc
        obtain rfl : r78 = (fX8_localOf U29 (qO U29 16 9) v29_1) := hw9
        clear hB9 hz9 hk9 hvm9 ht9 hS
        generalize H1 = H at hR ⊢
        obtain ⟨a80, ea80⟩ : ∃ z, z = (fX8_localOf U29 (qO U29 16 9) v29_1) := ⟨_, rfl⟩
        rw [← ea80]
        replace h := h a80 ea80
        obtain ⟨Q81, h0, h⟩ := h
        have hFc := cfree hR hA
        refine va_callv (va_runV (As := [.int v29_2, .int a80]) (rest := []) ⟨hx, hb, hml, hown, hts⟩ (rX1_store l g ad H.size U29 v29_2 a80 hR.w  Q81 h0) (cwV 2 hts (gd_V kw_535 kw_596 kw_597 kw_392 kw_595) rfl rfl rfl (by decide +kernel) ⟨Nat.le_of_ble_eq_true rfl, Nat.le_of_ble_eq_true rfl⟩) ⟨cblind, va_recv hR.K hR.P (ci := 1) (q0 := 16) rfl (hR.at41 (hR.w.2.1 _ finC_27).2.1), fun U hU hW9 => cmk hU hW9 hR hex hE hFc⟩ rfl rfl hl.1 rfl (lv_room (Nat.le_of_ble_eq_true rfl)) dX1_goThrough_69 ⟨Nat.le_of_ble_eq_true rfl, Nat.le_of_ble_eq_true rfl⟩) hR.sS (fun q _ h => hFc q h) hFc (fun  S82 t9 H1 locs ht9 hvm9 hw9 hB9 hz9 hk9 hS => ?_)
        obtain ⟨hq83, hw9, hs9⟩ := hw9
        have hR : RepC g ad A s S82 H1 locs := hR.call ht9 hB9 hw9 hS hFc
        have hsh := hsh.tr hs9
        replace h := h  S82 hq83 hw9 hs9
        clear hB9 hz9 hk9 hvm9 ht9 hw9 hs9 hS
        generalize H1 = H at hR ⊢
        refine lv_goto (tgt := 217) hx hb dX1_goThrough_72 (by decide) ?_
        exact W.vret hx hb hr (fun t9 ht9 hW9 => ⟨⟨S82, rfl, ⟨h, hR.w, hsh⟩, ⟨by rw [ht9]; exact hR.P, hR.D⟩⟩, hR.sS.F ht9⟩) hR.sS.2.2 dX1_goThrough_217
    · replace h := h.2 (k_ne rfl (by decide) c11)
      refine lv_aload_n hx hb dX1_goThrough_36 rfl (lv_at hl 0 rfl) ?_
      refine lv_iload_n hx hb dX1_goThrough_37 rfl (lv_at hl 2 rfl) ?_
      refine lv_aload_n hx hb dX1_goThrough_38 rfl (lv_at hl 0 rfl) ?_
      obtain ⟨hv85, h⟩ := h
      have hT_b84 : qT U29 (qO U29 16 9) = 47 := hR.w.ref hv85 (hR.w.2.1 _ finC_27).2.1
      refine va_get (D := rD g) (ci := 1) (v := .ref (ad (qO U29 16 9))) (C := RX1) (T := TX1) (N := 10) hx hb hts inX1 hown hR.K hR.P 16 (hR.at41 (hR.w.2.1 _ finC_27).2.1) rfl 9 (by decide) (hts _ kw_479) (fun _ h9 => h9) (congrArg (fun z => some (vf ad z)) hv85) dX1_goThrough_39 ?_
      refine lv_iload_n hx hb dX1_goThrough_42 rfl (lv_at hl 1 rfl) ?_
      obtain ⟨hv86, h⟩ := h
      have hFc := cfree hR hA
      refine va_calli (va_runV (As := [.int v29_1]) (rest := [.int v29_2, .ref (ad 16)]) ⟨hx, hb, hml, hown, hts⟩ (rX8_localOf l g ad H.size U29 (qO U29 16 9) v29_1 hR.w hT_b84 hv86) (cwV 1 hts (gd_V kw_532 kw_1509 kw_1510 kw_782 kw_1508) rfl rfl rfl (by decide +kernel) ⟨Nat.le_of_ble_eq_true rfl, Nat.le_of_ble_eq_true rfl⟩) ⟨cblind, va_recv hR.K hR.P (ci := 7) (q0 := (qO U29 16 9)) rfl (hR.at47 hT_b84), fun U hU hW9 => cmk hU hW9 hR hex hE hFc⟩ rfl rfl hl.1 rfl (lv_room (Nat.le_of_ble_eq_true rfl)) dX1_goThrough_43 ⟨Nat.le_of_ble_eq_true rfl, Nat.le_of_ble_eq_true rfl⟩) hR.sS (fun q _ h => hFc q h) hFc (fun r87 u9 t9 H1 locs ht9 hvm9 hw9 hB9 hz9 hk9 hS => ?_)
      have hR : RepC g ad A s U29 H1 locs := hR.call ht9 hB9 hR.w hS hFc
      obtain rfl : r87 = (fX8_localOf U29 (qO U29 16 9) v29_1) := hw9
      clear hB9 hz9 hk9 hvm9 ht9 hS
      generalize H1 = H at hR ⊢
      obtain ⟨a89, ea89⟩ : ∃ z, z = (fX8_localOf U29 (qO U29 16 9) v29_1) := ⟨_, rfl⟩
      rw [← ea89]
      replace h := h a89 ea89
      obtain ⟨Q90, h0, h⟩ := h
      have hFc := cfree hR hA
      refine va_callv (va_runV (As := [.int v29_2, .int a89]) (rest := []) ⟨hx, hb, hml, hown, hts⟩ (rX1_load l g ad H.size U29 v29_2 a89 hR.w  Q90 h0) (cwV 2 hts (gd_V kw_533 kw_569 kw_570 kw_392 kw_568) rfl rfl rfl (by decide +kernel) ⟨Nat.le_of_ble_eq_true rfl, Nat.le_of_ble_eq_true rfl⟩) ⟨cblind, va_recv hR.K hR.P (ci := 1) (q0 := 16) rfl (hR.at41 (hR.w.2.1 _ finC_27).2.1), fun U hU hW9 => cmk hU hW9 hR hex hE hFc⟩ rfl rfl hl.1 rfl (lv_room (Nat.le_of_ble_eq_true rfl)) dX1_goThrough_46 ⟨Nat.le_of_ble_eq_true rfl, Nat.le_of_ble_eq_true rfl⟩) hR.sS (fun q _ h => hFc q h) hFc (fun  S91 t9 H1 locs ht9 hvm9 hw9 hB9 hz9 hk9 hS => ?_)
      obtain ⟨hq92, hw9, hs9⟩ := hw9
      have hR : RepC g ad A s S91 H1 locs := hR.call ht9 hB9 hw9 hS hFc
      have hsh := hsh.tr hs9
      replace h := h  S91 hq92 hw9 hs9
      clear hB9 hz9 hk9 hvm9 ht9 hw9 hs9 hS
      generalize H1 = H at hR ⊢
      refine lv_goto (tgt := 217) hx hb dX1_goThrough_49 (by decide) ?_
      exact W.vret hx hb hr (fun t9 ht9 hW9 => ⟨⟨S91, rfl, ⟨h, hR.w, hsh⟩, ⟨by rw [ht9]; exact hR.P, hR.D⟩⟩, hR.sS.F ht9⟩) hR.sS.2.2 dX1_goThrough_217
  refine lv_icmp_lt (tgt := 29) hx hb dX1_goThrough_12 (by decide) (fun c93 => ?_) (fun c93 => ?_)
  · replace h := h.1 (k_lt rfl (by decide) c93)
    exact J_29 S x1 a6 _ _ ls h  hsh hR (lv_sub hl [1, 2, 0] rfl)
  · replace h := h.2 (k_nlt rfl (by decide) c93)
    refine lv_iload_n hx hb dX1_goThrough_15 rfl (lv_at hl 0 rfl) ?_
    refine lv_bipush (v := 95) hx hb dX1_goThrough_16 (by decide) ?_
    refine lv_icmp_gt (tgt := 29) hx hb dX1_goThrough_18 (by decide) (fun c94 => ?_) (fun c94 => ?_)
    · replace h := h.1 (k_lt (by decide) rfl c94)
      exact J_29 S x1 a6 _ _ ls h  hsh hR (lv_sub hl [1, 2, 0] rfl)
    · replace h := h.2 (k_nlt (by decide) rfl c94)
      refine lv_aload_n hx hb dX1_goThrough_21 rfl (lv_at hl 1 rfl) ?_
      refine lv_iload_n hx hb dX1_goThrough_22 rfl (lv_at hl 0 rfl) ?_
      obtain ⟨Q95, h0, h⟩ := h
      have hFc := cfree hR hA
      refine va_callv (va_runV (As := [.int a6]) (rest := []) ⟨hx, hb, hml, hown, hts⟩ (rX1_shuffle l g ad H.size S a6 hR.w  Q95 h0) (cwV 1 hts (gd_V kw_530 kw_591 kw_592 kw_392 kw_590) rfl rfl rfl (by decide +kernel) ⟨Nat.le_of_ble_eq_true rfl, Nat.le_of_ble_eq_true rfl⟩) ⟨cblind, va_recv hR.K hR.P (ci := 1) (q0 := 16) rfl (hR.at41 (hR.w.2.1 _ finC_27).2.1), fun U hU hW9 => cmk hU hW9 hR hex hE hFc⟩ rfl rfl hl.1 rfl (lv_room (Nat.le_of_ble_eq_true rfl)) dX1_goThrough_23 ⟨Nat.le_of_ble_eq_true rfl, Nat.le_of_ble_eq_true rfl⟩) hR.sS (fun q _ h => hFc q h) hFc (fun  S96 t9 H1 locs ht9 hvm9 hw9 hB9 hz9 hk9 hS => ?_)
      obtain ⟨hq97, hw9, hs9⟩ := hw9
      have hR : RepC g ad A s S96 H1 locs := hR.call ht9 hB9 hw9 hS hFc
      have hsh := hsh.tr hs9
      replace h := h  S96 hq97 hw9 hs9
      clear hB9 hz9 hk9 hvm9 ht9 hw9 hs9 hS
      generalize H1 = H at hR ⊢
      refine lv_goto (tgt := 217) hx hb dX1_goThrough_26 (by decide) ?_
      exact W.vret hx hb hr (fun t9 ht9 hW9 => ⟨⟨S96, rfl, ⟨h, hR.w, hsh⟩, ⟨by rw [ht9]; exact hR.P, hR.D⟩⟩, hR.sS.F ht9⟩) hR.sS.2.2 dX1_goThrough_217
def w_X2_headHolds_J89 (Q : Int32 → MS → Prop) (U89 : MS) (v89_1 : Int32) : Prop := (wfC U89 → (∃ Q14, wX7_breaks U89 (13 : Int32) (v89_1 + (2 : Int32)) Q14 ∧ ∀ r15 S16, Q14 r15 S16 → wfC S16 → shy U89 S16 → Q r15 S16))
def w_X2_headHolds_J149 (Q : Int32 → MS → Prop) (U149 : MS) (v149_1 : Int32) : Prop := (wfC U149 → (∃ Q33, wX7_breaks U149 (13 : Int32) (v149_1 + (4 : Int32)) Q33 ∧ ∀ r34 S35, Q33 r34 S35 → wfC S35 → shy U149 S35 → Q r34 S35))
def wX2_headHolds (S : MS) (x1 : Int32) (x2 : Int32) (x3 : Int32) (Q : Int32 → MS → Prop) : Prop := (((x1 + (2 : Int32)).toInt ≤ x2.toInt → (d_X7_u2 S x1 ∧ (((fX7_u2 S x1).toInt ≤ 24 → (((x1 + (4 : Int32)).toInt ≤ x2.toInt → (d_X7_u2 S (x1 + (2 : Int32)) ∧ ((24 < (fX7_u2 S (x1 + (2 : Int32))).toInt → w_X2_headHolds_J89 Q S x1) ∧ (¬ 24 < (fX7_u2 S (x1 + (2 : Int32))).toInt → (d_X7_u2 S (x1 + (2 : Int32)) ∧ ((x3.toInt ≤ (fX7_u2 S (x1 + (2 : Int32))).toInt → (((x1 + (8 : Int32)).toInt ≤ x2.toInt → (d_X7_u4 S (x1 + (4 : Int32)) ∧ (∀ a30 : Int64, a30 = (fX7_u4 S (x1 + (4 : Int32))) → (((lg_cmp a30 1).toInt < 0 → w_X2_headHolds_J149 Q S x1) ∧ (¬ (lg_cmp a30 1).toInt < 0 → (((lg_cmp a30 (1200 : Int64)).toInt ≤ 0 → (∃ Q42, wX2_catchesHold S ((x1 + (8 : Int32)) + (a30.toInt32)) x2 Q42 ∧ ∀ r43 S44, Q42 r43 S44 → wfC S44 → shy S S44 → Q r43 S44)) ∧ (¬ (lg_cmp a30 (1200 : Int64)).toInt ≤ 0 → w_X2_headHolds_J149 Q S x1))))))) ∧ (¬ (x1 + (8 : Int32)).toInt ≤ x2.toInt → (∃ Q46, wX7_breaks S (14 : Int32) x2 Q46 ∧ ∀ r47 S48, Q46 r47 S48 → wfC S48 → shy S S48 → Q r47 S48)))) ∧ (¬ x3.toInt ≤ (fX7_u2 S (x1 + (2 : Int32))).toInt → w_X2_headHolds_J89 Q S x1))))))) ∧ (¬ (x1 + (4 : Int32)).toInt ≤ x2.toInt → (∃ Q50, wX7_breaks S (14 : Int32) x2 Q50 ∧ ∀ r51 S52, Q50 r51 S52 → wfC S52 → shy S S52 → Q r51 S52)))) ∧ (¬ (fX7_u2 S x1).toInt ≤ 24 → (∃ Q54, wX7_breaks S (13 : Int32) x1 Q54 ∧ ∀ r55 S56, Q54 r55 S56 → wfC S56 → shy S S56 → Q r55 S56))))) ∧ (¬ (x1 + (2 : Int32)).toInt ≤ x2.toInt → (∃ Q58, wX7_breaks S (14 : Int32) x2 Q58 ∧ ∀ r59 S60, Q58 r59 S60 → wfC S60 → shy S S60 → Q r59 S60)))
set_option maxHeartbeats 2000000 in
set_option maxRecDepth 100000 in
theorem rX2_headHolds (l : Launch) (g : Gr) (ad : Nat → Nat) (sz : Nat) (S : MS) (x1 : Int32) (x2 : Int32) (x3 : Int32) (hw : wfC S) (Q : Int32 → MS → Prop) (h : wX2_headHolds S x1 x2 x3 Q) : Met l yX2_headHolds (wt yX2_headHolds cX2_headHolds 6 (some .boolean)) ({ frames := 3, cells := 0, slots := 0, locals := 68 }) (va_Pc [.ref (ad 8), .int x1, .int x2, .int x3] (st_C g ad sz S)) (va_Qi (fun (r : Int32) (u : MS) => Q r u ∧ wfC u ∧ shy S u ∧ (r = 0 ∨ r = 1)) (fun (u : MS) (t : State) => qEC g ad (va_A (WdC g ad S) sz) u t) (va_A (WdC g ad S) sz)) 0 0 (va_A (WdC g ad S) sz) := by
  refine Met.ofW (cc := cX2_headHolds) (maxL := 6) (ret := (some .boolean)) (by decide) rfl ?_
  intro p e s m args below meth c s₁ B hml hv
  obtain ⟨rfl, hsz, hP, hK, hD0, hex, hE⟩ := hv
  have hx := B.exec
  have hb := B.bytes
  have hr := B.returns
  have hts0 := atoms_spec (ws := wt yX2_headHolds cX2_headHolds 6 (some .boolean)) B.pre
  have hts : ∀ w ∈ tb, w.before _ s = true := fun w h => hts0 w (List.mem_cons_of_mem _ h)
  have hown : s.vm.findClass RX2 = some m.cls := findClass_of_methodNamed B.named
  subst hsz
  have hD := hD0.self (sz := s.heap.size)
  generalize hAe : va_A (WdC g ad S) s.heap.size = A at hD hE ⊢
  have hA : ∀ q : Nat, s.heap.size ≤ q → A q := fun q h => by rw [← hAe]; exact Or.inr h
  have hR : RepC g ad A s S s.heap [] := ⟨hK, hP, hD, va_S.rf, hw⟩
  clear hK hP hD hD0
  have hl := lv_entry ([.ref (ad 8), .int x1, .int x2, .int x3]) (n := 6) (Nat.le_of_ble_eq_true rfl)
  rw [lg_entry_eq]
  generalize (lg_sl ([.ref (ad 8), .int x1, .int x2, .int x3]) ++ List.replicate (6 - (lg_sl ([.ref (ad 8), .int x1, .int x2, .int x3])).length) Slot.unset).toArray = ls at hl ⊢
  have hl : lv_has ls 6 [(0, .ref (ad 8)), (1, .int x1), (2, .int x2), (3, .int x3)] := hl
  have hsh : shy S S := shy.rf
  unfold wX2_headHolds at h
  refine lv_iload_n hx hb dX2_headHolds_0 rfl (lv_at hl 1 rfl) ?_
  refine lv_iconst (v := 2) hx hb dX2_headHolds_1 (by decide) ?_
  refine lv_iadd hx hb dX2_headHolds_2 ?_
  refine lv_topi (fun z1 ez1 => ?_)
  obtain rfl : z1 = (x1 + (2 : Int32)) := ez1
  refine lv_iload_n hx hb dX2_headHolds_3 rfl (lv_at hl 2 rfl) ?_
  refine lv_icmp_le (tgt := 18) hx hb dX2_headHolds_4 (by decide) (fun c2 => ?_) (fun c2 => ?_)
  · replace h := h.1 (k_le rfl rfl c2)
    refine lv_aload_n hx hb dX2_headHolds_18 rfl (lv_at hl 0 rfl) ?_
    refine va_get (D := rD g) (ci := 2) (v := .ref (ad 9)) (C := RX2) (T := TX2) (N := 12) hx hb hts inX2 hown hR.K hR.P 8 (hR.at42 (hR.w.2.1 _ finC_26).2.1) rfl 0 (by decide) (hts _ kw_632) (fun _ h9 => h9) (congrArg (fun z => some (vf ad z)) (hR.w.2.1 _ finC_2).1) dX2_headHolds_19 ?_
    refine lv_iload_n hx hb dX2_headHolds_22 rfl (lv_at hl 1 rfl) ?_
    obtain ⟨hv3, h⟩ := h
    have hFc := cfree hR hA
    refine va_calli (va_runV (As := [.int x1]) (rest := []) ⟨hx, hb, hml, hown, hts⟩ (rX7_u2 l g ad s.heap.size S x1 hR.w  hv3) (cwV 1 hts (gd_V kw_651 kw_1450 kw_1451 kw_710 kw_1449) rfl rfl rfl (by decide +kernel) ⟨Nat.le_of_ble_eq_true rfl, Nat.le_of_ble_eq_true rfl⟩) ⟨cblind, va_recv hR.K hR.P (ci := 6) (q0 := 9) rfl (hR.at46 (hR.w.2.1 _ finC_2).2.1), fun U hU hW9 => cmk hU hW9 hR hex hE hFc⟩ rfl rfl hl.1 rfl (lv_room (Nat.le_of_ble_eq_true rfl)) dX2_headHolds_23 ⟨Nat.le_of_ble_eq_true rfl, Nat.le_of_ble_eq_true rfl⟩) hR.sS (fun q _ h => hFc q h) hFc (fun r4 u9 t9 H1 locs ht9 hvm9 hw9 hB9 hz9 hk9 hS => ?_)
    have hR : RepC g ad A s S H1 locs := hR.call ht9 hB9 hR.w hS hFc
    obtain rfl : r4 = (fX7_u2 S x1) := hw9
    clear hB9 hz9 hk9 hvm9 ht9 hS
    generalize H1 = H at hR ⊢
    refine lv_bipush (v := 24) hx hb dX2_headHolds_26 (by decide) ?_
    refine lv_icmp_le (tgt := 42) hx hb dX2_headHolds_28 (by decide) (fun c6 => ?_) (fun c6 => ?_)
    · replace h := h.1 (k_le rfl (by decide) c6)
      refine lv_iload_n hx hb dX2_headHolds_42 rfl (lv_at hl 1 rfl) ?_
      refine lv_iconst (v := 4) hx hb dX2_headHolds_43 (by decide) ?_
      refine lv_iadd hx hb dX2_headHolds_44 ?_
      refine lv_topi (fun z7 ez7 => ?_)
      obtain rfl : z7 = (x1 + (4 : Int32)) := ez7
      refine lv_iload_n hx hb dX2_headHolds_45 rfl (lv_at hl 2 rfl) ?_
      refine lv_icmp_le (tgt := 60) hx hb dX2_headHolds_46 (by decide) (fun c8 => ?_) (fun c8 => ?_)
      · replace h := h.1 (k_le rfl rfl c8)
        refine lv_aload_n hx hb dX2_headHolds_60 rfl (lv_at hl 0 rfl) ?_
        refine va_get (D := rD g) (ci := 2) (v := .ref (ad 9)) (C := RX2) (T := TX2) (N := 12) hx hb hts inX2 hown hR.K hR.P 8 (hR.at42 (hR.w.2.1 _ finC_26).2.1) rfl 0 (by decide) (hts _ kw_632) (fun _ h9 => h9) (congrArg (fun z => some (vf ad z)) (hR.w.2.1 _ finC_2).1) dX2_headHolds_61 ?_
        refine lv_iload_n hx hb dX2_headHolds_64 rfl (lv_at hl 1 rfl) ?_
        refine lv_iconst (v := 2) hx hb dX2_headHolds_65 (by decide) ?_
        refine lv_iadd hx hb dX2_headHolds_66 ?_
        refine lv_topi (fun z9 ez9 => ?_)
        obtain rfl : z9 = (x1 + (2 : Int32)) := ez9
        obtain ⟨hv10, h⟩ := h
        have hFc := cfree hR hA
        refine va_calli (va_runV (As := [.int (x1 + (2 : Int32))]) (rest := []) ⟨hx, hb, hml, hown, hts⟩ (rX7_u2 l g ad H.size S (x1 + (2 : Int32)) hR.w  hv10) (cwV 1 hts (gd_V kw_651 kw_1450 kw_1451 kw_710 kw_1449) rfl rfl rfl (by decide +kernel) ⟨Nat.le_of_ble_eq_true rfl, Nat.le_of_ble_eq_true rfl⟩) ⟨cblind, va_recv hR.K hR.P (ci := 6) (q0 := 9) rfl (hR.at46 (hR.w.2.1 _ finC_2).2.1), fun U hU hW9 => cmk hU hW9 hR hex hE hFc⟩ rfl rfl hl.1 rfl (lv_room (Nat.le_of_ble_eq_true rfl)) dX2_headHolds_67 ⟨Nat.le_of_ble_eq_true rfl, Nat.le_of_ble_eq_true rfl⟩) hR.sS (fun q _ h => hFc q h) hFc (fun r11 u9 t9 H1 locs ht9 hvm9 hw9 hB9 hz9 hk9 hS => ?_)
        have hR : RepC g ad A s S H1 locs := hR.call ht9 hB9 hR.w hS hFc
        obtain rfl : r11 = (fX7_u2 S (x1 + (2 : Int32))) := hw9
        clear hB9 hz9 hk9 hvm9 ht9 hS
        generalize H1 = H at hR ⊢
        refine lv_bipush (v := 24) hx hb dX2_headHolds_70 (by decide) ?_
        have J_89 : ∀ (U89 : MS) (v89_1 : Int32) (H : Heap) (locs : List Loc) (ls : Array Slot), w_X2_headHolds_J89 Q U89 v89_1 → shy S U89 → RepC g ad A s U89 H locs → lv_has ls 6 [(0, .ref (ad 8)), (1, .int v89_1)] → W p l e (headSpec (wt yX2_headHolds cX2_headHolds 6 (some .boolean)) ({ frames := 3, cells := 0, slots := 0, locals := 68 })).room s m ([.ref (ad 8), .int x1, .int x2, .int x3] : List Value).toArray below meth c H locs 0 0 (MQ below (va_Qi (fun (r : Int32) (u : MS) => Q r u ∧ wfC u ∧ shy S u ∧ (r = 0 ∨ r = 1)) (fun (u : MS) (t : State) => qEC g ad A u t) A) ([.ref (ad 8), .int x1, .int x2, .int x3] : List Value).toArray s 0 0 A) (F0 m 89 ls []) := by
          intro U89 v89_1 H locs ls h hsh hR hl
          unfold w_X2_headHolds_J89 at h
          replace h := h hR.w
          refine lv_aload_n hx hb dX2_headHolds_89 rfl (lv_at hl 0 rfl) ?_
          refine va_get (D := rD g) (ci := 2) (v := .ref (ad 9)) (C := RX2) (T := TX2) (N := 12) hx hb hts inX2 hown hR.K hR.P 8 (hR.at42 (hR.w.2.1 _ finC_26).2.1) rfl 0 (by decide) (hts _ kw_632) (fun _ h9 => h9) (congrArg (fun z => some (vf ad z)) (hR.w.2.1 _ finC_2).1) dX2_headHolds_90 ?_
          refine lv_bipush (v := 13) hx hb dX2_headHolds_93 (by decide) ?_
          refine lv_iload_n hx hb dX2_headHolds_95 rfl (lv_at hl 1 rfl) ?_
          refine lv_iconst (v := 2) hx hb dX2_headHolds_96 (by decide) ?_
          refine lv_iadd hx hb dX2_headHolds_97 ?_
          refine lv_topi (fun z13 ez13 => ?_)
          obtain rfl : z13 = (v89_1 + (2 : Int32)) := ez13
          obtain ⟨Q14, h0, h⟩ := h
          have hFc := cfree hR hA
          refine va_calli (va_runV (As := [.int 13, .int (v89_1 + (2 : Int32))]) (rest := []) ⟨hx, hb, hml, hown, hts⟩ (rX7_breaks l g ad H.size U89 (13 : Int32) (v89_1 + (2 : Int32)) hR.w  Q14 h0) (cwV 2 hts (gd_V kw_677 kw_1278 kw_1279 kw_710 kw_1277) rfl rfl rfl (by decide +kernel) ⟨Nat.le_of_ble_eq_true rfl, Nat.le_of_ble_eq_true rfl⟩) ⟨cblind, va_recv hR.K hR.P (ci := 6) (q0 := 9) rfl (hR.at46 (hR.w.2.1 _ finC_2).2.1), fun U hU hW9 => cmk hU hW9 hR hex hE hFc⟩ rfl rfl hl.1 rfl (lv_room (Nat.le_of_ble_eq_true rfl)) dX2_headHolds_98 ⟨Nat.le_of_ble_eq_true rfl, Nat.le_of_ble_eq_true rfl⟩) hR.sS (fun q _ h => hFc q h) hFc (fun r15 S16 t9 H1 locs ht9 hvm9 hw9 hB9 hz9 hk9 hS => ?_)
          obtain ⟨hq17, hw9, hs9, hz_r15⟩ := hw9
          have hR : RepC g ad A s S16 H1 locs := hR.call ht9 hB9 hw9 hS hFc
          have hsh := hsh.tr hs9
          replace h := h r15 S16 hq17 hw9 hs9
          clear hB9 hz9 hk9 hvm9 ht9 hw9 hs9 hS
          generalize H1 = H at hR ⊢
          exact W.zret (v := r15) hx hb hr (nz hz_r15) (fun t9 ht9 hW9 => ⟨⟨_, S16, rfl, ⟨h, hR.w, hsh, hz_r15⟩, ⟨by rw [ht9]; exact hR.P, hR.D⟩⟩, hR.sS.F ht9⟩) hR.sS.2.2 dX2_headHolds_101
        refine lv_icmp_gt (tgt := 89) hx hb dX2_headHolds_72 (by decide) (fun c18 => ?_) (fun c18 => ?_)
        · replace h := h.1 (k_lt (by decide) rfl c18)
          exact J_89 S x1 _ _ ls h  hsh hR (lv_sub hl [0, 1] rfl)
        · replace h := h.2 (k_nlt (by decide) rfl c18)
          refine lv_aload_n hx hb dX2_headHolds_75 rfl (lv_at hl 0 rfl) ?_
          refine va_get (D := rD g) (ci := 2) (v := .ref (ad 9)) (C := RX2) (T := TX2) (N := 12) hx hb hts inX2 hown hR.K hR.P 8 (hR.at42 (hR.w.2.1 _ finC_26).2.1) rfl 0 (by decide) (hts _ kw_632) (fun _ h9 => h9) (congrArg (fun z => some (vf ad z)) (hR.w.2.1 _ finC_2).1) dX2_headHolds_76 ?_
          refine lv_iload_n hx hb dX2_headHolds_79 rfl (lv_at hl 1 rfl) ?_
          refine lv_iconst (v := 2) hx hb dX2_headHolds_80 (by decide) ?_
          refine lv_iadd hx hb dX2_headHolds_81 ?_
          refine lv_topi (fun z19 ez19 => ?_)
          obtain rfl : z19 = (x1 + (2 : Int32)) := ez19
          obtain ⟨hv20, h⟩ := h
          have hFc := cfree hR hA
          refine va_calli (va_runV (As := [.int (x1 + (2 : Int32))]) (rest := []) ⟨hx, hb, hml, hown, hts⟩ (rX7_u2 l g ad H.size S (x1 + (2 : Int32)) hR.w  hv20) (cwV 1 hts (gd_V kw_651 kw_1450 kw_1451 kw_710 kw_1449) rfl rfl rfl (by decide +kernel) ⟨Nat.le_of_ble_eq_true rfl, Nat.le_of_ble_eq_true rfl⟩) ⟨cblind, va_recv hR.K hR.P (ci := 6) (q0 := 9) rfl (hR.at46 (hR.w.2.1 _ finC_2).2.1), fun U hU hW9 => cmk hU hW9 hR hex hE hFc⟩ rfl rfl hl.1 rfl (lv_room (Nat.le_of_ble_eq_true rfl)) dX2_headHolds_82 ⟨Nat.le_of_ble_eq_true rfl, Nat.le_of_ble_eq_true rfl⟩) hR.sS (fun q _ h => hFc q h) hFc (fun r21 u9 t9 H1 locs ht9 hvm9 hw9 hB9 hz9 hk9 hS => ?_)
          have hR : RepC g ad A s S H1 locs := hR.call ht9 hB9 hR.w hS hFc
          obtain rfl : r21 = (fX7_u2 S (x1 + (2 : Int32))) := hw9
          clear hB9 hz9 hk9 hvm9 ht9 hS
          generalize H1 = H at hR ⊢
          refine lv_iload_n hx hb dX2_headHolds_85 rfl (lv_at hl 3 rfl) ?_
          refine lv_icmp_ge (tgt := 102) hx hb dX2_headHolds_86 (by decide) (fun c23 => ?_) (fun c23 => ?_)
          · replace h := h.1 (k_le rfl rfl c23)
            refine lv_iload_n hx hb dX2_headHolds_102 rfl (lv_at hl 1 rfl) ?_
            refine lv_bipush (v := 8) hx hb dX2_headHolds_103 (by decide) ?_
            refine lv_iadd hx hb dX2_headHolds_105 ?_
            refine lv_topi (fun z24 ez24 => ?_)
            obtain rfl : z24 = (x1 + (8 : Int32)) := ez24
            refine lv_iload_n hx hb dX2_headHolds_106 rfl (lv_at hl 2 rfl) ?_
            refine lv_icmp_le (tgt := 121) hx hb dX2_headHolds_107 (by decide) (fun c25 => ?_) (fun c25 => ?_)
            · replace h := h.1 (k_le rfl rfl c25)
              refine lv_aload_n hx hb dX2_headHolds_121 rfl (lv_at hl 0 rfl) ?_
              refine va_get (D := rD g) (ci := 2) (v := .ref (ad 9)) (C := RX2) (T := TX2) (N := 12) hx hb hts inX2 hown hR.K hR.P 8 (hR.at42 (hR.w.2.1 _ finC_26).2.1) rfl 0 (by decide) (hts _ kw_632) (fun _ h9 => h9) (congrArg (fun z => some (vf ad z)) (hR.w.2.1 _ finC_2).1) dX2_headHolds_122 ?_
              refine lv_iload_n hx hb dX2_headHolds_125 rfl (lv_at hl 1 rfl) ?_
              refine lv_iconst (v := 4) hx hb dX2_headHolds_126 (by decide) ?_
              refine lv_iadd hx hb dX2_headHolds_127 ?_
              refine lv_topi (fun z26 ez26 => ?_)
              obtain rfl : z26 = (x1 + (4 : Int32)) := ez26
              obtain ⟨hv27, h⟩ := h
              have hFc := cfree hR hA
              refine va_calll (va_runV (As := [.int (x1 + (4 : Int32))]) (rest := []) ⟨hx, hb, hml, hown, hts⟩ (rX7_u4 l g ad H.size S (x1 + (4 : Int32)) hR.w  hv27) (cwV 1 hts (gd_V kw_678 kw_1453 kw_1454 kw_710 kw_1452) rfl rfl rfl (by decide +kernel) ⟨Nat.le_of_ble_eq_true rfl, Nat.le_of_ble_eq_true rfl⟩) ⟨cblind, va_recv hR.K hR.P (ci := 6) (q0 := 9) rfl (hR.at46 (hR.w.2.1 _ finC_2).2.1), fun U hU hW9 => cmk hU hW9 hR hex hE hFc⟩ rfl rfl hl.1 rfl (lv_room (Nat.le_of_ble_eq_true rfl)) dX2_headHolds_128 ⟨Nat.le_of_ble_eq_true rfl, Nat.le_of_ble_eq_true rfl⟩) hR.sS (fun q _ h => hFc q h) hFc (fun r28 u9 t9 H1 locs ht9 hvm9 hw9 hB9 hz9 hk9 hS => ?_)
              have hR : RepC g ad A s S H1 locs := hR.call ht9 hB9 hR.w hS hFc
              obtain rfl : r28 = (fX7_u4 S (x1 + (4 : Int32))) := hw9
              clear hB9 hz9 hk9 hvm9 ht9 hS
              generalize H1 = H at hR ⊢
              obtain ⟨a30, ea30⟩ : ∃ z, z = (fX7_u4 S (x1 + (4 : Int32))) := ⟨_, rfl⟩
              rw [← ea30]
              replace h := h a30 ea30
              refine lv_lstore (lv' := [(4, .long a30), (0, .ref (ad 8)), (1, .int x1), (2, .int x2), (3, .int x3)]) hx hb dX2_headHolds_131 hl (by decide) rfl (fun ls hl => ?_)
              refine lv_lload hx hb dX2_headHolds_133 (lv_at hl 0 rfl) ?_
              refine lv_lconst (v := 1) hx hb dX2_headHolds_135 (by decide) ?_
              refine W.lcmp hx hb dX2_headHolds_136 ?_
              refine lv_topi (fun z31 ez31 => ?_)
              obtain rfl : z31 = (lg_cmp a30 1) := ez31
              have J_149 : ∀ (U149 : MS) (v149_1 : Int32) (H : Heap) (locs : List Loc) (ls : Array Slot), w_X2_headHolds_J149 Q U149 v149_1 → shy S U149 → RepC g ad A s U149 H locs → lv_has ls 6 [(0, .ref (ad 8)), (1, .int v149_1)] → W p l e (headSpec (wt yX2_headHolds cX2_headHolds 6 (some .boolean)) ({ frames := 3, cells := 0, slots := 0, locals := 68 })).room s m ([.ref (ad 8), .int x1, .int x2, .int x3] : List Value).toArray below meth c H locs 0 0 (MQ below (va_Qi (fun (r : Int32) (u : MS) => Q r u ∧ wfC u ∧ shy S u ∧ (r = 0 ∨ r = 1)) (fun (u : MS) (t : State) => qEC g ad A u t) A) ([.ref (ad 8), .int x1, .int x2, .int x3] : List Value).toArray s 0 0 A) (F0 m 149 ls []) := by
                intro U149 v149_1 H locs ls h hsh hR hl
                unfold w_X2_headHolds_J149 at h
                replace h := h hR.w
                refine lv_aload_n hx hb dX2_headHolds_149 rfl (lv_at hl 0 rfl) ?_
                refine va_get (D := rD g) (ci := 2) (v := .ref (ad 9)) (C := RX2) (T := TX2) (N := 12) hx hb hts inX2 hown hR.K hR.P 8 (hR.at42 (hR.w.2.1 _ finC_26).2.1) rfl 0 (by decide) (hts _ kw_632) (fun _ h9 => h9) (congrArg (fun z => some (vf ad z)) (hR.w.2.1 _ finC_2).1) dX2_headHolds_150 ?_
                refine lv_bipush (v := 13) hx hb dX2_headHolds_153 (by decide) ?_
                refine lv_iload_n hx hb dX2_headHolds_155 rfl (lv_at hl 1 rfl) ?_
                refine lv_iconst (v := 4) hx hb dX2_headHolds_156 (by decide) ?_
                refine lv_iadd hx hb dX2_headHolds_157 ?_
                refine lv_topi (fun z32 ez32 => ?_)
                obtain rfl : z32 = (v149_1 + (4 : Int32)) := ez32
                obtain ⟨Q33, h0, h⟩ := h
                have hFc := cfree hR hA
                refine va_calli (va_runV (As := [.int 13, .int (v149_1 + (4 : Int32))]) (rest := []) ⟨hx, hb, hml, hown, hts⟩ (rX7_breaks l g ad H.size U149 (13 : Int32) (v149_1 + (4 : Int32)) hR.w  Q33 h0) (cwV 2 hts (gd_V kw_677 kw_1278 kw_1279 kw_710 kw_1277) rfl rfl rfl (by decide +kernel) ⟨Nat.le_of_ble_eq_true rfl, Nat.le_of_ble_eq_true rfl⟩) ⟨cblind, va_recv hR.K hR.P (ci := 6) (q0 := 9) rfl (hR.at46 (hR.w.2.1 _ finC_2).2.1), fun U hU hW9 => cmk hU hW9 hR hex hE hFc⟩ rfl rfl hl.1 rfl (lv_room (Nat.le_of_ble_eq_true rfl)) dX2_headHolds_158 ⟨Nat.le_of_ble_eq_true rfl, Nat.le_of_ble_eq_true rfl⟩) hR.sS (fun q _ h => hFc q h) hFc (fun r34 S35 t9 H1 locs ht9 hvm9 hw9 hB9 hz9 hk9 hS => ?_)
                obtain ⟨hq36, hw9, hs9, hz_r34⟩ := hw9
                have hR : RepC g ad A s S35 H1 locs := hR.call ht9 hB9 hw9 hS hFc
                have hsh := hsh.tr hs9
                replace h := h r34 S35 hq36 hw9 hs9
                clear hB9 hz9 hk9 hvm9 ht9 hw9 hs9 hS
                generalize H1 = H at hR ⊢
                exact W.zret (v := r34) hx hb hr (nz hz_r34) (fun t9 ht9 hW9 => ⟨⟨_, S35, rfl, ⟨h, hR.w, hsh, hz_r34⟩, ⟨by rw [ht9]; exact hR.P, hR.D⟩⟩, hR.sS.F ht9⟩) hR.sS.2.2 dX2_headHolds_161
              refine lv_if_lt (tgt := 149) hx hb dX2_headHolds_137 (by decide) (fun c37 => ?_) (fun c37 => ?_)
              · replace h := h.1 (k_lt rfl (by decide) c37)
                exact J_149 S x1 _ _ ls h  hsh hR (lv_sub hl [1, 2] rfl)
              · replace h := h.2 (k_nlt rfl (by decide) c37)
                refine lv_lload hx hb dX2_headHolds_140 (lv_at hl 0 rfl) ?_
                refine lv_ldc2 hx hb hown (hts _ kw_703) dX2_headHolds_142 ?_
                refine W.lcmp hx hb dX2_headHolds_145 ?_
                refine lv_topi (fun z38 ez38 => ?_)
                obtain rfl : z38 = (lg_cmp a30 (1200 : Int64)) := ez38
                refine lv_if_le (tgt := 162) hx hb dX2_headHolds_146 (by decide) (fun c39 => ?_) (fun c39 => ?_)
                · replace h := h.1 (k_le rfl (by decide) c39)
                  refine lv_aload_n hx hb dX2_headHolds_162 rfl (lv_at hl 1 rfl) ?_
                  refine lv_iload_n hx hb dX2_headHolds_163 rfl (lv_at hl 2 rfl) ?_
                  refine lv_bipush (v := 8) hx hb dX2_headHolds_164 (by decide) ?_
                  refine lv_iadd hx hb dX2_headHolds_166 ?_
                  refine lv_topi (fun z40 ez40 => ?_)
                  obtain rfl : z40 = (x1 + (8 : Int32)) := ez40
                  refine lv_lload hx hb dX2_headHolds_167 (lv_at hl 0 rfl) ?_
                  refine lv_l2i (v := (a30.toInt32)) hx hb dX2_headHolds_169 rfl ?_
                  refine lv_iadd hx hb dX2_headHolds_170 ?_
                  refine lv_topi (fun z41 ez41 => ?_)
                  obtain rfl : z41 = ((x1 + (8 : Int32)) + (a30.toInt32)) := ez41
                  refine lv_iload_n hx hb dX2_headHolds_171 rfl (lv_at hl 3 rfl) ?_
                  obtain ⟨Q42, h0, h⟩ := h
                  have hFc := cfree hR hA
                  refine va_calli (va_runV (As := [.int ((x1 + (8 : Int32)) + (a30.toInt32)), .int x2]) (rest := []) ⟨hx, hb, hml, hown, hts⟩ (rX2_catchesHold l g ad H.size S ((x1 + (8 : Int32)) + (a30.toInt32)) x2 hR.w  Q42 h0) (cwV 2 hts (gd_V kw_704 kw_675 kw_676 kw_389 kw_674) rfl rfl rfl (by decide +kernel) ⟨Nat.le_of_ble_eq_true rfl, Nat.le_of_ble_eq_true rfl⟩) ⟨cblind, va_recv hR.K hR.P (ci := 2) (q0 := 8) rfl (hR.at42 (hR.w.2.1 _ finC_26).2.1), fun U hU hW9 => cmk hU hW9 hR hex hE hFc⟩ rfl rfl hl.1 rfl (lv_room (Nat.le_of_ble_eq_true rfl)) dX2_headHolds_172 ⟨Nat.le_of_ble_eq_true rfl, Nat.le_of_ble_eq_true rfl⟩) hR.sS (fun q _ h => hFc q h) hFc (fun r43 S44 t9 H1 locs ht9 hvm9 hw9 hB9 hz9 hk9 hS => ?_)
                  obtain ⟨hq45, hw9, hs9, hz_r43⟩ := hw9
                  have hR : RepC g ad A s S44 H1 locs := hR.call ht9 hB9 hw9 hS hFc
                  have hsh := hsh.tr hs9
                  replace h := h r43 S44 hq45 hw9 hs9
                  clear hB9 hz9 hk9 hvm9 ht9 hw9 hs9 hS
                  generalize H1 = H at hR ⊢
                  exact W.zret (v := r43) hx hb hr (nz hz_r43) (fun t9 ht9 hW9 => ⟨⟨_, S44, rfl, ⟨h, hR.w, hsh, hz_r43⟩, ⟨by rw [ht9]; exact hR.P, hR.D⟩⟩, hR.sS.F ht9⟩) hR.sS.2.2 dX2_headHolds_175
                · replace h := h.2 (k_nle rfl (by decide) c39)
                  exact J_149 S x1 _ _ ls h  hsh hR (lv_sub hl [1, 2] rfl)
            · replace h := h.2 (k_nle rfl rfl c25)
              refine lv_aload_n hx hb dX2_headHolds_110 rfl (lv_at hl 0 rfl) ?_
              refine va_get (D := rD g) (ci := 2) (v := .ref (ad 9)) (C := RX2) (T := TX2) (N := 12) hx hb hts inX2 hown hR.K hR.P 8 (hR.at42 (hR.w.2.1 _ finC_26).2.1) rfl 0 (by decide) (hts _ kw_632) (fun _ h9 => h9) (congrArg (fun z => some (vf ad z)) (hR.w.2.1 _ finC_2).1) dX2_headHolds_111 ?_
              refine lv_bipush (v := 14) hx hb dX2_headHolds_114 (by decide) ?_
              refine lv_iload_n hx hb dX2_headHolds_116 rfl (lv_at hl 2 rfl) ?_
              obtain ⟨Q46, h0, h⟩ := h
              have hFc := cfree hR hA
              refine va_calli (va_runV (As := [.int 14, .int x2]) (rest := []) ⟨hx, hb, hml, hown, hts⟩ (rX7_breaks l g ad H.size S (14 : Int32) x2 hR.w  Q46 h0) (cwV 2 hts (gd_V kw_677 kw_1278 kw_1279 kw_710 kw_1277) rfl rfl rfl (by decide +kernel) ⟨Nat.le_of_ble_eq_true rfl, Nat.le_of_ble_eq_true rfl⟩) ⟨cblind, va_recv hR.K hR.P (ci := 6) (q0 := 9) rfl (hR.at46 (hR.w.2.1 _ finC_2).2.1), fun U hU hW9 => cmk hU hW9 hR hex hE hFc⟩ rfl rfl hl.1 rfl (lv_room (Nat.le_of_ble_eq_true rfl)) dX2_headHolds_117 ⟨Nat.le_of_ble_eq_true rfl, Nat.le_of_ble_eq_true rfl⟩) hR.sS (fun q _ h => hFc q h) hFc (fun r47 S48 t9 H1 locs ht9 hvm9 hw9 hB9 hz9 hk9 hS => ?_)
              obtain ⟨hq49, hw9, hs9, hz_r47⟩ := hw9
              have hR : RepC g ad A s S48 H1 locs := hR.call ht9 hB9 hw9 hS hFc
              have hsh := hsh.tr hs9
              replace h := h r47 S48 hq49 hw9 hs9
              clear hB9 hz9 hk9 hvm9 ht9 hw9 hs9 hS
              generalize H1 = H at hR ⊢
              exact W.zret (v := r47) hx hb hr (nz hz_r47) (fun t9 ht9 hW9 => ⟨⟨_, S48, rfl, ⟨h, hR.w, hsh, hz_r47⟩, ⟨by rw [ht9]; exact hR.P, hR.D⟩⟩, hR.sS.F ht9⟩) hR.sS.2.2 dX2_headHolds_120
          · replace h := h.2 (k_nle rfl rfl c23)
            exact J_89 S x1 _ _ ls h  hsh hR (lv_sub hl [0, 1] rfl)
      · replace h := h.2 (k_nle rfl rfl c8)
        refine lv_aload_n hx hb dX2_headHolds_49 rfl (lv_at hl 0 rfl) ?_
        refine va_get (D := rD g) (ci := 2) (v := .ref (ad 9)) (C := RX2) (T := TX2) (N := 12) hx hb hts inX2 hown hR.K hR.P 8 (hR.at42 (hR.w.2.1 _ finC_26).2.1) rfl 0 (by decide) (hts _ kw_632) (fun _ h9 => h9) (congrArg (fun z => some (vf ad z)) (hR.w.2.1 _ finC_2).1) dX2_headHolds_50 ?_
        refine lv_bipush (v := 14) hx hb dX2_headHolds_53 (by decide) ?_
        refine lv_iload_n hx hb dX2_headHolds_55 rfl (lv_at hl 2 rfl) ?_
        obtain ⟨Q50, h0, h⟩ := h
        have hFc := cfree hR hA
        refine va_calli (va_runV (As := [.int 14, .int x2]) (rest := []) ⟨hx, hb, hml, hown, hts⟩ (rX7_breaks l g ad H.size S (14 : Int32) x2 hR.w  Q50 h0) (cwV 2 hts (gd_V kw_677 kw_1278 kw_1279 kw_710 kw_1277) rfl rfl rfl (by decide +kernel) ⟨Nat.le_of_ble_eq_true rfl, Nat.le_of_ble_eq_true rfl⟩) ⟨cblind, va_recv hR.K hR.P (ci := 6) (q0 := 9) rfl (hR.at46 (hR.w.2.1 _ finC_2).2.1), fun U hU hW9 => cmk hU hW9 hR hex hE hFc⟩ rfl rfl hl.1 rfl (lv_room (Nat.le_of_ble_eq_true rfl)) dX2_headHolds_56 ⟨Nat.le_of_ble_eq_true rfl, Nat.le_of_ble_eq_true rfl⟩) hR.sS (fun q _ h => hFc q h) hFc (fun r51 S52 t9 H1 locs ht9 hvm9 hw9 hB9 hz9 hk9 hS => ?_)
        obtain ⟨hq53, hw9, hs9, hz_r51⟩ := hw9
        have hR : RepC g ad A s S52 H1 locs := hR.call ht9 hB9 hw9 hS hFc
        have hsh := hsh.tr hs9
        replace h := h r51 S52 hq53 hw9 hs9
        clear hB9 hz9 hk9 hvm9 ht9 hw9 hs9 hS
        generalize H1 = H at hR ⊢
        exact W.zret (v := r51) hx hb hr (nz hz_r51) (fun t9 ht9 hW9 => ⟨⟨_, S52, rfl, ⟨h, hR.w, hsh, hz_r51⟩, ⟨by rw [ht9]; exact hR.P, hR.D⟩⟩, hR.sS.F ht9⟩) hR.sS.2.2 dX2_headHolds_59
    · replace h := h.2 (k_nle rfl (by decide) c6)
      refine lv_aload_n hx hb dX2_headHolds_31 rfl (lv_at hl 0 rfl) ?_
      refine va_get (D := rD g) (ci := 2) (v := .ref (ad 9)) (C := RX2) (T := TX2) (N := 12) hx hb hts inX2 hown hR.K hR.P 8 (hR.at42 (hR.w.2.1 _ finC_26).2.1) rfl 0 (by decide) (hts _ kw_632) (fun _ h9 => h9) (congrArg (fun z => some (vf ad z)) (hR.w.2.1 _ finC_2).1) dX2_headHolds_32 ?_
      refine lv_bipush (v := 13) hx hb dX2_headHolds_35 (by decide) ?_
      refine lv_iload_n hx hb dX2_headHolds_37 rfl (lv_at hl 1 rfl) ?_
      obtain ⟨Q54, h0, h⟩ := h
      have hFc := cfree hR hA
      refine va_calli (va_runV (As := [.int 13, .int x1]) (rest := []) ⟨hx, hb, hml, hown, hts⟩ (rX7_breaks l g ad H.size S (13 : Int32) x1 hR.w  Q54 h0) (cwV 2 hts (gd_V kw_677 kw_1278 kw_1279 kw_710 kw_1277) rfl rfl rfl (by decide +kernel) ⟨Nat.le_of_ble_eq_true rfl, Nat.le_of_ble_eq_true rfl⟩) ⟨cblind, va_recv hR.K hR.P (ci := 6) (q0 := 9) rfl (hR.at46 (hR.w.2.1 _ finC_2).2.1), fun U hU hW9 => cmk hU hW9 hR hex hE hFc⟩ rfl rfl hl.1 rfl (lv_room (Nat.le_of_ble_eq_true rfl)) dX2_headHolds_38 ⟨Nat.le_of_ble_eq_true rfl, Nat.le_of_ble_eq_true rfl⟩) hR.sS (fun q _ h => hFc q h) hFc (fun r55 S56 t9 H1 locs ht9 hvm9 hw9 hB9 hz9 hk9 hS => ?_)
      obtain ⟨hq57, hw9, hs9, hz_r55⟩ := hw9
      have hR : RepC g ad A s S56 H1 locs := hR.call ht9 hB9 hw9 hS hFc
      have hsh := hsh.tr hs9
      replace h := h r55 S56 hq57 hw9 hs9
      clear hB9 hz9 hk9 hvm9 ht9 hw9 hs9 hS
      generalize H1 = H at hR ⊢
      exact W.zret (v := r55) hx hb hr (nz hz_r55) (fun t9 ht9 hW9 => ⟨⟨_, S56, rfl, ⟨h, hR.w, hsh, hz_r55⟩, ⟨by rw [ht9]; exact hR.P, hR.D⟩⟩, hR.sS.F ht9⟩) hR.sS.2.2 dX2_headHolds_41
  · replace h := h.2 (k_nle rfl rfl c2)
    refine lv_aload_n hx hb dX2_headHolds_7 rfl (lv_at hl 0 rfl) ?_
    refine va_get (D := rD g) (ci := 2) (v := .ref (ad 9)) (C := RX2) (T := TX2) (N := 12) hx hb hts inX2 hown hR.K hR.P 8 (hR.at42 (hR.w.2.1 _ finC_26).2.1) rfl 0 (by decide) (hts _ kw_632) (fun _ h9 => h9) (congrArg (fun z => some (vf ad z)) (hR.w.2.1 _ finC_2).1) dX2_headHolds_8 ?_
    refine lv_bipush (v := 14) hx hb dX2_headHolds_11 (by decide) ?_
    refine lv_iload_n hx hb dX2_headHolds_13 rfl (lv_at hl 2 rfl) ?_
    obtain ⟨Q58, h0, h⟩ := h
    have hFc := cfree hR hA
    refine va_calli (va_runV (As := [.int 14, .int x2]) (rest := []) ⟨hx, hb, hml, hown, hts⟩ (rX7_breaks l g ad s.heap.size S (14 : Int32) x2 hR.w  Q58 h0) (cwV 2 hts (gd_V kw_677 kw_1278 kw_1279 kw_710 kw_1277) rfl rfl rfl (by decide +kernel) ⟨Nat.le_of_ble_eq_true rfl, Nat.le_of_ble_eq_true rfl⟩) ⟨cblind, va_recv hR.K hR.P (ci := 6) (q0 := 9) rfl (hR.at46 (hR.w.2.1 _ finC_2).2.1), fun U hU hW9 => cmk hU hW9 hR hex hE hFc⟩ rfl rfl hl.1 rfl (lv_room (Nat.le_of_ble_eq_true rfl)) dX2_headHolds_14 ⟨Nat.le_of_ble_eq_true rfl, Nat.le_of_ble_eq_true rfl⟩) hR.sS (fun q _ h => hFc q h) hFc (fun r59 S60 t9 H1 locs ht9 hvm9 hw9 hB9 hz9 hk9 hS => ?_)
    obtain ⟨hq61, hw9, hs9, hz_r59⟩ := hw9
    have hR : RepC g ad A s S60 H1 locs := hR.call ht9 hB9 hw9 hS hFc
    have hsh := hsh.tr hs9
    replace h := h r59 S60 hq61 hw9 hs9
    clear hB9 hz9 hk9 hvm9 ht9 hw9 hs9 hS
    generalize H1 = H at hR ⊢
    exact W.zret (v := r59) hx hb hr (nz hz_r59) (fun t9 ht9 hW9 => ⟨⟨_, S60, rfl, ⟨h, hR.w, hsh, hz_r59⟩, ⟨by rw [ht9]; exact hR.P, hR.D⟩⟩, hR.sS.F ht9⟩) hR.sS.2.2 dX2_headHolds_17
def w_X2_lengthAt_J110 (Q : Int32 → MS → Prop) (U110 : MS) (v110_1 : Int32) (v110_2 : Int32) : Prop := (wfC U110 → (((v110_1 + v110_2).toInt ≤ (qI U110 8 2).toInt → Q v110_2 U110) ∧ (¬ (v110_1 + v110_2).toInt ≤ (qI U110 8 2).toInt → Q (0 : Int32) U110)))
def w_X2_lengthAt_J97 (Q : Int32 → MS → Prop) (U97 : MS) (t97_0 : Int32) (v97_1 : Int32) : Prop := (wfC U97 → w_X2_lengthAt_J110 Q U97 v97_1 t97_0)
def wX2_lengthAt (S : MS) (x1 : Int32) (Q : Int32 → MS → Prop) : Prop := (d_X2_u1 S x1 ∧ (∀ a4 : Int32, a4 = (fX2_u1 S x1) → ((a4.toInt = 170 → (d_X2_tableLength S x1 ∧ (∀ a10 : Int32, a10 = (fX2_tableLength S x1) → w_X2_lengthAt_J110 Q S x1 a10))) ∧ (¬ a4.toInt = 170 → ((a4.toInt = 171 → (∃ Q11, wX2_lookupLength S x1 Q11 ∧ ∀ r12 S13, Q11 r12 S13 → wfC S13 → shy S S13 → w_X2_lengthAt_J110 Q S13 x1 r12)) ∧ (¬ a4.toInt = 171 → ((a4.toInt = 188 → (d_X2_u1 S (x1 + (1 : Int32)) ∧ (∀ a19 : Int32, a19 = (fX2_u1 S (x1 + (1 : Int32))) → ((a19.toInt = 10 → w_X2_lengthAt_J97 Q S 2 x1) ∧ (¬ a19.toInt = 10 → w_X2_lengthAt_J97 Q S 0 x1))))) ∧ (¬ a4.toInt = 188 → ((a4.toInt = 196 → (d_X2_u1 S (x1 + (1 : Int32)) ∧ (∀ a25 : Int32, a25 = (fX2_u1 S (x1 + (1 : Int32))) → (d_X2_wideLength S a25 ∧ (∀ a29 : Int32, a29 = (fX2_wideLength S a25) → w_X2_lengthAt_J110 Q S x1 a29))))) ∧ (¬ a4.toInt = 196 → (d_X2_u1 S x1 ∧ (∀ a33 : Int32, a33 = (fX2_u1 S x1) → (d_X6_lengthOf S a33 ∧ (∀ a37 : Int32, a37 = (fX6_lengthOf S a33) → w_X2_lengthAt_J110 Q S x1 a37))))))))))))))
set_option maxHeartbeats 2000000 in
set_option maxRecDepth 100000 in
theorem rX2_lengthAt (l : Launch) (g : Gr) (ad : Nat → Nat) (sz : Nat) (S : MS) (x1 : Int32) (hw : wfC S) (Q : Int32 → MS → Prop) (h : wX2_lengthAt S x1 Q) : Met l yX2_lengthAt (wt yX2_lengthAt cX2_lengthAt 3 (some .int)) ({ frames := 3, cells := 0, slots := 0, locals := 66 }) (va_Pc [.ref (ad 8), .int x1] (st_C g ad sz S)) (va_Qi (fun (r : Int32) (u : MS) => Q r u ∧ wfC u ∧ shy S u) (fun (u : MS) (t : State) => qEC g ad (va_A (WdC g ad S) sz) u t) (va_A (WdC g ad S) sz)) 0 0 (va_A (WdC g ad S) sz) := by
  refine Met.ofW (cc := cX2_lengthAt) (maxL := 3) (ret := (some .int)) (by decide) rfl ?_
  intro p e s m args below meth c s₁ B hml hv
  obtain ⟨rfl, hsz, hP, hK, hD0, hex, hE⟩ := hv
  have hx := B.exec
  have hb := B.bytes
  have hr := B.returns
  have hts0 := atoms_spec (ws := wt yX2_lengthAt cX2_lengthAt 3 (some .int)) B.pre
  have hts : ∀ w ∈ tb, w.before _ s = true := fun w h => hts0 w (List.mem_cons_of_mem _ h)
  have hown : s.vm.findClass RX2 = some m.cls := findClass_of_methodNamed B.named
  subst hsz
  have hD := hD0.self (sz := s.heap.size)
  generalize hAe : va_A (WdC g ad S) s.heap.size = A at hD hE ⊢
  have hA : ∀ q : Nat, s.heap.size ≤ q → A q := fun q h => by rw [← hAe]; exact Or.inr h
  have hR : RepC g ad A s S s.heap [] := ⟨hK, hP, hD, va_S.rf, hw⟩
  clear hK hP hD hD0
  have hl := lv_entry ([.ref (ad 8), .int x1]) (n := 3) (Nat.le_of_ble_eq_true rfl)
  rw [lg_entry_eq]
  generalize (lg_sl ([.ref (ad 8), .int x1]) ++ List.replicate (3 - (lg_sl ([.ref (ad 8), .int x1])).length) Slot.unset).toArray = ls at hl ⊢
  have hl : lv_has ls 3 [(0, .ref (ad 8)), (1, .int x1)] := hl
  have hsh : shy S S := shy.rf
  unfold wX2_lengthAt at h
  refine lv_aload_n hx hb dX2_lengthAt_0 rfl (lv_at hl 0 rfl) ?_
  refine lv_iload_n hx hb dX2_lengthAt_1 rfl (lv_at hl 1 rfl) ?_
  obtain ⟨hv1, h⟩ := h
  have hFc := cfree hR hA
  refine va_calli (va_runV (As := [.int x1]) (rest := []) ⟨hx, hb, hml, hown, hts⟩ (rX2_u1 l g ad s.heap.size S x1 hR.w  hv1) (cwV 1 hts (gd_V kw_682 kw_812 kw_813 kw_389 kw_811) rfl rfl rfl (by decide +kernel) ⟨Nat.le_of_ble_eq_true rfl, Nat.le_of_ble_eq_true rfl⟩) ⟨cblind, va_recv hR.K hR.P (ci := 2) (q0 := 8) rfl (hR.at42 (hR.w.2.1 _ finC_26).2.1), fun U hU hW9 => cmk hU hW9 hR hex hE hFc⟩ rfl rfl hl.1 rfl (lv_room (Nat.le_of_ble_eq_true rfl)) dX2_lengthAt_2 ⟨Nat.le_of_ble_eq_true rfl, Nat.le_of_ble_eq_true rfl⟩) hR.sS (fun q _ h => hFc q h) hFc (fun r2 u9 t9 H1 locs ht9 hvm9 hw9 hB9 hz9 hk9 hS => ?_)
  have hR : RepC g ad A s S H1 locs := hR.call ht9 hB9 hR.w hS hFc
  obtain rfl : r2 = (fX2_u1 S x1) := hw9
  clear hB9 hz9 hk9 hvm9 ht9 hS
  generalize H1 = H at hR ⊢
  obtain ⟨a4, ea4⟩ : ∃ z, z = (fX2_u1 S x1) := ⟨_, rfl⟩
  rw [← ea4]
  replace h := h a4 ea4
  have J_110 : ∀ (U110 : MS) (v110_1 : Int32) (v110_2 : Int32) (H : Heap) (locs : List Loc) (ls : Array Slot), w_X2_lengthAt_J110 Q U110 v110_1 v110_2 → shy S U110 → RepC g ad A s U110 H locs → lv_has ls 3 [(0, .ref (ad 8)), (1, .int v110_1), (2, .int v110_2)] → W p l e (headSpec (wt yX2_lengthAt cX2_lengthAt 3 (some .int)) ({ frames := 3, cells := 0, slots := 0, locals := 66 })).room s m ([.ref (ad 8), .int x1] : List Value).toArray below meth c H locs 0 0 (MQ below (va_Qi (fun (r : Int32) (u : MS) => Q r u ∧ wfC u ∧ shy S u) (fun (u : MS) (t : State) => qEC g ad A u t) A) ([.ref (ad 8), .int x1] : List Value).toArray s 0 0 A) (F0 m 110 ls []) := by
    intro U110 v110_1 v110_2 H locs ls h hsh hR hl
    unfold w_X2_lengthAt_J110 at h
    replace h := h hR.w
    refine lv_iload_n hx hb dX2_lengthAt_110 rfl (lv_at hl 1 rfl) ?_
    refine lv_iload_n hx hb dX2_lengthAt_111 rfl (lv_at hl 2 rfl) ?_
    refine lv_iadd hx hb dX2_lengthAt_112 ?_
    refine lv_topi (fun z5 ez5 => ?_)
    obtain rfl : z5 = (v110_1 + v110_2) := ez5
    refine lv_aload_n hx hb dX2_lengthAt_113 rfl (lv_at hl 0 rfl) ?_
    refine va_get (D := rD g) (ci := 2) (v := .int (qI U110 8 2)) (C := RX2) (T := TX2) (N := 12) hx hb hts inX2 hown hR.K hR.P 8 (hR.at42 (hR.w.2.1 _ finC_26).2.1) rfl 2 (by decide) (hts _ kw_716) (fun _ h9 => h9) rfl dX2_lengthAt_114 ?_
    refine lv_icmp_le (tgt := 124) hx hb dX2_lengthAt_117 (by decide) (fun c6 => ?_) (fun c6 => ?_)
    · replace h := h.1 (k_le rfl rfl c6)
      refine lv_iload_n hx hb dX2_lengthAt_124 rfl (lv_at hl 2 rfl) ?_
      exact W.iret (v := v110_2) hx hb hr (fun t9 ht9 hW9 => ⟨⟨_, U110, rfl, ⟨h, hR.w, hsh⟩, ⟨by rw [ht9]; exact hR.P, hR.D⟩⟩, hR.sS.F ht9⟩) hR.sS.2.2 dX2_lengthAt_125
    · replace h := h.2 (k_nle rfl rfl c6)
      refine lv_iconst (v := 0) hx hb dX2_lengthAt_120 (by decide) ?_
      refine lv_goto (tgt := 125) hx hb dX2_lengthAt_121 (by decide) ?_
      exact W.iret (v := 0) hx hb hr (fun t9 ht9 hW9 => ⟨⟨_, U110, rfl, ⟨h, hR.w, hsh⟩, ⟨by rw [ht9]; exact hR.P, hR.D⟩⟩, hR.sS.F ht9⟩) hR.sS.2.2 dX2_lengthAt_125
  by_cases c9_170 : a4.toInt = 170
  · refine lv_lookup (off := 43) (tgt := 48) hx hb dX2_lengthAt_5 (by decide) (by rw [c9_170]; decide) (by decide) ?_
    replace h := h.1 (c9_170)
    refine lv_aload_n hx hb dX2_lengthAt_48 rfl (lv_at hl 0 rfl) ?_
    refine lv_iload_n hx hb dX2_lengthAt_49 rfl (lv_at hl 1 rfl) ?_
    obtain ⟨hv7, h⟩ := h
    have hFc := cfree hR hA
    refine va_calli (va_runV (As := [.int x1]) (rest := []) ⟨hx, hb, hml, hown, hts⟩ (rX2_tableLength l g ad H.size S x1 hR.w  hv7) (cwV 1 hts (gd_V kw_725 kw_802 kw_803 kw_389 kw_801) rfl rfl rfl (by decide +kernel) ⟨Nat.le_of_ble_eq_true rfl, Nat.le_of_ble_eq_true rfl⟩) ⟨cblind, va_recv hR.K hR.P (ci := 2) (q0 := 8) rfl (hR.at42 (hR.w.2.1 _ finC_26).2.1), fun U hU hW9 => cmk hU hW9 hR hex hE hFc⟩ rfl rfl hl.1 rfl (lv_room (Nat.le_of_ble_eq_true rfl)) dX2_lengthAt_50 ⟨Nat.le_of_ble_eq_true rfl, Nat.le_of_ble_eq_true rfl⟩) hR.sS (fun q _ h => hFc q h) hFc (fun r8 u9 t9 H1 locs ht9 hvm9 hw9 hB9 hz9 hk9 hS => ?_)
    have hR : RepC g ad A s S H1 locs := hR.call ht9 hB9 hR.w hS hFc
    obtain rfl : r8 = (fX2_tableLength S x1) := hw9
    clear hB9 hz9 hk9 hvm9 ht9 hS
    generalize H1 = H at hR ⊢
    obtain ⟨a10, ea10⟩ : ∃ z, z = (fX2_tableLength S x1) := ⟨_, rfl⟩
    rw [← ea10]
    replace h := h a10 ea10
    refine lv_istore_n (lv' := [(2, .int a10), (0, .ref (ad 8)), (1, .int x1)]) hx hb dX2_lengthAt_53 rfl hl (by decide) rfl (fun ls hl => ?_)
    refine lv_goto (tgt := 110) hx hb dX2_lengthAt_54 (by decide) ?_
    exact J_110 S x1 a10 _ _ ls h  hsh hR (lv_sub hl [1, 2, 0] rfl)
  replace h := h.2 c9_170
  by_cases c9_171 : a4.toInt = 171
  · refine lv_lookup (off := 52) (tgt := 57) hx hb dX2_lengthAt_5 (by decide) (by rw [c9_171]; decide) (by decide) ?_
    replace h := h.1 (c9_171)
    refine lv_aload_n hx hb dX2_lengthAt_57 rfl (lv_at hl 0 rfl) ?_
    refine lv_iload_n hx hb dX2_lengthAt_58 rfl (lv_at hl 1 rfl) ?_
    obtain ⟨Q11, h0, h⟩ := h
    have hFc := cfree hR hA
    refine va_calli (va_runV (As := [.int x1]) (rest := []) ⟨hx, hb, hml, hown, hts⟩ (rX2_lookupLength l g ad H.size S x1 hR.w  Q11 h0) (cwV 1 hts (gd_V kw_726 kw_747 kw_748 kw_389 kw_746) rfl rfl rfl (by decide +kernel) ⟨Nat.le_of_ble_eq_true rfl, Nat.le_of_ble_eq_true rfl⟩) ⟨cblind, va_recv hR.K hR.P (ci := 2) (q0 := 8) rfl (hR.at42 (hR.w.2.1 _ finC_26).2.1), fun U hU hW9 => cmk hU hW9 hR hex hE hFc⟩ rfl rfl hl.1 rfl (lv_room (Nat.le_of_ble_eq_true rfl)) dX2_lengthAt_59 ⟨Nat.le_of_ble_eq_true rfl, Nat.le_of_ble_eq_true rfl⟩) hR.sS (fun q _ h => hFc q h) hFc (fun r12 S13 t9 H1 locs ht9 hvm9 hw9 hB9 hz9 hk9 hS => ?_)
    obtain ⟨hq14, hw9, hs9⟩ := hw9
    have hR : RepC g ad A s S13 H1 locs := hR.call ht9 hB9 hw9 hS hFc
    have hsh := hsh.tr hs9
    replace h := h r12 S13 hq14 hw9 hs9
    clear hB9 hz9 hk9 hvm9 ht9 hw9 hs9 hS
    generalize H1 = H at hR ⊢
    refine lv_istore_n (lv' := [(2, .int r12), (0, .ref (ad 8)), (1, .int x1)]) hx hb dX2_lengthAt_62 rfl hl (by decide) rfl (fun ls hl => ?_)
    refine lv_goto (tgt := 110) hx hb dX2_lengthAt_63 (by decide) ?_
    exact J_110 S13 x1 r12 _ _ ls h  hsh hR (lv_sub hl [1, 2, 0] rfl)
  replace h := h.2 c9_171
  by_cases c9_188 : a4.toInt = 188
  · refine lv_lookup (off := 75) (tgt := 80) hx hb dX2_lengthAt_5 (by decide) (by rw [c9_188]; decide) (by decide) ?_
    replace h := h.1 (c9_188)
    refine lv_aload_n hx hb dX2_lengthAt_80 rfl (lv_at hl 0 rfl) ?_
    refine lv_iload_n hx hb dX2_lengthAt_81 rfl (lv_at hl 1 rfl) ?_
    refine lv_iconst (v := 1) hx hb dX2_lengthAt_82 (by decide) ?_
    refine lv_iadd hx hb dX2_lengthAt_83 ?_
    refine lv_topi (fun z15 ez15 => ?_)
    obtain rfl : z15 = (x1 + (1 : Int32)) := ez15
    obtain ⟨hv16, h⟩ := h
    have hFc := cfree hR hA
    refine va_calli (va_runV (As := [.int (x1 + (1 : Int32))]) (rest := []) ⟨hx, hb, hml, hown, hts⟩ (rX2_u1 l g ad H.size S (x1 + (1 : Int32)) hR.w  hv16) (cwV 1 hts (gd_V kw_682 kw_812 kw_813 kw_389 kw_811) rfl rfl rfl (by decide +kernel) ⟨Nat.le_of_ble_eq_true rfl, Nat.le_of_ble_eq_true rfl⟩) ⟨cblind, va_recv hR.K hR.P (ci := 2) (q0 := 8) rfl (hR.at42 (hR.w.2.1 _ finC_26).2.1), fun U hU hW9 => cmk hU hW9 hR hex hE hFc⟩ rfl rfl hl.1 rfl (lv_room (Nat.le_of_ble_eq_true rfl)) dX2_lengthAt_84 ⟨Nat.le_of_ble_eq_true rfl, Nat.le_of_ble_eq_true rfl⟩) hR.sS (fun q _ h => hFc q h) hFc (fun r17 u9 t9 H1 locs ht9 hvm9 hw9 hB9 hz9 hk9 hS => ?_)
    have hR : RepC g ad A s S H1 locs := hR.call ht9 hB9 hR.w hS hFc
    obtain rfl : r17 = (fX2_u1 S (x1 + (1 : Int32))) := hw9
    clear hB9 hz9 hk9 hvm9 ht9 hS
    generalize H1 = H at hR ⊢
    obtain ⟨a19, ea19⟩ : ∃ z, z = (fX2_u1 S (x1 + (1 : Int32))) := ⟨_, rfl⟩
    rw [← ea19]
    replace h := h a19 ea19
    refine lv_bipush (v := 10) hx hb dX2_lengthAt_87 (by decide) ?_
    have J_97 : ∀ (U97 : MS) (t97_0 : Int32) (v97_1 : Int32) (H : Heap) (locs : List Loc) (ls : Array Slot), w_X2_lengthAt_J97 Q U97 t97_0 v97_1 → shy S U97 → RepC g ad A s U97 H locs → lv_has ls 3 [(0, .ref (ad 8)), (1, .int v97_1)] → W p l e (headSpec (wt yX2_lengthAt cX2_lengthAt 3 (some .int)) ({ frames := 3, cells := 0, slots := 0, locals := 66 })).room s m ([.ref (ad 8), .int x1] : List Value).toArray below meth c H locs 0 0 (MQ below (va_Qi (fun (r : Int32) (u : MS) => Q r u ∧ wfC u ∧ shy S u) (fun (u : MS) (t : State) => qEC g ad A u t) A) ([.ref (ad 8), .int x1] : List Value).toArray s 0 0 A) (F0 m 97 ls [.int t97_0]) := by
      intro U97 t97_0 v97_1 H locs ls h hsh hR hl
      unfold w_X2_lengthAt_J97 at h
      replace h := h hR.w
      refine lv_istore_n (lv' := [(2, .int t97_0), (0, .ref (ad 8)), (1, .int v97_1)]) hx hb dX2_lengthAt_97 rfl hl (by decide) rfl (fun ls hl => ?_)
      refine lv_goto (tgt := 110) hx hb dX2_lengthAt_98 (by decide) ?_
      exact J_110 U97 v97_1 t97_0 _ _ ls h  hsh hR (lv_sub hl [1, 2, 0] rfl)
    refine lv_icmp_ne (tgt := 96) hx hb dX2_lengthAt_89 (by decide) (fun c20 => ?_) (fun c20 => ?_)
    · replace h := h.2 (k_ne rfl (by decide) c20)
      refine lv_iconst (v := 0) hx hb dX2_lengthAt_96 (by decide) ?_
      exact J_97 S 0 x1 _ _ ls h  hsh hR (lv_sub hl [0, 1] rfl)
    · replace h := h.1 (k_eq rfl (by decide) c20)
      refine lv_iconst (v := 2) hx hb dX2_lengthAt_92 (by decide) ?_
      refine lv_goto (tgt := 97) hx hb dX2_lengthAt_93 (by decide) ?_
      exact J_97 S 2 x1 _ _ ls h  hsh hR (lv_sub hl [0, 1] rfl)
  replace h := h.2 c9_188
  by_cases c9_196 : a4.toInt = 196
  · refine lv_lookup (off := 61) (tgt := 66) hx hb dX2_lengthAt_5 (by decide) (by rw [c9_196]; decide) (by decide) ?_
    replace h := h.1 (c9_196)
    refine lv_aload_n hx hb dX2_lengthAt_66 rfl (lv_at hl 0 rfl) ?_
    refine lv_iload_n hx hb dX2_lengthAt_67 rfl (lv_at hl 1 rfl) ?_
    refine lv_iconst (v := 1) hx hb dX2_lengthAt_68 (by decide) ?_
    refine lv_iadd hx hb dX2_lengthAt_69 ?_
    refine lv_topi (fun z21 ez21 => ?_)
    obtain rfl : z21 = (x1 + (1 : Int32)) := ez21
    obtain ⟨hv22, h⟩ := h
    have hFc := cfree hR hA
    refine va_calli (va_runV (As := [.int (x1 + (1 : Int32))]) (rest := []) ⟨hx, hb, hml, hown, hts⟩ (rX2_u1 l g ad H.size S (x1 + (1 : Int32)) hR.w  hv22) (cwV 1 hts (gd_V kw_682 kw_812 kw_813 kw_389 kw_811) rfl rfl rfl (by decide +kernel) ⟨Nat.le_of_ble_eq_true rfl, Nat.le_of_ble_eq_true rfl⟩) ⟨cblind, va_recv hR.K hR.P (ci := 2) (q0 := 8) rfl (hR.at42 (hR.w.2.1 _ finC_26).2.1), fun U hU hW9 => cmk hU hW9 hR hex hE hFc⟩ rfl rfl hl.1 rfl (lv_room (Nat.le_of_ble_eq_true rfl)) dX2_lengthAt_70 ⟨Nat.le_of_ble_eq_true rfl, Nat.le_of_ble_eq_true rfl⟩) hR.sS (fun q _ h => hFc q h) hFc (fun r23 u9 t9 H1 locs ht9 hvm9 hw9 hB9 hz9 hk9 hS => ?_)
    have hR : RepC g ad A s S H1 locs := hR.call ht9 hB9 hR.w hS hFc
    obtain rfl : r23 = (fX2_u1 S (x1 + (1 : Int32))) := hw9
    clear hB9 hz9 hk9 hvm9 ht9 hS
    generalize H1 = H at hR ⊢
    obtain ⟨a25, ea25⟩ : ∃ z, z = (fX2_u1 S (x1 + (1 : Int32))) := ⟨_, rfl⟩
    rw [← ea25]
    replace h := h a25 ea25
    obtain ⟨hv26, h⟩ := h
    have hFc := cfree hR hA
    refine va_calli (va_runS (As := [.int a25]) (rest := []) ⟨hx, hb, hml, hown, hts⟩ (rX2_wideLength l g ad H.size S a25 hR.w  hv26) (va_cwS 1 hts (gd_S kw_727 kw_830 kw_389 kw_829) rfl rfl rfl (by decide +kernel) ⟨Nat.le_of_ble_eq_true rfl, Nat.le_of_ble_eq_true rfl⟩) ⟨cblind, fun U hU hW9 => cmk hU hW9 hR hex hE hFc⟩ rfl rfl hl.1 rfl (lv_room (Nat.le_of_ble_eq_true rfl)) dX2_lengthAt_73 ⟨Nat.le_of_ble_eq_true rfl, Nat.le_of_ble_eq_true rfl⟩) hR.sS (fun q _ h => hFc q h) hFc (fun r27 u9 t9 H1 locs ht9 hvm9 hw9 hB9 hz9 hk9 hS => ?_)
    have hR : RepC g ad A s S H1 locs := hR.call ht9 hB9 hR.w hS hFc
    obtain rfl : r27 = (fX2_wideLength S a25) := hw9
    clear hB9 hz9 hk9 hvm9 ht9 hS
    generalize H1 = H at hR ⊢
    obtain ⟨a29, ea29⟩ : ∃ z, z = (fX2_wideLength S a25) := ⟨_, rfl⟩
    rw [← ea29]
    replace h := h a29 ea29
    refine lv_istore_n (lv' := [(2, .int a29), (0, .ref (ad 8)), (1, .int x1)]) hx hb dX2_lengthAt_76 rfl hl (by decide) rfl (fun ls hl => ?_)
    refine lv_goto (tgt := 110) hx hb dX2_lengthAt_77 (by decide) ?_
    exact J_110 S x1 a29 _ _ ls h  hsh hR (lv_sub hl [1, 2, 0] rfl)
  replace h := h.2 c9_196
  refine lv_lookup (off := 96) (tgt := 101) hx hb dX2_lengthAt_5 (by decide) (lx_cons c9_170 (lx_cons c9_171 (lx_cons c9_188 (lx_cons c9_196 lx_nil)))) (by decide) ?_
  refine lv_aload_n hx hb dX2_lengthAt_101 rfl (lv_at hl 0 rfl) ?_
  refine lv_iload_n hx hb dX2_lengthAt_102 rfl (lv_at hl 1 rfl) ?_
  obtain ⟨hv30, h⟩ := h
  have hFc := cfree hR hA
  refine va_calli (va_runV (As := [.int x1]) (rest := []) ⟨hx, hb, hml, hown, hts⟩ (rX2_u1 l g ad H.size S x1 hR.w  hv30) (cwV 1 hts (gd_V kw_682 kw_812 kw_813 kw_389 kw_811) rfl rfl rfl (by decide +kernel) ⟨Nat.le_of_ble_eq_true rfl, Nat.le_of_ble_eq_true rfl⟩) ⟨cblind, va_recv hR.K hR.P (ci := 2) (q0 := 8) rfl (hR.at42 (hR.w.2.1 _ finC_26).2.1), fun U hU hW9 => cmk hU hW9 hR hex hE hFc⟩ rfl rfl hl.1 rfl (lv_room (Nat.le_of_ble_eq_true rfl)) dX2_lengthAt_103 ⟨Nat.le_of_ble_eq_true rfl, Nat.le_of_ble_eq_true rfl⟩) hR.sS (fun q _ h => hFc q h) hFc (fun r31 u9 t9 H1 locs ht9 hvm9 hw9 hB9 hz9 hk9 hS => ?_)
  have hR : RepC g ad A s S H1 locs := hR.call ht9 hB9 hR.w hS hFc
  obtain rfl : r31 = (fX2_u1 S x1) := hw9
  clear hB9 hz9 hk9 hvm9 ht9 hS
  generalize H1 = H at hR ⊢
  obtain ⟨a33, ea33⟩ : ∃ z, z = (fX2_u1 S x1) := ⟨_, rfl⟩
  rw [← ea33]
  replace h := h a33 ea33
  obtain ⟨hv34, h⟩ := h
  have hFc := cfree hR hA
  refine va_calli (va_runS (As := [.int a33]) (rest := []) ⟨hx, hb, hml, hown, hts⟩ (rX6_lengthOf l g ad H.size S a33 hR.w  hv34) (va_cwS 1 hts (gd_S kw_687 kw_1244 kw_1207 kw_1243) rfl rfl rfl (by decide +kernel) ⟨Nat.le_of_ble_eq_true rfl, Nat.le_of_ble_eq_true rfl⟩) ⟨cblind, fun U hU hW9 => cmk hU hW9 hR hex hE hFc⟩ rfl rfl hl.1 rfl (lv_room (Nat.le_of_ble_eq_true rfl)) dX2_lengthAt_106 ⟨Nat.le_of_ble_eq_true rfl, Nat.le_of_ble_eq_true rfl⟩) hR.sS (fun q _ h => hFc q h) hFc (fun r35 u9 t9 H1 locs ht9 hvm9 hw9 hB9 hz9 hk9 hS => ?_)
  have hR : RepC g ad A s S H1 locs := hR.call ht9 hB9 hR.w hS hFc
  obtain rfl : r35 = (fX6_lengthOf S a33) := hw9
  clear hB9 hz9 hk9 hvm9 ht9 hS
  generalize H1 = H at hR ⊢
  obtain ⟨a37, ea37⟩ : ∃ z, z = (fX6_lengthOf S a33) := ⟨_, rfl⟩
  rw [← ea37]
  replace h := h a37 ea37
  refine lv_istore_n (lv' := [(2, .int a37), (0, .ref (ad 8)), (1, .int x1)]) hx hb dX2_lengthAt_109 rfl hl (by decide) rfl (fun ls hl => ?_)
  exact J_110 S x1 a37 _ _ ls h  hsh hR (lv_sub hl [1, 2, 0] rfl)
def w_X2_decode_J57 (Q : MS → Prop) (U57 : MS) (v57_2 : Int32) : Prop := (wfC U57 → (∃ Q9, wX2_set U57 (9 : Int32) ((v57_2 - (9 : Int32)).toInt64) Q9 ∧ ∀ S10, Q9 S10 → wfC S10 → shy U57 S10 → Q S10))
def w_X2_decode_J247 (Q : MS → Prop) (U247 : MS) (v247_1 : Int32) : Prop := (wfC U247 → (∃ Q29, wX2_decodeLocal U247 v247_1 Q29 ∧ ∀ S30, Q29 S30 → wfC S30 → shy U247 S30 → Q S30))
def w_X2_decode_J45 (Q : MS → Prop) (U45 : MS) (v45_1 : Int32) (v45_2 : Int32) : Prop := (wfC U45 → ((v45_2.toInt = 9 → w_X2_decode_J57 Q U45 v45_2) ∧ (¬ v45_2.toInt = 9 → ((v45_2.toInt = 10 → w_X2_decode_J57 Q U45 v45_2) ∧ (¬ v45_2.toInt = 10 → ((v45_2.toInt = 16 → (d_X2_u1 U45 (v45_1 + (1 : Int32)) ∧ (∃ Q81, wX2_set U45 (17 : Int32) (((fX2_u1 U45 (v45_1 + (1 : Int32))).toInt8.toInt32).toInt64) Q81 ∧ ∀ S82, Q81 S82 → wfC S82 → shy U45 S82 → Q S82))) ∧ (¬ v45_2.toInt = 16 → ((v45_2.toInt = 17 → (d_X2_u2 U45 (v45_1 + (1 : Int32)) ∧ (∃ Q74, wX2_set U45 (17 : Int32) (((fX2_u2 U45 (v45_1 + (1 : Int32))).toInt16.toInt32).toInt64) Q74 ∧ ∀ S75, Q74 S75 → wfC S75 → shy U45 S75 → Q S75))) ∧ (¬ v45_2.toInt = 17 → ((v45_2.toInt = 18 → (d_X2_u1 U45 (v45_1 + (1 : Int32)) ∧ (∃ Q67, wX2_set U45 (19 : Int32) ((fX2_u1 U45 (v45_1 + (1 : Int32))).toInt64) Q67 ∧ ∀ S68, Q67 S68 → wfC S68 → shy U45 S68 → Q S68))) ∧ (¬ v45_2.toInt = 18 → ((v45_2.toInt = 200 → (d_X2_s4 U45 (v45_1 + (1 : Int32)) ∧ (∃ Q60, wX2_set U45 (167 : Int32) ((v45_1.toInt64) + ((fX2_s4 U45 (v45_1 + (1 : Int32))).toInt64)) Q60 ∧ ∀ S61, Q60 S61 → wfC S61 → shy U45 S61 → Q S61))) ∧ (¬ v45_2.toInt = 200 → (d_X6_isJump U45 v45_2 ∧ (((fX6_isJump U45 v45_2).toInt = 0 → (d_X6_isSwitch U45 v45_2 ∧ (((fX6_isSwitch U45 v45_2).toInt = 0 → (d_X6_lengthOf U45 v45_2 ∧ (((fX6_lengthOf U45 v45_2).toInt = 3 → ((v45_2.toInt = 132 → w_X2_decode_J247 Q U45 v45_1) ∧ (¬ v45_2.toInt = 132 → (d_X2_u2 U45 (v45_1 + (1 : Int32)) ∧ (∃ Q38, wX2_set U45 v45_2 ((fX2_u2 U45 (v45_1 + (1 : Int32))).toInt64) Q38 ∧ ∀ S39, Q38 S39 → wfC S39 → shy U45 S39 → Q S39))))) ∧ (¬ (fX6_lengthOf U45 v45_2).toInt = 3 → w_X2_decode_J247 Q U45 v45_1)))) ∧ (¬ (fX6_isSwitch U45 v45_2).toInt = 0 → (d_X2_numbersOf U45 v45_1 ∧ (∃ Q44, wX2_set U45 v45_2 ((fX2_numbersOf U45 v45_1).toInt64) Q44 ∧ ∀ S45, Q44 S45 → wfC S45 → shy U45 S45 → Q S45)))))) ∧ (¬ (fX6_isJump U45 v45_2).toInt = 0 → (d_X2_u2 U45 (v45_1 + (1 : Int32)) ∧ (∃ Q52, wX2_set U45 v45_2 ((v45_1 + ((fX2_u2 U45 (v45_1 + (1 : Int32))).toInt16.toInt32)).toInt64) Q52 ∧ ∀ S53, Q52 S53 → wfC S53 → shy U45 S53 → Q S53))))))))))))))))))
def wX2_decode (S : MS) (x1 : Int32) (Q : MS → Prop) : Prop := (d_X2_u1 S x1 ∧ (∀ a4 : Int32, a4 = (fX2_u1 S x1) → (∀ S5, S5 = wI S 8 11 x1 → qT S 8 = 42 → wfC S5 → (∀ S6, S6 = wI S5 8 9 a4 → qT S5 8 = 42 → wfC S6 → (∀ S7, S7 = wJ S6 8 10 0 → qT S6 8 = 42 → wfC S7 → ((a4.toInt < 2 → w_X2_decode_J45 Q S7 x1 a4) ∧ (¬ a4.toInt < 2 → ((8 < a4.toInt → w_X2_decode_J45 Q S7 x1 a4) ∧ (¬ 8 < a4.toInt → (∃ Q87, wX2_set S7 (17 : Int32) ((a4 - (3 : Int32)).toInt64) Q87 ∧ ∀ S88, Q87 S88 → wfC S88 → shy S7 S88 → Q S88))))))))))
set_option maxHeartbeats 2000000 in
set_option maxRecDepth 100000 in
theorem rX2_decode (l : Launch) (g : Gr) (ad : Nat → Nat) (sz : Nat) (S : MS) (x1 : Int32) (hw : wfC S) (Q : MS → Prop) (h : wX2_decode S x1 Q) : Met l yX2_decode (wt yX2_decode cX2_decode 3 none) ({ frames := 3, cells := 0, slots := 0, locals := 65 }) (va_Pc [.ref (ad 8), .int x1] (st_C g ad sz S)) (va_Qv (fun (u : MS) => Q u ∧ wfC u ∧ shy S u) (fun (u : MS) (t : State) => qEC g ad (va_A (WdC g ad S) sz) u t) (va_A (WdC g ad S) sz)) 0 0 (va_A (WdC g ad S) sz) := by
  refine Met.ofW (cc := cX2_decode) (maxL := 3) (ret := none) (by decide) rfl ?_
  intro p e s m args below meth c s₁ B hml hv
  obtain ⟨rfl, hsz, hP, hK, hD0, hex, hE⟩ := hv
  have hx := B.exec
  have hb := B.bytes
  have hr := B.returns
  have hts0 := atoms_spec (ws := wt yX2_decode cX2_decode 3 none) B.pre
  have hts : ∀ w ∈ tb, w.before _ s = true := fun w h => hts0 w (List.mem_cons_of_mem _ h)
  have hown : s.vm.findClass RX2 = some m.cls := findClass_of_methodNamed B.named
  subst hsz
  have hD := hD0.self (sz := s.heap.size)
  generalize hAe : va_A (WdC g ad S) s.heap.size = A at hD hE ⊢
  have hA : ∀ q : Nat, s.heap.size ≤ q → A q := fun q h => by rw [← hAe]; exact Or.inr h
  have hR : RepC g ad A s S s.heap [] := ⟨hK, hP, hD, va_S.rf, hw⟩
  clear hK hP hD hD0
  have hl := lv_entry ([.ref (ad 8), .int x1]) (n := 3) (Nat.le_of_ble_eq_true rfl)
  rw [lg_entry_eq]
  generalize (lg_sl ([.ref (ad 8), .int x1]) ++ List.replicate (3 - (lg_sl ([.ref (ad 8), .int x1])).length) Slot.unset).toArray = ls at hl ⊢
  have hl : lv_has ls 3 [(0, .ref (ad 8)), (1, .int x1)] := hl
  have hsh : shy S S := shy.rf
  unfold wX2_decode at h
  refine lv_aload_n hx hb dX2_decode_0 rfl (lv_at hl 0 rfl) ?_
  refine lv_iload_n hx hb dX2_decode_1 rfl (lv_at hl 1 rfl) ?_
  obtain ⟨hv1, h⟩ := h
  have hFc := cfree hR hA
  refine va_calli (va_runV (As := [.int x1]) (rest := []) ⟨hx, hb, hml, hown, hts⟩ (rX2_u1 l g ad s.heap.size S x1 hR.w  hv1) (cwV 1 hts (gd_V kw_682 kw_812 kw_813 kw_389 kw_811) rfl rfl rfl (by decide +kernel) ⟨Nat.le_of_ble_eq_true rfl, Nat.le_of_ble_eq_true rfl⟩) ⟨cblind, va_recv hR.K hR.P (ci := 2) (q0 := 8) rfl (hR.at42 (hR.w.2.1 _ finC_26).2.1), fun U hU hW9 => cmk hU hW9 hR hex hE hFc⟩ rfl rfl hl.1 rfl (lv_room (Nat.le_of_ble_eq_true rfl)) dX2_decode_2 ⟨Nat.le_of_ble_eq_true rfl, Nat.le_of_ble_eq_true rfl⟩) hR.sS (fun q _ h => hFc q h) hFc (fun r2 u9 t9 H1 locs ht9 hvm9 hw9 hB9 hz9 hk9 hS => ?_)
  have hR : RepC g ad A s S H1 locs := hR.call ht9 hB9 hR.w hS hFc
  obtain rfl : r2 = (fX2_u1 S x1) := hw9
  clear hB9 hz9 hk9 hvm9 ht9 hS
  generalize H1 = H at hR ⊢
  obtain ⟨a4, ea4⟩ : ∃ z, z = (fX2_u1 S x1) := ⟨_, rfl⟩
  rw [← ea4]
  replace h := h a4 ea4
  refine lv_istore_n (lv' := [(2, .int a4), (0, .ref (ad 8)), (1, .int x1)]) hx hb dX2_decode_5 rfl hl (by decide) rfl (fun ls hl => ?_)
  refine lv_aload_n hx hb dX2_decode_6 rfl (lv_at hl 1 rfl) ?_
  refine lv_iload_n hx hb dX2_decode_7 rfl (lv_at hl 2 rfl) ?_
  refine va_put (D := rD g) (ci := 2) (v := .int x1) (ty := .int) (C := RX2) (T := TX2) (N := 12) hx hb hts inX2 tyX2 tyX2_ok nmX2 hown hR.K hR.P hR.D hR.sS 8 (hR.at42 (hR.w.2.1 _ finC_26).2.1) rfl 11 (by decide) (hts _ kw_683) (fun _ h9 => h9) rfl (by decide +kernel) rfl rfl (Nat.le_of_ble_eq_true rfl) dX2_decode_8 (fun H locs hP hD hS => ?_)
  have hTk9 : qT S 8 = 42 := (hR.w.2.1 _ finC_26).2.1
  have hR : RepC g ad A s (wI S 8 11 x1) H locs := hR.pI42 (hR.w.2.1 _ finC_26).2.1 FX2_s11 (fun q9 => absurd q9 (by decide)) hP hD hS
  obtain ⟨S5, eS5⟩ : ∃ z, z = wI S 8 11 x1 := ⟨_, rfl⟩
  rw [← eS5] at hR
  replace h := h S5 eS5 hTk9 hR.w
  have hsh : shy S S5 := by rw [eS5]; exact hsh
  refine lv_aload_n hx hb dX2_decode_11 rfl (lv_at hl 1 rfl) ?_
  refine lv_iload_n hx hb dX2_decode_12 rfl (lv_at hl 0 rfl) ?_
  refine va_put (D := rD g) (ci := 2) (v := .int a4) (ty := .int) (C := RX2) (T := TX2) (N := 12) hx hb hts inX2 tyX2 tyX2_ok nmX2 hown hR.K hR.P hR.D hR.sS 8 (hR.at42 (hR.w.2.1 _ finC_26).2.1) rfl 9 (by decide) (hts _ kw_619) (fun _ h9 => h9) rfl (by decide +kernel) rfl rfl (Nat.le_of_ble_eq_true rfl) dX2_decode_13 (fun H locs hP hD hS => ?_)
  have hTk9 : qT S5 8 = 42 := (hR.w.2.1 _ finC_26).2.1
  have hR : RepC g ad A s (wI S5 8 9 a4) H locs := hR.pI42 (hR.w.2.1 _ finC_26).2.1 FX2_s9 (fun q9 => absurd q9 (by decide)) hP hD hS
  obtain ⟨S6, eS6⟩ : ∃ z, z = wI S5 8 9 a4 := ⟨_, rfl⟩
  rw [← eS6] at hR
  replace h := h S6 eS6 hTk9 hR.w
  have hsh : shy S S6 := by rw [eS6]; exact hsh
  refine lv_aload_n hx hb dX2_decode_16 rfl (lv_at hl 1 rfl) ?_
  refine lv_lconst (v := 0) hx hb dX2_decode_17 (by decide) ?_
  refine va_put (D := rD g) (ci := 2) (v := .long 0) (ty := .long) (C := RX2) (T := TX2) (N := 12) hx hb hts inX2 tyX2 tyX2_ok nmX2 hown hR.K hR.P hR.D hR.sS 8 (hR.at42 (hR.w.2.1 _ finC_26).2.1) rfl 10 (by decide) (hts _ kw_617) (fun _ h9 => h9) rfl (by decide +kernel) rfl rfl (Nat.le_of_ble_eq_true rfl) dX2_decode_18 (fun H locs hP hD hS => ?_)
  have hTk9 : qT S6 8 = 42 := (hR.w.2.1 _ finC_26).2.1
  have hR : RepC g ad A s (wJ S6 8 10 0) H locs := hR.pJ42 (hR.w.2.1 _ finC_26).2.1 FX2_s10 hP hD hS
  obtain ⟨S7, eS7⟩ : ∃ z, z = wJ S6 8 10 0 := ⟨_, rfl⟩
  rw [← eS7] at hR
  replace h := h S7 eS7 hTk9 hR.w
  have hsh : shy S S7 := by rw [eS7]; exact hsh
  refine lv_iload_n hx hb dX2_decode_21 rfl (lv_at hl 0 rfl) ?_
  refine lv_iconst (v := 2) hx hb dX2_decode_22 (by decide) ?_
  have J_45 : ∀ (U45 : MS) (v45_1 : Int32) (v45_2 : Int32) (H : Heap) (locs : List Loc) (ls : Array Slot), w_X2_decode_J45 Q U45 v45_1 v45_2 → shy S U45 → RepC g ad A s U45 H locs → lv_has ls 3 [(0, .ref (ad 8)), (1, .int v45_1), (2, .int v45_2)] → W p l e (headSpec (wt yX2_decode cX2_decode 3 none) ({ frames := 3, cells := 0, slots := 0, locals := 65 })).room s m ([.ref (ad 8), .int x1] : List Value).toArray below meth c H locs 0 0 (MQ below (va_Qv (fun (u : MS) => Q u ∧ wfC u ∧ shy S u) (fun (u : MS) (t : State) => qEC g ad A u t) A) ([.ref (ad 8), .int x1] : List Value).toArray s 0 0 A) (F0 m 45 ls []) := by
    intro U45 v45_1 v45_2 H locs ls h hsh hR hl
    unfold w_X2_decode_J45 at h
    replace h := h hR.w
    refine lv_iload_n hx hb dX2_decode_45 rfl (lv_at hl 2 rfl) ?_
    refine lv_bipush (v := 9) hx hb dX2_decode_46 (by decide) ?_
    have J_57 : ∀ (U57 : MS) (v57_2 : Int32) (H : Heap) (locs : List Loc) (ls : Array Slot), w_X2_decode_J57 Q U57 v57_2 → shy S U57 → RepC g ad A s U57 H locs → lv_has ls 3 [(0, .ref (ad 8)), (2, .int v57_2)] → W p l e (headSpec (wt yX2_decode cX2_decode 3 none) ({ frames := 3, cells := 0, slots := 0, locals := 65 })).room s m ([.ref (ad 8), .int x1] : List Value).toArray below meth c H locs 0 0 (MQ below (va_Qv (fun (u : MS) => Q u ∧ wfC u ∧ shy S u) (fun (u : MS) (t : State) => qEC g ad A u t) A) ([.ref (ad 8), .int x1] : List Value).toArray s 0 0 A) (F0 m 57 ls []) := by
      intro U57 v57_2 H locs ls h hsh hR hl
      unfold w_X2_decode_J57 at h
      replace h := h hR.w
      refine lv_aload_n hx hb dX2_decode_57 rfl (lv_at hl 0 rfl) ?_
      refine lv_bipush (v := 9) hx hb dX2_decode_58 (by decide) ?_
      refine lv_iload_n hx hb dX2_decode_60 rfl (lv_at hl 1 rfl) ?_
      refine lv_bipush (v := 9) hx hb dX2_decode_61 (by decide) ?_
      refine lv_isub hx hb dX2_decode_63 ?_
      refine lv_topi (fun z8 ez8 => ?_)
      obtain rfl : z8 = (v57_2 - (9 : Int32)) := ez8
      refine lv_i2l (v := ((v57_2 - (9 : Int32)).toInt64)) hx hb dX2_decode_64 rfl ?_
      obtain ⟨Q9, h0, h⟩ := h
      have hFc := cfree hR hA
      refine va_callv (va_runV (As := [.int 9, .long ((v57_2 - (9 : Int32)).toInt64)]) (rest := []) ⟨hx, hb, hml, hown, hts⟩ (rX2_set l g ad H.size U57 (9 : Int32) ((v57_2 - (9 : Int32)).toInt64) hR.w  Q9 h0) (cwV 2 hts (gd_V kw_684 kw_793 kw_794 kw_389 kw_792) rfl rfl rfl (by decide +kernel) ⟨Nat.le_of_ble_eq_true rfl, Nat.le_of_ble_eq_true rfl⟩) ⟨cblind, va_recv hR.K hR.P (ci := 2) (q0 := 8) rfl (hR.at42 (hR.w.2.1 _ finC_26).2.1), fun U hU hW9 => cmk hU hW9 hR hex hE hFc⟩ rfl rfl hl.1 rfl (lv_room (Nat.le_of_ble_eq_true rfl)) dX2_decode_65 ⟨Nat.le_of_ble_eq_true rfl, Nat.le_of_ble_eq_true rfl⟩) hR.sS (fun q _ h => hFc q h) hFc (fun  S10 t9 H1 locs ht9 hvm9 hw9 hB9 hz9 hk9 hS => ?_)
      obtain ⟨hq11, hw9, hs9⟩ := hw9
      have hR : RepC g ad A s S10 H1 locs := hR.call ht9 hB9 hw9 hS hFc
      have hsh := hsh.tr hs9
      replace h := h  S10 hq11 hw9 hs9
      clear hB9 hz9 hk9 hvm9 ht9 hw9 hs9 hS
      generalize H1 = H at hR ⊢
      refine lv_goto (tgt := 252) hx hb dX2_decode_68 (by decide) ?_
      exact W.vret hx hb hr (fun t9 ht9 hW9 => ⟨⟨S10, rfl, ⟨h, hR.w, hsh⟩, ⟨by rw [ht9]; exact hR.P, hR.D⟩⟩, hR.sS.F ht9⟩) hR.sS.2.2 dX2_decode_252
    refine lv_icmp_eq (tgt := 57) hx hb dX2_decode_48 (by decide) (fun c12 => ?_) (fun c12 => ?_)
    · replace h := h.1 (k_eq rfl (by decide) c12)
      exact J_57 U45 v45_2 _ _ ls h  hsh hR (lv_sub hl [0, 2] rfl)
    · replace h := h.2 (k_ne rfl (by decide) c12)
      refine lv_iload_n hx hb dX2_decode_51 rfl (lv_at hl 2 rfl) ?_
      refine lv_bipush (v := 10) hx hb dX2_decode_52 (by decide) ?_
      refine lv_icmp_ne (tgt := 71) hx hb dX2_decode_54 (by decide) (fun c13 => ?_) (fun c13 => ?_)
      · replace h := h.2 (k_ne rfl (by decide) c13)
        refine lv_iload_n hx hb dX2_decode_71 rfl (lv_at hl 2 rfl) ?_
        refine lv_bipush (v := 16) hx hb dX2_decode_72 (by decide) ?_
        refine lv_icmp_ne (tgt := 95) hx hb dX2_decode_74 (by decide) (fun c14 => ?_) (fun c14 => ?_)
        · replace h := h.2 (k_ne rfl (by decide) c14)
          refine lv_iload_n hx hb dX2_decode_95 rfl (lv_at hl 2 rfl) ?_
          refine lv_bipush (v := 17) hx hb dX2_decode_96 (by decide) ?_
          refine lv_icmp_ne (tgt := 119) hx hb dX2_decode_98 (by decide) (fun c15 => ?_) (fun c15 => ?_)
          · replace h := h.2 (k_ne rfl (by decide) c15)
            refine lv_iload_n hx hb dX2_decode_119 rfl (lv_at hl 2 rfl) ?_
            refine lv_bipush (v := 18) hx hb dX2_decode_120 (by decide) ?_
            refine lv_icmp_ne (tgt := 142) hx hb dX2_decode_122 (by decide) (fun c16 => ?_) (fun c16 => ?_)
            · replace h := h.2 (k_ne rfl (by decide) c16)
              refine lv_iload_n hx hb dX2_decode_142 rfl (lv_at hl 2 rfl) ?_
              refine lv_sipush (v := 200) hx hb dX2_decode_143 (by decide) ?_
              refine lv_icmp_ne (tgt := 170) hx hb dX2_decode_146 (by decide) (fun c17 => ?_) (fun c17 => ?_)
              · replace h := h.2 (k_ne rfl (by decide) c17)
                refine lv_iload_n hx hb dX2_decode_170 rfl (lv_at hl 2 rfl) ?_
                obtain ⟨hv18, h⟩ := h
                have hFc := cfree hR hA
                refine va_calli (va_runS (As := [.int v45_2]) (rest := []) ⟨hx, hb, hml, hown, hts⟩ (rX6_isJump l g ad H.size U45 v45_2 hR.w  hv18) (va_cwS 1 hts (gd_S kw_629 kw_1225 kw_1207 kw_1224) rfl rfl rfl (by decide +kernel) ⟨Nat.le_of_ble_eq_true rfl, Nat.le_of_ble_eq_true rfl⟩) ⟨cblind, fun U hU hW9 => cmk hU hW9 hR hex hE hFc⟩ rfl rfl hl.1 rfl (lv_room (Nat.le_of_ble_eq_true rfl)) dX2_decode_171 ⟨Nat.le_of_ble_eq_true rfl, Nat.le_of_ble_eq_true rfl⟩) hR.sS (fun q _ h => hFc q h) hFc (fun r19 u9 t9 H1 locs ht9 hvm9 hw9 hB9 hz9 hk9 hS => ?_)
                have hR : RepC g ad A s U45 H1 locs := hR.call ht9 hB9 hR.w hS hFc
                obtain ⟨rfl, hz_r19⟩ := hw9
                clear hB9 hz9 hk9 hvm9 ht9 hS
                generalize H1 = H at hR ⊢
                refine lv_if_eq (tgt := 196) hx hb dX2_decode_174 (by decide) (fun c21 => ?_) (fun c21 => ?_)
                · replace h := h.1 (k_eq rfl (by decide) c21)
                  refine lv_iload_n hx hb dX2_decode_196 rfl (lv_at hl 2 rfl) ?_
                  obtain ⟨hv22, h⟩ := h
                  have hFc := cfree hR hA
                  refine va_calli (va_runS (As := [.int v45_2]) (rest := []) ⟨hx, hb, hml, hown, hts⟩ (rX6_isSwitch l g ad H.size U45 v45_2 hR.w  hv22) (va_cwS 1 hts (gd_S kw_630 kw_1233 kw_1207 kw_1232) rfl rfl rfl (by decide +kernel) ⟨Nat.le_of_ble_eq_true rfl, Nat.le_of_ble_eq_true rfl⟩) ⟨cblind, fun U hU hW9 => cmk hU hW9 hR hex hE hFc⟩ rfl rfl hl.1 rfl (lv_room (Nat.le_of_ble_eq_true rfl)) dX2_decode_197 ⟨Nat.le_of_ble_eq_true rfl, Nat.le_of_ble_eq_true rfl⟩) hR.sS (fun q _ h => hFc q h) hFc (fun r23 u9 t9 H1 locs ht9 hvm9 hw9 hB9 hz9 hk9 hS => ?_)
                  have hR : RepC g ad A s U45 H1 locs := hR.call ht9 hB9 hR.w hS hFc
                  obtain ⟨rfl, hz_r23⟩ := hw9
                  clear hB9 hz9 hk9 hvm9 ht9 hS
                  generalize H1 = H at hR ⊢
                  refine lv_if_eq (tgt := 216) hx hb dX2_decode_200 (by decide) (fun c25 => ?_) (fun c25 => ?_)
                  · replace h := h.1 (k_eq rfl (by decide) c25)
                    refine lv_iload_n hx hb dX2_decode_216 rfl (lv_at hl 2 rfl) ?_
                    obtain ⟨hv26, h⟩ := h
                    have hFc := cfree hR hA
                    refine va_calli (va_runS (As := [.int v45_2]) (rest := []) ⟨hx, hb, hml, hown, hts⟩ (rX6_lengthOf l g ad H.size U45 v45_2 hR.w  hv26) (va_cwS 1 hts (gd_S kw_687 kw_1244 kw_1207 kw_1243) rfl rfl rfl (by decide +kernel) ⟨Nat.le_of_ble_eq_true rfl, Nat.le_of_ble_eq_true rfl⟩) ⟨cblind, fun U hU hW9 => cmk hU hW9 hR hex hE hFc⟩ rfl rfl hl.1 rfl (lv_room (Nat.le_of_ble_eq_true rfl)) dX2_decode_217 ⟨Nat.le_of_ble_eq_true rfl, Nat.le_of_ble_eq_true rfl⟩) hR.sS (fun q _ h => hFc q h) hFc (fun r27 u9 t9 H1 locs ht9 hvm9 hw9 hB9 hz9 hk9 hS => ?_)
                    have hR : RepC g ad A s U45 H1 locs := hR.call ht9 hB9 hR.w hS hFc
                    obtain rfl : r27 = (fX6_lengthOf U45 v45_2) := hw9
                    clear hB9 hz9 hk9 hvm9 ht9 hS
                    generalize H1 = H at hR ⊢
                    refine lv_iconst (v := 3) hx hb dX2_decode_220 (by decide) ?_
                    have J_247 : ∀ (U247 : MS) (v247_1 : Int32) (H : Heap) (locs : List Loc) (ls : Array Slot), w_X2_decode_J247 Q U247 v247_1 → shy S U247 → RepC g ad A s U247 H locs → lv_has ls 3 [(0, .ref (ad 8)), (1, .int v247_1)] → W p l e (headSpec (wt yX2_decode cX2_decode 3 none) ({ frames := 3, cells := 0, slots := 0, locals := 65 })).room s m ([.ref (ad 8), .int x1] : List Value).toArray below meth c H locs 0 0 (MQ below (va_Qv (fun (u : MS) => Q u ∧ wfC u ∧ shy S u) (fun (u : MS) (t : State) => qEC g ad A u t) A) ([.ref (ad 8), .int x1] : List Value).toArray s 0 0 A) (F0 m 247 ls []) := by
                      intro U247 v247_1 H locs ls h hsh hR hl
                      unfold w_X2_decode_J247 at h
                      replace h := h hR.w
                      refine lv_aload_n hx hb dX2_decode_247 rfl (lv_at hl 0 rfl) ?_
                      refine lv_iload_n hx hb dX2_decode_248 rfl (lv_at hl 1 rfl) ?_
                      obtain ⟨Q29, h0, h⟩ := h
                      have hFc := cfree hR hA
                      refine va_callv (va_runV (As := [.int v247_1]) (rest := []) ⟨hx, hb, hml, hown, hts⟩ (rX2_decodeLocal l g ad H.size U247 v247_1 hR.w  Q29 h0) (cwV 1 hts (gd_V kw_688 kw_690 kw_691 kw_389 kw_689) rfl rfl rfl (by decide +kernel) ⟨Nat.le_of_ble_eq_true rfl, Nat.le_of_ble_eq_true rfl⟩) ⟨cblind, va_recv hR.K hR.P (ci := 2) (q0 := 8) rfl (hR.at42 (hR.w.2.1 _ finC_26).2.1), fun U hU hW9 => cmk hU hW9 hR hex hE hFc⟩ rfl rfl hl.1 rfl (lv_room (Nat.le_of_ble_eq_true rfl)) dX2_decode_249 ⟨Nat.le_of_ble_eq_true rfl, Nat.le_of_ble_eq_true rfl⟩) hR.sS (fun q _ h => hFc q h) hFc (fun  S30 t9 H1 locs ht9 hvm9 hw9 hB9 hz9 hk9 hS => ?_)
                      obtain ⟨hq31, hw9, hs9⟩ := hw9
                      have hR : RepC g ad A s S30 H1 locs := hR.call ht9 hB9 hw9 hS hFc
                      have hsh := hsh.tr hs9
                      replace h := h  S30 hq31 hw9 hs9
                      clear hB9 hz9 hk9 hvm9 ht9 hw9 hs9 hS
                      generalize H1 = H at hR ⊢
                      exact W.vret hx hb hr (fun t9 ht9 hW9 => ⟨⟨S30, rfl, ⟨h, hR.w, hsh⟩, ⟨by rw [ht9]; exact hR.P, hR.D⟩⟩, hR.sS.F ht9⟩) hR.sS.2.2 dX2_decode_252
                    refine lv_icmp_ne (tgt := 247) hx hb dX2_decode_221 (by decide) (fun c32 => ?_) (fun c32 => ?_)
                    · replace h := h.2 (k_ne rfl (by decide) c32)
                      exact J_247 U45 v45_1 _ _ ls h  hsh hR (lv_sub hl [0, 1] rfl)
                    · replace h := h.1 (k_eq rfl (by decide) c32)
                      refine lv_iload_n hx hb dX2_decode_224 rfl (lv_at hl 2 rfl) ?_
                      refine lv_sipush (v := 132) hx hb dX2_decode_225 (by decide) ?_
                      refine lv_icmp_eq (tgt := 247) hx hb dX2_decode_228 (by decide) (fun c33 => ?_) (fun c33 => ?_)
                      · replace h := h.1 (k_eq rfl (by decide) c33)
                        exact J_247 U45 v45_1 _ _ ls h  hsh hR (lv_sub hl [0, 1] rfl)
                      · replace h := h.2 (k_ne rfl (by decide) c33)
                        refine lv_aload_n hx hb dX2_decode_231 rfl (lv_at hl 0 rfl) ?_
                        refine lv_iload_n hx hb dX2_decode_232 rfl (lv_at hl 2 rfl) ?_
                        refine lv_aload_n hx hb dX2_decode_233 rfl (lv_at hl 0 rfl) ?_
                        refine lv_iload_n hx hb dX2_decode_234 rfl (lv_at hl 1 rfl) ?_
                        refine lv_iconst (v := 1) hx hb dX2_decode_235 (by decide) ?_
                        refine lv_iadd hx hb dX2_decode_236 ?_
                        refine lv_topi (fun z34 ez34 => ?_)
                        obtain rfl : z34 = (v45_1 + (1 : Int32)) := ez34
                        obtain ⟨hv35, h⟩ := h
                        have hFc := cfree hR hA
                        refine va_calli (va_runV (As := [.int (v45_1 + (1 : Int32))]) (rest := [.int v45_2, .ref (ad 8)]) ⟨hx, hb, hml, hown, hts⟩ (rX2_u2 l g ad H.size U45 (v45_1 + (1 : Int32)) hR.w  hv35) (cwV 1 hts (gd_V kw_685 kw_816 kw_817 kw_389 kw_815) rfl rfl rfl (by decide +kernel) ⟨Nat.le_of_ble_eq_true rfl, Nat.le_of_ble_eq_true rfl⟩) ⟨cblind, va_recv hR.K hR.P (ci := 2) (q0 := 8) rfl (hR.at42 (hR.w.2.1 _ finC_26).2.1), fun U hU hW9 => cmk hU hW9 hR hex hE hFc⟩ rfl rfl hl.1 rfl (lv_room (Nat.le_of_ble_eq_true rfl)) dX2_decode_237 ⟨Nat.le_of_ble_eq_true rfl, Nat.le_of_ble_eq_true rfl⟩) hR.sS (fun q _ h => hFc q h) hFc (fun r36 u9 t9 H1 locs ht9 hvm9 hw9 hB9 hz9 hk9 hS => ?_)
                        have hR : RepC g ad A s U45 H1 locs := hR.call ht9 hB9 hR.w hS hFc
                        obtain rfl : r36 = (fX2_u2 U45 (v45_1 + (1 : Int32))) := hw9
                        clear hB9 hz9 hk9 hvm9 ht9 hS
                        generalize H1 = H at hR ⊢
                        refine lv_i2l (v := ((fX2_u2 U45 (v45_1 + (1 : Int32))).toInt64)) hx hb dX2_decode_240 rfl ?_
                        obtain ⟨Q38, h0, h⟩ := h
                        have hFc := cfree hR hA
                        refine va_callv (va_runV (As := [.int v45_2, .long ((fX2_u2 U45 (v45_1 + (1 : Int32))).toInt64)]) (rest := []) ⟨hx, hb, hml, hown, hts⟩ (rX2_set l g ad H.size U45 v45_2 ((fX2_u2 U45 (v45_1 + (1 : Int32))).toInt64) hR.w  Q38 h0) (cwV 2 hts (gd_V kw_684 kw_793 kw_794 kw_389 kw_792) rfl rfl rfl (by decide +kernel) ⟨Nat.le_of_ble_eq_true rfl, Nat.le_of_ble_eq_true rfl⟩) ⟨cblind, va_recv hR.K hR.P (ci := 2) (q0 := 8) rfl (hR.at42 (hR.w.2.1 _ finC_26).2.1), fun U hU hW9 => cmk hU hW9 hR hex hE hFc⟩ rfl rfl hl.1 rfl (lv_room (Nat.le_of_ble_eq_true rfl)) dX2_decode_241 ⟨Nat.le_of_ble_eq_true rfl, Nat.le_of_ble_eq_true rfl⟩) hR.sS (fun q _ h => hFc q h) hFc (fun  S39 t9 H1 locs ht9 hvm9 hw9 hB9 hz9 hk9 hS => ?_)
                        obtain ⟨hq40, hw9, hs9⟩ := hw9
                        have hR : RepC g ad A s S39 H1 locs := hR.call ht9 hB9 hw9 hS hFc
                        have hsh := hsh.tr hs9
                        replace h := h  S39 hq40 hw9 hs9
                        clear hB9 hz9 hk9 hvm9 ht9 hw9 hs9 hS
                        generalize H1 = H at hR ⊢
                        refine lv_goto (tgt := 252) hx hb dX2_decode_244 (by decide) ?_
                        exact W.vret hx hb hr (fun t9 ht9 hW9 => ⟨⟨S39, rfl, ⟨h, hR.w, hsh⟩, ⟨by rw [ht9]; exact hR.P, hR.D⟩⟩, hR.sS.F ht9⟩) hR.sS.2.2 dX2_decode_252
                  · replace h := h.2 (k_ne rfl (by decide) c25)
                    refine lv_aload_n hx hb dX2_decode_203 rfl (lv_at hl 0 rfl) ?_
                    refine lv_iload_n hx hb dX2_decode_204 rfl (lv_at hl 2 rfl) ?_
                    refine lv_iload_n hx hb dX2_decode_205 rfl (lv_at hl 1 rfl) ?_
                    obtain ⟨hv41, h⟩ := h
                    have hFc := cfree hR hA
                    refine va_calli (va_runS (As := [.int v45_1]) (rest := [.int v45_2, .ref (ad 8)]) ⟨hx, hb, hml, hown, hts⟩ (rX2_numbersOf l g ad H.size U45 v45_1 hR.w  hv41) (va_cwS 1 hts (gd_S kw_686 kw_764 kw_389 kw_763) rfl rfl rfl (by decide +kernel) ⟨Nat.le_of_ble_eq_true rfl, Nat.le_of_ble_eq_true rfl⟩) ⟨cblind, fun U hU hW9 => cmk hU hW9 hR hex hE hFc⟩ rfl rfl hl.1 rfl (lv_room (Nat.le_of_ble_eq_true rfl)) dX2_decode_206 ⟨Nat.le_of_ble_eq_true rfl, Nat.le_of_ble_eq_true rfl⟩) hR.sS (fun q _ h => hFc q h) hFc (fun r42 u9 t9 H1 locs ht9 hvm9 hw9 hB9 hz9 hk9 hS => ?_)
                    have hR : RepC g ad A s U45 H1 locs := hR.call ht9 hB9 hR.w hS hFc
                    obtain rfl : r42 = (fX2_numbersOf U45 v45_1) := hw9
                    clear hB9 hz9 hk9 hvm9 ht9 hS
                    generalize H1 = H at hR ⊢
                    refine lv_i2l (v := ((fX2_numbersOf U45 v45_1).toInt64)) hx hb dX2_decode_209 rfl ?_
                    obtain ⟨Q44, h0, h⟩ := h
                    have hFc := cfree hR hA
                    refine va_callv (va_runV (As := [.int v45_2, .long ((fX2_numbersOf U45 v45_1).toInt64)]) (rest := []) ⟨hx, hb, hml, hown, hts⟩ (rX2_set l g ad H.size U45 v45_2 ((fX2_numbersOf U45 v45_1).toInt64) hR.w  Q44 h0) (cwV 2 hts (gd_V kw_684 kw_793 kw_794 kw_389 kw_792) rfl rfl rfl (by decide +kernel) ⟨Nat.le_of_ble_eq_true rfl, Nat.le_of_ble_eq_true rfl⟩) ⟨cblind, va_recv hR.K hR.P (ci := 2) (q0 := 8) rfl (hR.at42 (hR.w.2.1 _ finC_26).2.1), fun U hU hW9 => cmk hU hW9 hR hex hE hFc⟩ rfl rfl hl.1 rfl (lv_room (Nat.le_of_ble_eq_true rfl)) dX2_decode_210 ⟨Nat.le_of_ble_eq_true rfl, Nat.le_of_ble_eq_true rfl⟩) hR.sS (fun q _ h => hFc q h) hFc (fun  S45 t9 H1 locs ht9 hvm9 hw9 hB9 hz9 hk9 hS => ?_)
                    obtain ⟨hq46, hw9, hs9⟩ := hw9
                    have hR : RepC g ad A s S45 H1 locs := hR.call ht9 hB9 hw9 hS hFc
                    have hsh := hsh.tr hs9
                    replace h := h  S45 hq46 hw9 hs9
                    clear hB9 hz9 hk9 hvm9 ht9 hw9 hs9 hS
                    generalize H1 = H at hR ⊢
                    refine lv_goto (tgt := 252) hx hb dX2_decode_213 (by decide) ?_
                    exact W.vret hx hb hr (fun t9 ht9 hW9 => ⟨⟨S45, rfl, ⟨h, hR.w, hsh⟩, ⟨by rw [ht9]; exact hR.P, hR.D⟩⟩, hR.sS.F ht9⟩) hR.sS.2.2 dX2_decode_252
                · replace h := h.2 (k_ne rfl (by decide) c21)
                  refine lv_aload_n hx hb dX2_decode_177 rfl (lv_at hl 0 rfl) ?_
                  refine lv_iload_n hx hb dX2_decode_178 rfl (lv_at hl 2 rfl) ?_
                  refine lv_iload_n hx hb dX2_decode_179 rfl (lv_at hl 1 rfl) ?_
                  refine lv_aload_n hx hb dX2_decode_180 rfl (lv_at hl 0 rfl) ?_
                  refine lv_iload_n hx hb dX2_decode_181 rfl (lv_at hl 1 rfl) ?_
                  refine lv_iconst (v := 1) hx hb dX2_decode_182 (by decide) ?_
                  refine lv_iadd hx hb dX2_decode_183 ?_
                  refine lv_topi (fun z47 ez47 => ?_)
                  obtain rfl : z47 = (v45_1 + (1 : Int32)) := ez47
                  obtain ⟨hv48, h⟩ := h
                  have hFc := cfree hR hA
                  refine va_calli (va_runV (As := [.int (v45_1 + (1 : Int32))]) (rest := [.int v45_1, .int v45_2, .ref (ad 8)]) ⟨hx, hb, hml, hown, hts⟩ (rX2_u2 l g ad H.size U45 (v45_1 + (1 : Int32)) hR.w  hv48) (cwV 1 hts (gd_V kw_685 kw_816 kw_817 kw_389 kw_815) rfl rfl rfl (by decide +kernel) ⟨Nat.le_of_ble_eq_true rfl, Nat.le_of_ble_eq_true rfl⟩) ⟨cblind, va_recv hR.K hR.P (ci := 2) (q0 := 8) rfl (hR.at42 (hR.w.2.1 _ finC_26).2.1), fun U hU hW9 => cmk hU hW9 hR hex hE hFc⟩ rfl rfl hl.1 rfl (lv_room (Nat.le_of_ble_eq_true rfl)) dX2_decode_184 ⟨Nat.le_of_ble_eq_true rfl, Nat.le_of_ble_eq_true rfl⟩) hR.sS (fun q _ h => hFc q h) hFc (fun r49 u9 t9 H1 locs ht9 hvm9 hw9 hB9 hz9 hk9 hS => ?_)
                  have hR : RepC g ad A s U45 H1 locs := hR.call ht9 hB9 hR.w hS hFc
                  obtain rfl : r49 = (fX2_u2 U45 (v45_1 + (1 : Int32))) := hw9
                  clear hB9 hz9 hk9 hvm9 ht9 hS
                  generalize H1 = H at hR ⊢
                  refine lv_i2s (v := ((fX2_u2 U45 (v45_1 + (1 : Int32))).toInt16.toInt32)) hx hb dX2_decode_187 rfl ?_
                  refine lv_iadd hx hb dX2_decode_188 ?_
                  refine lv_topi (fun z51 ez51 => ?_)
                  obtain rfl : z51 = (v45_1 + ((fX2_u2 U45 (v45_1 + (1 : Int32))).toInt16.toInt32)) := ez51
                  refine lv_i2l (v := ((v45_1 + ((fX2_u2 U45 (v45_1 + (1 : Int32))).toInt16.toInt32)).toInt64)) hx hb dX2_decode_189 rfl ?_
                  obtain ⟨Q52, h0, h⟩ := h
                  have hFc := cfree hR hA
                  refine va_callv (va_runV (As := [.int v45_2, .long ((v45_1 + ((fX2_u2 U45 (v45_1 + (1 : Int32))).toInt16.toInt32)).toInt64)]) (rest := []) ⟨hx, hb, hml, hown, hts⟩ (rX2_set l g ad H.size U45 v45_2 ((v45_1 + ((fX2_u2 U45 (v45_1 + (1 : Int32))).toInt16.toInt32)).toInt64) hR.w  Q52 h0) (cwV 2 hts (gd_V kw_684 kw_793 kw_794 kw_389 kw_792) rfl rfl rfl (by decide +kernel) ⟨Nat.le_of_ble_eq_true rfl, Nat.le_of_ble_eq_true rfl⟩) ⟨cblind, va_recv hR.K hR.P (ci := 2) (q0 := 8) rfl (hR.at42 (hR.w.2.1 _ finC_26).2.1), fun U hU hW9 => cmk hU hW9 hR hex hE hFc⟩ rfl rfl hl.1 rfl (lv_room (Nat.le_of_ble_eq_true rfl)) dX2_decode_190 ⟨Nat.le_of_ble_eq_true rfl, Nat.le_of_ble_eq_true rfl⟩) hR.sS (fun q _ h => hFc q h) hFc (fun  S53 t9 H1 locs ht9 hvm9 hw9 hB9 hz9 hk9 hS => ?_)
                  obtain ⟨hq54, hw9, hs9⟩ := hw9
                  have hR : RepC g ad A s S53 H1 locs := hR.call ht9 hB9 hw9 hS hFc
                  have hsh := hsh.tr hs9
                  replace h := h  S53 hq54 hw9 hs9
                  clear hB9 hz9 hk9 hvm9 ht9 hw9 hs9 hS
                  generalize H1 = H at hR ⊢
                  refine lv_goto (tgt := 252) hx hb dX2_decode_193 (by decide) ?_
                  exact W.vret hx hb hr (fun t9 ht9 hW9 => ⟨⟨S53, rfl, ⟨h, hR.w, hsh⟩, ⟨by rw [ht9]; exact hR.P, hR.D⟩⟩, hR.sS.F ht9⟩) hR.sS.2.2 dX2_decode_252
              · replace h := h.1 (k_eq rfl (by decide) c17)
                refine lv_aload_n hx hb dX2_decode_149 rfl (lv_at hl 0 rfl) ?_
                refine lv_sipush (v := 167) hx hb dX2_decode_150 (by decide) ?_
                refine lv_iload_n hx hb dX2_decode_153 rfl (lv_at hl 1 rfl) ?_
                refine lv_i2l (v := (v45_1.toInt64)) hx hb dX2_decode_154 rfl ?_
                refine lv_aload_n hx hb dX2_decode_155 rfl (lv_at hl 0 rfl) ?_
                refine lv_iload_n hx hb dX2_decode_156 rfl (lv_at hl 1 rfl) ?_
                refine lv_iconst (v := 1) hx hb dX2_decode_157 (by decide) ?_
                refine lv_iadd hx hb dX2_decode_158 ?_
                refine lv_topi (fun z55 ez55 => ?_)
                obtain rfl : z55 = (v45_1 + (1 : Int32)) := ez55
                obtain ⟨hv56, h⟩ := h
                have hFc := cfree hR hA
                refine va_calli (va_runV (As := [.int (v45_1 + (1 : Int32))]) (rest := [.long (v45_1.toInt64), .int 167, .ref (ad 8)]) ⟨hx, hb, hml, hown, hts⟩ (rX2_s4 l g ad H.size U45 (v45_1 + (1 : Int32)) hR.w  hv56) (cwV 1 hts (gd_V kw_623 kw_790 kw_791 kw_389 kw_789) rfl rfl rfl (by decide +kernel) ⟨Nat.le_of_ble_eq_true rfl, Nat.le_of_ble_eq_true rfl⟩) ⟨cblind, va_recv hR.K hR.P (ci := 2) (q0 := 8) rfl (hR.at42 (hR.w.2.1 _ finC_26).2.1), fun U hU hW9 => cmk hU hW9 hR hex hE hFc⟩ rfl rfl hl.1 rfl (lv_room (Nat.le_of_ble_eq_true rfl)) dX2_decode_159 ⟨Nat.le_of_ble_eq_true rfl, Nat.le_of_ble_eq_true rfl⟩) hR.sS (fun q _ h => hFc q h) hFc (fun r57 u9 t9 H1 locs ht9 hvm9 hw9 hB9 hz9 hk9 hS => ?_)
                have hR : RepC g ad A s U45 H1 locs := hR.call ht9 hB9 hR.w hS hFc
                obtain rfl : r57 = (fX2_s4 U45 (v45_1 + (1 : Int32))) := hw9
                clear hB9 hz9 hk9 hvm9 ht9 hS
                generalize H1 = H at hR ⊢
                refine lv_i2l (v := ((fX2_s4 U45 (v45_1 + (1 : Int32))).toInt64)) hx hb dX2_decode_162 rfl ?_
                refine lv_ladd hx hb dX2_decode_163 ?_
                refine lv_topl (fun z59 ez59 => ?_)
                obtain rfl : z59 = ((v45_1.toInt64) + ((fX2_s4 U45 (v45_1 + (1 : Int32))).toInt64)) := ez59
                obtain ⟨Q60, h0, h⟩ := h
                have hFc := cfree hR hA
                refine va_callv (va_runV (As := [.int 167, .long ((v45_1.toInt64) + ((fX2_s4 U45 (v45_1 + (1 : Int32))).toInt64))]) (rest := []) ⟨hx, hb, hml, hown, hts⟩ (rX2_set l g ad H.size U45 (167 : Int32) ((v45_1.toInt64) + ((fX2_s4 U45 (v45_1 + (1 : Int32))).toInt64)) hR.w  Q60 h0) (cwV 2 hts (gd_V kw_684 kw_793 kw_794 kw_389 kw_792) rfl rfl rfl (by decide +kernel) ⟨Nat.le_of_ble_eq_true rfl, Nat.le_of_ble_eq_true rfl⟩) ⟨cblind, va_recv hR.K hR.P (ci := 2) (q0 := 8) rfl (hR.at42 (hR.w.2.1 _ finC_26).2.1), fun U hU hW9 => cmk hU hW9 hR hex hE hFc⟩ rfl rfl hl.1 rfl (lv_room (Nat.le_of_ble_eq_true rfl)) dX2_decode_164 ⟨Nat.le_of_ble_eq_true rfl, Nat.le_of_ble_eq_true rfl⟩) hR.sS (fun q _ h => hFc q h) hFc (fun  S61 t9 H1 locs ht9 hvm9 hw9 hB9 hz9 hk9 hS => ?_)
                obtain ⟨hq62, hw9, hs9⟩ := hw9
                have hR : RepC g ad A s S61 H1 locs := hR.call ht9 hB9 hw9 hS hFc
                have hsh := hsh.tr hs9
                replace h := h  S61 hq62 hw9 hs9
                clear hB9 hz9 hk9 hvm9 ht9 hw9 hs9 hS
                generalize H1 = H at hR ⊢
                refine lv_goto (tgt := 252) hx hb dX2_decode_167 (by decide) ?_
                exact W.vret hx hb hr (fun t9 ht9 hW9 => ⟨⟨S61, rfl, ⟨h, hR.w, hsh⟩, ⟨by rw [ht9]; exact hR.P, hR.D⟩⟩, hR.sS.F ht9⟩) hR.sS.2.2 dX2_decode_252
            · replace h := h.1 (k_eq rfl (by decide) c16)
              refine lv_aload_n hx hb dX2_decode_125 rfl (lv_at hl 0 rfl) ?_
              refine lv_bipush (v := 19) hx hb dX2_decode_126 (by decide) ?_
              refine lv_aload_n hx hb dX2_decode_128 rfl (lv_at hl 0 rfl) ?_
              refine lv_iload_n hx hb dX2_decode_129 rfl (lv_at hl 1 rfl) ?_
              refine lv_iconst (v := 1) hx hb dX2_decode_130 (by decide) ?_
              refine lv_iadd hx hb dX2_decode_131 ?_
              refine lv_topi (fun z63 ez63 => ?_)
              obtain rfl : z63 = (v45_1 + (1 : Int32)) := ez63
              obtain ⟨hv64, h⟩ := h
              have hFc := cfree hR hA
              refine va_calli (va_runV (As := [.int (v45_1 + (1 : Int32))]) (rest := [.int 19, .ref (ad 8)]) ⟨hx, hb, hml, hown, hts⟩ (rX2_u1 l g ad H.size U45 (v45_1 + (1 : Int32)) hR.w  hv64) (cwV 1 hts (gd_V kw_682 kw_812 kw_813 kw_389 kw_811) rfl rfl rfl (by decide +kernel) ⟨Nat.le_of_ble_eq_true rfl, Nat.le_of_ble_eq_true rfl⟩) ⟨cblind, va_recv hR.K hR.P (ci := 2) (q0 := 8) rfl (hR.at42 (hR.w.2.1 _ finC_26).2.1), fun U hU hW9 => cmk hU hW9 hR hex hE hFc⟩ rfl rfl hl.1 rfl (lv_room (Nat.le_of_ble_eq_true rfl)) dX2_decode_132 ⟨Nat.le_of_ble_eq_true rfl, Nat.le_of_ble_eq_true rfl⟩) hR.sS (fun q _ h => hFc q h) hFc (fun r65 u9 t9 H1 locs ht9 hvm9 hw9 hB9 hz9 hk9 hS => ?_)
              have hR : RepC g ad A s U45 H1 locs := hR.call ht9 hB9 hR.w hS hFc
              obtain rfl : r65 = (fX2_u1 U45 (v45_1 + (1 : Int32))) := hw9
              clear hB9 hz9 hk9 hvm9 ht9 hS
              generalize H1 = H at hR ⊢
              refine lv_i2l (v := ((fX2_u1 U45 (v45_1 + (1 : Int32))).toInt64)) hx hb dX2_decode_135 rfl ?_
              obtain ⟨Q67, h0, h⟩ := h
              have hFc := cfree hR hA
              refine va_callv (va_runV (As := [.int 19, .long ((fX2_u1 U45 (v45_1 + (1 : Int32))).toInt64)]) (rest := []) ⟨hx, hb, hml, hown, hts⟩ (rX2_set l g ad H.size U45 (19 : Int32) ((fX2_u1 U45 (v45_1 + (1 : Int32))).toInt64) hR.w  Q67 h0) (cwV 2 hts (gd_V kw_684 kw_793 kw_794 kw_389 kw_792) rfl rfl rfl (by decide +kernel) ⟨Nat.le_of_ble_eq_true rfl, Nat.le_of_ble_eq_true rfl⟩) ⟨cblind, va_recv hR.K hR.P (ci := 2) (q0 := 8) rfl (hR.at42 (hR.w.2.1 _ finC_26).2.1), fun U hU hW9 => cmk hU hW9 hR hex hE hFc⟩ rfl rfl hl.1 rfl (lv_room (Nat.le_of_ble_eq_true rfl)) dX2_decode_136 ⟨Nat.le_of_ble_eq_true rfl, Nat.le_of_ble_eq_true rfl⟩) hR.sS (fun q _ h => hFc q h) hFc (fun  S68 t9 H1 locs ht9 hvm9 hw9 hB9 hz9 hk9 hS => ?_)
              obtain ⟨hq69, hw9, hs9⟩ := hw9
              have hR : RepC g ad A s S68 H1 locs := hR.call ht9 hB9 hw9 hS hFc
              have hsh := hsh.tr hs9
              replace h := h  S68 hq69 hw9 hs9
              clear hB9 hz9 hk9 hvm9 ht9 hw9 hs9 hS
              generalize H1 = H at hR ⊢
              refine lv_goto (tgt := 252) hx hb dX2_decode_139 (by decide) ?_
              exact W.vret hx hb hr (fun t9 ht9 hW9 => ⟨⟨S68, rfl, ⟨h, hR.w, hsh⟩, ⟨by rw [ht9]; exact hR.P, hR.D⟩⟩, hR.sS.F ht9⟩) hR.sS.2.2 dX2_decode_252
          · replace h := h.1 (k_eq rfl (by decide) c15)
            refine lv_aload_n hx hb dX2_decode_101 rfl (lv_at hl 0 rfl) ?_
            refine lv_bipush (v := 17) hx hb dX2_decode_102 (by decide) ?_
            refine lv_aload_n hx hb dX2_decode_104 rfl (lv_at hl 0 rfl) ?_
            refine lv_iload_n hx hb dX2_decode_105 rfl (lv_at hl 1 rfl) ?_
            refine lv_iconst (v := 1) hx hb dX2_decode_106 (by decide) ?_
            refine lv_iadd hx hb dX2_decode_107 ?_
            refine lv_topi (fun z70 ez70 => ?_)
            obtain rfl : z70 = (v45_1 + (1 : Int32)) := ez70
            obtain ⟨hv71, h⟩ := h
            have hFc := cfree hR hA
            refine va_calli (va_runV (As := [.int (v45_1 + (1 : Int32))]) (rest := [.int 17, .ref (ad 8)]) ⟨hx, hb, hml, hown, hts⟩ (rX2_u2 l g ad H.size U45 (v45_1 + (1 : Int32)) hR.w  hv71) (cwV 1 hts (gd_V kw_685 kw_816 kw_817 kw_389 kw_815) rfl rfl rfl (by decide +kernel) ⟨Nat.le_of_ble_eq_true rfl, Nat.le_of_ble_eq_true rfl⟩) ⟨cblind, va_recv hR.K hR.P (ci := 2) (q0 := 8) rfl (hR.at42 (hR.w.2.1 _ finC_26).2.1), fun U hU hW9 => cmk hU hW9 hR hex hE hFc⟩ rfl rfl hl.1 rfl (lv_room (Nat.le_of_ble_eq_true rfl)) dX2_decode_108 ⟨Nat.le_of_ble_eq_true rfl, Nat.le_of_ble_eq_true rfl⟩) hR.sS (fun q _ h => hFc q h) hFc (fun r72 u9 t9 H1 locs ht9 hvm9 hw9 hB9 hz9 hk9 hS => ?_)
            have hR : RepC g ad A s U45 H1 locs := hR.call ht9 hB9 hR.w hS hFc
            obtain rfl : r72 = (fX2_u2 U45 (v45_1 + (1 : Int32))) := hw9
            clear hB9 hz9 hk9 hvm9 ht9 hS
            generalize H1 = H at hR ⊢
            refine lv_i2s (v := ((fX2_u2 U45 (v45_1 + (1 : Int32))).toInt16.toInt32)) hx hb dX2_decode_111 rfl ?_
            refine lv_i2l (v := (((fX2_u2 U45 (v45_1 + (1 : Int32))).toInt16.toInt32).toInt64)) hx hb dX2_decode_112 rfl ?_
            obtain ⟨Q74, h0, h⟩ := h
            have hFc := cfree hR hA
            refine va_callv (va_runV (As := [.int 17, .long (((fX2_u2 U45 (v45_1 + (1 : Int32))).toInt16.toInt32).toInt64)]) (rest := []) ⟨hx, hb, hml, hown, hts⟩ (rX2_set l g ad H.size U45 (17 : Int32) (((fX2_u2 U45 (v45_1 + (1 : Int32))).toInt16.toInt32).toInt64) hR.w  Q74 h0) (cwV 2 hts (gd_V kw_684 kw_793 kw_794 kw_389 kw_792) rfl rfl rfl (by decide +kernel) ⟨Nat.le_of_ble_eq_true rfl, Nat.le_of_ble_eq_true rfl⟩) ⟨cblind, va_recv hR.K hR.P (ci := 2) (q0 := 8) rfl (hR.at42 (hR.w.2.1 _ finC_26).2.1), fun U hU hW9 => cmk hU hW9 hR hex hE hFc⟩ rfl rfl hl.1 rfl (lv_room (Nat.le_of_ble_eq_true rfl)) dX2_decode_113 ⟨Nat.le_of_ble_eq_true rfl, Nat.le_of_ble_eq_true rfl⟩) hR.sS (fun q _ h => hFc q h) hFc (fun  S75 t9 H1 locs ht9 hvm9 hw9 hB9 hz9 hk9 hS => ?_)
            obtain ⟨hq76, hw9, hs9⟩ := hw9
            have hR : RepC g ad A s S75 H1 locs := hR.call ht9 hB9 hw9 hS hFc
            have hsh := hsh.tr hs9
            replace h := h  S75 hq76 hw9 hs9
            clear hB9 hz9 hk9 hvm9 ht9 hw9 hs9 hS
            generalize H1 = H at hR ⊢
            refine lv_goto (tgt := 252) hx hb dX2_decode_116 (by decide) ?_
            exact W.vret hx hb hr (fun t9 ht9 hW9 => ⟨⟨S75, rfl, ⟨h, hR.w, hsh⟩, ⟨by rw [ht9]; exact hR.P, hR.D⟩⟩, hR.sS.F ht9⟩) hR.sS.2.2 dX2_decode_252
        · replace h := h.1 (k_eq rfl (by decide) c14)
          refine lv_aload_n hx hb dX2_decode_77 rfl (lv_at hl 0 rfl) ?_
          refine lv_bipush (v := 17) hx hb dX2_decode_78 (by decide) ?_
          refine lv_aload_n hx hb dX2_decode_80 rfl (lv_at hl 0 rfl) ?_
          refine lv_iload_n hx hb dX2_decode_81 rfl (lv_at hl 1 rfl) ?_
          refine lv_iconst (v := 1) hx hb dX2_decode_82 (by decide) ?_
          refine lv_iadd hx hb dX2_decode_83 ?_
          refine lv_topi (fun z77 ez77 => ?_)
          obtain rfl : z77 = (v45_1 + (1 : Int32)) := ez77
          obtain ⟨hv78, h⟩ := h
          have hFc := cfree hR hA
          refine va_calli (va_runV (As := [.int (v45_1 + (1 : Int32))]) (rest := [.int 17, .ref (ad 8)]) ⟨hx, hb, hml, hown, hts⟩ (rX2_u1 l g ad H.size U45 (v45_1 + (1 : Int32)) hR.w  hv78) (cwV 1 hts (gd_V kw_682 kw_812 kw_813 kw_389 kw_811) rfl rfl rfl (by decide +kernel) ⟨Nat.le_of_ble_eq_true rfl, Nat.le_of_ble_eq_true rfl⟩) ⟨cblind, va_recv hR.K hR.P (ci := 2) (q0 := 8) rfl (hR.at42 (hR.w.2.1 _ finC_26).2.1), fun U hU hW9 => cmk hU hW9 hR hex hE hFc⟩ rfl rfl hl.1 rfl (lv_room (Nat.le_of_ble_eq_true rfl)) dX2_decode_84 ⟨Nat.le_of_ble_eq_true rfl, Nat.le_of_ble_eq_true rfl⟩) hR.sS (fun q _ h => hFc q h) hFc (fun r79 u9 t9 H1 locs ht9 hvm9 hw9 hB9 hz9 hk9 hS => ?_)
          have hR : RepC g ad A s U45 H1 locs := hR.call ht9 hB9 hR.w hS hFc
          obtain rfl : r79 = (fX2_u1 U45 (v45_1 + (1 : Int32))) := hw9
          clear hB9 hz9 hk9 hvm9 ht9 hS
          generalize H1 = H at hR ⊢
          refine lv_i2b (v := ((fX2_u1 U45 (v45_1 + (1 : Int32))).toInt8.toInt32)) hx hb dX2_decode_87 rfl ?_
          refine lv_i2l (v := (((fX2_u1 U45 (v45_1 + (1 : Int32))).toInt8.toInt32).toInt64)) hx hb dX2_decode_88 rfl ?_
          obtain ⟨Q81, h0, h⟩ := h
          have hFc := cfree hR hA
          refine va_callv (va_runV (As := [.int 17, .long (((fX2_u1 U45 (v45_1 + (1 : Int32))).toInt8.toInt32).toInt64)]) (rest := []) ⟨hx, hb, hml, hown, hts⟩ (rX2_set l g ad H.size U45 (17 : Int32) (((fX2_u1 U45 (v45_1 + (1 : Int32))).toInt8.toInt32).toInt64) hR.w  Q81 h0) (cwV 2 hts (gd_V kw_684 kw_793 kw_794 kw_389 kw_792) rfl rfl rfl (by decide +kernel) ⟨Nat.le_of_ble_eq_true rfl, Nat.le_of_ble_eq_true rfl⟩) ⟨cblind, va_recv hR.K hR.P (ci := 2) (q0 := 8) rfl (hR.at42 (hR.w.2.1 _ finC_26).2.1), fun U hU hW9 => cmk hU hW9 hR hex hE hFc⟩ rfl rfl hl.1 rfl (lv_room (Nat.le_of_ble_eq_true rfl)) dX2_decode_89 ⟨Nat.le_of_ble_eq_true rfl, Nat.le_of_ble_eq_true rfl⟩) hR.sS (fun q _ h => hFc q h) hFc (fun  S82 t9 H1 locs ht9 hvm9 hw9 hB9 hz9 hk9 hS => ?_)
          obtain ⟨hq83, hw9, hs9⟩ := hw9
          have hR : RepC g ad A s S82 H1 locs := hR.call ht9 hB9 hw9 hS hFc
          have hsh := hsh.tr hs9
          replace h := h  S82 hq83 hw9 hs9
          clear hB9 hz9 hk9 hvm9 ht9 hw9 hs9 hS
          generalize H1 = H at hR ⊢
          refine lv_goto (tgt := 252) hx hb dX2_decode_92 (by decide) ?_
          exact W.vret hx hb hr (fun t9 ht9 hW9 => ⟨⟨S82, rfl, ⟨h, hR.w, hsh⟩, ⟨by rw [ht9]; exact hR.P, hR.D⟩⟩, hR.sS.F ht9⟩) hR.sS.2.2 dX2_decode_252
      · replace h := h.1 (k_eq rfl (by decide) c13)
        exact J_57 U45 v45_2 _ _ ls h  hsh hR (lv_sub hl [0, 2] rfl)
  refine lv_icmp_lt (tgt := 45) hx hb dX2_decode_23 (by decide) (fun c84 => ?_) (fun c84 => ?_)
  · replace h := h.1 (k_lt rfl (by decide) c84)
    exact J_45 S7 x1 a4 _ _ ls h  hsh hR (lv_sub hl [1, 2, 0] rfl)
  · replace h := h.2 (k_nlt rfl (by decide) c84)
    refine lv_iload_n hx hb dX2_decode_26 rfl (lv_at hl 0 rfl) ?_
    refine lv_bipush (v := 8) hx hb dX2_decode_27 (by decide) ?_
    refine lv_icmp_gt (tgt := 45) hx hb dX2_decode_29 (by decide) (fun c85 => ?_) (fun c85 => ?_)
    · replace h := h.1 (k_lt (by decide) rfl c85)
      exact J_45 S7 x1 a4 _ _ ls h  hsh hR (lv_sub hl [1, 2, 0] rfl)
    · replace h := h.2 (k_nlt (by decide) rfl c85)
      refine lv_aload_n hx hb dX2_decode_32 rfl (lv_at hl 1 rfl) ?_
      refine lv_bipush (v := 17) hx hb dX2_decode_33 (by decide) ?_
      refine lv_iload_n hx hb dX2_decode_35 rfl (lv_at hl 0 rfl) ?_
      refine lv_iconst (v := 3) hx hb dX2_decode_36 (by decide) ?_
      refine lv_isub hx hb dX2_decode_37 ?_
      refine lv_topi (fun z86 ez86 => ?_)
      obtain rfl : z86 = (a4 - (3 : Int32)) := ez86
      refine lv_i2l (v := ((a4 - (3 : Int32)).toInt64)) hx hb dX2_decode_38 rfl ?_
      obtain ⟨Q87, h0, h⟩ := h
      have hFc := cfree hR hA
      refine va_callv (va_runV (As := [.int 17, .long ((a4 - (3 : Int32)).toInt64)]) (rest := []) ⟨hx, hb, hml, hown, hts⟩ (rX2_set l g ad H.size S7 (17 : Int32) ((a4 - (3 : Int32)).toInt64) hR.w  Q87 h0) (cwV 2 hts (gd_V kw_684 kw_793 kw_794 kw_389 kw_792) rfl rfl rfl (by decide +kernel) ⟨Nat.le_of_ble_eq_true rfl, Nat.le_of_ble_eq_true rfl⟩) ⟨cblind, va_recv hR.K hR.P (ci := 2) (q0 := 8) rfl (hR.at42 (hR.w.2.1 _ finC_26).2.1), fun U hU hW9 => cmk hU hW9 hR hex hE hFc⟩ rfl rfl hl.1 rfl (lv_room (Nat.le_of_ble_eq_true rfl)) dX2_decode_39 ⟨Nat.le_of_ble_eq_true rfl, Nat.le_of_ble_eq_true rfl⟩) hR.sS (fun q _ h => hFc q h) hFc (fun  S88 t9 H1 locs ht9 hvm9 hw9 hB9 hz9 hk9 hS => ?_)
      obtain ⟨hq89, hw9, hs9⟩ := hw9
      have hR : RepC g ad A s S88 H1 locs := hR.call ht9 hB9 hw9 hS hFc
      have hsh := hsh.tr hs9
      replace h := h  S88 hq89 hw9 hs9
      clear hB9 hz9 hk9 hvm9 ht9 hw9 hs9 hS
      generalize H1 = H at hR ⊢
      refine lv_goto (tgt := 252) hx hb dX2_decode_42 (by decide) ?_
      exact W.vret hx hb hr (fun t9 ht9 hW9 => ⟨⟨S88, rfl, ⟨h, hR.w, hsh⟩, ⟨by rw [ht9]; exact hR.P, hR.D⟩⟩, hR.sS.F ht9⟩) hR.sS.2.2 dX2_decode_252
def w_X2_numberInstructions_J67 (Q : MS → Prop) (U67 : MS) : Prop := (wfC U67 → (((qI U67 8 2).toInt < 0 → Q U67) ∧ (¬ (qI U67 8 2).toInt < 0 → ((1201 ≤ (qI U67 8 2).toInt → Q U67) ∧ (¬ 1201 ≤ (qI U67 8 2).toInt → (((0 : Int) ≤ (qI U67 8 2).toInt ∧ (qI U67 8 2).toInt < 1201) ∧ (∀ S8, S8 = wI U67 15 (((qI U67 8 2).toInt).toNat) (qI U67 8 8) → qT U67 15 = 201 → wfC S8 → Q S8)))))))
def w_X2_numberInstructions_L15 (Q : MS → Prop) : Nat → MS → Int32 → Prop
  | 0, _, _ => False
  | n15 + 1, U15, v15_1 => (wfC U15 → (((qI U15 8 2).toInt ≤ v15_1.toInt → w_X2_numberInstructions_J67 Q U15) ∧ (¬ (qI U15 8 2).toInt ≤ v15_1.toInt → ((1201 ≤ v15_1.toInt → w_X2_numberInstructions_J67 Q U15) ∧ (¬ 1201 ≤ v15_1.toInt → (((0 : Int) ≤ v15_1.toInt ∧ v15_1.toInt < 1201) ∧ (∀ S12, S12 = wI U15 15 v15_1.toInt.toNat (qI U15 8 8) → qT U15 15 = 201 → wfC S12 → (∀ S14, S14 = wI S12 8 8 ((qI S12 8 8) + (1 : Int32)) → qT S12 8 = 42 → wfC S14 → (∃ Q15, wX2_lengthAt S14 v15_1 Q15 ∧ ∀ r16 S17, Q15 r16 S17 → wfC S17 → shy S14 S17 → (∀ a21 : Int32, a21 = (v15_1 + (if (1 : Int32) < r16 then r16 else (1 : Int32))) → (w_X2_numberInstructions_L15 Q n15) S17 a21))))))))))
def wX2_numberInstructions (S : MS) (Q : MS → Prop) : Prop := (qT S 15 = 201 → (∃ Q1, wJ7_fill_53178 S 15 (-1 : Int32) Q1 ∧ ∀ S2, Q1 S2 → wfC S2 → shy S S2 → (∀ S4, S4 = wI S2 8 8 (0 : Int32) → qT S2 8 = 42 → wfC S4 → (∃ n, w_X2_numberInstructions_L15 Q n S4 0))))
set_option maxHeartbeats 2000000 in
set_option maxRecDepth 100000 in
theorem rX2_numberInstructions (l : Launch) (g : Gr) (ad : Nat → Nat) (sz : Nat) (S : MS) (hw : wfC S) (Q : MS → Prop) (h : wX2_numberInstructions S Q) : Met l yX2_numberInstructions (wt yX2_numberInstructions cX2_numberInstructions 2 none) ({ frames := 4, cells := 0, slots := 0, locals := 88 }) (va_Pc [.ref (ad 8)] (st_C g ad sz S)) (va_Qv (fun (u : MS) => Q u ∧ wfC u ∧ shy S u) (fun (u : MS) (t : State) => qEC g ad (va_A (WdC g ad S) sz) u t) (va_A (WdC g ad S) sz)) 0 0 (va_A (WdC g ad S) sz) := by
  refine Met.ofW (cc := cX2_numberInstructions) (maxL := 2) (ret := none) (by decide) rfl ?_
  intro p e s m args below meth c s₁ B hml hv
  obtain ⟨rfl, hsz, hP, hK, hD0, hex, hE⟩ := hv
  have hx := B.exec
  have hb := B.bytes
  have hr := B.returns
  have hts0 := atoms_spec (ws := wt yX2_numberInstructions cX2_numberInstructions 2 none) B.pre
  have hts : ∀ w ∈ tb, w.before _ s = true := fun w h => hts0 w (List.mem_cons_of_mem _ h)
  have hown : s.vm.findClass RX2 = some m.cls := findClass_of_methodNamed B.named
  subst hsz
  have hD := hD0.self (sz := s.heap.size)
  generalize hAe : va_A (WdC g ad S) s.heap.size = A at hD hE ⊢
  have hA : ∀ q : Nat, s.heap.size ≤ q → A q := fun q h => by rw [← hAe]; exact Or.inr h
  have hR : RepC g ad A s S s.heap [] := ⟨hK, hP, hD, va_S.rf, hw⟩
  clear hK hP hD hD0
  have hl := lv_entry ([.ref (ad 8)]) (n := 2) (Nat.le_of_ble_eq_true rfl)
  rw [lg_entry_eq]
  generalize (lg_sl ([.ref (ad 8)]) ++ List.replicate (2 - (lg_sl ([.ref (ad 8)])).length) Slot.unset).toArray = ls at hl ⊢
  have hl : lv_has ls 2 [(0, .ref (ad 8))] := hl
  have hsh : shy S S := shy.rf
  unfold wX2_numberInstructions at h
  refine lv_aload_n hx hb dX2_numberInstructions_0 rfl (lv_at hl 0 rfl) ?_
  refine va_get (D := rD g) (ci := 2) (v := .ref (ad 15)) (C := RX2) (T := TX2) (N := 12) hx hb hts inX2 hown hR.K hR.P 8 (hR.at42 (hR.w.2.1 _ finC_26).2.1) rfl 7 (by decide) (hts _ kw_711) (fun _ h9 => h9) (congrArg (fun z => some (vf ad z)) (hR.w.2.1 _ finC_3).1) dX2_numberInstructions_1 ?_
  refine lv_iconst (v := (-1)) hx hb dX2_numberInstructions_4 (by decide) ?_
  replace h := h ((hR.w.2.1 _ finC_3).2.1)
  obtain ⟨Q1, h0, h⟩ := h
  have hFc := cfree hR hA
  refine va_callv (va_runS (As := [.ref (ad 15), .int (-1)]) (rest := []) ⟨hx, hb, hml, hown, hts⟩ (rJ7_fill_53178 l g ad s.heap.size S 15 (-1 : Int32) hR.w (by decide) (hR.w.2.1 _ finC_3).2.1 Q1 h0) (va_cwS 2 hts (gd_S kw_757 kw_1722 kw_1723 kw_1721) rfl rfl rfl (by decide +kernel) ⟨Nat.le_of_ble_eq_true rfl, Nat.le_of_ble_eq_true rfl⟩) ⟨cblind, fun U hU hW9 => cmk hU hW9 hR hex hE hFc⟩ rfl rfl hl.1 rfl (lv_room (Nat.le_of_ble_eq_true rfl)) dX2_numberInstructions_5 ⟨Nat.le_of_ble_eq_true rfl, Nat.le_of_ble_eq_true rfl⟩) hR.sS (fun q _ h => hFc q h) hFc (fun  S2 t9 H1 locs ht9 hvm9 hw9 hB9 hz9 hk9 hS => ?_)
  obtain ⟨hq3, hw9, hs9⟩ := hw9
  have hR : RepC g ad A s S2 H1 locs := hR.call ht9 hB9 hw9 hS hFc
  have hsh := hsh.tr hs9
  replace h := h  S2 hq3 hw9 hs9
  clear hB9 hz9 hk9 hvm9 ht9 hw9 hs9 hS
  generalize H1 = H at hR ⊢
  refine lv_aload_n hx hb dX2_numberInstructions_8 rfl (lv_at hl 0 rfl) ?_
  refine lv_iconst (v := 0) hx hb dX2_numberInstructions_9 (by decide) ?_
  refine va_put (D := rD g) (ci := 2) (v := .int 0) (ty := .int) (C := RX2) (T := TX2) (N := 12) hx hb hts inX2 tyX2 tyX2_ok nmX2 hown hR.K hR.P hR.D hR.sS 8 (hR.at42 (hR.w.2.1 _ finC_26).2.1) rfl 8 (by decide) (hts _ kw_758) (fun _ h9 => h9) rfl (by decide +kernel) rfl rfl (Nat.le_of_ble_eq_true rfl) dX2_numberInstructions_10 (fun H locs hP hD hS => ?_)
  have hTk9 : qT S2 8 = 42 := (hR.w.2.1 _ finC_26).2.1
  have hR : RepC g ad A s (wI S2 8 8 (0 : Int32)) H locs := hR.pI42 (hR.w.2.1 _ finC_26).2.1 FX2_s8 (fun q9 => absurd q9 (by decide)) hP hD hS
  obtain ⟨S4, eS4⟩ : ∃ z, z = wI S2 8 8 (0 : Int32) := ⟨_, rfl⟩
  rw [← eS4] at hR
  replace h := h S4 eS4 hTk9 hR.w
  have hsh : shy S S4 := by rw [eS4]; exact hsh
  refine lv_iconst (v := 0) hx hb dX2_numberInstructions_13 (by decide) ?_
  refine lv_istore_n (lv' := [(1, .int 0), (0, .ref (ad 8))]) hx hb dX2_numberInstructions_14 rfl hl (by decide) rfl (fun ls hl => ?_)
  have J_15 : ∀ (n15 : Nat) (U15 : MS) (v15_1 : Int32) (H : Heap) (locs : List Loc) (ls : Array Slot), w_X2_numberInstructions_L15 Q n15 U15 v15_1 → shy S U15 → RepC g ad A s U15 H locs → lv_has ls 2 [(0, .ref (ad 8)), (1, .int v15_1)] → W p l e (headSpec (wt yX2_numberInstructions cX2_numberInstructions 2 none) ({ frames := 4, cells := 0, slots := 0, locals := 88 })).room s m ([.ref (ad 8)] : List Value).toArray below meth c H locs 0 0 (MQ below (va_Qv (fun (u : MS) => Q u ∧ wfC u ∧ shy S u) (fun (u : MS) (t : State) => qEC g ad A u t) A) ([.ref (ad 8)] : List Value).toArray s 0 0 A) (F0 m 15 ls []) := by
    intro n15
    induction n15 with
    | zero => intro U15 v15_1 H locs ls h hsh hR hl; unfold w_X2_numberInstructions_L15 at h; exact h.elim
    | succ n15 ih_15 =>
      intro U15 v15_1 H locs ls h hsh hR hl
      unfold w_X2_numberInstructions_L15 at h
      replace h := h hR.w
      refine lv_iload_n hx hb dX2_numberInstructions_15 rfl (lv_at hl 1 rfl) ?_
      refine lv_aload_n hx hb dX2_numberInstructions_16 rfl (lv_at hl 0 rfl) ?_
      refine va_get (D := rD g) (ci := 2) (v := .int (qI U15 8 2)) (C := RX2) (T := TX2) (N := 12) hx hb hts inX2 hown hR.K hR.P 8 (hR.at42 (hR.w.2.1 _ finC_26).2.1) rfl 2 (by decide) (hts _ kw_716) (fun _ h9 => h9) rfl dX2_numberInstructions_17 ?_
      have J_67 : ∀ (U67 : MS) (H : Heap) (locs : List Loc) (ls : Array Slot), w_X2_numberInstructions_J67 Q U67 → shy S U67 → RepC g ad A s U67 H locs → lv_has ls 2 [(0, .ref (ad 8))] → W p l e (headSpec (wt yX2_numberInstructions cX2_numberInstructions 2 none) ({ frames := 4, cells := 0, slots := 0, locals := 88 })).room s m ([.ref (ad 8)] : List Value).toArray below meth c H locs 0 0 (MQ below (va_Qv (fun (u : MS) => Q u ∧ wfC u ∧ shy S u) (fun (u : MS) (t : State) => qEC g ad A u t) A) ([.ref (ad 8)] : List Value).toArray s 0 0 A) (F0 m 67 ls []) := by
        intro U67 H locs ls h hsh hR hl
        unfold w_X2_numberInstructions_J67 at h
        replace h := h hR.w
        refine lv_aload_n hx hb dX2_numberInstructions_67 rfl (lv_at hl 0 rfl) ?_
        refine va_get (D := rD g) (ci := 2) (v := .int (qI U67 8 2)) (C := RX2) (T := TX2) (N := 12) hx hb hts inX2 hown hR.K hR.P 8 (hR.at42 (hR.w.2.1 _ finC_26).2.1) rfl 2 (by decide) (hts _ kw_716) (fun _ h9 => h9) rfl dX2_numberInstructions_68 ?_
        refine lv_if_lt (tgt := 99) hx hb dX2_numberInstructions_71 (by decide) (fun c5 => ?_) (fun c5 => ?_)
        · replace h := h.1 (k_lt rfl (by decide) c5)
          exact W.vret hx hb hr (fun t9 ht9 hW9 => ⟨⟨U67, rfl, ⟨h, hR.w, hsh⟩, ⟨by rw [ht9]; exact hR.P, hR.D⟩⟩, hR.sS.F ht9⟩) hR.sS.2.2 dX2_numberInstructions_99
        · replace h := h.2 (k_nlt rfl (by decide) c5)
          refine lv_aload_n hx hb dX2_numberInstructions_74 rfl (lv_at hl 0 rfl) ?_
          refine va_get (D := rD g) (ci := 2) (v := .int (qI U67 8 2)) (C := RX2) (T := TX2) (N := 12) hx hb hts inX2 hown hR.K hR.P 8 (hR.at42 (hR.w.2.1 _ finC_26).2.1) rfl 2 (by decide) (hts _ kw_716) (fun _ h9 => h9) rfl dX2_numberInstructions_75 ?_
          refine lv_aload_n hx hb dX2_numberInstructions_78 rfl (lv_at hl 0 rfl) ?_
          refine va_get (D := rD g) (ci := 2) (v := .ref (ad 15)) (C := RX2) (T := TX2) (N := 12) hx hb hts inX2 hown hR.K hR.P 8 (hR.at42 (hR.w.2.1 _ finC_26).2.1) rfl 7 (by decide) (hts _ kw_711) (fun _ h9 => h9) (congrArg (fun z => some (vf ad z)) (hR.w.2.1 _ finC_3).1) dX2_numberInstructions_79 ?_
          refine va_alen (v := 1201) hx hb hR.K hR.P 15 1 (hR.atI (hR.w.2.1 _ finC_3).2.1 (by decide)) rfl (by rw [(hR.w.2.1 _ finC_3).2.2]; rfl) dX2_numberInstructions_82 ?_
          refine lv_icmp_ge (tgt := 99) hx hb dX2_numberInstructions_83 (by decide) (fun c6 => ?_) (fun c6 => ?_)
          · replace h := h.1 (k_le (by decide) rfl c6)
            exact W.vret hx hb hr (fun t9 ht9 hW9 => ⟨⟨U67, rfl, ⟨h, hR.w, hsh⟩, ⟨by rw [ht9]; exact hR.P, hR.D⟩⟩, hR.sS.F ht9⟩) hR.sS.2.2 dX2_numberInstructions_99
          · replace h := h.2 (k_nle (by decide) rfl c6)
            refine lv_aload_n hx hb dX2_numberInstructions_86 rfl (lv_at hl 0 rfl) ?_
            refine va_get (D := rD g) (ci := 2) (v := .ref (ad 15)) (C := RX2) (T := TX2) (N := 12) hx hb hts inX2 hown hR.K hR.P 8 (hR.at42 (hR.w.2.1 _ finC_26).2.1) rfl 7 (by decide) (hts _ kw_711) (fun _ h9 => h9) (congrArg (fun z => some (vf ad z)) (hR.w.2.1 _ finC_3).1) dX2_numberInstructions_87 ?_
            refine lv_aload_n hx hb dX2_numberInstructions_90 rfl (lv_at hl 0 rfl) ?_
            refine va_get (D := rD g) (ci := 2) (v := .int (qI U67 8 2)) (C := RX2) (T := TX2) (N := 12) hx hb hts inX2 hown hR.K hR.P 8 (hR.at42 (hR.w.2.1 _ finC_26).2.1) rfl 2 (by decide) (hts _ kw_716) (fun _ h9 => h9) rfl dX2_numberInstructions_91 ?_
            refine lv_aload_n hx hb dX2_numberInstructions_94 rfl (lv_at hl 0 rfl) ?_
            refine va_get (D := rD g) (ci := 2) (v := .int (qI U67 8 8)) (C := RX2) (T := TX2) (N := 12) hx hb hts inX2 hown hR.K hR.P 8 (hR.at42 (hR.w.2.1 _ finC_26).2.1) rfl 8 (by decide) (hts _ kw_758) (fun _ h9 => h9) rfl dX2_numberInstructions_95 ?_
            obtain ⟨hv7, h⟩ := h
            refine va_iast hx hb hR.K hR.P hR.D hR.sS 15 1 (hR.atI (hR.w.2.1 _ finC_3).2.1 (by decide)) rfl (k_ixN (k_ix (n := 1201) (x := (qI U67 8 2)) (a := (qI U67 8 2).toInt) rfl hv7) (hR.w.2.1 _ finC_3).2.2) dX2_numberInstructions_98 (fun H locs hP hD hS => ?_)
            have hTk9 : qT U67 15 = 201 := (hR.w.2.1 _ finC_3).2.1
            have hR : RepC g ad A s (wI U67 15 (((qI U67 8 2).toInt).toNat) (qI U67 8 8)) H locs := hR.aI (hR.w.2.1 _ finC_3).2.1 (by decide) hP hD hS
            obtain ⟨S8, eS8⟩ : ∃ z, z = wI U67 15 (((qI U67 8 2).toInt).toNat) (qI U67 8 8) := ⟨_, rfl⟩
            rw [← eS8] at hR
            replace h := h S8 eS8 hTk9 hR.w
            have hsh : shy S S8 := by rw [eS8]; exact hsh
            exact W.vret hx hb hr (fun t9 ht9 hW9 => ⟨⟨S8, rfl, ⟨h, hR.w, hsh⟩, ⟨by rw [ht9]; exact hR.P, hR.D⟩⟩, hR.sS.F ht9⟩) hR.sS.2.2 dX2_numberInstructions_99
      refine lv_icmp_ge (tgt := 67) hx hb dX2_numberInstructions_20 (by decide) (fun c9 => ?_) (fun c9 => ?_)
      · replace h := h.1 (k_le rfl rfl c9)
        exact J_67 U15 _ _ ls h  hsh hR (lv_sub hl [0] rfl)
      · replace h := h.2 (k_nle rfl rfl c9)
        refine lv_iload_n hx hb dX2_numberInstructions_23 rfl (lv_at hl 1 rfl) ?_
        refine lv_aload_n hx hb dX2_numberInstructions_24 rfl (lv_at hl 0 rfl) ?_
        refine va_get (D := rD g) (ci := 2) (v := .ref (ad 15)) (C := RX2) (T := TX2) (N := 12) hx hb hts inX2 hown hR.K hR.P 8 (hR.at42 (hR.w.2.1 _ finC_26).2.1) rfl 7 (by decide) (hts _ kw_711) (fun _ h9 => h9) (congrArg (fun z => some (vf ad z)) (hR.w.2.1 _ finC_3).1) dX2_numberInstructions_25 ?_
        refine va_alen (v := 1201) hx hb hR.K hR.P 15 1 (hR.atI (hR.w.2.1 _ finC_3).2.1 (by decide)) rfl (by rw [(hR.w.2.1 _ finC_3).2.2]; rfl) dX2_numberInstructions_28 ?_
        refine lv_icmp_ge (tgt := 67) hx hb dX2_numberInstructions_29 (by decide) (fun c10 => ?_) (fun c10 => ?_)
        · replace h := h.1 (k_le (by decide) rfl c10)
          exact J_67 U15 _ _ ls h  hsh hR (lv_sub hl [0] rfl)
        · replace h := h.2 (k_nle (by decide) rfl c10)
          refine lv_aload_n hx hb dX2_numberInstructions_32 rfl (lv_at hl 0 rfl) ?_
          refine va_get (D := rD g) (ci := 2) (v := .ref (ad 15)) (C := RX2) (T := TX2) (N := 12) hx hb hts inX2 hown hR.K hR.P 8 (hR.at42 (hR.w.2.1 _ finC_26).2.1) rfl 7 (by decide) (hts _ kw_711) (fun _ h9 => h9) (congrArg (fun z => some (vf ad z)) (hR.w.2.1 _ finC_3).1) dX2_numberInstructions_33 ?_
          refine lv_iload_n hx hb dX2_numberInstructions_36 rfl (lv_at hl 1 rfl) ?_
          refine lv_aload_n hx hb dX2_numberInstructions_37 rfl (lv_at hl 0 rfl) ?_
          refine va_get (D := rD g) (ci := 2) (v := .int (qI U15 8 8)) (C := RX2) (T := TX2) (N := 12) hx hb hts inX2 hown hR.K hR.P 8 (hR.at42 (hR.w.2.1 _ finC_26).2.1) rfl 8 (by decide) (hts _ kw_758) (fun _ h9 => h9) rfl dX2_numberInstructions_38 ?_
          obtain ⟨hv11, h⟩ := h
          refine va_iast hx hb hR.K hR.P hR.D hR.sS 15 1 (hR.atI (hR.w.2.1 _ finC_3).2.1 (by decide)) rfl (k_ixN (k_ix (n := 1201) (x := v15_1) (a := v15_1.toInt) rfl hv11) (hR.w.2.1 _ finC_3).2.2) dX2_numberInstructions_41 (fun H locs hP hD hS => ?_)
          have hTk9 : qT U15 15 = 201 := (hR.w.2.1 _ finC_3).2.1
          have hR : RepC g ad A s (wI U15 15 v15_1.toInt.toNat (qI U15 8 8)) H locs := hR.aI (hR.w.2.1 _ finC_3).2.1 (by decide) hP hD hS
          obtain ⟨S12, eS12⟩ : ∃ z, z = wI U15 15 v15_1.toInt.toNat (qI U15 8 8) := ⟨_, rfl⟩
          rw [← eS12] at hR
          replace h := h S12 eS12 hTk9 hR.w
          have hsh : shy S S12 := by rw [eS12]; exact hsh
          refine lv_aload_n hx hb dX2_numberInstructions_42 rfl (lv_at hl 0 rfl) ?_
          refine lv_dup hx hb dX2_numberInstructions_43 rfl ?_
          refine va_get (D := rD g) (ci := 2) (v := .int (qI S12 8 8)) (C := RX2) (T := TX2) (N := 12) hx hb hts inX2 hown hR.K hR.P 8 (hR.at42 (hR.w.2.1 _ finC_26).2.1) rfl 8 (by decide) (hts _ kw_758) (fun _ h9 => h9) rfl dX2_numberInstructions_44 ?_
          refine lv_iconst (v := 1) hx hb dX2_numberInstructions_47 (by decide) ?_
          refine lv_iadd hx hb dX2_numberInstructions_48 ?_
          refine lv_topi (fun z13 ez13 => ?_)
          obtain rfl : z13 = ((qI S12 8 8) + (1 : Int32)) := ez13
          refine va_put (D := rD g) (ci := 2) (v := .int ((qI S12 8 8) + (1 : Int32))) (ty := .int) (C := RX2) (T := TX2) (N := 12) hx hb hts inX2 tyX2 tyX2_ok nmX2 hown hR.K hR.P hR.D hR.sS 8 (hR.at42 (hR.w.2.1 _ finC_26).2.1) rfl 8 (by decide) (hts _ kw_758) (fun _ h9 => h9) rfl (by decide +kernel) rfl rfl (Nat.le_of_ble_eq_true rfl) dX2_numberInstructions_49 (fun H locs hP hD hS => ?_)
          have hTk9 : qT S12 8 = 42 := (hR.w.2.1 _ finC_26).2.1
          have hR : RepC g ad A s (wI S12 8 8 ((qI S12 8 8) + (1 : Int32))) H locs := hR.pI42 (hR.w.2.1 _ finC_26).2.1 FX2_s8 (fun q9 => absurd q9 (by decide)) hP hD hS
          obtain ⟨S14, eS14⟩ : ∃ z, z = wI S12 8 8 ((qI S12 8 8) + (1 : Int32)) := ⟨_, rfl⟩
          rw [← eS14] at hR
          replace h := h S14 eS14 hTk9 hR.w
          have hsh : shy S S14 := by rw [eS14]; exact hsh
          refine lv_iload_n hx hb dX2_numberInstructions_52 rfl (lv_at hl 1 rfl) ?_
          refine lv_iconst (v := 1) hx hb dX2_numberInstructions_53 (by decide) ?_
          refine lv_aload_n hx hb dX2_numberInstructions_54 rfl (lv_at hl 0 rfl) ?_
          refine lv_iload_n hx hb dX2_numberInstructions_55 rfl (lv_at hl 1 rfl) ?_
          obtain ⟨Q15, h0, h⟩ := h
          have hFc := cfree hR hA
          refine va_calli (va_runV (As := [.int v15_1]) (rest := [.int 1, .int v15_1]) ⟨hx, hb, hml, hown, hts⟩ (rX2_lengthAt l g ad H.size S14 v15_1 hR.w  Q15 h0) (cwV 1 hts (gd_V kw_717 kw_723 kw_724 kw_389 kw_722) rfl rfl rfl (by decide +kernel) ⟨Nat.le_of_ble_eq_true rfl, Nat.le_of_ble_eq_true rfl⟩) ⟨cblind, va_recv hR.K hR.P (ci := 2) (q0 := 8) rfl (hR.at42 (hR.w.2.1 _ finC_26).2.1), fun U hU hW9 => cmk hU hW9 hR hex hE hFc⟩ rfl rfl hl.1 rfl (lv_room (Nat.le_of_ble_eq_true rfl)) dX2_numberInstructions_56 ⟨Nat.le_of_ble_eq_true rfl, Nat.le_of_ble_eq_true rfl⟩) hR.sS (fun q _ h => hFc q h) hFc (fun r16 S17 t9 H1 locs ht9 hvm9 hw9 hB9 hz9 hk9 hS => ?_)
          obtain ⟨hq18, hw9, hs9⟩ := hw9
          have hR : RepC g ad A s S17 H1 locs := hR.call ht9 hB9 hw9 hS hFc
          have hsh := hsh.tr hs9
          replace h := h r16 S17 hq18 hw9 hs9
          clear hB9 hz9 hk9 hvm9 ht9 hw9 hs9 hS
          generalize H1 = H at hR ⊢
          refine va_mmax hx hb (by rw [hml]; exact hl.1.symm) hown (hts _ kw_759) (hts _ kw_1747) (hts _ kw_1748) (hts _ kw_1746) (Nat.le_of_ble_eq_true rfl) (Nat.le_of_ble_eq_true rfl) (Nat.le_of_ble_eq_true rfl) (Nat.le_of_ble_eq_true rfl) dX2_numberInstructions_59 ?_
          refine lv_topi (fun z19 ez19 => ?_)
          obtain rfl : z19 = (if (1 : Int32) < r16 then r16 else (1 : Int32)) := ez19
          refine lv_iadd hx hb dX2_numberInstructions_62 ?_
          refine lv_topi (fun z20 ez20 => ?_)
          obtain rfl : z20 = (v15_1 + (if (1 : Int32) < r16 then r16 else (1 : Int32))) := ez20
          obtain ⟨a21, ea21⟩ : ∃ z, z = (v15_1 + (if (1 : Int32) < r16 then r16 else (1 : Int32))) := ⟨_, rfl⟩
          rw [← ea21]
          replace h := h a21 ea21
          refine lv_istore_n (lv' := [(1, .int a21), (0, .ref (ad 8))]) hx hb dX2_numberInstructions_63 rfl hl (by decide) rfl (fun ls hl => ?_)
          refine lv_goto (tgt := 15) hx hb dX2_numberInstructions_64 (by decide) ?_
          exact ih_15 S17 a21 _ _ ls h  hsh hR (lv_sub hl [1, 0] rfl)
  obtain ⟨n9, h⟩ := h
  exact J_15 n9 S4 0 _ _ ls h  hsh hR (lv_sub hl [1, 0] rfl)
def w_X2_pointsWell_J172 (Q : Int32 → MS → Prop) (U172 : MS) : Prop := (wfC U172 → (∃ Q13, wX2_memberOf U172 ((qJ U172 8 10).toInt32) (9 : Int32) Q13 ∧ ∀ r14 S15, Q13 r14 S15 → wfC S15 → shy U172 S15 → ((r14.toInt < 0 → Q (0 : Int32) S15) ∧ (¬ r14.toInt < 0 → Q (1 : Int32) S15))))
def wX2_pointsWell (S : MS) (Q : Int32 → MS → Prop) : Prop := (d_X6_isJump S (qI S 8 9) ∧ (((fX6_isJump S (qI S 8 9)).toInt = 0 → (d_X6_isSwitch S (qI S 8 9) ∧ (((fX6_isSwitch S (qI S 8 9)).toInt = 0 → (d_X6_usesLocal S (qI S 8 9) ∧ (((fX6_usesLocal S (qI S 8 9)).toInt = 0 → (((qI S 8 9).toInt = 19 → (d_X7_tagOf S ((qJ S 8 10).toInt32) ∧ (((fX7_tagOf S ((qJ S 8 10).toInt32)).toInt = 3 → Q (1 : Int32) S) ∧ (¬ (fX7_tagOf S ((qJ S 8 10).toInt32)).toInt = 3 → Q (0 : Int32) S)))) ∧ (¬ (qI S 8 9).toInt = 19 → (((qI S 8 9).toInt = 20 → (d_X7_tagOf S ((qJ S 8 10).toInt32) ∧ (((fX7_tagOf S ((qJ S 8 10).toInt32)).toInt = 5 → Q (1 : Int32) S) ∧ (¬ (fX7_tagOf S ((qJ S 8 10).toInt32)).toInt = 5 → Q (0 : Int32) S)))) ∧ (¬ (qI S 8 9).toInt = 20 → (((qI S 8 9).toInt = 178 → w_X2_pointsWell_J172 Q S) ∧ (¬ (qI S 8 9).toInt = 178 → (((qI S 8 9).toInt = 179 → w_X2_pointsWell_J172 Q S) ∧ (¬ (qI S 8 9).toInt = 179 → (((qI S 8 9).toInt = 184 → (∃ Q26, wX2_memberOf S ((qJ S 8 10).toInt32) (10 : Int32) Q26 ∧ ∀ r27 S28, Q26 r27 S28 → wfC S28 → shy S S28 → ((r27.toInt < 0 → Q (0 : Int32) S28) ∧ (¬ r27.toInt < 0 → Q (1 : Int32) S28)))) ∧ (¬ (qI S 8 9).toInt = 184 → Q (1 : Int32) S))))))))))) ∧ (¬ (fX6_usesLocal S (qI S 8 9)).toInt = 0 → (d_X6_localWidth S (qI S 8 9) ∧ (((qI S 8 4).toInt < ((((qJ S 8 10).toInt32) &&& (255 : Int32)) + (fX6_localWidth S (qI S 8 9))).toInt → Q (0 : Int32) S) ∧ (¬ (qI S 8 4).toInt < ((((qJ S 8 10).toInt32) &&& (255 : Int32)) + (fX6_localWidth S (qI S 8 9))).toInt → Q (1 : Int32) S))))))) ∧ (¬ (fX6_isSwitch S (qI S 8 9)).toInt = 0 → (∃ Q37, wX2_targetsHold S Q37 ∧ ∀ r38 S39, Q37 r38 S39 → wfC S39 → shy S S39 → Q r38 S39))))) ∧ (¬ (fX6_isJump S (qI S 8 9)).toInt = 0 → (d_X2_isInstruction S (qJ S 8 10) ∧ Q (fX2_isInstruction S (qJ S 8 10)) S))))
set_option maxHeartbeats 2000000 in
set_option maxRecDepth 100000 in
theorem rX2_pointsWell (l : Launch) (g : Gr) (ad : Nat → Nat) (sz : Nat) (S : MS) (hw : wfC S) (Q : Int32 → MS → Prop) (h : wX2_pointsWell S Q) : Met l yX2_pointsWell (wt yX2_pointsWell cX2_pointsWell 1 (some .boolean)) ({ frames := 4, cells := 0, slots := 0, locals := 87 }) (va_Pc [.ref (ad 8)] (st_C g ad sz S)) (va_Qi (fun (r : Int32) (u : MS) => Q r u ∧ wfC u ∧ shy S u ∧ (r = 0 ∨ r = 1)) (fun (u : MS) (t : State) => qEC g ad (va_A (WdC g ad S) sz) u t) (va_A (WdC g ad S) sz)) 0 0 (va_A (WdC g ad S) sz) := by
  refine Met.ofW (cc := cX2_pointsWell) (maxL := 1) (ret := (some .boolean)) (by decide) rfl ?_
  intro p e s m args below meth c s₁ B hml hv
  obtain ⟨rfl, hsz, hP, hK, hD0, hex, hE⟩ := hv
  have hx := B.exec
  have hb := B.bytes
  have hr := B.returns
  have hts0 := atoms_spec (ws := wt yX2_pointsWell cX2_pointsWell 1 (some .boolean)) B.pre
  have hts : ∀ w ∈ tb, w.before _ s = true := fun w h => hts0 w (List.mem_cons_of_mem _ h)
  have hown : s.vm.findClass RX2 = some m.cls := findClass_of_methodNamed B.named
  subst hsz
  have hD := hD0.self (sz := s.heap.size)
  generalize hAe : va_A (WdC g ad S) s.heap.size = A at hD hE ⊢
  have hA : ∀ q : Nat, s.heap.size ≤ q → A q := fun q h => by rw [← hAe]; exact Or.inr h
  have hR : RepC g ad A s S s.heap [] := ⟨hK, hP, hD, va_S.rf, hw⟩
  clear hK hP hD hD0
  have hl := lv_entry ([.ref (ad 8)]) (n := 1) (Nat.le_of_ble_eq_true rfl)
  rw [lg_entry_eq]
  generalize (lg_sl ([.ref (ad 8)]) ++ List.replicate (1 - (lg_sl ([.ref (ad 8)])).length) Slot.unset).toArray = ls at hl ⊢
  have hl : lv_has ls 1 [(0, .ref (ad 8))] := hl
  have hsh : shy S S := shy.rf
  unfold wX2_pointsWell at h
  refine lv_aload_n hx hb dX2_pointsWell_0 rfl (lv_at hl 0 rfl) ?_
  refine va_get (D := rD g) (ci := 2) (v := .int (qI S 8 9)) (C := RX2) (T := TX2) (N := 12) hx hb hts inX2 hown hR.K hR.P 8 (hR.at42 (hR.w.2.1 _ finC_26).2.1) rfl 9 (by decide) (hts _ kw_619) (fun _ h9 => h9) rfl dX2_pointsWell_1 ?_
  obtain ⟨hv1, h⟩ := h
  have hFc := cfree hR hA
  refine va_calli (va_runS (As := [.int (qI S 8 9)]) (rest := []) ⟨hx, hb, hml, hown, hts⟩ (rX6_isJump l g ad s.heap.size S (qI S 8 9) hR.w  hv1) (va_cwS 1 hts (gd_S kw_629 kw_1225 kw_1207 kw_1224) rfl rfl rfl (by decide +kernel) ⟨Nat.le_of_ble_eq_true rfl, Nat.le_of_ble_eq_true rfl⟩) ⟨cblind, fun U hU hW9 => cmk hU hW9 hR hex hE hFc⟩ rfl rfl hl.1 rfl (lv_room (Nat.le_of_ble_eq_true rfl)) dX2_pointsWell_4 ⟨Nat.le_of_ble_eq_true rfl, Nat.le_of_ble_eq_true rfl⟩) hR.sS (fun q _ h => hFc q h) hFc (fun r2 u9 t9 H1 locs ht9 hvm9 hw9 hB9 hz9 hk9 hS => ?_)
  have hR : RepC g ad A s S H1 locs := hR.call ht9 hB9 hR.w hS hFc
  obtain ⟨rfl, hz_r2⟩ := hw9
  clear hB9 hz9 hk9 hvm9 ht9 hS
  generalize H1 = H at hR ⊢
  refine lv_if_eq (tgt := 19) hx hb dX2_pointsWell_7 (by decide) (fun c4 => ?_) (fun c4 => ?_)
  · replace h := h.1 (k_eq rfl (by decide) c4)
    refine lv_aload_n hx hb dX2_pointsWell_19 rfl (lv_at hl 0 rfl) ?_
    refine va_get (D := rD g) (ci := 2) (v := .int (qI S 8 9)) (C := RX2) (T := TX2) (N := 12) hx hb hts inX2 hown hR.K hR.P 8 (hR.at42 (hR.w.2.1 _ finC_26).2.1) rfl 9 (by decide) (hts _ kw_619) (fun _ h9 => h9) rfl dX2_pointsWell_20 ?_
    obtain ⟨hv5, h⟩ := h
    have hFc := cfree hR hA
    refine va_calli (va_runS (As := [.int (qI S 8 9)]) (rest := []) ⟨hx, hb, hml, hown, hts⟩ (rX6_isSwitch l g ad H.size S (qI S 8 9) hR.w  hv5) (va_cwS 1 hts (gd_S kw_630 kw_1233 kw_1207 kw_1232) rfl rfl rfl (by decide +kernel) ⟨Nat.le_of_ble_eq_true rfl, Nat.le_of_ble_eq_true rfl⟩) ⟨cblind, fun U hU hW9 => cmk hU hW9 hR hex hE hFc⟩ rfl rfl hl.1 rfl (lv_room (Nat.le_of_ble_eq_true rfl)) dX2_pointsWell_23 ⟨Nat.le_of_ble_eq_true rfl, Nat.le_of_ble_eq_true rfl⟩) hR.sS (fun q _ h => hFc q h) hFc (fun r6 u9 t9 H1 locs ht9 hvm9 hw9 hB9 hz9 hk9 hS => ?_)
    have hR : RepC g ad A s S H1 locs := hR.call ht9 hB9 hR.w hS hFc
    obtain ⟨rfl, hz_r6⟩ := hw9
    clear hB9 hz9 hk9 hvm9 ht9 hS
    generalize H1 = H at hR ⊢
    refine lv_if_eq (tgt := 34) hx hb dX2_pointsWell_26 (by decide) (fun c8 => ?_) (fun c8 => ?_)
    · replace h := h.1 (k_eq rfl (by decide) c8)
      refine lv_aload_n hx hb dX2_pointsWell_34 rfl (lv_at hl 0 rfl) ?_
      refine va_get (D := rD g) (ci := 2) (v := .int (qI S 8 9)) (C := RX2) (T := TX2) (N := 12) hx hb hts inX2 hown hR.K hR.P 8 (hR.at42 (hR.w.2.1 _ finC_26).2.1) rfl 9 (by decide) (hts _ kw_619) (fun _ h9 => h9) rfl dX2_pointsWell_35 ?_
      obtain ⟨hv9, h⟩ := h
      have hFc := cfree hR hA
      refine va_calli (va_runS (As := [.int (qI S 8 9)]) (rest := []) ⟨hx, hb, hml, hown, hts⟩ (rX6_usesLocal l g ad H.size S (qI S 8 9) hR.w  hv9) (va_cwS 1 hts (gd_S kw_693 kw_1260 kw_1207 kw_1259) rfl rfl rfl (by decide +kernel) ⟨Nat.le_of_ble_eq_true rfl, Nat.le_of_ble_eq_true rfl⟩) ⟨cblind, fun U hU hW9 => cmk hU hW9 hR hex hE hFc⟩ rfl rfl hl.1 rfl (lv_room (Nat.le_of_ble_eq_true rfl)) dX2_pointsWell_38 ⟨Nat.le_of_ble_eq_true rfl, Nat.le_of_ble_eq_true rfl⟩) hR.sS (fun q _ h => hFc q h) hFc (fun r10 u9 t9 H1 locs ht9 hvm9 hw9 hB9 hz9 hk9 hS => ?_)
      have hR : RepC g ad A s S H1 locs := hR.call ht9 hB9 hR.w hS hFc
      obtain ⟨rfl, hz_r10⟩ := hw9
      clear hB9 hz9 hk9 hvm9 ht9 hS
      generalize H1 = H at hR ⊢
      refine lv_if_eq (tgt := 74) hx hb dX2_pointsWell_41 (by decide) (fun c12 => ?_) (fun c12 => ?_)
      · replace h := h.1 (k_eq rfl (by decide) c12)
        refine lv_aload_n hx hb dX2_pointsWell_74 rfl (lv_at hl 0 rfl) ?_
        refine va_get (D := rD g) (ci := 2) (v := .int (qI S 8 9)) (C := RX2) (T := TX2) (N := 12) hx hb hts inX2 hown hR.K hR.P 8 (hR.at42 (hR.w.2.1 _ finC_26).2.1) rfl 9 (by decide) (hts _ kw_619) (fun _ h9 => h9) rfl dX2_pointsWell_75 ?_
        have J_172 : ∀ (U172 : MS) (H : Heap) (locs : List Loc) (ls : Array Slot), w_X2_pointsWell_J172 Q U172 → shy S U172 → RepC g ad A s U172 H locs → lv_has ls 1 [(0, .ref (ad 8))] → W p l e (headSpec (wt yX2_pointsWell cX2_pointsWell 1 (some .boolean)) ({ frames := 4, cells := 0, slots := 0, locals := 87 })).room s m ([.ref (ad 8)] : List Value).toArray below meth c H locs 0 0 (MQ below (va_Qi (fun (r : Int32) (u : MS) => Q r u ∧ wfC u ∧ shy S u ∧ (r = 0 ∨ r = 1)) (fun (u : MS) (t : State) => qEC g ad A u t) A) ([.ref (ad 8)] : List Value).toArray s 0 0 A) (F0 m 172 ls []) := by
          intro U172 H locs ls h hsh hR hl
          unfold w_X2_pointsWell_J172 at h
          replace h := h hR.w
          refine lv_aload_n hx hb dX2_pointsWell_172 rfl (lv_at hl 0 rfl) ?_
          refine lv_aload_n hx hb dX2_pointsWell_173 rfl (lv_at hl 0 rfl) ?_
          refine va_get (D := rD g) (ci := 2) (v := .long (qJ U172 8 10)) (C := RX2) (T := TX2) (N := 12) hx hb hts inX2 hown hR.K hR.P 8 (hR.at42 (hR.w.2.1 _ finC_26).2.1) rfl 10 (by decide) (hts _ kw_617) (fun _ h9 => h9) rfl dX2_pointsWell_174 ?_
          refine lv_l2i (v := ((qJ U172 8 10).toInt32)) hx hb dX2_pointsWell_177 rfl ?_
          refine lv_bipush (v := 9) hx hb dX2_pointsWell_178 (by decide) ?_
          obtain ⟨Q13, h0, h⟩ := h
          have hFc := cfree hR hA
          refine va_calli (va_runV (As := [.int ((qJ U172 8 10).toInt32), .int 9]) (rest := []) ⟨hx, hb, hml, hown, hts⟩ (rX2_memberOf l g ad H.size U172 ((qJ U172 8 10).toInt32) (9 : Int32) hR.w  Q13 h0) (cwV 2 hts (gd_V kw_636 kw_750 kw_751 kw_389 kw_749) rfl rfl rfl (by decide +kernel) ⟨Nat.le_of_ble_eq_true rfl, Nat.le_of_ble_eq_true rfl⟩) ⟨cblind, va_recv hR.K hR.P (ci := 2) (q0 := 8) rfl (hR.at42 (hR.w.2.1 _ finC_26).2.1), fun U hU hW9 => cmk hU hW9 hR hex hE hFc⟩ rfl rfl hl.1 rfl (lv_room (Nat.le_of_ble_eq_true rfl)) dX2_pointsWell_180 ⟨Nat.le_of_ble_eq_true rfl, Nat.le_of_ble_eq_true rfl⟩) hR.sS (fun q _ h => hFc q h) hFc (fun r14 S15 t9 H1 locs ht9 hvm9 hw9 hB9 hz9 hk9 hS => ?_)
          obtain ⟨hq16, hw9, hs9⟩ := hw9
          have hR : RepC g ad A s S15 H1 locs := hR.call ht9 hB9 hw9 hS hFc
          have hsh := hsh.tr hs9
          replace h := h r14 S15 hq16 hw9 hs9
          clear hB9 hz9 hk9 hvm9 ht9 hw9 hs9 hS
          generalize H1 = H at hR ⊢
          refine lv_if_lt (tgt := 190) hx hb dX2_pointsWell_183 (by decide) (fun c17 => ?_) (fun c17 => ?_)
          · replace h := h.1 (k_lt rfl (by decide) c17)
            refine lv_iconst (v := 0) hx hb dX2_pointsWell_190 (by decide) ?_
            exact W.zret (v := 0) hx hb hr (nz (Or.inl rfl)) (fun t9 ht9 hW9 => ⟨⟨_, S15, rfl, ⟨h, hR.w, hsh, (Or.inl rfl)⟩, ⟨by rw [ht9]; exact hR.P, hR.D⟩⟩, hR.sS.F ht9⟩) hR.sS.2.2 dX2_pointsWell_191
          · replace h := h.2 (k_nlt rfl (by decide) c17)
            refine lv_iconst (v := 1) hx hb dX2_pointsWell_186 (by decide) ?_
            refine lv_goto (tgt := 191) hx hb dX2_pointsWell_187 (by decide) ?_
            exact W.zret (v := 1) hx hb hr (nz (Or.inr rfl)) (fun t9 ht9 hW9 => ⟨⟨_, S15, rfl, ⟨h, hR.w, hsh, (Or.inr rfl)⟩, ⟨by rw [ht9]; exact hR.P, hR.D⟩⟩, hR.sS.F ht9⟩) hR.sS.2.2 dX2_pointsWell_191
        by_cases c9_19 : (qI S 8 9).toInt = 19
        · refine lv_lookup (off := 50) (tgt := 128) hx hb dX2_pointsWell_78 (by decide) (by rw [c9_19]; decide) (by decide) ?_
          replace h := h.1 (c9_19)
          refine lv_aload_n hx hb dX2_pointsWell_128 rfl (lv_at hl 0 rfl) ?_
          refine va_get (D := rD g) (ci := 2) (v := .ref (ad 9)) (C := RX2) (T := TX2) (N := 12) hx hb hts inX2 hown hR.K hR.P 8 (hR.at42 (hR.w.2.1 _ finC_26).2.1) rfl 0 (by decide) (hts _ kw_632) (fun _ h9 => h9) (congrArg (fun z => some (vf ad z)) (hR.w.2.1 _ finC_2).1) dX2_pointsWell_129 ?_
          refine lv_aload_n hx hb dX2_pointsWell_132 rfl (lv_at hl 0 rfl) ?_
          refine va_get (D := rD g) (ci := 2) (v := .long (qJ S 8 10)) (C := RX2) (T := TX2) (N := 12) hx hb hts inX2 hown hR.K hR.P 8 (hR.at42 (hR.w.2.1 _ finC_26).2.1) rfl 10 (by decide) (hts _ kw_617) (fun _ h9 => h9) rfl dX2_pointsWell_133 ?_
          refine lv_l2i (v := ((qJ S 8 10).toInt32)) hx hb dX2_pointsWell_136 rfl ?_
          obtain ⟨hv18, h⟩ := h
          have hFc := cfree hR hA
          refine va_calli (va_runV (As := [.int ((qJ S 8 10).toInt32)]) (rest := []) ⟨hx, hb, hml, hown, hts⟩ (rX7_tagOf l g ad H.size S ((qJ S 8 10).toInt32) hR.w  hv18) (cwV 1 hts (gd_V kw_697 kw_1435 kw_1436 kw_710 kw_1434) rfl rfl rfl (by decide +kernel) ⟨Nat.le_of_ble_eq_true rfl, Nat.le_of_ble_eq_true rfl⟩) ⟨cblind, va_recv hR.K hR.P (ci := 6) (q0 := 9) rfl (hR.at46 (hR.w.2.1 _ finC_2).2.1), fun U hU hW9 => cmk hU hW9 hR hex hE hFc⟩ rfl rfl hl.1 rfl (lv_room (Nat.le_of_ble_eq_true rfl)) dX2_pointsWell_137 ⟨Nat.le_of_ble_eq_true rfl, Nat.le_of_ble_eq_true rfl⟩) hR.sS (fun q _ h => hFc q h) hFc (fun r19 u9 t9 H1 locs ht9 hvm9 hw9 hB9 hz9 hk9 hS => ?_)
          have hR : RepC g ad A s S H1 locs := hR.call ht9 hB9 hR.w hS hFc
          obtain rfl : r19 = (fX7_tagOf S ((qJ S 8 10).toInt32)) := hw9
          clear hB9 hz9 hk9 hvm9 ht9 hS
          generalize H1 = H at hR ⊢
          refine lv_iconst (v := 3) hx hb dX2_pointsWell_140 (by decide) ?_
          refine lv_icmp_ne (tgt := 148) hx hb dX2_pointsWell_141 (by decide) (fun c21 => ?_) (fun c21 => ?_)
          · replace h := h.2 (k_ne rfl (by decide) c21)
            refine lv_iconst (v := 0) hx hb dX2_pointsWell_148 (by decide) ?_
            exact W.zret (v := 0) hx hb hr (nz (Or.inl rfl)) (fun t9 ht9 hW9 => ⟨⟨_, S, rfl, ⟨h, hR.w, hsh, (Or.inl rfl)⟩, ⟨by rw [ht9]; exact hR.P, hR.D⟩⟩, hR.sS.F ht9⟩) hR.sS.2.2 dX2_pointsWell_149
          · replace h := h.1 (k_eq rfl (by decide) c21)
            refine lv_iconst (v := 1) hx hb dX2_pointsWell_144 (by decide) ?_
            refine lv_goto (tgt := 149) hx hb dX2_pointsWell_145 (by decide) ?_
            exact W.zret (v := 1) hx hb hr (nz (Or.inr rfl)) (fun t9 ht9 hW9 => ⟨⟨_, S, rfl, ⟨h, hR.w, hsh, (Or.inr rfl)⟩, ⟨by rw [ht9]; exact hR.P, hR.D⟩⟩, hR.sS.F ht9⟩) hR.sS.2.2 dX2_pointsWell_149
        replace h := h.2 c9_19
        by_cases c9_20 : (qI S 8 9).toInt = 20
        · refine lv_lookup (off := 72) (tgt := 150) hx hb dX2_pointsWell_78 (by decide) (by rw [c9_20]; decide) (by decide) ?_
          replace h := h.1 (c9_20)
          refine lv_aload_n hx hb dX2_pointsWell_150 rfl (lv_at hl 0 rfl) ?_
          refine va_get (D := rD g) (ci := 2) (v := .ref (ad 9)) (C := RX2) (T := TX2) (N := 12) hx hb hts inX2 hown hR.K hR.P 8 (hR.at42 (hR.w.2.1 _ finC_26).2.1) rfl 0 (by decide) (hts _ kw_632) (fun _ h9 => h9) (congrArg (fun z => some (vf ad z)) (hR.w.2.1 _ finC_2).1) dX2_pointsWell_151 ?_
          refine lv_aload_n hx hb dX2_pointsWell_154 rfl (lv_at hl 0 rfl) ?_
          refine va_get (D := rD g) (ci := 2) (v := .long (qJ S 8 10)) (C := RX2) (T := TX2) (N := 12) hx hb hts inX2 hown hR.K hR.P 8 (hR.at42 (hR.w.2.1 _ finC_26).2.1) rfl 10 (by decide) (hts _ kw_617) (fun _ h9 => h9) rfl dX2_pointsWell_155 ?_
          refine lv_l2i (v := ((qJ S 8 10).toInt32)) hx hb dX2_pointsWell_158 rfl ?_
          obtain ⟨hv22, h⟩ := h
          have hFc := cfree hR hA
          refine va_calli (va_runV (As := [.int ((qJ S 8 10).toInt32)]) (rest := []) ⟨hx, hb, hml, hown, hts⟩ (rX7_tagOf l g ad H.size S ((qJ S 8 10).toInt32) hR.w  hv22) (cwV 1 hts (gd_V kw_697 kw_1435 kw_1436 kw_710 kw_1434) rfl rfl rfl (by decide +kernel) ⟨Nat.le_of_ble_eq_true rfl, Nat.le_of_ble_eq_true rfl⟩) ⟨cblind, va_recv hR.K hR.P (ci := 6) (q0 := 9) rfl (hR.at46 (hR.w.2.1 _ finC_2).2.1), fun U hU hW9 => cmk hU hW9 hR hex hE hFc⟩ rfl rfl hl.1 rfl (lv_room (Nat.le_of_ble_eq_true rfl)) dX2_pointsWell_159 ⟨Nat.le_of_ble_eq_true rfl, Nat.le_of_ble_eq_true rfl⟩) hR.sS (fun q _ h => hFc q h) hFc (fun r23 u9 t9 H1 locs ht9 hvm9 hw9 hB9 hz9 hk9 hS => ?_)
          have hR : RepC g ad A s S H1 locs := hR.call ht9 hB9 hR.w hS hFc
          obtain rfl : r23 = (fX7_tagOf S ((qJ S 8 10).toInt32)) := hw9
          clear hB9 hz9 hk9 hvm9 ht9 hS
          generalize H1 = H at hR ⊢
          refine lv_iconst (v := 5) hx hb dX2_pointsWell_162 (by decide) ?_
          refine lv_icmp_ne (tgt := 170) hx hb dX2_pointsWell_163 (by decide) (fun c25 => ?_) (fun c25 => ?_)
          · replace h := h.2 (k_ne rfl (by decide) c25)
            refine lv_iconst (v := 0) hx hb dX2_pointsWell_170 (by decide) ?_
            exact W.zret (v := 0) hx hb hr (nz (Or.inl rfl)) (fun t9 ht9 hW9 => ⟨⟨_, S, rfl, ⟨h, hR.w, hsh, (Or.inl rfl)⟩, ⟨by rw [ht9]; exact hR.P, hR.D⟩⟩, hR.sS.F ht9⟩) hR.sS.2.2 dX2_pointsWell_171
          · replace h := h.1 (k_eq rfl (by decide) c25)
            refine lv_iconst (v := 1) hx hb dX2_pointsWell_166 (by decide) ?_
            refine lv_goto (tgt := 171) hx hb dX2_pointsWell_167 (by decide) ?_
            exact W.zret (v := 1) hx hb hr (nz (Or.inr rfl)) (fun t9 ht9 hW9 => ⟨⟨_, S, rfl, ⟨h, hR.w, hsh, (Or.inr rfl)⟩, ⟨by rw [ht9]; exact hR.P, hR.D⟩⟩, hR.sS.F ht9⟩) hR.sS.2.2 dX2_pointsWell_171
        replace h := h.2 c9_20
        by_cases c9_178 : (qI S 8 9).toInt = 178
        · refine lv_lookup (off := 94) (tgt := 172) hx hb dX2_pointsWell_78 (by decide) (by rw [c9_178]; decide) (by decide) ?_
          replace h := h.1 (c9_178)
          exact J_172 S _ _ ls h  hsh hR (lv_sub hl [0] rfl)
        replace h := h.2 c9_178
        by_cases c9_179 : (qI S 8 9).toInt = 179
        · refine lv_lookup (off := 94) (tgt := 172) hx hb dX2_pointsWell_78 (by decide) (by rw [c9_179]; decide) (by decide) ?_
          replace h := h.1 (c9_179)
          exact J_172 S _ _ ls h  hsh hR (lv_sub hl [0] rfl)
        replace h := h.2 c9_179
        by_cases c9_184 : (qI S 8 9).toInt = 184
        · refine lv_lookup (off := 114) (tgt := 192) hx hb dX2_pointsWell_78 (by decide) (by rw [c9_184]; decide) (by decide) ?_
          replace h := h.1 (c9_184)
          refine lv_aload_n hx hb dX2_pointsWell_192 rfl (lv_at hl 0 rfl) ?_
          refine lv_aload_n hx hb dX2_pointsWell_193 rfl (lv_at hl 0 rfl) ?_
          refine va_get (D := rD g) (ci := 2) (v := .long (qJ S 8 10)) (C := RX2) (T := TX2) (N := 12) hx hb hts inX2 hown hR.K hR.P 8 (hR.at42 (hR.w.2.1 _ finC_26).2.1) rfl 10 (by decide) (hts _ kw_617) (fun _ h9 => h9) rfl dX2_pointsWell_194 ?_
          refine lv_l2i (v := ((qJ S 8 10).toInt32)) hx hb dX2_pointsWell_197 rfl ?_
          refine lv_bipush (v := 10) hx hb dX2_pointsWell_198 (by decide) ?_
          obtain ⟨Q26, h0, h⟩ := h
          have hFc := cfree hR hA
          refine va_calli (va_runV (As := [.int ((qJ S 8 10).toInt32), .int 10]) (rest := []) ⟨hx, hb, hml, hown, hts⟩ (rX2_memberOf l g ad H.size S ((qJ S 8 10).toInt32) (10 : Int32) hR.w  Q26 h0) (cwV 2 hts (gd_V kw_636 kw_750 kw_751 kw_389 kw_749) rfl rfl rfl (by decide +kernel) ⟨Nat.le_of_ble_eq_true rfl, Nat.le_of_ble_eq_true rfl⟩) ⟨cblind, va_recv hR.K hR.P (ci := 2) (q0 := 8) rfl (hR.at42 (hR.w.2.1 _ finC_26).2.1), fun U hU hW9 => cmk hU hW9 hR hex hE hFc⟩ rfl rfl hl.1 rfl (lv_room (Nat.le_of_ble_eq_true rfl)) dX2_pointsWell_200 ⟨Nat.le_of_ble_eq_true rfl, Nat.le_of_ble_eq_true rfl⟩) hR.sS (fun q _ h => hFc q h) hFc (fun r27 S28 t9 H1 locs ht9 hvm9 hw9 hB9 hz9 hk9 hS => ?_)
          obtain ⟨hq29, hw9, hs9⟩ := hw9
          have hR : RepC g ad A s S28 H1 locs := hR.call ht9 hB9 hw9 hS hFc
          have hsh := hsh.tr hs9
          replace h := h r27 S28 hq29 hw9 hs9
          clear hB9 hz9 hk9 hvm9 ht9 hw9 hs9 hS
          generalize H1 = H at hR ⊢
          refine lv_if_lt (tgt := 210) hx hb dX2_pointsWell_203 (by decide) (fun c30 => ?_) (fun c30 => ?_)
          · replace h := h.1 (k_lt rfl (by decide) c30)
            refine lv_iconst (v := 0) hx hb dX2_pointsWell_210 (by decide) ?_
            exact W.zret (v := 0) hx hb hr (nz (Or.inl rfl)) (fun t9 ht9 hW9 => ⟨⟨_, S28, rfl, ⟨h, hR.w, hsh, (Or.inl rfl)⟩, ⟨by rw [ht9]; exact hR.P, hR.D⟩⟩, hR.sS.F ht9⟩) hR.sS.2.2 dX2_pointsWell_211
          · replace h := h.2 (k_nlt rfl (by decide) c30)
            refine lv_iconst (v := 1) hx hb dX2_pointsWell_206 (by decide) ?_
            refine lv_goto (tgt := 211) hx hb dX2_pointsWell_207 (by decide) ?_
            exact W.zret (v := 1) hx hb hr (nz (Or.inr rfl)) (fun t9 ht9 hW9 => ⟨⟨_, S28, rfl, ⟨h, hR.w, hsh, (Or.inr rfl)⟩, ⟨by rw [ht9]; exact hR.P, hR.D⟩⟩, hR.sS.F ht9⟩) hR.sS.2.2 dX2_pointsWell_211
        replace h := h.2 c9_184
        refine lv_lookup (off := 134) (tgt := 212) hx hb dX2_pointsWell_78 (by decide) (lx_cons c9_19 (lx_cons c9_20 (lx_cons c9_178 (lx_cons c9_179 (lx_cons c9_184 lx_nil))))) (by decide) ?_
        refine lv_iconst (v := 1) hx hb dX2_pointsWell_212 (by decide) ?_
        exact W.zret (v := 1) hx hb hr (nz (Or.inr rfl)) (fun t9 ht9 hW9 => ⟨⟨_, S, rfl, ⟨h, hR.w, hsh, (Or.inr rfl)⟩, ⟨by rw [ht9]; exact hR.P, hR.D⟩⟩, hR.sS.F ht9⟩) hR.sS.2.2 dX2_pointsWell_213
      · replace h := h.2 (k_ne rfl (by decide) c12)
        refine lv_aload_n hx hb dX2_pointsWell_44 rfl (lv_at hl 0 rfl) ?_
        refine va_get (D := rD g) (ci := 2) (v := .long (qJ S 8 10)) (C := RX2) (T := TX2) (N := 12) hx hb hts inX2 hown hR.K hR.P 8 (hR.at42 (hR.w.2.1 _ finC_26).2.1) rfl 10 (by decide) (hts _ kw_617) (fun _ h9 => h9) rfl dX2_pointsWell_45 ?_
        refine lv_l2i (v := ((qJ S 8 10).toInt32)) hx hb dX2_pointsWell_48 rfl ?_
        refine lv_sipush (v := 255) hx hb dX2_pointsWell_49 (by decide) ?_
        refine lv_iand hx hb dX2_pointsWell_52 ?_
        refine lv_topi (fun z31 ez31 => ?_)
        obtain rfl : z31 = (((qJ S 8 10).toInt32) &&& (255 : Int32)) := ez31
        refine lv_aload_n hx hb dX2_pointsWell_53 rfl (lv_at hl 0 rfl) ?_
        refine va_get (D := rD g) (ci := 2) (v := .int (qI S 8 9)) (C := RX2) (T := TX2) (N := 12) hx hb hts inX2 hown hR.K hR.P 8 (hR.at42 (hR.w.2.1 _ finC_26).2.1) rfl 9 (by decide) (hts _ kw_619) (fun _ h9 => h9) rfl dX2_pointsWell_54 ?_
        obtain ⟨hv32, h⟩ := h
        have hFc := cfree hR hA
        refine va_calli (va_runS (As := [.int (qI S 8 9)]) (rest := [.int (((qJ S 8 10).toInt32) &&& (255 : Int32))]) ⟨hx, hb, hml, hown, hts⟩ (rX6_localWidth l g ad H.size S (qI S 8 9) hR.w  hv32) (va_cwS 1 hts (gd_S kw_776 kw_1247 kw_1207 kw_1246) rfl rfl rfl (by decide +kernel) ⟨Nat.le_of_ble_eq_true rfl, Nat.le_of_ble_eq_true rfl⟩) ⟨cblind, fun U hU hW9 => cmk hU hW9 hR hex hE hFc⟩ rfl rfl hl.1 rfl (lv_room (Nat.le_of_ble_eq_true rfl)) dX2_pointsWell_57 ⟨Nat.le_of_ble_eq_true rfl, Nat.le_of_ble_eq_true rfl⟩) hR.sS (fun q _ h => hFc q h) hFc (fun r33 u9 t9 H1 locs ht9 hvm9 hw9 hB9 hz9 hk9 hS => ?_)
        have hR : RepC g ad A s S H1 locs := hR.call ht9 hB9 hR.w hS hFc
        obtain rfl : r33 = (fX6_localWidth S (qI S 8 9)) := hw9
        clear hB9 hz9 hk9 hvm9 ht9 hS
        generalize H1 = H at hR ⊢
        refine lv_iadd hx hb dX2_pointsWell_60 ?_
        refine lv_topi (fun z35 ez35 => ?_)
        obtain rfl : z35 = ((((qJ S 8 10).toInt32) &&& (255 : Int32)) + (fX6_localWidth S (qI S 8 9))) := ez35
        refine lv_aload_n hx hb dX2_pointsWell_61 rfl (lv_at hl 0 rfl) ?_
        refine va_get (D := rD g) (ci := 2) (v := .int (qI S 8 4)) (C := RX2) (T := TX2) (N := 12) hx hb hts inX2 hown hR.K hR.P 8 (hR.at42 (hR.w.2.1 _ finC_26).2.1) rfl 4 (by decide) (hts _ kw_742) (fun _ h9 => h9) rfl dX2_pointsWell_62 ?_
        refine lv_icmp_gt (tgt := 72) hx hb dX2_pointsWell_65 (by decide) (fun c36 => ?_) (fun c36 => ?_)
        · replace h := h.1 (k_lt rfl rfl c36)
          refine lv_iconst (v := 0) hx hb dX2_pointsWell_72 (by decide) ?_
          exact W.zret (v := 0) hx hb hr (nz (Or.inl rfl)) (fun t9 ht9 hW9 => ⟨⟨_, S, rfl, ⟨h, hR.w, hsh, (Or.inl rfl)⟩, ⟨by rw [ht9]; exact hR.P, hR.D⟩⟩, hR.sS.F ht9⟩) hR.sS.2.2 dX2_pointsWell_73
        · replace h := h.2 (k_nlt rfl rfl c36)
          refine lv_iconst (v := 1) hx hb dX2_pointsWell_68 (by decide) ?_
          refine lv_goto (tgt := 73) hx hb dX2_pointsWell_69 (by decide) ?_
          exact W.zret (v := 1) hx hb hr (nz (Or.inr rfl)) (fun t9 ht9 hW9 => ⟨⟨_, S, rfl, ⟨h, hR.w, hsh, (Or.inr rfl)⟩, ⟨by rw [ht9]; exact hR.P, hR.D⟩⟩, hR.sS.F ht9⟩) hR.sS.2.2 dX2_pointsWell_73
    · replace h := h.2 (k_ne rfl (by decide) c8)
      refine lv_aload_n hx hb dX2_pointsWell_29 rfl (lv_at hl 0 rfl) ?_
      obtain ⟨Q37, h0, h⟩ := h
      have hFc := cfree hR hA
      refine va_calli (va_runV (As := []) (rest := []) ⟨hx, hb, hml, hown, hts⟩ (rX2_targetsHold l g ad H.size S hR.w  Q37 h0) (cwV 0 hts (gd_V kw_775 kw_809 kw_810 kw_389 kw_808) rfl rfl rfl (by decide +kernel) ⟨Nat.le_of_ble_eq_true rfl, Nat.le_of_ble_eq_true rfl⟩) ⟨cblind, va_recv hR.K hR.P (ci := 2) (q0 := 8) rfl (hR.at42 (hR.w.2.1 _ finC_26).2.1), fun U hU hW9 => cmk hU hW9 hR hex hE hFc⟩ rfl rfl hl.1 rfl (lv_room (Nat.le_of_ble_eq_true rfl)) dX2_pointsWell_30 ⟨Nat.le_of_ble_eq_true rfl, Nat.le_of_ble_eq_true rfl⟩) hR.sS (fun q _ h => hFc q h) hFc (fun r38 S39 t9 H1 locs ht9 hvm9 hw9 hB9 hz9 hk9 hS => ?_)
      obtain ⟨hq40, hw9, hs9, hz_r38⟩ := hw9
      have hR : RepC g ad A s S39 H1 locs := hR.call ht9 hB9 hw9 hS hFc
      have hsh := hsh.tr hs9
      replace h := h r38 S39 hq40 hw9 hs9
      clear hB9 hz9 hk9 hvm9 ht9 hw9 hs9 hS
      generalize H1 = H at hR ⊢
      exact W.zret (v := r38) hx hb hr (nz hz_r38) (fun t9 ht9 hW9 => ⟨⟨_, S39, rfl, ⟨h, hR.w, hsh, hz_r38⟩, ⟨by rw [ht9]; exact hR.P, hR.D⟩⟩, hR.sS.F ht9⟩) hR.sS.2.2 dX2_pointsWell_33
  · replace h := h.2 (k_ne rfl (by decide) c4)
    refine lv_aload_n hx hb dX2_pointsWell_10 rfl (lv_at hl 0 rfl) ?_
    refine lv_aload_n hx hb dX2_pointsWell_11 rfl (lv_at hl 0 rfl) ?_
    refine va_get (D := rD g) (ci := 2) (v := .long (qJ S 8 10)) (C := RX2) (T := TX2) (N := 12) hx hb hts inX2 hown hR.K hR.P 8 (hR.at42 (hR.w.2.1 _ finC_26).2.1) rfl 10 (by decide) (hts _ kw_617) (fun _ h9 => h9) rfl dX2_pointsWell_12 ?_
    obtain ⟨hv41, h⟩ := h
    have hFc := cfree hR hA
    refine va_calli (va_runV (As := [.long (qJ S 8 10)]) (rest := []) ⟨hx, hb, hml, hown, hts⟩ (rX2_isInstruction l g ad H.size S (qJ S 8 10) hR.w  hv41) (cwV 1 hts (gd_V kw_672 kw_720 kw_721 kw_389 kw_719) rfl rfl rfl (by decide +kernel) ⟨Nat.le_of_ble_eq_true rfl, Nat.le_of_ble_eq_true rfl⟩) ⟨cblind, va_recv hR.K hR.P (ci := 2) (q0 := 8) rfl (hR.at42 (hR.w.2.1 _ finC_26).2.1), fun U hU hW9 => cmk hU hW9 hR hex hE hFc⟩ rfl rfl hl.1 rfl (lv_room (Nat.le_of_ble_eq_true rfl)) dX2_pointsWell_15 ⟨Nat.le_of_ble_eq_true rfl, Nat.le_of_ble_eq_true rfl⟩) hR.sS (fun q _ h => hFc q h) hFc (fun r42 u9 t9 H1 locs ht9 hvm9 hw9 hB9 hz9 hk9 hS => ?_)
    have hR : RepC g ad A s S H1 locs := hR.call ht9 hB9 hR.w hS hFc
    obtain ⟨rfl, hz_r42⟩ := hw9
    clear hB9 hz9 hk9 hvm9 ht9 hS
    generalize H1 = H at hR ⊢
    exact W.zret (v := (fX2_isInstruction S (qJ S 8 10))) hx hb hr (nz hz_r42) (fun t9 ht9 hW9 => ⟨⟨_, S, rfl, ⟨h, hR.w, hsh, hz_r42⟩, ⟨by rw [ht9]; exact hR.P, hR.D⟩⟩, hR.sS.F ht9⟩) hR.sS.2.2 dX2_pointsWell_18
