def w_outMethod_J274 (Q : MS → Prop) (E : MS → Prop) (k201 : MS → Int32 → Prop) (U274 : MS) (t274_0 : Int64) (v274_4 : Int32) : Prop := (∃ Q85, w_out U274 t274_0 (2 : Int32) Q85 ∧ ∀ S86, Q85 S86 → (∀ a88 : Int32, a88 = (v274_4 + Int32.ofInt 1) → k201 S86 a88))
def w_outMethod_L213 (Q : MS → Prop) (E : MS → Prop) (k201 : MS → Int32 → Prop) : Nat → MS → Int32 → Int32 → Prop
  | 0, _, _, _ => False
  | n213 + 1, U213, v213_4, v213_5 => ((3 ≤ v213_5.toInt → (d_catchWord U213 v213_4 (3 : Int32) ∧ ((0 ≤ (f_catchWord U213 v213_4 (3 : Int32)).toInt → (d_catchWord U213 v213_4 (3 : Int32) ∧ (d_errorName U213 (f_catchWord U213 v213_4 (3 : Int32)) ∧ (∃ Q96 EQ96, w_classNumber U213 (f_errorName U213 (f_catchWord U213 v213_4 (3 : Int32))) Q96 EQ96 ∧ (∀ r97 S98, Q96 r97 S98 → w_outMethod_J274 Q E k201 S98 (r97.toInt64) v213_4) ∧ (∀ u9, EQ96 u9 → E u9))))) ∧ (¬ 0 ≤ (f_catchWord U213 v213_4 (3 : Int32)).toInt → w_outMethod_J274 Q E k201 U213 0 v213_4)))) ∧ (¬ 3 ≤ v213_5.toInt → (d_catchWord U213 v213_4 v213_5 ∧ (((0 : Int) ≤ (f_catchWord U213 v213_4 v213_5).toInt ∧ (f_catchWord U213 v213_4 v213_5).toInt < 1297) ∧ (∃ Q105, w_out U213 ((qI U213 36 (((f_catchWord U213 v213_4 v213_5).toInt).toNat)).toInt64) (2 : Int32) Q105 ∧ ∀ S106, Q105 S106 → (∀ a108 : Int32, a108 = (v213_5 + Int32.ofInt 1) → (w_outMethod_L213 Q E k201 n213) S106 v213_4 a108))))))
def w_outMethod_L201 (Q : MS → Prop) (E : MS → Prop) : Nat → MS → Int32 → Prop
  | 0, _, _ => False
  | n201 + 1, U201, v201_4 => (((qI U201 0 54).toInt ≤ v201_4.toInt → (∃ Q78, w_out U201 0 (2 : Int32) Q78 ∧ ∀ S79, Q78 S79 → Q S79)) ∧ (¬ (qI U201 0 54).toInt ≤ v201_4.toInt → (∃ n, w_outMethod_L213 Q E (w_outMethod_L201 Q E n201) n U201 v201_4 0)))
def w_outMethod_L167 (Q : MS → Prop) (E : MS → Prop) : Nat → MS → Int32 → Prop
  | 0, _, _ => False
  | n167 + 1, U167, v167_4 => (((qI U167 0 52).toInt ≤ v167_4.toInt → (∃ Q74, w_out U167 ((qI U167 0 54).toInt64) (2 : Int32) Q74 ∧ ∀ S75, Q74 S75 → (∃ n, w_outMethod_L201 Q E n S75 0))) ∧ (¬ (qI U167 0 52).toInt ≤ v167_4.toInt → (∃ Q109 EQ109, w_outRow U167 v167_4 Q109 EQ109 ∧ (∀ S110, Q109 S110 → (∀ a112 : Int32, a112 = (v167_4 + Int32.ofInt 1) → (w_outMethod_L167 Q E n167) S110 a112)) ∧ (∀ u9, EQ109 u9 → E u9))))
def w_outMethod_L57 (Q : MS → Prop) (E : MS → Prop) : Nat → MS → Nat → Int32 → Int32 → Int32 → Prop
  | 0, _, _, _, _, _ => False
  | n57 + 1, U57, v57_1, v57_2, v57_3, v57_4 => (((qI U57 0 52).toInt ≤ v57_4.toInt → (((0 : Int) ≤ (qI U57 0 52).toInt ∧ (qI U57 0 52).toInt < 1297) ∧ (∀ S36, S36 = wI U57 36 (((qI U57 0 52).toInt).toNat) v57_3 → (∃ Q38 EQ38, w_nameNumber S36 10000000 Q38 EQ38 ∧ (∀ r39 S40, Q38 r39 S40 → (∃ Q42, w_out S40 (r39.toInt64) (2 : Int32) Q42 ∧ ∀ S43, Q42 S43 → (∃ Q48, w_out S43 ((((12 : Int32) + v57_3) + ((8 : Int32) * (qI S43 0 54))).toInt64) (4 : Int32) Q48 ∧ ∀ S49, Q48 S49 → (∃ Q51, w_leastStack S49 Q51 ∧ ∀ r52 S53, Q51 r52 S53 → (∃ Q55, w_out S53 (r52.toInt64) (2 : Int32) Q55 ∧ ∀ S56, Q55 S56 → ((qR S56 v57_1 10 = some (qO S56 v57_1 10)) ∧ (((0 : Int) ≤ v57_2.toInt ∧ v57_2.toInt < (qN S56 (qO S56 v57_1 10) : Int)) ∧ ((qR S56 (qO S56 v57_1 10) v57_2.toInt.toNat = some (qO S56 (qO S56 v57_1 10) v57_2.toInt.toNat)) ∧ (∃ Q63, w_leastLocals S56 (qO S56 (qO S56 v57_1 10) v57_2.toInt.toNat) Q63 ∧ ∀ r64 S65, Q63 r64 S65 → (∃ Q67, w_out S65 (r64.toInt64) (2 : Int32) Q67 ∧ ∀ S68, Q67 S68 → (∃ Q70, w_out S68 (v57_3.toInt64) (4 : Int32) Q70 ∧ ∀ S71, Q70 S71 → (∃ n, w_outMethod_L167 Q E n S71 0)))))))))))) ∧ (∀ u9, EQ38 u9 → E u9))))) ∧ (¬ (qI U57 0 52).toInt ≤ v57_4.toInt → (((0 : Int) ≤ v57_4.toInt ∧ v57_4.toInt < 1297) ∧ (∀ S114, S114 = wI U57 36 v57_4.toInt.toNat v57_3 → (∃ Q115 EQ115, w_bytesOf S114 v57_4 v57_3 Q115 EQ115 ∧ (∀ r116 S117, Q115 r116 S117 → (∀ a120 : Int32, a120 = (v57_3 + r116) → (∀ a121 : Int32, a121 = (v57_4 + Int32.ofInt 1) → (w_outMethod_L57 Q E n57) S117 v57_1 v57_2 a120 a121))) ∧ (∀ u9, EQ115 u9 → E u9))))))
def w_outMethod (S : MS) (p1 : Nat) (x2 : Int32) (Q : MS → Prop) (E : MS → Prop) : Prop := (∃ Q1, w_out S (9 : Int64) (2 : Int32) Q1 ∧ ∀ S2, Q1 S2 → ((qR S2 p1 8 = some (qO S2 p1 8)) ∧ (((0 : Int) ≤ x2.toInt ∧ x2.toInt < (qN S2 (qO S2 p1 8) : Int)) ∧ ((qR S2 (qO S2 p1 8) x2.toInt.toNat = some (qO S2 (qO S2 p1 8) x2.toInt.toNat)) ∧ (∃ Q9 EQ9, w_nameNumber S2 (qO S2 (qO S2 p1 8) x2.toInt.toNat) Q9 EQ9 ∧ (∀ r10 S11, Q9 r10 S11 → (∃ Q13, w_out S11 (r10.toInt64) (2 : Int32) Q13 ∧ ∀ S14, Q13 S14 → ((qR S14 p1 9 = some (qO S14 p1 9)) ∧ (((0 : Int) ≤ x2.toInt ∧ x2.toInt < (qN S14 (qO S14 p1 9) : Int)) ∧ ((qR S14 (qO S14 p1 9) x2.toInt.toNat = some (qO S14 (qO S14 p1 9) x2.toInt.toNat)) ∧ (∃ Q21 EQ21, w_nameNumber S14 (qO S14 (qO S14 p1 9) x2.toInt.toNat) Q21 EQ21 ∧ (∀ r22 S23, Q21 r22 S23 → (∃ Q25, w_out S23 (r22.toInt64) (2 : Int32) Q25 ∧ ∀ S26, Q25 S26 → (∃ Q28, w_out S26 1 (2 : Int32) Q28 ∧ ∀ S29, Q28 S29 → (∃ Q31, w_look S29 p1 x2 Q31 ∧ ∀ S32, Q31 S32 → (∃ n, w_outMethod_L57 Q E n S32 p1 x2 0 0))))) ∧ (∀ u9, EQ21 u9 → E u9))))))) ∧ (∀ u9, EQ9 u9 → E u9))))))
set_option maxHeartbeats 2000000 in
set_option maxRecDepth 100000 in
theorem r_outMethod (l : Launch) (g : Gr) (ad : Nat → Nat) (sz : Nat) (S : MS) (p1 : Nat) (x2 : Int32) (hw : wfM S) (hT_p1 : qT S p1 = 11) (Q : MS → Prop) (E : MS → Prop) (h : w_outMethod S p1 x2 Q E) : vx_Met l yX14_outMethod (wt2 yX14_outMethod cX14_outMethod 6 none) ({ frames := 9, cells := 0, slots := 0, locals := 207 }) (va_Pc [.ref (ad 0), .ref (ad p1), .int x2] (st_R g ad sz S)) (va_Qv (fun (u : MS) => Q u ∧ wfM u ∧ shy S u) (fun (u : MS) (t : State) => qE g ad (va_A (Wd g ad S) sz) u t) (va_A (Wd g ad S) sz)) (vx_X (fun (u : MS) => E u ∧ wfM u ∧ shy S u) (fun (n9 : String) (u : MS) (t : State) => n9 = RJxb5711 ∧ qE g ad (va_A (Wd g ad S) sz) u t) (va_A (Wd g ad S) sz)) 0 0 (va_A (Wd g ad S) sz) := by
  refine vx_ofW (cc := cX14_outMethod) (maxL := 6) (ret := none) (by decide) rfl ?_
  intro p e s m args below meth c s₁ B hml hnt hv
  obtain ⟨rfl, hsz, hP, hK, hD0, hex, hE⟩ := hv
  have hx := B.exec
  have hb := B.bytes
  have hr := B.returns
  have hlocks := B.notSynchronized
  have hts0 := atoms_spec (ws := wt2 yX14_outMethod cX14_outMethod 6 none) B.pre
  have hts : ∀ w ∈ tb2, w.before _ s = true := fun w h => hts0 w (List.mem_cons_of_mem _ h)
  have hown : s.vm.findClass RX14 = some m.cls := findClass_of_methodNamed B.named
  subst hsz
  have hD := hD0.self (sz := s.heap.size)
  generalize hAe : va_A (Wd g ad S) s.heap.size = A at hD hE ⊢
  have hA : ∀ q : Nat, s.heap.size ≤ q → A q := fun q h => by rw [← hAe]; exact Or.inr h
  have hR : Rep g ad A s S s.heap [] := ⟨hK, hP, hD, va_S.rf, hw⟩
  clear hK hP hD hD0
  have hl := lv_entry ([.ref (ad 0), .ref (ad p1), .int x2]) (n := 6) (Nat.le_of_ble_eq_true rfl)
  rw [lg_entry_eq]
  generalize (lg_sl ([.ref (ad 0), .ref (ad p1), .int x2]) ++ List.replicate (6 - (lg_sl ([.ref (ad 0), .ref (ad p1), .int x2])).length) Slot.unset).toArray = ls at hl ⊢
  have hl : lv_has ls 6 [(0, .ref (ad 0)), (1, .ref (ad p1)), (2, .int x2)] := hl
  have hsh : shy S S := shy.rf
  unfold w_outMethod at h
  refine lv_aload_n hx hb dX14_outMethod_0 rfl (lv_at hl 0 rfl) ?_
  refine lv_ldc2 hx hb hown (hts _ kx_592) dX14_outMethod_1 ?_
  refine lv_iconst (v := 2) hx hb dX14_outMethod_4 (by decide) ?_
  obtain ⟨Q1, h0, h⟩ := h
  have hFc := rfree hR hA
  refine va_callv (va_runV (As := [.long (9 : Int64), .int 2]) (rest := []) ⟨hx, hb, hml, hown, hts⟩ (r_out l g ad s.heap.size S (9 : Int64) (2 : Int32) hR.w  Q1 h0) (cwV 2 hts (gd2_V kx_586 kx_587 kx_588 kx_177 kx_589) rfl rfl rfl (by decide +kernel) ⟨Nat.le_of_ble_eq_true rfl, Nat.le_of_ble_eq_true rfl⟩) ⟨rblind, va_recv hR.K hR.P (ci := 13) (q0 := 0) rfl (hR.at14 hR.w.1), fun U hU hW9 => rmk hU hW9 hR hex hE hFc⟩ rfl rfl hl.1 rfl (lv_room (Nat.le_of_ble_eq_true rfl)) dX14_outMethod_5 ⟨Nat.le_of_ble_eq_true rfl, Nat.le_of_ble_eq_true rfl⟩) hR.sS (fun q _ h => hFc q h) hFc (fun  S2 t9 H1 locs ht9 hvm9 hw9 hB9 hz9 hk9 hS => ?_)
  obtain ⟨hq3, hw9, hs9⟩ := hw9
  have hR : Rep g ad A s S2 H1 locs := hR.call ht9 hB9 hw9 hS hFc
  have hsh := hsh.tr hs9
  replace h := h  S2 hq3
  have hT_p1 := hs9.T hT_p1 (by decide)
  clear hB9 hz9 hk9 hvm9 ht9 hw9 hs9 hS
  generalize H1 = H at hR ⊢
  refine lv_aload_n hx hb dX14_outMethod_8 rfl (lv_at hl 0 rfl) ?_
  refine lv_aload_n hx hb dX14_outMethod_9 rfl (lv_at hl 0 rfl) ?_
  refine lv_aload_n hx hb dX14_outMethod_10 rfl (lv_at hl 1 rfl) ?_
  obtain ⟨hv4, h⟩ := h
  have hT_b5 : qT S2 (qO S2 p1 8) = 5 := hR.w.ref hv4 hT_p1
  refine va_get (D := rD g) (ci := 12) (v := .ref (ad (qO S2 p1 8))) (C := RX13) (T := TX13) (N := 23) hx hb hts in2X13 hown hR.K hR.P p1 (hR.at13 hT_p1) rfl 8 (by decide) (hts _ kx_569) (fun _ h9 => h9) (congrArg (fun z => some (vf ad z)) hv4) dX14_outMethod_11 ?_
  refine lv_iload_n hx hb dX14_outMethod_14 rfl (lv_at hl 2 rfl) ?_
  obtain ⟨hv6, h⟩ := h
  refine va_aldq hx hb hR.K hR.P (qO S2 p1 8) 4 (hR.atS hT_b5) rfl (k_ix (x := x2) (a := x2.toInt) rfl hv6) dX14_outMethod_15 ?_
  obtain ⟨hv7, h⟩ := h
  have hT_b8 : qT S2 (qO S2 (qO S2 p1 8) x2.toInt.toNat) = 12 := hR.w.ref hv7 hT_b5
  rw [show va_rf (Option.map ad (qR S2 (qO S2 p1 8) (x2 : Int32).toNatClampNeg)) = .ref (ad (qO S2 (qO S2 p1 8) x2.toInt.toNat)) from congrArg (fun z => vf ad z) hv7]
  obtain ⟨Q9, EQ9, h0, h⟩ := h
  have hFc := rfree hR hA
  refine vx_calli (vx_runV (As := [.ref (ad (qO S2 (qO S2 p1 8) x2.toInt.toNat))]) (rest := [.ref (ad 0)]) ⟨hx, hb, hml, hown, hts⟩ (r_nameNumber l g ad H.size S2 (qO S2 (qO S2 p1 8) x2.toInt.toNat) hR.w hT_b8 Q9 EQ9 h0) (cwV 1 hts (gd2_V kx_547 kx_548 kx_549 kx_177 kx_550) rfl rfl rfl (by decide +kernel) ⟨Nat.le_of_ble_eq_true rfl, Nat.le_of_ble_eq_true rfl⟩) ⟨rblind, va_recv hR.K hR.P (ci := 13) (q0 := 0) rfl (hR.at14 hR.w.1), fun U hU hW9 => rmk hU hW9 hR hex hE hFc⟩ rfl rfl hl.1 rfl (lv_room (Nat.le_of_ble_eq_true rfl)) dX14_outMethod_16 ⟨Nat.le_of_ble_eq_true rfl, Nat.le_of_ble_eq_true rfl⟩) hR.sS (fun q _ h => hFc q h) hFc (fun q _ h => hFc q h) (fun E9 ce9 q9 u9 t9 H1 locs ht9 hvm9 hp9 hB9 hz9 hk9 hS hce9 hcv9 hcl9 => ?_) (fun r10 S11 t9 H1 locs ht9 hvm9 hw9 hB9 hz9 hk9 hS => ?_)
  · obtain ⟨hp9, hwx, hsx⟩ := hp9
    obtain ⟨rfl, hBx⟩ := hB9
    replace h := h.2 u9 hp9
    have hR : Rep g ad A s u9 H1 locs := hR.call ht9 hBx hwx hS hFc
    have hsh := hsh.tr hsx
    exact vx_out (E := RJxb5711) (q := q9) (fun x h9 => (hnt x h9).elim) hlocks hce9 hcv9 hcl9 (fun t9 ht9 ha9 => ⟨u9, ⟨h, hR.w, hsh⟩, ⟨rfl, by rw [ht9]; exact hR.P, hR.D⟩, hR.sS.F ht9⟩) hR.sS.2.2 (Nat.le_of_ble_eq_true rfl) (Nat.le_of_ble_eq_true rfl)
  · obtain ⟨hq12, hw9, hs9⟩ := hw9
    have hR : Rep g ad A s S11 H1 locs := hR.call ht9 hB9 hw9 hS hFc
    have hsh := hsh.tr hs9
    replace h := h.1 r10 S11 hq12
    have hT_p1 := hs9.T hT_p1 (by decide)
    clear hB9 hz9 hk9 hvm9 ht9 hw9 hs9 hS
    generalize H1 = H at hR ⊢
    refine lv_i2l (v := (r10.toInt64)) hx hb dX14_outMethod_19 rfl ?_
    refine lv_iconst (v := 2) hx hb dX14_outMethod_20 (by decide) ?_
    obtain ⟨Q13, h0, h⟩ := h
    have hFc := rfree hR hA
    refine va_callv (va_runV (As := [.long (r10.toInt64), .int 2]) (rest := []) ⟨hx, hb, hml, hown, hts⟩ (r_out l g ad H.size S11 (r10.toInt64) (2 : Int32) hR.w  Q13 h0) (cwV 2 hts (gd2_V kx_586 kx_587 kx_588 kx_177 kx_589) rfl rfl rfl (by decide +kernel) ⟨Nat.le_of_ble_eq_true rfl, Nat.le_of_ble_eq_true rfl⟩) ⟨rblind, va_recv hR.K hR.P (ci := 13) (q0 := 0) rfl (hR.at14 hR.w.1), fun U hU hW9 => rmk hU hW9 hR hex hE hFc⟩ rfl rfl hl.1 rfl (lv_room (Nat.le_of_ble_eq_true rfl)) dX14_outMethod_21 ⟨Nat.le_of_ble_eq_true rfl, Nat.le_of_ble_eq_true rfl⟩) hR.sS (fun q _ h => hFc q h) hFc (fun  S14 t9 H1 locs ht9 hvm9 hw9 hB9 hz9 hk9 hS => ?_)
    obtain ⟨hq15, hw9, hs9⟩ := hw9
    have hR : Rep g ad A s S14 H1 locs := hR.call ht9 hB9 hw9 hS hFc
    have hsh := hsh.tr hs9
    replace h := h  S14 hq15
    have hT_p1 := hs9.T hT_p1 (by decide)
    clear hB9 hz9 hk9 hvm9 ht9 hw9 hs9 hS
    generalize H1 = H at hR ⊢
    refine lv_aload_n hx hb dX14_outMethod_24 rfl (lv_at hl 0 rfl) ?_
    refine lv_aload_n hx hb dX14_outMethod_25 rfl (lv_at hl 0 rfl) ?_
    refine lv_aload_n hx hb dX14_outMethod_26 rfl (lv_at hl 1 rfl) ?_
    obtain ⟨hv16, h⟩ := h
    have hT_b17 : qT S14 (qO S14 p1 9) = 5 := hR.w.ref hv16 hT_p1
    refine va_get (D := rD g) (ci := 12) (v := .ref (ad (qO S14 p1 9))) (C := RX13) (T := TX13) (N := 23) hx hb hts in2X13 hown hR.K hR.P p1 (hR.at13 hT_p1) rfl 9 (by decide) (hts _ kx_570) (fun _ h9 => h9) (congrArg (fun z => some (vf ad z)) hv16) dX14_outMethod_27 ?_
    refine lv_iload_n hx hb dX14_outMethod_30 rfl (lv_at hl 2 rfl) ?_
    obtain ⟨hv18, h⟩ := h
    refine va_aldq hx hb hR.K hR.P (qO S14 p1 9) 4 (hR.atS hT_b17) rfl (k_ix (x := x2) (a := x2.toInt) rfl hv18) dX14_outMethod_31 ?_
    obtain ⟨hv19, h⟩ := h
    have hT_b20 : qT S14 (qO S14 (qO S14 p1 9) x2.toInt.toNat) = 12 := hR.w.ref hv19 hT_b17
    rw [show va_rf (Option.map ad (qR S14 (qO S14 p1 9) (x2 : Int32).toNatClampNeg)) = .ref (ad (qO S14 (qO S14 p1 9) x2.toInt.toNat)) from congrArg (fun z => vf ad z) hv19]
    obtain ⟨Q21, EQ21, h0, h⟩ := h
    have hFc := rfree hR hA
    refine vx_calli (vx_runV (As := [.ref (ad (qO S14 (qO S14 p1 9) x2.toInt.toNat))]) (rest := [.ref (ad 0)]) ⟨hx, hb, hml, hown, hts⟩ (r_nameNumber l g ad H.size S14 (qO S14 (qO S14 p1 9) x2.toInt.toNat) hR.w hT_b20 Q21 EQ21 h0) (cwV 1 hts (gd2_V kx_547 kx_548 kx_549 kx_177 kx_550) rfl rfl rfl (by decide +kernel) ⟨Nat.le_of_ble_eq_true rfl, Nat.le_of_ble_eq_true rfl⟩) ⟨rblind, va_recv hR.K hR.P (ci := 13) (q0 := 0) rfl (hR.at14 hR.w.1), fun U hU hW9 => rmk hU hW9 hR hex hE hFc⟩ rfl rfl hl.1 rfl (lv_room (Nat.le_of_ble_eq_true rfl)) dX14_outMethod_32 ⟨Nat.le_of_ble_eq_true rfl, Nat.le_of_ble_eq_true rfl⟩) hR.sS (fun q _ h => hFc q h) hFc (fun q _ h => hFc q h) (fun E9 ce9 q9 u9 t9 H1 locs ht9 hvm9 hp9 hB9 hz9 hk9 hS hce9 hcv9 hcl9 => ?_) (fun r22 S23 t9 H1 locs ht9 hvm9 hw9 hB9 hz9 hk9 hS => ?_)
    · obtain ⟨hp9, hwx, hsx⟩ := hp9
      obtain ⟨rfl, hBx⟩ := hB9
      replace h := h.2 u9 hp9
      have hR : Rep g ad A s u9 H1 locs := hR.call ht9 hBx hwx hS hFc
      have hsh := hsh.tr hsx
      exact vx_out (E := RJxb5711) (q := q9) (fun x h9 => (hnt x h9).elim) hlocks hce9 hcv9 hcl9 (fun t9 ht9 ha9 => ⟨u9, ⟨h, hR.w, hsh⟩, ⟨rfl, by rw [ht9]; exact hR.P, hR.D⟩, hR.sS.F ht9⟩) hR.sS.2.2 (Nat.le_of_ble_eq_true rfl) (Nat.le_of_ble_eq_true rfl)
    · obtain ⟨hq24, hw9, hs9⟩ := hw9
      have hR : Rep g ad A s S23 H1 locs := hR.call ht9 hB9 hw9 hS hFc
      have hsh := hsh.tr hs9
      replace h := h.1 r22 S23 hq24
      have hT_p1 := hs9.T hT_p1 (by decide)
      clear hB9 hz9 hk9 hvm9 ht9 hw9 hs9 hS
      generalize H1 = H at hR ⊢
      refine lv_i2l (v := (r22.toInt64)) hx hb dX14_outMethod_35 rfl ?_
      refine lv_iconst (v := 2) hx hb dX14_outMethod_36 (by decide) ?_
      obtain ⟨Q25, h0, h⟩ := h
      have hFc := rfree hR hA
      refine va_callv (va_runV (As := [.long (r22.toInt64), .int 2]) (rest := []) ⟨hx, hb, hml, hown, hts⟩ (r_out l g ad H.size S23 (r22.toInt64) (2 : Int32) hR.w  Q25 h0) (cwV 2 hts (gd2_V kx_586 kx_587 kx_588 kx_177 kx_589) rfl rfl rfl (by decide +kernel) ⟨Nat.le_of_ble_eq_true rfl, Nat.le_of_ble_eq_true rfl⟩) ⟨rblind, va_recv hR.K hR.P (ci := 13) (q0 := 0) rfl (hR.at14 hR.w.1), fun U hU hW9 => rmk hU hW9 hR hex hE hFc⟩ rfl rfl hl.1 rfl (lv_room (Nat.le_of_ble_eq_true rfl)) dX14_outMethod_37 ⟨Nat.le_of_ble_eq_true rfl, Nat.le_of_ble_eq_true rfl⟩) hR.sS (fun q _ h => hFc q h) hFc (fun  S26 t9 H1 locs ht9 hvm9 hw9 hB9 hz9 hk9 hS => ?_)
      obtain ⟨hq27, hw9, hs9⟩ := hw9
      have hR : Rep g ad A s S26 H1 locs := hR.call ht9 hB9 hw9 hS hFc
      have hsh := hsh.tr hs9
      replace h := h  S26 hq27
      have hT_p1 := hs9.T hT_p1 (by decide)
      clear hB9 hz9 hk9 hvm9 ht9 hw9 hs9 hS
      generalize H1 = H at hR ⊢
      refine lv_aload_n hx hb dX14_outMethod_40 rfl (lv_at hl 0 rfl) ?_
      refine lv_lconst (v := 1) hx hb dX14_outMethod_41 (by decide) ?_
      refine lv_iconst (v := 2) hx hb dX14_outMethod_42 (by decide) ?_
      obtain ⟨Q28, h0, h⟩ := h
      have hFc := rfree hR hA
      refine va_callv (va_runV (As := [.long 1, .int 2]) (rest := []) ⟨hx, hb, hml, hown, hts⟩ (r_out l g ad H.size S26 1 (2 : Int32) hR.w  Q28 h0) (cwV 2 hts (gd2_V kx_586 kx_587 kx_588 kx_177 kx_589) rfl rfl rfl (by decide +kernel) ⟨Nat.le_of_ble_eq_true rfl, Nat.le_of_ble_eq_true rfl⟩) ⟨rblind, va_recv hR.K hR.P (ci := 13) (q0 := 0) rfl (hR.at14 hR.w.1), fun U hU hW9 => rmk hU hW9 hR hex hE hFc⟩ rfl rfl hl.1 rfl (lv_room (Nat.le_of_ble_eq_true rfl)) dX14_outMethod_43 ⟨Nat.le_of_ble_eq_true rfl, Nat.le_of_ble_eq_true rfl⟩) hR.sS (fun q _ h => hFc q h) hFc (fun  S29 t9 H1 locs ht9 hvm9 hw9 hB9 hz9 hk9 hS => ?_)
      obtain ⟨hq30, hw9, hs9⟩ := hw9
      have hR : Rep g ad A s S29 H1 locs := hR.call ht9 hB9 hw9 hS hFc
      have hsh := hsh.tr hs9
      replace h := h  S29 hq30
      have hT_p1 := hs9.T hT_p1 (by decide)
      clear hB9 hz9 hk9 hvm9 ht9 hw9 hs9 hS
      generalize H1 = H at hR ⊢
      refine lv_aload_n hx hb dX14_outMethod_46 rfl (lv_at hl 0 rfl) ?_
      refine lv_aload_n hx hb dX14_outMethod_47 rfl (lv_at hl 1 rfl) ?_
      refine lv_iload_n hx hb dX14_outMethod_48 rfl (lv_at hl 2 rfl) ?_
      obtain ⟨Q31, h0, h⟩ := h
      have hFc := rfree hR hA
      refine va_callv (va_runV (As := [.ref (ad p1), .int x2]) (rest := []) ⟨hx, hb, hml, hown, hts⟩ (r_look l g ad H.size S29 p1 x2 hR.w hT_p1 Q31 h0) (cwV 2 hts (gd2_V kx_498 kx_499 kx_500 kx_177 kx_501) rfl rfl rfl (by decide +kernel) ⟨Nat.le_of_ble_eq_true rfl, Nat.le_of_ble_eq_true rfl⟩) ⟨rblind, va_recv hR.K hR.P (ci := 13) (q0 := 0) rfl (hR.at14 hR.w.1), fun U hU hW9 => rmk hU hW9 hR hex hE hFc⟩ rfl rfl hl.1 rfl (lv_room (Nat.le_of_ble_eq_true rfl)) dX14_outMethod_49 ⟨Nat.le_of_ble_eq_true rfl, Nat.le_of_ble_eq_true rfl⟩) hR.sS (fun q _ h => hFc q h) hFc (fun  S32 t9 H1 locs ht9 hvm9 hw9 hB9 hz9 hk9 hS => ?_)
      obtain ⟨hq33, hw9, hs9⟩ := hw9
      have hR : Rep g ad A s S32 H1 locs := hR.call ht9 hB9 hw9 hS hFc
      have hsh := hsh.tr hs9
      replace h := h  S32 hq33
      have hT_p1 := hs9.T hT_p1 (by decide)
      clear hB9 hz9 hk9 hvm9 ht9 hw9 hs9 hS
      generalize H1 = H at hR ⊢
      refine lv_iconst (v := 0) hx hb dX14_outMethod_52 (by decide) ?_
      refine lv_istore_n (lv' := [(3, .int 0), (0, .ref (ad 0)), (1, .ref (ad p1)), (2, .int x2)]) hx hb dX14_outMethod_53 rfl hl (by decide) rfl (fun ls hl => ?_)
      refine lv_iconst (v := 0) hx hb dX14_outMethod_54 (by decide) ?_
      refine lv_istore (lv' := [(4, .int 0), (3, .int 0), (0, .ref (ad 0)), (1, .ref (ad p1)), (2, .int x2)]) hx hb dX14_outMethod_55 hl (by decide) rfl (fun ls hl => ?_)
      have J_57 : ∀ (n57 : Nat) (U57 : MS) (v57_1 : Nat) (v57_2 : Int32) (v57_3 : Int32) (v57_4 : Int32) (H : Heap) (locs : List Loc) (ls : Array Slot), w_outMethod_L57 Q E n57 U57 v57_1 v57_2 v57_3 v57_4 → qT U57 v57_1 = 11 → shy S U57 → Rep g ad A s U57 H locs → lv_has ls 6 [(0, .ref (ad 0)), (1, .ref (ad v57_1)), (2, .int v57_2), (3, .int v57_3), (4, .int v57_4)] → W p l e (headSpec (wt2 yX14_outMethod cX14_outMethod 6 none) ({ frames := 9, cells := 0, slots := 0, locals := 207 })).room s m ([.ref (ad 0), .ref (ad p1), .int x2] : List Value).toArray below meth c H locs 0 0 (vx_MQ below (va_Qv (fun (u : MS) => Q u ∧ wfM u ∧ shy S u) (fun (u : MS) (t : State) => qE g ad A u t) A) ((vx_X (fun (u : MS) => E u ∧ wfM u ∧ shy S u) (fun (n9 : String) (u : MS) (t : State) => n9 = RJxb5711 ∧ qE g ad A u t) A)) ([.ref (ad 0), .ref (ad p1), .int x2] : List Value).toArray s 0 0 A) (F0 m 57 ls []) := by
        intro n57
        induction n57 with
        | zero => intro U57 v57_1 v57_2 v57_3 v57_4 H locs ls h hT_v57_1 hsh hR hl; unfold w_outMethod_L57 at h; exact h.elim
        | succ n57 ih_57 =>
          intro U57 v57_1 v57_2 v57_3 v57_4 H locs ls h hT_v57_1 hsh hR hl
          unfold w_outMethod_L57 at h
          refine lv_iload hx hb dX14_outMethod_57 (lv_at hl 4 rfl) ?_
          refine lv_aload_n hx hb dX14_outMethod_59 rfl (lv_at hl 0 rfl) ?_
          refine va_get (D := rD g) (ci := 13) (v := .int (qI U57 0 52)) (C := RX14) (T := TX14) (N := 143) hx hb hts in2X14 hown hR.K hR.P 0 (hR.at14 hR.w.1) rfl 52 (by decide) (hts _ kx_370) (fun _ h9 => h9) rfl dX14_outMethod_60 ?_
          refine lv_icmp_ge (tgt := 90) hx hb dX14_outMethod_63 (by decide) (fun c34 => ?_) (fun c34 => ?_)
          · replace h := h.1 (k_le rfl rfl c34)
            refine lv_aload_n hx hb dX14_outMethod_90 rfl (lv_at hl 0 rfl) ?_
            refine va_get (D := rD g) (ci := 13) (v := .ref (ad 36)) (C := RX14) (T := TX14) (N := 143) hx hb hts in2X14 hown hR.K hR.P 0 (hR.at14 hR.w.1) rfl 79 (by decide) (hts _ kx_584) (fun _ h9 => h9) (congrArg (fun z => some (vf ad z)) (hR.w.2.1 _ fin_79).1) dX14_outMethod_91 ?_
            refine lv_aload_n hx hb dX14_outMethod_94 rfl (lv_at hl 0 rfl) ?_
            refine va_get (D := rD g) (ci := 13) (v := .int (qI U57 0 52)) (C := RX14) (T := TX14) (N := 143) hx hb hts in2X14 hown hR.K hR.P 0 (hR.at14 hR.w.1) rfl 52 (by decide) (hts _ kx_370) (fun _ h9 => h9) rfl dX14_outMethod_95 ?_
            refine lv_iload_n hx hb dX14_outMethod_98 rfl (lv_at hl 3 rfl) ?_
            obtain ⟨hv35, h⟩ := h
            refine va_iast hx hb hR.K hR.P hR.D hR.sS 36 1 (hR.atI (hR.w.2.1 _ fin_79).2.1) rfl (k_ixN (k_ix (n := 1297) (x := (qI U57 0 52)) (a := (qI U57 0 52).toInt) rfl hv35) (hR.w.2.1 _ fin_79).2.2) dX14_outMethod_99 (fun H locs hP hD hS => ?_)
            have hR : Rep g ad A s (wI U57 36 (((qI U57 0 52).toInt).toNat) v57_3) H locs := hR.aI (hR.w.2.1 _ fin_79).2.1 hP hD hS
            obtain ⟨S36, eS36⟩ : ∃ z, z = wI U57 36 (((qI U57 0 52).toInt).toNat) v57_3 := ⟨_, rfl⟩
            rw [← eS36] at hR
            replace h := h S36 eS36
            have hT_v57_1 : qT S36 v57_1 = 11 := (congrArg (fun z => qT z v57_1) eS36).trans hT_v57_1
            have hsh : shy S S36 := by rw [eS36]; exact hsh
            refine lv_aload_n hx hb dX14_outMethod_100 rfl (lv_at hl 0 rfl) ?_
            refine lv_aload_n hx hb dX14_outMethod_101 rfl (lv_at hl 0 rfl) ?_
            have hT_t37 : qT S36 10000000 = 12 := hR.w.txt (i := 0) (by decide)
            refine va_ldcSW (tx := "Code") (q := ad 10000000) hx hb hown (hE.2.2 _ ldc_412) dX14_outMethod_102 ?_
            obtain ⟨Q38, EQ38, h0, h⟩ := h
            have hFc := rfree hR hA
            refine vx_calli (vx_runV (As := [.ref (ad 10000000)]) (rest := [.ref (ad 0)]) ⟨hx, hb, hml, hown, hts⟩ (r_nameNumber l g ad H.size S36 10000000 hR.w hT_t37 Q38 EQ38 h0) (cwV 1 hts (gd2_V kx_547 kx_548 kx_549 kx_177 kx_550) rfl rfl rfl (by decide +kernel) ⟨Nat.le_of_ble_eq_true rfl, Nat.le_of_ble_eq_true rfl⟩) ⟨rblind, va_recv hR.K hR.P (ci := 13) (q0 := 0) rfl (hR.at14 hR.w.1), fun U hU hW9 => rmk hU hW9 hR hex hE hFc⟩ rfl rfl hl.1 rfl (lv_room (Nat.le_of_ble_eq_true rfl)) dX14_outMethod_105 ⟨Nat.le_of_ble_eq_true rfl, Nat.le_of_ble_eq_true rfl⟩) hR.sS (fun q _ h => hFc q h) hFc (fun q _ h => hFc q h) (fun E9 ce9 q9 u9 t9 H1 locs ht9 hvm9 hp9 hB9 hz9 hk9 hS hce9 hcv9 hcl9 => ?_) (fun r39 S40 t9 H1 locs ht9 hvm9 hw9 hB9 hz9 hk9 hS => ?_)
            · obtain ⟨hp9, hwx, hsx⟩ := hp9
              obtain ⟨rfl, hBx⟩ := hB9
              replace h := h.2 u9 hp9
              have hR : Rep g ad A s u9 H1 locs := hR.call ht9 hBx hwx hS hFc
              have hsh := hsh.tr hsx
              exact vx_out (E := RJxb5711) (q := q9) (fun x h9 => (hnt x h9).elim) hlocks hce9 hcv9 hcl9 (fun t9 ht9 ha9 => ⟨u9, ⟨h, hR.w, hsh⟩, ⟨rfl, by rw [ht9]; exact hR.P, hR.D⟩, hR.sS.F ht9⟩) hR.sS.2.2 (Nat.le_of_ble_eq_true rfl) (Nat.le_of_ble_eq_true rfl)
            · obtain ⟨hq41, hw9, hs9⟩ := hw9
              have hR : Rep g ad A s S40 H1 locs := hR.call ht9 hB9 hw9 hS hFc
              have hsh := hsh.tr hs9
              replace h := h.1 r39 S40 hq41
              have hT_v57_1 := hs9.T hT_v57_1 (by decide)
              clear hB9 hz9 hk9 hvm9 ht9 hw9 hs9 hS
              generalize H1 = H at hR ⊢
              refine lv_i2l (v := (r39.toInt64)) hx hb dX14_outMethod_108 rfl ?_
              refine lv_iconst (v := 2) hx hb dX14_outMethod_109 (by decide) ?_
              obtain ⟨Q42, h0, h⟩ := h
              have hFc := rfree hR hA
              refine va_callv (va_runV (As := [.long (r39.toInt64), .int 2]) (rest := []) ⟨hx, hb, hml, hown, hts⟩ (r_out l g ad H.size S40 (r39.toInt64) (2 : Int32) hR.w  Q42 h0) (cwV 2 hts (gd2_V kx_586 kx_587 kx_588 kx_177 kx_589) rfl rfl rfl (by decide +kernel) ⟨Nat.le_of_ble_eq_true rfl, Nat.le_of_ble_eq_true rfl⟩) ⟨rblind, va_recv hR.K hR.P (ci := 13) (q0 := 0) rfl (hR.at14 hR.w.1), fun U hU hW9 => rmk hU hW9 hR hex hE hFc⟩ rfl rfl hl.1 rfl (lv_room (Nat.le_of_ble_eq_true rfl)) dX14_outMethod_110 ⟨Nat.le_of_ble_eq_true rfl, Nat.le_of_ble_eq_true rfl⟩) hR.sS (fun q _ h => hFc q h) hFc (fun  S43 t9 H1 locs ht9 hvm9 hw9 hB9 hz9 hk9 hS => ?_)
              obtain ⟨hq44, hw9, hs9⟩ := hw9
              have hR : Rep g ad A s S43 H1 locs := hR.call ht9 hB9 hw9 hS hFc
              have hsh := hsh.tr hs9
              replace h := h  S43 hq44
              have hT_v57_1 := hs9.T hT_v57_1 (by decide)
              clear hB9 hz9 hk9 hvm9 ht9 hw9 hs9 hS
              generalize H1 = H at hR ⊢
              refine lv_aload_n hx hb dX14_outMethod_113 rfl (lv_at hl 0 rfl) ?_
              refine lv_bipush (v := 12) hx hb dX14_outMethod_114 (by decide) ?_
              refine lv_iload_n hx hb dX14_outMethod_116 rfl (lv_at hl 3 rfl) ?_
              refine lv_iadd hx hb dX14_outMethod_117 ?_
              refine lv_topi (fun z45 ez45 => ?_)
              obtain rfl : z45 = ((12 : Int32) + v57_3) := ez45
              refine lv_bipush (v := 8) hx hb dX14_outMethod_118 (by decide) ?_
              refine lv_aload_n hx hb dX14_outMethod_120 rfl (lv_at hl 0 rfl) ?_
              refine va_get (D := rD g) (ci := 13) (v := .int (qI S43 0 54)) (C := RX14) (T := TX14) (N := 143) hx hb hts in2X14 hown hR.K hR.P 0 (hR.at14 hR.w.1) rfl 54 (by decide) (hts _ kx_374) (fun _ h9 => h9) rfl dX14_outMethod_121 ?_
              refine lv_imul hx hb dX14_outMethod_124 ?_
              refine lv_topi (fun z46 ez46 => ?_)
              obtain rfl : z46 = ((8 : Int32) * (qI S43 0 54)) := ez46
              refine lv_iadd hx hb dX14_outMethod_125 ?_
              refine lv_topi (fun z47 ez47 => ?_)
              obtain rfl : z47 = (((12 : Int32) + v57_3) + ((8 : Int32) * (qI S43 0 54))) := ez47
              refine lv_i2l (v := ((((12 : Int32) + v57_3) + ((8 : Int32) * (qI S43 0 54))).toInt64)) hx hb dX14_outMethod_126 rfl ?_
              refine lv_iconst (v := 4) hx hb dX14_outMethod_127 (by decide) ?_
              obtain ⟨Q48, h0, h⟩ := h
              have hFc := rfree hR hA
              refine va_callv (va_runV (As := [.long ((((12 : Int32) + v57_3) + ((8 : Int32) * (qI S43 0 54))).toInt64), .int 4]) (rest := []) ⟨hx, hb, hml, hown, hts⟩ (r_out l g ad H.size S43 ((((12 : Int32) + v57_3) + ((8 : Int32) * (qI S43 0 54))).toInt64) (4 : Int32) hR.w  Q48 h0) (cwV 2 hts (gd2_V kx_586 kx_587 kx_588 kx_177 kx_589) rfl rfl rfl (by decide +kernel) ⟨Nat.le_of_ble_eq_true rfl, Nat.le_of_ble_eq_true rfl⟩) ⟨rblind, va_recv hR.K hR.P (ci := 13) (q0 := 0) rfl (hR.at14 hR.w.1), fun U hU hW9 => rmk hU hW9 hR hex hE hFc⟩ rfl rfl hl.1 rfl (lv_room (Nat.le_of_ble_eq_true rfl)) dX14_outMethod_128 ⟨Nat.le_of_ble_eq_true rfl, Nat.le_of_ble_eq_true rfl⟩) hR.sS (fun q _ h => hFc q h) hFc (fun  S49 t9 H1 locs ht9 hvm9 hw9 hB9 hz9 hk9 hS => ?_)
              obtain ⟨hq50, hw9, hs9⟩ := hw9
              have hR : Rep g ad A s S49 H1 locs := hR.call ht9 hB9 hw9 hS hFc
              have hsh := hsh.tr hs9
              replace h := h  S49 hq50
              have hT_v57_1 := hs9.T hT_v57_1 (by decide)
              clear hB9 hz9 hk9 hvm9 ht9 hw9 hs9 hS
              generalize H1 = H at hR ⊢
              refine lv_aload_n hx hb dX14_outMethod_131 rfl (lv_at hl 0 rfl) ?_
              refine lv_aload_n hx hb dX14_outMethod_132 rfl (lv_at hl 0 rfl) ?_
              obtain ⟨Q51, h0, h⟩ := h
              have hFc := rfree hR hA
              refine va_calli (va_runV (As := []) (rest := [.ref (ad 0)]) ⟨hx, hb, hml, hown, hts⟩ (r_leastStack l g ad H.size S49 hR.w  Q51 h0) (cwV 0 hts (gd2_V kx_593 kx_594 kx_595 kx_177 kx_596) rfl rfl rfl (by decide +kernel) ⟨Nat.le_of_ble_eq_true rfl, Nat.le_of_ble_eq_true rfl⟩) ⟨rblind, va_recv hR.K hR.P (ci := 13) (q0 := 0) rfl (hR.at14 hR.w.1), fun U hU hW9 => rmk hU hW9 hR hex hE hFc⟩ rfl rfl hl.1 rfl (lv_room (Nat.le_of_ble_eq_true rfl)) dX14_outMethod_133 ⟨Nat.le_of_ble_eq_true rfl, Nat.le_of_ble_eq_true rfl⟩) hR.sS (fun q _ h => hFc q h) hFc (fun r52 S53 t9 H1 locs ht9 hvm9 hw9 hB9 hz9 hk9 hS => ?_)
              obtain ⟨hq54, hw9, hs9⟩ := hw9
              have hR : Rep g ad A s S53 H1 locs := hR.call ht9 hB9 hw9 hS hFc
              have hsh := hsh.tr hs9
              replace h := h r52 S53 hq54
              have hT_v57_1 := hs9.T hT_v57_1 (by decide)
              clear hB9 hz9 hk9 hvm9 ht9 hw9 hs9 hS
              generalize H1 = H at hR ⊢
              refine lv_i2l (v := (r52.toInt64)) hx hb dX14_outMethod_136 rfl ?_
              refine lv_iconst (v := 2) hx hb dX14_outMethod_137 (by decide) ?_
              obtain ⟨Q55, h0, h⟩ := h
              have hFc := rfree hR hA
              refine va_callv (va_runV (As := [.long (r52.toInt64), .int 2]) (rest := []) ⟨hx, hb, hml, hown, hts⟩ (r_out l g ad H.size S53 (r52.toInt64) (2 : Int32) hR.w  Q55 h0) (cwV 2 hts (gd2_V kx_586 kx_587 kx_588 kx_177 kx_589) rfl rfl rfl (by decide +kernel) ⟨Nat.le_of_ble_eq_true rfl, Nat.le_of_ble_eq_true rfl⟩) ⟨rblind, va_recv hR.K hR.P (ci := 13) (q0 := 0) rfl (hR.at14 hR.w.1), fun U hU hW9 => rmk hU hW9 hR hex hE hFc⟩ rfl rfl hl.1 rfl (lv_room (Nat.le_of_ble_eq_true rfl)) dX14_outMethod_138 ⟨Nat.le_of_ble_eq_true rfl, Nat.le_of_ble_eq_true rfl⟩) hR.sS (fun q _ h => hFc q h) hFc (fun  S56 t9 H1 locs ht9 hvm9 hw9 hB9 hz9 hk9 hS => ?_)
              obtain ⟨hq57, hw9, hs9⟩ := hw9
              have hR : Rep g ad A s S56 H1 locs := hR.call ht9 hB9 hw9 hS hFc
              have hsh := hsh.tr hs9
              replace h := h  S56 hq57
              have hT_v57_1 := hs9.T hT_v57_1 (by decide)
              clear hB9 hz9 hk9 hvm9 ht9 hw9 hs9 hS
              generalize H1 = H at hR ⊢
              refine lv_aload_n hx hb dX14_outMethod_141 rfl (lv_at hl 0 rfl) ?_
              refine lv_aload_n hx hb dX14_outMethod_142 rfl (lv_at hl 0 rfl) ?_
              refine lv_aload_n hx hb dX14_outMethod_143 rfl (lv_at hl 1 rfl) ?_
              obtain ⟨hv58, h⟩ := h
              have hT_b59 : qT S56 (qO S56 v57_1 10) = 5 := hR.w.ref hv58 hT_v57_1
              refine va_get (D := rD g) (ci := 12) (v := .ref (ad (qO S56 v57_1 10))) (C := RX13) (T := TX13) (N := 23) hx hb hts in2X13 hown hR.K hR.P v57_1 (hR.at13 hT_v57_1) rfl 10 (by decide) (hts _ kx_398) (fun _ h9 => h9) (congrArg (fun z => some (vf ad z)) hv58) dX14_outMethod_144 ?_
              refine lv_iload_n hx hb dX14_outMethod_147 rfl (lv_at hl 2 rfl) ?_
              obtain ⟨hv60, h⟩ := h
              refine va_aldq hx hb hR.K hR.P (qO S56 v57_1 10) 4 (hR.atS hT_b59) rfl (k_ix (x := v57_2) (a := v57_2.toInt) rfl hv60) dX14_outMethod_148 ?_
              obtain ⟨hv61, h⟩ := h
              have hT_b62 : qT S56 (qO S56 (qO S56 v57_1 10) v57_2.toInt.toNat) = 12 := hR.w.ref hv61 hT_b59
              rw [show va_rf (Option.map ad (qR S56 (qO S56 v57_1 10) (v57_2 : Int32).toNatClampNeg)) = .ref (ad (qO S56 (qO S56 v57_1 10) v57_2.toInt.toNat)) from congrArg (fun z => vf ad z) hv61]
              obtain ⟨Q63, h0, h⟩ := h
              have hFc := rfree hR hA
              refine va_calli (va_runV (As := [.ref (ad (qO S56 (qO S56 v57_1 10) v57_2.toInt.toNat))]) (rest := [.ref (ad 0)]) ⟨hx, hb, hml, hown, hts⟩ (r_leastLocals l g ad H.size S56 (qO S56 (qO S56 v57_1 10) v57_2.toInt.toNat) hR.w hT_b62 Q63 h0) (cwV 1 hts (gd2_V kx_597 kx_598 kx_599 kx_177 kx_600) rfl rfl rfl (by decide +kernel) ⟨Nat.le_of_ble_eq_true rfl, Nat.le_of_ble_eq_true rfl⟩) ⟨rblind, va_recv hR.K hR.P (ci := 13) (q0 := 0) rfl (hR.at14 hR.w.1), fun U hU hW9 => rmk hU hW9 hR hex hE hFc⟩ rfl rfl hl.1 rfl (lv_room (Nat.le_of_ble_eq_true rfl)) dX14_outMethod_149 ⟨Nat.le_of_ble_eq_true rfl, Nat.le_of_ble_eq_true rfl⟩) hR.sS (fun q _ h => hFc q h) hFc (fun r64 S65 t9 H1 locs ht9 hvm9 hw9 hB9 hz9 hk9 hS => ?_)
              obtain ⟨hq66, hw9, hs9⟩ := hw9
              have hR : Rep g ad A s S65 H1 locs := hR.call ht9 hB9 hw9 hS hFc
              have hsh := hsh.tr hs9
              replace h := h r64 S65 hq66
              have hT_v57_1 := hs9.T hT_v57_1 (by decide)
              clear hB9 hz9 hk9 hvm9 ht9 hw9 hs9 hS
              generalize H1 = H at hR ⊢
              refine lv_i2l (v := (r64.toInt64)) hx hb dX14_outMethod_152 rfl ?_
              refine lv_iconst (v := 2) hx hb dX14_outMethod_153 (by decide) ?_
              obtain ⟨Q67, h0, h⟩ := h
              have hFc := rfree hR hA
              refine va_callv (va_runV (As := [.long (r64.toInt64), .int 2]) (rest := []) ⟨hx, hb, hml, hown, hts⟩ (r_out l g ad H.size S65 (r64.toInt64) (2 : Int32) hR.w  Q67 h0) (cwV 2 hts (gd2_V kx_586 kx_587 kx_588 kx_177 kx_589) rfl rfl rfl (by decide +kernel) ⟨Nat.le_of_ble_eq_true rfl, Nat.le_of_ble_eq_true rfl⟩) ⟨rblind, va_recv hR.K hR.P (ci := 13) (q0 := 0) rfl (hR.at14 hR.w.1), fun U hU hW9 => rmk hU hW9 hR hex hE hFc⟩ rfl rfl hl.1 rfl (lv_room (Nat.le_of_ble_eq_true rfl)) dX14_outMethod_154 ⟨Nat.le_of_ble_eq_true rfl, Nat.le_of_ble_eq_true rfl⟩) hR.sS (fun q _ h => hFc q h) hFc (fun  S68 t9 H1 locs ht9 hvm9 hw9 hB9 hz9 hk9 hS => ?_)
              obtain ⟨hq69, hw9, hs9⟩ := hw9
              have hR : Rep g ad A s S68 H1 locs := hR.call ht9 hB9 hw9 hS hFc
              have hsh := hsh.tr hs9
              replace h := h  S68 hq69
              have hT_v57_1 := hs9.T hT_v57_1 (by decide)
              clear hB9 hz9 hk9 hvm9 ht9 hw9 hs9 hS
              generalize H1 = H at hR ⊢
              refine lv_aload_n hx hb dX14_outMethod_157 rfl (lv_at hl 0 rfl) ?_
              refine lv_iload_n hx hb dX14_outMethod_158 rfl (lv_at hl 3 rfl) ?_
              refine lv_i2l (v := (v57_3.toInt64)) hx hb dX14_outMethod_159 rfl ?_
              refine lv_iconst (v := 4) hx hb dX14_outMethod_160 (by decide) ?_
              obtain ⟨Q70, h0, h⟩ := h
              have hFc := rfree hR hA
              refine va_callv (va_runV (As := [.long (v57_3.toInt64), .int 4]) (rest := []) ⟨hx, hb, hml, hown, hts⟩ (r_out l g ad H.size S68 (v57_3.toInt64) (4 : Int32) hR.w  Q70 h0) (cwV 2 hts (gd2_V kx_586 kx_587 kx_588 kx_177 kx_589) rfl rfl rfl (by decide +kernel) ⟨Nat.le_of_ble_eq_true rfl, Nat.le_of_ble_eq_true rfl⟩) ⟨rblind, va_recv hR.K hR.P (ci := 13) (q0 := 0) rfl (hR.at14 hR.w.1), fun U hU hW9 => rmk hU hW9 hR hex hE hFc⟩ rfl rfl hl.1 rfl (lv_room (Nat.le_of_ble_eq_true rfl)) dX14_outMethod_161 ⟨Nat.le_of_ble_eq_true rfl, Nat.le_of_ble_eq_true rfl⟩) hR.sS (fun q _ h => hFc q h) hFc (fun  S71 t9 H1 locs ht9 hvm9 hw9 hB9 hz9 hk9 hS => ?_)
              obtain ⟨hq72, hw9, hs9⟩ := hw9
              have hR : Rep g ad A s S71 H1 locs := hR.call ht9 hB9 hw9 hS hFc
              have hsh := hsh.tr hs9
              replace h := h  S71 hq72
              have hT_v57_1 := hs9.T hT_v57_1 (by decide)
              clear hB9 hz9 hk9 hvm9 ht9 hw9 hs9 hS
              generalize H1 = H at hR ⊢
              refine lv_iconst (v := 0) hx hb dX14_outMethod_164 (by decide) ?_
              refine lv_istore (lv' := [(4, .int 0), (0, .ref (ad 0)), (1, .ref (ad v57_1)), (2, .int v57_2), (3, .int v57_3)]) hx hb dX14_outMethod_165 hl (by decide) rfl (fun ls hl => ?_)
              have J_167 : ∀ (n167 : Nat) (U167 : MS) (v167_4 : Int32) (H : Heap) (locs : List Loc) (ls : Array Slot), w_outMethod_L167 Q E n167 U167 v167_4 → shy S U167 → Rep g ad A s U167 H locs → lv_has ls 6 [(0, .ref (ad 0)), (4, .int v167_4)] → W p l e (headSpec (wt2 yX14_outMethod cX14_outMethod 6 none) ({ frames := 9, cells := 0, slots := 0, locals := 207 })).room s m ([.ref (ad 0), .ref (ad p1), .int x2] : List Value).toArray below meth c H locs 0 0 (vx_MQ below (va_Qv (fun (u : MS) => Q u ∧ wfM u ∧ shy S u) (fun (u : MS) (t : State) => qE g ad A u t) A) ((vx_X (fun (u : MS) => E u ∧ wfM u ∧ shy S u) (fun (n9 : String) (u : MS) (t : State) => n9 = RJxb5711 ∧ qE g ad A u t) A)) ([.ref (ad 0), .ref (ad p1), .int x2] : List Value).toArray s 0 0 A) (F0 m 167 ls []) := by
                intro n167
                induction n167 with
                | zero => intro U167 v167_4 H locs ls h hsh hR hl; unfold w_outMethod_L167 at h; exact h.elim
                | succ n167 ih_167 =>
                  intro U167 v167_4 H locs ls h hsh hR hl
                  unfold w_outMethod_L167 at h
                  refine lv_iload hx hb dX14_outMethod_167 (lv_at hl 1 rfl) ?_
                  refine lv_aload_n hx hb dX14_outMethod_169 rfl (lv_at hl 0 rfl) ?_
                  refine va_get (D := rD g) (ci := 13) (v := .int (qI U167 0 52)) (C := RX14) (T := TX14) (N := 143) hx hb hts in2X14 hown hR.K hR.P 0 (hR.at14 hR.w.1) rfl 52 (by decide) (hts _ kx_370) (fun _ h9 => h9) rfl dX14_outMethod_170 ?_
                  refine lv_icmp_ge (tgt := 188) hx hb dX14_outMethod_173 (by decide) (fun c73 => ?_) (fun c73 => ?_)
                  · replace h := h.1 (k_le rfl rfl c73)
                    refine lv_aload_n hx hb dX14_outMethod_188 rfl (lv_at hl 0 rfl) ?_
                    refine lv_aload_n hx hb dX14_outMethod_189 rfl (lv_at hl 0 rfl) ?_
                    refine va_get (D := rD g) (ci := 13) (v := .int (qI U167 0 54)) (C := RX14) (T := TX14) (N := 143) hx hb hts in2X14 hown hR.K hR.P 0 (hR.at14 hR.w.1) rfl 54 (by decide) (hts _ kx_374) (fun _ h9 => h9) rfl dX14_outMethod_190 ?_
                    refine lv_i2l (v := ((qI U167 0 54).toInt64)) hx hb dX14_outMethod_193 rfl ?_
                    refine lv_iconst (v := 2) hx hb dX14_outMethod_194 (by decide) ?_
                    obtain ⟨Q74, h0, h⟩ := h
                    have hFc := rfree hR hA
                    refine va_callv (va_runV (As := [.long ((qI U167 0 54).toInt64), .int 2]) (rest := []) ⟨hx, hb, hml, hown, hts⟩ (r_out l g ad H.size U167 ((qI U167 0 54).toInt64) (2 : Int32) hR.w  Q74 h0) (cwV 2 hts (gd2_V kx_586 kx_587 kx_588 kx_177 kx_589) rfl rfl rfl (by decide +kernel) ⟨Nat.le_of_ble_eq_true rfl, Nat.le_of_ble_eq_true rfl⟩) ⟨rblind, va_recv hR.K hR.P (ci := 13) (q0 := 0) rfl (hR.at14 hR.w.1), fun U hU hW9 => rmk hU hW9 hR hex hE hFc⟩ rfl rfl hl.1 rfl (lv_room (Nat.le_of_ble_eq_true rfl)) dX14_outMethod_195 ⟨Nat.le_of_ble_eq_true rfl, Nat.le_of_ble_eq_true rfl⟩) hR.sS (fun q _ h => hFc q h) hFc (fun  S75 t9 H1 locs ht9 hvm9 hw9 hB9 hz9 hk9 hS => ?_)
                    obtain ⟨hq76, hw9, hs9⟩ := hw9
                    have hR : Rep g ad A s S75 H1 locs := hR.call ht9 hB9 hw9 hS hFc
                    have hsh := hsh.tr hs9
                    replace h := h  S75 hq76
                    clear hB9 hz9 hk9 hvm9 ht9 hw9 hs9 hS
                    generalize H1 = H at hR ⊢
                    refine lv_iconst (v := 0) hx hb dX14_outMethod_198 (by decide) ?_
                    refine lv_istore (lv' := [(4, .int 0), (0, .ref (ad 0))]) hx hb dX14_outMethod_199 hl (by decide) rfl (fun ls hl => ?_)
                    have J_201 : ∀ (n201 : Nat) (U201 : MS) (v201_4 : Int32) (H : Heap) (locs : List Loc) (ls : Array Slot), w_outMethod_L201 Q E n201 U201 v201_4 → shy S U201 → Rep g ad A s U201 H locs → lv_has ls 6 [(0, .ref (ad 0)), (4, .int v201_4)] → W p l e (headSpec (wt2 yX14_outMethod cX14_outMethod 6 none) ({ frames := 9, cells := 0, slots := 0, locals := 207 })).room s m ([.ref (ad 0), .ref (ad p1), .int x2] : List Value).toArray below meth c H locs 0 0 (vx_MQ below (va_Qv (fun (u : MS) => Q u ∧ wfM u ∧ shy S u) (fun (u : MS) (t : State) => qE g ad A u t) A) ((vx_X (fun (u : MS) => E u ∧ wfM u ∧ shy S u) (fun (n9 : String) (u : MS) (t : State) => n9 = RJxb5711 ∧ qE g ad A u t) A)) ([.ref (ad 0), .ref (ad p1), .int x2] : List Value).toArray s 0 0 A) (F0 m 201 ls []) := by
                      intro n201
                      induction n201 with
                      | zero => intro U201 v201_4 H locs ls h hsh hR hl; unfold w_outMethod_L201 at h; exact h.elim
                      | succ n201 ih_201 =>
                        intro U201 v201_4 H locs ls h hsh hR hl
                        unfold w_outMethod_L201 at h
                        refine lv_iload hx hb dX14_outMethod_201 (lv_at hl 1 rfl) ?_
                        refine lv_aload_n hx hb dX14_outMethod_203 rfl (lv_at hl 0 rfl) ?_
                        refine va_get (D := rD g) (ci := 13) (v := .int (qI U201 0 54)) (C := RX14) (T := TX14) (N := 143) hx hb hts in2X14 hown hR.K hR.P 0 (hR.at14 hR.w.1) rfl 54 (by decide) (hts _ kx_374) (fun _ h9 => h9) rfl dX14_outMethod_204 ?_
                        refine lv_icmp_ge (tgt := 284) hx hb dX14_outMethod_207 (by decide) (fun c77 => ?_) (fun c77 => ?_)
                        · replace h := h.1 (k_le rfl rfl c77)
                          refine lv_aload_n hx hb dX14_outMethod_284 rfl (lv_at hl 0 rfl) ?_
                          refine lv_lconst (v := 0) hx hb dX14_outMethod_285 (by decide) ?_
                          refine lv_iconst (v := 2) hx hb dX14_outMethod_286 (by decide) ?_
                          obtain ⟨Q78, h0, h⟩ := h
                          have hFc := rfree hR hA
                          refine va_callv (va_runV (As := [.long 0, .int 2]) (rest := []) ⟨hx, hb, hml, hown, hts⟩ (r_out l g ad H.size U201 0 (2 : Int32) hR.w  Q78 h0) (cwV 2 hts (gd2_V kx_586 kx_587 kx_588 kx_177 kx_589) rfl rfl rfl (by decide +kernel) ⟨Nat.le_of_ble_eq_true rfl, Nat.le_of_ble_eq_true rfl⟩) ⟨rblind, va_recv hR.K hR.P (ci := 13) (q0 := 0) rfl (hR.at14 hR.w.1), fun U hU hW9 => rmk hU hW9 hR hex hE hFc⟩ rfl rfl hl.1 rfl (lv_room (Nat.le_of_ble_eq_true rfl)) dX14_outMethod_287 ⟨Nat.le_of_ble_eq_true rfl, Nat.le_of_ble_eq_true rfl⟩) hR.sS (fun q _ h => hFc q h) hFc (fun  S79 t9 H1 locs ht9 hvm9 hw9 hB9 hz9 hk9 hS => ?_)
                          obtain ⟨hq80, hw9, hs9⟩ := hw9
                          have hR : Rep g ad A s S79 H1 locs := hR.call ht9 hB9 hw9 hS hFc
                          have hsh := hsh.tr hs9
                          replace h := h  S79 hq80
                          clear hB9 hz9 hk9 hvm9 ht9 hw9 hs9 hS
                          generalize H1 = H at hR ⊢
                          exact vx_ret (W.vret hx hb hr (fun t9 ht9 hW9 => ⟨⟨S79, rfl, ⟨h, hR.w, hsh⟩, ⟨by rw [ht9]; exact hR.P, hR.D⟩⟩, hR.sS.F ht9⟩) hR.sS.2.2 dX14_outMethod_290)
                        · replace h := h.2 (k_nle rfl rfl c77)
                          refine lv_iconst (v := 0) hx hb dX14_outMethod_210 (by decide) ?_
                          refine lv_istore (lv' := [(5, .int 0), (0, .ref (ad 0)), (4, .int v201_4)]) hx hb dX14_outMethod_211 hl (by decide) rfl (fun ls hl => ?_)
                          have J_213 : ∀ (n213 : Nat) (U213 : MS) (v213_4 : Int32) (v213_5 : Int32) (H : Heap) (locs : List Loc) (ls : Array Slot), w_outMethod_L213 Q E (w_outMethod_L201 Q E n201) n213 U213 v213_4 v213_5 → shy S U213 → Rep g ad A s U213 H locs → lv_has ls 6 [(0, .ref (ad 0)), (4, .int v213_4), (5, .int v213_5)] → W p l e (headSpec (wt2 yX14_outMethod cX14_outMethod 6 none) ({ frames := 9, cells := 0, slots := 0, locals := 207 })).room s m ([.ref (ad 0), .ref (ad p1), .int x2] : List Value).toArray below meth c H locs 0 0 (vx_MQ below (va_Qv (fun (u : MS) => Q u ∧ wfM u ∧ shy S u) (fun (u : MS) (t : State) => qE g ad A u t) A) ((vx_X (fun (u : MS) => E u ∧ wfM u ∧ shy S u) (fun (n9 : String) (u : MS) (t : State) => n9 = RJxb5711 ∧ qE g ad A u t) A)) ([.ref (ad 0), .ref (ad p1), .int x2] : List Value).toArray s 0 0 A) (F0 m 213 ls []) := by
                            intro n213
                            induction n213 with
                            | zero => intro U213 v213_4 v213_5 H locs ls h hsh hR hl; unfold w_outMethod_L213 at h; exact h.elim
                            | succ n213 ih_213 =>
                              intro U213 v213_4 v213_5 H locs ls h hsh hR hl
                              unfold w_outMethod_L213 at h
                              refine lv_iload hx hb dX14_outMethod_213 (lv_at hl 2 rfl) ?_
                              refine lv_iconst (v := 3) hx hb dX14_outMethod_215 (by decide) ?_
                              refine lv_icmp_ge (tgt := 244) hx hb dX14_outMethod_216 (by decide) (fun c81 => ?_) (fun c81 => ?_)
                              · replace h := h.1 (k_le (by decide) rfl c81)
                                refine lv_aload_n hx hb dX14_outMethod_244 rfl (lv_at hl 0 rfl) ?_
                                refine lv_aload_n hx hb dX14_outMethod_245 rfl (lv_at hl 0 rfl) ?_
                                refine lv_iload hx hb dX14_outMethod_246 (lv_at hl 1 rfl) ?_
                                refine lv_iconst (v := 3) hx hb dX14_outMethod_248 (by decide) ?_
                                obtain ⟨hv82, h⟩ := h
                                have hFc := rfree hR hA
                                refine va_calli (va_runV (As := [.int v213_4, .int 3]) (rest := [.ref (ad 0)]) ⟨hx, hb, hml, hown, hts⟩ (r_catchWord l g ad H.size U213 v213_4 (3 : Int32) hR.w  hv82) (cwV 2 hts (gd2_V kx_375 kx_376 kx_377 kx_177 kx_378) rfl rfl rfl (by decide +kernel) ⟨Nat.le_of_ble_eq_true rfl, Nat.le_of_ble_eq_true rfl⟩) ⟨rblind, va_recv hR.K hR.P (ci := 13) (q0 := 0) rfl (hR.at14 hR.w.1), fun U hU hW9 => rmk hU hW9 hR hex hE hFc⟩ rfl rfl hl.1 rfl (lv_room (Nat.le_of_ble_eq_true rfl)) dX14_outMethod_249 ⟨Nat.le_of_ble_eq_true rfl, Nat.le_of_ble_eq_true rfl⟩) hR.sS (fun q _ h => hFc q h) hFc (fun r83 u9 t9 H1 locs ht9 hvm9 hw9 hB9 hz9 hk9 hS => ?_)
                                have hR : Rep g ad A s U213 H1 locs := hR.call ht9 hB9 hR.w hS hFc
                                obtain rfl : r83 = (f_catchWord U213 v213_4 (3 : Int32)) := hw9
                                clear hB9 hz9 hk9 hvm9 ht9 hS
                                generalize H1 = H at hR ⊢
                                have J_274 : ∀ (U274 : MS) (t274_0 : Int64) (v274_4 : Int32) (H : Heap) (locs : List Loc) (ls : Array Slot), w_outMethod_J274 Q E (w_outMethod_L201 Q E n201) U274 t274_0 v274_4 → shy S U274 → Rep g ad A s U274 H locs → lv_has ls 6 [(0, .ref (ad 0)), (4, .int v274_4)] → W p l e (headSpec (wt2 yX14_outMethod cX14_outMethod 6 none) ({ frames := 9, cells := 0, slots := 0, locals := 207 })).room s m ([.ref (ad 0), .ref (ad p1), .int x2] : List Value).toArray below meth c H locs 0 0 (vx_MQ below (va_Qv (fun (u : MS) => Q u ∧ wfM u ∧ shy S u) (fun (u : MS) (t : State) => qE g ad A u t) A) ((vx_X (fun (u : MS) => E u ∧ wfM u ∧ shy S u) (fun (n9 : String) (u : MS) (t : State) => n9 = RJxb5711 ∧ qE g ad A u t) A)) ([.ref (ad 0), .ref (ad p1), .int x2] : List Value).toArray s 0 0 A) (F0 m 274 ls [.long t274_0, .ref (ad 0)]) := by
                                  intro U274 t274_0 v274_4 H locs ls h hsh hR hl
                                  unfold w_outMethod_J274 at h
                                  refine lv_iconst (v := 2) hx hb dX14_outMethod_274 (by decide) ?_
                                  obtain ⟨Q85, h0, h⟩ := h
                                  have hFc := rfree hR hA
                                  refine va_callv (va_runV (As := [.long t274_0, .int 2]) (rest := []) ⟨hx, hb, hml, hown, hts⟩ (r_out l g ad H.size U274 t274_0 (2 : Int32) hR.w  Q85 h0) (cwV 2 hts (gd2_V kx_586 kx_587 kx_588 kx_177 kx_589) rfl rfl rfl (by decide +kernel) ⟨Nat.le_of_ble_eq_true rfl, Nat.le_of_ble_eq_true rfl⟩) ⟨rblind, va_recv hR.K hR.P (ci := 13) (q0 := 0) rfl (hR.at14 hR.w.1), fun U hU hW9 => rmk hU hW9 hR hex hE hFc⟩ rfl rfl hl.1 rfl (lv_room (Nat.le_of_ble_eq_true rfl)) dX14_outMethod_275 ⟨Nat.le_of_ble_eq_true rfl, Nat.le_of_ble_eq_true rfl⟩) hR.sS (fun q _ h => hFc q h) hFc (fun  S86 t9 H1 locs ht9 hvm9 hw9 hB9 hz9 hk9 hS => ?_)
                                  obtain ⟨hq87, hw9, hs9⟩ := hw9
                                  have hR : Rep g ad A s S86 H1 locs := hR.call ht9 hB9 hw9 hS hFc
                                  have hsh := hsh.tr hs9
                                  replace h := h  S86 hq87
                                  clear hB9 hz9 hk9 hvm9 ht9 hw9 hs9 hS
                                  generalize H1 = H at hR ⊢
                                  obtain ⟨a88, ea88⟩ : ∃ z, z = (v274_4 + Int32.ofInt 1) := ⟨_, rfl⟩
                                  replace h := h a88 ea88
                                  refine lv_iinc (v := a88) (lv' := [(4, .int a88), (0, .ref (ad 0))]) hx hb dX14_outMethod_278 hl (k := 1) rfl ea88.symm (by decide) rfl (fun ls hl => ?_)
                                  refine lv_goto (tgt := 201) hx hb dX14_outMethod_281 (by decide) ?_
                                  exact ih_201 S86 a88 _ _ ls h  hsh hR (lv_sub hl [1, 0] rfl)
                                refine lv_if_ge (tgt := 259) hx hb dX14_outMethod_252 (by decide) (fun c89 => ?_) (fun c89 => ?_)
                                · replace h := h.1 (k_le (by decide) rfl c89)
                                  refine lv_aload_n hx hb dX14_outMethod_259 rfl (lv_at hl 0 rfl) ?_
                                  refine lv_aload_n hx hb dX14_outMethod_260 rfl (lv_at hl 0 rfl) ?_
                                  refine lv_iload hx hb dX14_outMethod_261 (lv_at hl 1 rfl) ?_
                                  refine lv_iconst (v := 3) hx hb dX14_outMethod_263 (by decide) ?_
                                  obtain ⟨hv90, h⟩ := h
                                  have hFc := rfree hR hA
                                  refine va_calli (va_runV (As := [.int v213_4, .int 3]) (rest := [.ref (ad 0), .ref (ad 0)]) ⟨hx, hb, hml, hown, hts⟩ (r_catchWord l g ad H.size U213 v213_4 (3 : Int32) hR.w  hv90) (cwV 2 hts (gd2_V kx_375 kx_376 kx_377 kx_177 kx_378) rfl rfl rfl (by decide +kernel) ⟨Nat.le_of_ble_eq_true rfl, Nat.le_of_ble_eq_true rfl⟩) ⟨rblind, va_recv hR.K hR.P (ci := 13) (q0 := 0) rfl (hR.at14 hR.w.1), fun U hU hW9 => rmk hU hW9 hR hex hE hFc⟩ rfl rfl hl.1 rfl (lv_room (Nat.le_of_ble_eq_true rfl)) dX14_outMethod_264 ⟨Nat.le_of_ble_eq_true rfl, Nat.le_of_ble_eq_true rfl⟩) hR.sS (fun q _ h => hFc q h) hFc (fun r91 u9 t9 H1 locs ht9 hvm9 hw9 hB9 hz9 hk9 hS => ?_)
                                  have hR : Rep g ad A s U213 H1 locs := hR.call ht9 hB9 hR.w hS hFc
                                  obtain rfl : r91 = (f_catchWord U213 v213_4 (3 : Int32)) := hw9
                                  clear hB9 hz9 hk9 hvm9 ht9 hS
                                  generalize H1 = H at hR ⊢
                                  obtain ⟨hv93, h⟩ := h
                                  have hFc := rfree hR hA
                                  refine va_callq (va_runS (As := [.int (f_catchWord U213 v213_4 (3 : Int32))]) (rest := [.ref (ad 0), .ref (ad 0)]) ⟨hx, hb, hml, hown, hts⟩ (r_errorName l g ad H.size U213 (f_catchWord U213 v213_4 (3 : Int32)) hR.w  hv93) (va_cwS 1 hts (gd2_S kx_572 kx_573 kx_177 kx_574) rfl rfl rfl (by decide +kernel) ⟨Nat.le_of_ble_eq_true rfl, Nat.le_of_ble_eq_true rfl⟩) ⟨rblind, fun U hU hW9 => rmk hU hW9 hR hex hE hFc⟩ rfl rfl hl.1 rfl (lv_room (Nat.le_of_ble_eq_true rfl)) dX14_outMethod_267 ⟨Nat.le_of_ble_eq_true rfl, Nat.le_of_ble_eq_true rfl⟩) hR.sS (fun q _ h => hFc q h) hFc (fun r94 u9 t9 H1 locs ht9 hvm9 hw9 hB9 hz9 hk9 hS => ?_)
                                  have hR : Rep g ad A s U213 H1 locs := hR.call ht9 hB9 hR.w hS hFc
                                  obtain ⟨rfl, hT_r94⟩ := hw9
                                  clear hB9 hz9 hk9 hvm9 ht9 hS
                                  generalize H1 = H at hR ⊢
                                  obtain ⟨Q96, EQ96, h0, h⟩ := h
                                  have hFc := rfree hR hA
                                  refine vx_calli (vx_runV (As := [.ref (ad (f_errorName U213 (f_catchWord U213 v213_4 (3 : Int32))))]) (rest := [.ref (ad 0)]) ⟨hx, hb, hml, hown, hts⟩ (r_classNumber l g ad H.size U213 (f_errorName U213 (f_catchWord U213 v213_4 (3 : Int32))) hR.w hT_r94 Q96 EQ96 h0) (cwV 1 hts (gd2_V kx_552 kx_553 kx_554 kx_177 kx_555) rfl rfl rfl (by decide +kernel) ⟨Nat.le_of_ble_eq_true rfl, Nat.le_of_ble_eq_true rfl⟩) ⟨rblind, va_recv hR.K hR.P (ci := 13) (q0 := 0) rfl (hR.at14 hR.w.1), fun U hU hW9 => rmk hU hW9 hR hex hE hFc⟩ rfl rfl hl.1 rfl (lv_room (Nat.le_of_ble_eq_true rfl)) dX14_outMethod_270 ⟨Nat.le_of_ble_eq_true rfl, Nat.le_of_ble_eq_true rfl⟩) hR.sS (fun q _ h => hFc q h) hFc (fun q _ h => hFc q h) (fun E9 ce9 q9 u9 t9 H1 locs ht9 hvm9 hp9 hB9 hz9 hk9 hS hce9 hcv9 hcl9 => ?_) (fun r97 S98 t9 H1 locs ht9 hvm9 hw9 hB9 hz9 hk9 hS => ?_)
                                  · obtain ⟨hp9, hwx, hsx⟩ := hp9
                                    obtain ⟨rfl, hBx⟩ := hB9
                                    replace h := h.2 u9 hp9
                                    have hR : Rep g ad A s u9 H1 locs := hR.call ht9 hBx hwx hS hFc
                                    have hsh := hsh.tr hsx
                                    exact vx_out (E := RJxb5711) (q := q9) (fun x h9 => (hnt x h9).elim) hlocks hce9 hcv9 hcl9 (fun t9 ht9 ha9 => ⟨u9, ⟨h, hR.w, hsh⟩, ⟨rfl, by rw [ht9]; exact hR.P, hR.D⟩, hR.sS.F ht9⟩) hR.sS.2.2 (Nat.le_of_ble_eq_true rfl) (Nat.le_of_ble_eq_true rfl)
                                  · obtain ⟨hq99, hw9, hs9⟩ := hw9
                                    have hR : Rep g ad A s S98 H1 locs := hR.call ht9 hB9 hw9 hS hFc
                                    have hsh := hsh.tr hs9
                                    replace h := h.1 r97 S98 hq99
                                    clear hB9 hz9 hk9 hvm9 ht9 hw9 hs9 hS
                                    generalize H1 = H at hR ⊢
                                    refine lv_i2l (v := (r97.toInt64)) hx hb dX14_outMethod_273 rfl ?_
                                    exact J_274 S98 (r97.toInt64) v213_4 _ _ ls h  hsh hR (lv_sub hl [0, 1] rfl)
                                · replace h := h.2 (k_nle (by decide) rfl c89)
                                  refine lv_lconst (v := 0) hx hb dX14_outMethod_255 (by decide) ?_
                                  refine lv_goto (tgt := 274) hx hb dX14_outMethod_256 (by decide) ?_
                                  exact J_274 U213 0 v213_4 _ _ ls h  hsh hR (lv_sub hl [0, 1] rfl)
                              · replace h := h.2 (k_nle (by decide) rfl c81)
                                refine lv_aload_n hx hb dX14_outMethod_219 rfl (lv_at hl 0 rfl) ?_
                                refine lv_aload_n hx hb dX14_outMethod_220 rfl (lv_at hl 0 rfl) ?_
                                refine va_get (D := rD g) (ci := 13) (v := .ref (ad 36)) (C := RX14) (T := TX14) (N := 143) hx hb hts in2X14 hown hR.K hR.P 0 (hR.at14 hR.w.1) rfl 79 (by decide) (hts _ kx_584) (fun _ h9 => h9) (congrArg (fun z => some (vf ad z)) (hR.w.2.1 _ fin_79).1) dX14_outMethod_221 ?_
                                refine lv_aload_n hx hb dX14_outMethod_224 rfl (lv_at hl 0 rfl) ?_
                                refine lv_iload hx hb dX14_outMethod_225 (lv_at hl 1 rfl) ?_
                                refine lv_iload hx hb dX14_outMethod_227 (lv_at hl 2 rfl) ?_
                                obtain ⟨hv100, h⟩ := h
                                have hFc := rfree hR hA
                                refine va_calli (va_runV (As := [.int v213_4, .int v213_5]) (rest := [.ref (ad 36), .ref (ad 0)]) ⟨hx, hb, hml, hown, hts⟩ (r_catchWord l g ad H.size U213 v213_4 v213_5 hR.w  hv100) (cwV 2 hts (gd2_V kx_375 kx_376 kx_377 kx_177 kx_378) rfl rfl rfl (by decide +kernel) ⟨Nat.le_of_ble_eq_true rfl, Nat.le_of_ble_eq_true rfl⟩) ⟨rblind, va_recv hR.K hR.P (ci := 13) (q0 := 0) rfl (hR.at14 hR.w.1), fun U hU hW9 => rmk hU hW9 hR hex hE hFc⟩ rfl rfl hl.1 rfl (lv_room (Nat.le_of_ble_eq_true rfl)) dX14_outMethod_229 ⟨Nat.le_of_ble_eq_true rfl, Nat.le_of_ble_eq_true rfl⟩) hR.sS (fun q _ h => hFc q h) hFc (fun r101 u9 t9 H1 locs ht9 hvm9 hw9 hB9 hz9 hk9 hS => ?_)
                                have hR : Rep g ad A s U213 H1 locs := hR.call ht9 hB9 hR.w hS hFc
                                obtain rfl : r101 = (f_catchWord U213 v213_4 v213_5) := hw9
                                clear hB9 hz9 hk9 hvm9 ht9 hS
                                generalize H1 = H at hR ⊢
                                obtain ⟨hv103, h⟩ := h
                                refine va_iald hx hb hR.K hR.P 36 1 (hR.atI (hR.w.2.1 _ fin_79).2.1) rfl (k_ixN (k_ix (n := 1297) (x := (f_catchWord U213 v213_4 v213_5)) (a := (f_catchWord U213 v213_4 v213_5).toInt) rfl hv103) (hR.w.2.1 _ fin_79).2.2) dX14_outMethod_232 ?_
                                refine lv_topi (fun z104 ez104 => ?_)
                                obtain rfl : z104 = (qI U213 36 (((f_catchWord U213 v213_4 v213_5).toInt).toNat)) := ez104
                                refine lv_i2l (v := ((qI U213 36 (((f_catchWord U213 v213_4 v213_5).toInt).toNat)).toInt64)) hx hb dX14_outMethod_233 rfl ?_
                                refine lv_iconst (v := 2) hx hb dX14_outMethod_234 (by decide) ?_
                                obtain ⟨Q105, h0, h⟩ := h
                                have hFc := rfree hR hA
                                refine va_callv (va_runV (As := [.long ((qI U213 36 (((f_catchWord U213 v213_4 v213_5).toInt).toNat)).toInt64), .int 2]) (rest := []) ⟨hx, hb, hml, hown, hts⟩ (r_out l g ad H.size U213 ((qI U213 36 (((f_catchWord U213 v213_4 v213_5).toInt).toNat)).toInt64) (2 : Int32) hR.w  Q105 h0) (cwV 2 hts (gd2_V kx_586 kx_587 kx_588 kx_177 kx_589) rfl rfl rfl (by decide +kernel) ⟨Nat.le_of_ble_eq_true rfl, Nat.le_of_ble_eq_true rfl⟩) ⟨rblind, va_recv hR.K hR.P (ci := 13) (q0 := 0) rfl (hR.at14 hR.w.1), fun U hU hW9 => rmk hU hW9 hR hex hE hFc⟩ rfl rfl hl.1 rfl (lv_room (Nat.le_of_ble_eq_true rfl)) dX14_outMethod_235 ⟨Nat.le_of_ble_eq_true rfl, Nat.le_of_ble_eq_true rfl⟩) hR.sS (fun q _ h => hFc q h) hFc (fun  S106 t9 H1 locs ht9 hvm9 hw9 hB9 hz9 hk9 hS => ?_)
                                obtain ⟨hq107, hw9, hs9⟩ := hw9
                                have hR : Rep g ad A s S106 H1 locs := hR.call ht9 hB9 hw9 hS hFc
                                have hsh := hsh.tr hs9
                                replace h := h  S106 hq107
                                clear hB9 hz9 hk9 hvm9 ht9 hw9 hs9 hS
                                generalize H1 = H at hR ⊢
                                obtain ⟨a108, ea108⟩ : ∃ z, z = (v213_5 + Int32.ofInt 1) := ⟨_, rfl⟩
                                replace h := h a108 ea108
                                refine lv_iinc (v := a108) (lv' := [(5, .int a108), (0, .ref (ad 0)), (4, .int v213_4)]) hx hb dX14_outMethod_238 hl (k := 2) rfl ea108.symm (by decide) rfl (fun ls hl => ?_)
                                refine lv_goto (tgt := 213) hx hb dX14_outMethod_241 (by decide) ?_
                                exact ih_213 S106 v213_4 a108 _ _ ls h  hsh hR (lv_sub hl [1, 2, 0] rfl)
                          obtain ⟨n9, h⟩ := h
                          exact J_213 n9 U201 v201_4 0 _ _ ls h  hsh hR (lv_sub hl [1, 2, 0] rfl)
                    obtain ⟨n9, h⟩ := h
                    exact J_201 n9 S75 0 _ _ ls h  hsh hR (lv_sub hl [1, 0] rfl)
                  · replace h := h.2 (k_nle rfl rfl c73)
                    refine lv_aload_n hx hb dX14_outMethod_176 rfl (lv_at hl 0 rfl) ?_
                    refine lv_iload hx hb dX14_outMethod_177 (lv_at hl 1 rfl) ?_
                    obtain ⟨Q109, EQ109, h0, h⟩ := h
                    have hFc := rfree hR hA
                    refine vx_callv (vx_runV (As := [.int v167_4]) (rest := []) ⟨hx, hb, hml, hown, hts⟩ (r_outRow l g ad H.size U167 v167_4 hR.w  Q109 EQ109 h0) (cwV 1 hts (gd2_V kx_925 kx_926 kx_927 kx_177 kx_928) rfl rfl rfl (by decide +kernel) ⟨Nat.le_of_ble_eq_true rfl, Nat.le_of_ble_eq_true rfl⟩) ⟨rblind, va_recv hR.K hR.P (ci := 13) (q0 := 0) rfl (hR.at14 hR.w.1), fun U hU hW9 => rmk hU hW9 hR hex hE hFc⟩ rfl rfl hl.1 rfl (lv_room (Nat.le_of_ble_eq_true rfl)) dX14_outMethod_179 ⟨Nat.le_of_ble_eq_true rfl, Nat.le_of_ble_eq_true rfl⟩) hR.sS (fun q _ h => hFc q h) hFc (fun q _ h => hFc q h) (fun E9 ce9 q9 u9 t9 H1 locs ht9 hvm9 hp9 hB9 hz9 hk9 hS hce9 hcv9 hcl9 => ?_) (fun  S110 t9 H1 locs ht9 hvm9 hw9 hB9 hz9 hk9 hS => ?_)
                    · obtain ⟨hp9, hwx, hsx⟩ := hp9
                      obtain ⟨rfl, hBx⟩ := hB9
                      replace h := h.2 u9 hp9
                      have hR : Rep g ad A s u9 H1 locs := hR.call ht9 hBx hwx hS hFc
                      have hsh := hsh.tr hsx
                      exact vx_out (E := RJxb5711) (q := q9) (fun x h9 => (hnt x h9).elim) hlocks hce9 hcv9 hcl9 (fun t9 ht9 ha9 => ⟨u9, ⟨h, hR.w, hsh⟩, ⟨rfl, by rw [ht9]; exact hR.P, hR.D⟩, hR.sS.F ht9⟩) hR.sS.2.2 (Nat.le_of_ble_eq_true rfl) (Nat.le_of_ble_eq_true rfl)
                    · obtain ⟨hq111, hw9, hs9⟩ := hw9
                      have hR : Rep g ad A s S110 H1 locs := hR.call ht9 hB9 hw9 hS hFc
                      have hsh := hsh.tr hs9
                      replace h := h.1  S110 hq111
                      clear hB9 hz9 hk9 hvm9 ht9 hw9 hs9 hS
                      generalize H1 = H at hR ⊢
                      obtain ⟨a112, ea112⟩ : ∃ z, z = (v167_4 + Int32.ofInt 1) := ⟨_, rfl⟩
                      replace h := h a112 ea112
                      refine lv_iinc (v := a112) (lv' := [(4, .int a112), (0, .ref (ad 0))]) hx hb dX14_outMethod_182 hl (k := 1) rfl ea112.symm (by decide) rfl (fun ls hl => ?_)
                      refine lv_goto (tgt := 167) hx hb dX14_outMethod_185 (by decide) ?_
                      exact ih_167 S110 a112 _ _ ls h  hsh hR (lv_sub hl [1, 0] rfl)
              obtain ⟨n9, h⟩ := h
              exact J_167 n9 S71 0 _ _ ls h  hsh hR (lv_sub hl [1, 0] rfl)
          · replace h := h.2 (k_nle rfl rfl c34)
            refine lv_aload_n hx hb dX14_outMethod_66 rfl (lv_at hl 0 rfl) ?_
            refine va_get (D := rD g) (ci := 13) (v := .ref (ad 36)) (C := RX14) (T := TX14) (N := 143) hx hb hts in2X14 hown hR.K hR.P 0 (hR.at14 hR.w.1) rfl 79 (by decide) (hts _ kx_584) (fun _ h9 => h9) (congrArg (fun z => some (vf ad z)) (hR.w.2.1 _ fin_79).1) dX14_outMethod_67 ?_
            refine lv_iload hx hb dX14_outMethod_70 (lv_at hl 4 rfl) ?_
            refine lv_iload_n hx hb dX14_outMethod_72 rfl (lv_at hl 3 rfl) ?_
            obtain ⟨hv113, h⟩ := h
            refine va_iast hx hb hR.K hR.P hR.D hR.sS 36 1 (hR.atI (hR.w.2.1 _ fin_79).2.1) rfl (k_ixN (k_ix (n := 1297) (x := v57_4) (a := v57_4.toInt) rfl hv113) (hR.w.2.1 _ fin_79).2.2) dX14_outMethod_73 (fun H locs hP hD hS => ?_)
            have hR : Rep g ad A s (wI U57 36 v57_4.toInt.toNat v57_3) H locs := hR.aI (hR.w.2.1 _ fin_79).2.1 hP hD hS
            obtain ⟨S114, eS114⟩ : ∃ z, z = wI U57 36 v57_4.toInt.toNat v57_3 := ⟨_, rfl⟩
            rw [← eS114] at hR
            replace h := h S114 eS114
            have hT_v57_1 : qT S114 v57_1 = 11 := (congrArg (fun z => qT z v57_1) eS114).trans hT_v57_1
            have hsh : shy S S114 := by rw [eS114]; exact hsh
            refine lv_iload_n hx hb dX14_outMethod_74 rfl (lv_at hl 3 rfl) ?_
            refine lv_aload_n hx hb dX14_outMethod_75 rfl (lv_at hl 0 rfl) ?_
            refine lv_iload hx hb dX14_outMethod_76 (lv_at hl 4 rfl) ?_
            refine lv_iload_n hx hb dX14_outMethod_78 rfl (lv_at hl 3 rfl) ?_
            obtain ⟨Q115, EQ115, h0, h⟩ := h
            have hFc := rfree hR hA
            refine vx_calli (vx_runV (As := [.int v57_4, .int v57_3]) (rest := [.int v57_3]) ⟨hx, hb, hml, hown, hts⟩ (r_bytesOf l g ad H.size S114 v57_4 v57_3 hR.w  Q115 EQ115 h0) (cwV 2 hts (gd2_V kx_929 kx_930 kx_931 kx_177 kx_932) rfl rfl rfl (by decide +kernel) ⟨Nat.le_of_ble_eq_true rfl, Nat.le_of_ble_eq_true rfl⟩) ⟨rblind, va_recv hR.K hR.P (ci := 13) (q0 := 0) rfl (hR.at14 hR.w.1), fun U hU hW9 => rmk hU hW9 hR hex hE hFc⟩ rfl rfl hl.1 rfl (lv_room (Nat.le_of_ble_eq_true rfl)) dX14_outMethod_79 ⟨Nat.le_of_ble_eq_true rfl, Nat.le_of_ble_eq_true rfl⟩) hR.sS (fun q _ h => hFc q h) hFc (fun q _ h => hFc q h) (fun E9 ce9 q9 u9 t9 H1 locs ht9 hvm9 hp9 hB9 hz9 hk9 hS hce9 hcv9 hcl9 => ?_) (fun r116 S117 t9 H1 locs ht9 hvm9 hw9 hB9 hz9 hk9 hS => ?_)
            · obtain ⟨hp9, hwx, hsx⟩ := hp9
              obtain ⟨rfl, hBx⟩ := hB9
              replace h := h.2 u9 hp9
              have hR : Rep g ad A s u9 H1 locs := hR.call ht9 hBx hwx hS hFc
              have hsh := hsh.tr hsx
              exact vx_out (E := RJxb5711) (q := q9) (fun x h9 => (hnt x h9).elim) hlocks hce9 hcv9 hcl9 (fun t9 ht9 ha9 => ⟨u9, ⟨h, hR.w, hsh⟩, ⟨rfl, by rw [ht9]; exact hR.P, hR.D⟩, hR.sS.F ht9⟩) hR.sS.2.2 (Nat.le_of_ble_eq_true rfl) (Nat.le_of_ble_eq_true rfl)
            · obtain ⟨hq118, hw9, hs9⟩ := hw9
              have hR : Rep g ad A s S117 H1 locs := hR.call ht9 hB9 hw9 hS hFc
              have hsh := hsh.tr hs9
              replace h := h.1 r116 S117 hq118
              have hT_v57_1 := hs9.T hT_v57_1 (by decide)
              clear hB9 hz9 hk9 hvm9 ht9 hw9 hs9 hS
              generalize H1 = H at hR ⊢
              refine lv_iadd hx hb dX14_outMethod_82 ?_
              refine lv_topi (fun z119 ez119 => ?_)
              obtain rfl : z119 = (v57_3 + r116) := ez119
              obtain ⟨a120, ea120⟩ : ∃ z, z = (v57_3 + r116) := ⟨_, rfl⟩
              rw [← ea120]
              replace h := h a120 ea120
              refine lv_istore_n (lv' := [(3, .int a120), (0, .ref (ad 0)), (1, .ref (ad v57_1)), (2, .int v57_2), (4, .int v57_4)]) hx hb dX14_outMethod_83 rfl hl (by decide) rfl (fun ls hl => ?_)
              obtain ⟨a121, ea121⟩ : ∃ z, z = (v57_4 + Int32.ofInt 1) := ⟨_, rfl⟩
              replace h := h a121 ea121
              refine lv_iinc (v := a121) (lv' := [(4, .int a121), (3, .int a120), (0, .ref (ad 0)), (1, .ref (ad v57_1)), (2, .int v57_2)]) hx hb dX14_outMethod_84 hl (k := 4) rfl ea121.symm (by decide) rfl (fun ls hl => ?_)
              refine lv_goto (tgt := 57) hx hb dX14_outMethod_87 (by decide) ?_
              exact ih_57 S117 v57_1 v57_2 a120 a121 _ _ ls h hT_v57_1 hsh hR (lv_sub hl [2, 3, 4, 1, 0] rfl)
      obtain ⟨n9, h⟩ := h
      exact J_57 n9 S32 p1 x2 0 0 _ _ ls h hT_p1 hsh hR (lv_sub hl [2, 3, 4, 1, 0] rfl)
def w_outFile_L196 (Q : MS → Prop) (E : MS → Prop) : Nat → MS → Nat → Int32 → Prop
  | 0, _, _, _ => False
  | n196 + 1, U196, v196_1, v196_2 => (((qI U196 v196_1 4).toInt ≤ v196_2.toInt → (∃ Q43, w_out U196 0 (2 : Int32) Q43 ∧ ∀ S44, Q43 S44 → Q S44)) ∧ (¬ (qI U196 v196_1 4).toInt ≤ v196_2.toInt → (∃ Q46 EQ46, w_outMethod U196 v196_1 v196_2 Q46 EQ46 ∧ (∀ S47, Q46 S47 → (∀ a49 : Int32, a49 = (v196_2 + Int32.ofInt 1) → (w_outFile_L196 Q E n196) S47 v196_1 a49)) ∧ (∀ u9, EQ46 u9 → E u9))))
def w_outFile_L124 (Q : MS → Prop) (E : MS → Prop) : Nat → MS → Nat → Int32 → Prop
  | 0, _, _, _ => False
  | n124 + 1, U124, v124_1, v124_2 => (((qI U124 v124_1 3).toInt ≤ v124_2.toInt → (∃ Q39, w_out U124 ((qI U124 v124_1 4).toInt64) (2 : Int32) Q39 ∧ ∀ S40, Q39 S40 → (∃ n, w_outFile_L196 Q E n S40 v124_1 0))) ∧ (¬ (qI U124 v124_1 3).toInt ≤ v124_2.toInt → (∃ Q50, w_out U124 (9 : Int64) (2 : Int32) Q50 ∧ ∀ S51, Q50 S51 → ((qR S51 v124_1 5 = some (qO S51 v124_1 5)) ∧ (((0 : Int) ≤ v124_2.toInt ∧ v124_2.toInt < (qN S51 (qO S51 v124_1 5) : Int)) ∧ ((qR S51 (qO S51 v124_1 5) v124_2.toInt.toNat = some (qO S51 (qO S51 v124_1 5) v124_2.toInt.toNat)) ∧ (∃ Q58 EQ58, w_nameNumber S51 (qO S51 (qO S51 v124_1 5) v124_2.toInt.toNat) Q58 EQ58 ∧ (∀ r59 S60, Q58 r59 S60 → (∃ Q62, w_out S60 (r59.toInt64) (2 : Int32) Q62 ∧ ∀ S63, Q62 S63 → ((qR S63 v124_1 6 = some (qO S63 v124_1 6)) ∧ (((0 : Int) ≤ v124_2.toInt ∧ v124_2.toInt < (qN S63 (qO S63 v124_1 6) : Int)) ∧ ((qR S63 (qO S63 v124_1 6) v124_2.toInt.toNat = some (qO S63 (qO S63 v124_1 6) v124_2.toInt.toNat)) ∧ (∃ Q70 EQ70, w_nameNumber S63 (qO S63 (qO S63 v124_1 6) v124_2.toInt.toNat) Q70 EQ70 ∧ (∀ r71 S72, Q70 r71 S72 → (∃ Q74, w_out S72 (r71.toInt64) (2 : Int32) Q74 ∧ ∀ S75, Q74 S75 → (∃ Q77, w_out S75 0 (2 : Int32) Q77 ∧ ∀ S78, Q77 S78 → (∀ a80 : Int32, a80 = (v124_2 + Int32.ofInt 1) → (w_outFile_L124 Q E n124) S78 v124_1 a80)))) ∧ (∀ u9, EQ70 u9 → E u9))))))) ∧ (∀ u9, EQ58 u9 → E u9))))))))
def w_outFile_L51 (Q : MS → Prop) (E : MS → Prop) : Nat → MS → Nat → Int32 → Prop
  | 0, _, _, _ => False
  | n51 + 1, U51, v51_1, v51_2 => (((qI U51 0 73).toInt ≤ v51_2.toInt → (∃ Q11, w_out U51 (33 : Int64) (2 : Int32) Q11 ∧ ∀ S12, Q11 S12 → ((qR S12 v51_1 0 = some (qO S12 v51_1 0)) ∧ (∃ Q16 EQ16, w_classNumber S12 (qO S12 v51_1 0) Q16 EQ16 ∧ (∀ r17 S18, Q16 r17 S18 → (∃ Q20, w_out S18 (r17.toInt64) (2 : Int32) Q20 ∧ ∀ S21, Q20 S21 → ((qR S21 v51_1 1 = some (qO S21 v51_1 1)) ∧ (∃ Q25 EQ25, w_classNumber S21 (qO S21 v51_1 1) Q25 EQ25 ∧ (∀ r26 S27, Q25 r26 S27 → (∃ Q29, w_out S27 (r26.toInt64) (2 : Int32) Q29 ∧ ∀ S30, Q29 S30 → (∃ Q32, w_out S30 0 (2 : Int32) Q32 ∧ ∀ S33, Q32 S33 → (∃ Q35, w_out S33 ((qI S33 v51_1 3).toInt64) (2 : Int32) Q35 ∧ ∀ S36, Q35 S36 → (∃ n, w_outFile_L124 Q E n S36 v51_1 0))))) ∧ (∀ u9, EQ25 u9 → E u9))))) ∧ (∀ u9, EQ16 u9 → E u9))))) ∧ (¬ (qI U51 0 73).toInt ≤ v51_2.toInt → (∃ Q81, w_outEntry U51 v51_2 Q81 ∧ ∀ S82, Q81 S82 → (∀ a84 : Int32, a84 = (v51_2 + Int32.ofInt 1) → (w_outFile_L51 Q E n51) S82 v51_1 a84))))
def w_outFile_L17 (Q : MS → Prop) (E : MS → Prop) : Nat → MS → Nat → Int32 → Prop
  | 0, _, _, _ => False
  | n17 + 1, U17, v17_1, v17_2 => ((8 ≤ v17_2.toInt → (∃ Q7, w_out U17 ((qI U17 0 74).toInt64) (2 : Int32) Q7 ∧ ∀ S8, Q7 S8 → (∃ n, w_outFile_L51 Q E n S8 v17_1 0))) ∧ (¬ 8 ≤ v17_2.toInt → (d_headByte U17 v17_2 ∧ (∃ Q88, w_out U17 ((f_headByte U17 v17_2).toInt64) (1 : Int32) Q88 ∧ ∀ S89, Q88 S89 → (∀ a91 : Int32, a91 = (v17_2 + Int32.ofInt 1) → (w_outFile_L17 Q E n17) S89 v17_1 a91)))))
def w_outFile (S : MS) (p1 : Nat) (Q : MS → Prop) (E : MS → Prop) : Prop := (∃ Q1 EQ1, w_collect S p1 Q1 EQ1 ∧ (∀ S2, Q1 S2 → (∀ S4, S4 = wR S2 0 47 (some p1) → (∀ S5, S5 = wI S4 0 77 0 → (∃ n, w_outFile_L17 Q E n S5 p1 0)))) ∧ (∀ u9, EQ1 u9 → E u9))
set_option maxHeartbeats 2000000 in
set_option maxRecDepth 100000 in
theorem r_outFile (l : Launch) (g : Gr) (ad : Nat → Nat) (sz : Nat) (S : MS) (p1 : Nat) (hw : wfM S) (hT_p1 : qT S p1 = 11) (Q : MS → Prop) (E : MS → Prop) (h : w_outFile S p1 Q E) : vx_Met l yX14_outFile (wt2 yX14_outFile cX14_outFile 3 none) ({ frames := 10, cells := 0, slots := 0, locals := 232 }) (va_Pc [.ref (ad 0), .ref (ad p1)] (st_R g ad sz S)) (va_Qv (fun (u : MS) => Q u ∧ wfM u ∧ shy S u) (fun (u : MS) (t : State) => qE g ad (va_A (Wd g ad S) sz) u t) (va_A (Wd g ad S) sz)) (vx_X (fun (u : MS) => E u ∧ wfM u ∧ shy S u) (fun (n9 : String) (u : MS) (t : State) => n9 = RJxb5711 ∧ qE g ad (va_A (Wd g ad S) sz) u t) (va_A (Wd g ad S) sz)) 0 0 (va_A (Wd g ad S) sz) := by
  refine vx_ofW (cc := cX14_outFile) (maxL := 3) (ret := none) (by decide) rfl ?_
  intro p e s m args below meth c s₁ B hml hnt hv
  obtain ⟨rfl, hsz, hP, hK, hD0, hex, hE⟩ := hv
  have hx := B.exec
  have hb := B.bytes
  have hr := B.returns
  have hlocks := B.notSynchronized
  have hts0 := atoms_spec (ws := wt2 yX14_outFile cX14_outFile 3 none) B.pre
  have hts : ∀ w ∈ tb2, w.before _ s = true := fun w h => hts0 w (List.mem_cons_of_mem _ h)
  have hown : s.vm.findClass RX14 = some m.cls := findClass_of_methodNamed B.named
  subst hsz
  have hD := hD0.self (sz := s.heap.size)
  generalize hAe : va_A (Wd g ad S) s.heap.size = A at hD hE ⊢
  have hA : ∀ q : Nat, s.heap.size ≤ q → A q := fun q h => by rw [← hAe]; exact Or.inr h
  have hR : Rep g ad A s S s.heap [] := ⟨hK, hP, hD, va_S.rf, hw⟩
  clear hK hP hD hD0
  have hl := lv_entry ([.ref (ad 0), .ref (ad p1)]) (n := 3) (Nat.le_of_ble_eq_true rfl)
  rw [lg_entry_eq]
  generalize (lg_sl ([.ref (ad 0), .ref (ad p1)]) ++ List.replicate (3 - (lg_sl ([.ref (ad 0), .ref (ad p1)])).length) Slot.unset).toArray = ls at hl ⊢
  have hl : lv_has ls 3 [(0, .ref (ad 0)), (1, .ref (ad p1))] := hl
  have hsh : shy S S := shy.rf
  unfold w_outFile at h
  refine lv_aload_n hx hb dX14_outFile_0 rfl (lv_at hl 0 rfl) ?_
  refine lv_aload_n hx hb dX14_outFile_1 rfl (lv_at hl 1 rfl) ?_
  obtain ⟨Q1, EQ1, h0, h⟩ := h
  have hFc := rfree hR hA
  refine vx_callv (vx_runV (As := [.ref (ad p1)]) (rest := []) ⟨hx, hb, hml, hown, hts⟩ (r_collect l g ad s.heap.size S p1 hR.w hT_p1 Q1 EQ1 h0) (cwV 1 hts (gd2_V kx_601 kx_602 kx_603 kx_177 kx_604) rfl rfl rfl (by decide +kernel) ⟨Nat.le_of_ble_eq_true rfl, Nat.le_of_ble_eq_true rfl⟩) ⟨rblind, va_recv hR.K hR.P (ci := 13) (q0 := 0) rfl (hR.at14 hR.w.1), fun U hU hW9 => rmk hU hW9 hR hex hE hFc⟩ rfl rfl hl.1 rfl (lv_room (Nat.le_of_ble_eq_true rfl)) dX14_outFile_2 ⟨Nat.le_of_ble_eq_true rfl, Nat.le_of_ble_eq_true rfl⟩) hR.sS (fun q _ h => hFc q h) hFc (fun q _ h => hFc q h) (fun E9 ce9 q9 u9 t9 H1 locs ht9 hvm9 hp9 hB9 hz9 hk9 hS hce9 hcv9 hcl9 => ?_) (fun  S2 t9 H1 locs ht9 hvm9 hw9 hB9 hz9 hk9 hS => ?_)
  · obtain ⟨hp9, hwx, hsx⟩ := hp9
    obtain ⟨rfl, hBx⟩ := hB9
    replace h := h.2 u9 hp9
    have hR : Rep g ad A s u9 H1 locs := hR.call ht9 hBx hwx hS hFc
    have hsh := hsh.tr hsx
    exact vx_out (E := RJxb5711) (q := q9) (fun x h9 => (hnt x h9).elim) hlocks hce9 hcv9 hcl9 (fun t9 ht9 ha9 => ⟨u9, ⟨h, hR.w, hsh⟩, ⟨rfl, by rw [ht9]; exact hR.P, hR.D⟩, hR.sS.F ht9⟩) hR.sS.2.2 (Nat.le_of_ble_eq_true rfl) (Nat.le_of_ble_eq_true rfl)
  · obtain ⟨hq3, hw9, hs9⟩ := hw9
    have hR : Rep g ad A s S2 H1 locs := hR.call ht9 hB9 hw9 hS hFc
    have hsh := hsh.tr hs9
    replace h := h.1  S2 hq3
    have hT_p1 := hs9.T hT_p1 (by decide)
    clear hB9 hz9 hk9 hvm9 ht9 hw9 hs9 hS
    generalize H1 = H at hR ⊢
    refine lv_aload_n hx hb dX14_outFile_5 rfl (lv_at hl 0 rfl) ?_
    refine lv_aload_n hx hb dX14_outFile_6 rfl (lv_at hl 1 rfl) ?_
    refine va_put (D := rD g) (ci := 13) (v := .ref (ad p1)) (ty := (.object "CodeFoundryModel$File")) (C := RX14) (T := TX14) (N := 143) hx hb hts in2X14 tyX14 tyX14_ok nmX14 hown hR.K hR.P hR.D hR.sS 0 (hR.at14 hR.w.1) rfl 47 (by decide) (hts _ kx_362) (fun _ h9 => h9) rfl (by decide +kernel) rfl rfl (Nat.le_of_ble_eq_true rfl) dX14_outFile_7 (fun H locs hP hD hS => ?_)
    have hw9 : wfM (wR S2 0 47 (some p1)) := hR.w.put (fun b q9 => by cases q9; exact (hT_p1).trans (by rw [hR.w.1]; rfl)) (fun _ => nofin_47) (by rw [hR.w.1]; decide)
    have hR : Rep g ad A s (wR S2 0 47 (some p1)) H locs := hR.pR hR.w.1 F14_s47 hw9 hP hD hS
    obtain ⟨S4, eS4⟩ : ∃ z, z = wR S2 0 47 (some p1) := ⟨_, rfl⟩
    rw [← eS4] at hR
    replace h := h S4 eS4
    have hT_p1 : qT S4 p1 = 11 := (congrArg (fun z => qT z p1) eS4).trans hT_p1
    have hsh : shy S S4 := by rw [eS4]; exact hsh
    refine lv_aload_n hx hb dX14_outFile_10 rfl (lv_at hl 0 rfl) ?_
    refine lv_iconst (v := 0) hx hb dX14_outFile_11 (by decide) ?_
    refine va_put (D := rD g) (ci := 13) (v := .int 0) (ty := .int) (C := RX14) (T := TX14) (N := 143) hx hb hts in2X14 tyX14 tyX14_ok nmX14 hown hR.K hR.P hR.D hR.sS 0 (hR.at14 hR.w.1) rfl 77 (by decide) (hts _ kx_580) (fun _ h9 => h9) rfl (by decide +kernel) rfl rfl (Nat.le_of_ble_eq_true rfl) dX14_outFile_12 (fun H locs hP hD hS => ?_)
    have hR : Rep g ad A s (wI S4 0 77 0) H locs := hR.pI hR.w.1 F14_s77 hP hD hS
    obtain ⟨S5, eS5⟩ : ∃ z, z = wI S4 0 77 0 := ⟨_, rfl⟩
    rw [← eS5] at hR
    replace h := h S5 eS5
    have hT_p1 : qT S5 p1 = 11 := (congrArg (fun z => qT z p1) eS5).trans hT_p1
    have hsh : shy S S5 := by rw [eS5]; exact hsh
    refine lv_iconst (v := 0) hx hb dX14_outFile_15 (by decide) ?_
    refine lv_istore_n (lv' := [(2, .int 0), (0, .ref (ad 0)), (1, .ref (ad p1))]) hx hb dX14_outFile_16 rfl hl (by decide) rfl (fun ls hl => ?_)
    have J_17 : ∀ (n17 : Nat) (U17 : MS) (v17_1 : Nat) (v17_2 : Int32) (H : Heap) (locs : List Loc) (ls : Array Slot), w_outFile_L17 Q E n17 U17 v17_1 v17_2 → qT U17 v17_1 = 11 → shy S U17 → Rep g ad A s U17 H locs → lv_has ls 3 [(0, .ref (ad 0)), (1, .ref (ad v17_1)), (2, .int v17_2)] → W p l e (headSpec (wt2 yX14_outFile cX14_outFile 3 none) ({ frames := 10, cells := 0, slots := 0, locals := 232 })).room s m ([.ref (ad 0), .ref (ad p1)] : List Value).toArray below meth c H locs 0 0 (vx_MQ below (va_Qv (fun (u : MS) => Q u ∧ wfM u ∧ shy S u) (fun (u : MS) (t : State) => qE g ad A u t) A) ((vx_X (fun (u : MS) => E u ∧ wfM u ∧ shy S u) (fun (n9 : String) (u : MS) (t : State) => n9 = RJxb5711 ∧ qE g ad A u t) A)) ([.ref (ad 0), .ref (ad p1)] : List Value).toArray s 0 0 A) (F0 m 17 ls []) := by
      intro n17
      induction n17 with
      | zero => intro U17 v17_1 v17_2 H locs ls h hT_v17_1 hsh hR hl; unfold w_outFile_L17 at h; exact h.elim
      | succ n17 ih_17 =>
        intro U17 v17_1 v17_2 H locs ls h hT_v17_1 hsh hR hl
        unfold w_outFile_L17 at h
        refine lv_iload_n hx hb dX14_outFile_17 rfl (lv_at hl 2 rfl) ?_
        refine lv_bipush (v := 8) hx hb dX14_outFile_18 (by decide) ?_
        refine lv_icmp_ge (tgt := 39) hx hb dX14_outFile_20 (by decide) (fun c6 => ?_) (fun c6 => ?_)
        · replace h := h.1 (k_le (by decide) rfl c6)
          refine lv_aload_n hx hb dX14_outFile_39 rfl (lv_at hl 0 rfl) ?_
          refine lv_aload_n hx hb dX14_outFile_40 rfl (lv_at hl 0 rfl) ?_
          refine va_get (D := rD g) (ci := 13) (v := .int (qI U17 0 74)) (C := RX14) (T := TX14) (N := 143) hx hb hts in2X14 hown hR.K hR.P 0 (hR.at14 hR.w.1) rfl 74 (by decide) (hts _ kx_538) (fun _ h9 => h9) rfl dX14_outFile_41 ?_
          refine lv_i2l (v := ((qI U17 0 74).toInt64)) hx hb dX14_outFile_44 rfl ?_
          refine lv_iconst (v := 2) hx hb dX14_outFile_45 (by decide) ?_
          obtain ⟨Q7, h0, h⟩ := h
          have hFc := rfree hR hA
          refine va_callv (va_runV (As := [.long ((qI U17 0 74).toInt64), .int 2]) (rest := []) ⟨hx, hb, hml, hown, hts⟩ (r_out l g ad H.size U17 ((qI U17 0 74).toInt64) (2 : Int32) hR.w  Q7 h0) (cwV 2 hts (gd2_V kx_586 kx_587 kx_588 kx_177 kx_589) rfl rfl rfl (by decide +kernel) ⟨Nat.le_of_ble_eq_true rfl, Nat.le_of_ble_eq_true rfl⟩) ⟨rblind, va_recv hR.K hR.P (ci := 13) (q0 := 0) rfl (hR.at14 hR.w.1), fun U hU hW9 => rmk hU hW9 hR hex hE hFc⟩ rfl rfl hl.1 rfl (lv_room (Nat.le_of_ble_eq_true rfl)) dX14_outFile_46 ⟨Nat.le_of_ble_eq_true rfl, Nat.le_of_ble_eq_true rfl⟩) hR.sS (fun q _ h => hFc q h) hFc (fun  S8 t9 H1 locs ht9 hvm9 hw9 hB9 hz9 hk9 hS => ?_)
          obtain ⟨hq9, hw9, hs9⟩ := hw9
          have hR : Rep g ad A s S8 H1 locs := hR.call ht9 hB9 hw9 hS hFc
          have hsh := hsh.tr hs9
          replace h := h  S8 hq9
          have hT_v17_1 := hs9.T hT_v17_1 (by decide)
          clear hB9 hz9 hk9 hvm9 ht9 hw9 hs9 hS
          generalize H1 = H at hR ⊢
          refine lv_iconst (v := 0) hx hb dX14_outFile_49 (by decide) ?_
          refine lv_istore_n (lv' := [(2, .int 0), (0, .ref (ad 0)), (1, .ref (ad v17_1))]) hx hb dX14_outFile_50 rfl hl (by decide) rfl (fun ls hl => ?_)
          have J_51 : ∀ (n51 : Nat) (U51 : MS) (v51_1 : Nat) (v51_2 : Int32) (H : Heap) (locs : List Loc) (ls : Array Slot), w_outFile_L51 Q E n51 U51 v51_1 v51_2 → qT U51 v51_1 = 11 → shy S U51 → Rep g ad A s U51 H locs → lv_has ls 3 [(0, .ref (ad 0)), (1, .ref (ad v51_1)), (2, .int v51_2)] → W p l e (headSpec (wt2 yX14_outFile cX14_outFile 3 none) ({ frames := 10, cells := 0, slots := 0, locals := 232 })).room s m ([.ref (ad 0), .ref (ad p1)] : List Value).toArray below meth c H locs 0 0 (vx_MQ below (va_Qv (fun (u : MS) => Q u ∧ wfM u ∧ shy S u) (fun (u : MS) (t : State) => qE g ad A u t) A) ((vx_X (fun (u : MS) => E u ∧ wfM u ∧ shy S u) (fun (n9 : String) (u : MS) (t : State) => n9 = RJxb5711 ∧ qE g ad A u t) A)) ([.ref (ad 0), .ref (ad p1)] : List Value).toArray s 0 0 A) (F0 m 51 ls []) := by
            intro n51
            induction n51 with
            | zero => intro U51 v51_1 v51_2 H locs ls h hT_v51_1 hsh hR hl; unfold w_outFile_L51 at h; exact h.elim
            | succ n51 ih_51 =>
              intro U51 v51_1 v51_2 H locs ls h hT_v51_1 hsh hR hl
              unfold w_outFile_L51 at h
              refine lv_iload_n hx hb dX14_outFile_51 rfl (lv_at hl 2 rfl) ?_
              refine lv_aload_n hx hb dX14_outFile_52 rfl (lv_at hl 0 rfl) ?_
              refine va_get (D := rD g) (ci := 13) (v := .int (qI U51 0 73)) (C := RX14) (T := TX14) (N := 143) hx hb hts in2X14 hown hR.K hR.P 0 (hR.at14 hR.w.1) rfl 73 (by decide) (hts _ kx_531) (fun _ h9 => h9) rfl dX14_outFile_53 ?_
              refine lv_icmp_ge (tgt := 70) hx hb dX14_outFile_56 (by decide) (fun c10 => ?_) (fun c10 => ?_)
              · replace h := h.1 (k_le rfl rfl c10)
                refine lv_aload_n hx hb dX14_outFile_70 rfl (lv_at hl 0 rfl) ?_
                refine lv_ldc2 hx hb hown (hts _ kx_605) dX14_outFile_71 ?_
                refine lv_iconst (v := 2) hx hb dX14_outFile_74 (by decide) ?_
                obtain ⟨Q11, h0, h⟩ := h
                have hFc := rfree hR hA
                refine va_callv (va_runV (As := [.long (33 : Int64), .int 2]) (rest := []) ⟨hx, hb, hml, hown, hts⟩ (r_out l g ad H.size U51 (33 : Int64) (2 : Int32) hR.w  Q11 h0) (cwV 2 hts (gd2_V kx_586 kx_587 kx_588 kx_177 kx_589) rfl rfl rfl (by decide +kernel) ⟨Nat.le_of_ble_eq_true rfl, Nat.le_of_ble_eq_true rfl⟩) ⟨rblind, va_recv hR.K hR.P (ci := 13) (q0 := 0) rfl (hR.at14 hR.w.1), fun U hU hW9 => rmk hU hW9 hR hex hE hFc⟩ rfl rfl hl.1 rfl (lv_room (Nat.le_of_ble_eq_true rfl)) dX14_outFile_75 ⟨Nat.le_of_ble_eq_true rfl, Nat.le_of_ble_eq_true rfl⟩) hR.sS (fun q _ h => hFc q h) hFc (fun  S12 t9 H1 locs ht9 hvm9 hw9 hB9 hz9 hk9 hS => ?_)
                obtain ⟨hq13, hw9, hs9⟩ := hw9
                have hR : Rep g ad A s S12 H1 locs := hR.call ht9 hB9 hw9 hS hFc
                have hsh := hsh.tr hs9
                replace h := h  S12 hq13
                have hT_v51_1 := hs9.T hT_v51_1 (by decide)
                clear hB9 hz9 hk9 hvm9 ht9 hw9 hs9 hS
                generalize H1 = H at hR ⊢
                refine lv_aload_n hx hb dX14_outFile_78 rfl (lv_at hl 0 rfl) ?_
                refine lv_aload_n hx hb dX14_outFile_79 rfl (lv_at hl 0 rfl) ?_
                refine lv_aload_n hx hb dX14_outFile_80 rfl (lv_at hl 1 rfl) ?_
                obtain ⟨hv14, h⟩ := h
                have hT_b15 : qT S12 (qO S12 v51_1 0) = 12 := hR.w.ref hv14 hT_v51_1
                refine va_get (D := rD g) (ci := 12) (v := .ref (ad (qO S12 v51_1 0))) (C := RX13) (T := TX13) (N := 23) hx hb hts in2X13 hown hR.K hR.P v51_1 (hR.at13 hT_v51_1) rfl 0 (by decide) (hts _ kx_551) (fun _ h9 => h9) (congrArg (fun z => some (vf ad z)) hv14) dX14_outFile_81 ?_
                obtain ⟨Q16, EQ16, h0, h⟩ := h
                have hFc := rfree hR hA
                refine vx_calli (vx_runV (As := [.ref (ad (qO S12 v51_1 0))]) (rest := [.ref (ad 0)]) ⟨hx, hb, hml, hown, hts⟩ (r_classNumber l g ad H.size S12 (qO S12 v51_1 0) hR.w hT_b15 Q16 EQ16 h0) (cwV 1 hts (gd2_V kx_552 kx_553 kx_554 kx_177 kx_555) rfl rfl rfl (by decide +kernel) ⟨Nat.le_of_ble_eq_true rfl, Nat.le_of_ble_eq_true rfl⟩) ⟨rblind, va_recv hR.K hR.P (ci := 13) (q0 := 0) rfl (hR.at14 hR.w.1), fun U hU hW9 => rmk hU hW9 hR hex hE hFc⟩ rfl rfl hl.1 rfl (lv_room (Nat.le_of_ble_eq_true rfl)) dX14_outFile_84 ⟨Nat.le_of_ble_eq_true rfl, Nat.le_of_ble_eq_true rfl⟩) hR.sS (fun q _ h => hFc q h) hFc (fun q _ h => hFc q h) (fun E9 ce9 q9 u9 t9 H1 locs ht9 hvm9 hp9 hB9 hz9 hk9 hS hce9 hcv9 hcl9 => ?_) (fun r17 S18 t9 H1 locs ht9 hvm9 hw9 hB9 hz9 hk9 hS => ?_)
                · obtain ⟨hp9, hwx, hsx⟩ := hp9
                  obtain ⟨rfl, hBx⟩ := hB9
                  replace h := h.2 u9 hp9
                  have hR : Rep g ad A s u9 H1 locs := hR.call ht9 hBx hwx hS hFc
                  have hsh := hsh.tr hsx
                  exact vx_out (E := RJxb5711) (q := q9) (fun x h9 => (hnt x h9).elim) hlocks hce9 hcv9 hcl9 (fun t9 ht9 ha9 => ⟨u9, ⟨h, hR.w, hsh⟩, ⟨rfl, by rw [ht9]; exact hR.P, hR.D⟩, hR.sS.F ht9⟩) hR.sS.2.2 (Nat.le_of_ble_eq_true rfl) (Nat.le_of_ble_eq_true rfl)
                · obtain ⟨hq19, hw9, hs9⟩ := hw9
                  have hR : Rep g ad A s S18 H1 locs := hR.call ht9 hB9 hw9 hS hFc
                  have hsh := hsh.tr hs9
                  replace h := h.1 r17 S18 hq19
                  have hT_v51_1 := hs9.T hT_v51_1 (by decide)
                  clear hB9 hz9 hk9 hvm9 ht9 hw9 hs9 hS
                  generalize H1 = H at hR ⊢
                  refine lv_i2l (v := (r17.toInt64)) hx hb dX14_outFile_87 rfl ?_
                  refine lv_iconst (v := 2) hx hb dX14_outFile_88 (by decide) ?_
                  obtain ⟨Q20, h0, h⟩ := h
                  have hFc := rfree hR hA
                  refine va_callv (va_runV (As := [.long (r17.toInt64), .int 2]) (rest := []) ⟨hx, hb, hml, hown, hts⟩ (r_out l g ad H.size S18 (r17.toInt64) (2 : Int32) hR.w  Q20 h0) (cwV 2 hts (gd2_V kx_586 kx_587 kx_588 kx_177 kx_589) rfl rfl rfl (by decide +kernel) ⟨Nat.le_of_ble_eq_true rfl, Nat.le_of_ble_eq_true rfl⟩) ⟨rblind, va_recv hR.K hR.P (ci := 13) (q0 := 0) rfl (hR.at14 hR.w.1), fun U hU hW9 => rmk hU hW9 hR hex hE hFc⟩ rfl rfl hl.1 rfl (lv_room (Nat.le_of_ble_eq_true rfl)) dX14_outFile_89 ⟨Nat.le_of_ble_eq_true rfl, Nat.le_of_ble_eq_true rfl⟩) hR.sS (fun q _ h => hFc q h) hFc (fun  S21 t9 H1 locs ht9 hvm9 hw9 hB9 hz9 hk9 hS => ?_)
                  obtain ⟨hq22, hw9, hs9⟩ := hw9
                  have hR : Rep g ad A s S21 H1 locs := hR.call ht9 hB9 hw9 hS hFc
                  have hsh := hsh.tr hs9
                  replace h := h  S21 hq22
                  have hT_v51_1 := hs9.T hT_v51_1 (by decide)
                  clear hB9 hz9 hk9 hvm9 ht9 hw9 hs9 hS
                  generalize H1 = H at hR ⊢
                  refine lv_aload_n hx hb dX14_outFile_92 rfl (lv_at hl 0 rfl) ?_
                  refine lv_aload_n hx hb dX14_outFile_93 rfl (lv_at hl 0 rfl) ?_
                  refine lv_aload_n hx hb dX14_outFile_94 rfl (lv_at hl 1 rfl) ?_
                  obtain ⟨hv23, h⟩ := h
                  have hT_b24 : qT S21 (qO S21 v51_1 1) = 12 := hR.w.ref hv23 hT_v51_1
                  refine va_get (D := rD g) (ci := 12) (v := .ref (ad (qO S21 v51_1 1))) (C := RX13) (T := TX13) (N := 23) hx hb hts in2X13 hown hR.K hR.P v51_1 (hR.at13 hT_v51_1) rfl 1 (by decide) (hts _ kx_571) (fun _ h9 => h9) (congrArg (fun z => some (vf ad z)) hv23) dX14_outFile_95 ?_
                  obtain ⟨Q25, EQ25, h0, h⟩ := h
                  have hFc := rfree hR hA
                  refine vx_calli (vx_runV (As := [.ref (ad (qO S21 v51_1 1))]) (rest := [.ref (ad 0)]) ⟨hx, hb, hml, hown, hts⟩ (r_classNumber l g ad H.size S21 (qO S21 v51_1 1) hR.w hT_b24 Q25 EQ25 h0) (cwV 1 hts (gd2_V kx_552 kx_553 kx_554 kx_177 kx_555) rfl rfl rfl (by decide +kernel) ⟨Nat.le_of_ble_eq_true rfl, Nat.le_of_ble_eq_true rfl⟩) ⟨rblind, va_recv hR.K hR.P (ci := 13) (q0 := 0) rfl (hR.at14 hR.w.1), fun U hU hW9 => rmk hU hW9 hR hex hE hFc⟩ rfl rfl hl.1 rfl (lv_room (Nat.le_of_ble_eq_true rfl)) dX14_outFile_98 ⟨Nat.le_of_ble_eq_true rfl, Nat.le_of_ble_eq_true rfl⟩) hR.sS (fun q _ h => hFc q h) hFc (fun q _ h => hFc q h) (fun E9 ce9 q9 u9 t9 H1 locs ht9 hvm9 hp9 hB9 hz9 hk9 hS hce9 hcv9 hcl9 => ?_) (fun r26 S27 t9 H1 locs ht9 hvm9 hw9 hB9 hz9 hk9 hS => ?_)
                  · obtain ⟨hp9, hwx, hsx⟩ := hp9
                    obtain ⟨rfl, hBx⟩ := hB9
                    replace h := h.2 u9 hp9
                    have hR : Rep g ad A s u9 H1 locs := hR.call ht9 hBx hwx hS hFc
                    have hsh := hsh.tr hsx
                    exact vx_out (E := RJxb5711) (q := q9) (fun x h9 => (hnt x h9).elim) hlocks hce9 hcv9 hcl9 (fun t9 ht9 ha9 => ⟨u9, ⟨h, hR.w, hsh⟩, ⟨rfl, by rw [ht9]; exact hR.P, hR.D⟩, hR.sS.F ht9⟩) hR.sS.2.2 (Nat.le_of_ble_eq_true rfl) (Nat.le_of_ble_eq_true rfl)
                  · obtain ⟨hq28, hw9, hs9⟩ := hw9
                    have hR : Rep g ad A s S27 H1 locs := hR.call ht9 hB9 hw9 hS hFc
                    have hsh := hsh.tr hs9
                    replace h := h.1 r26 S27 hq28
                    have hT_v51_1 := hs9.T hT_v51_1 (by decide)
                    clear hB9 hz9 hk9 hvm9 ht9 hw9 hs9 hS
                    generalize H1 = H at hR ⊢
                    refine lv_i2l (v := (r26.toInt64)) hx hb dX14_outFile_101 rfl ?_
                    refine lv_iconst (v := 2) hx hb dX14_outFile_102 (by decide) ?_
                    obtain ⟨Q29, h0, h⟩ := h
                    have hFc := rfree hR hA
                    refine va_callv (va_runV (As := [.long (r26.toInt64), .int 2]) (rest := []) ⟨hx, hb, hml, hown, hts⟩ (r_out l g ad H.size S27 (r26.toInt64) (2 : Int32) hR.w  Q29 h0) (cwV 2 hts (gd2_V kx_586 kx_587 kx_588 kx_177 kx_589) rfl rfl rfl (by decide +kernel) ⟨Nat.le_of_ble_eq_true rfl, Nat.le_of_ble_eq_true rfl⟩) ⟨rblind, va_recv hR.K hR.P (ci := 13) (q0 := 0) rfl (hR.at14 hR.w.1), fun U hU hW9 => rmk hU hW9 hR hex hE hFc⟩ rfl rfl hl.1 rfl (lv_room (Nat.le_of_ble_eq_true rfl)) dX14_outFile_103 ⟨Nat.le_of_ble_eq_true rfl, Nat.le_of_ble_eq_true rfl⟩) hR.sS (fun q _ h => hFc q h) hFc (fun  S30 t9 H1 locs ht9 hvm9 hw9 hB9 hz9 hk9 hS => ?_)
                    obtain ⟨hq31, hw9, hs9⟩ := hw9
                    have hR : Rep g ad A s S30 H1 locs := hR.call ht9 hB9 hw9 hS hFc
                    have hsh := hsh.tr hs9
                    replace h := h  S30 hq31
                    have hT_v51_1 := hs9.T hT_v51_1 (by decide)
                    clear hB9 hz9 hk9 hvm9 ht9 hw9 hs9 hS
                    generalize H1 = H at hR ⊢
                    refine lv_aload_n hx hb dX14_outFile_106 rfl (lv_at hl 0 rfl) ?_
                    refine lv_lconst (v := 0) hx hb dX14_outFile_107 (by decide) ?_
                    refine lv_iconst (v := 2) hx hb dX14_outFile_108 (by decide) ?_
                    obtain ⟨Q32, h0, h⟩ := h
                    have hFc := rfree hR hA
                    refine va_callv (va_runV (As := [.long 0, .int 2]) (rest := []) ⟨hx, hb, hml, hown, hts⟩ (r_out l g ad H.size S30 0 (2 : Int32) hR.w  Q32 h0) (cwV 2 hts (gd2_V kx_586 kx_587 kx_588 kx_177 kx_589) rfl rfl rfl (by decide +kernel) ⟨Nat.le_of_ble_eq_true rfl, Nat.le_of_ble_eq_true rfl⟩) ⟨rblind, va_recv hR.K hR.P (ci := 13) (q0 := 0) rfl (hR.at14 hR.w.1), fun U hU hW9 => rmk hU hW9 hR hex hE hFc⟩ rfl rfl hl.1 rfl (lv_room (Nat.le_of_ble_eq_true rfl)) dX14_outFile_109 ⟨Nat.le_of_ble_eq_true rfl, Nat.le_of_ble_eq_true rfl⟩) hR.sS (fun q _ h => hFc q h) hFc (fun  S33 t9 H1 locs ht9 hvm9 hw9 hB9 hz9 hk9 hS => ?_)
                    obtain ⟨hq34, hw9, hs9⟩ := hw9
                    have hR : Rep g ad A s S33 H1 locs := hR.call ht9 hB9 hw9 hS hFc
                    have hsh := hsh.tr hs9
                    replace h := h  S33 hq34
                    have hT_v51_1 := hs9.T hT_v51_1 (by decide)
                    clear hB9 hz9 hk9 hvm9 ht9 hw9 hs9 hS
                    generalize H1 = H at hR ⊢
                    refine lv_aload_n hx hb dX14_outFile_112 rfl (lv_at hl 0 rfl) ?_
                    refine lv_aload_n hx hb dX14_outFile_113 rfl (lv_at hl 1 rfl) ?_
                    refine va_get (D := rD g) (ci := 12) (v := .int (qI S33 v51_1 3)) (C := RX13) (T := TX13) (N := 23) hx hb hts in2X13 hown hR.K hR.P v51_1 (hR.at13 hT_v51_1) rfl 3 (by decide) (hts _ kx_356) (fun _ h9 => h9) rfl dX14_outFile_114 ?_
                    refine lv_i2l (v := ((qI S33 v51_1 3).toInt64)) hx hb dX14_outFile_117 rfl ?_
                    refine lv_iconst (v := 2) hx hb dX14_outFile_118 (by decide) ?_
                    obtain ⟨Q35, h0, h⟩ := h
                    have hFc := rfree hR hA
                    refine va_callv (va_runV (As := [.long ((qI S33 v51_1 3).toInt64), .int 2]) (rest := []) ⟨hx, hb, hml, hown, hts⟩ (r_out l g ad H.size S33 ((qI S33 v51_1 3).toInt64) (2 : Int32) hR.w  Q35 h0) (cwV 2 hts (gd2_V kx_586 kx_587 kx_588 kx_177 kx_589) rfl rfl rfl (by decide +kernel) ⟨Nat.le_of_ble_eq_true rfl, Nat.le_of_ble_eq_true rfl⟩) ⟨rblind, va_recv hR.K hR.P (ci := 13) (q0 := 0) rfl (hR.at14 hR.w.1), fun U hU hW9 => rmk hU hW9 hR hex hE hFc⟩ rfl rfl hl.1 rfl (lv_room (Nat.le_of_ble_eq_true rfl)) dX14_outFile_119 ⟨Nat.le_of_ble_eq_true rfl, Nat.le_of_ble_eq_true rfl⟩) hR.sS (fun q _ h => hFc q h) hFc (fun  S36 t9 H1 locs ht9 hvm9 hw9 hB9 hz9 hk9 hS => ?_)
                    obtain ⟨hq37, hw9, hs9⟩ := hw9
                    have hR : Rep g ad A s S36 H1 locs := hR.call ht9 hB9 hw9 hS hFc
                    have hsh := hsh.tr hs9
                    replace h := h  S36 hq37
                    have hT_v51_1 := hs9.T hT_v51_1 (by decide)
                    clear hB9 hz9 hk9 hvm9 ht9 hw9 hs9 hS
                    generalize H1 = H at hR ⊢
                    refine lv_iconst (v := 0) hx hb dX14_outFile_122 (by decide) ?_
                    refine lv_istore_n (lv' := [(2, .int 0), (0, .ref (ad 0)), (1, .ref (ad v51_1))]) hx hb dX14_outFile_123 rfl hl (by decide) rfl (fun ls hl => ?_)
                    have J_124 : ∀ (n124 : Nat) (U124 : MS) (v124_1 : Nat) (v124_2 : Int32) (H : Heap) (locs : List Loc) (ls : Array Slot), w_outFile_L124 Q E n124 U124 v124_1 v124_2 → qT U124 v124_1 = 11 → shy S U124 → Rep g ad A s U124 H locs → lv_has ls 3 [(0, .ref (ad 0)), (1, .ref (ad v124_1)), (2, .int v124_2)] → W p l e (headSpec (wt2 yX14_outFile cX14_outFile 3 none) ({ frames := 10, cells := 0, slots := 0, locals := 232 })).room s m ([.ref (ad 0), .ref (ad p1)] : List Value).toArray below meth c H locs 0 0 (vx_MQ below (va_Qv (fun (u : MS) => Q u ∧ wfM u ∧ shy S u) (fun (u : MS) (t : State) => qE g ad A u t) A) ((vx_X (fun (u : MS) => E u ∧ wfM u ∧ shy S u) (fun (n9 : String) (u : MS) (t : State) => n9 = RJxb5711 ∧ qE g ad A u t) A)) ([.ref (ad 0), .ref (ad p1)] : List Value).toArray s 0 0 A) (F0 m 124 ls []) := by
                      intro n124
                      induction n124 with
                      | zero => intro U124 v124_1 v124_2 H locs ls h hT_v124_1 hsh hR hl; unfold w_outFile_L124 at h; exact h.elim
                      | succ n124 ih_124 =>
                        intro U124 v124_1 v124_2 H locs ls h hT_v124_1 hsh hR hl
                        unfold w_outFile_L124 at h
                        refine lv_iload_n hx hb dX14_outFile_124 rfl (lv_at hl 2 rfl) ?_
                        refine lv_aload_n hx hb dX14_outFile_125 rfl (lv_at hl 1 rfl) ?_
                        refine va_get (D := rD g) (ci := 12) (v := .int (qI U124 v124_1 3)) (C := RX13) (T := TX13) (N := 23) hx hb hts in2X13 hown hR.K hR.P v124_1 (hR.at13 hT_v124_1) rfl 3 (by decide) (hts _ kx_356) (fun _ h9 => h9) rfl dX14_outFile_126 ?_
                        refine lv_icmp_ge (tgt := 184) hx hb dX14_outFile_129 (by decide) (fun c38 => ?_) (fun c38 => ?_)
                        · replace h := h.1 (k_le rfl rfl c38)
                          refine lv_aload_n hx hb dX14_outFile_184 rfl (lv_at hl 0 rfl) ?_
                          refine lv_aload_n hx hb dX14_outFile_185 rfl (lv_at hl 1 rfl) ?_
                          refine va_get (D := rD g) (ci := 12) (v := .int (qI U124 v124_1 4)) (C := RX13) (T := TX13) (N := 23) hx hb hts in2X13 hown hR.K hR.P v124_1 (hR.at13 hT_v124_1) rfl 4 (by decide) (hts _ kx_353) (fun _ h9 => h9) rfl dX14_outFile_186 ?_
                          refine lv_i2l (v := ((qI U124 v124_1 4).toInt64)) hx hb dX14_outFile_189 rfl ?_
                          refine lv_iconst (v := 2) hx hb dX14_outFile_190 (by decide) ?_
                          obtain ⟨Q39, h0, h⟩ := h
                          have hFc := rfree hR hA
                          refine va_callv (va_runV (As := [.long ((qI U124 v124_1 4).toInt64), .int 2]) (rest := []) ⟨hx, hb, hml, hown, hts⟩ (r_out l g ad H.size U124 ((qI U124 v124_1 4).toInt64) (2 : Int32) hR.w  Q39 h0) (cwV 2 hts (gd2_V kx_586 kx_587 kx_588 kx_177 kx_589) rfl rfl rfl (by decide +kernel) ⟨Nat.le_of_ble_eq_true rfl, Nat.le_of_ble_eq_true rfl⟩) ⟨rblind, va_recv hR.K hR.P (ci := 13) (q0 := 0) rfl (hR.at14 hR.w.1), fun U hU hW9 => rmk hU hW9 hR hex hE hFc⟩ rfl rfl hl.1 rfl (lv_room (Nat.le_of_ble_eq_true rfl)) dX14_outFile_191 ⟨Nat.le_of_ble_eq_true rfl, Nat.le_of_ble_eq_true rfl⟩) hR.sS (fun q _ h => hFc q h) hFc (fun  S40 t9 H1 locs ht9 hvm9 hw9 hB9 hz9 hk9 hS => ?_)
                          obtain ⟨hq41, hw9, hs9⟩ := hw9
                          have hR : Rep g ad A s S40 H1 locs := hR.call ht9 hB9 hw9 hS hFc
                          have hsh := hsh.tr hs9
                          replace h := h  S40 hq41
                          have hT_v124_1 := hs9.T hT_v124_1 (by decide)
                          clear hB9 hz9 hk9 hvm9 ht9 hw9 hs9 hS
                          generalize H1 = H at hR ⊢
                          refine lv_iconst (v := 0) hx hb dX14_outFile_194 (by decide) ?_
                          refine lv_istore_n (lv' := [(2, .int 0), (0, .ref (ad 0)), (1, .ref (ad v124_1))]) hx hb dX14_outFile_195 rfl hl (by decide) rfl (fun ls hl => ?_)
                          have J_196 : ∀ (n196 : Nat) (U196 : MS) (v196_1 : Nat) (v196_2 : Int32) (H : Heap) (locs : List Loc) (ls : Array Slot), w_outFile_L196 Q E n196 U196 v196_1 v196_2 → qT U196 v196_1 = 11 → shy S U196 → Rep g ad A s U196 H locs → lv_has ls 3 [(0, .ref (ad 0)), (1, .ref (ad v196_1)), (2, .int v196_2)] → W p l e (headSpec (wt2 yX14_outFile cX14_outFile 3 none) ({ frames := 10, cells := 0, slots := 0, locals := 232 })).room s m ([.ref (ad 0), .ref (ad p1)] : List Value).toArray below meth c H locs 0 0 (vx_MQ below (va_Qv (fun (u : MS) => Q u ∧ wfM u ∧ shy S u) (fun (u : MS) (t : State) => qE g ad A u t) A) ((vx_X (fun (u : MS) => E u ∧ wfM u ∧ shy S u) (fun (n9 : String) (u : MS) (t : State) => n9 = RJxb5711 ∧ qE g ad A u t) A)) ([.ref (ad 0), .ref (ad p1)] : List Value).toArray s 0 0 A) (F0 m 196 ls []) := by
                            intro n196
                            induction n196 with
                            | zero => intro U196 v196_1 v196_2 H locs ls h hT_v196_1 hsh hR hl; unfold w_outFile_L196 at h; exact h.elim
                            | succ n196 ih_196 =>
                              intro U196 v196_1 v196_2 H locs ls h hT_v196_1 hsh hR hl
                              unfold w_outFile_L196 at h
                              refine lv_iload_n hx hb dX14_outFile_196 rfl (lv_at hl 2 rfl) ?_
                              refine lv_aload_n hx hb dX14_outFile_197 rfl (lv_at hl 1 rfl) ?_
                              refine va_get (D := rD g) (ci := 12) (v := .int (qI U196 v196_1 4)) (C := RX13) (T := TX13) (N := 23) hx hb hts in2X13 hown hR.K hR.P v196_1 (hR.at13 hT_v196_1) rfl 4 (by decide) (hts _ kx_353) (fun _ h9 => h9) rfl dX14_outFile_198 ?_
                              refine lv_icmp_ge (tgt := 216) hx hb dX14_outFile_201 (by decide) (fun c42 => ?_) (fun c42 => ?_)
                              · replace h := h.1 (k_le rfl rfl c42)
                                refine lv_aload_n hx hb dX14_outFile_216 rfl (lv_at hl 0 rfl) ?_
                                refine lv_lconst (v := 0) hx hb dX14_outFile_217 (by decide) ?_
                                refine lv_iconst (v := 2) hx hb dX14_outFile_218 (by decide) ?_
                                obtain ⟨Q43, h0, h⟩ := h
                                have hFc := rfree hR hA
                                refine va_callv (va_runV (As := [.long 0, .int 2]) (rest := []) ⟨hx, hb, hml, hown, hts⟩ (r_out l g ad H.size U196 0 (2 : Int32) hR.w  Q43 h0) (cwV 2 hts (gd2_V kx_586 kx_587 kx_588 kx_177 kx_589) rfl rfl rfl (by decide +kernel) ⟨Nat.le_of_ble_eq_true rfl, Nat.le_of_ble_eq_true rfl⟩) ⟨rblind, va_recv hR.K hR.P (ci := 13) (q0 := 0) rfl (hR.at14 hR.w.1), fun U hU hW9 => rmk hU hW9 hR hex hE hFc⟩ rfl rfl hl.1 rfl (lv_room (Nat.le_of_ble_eq_true rfl)) dX14_outFile_219 ⟨Nat.le_of_ble_eq_true rfl, Nat.le_of_ble_eq_true rfl⟩) hR.sS (fun q _ h => hFc q h) hFc (fun  S44 t9 H1 locs ht9 hvm9 hw9 hB9 hz9 hk9 hS => ?_)
                                obtain ⟨hq45, hw9, hs9⟩ := hw9
                                have hR : Rep g ad A s S44 H1 locs := hR.call ht9 hB9 hw9 hS hFc
                                have hsh := hsh.tr hs9
                                replace h := h  S44 hq45
                                have hT_v196_1 := hs9.T hT_v196_1 (by decide)
                                clear hB9 hz9 hk9 hvm9 ht9 hw9 hs9 hS
                                generalize H1 = H at hR ⊢
                                exact vx_ret (W.vret hx hb hr (fun t9 ht9 hW9 => ⟨⟨S44, rfl, ⟨h, hR.w, hsh⟩, ⟨by rw [ht9]; exact hR.P, hR.D⟩⟩, hR.sS.F ht9⟩) hR.sS.2.2 dX14_outFile_222)
                              · replace h := h.2 (k_nle rfl rfl c42)
                                refine lv_aload_n hx hb dX14_outFile_204 rfl (lv_at hl 0 rfl) ?_
                                refine lv_aload_n hx hb dX14_outFile_205 rfl (lv_at hl 1 rfl) ?_
                                refine lv_iload_n hx hb dX14_outFile_206 rfl (lv_at hl 2 rfl) ?_
                                obtain ⟨Q46, EQ46, h0, h⟩ := h
                                have hFc := rfree hR hA
                                refine vx_callv (vx_runV (As := [.ref (ad v196_1), .int v196_2]) (rest := []) ⟨hx, hb, hml, hown, hts⟩ (r_outMethod l g ad H.size U196 v196_1 v196_2 hR.w hT_v196_1 Q46 EQ46 h0) (cwV 2 hts (gd2_V kx_933 kx_934 kx_935 kx_177 kx_936) rfl rfl rfl (by decide +kernel) ⟨Nat.le_of_ble_eq_true rfl, Nat.le_of_ble_eq_true rfl⟩) ⟨rblind, va_recv hR.K hR.P (ci := 13) (q0 := 0) rfl (hR.at14 hR.w.1), fun U hU hW9 => rmk hU hW9 hR hex hE hFc⟩ rfl rfl hl.1 rfl (lv_room (Nat.le_of_ble_eq_true rfl)) dX14_outFile_207 ⟨Nat.le_of_ble_eq_true rfl, Nat.le_of_ble_eq_true rfl⟩) hR.sS (fun q _ h => hFc q h) hFc (fun q _ h => hFc q h) (fun E9 ce9 q9 u9 t9 H1 locs ht9 hvm9 hp9 hB9 hz9 hk9 hS hce9 hcv9 hcl9 => ?_) (fun  S47 t9 H1 locs ht9 hvm9 hw9 hB9 hz9 hk9 hS => ?_)
                                · obtain ⟨hp9, hwx, hsx⟩ := hp9
                                  obtain ⟨rfl, hBx⟩ := hB9
                                  replace h := h.2 u9 hp9
                                  have hR : Rep g ad A s u9 H1 locs := hR.call ht9 hBx hwx hS hFc
                                  have hsh := hsh.tr hsx
                                  exact vx_out (E := RJxb5711) (q := q9) (fun x h9 => (hnt x h9).elim) hlocks hce9 hcv9 hcl9 (fun t9 ht9 ha9 => ⟨u9, ⟨h, hR.w, hsh⟩, ⟨rfl, by rw [ht9]; exact hR.P, hR.D⟩, hR.sS.F ht9⟩) hR.sS.2.2 (Nat.le_of_ble_eq_true rfl) (Nat.le_of_ble_eq_true rfl)
                                · obtain ⟨hq48, hw9, hs9⟩ := hw9
                                  have hR : Rep g ad A s S47 H1 locs := hR.call ht9 hB9 hw9 hS hFc
                                  have hsh := hsh.tr hs9
                                  replace h := h.1  S47 hq48
                                  have hT_v196_1 := hs9.T hT_v196_1 (by decide)
                                  clear hB9 hz9 hk9 hvm9 ht9 hw9 hs9 hS
                                  generalize H1 = H at hR ⊢
                                  obtain ⟨a49, ea49⟩ : ∃ z, z = (v196_2 + Int32.ofInt 1) := ⟨_, rfl⟩
                                  replace h := h a49 ea49
                                  refine lv_iinc (v := a49) (lv' := [(2, .int a49), (0, .ref (ad 0)), (1, .ref (ad v196_1))]) hx hb dX14_outFile_210 hl (k := 2) rfl ea49.symm (by decide) rfl (fun ls hl => ?_)
                                  refine lv_goto (tgt := 196) hx hb dX14_outFile_213 (by decide) ?_
                                  exact ih_196 S47 v196_1 a49 _ _ ls h hT_v196_1 hsh hR (lv_sub hl [1, 2, 0] rfl)
                          obtain ⟨n9, h⟩ := h
                          exact J_196 n9 S40 v124_1 0 _ _ ls h hT_v124_1 hsh hR (lv_sub hl [1, 2, 0] rfl)
                        · replace h := h.2 (k_nle rfl rfl c38)
                          refine lv_aload_n hx hb dX14_outFile_132 rfl (lv_at hl 0 rfl) ?_
                          refine lv_ldc2 hx hb hown (hts _ kx_592) dX14_outFile_133 ?_
                          refine lv_iconst (v := 2) hx hb dX14_outFile_136 (by decide) ?_
                          obtain ⟨Q50, h0, h⟩ := h
                          have hFc := rfree hR hA
                          refine va_callv (va_runV (As := [.long (9 : Int64), .int 2]) (rest := []) ⟨hx, hb, hml, hown, hts⟩ (r_out l g ad H.size U124 (9 : Int64) (2 : Int32) hR.w  Q50 h0) (cwV 2 hts (gd2_V kx_586 kx_587 kx_588 kx_177 kx_589) rfl rfl rfl (by decide +kernel) ⟨Nat.le_of_ble_eq_true rfl, Nat.le_of_ble_eq_true rfl⟩) ⟨rblind, va_recv hR.K hR.P (ci := 13) (q0 := 0) rfl (hR.at14 hR.w.1), fun U hU hW9 => rmk hU hW9 hR hex hE hFc⟩ rfl rfl hl.1 rfl (lv_room (Nat.le_of_ble_eq_true rfl)) dX14_outFile_137 ⟨Nat.le_of_ble_eq_true rfl, Nat.le_of_ble_eq_true rfl⟩) hR.sS (fun q _ h => hFc q h) hFc (fun  S51 t9 H1 locs ht9 hvm9 hw9 hB9 hz9 hk9 hS => ?_)
                          obtain ⟨hq52, hw9, hs9⟩ := hw9
                          have hR : Rep g ad A s S51 H1 locs := hR.call ht9 hB9 hw9 hS hFc
                          have hsh := hsh.tr hs9
                          replace h := h  S51 hq52
                          have hT_v124_1 := hs9.T hT_v124_1 (by decide)
                          clear hB9 hz9 hk9 hvm9 ht9 hw9 hs9 hS
                          generalize H1 = H at hR ⊢
                          refine lv_aload_n hx hb dX14_outFile_140 rfl (lv_at hl 0 rfl) ?_
                          refine lv_aload_n hx hb dX14_outFile_141 rfl (lv_at hl 0 rfl) ?_
                          refine lv_aload_n hx hb dX14_outFile_142 rfl (lv_at hl 1 rfl) ?_
                          obtain ⟨hv53, h⟩ := h
                          have hT_b54 : qT S51 (qO S51 v124_1 5) = 5 := hR.w.ref hv53 hT_v124_1
                          refine va_get (D := rD g) (ci := 12) (v := .ref (ad (qO S51 v124_1 5))) (C := RX13) (T := TX13) (N := 23) hx hb hts in2X13 hown hR.K hR.P v124_1 (hR.at13 hT_v124_1) rfl 5 (by decide) (hts _ kx_563) (fun _ h9 => h9) (congrArg (fun z => some (vf ad z)) hv53) dX14_outFile_143 ?_
                          refine lv_iload_n hx hb dX14_outFile_146 rfl (lv_at hl 2 rfl) ?_
                          obtain ⟨hv55, h⟩ := h
                          refine va_aldq hx hb hR.K hR.P (qO S51 v124_1 5) 4 (hR.atS hT_b54) rfl (k_ix (x := v124_2) (a := v124_2.toInt) rfl hv55) dX14_outFile_147 ?_
                          obtain ⟨hv56, h⟩ := h
                          have hT_b57 : qT S51 (qO S51 (qO S51 v124_1 5) v124_2.toInt.toNat) = 12 := hR.w.ref hv56 hT_b54
                          rw [show va_rf (Option.map ad (qR S51 (qO S51 v124_1 5) (v124_2 : Int32).toNatClampNeg)) = .ref (ad (qO S51 (qO S51 v124_1 5) v124_2.toInt.toNat)) from congrArg (fun z => vf ad z) hv56]
                          obtain ⟨Q58, EQ58, h0, h⟩ := h
                          have hFc := rfree hR hA
                          refine vx_calli (vx_runV (As := [.ref (ad (qO S51 (qO S51 v124_1 5) v124_2.toInt.toNat))]) (rest := [.ref (ad 0)]) ⟨hx, hb, hml, hown, hts⟩ (r_nameNumber l g ad H.size S51 (qO S51 (qO S51 v124_1 5) v124_2.toInt.toNat) hR.w hT_b57 Q58 EQ58 h0) (cwV 1 hts (gd2_V kx_547 kx_548 kx_549 kx_177 kx_550) rfl rfl rfl (by decide +kernel) ⟨Nat.le_of_ble_eq_true rfl, Nat.le_of_ble_eq_true rfl⟩) ⟨rblind, va_recv hR.K hR.P (ci := 13) (q0 := 0) rfl (hR.at14 hR.w.1), fun U hU hW9 => rmk hU hW9 hR hex hE hFc⟩ rfl rfl hl.1 rfl (lv_room (Nat.le_of_ble_eq_true rfl)) dX14_outFile_148 ⟨Nat.le_of_ble_eq_true rfl, Nat.le_of_ble_eq_true rfl⟩) hR.sS (fun q _ h => hFc q h) hFc (fun q _ h => hFc q h) (fun E9 ce9 q9 u9 t9 H1 locs ht9 hvm9 hp9 hB9 hz9 hk9 hS hce9 hcv9 hcl9 => ?_) (fun r59 S60 t9 H1 locs ht9 hvm9 hw9 hB9 hz9 hk9 hS => ?_)
                          · obtain ⟨hp9, hwx, hsx⟩ := hp9
                            obtain ⟨rfl, hBx⟩ := hB9
                            replace h := h.2 u9 hp9
                            have hR : Rep g ad A s u9 H1 locs := hR.call ht9 hBx hwx hS hFc
                            have hsh := hsh.tr hsx
                            exact vx_out (E := RJxb5711) (q := q9) (fun x h9 => (hnt x h9).elim) hlocks hce9 hcv9 hcl9 (fun t9 ht9 ha9 => ⟨u9, ⟨h, hR.w, hsh⟩, ⟨rfl, by rw [ht9]; exact hR.P, hR.D⟩, hR.sS.F ht9⟩) hR.sS.2.2 (Nat.le_of_ble_eq_true rfl) (Nat.le_of_ble_eq_true rfl)
                          · obtain ⟨hq61, hw9, hs9⟩ := hw9
                            have hR : Rep g ad A s S60 H1 locs := hR.call ht9 hB9 hw9 hS hFc
                            have hsh := hsh.tr hs9
                            replace h := h.1 r59 S60 hq61
                            have hT_v124_1 := hs9.T hT_v124_1 (by decide)
                            clear hB9 hz9 hk9 hvm9 ht9 hw9 hs9 hS
                            generalize H1 = H at hR ⊢
                            refine lv_i2l (v := (r59.toInt64)) hx hb dX14_outFile_151 rfl ?_
                            refine lv_iconst (v := 2) hx hb dX14_outFile_152 (by decide) ?_
                            obtain ⟨Q62, h0, h⟩ := h
                            have hFc := rfree hR hA
                            refine va_callv (va_runV (As := [.long (r59.toInt64), .int 2]) (rest := []) ⟨hx, hb, hml, hown, hts⟩ (r_out l g ad H.size S60 (r59.toInt64) (2 : Int32) hR.w  Q62 h0) (cwV 2 hts (gd2_V kx_586 kx_587 kx_588 kx_177 kx_589) rfl rfl rfl (by decide +kernel) ⟨Nat.le_of_ble_eq_true rfl, Nat.le_of_ble_eq_true rfl⟩) ⟨rblind, va_recv hR.K hR.P (ci := 13) (q0 := 0) rfl (hR.at14 hR.w.1), fun U hU hW9 => rmk hU hW9 hR hex hE hFc⟩ rfl rfl hl.1 rfl (lv_room (Nat.le_of_ble_eq_true rfl)) dX14_outFile_153 ⟨Nat.le_of_ble_eq_true rfl, Nat.le_of_ble_eq_true rfl⟩) hR.sS (fun q _ h => hFc q h) hFc (fun  S63 t9 H1 locs ht9 hvm9 hw9 hB9 hz9 hk9 hS => ?_)
                            obtain ⟨hq64, hw9, hs9⟩ := hw9
                            have hR : Rep g ad A s S63 H1 locs := hR.call ht9 hB9 hw9 hS hFc
                            have hsh := hsh.tr hs9
                            replace h := h  S63 hq64
                            have hT_v124_1 := hs9.T hT_v124_1 (by decide)
                            clear hB9 hz9 hk9 hvm9 ht9 hw9 hs9 hS
                            generalize H1 = H at hR ⊢
                            refine lv_aload_n hx hb dX14_outFile_156 rfl (lv_at hl 0 rfl) ?_
                            refine lv_aload_n hx hb dX14_outFile_157 rfl (lv_at hl 0 rfl) ?_
                            refine lv_aload_n hx hb dX14_outFile_158 rfl (lv_at hl 1 rfl) ?_
                            obtain ⟨hv65, h⟩ := h
                            have hT_b66 : qT S63 (qO S63 v124_1 6) = 5 := hR.w.ref hv65 hT_v124_1
                            refine va_get (D := rD g) (ci := 12) (v := .ref (ad (qO S63 v124_1 6))) (C := RX13) (T := TX13) (N := 23) hx hb hts in2X13 hown hR.K hR.P v124_1 (hR.at13 hT_v124_1) rfl 6 (by decide) (hts _ kx_564) (fun _ h9 => h9) (congrArg (fun z => some (vf ad z)) hv65) dX14_outFile_159 ?_
                            refine lv_iload_n hx hb dX14_outFile_162 rfl (lv_at hl 2 rfl) ?_
                            obtain ⟨hv67, h⟩ := h
                            refine va_aldq hx hb hR.K hR.P (qO S63 v124_1 6) 4 (hR.atS hT_b66) rfl (k_ix (x := v124_2) (a := v124_2.toInt) rfl hv67) dX14_outFile_163 ?_
                            obtain ⟨hv68, h⟩ := h
                            have hT_b69 : qT S63 (qO S63 (qO S63 v124_1 6) v124_2.toInt.toNat) = 12 := hR.w.ref hv68 hT_b66
                            rw [show va_rf (Option.map ad (qR S63 (qO S63 v124_1 6) (v124_2 : Int32).toNatClampNeg)) = .ref (ad (qO S63 (qO S63 v124_1 6) v124_2.toInt.toNat)) from congrArg (fun z => vf ad z) hv68]
                            obtain ⟨Q70, EQ70, h0, h⟩ := h
                            have hFc := rfree hR hA
                            refine vx_calli (vx_runV (As := [.ref (ad (qO S63 (qO S63 v124_1 6) v124_2.toInt.toNat))]) (rest := [.ref (ad 0)]) ⟨hx, hb, hml, hown, hts⟩ (r_nameNumber l g ad H.size S63 (qO S63 (qO S63 v124_1 6) v124_2.toInt.toNat) hR.w hT_b69 Q70 EQ70 h0) (cwV 1 hts (gd2_V kx_547 kx_548 kx_549 kx_177 kx_550) rfl rfl rfl (by decide +kernel) ⟨Nat.le_of_ble_eq_true rfl, Nat.le_of_ble_eq_true rfl⟩) ⟨rblind, va_recv hR.K hR.P (ci := 13) (q0 := 0) rfl (hR.at14 hR.w.1), fun U hU hW9 => rmk hU hW9 hR hex hE hFc⟩ rfl rfl hl.1 rfl (lv_room (Nat.le_of_ble_eq_true rfl)) dX14_outFile_164 ⟨Nat.le_of_ble_eq_true rfl, Nat.le_of_ble_eq_true rfl⟩) hR.sS (fun q _ h => hFc q h) hFc (fun q _ h => hFc q h) (fun E9 ce9 q9 u9 t9 H1 locs ht9 hvm9 hp9 hB9 hz9 hk9 hS hce9 hcv9 hcl9 => ?_) (fun r71 S72 t9 H1 locs ht9 hvm9 hw9 hB9 hz9 hk9 hS => ?_)
                            · obtain ⟨hp9, hwx, hsx⟩ := hp9
                              obtain ⟨rfl, hBx⟩ := hB9
                              replace h := h.2 u9 hp9
                              have hR : Rep g ad A s u9 H1 locs := hR.call ht9 hBx hwx hS hFc
                              have hsh := hsh.tr hsx
                              exact vx_out (E := RJxb5711) (q := q9) (fun x h9 => (hnt x h9).elim) hlocks hce9 hcv9 hcl9 (fun t9 ht9 ha9 => ⟨u9, ⟨h, hR.w, hsh⟩, ⟨rfl, by rw [ht9]; exact hR.P, hR.D⟩, hR.sS.F ht9⟩) hR.sS.2.2 (Nat.le_of_ble_eq_true rfl) (Nat.le_of_ble_eq_true rfl)
                            · obtain ⟨hq73, hw9, hs9⟩ := hw9
                              have hR : Rep g ad A s S72 H1 locs := hR.call ht9 hB9 hw9 hS hFc
                              have hsh := hsh.tr hs9
                              replace h := h.1 r71 S72 hq73
                              have hT_v124_1 := hs9.T hT_v124_1 (by decide)
                              clear hB9 hz9 hk9 hvm9 ht9 hw9 hs9 hS
                              generalize H1 = H at hR ⊢
                              refine lv_i2l (v := (r71.toInt64)) hx hb dX14_outFile_167 rfl ?_
                              refine lv_iconst (v := 2) hx hb dX14_outFile_168 (by decide) ?_
                              obtain ⟨Q74, h0, h⟩ := h
                              have hFc := rfree hR hA
                              refine va_callv (va_runV (As := [.long (r71.toInt64), .int 2]) (rest := []) ⟨hx, hb, hml, hown, hts⟩ (r_out l g ad H.size S72 (r71.toInt64) (2 : Int32) hR.w  Q74 h0) (cwV 2 hts (gd2_V kx_586 kx_587 kx_588 kx_177 kx_589) rfl rfl rfl (by decide +kernel) ⟨Nat.le_of_ble_eq_true rfl, Nat.le_of_ble_eq_true rfl⟩) ⟨rblind, va_recv hR.K hR.P (ci := 13) (q0 := 0) rfl (hR.at14 hR.w.1), fun U hU hW9 => rmk hU hW9 hR hex hE hFc⟩ rfl rfl hl.1 rfl (lv_room (Nat.le_of_ble_eq_true rfl)) dX14_outFile_169 ⟨Nat.le_of_ble_eq_true rfl, Nat.le_of_ble_eq_true rfl⟩) hR.sS (fun q _ h => hFc q h) hFc (fun  S75 t9 H1 locs ht9 hvm9 hw9 hB9 hz9 hk9 hS => ?_)
                              obtain ⟨hq76, hw9, hs9⟩ := hw9
                              have hR : Rep g ad A s S75 H1 locs := hR.call ht9 hB9 hw9 hS hFc
                              have hsh := hsh.tr hs9
                              replace h := h  S75 hq76
                              have hT_v124_1 := hs9.T hT_v124_1 (by decide)
                              clear hB9 hz9 hk9 hvm9 ht9 hw9 hs9 hS
                              generalize H1 = H at hR ⊢
                              refine lv_aload_n hx hb dX14_outFile_172 rfl (lv_at hl 0 rfl) ?_
                              refine lv_lconst (v := 0) hx hb dX14_outFile_173 (by decide) ?_
                              refine lv_iconst (v := 2) hx hb dX14_outFile_174 (by decide) ?_
                              obtain ⟨Q77, h0, h⟩ := h
                              have hFc := rfree hR hA
                              refine va_callv (va_runV (As := [.long 0, .int 2]) (rest := []) ⟨hx, hb, hml, hown, hts⟩ (r_out l g ad H.size S75 0 (2 : Int32) hR.w  Q77 h0) (cwV 2 hts (gd2_V kx_586 kx_587 kx_588 kx_177 kx_589) rfl rfl rfl (by decide +kernel) ⟨Nat.le_of_ble_eq_true rfl, Nat.le_of_ble_eq_true rfl⟩) ⟨rblind, va_recv hR.K hR.P (ci := 13) (q0 := 0) rfl (hR.at14 hR.w.1), fun U hU hW9 => rmk hU hW9 hR hex hE hFc⟩ rfl rfl hl.1 rfl (lv_room (Nat.le_of_ble_eq_true rfl)) dX14_outFile_175 ⟨Nat.le_of_ble_eq_true rfl, Nat.le_of_ble_eq_true rfl⟩) hR.sS (fun q _ h => hFc q h) hFc (fun  S78 t9 H1 locs ht9 hvm9 hw9 hB9 hz9 hk9 hS => ?_)
                              obtain ⟨hq79, hw9, hs9⟩ := hw9
                              have hR : Rep g ad A s S78 H1 locs := hR.call ht9 hB9 hw9 hS hFc
                              have hsh := hsh.tr hs9
                              replace h := h  S78 hq79
                              have hT_v124_1 := hs9.T hT_v124_1 (by decide)
                              clear hB9 hz9 hk9 hvm9 ht9 hw9 hs9 hS
                              generalize H1 = H at hR ⊢
                              obtain ⟨a80, ea80⟩ : ∃ z, z = (v124_2 + Int32.ofInt 1) := ⟨_, rfl⟩
                              replace h := h a80 ea80
                              refine lv_iinc (v := a80) (lv' := [(2, .int a80), (0, .ref (ad 0)), (1, .ref (ad v124_1))]) hx hb dX14_outFile_178 hl (k := 2) rfl ea80.symm (by decide) rfl (fun ls hl => ?_)
                              refine lv_goto (tgt := 124) hx hb dX14_outFile_181 (by decide) ?_
                              exact ih_124 S78 v124_1 a80 _ _ ls h hT_v124_1 hsh hR (lv_sub hl [1, 2, 0] rfl)
                    obtain ⟨n9, h⟩ := h
                    exact J_124 n9 S36 v51_1 0 _ _ ls h hT_v51_1 hsh hR (lv_sub hl [1, 2, 0] rfl)
              · replace h := h.2 (k_nle rfl rfl c10)
                refine lv_aload_n hx hb dX14_outFile_59 rfl (lv_at hl 0 rfl) ?_
                refine lv_iload_n hx hb dX14_outFile_60 rfl (lv_at hl 2 rfl) ?_
                obtain ⟨Q81, h0, h⟩ := h
                have hFc := rfree hR hA
                refine va_callv (va_runV (As := [.int v51_2]) (rest := []) ⟨hx, hb, hml, hown, hts⟩ (r_outEntry l g ad H.size U51 v51_2 hR.w  Q81 h0) (cwV 1 hts (gd2_V kx_937 kx_938 kx_939 kx_177 kx_940) rfl rfl rfl (by decide +kernel) ⟨Nat.le_of_ble_eq_true rfl, Nat.le_of_ble_eq_true rfl⟩) ⟨rblind, va_recv hR.K hR.P (ci := 13) (q0 := 0) rfl (hR.at14 hR.w.1), fun U hU hW9 => rmk hU hW9 hR hex hE hFc⟩ rfl rfl hl.1 rfl (lv_room (Nat.le_of_ble_eq_true rfl)) dX14_outFile_61 ⟨Nat.le_of_ble_eq_true rfl, Nat.le_of_ble_eq_true rfl⟩) hR.sS (fun q _ h => hFc q h) hFc (fun  S82 t9 H1 locs ht9 hvm9 hw9 hB9 hz9 hk9 hS => ?_)
                obtain ⟨hq83, hw9, hs9⟩ := hw9
                have hR : Rep g ad A s S82 H1 locs := hR.call ht9 hB9 hw9 hS hFc
                have hsh := hsh.tr hs9
                replace h := h  S82 hq83
                have hT_v51_1 := hs9.T hT_v51_1 (by decide)
                clear hB9 hz9 hk9 hvm9 ht9 hw9 hs9 hS
                generalize H1 = H at hR ⊢
                obtain ⟨a84, ea84⟩ : ∃ z, z = (v51_2 + Int32.ofInt 1) := ⟨_, rfl⟩
                replace h := h a84 ea84
                refine lv_iinc (v := a84) (lv' := [(2, .int a84), (0, .ref (ad 0)), (1, .ref (ad v51_1))]) hx hb dX14_outFile_64 hl (k := 2) rfl ea84.symm (by decide) rfl (fun ls hl => ?_)
                refine lv_goto (tgt := 51) hx hb dX14_outFile_67 (by decide) ?_
                exact ih_51 S82 v51_1 a84 _ _ ls h hT_v51_1 hsh hR (lv_sub hl [1, 2, 0] rfl)
          obtain ⟨n9, h⟩ := h
          exact J_51 n9 S8 v17_1 0 _ _ ls h hT_v17_1 hsh hR (lv_sub hl [1, 2, 0] rfl)
        · replace h := h.2 (k_nle (by decide) rfl c6)
          refine lv_aload_n hx hb dX14_outFile_23 rfl (lv_at hl 0 rfl) ?_
          refine lv_iload_n hx hb dX14_outFile_24 rfl (lv_at hl 2 rfl) ?_
          obtain ⟨hv85, h⟩ := h
          have hFc := rfree hR hA
          refine va_calli (va_runS (As := [.int v17_2]) (rest := [.ref (ad 0)]) ⟨hx, hb, hml, hown, hts⟩ (r_headByte l g ad H.size U17 v17_2 hR.w  hv85) (va_cwS 1 hts (gd2_S kx_941 kx_942 kx_177 kx_943) rfl rfl rfl (by decide +kernel) ⟨Nat.le_of_ble_eq_true rfl, Nat.le_of_ble_eq_true rfl⟩) ⟨rblind, fun U hU hW9 => rmk hU hW9 hR hex hE hFc⟩ rfl rfl hl.1 rfl (lv_room (Nat.le_of_ble_eq_true rfl)) dX14_outFile_25 ⟨Nat.le_of_ble_eq_true rfl, Nat.le_of_ble_eq_true rfl⟩) hR.sS (fun q _ h => hFc q h) hFc (fun r86 u9 t9 H1 locs ht9 hvm9 hw9 hB9 hz9 hk9 hS => ?_)
          have hR : Rep g ad A s U17 H1 locs := hR.call ht9 hB9 hR.w hS hFc
          obtain rfl : r86 = (f_headByte U17 v17_2) := hw9
          clear hB9 hz9 hk9 hvm9 ht9 hS
          generalize H1 = H at hR ⊢
          refine lv_i2l (v := ((f_headByte U17 v17_2).toInt64)) hx hb dX14_outFile_28 rfl ?_
          refine lv_iconst (v := 1) hx hb dX14_outFile_29 (by decide) ?_
          obtain ⟨Q88, h0, h⟩ := h
          have hFc := rfree hR hA
          refine va_callv (va_runV (As := [.long ((f_headByte U17 v17_2).toInt64), .int 1]) (rest := []) ⟨hx, hb, hml, hown, hts⟩ (r_out l g ad H.size U17 ((f_headByte U17 v17_2).toInt64) (1 : Int32) hR.w  Q88 h0) (cwV 2 hts (gd2_V kx_586 kx_587 kx_588 kx_177 kx_589) rfl rfl rfl (by decide +kernel) ⟨Nat.le_of_ble_eq_true rfl, Nat.le_of_ble_eq_true rfl⟩) ⟨rblind, va_recv hR.K hR.P (ci := 13) (q0 := 0) rfl (hR.at14 hR.w.1), fun U hU hW9 => rmk hU hW9 hR hex hE hFc⟩ rfl rfl hl.1 rfl (lv_room (Nat.le_of_ble_eq_true rfl)) dX14_outFile_30 ⟨Nat.le_of_ble_eq_true rfl, Nat.le_of_ble_eq_true rfl⟩) hR.sS (fun q _ h => hFc q h) hFc (fun  S89 t9 H1 locs ht9 hvm9 hw9 hB9 hz9 hk9 hS => ?_)
          obtain ⟨hq90, hw9, hs9⟩ := hw9
          have hR : Rep g ad A s S89 H1 locs := hR.call ht9 hB9 hw9 hS hFc
          have hsh := hsh.tr hs9
          replace h := h  S89 hq90
          have hT_v17_1 := hs9.T hT_v17_1 (by decide)
          clear hB9 hz9 hk9 hvm9 ht9 hw9 hs9 hS
          generalize H1 = H at hR ⊢
          obtain ⟨a91, ea91⟩ : ∃ z, z = (v17_2 + Int32.ofInt 1) := ⟨_, rfl⟩
          replace h := h a91 ea91
          refine lv_iinc (v := a91) (lv' := [(2, .int a91), (0, .ref (ad 0)), (1, .ref (ad v17_1))]) hx hb dX14_outFile_33 hl (k := 2) rfl ea91.symm (by decide) rfl (fun ls hl => ?_)
          refine lv_goto (tgt := 17) hx hb dX14_outFile_36 (by decide) ?_
          exact ih_17 S89 v17_1 a91 _ _ ls h hT_v17_1 hsh hR (lv_sub hl [1, 2, 0] rfl)
    obtain ⟨n9, h⟩ := h
    exact J_17 n9 S5 p1 0 _ _ ls h hT_p1 hsh hR (lv_sub hl [1, 2, 0] rfl)
def w_write (S : MS) (x1 : Int32) (Q : Int32 → MS → Prop) (E : MS → Prop) : Prop := (∃ Q1, w_isRight S x1 Q1 ∧ ∀ r2 S3, Q1 r2 S3 → ((r2.toInt = 0 → Q (-1 : Int32) S3) ∧ (¬ r2.toInt = 0 → (((0 : Int) ≤ x1.toInt ∧ x1.toInt < 12) ∧ ((qR S3 1 x1.toInt.toNat = some (qO S3 1 x1.toInt.toNat)) ∧ (∃ Q9 EQ9, w_outFile S3 (qO S3 1 x1.toInt.toNat) Q9 EQ9 ∧ (∀ S10, Q9 S10 → ((qR S10 0 76 = some (qO S10 0 76)) ∧ ((qR S10 0 75 = some (qO S10 0 75)) ∧ (∀ S16, S16 = wR S10 0 76 (some (qO S10 0 75)) → (∀ S17, S17 = wR S16 0 75 (some (qO S10 0 76)) → (∀ S18, S18 = wI S17 0 78 (qI S17 0 77) → Q (qI S18 0 78) S18)))))) ∧ (∀ u9, EQ9 u9 → E u9)))))))
set_option maxHeartbeats 2000000 in
set_option maxRecDepth 100000 in
theorem r_write (l : Launch) (g : Gr) (ad : Nat → Nat) (sz : Nat) (S : MS) (x1 : Int32) (hw : wfM S) (Q : Int32 → MS → Prop) (E : MS → Prop) (h : w_write S x1 Q E) : vx_Met l yX14_write (wt2 yX14_write cX14_write 3 (some .int)) ({ frames := 11, cells := 0, slots := 0, locals := 254 }) (va_Pc [.ref (ad 0), .int x1] (st_R g ad sz S)) (va_Qi (fun (r : Int32) (u : MS) => Q r u ∧ wfM u ∧ shy S u) (fun (u : MS) (t : State) => qE g ad (va_A (Wd g ad S) sz) u t) (va_A (Wd g ad S) sz)) (vx_X (fun (u : MS) => E u ∧ wfM u ∧ shy S u) (fun (n9 : String) (u : MS) (t : State) => n9 = RJxb5711 ∧ qE g ad (va_A (Wd g ad S) sz) u t) (va_A (Wd g ad S) sz)) 0 0 (va_A (Wd g ad S) sz) := by
  refine vx_ofW (cc := cX14_write) (maxL := 3) (ret := (some .int)) (by decide) rfl ?_
  intro p e s m args below meth c s₁ B hml hnt hv
  obtain ⟨rfl, hsz, hP, hK, hD0, hex, hE⟩ := hv
  have hx := B.exec
  have hb := B.bytes
  have hr := B.returns
  have hlocks := B.notSynchronized
  have hts0 := atoms_spec (ws := wt2 yX14_write cX14_write 3 (some .int)) B.pre
  have hts : ∀ w ∈ tb2, w.before _ s = true := fun w h => hts0 w (List.mem_cons_of_mem _ h)
  have hown : s.vm.findClass RX14 = some m.cls := findClass_of_methodNamed B.named
  subst hsz
  have hD := hD0.self (sz := s.heap.size)
  generalize hAe : va_A (Wd g ad S) s.heap.size = A at hD hE ⊢
  have hA : ∀ q : Nat, s.heap.size ≤ q → A q := fun q h => by rw [← hAe]; exact Or.inr h
  have hR : Rep g ad A s S s.heap [] := ⟨hK, hP, hD, va_S.rf, hw⟩
  clear hK hP hD hD0
  have hl := lv_entry ([.ref (ad 0), .int x1]) (n := 3) (Nat.le_of_ble_eq_true rfl)
  rw [lg_entry_eq]
  generalize (lg_sl ([.ref (ad 0), .int x1]) ++ List.replicate (3 - (lg_sl ([.ref (ad 0), .int x1])).length) Slot.unset).toArray = ls at hl ⊢
  have hl : lv_has ls 3 [(0, .ref (ad 0)), (1, .int x1)] := hl
  have hsh : shy S S := shy.rf
  unfold w_write at h
  refine lv_aload_n hx hb dX14_write_0 rfl (lv_at hl 0 rfl) ?_
  refine lv_iload_n hx hb dX14_write_1 rfl (lv_at hl 1 rfl) ?_
  obtain ⟨Q1, h0, h⟩ := h
  have hFc := rfree hR hA
  refine va_calli (va_runV (As := [.int x1]) (rest := []) ⟨hx, hb, hml, hown, hts⟩ (r_isRight l g ad s.heap.size S x1 hR.w  Q1 h0) (cwV 1 hts (gd2_V kx_523 kx_524 kx_525 kx_177 kx_526) rfl rfl rfl (by decide +kernel) ⟨Nat.le_of_ble_eq_true rfl, Nat.le_of_ble_eq_true rfl⟩) ⟨rblind, va_recv hR.K hR.P (ci := 13) (q0 := 0) rfl (hR.at14 hR.w.1), fun U hU hW9 => rmk hU hW9 hR hex hE hFc⟩ rfl rfl hl.1 rfl (lv_room (Nat.le_of_ble_eq_true rfl)) dX14_write_2 ⟨Nat.le_of_ble_eq_true rfl, Nat.le_of_ble_eq_true rfl⟩) hR.sS (fun q _ h => hFc q h) hFc (fun r2 S3 t9 H1 locs ht9 hvm9 hw9 hB9 hz9 hk9 hS => ?_)
  obtain ⟨hq4, hw9, hs9, hz_r2⟩ := hw9
  have hR : Rep g ad A s S3 H1 locs := hR.call ht9 hB9 hw9 hS hFc
  have hsh := hsh.tr hs9
  replace h := h r2 S3 hq4
  clear hB9 hz9 hk9 hvm9 ht9 hw9 hs9 hS
  generalize H1 = H at hR ⊢
  refine lv_if_ne (tgt := 10) hx hb dX14_write_5 (by decide) (fun c5 => ?_) (fun c5 => ?_)
  · replace h := h.2 (k_ne rfl (by decide) c5)
    refine lv_aload_n hx hb dX14_write_10 rfl (lv_at hl 0 rfl) ?_
    refine lv_aload_n hx hb dX14_write_11 rfl (lv_at hl 0 rfl) ?_
    refine va_get (D := rD g) (ci := 13) (v := .ref (ad 1)) (C := RX14) (T := TX14) (N := 143) hx hb hts in2X14 hown hR.K hR.P 0 (hR.at14 hR.w.1) rfl 0 (by decide) (hts _ kx_347) (fun _ h9 => h9) (congrArg (fun z => some (vf ad z)) (hR.w.2.1 _ fin_0).1) dX14_write_12 ?_
    refine lv_iload_n hx hb dX14_write_15 rfl (lv_at hl 1 rfl) ?_
    obtain ⟨hv6, h⟩ := h
    refine va_aldq hx hb hR.K hR.P 1 5 (hR.atF (hR.w.2.1 _ fin_0).2.1) rfl (k_ixN (k_ix (n := 12) (x := x1) (a := x1.toInt) rfl hv6) (hR.w.2.1 _ fin_0).2.2) dX14_write_16 ?_
    obtain ⟨hv7, h⟩ := h
    have hT_b8 : qT S3 (qO S3 1 x1.toInt.toNat) = 11 := hR.w.ref hv7 (hR.w.2.1 _ fin_0).2.1
    rw [show va_rf (Option.map ad (qR S3 1 (x1 : Int32).toNatClampNeg)) = .ref (ad (qO S3 1 x1.toInt.toNat)) from congrArg (fun z => vf ad z) hv7]
    obtain ⟨Q9, EQ9, h0, h⟩ := h
    have hFc := rfree hR hA
    refine vx_callv (vx_runV (As := [.ref (ad (qO S3 1 x1.toInt.toNat))]) (rest := []) ⟨hx, hb, hml, hown, hts⟩ (r_outFile l g ad H.size S3 (qO S3 1 x1.toInt.toNat) hR.w hT_b8 Q9 EQ9 h0) (cwV 1 hts (gd2_V kx_944 kx_945 kx_946 kx_177 kx_947) rfl rfl rfl (by decide +kernel) ⟨Nat.le_of_ble_eq_true rfl, Nat.le_of_ble_eq_true rfl⟩) ⟨rblind, va_recv hR.K hR.P (ci := 13) (q0 := 0) rfl (hR.at14 hR.w.1), fun U hU hW9 => rmk hU hW9 hR hex hE hFc⟩ rfl rfl hl.1 rfl (lv_room (Nat.le_of_ble_eq_true rfl)) dX14_write_17 ⟨Nat.le_of_ble_eq_true rfl, Nat.le_of_ble_eq_true rfl⟩) hR.sS (fun q _ h => hFc q h) hFc (fun q _ h => hFc q h) (fun E9 ce9 q9 u9 t9 H1 locs ht9 hvm9 hp9 hB9 hz9 hk9 hS hce9 hcv9 hcl9 => ?_) (fun  S10 t9 H1 locs ht9 hvm9 hw9 hB9 hz9 hk9 hS => ?_)
    · obtain ⟨hp9, hwx, hsx⟩ := hp9
      obtain ⟨rfl, hBx⟩ := hB9
      replace h := h.2 u9 hp9
      have hR : Rep g ad A s u9 H1 locs := hR.call ht9 hBx hwx hS hFc
      have hsh := hsh.tr hsx
      exact vx_out (E := RJxb5711) (q := q9) (fun x h9 => (hnt x h9).elim) hlocks hce9 hcv9 hcl9 (fun t9 ht9 ha9 => ⟨u9, ⟨h, hR.w, hsh⟩, ⟨rfl, by rw [ht9]; exact hR.P, hR.D⟩, hR.sS.F ht9⟩) hR.sS.2.2 (Nat.le_of_ble_eq_true rfl) (Nat.le_of_ble_eq_true rfl)
    · obtain ⟨hq11, hw9, hs9⟩ := hw9
      have hR : Rep g ad A s S10 H1 locs := hR.call ht9 hB9 hw9 hS hFc
      have hsh := hsh.tr hs9
      replace h := h.1  S10 hq11
      clear hB9 hz9 hk9 hvm9 ht9 hw9 hs9 hS
      generalize H1 = H at hR ⊢
      refine lv_aload_n hx hb dX14_write_20 rfl (lv_at hl 0 rfl) ?_
      obtain ⟨hv12, h⟩ := h
      have hT_b13 : qT S10 (qO S10 0 76) = 1 := hR.w.ref hv12 hR.w.1
      refine va_get (D := rD g) (ci := 13) (v := .ref (ad (qO S10 0 76))) (C := RX14) (T := TX14) (N := 143) hx hb hts in2X14 hown hR.K hR.P 0 (hR.at14 hR.w.1) rfl 76 (by decide) (hts _ kx_607) (fun _ h9 => h9) (congrArg (fun z => some (vf ad z)) hv12) dX14_write_21 ?_
      refine lv_astore_n (lv' := [(2, .ref (ad (qO S10 0 76))), (0, .ref (ad 0)), (1, .int x1)]) hx hb dX14_write_24 rfl hl (by decide) rfl (fun ls hl => ?_)
      refine lv_aload_n hx hb dX14_write_25 rfl (lv_at hl 1 rfl) ?_
      refine lv_aload_n hx hb dX14_write_26 rfl (lv_at hl 1 rfl) ?_
      obtain ⟨hv14, h⟩ := h
      have hT_b15 : qT S10 (qO S10 0 75) = 1 := hR.w.ref hv14 hR.w.1
      refine va_get (D := rD g) (ci := 13) (v := .ref (ad (qO S10 0 75))) (C := RX14) (T := TX14) (N := 143) hx hb hts in2X14 hown hR.K hR.P 0 (hR.at14 hR.w.1) rfl 75 (by decide) (hts _ kx_579) (fun _ h9 => h9) (congrArg (fun z => some (vf ad z)) hv14) dX14_write_27 ?_
      refine va_put (D := rD g) (ci := 13) (v := .ref (ad (qO S10 0 75))) (ty := (.array .byte)) (C := RX14) (T := TX14) (N := 143) hx hb hts in2X14 tyX14 tyX14_ok nmX14 hown hR.K hR.P hR.D hR.sS 0 (hR.at14 hR.w.1) rfl 76 (by decide) (hts _ kx_607) (fun _ h9 => h9) rfl (by decide +kernel) rfl rfl (Nat.le_of_ble_eq_true rfl) dX14_write_30 (fun H locs hP hD hS => ?_)
      have hw9 : wfM (wR S10 0 76 (some (qO S10 0 75))) := hR.w.put (fun b q9 => by cases q9; exact (hT_b15).trans (by rw [hR.w.1]; rfl)) (fun _ => nofin_76) (by rw [hR.w.1]; decide)
      have hR : Rep g ad A s (wR S10 0 76 (some (qO S10 0 75))) H locs := hR.pR hR.w.1 F14_s76 hw9 hP hD hS
      obtain ⟨S16, eS16⟩ : ∃ z, z = wR S10 0 76 (some (qO S10 0 75)) := ⟨_, rfl⟩
      rw [← eS16] at hR
      replace h := h S16 eS16
      have hT_b13 : qT S16 (qO S10 0 76) = 1 := (congrArg (fun z => qT z (qO S10 0 76)) eS16).trans hT_b13
      have hsh : shy S S16 := by rw [eS16]; exact hsh
      refine lv_aload_n hx hb dX14_write_33 rfl (lv_at hl 1 rfl) ?_
      refine lv_aload_n hx hb dX14_write_34 rfl (lv_at hl 0 rfl) ?_
      refine va_put (D := rD g) (ci := 13) (v := .ref (ad (qO S10 0 76))) (ty := (.array .byte)) (C := RX14) (T := TX14) (N := 143) hx hb hts in2X14 tyX14 tyX14_ok nmX14 hown hR.K hR.P hR.D hR.sS 0 (hR.at14 hR.w.1) rfl 75 (by decide) (hts _ kx_579) (fun _ h9 => h9) rfl (by decide +kernel) rfl rfl (Nat.le_of_ble_eq_true rfl) dX14_write_35 (fun H locs hP hD hS => ?_)
      have hw9 : wfM (wR S16 0 75 (some (qO S10 0 76))) := hR.w.put (fun b q9 => by cases q9; exact (hT_b13).trans (by rw [hR.w.1]; rfl)) (fun _ => nofin_75) (by rw [hR.w.1]; decide)
      have hR : Rep g ad A s (wR S16 0 75 (some (qO S10 0 76))) H locs := hR.pR hR.w.1 F14_s75 hw9 hP hD hS
      obtain ⟨S17, eS17⟩ : ∃ z, z = wR S16 0 75 (some (qO S10 0 76)) := ⟨_, rfl⟩
      rw [← eS17] at hR
      replace h := h S17 eS17
      have hT_b13 : qT S17 (qO S10 0 76) = 1 := (congrArg (fun z => qT z (qO S10 0 76)) eS17).trans hT_b13
      have hsh : shy S S17 := by rw [eS17]; exact hsh
      refine lv_aload_n hx hb dX14_write_38 rfl (lv_at hl 1 rfl) ?_
      refine lv_aload_n hx hb dX14_write_39 rfl (lv_at hl 1 rfl) ?_
      refine va_get (D := rD g) (ci := 13) (v := .int (qI S17 0 77)) (C := RX14) (T := TX14) (N := 143) hx hb hts in2X14 hown hR.K hR.P 0 (hR.at14 hR.w.1) rfl 77 (by decide) (hts _ kx_580) (fun _ h9 => h9) rfl dX14_write_40 ?_
      refine va_put (D := rD g) (ci := 13) (v := .int (qI S17 0 77)) (ty := .int) (C := RX14) (T := TX14) (N := 143) hx hb hts in2X14 tyX14 tyX14_ok nmX14 hown hR.K hR.P hR.D hR.sS 0 (hR.at14 hR.w.1) rfl 78 (by decide) (hts _ kx_606) (fun _ h9 => h9) rfl (by decide +kernel) rfl rfl (Nat.le_of_ble_eq_true rfl) dX14_write_43 (fun H locs hP hD hS => ?_)
      have hR : Rep g ad A s (wI S17 0 78 (qI S17 0 77)) H locs := hR.pI hR.w.1 F14_s78 hP hD hS
      obtain ⟨S18, eS18⟩ : ∃ z, z = wI S17 0 78 (qI S17 0 77) := ⟨_, rfl⟩
      rw [← eS18] at hR
      replace h := h S18 eS18
      have hT_b13 : qT S18 (qO S10 0 76) = 1 := (congrArg (fun z => qT z (qO S10 0 76)) eS18).trans hT_b13
      have hsh : shy S S18 := by rw [eS18]; exact hsh
      refine lv_aload_n hx hb dX14_write_46 rfl (lv_at hl 1 rfl) ?_
      refine va_get (D := rD g) (ci := 13) (v := .int (qI S18 0 78)) (C := RX14) (T := TX14) (N := 143) hx hb hts in2X14 hown hR.K hR.P 0 (hR.at14 hR.w.1) rfl 78 (by decide) (hts _ kx_606) (fun _ h9 => h9) rfl dX14_write_47 ?_
      exact vx_ret (W.iret (v := (qI S18 0 78)) hx hb hr (fun t9 ht9 hW9 => ⟨⟨_, S18, rfl, ⟨h, hR.w, hsh⟩, ⟨by rw [ht9]; exact hR.P, hR.D⟩⟩, hR.sS.F ht9⟩) hR.sS.2.2 dX14_write_50)
  · replace h := h.1 (k_eq rfl (by decide) c5)
    refine lv_iconst (v := (-1)) hx hb dX14_write_8 (by decide) ?_
    exact vx_ret (W.iret (v := (-1)) hx hb hr (fun t9 ht9 hW9 => ⟨⟨_, S3, rfl, ⟨h, hR.w, hsh⟩, ⟨by rw [ht9]; exact hR.P, hR.D⟩⟩, hR.sS.F ht9⟩) hR.sS.2.2 dX14_write_9)
def w_put (S : MS) (y1 : Int64) (x3 : Int32) (Q : MS → Prop) : Prop := ((x3.toInt = 2 → (∃ Q8, w_putTagged S y1 (2 : Int32) x3 Q8 ∧ ∀ S9, Q8 S9 → Q S9)) ∧ (¬ x3.toInt = 2 → (d_thingTag S y1 ∧ (∃ Q5, w_putTagged S y1 (f_thingTag S y1) x3 Q5 ∧ ∀ S6, Q5 S6 → Q S6))))
set_option maxHeartbeats 2000000 in
set_option maxRecDepth 100000 in
theorem r_put (l : Launch) (g : Gr) (ad : Nat → Nat) (sz : Nat) (S : MS) (y1 : Int64) (x3 : Int32) (hw : wfM S) (Q : MS → Prop) (h : w_put S y1 x3 Q) : Met l yX14_put (wt2 yX14_put cX14_put 4 none) ({ frames := 1, cells := 0, slots := 0, locals := 25 }) (va_Pc [.ref (ad 0), .long y1, .int x3] (st_R g ad sz S)) (va_Qv (fun (u : MS) => Q u ∧ wfM u ∧ shy S u) (fun (u : MS) (t : State) => qE g ad (va_A (Wd g ad S) sz) u t) (va_A (Wd g ad S) sz)) 0 0 (va_A (Wd g ad S) sz) := by
  refine Met.ofW (cc := cX14_put) (maxL := 4) (ret := none) (by decide) rfl ?_
  intro p e s m args below meth c s₁ B hml hv
  obtain ⟨rfl, hsz, hP, hK, hD0, hex, hE⟩ := hv
  have hx := B.exec
  have hb := B.bytes
  have hr := B.returns
  have hts0 := atoms_spec (ws := wt2 yX14_put cX14_put 4 none) B.pre
  have hts : ∀ w ∈ tb2, w.before _ s = true := fun w h => hts0 w (List.mem_cons_of_mem _ h)
  have hown : s.vm.findClass RX14 = some m.cls := findClass_of_methodNamed B.named
  subst hsz
  have hD := hD0.self (sz := s.heap.size)
  generalize hAe : va_A (Wd g ad S) s.heap.size = A at hD hE ⊢
  have hA : ∀ q : Nat, s.heap.size ≤ q → A q := fun q h => by rw [← hAe]; exact Or.inr h
  have hR : Rep g ad A s S s.heap [] := ⟨hK, hP, hD, va_S.rf, hw⟩
  clear hK hP hD hD0
  have hl := lv_entry ([.ref (ad 0), .long y1, .int x3]) (n := 4) (Nat.le_of_ble_eq_true rfl)
  rw [lg_entry_eq]
  generalize (lg_sl ([.ref (ad 0), .long y1, .int x3]) ++ List.replicate (4 - (lg_sl ([.ref (ad 0), .long y1, .int x3])).length) Slot.unset).toArray = ls at hl ⊢
  have hl : lv_has ls 4 [(0, .ref (ad 0)), (1, .long y1), (3, .int x3)] := hl
  have hsh : shy S S := shy.rf
  unfold w_put at h
  refine lv_aload_n hx hb dX14_put_0 rfl (lv_at hl 0 rfl) ?_
  refine lv_lload_n hx hb dX14_put_1 rfl (lv_at hl 1 rfl) ?_
  refine lv_iload_n hx hb dX14_put_2 rfl (lv_at hl 2 rfl) ?_
  refine lv_iconst (v := 2) hx hb dX14_put_3 (by decide) ?_
  refine lv_icmp_ne (tgt := 11) hx hb dX14_put_4 (by decide) (fun c1 => ?_) (fun c1 => ?_)
  · replace h := h.2 (k_ne rfl (by decide) c1)
    refine lv_lload_n hx hb dX14_put_11 rfl (lv_at hl 1 rfl) ?_
    obtain ⟨hv2, h⟩ := h
    have hFc := rfree hR hA
    refine va_calli (va_runS (As := [.long y1]) (rest := [.long y1, .ref (ad 0)]) ⟨hx, hb, hml, hown, hts⟩ (r_thingTag l g ad s.heap.size S y1 hR.w  hv2) (va_cwS 1 hts (gd2_S kx_626 kx_627 kx_177 kx_628) rfl rfl rfl (by decide +kernel) ⟨Nat.le_of_ble_eq_true rfl, Nat.le_of_ble_eq_true rfl⟩) ⟨rblind, fun U hU hW9 => rmk hU hW9 hR hex hE hFc⟩ rfl rfl hl.1 rfl (lv_room (Nat.le_of_ble_eq_true rfl)) dX14_put_12 ⟨Nat.le_of_ble_eq_true rfl, Nat.le_of_ble_eq_true rfl⟩) hR.sS (fun q _ h => hFc q h) hFc (fun r3 u9 t9 H1 locs ht9 hvm9 hw9 hB9 hz9 hk9 hS => ?_)
    have hR : Rep g ad A s S H1 locs := hR.call ht9 hB9 hR.w hS hFc
    obtain rfl : r3 = (f_thingTag S y1) := hw9
    clear hB9 hz9 hk9 hvm9 ht9 hS
    generalize H1 = H at hR ⊢
    refine lv_iload_n hx hb dX14_put_15 rfl (lv_at hl 2 rfl) ?_
    obtain ⟨Q5, h0, h⟩ := h
    have hFc := rfree hR hA
    refine va_callv (va_runV (As := [.long y1, .int (f_thingTag S y1), .int x3]) (rest := []) ⟨hx, hb, hml, hown, hts⟩ (r_putTagged l g ad H.size S y1 (f_thingTag S y1) x3 hR.w  Q5 h0) (cwV 3 hts (gd2_V kx_631 kx_632 kx_633 kx_177 kx_634) rfl rfl rfl (by decide +kernel) ⟨Nat.le_of_ble_eq_true rfl, Nat.le_of_ble_eq_true rfl⟩) ⟨rblind, va_recv hR.K hR.P (ci := 13) (q0 := 0) rfl (hR.at14 hR.w.1), fun U hU hW9 => rmk hU hW9 hR hex hE hFc⟩ rfl rfl hl.1 rfl (lv_room (Nat.le_of_ble_eq_true rfl)) dX14_put_16 ⟨Nat.le_of_ble_eq_true rfl, Nat.le_of_ble_eq_true rfl⟩) hR.sS (fun q _ h => hFc q h) hFc (fun  S6 t9 H1 locs ht9 hvm9 hw9 hB9 hz9 hk9 hS => ?_)
    obtain ⟨hq7, hw9, hs9⟩ := hw9
    have hR : Rep g ad A s S6 H1 locs := hR.call ht9 hB9 hw9 hS hFc
    have hsh := hsh.tr hs9
    replace h := h  S6 hq7
    clear hB9 hz9 hk9 hvm9 ht9 hw9 hs9 hS
    generalize H1 = H at hR ⊢
    exact W.vret hx hb hr (fun t9 ht9 hW9 => ⟨⟨S6, rfl, ⟨h, hR.w, hsh⟩, ⟨by rw [ht9]; exact hR.P, hR.D⟩⟩, hR.sS.F ht9⟩) hR.sS.2.2 dX14_put_19
  · replace h := h.1 (k_eq rfl (by decide) c1)
    refine lv_iconst (v := 2) hx hb dX14_put_7 (by decide) ?_
    refine lv_goto (tgt := 15) hx hb dX14_put_8 (by decide) ?_
    refine lv_iload_n hx hb dX14_put_15 rfl (lv_at hl 2 rfl) ?_
    obtain ⟨Q8, h0, h⟩ := h
    have hFc := rfree hR hA
    refine va_callv (va_runV (As := [.long y1, .int 2, .int x3]) (rest := []) ⟨hx, hb, hml, hown, hts⟩ (r_putTagged l g ad s.heap.size S y1 (2 : Int32) x3 hR.w  Q8 h0) (cwV 3 hts (gd2_V kx_631 kx_632 kx_633 kx_177 kx_634) rfl rfl rfl (by decide +kernel) ⟨Nat.le_of_ble_eq_true rfl, Nat.le_of_ble_eq_true rfl⟩) ⟨rblind, va_recv hR.K hR.P (ci := 13) (q0 := 0) rfl (hR.at14 hR.w.1), fun U hU hW9 => rmk hU hW9 hR hex hE hFc⟩ rfl rfl hl.1 rfl (lv_room (Nat.le_of_ble_eq_true rfl)) dX14_put_16 ⟨Nat.le_of_ble_eq_true rfl, Nat.le_of_ble_eq_true rfl⟩) hR.sS (fun q _ h => hFc q h) hFc (fun  S9 t9 H1 locs ht9 hvm9 hw9 hB9 hz9 hk9 hS => ?_)
    obtain ⟨hq10, hw9, hs9⟩ := hw9
    have hR : Rep g ad A s S9 H1 locs := hR.call ht9 hB9 hw9 hS hFc
    have hsh := hsh.tr hs9
    replace h := h  S9 hq10
    clear hB9 hz9 hk9 hvm9 ht9 hw9 hs9 hS
    generalize H1 = H at hR ⊢
    exact W.vret hx hb hr (fun t9 ht9 hW9 => ⟨⟨S9, rfl, ⟨h, hR.w, hsh⟩, ⟨by rw [ht9]; exact hR.P, hR.D⟩⟩, hR.sS.F ht9⟩) hR.sS.2.2 dX14_put_19
def w_throwError_J111 (Q : MS → Prop) (k40 : MS → Int32 → Int32 → Int32 → Prop) (U111 : MS) (v111_1 : Int32) (v111_2 : Int32) (v111_3 : Int32) : Prop := (∀ a22 : Int32, a22 = (v111_3 + Int32.ofInt 1) → k40 U111 v111_1 v111_2 a22)
def w_throwError_J79 (Q : MS → Prop) (U79 : MS) (v79_1 : Int32) (v79_3 : Int32) : Prop := (((0 : Int) ≤ ((qI U79 0 97) - (1 : Int32)).toInt ∧ ((qI U79 0 97) - (1 : Int32)).toInt < 60) ∧ (∀ S29, S29 = wI U79 44 ((((qI U79 0 97) - (1 : Int32)).toInt).toNat) (0 : Int32) → (∃ Q31, w_put S29 (((-1 : Int32) - v79_1).toInt64) (1 : Int32) Q31 ∧ ∀ S32, Q31 S32 → (d_catchWord S32 v79_3 (2 : Int32) ∧ (∃ Q37, w_goTo S32 (f_catchWord S32 v79_3 (2 : Int32)) Q37 ∧ ∀ S38, Q37 S38 → Q S38)))))
def w_throwError_L40 (Q : MS → Prop) (k0 : MS → Int32 → Prop) : Nat → MS → Int32 → Int32 → Int32 → Prop
  | 0, _, _, _, _ => False
  | n40 + 1, U40, v40_1, v40_2, v40_3 => (((qI U40 0 54).toInt ≤ v40_3.toInt → (∀ S18, S18 = wI U40 0 97 ((qI U40 0 97) - (1 : Int32)) → k0 S18 v40_1)) ∧ (¬ (qI U40 0 54).toInt ≤ v40_3.toInt → (d_isCaught U40 v40_2 v40_3 ∧ (((f_isCaught U40 v40_2 v40_3).toInt = 0 → w_throwError_J111 Q (w_throwError_L40 Q k0 n40) U40 v40_1 v40_2 v40_3) ∧ (¬ (f_isCaught U40 v40_2 v40_3).toInt = 0 → (d_catchWord U40 v40_3 (3 : Int32) ∧ (((f_catchWord U40 v40_3 (3 : Int32)).toInt < 0 → w_throwError_J79 Q U40 v40_1 v40_3) ∧ (¬ (f_catchWord U40 v40_3 (3 : Int32)).toInt < 0 → (d_catchWord U40 v40_3 (3 : Int32) ∧ (((f_catchWord U40 v40_3 (3 : Int32)).toInt = v40_1.toInt → w_throwError_J79 Q U40 v40_1 v40_3) ∧ (¬ (f_catchWord U40 v40_3 (3 : Int32)).toInt = v40_1.toInt → w_throwError_J111 Q (w_throwError_L40 Q k0 n40) U40 v40_1 v40_2 v40_3)))))))))))
def w_throwError_L0 (Q : MS → Prop) : Nat → MS → Int32 → Prop
  | 0, _, _ => False
  | n0 + 1, U0, v0_1 => (((qI U0 0 97).toInt ≤ 0 → (∀ S2, S2 = wI U0 0 98 1 → (∀ S3, S3 = wI S2 0 102 v0_1 → Q S3))) ∧ (¬ (qI U0 0 97).toInt ≤ 0 → ((qR U0 0 80 = some (qO U0 0 80)) ∧ (((0 : Int) ≤ ((qI U0 0 97) - (1 : Int32)).toInt ∧ ((qI U0 0 97) - (1 : Int32)).toInt < 60) ∧ (∃ Q9, w_look U0 (qO U0 0 80) (qI U0 42 ((((qI U0 0 97) - (1 : Int32)).toInt).toNat)) Q9 ∧ ∀ S10, Q9 S10 → (((0 : Int) ≤ ((qI S10 0 97) - (1 : Int32)).toInt ∧ ((qI S10 0 97) - (1 : Int32)).toInt < 60) ∧ (∀ a15 : Int32, a15 = (qI S10 43 ((((qI S10 0 97) - (1 : Int32)).toInt).toNat)) → (∃ n, w_throwError_L40 Q (w_throwError_L0 Q n0) n S10 v0_1 a15 0))))))))
def w_throwError (S : MS) (x1 : Int32) (Q : MS → Prop) : Prop := (∃ n, w_throwError_L0 Q n S x1)
set_option maxHeartbeats 2000000 in
set_option maxRecDepth 100000 in
theorem r_throwError (l : Launch) (g : Gr) (ad : Nat → Nat) (sz : Nat) (S : MS) (x1 : Int32) (hw : wfM S) (Q : MS → Prop) (h : w_throwError S x1 Q) : Met l yX14_throwError (wt2 yX14_throwError cX14_throwError 4 none) ({ frames := 2, cells := 0, slots := 0, locals := 48 }) (va_Pc [.ref (ad 0), .int x1] (st_R g ad sz S)) (va_Qv (fun (u : MS) => Q u ∧ wfM u ∧ shy S u) (fun (u : MS) (t : State) => qE g ad (va_A (Wd g ad S) sz) u t) (va_A (Wd g ad S) sz)) 0 0 (va_A (Wd g ad S) sz) := by
  refine Met.ofW (cc := cX14_throwError) (maxL := 4) (ret := none) (by decide) rfl ?_
  intro p e s m args below meth c s₁ B hml hv
  obtain ⟨rfl, hsz, hP, hK, hD0, hex, hE⟩ := hv
  have hx := B.exec
  have hb := B.bytes
  have hr := B.returns
  have hts0 := atoms_spec (ws := wt2 yX14_throwError cX14_throwError 4 none) B.pre
  have hts : ∀ w ∈ tb2, w.before _ s = true := fun w h => hts0 w (List.mem_cons_of_mem _ h)
  have hown : s.vm.findClass RX14 = some m.cls := findClass_of_methodNamed B.named
  subst hsz
  have hD := hD0.self (sz := s.heap.size)
  generalize hAe : va_A (Wd g ad S) s.heap.size = A at hD hE ⊢
  have hA : ∀ q : Nat, s.heap.size ≤ q → A q := fun q h => by rw [← hAe]; exact Or.inr h
  have hR : Rep g ad A s S s.heap [] := ⟨hK, hP, hD, va_S.rf, hw⟩
  clear hK hP hD hD0
  have hl := lv_entry ([.ref (ad 0), .int x1]) (n := 4) (Nat.le_of_ble_eq_true rfl)
  rw [lg_entry_eq]
  generalize (lg_sl ([.ref (ad 0), .int x1]) ++ List.replicate (4 - (lg_sl ([.ref (ad 0), .int x1])).length) Slot.unset).toArray = ls at hl ⊢
  have hl : lv_has ls 4 [(0, .ref (ad 0)), (1, .int x1)] := hl
  have hsh : shy S S := shy.rf
  unfold w_throwError at h
  have J_0 : ∀ (n0 : Nat) (U0 : MS) (v0_1 : Int32) (H : Heap) (locs : List Loc) (ls : Array Slot), w_throwError_L0 Q n0 U0 v0_1 → shy S U0 → Rep g ad A s U0 H locs → lv_has ls 4 [(0, .ref (ad 0)), (1, .int v0_1)] → W p l e (headSpec (wt2 yX14_throwError cX14_throwError 4 none) ({ frames := 2, cells := 0, slots := 0, locals := 48 })).room s m ([.ref (ad 0), .int x1] : List Value).toArray below meth c H locs 0 0 (MQ below (va_Qv (fun (u : MS) => Q u ∧ wfM u ∧ shy S u) (fun (u : MS) (t : State) => qE g ad A u t) A) ([.ref (ad 0), .int x1] : List Value).toArray s 0 0 A) (F0 m 0 ls []) := by
    intro n0
    induction n0 with
    | zero => intro U0 v0_1 H locs ls h hsh hR hl; unfold w_throwError_L0 at h; exact h.elim
    | succ n0 ih_0 =>
      intro U0 v0_1 H locs ls h hsh hR hl
      unfold w_throwError_L0 at h
      refine lv_aload_n hx hb dX14_throwError_0 rfl (lv_at hl 0 rfl) ?_
      refine va_get (D := rD g) (ci := 13) (v := .int (qI U0 0 97)) (C := RX14) (T := TX14) (N := 143) hx hb hts in2X14 hown hR.K hR.P 0 (hR.at14 hR.w.1) rfl 97 (by decide) (hts _ kx_616) (fun _ h9 => h9) rfl dX14_throwError_1 ?_
      refine lv_if_le (tgt := 130) hx hb dX14_throwError_4 (by decide) (fun c1 => ?_) (fun c1 => ?_)
      · replace h := h.1 (k_le rfl (by decide) c1)
        refine lv_aload_n hx hb dX14_throwError_130 rfl (lv_at hl 0 rfl) ?_
        refine lv_iconst (v := 1) hx hb dX14_throwError_131 (by decide) ?_
        refine va_put (D := rD g) (ci := 13) (v := .int 1) (ty := .int) (C := RX14) (T := TX14) (N := 143) hx hb hts in2X14 tyX14 tyX14_ok nmX14 hown hR.K hR.P hR.D hR.sS 0 (hR.at14 hR.w.1) rfl 98 (by decide) (hts _ kx_617) (fun _ h9 => h9) rfl (by decide +kernel) rfl rfl (Nat.le_of_ble_eq_true rfl) dX14_throwError_132 (fun H locs hP hD hS => ?_)
        have hR : Rep g ad A s (wI U0 0 98 1) H locs := hR.pI hR.w.1 F14_s98 hP hD hS
        obtain ⟨S2, eS2⟩ : ∃ z, z = wI U0 0 98 1 := ⟨_, rfl⟩
        rw [← eS2] at hR
        replace h := h S2 eS2
        have hsh : shy S S2 := by rw [eS2]; exact hsh
        refine lv_aload_n hx hb dX14_throwError_135 rfl (lv_at hl 0 rfl) ?_
        refine lv_iload_n hx hb dX14_throwError_136 rfl (lv_at hl 1 rfl) ?_
        refine va_put (D := rD g) (ci := 13) (v := .int v0_1) (ty := .int) (C := RX14) (T := TX14) (N := 143) hx hb hts in2X14 tyX14 tyX14_ok nmX14 hown hR.K hR.P hR.D hR.sS 0 (hR.at14 hR.w.1) rfl 102 (by decide) (hts _ kx_618) (fun _ h9 => h9) rfl (by decide +kernel) rfl rfl (Nat.le_of_ble_eq_true rfl) dX14_throwError_137 (fun H locs hP hD hS => ?_)
        have hR : Rep g ad A s (wI S2 0 102 v0_1) H locs := hR.pI hR.w.1 F14_s102 hP hD hS
        obtain ⟨S3, eS3⟩ : ∃ z, z = wI S2 0 102 v0_1 := ⟨_, rfl⟩
        rw [← eS3] at hR
        replace h := h S3 eS3
        have hsh : shy S S3 := by rw [eS3]; exact hsh
        exact W.vret hx hb hr (fun t9 ht9 hW9 => ⟨⟨S3, rfl, ⟨h, hR.w, hsh⟩, ⟨by rw [ht9]; exact hR.P, hR.D⟩⟩, hR.sS.F ht9⟩) hR.sS.2.2 dX14_throwError_140
      · replace h := h.2 (k_nle rfl (by decide) c1)
        refine lv_aload_n hx hb dX14_throwError_7 rfl (lv_at hl 0 rfl) ?_
        refine lv_aload_n hx hb dX14_throwError_8 rfl (lv_at hl 0 rfl) ?_
        obtain ⟨hv4, h⟩ := h
        have hT_b5 : qT U0 (qO U0 0 80) = 11 := hR.w.ref hv4 hR.w.1
        refine va_get (D := rD g) (ci := 13) (v := .ref (ad (qO U0 0 80))) (C := RX14) (T := TX14) (N := 143) hx hb hts in2X14 hown hR.K hR.P 0 (hR.at14 hR.w.1) rfl 80 (by decide) (hts _ kx_608) (fun _ h9 => h9) (congrArg (fun z => some (vf ad z)) hv4) dX14_throwError_9 ?_
        refine lv_aload_n hx hb dX14_throwError_12 rfl (lv_at hl 0 rfl) ?_
        refine va_get (D := rD g) (ci := 13) (v := .ref (ad 42)) (C := RX14) (T := TX14) (N := 143) hx hb hts in2X14 hown hR.K hR.P 0 (hR.at14 hR.w.1) rfl 89 (by decide) (hts _ kx_621) (fun _ h9 => h9) (congrArg (fun z => some (vf ad z)) (hR.w.2.1 _ fin_89).1) dX14_throwError_13 ?_
        refine lv_aload_n hx hb dX14_throwError_16 rfl (lv_at hl 0 rfl) ?_
        refine va_get (D := rD g) (ci := 13) (v := .int (qI U0 0 97)) (C := RX14) (T := TX14) (N := 143) hx hb hts in2X14 hown hR.K hR.P 0 (hR.at14 hR.w.1) rfl 97 (by decide) (hts _ kx_616) (fun _ h9 => h9) rfl dX14_throwError_17 ?_
        refine lv_iconst (v := 1) hx hb dX14_throwError_20 (by decide) ?_
        refine lv_isub hx hb dX14_throwError_21 ?_
        refine lv_topi (fun z6 ez6 => ?_)
        obtain rfl : z6 = ((qI U0 0 97) - (1 : Int32)) := ez6
        obtain ⟨hv7, h⟩ := h
        refine va_iald hx hb hR.K hR.P 42 1 (hR.atI (hR.w.2.1 _ fin_89).2.1) rfl (k_ixN (k_ix (n := 60) (x := ((qI U0 0 97) - (1 : Int32))) (a := ((qI U0 0 97) - (1 : Int32)).toInt) rfl hv7) (hR.w.2.1 _ fin_89).2.2) dX14_throwError_22 ?_
        refine lv_topi (fun z8 ez8 => ?_)
        obtain rfl : z8 = (qI U0 42 ((((qI U0 0 97) - (1 : Int32)).toInt).toNat)) := ez8
        obtain ⟨Q9, h0, h⟩ := h
        have hFc := rfree hR hA
        refine va_callv (va_runV (As := [.ref (ad (qO U0 0 80)), .int (qI U0 42 ((((qI U0 0 97) - (1 : Int32)).toInt).toNat))]) (rest := []) ⟨hx, hb, hml, hown, hts⟩ (r_look l g ad H.size U0 (qO U0 0 80) (qI U0 42 ((((qI U0 0 97) - (1 : Int32)).toInt).toNat)) hR.w hT_b5 Q9 h0) (cwV 2 hts (gd2_V kx_498 kx_499 kx_500 kx_177 kx_501) rfl rfl rfl (by decide +kernel) ⟨Nat.le_of_ble_eq_true rfl, Nat.le_of_ble_eq_true rfl⟩) ⟨rblind, va_recv hR.K hR.P (ci := 13) (q0 := 0) rfl (hR.at14 hR.w.1), fun U hU hW9 => rmk hU hW9 hR hex hE hFc⟩ rfl rfl hl.1 rfl (lv_room (Nat.le_of_ble_eq_true rfl)) dX14_throwError_23 ⟨Nat.le_of_ble_eq_true rfl, Nat.le_of_ble_eq_true rfl⟩) hR.sS (fun q _ h => hFc q h) hFc (fun  S10 t9 H1 locs ht9 hvm9 hw9 hB9 hz9 hk9 hS => ?_)
        obtain ⟨hq11, hw9, hs9⟩ := hw9
        have hR : Rep g ad A s S10 H1 locs := hR.call ht9 hB9 hw9 hS hFc
        have hsh := hsh.tr hs9
        replace h := h  S10 hq11
        clear hB9 hz9 hk9 hvm9 ht9 hw9 hs9 hS
        generalize H1 = H at hR ⊢
        refine lv_aload_n hx hb dX14_throwError_26 rfl (lv_at hl 0 rfl) ?_
        refine va_get (D := rD g) (ci := 13) (v := .ref (ad 43)) (C := RX14) (T := TX14) (N := 143) hx hb hts in2X14 hown hR.K hR.P 0 (hR.at14 hR.w.1) rfl 90 (by decide) (hts _ kx_622) (fun _ h9 => h9) (congrArg (fun z => some (vf ad z)) (hR.w.2.1 _ fin_90).1) dX14_throwError_27 ?_
        refine lv_aload_n hx hb dX14_throwError_30 rfl (lv_at hl 0 rfl) ?_
        refine va_get (D := rD g) (ci := 13) (v := .int (qI S10 0 97)) (C := RX14) (T := TX14) (N := 143) hx hb hts in2X14 hown hR.K hR.P 0 (hR.at14 hR.w.1) rfl 97 (by decide) (hts _ kx_616) (fun _ h9 => h9) rfl dX14_throwError_31 ?_
        refine lv_iconst (v := 1) hx hb dX14_throwError_34 (by decide) ?_
        refine lv_isub hx hb dX14_throwError_35 ?_
        refine lv_topi (fun z12 ez12 => ?_)
        obtain rfl : z12 = ((qI S10 0 97) - (1 : Int32)) := ez12
        obtain ⟨hv13, h⟩ := h
        refine va_iald hx hb hR.K hR.P 43 1 (hR.atI (hR.w.2.1 _ fin_90).2.1) rfl (k_ixN (k_ix (n := 60) (x := ((qI S10 0 97) - (1 : Int32))) (a := ((qI S10 0 97) - (1 : Int32)).toInt) rfl hv13) (hR.w.2.1 _ fin_90).2.2) dX14_throwError_36 ?_
        refine lv_topi (fun z14 ez14 => ?_)
        obtain rfl : z14 = (qI S10 43 ((((qI S10 0 97) - (1 : Int32)).toInt).toNat)) := ez14
        obtain ⟨a15, ea15⟩ : ∃ z, z = (qI S10 43 ((((qI S10 0 97) - (1 : Int32)).toInt).toNat)) := ⟨_, rfl⟩
        rw [← ea15]
        replace h := h a15 ea15
        refine lv_istore_n (lv' := [(2, .int a15), (0, .ref (ad 0)), (1, .int v0_1)]) hx hb dX14_throwError_37 rfl hl (by decide) rfl (fun ls hl => ?_)
        refine lv_iconst (v := 0) hx hb dX14_throwError_38 (by decide) ?_
        refine lv_istore_n (lv' := [(3, .int 0), (2, .int a15), (0, .ref (ad 0)), (1, .int v0_1)]) hx hb dX14_throwError_39 rfl hl (by decide) rfl (fun ls hl => ?_)
        have J_40 : ∀ (n40 : Nat) (U40 : MS) (v40_1 : Int32) (v40_2 : Int32) (v40_3 : Int32) (H : Heap) (locs : List Loc) (ls : Array Slot), w_throwError_L40 Q (w_throwError_L0 Q n0) n40 U40 v40_1 v40_2 v40_3 → shy S U40 → Rep g ad A s U40 H locs → lv_has ls 4 [(0, .ref (ad 0)), (1, .int v40_1), (2, .int v40_2), (3, .int v40_3)] → W p l e (headSpec (wt2 yX14_throwError cX14_throwError 4 none) ({ frames := 2, cells := 0, slots := 0, locals := 48 })).room s m ([.ref (ad 0), .int x1] : List Value).toArray below meth c H locs 0 0 (MQ below (va_Qv (fun (u : MS) => Q u ∧ wfM u ∧ shy S u) (fun (u : MS) (t : State) => qE g ad A u t) A) ([.ref (ad 0), .int x1] : List Value).toArray s 0 0 A) (F0 m 40 ls []) := by
          intro n40
          induction n40 with
          | zero => intro U40 v40_1 v40_2 v40_3 H locs ls h hsh hR hl; unfold w_throwError_L40 at h; exact h.elim
          | succ n40 ih_40 =>
            intro U40 v40_1 v40_2 v40_3 H locs ls h hsh hR hl
            unfold w_throwError_L40 at h
            refine lv_iload_n hx hb dX14_throwError_40 rfl (lv_at hl 3 rfl) ?_
            refine lv_aload_n hx hb dX14_throwError_41 rfl (lv_at hl 0 rfl) ?_
            refine va_get (D := rD g) (ci := 13) (v := .int (qI U40 0 54)) (C := RX14) (T := TX14) (N := 143) hx hb hts in2X14 hown hR.K hR.P 0 (hR.at14 hR.w.1) rfl 54 (by decide) (hts _ kx_374) (fun _ h9 => h9) rfl dX14_throwError_42 ?_
            refine lv_icmp_ge (tgt := 117) hx hb dX14_throwError_45 (by decide) (fun c16 => ?_) (fun c16 => ?_)
            · replace h := h.1 (k_le rfl rfl c16)
              refine lv_aload_n hx hb dX14_throwError_117 rfl (lv_at hl 0 rfl) ?_
              refine lv_dup hx hb dX14_throwError_118 rfl ?_
              refine va_get (D := rD g) (ci := 13) (v := .int (qI U40 0 97)) (C := RX14) (T := TX14) (N := 143) hx hb hts in2X14 hown hR.K hR.P 0 (hR.at14 hR.w.1) rfl 97 (by decide) (hts _ kx_616) (fun _ h9 => h9) rfl dX14_throwError_119 ?_
              refine lv_iconst (v := 1) hx hb dX14_throwError_122 (by decide) ?_
              refine lv_isub hx hb dX14_throwError_123 ?_
              refine lv_topi (fun z17 ez17 => ?_)
              obtain rfl : z17 = ((qI U40 0 97) - (1 : Int32)) := ez17
              refine va_put (D := rD g) (ci := 13) (v := .int ((qI U40 0 97) - (1 : Int32))) (ty := .int) (C := RX14) (T := TX14) (N := 143) hx hb hts in2X14 tyX14 tyX14_ok nmX14 hown hR.K hR.P hR.D hR.sS 0 (hR.at14 hR.w.1) rfl 97 (by decide) (hts _ kx_616) (fun _ h9 => h9) rfl (by decide +kernel) rfl rfl (Nat.le_of_ble_eq_true rfl) dX14_throwError_124 (fun H locs hP hD hS => ?_)
              have hR : Rep g ad A s (wI U40 0 97 ((qI U40 0 97) - (1 : Int32))) H locs := hR.pI hR.w.1 F14_s97 hP hD hS
              obtain ⟨S18, eS18⟩ : ∃ z, z = wI U40 0 97 ((qI U40 0 97) - (1 : Int32)) := ⟨_, rfl⟩
              rw [← eS18] at hR
              replace h := h S18 eS18
              have hsh : shy S S18 := by rw [eS18]; exact hsh
              refine lv_goto (tgt := 0) hx hb dX14_throwError_127 (by decide) ?_
              exact ih_0 S18 v40_1 _ _ ls h  hsh hR (lv_sub hl [0, 1] rfl)
            · replace h := h.2 (k_nle rfl rfl c16)
              refine lv_aload_n hx hb dX14_throwError_48 rfl (lv_at hl 0 rfl) ?_
              refine lv_iload_n hx hb dX14_throwError_49 rfl (lv_at hl 2 rfl) ?_
              refine lv_iload_n hx hb dX14_throwError_50 rfl (lv_at hl 3 rfl) ?_
              obtain ⟨hv19, h⟩ := h
              have hFc := rfree hR hA
              refine va_calli (va_runV (As := [.int v40_2, .int v40_3]) (rest := []) ⟨hx, hb, hml, hown, hts⟩ (r_isCaught l g ad H.size U40 v40_2 v40_3 hR.w  hv19) (cwV 2 hts (gd2_V kx_419 kx_420 kx_421 kx_177 kx_422) rfl rfl rfl (by decide +kernel) ⟨Nat.le_of_ble_eq_true rfl, Nat.le_of_ble_eq_true rfl⟩) ⟨rblind, va_recv hR.K hR.P (ci := 13) (q0 := 0) rfl (hR.at14 hR.w.1), fun U hU hW9 => rmk hU hW9 hR hex hE hFc⟩ rfl rfl hl.1 rfl (lv_room (Nat.le_of_ble_eq_true rfl)) dX14_throwError_51 ⟨Nat.le_of_ble_eq_true rfl, Nat.le_of_ble_eq_true rfl⟩) hR.sS (fun q _ h => hFc q h) hFc (fun r20 u9 t9 H1 locs ht9 hvm9 hw9 hB9 hz9 hk9 hS => ?_)
              have hR : Rep g ad A s U40 H1 locs := hR.call ht9 hB9 hR.w hS hFc
              obtain ⟨rfl, hz_r20⟩ := hw9
              clear hB9 hz9 hk9 hvm9 ht9 hS
              generalize H1 = H at hR ⊢
              have J_111 : ∀ (U111 : MS) (v111_1 : Int32) (v111_2 : Int32) (v111_3 : Int32) (H : Heap) (locs : List Loc) (ls : Array Slot), w_throwError_J111 Q (w_throwError_L40 Q (w_throwError_L0 Q n0) n40) U111 v111_1 v111_2 v111_3 → shy S U111 → Rep g ad A s U111 H locs → lv_has ls 4 [(0, .ref (ad 0)), (1, .int v111_1), (2, .int v111_2), (3, .int v111_3)] → W p l e (headSpec (wt2 yX14_throwError cX14_throwError 4 none) ({ frames := 2, cells := 0, slots := 0, locals := 48 })).room s m ([.ref (ad 0), .int x1] : List Value).toArray below meth c H locs 0 0 (MQ below (va_Qv (fun (u : MS) => Q u ∧ wfM u ∧ shy S u) (fun (u : MS) (t : State) => qE g ad A u t) A) ([.ref (ad 0), .int x1] : List Value).toArray s 0 0 A) (F0 m 111 ls []) := by
                intro U111 v111_1 v111_2 v111_3 H locs ls h hsh hR hl
                unfold w_throwError_J111 at h
                obtain ⟨a22, ea22⟩ : ∃ z, z = (v111_3 + Int32.ofInt 1) := ⟨_, rfl⟩
                replace h := h a22 ea22
                refine lv_iinc (v := a22) (lv' := [(3, .int a22), (0, .ref (ad 0)), (1, .int v111_1), (2, .int v111_2)]) hx hb dX14_throwError_111 hl (k := 3) rfl ea22.symm (by decide) rfl (fun ls hl => ?_)
                refine lv_goto (tgt := 40) hx hb dX14_throwError_114 (by decide) ?_
                exact ih_40 U111 v111_1 v111_2 a22 _ _ ls h  hsh hR (lv_sub hl [1, 2, 3, 0] rfl)
              refine lv_if_eq (tgt := 111) hx hb dX14_throwError_54 (by decide) (fun c23 => ?_) (fun c23 => ?_)
              · replace h := h.1 (k_eq rfl (by decide) c23)
                exact J_111 U40 v40_1 v40_2 v40_3 _ _ ls h  hsh hR (lv_sub hl [0, 1, 2, 3] rfl)
              · replace h := h.2 (k_ne rfl (by decide) c23)
                refine lv_aload_n hx hb dX14_throwError_57 rfl (lv_at hl 0 rfl) ?_
                refine lv_iload_n hx hb dX14_throwError_58 rfl (lv_at hl 3 rfl) ?_
                refine lv_iconst (v := 3) hx hb dX14_throwError_59 (by decide) ?_
                obtain ⟨hv24, h⟩ := h
                have hFc := rfree hR hA
                refine va_calli (va_runV (As := [.int v40_3, .int 3]) (rest := []) ⟨hx, hb, hml, hown, hts⟩ (r_catchWord l g ad H.size U40 v40_3 (3 : Int32) hR.w  hv24) (cwV 2 hts (gd2_V kx_375 kx_376 kx_377 kx_177 kx_378) rfl rfl rfl (by decide +kernel) ⟨Nat.le_of_ble_eq_true rfl, Nat.le_of_ble_eq_true rfl⟩) ⟨rblind, va_recv hR.K hR.P (ci := 13) (q0 := 0) rfl (hR.at14 hR.w.1), fun U hU hW9 => rmk hU hW9 hR hex hE hFc⟩ rfl rfl hl.1 rfl (lv_room (Nat.le_of_ble_eq_true rfl)) dX14_throwError_60 ⟨Nat.le_of_ble_eq_true rfl, Nat.le_of_ble_eq_true rfl⟩) hR.sS (fun q _ h => hFc q h) hFc (fun r25 u9 t9 H1 locs ht9 hvm9 hw9 hB9 hz9 hk9 hS => ?_)
                have hR : Rep g ad A s U40 H1 locs := hR.call ht9 hB9 hR.w hS hFc
                obtain rfl : r25 = (f_catchWord U40 v40_3 (3 : Int32)) := hw9
                clear hB9 hz9 hk9 hvm9 ht9 hS
                generalize H1 = H at hR ⊢
                have J_79 : ∀ (U79 : MS) (v79_1 : Int32) (v79_3 : Int32) (H : Heap) (locs : List Loc) (ls : Array Slot), w_throwError_J79 Q U79 v79_1 v79_3 → shy S U79 → Rep g ad A s U79 H locs → lv_has ls 4 [(0, .ref (ad 0)), (1, .int v79_1), (3, .int v79_3)] → W p l e (headSpec (wt2 yX14_throwError cX14_throwError 4 none) ({ frames := 2, cells := 0, slots := 0, locals := 48 })).room s m ([.ref (ad 0), .int x1] : List Value).toArray below meth c H locs 0 0 (MQ below (va_Qv (fun (u : MS) => Q u ∧ wfM u ∧ shy S u) (fun (u : MS) (t : State) => qE g ad A u t) A) ([.ref (ad 0), .int x1] : List Value).toArray s 0 0 A) (F0 m 79 ls []) := by
                  intro U79 v79_1 v79_3 H locs ls h hsh hR hl
                  unfold w_throwError_J79 at h
                  refine lv_aload_n hx hb dX14_throwError_79 rfl (lv_at hl 0 rfl) ?_
                  refine va_get (D := rD g) (ci := 13) (v := .ref (ad 44)) (C := RX14) (T := TX14) (N := 143) hx hb hts in2X14 hown hR.K hR.P 0 (hR.at14 hR.w.1) rfl 91 (by decide) (hts _ kx_623) (fun _ h9 => h9) (congrArg (fun z => some (vf ad z)) (hR.w.2.1 _ fin_91).1) dX14_throwError_80 ?_
                  refine lv_aload_n hx hb dX14_throwError_83 rfl (lv_at hl 0 rfl) ?_
                  refine va_get (D := rD g) (ci := 13) (v := .int (qI U79 0 97)) (C := RX14) (T := TX14) (N := 143) hx hb hts in2X14 hown hR.K hR.P 0 (hR.at14 hR.w.1) rfl 97 (by decide) (hts _ kx_616) (fun _ h9 => h9) rfl dX14_throwError_84 ?_
                  refine lv_iconst (v := 1) hx hb dX14_throwError_87 (by decide) ?_
                  refine lv_isub hx hb dX14_throwError_88 ?_
                  refine lv_topi (fun z27 ez27 => ?_)
                  obtain rfl : z27 = ((qI U79 0 97) - (1 : Int32)) := ez27
                  refine lv_iconst (v := 0) hx hb dX14_throwError_89 (by decide) ?_
                  obtain ⟨hv28, h⟩ := h
                  refine va_iast hx hb hR.K hR.P hR.D hR.sS 44 1 (hR.atI (hR.w.2.1 _ fin_91).2.1) rfl (k_ixN (k_ix (n := 60) (x := ((qI U79 0 97) - (1 : Int32))) (a := ((qI U79 0 97) - (1 : Int32)).toInt) rfl hv28) (hR.w.2.1 _ fin_91).2.2) dX14_throwError_90 (fun H locs hP hD hS => ?_)
                  have hR : Rep g ad A s (wI U79 44 ((((qI U79 0 97) - (1 : Int32)).toInt).toNat) (0 : Int32)) H locs := hR.aI (hR.w.2.1 _ fin_91).2.1 hP hD hS
                  obtain ⟨S29, eS29⟩ : ∃ z, z = wI U79 44 ((((qI U79 0 97) - (1 : Int32)).toInt).toNat) (0 : Int32) := ⟨_, rfl⟩
                  rw [← eS29] at hR
                  replace h := h S29 eS29
                  have hsh : shy S S29 := by rw [eS29]; exact hsh
                  refine lv_aload_n hx hb dX14_throwError_91 rfl (lv_at hl 0 rfl) ?_
                  refine lv_iconst (v := (-1)) hx hb dX14_throwError_92 (by decide) ?_
                  refine lv_iload_n hx hb dX14_throwError_93 rfl (lv_at hl 1 rfl) ?_
                  refine lv_isub hx hb dX14_throwError_94 ?_
                  refine lv_topi (fun z30 ez30 => ?_)
                  obtain rfl : z30 = ((-1 : Int32) - v79_1) := ez30
                  refine lv_i2l (v := (((-1 : Int32) - v79_1).toInt64)) hx hb dX14_throwError_95 rfl ?_
                  refine lv_iconst (v := 1) hx hb dX14_throwError_96 (by decide) ?_
                  obtain ⟨Q31, h0, h⟩ := h
                  have hFc := rfree hR hA
                  refine va_callv (va_runV (As := [.long (((-1 : Int32) - v79_1).toInt64), .int 1]) (rest := []) ⟨hx, hb, hml, hown, hts⟩ (r_put l g ad H.size S29 (((-1 : Int32) - v79_1).toInt64) (1 : Int32) hR.w  Q31 h0) (cwV 2 hts (gd2_V kx_948 kx_949 kx_950 kx_177 kx_951) rfl rfl rfl (by decide +kernel) ⟨Nat.le_of_ble_eq_true rfl, Nat.le_of_ble_eq_true rfl⟩) ⟨rblind, va_recv hR.K hR.P (ci := 13) (q0 := 0) rfl (hR.at14 hR.w.1), fun U hU hW9 => rmk hU hW9 hR hex hE hFc⟩ rfl rfl hl.1 rfl (lv_room (Nat.le_of_ble_eq_true rfl)) dX14_throwError_97 ⟨Nat.le_of_ble_eq_true rfl, Nat.le_of_ble_eq_true rfl⟩) hR.sS (fun q _ h => hFc q h) hFc (fun  S32 t9 H1 locs ht9 hvm9 hw9 hB9 hz9 hk9 hS => ?_)
                  obtain ⟨hq33, hw9, hs9⟩ := hw9
                  have hR : Rep g ad A s S32 H1 locs := hR.call ht9 hB9 hw9 hS hFc
                  have hsh := hsh.tr hs9
                  replace h := h  S32 hq33
                  clear hB9 hz9 hk9 hvm9 ht9 hw9 hs9 hS
                  generalize H1 = H at hR ⊢
                  refine lv_aload_n hx hb dX14_throwError_100 rfl (lv_at hl 0 rfl) ?_
                  refine lv_aload_n hx hb dX14_throwError_101 rfl (lv_at hl 0 rfl) ?_
                  refine lv_iload_n hx hb dX14_throwError_102 rfl (lv_at hl 2 rfl) ?_
                  refine lv_iconst (v := 2) hx hb dX14_throwError_103 (by decide) ?_
                  obtain ⟨hv34, h⟩ := h
                  have hFc := rfree hR hA
                  refine va_calli (va_runV (As := [.int v79_3, .int 2]) (rest := [.ref (ad 0)]) ⟨hx, hb, hml, hown, hts⟩ (r_catchWord l g ad H.size S32 v79_3 (2 : Int32) hR.w  hv34) (cwV 2 hts (gd2_V kx_375 kx_376 kx_377 kx_177 kx_378) rfl rfl rfl (by decide +kernel) ⟨Nat.le_of_ble_eq_true rfl, Nat.le_of_ble_eq_true rfl⟩) ⟨rblind, va_recv hR.K hR.P (ci := 13) (q0 := 0) rfl (hR.at14 hR.w.1), fun U hU hW9 => rmk hU hW9 hR hex hE hFc⟩ rfl rfl hl.1 rfl (lv_room (Nat.le_of_ble_eq_true rfl)) dX14_throwError_104 ⟨Nat.le_of_ble_eq_true rfl, Nat.le_of_ble_eq_true rfl⟩) hR.sS (fun q _ h => hFc q h) hFc (fun r35 u9 t9 H1 locs ht9 hvm9 hw9 hB9 hz9 hk9 hS => ?_)
                  have hR : Rep g ad A s S32 H1 locs := hR.call ht9 hB9 hR.w hS hFc
                  obtain rfl : r35 = (f_catchWord S32 v79_3 (2 : Int32)) := hw9
                  clear hB9 hz9 hk9 hvm9 ht9 hS
                  generalize H1 = H at hR ⊢
                  obtain ⟨Q37, h0, h⟩ := h
                  have hFc := rfree hR hA
                  refine va_callv (va_runV (As := [.int (f_catchWord S32 v79_3 (2 : Int32))]) (rest := []) ⟨hx, hb, hml, hown, hts⟩ (r_goTo l g ad H.size S32 (f_catchWord S32 v79_3 (2 : Int32)) hR.w  Q37 h0) (cwV 1 hts (gd2_V kx_644 kx_645 kx_646 kx_177 kx_647) rfl rfl rfl (by decide +kernel) ⟨Nat.le_of_ble_eq_true rfl, Nat.le_of_ble_eq_true rfl⟩) ⟨rblind, va_recv hR.K hR.P (ci := 13) (q0 := 0) rfl (hR.at14 hR.w.1), fun U hU hW9 => rmk hU hW9 hR hex hE hFc⟩ rfl rfl hl.1 rfl (lv_room (Nat.le_of_ble_eq_true rfl)) dX14_throwError_107 ⟨Nat.le_of_ble_eq_true rfl, Nat.le_of_ble_eq_true rfl⟩) hR.sS (fun q _ h => hFc q h) hFc (fun  S38 t9 H1 locs ht9 hvm9 hw9 hB9 hz9 hk9 hS => ?_)
                  obtain ⟨hq39, hw9, hs9⟩ := hw9
                  have hR : Rep g ad A s S38 H1 locs := hR.call ht9 hB9 hw9 hS hFc
                  have hsh := hsh.tr hs9
                  replace h := h  S38 hq39
                  clear hB9 hz9 hk9 hvm9 ht9 hw9 hs9 hS
                  generalize H1 = H at hR ⊢
                  exact W.vret hx hb hr (fun t9 ht9 hW9 => ⟨⟨S38, rfl, ⟨h, hR.w, hsh⟩, ⟨by rw [ht9]; exact hR.P, hR.D⟩⟩, hR.sS.F ht9⟩) hR.sS.2.2 dX14_throwError_110
                refine lv_if_lt (tgt := 79) hx hb dX14_throwError_63 (by decide) (fun c40 => ?_) (fun c40 => ?_)
                · replace h := h.1 (k_lt rfl (by decide) c40)
                  exact J_79 U40 v40_1 v40_3 _ _ ls h  hsh hR (lv_sub hl [0, 1, 3] rfl)
                · replace h := h.2 (k_nlt rfl (by decide) c40)
                  refine lv_aload_n hx hb dX14_throwError_66 rfl (lv_at hl 0 rfl) ?_
                  refine lv_iload_n hx hb dX14_throwError_67 rfl (lv_at hl 3 rfl) ?_
                  refine lv_iconst (v := 3) hx hb dX14_throwError_68 (by decide) ?_
                  obtain ⟨hv41, h⟩ := h
                  have hFc := rfree hR hA
                  refine va_calli (va_runV (As := [.int v40_3, .int 3]) (rest := []) ⟨hx, hb, hml, hown, hts⟩ (r_catchWord l g ad H.size U40 v40_3 (3 : Int32) hR.w  hv41) (cwV 2 hts (gd2_V kx_375 kx_376 kx_377 kx_177 kx_378) rfl rfl rfl (by decide +kernel) ⟨Nat.le_of_ble_eq_true rfl, Nat.le_of_ble_eq_true rfl⟩) ⟨rblind, va_recv hR.K hR.P (ci := 13) (q0 := 0) rfl (hR.at14 hR.w.1), fun U hU hW9 => rmk hU hW9 hR hex hE hFc⟩ rfl rfl hl.1 rfl (lv_room (Nat.le_of_ble_eq_true rfl)) dX14_throwError_69 ⟨Nat.le_of_ble_eq_true rfl, Nat.le_of_ble_eq_true rfl⟩) hR.sS (fun q _ h => hFc q h) hFc (fun r42 u9 t9 H1 locs ht9 hvm9 hw9 hB9 hz9 hk9 hS => ?_)
                  have hR : Rep g ad A s U40 H1 locs := hR.call ht9 hB9 hR.w hS hFc
                  obtain rfl : r42 = (f_catchWord U40 v40_3 (3 : Int32)) := hw9
                  clear hB9 hz9 hk9 hvm9 ht9 hS
                  generalize H1 = H at hR ⊢
                  refine lv_iload_n hx hb dX14_throwError_72 rfl (lv_at hl 1 rfl) ?_
                  refine lv_icmp_eq (tgt := 79) hx hb dX14_throwError_73 (by decide) (fun c44 => ?_) (fun c44 => ?_)
                  · replace h := h.1 (k_eq rfl rfl c44)
                    exact J_79 U40 v40_1 v40_3 _ _ ls h  hsh hR (lv_sub hl [0, 1, 3] rfl)
                  · replace h := h.2 (k_ne rfl rfl c44)
                    refine lv_goto (tgt := 111) hx hb dX14_throwError_76 (by decide) ?_
                    exact J_111 U40 v40_1 v40_2 v40_3 _ _ ls h  hsh hR (lv_sub hl [0, 1, 2, 3] rfl)
        obtain ⟨n9, h⟩ := h
        exact J_40 n9 S10 v0_1 a15 0 _ _ ls h  hsh hR (lv_sub hl [2, 3, 1, 0] rfl)
  obtain ⟨n9, h⟩ := h
  exact J_0 n9 S x1 _ _ ls h  hsh hR (lv_sub hl [0, 1] rfl)
def w_watch_J244 (Q : MS → Prop) (U244 : MS) (v244_3 : Int32) : Prop := ((v244_3.toInt = 0 → (∀ S15, S15 = wI U244 0 96 ((qI U244 0 96) + (1 : Int32)) → Q S15)) ∧ (¬ v244_3.toInt = 0 → Q U244))
def w_watch_J235 (Q : MS → Prop) (k148 : MS → Int32 → Nat → Int32 → Int32 → Prop) (U235 : MS) (t235_0 : Int32) (t235_1 : Int32) (v235_3 : Int32) (v235_4 : Nat) (v235_6 : Int32) : Prop := (∀ a29 : Int32, a29 = (t235_1 + t235_0) → (∀ a30 : Int32, a30 = (v235_6 + Int32.ofInt (-1)) → k148 U235 v235_3 v235_4 a29 a30))
def w_watch_J215 (Q : MS → Prop) (k148 : MS → Int32 → Nat → Int32 → Int32 → Prop) (U215 : MS) (t215_0 : Int32) (v215_4 : Nat) (v215_5 : Int32) (v215_6 : Int32) : Prop := (((0 : Int) ≤ v215_6.toInt ∧ v215_6.toInt < (qN U215 (v215_4 + 1) : Int)) ∧ (((cAt U215 v215_4 v215_6).toInt = 74 → w_watch_J235 Q k148 U215 2 v215_5 t215_0 v215_4 v215_6) ∧ (¬ (cAt U215 v215_4 v215_6).toInt = 74 → w_watch_J235 Q k148 U215 1 v215_5 t215_0 v215_4 v215_6)))
def w_watch_J195 (Q : MS → Prop) (k148 : MS → Int32 → Nat → Int32 → Int32 → Prop) (U195 : MS) (v195_4 : Nat) (v195_5 : Int32) (v195_6 : Int32) : Prop := w_watch_J215 Q k148 U195 0 v195_4 v195_5 v195_6
def w_watch_L148 (Q : MS → Prop) : Nat → MS → Int32 → Nat → Int32 → Int32 → Prop
  | 0, _, _, _, _, _ => False
  | n148 + 1, U148, v148_3, v148_4, v148_5, v148_6 => ((v148_6.toInt < 0 → w_watch_J244 Q U148 v148_3) ∧ (¬ v148_6.toInt < 0 → ((v148_3.toInt = 0 → w_watch_J244 Q U148 v148_3) ∧ (¬ v148_3.toInt = 0 → (((0 : Int) ≤ v148_6.toInt ∧ v148_6.toInt < (qN U148 (v148_4 + 1) : Int)) ∧ (((cAt U148 v148_4 v148_6).toInt = 74 → (d_tagAt U148 v148_5 ∧ (((f_tagAt U148 v148_5).toInt = 3 → (d_tagAt U148 (v148_5 + (1 : Int32)) ∧ (((f_tagAt U148 (v148_5 + (1 : Int32))).toInt = 2 → w_watch_J215 Q (w_watch_L148 Q n148) U148 1 v148_4 v148_5 v148_6) ∧ (¬ (f_tagAt U148 (v148_5 + (1 : Int32))).toInt = 2 → w_watch_J195 Q (w_watch_L148 Q n148) U148 v148_4 v148_5 v148_6)))) ∧ (¬ (f_tagAt U148 v148_5).toInt = 3 → w_watch_J195 Q (w_watch_L148 Q n148) U148 v148_4 v148_5 v148_6)))) ∧ (¬ (cAt U148 v148_4 v148_6).toInt = 74 → (((0 : Int) ≤ v148_6.toInt ∧ v148_6.toInt < (qN U148 (v148_4 + 1) : Int)) ∧ (d_tagAt U148 v148_5 ∧ (d_isTaken U148 (cAt U148 v148_4 v148_6) (f_tagAt U148 v148_5) ∧ w_watch_J215 Q (w_watch_L148 Q n148) U148 (f_isTaken U148 (cAt U148 v148_4 v148_6) (f_tagAt U148 v148_5)) v148_4 v148_5 v148_6))))))))))
def w_watch_J129 (Q : MS → Prop) (U129 : MS) (v129_1 : Int32) (v129_3 : Int32) : Prop := (d_takesOf U129 v129_1 ∧ (∀ a21 : Int32, a21 = ((Int32.ofNat (qN U129 ((f_takesOf U129 v129_1) + 1))) - (1 : Int32)) → (∃ n, w_watch_L148 Q n U129 v129_3 (f_takesOf U129 v129_1) 1 a21)))
def w_watch_J101 (Q : MS → Prop) (U101 : MS) (v101_1 : Int32) (v101_3 : Int32) : Prop := ((v101_3.toInt = 0 → w_watch_J129 Q U101 v101_1 v101_3) ∧ (¬ v101_3.toInt = 0 → (d_op U101 v101_1 ∧ (d_moved U101 (f_op U101 v101_1) ∧ (((f_moved U101 (f_op U101 v101_1)).toInt ≤ 0 → w_watch_J129 Q U101 v101_1 v101_3) ∧ (¬ (f_moved U101 (f_op U101 v101_1)).toInt ≤ 0 → (d_op U101 v101_1 ∧ (d_isMovable U101 (f_op U101 v101_1) ∧ (∀ a64 : Int32, a64 = (f_isMovable U101 (f_op U101 v101_1)) → w_watch_J244 Q U101 a64)))))))))
def w_watch_L41 (Q : MS → Prop) : Nat → MS → Int32 → Int32 → Int32 → Int32 → Prop
  | 0, _, _, _, _, _ => False
  | n41 + 1, U41, v41_1, v41_2, v41_3, v41_4 => ((24 ≤ v41_4.toInt → w_watch_J101 Q U41 v41_1 v41_3) ∧ (¬ 24 ≤ v41_4.toInt → ((v41_3.toInt = 0 → w_watch_J101 Q U41 v41_1 v41_3) ∧ (¬ v41_3.toInt = 0 → ((qR U41 0 80 = some (qO U41 0 80)) ∧ ((qR U41 (qO U41 0 80) 22 = some (qO U41 (qO U41 0 80) 22)) ∧ (((0 : Int) ≤ ((v41_2 + (1 : Int32)) + (v41_4 / (8 : Int32))).toInt ∧ ((v41_2 + (1 : Int32)) + (v41_4 / (8 : Int32))).toInt < (qN U41 (qO U41 (qO U41 0 80) 22) : Int)) ∧ (d_slot U41 v41_4 ∧ (((0 : Int) ≤ (f_slot U41 v41_4).toInt ∧ (f_slot U41 v41_4).toInt < 1440) ∧ (d_agrees U41 (((qI U41 (qO U41 (qO U41 0 80) 22) ((((v41_2 + (1 : Int32)) + (v41_4 / (8 : Int32))).toInt).toNat)) >>> (((4 : Int32) * (v41_4 - v41_4 / (8 : Int32) * (8 : Int32))) &&& 31)) &&& (15 : Int32)) (qI U41 47 (((f_slot U41 v41_4).toInt).toNat)) ∧ (∀ a88 : Int32, a88 = (f_agrees U41 (((qI U41 (qO U41 (qO U41 0 80) 22) ((((v41_2 + (1 : Int32)) + (v41_4 / (8 : Int32))).toInt).toNat)) >>> (((4 : Int32) * (v41_4 - v41_4 / (8 : Int32) * (8 : Int32))) &&& 31)) &&& (15 : Int32)) (qI U41 47 (((f_slot U41 v41_4).toInt).toNat))) → (∀ a89 : Int32, a89 = (v41_4 + Int32.ofInt 1) → (w_watch_L41 Q n41) U41 v41_1 v41_2 a88 a89))))))))))))
def w_watch_J37 (Q : MS → Prop) (U37 : MS) (t37_0 : Int32) (v37_1 : Int32) (v37_2 : Int32) : Prop := (∃ n, w_watch_L41 Q n U37 v37_1 v37_2 t37_0 0)
def w_watch (S : MS) (x1 : Int32) (Q : MS → Prop) : Prop := (∀ a3 : Int32, a3 = ((4 : Int32) * ((qI S 0 51) + x1)) → ((qR S 0 80 = some (qO S 0 80)) ∧ ((qR S (qO S 0 80) 22 = some (qO S (qO S 0 80) 22)) ∧ (((0 : Int) ≤ a3.toInt ∧ a3.toInt < (qN S (qO S (qO S 0 80) 22) : Int)) ∧ (((0 : Int) ≤ ((qI S 0 97) - (1 : Int32)).toInt ∧ ((qI S 0 97) - (1 : Int32)).toInt < 60) ∧ (((qI S (qO S (qO S 0 80) 22) a3.toInt.toNat).toInt = (qI S 44 ((((qI S 0 97) - (1 : Int32)).toInt).toNat)).toInt → w_watch_J37 Q S 1 x1 a3) ∧ (¬ (qI S (qO S (qO S 0 80) 22) a3.toInt.toNat).toInt = (qI S 44 ((((qI S 0 97) - (1 : Int32)).toInt).toNat)).toInt → w_watch_J37 Q S 0 x1 a3)))))))
set_option maxHeartbeats 2000000 in
set_option maxRecDepth 100000 in
theorem r_watch (l : Launch) (g : Gr) (ad : Nat → Nat) (sz : Nat) (S : MS) (x1 : Int32) (hw : wfM S) (Q : MS → Prop) (h : w_watch S x1 Q) : Met l yX14_watch (wt2 yX14_watch cX14_watch 7 none) ({ frames := 4, cells := 0, slots := 0, locals := 85 }) (va_Pc [.ref (ad 0), .int x1] (st_R g ad sz S)) (va_Qv (fun (u : MS) => Q u ∧ wfM u ∧ shy S u) (fun (u : MS) (t : State) => qE g ad (va_A (Wd g ad S) sz) u t) (va_A (Wd g ad S) sz)) 0 0 (va_A (Wd g ad S) sz) := by
  refine Met.ofW (cc := cX14_watch) (maxL := 7) (ret := none) (by decide) rfl ?_
  intro p e s m args below meth c s₁ B hml hv
  obtain ⟨rfl, hsz, hP, hK, hD0, hex, hE⟩ := hv
  have hx := B.exec
  have hb := B.bytes
  have hr := B.returns
  have hts0 := atoms_spec (ws := wt2 yX14_watch cX14_watch 7 none) B.pre
  have hts : ∀ w ∈ tb2, w.before _ s = true := fun w h => hts0 w (List.mem_cons_of_mem _ h)
  have hown : s.vm.findClass RX14 = some m.cls := findClass_of_methodNamed B.named
  subst hsz
  have hD := hD0.self (sz := s.heap.size)
  generalize hAe : va_A (Wd g ad S) s.heap.size = A at hD hE ⊢
  have hA : ∀ q : Nat, s.heap.size ≤ q → A q := fun q h => by rw [← hAe]; exact Or.inr h
  have hR : Rep g ad A s S s.heap [] := ⟨hK, hP, hD, va_S.rf, hw⟩
  clear hK hP hD hD0
  have hl := lv_entry ([.ref (ad 0), .int x1]) (n := 7) (Nat.le_of_ble_eq_true rfl)
  rw [lg_entry_eq]
  generalize (lg_sl ([.ref (ad 0), .int x1]) ++ List.replicate (7 - (lg_sl ([.ref (ad 0), .int x1])).length) Slot.unset).toArray = ls at hl ⊢
  have hl : lv_has ls 7 [(0, .ref (ad 0)), (1, .int x1)] := hl
  have hsh : shy S S := shy.rf
  unfold w_watch at h
  refine lv_iconst (v := 4) hx hb dX14_watch_0 (by decide) ?_
  refine lv_aload_n hx hb dX14_watch_1 rfl (lv_at hl 0 rfl) ?_
  refine va_get (D := rD g) (ci := 13) (v := .int (qI S 0 51)) (C := RX14) (T := TX14) (N := 143) hx hb hts in2X14 hown hR.K hR.P 0 (hR.at14 hR.w.1) rfl 51 (by decide) (hts _ kx_369) (fun _ h9 => h9) rfl dX14_watch_2 ?_
  refine lv_iload_n hx hb dX14_watch_5 rfl (lv_at hl 1 rfl) ?_
  refine lv_iadd hx hb dX14_watch_6 ?_
  refine lv_topi (fun z1 ez1 => ?_)
  obtain rfl : z1 = ((qI S 0 51) + x1) := ez1
  refine lv_imul hx hb dX14_watch_7 ?_
  refine lv_topi (fun z2 ez2 => ?_)
  obtain rfl : z2 = ((4 : Int32) * ((qI S 0 51) + x1)) := ez2
  obtain ⟨a3, ea3⟩ : ∃ z, z = ((4 : Int32) * ((qI S 0 51) + x1)) := ⟨_, rfl⟩
  rw [← ea3]
  replace h := h a3 ea3
  refine lv_istore_n (lv' := [(2, .int a3), (0, .ref (ad 0)), (1, .int x1)]) hx hb dX14_watch_8 rfl hl (by decide) rfl (fun ls hl => ?_)
  refine lv_aload_n hx hb dX14_watch_9 rfl (lv_at hl 1 rfl) ?_
  obtain ⟨hv4, h⟩ := h
  have hT_b5 : qT S (qO S 0 80) = 11 := hR.w.ref hv4 hR.w.1
  refine va_get (D := rD g) (ci := 13) (v := .ref (ad (qO S 0 80))) (C := RX14) (T := TX14) (N := 143) hx hb hts in2X14 hown hR.K hR.P 0 (hR.at14 hR.w.1) rfl 80 (by decide) (hts _ kx_608) (fun _ h9 => h9) (congrArg (fun z => some (vf ad z)) hv4) dX14_watch_10 ?_
  obtain ⟨hv6, h⟩ := h
  have hT_b7 : qT S (qO S (qO S 0 80) 22) = 2 := hR.w.ref hv6 hT_b5
  refine va_get (D := rD g) (ci := 12) (v := .ref (ad (qO S (qO S 0 80) 22))) (C := RX13) (T := TX13) (N := 23) hx hb hts in2X13 hown hR.K hR.P (qO S 0 80) (hR.at13 hT_b5) rfl 22 (by decide) (hts _ kx_522) (fun _ h9 => h9) (congrArg (fun z => some (vf ad z)) hv6) dX14_watch_13 ?_
  refine lv_iload_n hx hb dX14_watch_16 rfl (lv_at hl 0 rfl) ?_
  obtain ⟨hv8, h⟩ := h
  refine va_iald hx hb hR.K hR.P (qO S (qO S 0 80) 22) 1 (hR.atI hT_b7) rfl (k_ix (x := a3) (a := a3.toInt) rfl hv8) dX14_watch_17 ?_
  refine lv_topi (fun z9 ez9 => ?_)
  obtain rfl : z9 = (qI S (qO S (qO S 0 80) 22) a3.toInt.toNat) := ez9
  refine lv_aload_n hx hb dX14_watch_18 rfl (lv_at hl 1 rfl) ?_
  refine va_get (D := rD g) (ci := 13) (v := .ref (ad 44)) (C := RX14) (T := TX14) (N := 143) hx hb hts in2X14 hown hR.K hR.P 0 (hR.at14 hR.w.1) rfl 91 (by decide) (hts _ kx_623) (fun _ h9 => h9) (congrArg (fun z => some (vf ad z)) (hR.w.2.1 _ fin_91).1) dX14_watch_19 ?_
  refine lv_aload_n hx hb dX14_watch_22 rfl (lv_at hl 1 rfl) ?_
  refine va_get (D := rD g) (ci := 13) (v := .int (qI S 0 97)) (C := RX14) (T := TX14) (N := 143) hx hb hts in2X14 hown hR.K hR.P 0 (hR.at14 hR.w.1) rfl 97 (by decide) (hts _ kx_616) (fun _ h9 => h9) rfl dX14_watch_23 ?_
  refine lv_iconst (v := 1) hx hb dX14_watch_26 (by decide) ?_
  refine lv_isub hx hb dX14_watch_27 ?_
  refine lv_topi (fun z10 ez10 => ?_)
  obtain rfl : z10 = ((qI S 0 97) - (1 : Int32)) := ez10
  obtain ⟨hv11, h⟩ := h
  refine va_iald hx hb hR.K hR.P 44 1 (hR.atI (hR.w.2.1 _ fin_91).2.1) rfl (k_ixN (k_ix (n := 60) (x := ((qI S 0 97) - (1 : Int32))) (a := ((qI S 0 97) - (1 : Int32)).toInt) rfl hv11) (hR.w.2.1 _ fin_91).2.2) dX14_watch_28 ?_
  refine lv_topi (fun z12 ez12 => ?_)
  obtain rfl : z12 = (qI S 44 ((((qI S 0 97) - (1 : Int32)).toInt).toNat)) := ez12
  have J_37 : ∀ (U37 : MS) (t37_0 : Int32) (v37_1 : Int32) (v37_2 : Int32) (H : Heap) (locs : List Loc) (ls : Array Slot), w_watch_J37 Q U37 t37_0 v37_1 v37_2 → (t37_0 = 0 ∨ t37_0 = 1) → shy S U37 → Rep g ad A s U37 H locs → lv_has ls 7 [(0, .ref (ad 0)), (1, .int v37_1), (2, .int v37_2)] → W p l e (headSpec (wt2 yX14_watch cX14_watch 7 none) ({ frames := 4, cells := 0, slots := 0, locals := 85 })).room s m ([.ref (ad 0), .int x1] : List Value).toArray below meth c H locs 0 0 (MQ below (va_Qv (fun (u : MS) => Q u ∧ wfM u ∧ shy S u) (fun (u : MS) (t : State) => qE g ad A u t) A) ([.ref (ad 0), .int x1] : List Value).toArray s 0 0 A) (F0 m 37 ls [.int t37_0]) := by
    intro U37 t37_0 v37_1 v37_2 H locs ls h hz_t37_0 hsh hR hl
    unfold w_watch_J37 at h
    refine lv_istore_n (lv' := [(3, .int t37_0), (0, .ref (ad 0)), (1, .int v37_1), (2, .int v37_2)]) hx hb dX14_watch_37 rfl hl (by decide) rfl (fun ls hl => ?_)
    refine lv_iconst (v := 0) hx hb dX14_watch_38 (by decide) ?_
    refine lv_istore (lv' := [(4, .int 0), (3, .int t37_0), (0, .ref (ad 0)), (1, .int v37_1), (2, .int v37_2)]) hx hb dX14_watch_39 hl (by decide) rfl (fun ls hl => ?_)
    have J_41 : ∀ (n41 : Nat) (U41 : MS) (v41_1 : Int32) (v41_2 : Int32) (v41_3 : Int32) (v41_4 : Int32) (H : Heap) (locs : List Loc) (ls : Array Slot), w_watch_L41 Q n41 U41 v41_1 v41_2 v41_3 v41_4 → (v41_3 = 0 ∨ v41_3 = 1) → shy S U41 → Rep g ad A s U41 H locs → lv_has ls 7 [(0, .ref (ad 0)), (1, .int v41_1), (2, .int v41_2), (3, .int v41_3), (4, .int v41_4)] → W p l e (headSpec (wt2 yX14_watch cX14_watch 7 none) ({ frames := 4, cells := 0, slots := 0, locals := 85 })).room s m ([.ref (ad 0), .int x1] : List Value).toArray below meth c H locs 0 0 (MQ below (va_Qv (fun (u : MS) => Q u ∧ wfM u ∧ shy S u) (fun (u : MS) (t : State) => qE g ad A u t) A) ([.ref (ad 0), .int x1] : List Value).toArray s 0 0 A) (F0 m 41 ls []) := by
      intro n41
      induction n41 with
      | zero => intro U41 v41_1 v41_2 v41_3 v41_4 H locs ls h hz_v41_3 hsh hR hl; unfold w_watch_L41 at h; exact h.elim
      | succ n41 ih_41 =>
        intro U41 v41_1 v41_2 v41_3 v41_4 H locs ls h hz_v41_3 hsh hR hl
        unfold w_watch_L41 at h
        refine lv_iload hx hb dX14_watch_41 (lv_at hl 4 rfl) ?_
        refine lv_bipush (v := 24) hx hb dX14_watch_43 (by decide) ?_
        have J_101 : ∀ (U101 : MS) (v101_1 : Int32) (v101_3 : Int32) (H : Heap) (locs : List Loc) (ls : Array Slot), w_watch_J101 Q U101 v101_1 v101_3 → (v101_3 = 0 ∨ v101_3 = 1) → shy S U101 → Rep g ad A s U101 H locs → lv_has ls 7 [(0, .ref (ad 0)), (1, .int v101_1), (3, .int v101_3)] → W p l e (headSpec (wt2 yX14_watch cX14_watch 7 none) ({ frames := 4, cells := 0, slots := 0, locals := 85 })).room s m ([.ref (ad 0), .int x1] : List Value).toArray below meth c H locs 0 0 (MQ below (va_Qv (fun (u : MS) => Q u ∧ wfM u ∧ shy S u) (fun (u : MS) (t : State) => qE g ad A u t) A) ([.ref (ad 0), .int x1] : List Value).toArray s 0 0 A) (F0 m 101 ls []) := by
          intro U101 v101_1 v101_3 H locs ls h hz_v101_3 hsh hR hl
          unfold w_watch_J101 at h
          refine lv_iload_n hx hb dX14_watch_101 rfl (lv_at hl 2 rfl) ?_
          have J_244 : ∀ (U244 : MS) (v244_3 : Int32) (H : Heap) (locs : List Loc) (ls : Array Slot), w_watch_J244 Q U244 v244_3 → (v244_3 = 0 ∨ v244_3 = 1) → shy S U244 → Rep g ad A s U244 H locs → lv_has ls 7 [(0, .ref (ad 0)), (3, .int v244_3)] → W p l e (headSpec (wt2 yX14_watch cX14_watch 7 none) ({ frames := 4, cells := 0, slots := 0, locals := 85 })).room s m ([.ref (ad 0), .int x1] : List Value).toArray below meth c H locs 0 0 (MQ below (va_Qv (fun (u : MS) => Q u ∧ wfM u ∧ shy S u) (fun (u : MS) (t : State) => qE g ad A u t) A) ([.ref (ad 0), .int x1] : List Value).toArray s 0 0 A) (F0 m 244 ls []) := by
            intro U244 v244_3 H locs ls h hz_v244_3 hsh hR hl
            unfold w_watch_J244 at h
            refine lv_iload_n hx hb dX14_watch_244 rfl (lv_at hl 1 rfl) ?_
            refine lv_if_ne (tgt := 258) hx hb dX14_watch_245 (by decide) (fun c13 => ?_) (fun c13 => ?_)
            · replace h := h.2 (k_ne rfl (by decide) c13)
              exact W.vret hx hb hr (fun t9 ht9 hW9 => ⟨⟨U244, rfl, ⟨h, hR.w, hsh⟩, ⟨by rw [ht9]; exact hR.P, hR.D⟩⟩, hR.sS.F ht9⟩) hR.sS.2.2 dX14_watch_258
            · replace h := h.1 (k_eq rfl (by decide) c13)
              refine lv_aload_n hx hb dX14_watch_248 rfl (lv_at hl 0 rfl) ?_
              refine lv_dup hx hb dX14_watch_249 rfl ?_
              refine va_get (D := rD g) (ci := 13) (v := .int (qI U244 0 96)) (C := RX14) (T := TX14) (N := 143) hx hb hts in2X14 hown hR.K hR.P 0 (hR.at14 hR.w.1) rfl 96 (by decide) (hts _ kx_639) (fun _ h9 => h9) rfl dX14_watch_250 ?_
              refine lv_iconst (v := 1) hx hb dX14_watch_253 (by decide) ?_
              refine lv_iadd hx hb dX14_watch_254 ?_
              refine lv_topi (fun z14 ez14 => ?_)
              obtain rfl : z14 = ((qI U244 0 96) + (1 : Int32)) := ez14
              refine va_put (D := rD g) (ci := 13) (v := .int ((qI U244 0 96) + (1 : Int32))) (ty := .int) (C := RX14) (T := TX14) (N := 143) hx hb hts in2X14 tyX14 tyX14_ok nmX14 hown hR.K hR.P hR.D hR.sS 0 (hR.at14 hR.w.1) rfl 96 (by decide) (hts _ kx_639) (fun _ h9 => h9) rfl (by decide +kernel) rfl rfl (Nat.le_of_ble_eq_true rfl) dX14_watch_255 (fun H locs hP hD hS => ?_)
              have hR : Rep g ad A s (wI U244 0 96 ((qI U244 0 96) + (1 : Int32))) H locs := hR.pI hR.w.1 F14_s96 hP hD hS
              obtain ⟨S15, eS15⟩ : ∃ z, z = wI U244 0 96 ((qI U244 0 96) + (1 : Int32)) := ⟨_, rfl⟩
              rw [← eS15] at hR
              replace h := h S15 eS15
              have hsh : shy S S15 := by rw [eS15]; exact hsh
              exact W.vret hx hb hr (fun t9 ht9 hW9 => ⟨⟨S15, rfl, ⟨h, hR.w, hsh⟩, ⟨by rw [ht9]; exact hR.P, hR.D⟩⟩, hR.sS.F ht9⟩) hR.sS.2.2 dX14_watch_258
          have J_129 : ∀ (U129 : MS) (v129_1 : Int32) (v129_3 : Int32) (H : Heap) (locs : List Loc) (ls : Array Slot), w_watch_J129 Q U129 v129_1 v129_3 → (v129_3 = 0 ∨ v129_3 = 1) → shy S U129 → Rep g ad A s U129 H locs → lv_has ls 7 [(0, .ref (ad 0)), (1, .int v129_1), (3, .int v129_3)] → W p l e (headSpec (wt2 yX14_watch cX14_watch 7 none) ({ frames := 4, cells := 0, slots := 0, locals := 85 })).room s m ([.ref (ad 0), .int x1] : List Value).toArray below meth c H locs 0 0 (MQ below (va_Qv (fun (u : MS) => Q u ∧ wfM u ∧ shy S u) (fun (u : MS) (t : State) => qE g ad A u t) A) ([.ref (ad 0), .int x1] : List Value).toArray s 0 0 A) (F0 m 129 ls []) := by
            intro U129 v129_1 v129_3 H locs ls h hz_v129_3 hsh hR hl
            unfold w_watch_J129 at h
            refine lv_aload_n hx hb dX14_watch_129 rfl (lv_at hl 0 rfl) ?_
            refine lv_iload_n hx hb dX14_watch_130 rfl (lv_at hl 1 rfl) ?_
            obtain ⟨hv16, h⟩ := h
            have hFc := rfree hR hA
            refine va_callq (va_runV (As := [.int v129_1]) (rest := []) ⟨hx, hb, hml, hown, hts⟩ (r_takesOf l g ad H.size U129 v129_1 hR.w  hv16) (cwV 1 hts (gd2_V kx_413 kx_414 kx_415 kx_177 kx_416) rfl rfl rfl (by decide +kernel) ⟨Nat.le_of_ble_eq_true rfl, Nat.le_of_ble_eq_true rfl⟩) ⟨rblind, va_recv hR.K hR.P (ci := 13) (q0 := 0) rfl (hR.at14 hR.w.1), fun U hU hW9 => rmk hU hW9 hR hex hE hFc⟩ rfl rfl hl.1 rfl (lv_room (Nat.le_of_ble_eq_true rfl)) dX14_watch_131 ⟨Nat.le_of_ble_eq_true rfl, Nat.le_of_ble_eq_true rfl⟩) hR.sS (fun q _ h => hFc q h) hFc (fun r17 u9 t9 H1 locs ht9 hvm9 hw9 hB9 hz9 hk9 hS => ?_)
            have hR : Rep g ad A s U129 H1 locs := hR.call ht9 hB9 hR.w hS hFc
            obtain ⟨rfl, hT_r17⟩ := hw9
            clear hB9 hz9 hk9 hvm9 ht9 hS
            generalize H1 = H at hR ⊢
            refine lv_astore (lv' := [(4, .ref (ad (f_takesOf U129 v129_1))), (0, .ref (ad 0)), (1, .int v129_1), (3, .int v129_3)]) hx hb dX14_watch_134 hl (by decide) rfl (fun ls hl => ?_)
            refine lv_iconst (v := 1) hx hb dX14_watch_136 (by decide) ?_
            refine lv_istore (lv' := [(5, .int 1), (4, .ref (ad (f_takesOf U129 v129_1))), (0, .ref (ad 0)), (1, .int v129_1), (3, .int v129_3)]) hx hb dX14_watch_137 hl (by decide) rfl (fun ls hl => ?_)
            refine lv_aload hx hb dX14_watch_139 (lv_at hl 1 rfl) ?_
            have hF : ∀ q, Ns H.size q → A q := fun q h => hA q (Nat.le_trans hR.sS.1 h)
            refine va_calli (va_runV (As := []) (rest := []) ⟨hx, hb, hml, hown, hts⟩ (s_length l H.size (ad (f_takesOf U129 v129_1)) (ad ((f_takesOf U129 v129_1) + 1)) (qN U129 ((f_takesOf U129 v129_1) + 1)) (qI U129 ((f_takesOf U129 v129_1) + 1))) (cwV 0 hts (gd2_V kx_248 kx_143 kx_144 kx_6 kx_145) rfl rfl rfl (by decide +kernel) ⟨Nat.le_of_ble_eq_true rfl, Nat.le_of_ble_eq_true rfl⟩) ⟨tblind (fun A u U H hv h => by exact tx1.moved hv h), (strR hts hR hE hA hT_r17), fun U hU hW9 => ⟨rfl, by rw [hU], str_at hts hR hE hA hT_r17 hU hW9, by rw [hU]; exact ((hE.1.kept hR.sS.2.1).narrow hF).moved hW9.alike⟩⟩ rfl rfl hl.1 rfl (lv_room (Nat.le_of_ble_eq_true rfl)) dX14_watch_141 ⟨Nat.le_of_ble_eq_true rfl, Nat.le_of_ble_eq_true rfl⟩) hR.sS (fun q _ h => hF q h) hF (fun r19 u9 t9 H1 locs ht9 hvm9 hw9 hB9 hz9 hk9 hS => ?_)
            obtain rfl : r19 = (Int32.ofNat (qN U129 ((f_takesOf U129 v129_1) + 1))) := hw9
            have hR : Rep g ad A s U129 H1 locs := hR.keep hk9 hS
            clear hz9 hk9 hvm9 ht9 hB9 hF hS
            generalize H1 = H at hR ⊢
            refine lv_iconst (v := 1) hx hb dX14_watch_144 (by decide) ?_
            refine lv_isub hx hb dX14_watch_145 ?_
            refine lv_topi (fun z20 ez20 => ?_)
            obtain rfl : z20 = ((Int32.ofNat (qN U129 ((f_takesOf U129 v129_1) + 1))) - (1 : Int32)) := ez20
            obtain ⟨a21, ea21⟩ : ∃ z, z = ((Int32.ofNat (qN U129 ((f_takesOf U129 v129_1) + 1))) - (1 : Int32)) := ⟨_, rfl⟩
            rw [← ea21]
            replace h := h a21 ea21
            refine lv_istore (lv' := [(6, .int a21), (5, .int 1), (4, .ref (ad (f_takesOf U129 v129_1))), (0, .ref (ad 0)), (1, .int v129_1), (3, .int v129_3)]) hx hb dX14_watch_146 hl (by decide) rfl (fun ls hl => ?_)
            have J_148 : ∀ (n148 : Nat) (U148 : MS) (v148_3 : Int32) (v148_4 : Nat) (v148_5 : Int32) (v148_6 : Int32) (H : Heap) (locs : List Loc) (ls : Array Slot), w_watch_L148 Q n148 U148 v148_3 v148_4 v148_5 v148_6 → qT U148 v148_4 = 12 → (v148_3 = 0 ∨ v148_3 = 1) → shy S U148 → Rep g ad A s U148 H locs → lv_has ls 7 [(0, .ref (ad 0)), (3, .int v148_3), (4, .ref (ad v148_4)), (5, .int v148_5), (6, .int v148_6)] → W p l e (headSpec (wt2 yX14_watch cX14_watch 7 none) ({ frames := 4, cells := 0, slots := 0, locals := 85 })).room s m ([.ref (ad 0), .int x1] : List Value).toArray below meth c H locs 0 0 (MQ below (va_Qv (fun (u : MS) => Q u ∧ wfM u ∧ shy S u) (fun (u : MS) (t : State) => qE g ad A u t) A) ([.ref (ad 0), .int x1] : List Value).toArray s 0 0 A) (F0 m 148 ls []) := by
              intro n148
              induction n148 with
              | zero => intro U148 v148_3 v148_4 v148_5 v148_6 H locs ls h hT_v148_4 hz_v148_3 hsh hR hl; unfold w_watch_L148 at h; exact h.elim
              | succ n148 ih_148 =>
                intro U148 v148_3 v148_4 v148_5 v148_6 H locs ls h hT_v148_4 hz_v148_3 hsh hR hl
                unfold w_watch_L148 at h
                refine lv_iload hx hb dX14_watch_148 (lv_at hl 4 rfl) ?_
                refine lv_if_lt (tgt := 244) hx hb dX14_watch_150 (by decide) (fun c22 => ?_) (fun c22 => ?_)
                · replace h := h.1 (k_lt rfl (by decide) c22)
                  exact J_244 U148 v148_3 _ _ ls h hz_v148_3 hsh hR (lv_sub hl [0, 1] rfl)
                · replace h := h.2 (k_nlt rfl (by decide) c22)
                  refine lv_iload_n hx hb dX14_watch_153 rfl (lv_at hl 1 rfl) ?_
                  refine lv_if_eq (tgt := 244) hx hb dX14_watch_154 (by decide) (fun c23 => ?_) (fun c23 => ?_)
                  · replace h := h.1 (k_eq rfl (by decide) c23)
                    exact J_244 U148 v148_3 _ _ ls h hz_v148_3 hsh hR (lv_sub hl [0, 1] rfl)
                  · replace h := h.2 (k_ne rfl (by decide) c23)
                    refine lv_aload hx hb dX14_watch_157 (lv_at hl 2 rfl) ?_
                    refine lv_iload hx hb dX14_watch_159 (lv_at hl 4 rfl) ?_
                    obtain ⟨hv24, h⟩ := h
                    have hF : ∀ q, Ns H.size q → A q := fun q h => hA q (Nat.le_trans hR.sS.1 h)
                    refine va_calli (va_runV (As := [.int v148_6]) (rest := []) ⟨hx, hb, hml, hown, hts⟩ (s_charAt l H.size (ad v148_4) (ad (v148_4 + 1)) (qN U148 (v148_4 + 1)) (qI U148 (v148_4 + 1)) v148_6 (hR.w.len hT_v148_4) hv24) (cwV 1 hts (gd2_V kx_249 kx_250 kx_251 kx_6 kx_252) rfl rfl rfl (by decide +kernel) ⟨Nat.le_of_ble_eq_true rfl, Nat.le_of_ble_eq_true rfl⟩) ⟨tblind (fun A u U H hv h => by exact tx1.moved hv h), (strR hts hR hE hA hT_v148_4), fun U hU hW9 => ⟨rfl, by rw [hU], str_at hts hR hE hA hT_v148_4 hU hW9, by rw [hU]; exact ((hE.1.kept hR.sS.2.1).narrow hF).moved hW9.alike⟩⟩ rfl rfl hl.1 rfl (lv_room (Nat.le_of_ble_eq_true rfl)) dX14_watch_161 ⟨Nat.le_of_ble_eq_true rfl, Nat.le_of_ble_eq_true rfl⟩) hR.sS (fun q _ h => hF q h) hF (fun r25 u9 t9 H1 locs ht9 hvm9 hw9 hB9 hz9 hk9 hS => ?_)
                    obtain rfl : r25 = (cAt U148 v148_4 v148_6) := hw9
                    have hR : Rep g ad A s U148 H1 locs := hR.keep hk9 hS
                    clear hz9 hk9 hvm9 ht9 hB9 hF hS
                    generalize H1 = H at hR ⊢
                    refine lv_bipush (v := 74) hx hb dX14_watch_164 (by decide) ?_
                    have J_215 : ∀ (U215 : MS) (t215_0 : Int32) (v215_4 : Nat) (v215_5 : Int32) (v215_6 : Int32) (H : Heap) (locs : List Loc) (ls : Array Slot), w_watch_J215 Q (w_watch_L148 Q n148) U215 t215_0 v215_4 v215_5 v215_6 → qT U215 v215_4 = 12 → (t215_0 = 0 ∨ t215_0 = 1) → shy S U215 → Rep g ad A s U215 H locs → lv_has ls 7 [(0, .ref (ad 0)), (4, .ref (ad v215_4)), (5, .int v215_5), (6, .int v215_6)] → W p l e (headSpec (wt2 yX14_watch cX14_watch 7 none) ({ frames := 4, cells := 0, slots := 0, locals := 85 })).room s m ([.ref (ad 0), .int x1] : List Value).toArray below meth c H locs 0 0 (MQ below (va_Qv (fun (u : MS) => Q u ∧ wfM u ∧ shy S u) (fun (u : MS) (t : State) => qE g ad A u t) A) ([.ref (ad 0), .int x1] : List Value).toArray s 0 0 A) (F0 m 215 ls [.int t215_0]) := by
                      intro U215 t215_0 v215_4 v215_5 v215_6 H locs ls h hT_v215_4 hz_t215_0 hsh hR hl
                      unfold w_watch_J215 at h
                      refine lv_istore_n (lv' := [(3, .int t215_0), (0, .ref (ad 0)), (4, .ref (ad v215_4)), (5, .int v215_5), (6, .int v215_6)]) hx hb dX14_watch_215 rfl hl (by decide) rfl (fun ls hl => ?_)
                      refine lv_iload hx hb dX14_watch_216 (lv_at hl 3 rfl) ?_
                      refine lv_aload hx hb dX14_watch_218 (lv_at hl 2 rfl) ?_
                      refine lv_iload hx hb dX14_watch_220 (lv_at hl 4 rfl) ?_
                      obtain ⟨hv26, h⟩ := h
                      have hF : ∀ q, Ns H.size q → A q := fun q h => hA q (Nat.le_trans hR.sS.1 h)
                      refine va_calli (va_runV (As := [.int v215_6]) (rest := [.int v215_5]) ⟨hx, hb, hml, hown, hts⟩ (s_charAt l H.size (ad v215_4) (ad (v215_4 + 1)) (qN U215 (v215_4 + 1)) (qI U215 (v215_4 + 1)) v215_6 (hR.w.len hT_v215_4) hv26) (cwV 1 hts (gd2_V kx_249 kx_250 kx_251 kx_6 kx_252) rfl rfl rfl (by decide +kernel) ⟨Nat.le_of_ble_eq_true rfl, Nat.le_of_ble_eq_true rfl⟩) ⟨tblind (fun A u U H hv h => by exact tx1.moved hv h), (strR hts hR hE hA hT_v215_4), fun U hU hW9 => ⟨rfl, by rw [hU], str_at hts hR hE hA hT_v215_4 hU hW9, by rw [hU]; exact ((hE.1.kept hR.sS.2.1).narrow hF).moved hW9.alike⟩⟩ rfl rfl hl.1 rfl (lv_room (Nat.le_of_ble_eq_true rfl)) dX14_watch_222 ⟨Nat.le_of_ble_eq_true rfl, Nat.le_of_ble_eq_true rfl⟩) hR.sS (fun q _ h => hF q h) hF (fun r27 u9 t9 H1 locs ht9 hvm9 hw9 hB9 hz9 hk9 hS => ?_)
                      obtain rfl : r27 = (cAt U215 v215_4 v215_6) := hw9
                      have hR : Rep g ad A s U215 H1 locs := hR.keep hk9 hS
                      clear hz9 hk9 hvm9 ht9 hB9 hF hS
                      generalize H1 = H at hR ⊢
                      refine lv_bipush (v := 74) hx hb dX14_watch_225 (by decide) ?_
                      have J_235 : ∀ (U235 : MS) (t235_0 : Int32) (t235_1 : Int32) (v235_3 : Int32) (v235_4 : Nat) (v235_6 : Int32) (H : Heap) (locs : List Loc) (ls : Array Slot), w_watch_J235 Q (w_watch_L148 Q n148) U235 t235_0 t235_1 v235_3 v235_4 v235_6 → qT U235 v235_4 = 12 → (v235_3 = 0 ∨ v235_3 = 1) → shy S U235 → Rep g ad A s U235 H locs → lv_has ls 7 [(0, .ref (ad 0)), (3, .int v235_3), (4, .ref (ad v235_4)), (6, .int v235_6)] → W p l e (headSpec (wt2 yX14_watch cX14_watch 7 none) ({ frames := 4, cells := 0, slots := 0, locals := 85 })).room s m ([.ref (ad 0), .int x1] : List Value).toArray below meth c H locs 0 0 (MQ below (va_Qv (fun (u : MS) => Q u ∧ wfM u ∧ shy S u) (fun (u : MS) (t : State) => qE g ad A u t) A) ([.ref (ad 0), .int x1] : List Value).toArray s 0 0 A) (F0 m 235 ls [.int t235_0, .int t235_1]) := by
                        intro U235 t235_0 t235_1 v235_3 v235_4 v235_6 H locs ls h hT_v235_4 hz_v235_3 hsh hR hl
                        unfold w_watch_J235 at h
                        refine lv_iadd hx hb dX14_watch_235 ?_
                        refine lv_topi (fun z28 ez28 => ?_)
                        obtain rfl : z28 = (t235_1 + t235_0) := ez28
                        obtain ⟨a29, ea29⟩ : ∃ z, z = (t235_1 + t235_0) := ⟨_, rfl⟩
                        rw [← ea29]
                        replace h := h a29 ea29
                        refine lv_istore (lv' := [(5, .int a29), (0, .ref (ad 0)), (3, .int v235_3), (4, .ref (ad v235_4)), (6, .int v235_6)]) hx hb dX14_watch_236 hl (by decide) rfl (fun ls hl => ?_)
                        obtain ⟨a30, ea30⟩ : ∃ z, z = (v235_6 + Int32.ofInt (-1)) := ⟨_, rfl⟩
                        replace h := h a30 ea30
                        refine lv_iinc (v := a30) (lv' := [(6, .int a30), (5, .int a29), (0, .ref (ad 0)), (3, .int v235_3), (4, .ref (ad v235_4))]) hx hb dX14_watch_238 hl (k := 4) rfl ea30.symm (by decide) rfl (fun ls hl => ?_)
                        refine lv_goto (tgt := 148) hx hb dX14_watch_241 (by decide) ?_
                        exact ih_148 U235 v235_3 v235_4 a29 a30 _ _ ls h hT_v235_4 hz_v235_3 hsh hR (lv_sub hl [2, 3, 4, 1, 0] rfl)
                      refine lv_icmp_ne (tgt := 234) hx hb dX14_watch_227 (by decide) (fun c31 => ?_) (fun c31 => ?_)
                      · replace h := h.2 (k_ne rfl (by decide) c31)
                        refine lv_iconst (v := 1) hx hb dX14_watch_234 (by decide) ?_
                        exact J_235 U215 1 v215_5 t215_0 v215_4 v215_6 _ _ ls h hT_v215_4 hz_t215_0 hsh hR (lv_sub hl [1, 0, 2, 4] rfl)
                      · replace h := h.1 (k_eq rfl (by decide) c31)
                        refine lv_iconst (v := 2) hx hb dX14_watch_230 (by decide) ?_
                        refine lv_goto (tgt := 235) hx hb dX14_watch_231 (by decide) ?_
                        exact J_235 U215 2 v215_5 t215_0 v215_4 v215_6 _ _ ls h hT_v215_4 hz_t215_0 hsh hR (lv_sub hl [1, 0, 2, 4] rfl)
                    refine lv_icmp_ne (tgt := 199) hx hb dX14_watch_166 (by decide) (fun c32 => ?_) (fun c32 => ?_)
                    · replace h := h.2 (k_ne rfl (by decide) c32)
                      refine lv_aload hx hb dX14_watch_199 (lv_at hl 2 rfl) ?_
                      refine lv_iload hx hb dX14_watch_201 (lv_at hl 4 rfl) ?_
                      obtain ⟨hv33, h⟩ := h
                      have hF : ∀ q, Ns H.size q → A q := fun q h => hA q (Nat.le_trans hR.sS.1 h)
                      refine va_calli (va_runV (As := [.int v148_6]) (rest := []) ⟨hx, hb, hml, hown, hts⟩ (s_charAt l H.size (ad v148_4) (ad (v148_4 + 1)) (qN U148 (v148_4 + 1)) (qI U148 (v148_4 + 1)) v148_6 (hR.w.len hT_v148_4) hv33) (cwV 1 hts (gd2_V kx_249 kx_250 kx_251 kx_6 kx_252) rfl rfl rfl (by decide +kernel) ⟨Nat.le_of_ble_eq_true rfl, Nat.le_of_ble_eq_true rfl⟩) ⟨tblind (fun A u U H hv h => by exact tx1.moved hv h), (strR hts hR hE hA hT_v148_4), fun U hU hW9 => ⟨rfl, by rw [hU], str_at hts hR hE hA hT_v148_4 hU hW9, by rw [hU]; exact ((hE.1.kept hR.sS.2.1).narrow hF).moved hW9.alike⟩⟩ rfl rfl hl.1 rfl (lv_room (Nat.le_of_ble_eq_true rfl)) dX14_watch_203 ⟨Nat.le_of_ble_eq_true rfl, Nat.le_of_ble_eq_true rfl⟩) hR.sS (fun q _ h => hF q h) hF (fun r34 u9 t9 H1 locs ht9 hvm9 hw9 hB9 hz9 hk9 hS => ?_)
                      obtain rfl : r34 = (cAt U148 v148_4 v148_6) := hw9
                      have hR : Rep g ad A s U148 H1 locs := hR.keep hk9 hS
                      clear hz9 hk9 hvm9 ht9 hB9 hF hS
                      generalize H1 = H at hR ⊢
                      refine lv_aload_n hx hb dX14_watch_206 rfl (lv_at hl 0 rfl) ?_
                      refine lv_iload hx hb dX14_watch_207 (lv_at hl 3 rfl) ?_
                      obtain ⟨hv35, h⟩ := h
                      have hFc := rfree hR hA
                      refine va_calli (va_runV (As := [.int v148_5]) (rest := [.int (cAt U148 v148_4 v148_6)]) ⟨hx, hb, hml, hown, hts⟩ (r_tagAt l g ad H.size U148 v148_5 hR.w  hv35) (cwV 1 hts (gd2_V kx_640 kx_641 kx_642 kx_177 kx_643) rfl rfl rfl (by decide +kernel) ⟨Nat.le_of_ble_eq_true rfl, Nat.le_of_ble_eq_true rfl⟩) ⟨rblind, va_recv hR.K hR.P (ci := 13) (q0 := 0) rfl (hR.at14 hR.w.1), fun U hU hW9 => rmk hU hW9 hR hex hE hFc⟩ rfl rfl hl.1 rfl (lv_room (Nat.le_of_ble_eq_true rfl)) dX14_watch_209 ⟨Nat.le_of_ble_eq_true rfl, Nat.le_of_ble_eq_true rfl⟩) hR.sS (fun q _ h => hFc q h) hFc (fun r36 u9 t9 H1 locs ht9 hvm9 hw9 hB9 hz9 hk9 hS => ?_)
                      have hR : Rep g ad A s U148 H1 locs := hR.call ht9 hB9 hR.w hS hFc
                      obtain rfl : r36 = (f_tagAt U148 v148_5) := hw9
                      clear hB9 hz9 hk9 hvm9 ht9 hS
                      generalize H1 = H at hR ⊢
                      obtain ⟨hv38, h⟩ := h
                      have hFc := rfree hR hA
                      refine va_calli (va_runS (As := [.int (cAt U148 v148_4 v148_6), .int (f_tagAt U148 v148_5)]) (rest := []) ⟨hx, hb, hml, hown, hts⟩ (r_isTaken l g ad H.size U148 (cAt U148 v148_4 v148_6) (f_tagAt U148 v148_5) hR.w  hv38) (va_cwS 2 hts (gd2_S kx_952 kx_953 kx_177 kx_954) rfl rfl rfl (by decide +kernel) ⟨Nat.le_of_ble_eq_true rfl, Nat.le_of_ble_eq_true rfl⟩) ⟨rblind, fun U hU hW9 => rmk hU hW9 hR hex hE hFc⟩ rfl rfl hl.1 rfl (lv_room (Nat.le_of_ble_eq_true rfl)) dX14_watch_212 ⟨Nat.le_of_ble_eq_true rfl, Nat.le_of_ble_eq_true rfl⟩) hR.sS (fun q _ h => hFc q h) hFc (fun r39 u9 t9 H1 locs ht9 hvm9 hw9 hB9 hz9 hk9 hS => ?_)
                      have hR : Rep g ad A s U148 H1 locs := hR.call ht9 hB9 hR.w hS hFc
                      obtain ⟨rfl, hz_r39⟩ := hw9
                      clear hB9 hz9 hk9 hvm9 ht9 hS
                      generalize H1 = H at hR ⊢
                      exact J_215 U148 (f_isTaken U148 (cAt U148 v148_4 v148_6) (f_tagAt U148 v148_5)) v148_4 v148_5 v148_6 _ _ ls h hT_v148_4 hz_r39 hsh hR (lv_sub hl [0, 2, 3, 4] rfl)
                    · replace h := h.1 (k_eq rfl (by decide) c32)
                      refine lv_aload_n hx hb dX14_watch_169 rfl (lv_at hl 0 rfl) ?_
                      refine lv_iload hx hb dX14_watch_170 (lv_at hl 3 rfl) ?_
                      obtain ⟨hv41, h⟩ := h
                      have hFc := rfree hR hA
                      refine va_calli (va_runV (As := [.int v148_5]) (rest := []) ⟨hx, hb, hml, hown, hts⟩ (r_tagAt l g ad H.size U148 v148_5 hR.w  hv41) (cwV 1 hts (gd2_V kx_640 kx_641 kx_642 kx_177 kx_643) rfl rfl rfl (by decide +kernel) ⟨Nat.le_of_ble_eq_true rfl, Nat.le_of_ble_eq_true rfl⟩) ⟨rblind, va_recv hR.K hR.P (ci := 13) (q0 := 0) rfl (hR.at14 hR.w.1), fun U hU hW9 => rmk hU hW9 hR hex hE hFc⟩ rfl rfl hl.1 rfl (lv_room (Nat.le_of_ble_eq_true rfl)) dX14_watch_172 ⟨Nat.le_of_ble_eq_true rfl, Nat.le_of_ble_eq_true rfl⟩) hR.sS (fun q _ h => hFc q h) hFc (fun r42 u9 t9 H1 locs ht9 hvm9 hw9 hB9 hz9 hk9 hS => ?_)
                      have hR : Rep g ad A s U148 H1 locs := hR.call ht9 hB9 hR.w hS hFc
                      obtain rfl : r42 = (f_tagAt U148 v148_5) := hw9
                      clear hB9 hz9 hk9 hvm9 ht9 hS
                      generalize H1 = H at hR ⊢
                      refine lv_iconst (v := 3) hx hb dX14_watch_175 (by decide) ?_
                      have J_195 : ∀ (U195 : MS) (v195_4 : Nat) (v195_5 : Int32) (v195_6 : Int32) (H : Heap) (locs : List Loc) (ls : Array Slot), w_watch_J195 Q (w_watch_L148 Q n148) U195 v195_4 v195_5 v195_6 → qT U195 v195_4 = 12 → shy S U195 → Rep g ad A s U195 H locs → lv_has ls 7 [(0, .ref (ad 0)), (4, .ref (ad v195_4)), (5, .int v195_5), (6, .int v195_6)] → W p l e (headSpec (wt2 yX14_watch cX14_watch 7 none) ({ frames := 4, cells := 0, slots := 0, locals := 85 })).room s m ([.ref (ad 0), .int x1] : List Value).toArray below meth c H locs 0 0 (MQ below (va_Qv (fun (u : MS) => Q u ∧ wfM u ∧ shy S u) (fun (u : MS) (t : State) => qE g ad A u t) A) ([.ref (ad 0), .int x1] : List Value).toArray s 0 0 A) (F0 m 195 ls []) := by
                        intro U195 v195_4 v195_5 v195_6 H locs ls h hT_v195_4 hsh hR hl
                        unfold w_watch_J195 at h
                        refine lv_iconst (v := 0) hx hb dX14_watch_195 (by decide) ?_
                        refine lv_goto (tgt := 215) hx hb dX14_watch_196 (by decide) ?_
                        exact J_215 U195 0 v195_4 v195_5 v195_6 _ _ ls h hT_v195_4 (Or.inl rfl) hsh hR (lv_sub hl [0, 1, 2, 3] rfl)
                      refine lv_icmp_ne (tgt := 195) hx hb dX14_watch_176 (by decide) (fun c44 => ?_) (fun c44 => ?_)
                      · replace h := h.2 (k_ne rfl (by decide) c44)
                        exact J_195 U148 v148_4 v148_5 v148_6 _ _ ls h hT_v148_4 hsh hR (lv_sub hl [0, 2, 3, 4] rfl)
                      · replace h := h.1 (k_eq rfl (by decide) c44)
                        refine lv_aload_n hx hb dX14_watch_179 rfl (lv_at hl 0 rfl) ?_
                        refine lv_iload hx hb dX14_watch_180 (lv_at hl 3 rfl) ?_
                        refine lv_iconst (v := 1) hx hb dX14_watch_182 (by decide) ?_
                        refine lv_iadd hx hb dX14_watch_183 ?_
                        refine lv_topi (fun z45 ez45 => ?_)
                        obtain rfl : z45 = (v148_5 + (1 : Int32)) := ez45
                        obtain ⟨hv46, h⟩ := h
                        have hFc := rfree hR hA
                        refine va_calli (va_runV (As := [.int (v148_5 + (1 : Int32))]) (rest := []) ⟨hx, hb, hml, hown, hts⟩ (r_tagAt l g ad H.size U148 (v148_5 + (1 : Int32)) hR.w  hv46) (cwV 1 hts (gd2_V kx_640 kx_641 kx_642 kx_177 kx_643) rfl rfl rfl (by decide +kernel) ⟨Nat.le_of_ble_eq_true rfl, Nat.le_of_ble_eq_true rfl⟩) ⟨rblind, va_recv hR.K hR.P (ci := 13) (q0 := 0) rfl (hR.at14 hR.w.1), fun U hU hW9 => rmk hU hW9 hR hex hE hFc⟩ rfl rfl hl.1 rfl (lv_room (Nat.le_of_ble_eq_true rfl)) dX14_watch_184 ⟨Nat.le_of_ble_eq_true rfl, Nat.le_of_ble_eq_true rfl⟩) hR.sS (fun q _ h => hFc q h) hFc (fun r47 u9 t9 H1 locs ht9 hvm9 hw9 hB9 hz9 hk9 hS => ?_)
                        have hR : Rep g ad A s U148 H1 locs := hR.call ht9 hB9 hR.w hS hFc
                        obtain rfl : r47 = (f_tagAt U148 (v148_5 + (1 : Int32))) := hw9
                        clear hB9 hz9 hk9 hvm9 ht9 hS
                        generalize H1 = H at hR ⊢
                        refine lv_iconst (v := 2) hx hb dX14_watch_187 (by decide) ?_
                        refine lv_icmp_ne (tgt := 195) hx hb dX14_watch_188 (by decide) (fun c49 => ?_) (fun c49 => ?_)
                        · replace h := h.2 (k_ne rfl (by decide) c49)
                          exact J_195 U148 v148_4 v148_5 v148_6 _ _ ls h hT_v148_4 hsh hR (lv_sub hl [0, 2, 3, 4] rfl)
                        · replace h := h.1 (k_eq rfl (by decide) c49)
                          refine lv_iconst (v := 1) hx hb dX14_watch_191 (by decide) ?_
                          refine lv_goto (tgt := 215) hx hb dX14_watch_192 (by decide) ?_
                          exact J_215 U148 1 v148_4 v148_5 v148_6 _ _ ls h hT_v148_4 (Or.inr rfl) hsh hR (lv_sub hl [0, 2, 3, 4] rfl)
            obtain ⟨n9, h⟩ := h
            exact J_148 n9 U129 v129_3 (f_takesOf U129 v129_1) 1 a21 _ _ ls h hT_r17 hz_v129_3 hsh hR (lv_sub hl [3, 5, 2, 1, 0] rfl)
          refine lv_if_eq (tgt := 129) hx hb dX14_watch_102 (by decide) (fun c50 => ?_) (fun c50 => ?_)
          · replace h := h.1 (k_eq rfl (by decide) c50)
            exact J_129 U101 v101_1 v101_3 _ _ ls h hz_v101_3 hsh hR (lv_sub hl [0, 1, 2] rfl)
          · replace h := h.2 (k_ne rfl (by decide) c50)
            refine lv_aload_n hx hb dX14_watch_105 rfl (lv_at hl 0 rfl) ?_
            refine lv_iload_n hx hb dX14_watch_106 rfl (lv_at hl 1 rfl) ?_
            obtain ⟨hv51, h⟩ := h
            have hFc := rfree hR hA
            refine va_calli (va_runV (As := [.int v101_1]) (rest := []) ⟨hx, hb, hml, hown, hts⟩ (r_op l g ad H.size U101 v101_1 hR.w  hv51) (cwV 1 hts (gd2_V kx_379 kx_380 kx_381 kx_177 kx_382) rfl rfl rfl (by decide +kernel) ⟨Nat.le_of_ble_eq_true rfl, Nat.le_of_ble_eq_true rfl⟩) ⟨rblind, va_recv hR.K hR.P (ci := 13) (q0 := 0) rfl (hR.at14 hR.w.1), fun U hU hW9 => rmk hU hW9 hR hex hE hFc⟩ rfl rfl hl.1 rfl (lv_room (Nat.le_of_ble_eq_true rfl)) dX14_watch_107 ⟨Nat.le_of_ble_eq_true rfl, Nat.le_of_ble_eq_true rfl⟩) hR.sS (fun q _ h => hFc q h) hFc (fun r52 u9 t9 H1 locs ht9 hvm9 hw9 hB9 hz9 hk9 hS => ?_)
            have hR : Rep g ad A s U101 H1 locs := hR.call ht9 hB9 hR.w hS hFc
            obtain rfl : r52 = (f_op U101 v101_1) := hw9
            clear hB9 hz9 hk9 hvm9 ht9 hS
            generalize H1 = H at hR ⊢
            obtain ⟨hv54, h⟩ := h
            have hFc := rfree hR hA
            refine va_calli (va_runS (As := [.int (f_op U101 v101_1)]) (rest := []) ⟨hx, hb, hml, hown, hts⟩ (r_moved l g ad H.size U101 (f_op U101 v101_1) hR.w  hv54) (va_cwS 1 hts (gd2_S kx_400 kx_401 kx_177 kx_402) rfl rfl rfl (by decide +kernel) ⟨Nat.le_of_ble_eq_true rfl, Nat.le_of_ble_eq_true rfl⟩) ⟨rblind, fun U hU hW9 => rmk hU hW9 hR hex hE hFc⟩ rfl rfl hl.1 rfl (lv_room (Nat.le_of_ble_eq_true rfl)) dX14_watch_110 ⟨Nat.le_of_ble_eq_true rfl, Nat.le_of_ble_eq_true rfl⟩) hR.sS (fun q _ h => hFc q h) hFc (fun r55 u9 t9 H1 locs ht9 hvm9 hw9 hB9 hz9 hk9 hS => ?_)
            have hR : Rep g ad A s U101 H1 locs := hR.call ht9 hB9 hR.w hS hFc
            obtain rfl : r55 = (f_moved U101 (f_op U101 v101_1)) := hw9
            clear hB9 hz9 hk9 hvm9 ht9 hS
            generalize H1 = H at hR ⊢
            refine lv_if_le (tgt := 129) hx hb dX14_watch_113 (by decide) (fun c57 => ?_) (fun c57 => ?_)
            · replace h := h.1 (k_le rfl (by decide) c57)
              exact J_129 U101 v101_1 v101_3 _ _ ls h hz_v101_3 hsh hR (lv_sub hl [0, 1, 2] rfl)
            · replace h := h.2 (k_nle rfl (by decide) c57)
              refine lv_aload_n hx hb dX14_watch_116 rfl (lv_at hl 0 rfl) ?_
              refine lv_aload_n hx hb dX14_watch_117 rfl (lv_at hl 0 rfl) ?_
              refine lv_iload_n hx hb dX14_watch_118 rfl (lv_at hl 1 rfl) ?_
              obtain ⟨hv58, h⟩ := h
              have hFc := rfree hR hA
              refine va_calli (va_runV (As := [.int v101_1]) (rest := [.ref (ad 0)]) ⟨hx, hb, hml, hown, hts⟩ (r_op l g ad H.size U101 v101_1 hR.w  hv58) (cwV 1 hts (gd2_V kx_379 kx_380 kx_381 kx_177 kx_382) rfl rfl rfl (by decide +kernel) ⟨Nat.le_of_ble_eq_true rfl, Nat.le_of_ble_eq_true rfl⟩) ⟨rblind, va_recv hR.K hR.P (ci := 13) (q0 := 0) rfl (hR.at14 hR.w.1), fun U hU hW9 => rmk hU hW9 hR hex hE hFc⟩ rfl rfl hl.1 rfl (lv_room (Nat.le_of_ble_eq_true rfl)) dX14_watch_119 ⟨Nat.le_of_ble_eq_true rfl, Nat.le_of_ble_eq_true rfl⟩) hR.sS (fun q _ h => hFc q h) hFc (fun r59 u9 t9 H1 locs ht9 hvm9 hw9 hB9 hz9 hk9 hS => ?_)
              have hR : Rep g ad A s U101 H1 locs := hR.call ht9 hB9 hR.w hS hFc
              obtain rfl : r59 = (f_op U101 v101_1) := hw9
              clear hB9 hz9 hk9 hvm9 ht9 hS
              generalize H1 = H at hR ⊢
              obtain ⟨hv61, h⟩ := h
              have hFc := rfree hR hA
              refine va_calli (va_runV (As := [.int (f_op U101 v101_1)]) (rest := []) ⟨hx, hb, hml, hown, hts⟩ (r_isMovable l g ad H.size U101 (f_op U101 v101_1) hR.w  hv61) (cwV 1 hts (gd2_V kx_955 kx_956 kx_957 kx_177 kx_958) rfl rfl rfl (by decide +kernel) ⟨Nat.le_of_ble_eq_true rfl, Nat.le_of_ble_eq_true rfl⟩) ⟨rblind, va_recv hR.K hR.P (ci := 13) (q0 := 0) rfl (hR.at14 hR.w.1), fun U hU hW9 => rmk hU hW9 hR hex hE hFc⟩ rfl rfl hl.1 rfl (lv_room (Nat.le_of_ble_eq_true rfl)) dX14_watch_122 ⟨Nat.le_of_ble_eq_true rfl, Nat.le_of_ble_eq_true rfl⟩) hR.sS (fun q _ h => hFc q h) hFc (fun r62 u9 t9 H1 locs ht9 hvm9 hw9 hB9 hz9 hk9 hS => ?_)
              have hR : Rep g ad A s U101 H1 locs := hR.call ht9 hB9 hR.w hS hFc
              obtain ⟨rfl, hz_r62⟩ := hw9
              clear hB9 hz9 hk9 hvm9 ht9 hS
              generalize H1 = H at hR ⊢
              obtain ⟨a64, ea64⟩ : ∃ z, z = (f_isMovable U101 (f_op U101 v101_1)) := ⟨_, rfl⟩
              rw [← ea64]
              replace h := h a64 ea64
              have hz_a64 : a64 = 0 ∨ a64 = 1 := by rw [ea64]; exact hz_r62
              refine lv_istore_n (lv' := [(3, .int a64), (0, .ref (ad 0)), (1, .int v101_1)]) hx hb dX14_watch_125 rfl hl (by decide) rfl (fun ls hl => ?_)
              refine lv_goto (tgt := 244) hx hb dX14_watch_126 (by decide) ?_
              exact J_244 U101 a64 _ _ ls h hz_a64 hsh hR (lv_sub hl [1, 0] rfl)
        refine lv_icmp_ge (tgt := 101) hx hb dX14_watch_45 (by decide) (fun c65 => ?_) (fun c65 => ?_)
        · replace h := h.1 (k_le (by decide) rfl c65)
          exact J_101 U41 v41_1 v41_3 _ _ ls h hz_v41_3 hsh hR (lv_sub hl [0, 1, 3] rfl)
        · replace h := h.2 (k_nle (by decide) rfl c65)
          refine lv_iload_n hx hb dX14_watch_48 rfl (lv_at hl 3 rfl) ?_
          refine lv_if_eq (tgt := 101) hx hb dX14_watch_49 (by decide) (fun c66 => ?_) (fun c66 => ?_)
          · replace h := h.1 (k_eq rfl (by decide) c66)
            exact J_101 U41 v41_1 v41_3 _ _ ls h hz_v41_3 hsh hR (lv_sub hl [0, 1, 3] rfl)
          · replace h := h.2 (k_ne rfl (by decide) c66)
            refine lv_aload_n hx hb dX14_watch_52 rfl (lv_at hl 0 rfl) ?_
            obtain ⟨hv67, h⟩ := h
            have hT_b68 : qT U41 (qO U41 0 80) = 11 := hR.w.ref hv67 hR.w.1
            refine va_get (D := rD g) (ci := 13) (v := .ref (ad (qO U41 0 80))) (C := RX14) (T := TX14) (N := 143) hx hb hts in2X14 hown hR.K hR.P 0 (hR.at14 hR.w.1) rfl 80 (by decide) (hts _ kx_608) (fun _ h9 => h9) (congrArg (fun z => some (vf ad z)) hv67) dX14_watch_53 ?_
            obtain ⟨hv69, h⟩ := h
            have hT_b70 : qT U41 (qO U41 (qO U41 0 80) 22) = 2 := hR.w.ref hv69 hT_b68
            refine va_get (D := rD g) (ci := 12) (v := .ref (ad (qO U41 (qO U41 0 80) 22))) (C := RX13) (T := TX13) (N := 23) hx hb hts in2X13 hown hR.K hR.P (qO U41 0 80) (hR.at13 hT_b68) rfl 22 (by decide) (hts _ kx_522) (fun _ h9 => h9) (congrArg (fun z => some (vf ad z)) hv69) dX14_watch_56 ?_
            refine lv_iload_n hx hb dX14_watch_59 rfl (lv_at hl 2 rfl) ?_
            refine lv_iconst (v := 1) hx hb dX14_watch_60 (by decide) ?_
            refine lv_iadd hx hb dX14_watch_61 ?_
            refine lv_topi (fun z71 ez71 => ?_)
            obtain rfl : z71 = (v41_2 + (1 : Int32)) := ez71
            refine lv_iload hx hb dX14_watch_62 (lv_at hl 4 rfl) ?_
            refine lv_bipush (v := 8) hx hb dX14_watch_64 (by decide) ?_
            refine lv_idiv hx hb dX14_watch_66 (by decide) ?_
            refine lv_topi (fun z72 ez72 => ?_)
            obtain rfl : z72 = (v41_4 / (8 : Int32)) := ez72
            refine lv_iadd hx hb dX14_watch_67 ?_
            refine lv_topi (fun z73 ez73 => ?_)
            obtain rfl : z73 = ((v41_2 + (1 : Int32)) + (v41_4 / (8 : Int32))) := ez73
            obtain ⟨hv74, h⟩ := h
            refine va_iald hx hb hR.K hR.P (qO U41 (qO U41 0 80) 22) 1 (hR.atI hT_b70) rfl (k_ix (x := ((v41_2 + (1 : Int32)) + (v41_4 / (8 : Int32)))) (a := ((v41_2 + (1 : Int32)) + (v41_4 / (8 : Int32))).toInt) rfl hv74) dX14_watch_68 ?_
            refine lv_topi (fun z75 ez75 => ?_)
            obtain rfl : z75 = (qI U41 (qO U41 (qO U41 0 80) 22) ((((v41_2 + (1 : Int32)) + (v41_4 / (8 : Int32))).toInt).toNat)) := ez75
            refine lv_iconst (v := 4) hx hb dX14_watch_69 (by decide) ?_
            refine lv_iload hx hb dX14_watch_70 (lv_at hl 4 rfl) ?_
            refine lv_bipush (v := 8) hx hb dX14_watch_72 (by decide) ?_
            refine lv_irem hx hb dX14_watch_74 (by decide) ?_
            refine lv_topi (fun z76 ez76 => ?_)
            obtain rfl : z76 = (v41_4 - v41_4 / (8 : Int32) * (8 : Int32)) := ez76
            refine lv_imul hx hb dX14_watch_75 ?_
            refine lv_topi (fun z77 ez77 => ?_)
            obtain rfl : z77 = ((4 : Int32) * (v41_4 - v41_4 / (8 : Int32) * (8 : Int32))) := ez77
            refine lv_ishr hx hb dX14_watch_76 ?_
            refine lv_topi (fun z78 ez78 => ?_)
            obtain rfl : z78 = ((qI U41 (qO U41 (qO U41 0 80) 22) ((((v41_2 + (1 : Int32)) + (v41_4 / (8 : Int32))).toInt).toNat)) >>> (((4 : Int32) * (v41_4 - v41_4 / (8 : Int32) * (8 : Int32))) &&& 31)) := ez78
            refine lv_bipush (v := 15) hx hb dX14_watch_77 (by decide) ?_
            refine lv_iand hx hb dX14_watch_79 ?_
            refine lv_topi (fun z79 ez79 => ?_)
            obtain rfl : z79 = (((qI U41 (qO U41 (qO U41 0 80) 22) ((((v41_2 + (1 : Int32)) + (v41_4 / (8 : Int32))).toInt).toNat)) >>> (((4 : Int32) * (v41_4 - v41_4 / (8 : Int32) * (8 : Int32))) &&& 31)) &&& (15 : Int32)) := ez79
            refine lv_aload_n hx hb dX14_watch_80 rfl (lv_at hl 0 rfl) ?_
            refine va_get (D := rD g) (ci := 13) (v := .ref (ad 47)) (C := RX14) (T := TX14) (N := 143) hx hb hts in2X14 hown hR.K hR.P 0 (hR.at14 hR.w.1) rfl 94 (by decide) (hts _ kx_625) (fun _ h9 => h9) (congrArg (fun z => some (vf ad z)) (hR.w.2.1 _ fin_94).1) dX14_watch_81 ?_
            refine lv_aload_n hx hb dX14_watch_84 rfl (lv_at hl 0 rfl) ?_
            refine lv_iload hx hb dX14_watch_85 (lv_at hl 4 rfl) ?_
            obtain ⟨hv80, h⟩ := h
            have hFc := rfree hR hA
            refine va_calli (va_runV (As := [.int v41_4]) (rest := [.ref (ad 47), .int (((qI U41 (qO U41 (qO U41 0 80) 22) ((((v41_2 + (1 : Int32)) + (v41_4 / (8 : Int32))).toInt).toNat)) >>> (((4 : Int32) * (v41_4 - v41_4 / (8 : Int32) * (8 : Int32))) &&& 31)) &&& (15 : Int32))]) ⟨hx, hb, hml, hown, hts⟩ (r_slot l g ad H.size U41 v41_4 hR.w  hv80) (cwV 1 hts (gd2_V kx_658 kx_659 kx_660 kx_177 kx_661) rfl rfl rfl (by decide +kernel) ⟨Nat.le_of_ble_eq_true rfl, Nat.le_of_ble_eq_true rfl⟩) ⟨rblind, va_recv hR.K hR.P (ci := 13) (q0 := 0) rfl (hR.at14 hR.w.1), fun U hU hW9 => rmk hU hW9 hR hex hE hFc⟩ rfl rfl hl.1 rfl (lv_room (Nat.le_of_ble_eq_true rfl)) dX14_watch_87 ⟨Nat.le_of_ble_eq_true rfl, Nat.le_of_ble_eq_true rfl⟩) hR.sS (fun q _ h => hFc q h) hFc (fun r81 u9 t9 H1 locs ht9 hvm9 hw9 hB9 hz9 hk9 hS => ?_)
            have hR : Rep g ad A s U41 H1 locs := hR.call ht9 hB9 hR.w hS hFc
            obtain rfl : r81 = (f_slot U41 v41_4) := hw9
            clear hB9 hz9 hk9 hvm9 ht9 hS
            generalize H1 = H at hR ⊢
            obtain ⟨hv83, h⟩ := h
            refine va_bald hx hb hR.K hR.P 47 0 (hR.atB (hR.w.2.1 _ fin_94).2.1) rfl (k_ixN (k_ix (n := 1440) (x := (f_slot U41 v41_4)) (a := (f_slot U41 v41_4).toInt) rfl hv83) (hR.w.2.1 _ fin_94).2.2) dX14_watch_90 ?_
            refine lv_topi (fun z84 ez84 => ?_)
            obtain rfl : z84 = (qI U41 47 (((f_slot U41 v41_4).toInt).toNat)) := ez84
            obtain ⟨hv85, h⟩ := h
            have hFc := rfree hR hA
            refine va_calli (va_runS (As := [.int (((qI U41 (qO U41 (qO U41 0 80) 22) ((((v41_2 + (1 : Int32)) + (v41_4 / (8 : Int32))).toInt).toNat)) >>> (((4 : Int32) * (v41_4 - v41_4 / (8 : Int32) * (8 : Int32))) &&& 31)) &&& (15 : Int32)), .int (qI U41 47 (((f_slot U41 v41_4).toInt).toNat))]) (rest := []) ⟨hx, hb, hml, hown, hts⟩ (r_agrees l g ad H.size U41 (((qI U41 (qO U41 (qO U41 0 80) 22) ((((v41_2 + (1 : Int32)) + (v41_4 / (8 : Int32))).toInt).toNat)) >>> (((4 : Int32) * (v41_4 - v41_4 / (8 : Int32) * (8 : Int32))) &&& 31)) &&& (15 : Int32)) (qI U41 47 (((f_slot U41 v41_4).toInt).toNat)) hR.w  hv85) (va_cwS 2 hts (gd2_S kx_959 kx_960 kx_177 kx_961) rfl rfl rfl (by decide +kernel) ⟨Nat.le_of_ble_eq_true rfl, Nat.le_of_ble_eq_true rfl⟩) ⟨rblind, fun U hU hW9 => rmk hU hW9 hR hex hE hFc⟩ rfl rfl hl.1 rfl (lv_room (Nat.le_of_ble_eq_true rfl)) dX14_watch_91 ⟨Nat.le_of_ble_eq_true rfl, Nat.le_of_ble_eq_true rfl⟩) hR.sS (fun q _ h => hFc q h) hFc (fun r86 u9 t9 H1 locs ht9 hvm9 hw9 hB9 hz9 hk9 hS => ?_)
            have hR : Rep g ad A s U41 H1 locs := hR.call ht9 hB9 hR.w hS hFc
            obtain ⟨rfl, hz_r86⟩ := hw9
            clear hB9 hz9 hk9 hvm9 ht9 hS
            generalize H1 = H at hR ⊢
            obtain ⟨a88, ea88⟩ : ∃ z, z = (f_agrees U41 (((qI U41 (qO U41 (qO U41 0 80) 22) ((((v41_2 + (1 : Int32)) + (v41_4 / (8 : Int32))).toInt).toNat)) >>> (((4 : Int32) * (v41_4 - v41_4 / (8 : Int32) * (8 : Int32))) &&& 31)) &&& (15 : Int32)) (qI U41 47 (((f_slot U41 v41_4).toInt).toNat))) := ⟨_, rfl⟩
            rw [← ea88]
            replace h := h a88 ea88
            have hz_a88 : a88 = 0 ∨ a88 = 1 := by rw [ea88]; exact hz_r86
            refine lv_istore_n (lv' := [(3, .int a88), (0, .ref (ad 0)), (1, .int v41_1), (2, .int v41_2), (4, .int v41_4)]) hx hb dX14_watch_94 rfl hl (by decide) rfl (fun ls hl => ?_)
            obtain ⟨a89, ea89⟩ : ∃ z, z = (v41_4 + Int32.ofInt 1) := ⟨_, rfl⟩
            replace h := h a89 ea89
            refine lv_iinc (v := a89) (lv' := [(4, .int a89), (3, .int a88), (0, .ref (ad 0)), (1, .int v41_1), (2, .int v41_2)]) hx hb dX14_watch_95 hl (k := 4) rfl ea89.symm (by decide) rfl (fun ls hl => ?_)
            refine lv_goto (tgt := 41) hx hb dX14_watch_98 (by decide) ?_
            exact ih_41 U41 v41_1 v41_2 a88 a89 _ _ ls h hz_a88 hsh hR (lv_sub hl [2, 3, 4, 1, 0] rfl)
    obtain ⟨n9, h⟩ := h
    exact J_41 n9 U37 v37_1 v37_2 t37_0 0 _ _ ls h hz_t37_0 hsh hR (lv_sub hl [2, 3, 4, 1, 0] rfl)
  refine lv_icmp_ne (tgt := 36) hx hb dX14_watch_29 (by decide) (fun c90 => ?_) (fun c90 => ?_)
  · replace h := h.2 (k_ne rfl rfl c90)
    refine lv_iconst (v := 0) hx hb dX14_watch_36 (by decide) ?_
    exact J_37 S 0 x1 a3 _ _ ls h (Or.inl rfl) hsh hR (lv_sub hl [1, 2, 0] rfl)
  · replace h := h.1 (k_eq rfl rfl c90)
    refine lv_iconst (v := 1) hx hb dX14_watch_32 (by decide) ?_
    refine lv_goto (tgt := 37) hx hb dX14_watch_33 (by decide) ?_
    exact J_37 S 1 x1 a3 _ _ ls h (Or.inr rfl) hsh hR (lv_sub hl [1, 2, 0] rfl)
