def w_nameNumber (S : MS) (p1 : Nat) (Q : Int32 → MS → Prop) (E : MS → Prop) : Prop := (∃ Q1 EQ1, w_needConstant S (1 : Int32) (0 : Int32) (0 : Int32) 0 p1 Q1 EQ1 ∧ (∀ r2 S3, Q1 r2 S3 → Q r2 S3) ∧ (∀ u9, EQ1 u9 → E u9))
set_option maxHeartbeats 2000000 in
set_option maxRecDepth 100000 in
theorem r_nameNumber (l : Launch) (g : Gr) (ad : Nat → Nat) (sz : Nat) (S : MS) (p1 : Nat) (hw : wfM S) (hT_p1 : qT S p1 = 12) (Q : Int32 → MS → Prop) (E : MS → Prop) (h : w_nameNumber S p1 Q E) : vx_Met l yX14_nameNumber (wt2 yX14_nameNumber cX14_nameNumber 2 (some .int)) ({ frames := 3, cells := 0, slots := 0, locals := 72 }) (va_Pc [.ref (ad 0), .ref (ad p1)] (st_R g ad sz S)) (va_Qi (fun (r : Int32) (u : MS) => Q r u ∧ wfM u ∧ shy S u) (fun (u : MS) (t : State) => qE g ad (va_A (Wd g ad S) sz) u t) (va_A (Wd g ad S) sz)) (vx_X (fun (u : MS) => E u ∧ wfM u ∧ shy S u) (fun (n9 : String) (u : MS) (t : State) => n9 = RJxb5711 ∧ qE g ad (va_A (Wd g ad S) sz) u t) (va_A (Wd g ad S) sz)) 0 0 (va_A (Wd g ad S) sz) := by
  refine vx_ofW (cc := cX14_nameNumber) (maxL := 2) (ret := (some .int)) (by decide) rfl ?_
  intro p e s m args below meth c s₁ B hml hnt hv
  obtain ⟨rfl, hsz, hP, hK, hD0, hex, hE⟩ := hv
  have hx := B.exec
  have hb := B.bytes
  have hr := B.returns
  have hlocks := B.notSynchronized
  have hts0 := atoms_spec (ws := wt2 yX14_nameNumber cX14_nameNumber 2 (some .int)) B.pre
  have hts : ∀ w ∈ tb2, w.before _ s = true := fun w h => hts0 w (List.mem_cons_of_mem _ h)
  have hown : s.vm.findClass RX14 = some m.cls := findClass_of_methodNamed B.named
  subst hsz
  have hD := hD0.self (sz := s.heap.size)
  generalize hAe : va_A (Wd g ad S) s.heap.size = A at hD hE ⊢
  have hA : ∀ q : Nat, s.heap.size ≤ q → A q := fun q h => by rw [← hAe]; exact Or.inr h
  have hR : Rep g ad A s S s.heap [] := ⟨hK, hP, hD, va_S.rf, hw⟩
  clear hK hP hD hD0
  have hl := lv_entry ([.ref (ad 0), .ref (ad p1)]) (n := 2) (Nat.le_of_ble_eq_true rfl)
  rw [lg_entry_eq]
  generalize (lg_sl ([.ref (ad 0), .ref (ad p1)]) ++ List.replicate (2 - (lg_sl ([.ref (ad 0), .ref (ad p1)])).length) Slot.unset).toArray = ls at hl ⊢
  have hl : lv_has ls 2 [(0, .ref (ad 0)), (1, .ref (ad p1))] := hl
  have hsh : shy S S := shy.rf
  unfold w_nameNumber at h
  refine lv_aload_n hx hb dX14_nameNumber_0 rfl (lv_at hl 0 rfl) ?_
  refine lv_iconst (v := 1) hx hb dX14_nameNumber_1 (by decide) ?_
  refine lv_iconst (v := 0) hx hb dX14_nameNumber_2 (by decide) ?_
  refine lv_iconst (v := 0) hx hb dX14_nameNumber_3 (by decide) ?_
  refine lv_lconst (v := 0) hx hb dX14_nameNumber_4 (by decide) ?_
  refine lv_aload_n hx hb dX14_nameNumber_5 rfl (lv_at hl 1 rfl) ?_
  obtain ⟨Q1, EQ1, h0, h⟩ := h
  have hFc := rfree hR hA
  refine vx_calli (vx_runV (As := [.int 1, .int 0, .int 0, .long 0, .ref (ad p1)]) (rest := []) ⟨hx, hb, hml, hown, hts⟩ (r_needConstant l g ad s.heap.size S (1 : Int32) (0 : Int32) (0 : Int32) 0 p1 hR.w hT_p1 Q1 EQ1 h0) (cwV 5 hts (gd2_V kx_543 kx_544 kx_545 kx_177 kx_546) rfl rfl rfl (by decide +kernel) ⟨Nat.le_of_ble_eq_true rfl, Nat.le_of_ble_eq_true rfl⟩) ⟨rblind, va_recv hR.K hR.P (ci := 13) (q0 := 0) rfl (hR.at14 hR.w.1), fun U hU hW9 => rmk hU hW9 hR hex hE hFc⟩ rfl rfl hl.1 rfl (lv_room (Nat.le_of_ble_eq_true rfl)) dX14_nameNumber_6 ⟨Nat.le_of_ble_eq_true rfl, Nat.le_of_ble_eq_true rfl⟩) hR.sS (fun q _ h => hFc q h) hFc (fun q _ h => hFc q h) (fun E9 ce9 q9 u9 t9 H1 locs ht9 hvm9 hp9 hB9 hz9 hk9 hS hce9 hcv9 hcl9 => ?_) (fun r2 S3 t9 H1 locs ht9 hvm9 hw9 hB9 hz9 hk9 hS => ?_)
  · obtain ⟨hp9, hwx, hsx⟩ := hp9
    obtain ⟨rfl, hBx⟩ := hB9
    replace h := h.2 u9 hp9
    have hR : Rep g ad A s u9 H1 locs := hR.call ht9 hBx hwx hS hFc
    have hsh := hsh.tr hsx
    exact vx_out (E := RJxb5711) (q := q9) (fun x h9 => (hnt x h9).elim) hlocks hce9 hcv9 hcl9 (fun t9 ht9 ha9 => ⟨u9, ⟨h, hR.w, hsh⟩, ⟨rfl, by rw [ht9]; exact hR.P, hR.D⟩, hR.sS.F ht9⟩) hR.sS.2.2 (Nat.le_of_ble_eq_true rfl) (Nat.le_of_ble_eq_true rfl)
  · obtain ⟨hq4, hw9, hs9⟩ := hw9
    have hR : Rep g ad A s S3 H1 locs := hR.call ht9 hB9 hw9 hS hFc
    have hsh := hsh.tr hs9
    replace h := h.1 r2 S3 hq4
    have hT_p1 := hs9.T hT_p1 (by decide)
    clear hB9 hz9 hk9 hvm9 ht9 hw9 hs9 hS
    generalize H1 = H at hR ⊢
    exact vx_ret (W.iret (v := r2) hx hb hr (fun t9 ht9 hW9 => ⟨⟨_, S3, rfl, ⟨h, hR.w, hsh⟩, ⟨by rw [ht9]; exact hR.P, hR.D⟩⟩, hR.sS.F ht9⟩) hR.sS.2.2 dX14_nameNumber_9)
def w_classNumber (S : MS) (p1 : Nat) (Q : Int32 → MS → Prop) (E : MS → Prop) : Prop := (∃ Q1 EQ1, w_nameNumber S p1 Q1 EQ1 ∧ (∀ r2 S3, Q1 r2 S3 → (∃ Q6 EQ6, w_needConstant S3 (7 : Int32) r2 (0 : Int32) 0 10000032 Q6 EQ6 ∧ (∀ r7 S8, Q6 r7 S8 → Q r7 S8) ∧ (∀ u9, EQ6 u9 → E u9))) ∧ (∀ u9, EQ1 u9 → E u9))
set_option maxHeartbeats 2000000 in
set_option maxRecDepth 100000 in
theorem r_classNumber (l : Launch) (g : Gr) (ad : Nat → Nat) (sz : Nat) (S : MS) (p1 : Nat) (hw : wfM S) (hT_p1 : qT S p1 = 12) (Q : Int32 → MS → Prop) (E : MS → Prop) (h : w_classNumber S p1 Q E) : vx_Met l yX14_classNumber (wt2 yX14_classNumber cX14_classNumber 2 (some .int)) ({ frames := 4, cells := 0, slots := 0, locals := 93 }) (va_Pc [.ref (ad 0), .ref (ad p1)] (st_R g ad sz S)) (va_Qi (fun (r : Int32) (u : MS) => Q r u ∧ wfM u ∧ shy S u) (fun (u : MS) (t : State) => qE g ad (va_A (Wd g ad S) sz) u t) (va_A (Wd g ad S) sz)) (vx_X (fun (u : MS) => E u ∧ wfM u ∧ shy S u) (fun (n9 : String) (u : MS) (t : State) => n9 = RJxb5711 ∧ qE g ad (va_A (Wd g ad S) sz) u t) (va_A (Wd g ad S) sz)) 0 0 (va_A (Wd g ad S) sz) := by
  refine vx_ofW (cc := cX14_classNumber) (maxL := 2) (ret := (some .int)) (by decide) rfl ?_
  intro p e s m args below meth c s₁ B hml hnt hv
  obtain ⟨rfl, hsz, hP, hK, hD0, hex, hE⟩ := hv
  have hx := B.exec
  have hb := B.bytes
  have hr := B.returns
  have hlocks := B.notSynchronized
  have hts0 := atoms_spec (ws := wt2 yX14_classNumber cX14_classNumber 2 (some .int)) B.pre
  have hts : ∀ w ∈ tb2, w.before _ s = true := fun w h => hts0 w (List.mem_cons_of_mem _ h)
  have hown : s.vm.findClass RX14 = some m.cls := findClass_of_methodNamed B.named
  subst hsz
  have hD := hD0.self (sz := s.heap.size)
  generalize hAe : va_A (Wd g ad S) s.heap.size = A at hD hE ⊢
  have hA : ∀ q : Nat, s.heap.size ≤ q → A q := fun q h => by rw [← hAe]; exact Or.inr h
  have hR : Rep g ad A s S s.heap [] := ⟨hK, hP, hD, va_S.rf, hw⟩
  clear hK hP hD hD0
  have hl := lv_entry ([.ref (ad 0), .ref (ad p1)]) (n := 2) (Nat.le_of_ble_eq_true rfl)
  rw [lg_entry_eq]
  generalize (lg_sl ([.ref (ad 0), .ref (ad p1)]) ++ List.replicate (2 - (lg_sl ([.ref (ad 0), .ref (ad p1)])).length) Slot.unset).toArray = ls at hl ⊢
  have hl : lv_has ls 2 [(0, .ref (ad 0)), (1, .ref (ad p1))] := hl
  have hsh : shy S S := shy.rf
  unfold w_classNumber at h
  refine lv_aload_n hx hb dX14_classNumber_0 rfl (lv_at hl 0 rfl) ?_
  refine lv_bipush (v := 7) hx hb dX14_classNumber_1 (by decide) ?_
  refine lv_aload_n hx hb dX14_classNumber_3 rfl (lv_at hl 0 rfl) ?_
  refine lv_aload_n hx hb dX14_classNumber_4 rfl (lv_at hl 1 rfl) ?_
  obtain ⟨Q1, EQ1, h0, h⟩ := h
  have hFc := rfree hR hA
  refine vx_calli (vx_runV (As := [.ref (ad p1)]) (rest := [.int 7, .ref (ad 0)]) ⟨hx, hb, hml, hown, hts⟩ (r_nameNumber l g ad s.heap.size S p1 hR.w hT_p1 Q1 EQ1 h0) (cwV 1 hts (gd2_V kx_547 kx_548 kx_549 kx_177 kx_550) rfl rfl rfl (by decide +kernel) ⟨Nat.le_of_ble_eq_true rfl, Nat.le_of_ble_eq_true rfl⟩) ⟨rblind, va_recv hR.K hR.P (ci := 13) (q0 := 0) rfl (hR.at14 hR.w.1), fun U hU hW9 => rmk hU hW9 hR hex hE hFc⟩ rfl rfl hl.1 rfl (lv_room (Nat.le_of_ble_eq_true rfl)) dX14_classNumber_5 ⟨Nat.le_of_ble_eq_true rfl, Nat.le_of_ble_eq_true rfl⟩) hR.sS (fun q _ h => hFc q h) hFc (fun q _ h => hFc q h) (fun E9 ce9 q9 u9 t9 H1 locs ht9 hvm9 hp9 hB9 hz9 hk9 hS hce9 hcv9 hcl9 => ?_) (fun r2 S3 t9 H1 locs ht9 hvm9 hw9 hB9 hz9 hk9 hS => ?_)
  · obtain ⟨hp9, hwx, hsx⟩ := hp9
    obtain ⟨rfl, hBx⟩ := hB9
    replace h := h.2 u9 hp9
    have hR : Rep g ad A s u9 H1 locs := hR.call ht9 hBx hwx hS hFc
    have hsh := hsh.tr hsx
    exact vx_out (E := RJxb5711) (q := q9) (fun x h9 => (hnt x h9).elim) hlocks hce9 hcv9 hcl9 (fun t9 ht9 ha9 => ⟨u9, ⟨h, hR.w, hsh⟩, ⟨rfl, by rw [ht9]; exact hR.P, hR.D⟩, hR.sS.F ht9⟩) hR.sS.2.2 (Nat.le_of_ble_eq_true rfl) (Nat.le_of_ble_eq_true rfl)
  · obtain ⟨hq4, hw9, hs9⟩ := hw9
    have hR : Rep g ad A s S3 H1 locs := hR.call ht9 hB9 hw9 hS hFc
    have hsh := hsh.tr hs9
    replace h := h.1 r2 S3 hq4
    have hT_p1 := hs9.T hT_p1 (by decide)
    clear hB9 hz9 hk9 hvm9 ht9 hw9 hs9 hS
    generalize H1 = H at hR ⊢
    refine lv_iconst (v := 0) hx hb dX14_classNumber_8 (by decide) ?_
    refine lv_lconst (v := 0) hx hb dX14_classNumber_9 (by decide) ?_
    have hT_t5 : qT S3 10000032 = 12 := hR.w.txt (i := 16) (by decide)
    refine va_ldcSW (tx := "") (q := ad 10000032) hx hb hown (hE.2.2 _ ldc_721) dX14_classNumber_10 ?_
    obtain ⟨Q6, EQ6, h0, h⟩ := h
    have hFc := rfree hR hA
    refine vx_calli (vx_runV (As := [.int 7, .int r2, .int 0, .long 0, .ref (ad 10000032)]) (rest := []) ⟨hx, hb, hml, hown, hts⟩ (r_needConstant l g ad H.size S3 (7 : Int32) r2 (0 : Int32) 0 10000032 hR.w hT_t5 Q6 EQ6 h0) (cwV 5 hts (gd2_V kx_543 kx_544 kx_545 kx_177 kx_546) rfl rfl rfl (by decide +kernel) ⟨Nat.le_of_ble_eq_true rfl, Nat.le_of_ble_eq_true rfl⟩) ⟨rblind, va_recv hR.K hR.P (ci := 13) (q0 := 0) rfl (hR.at14 hR.w.1), fun U hU hW9 => rmk hU hW9 hR hex hE hFc⟩ rfl rfl hl.1 rfl (lv_room (Nat.le_of_ble_eq_true rfl)) dX14_classNumber_13 ⟨Nat.le_of_ble_eq_true rfl, Nat.le_of_ble_eq_true rfl⟩) hR.sS (fun q _ h => hFc q h) hFc (fun q _ h => hFc q h) (fun E9 ce9 q9 u9 t9 H1 locs ht9 hvm9 hp9 hB9 hz9 hk9 hS hce9 hcv9 hcl9 => ?_) (fun r7 S8 t9 H1 locs ht9 hvm9 hw9 hB9 hz9 hk9 hS => ?_)
    · obtain ⟨hp9, hwx, hsx⟩ := hp9
      obtain ⟨rfl, hBx⟩ := hB9
      replace h := h.2 u9 hp9
      have hR : Rep g ad A s u9 H1 locs := hR.call ht9 hBx hwx hS hFc
      have hsh := hsh.tr hsx
      exact vx_out (E := RJxb5711) (q := q9) (fun x h9 => (hnt x h9).elim) hlocks hce9 hcv9 hcl9 (fun t9 ht9 ha9 => ⟨u9, ⟨h, hR.w, hsh⟩, ⟨rfl, by rw [ht9]; exact hR.P, hR.D⟩, hR.sS.F ht9⟩) hR.sS.2.2 (Nat.le_of_ble_eq_true rfl) (Nat.le_of_ble_eq_true rfl)
    · obtain ⟨hq9, hw9, hs9⟩ := hw9
      have hR : Rep g ad A s S8 H1 locs := hR.call ht9 hB9 hw9 hS hFc
      have hsh := hsh.tr hs9
      replace h := h.1 r7 S8 hq9
      have hT_p1 := hs9.T hT_p1 (by decide)
      clear hB9 hz9 hk9 hvm9 ht9 hw9 hs9 hS
      generalize H1 = H at hR ⊢
      exact vx_ret (W.iret (v := r7) hx hb hr (fun t9 ht9 hW9 => ⟨⟨_, S8, rfl, ⟨h, hR.w, hsh⟩, ⟨by rw [ht9]; exact hR.P, hR.D⟩⟩, hR.sS.F ht9⟩) hR.sS.2.2 dX14_classNumber_16)
def w_memberNumber (S : MS) (x1 : Int32) (p2 : Nat) (p3 : Nat) (Q : Int32 → MS → Prop) (E : MS → Prop) : Prop := ((qR S 0 47 = some (qO S 0 47)) ∧ ((qR S (qO S 0 47) 0 = some (qO S (qO S 0 47) 0)) ∧ (∃ Q5 EQ5, w_classNumber S (qO S (qO S 0 47) 0) Q5 EQ5 ∧ (∀ r6 S7, Q5 r6 S7 → (∃ Q9 EQ9, w_nameNumber S7 p2 Q9 EQ9 ∧ (∀ r10 S11, Q9 r10 S11 → (∃ Q13 EQ13, w_nameNumber S11 p3 Q13 EQ13 ∧ (∀ r14 S15, Q13 r14 S15 → (∃ Q18 EQ18, w_needConstant S15 (12 : Int32) r10 r14 0 10000032 Q18 EQ18 ∧ (∀ r19 S20, Q18 r19 S20 → (∃ Q23 EQ23, w_needConstant S20 x1 r6 r19 0 10000032 Q23 EQ23 ∧ (∀ r24 S25, Q23 r24 S25 → Q r24 S25) ∧ (∀ u9, EQ23 u9 → E u9))) ∧ (∀ u9, EQ18 u9 → E u9))) ∧ (∀ u9, EQ13 u9 → E u9))) ∧ (∀ u9, EQ9 u9 → E u9))) ∧ (∀ u9, EQ5 u9 → E u9))))
set_option maxHeartbeats 2000000 in
set_option maxRecDepth 100000 in
theorem r_memberNumber (l : Launch) (g : Gr) (ad : Nat → Nat) (sz : Nat) (S : MS) (x1 : Int32) (p2 : Nat) (p3 : Nat) (hw : wfM S) (hT_p2 : qT S p2 = 12) (hT_p3 : qT S p3 = 12) (Q : Int32 → MS → Prop) (E : MS → Prop) (h : w_memberNumber S x1 p2 p3 Q E) : vx_Met l yX14_memberNumber (wt2 yX14_memberNumber cX14_memberNumber 7 (some .int)) ({ frames := 5, cells := 0, slots := 0, locals := 114 }) (va_Pc [.ref (ad 0), .int x1, .ref (ad p2), .ref (ad p3)] (st_R g ad sz S)) (va_Qi (fun (r : Int32) (u : MS) => Q r u ∧ wfM u ∧ shy S u) (fun (u : MS) (t : State) => qE g ad (va_A (Wd g ad S) sz) u t) (va_A (Wd g ad S) sz)) (vx_X (fun (u : MS) => E u ∧ wfM u ∧ shy S u) (fun (n9 : String) (u : MS) (t : State) => n9 = RJxb5711 ∧ qE g ad (va_A (Wd g ad S) sz) u t) (va_A (Wd g ad S) sz)) 0 0 (va_A (Wd g ad S) sz) := by
  refine vx_ofW (cc := cX14_memberNumber) (maxL := 7) (ret := (some .int)) (by decide) rfl ?_
  intro p e s m args below meth c s₁ B hml hnt hv
  obtain ⟨rfl, hsz, hP, hK, hD0, hex, hE⟩ := hv
  have hx := B.exec
  have hb := B.bytes
  have hr := B.returns
  have hlocks := B.notSynchronized
  have hts0 := atoms_spec (ws := wt2 yX14_memberNumber cX14_memberNumber 7 (some .int)) B.pre
  have hts : ∀ w ∈ tb2, w.before _ s = true := fun w h => hts0 w (List.mem_cons_of_mem _ h)
  have hown : s.vm.findClass RX14 = some m.cls := findClass_of_methodNamed B.named
  subst hsz
  have hD := hD0.self (sz := s.heap.size)
  generalize hAe : va_A (Wd g ad S) s.heap.size = A at hD hE ⊢
  have hA : ∀ q : Nat, s.heap.size ≤ q → A q := fun q h => by rw [← hAe]; exact Or.inr h
  have hR : Rep g ad A s S s.heap [] := ⟨hK, hP, hD, va_S.rf, hw⟩
  clear hK hP hD hD0
  have hl := lv_entry ([.ref (ad 0), .int x1, .ref (ad p2), .ref (ad p3)]) (n := 7) (Nat.le_of_ble_eq_true rfl)
  rw [lg_entry_eq]
  generalize (lg_sl ([.ref (ad 0), .int x1, .ref (ad p2), .ref (ad p3)]) ++ List.replicate (7 - (lg_sl ([.ref (ad 0), .int x1, .ref (ad p2), .ref (ad p3)])).length) Slot.unset).toArray = ls at hl ⊢
  have hl : lv_has ls 7 [(0, .ref (ad 0)), (1, .int x1), (2, .ref (ad p2)), (3, .ref (ad p3))] := hl
  have hsh : shy S S := shy.rf
  unfold w_memberNumber at h
  refine lv_aload_n hx hb dX14_memberNumber_0 rfl (lv_at hl 0 rfl) ?_
  refine lv_aload_n hx hb dX14_memberNumber_1 rfl (lv_at hl 0 rfl) ?_
  obtain ⟨hv1, h⟩ := h
  have hT_b2 : qT S (qO S 0 47) = 11 := hR.w.ref hv1 hR.w.1
  refine va_get (D := rD g) (ci := 13) (v := .ref (ad (qO S 0 47))) (C := RX14) (T := TX14) (N := 143) hx hb hts in2X14 hown hR.K hR.P 0 (hR.at14 hR.w.1) rfl 47 (by decide) (hts _ kx_362) (fun _ h9 => h9) (congrArg (fun z => some (vf ad z)) hv1) dX14_memberNumber_2 ?_
  obtain ⟨hv3, h⟩ := h
  have hT_b4 : qT S (qO S (qO S 0 47) 0) = 12 := hR.w.ref hv3 hT_b2
  refine va_get (D := rD g) (ci := 12) (v := .ref (ad (qO S (qO S 0 47) 0))) (C := RX13) (T := TX13) (N := 23) hx hb hts in2X13 hown hR.K hR.P (qO S 0 47) (hR.at13 hT_b2) rfl 0 (by decide) (hts _ kx_551) (fun _ h9 => h9) (congrArg (fun z => some (vf ad z)) hv3) dX14_memberNumber_5 ?_
  obtain ⟨Q5, EQ5, h0, h⟩ := h
  have hFc := rfree hR hA
  refine vx_calli (vx_runV (As := [.ref (ad (qO S (qO S 0 47) 0))]) (rest := []) ⟨hx, hb, hml, hown, hts⟩ (r_classNumber l g ad s.heap.size S (qO S (qO S 0 47) 0) hR.w hT_b4 Q5 EQ5 h0) (cwV 1 hts (gd2_V kx_552 kx_553 kx_554 kx_177 kx_555) rfl rfl rfl (by decide +kernel) ⟨Nat.le_of_ble_eq_true rfl, Nat.le_of_ble_eq_true rfl⟩) ⟨rblind, va_recv hR.K hR.P (ci := 13) (q0 := 0) rfl (hR.at14 hR.w.1), fun U hU hW9 => rmk hU hW9 hR hex hE hFc⟩ rfl rfl hl.1 rfl (lv_room (Nat.le_of_ble_eq_true rfl)) dX14_memberNumber_8 ⟨Nat.le_of_ble_eq_true rfl, Nat.le_of_ble_eq_true rfl⟩) hR.sS (fun q _ h => hFc q h) hFc (fun q _ h => hFc q h) (fun E9 ce9 q9 u9 t9 H1 locs ht9 hvm9 hp9 hB9 hz9 hk9 hS hce9 hcv9 hcl9 => ?_) (fun r6 S7 t9 H1 locs ht9 hvm9 hw9 hB9 hz9 hk9 hS => ?_)
  · obtain ⟨hp9, hwx, hsx⟩ := hp9
    obtain ⟨rfl, hBx⟩ := hB9
    replace h := h.2 u9 hp9
    have hR : Rep g ad A s u9 H1 locs := hR.call ht9 hBx hwx hS hFc
    have hsh := hsh.tr hsx
    exact vx_out (E := RJxb5711) (q := q9) (fun x h9 => (hnt x h9).elim) hlocks hce9 hcv9 hcl9 (fun t9 ht9 ha9 => ⟨u9, ⟨h, hR.w, hsh⟩, ⟨rfl, by rw [ht9]; exact hR.P, hR.D⟩, hR.sS.F ht9⟩) hR.sS.2.2 (Nat.le_of_ble_eq_true rfl) (Nat.le_of_ble_eq_true rfl)
  · obtain ⟨hq8, hw9, hs9⟩ := hw9
    have hR : Rep g ad A s S7 H1 locs := hR.call ht9 hB9 hw9 hS hFc
    have hsh := hsh.tr hs9
    replace h := h.1 r6 S7 hq8
    have hT_p2 := hs9.T hT_p2 (by decide)
    have hT_p3 := hs9.T hT_p3 (by decide)
    clear hB9 hz9 hk9 hvm9 ht9 hw9 hs9 hS
    generalize H1 = H at hR ⊢
    refine lv_istore (lv' := [(4, .int r6), (0, .ref (ad 0)), (1, .int x1), (2, .ref (ad p2)), (3, .ref (ad p3))]) hx hb dX14_memberNumber_11 hl (by decide) rfl (fun ls hl => ?_)
    refine lv_aload_n hx hb dX14_memberNumber_13 rfl (lv_at hl 1 rfl) ?_
    refine lv_aload_n hx hb dX14_memberNumber_14 rfl (lv_at hl 3 rfl) ?_
    obtain ⟨Q9, EQ9, h0, h⟩ := h
    have hFc := rfree hR hA
    refine vx_calli (vx_runV (As := [.ref (ad p2)]) (rest := []) ⟨hx, hb, hml, hown, hts⟩ (r_nameNumber l g ad H.size S7 p2 hR.w hT_p2 Q9 EQ9 h0) (cwV 1 hts (gd2_V kx_547 kx_548 kx_549 kx_177 kx_550) rfl rfl rfl (by decide +kernel) ⟨Nat.le_of_ble_eq_true rfl, Nat.le_of_ble_eq_true rfl⟩) ⟨rblind, va_recv hR.K hR.P (ci := 13) (q0 := 0) rfl (hR.at14 hR.w.1), fun U hU hW9 => rmk hU hW9 hR hex hE hFc⟩ rfl rfl hl.1 rfl (lv_room (Nat.le_of_ble_eq_true rfl)) dX14_memberNumber_15 ⟨Nat.le_of_ble_eq_true rfl, Nat.le_of_ble_eq_true rfl⟩) hR.sS (fun q _ h => hFc q h) hFc (fun q _ h => hFc q h) (fun E9 ce9 q9 u9 t9 H1 locs ht9 hvm9 hp9 hB9 hz9 hk9 hS hce9 hcv9 hcl9 => ?_) (fun r10 S11 t9 H1 locs ht9 hvm9 hw9 hB9 hz9 hk9 hS => ?_)
    · obtain ⟨hp9, hwx, hsx⟩ := hp9
      obtain ⟨rfl, hBx⟩ := hB9
      replace h := h.2 u9 hp9
      have hR : Rep g ad A s u9 H1 locs := hR.call ht9 hBx hwx hS hFc
      have hsh := hsh.tr hsx
      exact vx_out (E := RJxb5711) (q := q9) (fun x h9 => (hnt x h9).elim) hlocks hce9 hcv9 hcl9 (fun t9 ht9 ha9 => ⟨u9, ⟨h, hR.w, hsh⟩, ⟨rfl, by rw [ht9]; exact hR.P, hR.D⟩, hR.sS.F ht9⟩) hR.sS.2.2 (Nat.le_of_ble_eq_true rfl) (Nat.le_of_ble_eq_true rfl)
    · obtain ⟨hq12, hw9, hs9⟩ := hw9
      have hR : Rep g ad A s S11 H1 locs := hR.call ht9 hB9 hw9 hS hFc
      have hsh := hsh.tr hs9
      replace h := h.1 r10 S11 hq12
      have hT_p2 := hs9.T hT_p2 (by decide)
      have hT_p3 := hs9.T hT_p3 (by decide)
      clear hB9 hz9 hk9 hvm9 ht9 hw9 hs9 hS
      generalize H1 = H at hR ⊢
      refine lv_istore (lv' := [(5, .int r10), (4, .int r6), (0, .ref (ad 0)), (1, .int x1), (2, .ref (ad p2)), (3, .ref (ad p3))]) hx hb dX14_memberNumber_18 hl (by decide) rfl (fun ls hl => ?_)
      refine lv_aload_n hx hb dX14_memberNumber_20 rfl (lv_at hl 2 rfl) ?_
      refine lv_aload_n hx hb dX14_memberNumber_21 rfl (lv_at hl 5 rfl) ?_
      obtain ⟨Q13, EQ13, h0, h⟩ := h
      have hFc := rfree hR hA
      refine vx_calli (vx_runV (As := [.ref (ad p3)]) (rest := []) ⟨hx, hb, hml, hown, hts⟩ (r_nameNumber l g ad H.size S11 p3 hR.w hT_p3 Q13 EQ13 h0) (cwV 1 hts (gd2_V kx_547 kx_548 kx_549 kx_177 kx_550) rfl rfl rfl (by decide +kernel) ⟨Nat.le_of_ble_eq_true rfl, Nat.le_of_ble_eq_true rfl⟩) ⟨rblind, va_recv hR.K hR.P (ci := 13) (q0 := 0) rfl (hR.at14 hR.w.1), fun U hU hW9 => rmk hU hW9 hR hex hE hFc⟩ rfl rfl hl.1 rfl (lv_room (Nat.le_of_ble_eq_true rfl)) dX14_memberNumber_22 ⟨Nat.le_of_ble_eq_true rfl, Nat.le_of_ble_eq_true rfl⟩) hR.sS (fun q _ h => hFc q h) hFc (fun q _ h => hFc q h) (fun E9 ce9 q9 u9 t9 H1 locs ht9 hvm9 hp9 hB9 hz9 hk9 hS hce9 hcv9 hcl9 => ?_) (fun r14 S15 t9 H1 locs ht9 hvm9 hw9 hB9 hz9 hk9 hS => ?_)
      · obtain ⟨hp9, hwx, hsx⟩ := hp9
        obtain ⟨rfl, hBx⟩ := hB9
        replace h := h.2 u9 hp9
        have hR : Rep g ad A s u9 H1 locs := hR.call ht9 hBx hwx hS hFc
        have hsh := hsh.tr hsx
        exact vx_out (E := RJxb5711) (q := q9) (fun x h9 => (hnt x h9).elim) hlocks hce9 hcv9 hcl9 (fun t9 ht9 ha9 => ⟨u9, ⟨h, hR.w, hsh⟩, ⟨rfl, by rw [ht9]; exact hR.P, hR.D⟩, hR.sS.F ht9⟩) hR.sS.2.2 (Nat.le_of_ble_eq_true rfl) (Nat.le_of_ble_eq_true rfl)
      · obtain ⟨hq16, hw9, hs9⟩ := hw9
        have hR : Rep g ad A s S15 H1 locs := hR.call ht9 hB9 hw9 hS hFc
        have hsh := hsh.tr hs9
        replace h := h.1 r14 S15 hq16
        have hT_p2 := hs9.T hT_p2 (by decide)
        have hT_p3 := hs9.T hT_p3 (by decide)
        clear hB9 hz9 hk9 hvm9 ht9 hw9 hs9 hS
        generalize H1 = H at hR ⊢
        refine lv_istore (lv' := [(6, .int r14), (5, .int r10), (4, .int r6), (0, .ref (ad 0)), (1, .int x1), (2, .ref (ad p2)), (3, .ref (ad p3))]) hx hb dX14_memberNumber_25 hl (by decide) rfl (fun ls hl => ?_)
        refine lv_aload_n hx hb dX14_memberNumber_27 rfl (lv_at hl 3 rfl) ?_
        refine lv_iload_n hx hb dX14_memberNumber_28 rfl (lv_at hl 4 rfl) ?_
        refine lv_iload hx hb dX14_memberNumber_29 (lv_at hl 2 rfl) ?_
        refine lv_aload_n hx hb dX14_memberNumber_31 rfl (lv_at hl 3 rfl) ?_
        refine lv_bipush (v := 12) hx hb dX14_memberNumber_32 (by decide) ?_
        refine lv_iload hx hb dX14_memberNumber_34 (lv_at hl 1 rfl) ?_
        refine lv_iload hx hb dX14_memberNumber_36 (lv_at hl 0 rfl) ?_
        refine lv_lconst (v := 0) hx hb dX14_memberNumber_38 (by decide) ?_
        have hT_t17 : qT S15 10000032 = 12 := hR.w.txt (i := 16) (by decide)
        refine va_ldcSW (tx := "") (q := ad 10000032) hx hb hown (hE.2.2 _ ldc_721) dX14_memberNumber_39 ?_
        obtain ⟨Q18, EQ18, h0, h⟩ := h
        have hFc := rfree hR hA
        refine vx_calli (vx_runV (As := [.int 12, .int r10, .int r14, .long 0, .ref (ad 10000032)]) (rest := [.int r6, .int x1, .ref (ad 0)]) ⟨hx, hb, hml, hown, hts⟩ (r_needConstant l g ad H.size S15 (12 : Int32) r10 r14 0 10000032 hR.w hT_t17 Q18 EQ18 h0) (cwV 5 hts (gd2_V kx_543 kx_544 kx_545 kx_177 kx_546) rfl rfl rfl (by decide +kernel) ⟨Nat.le_of_ble_eq_true rfl, Nat.le_of_ble_eq_true rfl⟩) ⟨rblind, va_recv hR.K hR.P (ci := 13) (q0 := 0) rfl (hR.at14 hR.w.1), fun U hU hW9 => rmk hU hW9 hR hex hE hFc⟩ rfl rfl hl.1 rfl (lv_room (Nat.le_of_ble_eq_true rfl)) dX14_memberNumber_42 ⟨Nat.le_of_ble_eq_true rfl, Nat.le_of_ble_eq_true rfl⟩) hR.sS (fun q _ h => hFc q h) hFc (fun q _ h => hFc q h) (fun E9 ce9 q9 u9 t9 H1 locs ht9 hvm9 hp9 hB9 hz9 hk9 hS hce9 hcv9 hcl9 => ?_) (fun r19 S20 t9 H1 locs ht9 hvm9 hw9 hB9 hz9 hk9 hS => ?_)
        · obtain ⟨hp9, hwx, hsx⟩ := hp9
          obtain ⟨rfl, hBx⟩ := hB9
          replace h := h.2 u9 hp9
          have hR : Rep g ad A s u9 H1 locs := hR.call ht9 hBx hwx hS hFc
          have hsh := hsh.tr hsx
          exact vx_out (E := RJxb5711) (q := q9) (fun x h9 => (hnt x h9).elim) hlocks hce9 hcv9 hcl9 (fun t9 ht9 ha9 => ⟨u9, ⟨h, hR.w, hsh⟩, ⟨rfl, by rw [ht9]; exact hR.P, hR.D⟩, hR.sS.F ht9⟩) hR.sS.2.2 (Nat.le_of_ble_eq_true rfl) (Nat.le_of_ble_eq_true rfl)
        · obtain ⟨hq21, hw9, hs9⟩ := hw9
          have hR : Rep g ad A s S20 H1 locs := hR.call ht9 hB9 hw9 hS hFc
          have hsh := hsh.tr hs9
          replace h := h.1 r19 S20 hq21
          have hT_p2 := hs9.T hT_p2 (by decide)
          have hT_p3 := hs9.T hT_p3 (by decide)
          clear hB9 hz9 hk9 hvm9 ht9 hw9 hs9 hS
          generalize H1 = H at hR ⊢
          refine lv_lconst (v := 0) hx hb dX14_memberNumber_45 (by decide) ?_
          have hT_t22 : qT S20 10000032 = 12 := hR.w.txt (i := 16) (by decide)
          refine va_ldcSW (tx := "") (q := ad 10000032) hx hb hown (hE.2.2 _ ldc_721) dX14_memberNumber_46 ?_
          obtain ⟨Q23, EQ23, h0, h⟩ := h
          have hFc := rfree hR hA
          refine vx_calli (vx_runV (As := [.int x1, .int r6, .int r19, .long 0, .ref (ad 10000032)]) (rest := []) ⟨hx, hb, hml, hown, hts⟩ (r_needConstant l g ad H.size S20 x1 r6 r19 0 10000032 hR.w hT_t22 Q23 EQ23 h0) (cwV 5 hts (gd2_V kx_543 kx_544 kx_545 kx_177 kx_546) rfl rfl rfl (by decide +kernel) ⟨Nat.le_of_ble_eq_true rfl, Nat.le_of_ble_eq_true rfl⟩) ⟨rblind, va_recv hR.K hR.P (ci := 13) (q0 := 0) rfl (hR.at14 hR.w.1), fun U hU hW9 => rmk hU hW9 hR hex hE hFc⟩ rfl rfl hl.1 rfl (lv_room (Nat.le_of_ble_eq_true rfl)) dX14_memberNumber_49 ⟨Nat.le_of_ble_eq_true rfl, Nat.le_of_ble_eq_true rfl⟩) hR.sS (fun q _ h => hFc q h) hFc (fun q _ h => hFc q h) (fun E9 ce9 q9 u9 t9 H1 locs ht9 hvm9 hp9 hB9 hz9 hk9 hS hce9 hcv9 hcl9 => ?_) (fun r24 S25 t9 H1 locs ht9 hvm9 hw9 hB9 hz9 hk9 hS => ?_)
          · obtain ⟨hp9, hwx, hsx⟩ := hp9
            obtain ⟨rfl, hBx⟩ := hB9
            replace h := h.2 u9 hp9
            have hR : Rep g ad A s u9 H1 locs := hR.call ht9 hBx hwx hS hFc
            have hsh := hsh.tr hsx
            exact vx_out (E := RJxb5711) (q := q9) (fun x h9 => (hnt x h9).elim) hlocks hce9 hcv9 hcl9 (fun t9 ht9 ha9 => ⟨u9, ⟨h, hR.w, hsh⟩, ⟨rfl, by rw [ht9]; exact hR.P, hR.D⟩, hR.sS.F ht9⟩) hR.sS.2.2 (Nat.le_of_ble_eq_true rfl) (Nat.le_of_ble_eq_true rfl)
          · obtain ⟨hq26, hw9, hs9⟩ := hw9
            have hR : Rep g ad A s S25 H1 locs := hR.call ht9 hB9 hw9 hS hFc
            have hsh := hsh.tr hs9
            replace h := h.1 r24 S25 hq26
            have hT_p2 := hs9.T hT_p2 (by decide)
            have hT_p3 := hs9.T hT_p3 (by decide)
            clear hB9 hz9 hk9 hvm9 ht9 hw9 hs9 hS
            generalize H1 = H at hR ⊢
            exact vx_ret (W.iret (v := r24) hx hb hr (fun t9 ht9 hW9 => ⟨⟨_, S25, rfl, ⟨h, hR.w, hsh⟩, ⟨by rw [ht9]; exact hR.P, hR.D⟩⟩, hR.sS.F ht9⟩) hR.sS.2.2 dX14_memberNumber_52)
def f_longOf (S : MS) (x1 : Int32) : Int64 := ((((f_first S x1).toInt64) <<< ((32 : Int32).toInt64 &&& 63)) ||| (((f_second S x1).toInt64) &&& (4294967295 : Int64)))
def d_longOf (S : MS) (x1 : Int32) : Prop := (d_first S x1 ∧ (d_second S x1 ∧ True))
set_option maxHeartbeats 2000000 in
set_option maxRecDepth 100000 in
theorem r_longOf (l : Launch) (g : Gr) (ad : Nat → Nat) (sz : Nat) (S : MS) (x1 : Int32) (hw : wfM S) (hd : d_longOf S x1) : Met l yX14_longOf (wt2 yX14_longOf cX14_longOf 2 (some .long)) ({ frames := 1, cells := 0, slots := 0, locals := 21 }) (va_Pc [.ref (ad 0), .int x1] (st_R g ad sz S)) (va_Ql (fun (r : Int64) (_ : Unit) => r = f_longOf S x1) (fun (_ : Unit) (t : State) => qE g ad (va_A (Wd g ad S) sz) S t) (va_A (Wd g ad S) sz)) 0 0 (va_A (Wd g ad S) sz) := by
  refine Met.ofW (cc := cX14_longOf) (maxL := 2) (ret := (some .long)) (by decide) rfl ?_
  intro p e s m args below meth c s₁ B hml hv
  obtain ⟨rfl, hsz, hP, hK, hD0, hex, hE⟩ := hv
  have hx := B.exec
  have hb := B.bytes
  have hr := B.returns
  have hts0 := atoms_spec (ws := wt2 yX14_longOf cX14_longOf 2 (some .long)) B.pre
  have hts : ∀ w ∈ tb2, w.before _ s = true := fun w h => hts0 w (List.mem_cons_of_mem _ h)
  have hown : s.vm.findClass RX14 = some m.cls := findClass_of_methodNamed B.named
  subst hsz
  have hD := hD0.self (sz := s.heap.size)
  generalize hAe : va_A (Wd g ad S) s.heap.size = A at hD hE ⊢
  have hA : ∀ q : Nat, s.heap.size ≤ q → A q := fun q h => by rw [← hAe]; exact Or.inr h
  have hR : Rep g ad A s S s.heap [] := ⟨hK, hP, hD, va_S.rf, hw⟩
  clear hK hP hD hD0
  have hl := lv_entry ([.ref (ad 0), .int x1]) (n := 2) (Nat.le_of_ble_eq_true rfl)
  rw [lg_entry_eq]
  generalize (lg_sl ([.ref (ad 0), .int x1]) ++ List.replicate (2 - (lg_sl ([.ref (ad 0), .int x1])).length) Slot.unset).toArray = ls at hl ⊢
  have hl : lv_has ls 2 [(0, .ref (ad 0)), (1, .int x1)] := hl
  obtain ⟨r0, hf⟩ : ∃ r0, f_longOf S x1 = r0 := ⟨_, rfl⟩
  have hf0 := hf
  unfold f_longOf at hf
  unfold d_longOf at hd
  refine lv_aload_n hx hb dX14_longOf_0 rfl (lv_at hl 0 rfl) ?_
  refine lv_iload_n hx hb dX14_longOf_1 rfl (lv_at hl 1 rfl) ?_
  obtain ⟨hv1, hd⟩ := hd
  have hFc := rfree hR hA
  refine va_calli (va_runV (As := [.int x1]) (rest := []) ⟨hx, hb, hml, hown, hts⟩ (r_first l g ad s.heap.size S x1 hR.w  hv1) (cwV 1 hts (gd2_V kx_393 kx_394 kx_395 kx_177 kx_396) rfl rfl rfl (by decide +kernel) ⟨Nat.le_of_ble_eq_true rfl, Nat.le_of_ble_eq_true rfl⟩) ⟨rblind, va_recv hR.K hR.P (ci := 13) (q0 := 0) rfl (hR.at14 hR.w.1), fun U hU hW9 => rmk hU hW9 hR hex hE hFc⟩ rfl rfl hl.1 rfl (lv_room (Nat.le_of_ble_eq_true rfl)) dX14_longOf_2 ⟨Nat.le_of_ble_eq_true rfl, Nat.le_of_ble_eq_true rfl⟩) hR.sS (fun q _ h => hFc q h) hFc (fun r2 u9 t9 H1 locs ht9 hvm9 hw9 hB9 hz9 hk9 hS => ?_)
  have hR : Rep g ad A s S H1 locs := hR.call ht9 hB9 hR.w hS hFc
  obtain rfl : r2 = (f_first S x1) := hw9
  clear hB9 hz9 hk9 hvm9 ht9 hS
  generalize H1 = H at hR ⊢
  refine lv_i2l (v := ((f_first S x1).toInt64)) hx hb dX14_longOf_5 rfl ?_
  refine lv_bipush (v := 32) hx hb dX14_longOf_6 (by decide) ?_
  refine lv_lshl (v := (((f_first S x1).toInt64) <<< ((32 : Int32).toInt64 &&& 63))) hx hb dX14_longOf_8 rfl ?_
  refine lv_aload_n hx hb dX14_longOf_9 rfl (lv_at hl 0 rfl) ?_
  refine lv_iload_n hx hb dX14_longOf_10 rfl (lv_at hl 1 rfl) ?_
  obtain ⟨hv4, hd⟩ := hd
  have hFc := rfree hR hA
  refine va_calli (va_runV (As := [.int x1]) (rest := [.long (((f_first S x1).toInt64) <<< ((32 : Int32).toInt64 &&& 63))]) ⟨hx, hb, hml, hown, hts⟩ (r_second l g ad H.size S x1 hR.w  hv4) (cwV 1 hts (gd2_V kx_389 kx_390 kx_391 kx_177 kx_392) rfl rfl rfl (by decide +kernel) ⟨Nat.le_of_ble_eq_true rfl, Nat.le_of_ble_eq_true rfl⟩) ⟨rblind, va_recv hR.K hR.P (ci := 13) (q0 := 0) rfl (hR.at14 hR.w.1), fun U hU hW9 => rmk hU hW9 hR hex hE hFc⟩ rfl rfl hl.1 rfl (lv_room (Nat.le_of_ble_eq_true rfl)) dX14_longOf_11 ⟨Nat.le_of_ble_eq_true rfl, Nat.le_of_ble_eq_true rfl⟩) hR.sS (fun q _ h => hFc q h) hFc (fun r5 u9 t9 H1 locs ht9 hvm9 hw9 hB9 hz9 hk9 hS => ?_)
  have hR : Rep g ad A s S H1 locs := hR.call ht9 hB9 hR.w hS hFc
  obtain rfl : r5 = (f_second S x1) := hw9
  clear hB9 hz9 hk9 hvm9 ht9 hS
  generalize H1 = H at hR ⊢
  refine lv_i2l (v := ((f_second S x1).toInt64)) hx hb dX14_longOf_14 rfl ?_
  refine lv_ldc2 hx hb hown (hts _ kx_216) dX14_longOf_15 ?_
  refine lv_land hx hb dX14_longOf_18 ?_
  refine lv_topl (fun z7 ez7 => ?_)
  obtain rfl : z7 = (((f_second S x1).toInt64) &&& (4294967295 : Int64)) := ez7
  refine lv_lor hx hb dX14_longOf_19 ?_
  refine lv_topl (fun z8 ez8 => ?_)
  obtain rfl : z8 = ((((f_first S x1).toInt64) <<< ((32 : Int32).toInt64 &&& 63)) ||| (((f_second S x1).toInt64) &&& (4294967295 : Int64))) := ez8
  exact W.lret (v := ((((f_first S x1).toInt64) <<< ((32 : Int32).toInt64 &&& 63)) ||| (((f_second S x1).toInt64) &&& (4294967295 : Int64)))) hx hb hr (fun t9 ht9 hW9 => ⟨⟨_, (), rfl, hf.trans hf0.symm, ⟨by rw [ht9]; exact hR.P, hR.D⟩⟩, hR.sS.F ht9⟩) hR.sS.2.2 dX14_longOf_20
def f_isShort_J18 (S : MS) : Int32 := (0 : Int32)
def d_isShort_J18 (S : MS) : Prop := True
def f_isShort (S : MS) (x0 : Int32) : Int32 := (if x0.toInt < (-32768) then f_isShort_J18 S else (if 32767 < x0.toInt then f_isShort_J18 S else (1 : Int32)))
def d_isShort (S : MS) (x0 : Int32) : Prop := (if x0.toInt < (-32768) then d_isShort_J18 S else (if 32767 < x0.toInt then d_isShort_J18 S else True))
set_option maxHeartbeats 2000000 in
set_option maxRecDepth 100000 in
theorem r_isShort (l : Launch) (g : Gr) (ad : Nat → Nat) (sz : Nat) (S : MS) (x0 : Int32) (hw : wfM S) (hd : d_isShort S x0) : Met l yX14_isShort (wt2 yX14_isShort cX14_isShort 1 (some .boolean)) ({ frames := 0, cells := 0, slots := 0, locals := 0 }) (va_Pc [.int x0] (st_R g ad sz S)) (va_Qi (fun (r : Int32) (_ : Unit) => r = f_isShort S x0 ∧ (r = 0 ∨ r = 1)) (fun (_ : Unit) (t : State) => qE g ad (va_A (Wd g ad S) sz) S t) (va_A (Wd g ad S) sz)) 0 0 (va_A (Wd g ad S) sz) := by
  refine Met.ofW (cc := cX14_isShort) (maxL := 1) (ret := (some .boolean)) (by decide) rfl ?_
  intro p e s m args below meth c s₁ B hml hv
  obtain ⟨rfl, hsz, hP, hK, hD0, hex, hE⟩ := hv
  have hx := B.exec
  have hb := B.bytes
  have hr := B.returns
  have hts0 := atoms_spec (ws := wt2 yX14_isShort cX14_isShort 1 (some .boolean)) B.pre
  have hts : ∀ w ∈ tb2, w.before _ s = true := fun w h => hts0 w (List.mem_cons_of_mem _ h)
  have hown : s.vm.findClass RX14 = some m.cls := findClass_of_methodNamed B.named
  subst hsz
  have hD := hD0.self (sz := s.heap.size)
  generalize hAe : va_A (Wd g ad S) s.heap.size = A at hD hE ⊢
  have hA : ∀ q : Nat, s.heap.size ≤ q → A q := fun q h => by rw [← hAe]; exact Or.inr h
  have hR : Rep g ad A s S s.heap [] := ⟨hK, hP, hD, va_S.rf, hw⟩
  clear hK hP hD hD0
  have hl := lv_entry ([.int x0]) (n := 1) (Nat.le_of_ble_eq_true rfl)
  rw [lg_entry_eq]
  generalize (lg_sl ([.int x0]) ++ List.replicate (1 - (lg_sl ([.int x0])).length) Slot.unset).toArray = ls at hl ⊢
  have hl : lv_has ls 1 [(0, .int x0)] := hl
  obtain ⟨r0, hf⟩ : ∃ r0, f_isShort S x0 = r0 := ⟨_, rfl⟩
  have hf0 := hf
  unfold f_isShort at hf
  unfold d_isShort at hd
  refine lv_iload_n hx hb dX14_isShort_0 rfl (lv_at hl 0 rfl) ?_
  refine lv_sipush (v := (-32768)) hx hb dX14_isShort_1 (by decide) ?_
  have J_18 : ∀ (H : Heap) (locs : List Loc) (ls : Array Slot), d_isShort_J18 S → f_isShort_J18 S = r0 → Rep g ad A s S H locs → lv_has ls 1 [] → W p l e (headSpec (wt2 yX14_isShort cX14_isShort 1 (some .boolean)) ({ frames := 0, cells := 0, slots := 0, locals := 0 })).room s m ([.int x0] : List Value).toArray below meth c H locs 0 0 (MQ below (va_Qi (fun (r : Int32) (_ : Unit) => r = f_isShort S x0 ∧ (r = 0 ∨ r = 1)) (fun (_ : Unit) (t : State) => qE g ad A S t) A) ([.int x0] : List Value).toArray s 0 0 A) (F0 m 18 ls []) := by
    intro H locs ls hd hf hR hl
    unfold d_isShort_J18 at hd
    unfold f_isShort_J18 at hf
    refine lv_iconst (v := 0) hx hb dX14_isShort_18 (by decide) ?_
    exact W.zret (v := 0) hx hb hr (nz (Or.inl rfl)) (fun t9 ht9 hW9 => ⟨⟨_, (), rfl, ⟨hf.trans hf0.symm, (Or.inl rfl)⟩, ⟨by rw [ht9]; exact hR.P, hR.D⟩⟩, hR.sS.F ht9⟩) hR.sS.2.2 dX14_isShort_19
  refine lv_icmp_lt (tgt := 18) hx hb dX14_isShort_4 (by decide) (fun c1 => ?_) (fun c1 => ?_)
  · rw [if_pos (k_lt rfl (by decide) c1)] at hf
    (try rw [if_pos (k_lt rfl (by decide) c1)] at hd)
    exact J_18 _ _ ls hd hf  hR (lv_sub hl [] rfl)
  · rw [if_neg (k_nlt rfl (by decide) c1)] at hf
    (try rw [if_neg (k_nlt rfl (by decide) c1)] at hd)
    refine lv_iload_n hx hb dX14_isShort_7 rfl (lv_at hl 0 rfl) ?_
    refine lv_sipush (v := 32767) hx hb dX14_isShort_8 (by decide) ?_
    refine lv_icmp_gt (tgt := 18) hx hb dX14_isShort_11 (by decide) (fun c2 => ?_) (fun c2 => ?_)
    · rw [if_pos (k_lt (by decide) rfl c2)] at hf
      (try rw [if_pos (k_lt (by decide) rfl c2)] at hd)
      exact J_18 _ _ ls hd hf  hR (lv_sub hl [] rfl)
    · rw [if_neg (k_nlt (by decide) rfl c2)] at hf
      (try rw [if_neg (k_nlt (by decide) rfl c2)] at hd)
      refine lv_iconst (v := 1) hx hb dX14_isShort_14 (by decide) ?_
      refine lv_goto (tgt := 19) hx hb dX14_isShort_15 (by decide) ?_
      exact W.zret (v := 1) hx hb hr (nz (Or.inr rfl)) (fun t9 ht9 hW9 => ⟨⟨_, (), rfl, ⟨hf.trans hf0.symm, (Or.inr rfl)⟩, ⟨by rw [ht9]; exact hR.P, hR.D⟩⟩, hR.sS.F ht9⟩) hR.sS.2.2 dX14_isShort_19
def f_isByte_J16 (S : MS) : Int32 := (0 : Int32)
def d_isByte_J16 (S : MS) : Prop := True
def f_isByte (S : MS) (x0 : Int32) : Int32 := (if x0.toInt < (-128) then f_isByte_J16 S else (if 127 < x0.toInt then f_isByte_J16 S else (1 : Int32)))
def d_isByte (S : MS) (x0 : Int32) : Prop := (if x0.toInt < (-128) then d_isByte_J16 S else (if 127 < x0.toInt then d_isByte_J16 S else True))
set_option maxHeartbeats 2000000 in
set_option maxRecDepth 100000 in
theorem r_isByte (l : Launch) (g : Gr) (ad : Nat → Nat) (sz : Nat) (S : MS) (x0 : Int32) (hw : wfM S) (hd : d_isByte S x0) : Met l yX14_isByte (wt2 yX14_isByte cX14_isByte 1 (some .boolean)) ({ frames := 0, cells := 0, slots := 0, locals := 0 }) (va_Pc [.int x0] (st_R g ad sz S)) (va_Qi (fun (r : Int32) (_ : Unit) => r = f_isByte S x0 ∧ (r = 0 ∨ r = 1)) (fun (_ : Unit) (t : State) => qE g ad (va_A (Wd g ad S) sz) S t) (va_A (Wd g ad S) sz)) 0 0 (va_A (Wd g ad S) sz) := by
  refine Met.ofW (cc := cX14_isByte) (maxL := 1) (ret := (some .boolean)) (by decide) rfl ?_
  intro p e s m args below meth c s₁ B hml hv
  obtain ⟨rfl, hsz, hP, hK, hD0, hex, hE⟩ := hv
  have hx := B.exec
  have hb := B.bytes
  have hr := B.returns
  have hts0 := atoms_spec (ws := wt2 yX14_isByte cX14_isByte 1 (some .boolean)) B.pre
  have hts : ∀ w ∈ tb2, w.before _ s = true := fun w h => hts0 w (List.mem_cons_of_mem _ h)
  have hown : s.vm.findClass RX14 = some m.cls := findClass_of_methodNamed B.named
  subst hsz
  have hD := hD0.self (sz := s.heap.size)
  generalize hAe : va_A (Wd g ad S) s.heap.size = A at hD hE ⊢
  have hA : ∀ q : Nat, s.heap.size ≤ q → A q := fun q h => by rw [← hAe]; exact Or.inr h
  have hR : Rep g ad A s S s.heap [] := ⟨hK, hP, hD, va_S.rf, hw⟩
  clear hK hP hD hD0
  have hl := lv_entry ([.int x0]) (n := 1) (Nat.le_of_ble_eq_true rfl)
  rw [lg_entry_eq]
  generalize (lg_sl ([.int x0]) ++ List.replicate (1 - (lg_sl ([.int x0])).length) Slot.unset).toArray = ls at hl ⊢
  have hl : lv_has ls 1 [(0, .int x0)] := hl
  obtain ⟨r0, hf⟩ : ∃ r0, f_isByte S x0 = r0 := ⟨_, rfl⟩
  have hf0 := hf
  unfold f_isByte at hf
  unfold d_isByte at hd
  refine lv_iload_n hx hb dX14_isByte_0 rfl (lv_at hl 0 rfl) ?_
  refine lv_bipush (v := (-128)) hx hb dX14_isByte_1 (by decide) ?_
  have J_16 : ∀ (H : Heap) (locs : List Loc) (ls : Array Slot), d_isByte_J16 S → f_isByte_J16 S = r0 → Rep g ad A s S H locs → lv_has ls 1 [] → W p l e (headSpec (wt2 yX14_isByte cX14_isByte 1 (some .boolean)) ({ frames := 0, cells := 0, slots := 0, locals := 0 })).room s m ([.int x0] : List Value).toArray below meth c H locs 0 0 (MQ below (va_Qi (fun (r : Int32) (_ : Unit) => r = f_isByte S x0 ∧ (r = 0 ∨ r = 1)) (fun (_ : Unit) (t : State) => qE g ad A S t) A) ([.int x0] : List Value).toArray s 0 0 A) (F0 m 16 ls []) := by
    intro H locs ls hd hf hR hl
    unfold d_isByte_J16 at hd
    unfold f_isByte_J16 at hf
    refine lv_iconst (v := 0) hx hb dX14_isByte_16 (by decide) ?_
    exact W.zret (v := 0) hx hb hr (nz (Or.inl rfl)) (fun t9 ht9 hW9 => ⟨⟨_, (), rfl, ⟨hf.trans hf0.symm, (Or.inl rfl)⟩, ⟨by rw [ht9]; exact hR.P, hR.D⟩⟩, hR.sS.F ht9⟩) hR.sS.2.2 dX14_isByte_17
  refine lv_icmp_lt (tgt := 16) hx hb dX14_isByte_3 (by decide) (fun c1 => ?_) (fun c1 => ?_)
  · rw [if_pos (k_lt rfl (by decide) c1)] at hf
    (try rw [if_pos (k_lt rfl (by decide) c1)] at hd)
    exact J_16 _ _ ls hd hf  hR (lv_sub hl [] rfl)
  · rw [if_neg (k_nlt rfl (by decide) c1)] at hf
    (try rw [if_neg (k_nlt rfl (by decide) c1)] at hd)
    refine lv_iload_n hx hb dX14_isByte_6 rfl (lv_at hl 0 rfl) ?_
    refine lv_bipush (v := 127) hx hb dX14_isByte_7 (by decide) ?_
    refine lv_icmp_gt (tgt := 16) hx hb dX14_isByte_9 (by decide) (fun c2 => ?_) (fun c2 => ?_)
    · rw [if_pos (k_lt (by decide) rfl c2)] at hf
      (try rw [if_pos (k_lt (by decide) rfl c2)] at hd)
      exact J_16 _ _ ls hd hf  hR (lv_sub hl [] rfl)
    · rw [if_neg (k_nlt (by decide) rfl c2)] at hf
      (try rw [if_neg (k_nlt (by decide) rfl c2)] at hd)
      refine lv_iconst (v := 1) hx hb dX14_isByte_12 (by decide) ?_
      refine lv_goto (tgt := 17) hx hb dX14_isByte_13 (by decide) ?_
      exact W.zret (v := 1) hx hb hr (nz (Or.inr rfl)) (fun t9 ht9 hW9 => ⟨⟨_, (), rfl, ⟨hf.trans hf0.symm, (Or.inr rfl)⟩, ⟨by rw [ht9]; exact hR.P, hR.D⟩⟩, hR.sS.F ht9⟩) hR.sS.2.2 dX14_isByte_17
def w_needOf_J108 (Q : Int32 → MS → Prop) (E : MS → Prop) (U108 : MS) : Prop := Q (0 : Int32) U108
def w_needOf (S : MS) (x1 : Int32) (Q : Int32 → MS → Prop) (E : MS → Prop) : Prop := (d_op S x1 ∧ (((f_op S x1).toInt = 18 → (d_first S x1 ∧ (d_isShort S (f_first S x1) ∧ (((f_isShort S (f_first S x1)).toInt = 0 → (d_first S x1 ∧ (∃ Q15 EQ15, w_needConstant S (3 : Int32) (0 : Int32) (0 : Int32) ((f_first S x1).toInt64) 10000032 Q15 EQ15 ∧ (∀ r16 S17, Q15 r16 S17 → Q r16 S17) ∧ (∀ u9, EQ15 u9 → E u9)))) ∧ (¬ (f_isShort S (f_first S x1)).toInt = 0 → Q (0 : Int32) S))))) ∧ (¬ (f_op S x1).toInt = 18 → (((f_op S x1).toInt = 20 → (d_longOf S x1 ∧ (((lg_cmp (f_longOf S x1) 0).toInt = 0 → w_needOf_J108 Q E S) ∧ (¬ (lg_cmp (f_longOf S x1) 0).toInt = 0 → (d_longOf S x1 ∧ (((lg_cmp (f_longOf S x1) 1).toInt = 0 → w_needOf_J108 Q E S) ∧ (¬ (lg_cmp (f_longOf S x1) 1).toInt = 0 → (d_longOf S x1 ∧ (∃ Q33 EQ33, w_needConstant S (5 : Int32) (0 : Int32) (0 : Int32) (f_longOf S x1) 10000032 Q33 EQ33 ∧ (∀ r34 S35, Q33 r34 S35 → Q r34 S35) ∧ (∀ u9, EQ33 u9 → E u9)))))))))) ∧ (¬ (f_op S x1).toInt = 20 → (((f_op S x1).toInt = 178 → ((qR S 0 47 = some (qO S 0 47)) ∧ ((qR S (qO S 0 47) 5 = some (qO S (qO S 0 47) 5)) ∧ (d_first S x1 ∧ (((0 : Int) ≤ (f_first S x1).toInt ∧ (f_first S x1).toInt < (qN S (qO S (qO S 0 47) 5) : Int)) ∧ ((qR S (qO S (qO S 0 47) 5) (((f_first S x1).toInt).toNat) = some (qO S (qO S (qO S 0 47) 5) (((f_first S x1).toInt).toNat))) ∧ ((qR S 0 47 = some (qO S 0 47)) ∧ ((qR S (qO S 0 47) 6 = some (qO S (qO S 0 47) 6)) ∧ (d_first S x1 ∧ (((0 : Int) ≤ (f_first S x1).toInt ∧ (f_first S x1).toInt < (qN S (qO S (qO S 0 47) 6) : Int)) ∧ ((qR S (qO S (qO S 0 47) 6) (((f_first S x1).toInt).toNat) = some (qO S (qO S (qO S 0 47) 6) (((f_first S x1).toInt).toNat))) ∧ (∃ Q57 EQ57, w_memberNumber S (9 : Int32) (qO S (qO S (qO S 0 47) 5) (((f_first S x1).toInt).toNat)) (qO S (qO S (qO S 0 47) 6) (((f_first S x1).toInt).toNat)) Q57 EQ57 ∧ (∀ r58 S59, Q57 r58 S59 → Q r58 S59) ∧ (∀ u9, EQ57 u9 → E u9))))))))))))) ∧ (¬ (f_op S x1).toInt = 178 → (((f_op S x1).toInt = 179 → ((qR S 0 47 = some (qO S 0 47)) ∧ ((qR S (qO S 0 47) 5 = some (qO S (qO S 0 47) 5)) ∧ (d_first S x1 ∧ (((0 : Int) ≤ (f_first S x1).toInt ∧ (f_first S x1).toInt < (qN S (qO S (qO S 0 47) 5) : Int)) ∧ ((qR S (qO S (qO S 0 47) 5) (((f_first S x1).toInt).toNat) = some (qO S (qO S (qO S 0 47) 5) (((f_first S x1).toInt).toNat))) ∧ ((qR S 0 47 = some (qO S 0 47)) ∧ ((qR S (qO S 0 47) 6 = some (qO S (qO S 0 47) 6)) ∧ (d_first S x1 ∧ (((0 : Int) ≤ (f_first S x1).toInt ∧ (f_first S x1).toInt < (qN S (qO S (qO S 0 47) 6) : Int)) ∧ ((qR S (qO S (qO S 0 47) 6) (((f_first S x1).toInt).toNat) = some (qO S (qO S (qO S 0 47) 6) (((f_first S x1).toInt).toNat))) ∧ (∃ Q81 EQ81, w_memberNumber S (9 : Int32) (qO S (qO S (qO S 0 47) 5) (((f_first S x1).toInt).toNat)) (qO S (qO S (qO S 0 47) 6) (((f_first S x1).toInt).toNat)) Q81 EQ81 ∧ (∀ r82 S83, Q81 r82 S83 → Q r82 S83) ∧ (∀ u9, EQ81 u9 → E u9))))))))))))) ∧ (¬ (f_op S x1).toInt = 179 → (((f_op S x1).toInt = 184 → ((qR S 0 47 = some (qO S 0 47)) ∧ ((qR S (qO S 0 47) 8 = some (qO S (qO S 0 47) 8)) ∧ (d_first S x1 ∧ (((0 : Int) ≤ (f_first S x1).toInt ∧ (f_first S x1).toInt < (qN S (qO S (qO S 0 47) 8) : Int)) ∧ ((qR S (qO S (qO S 0 47) 8) (((f_first S x1).toInt).toNat) = some (qO S (qO S (qO S 0 47) 8) (((f_first S x1).toInt).toNat))) ∧ ((qR S 0 47 = some (qO S 0 47)) ∧ ((qR S (qO S 0 47) 9 = some (qO S (qO S 0 47) 9)) ∧ (d_first S x1 ∧ (((0 : Int) ≤ (f_first S x1).toInt ∧ (f_first S x1).toInt < (qN S (qO S (qO S 0 47) 9) : Int)) ∧ ((qR S (qO S (qO S 0 47) 9) (((f_first S x1).toInt).toNat) = some (qO S (qO S (qO S 0 47) 9) (((f_first S x1).toInt).toNat))) ∧ (∃ Q105 EQ105, w_memberNumber S (10 : Int32) (qO S (qO S (qO S 0 47) 8) (((f_first S x1).toInt).toNat)) (qO S (qO S (qO S 0 47) 9) (((f_first S x1).toInt).toNat)) Q105 EQ105 ∧ (∀ r106 S107, Q105 r106 S107 → Q r106 S107) ∧ (∀ u9, EQ105 u9 → E u9))))))))))))) ∧ (¬ (f_op S x1).toInt = 184 → Q (0 : Int32) S)))))))))))
set_option maxHeartbeats 2000000 in
set_option maxRecDepth 100000 in
theorem r_needOf (l : Launch) (g : Gr) (ad : Nat → Nat) (sz : Nat) (S : MS) (x1 : Int32) (hw : wfM S) (Q : Int32 → MS → Prop) (E : MS → Prop) (h : w_needOf S x1 Q E) : vx_Met l yX14_needOf (wt2 yX14_needOf cX14_needOf 2 (some .int)) ({ frames := 6, cells := 0, slots := 0, locals := 140 }) (va_Pc [.ref (ad 0), .int x1] (st_R g ad sz S)) (va_Qi (fun (r : Int32) (u : MS) => Q r u ∧ wfM u ∧ shy S u) (fun (u : MS) (t : State) => qE g ad (va_A (Wd g ad S) sz) u t) (va_A (Wd g ad S) sz)) (vx_X (fun (u : MS) => E u ∧ wfM u ∧ shy S u) (fun (n9 : String) (u : MS) (t : State) => n9 = RJxb5711 ∧ qE g ad (va_A (Wd g ad S) sz) u t) (va_A (Wd g ad S) sz)) 0 0 (va_A (Wd g ad S) sz) := by
  refine vx_ofW (cc := cX14_needOf) (maxL := 2) (ret := (some .int)) (by decide) rfl ?_
  intro p e s m args below meth c s₁ B hml hnt hv
  obtain ⟨rfl, hsz, hP, hK, hD0, hex, hE⟩ := hv
  have hx := B.exec
  have hb := B.bytes
  have hr := B.returns
  have hlocks := B.notSynchronized
  have hts0 := atoms_spec (ws := wt2 yX14_needOf cX14_needOf 2 (some .int)) B.pre
  have hts : ∀ w ∈ tb2, w.before _ s = true := fun w h => hts0 w (List.mem_cons_of_mem _ h)
  have hown : s.vm.findClass RX14 = some m.cls := findClass_of_methodNamed B.named
  subst hsz
  have hD := hD0.self (sz := s.heap.size)
  generalize hAe : va_A (Wd g ad S) s.heap.size = A at hD hE ⊢
  have hA : ∀ q : Nat, s.heap.size ≤ q → A q := fun q h => by rw [← hAe]; exact Or.inr h
  have hR : Rep g ad A s S s.heap [] := ⟨hK, hP, hD, va_S.rf, hw⟩
  clear hK hP hD hD0
  have hl := lv_entry ([.ref (ad 0), .int x1]) (n := 2) (Nat.le_of_ble_eq_true rfl)
  rw [lg_entry_eq]
  generalize (lg_sl ([.ref (ad 0), .int x1]) ++ List.replicate (2 - (lg_sl ([.ref (ad 0), .int x1])).length) Slot.unset).toArray = ls at hl ⊢
  have hl : lv_has ls 2 [(0, .ref (ad 0)), (1, .int x1)] := hl
  have hsh : shy S S := shy.rf
  unfold w_needOf at h
  refine lv_aload_n hx hb dX14_needOf_0 rfl (lv_at hl 0 rfl) ?_
  refine lv_iload_n hx hb dX14_needOf_1 rfl (lv_at hl 1 rfl) ?_
  obtain ⟨hv1, h⟩ := h
  have hFc := rfree hR hA
  refine va_calli (va_runV (As := [.int x1]) (rest := []) ⟨hx, hb, hml, hown, hts⟩ (r_op l g ad s.heap.size S x1 hR.w  hv1) (cwV 1 hts (gd2_V kx_379 kx_380 kx_381 kx_177 kx_382) rfl rfl rfl (by decide +kernel) ⟨Nat.le_of_ble_eq_true rfl, Nat.le_of_ble_eq_true rfl⟩) ⟨rblind, va_recv hR.K hR.P (ci := 13) (q0 := 0) rfl (hR.at14 hR.w.1), fun U hU hW9 => rmk hU hW9 hR hex hE hFc⟩ rfl rfl hl.1 rfl (lv_room (Nat.le_of_ble_eq_true rfl)) dX14_needOf_2 ⟨Nat.le_of_ble_eq_true rfl, Nat.le_of_ble_eq_true rfl⟩) hR.sS (fun q _ h => hFc q h) hFc (fun r2 u9 t9 H1 locs ht9 hvm9 hw9 hB9 hz9 hk9 hS => ?_)
  have hR : Rep g ad A s S H1 locs := hR.call ht9 hB9 hR.w hS hFc
  obtain rfl : r2 = (f_op S x1) := hw9
  clear hB9 hz9 hk9 hvm9 ht9 hS
  generalize H1 = H at hR ⊢
  by_cases c9_18 : (f_op S x1).toInt = 18
  · refine lv_lookup (off := 51) (tgt := 56) hx hb dX14_needOf_5 (by decide) (by rw [c9_18]; decide) (by decide) ?_
    replace h := h.1 (c9_18)
    refine lv_aload_n hx hb dX14_needOf_56 rfl (lv_at hl 0 rfl) ?_
    refine lv_iload_n hx hb dX14_needOf_57 rfl (lv_at hl 1 rfl) ?_
    obtain ⟨hv4, h⟩ := h
    have hFc := rfree hR hA
    refine va_calli (va_runV (As := [.int x1]) (rest := []) ⟨hx, hb, hml, hown, hts⟩ (r_first l g ad H.size S x1 hR.w  hv4) (cwV 1 hts (gd2_V kx_393 kx_394 kx_395 kx_177 kx_396) rfl rfl rfl (by decide +kernel) ⟨Nat.le_of_ble_eq_true rfl, Nat.le_of_ble_eq_true rfl⟩) ⟨rblind, va_recv hR.K hR.P (ci := 13) (q0 := 0) rfl (hR.at14 hR.w.1), fun U hU hW9 => rmk hU hW9 hR hex hE hFc⟩ rfl rfl hl.1 rfl (lv_room (Nat.le_of_ble_eq_true rfl)) dX14_needOf_58 ⟨Nat.le_of_ble_eq_true rfl, Nat.le_of_ble_eq_true rfl⟩) hR.sS (fun q _ h => hFc q h) hFc (fun r5 u9 t9 H1 locs ht9 hvm9 hw9 hB9 hz9 hk9 hS => ?_)
    have hR : Rep g ad A s S H1 locs := hR.call ht9 hB9 hR.w hS hFc
    obtain rfl : r5 = (f_first S x1) := hw9
    clear hB9 hz9 hk9 hvm9 ht9 hS
    generalize H1 = H at hR ⊢
    obtain ⟨hv7, h⟩ := h
    have hFc := rfree hR hA
    refine va_calli (va_runS (As := [.int (f_first S x1)]) (rest := []) ⟨hx, hb, hml, hown, hts⟩ (r_isShort l g ad H.size S (f_first S x1) hR.w  hv7) (va_cwS 1 hts (gd2_S kx_556 kx_557 kx_177 kx_558) rfl rfl rfl (by decide +kernel) ⟨Nat.le_of_ble_eq_true rfl, Nat.le_of_ble_eq_true rfl⟩) ⟨rblind, fun U hU hW9 => rmk hU hW9 hR hex hE hFc⟩ rfl rfl hl.1 rfl (lv_room (Nat.le_of_ble_eq_true rfl)) dX14_needOf_61 ⟨Nat.le_of_ble_eq_true rfl, Nat.le_of_ble_eq_true rfl⟩) hR.sS (fun q _ h => hFc q h) hFc (fun r8 u9 t9 H1 locs ht9 hvm9 hw9 hB9 hz9 hk9 hS => ?_)
    have hR : Rep g ad A s S H1 locs := hR.call ht9 hB9 hR.w hS hFc
    obtain ⟨rfl, hz_r8⟩ := hw9
    clear hB9 hz9 hk9 hvm9 ht9 hS
    generalize H1 = H at hR ⊢
    refine lv_if_eq (tgt := 71) hx hb dX14_needOf_64 (by decide) (fun c10 => ?_) (fun c10 => ?_)
    · replace h := h.1 (k_eq rfl (by decide) c10)
      refine lv_aload_n hx hb dX14_needOf_71 rfl (lv_at hl 0 rfl) ?_
      refine lv_iconst (v := 3) hx hb dX14_needOf_72 (by decide) ?_
      refine lv_iconst (v := 0) hx hb dX14_needOf_73 (by decide) ?_
      refine lv_iconst (v := 0) hx hb dX14_needOf_74 (by decide) ?_
      refine lv_aload_n hx hb dX14_needOf_75 rfl (lv_at hl 0 rfl) ?_
      refine lv_iload_n hx hb dX14_needOf_76 rfl (lv_at hl 1 rfl) ?_
      obtain ⟨hv11, h⟩ := h
      have hFc := rfree hR hA
      refine va_calli (va_runV (As := [.int x1]) (rest := [.int 0, .int 0, .int 3, .ref (ad 0)]) ⟨hx, hb, hml, hown, hts⟩ (r_first l g ad H.size S x1 hR.w  hv11) (cwV 1 hts (gd2_V kx_393 kx_394 kx_395 kx_177 kx_396) rfl rfl rfl (by decide +kernel) ⟨Nat.le_of_ble_eq_true rfl, Nat.le_of_ble_eq_true rfl⟩) ⟨rblind, va_recv hR.K hR.P (ci := 13) (q0 := 0) rfl (hR.at14 hR.w.1), fun U hU hW9 => rmk hU hW9 hR hex hE hFc⟩ rfl rfl hl.1 rfl (lv_room (Nat.le_of_ble_eq_true rfl)) dX14_needOf_77 ⟨Nat.le_of_ble_eq_true rfl, Nat.le_of_ble_eq_true rfl⟩) hR.sS (fun q _ h => hFc q h) hFc (fun r12 u9 t9 H1 locs ht9 hvm9 hw9 hB9 hz9 hk9 hS => ?_)
      have hR : Rep g ad A s S H1 locs := hR.call ht9 hB9 hR.w hS hFc
      obtain rfl : r12 = (f_first S x1) := hw9
      clear hB9 hz9 hk9 hvm9 ht9 hS
      generalize H1 = H at hR ⊢
      refine lv_i2l (v := ((f_first S x1).toInt64)) hx hb dX14_needOf_80 rfl ?_
      have hT_t14 : qT S 10000032 = 12 := hR.w.txt (i := 16) (by decide)
      refine va_ldcSW (tx := "") (q := ad 10000032) hx hb hown (hE.2.2 _ ldc_721) dX14_needOf_81 ?_
      obtain ⟨Q15, EQ15, h0, h⟩ := h
      have hFc := rfree hR hA
      refine vx_calli (vx_runV (As := [.int 3, .int 0, .int 0, .long ((f_first S x1).toInt64), .ref (ad 10000032)]) (rest := []) ⟨hx, hb, hml, hown, hts⟩ (r_needConstant l g ad H.size S (3 : Int32) (0 : Int32) (0 : Int32) ((f_first S x1).toInt64) 10000032 hR.w hT_t14 Q15 EQ15 h0) (cwV 5 hts (gd2_V kx_543 kx_544 kx_545 kx_177 kx_546) rfl rfl rfl (by decide +kernel) ⟨Nat.le_of_ble_eq_true rfl, Nat.le_of_ble_eq_true rfl⟩) ⟨rblind, va_recv hR.K hR.P (ci := 13) (q0 := 0) rfl (hR.at14 hR.w.1), fun U hU hW9 => rmk hU hW9 hR hex hE hFc⟩ rfl rfl hl.1 rfl (lv_room (Nat.le_of_ble_eq_true rfl)) dX14_needOf_84 ⟨Nat.le_of_ble_eq_true rfl, Nat.le_of_ble_eq_true rfl⟩) hR.sS (fun q _ h => hFc q h) hFc (fun q _ h => hFc q h) (fun E9 ce9 q9 u9 t9 H1 locs ht9 hvm9 hp9 hB9 hz9 hk9 hS hce9 hcv9 hcl9 => ?_) (fun r16 S17 t9 H1 locs ht9 hvm9 hw9 hB9 hz9 hk9 hS => ?_)
      · obtain ⟨hp9, hwx, hsx⟩ := hp9
        obtain ⟨rfl, hBx⟩ := hB9
        replace h := h.2 u9 hp9
        have hR : Rep g ad A s u9 H1 locs := hR.call ht9 hBx hwx hS hFc
        have hsh := hsh.tr hsx
        exact vx_out (E := RJxb5711) (q := q9) (fun x h9 => (hnt x h9).elim) hlocks hce9 hcv9 hcl9 (fun t9 ht9 ha9 => ⟨u9, ⟨h, hR.w, hsh⟩, ⟨rfl, by rw [ht9]; exact hR.P, hR.D⟩, hR.sS.F ht9⟩) hR.sS.2.2 (Nat.le_of_ble_eq_true rfl) (Nat.le_of_ble_eq_true rfl)
      · obtain ⟨hq18, hw9, hs9⟩ := hw9
        have hR : Rep g ad A s S17 H1 locs := hR.call ht9 hB9 hw9 hS hFc
        have hsh := hsh.tr hs9
        replace h := h.1 r16 S17 hq18
        clear hB9 hz9 hk9 hvm9 ht9 hw9 hs9 hS
        generalize H1 = H at hR ⊢
        exact vx_ret (W.iret (v := r16) hx hb hr (fun t9 ht9 hW9 => ⟨⟨_, S17, rfl, ⟨h, hR.w, hsh⟩, ⟨by rw [ht9]; exact hR.P, hR.D⟩⟩, hR.sS.F ht9⟩) hR.sS.2.2 dX14_needOf_87)
    · replace h := h.2 (k_ne rfl (by decide) c10)
      refine lv_iconst (v := 0) hx hb dX14_needOf_67 (by decide) ?_
      refine lv_goto (tgt := 87) hx hb dX14_needOf_68 (by decide) ?_
      exact vx_ret (W.iret (v := 0) hx hb hr (fun t9 ht9 hW9 => ⟨⟨_, S, rfl, ⟨h, hR.w, hsh⟩, ⟨by rw [ht9]; exact hR.P, hR.D⟩⟩, hR.sS.F ht9⟩) hR.sS.2.2 dX14_needOf_87)
  replace h := h.2 c9_18
  by_cases c9_20 : (f_op S x1).toInt = 20
  · refine lv_lookup (off := 83) (tgt := 88) hx hb dX14_needOf_5 (by decide) (by rw [c9_20]; decide) (by decide) ?_
    replace h := h.1 (c9_20)
    refine lv_aload_n hx hb dX14_needOf_88 rfl (lv_at hl 0 rfl) ?_
    refine lv_iload_n hx hb dX14_needOf_89 rfl (lv_at hl 1 rfl) ?_
    obtain ⟨hv19, h⟩ := h
    have hFc := rfree hR hA
    refine va_calll (va_runV (As := [.int x1]) (rest := []) ⟨hx, hb, hml, hown, hts⟩ (r_longOf l g ad H.size S x1 hR.w  hv19) (cwV 1 hts (gd2_V kx_559 kx_560 kx_561 kx_177 kx_562) rfl rfl rfl (by decide +kernel) ⟨Nat.le_of_ble_eq_true rfl, Nat.le_of_ble_eq_true rfl⟩) ⟨rblind, va_recv hR.K hR.P (ci := 13) (q0 := 0) rfl (hR.at14 hR.w.1), fun U hU hW9 => rmk hU hW9 hR hex hE hFc⟩ rfl rfl hl.1 rfl (lv_room (Nat.le_of_ble_eq_true rfl)) dX14_needOf_90 ⟨Nat.le_of_ble_eq_true rfl, Nat.le_of_ble_eq_true rfl⟩) hR.sS (fun q _ h => hFc q h) hFc (fun r20 u9 t9 H1 locs ht9 hvm9 hw9 hB9 hz9 hk9 hS => ?_)
    have hR : Rep g ad A s S H1 locs := hR.call ht9 hB9 hR.w hS hFc
    obtain rfl : r20 = (f_longOf S x1) := hw9
    clear hB9 hz9 hk9 hvm9 ht9 hS
    generalize H1 = H at hR ⊢
    refine lv_lconst (v := 0) hx hb dX14_needOf_93 (by decide) ?_
    refine W.lcmp hx hb dX14_needOf_94 ?_
    refine lv_topi (fun z22 ez22 => ?_)
    obtain rfl : z22 = (lg_cmp (f_longOf S x1) 0) := ez22
    have J_108 : ∀ (U108 : MS) (H : Heap) (locs : List Loc) (ls : Array Slot), w_needOf_J108 Q E U108 → shy S U108 → Rep g ad A s U108 H locs → lv_has ls 2 [] → W p l e (headSpec (wt2 yX14_needOf cX14_needOf 2 (some .int)) ({ frames := 6, cells := 0, slots := 0, locals := 140 })).room s m ([.ref (ad 0), .int x1] : List Value).toArray below meth c H locs 0 0 (vx_MQ below (va_Qi (fun (r : Int32) (u : MS) => Q r u ∧ wfM u ∧ shy S u) (fun (u : MS) (t : State) => qE g ad A u t) A) ((vx_X (fun (u : MS) => E u ∧ wfM u ∧ shy S u) (fun (n9 : String) (u : MS) (t : State) => n9 = RJxb5711 ∧ qE g ad A u t) A)) ([.ref (ad 0), .int x1] : List Value).toArray s 0 0 A) (F0 m 108 ls []) := by
      intro U108 H locs ls h hsh hR hl
      unfold w_needOf_J108 at h
      refine lv_iconst (v := 0) hx hb dX14_needOf_108 (by decide) ?_
      refine lv_goto (tgt := 127) hx hb dX14_needOf_109 (by decide) ?_
      exact vx_ret (W.iret (v := 0) hx hb hr (fun t9 ht9 hW9 => ⟨⟨_, U108, rfl, ⟨h, hR.w, hsh⟩, ⟨by rw [ht9]; exact hR.P, hR.D⟩⟩, hR.sS.F ht9⟩) hR.sS.2.2 dX14_needOf_127)
    refine lv_if_eq (tgt := 108) hx hb dX14_needOf_95 (by decide) (fun c23 => ?_) (fun c23 => ?_)
    · replace h := h.1 (k_eq rfl (by decide) c23)
      exact J_108 S _ _ ls h  hsh hR (lv_sub hl [] rfl)
    · replace h := h.2 (k_ne rfl (by decide) c23)
      refine lv_aload_n hx hb dX14_needOf_98 rfl (lv_at hl 0 rfl) ?_
      refine lv_iload_n hx hb dX14_needOf_99 rfl (lv_at hl 1 rfl) ?_
      obtain ⟨hv24, h⟩ := h
      have hFc := rfree hR hA
      refine va_calll (va_runV (As := [.int x1]) (rest := []) ⟨hx, hb, hml, hown, hts⟩ (r_longOf l g ad H.size S x1 hR.w  hv24) (cwV 1 hts (gd2_V kx_559 kx_560 kx_561 kx_177 kx_562) rfl rfl rfl (by decide +kernel) ⟨Nat.le_of_ble_eq_true rfl, Nat.le_of_ble_eq_true rfl⟩) ⟨rblind, va_recv hR.K hR.P (ci := 13) (q0 := 0) rfl (hR.at14 hR.w.1), fun U hU hW9 => rmk hU hW9 hR hex hE hFc⟩ rfl rfl hl.1 rfl (lv_room (Nat.le_of_ble_eq_true rfl)) dX14_needOf_100 ⟨Nat.le_of_ble_eq_true rfl, Nat.le_of_ble_eq_true rfl⟩) hR.sS (fun q _ h => hFc q h) hFc (fun r25 u9 t9 H1 locs ht9 hvm9 hw9 hB9 hz9 hk9 hS => ?_)
      have hR : Rep g ad A s S H1 locs := hR.call ht9 hB9 hR.w hS hFc
      obtain rfl : r25 = (f_longOf S x1) := hw9
      clear hB9 hz9 hk9 hvm9 ht9 hS
      generalize H1 = H at hR ⊢
      refine lv_lconst (v := 1) hx hb dX14_needOf_103 (by decide) ?_
      refine W.lcmp hx hb dX14_needOf_104 ?_
      refine lv_topi (fun z27 ez27 => ?_)
      obtain rfl : z27 = (lg_cmp (f_longOf S x1) 1) := ez27
      refine lv_if_ne (tgt := 112) hx hb dX14_needOf_105 (by decide) (fun c28 => ?_) (fun c28 => ?_)
      · replace h := h.2 (k_ne rfl (by decide) c28)
        refine lv_aload_n hx hb dX14_needOf_112 rfl (lv_at hl 0 rfl) ?_
        refine lv_iconst (v := 5) hx hb dX14_needOf_113 (by decide) ?_
        refine lv_iconst (v := 0) hx hb dX14_needOf_114 (by decide) ?_
        refine lv_iconst (v := 0) hx hb dX14_needOf_115 (by decide) ?_
        refine lv_aload_n hx hb dX14_needOf_116 rfl (lv_at hl 0 rfl) ?_
        refine lv_iload_n hx hb dX14_needOf_117 rfl (lv_at hl 1 rfl) ?_
        obtain ⟨hv29, h⟩ := h
        have hFc := rfree hR hA
        refine va_calll (va_runV (As := [.int x1]) (rest := [.int 0, .int 0, .int 5, .ref (ad 0)]) ⟨hx, hb, hml, hown, hts⟩ (r_longOf l g ad H.size S x1 hR.w  hv29) (cwV 1 hts (gd2_V kx_559 kx_560 kx_561 kx_177 kx_562) rfl rfl rfl (by decide +kernel) ⟨Nat.le_of_ble_eq_true rfl, Nat.le_of_ble_eq_true rfl⟩) ⟨rblind, va_recv hR.K hR.P (ci := 13) (q0 := 0) rfl (hR.at14 hR.w.1), fun U hU hW9 => rmk hU hW9 hR hex hE hFc⟩ rfl rfl hl.1 rfl (lv_room (Nat.le_of_ble_eq_true rfl)) dX14_needOf_118 ⟨Nat.le_of_ble_eq_true rfl, Nat.le_of_ble_eq_true rfl⟩) hR.sS (fun q _ h => hFc q h) hFc (fun r30 u9 t9 H1 locs ht9 hvm9 hw9 hB9 hz9 hk9 hS => ?_)
        have hR : Rep g ad A s S H1 locs := hR.call ht9 hB9 hR.w hS hFc
        obtain rfl : r30 = (f_longOf S x1) := hw9
        clear hB9 hz9 hk9 hvm9 ht9 hS
        generalize H1 = H at hR ⊢
        have hT_t32 : qT S 10000032 = 12 := hR.w.txt (i := 16) (by decide)
        refine va_ldcSW (tx := "") (q := ad 10000032) hx hb hown (hE.2.2 _ ldc_721) dX14_needOf_121 ?_
        obtain ⟨Q33, EQ33, h0, h⟩ := h
        have hFc := rfree hR hA
        refine vx_calli (vx_runV (As := [.int 5, .int 0, .int 0, .long (f_longOf S x1), .ref (ad 10000032)]) (rest := []) ⟨hx, hb, hml, hown, hts⟩ (r_needConstant l g ad H.size S (5 : Int32) (0 : Int32) (0 : Int32) (f_longOf S x1) 10000032 hR.w hT_t32 Q33 EQ33 h0) (cwV 5 hts (gd2_V kx_543 kx_544 kx_545 kx_177 kx_546) rfl rfl rfl (by decide +kernel) ⟨Nat.le_of_ble_eq_true rfl, Nat.le_of_ble_eq_true rfl⟩) ⟨rblind, va_recv hR.K hR.P (ci := 13) (q0 := 0) rfl (hR.at14 hR.w.1), fun U hU hW9 => rmk hU hW9 hR hex hE hFc⟩ rfl rfl hl.1 rfl (lv_room (Nat.le_of_ble_eq_true rfl)) dX14_needOf_124 ⟨Nat.le_of_ble_eq_true rfl, Nat.le_of_ble_eq_true rfl⟩) hR.sS (fun q _ h => hFc q h) hFc (fun q _ h => hFc q h) (fun E9 ce9 q9 u9 t9 H1 locs ht9 hvm9 hp9 hB9 hz9 hk9 hS hce9 hcv9 hcl9 => ?_) (fun r34 S35 t9 H1 locs ht9 hvm9 hw9 hB9 hz9 hk9 hS => ?_)
        · obtain ⟨hp9, hwx, hsx⟩ := hp9
          obtain ⟨rfl, hBx⟩ := hB9
          replace h := h.2 u9 hp9
          have hR : Rep g ad A s u9 H1 locs := hR.call ht9 hBx hwx hS hFc
          have hsh := hsh.tr hsx
          exact vx_out (E := RJxb5711) (q := q9) (fun x h9 => (hnt x h9).elim) hlocks hce9 hcv9 hcl9 (fun t9 ht9 ha9 => ⟨u9, ⟨h, hR.w, hsh⟩, ⟨rfl, by rw [ht9]; exact hR.P, hR.D⟩, hR.sS.F ht9⟩) hR.sS.2.2 (Nat.le_of_ble_eq_true rfl) (Nat.le_of_ble_eq_true rfl)
        · obtain ⟨hq36, hw9, hs9⟩ := hw9
          have hR : Rep g ad A s S35 H1 locs := hR.call ht9 hB9 hw9 hS hFc
          have hsh := hsh.tr hs9
          replace h := h.1 r34 S35 hq36
          clear hB9 hz9 hk9 hvm9 ht9 hw9 hs9 hS
          generalize H1 = H at hR ⊢
          exact vx_ret (W.iret (v := r34) hx hb hr (fun t9 ht9 hW9 => ⟨⟨_, S35, rfl, ⟨h, hR.w, hsh⟩, ⟨by rw [ht9]; exact hR.P, hR.D⟩⟩, hR.sS.F ht9⟩) hR.sS.2.2 dX14_needOf_127)
      · replace h := h.1 (k_eq rfl (by decide) c28)
        exact J_108 S _ _ ls h  hsh hR (lv_sub hl [] rfl)
  replace h := h.2 c9_20
  by_cases c9_178 : (f_op S x1).toInt = 178
  · refine lv_lookup (off := 123) (tgt := 128) hx hb dX14_needOf_5 (by decide) (by rw [c9_178]; decide) (by decide) ?_
    replace h := h.1 (c9_178)
    refine lv_aload_n hx hb dX14_needOf_128 rfl (lv_at hl 0 rfl) ?_
    refine lv_bipush (v := 9) hx hb dX14_needOf_129 (by decide) ?_
    refine lv_aload_n hx hb dX14_needOf_131 rfl (lv_at hl 0 rfl) ?_
    obtain ⟨hv37, h⟩ := h
    have hT_b38 : qT S (qO S 0 47) = 11 := hR.w.ref hv37 hR.w.1
    refine va_get (D := rD g) (ci := 13) (v := .ref (ad (qO S 0 47))) (C := RX14) (T := TX14) (N := 143) hx hb hts in2X14 hown hR.K hR.P 0 (hR.at14 hR.w.1) rfl 47 (by decide) (hts _ kx_362) (fun _ h9 => h9) (congrArg (fun z => some (vf ad z)) hv37) dX14_needOf_132 ?_
    obtain ⟨hv39, h⟩ := h
    have hT_b40 : qT S (qO S (qO S 0 47) 5) = 5 := hR.w.ref hv39 hT_b38
    refine va_get (D := rD g) (ci := 12) (v := .ref (ad (qO S (qO S 0 47) 5))) (C := RX13) (T := TX13) (N := 23) hx hb hts in2X13 hown hR.K hR.P (qO S 0 47) (hR.at13 hT_b38) rfl 5 (by decide) (hts _ kx_563) (fun _ h9 => h9) (congrArg (fun z => some (vf ad z)) hv39) dX14_needOf_135 ?_
    refine lv_aload_n hx hb dX14_needOf_138 rfl (lv_at hl 0 rfl) ?_
    refine lv_iload_n hx hb dX14_needOf_139 rfl (lv_at hl 1 rfl) ?_
    obtain ⟨hv41, h⟩ := h
    have hFc := rfree hR hA
    refine va_calli (va_runV (As := [.int x1]) (rest := [.ref (ad (qO S (qO S 0 47) 5)), .int 9, .ref (ad 0)]) ⟨hx, hb, hml, hown, hts⟩ (r_first l g ad H.size S x1 hR.w  hv41) (cwV 1 hts (gd2_V kx_393 kx_394 kx_395 kx_177 kx_396) rfl rfl rfl (by decide +kernel) ⟨Nat.le_of_ble_eq_true rfl, Nat.le_of_ble_eq_true rfl⟩) ⟨rblind, va_recv hR.K hR.P (ci := 13) (q0 := 0) rfl (hR.at14 hR.w.1), fun U hU hW9 => rmk hU hW9 hR hex hE hFc⟩ rfl rfl hl.1 rfl (lv_room (Nat.le_of_ble_eq_true rfl)) dX14_needOf_140 ⟨Nat.le_of_ble_eq_true rfl, Nat.le_of_ble_eq_true rfl⟩) hR.sS (fun q _ h => hFc q h) hFc (fun r42 u9 t9 H1 locs ht9 hvm9 hw9 hB9 hz9 hk9 hS => ?_)
    have hR : Rep g ad A s S H1 locs := hR.call ht9 hB9 hR.w hS hFc
    obtain rfl : r42 = (f_first S x1) := hw9
    clear hB9 hz9 hk9 hvm9 ht9 hS
    generalize H1 = H at hR ⊢
    obtain ⟨hv44, h⟩ := h
    refine va_aldq hx hb hR.K hR.P (qO S (qO S 0 47) 5) 4 (hR.atS hT_b40) rfl (k_ix (x := (f_first S x1)) (a := (f_first S x1).toInt) rfl hv44) dX14_needOf_143 ?_
    obtain ⟨hv45, h⟩ := h
    have hT_b46 : qT S (qO S (qO S (qO S 0 47) 5) (((f_first S x1).toInt).toNat)) = 12 := hR.w.ref hv45 hT_b40
    rw [show va_rf (Option.map ad (qR S (qO S (qO S 0 47) 5) ((f_first S x1) : Int32).toNatClampNeg)) = .ref (ad (qO S (qO S (qO S 0 47) 5) (((f_first S x1).toInt).toNat))) from congrArg (fun z => vf ad z) hv45]
    refine lv_aload_n hx hb dX14_needOf_144 rfl (lv_at hl 0 rfl) ?_
    obtain ⟨hv47, h⟩ := h
    have hT_b48 : qT S (qO S 0 47) = 11 := hR.w.ref hv47 hR.w.1
    refine va_get (D := rD g) (ci := 13) (v := .ref (ad (qO S 0 47))) (C := RX14) (T := TX14) (N := 143) hx hb hts in2X14 hown hR.K hR.P 0 (hR.at14 hR.w.1) rfl 47 (by decide) (hts _ kx_362) (fun _ h9 => h9) (congrArg (fun z => some (vf ad z)) hv47) dX14_needOf_145 ?_
    obtain ⟨hv49, h⟩ := h
    have hT_b50 : qT S (qO S (qO S 0 47) 6) = 5 := hR.w.ref hv49 hT_b48
    refine va_get (D := rD g) (ci := 12) (v := .ref (ad (qO S (qO S 0 47) 6))) (C := RX13) (T := TX13) (N := 23) hx hb hts in2X13 hown hR.K hR.P (qO S 0 47) (hR.at13 hT_b48) rfl 6 (by decide) (hts _ kx_564) (fun _ h9 => h9) (congrArg (fun z => some (vf ad z)) hv49) dX14_needOf_148 ?_
    refine lv_aload_n hx hb dX14_needOf_151 rfl (lv_at hl 0 rfl) ?_
    refine lv_iload_n hx hb dX14_needOf_152 rfl (lv_at hl 1 rfl) ?_
    obtain ⟨hv51, h⟩ := h
    have hFc := rfree hR hA
    refine va_calli (va_runV (As := [.int x1]) (rest := [.ref (ad (qO S (qO S 0 47) 6)), .ref (ad (qO S (qO S (qO S 0 47) 5) (((f_first S x1).toInt).toNat))), .int 9, .ref (ad 0)]) ⟨hx, hb, hml, hown, hts⟩ (r_first l g ad H.size S x1 hR.w  hv51) (cwV 1 hts (gd2_V kx_393 kx_394 kx_395 kx_177 kx_396) rfl rfl rfl (by decide +kernel) ⟨Nat.le_of_ble_eq_true rfl, Nat.le_of_ble_eq_true rfl⟩) ⟨rblind, va_recv hR.K hR.P (ci := 13) (q0 := 0) rfl (hR.at14 hR.w.1), fun U hU hW9 => rmk hU hW9 hR hex hE hFc⟩ rfl rfl hl.1 rfl (lv_room (Nat.le_of_ble_eq_true rfl)) dX14_needOf_153 ⟨Nat.le_of_ble_eq_true rfl, Nat.le_of_ble_eq_true rfl⟩) hR.sS (fun q _ h => hFc q h) hFc (fun r52 u9 t9 H1 locs ht9 hvm9 hw9 hB9 hz9 hk9 hS => ?_)
    have hR : Rep g ad A s S H1 locs := hR.call ht9 hB9 hR.w hS hFc
    obtain rfl : r52 = (f_first S x1) := hw9
    clear hB9 hz9 hk9 hvm9 ht9 hS
    generalize H1 = H at hR ⊢
    obtain ⟨hv54, h⟩ := h
    refine va_aldq hx hb hR.K hR.P (qO S (qO S 0 47) 6) 4 (hR.atS hT_b50) rfl (k_ix (x := (f_first S x1)) (a := (f_first S x1).toInt) rfl hv54) dX14_needOf_156 ?_
    obtain ⟨hv55, h⟩ := h
    have hT_b56 : qT S (qO S (qO S (qO S 0 47) 6) (((f_first S x1).toInt).toNat)) = 12 := hR.w.ref hv55 hT_b50
    rw [show va_rf (Option.map ad (qR S (qO S (qO S 0 47) 6) ((f_first S x1) : Int32).toNatClampNeg)) = .ref (ad (qO S (qO S (qO S 0 47) 6) (((f_first S x1).toInt).toNat))) from congrArg (fun z => vf ad z) hv55]
    obtain ⟨Q57, EQ57, h0, h⟩ := h
    have hFc := rfree hR hA
    refine vx_calli (vx_runV (As := [.int 9, .ref (ad (qO S (qO S (qO S 0 47) 5) (((f_first S x1).toInt).toNat))), .ref (ad (qO S (qO S (qO S 0 47) 6) (((f_first S x1).toInt).toNat)))]) (rest := []) ⟨hx, hb, hml, hown, hts⟩ (r_memberNumber l g ad H.size S (9 : Int32) (qO S (qO S (qO S 0 47) 5) (((f_first S x1).toInt).toNat)) (qO S (qO S (qO S 0 47) 6) (((f_first S x1).toInt).toNat)) hR.w hT_b46 hT_b56 Q57 EQ57 h0) (cwV 3 hts (gd2_V kx_565 kx_566 kx_567 kx_177 kx_568) rfl rfl rfl (by decide +kernel) ⟨Nat.le_of_ble_eq_true rfl, Nat.le_of_ble_eq_true rfl⟩) ⟨rblind, va_recv hR.K hR.P (ci := 13) (q0 := 0) rfl (hR.at14 hR.w.1), fun U hU hW9 => rmk hU hW9 hR hex hE hFc⟩ rfl rfl hl.1 rfl (lv_room (Nat.le_of_ble_eq_true rfl)) dX14_needOf_157 ⟨Nat.le_of_ble_eq_true rfl, Nat.le_of_ble_eq_true rfl⟩) hR.sS (fun q _ h => hFc q h) hFc (fun q _ h => hFc q h) (fun E9 ce9 q9 u9 t9 H1 locs ht9 hvm9 hp9 hB9 hz9 hk9 hS hce9 hcv9 hcl9 => ?_) (fun r58 S59 t9 H1 locs ht9 hvm9 hw9 hB9 hz9 hk9 hS => ?_)
    · obtain ⟨hp9, hwx, hsx⟩ := hp9
      obtain ⟨rfl, hBx⟩ := hB9
      replace h := h.2 u9 hp9
      have hR : Rep g ad A s u9 H1 locs := hR.call ht9 hBx hwx hS hFc
      have hsh := hsh.tr hsx
      exact vx_out (E := RJxb5711) (q := q9) (fun x h9 => (hnt x h9).elim) hlocks hce9 hcv9 hcl9 (fun t9 ht9 ha9 => ⟨u9, ⟨h, hR.w, hsh⟩, ⟨rfl, by rw [ht9]; exact hR.P, hR.D⟩, hR.sS.F ht9⟩) hR.sS.2.2 (Nat.le_of_ble_eq_true rfl) (Nat.le_of_ble_eq_true rfl)
    · obtain ⟨hq60, hw9, hs9⟩ := hw9
      have hR : Rep g ad A s S59 H1 locs := hR.call ht9 hB9 hw9 hS hFc
      have hsh := hsh.tr hs9
      replace h := h.1 r58 S59 hq60
      clear hB9 hz9 hk9 hvm9 ht9 hw9 hs9 hS
      generalize H1 = H at hR ⊢
      exact vx_ret (W.iret (v := r58) hx hb hr (fun t9 ht9 hW9 => ⟨⟨_, S59, rfl, ⟨h, hR.w, hsh⟩, ⟨by rw [ht9]; exact hR.P, hR.D⟩⟩, hR.sS.F ht9⟩) hR.sS.2.2 dX14_needOf_160)
  replace h := h.2 c9_178
  by_cases c9_179 : (f_op S x1).toInt = 179
  · refine lv_lookup (off := 123) (tgt := 128) hx hb dX14_needOf_5 (by decide) (by rw [c9_179]; decide) (by decide) ?_
    replace h := h.1 (c9_179)
    refine lv_aload_n hx hb dX14_needOf_128 rfl (lv_at hl 0 rfl) ?_
    refine lv_bipush (v := 9) hx hb dX14_needOf_129 (by decide) ?_
    refine lv_aload_n hx hb dX14_needOf_131 rfl (lv_at hl 0 rfl) ?_
    obtain ⟨hv61, h⟩ := h
    have hT_b62 : qT S (qO S 0 47) = 11 := hR.w.ref hv61 hR.w.1
    refine va_get (D := rD g) (ci := 13) (v := .ref (ad (qO S 0 47))) (C := RX14) (T := TX14) (N := 143) hx hb hts in2X14 hown hR.K hR.P 0 (hR.at14 hR.w.1) rfl 47 (by decide) (hts _ kx_362) (fun _ h9 => h9) (congrArg (fun z => some (vf ad z)) hv61) dX14_needOf_132 ?_
    obtain ⟨hv63, h⟩ := h
    have hT_b64 : qT S (qO S (qO S 0 47) 5) = 5 := hR.w.ref hv63 hT_b62
    refine va_get (D := rD g) (ci := 12) (v := .ref (ad (qO S (qO S 0 47) 5))) (C := RX13) (T := TX13) (N := 23) hx hb hts in2X13 hown hR.K hR.P (qO S 0 47) (hR.at13 hT_b62) rfl 5 (by decide) (hts _ kx_563) (fun _ h9 => h9) (congrArg (fun z => some (vf ad z)) hv63) dX14_needOf_135 ?_
    refine lv_aload_n hx hb dX14_needOf_138 rfl (lv_at hl 0 rfl) ?_
    refine lv_iload_n hx hb dX14_needOf_139 rfl (lv_at hl 1 rfl) ?_
    obtain ⟨hv65, h⟩ := h
    have hFc := rfree hR hA
    refine va_calli (va_runV (As := [.int x1]) (rest := [.ref (ad (qO S (qO S 0 47) 5)), .int 9, .ref (ad 0)]) ⟨hx, hb, hml, hown, hts⟩ (r_first l g ad H.size S x1 hR.w  hv65) (cwV 1 hts (gd2_V kx_393 kx_394 kx_395 kx_177 kx_396) rfl rfl rfl (by decide +kernel) ⟨Nat.le_of_ble_eq_true rfl, Nat.le_of_ble_eq_true rfl⟩) ⟨rblind, va_recv hR.K hR.P (ci := 13) (q0 := 0) rfl (hR.at14 hR.w.1), fun U hU hW9 => rmk hU hW9 hR hex hE hFc⟩ rfl rfl hl.1 rfl (lv_room (Nat.le_of_ble_eq_true rfl)) dX14_needOf_140 ⟨Nat.le_of_ble_eq_true rfl, Nat.le_of_ble_eq_true rfl⟩) hR.sS (fun q _ h => hFc q h) hFc (fun r66 u9 t9 H1 locs ht9 hvm9 hw9 hB9 hz9 hk9 hS => ?_)
    have hR : Rep g ad A s S H1 locs := hR.call ht9 hB9 hR.w hS hFc
    obtain rfl : r66 = (f_first S x1) := hw9
    clear hB9 hz9 hk9 hvm9 ht9 hS
    generalize H1 = H at hR ⊢
    obtain ⟨hv68, h⟩ := h
    refine va_aldq hx hb hR.K hR.P (qO S (qO S 0 47) 5) 4 (hR.atS hT_b64) rfl (k_ix (x := (f_first S x1)) (a := (f_first S x1).toInt) rfl hv68) dX14_needOf_143 ?_
    obtain ⟨hv69, h⟩ := h
    have hT_b70 : qT S (qO S (qO S (qO S 0 47) 5) (((f_first S x1).toInt).toNat)) = 12 := hR.w.ref hv69 hT_b64
    rw [show va_rf (Option.map ad (qR S (qO S (qO S 0 47) 5) ((f_first S x1) : Int32).toNatClampNeg)) = .ref (ad (qO S (qO S (qO S 0 47) 5) (((f_first S x1).toInt).toNat))) from congrArg (fun z => vf ad z) hv69]
    refine lv_aload_n hx hb dX14_needOf_144 rfl (lv_at hl 0 rfl) ?_
    obtain ⟨hv71, h⟩ := h
    have hT_b72 : qT S (qO S 0 47) = 11 := hR.w.ref hv71 hR.w.1
    refine va_get (D := rD g) (ci := 13) (v := .ref (ad (qO S 0 47))) (C := RX14) (T := TX14) (N := 143) hx hb hts in2X14 hown hR.K hR.P 0 (hR.at14 hR.w.1) rfl 47 (by decide) (hts _ kx_362) (fun _ h9 => h9) (congrArg (fun z => some (vf ad z)) hv71) dX14_needOf_145 ?_
    obtain ⟨hv73, h⟩ := h
    have hT_b74 : qT S (qO S (qO S 0 47) 6) = 5 := hR.w.ref hv73 hT_b72
    refine va_get (D := rD g) (ci := 12) (v := .ref (ad (qO S (qO S 0 47) 6))) (C := RX13) (T := TX13) (N := 23) hx hb hts in2X13 hown hR.K hR.P (qO S 0 47) (hR.at13 hT_b72) rfl 6 (by decide) (hts _ kx_564) (fun _ h9 => h9) (congrArg (fun z => some (vf ad z)) hv73) dX14_needOf_148 ?_
    refine lv_aload_n hx hb dX14_needOf_151 rfl (lv_at hl 0 rfl) ?_
    refine lv_iload_n hx hb dX14_needOf_152 rfl (lv_at hl 1 rfl) ?_
    obtain ⟨hv75, h⟩ := h
    have hFc := rfree hR hA
    refine va_calli (va_runV (As := [.int x1]) (rest := [.ref (ad (qO S (qO S 0 47) 6)), .ref (ad (qO S (qO S (qO S 0 47) 5) (((f_first S x1).toInt).toNat))), .int 9, .ref (ad 0)]) ⟨hx, hb, hml, hown, hts⟩ (r_first l g ad H.size S x1 hR.w  hv75) (cwV 1 hts (gd2_V kx_393 kx_394 kx_395 kx_177 kx_396) rfl rfl rfl (by decide +kernel) ⟨Nat.le_of_ble_eq_true rfl, Nat.le_of_ble_eq_true rfl⟩) ⟨rblind, va_recv hR.K hR.P (ci := 13) (q0 := 0) rfl (hR.at14 hR.w.1), fun U hU hW9 => rmk hU hW9 hR hex hE hFc⟩ rfl rfl hl.1 rfl (lv_room (Nat.le_of_ble_eq_true rfl)) dX14_needOf_153 ⟨Nat.le_of_ble_eq_true rfl, Nat.le_of_ble_eq_true rfl⟩) hR.sS (fun q _ h => hFc q h) hFc (fun r76 u9 t9 H1 locs ht9 hvm9 hw9 hB9 hz9 hk9 hS => ?_)
    have hR : Rep g ad A s S H1 locs := hR.call ht9 hB9 hR.w hS hFc
    obtain rfl : r76 = (f_first S x1) := hw9
    clear hB9 hz9 hk9 hvm9 ht9 hS
    generalize H1 = H at hR ⊢
    obtain ⟨hv78, h⟩ := h
    refine va_aldq hx hb hR.K hR.P (qO S (qO S 0 47) 6) 4 (hR.atS hT_b74) rfl (k_ix (x := (f_first S x1)) (a := (f_first S x1).toInt) rfl hv78) dX14_needOf_156 ?_
    obtain ⟨hv79, h⟩ := h
    have hT_b80 : qT S (qO S (qO S (qO S 0 47) 6) (((f_first S x1).toInt).toNat)) = 12 := hR.w.ref hv79 hT_b74
    rw [show va_rf (Option.map ad (qR S (qO S (qO S 0 47) 6) ((f_first S x1) : Int32).toNatClampNeg)) = .ref (ad (qO S (qO S (qO S 0 47) 6) (((f_first S x1).toInt).toNat))) from congrArg (fun z => vf ad z) hv79]
    obtain ⟨Q81, EQ81, h0, h⟩ := h
    have hFc := rfree hR hA
    refine vx_calli (vx_runV (As := [.int 9, .ref (ad (qO S (qO S (qO S 0 47) 5) (((f_first S x1).toInt).toNat))), .ref (ad (qO S (qO S (qO S 0 47) 6) (((f_first S x1).toInt).toNat)))]) (rest := []) ⟨hx, hb, hml, hown, hts⟩ (r_memberNumber l g ad H.size S (9 : Int32) (qO S (qO S (qO S 0 47) 5) (((f_first S x1).toInt).toNat)) (qO S (qO S (qO S 0 47) 6) (((f_first S x1).toInt).toNat)) hR.w hT_b70 hT_b80 Q81 EQ81 h0) (cwV 3 hts (gd2_V kx_565 kx_566 kx_567 kx_177 kx_568) rfl rfl rfl (by decide +kernel) ⟨Nat.le_of_ble_eq_true rfl, Nat.le_of_ble_eq_true rfl⟩) ⟨rblind, va_recv hR.K hR.P (ci := 13) (q0 := 0) rfl (hR.at14 hR.w.1), fun U hU hW9 => rmk hU hW9 hR hex hE hFc⟩ rfl rfl hl.1 rfl (lv_room (Nat.le_of_ble_eq_true rfl)) dX14_needOf_157 ⟨Nat.le_of_ble_eq_true rfl, Nat.le_of_ble_eq_true rfl⟩) hR.sS (fun q _ h => hFc q h) hFc (fun q _ h => hFc q h) (fun E9 ce9 q9 u9 t9 H1 locs ht9 hvm9 hp9 hB9 hz9 hk9 hS hce9 hcv9 hcl9 => ?_) (fun r82 S83 t9 H1 locs ht9 hvm9 hw9 hB9 hz9 hk9 hS => ?_)
    · obtain ⟨hp9, hwx, hsx⟩ := hp9
      obtain ⟨rfl, hBx⟩ := hB9
      replace h := h.2 u9 hp9
      have hR : Rep g ad A s u9 H1 locs := hR.call ht9 hBx hwx hS hFc
      have hsh := hsh.tr hsx
      exact vx_out (E := RJxb5711) (q := q9) (fun x h9 => (hnt x h9).elim) hlocks hce9 hcv9 hcl9 (fun t9 ht9 ha9 => ⟨u9, ⟨h, hR.w, hsh⟩, ⟨rfl, by rw [ht9]; exact hR.P, hR.D⟩, hR.sS.F ht9⟩) hR.sS.2.2 (Nat.le_of_ble_eq_true rfl) (Nat.le_of_ble_eq_true rfl)
    · obtain ⟨hq84, hw9, hs9⟩ := hw9
      have hR : Rep g ad A s S83 H1 locs := hR.call ht9 hB9 hw9 hS hFc
      have hsh := hsh.tr hs9
      replace h := h.1 r82 S83 hq84
      clear hB9 hz9 hk9 hvm9 ht9 hw9 hs9 hS
      generalize H1 = H at hR ⊢
      exact vx_ret (W.iret (v := r82) hx hb hr (fun t9 ht9 hW9 => ⟨⟨_, S83, rfl, ⟨h, hR.w, hsh⟩, ⟨by rw [ht9]; exact hR.P, hR.D⟩⟩, hR.sS.F ht9⟩) hR.sS.2.2 dX14_needOf_160)
  replace h := h.2 c9_179
  by_cases c9_184 : (f_op S x1).toInt = 184
  · refine lv_lookup (off := 156) (tgt := 161) hx hb dX14_needOf_5 (by decide) (by rw [c9_184]; decide) (by decide) ?_
    replace h := h.1 (c9_184)
    refine lv_aload_n hx hb dX14_needOf_161 rfl (lv_at hl 0 rfl) ?_
    refine lv_bipush (v := 10) hx hb dX14_needOf_162 (by decide) ?_
    refine lv_aload_n hx hb dX14_needOf_164 rfl (lv_at hl 0 rfl) ?_
    obtain ⟨hv85, h⟩ := h
    have hT_b86 : qT S (qO S 0 47) = 11 := hR.w.ref hv85 hR.w.1
    refine va_get (D := rD g) (ci := 13) (v := .ref (ad (qO S 0 47))) (C := RX14) (T := TX14) (N := 143) hx hb hts in2X14 hown hR.K hR.P 0 (hR.at14 hR.w.1) rfl 47 (by decide) (hts _ kx_362) (fun _ h9 => h9) (congrArg (fun z => some (vf ad z)) hv85) dX14_needOf_165 ?_
    obtain ⟨hv87, h⟩ := h
    have hT_b88 : qT S (qO S (qO S 0 47) 8) = 5 := hR.w.ref hv87 hT_b86
    refine va_get (D := rD g) (ci := 12) (v := .ref (ad (qO S (qO S 0 47) 8))) (C := RX13) (T := TX13) (N := 23) hx hb hts in2X13 hown hR.K hR.P (qO S 0 47) (hR.at13 hT_b86) rfl 8 (by decide) (hts _ kx_569) (fun _ h9 => h9) (congrArg (fun z => some (vf ad z)) hv87) dX14_needOf_168 ?_
    refine lv_aload_n hx hb dX14_needOf_171 rfl (lv_at hl 0 rfl) ?_
    refine lv_iload_n hx hb dX14_needOf_172 rfl (lv_at hl 1 rfl) ?_
    obtain ⟨hv89, h⟩ := h
    have hFc := rfree hR hA
    refine va_calli (va_runV (As := [.int x1]) (rest := [.ref (ad (qO S (qO S 0 47) 8)), .int 10, .ref (ad 0)]) ⟨hx, hb, hml, hown, hts⟩ (r_first l g ad H.size S x1 hR.w  hv89) (cwV 1 hts (gd2_V kx_393 kx_394 kx_395 kx_177 kx_396) rfl rfl rfl (by decide +kernel) ⟨Nat.le_of_ble_eq_true rfl, Nat.le_of_ble_eq_true rfl⟩) ⟨rblind, va_recv hR.K hR.P (ci := 13) (q0 := 0) rfl (hR.at14 hR.w.1), fun U hU hW9 => rmk hU hW9 hR hex hE hFc⟩ rfl rfl hl.1 rfl (lv_room (Nat.le_of_ble_eq_true rfl)) dX14_needOf_173 ⟨Nat.le_of_ble_eq_true rfl, Nat.le_of_ble_eq_true rfl⟩) hR.sS (fun q _ h => hFc q h) hFc (fun r90 u9 t9 H1 locs ht9 hvm9 hw9 hB9 hz9 hk9 hS => ?_)
    have hR : Rep g ad A s S H1 locs := hR.call ht9 hB9 hR.w hS hFc
    obtain rfl : r90 = (f_first S x1) := hw9
    clear hB9 hz9 hk9 hvm9 ht9 hS
    generalize H1 = H at hR ⊢
    obtain ⟨hv92, h⟩ := h
    refine va_aldq hx hb hR.K hR.P (qO S (qO S 0 47) 8) 4 (hR.atS hT_b88) rfl (k_ix (x := (f_first S x1)) (a := (f_first S x1).toInt) rfl hv92) dX14_needOf_176 ?_
    obtain ⟨hv93, h⟩ := h
    have hT_b94 : qT S (qO S (qO S (qO S 0 47) 8) (((f_first S x1).toInt).toNat)) = 12 := hR.w.ref hv93 hT_b88
    rw [show va_rf (Option.map ad (qR S (qO S (qO S 0 47) 8) ((f_first S x1) : Int32).toNatClampNeg)) = .ref (ad (qO S (qO S (qO S 0 47) 8) (((f_first S x1).toInt).toNat))) from congrArg (fun z => vf ad z) hv93]
    refine lv_aload_n hx hb dX14_needOf_177 rfl (lv_at hl 0 rfl) ?_
    obtain ⟨hv95, h⟩ := h
    have hT_b96 : qT S (qO S 0 47) = 11 := hR.w.ref hv95 hR.w.1
    refine va_get (D := rD g) (ci := 13) (v := .ref (ad (qO S 0 47))) (C := RX14) (T := TX14) (N := 143) hx hb hts in2X14 hown hR.K hR.P 0 (hR.at14 hR.w.1) rfl 47 (by decide) (hts _ kx_362) (fun _ h9 => h9) (congrArg (fun z => some (vf ad z)) hv95) dX14_needOf_178 ?_
    obtain ⟨hv97, h⟩ := h
    have hT_b98 : qT S (qO S (qO S 0 47) 9) = 5 := hR.w.ref hv97 hT_b96
    refine va_get (D := rD g) (ci := 12) (v := .ref (ad (qO S (qO S 0 47) 9))) (C := RX13) (T := TX13) (N := 23) hx hb hts in2X13 hown hR.K hR.P (qO S 0 47) (hR.at13 hT_b96) rfl 9 (by decide) (hts _ kx_570) (fun _ h9 => h9) (congrArg (fun z => some (vf ad z)) hv97) dX14_needOf_181 ?_
    refine lv_aload_n hx hb dX14_needOf_184 rfl (lv_at hl 0 rfl) ?_
    refine lv_iload_n hx hb dX14_needOf_185 rfl (lv_at hl 1 rfl) ?_
    obtain ⟨hv99, h⟩ := h
    have hFc := rfree hR hA
    refine va_calli (va_runV (As := [.int x1]) (rest := [.ref (ad (qO S (qO S 0 47) 9)), .ref (ad (qO S (qO S (qO S 0 47) 8) (((f_first S x1).toInt).toNat))), .int 10, .ref (ad 0)]) ⟨hx, hb, hml, hown, hts⟩ (r_first l g ad H.size S x1 hR.w  hv99) (cwV 1 hts (gd2_V kx_393 kx_394 kx_395 kx_177 kx_396) rfl rfl rfl (by decide +kernel) ⟨Nat.le_of_ble_eq_true rfl, Nat.le_of_ble_eq_true rfl⟩) ⟨rblind, va_recv hR.K hR.P (ci := 13) (q0 := 0) rfl (hR.at14 hR.w.1), fun U hU hW9 => rmk hU hW9 hR hex hE hFc⟩ rfl rfl hl.1 rfl (lv_room (Nat.le_of_ble_eq_true rfl)) dX14_needOf_186 ⟨Nat.le_of_ble_eq_true rfl, Nat.le_of_ble_eq_true rfl⟩) hR.sS (fun q _ h => hFc q h) hFc (fun r100 u9 t9 H1 locs ht9 hvm9 hw9 hB9 hz9 hk9 hS => ?_)
    have hR : Rep g ad A s S H1 locs := hR.call ht9 hB9 hR.w hS hFc
    obtain rfl : r100 = (f_first S x1) := hw9
    clear hB9 hz9 hk9 hvm9 ht9 hS
    generalize H1 = H at hR ⊢
    obtain ⟨hv102, h⟩ := h
    refine va_aldq hx hb hR.K hR.P (qO S (qO S 0 47) 9) 4 (hR.atS hT_b98) rfl (k_ix (x := (f_first S x1)) (a := (f_first S x1).toInt) rfl hv102) dX14_needOf_189 ?_
    obtain ⟨hv103, h⟩ := h
    have hT_b104 : qT S (qO S (qO S (qO S 0 47) 9) (((f_first S x1).toInt).toNat)) = 12 := hR.w.ref hv103 hT_b98
    rw [show va_rf (Option.map ad (qR S (qO S (qO S 0 47) 9) ((f_first S x1) : Int32).toNatClampNeg)) = .ref (ad (qO S (qO S (qO S 0 47) 9) (((f_first S x1).toInt).toNat))) from congrArg (fun z => vf ad z) hv103]
    obtain ⟨Q105, EQ105, h0, h⟩ := h
    have hFc := rfree hR hA
    refine vx_calli (vx_runV (As := [.int 10, .ref (ad (qO S (qO S (qO S 0 47) 8) (((f_first S x1).toInt).toNat))), .ref (ad (qO S (qO S (qO S 0 47) 9) (((f_first S x1).toInt).toNat)))]) (rest := []) ⟨hx, hb, hml, hown, hts⟩ (r_memberNumber l g ad H.size S (10 : Int32) (qO S (qO S (qO S 0 47) 8) (((f_first S x1).toInt).toNat)) (qO S (qO S (qO S 0 47) 9) (((f_first S x1).toInt).toNat)) hR.w hT_b94 hT_b104 Q105 EQ105 h0) (cwV 3 hts (gd2_V kx_565 kx_566 kx_567 kx_177 kx_568) rfl rfl rfl (by decide +kernel) ⟨Nat.le_of_ble_eq_true rfl, Nat.le_of_ble_eq_true rfl⟩) ⟨rblind, va_recv hR.K hR.P (ci := 13) (q0 := 0) rfl (hR.at14 hR.w.1), fun U hU hW9 => rmk hU hW9 hR hex hE hFc⟩ rfl rfl hl.1 rfl (lv_room (Nat.le_of_ble_eq_true rfl)) dX14_needOf_190 ⟨Nat.le_of_ble_eq_true rfl, Nat.le_of_ble_eq_true rfl⟩) hR.sS (fun q _ h => hFc q h) hFc (fun q _ h => hFc q h) (fun E9 ce9 q9 u9 t9 H1 locs ht9 hvm9 hp9 hB9 hz9 hk9 hS hce9 hcv9 hcl9 => ?_) (fun r106 S107 t9 H1 locs ht9 hvm9 hw9 hB9 hz9 hk9 hS => ?_)
    · obtain ⟨hp9, hwx, hsx⟩ := hp9
      obtain ⟨rfl, hBx⟩ := hB9
      replace h := h.2 u9 hp9
      have hR : Rep g ad A s u9 H1 locs := hR.call ht9 hBx hwx hS hFc
      have hsh := hsh.tr hsx
      exact vx_out (E := RJxb5711) (q := q9) (fun x h9 => (hnt x h9).elim) hlocks hce9 hcv9 hcl9 (fun t9 ht9 ha9 => ⟨u9, ⟨h, hR.w, hsh⟩, ⟨rfl, by rw [ht9]; exact hR.P, hR.D⟩, hR.sS.F ht9⟩) hR.sS.2.2 (Nat.le_of_ble_eq_true rfl) (Nat.le_of_ble_eq_true rfl)
    · obtain ⟨hq108, hw9, hs9⟩ := hw9
      have hR : Rep g ad A s S107 H1 locs := hR.call ht9 hB9 hw9 hS hFc
      have hsh := hsh.tr hs9
      replace h := h.1 r106 S107 hq108
      clear hB9 hz9 hk9 hvm9 ht9 hw9 hs9 hS
      generalize H1 = H at hR ⊢
      exact vx_ret (W.iret (v := r106) hx hb hr (fun t9 ht9 hW9 => ⟨⟨_, S107, rfl, ⟨h, hR.w, hsh⟩, ⟨by rw [ht9]; exact hR.P, hR.D⟩⟩, hR.sS.F ht9⟩) hR.sS.2.2 dX14_needOf_193)
  replace h := h.2 c9_184
  refine lv_lookup (off := 189) (tgt := 194) hx hb dX14_needOf_5 (by decide) (lx_cons c9_18 (lx_cons c9_20 (lx_cons c9_178 (lx_cons c9_179 (lx_cons c9_184 lx_nil))))) (by decide) ?_
  refine lv_iconst (v := 0) hx hb dX14_needOf_194 (by decide) ?_
  exact vx_ret (W.iret (v := 0) hx hb hr (fun t9 ht9 hW9 => ⟨⟨_, S, rfl, ⟨h, hR.w, hsh⟩, ⟨by rw [ht9]; exact hR.P, hR.D⟩⟩, hR.sS.F ht9⟩) hR.sS.2.2 dX14_needOf_195)
def w_collect_J183 (Q : MS → Prop) (E : MS → Prop) (k149 : MS → Nat → Int32 → Int32 → Prop) (U183 : MS) (v183_1 : Nat) (v183_4 : Int32) (v183_5 : Int32) : Prop := (∀ a49 : Int32, a49 = (v183_5 + Int32.ofInt 1) → k149 U183 v183_1 v183_4 a49)
def w_collect_L149 (Q : MS → Prop) (E : MS → Prop) (k81 : MS → Nat → Int32 → Prop) : Nat → MS → Nat → Int32 → Int32 → Prop
  | 0, _, _, _, _ => False
  | n149 + 1, U149, v149_1, v149_4, v149_5 => (((qI U149 0 54).toInt ≤ v149_5.toInt → (∀ a45 : Int32, a45 = (v149_4 + Int32.ofInt 1) → k81 U149 v149_1 a45)) ∧ (¬ (qI U149 0 54).toInt ≤ v149_5.toInt → (d_catchWord U149 v149_5 (3 : Int32) ∧ (((f_catchWord U149 v149_5 (3 : Int32)).toInt < 0 → w_collect_J183 Q E (w_collect_L149 Q E k81 n149) U149 v149_1 v149_4 v149_5) ∧ (¬ (f_catchWord U149 v149_5 (3 : Int32)).toInt < 0 → (d_catchWord U149 v149_5 (3 : Int32) ∧ (d_errorName U149 (f_catchWord U149 v149_5 (3 : Int32)) ∧ (∃ Q57 EQ57, w_classNumber U149 (f_errorName U149 (f_catchWord U149 v149_5 (3 : Int32))) Q57 EQ57 ∧ (∀ r58 S59, Q57 r58 S59 → w_collect_J183 Q E (w_collect_L149 Q E k81 n149) S59 v149_1 v149_4 v149_5) ∧ (∀ u9, EQ57 u9 → E u9)))))))))
def w_collect_L124 (Q : MS → Prop) (E : MS → Prop) (k81 : MS → Nat → Int32 → Prop) : Nat → MS → Nat → Int32 → Int32 → Prop
  | 0, _, _, _, _ => False
  | n124 + 1, U124, v124_1, v124_4, v124_5 => (((qI U124 0 52).toInt ≤ v124_5.toInt → (∃ n, w_collect_L149 Q E k81 n U124 v124_1 v124_4 0)) ∧ (¬ (qI U124 0 52).toInt ≤ v124_5.toInt → (∃ Q61 EQ61, w_needOf U124 v124_5 Q61 EQ61 ∧ (∀ r62 S63, Q61 r62 S63 → (∀ a65 : Int32, a65 = (v124_5 + Int32.ofInt 1) → (w_collect_L124 Q E k81 n124) S63 v124_1 v124_4 a65)) ∧ (∀ u9, EQ61 u9 → E u9))))
def w_collect_L81 (Q : MS → Prop) (E : MS → Prop) : Nat → MS → Nat → Int32 → Prop
  | 0, _, _, _ => False
  | n81 + 1, U81, v81_1, v81_4 => (((qI U81 v81_1 4).toInt ≤ v81_4.toInt → Q U81) ∧ (¬ (qI U81 v81_1 4).toInt ≤ v81_4.toInt → ((qR U81 v81_1 8 = some (qO U81 v81_1 8)) ∧ (((0 : Int) ≤ v81_4.toInt ∧ v81_4.toInt < (qN U81 (qO U81 v81_1 8) : Int)) ∧ ((qR U81 (qO U81 v81_1 8) v81_4.toInt.toNat = some (qO U81 (qO U81 v81_1 8) v81_4.toInt.toNat)) ∧ (∃ Q27 EQ27, w_nameNumber U81 (qO U81 (qO U81 v81_1 8) v81_4.toInt.toNat) Q27 EQ27 ∧ (∀ r28 S29, Q27 r28 S29 → ((qR S29 v81_1 9 = some (qO S29 v81_1 9)) ∧ (((0 : Int) ≤ v81_4.toInt ∧ v81_4.toInt < (qN S29 (qO S29 v81_1 9) : Int)) ∧ ((qR S29 (qO S29 v81_1 9) v81_4.toInt.toNat = some (qO S29 (qO S29 v81_1 9) v81_4.toInt.toNat)) ∧ (∃ Q36 EQ36, w_nameNumber S29 (qO S29 (qO S29 v81_1 9) v81_4.toInt.toNat) Q36 EQ36 ∧ (∀ r37 S38, Q36 r37 S38 → (∃ Q40, w_look S38 v81_1 v81_4 Q40 ∧ ∀ S41, Q40 S41 → (∃ n, w_collect_L124 Q E (w_collect_L81 Q E n81) n S41 v81_1 v81_4 0))) ∧ (∀ u9, EQ36 u9 → E u9)))))) ∧ (∀ u9, EQ27 u9 → E u9)))))))
def w_collect_L39 (Q : MS → Prop) (E : MS → Prop) : Nat → MS → Nat → Int32 → Prop
  | 0, _, _, _ => False
  | n39 + 1, U39, v39_1, v39_4 => (((qI U39 v39_1 3).toInt ≤ v39_4.toInt → (∃ n, w_collect_L81 Q E n U39 v39_1 0)) ∧ (¬ (qI U39 v39_1 3).toInt ≤ v39_4.toInt → ((qR U39 v39_1 5 = some (qO U39 v39_1 5)) ∧ (((0 : Int) ≤ v39_4.toInt ∧ v39_4.toInt < (qN U39 (qO U39 v39_1 5) : Int)) ∧ ((qR U39 (qO U39 v39_1 5) v39_4.toInt.toNat = some (qO U39 (qO U39 v39_1 5) v39_4.toInt.toNat)) ∧ (∃ Q71 EQ71, w_nameNumber U39 (qO U39 (qO U39 v39_1 5) v39_4.toInt.toNat) Q71 EQ71 ∧ (∀ r72 S73, Q71 r72 S73 → ((qR S73 v39_1 6 = some (qO S73 v39_1 6)) ∧ (((0 : Int) ≤ v39_4.toInt ∧ v39_4.toInt < (qN S73 (qO S73 v39_1 6) : Int)) ∧ ((qR S73 (qO S73 v39_1 6) v39_4.toInt.toNat = some (qO S73 (qO S73 v39_1 6) v39_4.toInt.toNat)) ∧ (∃ Q80 EQ80, w_nameNumber S73 (qO S73 (qO S73 v39_1 6) v39_4.toInt.toNat) Q80 EQ80 ∧ (∀ r81 S82, Q80 r81 S82 → (∀ a84 : Int32, a84 = (v39_4 + Int32.ofInt 1) → (w_collect_L39 Q E n39) S82 v39_1 a84)) ∧ (∀ u9, EQ80 u9 → E u9)))))) ∧ (∀ u9, EQ71 u9 → E u9)))))))
def w_collect (S : MS) (p1 : Nat) (Q : MS → Prop) (E : MS → Prop) : Prop := (∀ S1, S1 = wI S 0 73 0 → (∀ S2, S2 = wI S1 0 74 1 → (∃ Q4 EQ4, w_nameNumber S2 10000000 Q4 EQ4 ∧ (∀ r5 S6, Q4 r5 S6 → ((qR S6 p1 0 = some (qO S6 p1 0)) ∧ (∃ Q10 EQ10, w_classNumber S6 (qO S6 p1 0) Q10 EQ10 ∧ (∀ r11 S12, Q10 r11 S12 → ((qR S12 p1 1 = some (qO S12 p1 1)) ∧ (∃ Q16 EQ16, w_classNumber S12 (qO S12 p1 1) Q16 EQ16 ∧ (∀ r17 S18, Q16 r17 S18 → (∃ n, w_collect_L39 Q E n S18 p1 0)) ∧ (∀ u9, EQ16 u9 → E u9)))) ∧ (∀ u9, EQ10 u9 → E u9)))) ∧ (∀ u9, EQ4 u9 → E u9))))
set_option maxHeartbeats 2000000 in
set_option maxRecDepth 100000 in
theorem r_collect (l : Launch) (g : Gr) (ad : Nat → Nat) (sz : Nat) (S : MS) (p1 : Nat) (hw : wfM S) (hT_p1 : qT S p1 = 11) (Q : MS → Prop) (E : MS → Prop) (h : w_collect S p1 Q E) : vx_Met l yX14_collect (wt2 yX14_collect cX14_collect 6 none) ({ frames := 7, cells := 0, slots := 0, locals := 161 }) (va_Pc [.ref (ad 0), .ref (ad p1)] (st_R g ad sz S)) (va_Qv (fun (u : MS) => Q u ∧ wfM u ∧ shy S u) (fun (u : MS) (t : State) => qE g ad (va_A (Wd g ad S) sz) u t) (va_A (Wd g ad S) sz)) (vx_X (fun (u : MS) => E u ∧ wfM u ∧ shy S u) (fun (n9 : String) (u : MS) (t : State) => n9 = RJxb5711 ∧ qE g ad (va_A (Wd g ad S) sz) u t) (va_A (Wd g ad S) sz)) 0 0 (va_A (Wd g ad S) sz) := by
  refine vx_ofW (cc := cX14_collect) (maxL := 6) (ret := none) (by decide) rfl ?_
  intro p e s m args below meth c s₁ B hml hnt hv
  obtain ⟨rfl, hsz, hP, hK, hD0, hex, hE⟩ := hv
  have hx := B.exec
  have hb := B.bytes
  have hr := B.returns
  have hlocks := B.notSynchronized
  have hts0 := atoms_spec (ws := wt2 yX14_collect cX14_collect 6 none) B.pre
  have hts : ∀ w ∈ tb2, w.before _ s = true := fun w h => hts0 w (List.mem_cons_of_mem _ h)
  have hown : s.vm.findClass RX14 = some m.cls := findClass_of_methodNamed B.named
  subst hsz
  have hD := hD0.self (sz := s.heap.size)
  generalize hAe : va_A (Wd g ad S) s.heap.size = A at hD hE ⊢
  have hA : ∀ q : Nat, s.heap.size ≤ q → A q := fun q h => by rw [← hAe]; exact Or.inr h
  have hR : Rep g ad A s S s.heap [] := ⟨hK, hP, hD, va_S.rf, hw⟩
  clear hK hP hD hD0
  have hl := lv_entry ([.ref (ad 0), .ref (ad p1)]) (n := 6) (Nat.le_of_ble_eq_true rfl)
  rw [lg_entry_eq]
  generalize (lg_sl ([.ref (ad 0), .ref (ad p1)]) ++ List.replicate (6 - (lg_sl ([.ref (ad 0), .ref (ad p1)])).length) Slot.unset).toArray = ls at hl ⊢
  have hl : lv_has ls 6 [(0, .ref (ad 0)), (1, .ref (ad p1))] := hl
  have hsh : shy S S := shy.rf
  unfold w_collect at h
  refine lv_aload_n hx hb dX14_collect_0 rfl (lv_at hl 0 rfl) ?_
  refine lv_iconst (v := 0) hx hb dX14_collect_1 (by decide) ?_
  refine va_put (D := rD g) (ci := 13) (v := .int 0) (ty := .int) (C := RX14) (T := TX14) (N := 143) hx hb hts in2X14 tyX14 tyX14_ok nmX14 hown hR.K hR.P hR.D hR.sS 0 (hR.at14 hR.w.1) rfl 73 (by decide) (hts _ kx_531) (fun _ h9 => h9) rfl (by decide +kernel) rfl rfl (Nat.le_of_ble_eq_true rfl) dX14_collect_2 (fun H locs hP hD hS => ?_)
  have hR : Rep g ad A s (wI S 0 73 0) H locs := hR.pI hR.w.1 F14_s73 hP hD hS
  obtain ⟨S1, eS1⟩ : ∃ z, z = wI S 0 73 0 := ⟨_, rfl⟩
  rw [← eS1] at hR
  replace h := h S1 eS1
  have hT_p1 : qT S1 p1 = 11 := (congrArg (fun z => qT z p1) eS1).trans hT_p1
  have hsh : shy S S1 := by rw [eS1]; exact hsh
  refine lv_aload_n hx hb dX14_collect_5 rfl (lv_at hl 0 rfl) ?_
  refine lv_iconst (v := 1) hx hb dX14_collect_6 (by decide) ?_
  refine va_put (D := rD g) (ci := 13) (v := .int 1) (ty := .int) (C := RX14) (T := TX14) (N := 143) hx hb hts in2X14 tyX14 tyX14_ok nmX14 hown hR.K hR.P hR.D hR.sS 0 (hR.at14 hR.w.1) rfl 74 (by decide) (hts _ kx_538) (fun _ h9 => h9) rfl (by decide +kernel) rfl rfl (Nat.le_of_ble_eq_true rfl) dX14_collect_7 (fun H locs hP hD hS => ?_)
  have hR : Rep g ad A s (wI S1 0 74 1) H locs := hR.pI hR.w.1 F14_s74 hP hD hS
  obtain ⟨S2, eS2⟩ : ∃ z, z = wI S1 0 74 1 := ⟨_, rfl⟩
  rw [← eS2] at hR
  replace h := h S2 eS2
  have hT_p1 : qT S2 p1 = 11 := (congrArg (fun z => qT z p1) eS2).trans hT_p1
  have hsh : shy S S2 := by rw [eS2]; exact hsh
  refine lv_aload_n hx hb dX14_collect_10 rfl (lv_at hl 0 rfl) ?_
  have hT_t3 : qT S2 10000000 = 12 := hR.w.txt (i := 0) (by decide)
  refine va_ldcSW (tx := "Code") (q := ad 10000000) hx hb hown (hE.2.2 _ ldc_412) dX14_collect_11 ?_
  obtain ⟨Q4, EQ4, h0, h⟩ := h
  have hFc := rfree hR hA
  refine vx_calli (vx_runV (As := [.ref (ad 10000000)]) (rest := []) ⟨hx, hb, hml, hown, hts⟩ (r_nameNumber l g ad H.size S2 10000000 hR.w hT_t3 Q4 EQ4 h0) (cwV 1 hts (gd2_V kx_547 kx_548 kx_549 kx_177 kx_550) rfl rfl rfl (by decide +kernel) ⟨Nat.le_of_ble_eq_true rfl, Nat.le_of_ble_eq_true rfl⟩) ⟨rblind, va_recv hR.K hR.P (ci := 13) (q0 := 0) rfl (hR.at14 hR.w.1), fun U hU hW9 => rmk hU hW9 hR hex hE hFc⟩ rfl rfl hl.1 rfl (lv_room (Nat.le_of_ble_eq_true rfl)) dX14_collect_14 ⟨Nat.le_of_ble_eq_true rfl, Nat.le_of_ble_eq_true rfl⟩) hR.sS (fun q _ h => hFc q h) hFc (fun q _ h => hFc q h) (fun E9 ce9 q9 u9 t9 H1 locs ht9 hvm9 hp9 hB9 hz9 hk9 hS hce9 hcv9 hcl9 => ?_) (fun r5 S6 t9 H1 locs ht9 hvm9 hw9 hB9 hz9 hk9 hS => ?_)
  · obtain ⟨hp9, hwx, hsx⟩ := hp9
    obtain ⟨rfl, hBx⟩ := hB9
    replace h := h.2 u9 hp9
    have hR : Rep g ad A s u9 H1 locs := hR.call ht9 hBx hwx hS hFc
    have hsh := hsh.tr hsx
    exact vx_out (E := RJxb5711) (q := q9) (fun x h9 => (hnt x h9).elim) hlocks hce9 hcv9 hcl9 (fun t9 ht9 ha9 => ⟨u9, ⟨h, hR.w, hsh⟩, ⟨rfl, by rw [ht9]; exact hR.P, hR.D⟩, hR.sS.F ht9⟩) hR.sS.2.2 (Nat.le_of_ble_eq_true rfl) (Nat.le_of_ble_eq_true rfl)
  · obtain ⟨hq7, hw9, hs9⟩ := hw9
    have hR : Rep g ad A s S6 H1 locs := hR.call ht9 hB9 hw9 hS hFc
    have hsh := hsh.tr hs9
    replace h := h.1 r5 S6 hq7
    have hT_p1 := hs9.T hT_p1 (by decide)
    clear hB9 hz9 hk9 hvm9 ht9 hw9 hs9 hS
    generalize H1 = H at hR ⊢
    refine lv_istore_n (lv' := [(2, .int r5), (0, .ref (ad 0)), (1, .ref (ad p1))]) hx hb dX14_collect_17 rfl hl (by decide) rfl (fun ls hl => ?_)
    refine lv_aload_n hx hb dX14_collect_18 rfl (lv_at hl 1 rfl) ?_
    refine lv_aload_n hx hb dX14_collect_19 rfl (lv_at hl 2 rfl) ?_
    obtain ⟨hv8, h⟩ := h
    have hT_b9 : qT S6 (qO S6 p1 0) = 12 := hR.w.ref hv8 hT_p1
    refine va_get (D := rD g) (ci := 12) (v := .ref (ad (qO S6 p1 0))) (C := RX13) (T := TX13) (N := 23) hx hb hts in2X13 hown hR.K hR.P p1 (hR.at13 hT_p1) rfl 0 (by decide) (hts _ kx_551) (fun _ h9 => h9) (congrArg (fun z => some (vf ad z)) hv8) dX14_collect_20 ?_
    obtain ⟨Q10, EQ10, h0, h⟩ := h
    have hFc := rfree hR hA
    refine vx_calli (vx_runV (As := [.ref (ad (qO S6 p1 0))]) (rest := []) ⟨hx, hb, hml, hown, hts⟩ (r_classNumber l g ad H.size S6 (qO S6 p1 0) hR.w hT_b9 Q10 EQ10 h0) (cwV 1 hts (gd2_V kx_552 kx_553 kx_554 kx_177 kx_555) rfl rfl rfl (by decide +kernel) ⟨Nat.le_of_ble_eq_true rfl, Nat.le_of_ble_eq_true rfl⟩) ⟨rblind, va_recv hR.K hR.P (ci := 13) (q0 := 0) rfl (hR.at14 hR.w.1), fun U hU hW9 => rmk hU hW9 hR hex hE hFc⟩ rfl rfl hl.1 rfl (lv_room (Nat.le_of_ble_eq_true rfl)) dX14_collect_23 ⟨Nat.le_of_ble_eq_true rfl, Nat.le_of_ble_eq_true rfl⟩) hR.sS (fun q _ h => hFc q h) hFc (fun q _ h => hFc q h) (fun E9 ce9 q9 u9 t9 H1 locs ht9 hvm9 hp9 hB9 hz9 hk9 hS hce9 hcv9 hcl9 => ?_) (fun r11 S12 t9 H1 locs ht9 hvm9 hw9 hB9 hz9 hk9 hS => ?_)
    · obtain ⟨hp9, hwx, hsx⟩ := hp9
      obtain ⟨rfl, hBx⟩ := hB9
      replace h := h.2 u9 hp9
      have hR : Rep g ad A s u9 H1 locs := hR.call ht9 hBx hwx hS hFc
      have hsh := hsh.tr hsx
      exact vx_out (E := RJxb5711) (q := q9) (fun x h9 => (hnt x h9).elim) hlocks hce9 hcv9 hcl9 (fun t9 ht9 ha9 => ⟨u9, ⟨h, hR.w, hsh⟩, ⟨rfl, by rw [ht9]; exact hR.P, hR.D⟩, hR.sS.F ht9⟩) hR.sS.2.2 (Nat.le_of_ble_eq_true rfl) (Nat.le_of_ble_eq_true rfl)
    · obtain ⟨hq13, hw9, hs9⟩ := hw9
      have hR : Rep g ad A s S12 H1 locs := hR.call ht9 hB9 hw9 hS hFc
      have hsh := hsh.tr hs9
      replace h := h.1 r11 S12 hq13
      have hT_p1 := hs9.T hT_p1 (by decide)
      clear hB9 hz9 hk9 hvm9 ht9 hw9 hs9 hS
      generalize H1 = H at hR ⊢
      refine lv_istore_n (lv' := [(3, .int r11), (2, .int r5), (0, .ref (ad 0)), (1, .ref (ad p1))]) hx hb dX14_collect_26 rfl hl (by decide) rfl (fun ls hl => ?_)
      refine lv_aload_n hx hb dX14_collect_27 rfl (lv_at hl 2 rfl) ?_
      refine lv_aload_n hx hb dX14_collect_28 rfl (lv_at hl 3 rfl) ?_
      obtain ⟨hv14, h⟩ := h
      have hT_b15 : qT S12 (qO S12 p1 1) = 12 := hR.w.ref hv14 hT_p1
      refine va_get (D := rD g) (ci := 12) (v := .ref (ad (qO S12 p1 1))) (C := RX13) (T := TX13) (N := 23) hx hb hts in2X13 hown hR.K hR.P p1 (hR.at13 hT_p1) rfl 1 (by decide) (hts _ kx_571) (fun _ h9 => h9) (congrArg (fun z => some (vf ad z)) hv14) dX14_collect_29 ?_
      obtain ⟨Q16, EQ16, h0, h⟩ := h
      have hFc := rfree hR hA
      refine vx_calli (vx_runV (As := [.ref (ad (qO S12 p1 1))]) (rest := []) ⟨hx, hb, hml, hown, hts⟩ (r_classNumber l g ad H.size S12 (qO S12 p1 1) hR.w hT_b15 Q16 EQ16 h0) (cwV 1 hts (gd2_V kx_552 kx_553 kx_554 kx_177 kx_555) rfl rfl rfl (by decide +kernel) ⟨Nat.le_of_ble_eq_true rfl, Nat.le_of_ble_eq_true rfl⟩) ⟨rblind, va_recv hR.K hR.P (ci := 13) (q0 := 0) rfl (hR.at14 hR.w.1), fun U hU hW9 => rmk hU hW9 hR hex hE hFc⟩ rfl rfl hl.1 rfl (lv_room (Nat.le_of_ble_eq_true rfl)) dX14_collect_32 ⟨Nat.le_of_ble_eq_true rfl, Nat.le_of_ble_eq_true rfl⟩) hR.sS (fun q _ h => hFc q h) hFc (fun q _ h => hFc q h) (fun E9 ce9 q9 u9 t9 H1 locs ht9 hvm9 hp9 hB9 hz9 hk9 hS hce9 hcv9 hcl9 => ?_) (fun r17 S18 t9 H1 locs ht9 hvm9 hw9 hB9 hz9 hk9 hS => ?_)
      · obtain ⟨hp9, hwx, hsx⟩ := hp9
        obtain ⟨rfl, hBx⟩ := hB9
        replace h := h.2 u9 hp9
        have hR : Rep g ad A s u9 H1 locs := hR.call ht9 hBx hwx hS hFc
        have hsh := hsh.tr hsx
        exact vx_out (E := RJxb5711) (q := q9) (fun x h9 => (hnt x h9).elim) hlocks hce9 hcv9 hcl9 (fun t9 ht9 ha9 => ⟨u9, ⟨h, hR.w, hsh⟩, ⟨rfl, by rw [ht9]; exact hR.P, hR.D⟩, hR.sS.F ht9⟩) hR.sS.2.2 (Nat.le_of_ble_eq_true rfl) (Nat.le_of_ble_eq_true rfl)
      · obtain ⟨hq19, hw9, hs9⟩ := hw9
        have hR : Rep g ad A s S18 H1 locs := hR.call ht9 hB9 hw9 hS hFc
        have hsh := hsh.tr hs9
        replace h := h.1 r17 S18 hq19
        have hT_p1 := hs9.T hT_p1 (by decide)
        clear hB9 hz9 hk9 hvm9 ht9 hw9 hs9 hS
        generalize H1 = H at hR ⊢
        refine lv_istore_n (lv' := [(3, .int r17), (2, .int r5), (0, .ref (ad 0)), (1, .ref (ad p1))]) hx hb dX14_collect_35 rfl hl (by decide) rfl (fun ls hl => ?_)
        refine lv_iconst (v := 0) hx hb dX14_collect_36 (by decide) ?_
        refine lv_istore (lv' := [(4, .int 0), (3, .int r17), (2, .int r5), (0, .ref (ad 0)), (1, .ref (ad p1))]) hx hb dX14_collect_37 hl (by decide) rfl (fun ls hl => ?_)
        have J_39 : ∀ (n39 : Nat) (U39 : MS) (v39_1 : Nat) (v39_4 : Int32) (H : Heap) (locs : List Loc) (ls : Array Slot), w_collect_L39 Q E n39 U39 v39_1 v39_4 → qT U39 v39_1 = 11 → shy S U39 → Rep g ad A s U39 H locs → lv_has ls 6 [(0, .ref (ad 0)), (1, .ref (ad v39_1)), (4, .int v39_4)] → W p l e (headSpec (wt2 yX14_collect cX14_collect 6 none) ({ frames := 7, cells := 0, slots := 0, locals := 161 })).room s m ([.ref (ad 0), .ref (ad p1)] : List Value).toArray below meth c H locs 0 0 (vx_MQ below (va_Qv (fun (u : MS) => Q u ∧ wfM u ∧ shy S u) (fun (u : MS) (t : State) => qE g ad A u t) A) ((vx_X (fun (u : MS) => E u ∧ wfM u ∧ shy S u) (fun (n9 : String) (u : MS) (t : State) => n9 = RJxb5711 ∧ qE g ad A u t) A)) ([.ref (ad 0), .ref (ad p1)] : List Value).toArray s 0 0 A) (F0 m 39 ls []) := by
          intro n39
          induction n39 with
          | zero => intro U39 v39_1 v39_4 H locs ls h hT_v39_1 hsh hR hl; unfold w_collect_L39 at h; exact h.elim
          | succ n39 ih_39 =>
            intro U39 v39_1 v39_4 H locs ls h hT_v39_1 hsh hR hl
            unfold w_collect_L39 at h
            refine lv_iload hx hb dX14_collect_39 (lv_at hl 2 rfl) ?_
            refine lv_aload_n hx hb dX14_collect_41 rfl (lv_at hl 1 rfl) ?_
            refine va_get (D := rD g) (ci := 12) (v := .int (qI U39 v39_1 3)) (C := RX13) (T := TX13) (N := 23) hx hb hts in2X13 hown hR.K hR.P v39_1 (hR.at13 hT_v39_1) rfl 3 (by decide) (hts _ kx_356) (fun _ h9 => h9) rfl dX14_collect_42 ?_
            refine lv_icmp_ge (tgt := 78) hx hb dX14_collect_45 (by decide) (fun c20 => ?_) (fun c20 => ?_)
            · replace h := h.1 (k_le rfl rfl c20)
              refine lv_iconst (v := 0) hx hb dX14_collect_78 (by decide) ?_
              refine lv_istore (lv' := [(4, .int 0), (0, .ref (ad 0)), (1, .ref (ad v39_1))]) hx hb dX14_collect_79 hl (by decide) rfl (fun ls hl => ?_)
              have J_81 : ∀ (n81 : Nat) (U81 : MS) (v81_1 : Nat) (v81_4 : Int32) (H : Heap) (locs : List Loc) (ls : Array Slot), w_collect_L81 Q E n81 U81 v81_1 v81_4 → qT U81 v81_1 = 11 → shy S U81 → Rep g ad A s U81 H locs → lv_has ls 6 [(0, .ref (ad 0)), (1, .ref (ad v81_1)), (4, .int v81_4)] → W p l e (headSpec (wt2 yX14_collect cX14_collect 6 none) ({ frames := 7, cells := 0, slots := 0, locals := 161 })).room s m ([.ref (ad 0), .ref (ad p1)] : List Value).toArray below meth c H locs 0 0 (vx_MQ below (va_Qv (fun (u : MS) => Q u ∧ wfM u ∧ shy S u) (fun (u : MS) (t : State) => qE g ad A u t) A) ((vx_X (fun (u : MS) => E u ∧ wfM u ∧ shy S u) (fun (n9 : String) (u : MS) (t : State) => n9 = RJxb5711 ∧ qE g ad A u t) A)) ([.ref (ad 0), .ref (ad p1)] : List Value).toArray s 0 0 A) (F0 m 81 ls []) := by
                intro n81
                induction n81 with
                | zero => intro U81 v81_1 v81_4 H locs ls h hT_v81_1 hsh hR hl; unfold w_collect_L81 at h; exact h.elim
                | succ n81 ih_81 =>
                  intro U81 v81_1 v81_4 H locs ls h hT_v81_1 hsh hR hl
                  unfold w_collect_L81 at h
                  refine lv_iload hx hb dX14_collect_81 (lv_at hl 2 rfl) ?_
                  refine lv_aload_n hx hb dX14_collect_83 rfl (lv_at hl 1 rfl) ?_
                  refine va_get (D := rD g) (ci := 12) (v := .int (qI U81 v81_1 4)) (C := RX13) (T := TX13) (N := 23) hx hb hts in2X13 hown hR.K hR.P v81_1 (hR.at13 hT_v81_1) rfl 4 (by decide) (hts _ kx_353) (fun _ h9 => h9) rfl dX14_collect_84 ?_
                  refine lv_icmp_ge (tgt := 195) hx hb dX14_collect_87 (by decide) (fun c21 => ?_) (fun c21 => ?_)
                  · replace h := h.1 (k_le rfl rfl c21)
                    exact vx_ret (W.vret hx hb hr (fun t9 ht9 hW9 => ⟨⟨U81, rfl, ⟨h, hR.w, hsh⟩, ⟨by rw [ht9]; exact hR.P, hR.D⟩⟩, hR.sS.F ht9⟩) hR.sS.2.2 dX14_collect_195)
                  · replace h := h.2 (k_nle rfl rfl c21)
                    refine lv_aload_n hx hb dX14_collect_90 rfl (lv_at hl 0 rfl) ?_
                    refine lv_aload_n hx hb dX14_collect_91 rfl (lv_at hl 1 rfl) ?_
                    obtain ⟨hv22, h⟩ := h
                    have hT_b23 : qT U81 (qO U81 v81_1 8) = 5 := hR.w.ref hv22 hT_v81_1
                    refine va_get (D := rD g) (ci := 12) (v := .ref (ad (qO U81 v81_1 8))) (C := RX13) (T := TX13) (N := 23) hx hb hts in2X13 hown hR.K hR.P v81_1 (hR.at13 hT_v81_1) rfl 8 (by decide) (hts _ kx_569) (fun _ h9 => h9) (congrArg (fun z => some (vf ad z)) hv22) dX14_collect_92 ?_
                    refine lv_iload hx hb dX14_collect_95 (lv_at hl 2 rfl) ?_
                    obtain ⟨hv24, h⟩ := h
                    refine va_aldq hx hb hR.K hR.P (qO U81 v81_1 8) 4 (hR.atS hT_b23) rfl (k_ix (x := v81_4) (a := v81_4.toInt) rfl hv24) dX14_collect_97 ?_
                    obtain ⟨hv25, h⟩ := h
                    have hT_b26 : qT U81 (qO U81 (qO U81 v81_1 8) v81_4.toInt.toNat) = 12 := hR.w.ref hv25 hT_b23
                    rw [show va_rf (Option.map ad (qR U81 (qO U81 v81_1 8) (v81_4 : Int32).toNatClampNeg)) = .ref (ad (qO U81 (qO U81 v81_1 8) v81_4.toInt.toNat)) from congrArg (fun z => vf ad z) hv25]
                    obtain ⟨Q27, EQ27, h0, h⟩ := h
                    have hFc := rfree hR hA
                    refine vx_calli (vx_runV (As := [.ref (ad (qO U81 (qO U81 v81_1 8) v81_4.toInt.toNat))]) (rest := []) ⟨hx, hb, hml, hown, hts⟩ (r_nameNumber l g ad H.size U81 (qO U81 (qO U81 v81_1 8) v81_4.toInt.toNat) hR.w hT_b26 Q27 EQ27 h0) (cwV 1 hts (gd2_V kx_547 kx_548 kx_549 kx_177 kx_550) rfl rfl rfl (by decide +kernel) ⟨Nat.le_of_ble_eq_true rfl, Nat.le_of_ble_eq_true rfl⟩) ⟨rblind, va_recv hR.K hR.P (ci := 13) (q0 := 0) rfl (hR.at14 hR.w.1), fun U hU hW9 => rmk hU hW9 hR hex hE hFc⟩ rfl rfl hl.1 rfl (lv_room (Nat.le_of_ble_eq_true rfl)) dX14_collect_98 ⟨Nat.le_of_ble_eq_true rfl, Nat.le_of_ble_eq_true rfl⟩) hR.sS (fun q _ h => hFc q h) hFc (fun q _ h => hFc q h) (fun E9 ce9 q9 u9 t9 H1 locs ht9 hvm9 hp9 hB9 hz9 hk9 hS hce9 hcv9 hcl9 => ?_) (fun r28 S29 t9 H1 locs ht9 hvm9 hw9 hB9 hz9 hk9 hS => ?_)
                    · obtain ⟨hp9, hwx, hsx⟩ := hp9
                      obtain ⟨rfl, hBx⟩ := hB9
                      replace h := h.2 u9 hp9
                      have hR : Rep g ad A s u9 H1 locs := hR.call ht9 hBx hwx hS hFc
                      have hsh := hsh.tr hsx
                      exact vx_out (E := RJxb5711) (q := q9) (fun x h9 => (hnt x h9).elim) hlocks hce9 hcv9 hcl9 (fun t9 ht9 ha9 => ⟨u9, ⟨h, hR.w, hsh⟩, ⟨rfl, by rw [ht9]; exact hR.P, hR.D⟩, hR.sS.F ht9⟩) hR.sS.2.2 (Nat.le_of_ble_eq_true rfl) (Nat.le_of_ble_eq_true rfl)
                    · obtain ⟨hq30, hw9, hs9⟩ := hw9
                      have hR : Rep g ad A s S29 H1 locs := hR.call ht9 hB9 hw9 hS hFc
                      have hsh := hsh.tr hs9
                      replace h := h.1 r28 S29 hq30
                      have hT_v81_1 := hs9.T hT_v81_1 (by decide)
                      clear hB9 hz9 hk9 hvm9 ht9 hw9 hs9 hS
                      generalize H1 = H at hR ⊢
                      refine lv_istore_n (lv' := [(3, .int r28), (0, .ref (ad 0)), (1, .ref (ad v81_1)), (4, .int v81_4)]) hx hb dX14_collect_101 rfl hl (by decide) rfl (fun ls hl => ?_)
                      refine lv_aload_n hx hb dX14_collect_102 rfl (lv_at hl 1 rfl) ?_
                      refine lv_aload_n hx hb dX14_collect_103 rfl (lv_at hl 2 rfl) ?_
                      obtain ⟨hv31, h⟩ := h
                      have hT_b32 : qT S29 (qO S29 v81_1 9) = 5 := hR.w.ref hv31 hT_v81_1
                      refine va_get (D := rD g) (ci := 12) (v := .ref (ad (qO S29 v81_1 9))) (C := RX13) (T := TX13) (N := 23) hx hb hts in2X13 hown hR.K hR.P v81_1 (hR.at13 hT_v81_1) rfl 9 (by decide) (hts _ kx_570) (fun _ h9 => h9) (congrArg (fun z => some (vf ad z)) hv31) dX14_collect_104 ?_
                      refine lv_iload hx hb dX14_collect_107 (lv_at hl 3 rfl) ?_
                      obtain ⟨hv33, h⟩ := h
                      refine va_aldq hx hb hR.K hR.P (qO S29 v81_1 9) 4 (hR.atS hT_b32) rfl (k_ix (x := v81_4) (a := v81_4.toInt) rfl hv33) dX14_collect_109 ?_
                      obtain ⟨hv34, h⟩ := h
                      have hT_b35 : qT S29 (qO S29 (qO S29 v81_1 9) v81_4.toInt.toNat) = 12 := hR.w.ref hv34 hT_b32
                      rw [show va_rf (Option.map ad (qR S29 (qO S29 v81_1 9) (v81_4 : Int32).toNatClampNeg)) = .ref (ad (qO S29 (qO S29 v81_1 9) v81_4.toInt.toNat)) from congrArg (fun z => vf ad z) hv34]
                      obtain ⟨Q36, EQ36, h0, h⟩ := h
                      have hFc := rfree hR hA
                      refine vx_calli (vx_runV (As := [.ref (ad (qO S29 (qO S29 v81_1 9) v81_4.toInt.toNat))]) (rest := []) ⟨hx, hb, hml, hown, hts⟩ (r_nameNumber l g ad H.size S29 (qO S29 (qO S29 v81_1 9) v81_4.toInt.toNat) hR.w hT_b35 Q36 EQ36 h0) (cwV 1 hts (gd2_V kx_547 kx_548 kx_549 kx_177 kx_550) rfl rfl rfl (by decide +kernel) ⟨Nat.le_of_ble_eq_true rfl, Nat.le_of_ble_eq_true rfl⟩) ⟨rblind, va_recv hR.K hR.P (ci := 13) (q0 := 0) rfl (hR.at14 hR.w.1), fun U hU hW9 => rmk hU hW9 hR hex hE hFc⟩ rfl rfl hl.1 rfl (lv_room (Nat.le_of_ble_eq_true rfl)) dX14_collect_110 ⟨Nat.le_of_ble_eq_true rfl, Nat.le_of_ble_eq_true rfl⟩) hR.sS (fun q _ h => hFc q h) hFc (fun q _ h => hFc q h) (fun E9 ce9 q9 u9 t9 H1 locs ht9 hvm9 hp9 hB9 hz9 hk9 hS hce9 hcv9 hcl9 => ?_) (fun r37 S38 t9 H1 locs ht9 hvm9 hw9 hB9 hz9 hk9 hS => ?_)
                      · obtain ⟨hp9, hwx, hsx⟩ := hp9
                        obtain ⟨rfl, hBx⟩ := hB9
                        replace h := h.2 u9 hp9
                        have hR : Rep g ad A s u9 H1 locs := hR.call ht9 hBx hwx hS hFc
                        have hsh := hsh.tr hsx
                        exact vx_out (E := RJxb5711) (q := q9) (fun x h9 => (hnt x h9).elim) hlocks hce9 hcv9 hcl9 (fun t9 ht9 ha9 => ⟨u9, ⟨h, hR.w, hsh⟩, ⟨rfl, by rw [ht9]; exact hR.P, hR.D⟩, hR.sS.F ht9⟩) hR.sS.2.2 (Nat.le_of_ble_eq_true rfl) (Nat.le_of_ble_eq_true rfl)
                      · obtain ⟨hq39, hw9, hs9⟩ := hw9
                        have hR : Rep g ad A s S38 H1 locs := hR.call ht9 hB9 hw9 hS hFc
                        have hsh := hsh.tr hs9
                        replace h := h.1 r37 S38 hq39
                        have hT_v81_1 := hs9.T hT_v81_1 (by decide)
                        clear hB9 hz9 hk9 hvm9 ht9 hw9 hs9 hS
                        generalize H1 = H at hR ⊢
                        refine lv_istore_n (lv' := [(3, .int r37), (0, .ref (ad 0)), (1, .ref (ad v81_1)), (4, .int v81_4)]) hx hb dX14_collect_113 rfl hl (by decide) rfl (fun ls hl => ?_)
                        refine lv_aload_n hx hb dX14_collect_114 rfl (lv_at hl 1 rfl) ?_
                        refine lv_aload_n hx hb dX14_collect_115 rfl (lv_at hl 2 rfl) ?_
                        refine lv_iload hx hb dX14_collect_116 (lv_at hl 3 rfl) ?_
                        obtain ⟨Q40, h0, h⟩ := h
                        have hFc := rfree hR hA
                        refine va_callv (va_runV (As := [.ref (ad v81_1), .int v81_4]) (rest := []) ⟨hx, hb, hml, hown, hts⟩ (r_look l g ad H.size S38 v81_1 v81_4 hR.w hT_v81_1 Q40 h0) (cwV 2 hts (gd2_V kx_498 kx_499 kx_500 kx_177 kx_501) rfl rfl rfl (by decide +kernel) ⟨Nat.le_of_ble_eq_true rfl, Nat.le_of_ble_eq_true rfl⟩) ⟨rblind, va_recv hR.K hR.P (ci := 13) (q0 := 0) rfl (hR.at14 hR.w.1), fun U hU hW9 => rmk hU hW9 hR hex hE hFc⟩ rfl rfl hl.1 rfl (lv_room (Nat.le_of_ble_eq_true rfl)) dX14_collect_118 ⟨Nat.le_of_ble_eq_true rfl, Nat.le_of_ble_eq_true rfl⟩) hR.sS (fun q _ h => hFc q h) hFc (fun  S41 t9 H1 locs ht9 hvm9 hw9 hB9 hz9 hk9 hS => ?_)
                        obtain ⟨hq42, hw9, hs9⟩ := hw9
                        have hR : Rep g ad A s S41 H1 locs := hR.call ht9 hB9 hw9 hS hFc
                        have hsh := hsh.tr hs9
                        replace h := h  S41 hq42
                        have hT_v81_1 := hs9.T hT_v81_1 (by decide)
                        clear hB9 hz9 hk9 hvm9 ht9 hw9 hs9 hS
                        generalize H1 = H at hR ⊢
                        refine lv_iconst (v := 0) hx hb dX14_collect_121 (by decide) ?_
                        refine lv_istore (lv' := [(5, .int 0), (3, .int r37), (0, .ref (ad 0)), (1, .ref (ad v81_1)), (4, .int v81_4)]) hx hb dX14_collect_122 hl (by decide) rfl (fun ls hl => ?_)
                        have J_124 : ∀ (n124 : Nat) (U124 : MS) (v124_1 : Nat) (v124_4 : Int32) (v124_5 : Int32) (H : Heap) (locs : List Loc) (ls : Array Slot), w_collect_L124 Q E (w_collect_L81 Q E n81) n124 U124 v124_1 v124_4 v124_5 → qT U124 v124_1 = 11 → shy S U124 → Rep g ad A s U124 H locs → lv_has ls 6 [(0, .ref (ad 0)), (1, .ref (ad v124_1)), (4, .int v124_4), (5, .int v124_5)] → W p l e (headSpec (wt2 yX14_collect cX14_collect 6 none) ({ frames := 7, cells := 0, slots := 0, locals := 161 })).room s m ([.ref (ad 0), .ref (ad p1)] : List Value).toArray below meth c H locs 0 0 (vx_MQ below (va_Qv (fun (u : MS) => Q u ∧ wfM u ∧ shy S u) (fun (u : MS) (t : State) => qE g ad A u t) A) ((vx_X (fun (u : MS) => E u ∧ wfM u ∧ shy S u) (fun (n9 : String) (u : MS) (t : State) => n9 = RJxb5711 ∧ qE g ad A u t) A)) ([.ref (ad 0), .ref (ad p1)] : List Value).toArray s 0 0 A) (F0 m 124 ls []) := by
                          intro n124
                          induction n124 with
                          | zero => intro U124 v124_1 v124_4 v124_5 H locs ls h hT_v124_1 hsh hR hl; unfold w_collect_L124 at h; exact h.elim
                          | succ n124 ih_124 =>
                            intro U124 v124_1 v124_4 v124_5 H locs ls h hT_v124_1 hsh hR hl
                            unfold w_collect_L124 at h
                            refine lv_iload hx hb dX14_collect_124 (lv_at hl 3 rfl) ?_
                            refine lv_aload_n hx hb dX14_collect_126 rfl (lv_at hl 0 rfl) ?_
                            refine va_get (D := rD g) (ci := 13) (v := .int (qI U124 0 52)) (C := RX14) (T := TX14) (N := 143) hx hb hts in2X14 hown hR.K hR.P 0 (hR.at14 hR.w.1) rfl 52 (by decide) (hts _ kx_370) (fun _ h9 => h9) rfl dX14_collect_127 ?_
                            refine lv_icmp_ge (tgt := 146) hx hb dX14_collect_130 (by decide) (fun c43 => ?_) (fun c43 => ?_)
                            · replace h := h.1 (k_le rfl rfl c43)
                              refine lv_iconst (v := 0) hx hb dX14_collect_146 (by decide) ?_
                              refine lv_istore (lv' := [(5, .int 0), (0, .ref (ad 0)), (1, .ref (ad v124_1)), (4, .int v124_4)]) hx hb dX14_collect_147 hl (by decide) rfl (fun ls hl => ?_)
                              have J_149 : ∀ (n149 : Nat) (U149 : MS) (v149_1 : Nat) (v149_4 : Int32) (v149_5 : Int32) (H : Heap) (locs : List Loc) (ls : Array Slot), w_collect_L149 Q E (w_collect_L81 Q E n81) n149 U149 v149_1 v149_4 v149_5 → qT U149 v149_1 = 11 → shy S U149 → Rep g ad A s U149 H locs → lv_has ls 6 [(0, .ref (ad 0)), (1, .ref (ad v149_1)), (4, .int v149_4), (5, .int v149_5)] → W p l e (headSpec (wt2 yX14_collect cX14_collect 6 none) ({ frames := 7, cells := 0, slots := 0, locals := 161 })).room s m ([.ref (ad 0), .ref (ad p1)] : List Value).toArray below meth c H locs 0 0 (vx_MQ below (va_Qv (fun (u : MS) => Q u ∧ wfM u ∧ shy S u) (fun (u : MS) (t : State) => qE g ad A u t) A) ((vx_X (fun (u : MS) => E u ∧ wfM u ∧ shy S u) (fun (n9 : String) (u : MS) (t : State) => n9 = RJxb5711 ∧ qE g ad A u t) A)) ([.ref (ad 0), .ref (ad p1)] : List Value).toArray s 0 0 A) (F0 m 149 ls []) := by
                                intro n149
                                induction n149 with
                                | zero => intro U149 v149_1 v149_4 v149_5 H locs ls h hT_v149_1 hsh hR hl; unfold w_collect_L149 at h; exact h.elim
                                | succ n149 ih_149 =>
                                  intro U149 v149_1 v149_4 v149_5 H locs ls h hT_v149_1 hsh hR hl
                                  unfold w_collect_L149 at h
                                  refine lv_iload hx hb dX14_collect_149 (lv_at hl 3 rfl) ?_
                                  refine lv_aload_n hx hb dX14_collect_151 rfl (lv_at hl 0 rfl) ?_
                                  refine va_get (D := rD g) (ci := 13) (v := .int (qI U149 0 54)) (C := RX14) (T := TX14) (N := 143) hx hb hts in2X14 hown hR.K hR.P 0 (hR.at14 hR.w.1) rfl 54 (by decide) (hts _ kx_374) (fun _ h9 => h9) rfl dX14_collect_152 ?_
                                  refine lv_icmp_ge (tgt := 189) hx hb dX14_collect_155 (by decide) (fun c44 => ?_) (fun c44 => ?_)
                                  · replace h := h.1 (k_le rfl rfl c44)
                                    obtain ⟨a45, ea45⟩ : ∃ z, z = (v149_4 + Int32.ofInt 1) := ⟨_, rfl⟩
                                    replace h := h a45 ea45
                                    refine lv_iinc (v := a45) (lv' := [(4, .int a45), (0, .ref (ad 0)), (1, .ref (ad v149_1)), (5, .int v149_5)]) hx hb dX14_collect_189 hl (k := 2) rfl ea45.symm (by decide) rfl (fun ls hl => ?_)
                                    refine lv_goto (tgt := 81) hx hb dX14_collect_192 (by decide) ?_
                                    exact ih_81 U149 v149_1 a45 _ _ ls h hT_v149_1 hsh hR (lv_sub hl [1, 2, 0] rfl)
                                  · replace h := h.2 (k_nle rfl rfl c44)
                                    refine lv_aload_n hx hb dX14_collect_158 rfl (lv_at hl 0 rfl) ?_
                                    refine lv_iload hx hb dX14_collect_159 (lv_at hl 3 rfl) ?_
                                    refine lv_iconst (v := 3) hx hb dX14_collect_161 (by decide) ?_
                                    obtain ⟨hv46, h⟩ := h
                                    have hFc := rfree hR hA
                                    refine va_calli (va_runV (As := [.int v149_5, .int 3]) (rest := []) ⟨hx, hb, hml, hown, hts⟩ (r_catchWord l g ad H.size U149 v149_5 (3 : Int32) hR.w  hv46) (cwV 2 hts (gd2_V kx_375 kx_376 kx_377 kx_177 kx_378) rfl rfl rfl (by decide +kernel) ⟨Nat.le_of_ble_eq_true rfl, Nat.le_of_ble_eq_true rfl⟩) ⟨rblind, va_recv hR.K hR.P (ci := 13) (q0 := 0) rfl (hR.at14 hR.w.1), fun U hU hW9 => rmk hU hW9 hR hex hE hFc⟩ rfl rfl hl.1 rfl (lv_room (Nat.le_of_ble_eq_true rfl)) dX14_collect_162 ⟨Nat.le_of_ble_eq_true rfl, Nat.le_of_ble_eq_true rfl⟩) hR.sS (fun q _ h => hFc q h) hFc (fun r47 u9 t9 H1 locs ht9 hvm9 hw9 hB9 hz9 hk9 hS => ?_)
                                    have hR : Rep g ad A s U149 H1 locs := hR.call ht9 hB9 hR.w hS hFc
                                    obtain rfl : r47 = (f_catchWord U149 v149_5 (3 : Int32)) := hw9
                                    clear hB9 hz9 hk9 hvm9 ht9 hS
                                    generalize H1 = H at hR ⊢
                                    have J_183 : ∀ (U183 : MS) (v183_1 : Nat) (v183_4 : Int32) (v183_5 : Int32) (H : Heap) (locs : List Loc) (ls : Array Slot), w_collect_J183 Q E (w_collect_L149 Q E (w_collect_L81 Q E n81) n149) U183 v183_1 v183_4 v183_5 → qT U183 v183_1 = 11 → shy S U183 → Rep g ad A s U183 H locs → lv_has ls 6 [(0, .ref (ad 0)), (1, .ref (ad v183_1)), (4, .int v183_4), (5, .int v183_5)] → W p l e (headSpec (wt2 yX14_collect cX14_collect 6 none) ({ frames := 7, cells := 0, slots := 0, locals := 161 })).room s m ([.ref (ad 0), .ref (ad p1)] : List Value).toArray below meth c H locs 0 0 (vx_MQ below (va_Qv (fun (u : MS) => Q u ∧ wfM u ∧ shy S u) (fun (u : MS) (t : State) => qE g ad A u t) A) ((vx_X (fun (u : MS) => E u ∧ wfM u ∧ shy S u) (fun (n9 : String) (u : MS) (t : State) => n9 = RJxb5711 ∧ qE g ad A u t) A)) ([.ref (ad 0), .ref (ad p1)] : List Value).toArray s 0 0 A) (F0 m 183 ls []) := by
                                      intro U183 v183_1 v183_4 v183_5 H locs ls h hT_v183_1 hsh hR hl
                                      unfold w_collect_J183 at h
                                      obtain ⟨a49, ea49⟩ : ∃ z, z = (v183_5 + Int32.ofInt 1) := ⟨_, rfl⟩
                                      replace h := h a49 ea49
                                      refine lv_iinc (v := a49) (lv' := [(5, .int a49), (0, .ref (ad 0)), (1, .ref (ad v183_1)), (4, .int v183_4)]) hx hb dX14_collect_183 hl (k := 3) rfl ea49.symm (by decide) rfl (fun ls hl => ?_)
                                      refine lv_goto (tgt := 149) hx hb dX14_collect_186 (by decide) ?_
                                      exact ih_149 U183 v183_1 v183_4 a49 _ _ ls h hT_v183_1 hsh hR (lv_sub hl [1, 2, 3, 0] rfl)
                                    refine lv_if_lt (tgt := 183) hx hb dX14_collect_165 (by decide) (fun c50 => ?_) (fun c50 => ?_)
                                    · replace h := h.1 (k_lt rfl (by decide) c50)
                                      exact J_183 U149 v149_1 v149_4 v149_5 _ _ ls h hT_v149_1 hsh hR (lv_sub hl [0, 1, 2, 3] rfl)
                                    · replace h := h.2 (k_nlt rfl (by decide) c50)
                                      refine lv_aload_n hx hb dX14_collect_168 rfl (lv_at hl 0 rfl) ?_
                                      refine lv_aload_n hx hb dX14_collect_169 rfl (lv_at hl 0 rfl) ?_
                                      refine lv_iload hx hb dX14_collect_170 (lv_at hl 3 rfl) ?_
                                      refine lv_iconst (v := 3) hx hb dX14_collect_172 (by decide) ?_
                                      obtain ⟨hv51, h⟩ := h
                                      have hFc := rfree hR hA
                                      refine va_calli (va_runV (As := [.int v149_5, .int 3]) (rest := [.ref (ad 0)]) ⟨hx, hb, hml, hown, hts⟩ (r_catchWord l g ad H.size U149 v149_5 (3 : Int32) hR.w  hv51) (cwV 2 hts (gd2_V kx_375 kx_376 kx_377 kx_177 kx_378) rfl rfl rfl (by decide +kernel) ⟨Nat.le_of_ble_eq_true rfl, Nat.le_of_ble_eq_true rfl⟩) ⟨rblind, va_recv hR.K hR.P (ci := 13) (q0 := 0) rfl (hR.at14 hR.w.1), fun U hU hW9 => rmk hU hW9 hR hex hE hFc⟩ rfl rfl hl.1 rfl (lv_room (Nat.le_of_ble_eq_true rfl)) dX14_collect_173 ⟨Nat.le_of_ble_eq_true rfl, Nat.le_of_ble_eq_true rfl⟩) hR.sS (fun q _ h => hFc q h) hFc (fun r52 u9 t9 H1 locs ht9 hvm9 hw9 hB9 hz9 hk9 hS => ?_)
                                      have hR : Rep g ad A s U149 H1 locs := hR.call ht9 hB9 hR.w hS hFc
                                      obtain rfl : r52 = (f_catchWord U149 v149_5 (3 : Int32)) := hw9
                                      clear hB9 hz9 hk9 hvm9 ht9 hS
                                      generalize H1 = H at hR ⊢
                                      obtain ⟨hv54, h⟩ := h
                                      have hFc := rfree hR hA
                                      refine va_callq (va_runS (As := [.int (f_catchWord U149 v149_5 (3 : Int32))]) (rest := [.ref (ad 0)]) ⟨hx, hb, hml, hown, hts⟩ (r_errorName l g ad H.size U149 (f_catchWord U149 v149_5 (3 : Int32)) hR.w  hv54) (va_cwS 1 hts (gd2_S kx_572 kx_573 kx_177 kx_574) rfl rfl rfl (by decide +kernel) ⟨Nat.le_of_ble_eq_true rfl, Nat.le_of_ble_eq_true rfl⟩) ⟨rblind, fun U hU hW9 => rmk hU hW9 hR hex hE hFc⟩ rfl rfl hl.1 rfl (lv_room (Nat.le_of_ble_eq_true rfl)) dX14_collect_176 ⟨Nat.le_of_ble_eq_true rfl, Nat.le_of_ble_eq_true rfl⟩) hR.sS (fun q _ h => hFc q h) hFc (fun r55 u9 t9 H1 locs ht9 hvm9 hw9 hB9 hz9 hk9 hS => ?_)
                                      have hR : Rep g ad A s U149 H1 locs := hR.call ht9 hB9 hR.w hS hFc
                                      obtain ⟨rfl, hT_r55⟩ := hw9
                                      clear hB9 hz9 hk9 hvm9 ht9 hS
                                      generalize H1 = H at hR ⊢
                                      obtain ⟨Q57, EQ57, h0, h⟩ := h
                                      have hFc := rfree hR hA
                                      refine vx_calli (vx_runV (As := [.ref (ad (f_errorName U149 (f_catchWord U149 v149_5 (3 : Int32))))]) (rest := []) ⟨hx, hb, hml, hown, hts⟩ (r_classNumber l g ad H.size U149 (f_errorName U149 (f_catchWord U149 v149_5 (3 : Int32))) hR.w hT_r55 Q57 EQ57 h0) (cwV 1 hts (gd2_V kx_552 kx_553 kx_554 kx_177 kx_555) rfl rfl rfl (by decide +kernel) ⟨Nat.le_of_ble_eq_true rfl, Nat.le_of_ble_eq_true rfl⟩) ⟨rblind, va_recv hR.K hR.P (ci := 13) (q0 := 0) rfl (hR.at14 hR.w.1), fun U hU hW9 => rmk hU hW9 hR hex hE hFc⟩ rfl rfl hl.1 rfl (lv_room (Nat.le_of_ble_eq_true rfl)) dX14_collect_179 ⟨Nat.le_of_ble_eq_true rfl, Nat.le_of_ble_eq_true rfl⟩) hR.sS (fun q _ h => hFc q h) hFc (fun q _ h => hFc q h) (fun E9 ce9 q9 u9 t9 H1 locs ht9 hvm9 hp9 hB9 hz9 hk9 hS hce9 hcv9 hcl9 => ?_) (fun r58 S59 t9 H1 locs ht9 hvm9 hw9 hB9 hz9 hk9 hS => ?_)
                                      · obtain ⟨hp9, hwx, hsx⟩ := hp9
                                        obtain ⟨rfl, hBx⟩ := hB9
                                        replace h := h.2 u9 hp9
                                        have hR : Rep g ad A s u9 H1 locs := hR.call ht9 hBx hwx hS hFc
                                        have hsh := hsh.tr hsx
                                        exact vx_out (E := RJxb5711) (q := q9) (fun x h9 => (hnt x h9).elim) hlocks hce9 hcv9 hcl9 (fun t9 ht9 ha9 => ⟨u9, ⟨h, hR.w, hsh⟩, ⟨rfl, by rw [ht9]; exact hR.P, hR.D⟩, hR.sS.F ht9⟩) hR.sS.2.2 (Nat.le_of_ble_eq_true rfl) (Nat.le_of_ble_eq_true rfl)
                                      · obtain ⟨hq60, hw9, hs9⟩ := hw9
                                        have hR : Rep g ad A s S59 H1 locs := hR.call ht9 hB9 hw9 hS hFc
                                        have hsh := hsh.tr hs9
                                        replace h := h.1 r58 S59 hq60
                                        have hT_v149_1 := hs9.T hT_v149_1 (by decide)
                                        clear hB9 hz9 hk9 hvm9 ht9 hw9 hs9 hS
                                        generalize H1 = H at hR ⊢
                                        refine lv_istore_n (lv' := [(3, .int r58), (0, .ref (ad 0)), (1, .ref (ad v149_1)), (4, .int v149_4), (5, .int v149_5)]) hx hb dX14_collect_182 rfl hl (by decide) rfl (fun ls hl => ?_)
                                        exact J_183 S59 v149_1 v149_4 v149_5 _ _ ls h hT_v149_1 hsh hR (lv_sub hl [1, 2, 3, 4] rfl)
                              obtain ⟨n9, h⟩ := h
                              exact J_149 n9 U124 v124_1 v124_4 0 _ _ ls h hT_v124_1 hsh hR (lv_sub hl [1, 2, 3, 0] rfl)
                            · replace h := h.2 (k_nle rfl rfl c43)
                              refine lv_aload_n hx hb dX14_collect_133 rfl (lv_at hl 0 rfl) ?_
                              refine lv_iload hx hb dX14_collect_134 (lv_at hl 3 rfl) ?_
                              obtain ⟨Q61, EQ61, h0, h⟩ := h
                              have hFc := rfree hR hA
                              refine vx_calli (vx_runV (As := [.int v124_5]) (rest := []) ⟨hx, hb, hml, hown, hts⟩ (r_needOf l g ad H.size U124 v124_5 hR.w  Q61 EQ61 h0) (cwV 1 hts (gd2_V kx_575 kx_576 kx_577 kx_177 kx_578) rfl rfl rfl (by decide +kernel) ⟨Nat.le_of_ble_eq_true rfl, Nat.le_of_ble_eq_true rfl⟩) ⟨rblind, va_recv hR.K hR.P (ci := 13) (q0 := 0) rfl (hR.at14 hR.w.1), fun U hU hW9 => rmk hU hW9 hR hex hE hFc⟩ rfl rfl hl.1 rfl (lv_room (Nat.le_of_ble_eq_true rfl)) dX14_collect_136 ⟨Nat.le_of_ble_eq_true rfl, Nat.le_of_ble_eq_true rfl⟩) hR.sS (fun q _ h => hFc q h) hFc (fun q _ h => hFc q h) (fun E9 ce9 q9 u9 t9 H1 locs ht9 hvm9 hp9 hB9 hz9 hk9 hS hce9 hcv9 hcl9 => ?_) (fun r62 S63 t9 H1 locs ht9 hvm9 hw9 hB9 hz9 hk9 hS => ?_)
                              · obtain ⟨hp9, hwx, hsx⟩ := hp9
                                obtain ⟨rfl, hBx⟩ := hB9
                                replace h := h.2 u9 hp9
                                have hR : Rep g ad A s u9 H1 locs := hR.call ht9 hBx hwx hS hFc
                                have hsh := hsh.tr hsx
                                exact vx_out (E := RJxb5711) (q := q9) (fun x h9 => (hnt x h9).elim) hlocks hce9 hcv9 hcl9 (fun t9 ht9 ha9 => ⟨u9, ⟨h, hR.w, hsh⟩, ⟨rfl, by rw [ht9]; exact hR.P, hR.D⟩, hR.sS.F ht9⟩) hR.sS.2.2 (Nat.le_of_ble_eq_true rfl) (Nat.le_of_ble_eq_true rfl)
                              · obtain ⟨hq64, hw9, hs9⟩ := hw9
                                have hR : Rep g ad A s S63 H1 locs := hR.call ht9 hB9 hw9 hS hFc
                                have hsh := hsh.tr hs9
                                replace h := h.1 r62 S63 hq64
                                have hT_v124_1 := hs9.T hT_v124_1 (by decide)
                                clear hB9 hz9 hk9 hvm9 ht9 hw9 hs9 hS
                                generalize H1 = H at hR ⊢
                                refine lv_istore_n (lv' := [(3, .int r62), (0, .ref (ad 0)), (1, .ref (ad v124_1)), (4, .int v124_4), (5, .int v124_5)]) hx hb dX14_collect_139 rfl hl (by decide) rfl (fun ls hl => ?_)
                                obtain ⟨a65, ea65⟩ : ∃ z, z = (v124_5 + Int32.ofInt 1) := ⟨_, rfl⟩
                                replace h := h a65 ea65
                                refine lv_iinc (v := a65) (lv' := [(5, .int a65), (3, .int r62), (0, .ref (ad 0)), (1, .ref (ad v124_1)), (4, .int v124_4)]) hx hb dX14_collect_140 hl (k := 4) rfl ea65.symm (by decide) rfl (fun ls hl => ?_)
                                refine lv_goto (tgt := 124) hx hb dX14_collect_143 (by decide) ?_
                                exact ih_124 S63 v124_1 v124_4 a65 _ _ ls h hT_v124_1 hsh hR (lv_sub hl [2, 3, 4, 0] rfl)
                        obtain ⟨n9, h⟩ := h
                        exact J_124 n9 S41 v81_1 v81_4 0 _ _ ls h hT_v81_1 hsh hR (lv_sub hl [2, 3, 4, 0] rfl)
              obtain ⟨n9, h⟩ := h
              exact J_81 n9 U39 v39_1 0 _ _ ls h hT_v39_1 hsh hR (lv_sub hl [1, 2, 0] rfl)
            · replace h := h.2 (k_nle rfl rfl c20)
              refine lv_aload_n hx hb dX14_collect_48 rfl (lv_at hl 0 rfl) ?_
              refine lv_aload_n hx hb dX14_collect_49 rfl (lv_at hl 1 rfl) ?_
              obtain ⟨hv66, h⟩ := h
              have hT_b67 : qT U39 (qO U39 v39_1 5) = 5 := hR.w.ref hv66 hT_v39_1
              refine va_get (D := rD g) (ci := 12) (v := .ref (ad (qO U39 v39_1 5))) (C := RX13) (T := TX13) (N := 23) hx hb hts in2X13 hown hR.K hR.P v39_1 (hR.at13 hT_v39_1) rfl 5 (by decide) (hts _ kx_563) (fun _ h9 => h9) (congrArg (fun z => some (vf ad z)) hv66) dX14_collect_50 ?_
              refine lv_iload hx hb dX14_collect_53 (lv_at hl 2 rfl) ?_
              obtain ⟨hv68, h⟩ := h
              refine va_aldq hx hb hR.K hR.P (qO U39 v39_1 5) 4 (hR.atS hT_b67) rfl (k_ix (x := v39_4) (a := v39_4.toInt) rfl hv68) dX14_collect_55 ?_
              obtain ⟨hv69, h⟩ := h
              have hT_b70 : qT U39 (qO U39 (qO U39 v39_1 5) v39_4.toInt.toNat) = 12 := hR.w.ref hv69 hT_b67
              rw [show va_rf (Option.map ad (qR U39 (qO U39 v39_1 5) (v39_4 : Int32).toNatClampNeg)) = .ref (ad (qO U39 (qO U39 v39_1 5) v39_4.toInt.toNat)) from congrArg (fun z => vf ad z) hv69]
              obtain ⟨Q71, EQ71, h0, h⟩ := h
              have hFc := rfree hR hA
              refine vx_calli (vx_runV (As := [.ref (ad (qO U39 (qO U39 v39_1 5) v39_4.toInt.toNat))]) (rest := []) ⟨hx, hb, hml, hown, hts⟩ (r_nameNumber l g ad H.size U39 (qO U39 (qO U39 v39_1 5) v39_4.toInt.toNat) hR.w hT_b70 Q71 EQ71 h0) (cwV 1 hts (gd2_V kx_547 kx_548 kx_549 kx_177 kx_550) rfl rfl rfl (by decide +kernel) ⟨Nat.le_of_ble_eq_true rfl, Nat.le_of_ble_eq_true rfl⟩) ⟨rblind, va_recv hR.K hR.P (ci := 13) (q0 := 0) rfl (hR.at14 hR.w.1), fun U hU hW9 => rmk hU hW9 hR hex hE hFc⟩ rfl rfl hl.1 rfl (lv_room (Nat.le_of_ble_eq_true rfl)) dX14_collect_56 ⟨Nat.le_of_ble_eq_true rfl, Nat.le_of_ble_eq_true rfl⟩) hR.sS (fun q _ h => hFc q h) hFc (fun q _ h => hFc q h) (fun E9 ce9 q9 u9 t9 H1 locs ht9 hvm9 hp9 hB9 hz9 hk9 hS hce9 hcv9 hcl9 => ?_) (fun r72 S73 t9 H1 locs ht9 hvm9 hw9 hB9 hz9 hk9 hS => ?_)
              · obtain ⟨hp9, hwx, hsx⟩ := hp9
                obtain ⟨rfl, hBx⟩ := hB9
                replace h := h.2 u9 hp9
                have hR : Rep g ad A s u9 H1 locs := hR.call ht9 hBx hwx hS hFc
                have hsh := hsh.tr hsx
                exact vx_out (E := RJxb5711) (q := q9) (fun x h9 => (hnt x h9).elim) hlocks hce9 hcv9 hcl9 (fun t9 ht9 ha9 => ⟨u9, ⟨h, hR.w, hsh⟩, ⟨rfl, by rw [ht9]; exact hR.P, hR.D⟩, hR.sS.F ht9⟩) hR.sS.2.2 (Nat.le_of_ble_eq_true rfl) (Nat.le_of_ble_eq_true rfl)
              · obtain ⟨hq74, hw9, hs9⟩ := hw9
                have hR : Rep g ad A s S73 H1 locs := hR.call ht9 hB9 hw9 hS hFc
                have hsh := hsh.tr hs9
                replace h := h.1 r72 S73 hq74
                have hT_v39_1 := hs9.T hT_v39_1 (by decide)
                clear hB9 hz9 hk9 hvm9 ht9 hw9 hs9 hS
                generalize H1 = H at hR ⊢
                refine lv_istore_n (lv' := [(3, .int r72), (0, .ref (ad 0)), (1, .ref (ad v39_1)), (4, .int v39_4)]) hx hb dX14_collect_59 rfl hl (by decide) rfl (fun ls hl => ?_)
                refine lv_aload_n hx hb dX14_collect_60 rfl (lv_at hl 1 rfl) ?_
                refine lv_aload_n hx hb dX14_collect_61 rfl (lv_at hl 2 rfl) ?_
                obtain ⟨hv75, h⟩ := h
                have hT_b76 : qT S73 (qO S73 v39_1 6) = 5 := hR.w.ref hv75 hT_v39_1
                refine va_get (D := rD g) (ci := 12) (v := .ref (ad (qO S73 v39_1 6))) (C := RX13) (T := TX13) (N := 23) hx hb hts in2X13 hown hR.K hR.P v39_1 (hR.at13 hT_v39_1) rfl 6 (by decide) (hts _ kx_564) (fun _ h9 => h9) (congrArg (fun z => some (vf ad z)) hv75) dX14_collect_62 ?_
                refine lv_iload hx hb dX14_collect_65 (lv_at hl 3 rfl) ?_
                obtain ⟨hv77, h⟩ := h
                refine va_aldq hx hb hR.K hR.P (qO S73 v39_1 6) 4 (hR.atS hT_b76) rfl (k_ix (x := v39_4) (a := v39_4.toInt) rfl hv77) dX14_collect_67 ?_
                obtain ⟨hv78, h⟩ := h
                have hT_b79 : qT S73 (qO S73 (qO S73 v39_1 6) v39_4.toInt.toNat) = 12 := hR.w.ref hv78 hT_b76
                rw [show va_rf (Option.map ad (qR S73 (qO S73 v39_1 6) (v39_4 : Int32).toNatClampNeg)) = .ref (ad (qO S73 (qO S73 v39_1 6) v39_4.toInt.toNat)) from congrArg (fun z => vf ad z) hv78]
                obtain ⟨Q80, EQ80, h0, h⟩ := h
                have hFc := rfree hR hA
                refine vx_calli (vx_runV (As := [.ref (ad (qO S73 (qO S73 v39_1 6) v39_4.toInt.toNat))]) (rest := []) ⟨hx, hb, hml, hown, hts⟩ (r_nameNumber l g ad H.size S73 (qO S73 (qO S73 v39_1 6) v39_4.toInt.toNat) hR.w hT_b79 Q80 EQ80 h0) (cwV 1 hts (gd2_V kx_547 kx_548 kx_549 kx_177 kx_550) rfl rfl rfl (by decide +kernel) ⟨Nat.le_of_ble_eq_true rfl, Nat.le_of_ble_eq_true rfl⟩) ⟨rblind, va_recv hR.K hR.P (ci := 13) (q0 := 0) rfl (hR.at14 hR.w.1), fun U hU hW9 => rmk hU hW9 hR hex hE hFc⟩ rfl rfl hl.1 rfl (lv_room (Nat.le_of_ble_eq_true rfl)) dX14_collect_68 ⟨Nat.le_of_ble_eq_true rfl, Nat.le_of_ble_eq_true rfl⟩) hR.sS (fun q _ h => hFc q h) hFc (fun q _ h => hFc q h) (fun E9 ce9 q9 u9 t9 H1 locs ht9 hvm9 hp9 hB9 hz9 hk9 hS hce9 hcv9 hcl9 => ?_) (fun r81 S82 t9 H1 locs ht9 hvm9 hw9 hB9 hz9 hk9 hS => ?_)
                · obtain ⟨hp9, hwx, hsx⟩ := hp9
                  obtain ⟨rfl, hBx⟩ := hB9
                  replace h := h.2 u9 hp9
                  have hR : Rep g ad A s u9 H1 locs := hR.call ht9 hBx hwx hS hFc
                  have hsh := hsh.tr hsx
                  exact vx_out (E := RJxb5711) (q := q9) (fun x h9 => (hnt x h9).elim) hlocks hce9 hcv9 hcl9 (fun t9 ht9 ha9 => ⟨u9, ⟨h, hR.w, hsh⟩, ⟨rfl, by rw [ht9]; exact hR.P, hR.D⟩, hR.sS.F ht9⟩) hR.sS.2.2 (Nat.le_of_ble_eq_true rfl) (Nat.le_of_ble_eq_true rfl)
                · obtain ⟨hq83, hw9, hs9⟩ := hw9
                  have hR : Rep g ad A s S82 H1 locs := hR.call ht9 hB9 hw9 hS hFc
                  have hsh := hsh.tr hs9
                  replace h := h.1 r81 S82 hq83
                  have hT_v39_1 := hs9.T hT_v39_1 (by decide)
                  clear hB9 hz9 hk9 hvm9 ht9 hw9 hs9 hS
                  generalize H1 = H at hR ⊢
                  refine lv_istore_n (lv' := [(3, .int r81), (0, .ref (ad 0)), (1, .ref (ad v39_1)), (4, .int v39_4)]) hx hb dX14_collect_71 rfl hl (by decide) rfl (fun ls hl => ?_)
                  obtain ⟨a84, ea84⟩ : ∃ z, z = (v39_4 + Int32.ofInt 1) := ⟨_, rfl⟩
                  replace h := h a84 ea84
                  refine lv_iinc (v := a84) (lv' := [(4, .int a84), (3, .int r81), (0, .ref (ad 0)), (1, .ref (ad v39_1))]) hx hb dX14_collect_72 hl (k := 3) rfl ea84.symm (by decide) rfl (fun ls hl => ?_)
                  refine lv_goto (tgt := 39) hx hb dX14_collect_75 (by decide) ?_
                  exact ih_39 S82 v39_1 a84 _ _ ls h hT_v39_1 hsh hR (lv_sub hl [2, 3, 0] rfl)
        obtain ⟨n9, h⟩ := h
        exact J_39 n9 S18 p1 0 _ _ ls h hT_p1 hsh hR (lv_sub hl [3, 4, 0] rfl)
def w_out_L5 (Q : MS → Prop) : Nat → MS → Int64 → Int32 → Prop
  | 0, _, _, _ => False
  | n5 + 1, U5, v5_1, v5_4 => ((v5_4.toInt < 0 → Q U5) ∧ (¬ v5_4.toInt < 0 → ((qR U5 0 75 = some (qO U5 0 75)) ∧ (((0 : Int) ≤ (qI U5 0 77).toInt ∧ (qI U5 0 77).toInt < (qN U5 (qO U5 0 75) : Int)) ∧ (∀ S8, S8 = wI U5 (qO U5 0 75) (((qI U5 0 77).toInt).toNat) (vp_nar .byte (((v5_1 >>> (((8 : Int32) * v5_4).toInt64 &&& 63)).toInt32).toInt8.toInt32)) → (∀ S10, S10 = wI S8 0 77 ((qI S8 0 77) + (1 : Int32)) → (∀ a11 : Int32, a11 = (v5_4 + Int32.ofInt (-1)) → (w_out_L5 Q n5) S10 v5_1 a11)))))))
def w_out (S : MS) (y1 : Int64) (x3 : Int32) (Q : MS → Prop) : Prop := (∀ a2 : Int32, a2 = (x3 - (1 : Int32)) → (∃ n, w_out_L5 Q n S y1 a2))
set_option maxHeartbeats 2000000 in
set_option maxRecDepth 100000 in
theorem r_out (l : Launch) (g : Gr) (ad : Nat → Nat) (sz : Nat) (S : MS) (y1 : Int64) (x3 : Int32) (hw : wfM S) (Q : MS → Prop) (h : w_out S y1 x3 Q) : Met l yX14_out (wt2 yX14_out cX14_out 5 none) ({ frames := 0, cells := 0, slots := 0, locals := 0 }) (va_Pc [.ref (ad 0), .long y1, .int x3] (st_R g ad sz S)) (va_Qv (fun (u : MS) => Q u ∧ wfM u ∧ shy S u) (fun (u : MS) (t : State) => qE g ad (va_A (Wd g ad S) sz) u t) (va_A (Wd g ad S) sz)) 0 0 (va_A (Wd g ad S) sz) := by
  refine Met.ofW (cc := cX14_out) (maxL := 5) (ret := none) (by decide) rfl ?_
  intro p e s m args below meth c s₁ B hml hv
  obtain ⟨rfl, hsz, hP, hK, hD0, hex, hE⟩ := hv
  have hx := B.exec
  have hb := B.bytes
  have hr := B.returns
  have hts0 := atoms_spec (ws := wt2 yX14_out cX14_out 5 none) B.pre
  have hts : ∀ w ∈ tb2, w.before _ s = true := fun w h => hts0 w (List.mem_cons_of_mem _ h)
  have hown : s.vm.findClass RX14 = some m.cls := findClass_of_methodNamed B.named
  subst hsz
  have hD := hD0.self (sz := s.heap.size)
  generalize hAe : va_A (Wd g ad S) s.heap.size = A at hD hE ⊢
  have hA : ∀ q : Nat, s.heap.size ≤ q → A q := fun q h => by rw [← hAe]; exact Or.inr h
  have hR : Rep g ad A s S s.heap [] := ⟨hK, hP, hD, va_S.rf, hw⟩
  clear hK hP hD hD0
  have hl := lv_entry ([.ref (ad 0), .long y1, .int x3]) (n := 5) (Nat.le_of_ble_eq_true rfl)
  rw [lg_entry_eq]
  generalize (lg_sl ([.ref (ad 0), .long y1, .int x3]) ++ List.replicate (5 - (lg_sl ([.ref (ad 0), .long y1, .int x3])).length) Slot.unset).toArray = ls at hl ⊢
  have hl : lv_has ls 5 [(0, .ref (ad 0)), (1, .long y1), (3, .int x3)] := hl
  have hsh : shy S S := shy.rf
  unfold w_out at h
  refine lv_iload_n hx hb dX14_out_0 rfl (lv_at hl 2 rfl) ?_
  refine lv_iconst (v := 1) hx hb dX14_out_1 (by decide) ?_
  refine lv_isub hx hb dX14_out_2 ?_
  refine lv_topi (fun z1 ez1 => ?_)
  obtain rfl : z1 = (x3 - (1 : Int32)) := ez1
  obtain ⟨a2, ea2⟩ : ∃ z, z = (x3 - (1 : Int32)) := ⟨_, rfl⟩
  rw [← ea2]
  replace h := h a2 ea2
  refine lv_istore (lv' := [(4, .int a2), (0, .ref (ad 0)), (1, .long y1), (3, .int x3)]) hx hb dX14_out_3 hl (by decide) rfl (fun ls hl => ?_)
  have J_5 : ∀ (n5 : Nat) (U5 : MS) (v5_1 : Int64) (v5_4 : Int32) (H : Heap) (locs : List Loc) (ls : Array Slot), w_out_L5 Q n5 U5 v5_1 v5_4 → shy S U5 → Rep g ad A s U5 H locs → lv_has ls 5 [(0, .ref (ad 0)), (1, .long v5_1), (4, .int v5_4)] → W p l e (headSpec (wt2 yX14_out cX14_out 5 none) ({ frames := 0, cells := 0, slots := 0, locals := 0 })).room s m ([.ref (ad 0), .long y1, .int x3] : List Value).toArray below meth c H locs 0 0 (MQ below (va_Qv (fun (u : MS) => Q u ∧ wfM u ∧ shy S u) (fun (u : MS) (t : State) => qE g ad A u t) A) ([.ref (ad 0), .long y1, .int x3] : List Value).toArray s 0 0 A) (F0 m 5 ls []) := by
    intro n5
    induction n5 with
    | zero => intro U5 v5_1 v5_4 H locs ls h hsh hR hl; unfold w_out_L5 at h; exact h.elim
    | succ n5 ih_5 =>
      intro U5 v5_1 v5_4 H locs ls h hsh hR hl
      unfold w_out_L5 at h
      refine lv_iload hx hb dX14_out_5 (lv_at hl 2 rfl) ?_
      refine lv_if_lt (tgt := 44) hx hb dX14_out_7 (by decide) (fun c3 => ?_) (fun c3 => ?_)
      · replace h := h.1 (k_lt rfl (by decide) c3)
        exact W.vret hx hb hr (fun t9 ht9 hW9 => ⟨⟨U5, rfl, ⟨h, hR.w, hsh⟩, ⟨by rw [ht9]; exact hR.P, hR.D⟩⟩, hR.sS.F ht9⟩) hR.sS.2.2 dX14_out_44
      · replace h := h.2 (k_nlt rfl (by decide) c3)
        refine lv_aload_n hx hb dX14_out_10 rfl (lv_at hl 0 rfl) ?_
        obtain ⟨hv4, h⟩ := h
        have hT_b5 : qT U5 (qO U5 0 75) = 1 := hR.w.ref hv4 hR.w.1
        refine va_get (D := rD g) (ci := 13) (v := .ref (ad (qO U5 0 75))) (C := RX14) (T := TX14) (N := 143) hx hb hts in2X14 hown hR.K hR.P 0 (hR.at14 hR.w.1) rfl 75 (by decide) (hts _ kx_579) (fun _ h9 => h9) (congrArg (fun z => some (vf ad z)) hv4) dX14_out_11 ?_
        refine lv_aload_n hx hb dX14_out_14 rfl (lv_at hl 0 rfl) ?_
        refine va_get (D := rD g) (ci := 13) (v := .int (qI U5 0 77)) (C := RX14) (T := TX14) (N := 143) hx hb hts in2X14 hown hR.K hR.P 0 (hR.at14 hR.w.1) rfl 77 (by decide) (hts _ kx_580) (fun _ h9 => h9) rfl dX14_out_15 ?_
        refine lv_lload_n hx hb dX14_out_18 rfl (lv_at hl 1 rfl) ?_
        refine lv_bipush (v := 8) hx hb dX14_out_19 (by decide) ?_
        refine lv_iload hx hb dX14_out_21 (lv_at hl 2 rfl) ?_
        refine lv_imul hx hb dX14_out_23 ?_
        refine lv_topi (fun z6 ez6 => ?_)
        obtain rfl : z6 = ((8 : Int32) * v5_4) := ez6
        refine lv_lshr (v := (v5_1 >>> (((8 : Int32) * v5_4).toInt64 &&& 63))) hx hb dX14_out_24 rfl ?_
        refine lv_l2i (v := ((v5_1 >>> (((8 : Int32) * v5_4).toInt64 &&& 63)).toInt32)) hx hb dX14_out_25 rfl ?_
        refine lv_i2b (v := (((v5_1 >>> (((8 : Int32) * v5_4).toInt64 &&& 63)).toInt32).toInt8.toInt32)) hx hb dX14_out_26 rfl ?_
        obtain ⟨hv7, h⟩ := h
        refine va_bast hx hb hR.K hR.P hR.D hR.sS (qO U5 0 75) 0 (hR.atB hT_b5) rfl (k_ix (x := (qI U5 0 77)) (a := (qI U5 0 77).toInt) rfl hv7) dX14_out_27 (fun H locs hP hD hS => ?_)
        have hR : Rep g ad A s (wI U5 (qO U5 0 75) (((qI U5 0 77).toInt).toNat) (vp_nar .byte (((v5_1 >>> (((8 : Int32) * v5_4).toInt64 &&& 63)).toInt32).toInt8.toInt32))) H locs := hR.aB hT_b5 hP hD hS
        obtain ⟨S8, eS8⟩ : ∃ z, z = wI U5 (qO U5 0 75) (((qI U5 0 77).toInt).toNat) (vp_nar .byte (((v5_1 >>> (((8 : Int32) * v5_4).toInt64 &&& 63)).toInt32).toInt8.toInt32)) := ⟨_, rfl⟩
        rw [← eS8] at hR
        replace h := h S8 eS8
        have hsh : shy S S8 := by rw [eS8]; exact hsh
        refine lv_aload_n hx hb dX14_out_28 rfl (lv_at hl 0 rfl) ?_
        refine lv_dup hx hb dX14_out_29 rfl ?_
        refine va_get (D := rD g) (ci := 13) (v := .int (qI S8 0 77)) (C := RX14) (T := TX14) (N := 143) hx hb hts in2X14 hown hR.K hR.P 0 (hR.at14 hR.w.1) rfl 77 (by decide) (hts _ kx_580) (fun _ h9 => h9) rfl dX14_out_30 ?_
        refine lv_iconst (v := 1) hx hb dX14_out_33 (by decide) ?_
        refine lv_iadd hx hb dX14_out_34 ?_
        refine lv_topi (fun z9 ez9 => ?_)
        obtain rfl : z9 = ((qI S8 0 77) + (1 : Int32)) := ez9
        refine va_put (D := rD g) (ci := 13) (v := .int ((qI S8 0 77) + (1 : Int32))) (ty := .int) (C := RX14) (T := TX14) (N := 143) hx hb hts in2X14 tyX14 tyX14_ok nmX14 hown hR.K hR.P hR.D hR.sS 0 (hR.at14 hR.w.1) rfl 77 (by decide) (hts _ kx_580) (fun _ h9 => h9) rfl (by decide +kernel) rfl rfl (Nat.le_of_ble_eq_true rfl) dX14_out_35 (fun H locs hP hD hS => ?_)
        have hR : Rep g ad A s (wI S8 0 77 ((qI S8 0 77) + (1 : Int32))) H locs := hR.pI hR.w.1 F14_s77 hP hD hS
        obtain ⟨S10, eS10⟩ : ∃ z, z = wI S8 0 77 ((qI S8 0 77) + (1 : Int32)) := ⟨_, rfl⟩
        rw [← eS10] at hR
        replace h := h S10 eS10
        have hsh : shy S S10 := by rw [eS10]; exact hsh
        obtain ⟨a11, ea11⟩ : ∃ z, z = (v5_4 + Int32.ofInt (-1)) := ⟨_, rfl⟩
        replace h := h a11 ea11
        refine lv_iinc (v := a11) (lv' := [(4, .int a11), (0, .ref (ad 0)), (1, .long v5_1)]) hx hb dX14_out_38 hl (k := 2) rfl ea11.symm (by decide) rfl (fun ls hl => ?_)
        refine lv_goto (tgt := 5) hx hb dX14_out_41 (by decide) ?_
        exact ih_5 S10 v5_1 a11 _ _ ls h  hsh hR (lv_sub hl [1, 2, 0] rfl)
  obtain ⟨n9, h⟩ := h
  exact J_5 n9 S y1 a2 _ _ ls h  hsh hR (lv_sub hl [1, 2, 0] rfl)
def w_bytesOf_J191 (Q : Int32 → MS → Prop) (E : MS → Prop) (U191 : MS) : Prop := Q (3 : Int32) U191
def w_bytesOf_J160 (Q : Int32 → MS → Prop) (E : MS → Prop) (U160 : MS) (v160_1 : Int32) (v160_4 : Int32) : Prop := (d_isByte U160 v160_4 ∧ (((f_isByte U160 v160_4).toInt = 0 → (d_isShort U160 v160_4 ∧ (((f_isShort U160 v160_4).toInt = 0 → (∃ Q17 EQ17, w_needOf U160 v160_1 Q17 EQ17 ∧ (∀ r18 S19, Q17 r18 S19 → ((r18.toInt ≤ 255 → Q (2 : Int32) S19) ∧ (¬ r18.toInt ≤ 255 → w_bytesOf_J191 Q E S19))) ∧ (∀ u9, EQ17 u9 → E u9))) ∧ (¬ (f_isShort U160 v160_4).toInt = 0 → w_bytesOf_J191 Q E U160)))) ∧ (¬ (f_isByte U160 v160_4).toInt = 0 → Q (2 : Int32) U160)))
def w_bytesOf_J217 (Q : Int32 → MS → Prop) (E : MS → Prop) (U217 : MS) : Prop := Q (1 : Int32) U217
def w_bytesOf (S : MS) (x1 : Int32) (x2 : Int32) (Q : Int32 → MS → Prop) (E : MS → Prop) : Prop := (d_op S x1 ∧ (∀ a4 : Int32, a4 = (f_op S x1) → (d_first S x1 ∧ (∀ a8 : Int32, a8 = (f_first S x1) → ((a4.toInt = 18 → ((a8.toInt < (-1) → w_bytesOf_J160 Q E S x1 a8) ∧ (¬ a8.toInt < (-1) → ((5 < a8.toInt → w_bytesOf_J160 Q E S x1 a8) ∧ (¬ 5 < a8.toInt → Q (1 : Int32) S))))) ∧ (¬ a4.toInt = 18 → ((a4.toInt = 20 → (d_longOf S x1 ∧ (((lg_cmp (f_longOf S x1) 0).toInt = 0 → w_bytesOf_J217 Q E S) ∧ (¬ (lg_cmp (f_longOf S x1) 0).toInt = 0 → (d_longOf S x1 ∧ (((lg_cmp (f_longOf S x1) 1).toInt = 0 → w_bytesOf_J217 Q E S) ∧ (¬ (lg_cmp (f_longOf S x1) 1).toInt = 0 → Q (3 : Int32) S))))))) ∧ (¬ a4.toInt = 20 → ((a4.toInt = 21 → ((4 ≤ a8.toInt → Q (2 : Int32) S) ∧ (¬ 4 ≤ a8.toInt → Q (1 : Int32) S))) ∧ (¬ a4.toInt = 21 → ((a4.toInt = 22 → ((4 ≤ a8.toInt → Q (2 : Int32) S) ∧ (¬ 4 ≤ a8.toInt → Q (1 : Int32) S))) ∧ (¬ a4.toInt = 22 → ((a4.toInt = 25 → ((4 ≤ a8.toInt → Q (2 : Int32) S) ∧ (¬ 4 ≤ a8.toInt → Q (1 : Int32) S))) ∧ (¬ a4.toInt = 25 → ((a4.toInt = 54 → ((4 ≤ a8.toInt → Q (2 : Int32) S) ∧ (¬ 4 ≤ a8.toInt → Q (1 : Int32) S))) ∧ (¬ a4.toInt = 54 → ((a4.toInt = 55 → ((4 ≤ a8.toInt → Q (2 : Int32) S) ∧ (¬ 4 ≤ a8.toInt → Q (1 : Int32) S))) ∧ (¬ a4.toInt = 55 → ((a4.toInt = 58 → ((4 ≤ a8.toInt → Q (2 : Int32) S) ∧ (¬ 4 ≤ a8.toInt → Q (1 : Int32) S))) ∧ (¬ a4.toInt = 58 → ((a4.toInt = 132 → (d_second S x1 ∧ (d_isByte S (f_second S x1) ∧ (((f_isByte S (f_second S x1)).toInt = 0 → Q (6 : Int32) S) ∧ (¬ (f_isByte S (f_second S x1)).toInt = 0 → Q (3 : Int32) S))))) ∧ (¬ a4.toInt = 132 → ((a4.toInt = 170 → (d_switchFrom S x2 ∧ (d_second S x1 ∧ Q ((((f_switchFrom S x2) - x2) + (12 : Int32)) + ((4 : Int32) * (f_second S x1))) S))) ∧ (¬ a4.toInt = 170 → ((a4.toInt = 171 → (d_switchFrom S x2 ∧ (d_second S x1 ∧ Q ((((f_switchFrom S x2) - x2) + (8 : Int32)) + ((8 : Int32) * (f_second S x1))) S))) ∧ (¬ a4.toInt = 171 → ((a4.toInt = 178 → Q (3 : Int32) S) ∧ (¬ a4.toInt = 178 → ((a4.toInt = 179 → Q (3 : Int32) S) ∧ (¬ a4.toInt = 179 → ((a4.toInt = 184 → Q (3 : Int32) S) ∧ (¬ a4.toInt = 184 → ((a4.toInt = 188 → Q (2 : Int32) S) ∧ (¬ a4.toInt = 188 → (d_isJump S a4 ∧ (((f_isJump S a4).toInt = 0 → Q (1 : Int32) S) ∧ (¬ (f_isJump S a4).toInt = 0 → Q (3 : Int32) S)))))))))))))))))))))))))))))))))))))
set_option maxHeartbeats 2000000 in
set_option maxRecDepth 100000 in
theorem r_bytesOf (l : Launch) (g : Gr) (ad : Nat → Nat) (sz : Nat) (S : MS) (x1 : Int32) (x2 : Int32) (hw : wfM S) (Q : Int32 → MS → Prop) (E : MS → Prop) (h : w_bytesOf S x1 x2 Q E) : vx_Met l yX14_bytesOf (wt2 yX14_bytesOf cX14_bytesOf 5 (some .int)) ({ frames := 7, cells := 0, slots := 0, locals := 161 }) (va_Pc [.ref (ad 0), .int x1, .int x2] (st_R g ad sz S)) (va_Qi (fun (r : Int32) (u : MS) => Q r u ∧ wfM u ∧ shy S u) (fun (u : MS) (t : State) => qE g ad (va_A (Wd g ad S) sz) u t) (va_A (Wd g ad S) sz)) (vx_X (fun (u : MS) => E u ∧ wfM u ∧ shy S u) (fun (n9 : String) (u : MS) (t : State) => n9 = RJxb5711 ∧ qE g ad (va_A (Wd g ad S) sz) u t) (va_A (Wd g ad S) sz)) 0 0 (va_A (Wd g ad S) sz) := by
  refine vx_ofW (cc := cX14_bytesOf) (maxL := 5) (ret := (some .int)) (by decide) rfl ?_
  intro p e s m args below meth c s₁ B hml hnt hv
  obtain ⟨rfl, hsz, hP, hK, hD0, hex, hE⟩ := hv
  have hx := B.exec
  have hb := B.bytes
  have hr := B.returns
  have hlocks := B.notSynchronized
  have hts0 := atoms_spec (ws := wt2 yX14_bytesOf cX14_bytesOf 5 (some .int)) B.pre
  have hts : ∀ w ∈ tb2, w.before _ s = true := fun w h => hts0 w (List.mem_cons_of_mem _ h)
  have hown : s.vm.findClass RX14 = some m.cls := findClass_of_methodNamed B.named
  subst hsz
  have hD := hD0.self (sz := s.heap.size)
  generalize hAe : va_A (Wd g ad S) s.heap.size = A at hD hE ⊢
  have hA : ∀ q : Nat, s.heap.size ≤ q → A q := fun q h => by rw [← hAe]; exact Or.inr h
  have hR : Rep g ad A s S s.heap [] := ⟨hK, hP, hD, va_S.rf, hw⟩
  clear hK hP hD hD0
  have hl := lv_entry ([.ref (ad 0), .int x1, .int x2]) (n := 5) (Nat.le_of_ble_eq_true rfl)
  rw [lg_entry_eq]
  generalize (lg_sl ([.ref (ad 0), .int x1, .int x2]) ++ List.replicate (5 - (lg_sl ([.ref (ad 0), .int x1, .int x2])).length) Slot.unset).toArray = ls at hl ⊢
  have hl : lv_has ls 5 [(0, .ref (ad 0)), (1, .int x1), (2, .int x2)] := hl
  have hsh : shy S S := shy.rf
  unfold w_bytesOf at h
  refine lv_aload_n hx hb dX14_bytesOf_0 rfl (lv_at hl 0 rfl) ?_
  refine lv_iload_n hx hb dX14_bytesOf_1 rfl (lv_at hl 1 rfl) ?_
  obtain ⟨hv1, h⟩ := h
  have hFc := rfree hR hA
  refine va_calli (va_runV (As := [.int x1]) (rest := []) ⟨hx, hb, hml, hown, hts⟩ (r_op l g ad s.heap.size S x1 hR.w  hv1) (cwV 1 hts (gd2_V kx_379 kx_380 kx_381 kx_177 kx_382) rfl rfl rfl (by decide +kernel) ⟨Nat.le_of_ble_eq_true rfl, Nat.le_of_ble_eq_true rfl⟩) ⟨rblind, va_recv hR.K hR.P (ci := 13) (q0 := 0) rfl (hR.at14 hR.w.1), fun U hU hW9 => rmk hU hW9 hR hex hE hFc⟩ rfl rfl hl.1 rfl (lv_room (Nat.le_of_ble_eq_true rfl)) dX14_bytesOf_2 ⟨Nat.le_of_ble_eq_true rfl, Nat.le_of_ble_eq_true rfl⟩) hR.sS (fun q _ h => hFc q h) hFc (fun r2 u9 t9 H1 locs ht9 hvm9 hw9 hB9 hz9 hk9 hS => ?_)
  have hR : Rep g ad A s S H1 locs := hR.call ht9 hB9 hR.w hS hFc
  obtain rfl : r2 = (f_op S x1) := hw9
  clear hB9 hz9 hk9 hvm9 ht9 hS
  generalize H1 = H at hR ⊢
  obtain ⟨a4, ea4⟩ : ∃ z, z = (f_op S x1) := ⟨_, rfl⟩
  rw [← ea4]
  replace h := h a4 ea4
  refine lv_istore_n (lv' := [(3, .int a4), (0, .ref (ad 0)), (1, .int x1), (2, .int x2)]) hx hb dX14_bytesOf_5 rfl hl (by decide) rfl (fun ls hl => ?_)
  refine lv_aload_n hx hb dX14_bytesOf_6 rfl (lv_at hl 1 rfl) ?_
  refine lv_iload_n hx hb dX14_bytesOf_7 rfl (lv_at hl 2 rfl) ?_
  obtain ⟨hv5, h⟩ := h
  have hFc := rfree hR hA
  refine va_calli (va_runV (As := [.int x1]) (rest := []) ⟨hx, hb, hml, hown, hts⟩ (r_first l g ad H.size S x1 hR.w  hv5) (cwV 1 hts (gd2_V kx_393 kx_394 kx_395 kx_177 kx_396) rfl rfl rfl (by decide +kernel) ⟨Nat.le_of_ble_eq_true rfl, Nat.le_of_ble_eq_true rfl⟩) ⟨rblind, va_recv hR.K hR.P (ci := 13) (q0 := 0) rfl (hR.at14 hR.w.1), fun U hU hW9 => rmk hU hW9 hR hex hE hFc⟩ rfl rfl hl.1 rfl (lv_room (Nat.le_of_ble_eq_true rfl)) dX14_bytesOf_8 ⟨Nat.le_of_ble_eq_true rfl, Nat.le_of_ble_eq_true rfl⟩) hR.sS (fun q _ h => hFc q h) hFc (fun r6 u9 t9 H1 locs ht9 hvm9 hw9 hB9 hz9 hk9 hS => ?_)
  have hR : Rep g ad A s S H1 locs := hR.call ht9 hB9 hR.w hS hFc
  obtain rfl : r6 = (f_first S x1) := hw9
  clear hB9 hz9 hk9 hvm9 ht9 hS
  generalize H1 = H at hR ⊢
  obtain ⟨a8, ea8⟩ : ∃ z, z = (f_first S x1) := ⟨_, rfl⟩
  rw [← ea8]
  replace h := h a8 ea8
  refine lv_istore (lv' := [(4, .int a8), (3, .int a4), (0, .ref (ad 0)), (1, .int x1), (2, .int x2)]) hx hb dX14_bytesOf_11 hl (by decide) rfl (fun ls hl => ?_)
  refine lv_iload_n hx hb dX14_bytesOf_13 rfl (lv_at hl 1 rfl) ?_
  by_cases c9_18 : a4.toInt = 18
  · refine lv_lookup (off := 130) (tgt := 144) hx hb dX14_bytesOf_14 (by decide) (by rw [c9_18]; decide) (by decide) ?_
    replace h := h.1 (c9_18)
    refine lv_iload hx hb dX14_bytesOf_144 (lv_at hl 0 rfl) ?_
    refine lv_iconst (v := (-1)) hx hb dX14_bytesOf_146 (by decide) ?_
    have J_160 : ∀ (U160 : MS) (v160_1 : Int32) (v160_4 : Int32) (H : Heap) (locs : List Loc) (ls : Array Slot), w_bytesOf_J160 Q E U160 v160_1 v160_4 → shy S U160 → Rep g ad A s U160 H locs → lv_has ls 5 [(0, .ref (ad 0)), (1, .int v160_1), (4, .int v160_4)] → W p l e (headSpec (wt2 yX14_bytesOf cX14_bytesOf 5 (some .int)) ({ frames := 7, cells := 0, slots := 0, locals := 161 })).room s m ([.ref (ad 0), .int x1, .int x2] : List Value).toArray below meth c H locs 0 0 (vx_MQ below (va_Qi (fun (r : Int32) (u : MS) => Q r u ∧ wfM u ∧ shy S u) (fun (u : MS) (t : State) => qE g ad A u t) A) ((vx_X (fun (u : MS) => E u ∧ wfM u ∧ shy S u) (fun (n9 : String) (u : MS) (t : State) => n9 = RJxb5711 ∧ qE g ad A u t) A)) ([.ref (ad 0), .int x1, .int x2] : List Value).toArray s 0 0 A) (F0 m 160 ls []) := by
      intro U160 v160_1 v160_4 H locs ls h hsh hR hl
      unfold w_bytesOf_J160 at h
      refine lv_iload hx hb dX14_bytesOf_160 (lv_at hl 2 rfl) ?_
      obtain ⟨hv9, h⟩ := h
      have hFc := rfree hR hA
      refine va_calli (va_runS (As := [.int v160_4]) (rest := []) ⟨hx, hb, hml, hown, hts⟩ (r_isByte l g ad H.size U160 v160_4 hR.w  hv9) (va_cwS 1 hts (gd2_S kx_581 kx_582 kx_177 kx_583) rfl rfl rfl (by decide +kernel) ⟨Nat.le_of_ble_eq_true rfl, Nat.le_of_ble_eq_true rfl⟩) ⟨rblind, fun U hU hW9 => rmk hU hW9 hR hex hE hFc⟩ rfl rfl hl.1 rfl (lv_room (Nat.le_of_ble_eq_true rfl)) dX14_bytesOf_162 ⟨Nat.le_of_ble_eq_true rfl, Nat.le_of_ble_eq_true rfl⟩) hR.sS (fun q _ h => hFc q h) hFc (fun r10 u9 t9 H1 locs ht9 hvm9 hw9 hB9 hz9 hk9 hS => ?_)
      have hR : Rep g ad A s U160 H1 locs := hR.call ht9 hB9 hR.w hS hFc
      obtain ⟨rfl, hz_r10⟩ := hw9
      clear hB9 hz9 hk9 hvm9 ht9 hS
      generalize H1 = H at hR ⊢
      refine lv_if_eq (tgt := 172) hx hb dX14_bytesOf_165 (by decide) (fun c12 => ?_) (fun c12 => ?_)
      · replace h := h.1 (k_eq rfl (by decide) c12)
        refine lv_iload hx hb dX14_bytesOf_172 (lv_at hl 2 rfl) ?_
        obtain ⟨hv13, h⟩ := h
        have hFc := rfree hR hA
        refine va_calli (va_runS (As := [.int v160_4]) (rest := []) ⟨hx, hb, hml, hown, hts⟩ (r_isShort l g ad H.size U160 v160_4 hR.w  hv13) (va_cwS 1 hts (gd2_S kx_556 kx_557 kx_177 kx_558) rfl rfl rfl (by decide +kernel) ⟨Nat.le_of_ble_eq_true rfl, Nat.le_of_ble_eq_true rfl⟩) ⟨rblind, fun U hU hW9 => rmk hU hW9 hR hex hE hFc⟩ rfl rfl hl.1 rfl (lv_room (Nat.le_of_ble_eq_true rfl)) dX14_bytesOf_174 ⟨Nat.le_of_ble_eq_true rfl, Nat.le_of_ble_eq_true rfl⟩) hR.sS (fun q _ h => hFc q h) hFc (fun r14 u9 t9 H1 locs ht9 hvm9 hw9 hB9 hz9 hk9 hS => ?_)
        have hR : Rep g ad A s U160 H1 locs := hR.call ht9 hB9 hR.w hS hFc
        obtain ⟨rfl, hz_r14⟩ := hw9
        clear hB9 hz9 hk9 hvm9 ht9 hS
        generalize H1 = H at hR ⊢
        have J_191 : ∀ (U191 : MS) (H : Heap) (locs : List Loc) (ls : Array Slot), w_bytesOf_J191 Q E U191 → shy S U191 → Rep g ad A s U191 H locs → lv_has ls 5 [] → W p l e (headSpec (wt2 yX14_bytesOf cX14_bytesOf 5 (some .int)) ({ frames := 7, cells := 0, slots := 0, locals := 161 })).room s m ([.ref (ad 0), .int x1, .int x2] : List Value).toArray below meth c H locs 0 0 (vx_MQ below (va_Qi (fun (r : Int32) (u : MS) => Q r u ∧ wfM u ∧ shy S u) (fun (u : MS) (t : State) => qE g ad A u t) A) ((vx_X (fun (u : MS) => E u ∧ wfM u ∧ shy S u) (fun (n9 : String) (u : MS) (t : State) => n9 = RJxb5711 ∧ qE g ad A u t) A)) ([.ref (ad 0), .int x1, .int x2] : List Value).toArray s 0 0 A) (F0 m 191 ls []) := by
          intro U191 H locs ls h hsh hR hl
          unfold w_bytesOf_J191 at h
          refine lv_iconst (v := 3) hx hb dX14_bytesOf_191 (by decide) ?_
          refine lv_goto (tgt := 196) hx hb dX14_bytesOf_192 (by decide) ?_
          exact vx_ret (W.iret (v := 3) hx hb hr (fun t9 ht9 hW9 => ⟨⟨_, U191, rfl, ⟨h, hR.w, hsh⟩, ⟨by rw [ht9]; exact hR.P, hR.D⟩⟩, hR.sS.F ht9⟩) hR.sS.2.2 dX14_bytesOf_196)
        refine lv_if_ne (tgt := 191) hx hb dX14_bytesOf_177 (by decide) (fun c16 => ?_) (fun c16 => ?_)
        · replace h := h.2 (k_ne rfl (by decide) c16)
          exact J_191 U160 _ _ ls h  hsh hR (lv_sub hl [] rfl)
        · replace h := h.1 (k_eq rfl (by decide) c16)
          refine lv_aload_n hx hb dX14_bytesOf_180 rfl (lv_at hl 0 rfl) ?_
          refine lv_iload_n hx hb dX14_bytesOf_181 rfl (lv_at hl 1 rfl) ?_
          obtain ⟨Q17, EQ17, h0, h⟩ := h
          have hFc := rfree hR hA
          refine vx_calli (vx_runV (As := [.int v160_1]) (rest := []) ⟨hx, hb, hml, hown, hts⟩ (r_needOf l g ad H.size U160 v160_1 hR.w  Q17 EQ17 h0) (cwV 1 hts (gd2_V kx_575 kx_576 kx_577 kx_177 kx_578) rfl rfl rfl (by decide +kernel) ⟨Nat.le_of_ble_eq_true rfl, Nat.le_of_ble_eq_true rfl⟩) ⟨rblind, va_recv hR.K hR.P (ci := 13) (q0 := 0) rfl (hR.at14 hR.w.1), fun U hU hW9 => rmk hU hW9 hR hex hE hFc⟩ rfl rfl hl.1 rfl (lv_room (Nat.le_of_ble_eq_true rfl)) dX14_bytesOf_182 ⟨Nat.le_of_ble_eq_true rfl, Nat.le_of_ble_eq_true rfl⟩) hR.sS (fun q _ h => hFc q h) hFc (fun q _ h => hFc q h) (fun E9 ce9 q9 u9 t9 H1 locs ht9 hvm9 hp9 hB9 hz9 hk9 hS hce9 hcv9 hcl9 => ?_) (fun r18 S19 t9 H1 locs ht9 hvm9 hw9 hB9 hz9 hk9 hS => ?_)
          · obtain ⟨hp9, hwx, hsx⟩ := hp9
            obtain ⟨rfl, hBx⟩ := hB9
            replace h := h.2 u9 hp9
            have hR : Rep g ad A s u9 H1 locs := hR.call ht9 hBx hwx hS hFc
            have hsh := hsh.tr hsx
            exact vx_out (E := RJxb5711) (q := q9) (fun x h9 => (hnt x h9).elim) hlocks hce9 hcv9 hcl9 (fun t9 ht9 ha9 => ⟨u9, ⟨h, hR.w, hsh⟩, ⟨rfl, by rw [ht9]; exact hR.P, hR.D⟩, hR.sS.F ht9⟩) hR.sS.2.2 (Nat.le_of_ble_eq_true rfl) (Nat.le_of_ble_eq_true rfl)
          · obtain ⟨hq20, hw9, hs9⟩ := hw9
            have hR : Rep g ad A s S19 H1 locs := hR.call ht9 hB9 hw9 hS hFc
            have hsh := hsh.tr hs9
            replace h := h.1 r18 S19 hq20
            clear hB9 hz9 hk9 hvm9 ht9 hw9 hs9 hS
            generalize H1 = H at hR ⊢
            refine lv_sipush (v := 255) hx hb dX14_bytesOf_185 (by decide) ?_
            refine lv_icmp_le (tgt := 195) hx hb dX14_bytesOf_188 (by decide) (fun c21 => ?_) (fun c21 => ?_)
            · replace h := h.1 (k_le rfl (by decide) c21)
              refine lv_iconst (v := 2) hx hb dX14_bytesOf_195 (by decide) ?_
              exact vx_ret (W.iret (v := 2) hx hb hr (fun t9 ht9 hW9 => ⟨⟨_, S19, rfl, ⟨h, hR.w, hsh⟩, ⟨by rw [ht9]; exact hR.P, hR.D⟩⟩, hR.sS.F ht9⟩) hR.sS.2.2 dX14_bytesOf_196)
            · replace h := h.2 (k_nle rfl (by decide) c21)
              exact J_191 S19 _ _ ls h  hsh hR (lv_sub hl [] rfl)
      · replace h := h.2 (k_ne rfl (by decide) c12)
        refine lv_iconst (v := 2) hx hb dX14_bytesOf_168 (by decide) ?_
        refine lv_goto (tgt := 196) hx hb dX14_bytesOf_169 (by decide) ?_
        exact vx_ret (W.iret (v := 2) hx hb hr (fun t9 ht9 hW9 => ⟨⟨_, U160, rfl, ⟨h, hR.w, hsh⟩, ⟨by rw [ht9]; exact hR.P, hR.D⟩⟩, hR.sS.F ht9⟩) hR.sS.2.2 dX14_bytesOf_196)
    refine lv_icmp_lt (tgt := 160) hx hb dX14_bytesOf_147 (by decide) (fun c22 => ?_) (fun c22 => ?_)
    · replace h := h.1 (k_lt rfl (by decide) c22)
      exact J_160 S x1 a8 _ _ ls h  hsh hR (lv_sub hl [2, 3, 0] rfl)
    · replace h := h.2 (k_nlt rfl (by decide) c22)
      refine lv_iload hx hb dX14_bytesOf_150 (lv_at hl 0 rfl) ?_
      refine lv_iconst (v := 5) hx hb dX14_bytesOf_152 (by decide) ?_
      refine lv_icmp_gt (tgt := 160) hx hb dX14_bytesOf_153 (by decide) (fun c23 => ?_) (fun c23 => ?_)
      · replace h := h.1 (k_lt (by decide) rfl c23)
        exact J_160 S x1 a8 _ _ ls h  hsh hR (lv_sub hl [2, 3, 0] rfl)
      · replace h := h.2 (k_nlt (by decide) rfl c23)
        refine lv_iconst (v := 1) hx hb dX14_bytesOf_156 (by decide) ?_
        refine lv_goto (tgt := 196) hx hb dX14_bytesOf_157 (by decide) ?_
        exact vx_ret (W.iret (v := 1) hx hb hr (fun t9 ht9 hW9 => ⟨⟨_, S, rfl, ⟨h, hR.w, hsh⟩, ⟨by rw [ht9]; exact hR.P, hR.D⟩⟩, hR.sS.F ht9⟩) hR.sS.2.2 dX14_bytesOf_196)
  replace h := h.2 c9_18
  by_cases c9_20 : a4.toInt = 20
  · refine lv_lookup (off := 183) (tgt := 197) hx hb dX14_bytesOf_14 (by decide) (by rw [c9_20]; decide) (by decide) ?_
    replace h := h.1 (c9_20)
    refine lv_aload_n hx hb dX14_bytesOf_197 rfl (lv_at hl 2 rfl) ?_
    refine lv_iload_n hx hb dX14_bytesOf_198 rfl (lv_at hl 3 rfl) ?_
    obtain ⟨hv24, h⟩ := h
    have hFc := rfree hR hA
    refine va_calll (va_runV (As := [.int x1]) (rest := []) ⟨hx, hb, hml, hown, hts⟩ (r_longOf l g ad H.size S x1 hR.w  hv24) (cwV 1 hts (gd2_V kx_559 kx_560 kx_561 kx_177 kx_562) rfl rfl rfl (by decide +kernel) ⟨Nat.le_of_ble_eq_true rfl, Nat.le_of_ble_eq_true rfl⟩) ⟨rblind, va_recv hR.K hR.P (ci := 13) (q0 := 0) rfl (hR.at14 hR.w.1), fun U hU hW9 => rmk hU hW9 hR hex hE hFc⟩ rfl rfl hl.1 rfl (lv_room (Nat.le_of_ble_eq_true rfl)) dX14_bytesOf_199 ⟨Nat.le_of_ble_eq_true rfl, Nat.le_of_ble_eq_true rfl⟩) hR.sS (fun q _ h => hFc q h) hFc (fun r25 u9 t9 H1 locs ht9 hvm9 hw9 hB9 hz9 hk9 hS => ?_)
    have hR : Rep g ad A s S H1 locs := hR.call ht9 hB9 hR.w hS hFc
    obtain rfl : r25 = (f_longOf S x1) := hw9
    clear hB9 hz9 hk9 hvm9 ht9 hS
    generalize H1 = H at hR ⊢
    refine lv_lconst (v := 0) hx hb dX14_bytesOf_202 (by decide) ?_
    refine W.lcmp hx hb dX14_bytesOf_203 ?_
    refine lv_topi (fun z27 ez27 => ?_)
    obtain rfl : z27 = (lg_cmp (f_longOf S x1) 0) := ez27
    have J_217 : ∀ (U217 : MS) (H : Heap) (locs : List Loc) (ls : Array Slot), w_bytesOf_J217 Q E U217 → shy S U217 → Rep g ad A s U217 H locs → lv_has ls 5 [] → W p l e (headSpec (wt2 yX14_bytesOf cX14_bytesOf 5 (some .int)) ({ frames := 7, cells := 0, slots := 0, locals := 161 })).room s m ([.ref (ad 0), .int x1, .int x2] : List Value).toArray below meth c H locs 0 0 (vx_MQ below (va_Qi (fun (r : Int32) (u : MS) => Q r u ∧ wfM u ∧ shy S u) (fun (u : MS) (t : State) => qE g ad A u t) A) ((vx_X (fun (u : MS) => E u ∧ wfM u ∧ shy S u) (fun (n9 : String) (u : MS) (t : State) => n9 = RJxb5711 ∧ qE g ad A u t) A)) ([.ref (ad 0), .int x1, .int x2] : List Value).toArray s 0 0 A) (F0 m 217 ls []) := by
      intro U217 H locs ls h hsh hR hl
      unfold w_bytesOf_J217 at h
      refine lv_iconst (v := 1) hx hb dX14_bytesOf_217 (by decide) ?_
      refine lv_goto (tgt := 222) hx hb dX14_bytesOf_218 (by decide) ?_
      exact vx_ret (W.iret (v := 1) hx hb hr (fun t9 ht9 hW9 => ⟨⟨_, U217, rfl, ⟨h, hR.w, hsh⟩, ⟨by rw [ht9]; exact hR.P, hR.D⟩⟩, hR.sS.F ht9⟩) hR.sS.2.2 dX14_bytesOf_222)
    refine lv_if_eq (tgt := 217) hx hb dX14_bytesOf_204 (by decide) (fun c28 => ?_) (fun c28 => ?_)
    · replace h := h.1 (k_eq rfl (by decide) c28)
      exact J_217 S _ _ ls h  hsh hR (lv_sub hl [] rfl)
    · replace h := h.2 (k_ne rfl (by decide) c28)
      refine lv_aload_n hx hb dX14_bytesOf_207 rfl (lv_at hl 2 rfl) ?_
      refine lv_iload_n hx hb dX14_bytesOf_208 rfl (lv_at hl 3 rfl) ?_
      obtain ⟨hv29, h⟩ := h
      have hFc := rfree hR hA
      refine va_calll (va_runV (As := [.int x1]) (rest := []) ⟨hx, hb, hml, hown, hts⟩ (r_longOf l g ad H.size S x1 hR.w  hv29) (cwV 1 hts (gd2_V kx_559 kx_560 kx_561 kx_177 kx_562) rfl rfl rfl (by decide +kernel) ⟨Nat.le_of_ble_eq_true rfl, Nat.le_of_ble_eq_true rfl⟩) ⟨rblind, va_recv hR.K hR.P (ci := 13) (q0 := 0) rfl (hR.at14 hR.w.1), fun U hU hW9 => rmk hU hW9 hR hex hE hFc⟩ rfl rfl hl.1 rfl (lv_room (Nat.le_of_ble_eq_true rfl)) dX14_bytesOf_209 ⟨Nat.le_of_ble_eq_true rfl, Nat.le_of_ble_eq_true rfl⟩) hR.sS (fun q _ h => hFc q h) hFc (fun r30 u9 t9 H1 locs ht9 hvm9 hw9 hB9 hz9 hk9 hS => ?_)
      have hR : Rep g ad A s S H1 locs := hR.call ht9 hB9 hR.w hS hFc
      obtain rfl : r30 = (f_longOf S x1) := hw9
      clear hB9 hz9 hk9 hvm9 ht9 hS
      generalize H1 = H at hR ⊢
      refine lv_lconst (v := 1) hx hb dX14_bytesOf_212 (by decide) ?_
      refine W.lcmp hx hb dX14_bytesOf_213 ?_
      refine lv_topi (fun z32 ez32 => ?_)
      obtain rfl : z32 = (lg_cmp (f_longOf S x1) 1) := ez32
      refine lv_if_ne (tgt := 221) hx hb dX14_bytesOf_214 (by decide) (fun c33 => ?_) (fun c33 => ?_)
      · replace h := h.2 (k_ne rfl (by decide) c33)
        refine lv_iconst (v := 3) hx hb dX14_bytesOf_221 (by decide) ?_
        exact vx_ret (W.iret (v := 3) hx hb hr (fun t9 ht9 hW9 => ⟨⟨_, S, rfl, ⟨h, hR.w, hsh⟩, ⟨by rw [ht9]; exact hR.P, hR.D⟩⟩, hR.sS.F ht9⟩) hR.sS.2.2 dX14_bytesOf_222)
      · replace h := h.1 (k_eq rfl (by decide) c33)
        exact J_217 S _ _ ls h  hsh hR (lv_sub hl [] rfl)
  replace h := h.2 c9_20
  by_cases c9_21 : a4.toInt = 21
  · refine lv_lookup (off := 209) (tgt := 223) hx hb dX14_bytesOf_14 (by decide) (by rw [c9_21]; decide) (by decide) ?_
    replace h := h.1 (c9_21)
    refine lv_iload hx hb dX14_bytesOf_223 (lv_at hl 0 rfl) ?_
    refine lv_iconst (v := 4) hx hb dX14_bytesOf_225 (by decide) ?_
    refine lv_icmp_ge (tgt := 233) hx hb dX14_bytesOf_226 (by decide) (fun c34 => ?_) (fun c34 => ?_)
    · replace h := h.1 (k_le (by decide) rfl c34)
      refine lv_iconst (v := 2) hx hb dX14_bytesOf_233 (by decide) ?_
      exact vx_ret (W.iret (v := 2) hx hb hr (fun t9 ht9 hW9 => ⟨⟨_, S, rfl, ⟨h, hR.w, hsh⟩, ⟨by rw [ht9]; exact hR.P, hR.D⟩⟩, hR.sS.F ht9⟩) hR.sS.2.2 dX14_bytesOf_234)
    · replace h := h.2 (k_nle (by decide) rfl c34)
      refine lv_iconst (v := 1) hx hb dX14_bytesOf_229 (by decide) ?_
      refine lv_goto (tgt := 234) hx hb dX14_bytesOf_230 (by decide) ?_
      exact vx_ret (W.iret (v := 1) hx hb hr (fun t9 ht9 hW9 => ⟨⟨_, S, rfl, ⟨h, hR.w, hsh⟩, ⟨by rw [ht9]; exact hR.P, hR.D⟩⟩, hR.sS.F ht9⟩) hR.sS.2.2 dX14_bytesOf_234)
  replace h := h.2 c9_21
  by_cases c9_22 : a4.toInt = 22
  · refine lv_lookup (off := 209) (tgt := 223) hx hb dX14_bytesOf_14 (by decide) (by rw [c9_22]; decide) (by decide) ?_
    replace h := h.1 (c9_22)
    refine lv_iload hx hb dX14_bytesOf_223 (lv_at hl 0 rfl) ?_
    refine lv_iconst (v := 4) hx hb dX14_bytesOf_225 (by decide) ?_
    refine lv_icmp_ge (tgt := 233) hx hb dX14_bytesOf_226 (by decide) (fun c35 => ?_) (fun c35 => ?_)
    · replace h := h.1 (k_le (by decide) rfl c35)
      refine lv_iconst (v := 2) hx hb dX14_bytesOf_233 (by decide) ?_
      exact vx_ret (W.iret (v := 2) hx hb hr (fun t9 ht9 hW9 => ⟨⟨_, S, rfl, ⟨h, hR.w, hsh⟩, ⟨by rw [ht9]; exact hR.P, hR.D⟩⟩, hR.sS.F ht9⟩) hR.sS.2.2 dX14_bytesOf_234)
    · replace h := h.2 (k_nle (by decide) rfl c35)
      refine lv_iconst (v := 1) hx hb dX14_bytesOf_229 (by decide) ?_
      refine lv_goto (tgt := 234) hx hb dX14_bytesOf_230 (by decide) ?_
      exact vx_ret (W.iret (v := 1) hx hb hr (fun t9 ht9 hW9 => ⟨⟨_, S, rfl, ⟨h, hR.w, hsh⟩, ⟨by rw [ht9]; exact hR.P, hR.D⟩⟩, hR.sS.F ht9⟩) hR.sS.2.2 dX14_bytesOf_234)
  replace h := h.2 c9_22
  by_cases c9_25 : a4.toInt = 25
  · refine lv_lookup (off := 209) (tgt := 223) hx hb dX14_bytesOf_14 (by decide) (by rw [c9_25]; decide) (by decide) ?_
    replace h := h.1 (c9_25)
    refine lv_iload hx hb dX14_bytesOf_223 (lv_at hl 0 rfl) ?_
    refine lv_iconst (v := 4) hx hb dX14_bytesOf_225 (by decide) ?_
    refine lv_icmp_ge (tgt := 233) hx hb dX14_bytesOf_226 (by decide) (fun c36 => ?_) (fun c36 => ?_)
    · replace h := h.1 (k_le (by decide) rfl c36)
      refine lv_iconst (v := 2) hx hb dX14_bytesOf_233 (by decide) ?_
      exact vx_ret (W.iret (v := 2) hx hb hr (fun t9 ht9 hW9 => ⟨⟨_, S, rfl, ⟨h, hR.w, hsh⟩, ⟨by rw [ht9]; exact hR.P, hR.D⟩⟩, hR.sS.F ht9⟩) hR.sS.2.2 dX14_bytesOf_234)
    · replace h := h.2 (k_nle (by decide) rfl c36)
      refine lv_iconst (v := 1) hx hb dX14_bytesOf_229 (by decide) ?_
      refine lv_goto (tgt := 234) hx hb dX14_bytesOf_230 (by decide) ?_
      exact vx_ret (W.iret (v := 1) hx hb hr (fun t9 ht9 hW9 => ⟨⟨_, S, rfl, ⟨h, hR.w, hsh⟩, ⟨by rw [ht9]; exact hR.P, hR.D⟩⟩, hR.sS.F ht9⟩) hR.sS.2.2 dX14_bytesOf_234)
  replace h := h.2 c9_25
  by_cases c9_54 : a4.toInt = 54
  · refine lv_lookup (off := 209) (tgt := 223) hx hb dX14_bytesOf_14 (by decide) (by rw [c9_54]; decide) (by decide) ?_
    replace h := h.1 (c9_54)
    refine lv_iload hx hb dX14_bytesOf_223 (lv_at hl 0 rfl) ?_
    refine lv_iconst (v := 4) hx hb dX14_bytesOf_225 (by decide) ?_
    refine lv_icmp_ge (tgt := 233) hx hb dX14_bytesOf_226 (by decide) (fun c37 => ?_) (fun c37 => ?_)
    · replace h := h.1 (k_le (by decide) rfl c37)
      refine lv_iconst (v := 2) hx hb dX14_bytesOf_233 (by decide) ?_
      exact vx_ret (W.iret (v := 2) hx hb hr (fun t9 ht9 hW9 => ⟨⟨_, S, rfl, ⟨h, hR.w, hsh⟩, ⟨by rw [ht9]; exact hR.P, hR.D⟩⟩, hR.sS.F ht9⟩) hR.sS.2.2 dX14_bytesOf_234)
    · replace h := h.2 (k_nle (by decide) rfl c37)
      refine lv_iconst (v := 1) hx hb dX14_bytesOf_229 (by decide) ?_
      refine lv_goto (tgt := 234) hx hb dX14_bytesOf_230 (by decide) ?_
      exact vx_ret (W.iret (v := 1) hx hb hr (fun t9 ht9 hW9 => ⟨⟨_, S, rfl, ⟨h, hR.w, hsh⟩, ⟨by rw [ht9]; exact hR.P, hR.D⟩⟩, hR.sS.F ht9⟩) hR.sS.2.2 dX14_bytesOf_234)
  replace h := h.2 c9_54
  by_cases c9_55 : a4.toInt = 55
  · refine lv_lookup (off := 209) (tgt := 223) hx hb dX14_bytesOf_14 (by decide) (by rw [c9_55]; decide) (by decide) ?_
    replace h := h.1 (c9_55)
    refine lv_iload hx hb dX14_bytesOf_223 (lv_at hl 0 rfl) ?_
    refine lv_iconst (v := 4) hx hb dX14_bytesOf_225 (by decide) ?_
    refine lv_icmp_ge (tgt := 233) hx hb dX14_bytesOf_226 (by decide) (fun c38 => ?_) (fun c38 => ?_)
    · replace h := h.1 (k_le (by decide) rfl c38)
      refine lv_iconst (v := 2) hx hb dX14_bytesOf_233 (by decide) ?_
      exact vx_ret (W.iret (v := 2) hx hb hr (fun t9 ht9 hW9 => ⟨⟨_, S, rfl, ⟨h, hR.w, hsh⟩, ⟨by rw [ht9]; exact hR.P, hR.D⟩⟩, hR.sS.F ht9⟩) hR.sS.2.2 dX14_bytesOf_234)
    · replace h := h.2 (k_nle (by decide) rfl c38)
      refine lv_iconst (v := 1) hx hb dX14_bytesOf_229 (by decide) ?_
      refine lv_goto (tgt := 234) hx hb dX14_bytesOf_230 (by decide) ?_
      exact vx_ret (W.iret (v := 1) hx hb hr (fun t9 ht9 hW9 => ⟨⟨_, S, rfl, ⟨h, hR.w, hsh⟩, ⟨by rw [ht9]; exact hR.P, hR.D⟩⟩, hR.sS.F ht9⟩) hR.sS.2.2 dX14_bytesOf_234)
  replace h := h.2 c9_55
  by_cases c9_58 : a4.toInt = 58
  · refine lv_lookup (off := 209) (tgt := 223) hx hb dX14_bytesOf_14 (by decide) (by rw [c9_58]; decide) (by decide) ?_
    replace h := h.1 (c9_58)
    refine lv_iload hx hb dX14_bytesOf_223 (lv_at hl 0 rfl) ?_
    refine lv_iconst (v := 4) hx hb dX14_bytesOf_225 (by decide) ?_
    refine lv_icmp_ge (tgt := 233) hx hb dX14_bytesOf_226 (by decide) (fun c39 => ?_) (fun c39 => ?_)
    · replace h := h.1 (k_le (by decide) rfl c39)
      refine lv_iconst (v := 2) hx hb dX14_bytesOf_233 (by decide) ?_
      exact vx_ret (W.iret (v := 2) hx hb hr (fun t9 ht9 hW9 => ⟨⟨_, S, rfl, ⟨h, hR.w, hsh⟩, ⟨by rw [ht9]; exact hR.P, hR.D⟩⟩, hR.sS.F ht9⟩) hR.sS.2.2 dX14_bytesOf_234)
    · replace h := h.2 (k_nle (by decide) rfl c39)
      refine lv_iconst (v := 1) hx hb dX14_bytesOf_229 (by decide) ?_
      refine lv_goto (tgt := 234) hx hb dX14_bytesOf_230 (by decide) ?_
      exact vx_ret (W.iret (v := 1) hx hb hr (fun t9 ht9 hW9 => ⟨⟨_, S, rfl, ⟨h, hR.w, hsh⟩, ⟨by rw [ht9]; exact hR.P, hR.D⟩⟩, hR.sS.F ht9⟩) hR.sS.2.2 dX14_bytesOf_234)
  replace h := h.2 c9_58
  by_cases c9_132 : a4.toInt = 132
  · refine lv_lookup (off := 221) (tgt := 235) hx hb dX14_bytesOf_14 (by decide) (by rw [c9_132]; decide) (by decide) ?_
    replace h := h.1 (c9_132)
    refine lv_aload_n hx hb dX14_bytesOf_235 rfl (lv_at hl 2 rfl) ?_
    refine lv_iload_n hx hb dX14_bytesOf_236 rfl (lv_at hl 3 rfl) ?_
    obtain ⟨hv40, h⟩ := h
    have hFc := rfree hR hA
    refine va_calli (va_runV (As := [.int x1]) (rest := []) ⟨hx, hb, hml, hown, hts⟩ (r_second l g ad H.size S x1 hR.w  hv40) (cwV 1 hts (gd2_V kx_389 kx_390 kx_391 kx_177 kx_392) rfl rfl rfl (by decide +kernel) ⟨Nat.le_of_ble_eq_true rfl, Nat.le_of_ble_eq_true rfl⟩) ⟨rblind, va_recv hR.K hR.P (ci := 13) (q0 := 0) rfl (hR.at14 hR.w.1), fun U hU hW9 => rmk hU hW9 hR hex hE hFc⟩ rfl rfl hl.1 rfl (lv_room (Nat.le_of_ble_eq_true rfl)) dX14_bytesOf_237 ⟨Nat.le_of_ble_eq_true rfl, Nat.le_of_ble_eq_true rfl⟩) hR.sS (fun q _ h => hFc q h) hFc (fun r41 u9 t9 H1 locs ht9 hvm9 hw9 hB9 hz9 hk9 hS => ?_)
    have hR : Rep g ad A s S H1 locs := hR.call ht9 hB9 hR.w hS hFc
    obtain rfl : r41 = (f_second S x1) := hw9
    clear hB9 hz9 hk9 hvm9 ht9 hS
    generalize H1 = H at hR ⊢
    obtain ⟨hv43, h⟩ := h
    have hFc := rfree hR hA
    refine va_calli (va_runS (As := [.int (f_second S x1)]) (rest := []) ⟨hx, hb, hml, hown, hts⟩ (r_isByte l g ad H.size S (f_second S x1) hR.w  hv43) (va_cwS 1 hts (gd2_S kx_581 kx_582 kx_177 kx_583) rfl rfl rfl (by decide +kernel) ⟨Nat.le_of_ble_eq_true rfl, Nat.le_of_ble_eq_true rfl⟩) ⟨rblind, fun U hU hW9 => rmk hU hW9 hR hex hE hFc⟩ rfl rfl hl.1 rfl (lv_room (Nat.le_of_ble_eq_true rfl)) dX14_bytesOf_240 ⟨Nat.le_of_ble_eq_true rfl, Nat.le_of_ble_eq_true rfl⟩) hR.sS (fun q _ h => hFc q h) hFc (fun r44 u9 t9 H1 locs ht9 hvm9 hw9 hB9 hz9 hk9 hS => ?_)
    have hR : Rep g ad A s S H1 locs := hR.call ht9 hB9 hR.w hS hFc
    obtain ⟨rfl, hz_r44⟩ := hw9
    clear hB9 hz9 hk9 hvm9 ht9 hS
    generalize H1 = H at hR ⊢
    refine lv_if_eq (tgt := 250) hx hb dX14_bytesOf_243 (by decide) (fun c46 => ?_) (fun c46 => ?_)
    · replace h := h.1 (k_eq rfl (by decide) c46)
      refine lv_bipush (v := 6) hx hb dX14_bytesOf_250 (by decide) ?_
      exact vx_ret (W.iret (v := 6) hx hb hr (fun t9 ht9 hW9 => ⟨⟨_, S, rfl, ⟨h, hR.w, hsh⟩, ⟨by rw [ht9]; exact hR.P, hR.D⟩⟩, hR.sS.F ht9⟩) hR.sS.2.2 dX14_bytesOf_252)
    · replace h := h.2 (k_ne rfl (by decide) c46)
      refine lv_iconst (v := 3) hx hb dX14_bytesOf_246 (by decide) ?_
      refine lv_goto (tgt := 252) hx hb dX14_bytesOf_247 (by decide) ?_
      exact vx_ret (W.iret (v := 3) hx hb hr (fun t9 ht9 hW9 => ⟨⟨_, S, rfl, ⟨h, hR.w, hsh⟩, ⟨by rw [ht9]; exact hR.P, hR.D⟩⟩, hR.sS.F ht9⟩) hR.sS.2.2 dX14_bytesOf_252)
  replace h := h.2 c9_132
  by_cases c9_170 : a4.toInt = 170
  · refine lv_lookup (off := 239) (tgt := 253) hx hb dX14_bytesOf_14 (by decide) (by rw [c9_170]; decide) (by decide) ?_
    replace h := h.1 (c9_170)
    refine lv_iload_n hx hb dX14_bytesOf_253 rfl (lv_at hl 4 rfl) ?_
    obtain ⟨hv47, h⟩ := h
    have hFc := rfree hR hA
    refine va_calli (va_runS (As := [.int x2]) (rest := []) ⟨hx, hb, hml, hown, hts⟩ (r_switchFrom l g ad H.size S x2 hR.w  hv47) (va_cwS 1 hts (gd2_S kx_282 kx_283 kx_177 kx_284) rfl rfl rfl (by decide +kernel) ⟨Nat.le_of_ble_eq_true rfl, Nat.le_of_ble_eq_true rfl⟩) ⟨rblind, fun U hU hW9 => rmk hU hW9 hR hex hE hFc⟩ rfl rfl hl.1 rfl (lv_room (Nat.le_of_ble_eq_true rfl)) dX14_bytesOf_254 ⟨Nat.le_of_ble_eq_true rfl, Nat.le_of_ble_eq_true rfl⟩) hR.sS (fun q _ h => hFc q h) hFc (fun r48 u9 t9 H1 locs ht9 hvm9 hw9 hB9 hz9 hk9 hS => ?_)
    have hR : Rep g ad A s S H1 locs := hR.call ht9 hB9 hR.w hS hFc
    obtain rfl : r48 = (f_switchFrom S x2) := hw9
    clear hB9 hz9 hk9 hvm9 ht9 hS
    generalize H1 = H at hR ⊢
    refine lv_iload_n hx hb dX14_bytesOf_257 rfl (lv_at hl 4 rfl) ?_
    refine lv_isub hx hb dX14_bytesOf_258 ?_
    refine lv_topi (fun z50 ez50 => ?_)
    obtain rfl : z50 = ((f_switchFrom S x2) - x2) := ez50
    refine lv_bipush (v := 12) hx hb dX14_bytesOf_259 (by decide) ?_
    refine lv_iadd hx hb dX14_bytesOf_261 ?_
    refine lv_topi (fun z51 ez51 => ?_)
    obtain rfl : z51 = (((f_switchFrom S x2) - x2) + (12 : Int32)) := ez51
    refine lv_iconst (v := 4) hx hb dX14_bytesOf_262 (by decide) ?_
    refine lv_aload_n hx hb dX14_bytesOf_263 rfl (lv_at hl 2 rfl) ?_
    refine lv_iload_n hx hb dX14_bytesOf_264 rfl (lv_at hl 3 rfl) ?_
    obtain ⟨hv52, h⟩ := h
    have hFc := rfree hR hA
    refine va_calli (va_runV (As := [.int x1]) (rest := [.int 4, .int (((f_switchFrom S x2) - x2) + (12 : Int32))]) ⟨hx, hb, hml, hown, hts⟩ (r_second l g ad H.size S x1 hR.w  hv52) (cwV 1 hts (gd2_V kx_389 kx_390 kx_391 kx_177 kx_392) rfl rfl rfl (by decide +kernel) ⟨Nat.le_of_ble_eq_true rfl, Nat.le_of_ble_eq_true rfl⟩) ⟨rblind, va_recv hR.K hR.P (ci := 13) (q0 := 0) rfl (hR.at14 hR.w.1), fun U hU hW9 => rmk hU hW9 hR hex hE hFc⟩ rfl rfl hl.1 rfl (lv_room (Nat.le_of_ble_eq_true rfl)) dX14_bytesOf_265 ⟨Nat.le_of_ble_eq_true rfl, Nat.le_of_ble_eq_true rfl⟩) hR.sS (fun q _ h => hFc q h) hFc (fun r53 u9 t9 H1 locs ht9 hvm9 hw9 hB9 hz9 hk9 hS => ?_)
    have hR : Rep g ad A s S H1 locs := hR.call ht9 hB9 hR.w hS hFc
    obtain rfl : r53 = (f_second S x1) := hw9
    clear hB9 hz9 hk9 hvm9 ht9 hS
    generalize H1 = H at hR ⊢
    refine lv_imul hx hb dX14_bytesOf_268 ?_
    refine lv_topi (fun z55 ez55 => ?_)
    obtain rfl : z55 = ((4 : Int32) * (f_second S x1)) := ez55
    refine lv_iadd hx hb dX14_bytesOf_269 ?_
    refine lv_topi (fun z56 ez56 => ?_)
    obtain rfl : z56 = ((((f_switchFrom S x2) - x2) + (12 : Int32)) + ((4 : Int32) * (f_second S x1))) := ez56
    exact vx_ret (W.iret (v := ((((f_switchFrom S x2) - x2) + (12 : Int32)) + ((4 : Int32) * (f_second S x1)))) hx hb hr (fun t9 ht9 hW9 => ⟨⟨_, S, rfl, ⟨h, hR.w, hsh⟩, ⟨by rw [ht9]; exact hR.P, hR.D⟩⟩, hR.sS.F ht9⟩) hR.sS.2.2 dX14_bytesOf_270)
  replace h := h.2 c9_170
  by_cases c9_171 : a4.toInt = 171
  · refine lv_lookup (off := 257) (tgt := 271) hx hb dX14_bytesOf_14 (by decide) (by rw [c9_171]; decide) (by decide) ?_
    replace h := h.1 (c9_171)
    refine lv_iload_n hx hb dX14_bytesOf_271 rfl (lv_at hl 4 rfl) ?_
    obtain ⟨hv57, h⟩ := h
    have hFc := rfree hR hA
    refine va_calli (va_runS (As := [.int x2]) (rest := []) ⟨hx, hb, hml, hown, hts⟩ (r_switchFrom l g ad H.size S x2 hR.w  hv57) (va_cwS 1 hts (gd2_S kx_282 kx_283 kx_177 kx_284) rfl rfl rfl (by decide +kernel) ⟨Nat.le_of_ble_eq_true rfl, Nat.le_of_ble_eq_true rfl⟩) ⟨rblind, fun U hU hW9 => rmk hU hW9 hR hex hE hFc⟩ rfl rfl hl.1 rfl (lv_room (Nat.le_of_ble_eq_true rfl)) dX14_bytesOf_272 ⟨Nat.le_of_ble_eq_true rfl, Nat.le_of_ble_eq_true rfl⟩) hR.sS (fun q _ h => hFc q h) hFc (fun r58 u9 t9 H1 locs ht9 hvm9 hw9 hB9 hz9 hk9 hS => ?_)
    have hR : Rep g ad A s S H1 locs := hR.call ht9 hB9 hR.w hS hFc
    obtain rfl : r58 = (f_switchFrom S x2) := hw9
    clear hB9 hz9 hk9 hvm9 ht9 hS
    generalize H1 = H at hR ⊢
    refine lv_iload_n hx hb dX14_bytesOf_275 rfl (lv_at hl 4 rfl) ?_
    refine lv_isub hx hb dX14_bytesOf_276 ?_
    refine lv_topi (fun z60 ez60 => ?_)
    obtain rfl : z60 = ((f_switchFrom S x2) - x2) := ez60
    refine lv_bipush (v := 8) hx hb dX14_bytesOf_277 (by decide) ?_
    refine lv_iadd hx hb dX14_bytesOf_279 ?_
    refine lv_topi (fun z61 ez61 => ?_)
    obtain rfl : z61 = (((f_switchFrom S x2) - x2) + (8 : Int32)) := ez61
    refine lv_bipush (v := 8) hx hb dX14_bytesOf_280 (by decide) ?_
    refine lv_aload_n hx hb dX14_bytesOf_282 rfl (lv_at hl 2 rfl) ?_
    refine lv_iload_n hx hb dX14_bytesOf_283 rfl (lv_at hl 3 rfl) ?_
    obtain ⟨hv62, h⟩ := h
    have hFc := rfree hR hA
    refine va_calli (va_runV (As := [.int x1]) (rest := [.int 8, .int (((f_switchFrom S x2) - x2) + (8 : Int32))]) ⟨hx, hb, hml, hown, hts⟩ (r_second l g ad H.size S x1 hR.w  hv62) (cwV 1 hts (gd2_V kx_389 kx_390 kx_391 kx_177 kx_392) rfl rfl rfl (by decide +kernel) ⟨Nat.le_of_ble_eq_true rfl, Nat.le_of_ble_eq_true rfl⟩) ⟨rblind, va_recv hR.K hR.P (ci := 13) (q0 := 0) rfl (hR.at14 hR.w.1), fun U hU hW9 => rmk hU hW9 hR hex hE hFc⟩ rfl rfl hl.1 rfl (lv_room (Nat.le_of_ble_eq_true rfl)) dX14_bytesOf_284 ⟨Nat.le_of_ble_eq_true rfl, Nat.le_of_ble_eq_true rfl⟩) hR.sS (fun q _ h => hFc q h) hFc (fun r63 u9 t9 H1 locs ht9 hvm9 hw9 hB9 hz9 hk9 hS => ?_)
    have hR : Rep g ad A s S H1 locs := hR.call ht9 hB9 hR.w hS hFc
    obtain rfl : r63 = (f_second S x1) := hw9
    clear hB9 hz9 hk9 hvm9 ht9 hS
    generalize H1 = H at hR ⊢
    refine lv_imul hx hb dX14_bytesOf_287 ?_
    refine lv_topi (fun z65 ez65 => ?_)
    obtain rfl : z65 = ((8 : Int32) * (f_second S x1)) := ez65
    refine lv_iadd hx hb dX14_bytesOf_288 ?_
    refine lv_topi (fun z66 ez66 => ?_)
    obtain rfl : z66 = ((((f_switchFrom S x2) - x2) + (8 : Int32)) + ((8 : Int32) * (f_second S x1))) := ez66
    exact vx_ret (W.iret (v := ((((f_switchFrom S x2) - x2) + (8 : Int32)) + ((8 : Int32) * (f_second S x1)))) hx hb hr (fun t9 ht9 hW9 => ⟨⟨_, S, rfl, ⟨h, hR.w, hsh⟩, ⟨by rw [ht9]; exact hR.P, hR.D⟩⟩, hR.sS.F ht9⟩) hR.sS.2.2 dX14_bytesOf_289)
  replace h := h.2 c9_171
  by_cases c9_178 : a4.toInt = 178
  · refine lv_lookup (off := 276) (tgt := 290) hx hb dX14_bytesOf_14 (by decide) (by rw [c9_178]; decide) (by decide) ?_
    replace h := h.1 (c9_178)
    refine lv_iconst (v := 3) hx hb dX14_bytesOf_290 (by decide) ?_
    exact vx_ret (W.iret (v := 3) hx hb hr (fun t9 ht9 hW9 => ⟨⟨_, S, rfl, ⟨h, hR.w, hsh⟩, ⟨by rw [ht9]; exact hR.P, hR.D⟩⟩, hR.sS.F ht9⟩) hR.sS.2.2 dX14_bytesOf_291)
  replace h := h.2 c9_178
  by_cases c9_179 : a4.toInt = 179
  · refine lv_lookup (off := 276) (tgt := 290) hx hb dX14_bytesOf_14 (by decide) (by rw [c9_179]; decide) (by decide) ?_
    replace h := h.1 (c9_179)
    refine lv_iconst (v := 3) hx hb dX14_bytesOf_290 (by decide) ?_
    exact vx_ret (W.iret (v := 3) hx hb hr (fun t9 ht9 hW9 => ⟨⟨_, S, rfl, ⟨h, hR.w, hsh⟩, ⟨by rw [ht9]; exact hR.P, hR.D⟩⟩, hR.sS.F ht9⟩) hR.sS.2.2 dX14_bytesOf_291)
  replace h := h.2 c9_179
  by_cases c9_184 : a4.toInt = 184
  · refine lv_lookup (off := 276) (tgt := 290) hx hb dX14_bytesOf_14 (by decide) (by rw [c9_184]; decide) (by decide) ?_
    replace h := h.1 (c9_184)
    refine lv_iconst (v := 3) hx hb dX14_bytesOf_290 (by decide) ?_
    exact vx_ret (W.iret (v := 3) hx hb hr (fun t9 ht9 hW9 => ⟨⟨_, S, rfl, ⟨h, hR.w, hsh⟩, ⟨by rw [ht9]; exact hR.P, hR.D⟩⟩, hR.sS.F ht9⟩) hR.sS.2.2 dX14_bytesOf_291)
  replace h := h.2 c9_184
  by_cases c9_188 : a4.toInt = 188
  · refine lv_lookup (off := 278) (tgt := 292) hx hb dX14_bytesOf_14 (by decide) (by rw [c9_188]; decide) (by decide) ?_
    replace h := h.1 (c9_188)
    refine lv_iconst (v := 2) hx hb dX14_bytesOf_292 (by decide) ?_
    exact vx_ret (W.iret (v := 2) hx hb hr (fun t9 ht9 hW9 => ⟨⟨_, S, rfl, ⟨h, hR.w, hsh⟩, ⟨by rw [ht9]; exact hR.P, hR.D⟩⟩, hR.sS.F ht9⟩) hR.sS.2.2 dX14_bytesOf_293)
  replace h := h.2 c9_188
  refine lv_lookup (off := 280) (tgt := 294) hx hb dX14_bytesOf_14 (by decide) (lx_cons c9_18 (lx_cons c9_20 (lx_cons c9_21 (lx_cons c9_22 (lx_cons c9_25 (lx_cons c9_54 (lx_cons c9_55 (lx_cons c9_58 (lx_cons c9_132 (lx_cons c9_170 (lx_cons c9_171 (lx_cons c9_178 (lx_cons c9_179 (lx_cons c9_184 (lx_cons c9_188 lx_nil))))))))))))))) (by decide) ?_
  refine lv_iload_n hx hb dX14_bytesOf_294 rfl (lv_at hl 1 rfl) ?_
  obtain ⟨hv67, h⟩ := h
  have hFc := rfree hR hA
  refine va_calli (va_runS (As := [.int a4]) (rest := []) ⟨hx, hb, hml, hown, hts⟩ (r_isJump l g ad H.size S a4 hR.w  hv67) (va_cwS 1 hts (gd2_S kx_383 kx_384 kx_177 kx_385) rfl rfl rfl (by decide +kernel) ⟨Nat.le_of_ble_eq_true rfl, Nat.le_of_ble_eq_true rfl⟩) ⟨rblind, fun U hU hW9 => rmk hU hW9 hR hex hE hFc⟩ rfl rfl hl.1 rfl (lv_room (Nat.le_of_ble_eq_true rfl)) dX14_bytesOf_295 ⟨Nat.le_of_ble_eq_true rfl, Nat.le_of_ble_eq_true rfl⟩) hR.sS (fun q _ h => hFc q h) hFc (fun r68 u9 t9 H1 locs ht9 hvm9 hw9 hB9 hz9 hk9 hS => ?_)
  have hR : Rep g ad A s S H1 locs := hR.call ht9 hB9 hR.w hS hFc
  obtain ⟨rfl, hz_r68⟩ := hw9
  clear hB9 hz9 hk9 hvm9 ht9 hS
  generalize H1 = H at hR ⊢
  refine lv_if_eq (tgt := 305) hx hb dX14_bytesOf_298 (by decide) (fun c70 => ?_) (fun c70 => ?_)
  · replace h := h.1 (k_eq rfl (by decide) c70)
    refine lv_iconst (v := 1) hx hb dX14_bytesOf_305 (by decide) ?_
    exact vx_ret (W.iret (v := 1) hx hb hr (fun t9 ht9 hW9 => ⟨⟨_, S, rfl, ⟨h, hR.w, hsh⟩, ⟨by rw [ht9]; exact hR.P, hR.D⟩⟩, hR.sS.F ht9⟩) hR.sS.2.2 dX14_bytesOf_306)
  · replace h := h.2 (k_ne rfl (by decide) c70)
    refine lv_iconst (v := 3) hx hb dX14_bytesOf_301 (by decide) ?_
    refine lv_goto (tgt := 306) hx hb dX14_bytesOf_302 (by decide) ?_
    exact vx_ret (W.iret (v := 3) hx hb hr (fun t9 ht9 hW9 => ⟨⟨_, S, rfl, ⟨h, hR.w, hsh⟩, ⟨by rw [ht9]; exact hR.P, hR.D⟩⟩, hR.sS.F ht9⟩) hR.sS.2.2 dX14_bytesOf_306)
