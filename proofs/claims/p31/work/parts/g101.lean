def w_J5_inflateIfNeededFor_a7421 (S : MS) (p0 : Nat) (p1 : Nat) (Q : MS → Prop) : Prop := (((qI S p0 1).toInt = 0 → Q S) ∧ (¬ (qI S p0 1).toInt = 0 → False))
set_option maxHeartbeats 2000000 in
set_option maxRecDepth 100000 in
theorem r_J5_inflateIfNeededFor_a7421 (l : Launch) (g : Gr) (ad : Nat → Nat) (sz : Nat) (S : MS) (p0 : Nat) (p1 : Nat) (hw : wfM S) (hT_p0 : qT S p0 = 13) (hT_p1 : qT S p1 = 12) (Q : MS → Prop) (h : w_J5_inflateIfNeededFor_a7421 S p0 p1 Q) : Met l yJ5_inflateIfNeededFor_a7421 (wt2 yJ5_inflateIfNeededFor_a7421 cJ5_inflateIfNeededFor_a7421 2 none) ({ frames := 1, cells := 0, slots := 0, locals := 20 }) (va_Pc [.ref (ad p0), .ref (ad p1)] (st_R g ad sz S)) (va_Qv (fun (u : MS) => Q u ∧ wfM u ∧ shy S u) (fun (u : MS) (t : State) => qE g ad (va_A (Wd g ad S) sz) u t) (va_A (Wd g ad S) sz)) 0 0 (va_A (Wd g ad S) sz) := by
  refine Met.ofW (cc := cJ5_inflateIfNeededFor_a7421) (maxL := 2) (ret := none) (by decide) rfl ?_
  intro p e s m args below meth c s₁ B hml hv
  obtain ⟨rfl, hsz, hP, hK, hD0, hex, hE⟩ := hv
  have hx := B.exec
  have hb := B.bytes
  have hr := B.returns
  have hts0 := atoms_spec (ws := wt2 yJ5_inflateIfNeededFor_a7421 cJ5_inflateIfNeededFor_a7421 2 none) B.pre
  have hts : ∀ w ∈ tb2, w.before _ s = true := fun w h => hts0 w (List.mem_cons_of_mem _ h)
  have hown : s.vm.findClass RJ5 = some m.cls := findClass_of_methodNamed B.named
  subst hsz
  have hD := hD0.self (sz := s.heap.size)
  generalize hAe : va_A (Wd g ad S) s.heap.size = A at hD hE ⊢
  have hA : ∀ q : Nat, s.heap.size ≤ q → A q := fun q h => by rw [← hAe]; exact Or.inr h
  have hR : Rep g ad A s S s.heap [] := ⟨hK, hP, hD, va_S.rf, hw⟩
  clear hK hP hD hD0
  have hl := lv_entry ([.ref (ad p0), .ref (ad p1)]) (n := 2) (Nat.le_of_ble_eq_true rfl)
  rw [lg_entry_eq]
  generalize (lg_sl ([.ref (ad p0), .ref (ad p1)]) ++ List.replicate (2 - (lg_sl ([.ref (ad p0), .ref (ad p1)])).length) Slot.unset).toArray = ls at hl ⊢
  have hl : lv_has ls 2 [(0, .ref (ad p0)), (1, .ref (ad p1))] := hl
  have hsh : shy S S := shy.rf
  unfold w_J5_inflateIfNeededFor_a7421 at h
  refine va_gets (C := "java/lang/String") (n := "COMPACT_STRINGS") (d := "Z") (v := .int 1) hx hb hE.1.1 hR.sS hown (hts _ kx_28) (fun _ h9 => h9) dJ5_inflateIfNeededFor_a7421_0 ?_
  refine lv_if_eq (tgt := 21) hx hb dJ5_inflateIfNeededFor_a7421_3 (by decide) (fun c9 => absurd c9 (by decide)) (fun _ => ?_)
  refine lv_aload_n hx hb dJ5_inflateIfNeededFor_a7421_6 rfl (lv_at hl 0 rfl) ?_
  refine va_get (D := rD g) (ci := 16) (v := .int (qI S p0 1)) (C := RJ4) (T := TJ4) (N := 4) hx hb hts in2J4 hown hR.K hR.P p0 (hR.atU hT_p0) rfl 1 (by decide) (hts _ kx_29) (fun _ h9 => h9) rfl dJ5_inflateIfNeededFor_a7421_7 ?_
  refine lv_aload_n hx hb dJ5_inflateIfNeededFor_a7421_10 rfl (lv_at hl 1 rfl) ?_
  have hF : ∀ q, Ns s.heap.size q → A q := fun q h => hA q (Nat.le_trans hR.sS.1 h)
  refine va_calli (va_runV (As := []) (rest := [.int (qI S p0 1)]) ⟨hx, hb, hml, hown, hts⟩ (s_coder l s.heap.size (ad p1) (ad (p1 + 1)) (qN S (p1 + 1)) (qI S (p1 + 1))) (cwV 0 hts (gd2_V kx_130 kx_4 kx_5 kx_6 kx_7) rfl rfl rfl (by decide +kernel) ⟨Nat.le_of_ble_eq_true rfl, Nat.le_of_ble_eq_true rfl⟩) ⟨tblind (fun A u U H hv h => by exact tx1.moved hv h), (strR hts hR hE hA hT_p1), fun U hU hW9 => ⟨rfl, by rw [hU], str_at hts hR hE hA hT_p1 hU hW9, by rw [hU]; exact ((hE.1.kept hR.sS.2.1).narrow hF).moved hW9.alike⟩⟩ rfl rfl hl.1 rfl (lv_room (Nat.le_of_ble_eq_true rfl)) dJ5_inflateIfNeededFor_a7421_11 ⟨Nat.le_of_ble_eq_true rfl, Nat.le_of_ble_eq_true rfl⟩) hR.sS (fun q _ h => hF q h) hF (fun r1 u9 t9 H1 locs ht9 hvm9 hw9 hB9 hz9 hk9 hS => ?_)
  obtain rfl : r1 = 0 := hw9
  have hR : Rep g ad A s S H1 locs := hR.keep hk9 hS
  clear hz9 hk9 hvm9 ht9 hB9 hF hS
  generalize H1 = H at hR ⊢
  refine lv_icmp_eq (tgt := 21) hx hb dJ5_inflateIfNeededFor_a7421_14 (by decide) (fun c2 => ?_) (fun c2 => ?_)
  · replace h := h.1 (k_eq rfl (by decide) c2)
    exact W.vret hx hb hr (fun t9 ht9 hW9 => ⟨⟨S, rfl, ⟨h, hR.w, hsh⟩, ⟨by rw [ht9]; exact hR.P, hR.D⟩⟩, hR.sS.F ht9⟩) hR.sS.2.2 dJ5_inflateIfNeededFor_a7421_21
  · replace h := h.2 (k_ne rfl (by decide) c2)
    exact h.elim
def w_J0_getBytes_840e7 (S : MS) (p0 : Nat) (p1 : Nat) (x2 : Int32) (x3 : Int32) (Q : MS → Prop) : Prop := ((0 = x3.toInt → ((∃ i : Nat, i < NTX ∧ p0 = TXB + 2 * i) ∧ ((∃ i : Nat, i < NTX ∧ p0 = TXB + 2 * i) ∧ ((¬ (0 : Int32) < 0 ∧ ¬ (x2 <<< (x3 &&& 31)) < 0 ∧ ¬ (Int32.ofNat (qN S (p0 + 1))) < 0 ∧ (0 : Int32).toNatClampNeg + (Int32.ofNat (qN S (p0 + 1))).toNatClampNeg ≤ qN S (p0 + 1) ∧ (x2 <<< (x3 &&& 31)).toNatClampNeg + (Int32.ofNat (qN S (p0 + 1))).toNatClampNeg ≤ qN S p1 ∧ byt S (p0 + 1)) ∧ (∀ S9, S9 = wC S p1 (va_cpy (qI S (p0 + 1)) (qI S p1) (0 : Int32).toNatClampNeg (x2 <<< (x3 &&& 31)).toNatClampNeg (Int32.ofNat (qN S (p0 + 1))).toNatClampNeg) → Q S9))))) ∧ (¬ 0 = x3.toInt → False))
set_option maxHeartbeats 2000000 in
set_option maxRecDepth 100000 in
theorem r_J0_getBytes_840e7 (l : Launch) (g : Gr) (ad : Nat → Nat) (sz : Nat) (S : MS) (p0 : Nat) (p1 : Nat) (x2 : Int32) (x3 : Int32) (hw : wfM S) (hT_p0 : qT S p0 = 12) (hT_p1 : qT S p1 = 21) (Q : MS → Prop) (h : w_J0_getBytes_840e7 S p0 p1 x2 x3 Q) : Met l yJ0_getBytes_840e7 (wt2 yJ0_getBytes_840e7 cJ0_getBytes_840e7 4 none) ({ frames := 1, cells := 0, slots := 0, locals := 40 }) (va_Pc [.ref (ad p0), .ref (ad p1), .int x2, .int x3] (st_R g ad sz S)) (va_Qv (fun (u : MS) => Q u ∧ wfM u ∧ shy S u) (fun (u : MS) (t : State) => qE g ad (va_A (Wd g ad S) sz) u t) (va_A (Wd g ad S) sz)) 0 0 (va_A (Wd g ad S) sz) := by
  refine Met.ofW (cc := cJ0_getBytes_840e7) (maxL := 4) (ret := none) (by decide) rfl ?_
  intro p e s m args below meth c s₁ B hml hv
  obtain ⟨rfl, hsz, hP, hK, hD0, hex, hE⟩ := hv
  have hx := B.exec
  have hb := B.bytes
  have hr := B.returns
  have hts0 := atoms_spec (ws := wt2 yJ0_getBytes_840e7 cJ0_getBytes_840e7 4 none) B.pre
  have hts : ∀ w ∈ tb2, w.before _ s = true := fun w h => hts0 w (List.mem_cons_of_mem _ h)
  have hown : s.vm.findClass RJ0 = some m.cls := findClass_of_methodNamed B.named
  subst hsz
  have hD := hD0.self (sz := s.heap.size)
  generalize hAe : va_A (Wd g ad S) s.heap.size = A at hD hE ⊢
  have hA : ∀ q : Nat, s.heap.size ≤ q → A q := fun q h => by rw [← hAe]; exact Or.inr h
  have hR : Rep g ad A s S s.heap [] := ⟨hK, hP, hD, va_S.rf, hw⟩
  clear hK hP hD hD0
  have hl := lv_entry ([.ref (ad p0), .ref (ad p1), .int x2, .int x3]) (n := 4) (Nat.le_of_ble_eq_true rfl)
  rw [lg_entry_eq]
  generalize (lg_sl ([.ref (ad p0), .ref (ad p1), .int x2, .int x3]) ++ List.replicate (4 - (lg_sl ([.ref (ad p0), .ref (ad p1), .int x2, .int x3])).length) Slot.unset).toArray = ls at hl ⊢
  have hl : lv_has ls 4 [(0, .ref (ad p0)), (1, .ref (ad p1)), (2, .int x2), (3, .int x3)] := hl
  have hsh : shy S S := shy.rf
  unfold w_J0_getBytes_840e7 at h
  refine lv_aload_n hx hb dJ0_getBytes_840e7_0 rfl (lv_at hl 0 rfl) ?_
  have hF : ∀ q, Ns s.heap.size q → A q := fun q h => hA q (Nat.le_trans hR.sS.1 h)
  refine va_calli (va_runV (As := []) (rest := []) ⟨hx, hb, hml, hown, hts⟩ (s_coder l s.heap.size (ad p0) (ad (p0 + 1)) (qN S (p0 + 1)) (qI S (p0 + 1))) (cwV 0 hts (gd2_V kx_3 kx_4 kx_5 kx_6 kx_7) rfl rfl rfl (by decide +kernel) ⟨Nat.le_of_ble_eq_true rfl, Nat.le_of_ble_eq_true rfl⟩) ⟨tblind (fun A u U H hv h => by exact tx1.moved hv h), (strR hts hR hE hA hT_p0), fun U hU hW9 => ⟨rfl, by rw [hU], str_at hts hR hE hA hT_p0 hU hW9, by rw [hU]; exact ((hE.1.kept hR.sS.2.1).narrow hF).moved hW9.alike⟩⟩ rfl rfl hl.1 rfl (lv_room (Nat.le_of_ble_eq_true rfl)) dJ0_getBytes_840e7_1 ⟨Nat.le_of_ble_eq_true rfl, Nat.le_of_ble_eq_true rfl⟩) hR.sS (fun q _ h => hF q h) hF (fun r1 u9 t9 H1 locs ht9 hvm9 hw9 hB9 hz9 hk9 hS => ?_)
  obtain rfl : r1 = 0 := hw9
  have hR : Rep g ad A s S H1 locs := hR.keep hk9 hS
  clear hz9 hk9 hvm9 ht9 hB9 hF hS
  generalize H1 = H at hR ⊢
  refine lv_iload_n hx hb dJ0_getBytes_840e7_4 rfl (lv_at hl 3 rfl) ?_
  refine lv_icmp_ne (tgt := 28) hx hb dJ0_getBytes_840e7_5 (by decide) (fun c2 => ?_) (fun c2 => ?_)
  · replace h := h.2 (k_ne (by decide) rfl c2)
    exact h.elim
  · replace h := h.1 (k_eq (by decide) rfl c2)
    refine lv_aload_n hx hb dJ0_getBytes_840e7_8 rfl (lv_at hl 0 rfl) ?_
    obtain ⟨hv3, h⟩ := h
    have hX4 := txt_at hE hR.w hv3
    refine vk_getf (v := .ref (ad (p0 + 1))) hx hb hX4.2.2.1 hR.sS hown (hts _ kx_2) (fun _ h9 => h9) dJ0_getBytes_840e7_9 ?_
    refine lv_iconst (v := 0) hx hb dJ0_getBytes_840e7_12 (by decide) ?_
    refine lv_aload_n hx hb dJ0_getBytes_840e7_13 rfl (lv_at hl 1 rfl) ?_
    refine lv_iload_n hx hb dJ0_getBytes_840e7_14 rfl (lv_at hl 2 rfl) ?_
    refine lv_iload_n hx hb dJ0_getBytes_840e7_15 rfl (lv_at hl 3 rfl) ?_
    refine lv_ishl hx hb dJ0_getBytes_840e7_16 ?_
    refine lv_topi (fun z5 ez5 => ?_)
    obtain rfl : z5 = (x2 <<< (x3 &&& 31)) := ez5
    refine lv_aload_n hx hb dJ0_getBytes_840e7_17 rfl (lv_at hl 0 rfl) ?_
    obtain ⟨hv6, h⟩ := h
    have hX7 := txt_at hE hR.w hv6
    refine vk_getf (v := .ref (ad (p0 + 1))) hx hb hX7.2.2.1 hR.sS hown (hts _ kx_2) (fun _ h9 => h9) dJ0_getBytes_840e7_18 ?_
    refine va_tlen (v := (Int32.ofNat (qN S (p0 + 1)))) hx hb hX7.2.2.2 hR.sS rfl dJ0_getBytes_840e7_21 ?_
    obtain ⟨hv8, h⟩ := h
    refine cp_text hx hb (by rw [hml]; exact hl.1.symm) hown (hts _ kx_131) (hts _ kx_53) (hts _ kx_54) (hts _ kx_55) hR.K hR.P hR.D hR.sS hX4.2.2.2 p1 0 (hR.atV hT_p1) rfl hv8.1 hv8.2.1 hv8.2.2.1 hv8.2.2.2.1 hv8.2.2.2.2.1 hv8.2.2.2.2.2 (Nat.le_of_ble_eq_true rfl) (Nat.le_of_ble_eq_true rfl) dJ0_getBytes_840e7_22 (fun H locs hP hD hS => ?_)
    have hR : Rep g ad A s (wC S p1 (va_cpy (qI S (p0 + 1)) (qI S p1) (0 : Int32).toNatClampNeg (x2 <<< (x3 &&& 31)).toNatClampNeg (Int32.ofNat (qN S (p0 + 1))).toNatClampNeg)) H locs := hR.cV hT_p1 hP hD hS
    obtain ⟨S9, eS9⟩ : ∃ z, z = wC S p1 (va_cpy (qI S (p0 + 1)) (qI S p1) (0 : Int32).toNatClampNeg (x2 <<< (x3 &&& 31)).toNatClampNeg (Int32.ofNat (qN S (p0 + 1))).toNatClampNeg) := ⟨_, rfl⟩
    rw [← eS9] at hR
    replace h := h S9 eS9
    have hT_p0 : qT S9 p0 = 12 := (congrArg (fun z => qT z p0) eS9).trans hT_p0
    have hT_p1 : qT S9 p1 = 21 := (congrArg (fun z => qT z p1) eS9).trans hT_p1
    have hsh : shy S S9 := by rw [eS9]; exact hsh
    refine lv_goto (tgt := 43) hx hb dJ0_getBytes_840e7_25 (by decide) ?_
    exact W.vret hx hb hr (fun t9 ht9 hW9 => ⟨⟨S9, rfl, ⟨h, hR.w, hsh⟩, ⟨by rw [ht9]; exact hR.P, hR.D⟩⟩, hR.sS.F ht9⟩) hR.sS.2.2 dJ0_getBytes_840e7_43
def w_J5_putStringAt_47b60 (S : MS) (p0 : Nat) (x1 : Int32) (p2 : Nat) (Q : MS → Prop) : Prop := (∃ Q1, w_J5_inflateIfNeededFor_a7421 S p0 p2 Q1 ∧ ∀ S2, Q1 S2 → ((qR S2 p0 0 = some (qO S2 p0 0)) ∧ (∃ Q6, w_J0_getBytes_840e7 S2 p2 (qO S2 p0 0) x1 (qI S2 p0 1) Q6 ∧ ∀ S7, Q6 S7 → Q S7)))
set_option maxHeartbeats 2000000 in
set_option maxRecDepth 100000 in
theorem r_J5_putStringAt_47b60 (l : Launch) (g : Gr) (ad : Nat → Nat) (sz : Nat) (S : MS) (p0 : Nat) (x1 : Int32) (p2 : Nat) (hw : wfM S) (hT_p0 : qT S p0 = 13) (hT_p2 : qT S p2 = 12) (Q : MS → Prop) (h : w_J5_putStringAt_47b60 S p0 x1 p2 Q) : Met l yJ5_putStringAt_47b60 (wt2 yJ5_putStringAt_47b60 cJ5_putStringAt_47b60 3 none) ({ frames := 2, cells := 0, slots := 0, locals := 63 }) (va_Pc [.ref (ad p0), .int x1, .ref (ad p2)] (st_R g ad sz S)) (va_Qv (fun (u : MS) => Q u ∧ wfM u ∧ shy S u) (fun (u : MS) (t : State) => qE g ad (va_A (Wd g ad S) sz) u t) (va_A (Wd g ad S) sz)) 0 0 (va_A (Wd g ad S) sz) := by
  refine Met.ofW (cc := cJ5_putStringAt_47b60) (maxL := 3) (ret := none) (by decide) rfl ?_
  intro p e s m args below meth c s₁ B hml hv
  obtain ⟨rfl, hsz, hP, hK, hD0, hex, hE⟩ := hv
  have hx := B.exec
  have hb := B.bytes
  have hr := B.returns
  have hts0 := atoms_spec (ws := wt2 yJ5_putStringAt_47b60 cJ5_putStringAt_47b60 3 none) B.pre
  have hts : ∀ w ∈ tb2, w.before _ s = true := fun w h => hts0 w (List.mem_cons_of_mem _ h)
  have hown : s.vm.findClass RJ5 = some m.cls := findClass_of_methodNamed B.named
  subst hsz
  have hD := hD0.self (sz := s.heap.size)
  generalize hAe : va_A (Wd g ad S) s.heap.size = A at hD hE ⊢
  have hA : ∀ q : Nat, s.heap.size ≤ q → A q := fun q h => by rw [← hAe]; exact Or.inr h
  have hR : Rep g ad A s S s.heap [] := ⟨hK, hP, hD, va_S.rf, hw⟩
  clear hK hP hD hD0
  have hl := lv_entry ([.ref (ad p0), .int x1, .ref (ad p2)]) (n := 3) (Nat.le_of_ble_eq_true rfl)
  rw [lg_entry_eq]
  generalize (lg_sl ([.ref (ad p0), .int x1, .ref (ad p2)]) ++ List.replicate (3 - (lg_sl ([.ref (ad p0), .int x1, .ref (ad p2)])).length) Slot.unset).toArray = ls at hl ⊢
  have hl : lv_has ls 3 [(0, .ref (ad p0)), (1, .int x1), (2, .ref (ad p2))] := hl
  have hsh : shy S S := shy.rf
  unfold w_J5_putStringAt_47b60 at h
  refine lv_aload_n hx hb dJ5_putStringAt_47b60_0 rfl (lv_at hl 0 rfl) ?_
  refine lv_aload_n hx hb dJ5_putStringAt_47b60_1 rfl (lv_at hl 2 rfl) ?_
  obtain ⟨Q1, h0, h⟩ := h
  have hFc := rfree hR hA
  refine va_callv (va_runU (As := [.ref (ad p2)]) (rest := []) ⟨hx, hb, hml, hown, hts⟩ (r_J5_inflateIfNeededFor_a7421 l g ad s.heap.size S p0 p2 hR.w hT_p0 hT_p2 Q1 h0) (va_cwU (C := RJ4) (owner := RJ5) 1 hts (gd2_U kx_132 kx_136 kx_137 kx_133 kx_36 kx_135) rfl rfl rfl rfl (by decide +kernel) ⟨Nat.le_of_ble_eq_true rfl, Nat.le_of_ble_eq_true rfl⟩) ⟨rblind, va_recv hR.K hR.P (ci := 16) (q0 := p0) rfl (hR.atU hT_p0), fun U hU hW9 => rmk hU hW9 hR hex hE hFc⟩ rfl rfl hl.1 rfl (lv_room (Nat.le_of_ble_eq_true rfl)) dJ5_putStringAt_47b60_2 ⟨Nat.le_of_ble_eq_true rfl, Nat.le_of_ble_eq_true rfl⟩) hR.sS (fun q _ h => hFc q h) hFc (fun  S2 t9 H1 locs ht9 hvm9 hw9 hB9 hz9 hk9 hS => ?_)
  obtain ⟨hq3, hw9, hs9⟩ := hw9
  have hR : Rep g ad A s S2 H1 locs := hR.call ht9 hB9 hw9 hS hFc
  have hsh := hsh.tr hs9
  replace h := h  S2 hq3
  have hT_p0 := hs9.T hT_p0 (by decide)
  have hT_p2 := hs9.T hT_p2 (by decide)
  clear hB9 hz9 hk9 hvm9 ht9 hw9 hs9 hS
  generalize H1 = H at hR ⊢
  refine lv_aload_n hx hb dJ5_putStringAt_47b60_5 rfl (lv_at hl 2 rfl) ?_
  refine lv_aload_n hx hb dJ5_putStringAt_47b60_6 rfl (lv_at hl 0 rfl) ?_
  obtain ⟨hv4, h⟩ := h
  have hT_b5 : qT S2 (qO S2 p0 0) = 21 := hR.w.ref hv4 hT_p0
  refine va_get (D := rD g) (ci := 16) (v := .ref (ad (qO S2 p0 0))) (C := RJ4) (T := TJ4) (N := 4) hx hb hts in2J4 hown hR.K hR.P p0 (hR.atU hT_p0) rfl 0 (by decide) (hts _ kx_30) (fun _ h9 => h9) (congrArg (fun z => some (vf ad z)) hv4) dJ5_putStringAt_47b60_7 ?_
  refine lv_iload_n hx hb dJ5_putStringAt_47b60_10 rfl (lv_at hl 1 rfl) ?_
  refine lv_aload_n hx hb dJ5_putStringAt_47b60_11 rfl (lv_at hl 0 rfl) ?_
  refine va_get (D := rD g) (ci := 16) (v := .int (qI S2 p0 1)) (C := RJ4) (T := TJ4) (N := 4) hx hb hts in2J4 hown hR.K hR.P p0 (hR.atU hT_p0) rfl 1 (by decide) (hts _ kx_29) (fun _ h9 => h9) rfl dJ5_putStringAt_47b60_12 ?_
  obtain ⟨Q6, h0, h⟩ := h
  have hFc := rfree hR hA
  refine va_callv (va_runV (As := [.ref (ad (qO S2 p0 0)), .int x1, .int (qI S2 p0 1)]) (rest := []) ⟨hx, hb, hml, hown, hts⟩ (r_J0_getBytes_840e7 l g ad H.size S2 p2 (qO S2 p0 0) x1 (qI S2 p0 1) hR.w hT_p2 hT_b5 Q6 h0) (cwV 3 hts (gd2_V kx_138 kx_139 kx_140 kx_6 kx_141) rfl rfl rfl (by decide +kernel) ⟨Nat.le_of_ble_eq_true rfl, Nat.le_of_ble_eq_true rfl⟩) ⟨rblind, (strR hts hR hE hA hT_p2), fun U hU hW9 => rmk hU hW9 hR hex hE hFc⟩ rfl rfl hl.1 rfl (lv_room (Nat.le_of_ble_eq_true rfl)) dJ5_putStringAt_47b60_15 ⟨Nat.le_of_ble_eq_true rfl, Nat.le_of_ble_eq_true rfl⟩) hR.sS (fun q _ h => hFc q h) hFc (fun  S7 t9 H1 locs ht9 hvm9 hw9 hB9 hz9 hk9 hS => ?_)
  obtain ⟨hq8, hw9, hs9⟩ := hw9
  have hR : Rep g ad A s S7 H1 locs := hR.call ht9 hB9 hw9 hS hFc
  have hsh := hsh.tr hs9
  replace h := h  S7 hq8
  have hT_p0 := hs9.T hT_p0 (by decide)
  have hT_p2 := hs9.T hT_p2 (by decide)
  clear hB9 hz9 hk9 hvm9 ht9 hw9 hs9 hS
  generalize H1 = H at hR ⊢
  exact W.vret hx hb hr (fun t9 ht9 hW9 => ⟨⟨S7, rfl, ⟨h, hR.w, hsh⟩, ⟨by rw [ht9]; exact hR.P, hR.D⟩⟩, hR.sS.F ht9⟩) hR.sS.2.2 dJ5_putStringAt_47b60_18
def w_J5_append_cf1ce (S : MS) (p0 : Nat) (p1 : Nat) (Q : Nat → MS → Prop) : Prop := (∀ a2 : Int32, a2 = (Int32.ofNat (qN S (p1 + 1))) → (∃ Q4, w_J5_ensureCapacityInternal_d00df S p0 ((qI S p0 3) + a2) Q4 ∧ ∀ S5, Q4 S5 → (∃ Q8, w_J5_putStringAt_47b60 S5 p0 (qI S5 p0 3) p1 Q8 ∧ ∀ S9, Q8 S9 → (∀ S12, S12 = wI S9 p0 3 ((qI S9 p0 3) + a2) → Q p0 S12))))
set_option maxHeartbeats 2000000 in
set_option maxRecDepth 100000 in
theorem r_J5_append_cf1ce (l : Launch) (g : Gr) (ad : Nat → Nat) (H0 : Heap) (S : MS) (p0 : Nat) (p1 : Nat) (hw : wfM S) (hT_p0 : qT S p0 = 13) (hT_p1 : qT S p1 = 12) (Q : Nat → MS → Prop) (h : w_J5_append_cf1ce S p0 p1 Q) : Met l yJ5_append_cf1ce (wt2 yJ5_append_cf1ce cJ5_append_cf1ce 3 (some (.object "java/lang/AbstractStringBuilder"))) ({ frames := 4, cells := KC - qn S, slots := KS - qu S, locals := 85 }) (va_Pc [.ref (ad p0), .ref (ad p1)] (st_RH g ad H0 S)) (va_Qq (fun (r : Option Nat) (u : MS × (Nat → Nat)) => ∃ b : Nat, r = some (u.2 b) ∧ Q b u.1 ∧ wfM u.1 ∧ shx S u.1 ∧ adk ad u.2 S ∧ qT u.1 b = 13) (fun (u : MS × (Nat → Nat)) (t : State) => qEH g (va_A (Wd g ad S) H0.size) S H0 u t) (va_A (Wd g ad S) H0.size)) (KC - qn S) (KS - qu S) (va_A (Wd g ad S) H0.size) := by
  refine Met.ofW (cc := cJ5_append_cf1ce) (maxL := 3) (ret := (some (.object "java/lang/AbstractStringBuilder"))) (by decide) rfl ?_
  intro p e s m args below meth c s₁ B hml hv
  obtain ⟨rfl, hH0, hsz, hP, hK, hD0, hex, hE⟩ := hv
  have hx := B.exec
  have hb := B.bytes
  have hr := B.returns
  have hts0 := atoms_spec (ws := wt2 yJ5_append_cf1ce cJ5_append_cf1ce 3 (some (.object "java/lang/AbstractStringBuilder"))) B.pre
  have hts : ∀ w ∈ tb2, w.before _ s = true := fun w h => hts0 w (List.mem_cons_of_mem _ h)
  have hown : s.vm.findClass RJ5 = some m.cls := findClass_of_methodNamed B.named
  subst hH0
  have hD := hD0.self (sz := s.heap.size)
  generalize hAe : va_A (Wd g ad S) s.heap.size = A at hD hE ⊢
  have hA : ∀ q : Nat, s.heap.size ≤ q → A q := fun q h => by rw [← hAe]; exact Or.inr h
  have hR : Rep g ad A s S s.heap [] := ⟨hK, hP, hD, va_S.rf, hw⟩
  clear hK hP hD hD0
  have hl := lv_entry ([.ref (ad p0), .ref (ad p1)]) (n := 3) (Nat.le_of_ble_eq_true rfl)
  rw [lg_entry_eq]
  generalize (lg_sl ([.ref (ad p0), .ref (ad p1)]) ++ List.replicate (3 - (lg_sl ([.ref (ad p0), .ref (ad p1)])).length) Slot.unset).toArray = ls at hl ⊢
  have hlg : lg S S 0 0 := lg.rf
  have hak : adk ad ad S := adk.rf
  have hl : lv_has ls 3 [(0, .ref (ad p0)), (1, .ref (ad p1))] := hl
  have hsh : shx S S := shx.rf
  unfold w_J5_append_cf1ce at h
  refine lv_aload_n hx hb dJ5_append_cf1ce_0 rfl (lv_at hl 1 rfl) ?_
  refine lv_ifnonnull (tgt := 9) hx hb dJ5_append_cf1ce_1 (by decide) ?_
  refine lv_aload_n hx hb dJ5_append_cf1ce_9 rfl (lv_at hl 1 rfl) ?_
  have hF : ∀ q, Ns s.heap.size q → A q := fun q h => hA q (Nat.le_trans hR.sS.1 h)
  refine va_calli (va_runV (As := []) (rest := []) ⟨hx, hb, hml, hown, hts⟩ (s_length l s.heap.size (ad p1) (ad (p1 + 1)) (qN S (p1 + 1)) (qI S (p1 + 1))) (cwV 0 hts (gd2_V kx_142 kx_143 kx_144 kx_6 kx_145) rfl rfl rfl (by decide +kernel) ⟨Nat.le_of_ble_eq_true rfl, Nat.le_of_ble_eq_true rfl⟩) ⟨tblind (fun A u U H hv h => by exact tx1.moved hv h), (strR hts hR hE hA hT_p1), fun U hU hW9 => ⟨rfl, by rw [hU], str_at hts hR hE hA hT_p1 hU hW9, by rw [hU]; exact ((hE.1.kept hR.sS.2.1).narrow hF).moved hW9.alike⟩⟩ rfl rfl hl.1 rfl (lv_room (Nat.le_of_ble_eq_true rfl)) dJ5_append_cf1ce_10 ⟨(show 0 + 0 ≤ KC - qn S from hlg.c), (show 0 + 0 ≤ KS - qu S from hlg.s)⟩) hR.sS (fun q _ h => hF q h) hF (fun r1 u9 t9 H1 locs ht9 hvm9 hw9 hB9 hz9 hk9 hS => ?_)
  obtain rfl : r1 = (Int32.ofNat (qN S (p1 + 1))) := hw9
  have hR : Rep g ad A s S H1 locs := hR.keep hk9 hS
  clear hz9 hk9 hvm9 ht9 hB9 hF hS
  generalize H1 = H at hR ⊢
  obtain ⟨a2, ea2⟩ : ∃ z, z = (Int32.ofNat (qN S (p1 + 1))) := ⟨_, rfl⟩
  rw [← ea2]
  replace h := h a2 ea2
  refine lv_istore_n (lv' := [(2, .int a2), (0, .ref (ad p0)), (1, .ref (ad p1))]) hx hb dJ5_append_cf1ce_13 rfl hl (by decide) rfl (fun ls hl => ?_)
  refine lv_aload_n hx hb dJ5_append_cf1ce_14 rfl (lv_at hl 1 rfl) ?_
  refine lv_aload_n hx hb dJ5_append_cf1ce_15 rfl (lv_at hl 1 rfl) ?_
  refine va_get (D := rD g) (ci := 16) (v := .int (qI S p0 3)) (C := RJ4) (T := TJ4) (N := 4) hx hb hts in2J4 hown hR.K hR.P p0 (hR.atU hT_p0) rfl 3 (by decide) (hts _ kx_31) (fun _ h9 => h9) rfl dJ5_append_cf1ce_16 ?_
  refine lv_iload_n hx hb dJ5_append_cf1ce_19 rfl (lv_at hl 0 rfl) ?_
  refine lv_iadd hx hb dJ5_append_cf1ce_20 ?_
  refine lv_topi (fun z3 ez3 => ?_)
  obtain rfl : z3 = ((qI S p0 3) + a2) := ez3
  obtain ⟨Q4, h0, h⟩ := h
  have hFc := rfree hR hA
  refine W_led2 (fun hL0 => ?_)
  refine va_callv (va_runU (As := [.int ((qI S p0 3) + a2)]) (rest := []) ⟨hx, hb, hml, hown, hts⟩ (r_J5_ensureCapacityInternal_d00df l g ad H S p0 ((qI S p0 3) + a2) hR.w hT_p0 Q4 h0) (va_cwU (C := RJ4) (owner := RJ5) 1 hts (gd2_U kx_72 kx_76 kx_77 kx_73 kx_36 kx_75) rfl rfl rfl rfl (by decide +kernel) ⟨Nat.le_of_ble_eq_true rfl, Nat.le_of_ble_eq_true rfl⟩) ⟨rblindH, va_recv hR.K hR.P (ci := 16) (q0 := p0) rfl (hR.atU hT_p0), fun U hU hW9 => rmkH hU hW9 hR hex hE hFc⟩ rfl rfl hl.1 rfl (lv_room (Nat.le_of_ble_eq_true rfl)) dJ5_append_cf1ce_21 ⟨(show 0 + (KC - qn S) ≤ KC - qn S from hlg.cm), (show 0 + (KS - qu S) ≤ KS - qu S from hlg.sm)⟩) hR.sS (fun q _ h => hFc q h) hFc (fun  S5 t9 H1 locs ht9 hvm9 hw9 hB9 hz9 hk9 hS => ?_)
  rcases S5 with ⟨S5, ak7⟩
  obtain ⟨hB9, dc9, ds9, hL9, hl9⟩ := hB9
  dsimp only at hw9 hB9 hl9
  rw [ht9] at hL9
  obtain ⟨hq6, hw9, hs9, hk8⟩ := hw9
  have hw8 := hR.w
  have hak := hak.tr hk8 hlg.2.2.1
  have hE := hE.ad hk8
  have hR : Rep g ak7 A s S5 H1 locs := hR.callH ht9 hB9 hw9 hS hFc
  have hsh := hsh.tr hs9
  refine W_tight2 (hL0.tr hL9).1 (hL0.tr hL9).2.1 ?_
  have hlg := hlg.call hl9
  replace h := h  S5 hq6
  have ea_0 : ak7 p0 = ad p0 := hk8 _ (hw8.hd hT_p0 (by decide) (by decide))
  have ea_1 : ak7 p1 = ad p1 := hk8 _ (hw8.hd hT_p1 (by decide) (by decide))
  have hl : lv_has ls 3 [(2, .int a2), (0, .ref (ak7 p0)), (1, .ref (ak7 p1))] := by simp only [ea_0, ea_1]; exact hl
  have hT_p0 := hs9.T hT_p0 (by decide)
  have hT_p1 := hs9.T hT_p1 (by decide)
  clear hB9 hz9 hk9 hvm9 ht9 hw9 hs9 hS hL0 hL9
  generalize H1 = H at hR ⊢
  generalize dc9 = dc_ak7, ds9 = ds_ak7 at hlg ⊢
  refine lv_aload_n hx hb dJ5_append_cf1ce_24 rfl (lv_at hl 1 rfl) ?_
  refine lv_aload_n hx hb dJ5_append_cf1ce_25 rfl (lv_at hl 1 rfl) ?_
  refine va_get (D := rD g) (ci := 16) (v := .int (qI S5 p0 3)) (C := RJ4) (T := TJ4) (N := 4) hx hb hts in2J4 hown hR.K hR.P p0 (hR.atU hT_p0) rfl 3 (by decide) (hts _ kx_31) (fun _ h9 => h9) rfl dJ5_append_cf1ce_26 ?_
  refine lv_aload_n hx hb dJ5_append_cf1ce_29 rfl (lv_at hl 2 rfl) ?_
  obtain ⟨Q8, h0, h⟩ := h
  have hFc := rfree hR hA
  refine va_callv (va_runU (As := [.int (qI S5 p0 3), .ref (ak7 p1)]) (rest := []) ⟨hx, hb, hml, hown, hts⟩ (r_J5_putStringAt_47b60 l g ak7 H.size S5 p0 (qI S5 p0 3) p1 hR.w hT_p0 hT_p1 Q8 h0) (va_cwU (C := RJ4) (owner := RJ5) 2 hts (gd2_U kx_146 kx_150 kx_151 kx_147 kx_36 kx_149) rfl rfl rfl rfl (by decide +kernel) ⟨Nat.le_of_ble_eq_true rfl, Nat.le_of_ble_eq_true rfl⟩) ⟨rblind, va_recv hR.K hR.P (ci := 16) (q0 := p0) rfl (hR.atU hT_p0), fun U hU hW9 => rmk hU hW9 hR hex hE hFc⟩ rfl rfl hl.1 rfl (lv_room (Nat.le_of_ble_eq_true rfl)) dJ5_append_cf1ce_30 ⟨(show 0 + dc_ak7 + 0 ≤ KC - qn S from hlg.c), (show 0 + ds_ak7 + 0 ≤ KS - qu S from hlg.s)⟩) hR.sS (fun q _ h => hFc q h) hFc (fun  S9 t9 H1 locs ht9 hvm9 hw9 hB9 hz9 hk9 hS => ?_)
  obtain ⟨hq10, hw9, hs9⟩ := hw9
  have hR : Rep g ak7 A s S9 H1 locs := hR.call ht9 hB9 hw9 hS hFc
  have hsh := hsh.tr hs9.1
  have hlg : lg S S9 (0 + dc_ak7) (0 + ds_ak7) := hlg.same hs9
  replace h := h  S9 hq10
  have hT_p0 := hs9.T hT_p0 (by decide)
  have hT_p1 := hs9.T hT_p1 (by decide)
  clear hB9 hz9 hk9 hvm9 ht9 hw9 hs9 hS
  generalize H1 = H at hR ⊢
  refine lv_aload_n hx hb dJ5_append_cf1ce_33 rfl (lv_at hl 1 rfl) ?_
  refine lv_dup hx hb dJ5_append_cf1ce_34 rfl ?_
  refine va_get (D := rD g) (ci := 16) (v := .int (qI S9 p0 3)) (C := RJ4) (T := TJ4) (N := 4) hx hb hts in2J4 hown hR.K hR.P p0 (hR.atU hT_p0) rfl 3 (by decide) (hts _ kx_31) (fun _ h9 => h9) rfl dJ5_append_cf1ce_35 ?_
  refine lv_iload_n hx hb dJ5_append_cf1ce_38 rfl (lv_at hl 0 rfl) ?_
  refine lv_iadd hx hb dJ5_append_cf1ce_39 ?_
  refine lv_topi (fun z11 ez11 => ?_)
  obtain rfl : z11 = ((qI S9 p0 3) + a2) := ez11
  refine va_put (D := rD g) (ci := 16) (v := .int ((qI S9 p0 3) + a2)) (ty := .int) (C := RJ4) (T := TJ4) (N := 4) hx hb hts in2J4 tyJ4 tyJ4_ok nmJ4 hown hR.K hR.P hR.D hR.sS p0 (hR.atU hT_p0) rfl 3 (by decide) (hts _ kx_31) (fun _ h9 => h9) rfl (by decide +kernel) rfl rfl (Nat.le_of_ble_eq_true rfl) dJ5_append_cf1ce_40 (fun H locs hP hD hS => ?_)
  have hR : Rep g ak7 A s (wI S9 p0 3 ((qI S9 p0 3) + a2)) H locs := hR.pIU hT_p0 F16_s3 hP hD hS
  obtain ⟨S12, eS12⟩ : ∃ z, z = wI S9 p0 3 ((qI S9 p0 3) + a2) := ⟨_, rfl⟩
  rw [← eS12] at hR
  replace h := h S12 eS12
  have hT_p0 : qT S12 p0 = 13 := (congrArg (fun z => qT z p0) eS12).trans hT_p0
  have hT_p1 : qT S12 p1 = 12 := (congrArg (fun z => qT z p1) eS12).trans hT_p1
  have hsh : shx S S12 := by rw [eS12]; exact hsh
  have hlg : lg S S12 (0 + dc_ak7) (0 + ds_ak7) := by rw [eS12]; exact hlg
  refine lv_aload_n hx hb dJ5_append_cf1ce_43 rfl (lv_at hl 1 rfl) ?_
  refine W_led2 (fun hLd => ?_)
  refine W.widen (k := KC - qn S) (n := KS - qu S) hlg.c hlg.s ?_
  exact W.aret (v := .ref (ak7 p0)) hx hb hr (Or.inl ⟨_, rfl⟩) (Or.inr ⟨_, rfl⟩) (fun t9 ht9 hW9 => ⟨⟨some (ak7 p0), (S12, ak7), rfl, ⟨p0, rfl, h, hR.w, hsh, hak, hT_p0⟩, ⟨⟨by rw [ht9]; exact hR.P, hR.D⟩, _, _, by rw [ht9]; exact hLd, hlg⟩⟩, hR.sS.F ht9⟩) hR.sS.2.2 dJ5_append_cf1ce_44
def w_J4_append_15ec4 (S : MS) (p0 : Nat) (p1 : Nat) (Q : Nat → MS → Prop) : Prop := (∃ Q1, w_J5_append_cf1ce S p0 p1 Q1 ∧ ∀ b6 S3, Q1 b6 S3 → Q p0 S3)
set_option maxHeartbeats 2000000 in
set_option maxRecDepth 100000 in
theorem r_J4_append_15ec4 (l : Launch) (g : Gr) (ad : Nat → Nat) (H0 : Heap) (S : MS) (p0 : Nat) (p1 : Nat) (hw : wfM S) (hT_p0 : qT S p0 = 13) (hT_p1 : qT S p1 = 12) (Q : Nat → MS → Prop) (h : w_J4_append_15ec4 S p0 p1 Q) : Met l yJ4_append_15ec4 (wt2 yJ4_append_15ec4 cJ4_append_15ec4 2 (some (.object "java/lang/StringBuilder"))) ({ frames := 5, cells := KC - qn S, slots := KS - qu S, locals := 107 }) (va_Pc [.ref (ad p0), .ref (ad p1)] (st_RH g ad H0 S)) (va_Qq (fun (r : Option Nat) (u : MS × (Nat → Nat)) => ∃ b : Nat, r = some (u.2 b) ∧ Q b u.1 ∧ wfM u.1 ∧ shx S u.1 ∧ adk ad u.2 S ∧ qT u.1 b = 13) (fun (u : MS × (Nat → Nat)) (t : State) => qEH g (va_A (Wd g ad S) H0.size) S H0 u t) (va_A (Wd g ad S) H0.size)) (KC - qn S) (KS - qu S) (va_A (Wd g ad S) H0.size) := by
  refine Met.ofW (cc := cJ4_append_15ec4) (maxL := 2) (ret := (some (.object "java/lang/StringBuilder"))) (by decide) rfl ?_
  intro p e s m args below meth c s₁ B hml hv
  obtain ⟨rfl, hH0, hsz, hP, hK, hD0, hex, hE⟩ := hv
  have hx := B.exec
  have hb := B.bytes
  have hr := B.returns
  have hts0 := atoms_spec (ws := wt2 yJ4_append_15ec4 cJ4_append_15ec4 2 (some (.object "java/lang/StringBuilder"))) B.pre
  have hts : ∀ w ∈ tb2, w.before _ s = true := fun w h => hts0 w (List.mem_cons_of_mem _ h)
  have hown : s.vm.findClass RJ4 = some m.cls := findClass_of_methodNamed B.named
  subst hH0
  have hD := hD0.self (sz := s.heap.size)
  generalize hAe : va_A (Wd g ad S) s.heap.size = A at hD hE ⊢
  have hA : ∀ q : Nat, s.heap.size ≤ q → A q := fun q h => by rw [← hAe]; exact Or.inr h
  have hR : Rep g ad A s S s.heap [] := ⟨hK, hP, hD, va_S.rf, hw⟩
  clear hK hP hD hD0
  have hl := lv_entry ([.ref (ad p0), .ref (ad p1)]) (n := 2) (Nat.le_of_ble_eq_true rfl)
  rw [lg_entry_eq]
  generalize (lg_sl ([.ref (ad p0), .ref (ad p1)]) ++ List.replicate (2 - (lg_sl ([.ref (ad p0), .ref (ad p1)])).length) Slot.unset).toArray = ls at hl ⊢
  have hlg : lg S S 0 0 := lg.rf
  have hak : adk ad ad S := adk.rf
  have hl : lv_has ls 2 [(0, .ref (ad p0)), (1, .ref (ad p1))] := hl
  have hsh : shx S S := shx.rf
  unfold w_J4_append_15ec4 at h
  refine lv_aload_n hx hb dJ4_append_15ec4_0 rfl (lv_at hl 0 rfl) ?_
  refine lv_aload_n hx hb dJ4_append_15ec4_1 rfl (lv_at hl 1 rfl) ?_
  obtain ⟨Q1, h0, h⟩ := h
  have hFc := rfree hR hA
  refine W_led2 (fun hL0 => ?_)
  refine va_callq (va_runSU (hR.K.1 16 _ rfl).2 (As := [.ref (ad p1)]) (rest := []) ⟨hx, hb, hml, hown, hts⟩ (r_J5_append_cf1ce l g ad s.heap S p0 p1 hR.w hT_p0 hT_p1 Q1 h0) (va_cwSU 1 hts (gd2_SU kx_152 kx_153 kx_34 kx_154 kx_36 kx_155) rfl rfl rfl (by decide +kernel) ⟨Nat.le_of_ble_eq_true rfl, Nat.le_of_ble_eq_true rfl⟩) ⟨rblindH, va_recv hR.K hR.P (ci := 16) (q0 := p0) rfl (hR.atU hT_p0), fun U hU hW9 => rmkH hU hW9 hR hex hE hFc⟩ rfl rfl hl.1 rfl (lv_room (Nat.le_of_ble_eq_true rfl)) dJ4_append_15ec4_2 ⟨(show 0 + (KC - qn S) ≤ KC - qn S from hlg.cm), (show 0 + (KS - qu S) ≤ KS - qu S from hlg.sm)⟩) hR.sS (fun q _ h => hFc q h) hFc (fun r2 S3 t9 H1 locs ht9 hvm9 hw9 hB9 hz9 hk9 hS => ?_)
  rcases S3 with ⟨S3, ak5⟩
  obtain ⟨hB9, dc9, ds9, hL9, hl9⟩ := hB9
  dsimp only at hw9 hB9 hl9
  rw [ht9] at hL9
  obtain ⟨b6, rfl, hq4, hw9, hs9, hk8, hT_b6⟩ := hw9
  have hw8 := hR.w
  have hak := hak.tr hk8 hlg.2.2.1
  have hE := hE.ad hk8
  have hR : Rep g ak5 A s S3 H1 locs := hR.callH ht9 hB9 hw9 hS hFc
  have hsh := hsh.tr hs9
  refine W_tight2 (hL0.tr hL9).1 (hL0.tr hL9).2.1 ?_
  have hlg := hlg.call hl9
  replace h := h b6 S3 hq4
  have ea_0 : ak5 p0 = ad p0 := hk8 _ (hw8.hd hT_p0 (by decide) (by decide))
  have ea_1 : ak5 p1 = ad p1 := hk8 _ (hw8.hd hT_p1 (by decide) (by decide))
  have hl : lv_has ls 2 [(0, .ref (ak5 p0)), (1, .ref (ak5 p1))] := by simp only [ea_0, ea_1]; exact hl
  have hT_p0 := hs9.T hT_p0 (by decide)
  have hT_p1 := hs9.T hT_p1 (by decide)
  clear hB9 hz9 hk9 hvm9 ht9 hw9 hs9 hS hL0 hL9
  generalize H1 = H at hR ⊢
  generalize dc9 = dc_ak5, ds9 = ds_ak5 at hlg ⊢
  refine lv_pop hx hb dJ4_append_15ec4_5 rfl ?_
  refine lv_aload_n hx hb dJ4_append_15ec4_6 rfl (lv_at hl 0 rfl) ?_
  refine W_led2 (fun hLd => ?_)
  refine W.widen (k := KC - qn S) (n := KS - qu S) hlg.c hlg.s ?_
  exact W.aret (v := .ref (ak5 p0)) hx hb hr (Or.inl ⟨_, rfl⟩) (Or.inr ⟨_, rfl⟩) (fun t9 ht9 hW9 => ⟨⟨some (ak5 p0), (S3, ak5), rfl, ⟨p0, rfl, h, hR.w, hsh, hak, hT_p0⟩, ⟨⟨by rw [ht9]; exact hR.P, hR.D⟩, _, _, by rw [ht9]; exact hLd, hlg⟩⟩, hR.sS.F ht9⟩) hR.sS.2.2 dJ4_append_15ec4_7
def w_J5_append_c97b9 (S : MS) (p0 : Nat) (x1 : Int32) (Q : Nat → MS → Prop) : Prop := (∀ a1 : Int32, a1 = (qI S p0 3) → (∃ Q2, w_J6_stringSize_0f7a4 S x1 Q2 ∧ ∀ r3 S4, Q2 r3 S4 → (∀ a7 : Int32, a7 = (a1 + r3) → (∃ Q8, w_J5_ensureCapacityInternal_d00df S4 p0 a7 Q8 ∧ ∀ S9, Q8 S9 → (d_J5_isLatin1_aae02 S9 p0 ∧ (((f_J5_isLatin1_aae02 S9 p0).toInt = 0 → False) ∧ (¬ (f_J5_isLatin1_aae02 S9 p0).toInt = 0 → ((qR S9 p0 0 = some (qO S9 p0 0)) ∧ (∃ Q18, w_J6_getChars_ba4f3 S9 x1 a7 (qO S9 p0 0) Q18 ∧ ∀ r19 S20, Q18 r19 S20 → (∀ S22, S22 = wI S20 p0 3 a7 → Q p0 S22))))))))))
set_option maxHeartbeats 2000000 in
set_option maxRecDepth 100000 in
theorem r_J5_append_c97b9 (l : Launch) (g : Gr) (ad : Nat → Nat) (H0 : Heap) (S : MS) (p0 : Nat) (x1 : Int32) (hw : wfM S) (hT_p0 : qT S p0 = 13) (Q : Nat → MS → Prop) (h : w_J5_append_c97b9 S p0 x1 Q) : Met l yJ5_append_c97b9 (wt2 yJ5_append_c97b9 cJ5_append_c97b9 4 (some (.object "java/lang/AbstractStringBuilder"))) ({ frames := 4, cells := KC - qn S, slots := KS - qu S, locals := 84 }) (va_Pc [.ref (ad p0), .int x1] (st_RH g ad H0 S)) (va_Qq (fun (r : Option Nat) (u : MS × (Nat → Nat)) => ∃ b : Nat, r = some (u.2 b) ∧ Q b u.1 ∧ wfM u.1 ∧ shx S u.1 ∧ adk ad u.2 S ∧ qT u.1 b = 13) (fun (u : MS × (Nat → Nat)) (t : State) => qEH g (va_A (Wd g ad S) H0.size) S H0 u t) (va_A (Wd g ad S) H0.size)) (KC - qn S) (KS - qu S) (va_A (Wd g ad S) H0.size) := by
  refine Met.ofW (cc := cJ5_append_c97b9) (maxL := 4) (ret := (some (.object "java/lang/AbstractStringBuilder"))) (by decide) rfl ?_
  intro p e s m args below meth c s₁ B hml hv
  obtain ⟨rfl, hH0, hsz, hP, hK, hD0, hex, hE⟩ := hv
  have hx := B.exec
  have hb := B.bytes
  have hr := B.returns
  have hts0 := atoms_spec (ws := wt2 yJ5_append_c97b9 cJ5_append_c97b9 4 (some (.object "java/lang/AbstractStringBuilder"))) B.pre
  have hts : ∀ w ∈ tb2, w.before _ s = true := fun w h => hts0 w (List.mem_cons_of_mem _ h)
  have hown : s.vm.findClass RJ5 = some m.cls := findClass_of_methodNamed B.named
  subst hH0
  have hD := hD0.self (sz := s.heap.size)
  generalize hAe : va_A (Wd g ad S) s.heap.size = A at hD hE ⊢
  have hA : ∀ q : Nat, s.heap.size ≤ q → A q := fun q h => by rw [← hAe]; exact Or.inr h
  have hR : Rep g ad A s S s.heap [] := ⟨hK, hP, hD, va_S.rf, hw⟩
  clear hK hP hD hD0
  have hl := lv_entry ([.ref (ad p0), .int x1]) (n := 4) (Nat.le_of_ble_eq_true rfl)
  rw [lg_entry_eq]
  generalize (lg_sl ([.ref (ad p0), .int x1]) ++ List.replicate (4 - (lg_sl ([.ref (ad p0), .int x1])).length) Slot.unset).toArray = ls at hl ⊢
  have hlg : lg S S 0 0 := lg.rf
  have hak : adk ad ad S := adk.rf
  have hl : lv_has ls 4 [(0, .ref (ad p0)), (1, .int x1)] := hl
  have hsh : shx S S := shx.rf
  unfold w_J5_append_c97b9 at h
  refine lv_aload_n hx hb dJ5_append_c97b9_0 rfl (lv_at hl 0 rfl) ?_
  refine va_get (D := rD g) (ci := 16) (v := .int (qI S p0 3)) (C := RJ4) (T := TJ4) (N := 4) hx hb hts in2J4 hown hR.K hR.P p0 (hR.atU hT_p0) rfl 3 (by decide) (hts _ kx_31) (fun _ h9 => h9) rfl dJ5_append_c97b9_1 ?_
  obtain ⟨a1, ea1⟩ : ∃ z, z = (qI S p0 3) := ⟨_, rfl⟩
  rw [← ea1]
  replace h := h a1 ea1
  refine lv_istore_n (lv' := [(2, .int a1), (0, .ref (ad p0)), (1, .int x1)]) hx hb dJ5_append_c97b9_4 rfl hl (by decide) rfl (fun ls hl => ?_)
  refine lv_iload_n hx hb dJ5_append_c97b9_5 rfl (lv_at hl 0 rfl) ?_
  refine lv_iload_n hx hb dJ5_append_c97b9_6 rfl (lv_at hl 2 rfl) ?_
  obtain ⟨Q2, h0, h⟩ := h
  have hFc := rfree hR hA
  refine va_calli (va_runS (As := [.int x1]) (rest := [.int a1]) ⟨hx, hb, hml, hown, hts⟩ (r_J6_stringSize_0f7a4 l g ad s.heap.size S x1 hR.w  Q2 h0) (va_cwS 1 hts (gd2_S kx_156 kx_157 kx_158 kx_159) rfl rfl rfl (by decide +kernel) ⟨Nat.le_of_ble_eq_true rfl, Nat.le_of_ble_eq_true rfl⟩) ⟨rblind, fun U hU hW9 => rmk hU hW9 hR hex hE hFc⟩ rfl rfl hl.1 rfl (lv_room (Nat.le_of_ble_eq_true rfl)) dJ5_append_c97b9_7 ⟨(show 0 + 0 ≤ KC - qn S from hlg.c), (show 0 + 0 ≤ KS - qu S from hlg.s)⟩) hR.sS (fun q _ h => hFc q h) hFc (fun r3 S4 t9 H1 locs ht9 hvm9 hw9 hB9 hz9 hk9 hS => ?_)
  obtain ⟨hq5, hw9, hs9⟩ := hw9
  have hR : Rep g ad A s S4 H1 locs := hR.call ht9 hB9 hw9 hS hFc
  have hsh := hsh.tr hs9.1
  have hlg : lg S S4 (0) (0) := hlg.same hs9
  replace h := h r3 S4 hq5
  have hT_p0 := hs9.T hT_p0 (by decide)
  clear hB9 hz9 hk9 hvm9 ht9 hw9 hs9 hS
  generalize H1 = H at hR ⊢
  refine lv_iadd hx hb dJ5_append_c97b9_10 ?_
  refine lv_topi (fun z6 ez6 => ?_)
  obtain rfl : z6 = (a1 + r3) := ez6
  obtain ⟨a7, ea7⟩ : ∃ z, z = (a1 + r3) := ⟨_, rfl⟩
  rw [← ea7]
  replace h := h a7 ea7
  refine lv_istore_n (lv' := [(3, .int a7), (2, .int a1), (0, .ref (ad p0)), (1, .int x1)]) hx hb dJ5_append_c97b9_11 rfl hl (by decide) rfl (fun ls hl => ?_)
  refine lv_aload_n hx hb dJ5_append_c97b9_12 rfl (lv_at hl 2 rfl) ?_
  refine lv_iload_n hx hb dJ5_append_c97b9_13 rfl (lv_at hl 0 rfl) ?_
  obtain ⟨Q8, h0, h⟩ := h
  have hFc := rfree hR hA
  refine W_led2 (fun hL0 => ?_)
  refine va_callv (va_runU (As := [.int a7]) (rest := []) ⟨hx, hb, hml, hown, hts⟩ (r_J5_ensureCapacityInternal_d00df l g ad H S4 p0 a7 hR.w hT_p0 Q8 h0) (va_cwU (C := RJ4) (owner := RJ5) 1 hts (gd2_U kx_72 kx_76 kx_77 kx_73 kx_36 kx_75) rfl rfl rfl rfl (by decide +kernel) ⟨Nat.le_of_ble_eq_true rfl, Nat.le_of_ble_eq_true rfl⟩) ⟨rblindH, va_recv hR.K hR.P (ci := 16) (q0 := p0) rfl (hR.atU hT_p0), fun U hU hW9 => rmkH hU hW9 hR hex hE hFc⟩ rfl rfl hl.1 rfl (lv_room (Nat.le_of_ble_eq_true rfl)) dJ5_append_c97b9_14 ⟨(show 0 + (KC - qn S4) ≤ KC - qn S from hlg.cm), (show 0 + (KS - qu S4) ≤ KS - qu S from hlg.sm)⟩) hR.sS (fun q _ h => hFc q h) hFc (fun  S9 t9 H1 locs ht9 hvm9 hw9 hB9 hz9 hk9 hS => ?_)
  rcases S9 with ⟨S9, ak11⟩
  obtain ⟨hB9, dc9, ds9, hL9, hl9⟩ := hB9
  dsimp only at hw9 hB9 hl9
  rw [ht9] at hL9
  obtain ⟨hq10, hw9, hs9, hk8⟩ := hw9
  have hw8 := hR.w
  have hak := hak.tr hk8 hlg.2.2.1
  have hE := hE.ad hk8
  have hR : Rep g ak11 A s S9 H1 locs := hR.callH ht9 hB9 hw9 hS hFc
  have hsh := hsh.tr hs9
  refine W_tight2 (hL0.tr hL9).1 (hL0.tr hL9).2.1 ?_
  have hlg := hlg.call hl9
  replace h := h  S9 hq10
  have ea_0 : ak11 p0 = ad p0 := hk8 _ (hw8.hd hT_p0 (by decide) (by decide))
  have hl : lv_has ls 4 [(3, .int a7), (2, .int a1), (0, .ref (ak11 p0)), (1, .int x1)] := by simp only [ea_0]; exact hl
  have hT_p0 := hs9.T hT_p0 (by decide)
  clear hB9 hz9 hk9 hvm9 ht9 hw9 hs9 hS hL0 hL9
  generalize H1 = H at hR ⊢
  generalize dc9 = dc_ak11, ds9 = ds_ak11 at hlg ⊢
  refine lv_aload_n hx hb dJ5_append_c97b9_17 rfl (lv_at hl 2 rfl) ?_
  obtain ⟨hv12, h⟩ := h
  have hFc := rfree hR hA
  refine va_calli (va_runU (As := []) (rest := []) ⟨hx, hb, hml, hown, hts⟩ (r_J5_isLatin1_aae02 l g ak11 H.size S9 p0 hR.w hT_p0 hv12) (va_cwU (C := RJ4) (owner := RJ5) 0 hts (gd2_U kx_78 kx_82 kx_83 kx_79 kx_36 kx_81) rfl rfl rfl rfl (by decide +kernel) ⟨Nat.le_of_ble_eq_true rfl, Nat.le_of_ble_eq_true rfl⟩) ⟨rblind, va_recv hR.K hR.P (ci := 16) (q0 := p0) rfl (hR.atU hT_p0), fun U hU hW9 => rmk hU hW9 hR hex hE hFc⟩ rfl rfl hl.1 rfl (lv_room (Nat.le_of_ble_eq_true rfl)) dJ5_append_c97b9_18 ⟨(show 0 + dc_ak11 + 0 ≤ KC - qn S from hlg.c), (show 0 + ds_ak11 + 0 ≤ KS - qu S from hlg.s)⟩) hR.sS (fun q _ h => hFc q h) hFc (fun r13 u9 t9 H1 locs ht9 hvm9 hw9 hB9 hz9 hk9 hS => ?_)
  have hR : Rep g ak11 A s S9 H1 locs := hR.call ht9 hB9 hR.w hS hFc
  obtain ⟨rfl, hz_r13⟩ := hw9
  clear hB9 hz9 hk9 hvm9 ht9 hS
  generalize H1 = H at hR ⊢
  refine lv_if_eq (tgt := 37) hx hb dJ5_append_c97b9_21 (by decide) (fun c15 => ?_) (fun c15 => ?_)
  · replace h := h.1 (k_eq rfl (by decide) c15)
    exact h.elim
  · replace h := h.2 (k_ne rfl (by decide) c15)
    refine lv_iload_n hx hb dJ5_append_c97b9_24 rfl (lv_at hl 3 rfl) ?_
    refine lv_iload_n hx hb dJ5_append_c97b9_25 rfl (lv_at hl 0 rfl) ?_
    refine lv_aload_n hx hb dJ5_append_c97b9_26 rfl (lv_at hl 2 rfl) ?_
    obtain ⟨hv16, h⟩ := h
    have hT_b17 : qT S9 (qO S9 p0 0) = 21 := hR.w.ref hv16 hT_p0
    refine va_get (D := rD g) (ci := 16) (v := .ref (ak11 (qO S9 p0 0))) (C := RJ4) (T := TJ4) (N := 4) hx hb hts in2J4 hown hR.K hR.P p0 (hR.atU hT_p0) rfl 0 (by decide) (hts _ kx_30) (fun _ h9 => h9) (congrArg (fun z => some (vf ak11 z)) hv16) dJ5_append_c97b9_27 ?_
    obtain ⟨Q18, h0, h⟩ := h
    have hFc := rfree hR hA
    refine va_calli (va_runS (As := [.int x1, .int a7, .ref (ak11 (qO S9 p0 0))]) (rest := []) ⟨hx, hb, hml, hown, hts⟩ (r_J6_getChars_ba4f3 l g ak11 H.size S9 x1 a7 (qO S9 p0 0) hR.w hT_b17 Q18 h0) (va_cwS 3 hts (gd2_S kx_160 kx_161 kx_158 kx_162) rfl rfl rfl (by decide +kernel) ⟨Nat.le_of_ble_eq_true rfl, Nat.le_of_ble_eq_true rfl⟩) ⟨rblind, fun U hU hW9 => rmk hU hW9 hR hex hE hFc⟩ rfl rfl hl.1 rfl (lv_room (Nat.le_of_ble_eq_true rfl)) dJ5_append_c97b9_30 ⟨(show 0 + dc_ak11 + 0 ≤ KC - qn S from hlg.c), (show 0 + ds_ak11 + 0 ≤ KS - qu S from hlg.s)⟩) hR.sS (fun q _ h => hFc q h) hFc (fun r19 S20 t9 H1 locs ht9 hvm9 hw9 hB9 hz9 hk9 hS => ?_)
    obtain ⟨hq21, hw9, hs9⟩ := hw9
    have hR : Rep g ak11 A s S20 H1 locs := hR.call ht9 hB9 hw9 hS hFc
    have hsh := hsh.tr hs9.1
    have hlg : lg S S20 (0 + dc_ak11) (0 + ds_ak11) := hlg.same hs9
    replace h := h r19 S20 hq21
    have hT_p0 := hs9.T hT_p0 (by decide)
    clear hB9 hz9 hk9 hvm9 ht9 hw9 hs9 hS
    generalize H1 = H at hR ⊢
    refine lv_pop hx hb dJ5_append_c97b9_33 rfl ?_
    refine lv_goto (tgt := 48) hx hb dJ5_append_c97b9_34 (by decide) ?_
    refine lv_aload_n hx hb dJ5_append_c97b9_48 rfl (lv_at hl 2 rfl) ?_
    refine lv_iload_n hx hb dJ5_append_c97b9_49 rfl (lv_at hl 0 rfl) ?_
    refine va_put (D := rD g) (ci := 16) (v := .int a7) (ty := .int) (C := RJ4) (T := TJ4) (N := 4) hx hb hts in2J4 tyJ4 tyJ4_ok nmJ4 hown hR.K hR.P hR.D hR.sS p0 (hR.atU hT_p0) rfl 3 (by decide) (hts _ kx_31) (fun _ h9 => h9) rfl (by decide +kernel) rfl rfl (Nat.le_of_ble_eq_true rfl) dJ5_append_c97b9_50 (fun H locs hP hD hS => ?_)
    have hR : Rep g ak11 A s (wI S20 p0 3 a7) H locs := hR.pIU hT_p0 F16_s3 hP hD hS
    obtain ⟨S22, eS22⟩ : ∃ z, z = wI S20 p0 3 a7 := ⟨_, rfl⟩
    rw [← eS22] at hR
    replace h := h S22 eS22
    have hT_p0 : qT S22 p0 = 13 := (congrArg (fun z => qT z p0) eS22).trans hT_p0
    have hsh : shx S S22 := by rw [eS22]; exact hsh
    have hlg : lg S S22 (0 + dc_ak11) (0 + ds_ak11) := by rw [eS22]; exact hlg
    refine lv_aload_n hx hb dJ5_append_c97b9_53 rfl (lv_at hl 2 rfl) ?_
    refine W_led2 (fun hLd => ?_)
    refine W.widen (k := KC - qn S) (n := KS - qu S) hlg.c hlg.s ?_
    exact W.aret (v := .ref (ak11 p0)) hx hb hr (Or.inl ⟨_, rfl⟩) (Or.inr ⟨_, rfl⟩) (fun t9 ht9 hW9 => ⟨⟨some (ak11 p0), (S22, ak11), rfl, ⟨p0, rfl, h, hR.w, hsh, hak, hT_p0⟩, ⟨⟨by rw [ht9]; exact hR.P, hR.D⟩, _, _, by rw [ht9]; exact hLd, hlg⟩⟩, hR.sS.F ht9⟩) hR.sS.2.2 dJ5_append_c97b9_54
def w_J4_append_bf812 (S : MS) (p0 : Nat) (x1 : Int32) (Q : Nat → MS → Prop) : Prop := (∃ Q1, w_J5_append_c97b9 S p0 x1 Q1 ∧ ∀ b6 S3, Q1 b6 S3 → Q p0 S3)
set_option maxHeartbeats 2000000 in
set_option maxRecDepth 100000 in
theorem r_J4_append_bf812 (l : Launch) (g : Gr) (ad : Nat → Nat) (H0 : Heap) (S : MS) (p0 : Nat) (x1 : Int32) (hw : wfM S) (hT_p0 : qT S p0 = 13) (Q : Nat → MS → Prop) (h : w_J4_append_bf812 S p0 x1 Q) : Met l yJ4_append_bf812 (wt2 yJ4_append_bf812 cJ4_append_bf812 2 (some (.object "java/lang/StringBuilder"))) ({ frames := 5, cells := KC - qn S, slots := KS - qu S, locals := 107 }) (va_Pc [.ref (ad p0), .int x1] (st_RH g ad H0 S)) (va_Qq (fun (r : Option Nat) (u : MS × (Nat → Nat)) => ∃ b : Nat, r = some (u.2 b) ∧ Q b u.1 ∧ wfM u.1 ∧ shx S u.1 ∧ adk ad u.2 S ∧ qT u.1 b = 13) (fun (u : MS × (Nat → Nat)) (t : State) => qEH g (va_A (Wd g ad S) H0.size) S H0 u t) (va_A (Wd g ad S) H0.size)) (KC - qn S) (KS - qu S) (va_A (Wd g ad S) H0.size) := by
  refine Met.ofW (cc := cJ4_append_bf812) (maxL := 2) (ret := (some (.object "java/lang/StringBuilder"))) (by decide) rfl ?_
  intro p e s m args below meth c s₁ B hml hv
  obtain ⟨rfl, hH0, hsz, hP, hK, hD0, hex, hE⟩ := hv
  have hx := B.exec
  have hb := B.bytes
  have hr := B.returns
  have hts0 := atoms_spec (ws := wt2 yJ4_append_bf812 cJ4_append_bf812 2 (some (.object "java/lang/StringBuilder"))) B.pre
  have hts : ∀ w ∈ tb2, w.before _ s = true := fun w h => hts0 w (List.mem_cons_of_mem _ h)
  have hown : s.vm.findClass RJ4 = some m.cls := findClass_of_methodNamed B.named
  subst hH0
  have hD := hD0.self (sz := s.heap.size)
  generalize hAe : va_A (Wd g ad S) s.heap.size = A at hD hE ⊢
  have hA : ∀ q : Nat, s.heap.size ≤ q → A q := fun q h => by rw [← hAe]; exact Or.inr h
  have hR : Rep g ad A s S s.heap [] := ⟨hK, hP, hD, va_S.rf, hw⟩
  clear hK hP hD hD0
  have hl := lv_entry ([.ref (ad p0), .int x1]) (n := 2) (Nat.le_of_ble_eq_true rfl)
  rw [lg_entry_eq]
  generalize (lg_sl ([.ref (ad p0), .int x1]) ++ List.replicate (2 - (lg_sl ([.ref (ad p0), .int x1])).length) Slot.unset).toArray = ls at hl ⊢
  have hlg : lg S S 0 0 := lg.rf
  have hak : adk ad ad S := adk.rf
  have hl : lv_has ls 2 [(0, .ref (ad p0)), (1, .int x1)] := hl
  have hsh : shx S S := shx.rf
  unfold w_J4_append_bf812 at h
  refine lv_aload_n hx hb dJ4_append_bf812_0 rfl (lv_at hl 0 rfl) ?_
  refine lv_iload_n hx hb dJ4_append_bf812_1 rfl (lv_at hl 1 rfl) ?_
  obtain ⟨Q1, h0, h⟩ := h
  have hFc := rfree hR hA
  refine W_led2 (fun hL0 => ?_)
  refine va_callq (va_runSU (hR.K.1 16 _ rfl).2 (As := [.int x1]) (rest := []) ⟨hx, hb, hml, hown, hts⟩ (r_J5_append_c97b9 l g ad s.heap S p0 x1 hR.w hT_p0 Q1 h0) (va_cwSU 1 hts (gd2_SU kx_163 kx_164 kx_34 kx_165 kx_36 kx_166) rfl rfl rfl (by decide +kernel) ⟨Nat.le_of_ble_eq_true rfl, Nat.le_of_ble_eq_true rfl⟩) ⟨rblindH, va_recv hR.K hR.P (ci := 16) (q0 := p0) rfl (hR.atU hT_p0), fun U hU hW9 => rmkH hU hW9 hR hex hE hFc⟩ rfl rfl hl.1 rfl (lv_room (Nat.le_of_ble_eq_true rfl)) dJ4_append_bf812_2 ⟨(show 0 + (KC - qn S) ≤ KC - qn S from hlg.cm), (show 0 + (KS - qu S) ≤ KS - qu S from hlg.sm)⟩) hR.sS (fun q _ h => hFc q h) hFc (fun r2 S3 t9 H1 locs ht9 hvm9 hw9 hB9 hz9 hk9 hS => ?_)
  rcases S3 with ⟨S3, ak5⟩
  obtain ⟨hB9, dc9, ds9, hL9, hl9⟩ := hB9
  dsimp only at hw9 hB9 hl9
  rw [ht9] at hL9
  obtain ⟨b6, rfl, hq4, hw9, hs9, hk8, hT_b6⟩ := hw9
  have hw8 := hR.w
  have hak := hak.tr hk8 hlg.2.2.1
  have hE := hE.ad hk8
  have hR : Rep g ak5 A s S3 H1 locs := hR.callH ht9 hB9 hw9 hS hFc
  have hsh := hsh.tr hs9
  refine W_tight2 (hL0.tr hL9).1 (hL0.tr hL9).2.1 ?_
  have hlg := hlg.call hl9
  replace h := h b6 S3 hq4
  have ea_0 : ak5 p0 = ad p0 := hk8 _ (hw8.hd hT_p0 (by decide) (by decide))
  have hl : lv_has ls 2 [(0, .ref (ak5 p0)), (1, .int x1)] := by simp only [ea_0]; exact hl
  have hT_p0 := hs9.T hT_p0 (by decide)
  clear hB9 hz9 hk9 hvm9 ht9 hw9 hs9 hS hL0 hL9
  generalize H1 = H at hR ⊢
  generalize dc9 = dc_ak5, ds9 = ds_ak5 at hlg ⊢
  refine lv_pop hx hb dJ4_append_bf812_5 rfl ?_
  refine lv_aload_n hx hb dJ4_append_bf812_6 rfl (lv_at hl 0 rfl) ?_
  refine W_led2 (fun hLd => ?_)
  refine W.widen (k := KC - qn S) (n := KS - qu S) hlg.c hlg.s ?_
  exact W.aret (v := .ref (ak5 p0)) hx hb hr (Or.inl ⟨_, rfl⟩) (Or.inr ⟨_, rfl⟩) (fun t9 ht9 hW9 => ⟨⟨some (ak5 p0), (S3, ak5), rfl, ⟨p0, rfl, h, hR.w, hsh, hak, hT_p0⟩, ⟨⟨by rw [ht9]; exact hR.P, hR.D⟩, _, _, by rw [ht9]; exact hLd, hlg⟩⟩, hR.sS.F ht9⟩) hR.sS.2.2 dJ4_append_bf812_7
def w_word_L2 (Q : MS → Prop) : Nat → MS → Int32 → Int32 → Prop
  | 0, _, _, _ => False
  | n2 + 1, U2, v2_1, v2_2 => ((4 ≤ v2_2.toInt → Q U2) ∧ (¬ 4 ≤ v2_2.toInt → (((0 : Int) ≤ (qI U2 0 4).toInt ∧ (qI U2 0 4).toInt < 16000) ∧ (∀ S6, S6 = wI U2 2 (((qI U2 0 4).toInt).toNat) (vp_nar .byte ((v2_1 >>> (((24 : Int32) - ((8 : Int32) * v2_2)) &&& 31)).toInt8.toInt32)) → (∀ S8, S8 = wI S6 0 4 ((qI S6 0 4) + (1 : Int32)) → (∀ a9 : Int32, a9 = (v2_2 + Int32.ofInt 1) → (w_word_L2 Q n2) S8 v2_1 a9))))))
def w_word (S : MS) (x1 : Int32) (Q : MS → Prop) : Prop := (∃ n, w_word_L2 Q n S x1 0)
set_option maxHeartbeats 2000000 in
set_option maxRecDepth 100000 in
theorem r_word (l : Launch) (g : Gr) (ad : Nat → Nat) (sz : Nat) (S : MS) (x1 : Int32) (hw : wfM S) (Q : MS → Prop) (h : w_word S x1 Q) : Met l yX14_word (wt2 yX14_word cX14_word 3 none) ({ frames := 0, cells := 0, slots := 0, locals := 0 }) (va_Pc [.ref (ad 0), .int x1] (st_R g ad sz S)) (va_Qv (fun (u : MS) => Q u ∧ wfM u ∧ shy S u) (fun (u : MS) (t : State) => qE g ad (va_A (Wd g ad S) sz) u t) (va_A (Wd g ad S) sz)) 0 0 (va_A (Wd g ad S) sz) := by
  refine Met.ofW (cc := cX14_word) (maxL := 3) (ret := none) (by decide) rfl ?_
  intro p e s m args below meth c s₁ B hml hv
  obtain ⟨rfl, hsz, hP, hK, hD0, hex, hE⟩ := hv
  have hx := B.exec
  have hb := B.bytes
  have hr := B.returns
  have hts0 := atoms_spec (ws := wt2 yX14_word cX14_word 3 none) B.pre
  have hts : ∀ w ∈ tb2, w.before _ s = true := fun w h => hts0 w (List.mem_cons_of_mem _ h)
  have hown : s.vm.findClass RX14 = some m.cls := findClass_of_methodNamed B.named
  subst hsz
  have hD := hD0.self (sz := s.heap.size)
  generalize hAe : va_A (Wd g ad S) s.heap.size = A at hD hE ⊢
  have hA : ∀ q : Nat, s.heap.size ≤ q → A q := fun q h => by rw [← hAe]; exact Or.inr h
  have hR : Rep g ad A s S s.heap [] := ⟨hK, hP, hD, va_S.rf, hw⟩
  clear hK hP hD hD0
  have hl := lv_entry ([.ref (ad 0), .int x1]) (n := 3) (Nat.le_of_ble_eq_true rfl)
  rw [lg_entry_eq]
  generalize (lg_sl ([.ref (ad 0), .int x1]) ++ List.replicate (3 - (lg_sl ([.ref (ad 0), .int x1])).length) Slot.unset).toArray = ls at hl ⊢
  have hl : lv_has ls 3 [(0, .ref (ad 0)), (1, .int x1)] := hl
  have hsh : shy S S := shy.rf
  unfold w_word at h
  refine lv_iconst (v := 0) hx hb dX14_word_0 (by decide) ?_
  refine lv_istore_n (lv' := [(2, .int 0), (0, .ref (ad 0)), (1, .int x1)]) hx hb dX14_word_1 rfl hl (by decide) rfl (fun ls hl => ?_)
  have J_2 : ∀ (n2 : Nat) (U2 : MS) (v2_1 : Int32) (v2_2 : Int32) (H : Heap) (locs : List Loc) (ls : Array Slot), w_word_L2 Q n2 U2 v2_1 v2_2 → shy S U2 → Rep g ad A s U2 H locs → lv_has ls 3 [(0, .ref (ad 0)), (1, .int v2_1), (2, .int v2_2)] → W p l e (headSpec (wt2 yX14_word cX14_word 3 none) ({ frames := 0, cells := 0, slots := 0, locals := 0 })).room s m ([.ref (ad 0), .int x1] : List Value).toArray below meth c H locs 0 0 (MQ below (va_Qv (fun (u : MS) => Q u ∧ wfM u ∧ shy S u) (fun (u : MS) (t : State) => qE g ad A u t) A) ([.ref (ad 0), .int x1] : List Value).toArray s 0 0 A) (F0 m 2 ls []) := by
    intro n2
    induction n2 with
    | zero => intro U2 v2_1 v2_2 H locs ls h hsh hR hl; unfold w_word_L2 at h; exact h.elim
    | succ n2 ih_2 =>
      intro U2 v2_1 v2_2 H locs ls h hsh hR hl
      unfold w_word_L2 at h
      refine lv_iload_n hx hb dX14_word_2 rfl (lv_at hl 2 rfl) ?_
      refine lv_iconst (v := 4) hx hb dX14_word_3 (by decide) ?_
      refine lv_icmp_ge (tgt := 42) hx hb dX14_word_4 (by decide) (fun c1 => ?_) (fun c1 => ?_)
      · replace h := h.1 (k_le (by decide) rfl c1)
        exact W.vret hx hb hr (fun t9 ht9 hW9 => ⟨⟨U2, rfl, ⟨h, hR.w, hsh⟩, ⟨by rw [ht9]; exact hR.P, hR.D⟩⟩, hR.sS.F ht9⟩) hR.sS.2.2 dX14_word_42
      · replace h := h.2 (k_nle (by decide) rfl c1)
        refine lv_aload_n hx hb dX14_word_7 rfl (lv_at hl 0 rfl) ?_
        refine va_get (D := rD g) (ci := 13) (v := .ref (ad 2)) (C := RX14) (T := TX14) (N := 143) hx hb hts in2X14 hown hR.K hR.P 0 (hR.at14 hR.w.1) rfl 3 (by decide) (hts _ kx_170) (fun _ h9 => h9) (congrArg (fun z => some (vf ad z)) (hR.w.2.1 _ fin_3).1) dX14_word_8 ?_
        refine lv_aload_n hx hb dX14_word_11 rfl (lv_at hl 0 rfl) ?_
        refine va_get (D := rD g) (ci := 13) (v := .int (qI U2 0 4)) (C := RX14) (T := TX14) (N := 143) hx hb hts in2X14 hown hR.K hR.P 0 (hR.at14 hR.w.1) rfl 4 (by decide) (hts _ kx_167) (fun _ h9 => h9) rfl dX14_word_12 ?_
        refine lv_iload_n hx hb dX14_word_15 rfl (lv_at hl 1 rfl) ?_
        refine lv_bipush (v := 24) hx hb dX14_word_16 (by decide) ?_
        refine lv_bipush (v := 8) hx hb dX14_word_18 (by decide) ?_
        refine lv_iload_n hx hb dX14_word_20 rfl (lv_at hl 2 rfl) ?_
        refine lv_imul hx hb dX14_word_21 ?_
        refine lv_topi (fun z2 ez2 => ?_)
        obtain rfl : z2 = ((8 : Int32) * v2_2) := ez2
        refine lv_isub hx hb dX14_word_22 ?_
        refine lv_topi (fun z3 ez3 => ?_)
        obtain rfl : z3 = ((24 : Int32) - ((8 : Int32) * v2_2)) := ez3
        refine lv_ishr hx hb dX14_word_23 ?_
        refine lv_topi (fun z4 ez4 => ?_)
        obtain rfl : z4 = (v2_1 >>> (((24 : Int32) - ((8 : Int32) * v2_2)) &&& 31)) := ez4
        refine lv_i2b (v := ((v2_1 >>> (((24 : Int32) - ((8 : Int32) * v2_2)) &&& 31)).toInt8.toInt32)) hx hb dX14_word_24 rfl ?_
        obtain ⟨hv5, h⟩ := h
        refine va_bast hx hb hR.K hR.P hR.D hR.sS 2 0 (hR.atB (hR.w.2.1 _ fin_3).2.1) rfl (k_ixN (k_ix (n := 16000) (x := (qI U2 0 4)) (a := (qI U2 0 4).toInt) rfl hv5) (hR.w.2.1 _ fin_3).2.2) dX14_word_25 (fun H locs hP hD hS => ?_)
        have hR : Rep g ad A s (wI U2 2 (((qI U2 0 4).toInt).toNat) (vp_nar .byte ((v2_1 >>> (((24 : Int32) - ((8 : Int32) * v2_2)) &&& 31)).toInt8.toInt32))) H locs := hR.aB (hR.w.2.1 _ fin_3).2.1 hP hD hS
        obtain ⟨S6, eS6⟩ : ∃ z, z = wI U2 2 (((qI U2 0 4).toInt).toNat) (vp_nar .byte ((v2_1 >>> (((24 : Int32) - ((8 : Int32) * v2_2)) &&& 31)).toInt8.toInt32)) := ⟨_, rfl⟩
        rw [← eS6] at hR
        replace h := h S6 eS6
        have hsh : shy S S6 := by rw [eS6]; exact hsh
        refine lv_aload_n hx hb dX14_word_26 rfl (lv_at hl 0 rfl) ?_
        refine lv_dup hx hb dX14_word_27 rfl ?_
        refine va_get (D := rD g) (ci := 13) (v := .int (qI S6 0 4)) (C := RX14) (T := TX14) (N := 143) hx hb hts in2X14 hown hR.K hR.P 0 (hR.at14 hR.w.1) rfl 4 (by decide) (hts _ kx_167) (fun _ h9 => h9) rfl dX14_word_28 ?_
        refine lv_iconst (v := 1) hx hb dX14_word_31 (by decide) ?_
        refine lv_iadd hx hb dX14_word_32 ?_
        refine lv_topi (fun z7 ez7 => ?_)
        obtain rfl : z7 = ((qI S6 0 4) + (1 : Int32)) := ez7
        refine va_put (D := rD g) (ci := 13) (v := .int ((qI S6 0 4) + (1 : Int32))) (ty := .int) (C := RX14) (T := TX14) (N := 143) hx hb hts in2X14 tyX14 tyX14_ok nmX14 hown hR.K hR.P hR.D hR.sS 0 (hR.at14 hR.w.1) rfl 4 (by decide) (hts _ kx_167) (fun _ h9 => h9) rfl (by decide +kernel) rfl rfl (Nat.le_of_ble_eq_true rfl) dX14_word_33 (fun H locs hP hD hS => ?_)
        have hR : Rep g ad A s (wI S6 0 4 ((qI S6 0 4) + (1 : Int32))) H locs := hR.pI hR.w.1 F14_s4 hP hD hS
        obtain ⟨S8, eS8⟩ : ∃ z, z = wI S6 0 4 ((qI S6 0 4) + (1 : Int32)) := ⟨_, rfl⟩
        rw [← eS8] at hR
        replace h := h S8 eS8
        have hsh : shy S S8 := by rw [eS8]; exact hsh
        obtain ⟨a9, ea9⟩ : ∃ z, z = (v2_2 + Int32.ofInt 1) := ⟨_, rfl⟩
        replace h := h a9 ea9
        refine lv_iinc (v := a9) (lv' := [(2, .int a9), (0, .ref (ad 0)), (1, .int v2_1)]) hx hb dX14_word_36 hl (k := 2) rfl ea9.symm (by decide) rfl (fun ls hl => ?_)
        refine lv_goto (tgt := 2) hx hb dX14_word_39 (by decide) ?_
        exact ih_2 S8 v2_1 a9 _ _ ls h  hsh hR (lv_sub hl [1, 2, 0] rfl)
  obtain ⟨n9, h⟩ := h
  exact J_2 n9 S x1 0 _ _ ls h  hsh hR (lv_sub hl [1, 2, 0] rfl)
def w_end (S : MS) (x1 : Int32) (Q : Int32 → MS → Prop) : Prop := ((x1.toInt < 0 → Q (0 : Int32) S) ∧ (¬ x1.toInt < 0 → ((x1.toInt ≤ (qI S 0 4).toInt → (∀ S3, S3 = wI S 0 4 x1 → Q (1 : Int32) S3)) ∧ (¬ x1.toInt ≤ (qI S 0 4).toInt → Q (0 : Int32) S))))
set_option maxHeartbeats 2000000 in
set_option maxRecDepth 100000 in
theorem r_end (l : Launch) (g : Gr) (ad : Nat → Nat) (sz : Nat) (S : MS) (x1 : Int32) (hw : wfM S) (Q : Int32 → MS → Prop) (h : w_end S x1 Q) : Met l yX14_end (wt2 yX14_end cX14_end 2 (some .boolean)) ({ frames := 0, cells := 0, slots := 0, locals := 0 }) (va_Pc [.ref (ad 0), .int x1] (st_R g ad sz S)) (va_Qi (fun (r : Int32) (u : MS) => Q r u ∧ wfM u ∧ shy S u ∧ (r = 0 ∨ r = 1)) (fun (u : MS) (t : State) => qE g ad (va_A (Wd g ad S) sz) u t) (va_A (Wd g ad S) sz)) 0 0 (va_A (Wd g ad S) sz) := by
  refine Met.ofW (cc := cX14_end) (maxL := 2) (ret := (some .boolean)) (by decide) rfl ?_
  intro p e s m args below meth c s₁ B hml hv
  obtain ⟨rfl, hsz, hP, hK, hD0, hex, hE⟩ := hv
  have hx := B.exec
  have hb := B.bytes
  have hr := B.returns
  have hts0 := atoms_spec (ws := wt2 yX14_end cX14_end 2 (some .boolean)) B.pre
  have hts : ∀ w ∈ tb2, w.before _ s = true := fun w h => hts0 w (List.mem_cons_of_mem _ h)
  have hown : s.vm.findClass RX14 = some m.cls := findClass_of_methodNamed B.named
  subst hsz
  have hD := hD0.self (sz := s.heap.size)
  generalize hAe : va_A (Wd g ad S) s.heap.size = A at hD hE ⊢
  have hA : ∀ q : Nat, s.heap.size ≤ q → A q := fun q h => by rw [← hAe]; exact Or.inr h
  have hR : Rep g ad A s S s.heap [] := ⟨hK, hP, hD, va_S.rf, hw⟩
  clear hK hP hD hD0
  have hl := lv_entry ([.ref (ad 0), .int x1]) (n := 2) (Nat.le_of_ble_eq_true rfl)
  rw [lg_entry_eq]
  generalize (lg_sl ([.ref (ad 0), .int x1]) ++ List.replicate (2 - (lg_sl ([.ref (ad 0), .int x1])).length) Slot.unset).toArray = ls at hl ⊢
  have hl : lv_has ls 2 [(0, .ref (ad 0)), (1, .int x1)] := hl
  have hsh : shy S S := shy.rf
  unfold w_end at h
  refine lv_iload_n hx hb dX14_end_0 rfl (lv_at hl 1 rfl) ?_
  refine lv_if_lt (tgt := 12) hx hb dX14_end_1 (by decide) (fun c1 => ?_) (fun c1 => ?_)
  · replace h := h.1 (k_lt rfl (by decide) c1)
    refine lv_iconst (v := 0) hx hb dX14_end_12 (by decide) ?_
    exact W.zret (v := 0) hx hb hr (nz (Or.inl rfl)) (fun t9 ht9 hW9 => ⟨⟨_, S, rfl, ⟨h, hR.w, hsh, (Or.inl rfl)⟩, ⟨by rw [ht9]; exact hR.P, hR.D⟩⟩, hR.sS.F ht9⟩) hR.sS.2.2 dX14_end_13
  · replace h := h.2 (k_nlt rfl (by decide) c1)
    refine lv_iload_n hx hb dX14_end_4 rfl (lv_at hl 1 rfl) ?_
    refine lv_aload_n hx hb dX14_end_5 rfl (lv_at hl 0 rfl) ?_
    refine va_get (D := rD g) (ci := 13) (v := .int (qI S 0 4)) (C := RX14) (T := TX14) (N := 143) hx hb hts in2X14 hown hR.K hR.P 0 (hR.at14 hR.w.1) rfl 4 (by decide) (hts _ kx_167) (fun _ h9 => h9) rfl dX14_end_6 ?_
    refine lv_icmp_le (tgt := 14) hx hb dX14_end_9 (by decide) (fun c2 => ?_) (fun c2 => ?_)
    · replace h := h.1 (k_le rfl rfl c2)
      refine lv_aload_n hx hb dX14_end_14 rfl (lv_at hl 0 rfl) ?_
      refine lv_iload_n hx hb dX14_end_15 rfl (lv_at hl 1 rfl) ?_
      refine va_put (D := rD g) (ci := 13) (v := .int x1) (ty := .int) (C := RX14) (T := TX14) (N := 143) hx hb hts in2X14 tyX14 tyX14_ok nmX14 hown hR.K hR.P hR.D hR.sS 0 (hR.at14 hR.w.1) rfl 4 (by decide) (hts _ kx_167) (fun _ h9 => h9) rfl (by decide +kernel) rfl rfl (Nat.le_of_ble_eq_true rfl) dX14_end_16 (fun H locs hP hD hS => ?_)
      have hR : Rep g ad A s (wI S 0 4 x1) H locs := hR.pI hR.w.1 F14_s4 hP hD hS
      obtain ⟨S3, eS3⟩ : ∃ z, z = wI S 0 4 x1 := ⟨_, rfl⟩
      rw [← eS3] at hR
      replace h := h S3 eS3
      have hsh : shy S S3 := by rw [eS3]; exact hsh
      refine lv_iconst (v := 1) hx hb dX14_end_19 (by decide) ?_
      exact W.zret (v := 1) hx hb hr (nz (Or.inr rfl)) (fun t9 ht9 hW9 => ⟨⟨_, S3, rfl, ⟨h, hR.w, hsh, (Or.inr rfl)⟩, ⟨by rw [ht9]; exact hR.P, hR.D⟩⟩, hR.sS.F ht9⟩) hR.sS.2.2 dX14_end_20
    · replace h := h.2 (k_nle rfl rfl c2)
      refine lv_iconst (v := 0) hx hb dX14_end_12 (by decide) ?_
      exact W.zret (v := 0) hx hb hr (nz (Or.inl rfl)) (fun t9 ht9 hW9 => ⟨⟨_, S, rfl, ⟨h, hR.w, hsh, (Or.inl rfl)⟩, ⟨by rw [ht9]; exact hR.P, hR.D⟩⟩, hR.sS.F ht9⟩) hR.sS.2.2 dX14_end_13
def w_broken (S : MS) (x1 : Int32) (x2 : Int32) (Q : Nat → MS → Prop) : Prop := (∀ S1, S1 = wI S 0 7 x1 → (∀ S2, S2 = wI S1 0 8 x2 → Q 3 S2))
set_option maxHeartbeats 2000000 in
set_option maxRecDepth 100000 in
theorem r_broken (l : Launch) (g : Gr) (ad : Nat → Nat) (sz : Nat) (S : MS) (x1 : Int32) (x2 : Int32) (hw : wfM S) (Q : Nat → MS → Prop) (h : w_broken S x1 x2 Q) : Met l yX14_broken (wt2 yX14_broken cX14_broken 3 (some (.object "java/lang/IllegalStateException"))) ({ frames := 0, cells := 0, slots := 0, locals := 0 }) (va_Pc [.ref (ad 0), .int x1, .int x2] (st_R g ad sz S)) (va_Qq (fun (r : Option Nat) (u : MS) => ∃ b : Nat, r = some (ad b) ∧ Q b u ∧ wfM u ∧ shy S u ∧ qT u b = 14) (fun (u : MS) (t : State) => qE g ad (va_A (Wd g ad S) sz) u t) (va_A (Wd g ad S) sz)) 0 0 (va_A (Wd g ad S) sz) := by
  refine Met.ofW (cc := cX14_broken) (maxL := 3) (ret := (some (.object "java/lang/IllegalStateException"))) (by decide) rfl ?_
  intro p e s m args below meth c s₁ B hml hv
  obtain ⟨rfl, hsz, hP, hK, hD0, hex, hE⟩ := hv
  have hx := B.exec
  have hb := B.bytes
  have hr := B.returns
  have hts0 := atoms_spec (ws := wt2 yX14_broken cX14_broken 3 (some (.object "java/lang/IllegalStateException"))) B.pre
  have hts : ∀ w ∈ tb2, w.before _ s = true := fun w h => hts0 w (List.mem_cons_of_mem _ h)
  have hown : s.vm.findClass RX14 = some m.cls := findClass_of_methodNamed B.named
  subst hsz
  have hD := hD0.self (sz := s.heap.size)
  generalize hAe : va_A (Wd g ad S) s.heap.size = A at hD hE ⊢
  have hA : ∀ q : Nat, s.heap.size ≤ q → A q := fun q h => by rw [← hAe]; exact Or.inr h
  have hR : Rep g ad A s S s.heap [] := ⟨hK, hP, hD, va_S.rf, hw⟩
  clear hK hP hD hD0
  have hl := lv_entry ([.ref (ad 0), .int x1, .int x2]) (n := 3) (Nat.le_of_ble_eq_true rfl)
  rw [lg_entry_eq]
  generalize (lg_sl ([.ref (ad 0), .int x1, .int x2]) ++ List.replicate (3 - (lg_sl ([.ref (ad 0), .int x1, .int x2])).length) Slot.unset).toArray = ls at hl ⊢
  have hl : lv_has ls 3 [(0, .ref (ad 0)), (1, .int x1), (2, .int x2)] := hl
  have hsh : shy S S := shy.rf
  unfold w_broken at h
  refine lv_aload_n hx hb dX14_broken_0 rfl (lv_at hl 0 rfl) ?_
  refine lv_iload_n hx hb dX14_broken_1 rfl (lv_at hl 1 rfl) ?_
  refine va_put (D := rD g) (ci := 13) (v := .int x1) (ty := .int) (C := RX14) (T := TX14) (N := 143) hx hb hts in2X14 tyX14 tyX14_ok nmX14 hown hR.K hR.P hR.D hR.sS 0 (hR.at14 hR.w.1) rfl 7 (by decide) (hts _ kx_171) (fun _ h9 => h9) rfl (by decide +kernel) rfl rfl (Nat.le_of_ble_eq_true rfl) dX14_broken_2 (fun H locs hP hD hS => ?_)
  have hR : Rep g ad A s (wI S 0 7 x1) H locs := hR.pI hR.w.1 F14_s7 hP hD hS
  obtain ⟨S1, eS1⟩ : ∃ z, z = wI S 0 7 x1 := ⟨_, rfl⟩
  rw [← eS1] at hR
  replace h := h S1 eS1
  have hsh : shy S S1 := by rw [eS1]; exact hsh
  refine lv_aload_n hx hb dX14_broken_5 rfl (lv_at hl 0 rfl) ?_
  refine lv_iload_n hx hb dX14_broken_6 rfl (lv_at hl 2 rfl) ?_
  refine va_put (D := rD g) (ci := 13) (v := .int x2) (ty := .int) (C := RX14) (T := TX14) (N := 143) hx hb hts in2X14 tyX14 tyX14_ok nmX14 hown hR.K hR.P hR.D hR.sS 0 (hR.at14 hR.w.1) rfl 8 (by decide) (hts _ kx_172) (fun _ h9 => h9) rfl (by decide +kernel) rfl rfl (Nat.le_of_ble_eq_true rfl) dX14_broken_7 (fun H locs hP hD hS => ?_)
  have hR : Rep g ad A s (wI S1 0 8 x2) H locs := hR.pI hR.w.1 F14_s8 hP hD hS
  obtain ⟨S2, eS2⟩ : ∃ z, z = wI S1 0 8 x2 := ⟨_, rfl⟩
  rw [← eS2] at hR
  replace h := h S2 eS2
  have hsh : shy S S2 := by rw [eS2]; exact hsh
  refine lv_aload_n hx hb dX14_broken_10 rfl (lv_at hl 0 rfl) ?_
  refine va_get (D := rD g) (ci := 13) (v := .ref (ad 3)) (C := RX14) (T := TX14) (N := 143) hx hb hts in2X14 hown hR.K hR.P 0 (hR.at14 hR.w.1) rfl 6 (by decide) (hts _ kx_173) (fun _ h9 => h9) (congrArg (fun z => some (vf ad z)) (hR.w.2.1 _ fin_6).1) dX14_broken_11 ?_
  exact W.aret (v := .ref (ad 3)) hx hb hr (Or.inl ⟨_, rfl⟩) (Or.inr ⟨_, rfl⟩) (fun t9 ht9 hW9 => ⟨⟨some (ad 3), S2, rfl, ⟨3, rfl, h, hR.w, hsh, (hR.w.2.1 _ fin_6).2.1⟩, ⟨by rw [ht9]; exact hR.P, hR.D⟩⟩, hR.sS.F ht9⟩) hR.sS.2.2 dX14_broken_14
def w_must (S : MS) (x1 : Int32) (x2 : Int32) (x3 : Int32) (Q : MS → Prop) (E : MS → Prop) : Prop := ((x1.toInt = 0 → (∃ Q2, w_broken S x2 x3 Q2 ∧ ∀ b6 S4, Q2 b6 S4 → E S4)) ∧ (¬ x1.toInt = 0 → Q S))
set_option maxHeartbeats 2000000 in
set_option maxRecDepth 100000 in
theorem r_must (l : Launch) (g : Gr) (ad : Nat → Nat) (sz : Nat) (S : MS) (x1 : Int32) (x2 : Int32) (x3 : Int32) (hw : wfM S) (hz_x1 : x1 = 0 ∨ x1 = 1) (Q : MS → Prop) (E : MS → Prop) (h : w_must S x1 x2 x3 Q E) : vx_Met l yX14_must (wt2 yX14_must cX14_must 4 none) ({ frames := 1, cells := 0, slots := 0, locals := 22 }) (va_Pc [.ref (ad 0), .int x1, .int x2, .int x3] (st_R g ad sz S)) (va_Qv (fun (u : MS) => Q u ∧ wfM u ∧ shy S u) (fun (u : MS) (t : State) => qE g ad (va_A (Wd g ad S) sz) u t) (va_A (Wd g ad S) sz)) (vx_X (fun (u : MS) => E u ∧ wfM u ∧ shy S u) (fun (n9 : String) (u : MS) (t : State) => n9 = RJxb5711 ∧ qE g ad (va_A (Wd g ad S) sz) u t) (va_A (Wd g ad S) sz)) 0 0 (va_A (Wd g ad S) sz) := by
  refine vx_ofW (cc := cX14_must) (maxL := 4) (ret := none) (by decide) rfl ?_
  intro p e s m args below meth c s₁ B hml hnt hv
  obtain ⟨rfl, hsz, hP, hK, hD0, hex, hE⟩ := hv
  have hx := B.exec
  have hb := B.bytes
  have hr := B.returns
  have hlocks := B.notSynchronized
  have hts0 := atoms_spec (ws := wt2 yX14_must cX14_must 4 none) B.pre
  have hts : ∀ w ∈ tb2, w.before _ s = true := fun w h => hts0 w (List.mem_cons_of_mem _ h)
  have hown : s.vm.findClass RX14 = some m.cls := findClass_of_methodNamed B.named
  subst hsz
  have hD := hD0.self (sz := s.heap.size)
  generalize hAe : va_A (Wd g ad S) s.heap.size = A at hD hE ⊢
  have hA : ∀ q : Nat, s.heap.size ≤ q → A q := fun q h => by rw [← hAe]; exact Or.inr h
  have hR : Rep g ad A s S s.heap [] := ⟨hK, hP, hD, va_S.rf, hw⟩
  clear hK hP hD hD0
  have hl := lv_entry ([.ref (ad 0), .int x1, .int x2, .int x3]) (n := 4) (Nat.le_of_ble_eq_true rfl)
  rw [lg_entry_eq]
  generalize (lg_sl ([.ref (ad 0), .int x1, .int x2, .int x3]) ++ List.replicate (4 - (lg_sl ([.ref (ad 0), .int x1, .int x2, .int x3])).length) Slot.unset).toArray = ls at hl ⊢
  have hl : lv_has ls 4 [(0, .ref (ad 0)), (1, .int x1), (2, .int x2), (3, .int x3)] := hl
  have hsh : shy S S := shy.rf
  unfold w_must at h
  refine lv_iload_n hx hb dX14_must_0 rfl (lv_at hl 1 rfl) ?_
  refine lv_if_ne (tgt := 11) hx hb dX14_must_1 (by decide) (fun c1 => ?_) (fun c1 => ?_)
  · replace h := h.2 (k_ne rfl (by decide) c1)
    exact vx_ret (W.vret hx hb hr (fun t9 ht9 hW9 => ⟨⟨S, rfl, ⟨h, hR.w, hsh⟩, ⟨by rw [ht9]; exact hR.P, hR.D⟩⟩, hR.sS.F ht9⟩) hR.sS.2.2 dX14_must_11)
  · replace h := h.1 (k_eq rfl (by decide) c1)
    refine lv_aload_n hx hb dX14_must_4 rfl (lv_at hl 0 rfl) ?_
    refine lv_iload_n hx hb dX14_must_5 rfl (lv_at hl 2 rfl) ?_
    refine lv_iload_n hx hb dX14_must_6 rfl (lv_at hl 3 rfl) ?_
    obtain ⟨Q2, h0, h⟩ := h
    have hFc := rfree hR hA
    refine va_callq (va_runV (As := [.int x2, .int x3]) (rest := []) ⟨hx, hb, hml, hown, hts⟩ (r_broken l g ad s.heap.size S x2 x3 hR.w  Q2 h0) (cwV 2 hts (gd2_V kx_174 kx_175 kx_176 kx_177 kx_178) rfl rfl rfl (by decide +kernel) ⟨Nat.le_of_ble_eq_true rfl, Nat.le_of_ble_eq_true rfl⟩) ⟨rblind, va_recv hR.K hR.P (ci := 13) (q0 := 0) rfl (hR.at14 hR.w.1), fun U hU hW9 => rmk hU hW9 hR hex hE hFc⟩ rfl rfl hl.1 rfl (lv_room (Nat.le_of_ble_eq_true rfl)) dX14_must_7 ⟨Nat.le_of_ble_eq_true rfl, Nat.le_of_ble_eq_true rfl⟩) hR.sS (fun q _ h => hFc q h) hFc (fun r3 S4 t9 H1 locs ht9 hvm9 hw9 hB9 hz9 hk9 hS => ?_)
    obtain ⟨b6, rfl, hq5, hw9, hs9, hT_b6⟩ := hw9
    have hR : Rep g ad A s S4 H1 locs := hR.call ht9 hB9 hw9 hS hFc
    have hsh := hsh.tr hs9
    replace h := h b6 S4 hq5
    clear hB9 hz9 hk9 hvm9 ht9 hw9 hs9 hS
    generalize H1 = H at hR ⊢
    obtain ⟨ce9, hce9, hcv9, hcl9⟩ := sx_cell hR.K hR.P (q0 := b6) (ci := 14) rfl (hR.atX hT_b6)
    refine sx_athrow hx hb dX14_must_10 ?_
    exact vx_out (E := RJxb5711) (q := (ad b6)) (fun x h9 => (hnt x h9).elim) hlocks hce9 hcv9 hcl9 (fun t9 ht9 ha9 => ⟨S4, ⟨h, hR.w, hsh⟩, ⟨rfl, by rw [ht9]; exact hR.P, hR.D⟩, hR.sS.F ht9⟩) hR.sS.2.2 (Nat.le_of_ble_eq_true rfl) (Nat.le_of_ble_eq_true rfl)
def f_rule (S : MS) : Int32 := (qI S 0 9)
def d_rule (S : MS) : Prop := True
set_option maxHeartbeats 2000000 in
set_option maxRecDepth 100000 in
theorem r_rule (l : Launch) (g : Gr) (ad : Nat → Nat) (sz : Nat) (S : MS) (hw : wfM S) (hd : d_rule S) : Met l yX14_rule (wt2 yX14_rule cX14_rule 1 (some .int)) ({ frames := 0, cells := 0, slots := 0, locals := 0 }) (va_Pc [.ref (ad 0)] (st_R g ad sz S)) (va_Qi (fun (r : Int32) (_ : Unit) => r = f_rule S) (fun (_ : Unit) (t : State) => qE g ad (va_A (Wd g ad S) sz) S t) (va_A (Wd g ad S) sz)) 0 0 (va_A (Wd g ad S) sz) := by
  refine Met.ofW (cc := cX14_rule) (maxL := 1) (ret := (some .int)) (by decide) rfl ?_
  intro p e s m args below meth c s₁ B hml hv
  obtain ⟨rfl, hsz, hP, hK, hD0, hex, hE⟩ := hv
  have hx := B.exec
  have hb := B.bytes
  have hr := B.returns
  have hts0 := atoms_spec (ws := wt2 yX14_rule cX14_rule 1 (some .int)) B.pre
  have hts : ∀ w ∈ tb2, w.before _ s = true := fun w h => hts0 w (List.mem_cons_of_mem _ h)
  have hown : s.vm.findClass RX14 = some m.cls := findClass_of_methodNamed B.named
  subst hsz
  have hD := hD0.self (sz := s.heap.size)
  generalize hAe : va_A (Wd g ad S) s.heap.size = A at hD hE ⊢
  have hA : ∀ q : Nat, s.heap.size ≤ q → A q := fun q h => by rw [← hAe]; exact Or.inr h
  have hR : Rep g ad A s S s.heap [] := ⟨hK, hP, hD, va_S.rf, hw⟩
  clear hK hP hD hD0
  have hl := lv_entry ([.ref (ad 0)]) (n := 1) (Nat.le_of_ble_eq_true rfl)
  rw [lg_entry_eq]
  generalize (lg_sl ([.ref (ad 0)]) ++ List.replicate (1 - (lg_sl ([.ref (ad 0)])).length) Slot.unset).toArray = ls at hl ⊢
  have hl : lv_has ls 1 [(0, .ref (ad 0))] := hl
  obtain ⟨r0, hf⟩ : ∃ r0, f_rule S = r0 := ⟨_, rfl⟩
  have hf0 := hf
  unfold f_rule at hf
  unfold d_rule at hd
  refine lv_aload_n hx hb dX14_rule_0 rfl (lv_at hl 0 rfl) ?_
  refine va_get (D := rD g) (ci := 13) (v := .int (qI S 0 9)) (C := RX14) (T := TX14) (N := 143) hx hb hts in2X14 hown hR.K hR.P 0 (hR.at14 hR.w.1) rfl 9 (by decide) (hts _ kx_179) (fun _ h9 => h9) rfl dX14_rule_1 ?_
  exact W.iret (v := (qI S 0 9)) hx hb hr (fun t9 ht9 hW9 => ⟨⟨_, (), rfl, hf.trans hf0.symm, ⟨by rw [ht9]; exact hR.P, hR.D⟩⟩, hR.sS.F ht9⟩) hR.sS.2.2 dX14_rule_4
def f_place (S : MS) : Int32 := (qI S 0 10)
def d_place (S : MS) : Prop := True
set_option maxHeartbeats 2000000 in
set_option maxRecDepth 100000 in
theorem r_place (l : Launch) (g : Gr) (ad : Nat → Nat) (sz : Nat) (S : MS) (hw : wfM S) (hd : d_place S) : Met l yX14_place (wt2 yX14_place cX14_place 1 (some .int)) ({ frames := 0, cells := 0, slots := 0, locals := 0 }) (va_Pc [.ref (ad 0)] (st_R g ad sz S)) (va_Qi (fun (r : Int32) (_ : Unit) => r = f_place S) (fun (_ : Unit) (t : State) => qE g ad (va_A (Wd g ad S) sz) S t) (va_A (Wd g ad S) sz)) 0 0 (va_A (Wd g ad S) sz) := by
  refine Met.ofW (cc := cX14_place) (maxL := 1) (ret := (some .int)) (by decide) rfl ?_
  intro p e s m args below meth c s₁ B hml hv
  obtain ⟨rfl, hsz, hP, hK, hD0, hex, hE⟩ := hv
  have hx := B.exec
  have hb := B.bytes
  have hr := B.returns
  have hts0 := atoms_spec (ws := wt2 yX14_place cX14_place 1 (some .int)) B.pre
  have hts : ∀ w ∈ tb2, w.before _ s = true := fun w h => hts0 w (List.mem_cons_of_mem _ h)
  have hown : s.vm.findClass RX14 = some m.cls := findClass_of_methodNamed B.named
  subst hsz
  have hD := hD0.self (sz := s.heap.size)
  generalize hAe : va_A (Wd g ad S) s.heap.size = A at hD hE ⊢
  have hA : ∀ q : Nat, s.heap.size ≤ q → A q := fun q h => by rw [← hAe]; exact Or.inr h
  have hR : Rep g ad A s S s.heap [] := ⟨hK, hP, hD, va_S.rf, hw⟩
  clear hK hP hD hD0
  have hl := lv_entry ([.ref (ad 0)]) (n := 1) (Nat.le_of_ble_eq_true rfl)
  rw [lg_entry_eq]
  generalize (lg_sl ([.ref (ad 0)]) ++ List.replicate (1 - (lg_sl ([.ref (ad 0)])).length) Slot.unset).toArray = ls at hl ⊢
  have hl : lv_has ls 1 [(0, .ref (ad 0))] := hl
  obtain ⟨r0, hf⟩ : ∃ r0, f_place S = r0 := ⟨_, rfl⟩
  have hf0 := hf
  unfold f_place at hf
  unfold d_place at hd
  refine lv_aload_n hx hb dX14_place_0 rfl (lv_at hl 0 rfl) ?_
  refine va_get (D := rD g) (ci := 13) (v := .int (qI S 0 10)) (C := RX14) (T := TX14) (N := 143) hx hb hts in2X14 hown hR.K hR.P 0 (hR.at14 hR.w.1) rfl 10 (by decide) (hts _ kx_180) (fun _ h9 => h9) rfl dX14_place_1 ?_
  exact W.iret (v := (qI S 0 10)) hx hb hr (fun t9 ht9 hW9 => ⟨⟨_, (), rfl, hf.trans hf0.symm, ⟨by rw [ht9]; exact hR.P, hR.D⟩⟩, hR.sS.F ht9⟩) hR.sS.2.2 dX14_place_4
def f_octet (S : MS) (x1 : Int32) : Int32 := ((qI S (qO S 0 11) x1.toInt.toNat) &&& (255 : Int32))
def d_octet (S : MS) (x1 : Int32) : Prop := ((qR S 0 11 = some (qO S 0 11)) ∧ (((0 : Int) ≤ x1.toInt ∧ x1.toInt < (qN S (qO S 0 11) : Int)) ∧ True))
set_option maxHeartbeats 2000000 in
set_option maxRecDepth 100000 in
theorem r_octet (l : Launch) (g : Gr) (ad : Nat → Nat) (sz : Nat) (S : MS) (x1 : Int32) (hw : wfM S) (hd : d_octet S x1) : Met l yX14_octet (wt2 yX14_octet cX14_octet 2 (some .int)) ({ frames := 0, cells := 0, slots := 0, locals := 0 }) (va_Pc [.ref (ad 0), .int x1] (st_R g ad sz S)) (va_Qi (fun (r : Int32) (_ : Unit) => r = f_octet S x1) (fun (_ : Unit) (t : State) => qE g ad (va_A (Wd g ad S) sz) S t) (va_A (Wd g ad S) sz)) 0 0 (va_A (Wd g ad S) sz) := by
  refine Met.ofW (cc := cX14_octet) (maxL := 2) (ret := (some .int)) (by decide) rfl ?_
  intro p e s m args below meth c s₁ B hml hv
  obtain ⟨rfl, hsz, hP, hK, hD0, hex, hE⟩ := hv
  have hx := B.exec
  have hb := B.bytes
  have hr := B.returns
  have hts0 := atoms_spec (ws := wt2 yX14_octet cX14_octet 2 (some .int)) B.pre
  have hts : ∀ w ∈ tb2, w.before _ s = true := fun w h => hts0 w (List.mem_cons_of_mem _ h)
  have hown : s.vm.findClass RX14 = some m.cls := findClass_of_methodNamed B.named
  subst hsz
  have hD := hD0.self (sz := s.heap.size)
  generalize hAe : va_A (Wd g ad S) s.heap.size = A at hD hE ⊢
  have hA : ∀ q : Nat, s.heap.size ≤ q → A q := fun q h => by rw [← hAe]; exact Or.inr h
  have hR : Rep g ad A s S s.heap [] := ⟨hK, hP, hD, va_S.rf, hw⟩
  clear hK hP hD hD0
  have hl := lv_entry ([.ref (ad 0), .int x1]) (n := 2) (Nat.le_of_ble_eq_true rfl)
  rw [lg_entry_eq]
  generalize (lg_sl ([.ref (ad 0), .int x1]) ++ List.replicate (2 - (lg_sl ([.ref (ad 0), .int x1])).length) Slot.unset).toArray = ls at hl ⊢
  have hl : lv_has ls 2 [(0, .ref (ad 0)), (1, .int x1)] := hl
  obtain ⟨r0, hf⟩ : ∃ r0, f_octet S x1 = r0 := ⟨_, rfl⟩
  have hf0 := hf
  unfold f_octet at hf
  unfold d_octet at hd
  refine lv_aload_n hx hb dX14_octet_0 rfl (lv_at hl 0 rfl) ?_
  obtain ⟨hv1, hd⟩ := hd
  have hT_b2 : qT S (qO S 0 11) = 1 := hR.w.ref hv1 hR.w.1
  refine va_get (D := rD g) (ci := 13) (v := .ref (ad (qO S 0 11))) (C := RX14) (T := TX14) (N := 143) hx hb hts in2X14 hown hR.K hR.P 0 (hR.at14 hR.w.1) rfl 11 (by decide) (hts _ kx_181) (fun _ h9 => h9) (congrArg (fun z => some (vf ad z)) hv1) dX14_octet_1 ?_
  refine lv_iload_n hx hb dX14_octet_4 rfl (lv_at hl 1 rfl) ?_
  obtain ⟨hv3, hd⟩ := hd
  refine va_bald hx hb hR.K hR.P (qO S 0 11) 0 (hR.atB hT_b2) rfl (k_ix (x := x1) (a := x1.toInt) rfl hv3) dX14_octet_5 ?_
  refine lv_topi (fun z4 ez4 => ?_)
  obtain rfl : z4 = (qI S (qO S 0 11) x1.toInt.toNat) := ez4
  refine lv_sipush (v := 255) hx hb dX14_octet_6 (by decide) ?_
  refine lv_iand hx hb dX14_octet_9 ?_
  refine lv_topi (fun z5 ez5 => ?_)
  obtain rfl : z5 = ((qI S (qO S 0 11) x1.toInt.toNat) &&& (255 : Int32)) := ez5
  exact W.iret (v := ((qI S (qO S 0 11) x1.toInt.toNat) &&& (255 : Int32))) hx hb hr (fun t9 ht9 hW9 => ⟨⟨_, (), rfl, hf.trans hf0.symm, ⟨by rw [ht9]; exact hR.P, hR.D⟩⟩, hR.sS.F ht9⟩) hR.sS.2.2 dX14_octet_10
def f_two (S : MS) (x1 : Int32) : Int32 := (((f_octet S x1) <<< ((8 : Int32) &&& 31)) ||| (f_octet S (x1 + (1 : Int32))))
def d_two (S : MS) (x1 : Int32) : Prop := (d_octet S x1 ∧ (d_octet S (x1 + (1 : Int32)) ∧ True))
set_option maxHeartbeats 2000000 in
set_option maxRecDepth 100000 in
theorem r_two (l : Launch) (g : Gr) (ad : Nat → Nat) (sz : Nat) (S : MS) (x1 : Int32) (hw : wfM S) (hd : d_two S x1) : Met l yX14_two (wt2 yX14_two cX14_two 2 (some .int)) ({ frames := 1, cells := 0, slots := 0, locals := 21 }) (va_Pc [.ref (ad 0), .int x1] (st_R g ad sz S)) (va_Qi (fun (r : Int32) (_ : Unit) => r = f_two S x1) (fun (_ : Unit) (t : State) => qE g ad (va_A (Wd g ad S) sz) S t) (va_A (Wd g ad S) sz)) 0 0 (va_A (Wd g ad S) sz) := by
  refine Met.ofW (cc := cX14_two) (maxL := 2) (ret := (some .int)) (by decide) rfl ?_
  intro p e s m args below meth c s₁ B hml hv
  obtain ⟨rfl, hsz, hP, hK, hD0, hex, hE⟩ := hv
  have hx := B.exec
  have hb := B.bytes
  have hr := B.returns
  have hts0 := atoms_spec (ws := wt2 yX14_two cX14_two 2 (some .int)) B.pre
  have hts : ∀ w ∈ tb2, w.before _ s = true := fun w h => hts0 w (List.mem_cons_of_mem _ h)
  have hown : s.vm.findClass RX14 = some m.cls := findClass_of_methodNamed B.named
  subst hsz
  have hD := hD0.self (sz := s.heap.size)
  generalize hAe : va_A (Wd g ad S) s.heap.size = A at hD hE ⊢
  have hA : ∀ q : Nat, s.heap.size ≤ q → A q := fun q h => by rw [← hAe]; exact Or.inr h
  have hR : Rep g ad A s S s.heap [] := ⟨hK, hP, hD, va_S.rf, hw⟩
  clear hK hP hD hD0
  have hl := lv_entry ([.ref (ad 0), .int x1]) (n := 2) (Nat.le_of_ble_eq_true rfl)
  rw [lg_entry_eq]
  generalize (lg_sl ([.ref (ad 0), .int x1]) ++ List.replicate (2 - (lg_sl ([.ref (ad 0), .int x1])).length) Slot.unset).toArray = ls at hl ⊢
  have hl : lv_has ls 2 [(0, .ref (ad 0)), (1, .int x1)] := hl
  obtain ⟨r0, hf⟩ : ∃ r0, f_two S x1 = r0 := ⟨_, rfl⟩
  have hf0 := hf
  unfold f_two at hf
  unfold d_two at hd
  refine lv_aload_n hx hb dX14_two_0 rfl (lv_at hl 0 rfl) ?_
  refine lv_iload_n hx hb dX14_two_1 rfl (lv_at hl 1 rfl) ?_
  obtain ⟨hv1, hd⟩ := hd
  have hFc := rfree hR hA
  refine va_calli (va_runV (As := [.int x1]) (rest := []) ⟨hx, hb, hml, hown, hts⟩ (r_octet l g ad s.heap.size S x1 hR.w  hv1) (cwV 1 hts (gd2_V kx_182 kx_183 kx_184 kx_177 kx_185) rfl rfl rfl (by decide +kernel) ⟨Nat.le_of_ble_eq_true rfl, Nat.le_of_ble_eq_true rfl⟩) ⟨rblind, va_recv hR.K hR.P (ci := 13) (q0 := 0) rfl (hR.at14 hR.w.1), fun U hU hW9 => rmk hU hW9 hR hex hE hFc⟩ rfl rfl hl.1 rfl (lv_room (Nat.le_of_ble_eq_true rfl)) dX14_two_2 ⟨Nat.le_of_ble_eq_true rfl, Nat.le_of_ble_eq_true rfl⟩) hR.sS (fun q _ h => hFc q h) hFc (fun r2 u9 t9 H1 locs ht9 hvm9 hw9 hB9 hz9 hk9 hS => ?_)
  have hR : Rep g ad A s S H1 locs := hR.call ht9 hB9 hR.w hS hFc
  obtain rfl : r2 = (f_octet S x1) := hw9
  clear hB9 hz9 hk9 hvm9 ht9 hS
  generalize H1 = H at hR ⊢
  refine lv_bipush (v := 8) hx hb dX14_two_5 (by decide) ?_
  refine lv_ishl hx hb dX14_two_7 ?_
  refine lv_topi (fun z4 ez4 => ?_)
  obtain rfl : z4 = ((f_octet S x1) <<< ((8 : Int32) &&& 31)) := ez4
  refine lv_aload_n hx hb dX14_two_8 rfl (lv_at hl 0 rfl) ?_
  refine lv_iload_n hx hb dX14_two_9 rfl (lv_at hl 1 rfl) ?_
  refine lv_iconst (v := 1) hx hb dX14_two_10 (by decide) ?_
  refine lv_iadd hx hb dX14_two_11 ?_
  refine lv_topi (fun z5 ez5 => ?_)
  obtain rfl : z5 = (x1 + (1 : Int32)) := ez5
  obtain ⟨hv6, hd⟩ := hd
  have hFc := rfree hR hA
  refine va_calli (va_runV (As := [.int (x1 + (1 : Int32))]) (rest := [.int ((f_octet S x1) <<< ((8 : Int32) &&& 31))]) ⟨hx, hb, hml, hown, hts⟩ (r_octet l g ad H.size S (x1 + (1 : Int32)) hR.w  hv6) (cwV 1 hts (gd2_V kx_182 kx_183 kx_184 kx_177 kx_185) rfl rfl rfl (by decide +kernel) ⟨Nat.le_of_ble_eq_true rfl, Nat.le_of_ble_eq_true rfl⟩) ⟨rblind, va_recv hR.K hR.P (ci := 13) (q0 := 0) rfl (hR.at14 hR.w.1), fun U hU hW9 => rmk hU hW9 hR hex hE hFc⟩ rfl rfl hl.1 rfl (lv_room (Nat.le_of_ble_eq_true rfl)) dX14_two_12 ⟨Nat.le_of_ble_eq_true rfl, Nat.le_of_ble_eq_true rfl⟩) hR.sS (fun q _ h => hFc q h) hFc (fun r7 u9 t9 H1 locs ht9 hvm9 hw9 hB9 hz9 hk9 hS => ?_)
  have hR : Rep g ad A s S H1 locs := hR.call ht9 hB9 hR.w hS hFc
  obtain rfl : r7 = (f_octet S (x1 + (1 : Int32))) := hw9
  clear hB9 hz9 hk9 hvm9 ht9 hS
  generalize H1 = H at hR ⊢
  refine lv_ior hx hb dX14_two_15 ?_
  refine lv_topi (fun z9 ez9 => ?_)
  obtain rfl : z9 = (((f_octet S x1) <<< ((8 : Int32) &&& 31)) ||| (f_octet S (x1 + (1 : Int32)))) := ez9
  exact W.iret (v := (((f_octet S x1) <<< ((8 : Int32) &&& 31)) ||| (f_octet S (x1 + (1 : Int32))))) hx hb hr (fun t9 ht9 hW9 => ⟨⟨_, (), rfl, hf.trans hf0.symm, ⟨by rw [ht9]; exact hR.P, hR.D⟩⟩, hR.sS.F ht9⟩) hR.sS.2.2 dX14_two_16
def f_four (S : MS) (x1 : Int32) : Int32 := (((f_two S x1) <<< ((16 : Int32) &&& 31)) ||| (f_two S (x1 + (2 : Int32))))
def d_four (S : MS) (x1 : Int32) : Prop := (d_two S x1 ∧ (d_two S (x1 + (2 : Int32)) ∧ True))
set_option maxHeartbeats 2000000 in
set_option maxRecDepth 100000 in
theorem r_four (l : Launch) (g : Gr) (ad : Nat → Nat) (sz : Nat) (S : MS) (x1 : Int32) (hw : wfM S) (hd : d_four S x1) : Met l yX14_four (wt2 yX14_four cX14_four 2 (some .int)) ({ frames := 2, cells := 0, slots := 0, locals := 42 }) (va_Pc [.ref (ad 0), .int x1] (st_R g ad sz S)) (va_Qi (fun (r : Int32) (_ : Unit) => r = f_four S x1) (fun (_ : Unit) (t : State) => qE g ad (va_A (Wd g ad S) sz) S t) (va_A (Wd g ad S) sz)) 0 0 (va_A (Wd g ad S) sz) := by
  refine Met.ofW (cc := cX14_four) (maxL := 2) (ret := (some .int)) (by decide) rfl ?_
  intro p e s m args below meth c s₁ B hml hv
  obtain ⟨rfl, hsz, hP, hK, hD0, hex, hE⟩ := hv
  have hx := B.exec
  have hb := B.bytes
  have hr := B.returns
  have hts0 := atoms_spec (ws := wt2 yX14_four cX14_four 2 (some .int)) B.pre
  have hts : ∀ w ∈ tb2, w.before _ s = true := fun w h => hts0 w (List.mem_cons_of_mem _ h)
  have hown : s.vm.findClass RX14 = some m.cls := findClass_of_methodNamed B.named
  subst hsz
  have hD := hD0.self (sz := s.heap.size)
  generalize hAe : va_A (Wd g ad S) s.heap.size = A at hD hE ⊢
  have hA : ∀ q : Nat, s.heap.size ≤ q → A q := fun q h => by rw [← hAe]; exact Or.inr h
  have hR : Rep g ad A s S s.heap [] := ⟨hK, hP, hD, va_S.rf, hw⟩
  clear hK hP hD hD0
  have hl := lv_entry ([.ref (ad 0), .int x1]) (n := 2) (Nat.le_of_ble_eq_true rfl)
  rw [lg_entry_eq]
  generalize (lg_sl ([.ref (ad 0), .int x1]) ++ List.replicate (2 - (lg_sl ([.ref (ad 0), .int x1])).length) Slot.unset).toArray = ls at hl ⊢
  have hl : lv_has ls 2 [(0, .ref (ad 0)), (1, .int x1)] := hl
  obtain ⟨r0, hf⟩ : ∃ r0, f_four S x1 = r0 := ⟨_, rfl⟩
  have hf0 := hf
  unfold f_four at hf
  unfold d_four at hd
  refine lv_aload_n hx hb dX14_four_0 rfl (lv_at hl 0 rfl) ?_
  refine lv_iload_n hx hb dX14_four_1 rfl (lv_at hl 1 rfl) ?_
  obtain ⟨hv1, hd⟩ := hd
  have hFc := rfree hR hA
  refine va_calli (va_runV (As := [.int x1]) (rest := []) ⟨hx, hb, hml, hown, hts⟩ (r_two l g ad s.heap.size S x1 hR.w  hv1) (cwV 1 hts (gd2_V kx_186 kx_187 kx_188 kx_177 kx_189) rfl rfl rfl (by decide +kernel) ⟨Nat.le_of_ble_eq_true rfl, Nat.le_of_ble_eq_true rfl⟩) ⟨rblind, va_recv hR.K hR.P (ci := 13) (q0 := 0) rfl (hR.at14 hR.w.1), fun U hU hW9 => rmk hU hW9 hR hex hE hFc⟩ rfl rfl hl.1 rfl (lv_room (Nat.le_of_ble_eq_true rfl)) dX14_four_2 ⟨Nat.le_of_ble_eq_true rfl, Nat.le_of_ble_eq_true rfl⟩) hR.sS (fun q _ h => hFc q h) hFc (fun r2 u9 t9 H1 locs ht9 hvm9 hw9 hB9 hz9 hk9 hS => ?_)
  have hR : Rep g ad A s S H1 locs := hR.call ht9 hB9 hR.w hS hFc
  obtain rfl : r2 = (f_two S x1) := hw9
  clear hB9 hz9 hk9 hvm9 ht9 hS
  generalize H1 = H at hR ⊢
  refine lv_bipush (v := 16) hx hb dX14_four_5 (by decide) ?_
  refine lv_ishl hx hb dX14_four_7 ?_
  refine lv_topi (fun z4 ez4 => ?_)
  obtain rfl : z4 = ((f_two S x1) <<< ((16 : Int32) &&& 31)) := ez4
  refine lv_aload_n hx hb dX14_four_8 rfl (lv_at hl 0 rfl) ?_
  refine lv_iload_n hx hb dX14_four_9 rfl (lv_at hl 1 rfl) ?_
  refine lv_iconst (v := 2) hx hb dX14_four_10 (by decide) ?_
  refine lv_iadd hx hb dX14_four_11 ?_
  refine lv_topi (fun z5 ez5 => ?_)
  obtain rfl : z5 = (x1 + (2 : Int32)) := ez5
  obtain ⟨hv6, hd⟩ := hd
  have hFc := rfree hR hA
  refine va_calli (va_runV (As := [.int (x1 + (2 : Int32))]) (rest := [.int ((f_two S x1) <<< ((16 : Int32) &&& 31))]) ⟨hx, hb, hml, hown, hts⟩ (r_two l g ad H.size S (x1 + (2 : Int32)) hR.w  hv6) (cwV 1 hts (gd2_V kx_186 kx_187 kx_188 kx_177 kx_189) rfl rfl rfl (by decide +kernel) ⟨Nat.le_of_ble_eq_true rfl, Nat.le_of_ble_eq_true rfl⟩) ⟨rblind, va_recv hR.K hR.P (ci := 13) (q0 := 0) rfl (hR.at14 hR.w.1), fun U hU hW9 => rmk hU hW9 hR hex hE hFc⟩ rfl rfl hl.1 rfl (lv_room (Nat.le_of_ble_eq_true rfl)) dX14_four_12 ⟨Nat.le_of_ble_eq_true rfl, Nat.le_of_ble_eq_true rfl⟩) hR.sS (fun q _ h => hFc q h) hFc (fun r7 u9 t9 H1 locs ht9 hvm9 hw9 hB9 hz9 hk9 hS => ?_)
  have hR : Rep g ad A s S H1 locs := hR.call ht9 hB9 hR.w hS hFc
  obtain rfl : r7 = (f_two S (x1 + (2 : Int32))) := hw9
  clear hB9 hz9 hk9 hvm9 ht9 hS
  generalize H1 = H at hR ⊢
  refine lv_ior hx hb dX14_four_15 ?_
  refine lv_topi (fun z9 ez9 => ?_)
  obtain rfl : z9 = (((f_two S x1) <<< ((16 : Int32) &&& 31)) ||| (f_two S (x1 + (2 : Int32)))) := ez9
  exact W.iret (v := (((f_two S x1) <<< ((16 : Int32) &&& 31)) ||| (f_two S (x1 + (2 : Int32))))) hx hb hr (fun t9 ht9 hW9 => ⟨⟨_, (), rfl, hf.trans hf0.symm, ⟨by rw [ht9]; exact hR.P, hR.D⟩⟩, hR.sS.F ht9⟩) hR.sS.2.2 dX14_four_16
def w_over (S : MS) (y1 : Int64) (Q : Int32 → MS → Prop) (E : MS → Prop) : Prop := (((lg_cmp (((qI S 0 13).toInt64) + y1) ((qI S 0 12).toInt64)).toInt ≤ 0 → (∀ a4 : Int32, a4 = (qI S 0 13) → (∀ S6, S6 = wI S 0 13 ((qI S 0 13) + (y1.toInt32)) → Q a4 S6))) ∧ (¬ (lg_cmp (((qI S 0 13).toInt64) + y1) ((qI S 0 12).toInt64)).toInt ≤ 0 → (∃ Q7, w_broken S (2 : Int32) (qI S 0 12) Q7 ∧ ∀ b11 S9, Q7 b11 S9 → E S9)))
set_option maxHeartbeats 2000000 in
set_option maxRecDepth 100000 in
theorem r_over (l : Launch) (g : Gr) (ad : Nat → Nat) (sz : Nat) (S : MS) (y1 : Int64) (hw : wfM S) (Q : Int32 → MS → Prop) (E : MS → Prop) (h : w_over S y1 Q E) : vx_Met l yX14_over (wt2 yX14_over cX14_over 4 (some .int)) ({ frames := 1, cells := 0, slots := 0, locals := 22 }) (va_Pc [.ref (ad 0), .long y1] (st_R g ad sz S)) (va_Qi (fun (r : Int32) (u : MS) => Q r u ∧ wfM u ∧ shy S u) (fun (u : MS) (t : State) => qE g ad (va_A (Wd g ad S) sz) u t) (va_A (Wd g ad S) sz)) (vx_X (fun (u : MS) => E u ∧ wfM u ∧ shy S u) (fun (n9 : String) (u : MS) (t : State) => n9 = RJxb5711 ∧ qE g ad (va_A (Wd g ad S) sz) u t) (va_A (Wd g ad S) sz)) 0 0 (va_A (Wd g ad S) sz) := by
  refine vx_ofW (cc := cX14_over) (maxL := 4) (ret := (some .int)) (by decide) rfl ?_
  intro p e s m args below meth c s₁ B hml hnt hv
  obtain ⟨rfl, hsz, hP, hK, hD0, hex, hE⟩ := hv
  have hx := B.exec
  have hb := B.bytes
  have hr := B.returns
  have hlocks := B.notSynchronized
  have hts0 := atoms_spec (ws := wt2 yX14_over cX14_over 4 (some .int)) B.pre
  have hts : ∀ w ∈ tb2, w.before _ s = true := fun w h => hts0 w (List.mem_cons_of_mem _ h)
  have hown : s.vm.findClass RX14 = some m.cls := findClass_of_methodNamed B.named
  subst hsz
  have hD := hD0.self (sz := s.heap.size)
  generalize hAe : va_A (Wd g ad S) s.heap.size = A at hD hE ⊢
  have hA : ∀ q : Nat, s.heap.size ≤ q → A q := fun q h => by rw [← hAe]; exact Or.inr h
  have hR : Rep g ad A s S s.heap [] := ⟨hK, hP, hD, va_S.rf, hw⟩
  clear hK hP hD hD0
  have hl := lv_entry ([.ref (ad 0), .long y1]) (n := 4) (Nat.le_of_ble_eq_true rfl)
  rw [lg_entry_eq]
  generalize (lg_sl ([.ref (ad 0), .long y1]) ++ List.replicate (4 - (lg_sl ([.ref (ad 0), .long y1])).length) Slot.unset).toArray = ls at hl ⊢
  have hl : lv_has ls 4 [(0, .ref (ad 0)), (1, .long y1)] := hl
  have hsh : shy S S := shy.rf
  unfold w_over at h
  refine lv_aload_n hx hb dX14_over_0 rfl (lv_at hl 0 rfl) ?_
  refine va_get (D := rD g) (ci := 13) (v := .int (qI S 0 13)) (C := RX14) (T := TX14) (N := 143) hx hb hts in2X14 hown hR.K hR.P 0 (hR.at14 hR.w.1) rfl 13 (by decide) (hts _ kx_190) (fun _ h9 => h9) rfl dX14_over_1 ?_
  refine lv_i2l (v := ((qI S 0 13).toInt64)) hx hb dX14_over_4 rfl ?_
  refine lv_lload_n hx hb dX14_over_5 rfl (lv_at hl 1 rfl) ?_
  refine lv_ladd hx hb dX14_over_6 ?_
  refine lv_topl (fun z1 ez1 => ?_)
  obtain rfl : z1 = (((qI S 0 13).toInt64) + y1) := ez1
  refine lv_aload_n hx hb dX14_over_7 rfl (lv_at hl 0 rfl) ?_
  refine va_get (D := rD g) (ci := 13) (v := .int (qI S 0 12)) (C := RX14) (T := TX14) (N := 143) hx hb hts in2X14 hown hR.K hR.P 0 (hR.at14 hR.w.1) rfl 12 (by decide) (hts _ kx_191) (fun _ h9 => h9) rfl dX14_over_8 ?_
  refine lv_i2l (v := ((qI S 0 12).toInt64)) hx hb dX14_over_11 rfl ?_
  refine W.lcmp hx hb dX14_over_12 ?_
  refine lv_topi (fun z2 ez2 => ?_)
  obtain rfl : z2 = (lg_cmp (((qI S 0 13).toInt64) + y1) ((qI S 0 12).toInt64)) := ez2
  refine lv_if_le (tgt := 26) hx hb dX14_over_13 (by decide) (fun c3 => ?_) (fun c3 => ?_)
  · replace h := h.1 (k_le rfl (by decide) c3)
    refine lv_aload_n hx hb dX14_over_26 rfl (lv_at hl 0 rfl) ?_
    refine va_get (D := rD g) (ci := 13) (v := .int (qI S 0 13)) (C := RX14) (T := TX14) (N := 143) hx hb hts in2X14 hown hR.K hR.P 0 (hR.at14 hR.w.1) rfl 13 (by decide) (hts _ kx_190) (fun _ h9 => h9) rfl dX14_over_27 ?_
    obtain ⟨a4, ea4⟩ : ∃ z, z = (qI S 0 13) := ⟨_, rfl⟩
    rw [← ea4]
    replace h := h a4 ea4
    refine lv_istore_n (lv' := [(3, .int a4), (0, .ref (ad 0)), (1, .long y1)]) hx hb dX14_over_30 rfl hl (by decide) rfl (fun ls hl => ?_)
    refine lv_aload_n hx hb dX14_over_31 rfl (lv_at hl 1 rfl) ?_
    refine lv_dup hx hb dX14_over_32 rfl ?_
    refine va_get (D := rD g) (ci := 13) (v := .int (qI S 0 13)) (C := RX14) (T := TX14) (N := 143) hx hb hts in2X14 hown hR.K hR.P 0 (hR.at14 hR.w.1) rfl 13 (by decide) (hts _ kx_190) (fun _ h9 => h9) rfl dX14_over_33 ?_
    refine lv_lload_n hx hb dX14_over_36 rfl (lv_at hl 2 rfl) ?_
    refine lv_l2i (v := (y1.toInt32)) hx hb dX14_over_37 rfl ?_
    refine lv_iadd hx hb dX14_over_38 ?_
    refine lv_topi (fun z5 ez5 => ?_)
    obtain rfl : z5 = ((qI S 0 13) + (y1.toInt32)) := ez5
    refine va_put (D := rD g) (ci := 13) (v := .int ((qI S 0 13) + (y1.toInt32))) (ty := .int) (C := RX14) (T := TX14) (N := 143) hx hb hts in2X14 tyX14 tyX14_ok nmX14 hown hR.K hR.P hR.D hR.sS 0 (hR.at14 hR.w.1) rfl 13 (by decide) (hts _ kx_190) (fun _ h9 => h9) rfl (by decide +kernel) rfl rfl (Nat.le_of_ble_eq_true rfl) dX14_over_39 (fun H locs hP hD hS => ?_)
    have hR : Rep g ad A s (wI S 0 13 ((qI S 0 13) + (y1.toInt32))) H locs := hR.pI hR.w.1 F14_s13 hP hD hS
    obtain ⟨S6, eS6⟩ : ∃ z, z = wI S 0 13 ((qI S 0 13) + (y1.toInt32)) := ⟨_, rfl⟩
    rw [← eS6] at hR
    replace h := h S6 eS6
    have hsh : shy S S6 := by rw [eS6]; exact hsh
    refine lv_iload_n hx hb dX14_over_42 rfl (lv_at hl 0 rfl) ?_
    exact vx_ret (W.iret (v := a4) hx hb hr (fun t9 ht9 hW9 => ⟨⟨_, S6, rfl, ⟨h, hR.w, hsh⟩, ⟨by rw [ht9]; exact hR.P, hR.D⟩⟩, hR.sS.F ht9⟩) hR.sS.2.2 dX14_over_43)
  · replace h := h.2 (k_nle rfl (by decide) c3)
    refine lv_aload_n hx hb dX14_over_16 rfl (lv_at hl 0 rfl) ?_
    refine lv_iconst (v := 2) hx hb dX14_over_17 (by decide) ?_
    refine lv_aload_n hx hb dX14_over_18 rfl (lv_at hl 0 rfl) ?_
    refine va_get (D := rD g) (ci := 13) (v := .int (qI S 0 12)) (C := RX14) (T := TX14) (N := 143) hx hb hts in2X14 hown hR.K hR.P 0 (hR.at14 hR.w.1) rfl 12 (by decide) (hts _ kx_191) (fun _ h9 => h9) rfl dX14_over_19 ?_
    obtain ⟨Q7, h0, h⟩ := h
    have hFc := rfree hR hA
    refine va_callq (va_runV (As := [.int 2, .int (qI S 0 12)]) (rest := []) ⟨hx, hb, hml, hown, hts⟩ (r_broken l g ad s.heap.size S (2 : Int32) (qI S 0 12) hR.w  Q7 h0) (cwV 2 hts (gd2_V kx_174 kx_175 kx_176 kx_177 kx_178) rfl rfl rfl (by decide +kernel) ⟨Nat.le_of_ble_eq_true rfl, Nat.le_of_ble_eq_true rfl⟩) ⟨rblind, va_recv hR.K hR.P (ci := 13) (q0 := 0) rfl (hR.at14 hR.w.1), fun U hU hW9 => rmk hU hW9 hR hex hE hFc⟩ rfl rfl hl.1 rfl (lv_room (Nat.le_of_ble_eq_true rfl)) dX14_over_22 ⟨Nat.le_of_ble_eq_true rfl, Nat.le_of_ble_eq_true rfl⟩) hR.sS (fun q _ h => hFc q h) hFc (fun r8 S9 t9 H1 locs ht9 hvm9 hw9 hB9 hz9 hk9 hS => ?_)
    obtain ⟨b11, rfl, hq10, hw9, hs9, hT_b11⟩ := hw9
    have hR : Rep g ad A s S9 H1 locs := hR.call ht9 hB9 hw9 hS hFc
    have hsh := hsh.tr hs9
    replace h := h b11 S9 hq10
    clear hB9 hz9 hk9 hvm9 ht9 hw9 hs9 hS
    generalize H1 = H at hR ⊢
    obtain ⟨ce9, hce9, hcv9, hcl9⟩ := sx_cell hR.K hR.P (q0 := b11) (ci := 14) rfl (hR.atX hT_b11)
    refine sx_athrow hx hb dX14_over_25 ?_
    exact vx_out (E := RJxb5711) (q := (ad b11)) (fun x h9 => (hnt x h9).elim) hlocks hce9 hcv9 hcl9 (fun t9 ht9 ha9 => ⟨S9, ⟨h, hR.w, hsh⟩, ⟨rfl, by rw [ht9]; exact hR.P, hR.D⟩, hR.sS.F ht9⟩) hR.sS.2.2 (Nat.le_of_ble_eq_true rfl) (Nat.le_of_ble_eq_true rfl)
def f_headByte (S : MS) (x0 : Int32) : Int32 := (if x0.toInt = 0 then (202 : Int32) else (if x0.toInt = 1 then (254 : Int32) else (if x0.toInt = 2 then (186 : Int32) else (if x0.toInt = 3 then (190 : Int32) else (if x0.toInt = 7 then (49 : Int32) else (0 : Int32))))))
def d_headByte (S : MS) (x0 : Int32) : Prop := True
set_option maxHeartbeats 2000000 in
set_option maxRecDepth 100000 in
theorem r_headByte (l : Launch) (g : Gr) (ad : Nat → Nat) (sz : Nat) (S : MS) (x0 : Int32) (hw : wfM S) (hd : d_headByte S x0) : Met l yX14_headByte (wt2 yX14_headByte cX14_headByte 1 (some .int)) ({ frames := 0, cells := 0, slots := 0, locals := 0 }) (va_Pc [.int x0] (st_R g ad sz S)) (va_Qi (fun (r : Int32) (_ : Unit) => r = f_headByte S x0) (fun (_ : Unit) (t : State) => qE g ad (va_A (Wd g ad S) sz) S t) (va_A (Wd g ad S) sz)) 0 0 (va_A (Wd g ad S) sz) := by
  refine Met.ofW (cc := cX14_headByte) (maxL := 1) (ret := (some .int)) (by decide) rfl ?_
  intro p e s m args below meth c s₁ B hml hv
  obtain ⟨rfl, hsz, hP, hK, hD0, hex, hE⟩ := hv
  have hx := B.exec
  have hb := B.bytes
  have hr := B.returns
  have hts0 := atoms_spec (ws := wt2 yX14_headByte cX14_headByte 1 (some .int)) B.pre
  have hts : ∀ w ∈ tb2, w.before _ s = true := fun w h => hts0 w (List.mem_cons_of_mem _ h)
  have hown : s.vm.findClass RX14 = some m.cls := findClass_of_methodNamed B.named
  subst hsz
  have hD := hD0.self (sz := s.heap.size)
  generalize hAe : va_A (Wd g ad S) s.heap.size = A at hD hE ⊢
  have hA : ∀ q : Nat, s.heap.size ≤ q → A q := fun q h => by rw [← hAe]; exact Or.inr h
  have hR : Rep g ad A s S s.heap [] := ⟨hK, hP, hD, va_S.rf, hw⟩
  clear hK hP hD hD0
  have hl := lv_entry ([.int x0]) (n := 1) (Nat.le_of_ble_eq_true rfl)
  rw [lg_entry_eq]
  generalize (lg_sl ([.int x0]) ++ List.replicate (1 - (lg_sl ([.int x0])).length) Slot.unset).toArray = ls at hl ⊢
  have hl : lv_has ls 1 [(0, .int x0)] := hl
  obtain ⟨r0, hf⟩ : ∃ r0, f_headByte S x0 = r0 := ⟨_, rfl⟩
  have hf0 := hf
  unfold f_headByte at hf
  unfold d_headByte at hd
  refine lv_iload_n hx hb dX14_headByte_0 rfl (lv_at hl 0 rfl) ?_
  refine lv_if_ne (tgt := 10) hx hb dX14_headByte_1 (by decide) (fun c1 => ?_) (fun c1 => ?_)
  · rw [if_neg (k_ne rfl (by decide) c1)] at hf
    (try rw [if_neg (k_ne rfl (by decide) c1)] at hd)
    refine lv_iload_n hx hb dX14_headByte_10 rfl (lv_at hl 0 rfl) ?_
    refine lv_iconst (v := 1) hx hb dX14_headByte_11 (by decide) ?_
    refine lv_icmp_ne (tgt := 21) hx hb dX14_headByte_12 (by decide) (fun c2 => ?_) (fun c2 => ?_)
    · rw [if_neg (k_ne rfl (by decide) c2)] at hf
      (try rw [if_neg (k_ne rfl (by decide) c2)] at hd)
      refine lv_iload_n hx hb dX14_headByte_21 rfl (lv_at hl 0 rfl) ?_
      refine lv_iconst (v := 2) hx hb dX14_headByte_22 (by decide) ?_
      refine lv_icmp_ne (tgt := 32) hx hb dX14_headByte_23 (by decide) (fun c3 => ?_) (fun c3 => ?_)
      · rw [if_neg (k_ne rfl (by decide) c3)] at hf
        (try rw [if_neg (k_ne rfl (by decide) c3)] at hd)
        refine lv_iload_n hx hb dX14_headByte_32 rfl (lv_at hl 0 rfl) ?_
        refine lv_iconst (v := 3) hx hb dX14_headByte_33 (by decide) ?_
        refine lv_icmp_ne (tgt := 43) hx hb dX14_headByte_34 (by decide) (fun c4 => ?_) (fun c4 => ?_)
        · rw [if_neg (k_ne rfl (by decide) c4)] at hf
          (try rw [if_neg (k_ne rfl (by decide) c4)] at hd)
          refine lv_iload_n hx hb dX14_headByte_43 rfl (lv_at hl 0 rfl) ?_
          refine lv_bipush (v := 7) hx hb dX14_headByte_44 (by decide) ?_
          refine lv_icmp_ne (tgt := 54) hx hb dX14_headByte_46 (by decide) (fun c5 => ?_) (fun c5 => ?_)
          · rw [if_neg (k_ne rfl (by decide) c5)] at hf
            (try rw [if_neg (k_ne rfl (by decide) c5)] at hd)
            refine lv_iconst (v := 0) hx hb dX14_headByte_54 (by decide) ?_
            exact W.iret (v := 0) hx hb hr (fun t9 ht9 hW9 => ⟨⟨_, (), rfl, hf.trans hf0.symm, ⟨by rw [ht9]; exact hR.P, hR.D⟩⟩, hR.sS.F ht9⟩) hR.sS.2.2 dX14_headByte_55
          · rw [if_pos (k_eq rfl (by decide) c5)] at hf
            (try rw [if_pos (k_eq rfl (by decide) c5)] at hd)
            refine lv_bipush (v := 49) hx hb dX14_headByte_49 (by decide) ?_
            refine lv_goto (tgt := 55) hx hb dX14_headByte_51 (by decide) ?_
            exact W.iret (v := 49) hx hb hr (fun t9 ht9 hW9 => ⟨⟨_, (), rfl, hf.trans hf0.symm, ⟨by rw [ht9]; exact hR.P, hR.D⟩⟩, hR.sS.F ht9⟩) hR.sS.2.2 dX14_headByte_55
        · rw [if_pos (k_eq rfl (by decide) c4)] at hf
          (try rw [if_pos (k_eq rfl (by decide) c4)] at hd)
          refine lv_sipush (v := 190) hx hb dX14_headByte_37 (by decide) ?_
          refine lv_goto (tgt := 55) hx hb dX14_headByte_40 (by decide) ?_
          exact W.iret (v := 190) hx hb hr (fun t9 ht9 hW9 => ⟨⟨_, (), rfl, hf.trans hf0.symm, ⟨by rw [ht9]; exact hR.P, hR.D⟩⟩, hR.sS.F ht9⟩) hR.sS.2.2 dX14_headByte_55
      · rw [if_pos (k_eq rfl (by decide) c3)] at hf
        (try rw [if_pos (k_eq rfl (by decide) c3)] at hd)
        refine lv_sipush (v := 186) hx hb dX14_headByte_26 (by decide) ?_
        refine lv_goto (tgt := 55) hx hb dX14_headByte_29 (by decide) ?_
        exact W.iret (v := 186) hx hb hr (fun t9 ht9 hW9 => ⟨⟨_, (), rfl, hf.trans hf0.symm, ⟨by rw [ht9]; exact hR.P, hR.D⟩⟩, hR.sS.F ht9⟩) hR.sS.2.2 dX14_headByte_55
    · rw [if_pos (k_eq rfl (by decide) c2)] at hf
      (try rw [if_pos (k_eq rfl (by decide) c2)] at hd)
      refine lv_sipush (v := 254) hx hb dX14_headByte_15 (by decide) ?_
      refine lv_goto (tgt := 55) hx hb dX14_headByte_18 (by decide) ?_
      exact W.iret (v := 254) hx hb hr (fun t9 ht9 hW9 => ⟨⟨_, (), rfl, hf.trans hf0.symm, ⟨by rw [ht9]; exact hR.P, hR.D⟩⟩, hR.sS.F ht9⟩) hR.sS.2.2 dX14_headByte_55
  · rw [if_pos (k_eq rfl (by decide) c1)] at hf
    (try rw [if_pos (k_eq rfl (by decide) c1)] at hd)
    refine lv_sipush (v := 202) hx hb dX14_headByte_4 (by decide) ?_
    refine lv_goto (tgt := 55) hx hb dX14_headByte_7 (by decide) ?_
    exact W.iret (v := 202) hx hb hr (fun t9 ht9 hW9 => ⟨⟨_, (), rfl, hf.trans hf0.symm, ⟨by rw [ht9]; exact hR.P, hR.D⟩⟩, hR.sS.F ht9⟩) hR.sS.2.2 dX14_headByte_55
def w_nameEntry_J97 (Q : MS → Prop) (E : MS → Prop) (k54 : MS → Int32 → Int32 → Int32 → Prop) (U97 : MS) (t97_0 : Int32) (v97_2 : Int32) (v97_3 : Int32) (v97_4 : Int32) : Prop := (∃ Q25 EQ25, w_must U97 t97_0 (4 : Int32) v97_2 Q25 EQ25 ∧ (∀ S26, Q25 S26 → (∀ a28 : Int32, a28 = (v97_4 + Int32.ofInt 1) → k54 S26 v97_2 v97_3 a28)) ∧ (∀ u9, EQ25 u9 → E u9))
def w_nameEntry_J96 (Q : MS → Prop) (E : MS → Prop) (k54 : MS → Int32 → Int32 → Int32 → Prop) (U96 : MS) (v96_2 : Int32) (v96_3 : Int32) (v96_4 : Int32) : Prop := w_nameEntry_J97 Q E k54 U96 0 v96_2 v96_3 v96_4
def w_nameEntry_L54 (Q : MS → Prop) (E : MS → Prop) : Nat → MS → Int32 → Int32 → Int32 → Prop
  | 0, _, _, _, _ => False
  | n54 + 1, U54, v54_2, v54_3, v54_4 => ((v54_3.toInt ≤ v54_4.toInt → Q U54) ∧ (¬ v54_3.toInt ≤ v54_4.toInt → (∃ Q17 EQ17, w_over U54 1 Q17 EQ17 ∧ (∀ r18 S19, Q17 r18 S19 → ((qR S19 0 11 = some (qO S19 0 11)) ∧ (((0 : Int) ≤ r18.toInt ∧ r18.toInt < (qN S19 (qO S19 0 11) : Int)) ∧ (((qI S19 (qO S19 0 11) r18.toInt.toNat).toInt < 33 → w_nameEntry_J96 Q E (w_nameEntry_L54 Q E n54) S19 v54_2 v54_3 v54_4) ∧ (¬ (qI S19 (qO S19 0 11) r18.toInt.toNat).toInt < 33 → ((qR S19 0 11 = some (qO S19 0 11)) ∧ (((0 : Int) ≤ r18.toInt ∧ r18.toInt < (qN S19 (qO S19 0 11) : Int)) ∧ ((126 < (qI S19 (qO S19 0 11) r18.toInt.toNat).toInt → w_nameEntry_J96 Q E (w_nameEntry_L54 Q E n54) S19 v54_2 v54_3 v54_4) ∧ (¬ 126 < (qI S19 (qO S19 0 11) r18.toInt.toNat).toInt → w_nameEntry_J97 Q E (w_nameEntry_L54 Q E n54) S19 1 v54_2 v54_3 v54_4))))))))) ∧ (∀ u9, EQ17 u9 → E u9))))
def w_nameEntry_J29 (Q : MS → Prop) (E : MS → Prop) (U29 : MS) (t29_0 : Int32) (v29_1 : Int32) (v29_2 : Int32) (v29_3 : Int32) : Prop := (∃ Q9 EQ9, w_must U29 t29_0 (4 : Int32) v29_2 Q9 EQ9 ∧ (∀ S10, Q9 S10 → (((0 : Int) ≤ v29_1.toInt ∧ v29_1.toInt < 502) ∧ (∀ S13, S13 = wI S10 6 v29_1.toInt.toNat (qI S10 0 13) → (((0 : Int) ≤ v29_1.toInt ∧ v29_1.toInt < 502) ∧ (∀ S15, S15 = wI S13 7 v29_1.toInt.toNat v29_3 → (∃ n, w_nameEntry_L54 Q E n S15 v29_2 v29_3 0)))))) ∧ (∀ u9, EQ9 u9 → E u9))
def w_nameEntry_J28 (Q : MS → Prop) (E : MS → Prop) (U28 : MS) (v28_1 : Int32) (v28_2 : Int32) (v28_3 : Int32) : Prop := w_nameEntry_J29 Q E U28 0 v28_1 v28_2 v28_3
def w_nameEntry (S : MS) (x1 : Int32) (x2 : Int32) (Q : MS → Prop) (E : MS → Prop) : Prop := (∃ Q1 EQ1, w_over S (2 : Int64) Q1 EQ1 ∧ (∀ r2 S3, Q1 r2 S3 → (d_two S3 r2 ∧ (∀ a8 : Int32, a8 = (f_two S3 r2) → ((a8.toInt < 1 → w_nameEntry_J28 Q E S3 x1 x2 a8) ∧ (¬ a8.toInt < 1 → ((100 < a8.toInt → w_nameEntry_J28 Q E S3 x1 x2 a8) ∧ (¬ 100 < a8.toInt → w_nameEntry_J29 Q E S3 1 x1 x2 a8))))))) ∧ (∀ u9, EQ1 u9 → E u9))
set_option maxHeartbeats 2000000 in
set_option maxRecDepth 100000 in
theorem r_nameEntry (l : Launch) (g : Gr) (ad : Nat → Nat) (sz : Nat) (S : MS) (x1 : Int32) (x2 : Int32) (hw : wfM S) (Q : MS → Prop) (E : MS → Prop) (h : w_nameEntry S x1 x2 Q E) : vx_Met l yX14_nameEntry (wt2 yX14_nameEntry cX14_nameEntry 6 none) ({ frames := 2, cells := 0, slots := 0, locals := 45 }) (va_Pc [.ref (ad 0), .int x1, .int x2] (st_R g ad sz S)) (va_Qv (fun (u : MS) => Q u ∧ wfM u ∧ shy S u) (fun (u : MS) (t : State) => qE g ad (va_A (Wd g ad S) sz) u t) (va_A (Wd g ad S) sz)) (vx_X (fun (u : MS) => E u ∧ wfM u ∧ shy S u) (fun (n9 : String) (u : MS) (t : State) => n9 = RJxb5711 ∧ qE g ad (va_A (Wd g ad S) sz) u t) (va_A (Wd g ad S) sz)) 0 0 (va_A (Wd g ad S) sz) := by
  refine vx_ofW (cc := cX14_nameEntry) (maxL := 6) (ret := none) (by decide) rfl ?_
  intro p e s m args below meth c s₁ B hml hnt hv
  obtain ⟨rfl, hsz, hP, hK, hD0, hex, hE⟩ := hv
  have hx := B.exec
  have hb := B.bytes
  have hr := B.returns
  have hlocks := B.notSynchronized
  have hts0 := atoms_spec (ws := wt2 yX14_nameEntry cX14_nameEntry 6 none) B.pre
  have hts : ∀ w ∈ tb2, w.before _ s = true := fun w h => hts0 w (List.mem_cons_of_mem _ h)
  have hown : s.vm.findClass RX14 = some m.cls := findClass_of_methodNamed B.named
  subst hsz
  have hD := hD0.self (sz := s.heap.size)
  generalize hAe : va_A (Wd g ad S) s.heap.size = A at hD hE ⊢
  have hA : ∀ q : Nat, s.heap.size ≤ q → A q := fun q h => by rw [← hAe]; exact Or.inr h
  have hR : Rep g ad A s S s.heap [] := ⟨hK, hP, hD, va_S.rf, hw⟩
  clear hK hP hD hD0
  have hl := lv_entry ([.ref (ad 0), .int x1, .int x2]) (n := 6) (Nat.le_of_ble_eq_true rfl)
  rw [lg_entry_eq]
  generalize (lg_sl ([.ref (ad 0), .int x1, .int x2]) ++ List.replicate (6 - (lg_sl ([.ref (ad 0), .int x1, .int x2])).length) Slot.unset).toArray = ls at hl ⊢
  have hl : lv_has ls 6 [(0, .ref (ad 0)), (1, .int x1), (2, .int x2)] := hl
  have hsh : shy S S := shy.rf
  unfold w_nameEntry at h
  refine lv_aload_n hx hb dX14_nameEntry_0 rfl (lv_at hl 0 rfl) ?_
  refine lv_aload_n hx hb dX14_nameEntry_1 rfl (lv_at hl 0 rfl) ?_
  refine lv_ldc2 hx hb hown (hts _ kx_192) dX14_nameEntry_2 ?_
  obtain ⟨Q1, EQ1, h0, h⟩ := h
  have hFc := rfree hR hA
  refine vx_calli (vx_runV (As := [.long (2 : Int64)]) (rest := [.ref (ad 0)]) ⟨hx, hb, hml, hown, hts⟩ (r_over l g ad s.heap.size S (2 : Int64) hR.w  Q1 EQ1 h0) (cwV 1 hts (gd2_V kx_193 kx_194 kx_195 kx_177 kx_196) rfl rfl rfl (by decide +kernel) ⟨Nat.le_of_ble_eq_true rfl, Nat.le_of_ble_eq_true rfl⟩) ⟨rblind, va_recv hR.K hR.P (ci := 13) (q0 := 0) rfl (hR.at14 hR.w.1), fun U hU hW9 => rmk hU hW9 hR hex hE hFc⟩ rfl rfl hl.1 rfl (lv_room (Nat.le_of_ble_eq_true rfl)) dX14_nameEntry_5 ⟨Nat.le_of_ble_eq_true rfl, Nat.le_of_ble_eq_true rfl⟩) hR.sS (fun q _ h => hFc q h) hFc (fun q _ h => hFc q h) (fun E9 ce9 q9 u9 t9 H1 locs ht9 hvm9 hp9 hB9 hz9 hk9 hS hce9 hcv9 hcl9 => ?_) (fun r2 S3 t9 H1 locs ht9 hvm9 hw9 hB9 hz9 hk9 hS => ?_)
  · obtain ⟨hp9, hwx, hsx⟩ := hp9
    obtain ⟨rfl, hBx⟩ := hB9
    replace h := h.2 u9 hp9
    have hR : Rep g ad A s u9 H1 locs := hR.call ht9 hBx hwx hS hFc
    have hsh := hsh.tr hsx
    exact vx_out (E := RJxb5711) (q := q9) (fun x h9 => (hnt x h9).elim) hlocks hce9 hcv9 hcl9 (fun t9 ht9 ha9 => ⟨u9, ⟨h, hR.w, hsh⟩, ⟨rfl, by rw [ht9]; exact hR.P, hR.D⟩, hR.sS.F ht9⟩) hR.sS.2.2 (Nat.le_of_ble_eq_true rfl) (Nat.le_of_ble_eq_true rfl)
  · obtain ⟨hq4, hw9, hs9⟩ := hw9
    have hR : Rep g ad A s S3 H1 locs := hR.call ht9 hB9 hw9 hS hFc
    have hsh := hsh.tr hs9
    replace h := h.1 r2 S3 hq4
    clear hB9 hz9 hk9 hvm9 ht9 hw9 hs9 hS
    generalize H1 = H at hR ⊢
    obtain ⟨hv5, h⟩ := h
    have hFc := rfree hR hA
    refine va_calli (va_runV (As := [.int r2]) (rest := []) ⟨hx, hb, hml, hown, hts⟩ (r_two l g ad H.size S3 r2 hR.w  hv5) (cwV 1 hts (gd2_V kx_186 kx_187 kx_188 kx_177 kx_189) rfl rfl rfl (by decide +kernel) ⟨Nat.le_of_ble_eq_true rfl, Nat.le_of_ble_eq_true rfl⟩) ⟨rblind, va_recv hR.K hR.P (ci := 13) (q0 := 0) rfl (hR.at14 hR.w.1), fun U hU hW9 => rmk hU hW9 hR hex hE hFc⟩ rfl rfl hl.1 rfl (lv_room (Nat.le_of_ble_eq_true rfl)) dX14_nameEntry_8 ⟨Nat.le_of_ble_eq_true rfl, Nat.le_of_ble_eq_true rfl⟩) hR.sS (fun q _ h => hFc q h) hFc (fun r6 u9 t9 H1 locs ht9 hvm9 hw9 hB9 hz9 hk9 hS => ?_)
    have hR : Rep g ad A s S3 H1 locs := hR.call ht9 hB9 hR.w hS hFc
    obtain rfl : r6 = (f_two S3 r2) := hw9
    clear hB9 hz9 hk9 hvm9 ht9 hS
    generalize H1 = H at hR ⊢
    obtain ⟨a8, ea8⟩ : ∃ z, z = (f_two S3 r2) := ⟨_, rfl⟩
    rw [← ea8]
    replace h := h a8 ea8
    refine lv_istore_n (lv' := [(3, .int a8), (0, .ref (ad 0)), (1, .int x1), (2, .int x2)]) hx hb dX14_nameEntry_11 rfl hl (by decide) rfl (fun ls hl => ?_)
    refine lv_aload_n hx hb dX14_nameEntry_12 rfl (lv_at hl 1 rfl) ?_
    refine lv_iload_n hx hb dX14_nameEntry_13 rfl (lv_at hl 0 rfl) ?_
    refine lv_iconst (v := 1) hx hb dX14_nameEntry_14 (by decide) ?_
    have J_29 : ∀ (U29 : MS) (t29_0 : Int32) (v29_1 : Int32) (v29_2 : Int32) (v29_3 : Int32) (H : Heap) (locs : List Loc) (ls : Array Slot), w_nameEntry_J29 Q E U29 t29_0 v29_1 v29_2 v29_3 → (t29_0 = 0 ∨ t29_0 = 1) → shy S U29 → Rep g ad A s U29 H locs → lv_has ls 6 [(0, .ref (ad 0)), (1, .int v29_1), (2, .int v29_2), (3, .int v29_3)] → W p l e (headSpec (wt2 yX14_nameEntry cX14_nameEntry 6 none) ({ frames := 2, cells := 0, slots := 0, locals := 45 })).room s m ([.ref (ad 0), .int x1, .int x2] : List Value).toArray below meth c H locs 0 0 (vx_MQ below (va_Qv (fun (u : MS) => Q u ∧ wfM u ∧ shy S u) (fun (u : MS) (t : State) => qE g ad A u t) A) ((vx_X (fun (u : MS) => E u ∧ wfM u ∧ shy S u) (fun (n9 : String) (u : MS) (t : State) => n9 = RJxb5711 ∧ qE g ad A u t) A)) ([.ref (ad 0), .int x1, .int x2] : List Value).toArray s 0 0 A) (F0 m 29 ls [.int t29_0, .ref (ad 0)]) := by
      intro U29 t29_0 v29_1 v29_2 v29_3 H locs ls h hz_t29_0 hsh hR hl
      unfold w_nameEntry_J29 at h
      refine lv_iconst (v := 4) hx hb dX14_nameEntry_29 (by decide) ?_
      refine lv_iload_n hx hb dX14_nameEntry_30 rfl (lv_at hl 2 rfl) ?_
      obtain ⟨Q9, EQ9, h0, h⟩ := h
      have hFc := rfree hR hA
      refine vx_callv (vx_runV (As := [.int t29_0, .int 4, .int v29_2]) (rest := []) ⟨hx, hb, hml, hown, hts⟩ (r_must l g ad H.size U29 t29_0 (4 : Int32) v29_2 hR.w hz_t29_0 Q9 EQ9 h0) (cwV 3 hts (gd2_V kx_198 kx_199 kx_200 kx_177 kx_201) rfl rfl rfl (by decide +kernel) ⟨Nat.le_of_ble_eq_true rfl, Nat.le_of_ble_eq_true rfl⟩) ⟨rblind, va_recv hR.K hR.P (ci := 13) (q0 := 0) rfl (hR.at14 hR.w.1), fun U hU hW9 => rmk hU hW9 hR hex hE hFc⟩ rfl rfl hl.1 rfl (lv_room (Nat.le_of_ble_eq_true rfl)) dX14_nameEntry_31 ⟨Nat.le_of_ble_eq_true rfl, Nat.le_of_ble_eq_true rfl⟩) hR.sS (fun q _ h => hFc q h) hFc (fun q _ h => hFc q h) (fun E9 ce9 q9 u9 t9 H1 locs ht9 hvm9 hp9 hB9 hz9 hk9 hS hce9 hcv9 hcl9 => ?_) (fun  S10 t9 H1 locs ht9 hvm9 hw9 hB9 hz9 hk9 hS => ?_)
      · obtain ⟨hp9, hwx, hsx⟩ := hp9
        obtain ⟨rfl, hBx⟩ := hB9
        replace h := h.2 u9 hp9
        have hR : Rep g ad A s u9 H1 locs := hR.call ht9 hBx hwx hS hFc
        have hsh := hsh.tr hsx
        exact vx_out (E := RJxb5711) (q := q9) (fun x h9 => (hnt x h9).elim) hlocks hce9 hcv9 hcl9 (fun t9 ht9 ha9 => ⟨u9, ⟨h, hR.w, hsh⟩, ⟨rfl, by rw [ht9]; exact hR.P, hR.D⟩, hR.sS.F ht9⟩) hR.sS.2.2 (Nat.le_of_ble_eq_true rfl) (Nat.le_of_ble_eq_true rfl)
      · obtain ⟨hq11, hw9, hs9⟩ := hw9
        have hR : Rep g ad A s S10 H1 locs := hR.call ht9 hB9 hw9 hS hFc
        have hsh := hsh.tr hs9
        replace h := h.1  S10 hq11
        clear hB9 hz9 hk9 hvm9 ht9 hw9 hs9 hS
        generalize H1 = H at hR ⊢
        refine lv_aload_n hx hb dX14_nameEntry_34 rfl (lv_at hl 0 rfl) ?_
        refine va_get (D := rD g) (ci := 13) (v := .ref (ad 6)) (C := RX14) (T := TX14) (N := 143) hx hb hts in2X14 hown hR.K hR.P 0 (hR.at14 hR.w.1) rfl 17 (by decide) (hts _ kx_208) (fun _ h9 => h9) (congrArg (fun z => some (vf ad z)) (hR.w.2.1 _ fin_17).1) dX14_nameEntry_35 ?_
        refine lv_iload_n hx hb dX14_nameEntry_38 rfl (lv_at hl 1 rfl) ?_
        refine lv_aload_n hx hb dX14_nameEntry_39 rfl (lv_at hl 0 rfl) ?_
        refine va_get (D := rD g) (ci := 13) (v := .int (qI S10 0 13)) (C := RX14) (T := TX14) (N := 143) hx hb hts in2X14 hown hR.K hR.P 0 (hR.at14 hR.w.1) rfl 13 (by decide) (hts _ kx_190) (fun _ h9 => h9) rfl dX14_nameEntry_40 ?_
        obtain ⟨hv12, h⟩ := h
        refine va_iast hx hb hR.K hR.P hR.D hR.sS 6 1 (hR.atI (hR.w.2.1 _ fin_17).2.1) rfl (k_ixN (k_ix (n := 502) (x := v29_1) (a := v29_1.toInt) rfl hv12) (hR.w.2.1 _ fin_17).2.2) dX14_nameEntry_43 (fun H locs hP hD hS => ?_)
        have hR : Rep g ad A s (wI S10 6 v29_1.toInt.toNat (qI S10 0 13)) H locs := hR.aI (hR.w.2.1 _ fin_17).2.1 hP hD hS
        obtain ⟨S13, eS13⟩ : ∃ z, z = wI S10 6 v29_1.toInt.toNat (qI S10 0 13) := ⟨_, rfl⟩
        rw [← eS13] at hR
        replace h := h S13 eS13
        have hsh : shy S S13 := by rw [eS13]; exact hsh
        refine lv_aload_n hx hb dX14_nameEntry_44 rfl (lv_at hl 0 rfl) ?_
        refine va_get (D := rD g) (ci := 13) (v := .ref (ad 7)) (C := RX14) (T := TX14) (N := 143) hx hb hts in2X14 hown hR.K hR.P 0 (hR.at14 hR.w.1) rfl 18 (by decide) (hts _ kx_209) (fun _ h9 => h9) (congrArg (fun z => some (vf ad z)) (hR.w.2.1 _ fin_18).1) dX14_nameEntry_45 ?_
        refine lv_iload_n hx hb dX14_nameEntry_48 rfl (lv_at hl 1 rfl) ?_
        refine lv_iload_n hx hb dX14_nameEntry_49 rfl (lv_at hl 3 rfl) ?_
        obtain ⟨hv14, h⟩ := h
        refine va_iast hx hb hR.K hR.P hR.D hR.sS 7 1 (hR.atI (hR.w.2.1 _ fin_18).2.1) rfl (k_ixN (k_ix (n := 502) (x := v29_1) (a := v29_1.toInt) rfl hv14) (hR.w.2.1 _ fin_18).2.2) dX14_nameEntry_50 (fun H locs hP hD hS => ?_)
        have hR : Rep g ad A s (wI S13 7 v29_1.toInt.toNat v29_3) H locs := hR.aI (hR.w.2.1 _ fin_18).2.1 hP hD hS
        obtain ⟨S15, eS15⟩ : ∃ z, z = wI S13 7 v29_1.toInt.toNat v29_3 := ⟨_, rfl⟩
        rw [← eS15] at hR
        replace h := h S15 eS15
        have hsh : shy S S15 := by rw [eS15]; exact hsh
        refine lv_iconst (v := 0) hx hb dX14_nameEntry_51 (by decide) ?_
        refine lv_istore (lv' := [(4, .int 0), (0, .ref (ad 0)), (1, .int v29_1), (2, .int v29_2), (3, .int v29_3)]) hx hb dX14_nameEntry_52 hl (by decide) rfl (fun ls hl => ?_)
        have J_54 : ∀ (n54 : Nat) (U54 : MS) (v54_2 : Int32) (v54_3 : Int32) (v54_4 : Int32) (H : Heap) (locs : List Loc) (ls : Array Slot), w_nameEntry_L54 Q E n54 U54 v54_2 v54_3 v54_4 → shy S U54 → Rep g ad A s U54 H locs → lv_has ls 6 [(0, .ref (ad 0)), (2, .int v54_2), (3, .int v54_3), (4, .int v54_4)] → W p l e (headSpec (wt2 yX14_nameEntry cX14_nameEntry 6 none) ({ frames := 2, cells := 0, slots := 0, locals := 45 })).room s m ([.ref (ad 0), .int x1, .int x2] : List Value).toArray below meth c H locs 0 0 (vx_MQ below (va_Qv (fun (u : MS) => Q u ∧ wfM u ∧ shy S u) (fun (u : MS) (t : State) => qE g ad A u t) A) ((vx_X (fun (u : MS) => E u ∧ wfM u ∧ shy S u) (fun (n9 : String) (u : MS) (t : State) => n9 = RJxb5711 ∧ qE g ad A u t) A)) ([.ref (ad 0), .int x1, .int x2] : List Value).toArray s 0 0 A) (F0 m 54 ls []) := by
          intro n54
          induction n54 with
          | zero => intro U54 v54_2 v54_3 v54_4 H locs ls h hsh hR hl; unfold w_nameEntry_L54 at h; exact h.elim
          | succ n54 ih_54 =>
            intro U54 v54_2 v54_3 v54_4 H locs ls h hsh hR hl
            unfold w_nameEntry_L54 at h
            refine lv_iload hx hb dX14_nameEntry_54 (lv_at hl 3 rfl) ?_
            refine lv_iload_n hx hb dX14_nameEntry_56 rfl (lv_at hl 2 rfl) ?_
            refine lv_icmp_ge (tgt := 108) hx hb dX14_nameEntry_57 (by decide) (fun c16 => ?_) (fun c16 => ?_)
            · replace h := h.1 (k_le rfl rfl c16)
              exact vx_ret (W.vret hx hb hr (fun t9 ht9 hW9 => ⟨⟨U54, rfl, ⟨h, hR.w, hsh⟩, ⟨by rw [ht9]; exact hR.P, hR.D⟩⟩, hR.sS.F ht9⟩) hR.sS.2.2 dX14_nameEntry_108)
            · replace h := h.2 (k_nle rfl rfl c16)
              refine lv_aload_n hx hb dX14_nameEntry_60 rfl (lv_at hl 0 rfl) ?_
              refine lv_lconst (v := 1) hx hb dX14_nameEntry_61 (by decide) ?_
              obtain ⟨Q17, EQ17, h0, h⟩ := h
              have hFc := rfree hR hA
              refine vx_calli (vx_runV (As := [.long 1]) (rest := []) ⟨hx, hb, hml, hown, hts⟩ (r_over l g ad H.size U54 1 hR.w  Q17 EQ17 h0) (cwV 1 hts (gd2_V kx_193 kx_194 kx_195 kx_177 kx_196) rfl rfl rfl (by decide +kernel) ⟨Nat.le_of_ble_eq_true rfl, Nat.le_of_ble_eq_true rfl⟩) ⟨rblind, va_recv hR.K hR.P (ci := 13) (q0 := 0) rfl (hR.at14 hR.w.1), fun U hU hW9 => rmk hU hW9 hR hex hE hFc⟩ rfl rfl hl.1 rfl (lv_room (Nat.le_of_ble_eq_true rfl)) dX14_nameEntry_62 ⟨Nat.le_of_ble_eq_true rfl, Nat.le_of_ble_eq_true rfl⟩) hR.sS (fun q _ h => hFc q h) hFc (fun q _ h => hFc q h) (fun E9 ce9 q9 u9 t9 H1 locs ht9 hvm9 hp9 hB9 hz9 hk9 hS hce9 hcv9 hcl9 => ?_) (fun r18 S19 t9 H1 locs ht9 hvm9 hw9 hB9 hz9 hk9 hS => ?_)
              · obtain ⟨hp9, hwx, hsx⟩ := hp9
                obtain ⟨rfl, hBx⟩ := hB9
                replace h := h.2 u9 hp9
                have hR : Rep g ad A s u9 H1 locs := hR.call ht9 hBx hwx hS hFc
                have hsh := hsh.tr hsx
                exact vx_out (E := RJxb5711) (q := q9) (fun x h9 => (hnt x h9).elim) hlocks hce9 hcv9 hcl9 (fun t9 ht9 ha9 => ⟨u9, ⟨h, hR.w, hsh⟩, ⟨rfl, by rw [ht9]; exact hR.P, hR.D⟩, hR.sS.F ht9⟩) hR.sS.2.2 (Nat.le_of_ble_eq_true rfl) (Nat.le_of_ble_eq_true rfl)
              · obtain ⟨hq20, hw9, hs9⟩ := hw9
                have hR : Rep g ad A s S19 H1 locs := hR.call ht9 hB9 hw9 hS hFc
                have hsh := hsh.tr hs9
                replace h := h.1 r18 S19 hq20
                clear hB9 hz9 hk9 hvm9 ht9 hw9 hs9 hS
                generalize H1 = H at hR ⊢
                refine lv_istore (lv' := [(5, .int r18), (0, .ref (ad 0)), (2, .int v54_2), (3, .int v54_3), (4, .int v54_4)]) hx hb dX14_nameEntry_65 hl (by decide) rfl (fun ls hl => ?_)
                refine lv_aload_n hx hb dX14_nameEntry_67 rfl (lv_at hl 1 rfl) ?_
                refine lv_aload_n hx hb dX14_nameEntry_68 rfl (lv_at hl 1 rfl) ?_
                obtain ⟨hv21, h⟩ := h
                have hT_b22 : qT S19 (qO S19 0 11) = 1 := hR.w.ref hv21 hR.w.1
                refine va_get (D := rD g) (ci := 13) (v := .ref (ad (qO S19 0 11))) (C := RX14) (T := TX14) (N := 143) hx hb hts in2X14 hown hR.K hR.P 0 (hR.at14 hR.w.1) rfl 11 (by decide) (hts _ kx_181) (fun _ h9 => h9) (congrArg (fun z => some (vf ad z)) hv21) dX14_nameEntry_69 ?_
                refine lv_iload hx hb dX14_nameEntry_72 (lv_at hl 0 rfl) ?_
                obtain ⟨hv23, h⟩ := h
                refine va_bald hx hb hR.K hR.P (qO S19 0 11) 0 (hR.atB hT_b22) rfl (k_ix (x := r18) (a := r18.toInt) rfl hv23) dX14_nameEntry_74 ?_
                refine lv_topi (fun z24 ez24 => ?_)
                obtain rfl : z24 = (qI S19 (qO S19 0 11) r18.toInt.toNat) := ez24
                refine lv_bipush (v := 33) hx hb dX14_nameEntry_75 (by decide) ?_
                have J_97 : ∀ (U97 : MS) (t97_0 : Int32) (v97_2 : Int32) (v97_3 : Int32) (v97_4 : Int32) (H : Heap) (locs : List Loc) (ls : Array Slot), w_nameEntry_J97 Q E (w_nameEntry_L54 Q E n54) U97 t97_0 v97_2 v97_3 v97_4 → (t97_0 = 0 ∨ t97_0 = 1) → shy S U97 → Rep g ad A s U97 H locs → lv_has ls 6 [(0, .ref (ad 0)), (2, .int v97_2), (3, .int v97_3), (4, .int v97_4)] → W p l e (headSpec (wt2 yX14_nameEntry cX14_nameEntry 6 none) ({ frames := 2, cells := 0, slots := 0, locals := 45 })).room s m ([.ref (ad 0), .int x1, .int x2] : List Value).toArray below meth c H locs 0 0 (vx_MQ below (va_Qv (fun (u : MS) => Q u ∧ wfM u ∧ shy S u) (fun (u : MS) (t : State) => qE g ad A u t) A) ((vx_X (fun (u : MS) => E u ∧ wfM u ∧ shy S u) (fun (n9 : String) (u : MS) (t : State) => n9 = RJxb5711 ∧ qE g ad A u t) A)) ([.ref (ad 0), .int x1, .int x2] : List Value).toArray s 0 0 A) (F0 m 97 ls [.int t97_0, .ref (ad 0)]) := by
                  intro U97 t97_0 v97_2 v97_3 v97_4 H locs ls h hz_t97_0 hsh hR hl
                  unfold w_nameEntry_J97 at h
                  refine lv_iconst (v := 4) hx hb dX14_nameEntry_97 (by decide) ?_
                  refine lv_iload_n hx hb dX14_nameEntry_98 rfl (lv_at hl 1 rfl) ?_
                  obtain ⟨Q25, EQ25, h0, h⟩ := h
                  have hFc := rfree hR hA
                  refine vx_callv (vx_runV (As := [.int t97_0, .int 4, .int v97_2]) (rest := []) ⟨hx, hb, hml, hown, hts⟩ (r_must l g ad H.size U97 t97_0 (4 : Int32) v97_2 hR.w hz_t97_0 Q25 EQ25 h0) (cwV 3 hts (gd2_V kx_198 kx_199 kx_200 kx_177 kx_201) rfl rfl rfl (by decide +kernel) ⟨Nat.le_of_ble_eq_true rfl, Nat.le_of_ble_eq_true rfl⟩) ⟨rblind, va_recv hR.K hR.P (ci := 13) (q0 := 0) rfl (hR.at14 hR.w.1), fun U hU hW9 => rmk hU hW9 hR hex hE hFc⟩ rfl rfl hl.1 rfl (lv_room (Nat.le_of_ble_eq_true rfl)) dX14_nameEntry_99 ⟨Nat.le_of_ble_eq_true rfl, Nat.le_of_ble_eq_true rfl⟩) hR.sS (fun q _ h => hFc q h) hFc (fun q _ h => hFc q h) (fun E9 ce9 q9 u9 t9 H1 locs ht9 hvm9 hp9 hB9 hz9 hk9 hS hce9 hcv9 hcl9 => ?_) (fun  S26 t9 H1 locs ht9 hvm9 hw9 hB9 hz9 hk9 hS => ?_)
                  · obtain ⟨hp9, hwx, hsx⟩ := hp9
                    obtain ⟨rfl, hBx⟩ := hB9
                    replace h := h.2 u9 hp9
                    have hR : Rep g ad A s u9 H1 locs := hR.call ht9 hBx hwx hS hFc
                    have hsh := hsh.tr hsx
                    exact vx_out (E := RJxb5711) (q := q9) (fun x h9 => (hnt x h9).elim) hlocks hce9 hcv9 hcl9 (fun t9 ht9 ha9 => ⟨u9, ⟨h, hR.w, hsh⟩, ⟨rfl, by rw [ht9]; exact hR.P, hR.D⟩, hR.sS.F ht9⟩) hR.sS.2.2 (Nat.le_of_ble_eq_true rfl) (Nat.le_of_ble_eq_true rfl)
                  · obtain ⟨hq27, hw9, hs9⟩ := hw9
                    have hR : Rep g ad A s S26 H1 locs := hR.call ht9 hB9 hw9 hS hFc
                    have hsh := hsh.tr hs9
                    replace h := h.1  S26 hq27
                    clear hB9 hz9 hk9 hvm9 ht9 hw9 hs9 hS
                    generalize H1 = H at hR ⊢
                    obtain ⟨a28, ea28⟩ : ∃ z, z = (v97_4 + Int32.ofInt 1) := ⟨_, rfl⟩
                    replace h := h a28 ea28
                    refine lv_iinc (v := a28) (lv' := [(4, .int a28), (0, .ref (ad 0)), (2, .int v97_2), (3, .int v97_3)]) hx hb dX14_nameEntry_102 hl (k := 3) rfl ea28.symm (by decide) rfl (fun ls hl => ?_)
                    refine lv_goto (tgt := 54) hx hb dX14_nameEntry_105 (by decide) ?_
                    exact ih_54 S26 v97_2 v97_3 a28 _ _ ls h  hsh hR (lv_sub hl [1, 2, 3, 0] rfl)
                have J_96 : ∀ (U96 : MS) (v96_2 : Int32) (v96_3 : Int32) (v96_4 : Int32) (H : Heap) (locs : List Loc) (ls : Array Slot), w_nameEntry_J96 Q E (w_nameEntry_L54 Q E n54) U96 v96_2 v96_3 v96_4 → shy S U96 → Rep g ad A s U96 H locs → lv_has ls 6 [(0, .ref (ad 0)), (2, .int v96_2), (3, .int v96_3), (4, .int v96_4)] → W p l e (headSpec (wt2 yX14_nameEntry cX14_nameEntry 6 none) ({ frames := 2, cells := 0, slots := 0, locals := 45 })).room s m ([.ref (ad 0), .int x1, .int x2] : List Value).toArray below meth c H locs 0 0 (vx_MQ below (va_Qv (fun (u : MS) => Q u ∧ wfM u ∧ shy S u) (fun (u : MS) (t : State) => qE g ad A u t) A) ((vx_X (fun (u : MS) => E u ∧ wfM u ∧ shy S u) (fun (n9 : String) (u : MS) (t : State) => n9 = RJxb5711 ∧ qE g ad A u t) A)) ([.ref (ad 0), .int x1, .int x2] : List Value).toArray s 0 0 A) (F0 m 96 ls [.ref (ad 0)]) := by
                  intro U96 v96_2 v96_3 v96_4 H locs ls h hsh hR hl
                  unfold w_nameEntry_J96 at h
                  refine lv_iconst (v := 0) hx hb dX14_nameEntry_96 (by decide) ?_
                  exact J_97 U96 0 v96_2 v96_3 v96_4 _ _ ls h (Or.inl rfl) hsh hR (lv_sub hl [0, 1, 2, 3] rfl)
                refine lv_icmp_lt (tgt := 96) hx hb dX14_nameEntry_77 (by decide) (fun c29 => ?_) (fun c29 => ?_)
                · replace h := h.1 (k_lt rfl (by decide) c29)
                  exact J_96 S19 v54_2 v54_3 v54_4 _ _ ls h  hsh hR (lv_sub hl [1, 2, 3, 4] rfl)
                · replace h := h.2 (k_nlt rfl (by decide) c29)
                  refine lv_aload_n hx hb dX14_nameEntry_80 rfl (lv_at hl 1 rfl) ?_
                  obtain ⟨hv30, h⟩ := h
                  have hT_b31 : qT S19 (qO S19 0 11) = 1 := hR.w.ref hv30 hR.w.1
                  refine va_get (D := rD g) (ci := 13) (v := .ref (ad (qO S19 0 11))) (C := RX14) (T := TX14) (N := 143) hx hb hts in2X14 hown hR.K hR.P 0 (hR.at14 hR.w.1) rfl 11 (by decide) (hts _ kx_181) (fun _ h9 => h9) (congrArg (fun z => some (vf ad z)) hv30) dX14_nameEntry_81 ?_
                  refine lv_iload hx hb dX14_nameEntry_84 (lv_at hl 0 rfl) ?_
                  obtain ⟨hv32, h⟩ := h
                  refine va_bald hx hb hR.K hR.P (qO S19 0 11) 0 (hR.atB hT_b31) rfl (k_ix (x := r18) (a := r18.toInt) rfl hv32) dX14_nameEntry_86 ?_
                  refine lv_topi (fun z33 ez33 => ?_)
                  obtain rfl : z33 = (qI S19 (qO S19 0 11) r18.toInt.toNat) := ez33
                  refine lv_bipush (v := 126) hx hb dX14_nameEntry_87 (by decide) ?_
                  refine lv_icmp_gt (tgt := 96) hx hb dX14_nameEntry_89 (by decide) (fun c34 => ?_) (fun c34 => ?_)
                  · replace h := h.1 (k_lt (by decide) rfl c34)
                    exact J_96 S19 v54_2 v54_3 v54_4 _ _ ls h  hsh hR (lv_sub hl [1, 2, 3, 4] rfl)
                  · replace h := h.2 (k_nlt (by decide) rfl c34)
                    refine lv_iconst (v := 1) hx hb dX14_nameEntry_92 (by decide) ?_
                    refine lv_goto (tgt := 97) hx hb dX14_nameEntry_93 (by decide) ?_
                    exact J_97 S19 1 v54_2 v54_3 v54_4 _ _ ls h (Or.inr rfl) hsh hR (lv_sub hl [1, 2, 3, 4] rfl)
        obtain ⟨n9, h⟩ := h
        exact J_54 n9 S15 v29_2 v29_3 0 _ _ ls h  hsh hR (lv_sub hl [1, 3, 4, 0] rfl)
    have J_28 : ∀ (U28 : MS) (v28_1 : Int32) (v28_2 : Int32) (v28_3 : Int32) (H : Heap) (locs : List Loc) (ls : Array Slot), w_nameEntry_J28 Q E U28 v28_1 v28_2 v28_3 → shy S U28 → Rep g ad A s U28 H locs → lv_has ls 6 [(0, .ref (ad 0)), (1, .int v28_1), (2, .int v28_2), (3, .int v28_3)] → W p l e (headSpec (wt2 yX14_nameEntry cX14_nameEntry 6 none) ({ frames := 2, cells := 0, slots := 0, locals := 45 })).room s m ([.ref (ad 0), .int x1, .int x2] : List Value).toArray below meth c H locs 0 0 (vx_MQ below (va_Qv (fun (u : MS) => Q u ∧ wfM u ∧ shy S u) (fun (u : MS) (t : State) => qE g ad A u t) A) ((vx_X (fun (u : MS) => E u ∧ wfM u ∧ shy S u) (fun (n9 : String) (u : MS) (t : State) => n9 = RJxb5711 ∧ qE g ad A u t) A)) ([.ref (ad 0), .int x1, .int x2] : List Value).toArray s 0 0 A) (F0 m 28 ls [.ref (ad 0)]) := by
      intro U28 v28_1 v28_2 v28_3 H locs ls h hsh hR hl
      unfold w_nameEntry_J28 at h
      refine lv_iconst (v := 0) hx hb dX14_nameEntry_28 (by decide) ?_
      exact J_29 U28 0 v28_1 v28_2 v28_3 _ _ ls h (Or.inl rfl) hsh hR (lv_sub hl [0, 1, 2, 3] rfl)
    refine lv_icmp_lt (tgt := 28) hx hb dX14_nameEntry_15 (by decide) (fun c35 => ?_) (fun c35 => ?_)
    · replace h := h.1 (k_lt rfl (by decide) c35)
      exact J_28 S3 x1 x2 a8 _ _ ls h  hsh hR (lv_sub hl [1, 2, 3, 0] rfl)
    · replace h := h.2 (k_nlt rfl (by decide) c35)
      refine lv_iload_n hx hb dX14_nameEntry_18 rfl (lv_at hl 0 rfl) ?_
      refine lv_bipush (v := 100) hx hb dX14_nameEntry_19 (by decide) ?_
      refine lv_icmp_gt (tgt := 28) hx hb dX14_nameEntry_21 (by decide) (fun c36 => ?_) (fun c36 => ?_)
      · replace h := h.1 (k_lt (by decide) rfl c36)
        exact J_28 S3 x1 x2 a8 _ _ ls h  hsh hR (lv_sub hl [1, 2, 3, 0] rfl)
      · replace h := h.2 (k_nlt (by decide) rfl c36)
        refine lv_iconst (v := 1) hx hb dX14_nameEntry_24 (by decide) ?_
        refine lv_goto (tgt := 29) hx hb dX14_nameEntry_25 (by decide) ?_
        exact J_29 S3 1 x1 x2 a8 _ _ ls h (Or.inr rfl) hsh hR (lv_sub hl [1, 2, 3, 0] rfl)
def w_attributesOf_L14 (Q : MS → Prop) (E : MS → Prop) : Nat → MS → Int32 → Int32 → Int32 → Prop
  | 0, _, _, _, _ => False
  | n14 + 1, U14, v14_1, v14_2, v14_3 => ((v14_2.toInt ≤ v14_3.toInt → Q U14) ∧ (¬ v14_2.toInt ≤ v14_3.toInt → (∃ Q10 EQ10, w_over U14 (2 : Int64) Q10 EQ10 ∧ (∀ r11 S12, Q10 r11 S12 → (∃ Q14 EQ14, w_over S12 (4 : Int64) Q14 EQ14 ∧ (∀ r15 S16, Q14 r15 S16 → (d_four S16 r15 ∧ (∃ Q22 EQ22, w_over S16 (((f_four S16 r15).toInt64) &&& (4294967295 : Int64)) Q22 EQ22 ∧ (∀ r23 S24, Q22 r23 S24 → (((0 : Int) ≤ (qI S24 0 25).toInt ∧ (qI S24 0 25).toInt < 3000) ∧ (∀ S27, S27 = wI S24 10 (((qI S24 0 25).toInt).toNat) r11 → (((0 : Int) ≤ (qI S27 0 25).toInt ∧ (qI S27 0 25).toInt < 3000) ∧ (∀ S29, S29 = wI S27 11 (((qI S27 0 25).toInt).toNat) v14_1 → (∀ S31, S31 = wI S29 0 25 ((qI S29 0 25) + (1 : Int32)) → (∀ a32 : Int32, a32 = (v14_3 + Int32.ofInt 1) → (w_attributesOf_L14 Q E n14) S31 v14_1 v14_2 a32))))))) ∧ (∀ u9, EQ22 u9 → E u9)))) ∧ (∀ u9, EQ14 u9 → E u9))) ∧ (∀ u9, EQ10 u9 → E u9))))
def w_attributesOf (S : MS) (x1 : Int32) (Q : MS → Prop) (E : MS → Prop) : Prop := (∃ Q1 EQ1, w_over S (2 : Int64) Q1 EQ1 ∧ (∀ r2 S3, Q1 r2 S3 → (d_two S3 r2 ∧ (∀ a8 : Int32, a8 = (f_two S3 r2) → (∃ n, w_attributesOf_L14 Q E n S3 x1 a8 0)))) ∧ (∀ u9, EQ1 u9 → E u9))
set_option maxHeartbeats 2000000 in
set_option maxRecDepth 100000 in
theorem r_attributesOf (l : Launch) (g : Gr) (ad : Nat → Nat) (sz : Nat) (S : MS) (x1 : Int32) (hw : wfM S) (Q : MS → Prop) (E : MS → Prop) (h : w_attributesOf S x1 Q E) : vx_Met l yX14_attributesOf (wt2 yX14_attributesOf cX14_attributesOf 6 none) ({ frames := 3, cells := 0, slots := 0, locals := 63 }) (va_Pc [.ref (ad 0), .int x1] (st_R g ad sz S)) (va_Qv (fun (u : MS) => Q u ∧ wfM u ∧ shy S u) (fun (u : MS) (t : State) => qE g ad (va_A (Wd g ad S) sz) u t) (va_A (Wd g ad S) sz)) (vx_X (fun (u : MS) => E u ∧ wfM u ∧ shy S u) (fun (n9 : String) (u : MS) (t : State) => n9 = RJxb5711 ∧ qE g ad (va_A (Wd g ad S) sz) u t) (va_A (Wd g ad S) sz)) 0 0 (va_A (Wd g ad S) sz) := by
  refine vx_ofW (cc := cX14_attributesOf) (maxL := 6) (ret := none) (by decide) rfl ?_
  intro p e s m args below meth c s₁ B hml hnt hv
  obtain ⟨rfl, hsz, hP, hK, hD0, hex, hE⟩ := hv
  have hx := B.exec
  have hb := B.bytes
  have hr := B.returns
  have hlocks := B.notSynchronized
  have hts0 := atoms_spec (ws := wt2 yX14_attributesOf cX14_attributesOf 6 none) B.pre
  have hts : ∀ w ∈ tb2, w.before _ s = true := fun w h => hts0 w (List.mem_cons_of_mem _ h)
  have hown : s.vm.findClass RX14 = some m.cls := findClass_of_methodNamed B.named
  subst hsz
  have hD := hD0.self (sz := s.heap.size)
  generalize hAe : va_A (Wd g ad S) s.heap.size = A at hD hE ⊢
  have hA : ∀ q : Nat, s.heap.size ≤ q → A q := fun q h => by rw [← hAe]; exact Or.inr h
  have hR : Rep g ad A s S s.heap [] := ⟨hK, hP, hD, va_S.rf, hw⟩
  clear hK hP hD hD0
  have hl := lv_entry ([.ref (ad 0), .int x1]) (n := 6) (Nat.le_of_ble_eq_true rfl)
  rw [lg_entry_eq]
  generalize (lg_sl ([.ref (ad 0), .int x1]) ++ List.replicate (6 - (lg_sl ([.ref (ad 0), .int x1])).length) Slot.unset).toArray = ls at hl ⊢
  have hl : lv_has ls 6 [(0, .ref (ad 0)), (1, .int x1)] := hl
  have hsh : shy S S := shy.rf
  unfold w_attributesOf at h
  refine lv_aload_n hx hb dX14_attributesOf_0 rfl (lv_at hl 0 rfl) ?_
  refine lv_aload_n hx hb dX14_attributesOf_1 rfl (lv_at hl 0 rfl) ?_
  refine lv_ldc2 hx hb hown (hts _ kx_192) dX14_attributesOf_2 ?_
  obtain ⟨Q1, EQ1, h0, h⟩ := h
  have hFc := rfree hR hA
  refine vx_calli (vx_runV (As := [.long (2 : Int64)]) (rest := [.ref (ad 0)]) ⟨hx, hb, hml, hown, hts⟩ (r_over l g ad s.heap.size S (2 : Int64) hR.w  Q1 EQ1 h0) (cwV 1 hts (gd2_V kx_193 kx_194 kx_195 kx_177 kx_196) rfl rfl rfl (by decide +kernel) ⟨Nat.le_of_ble_eq_true rfl, Nat.le_of_ble_eq_true rfl⟩) ⟨rblind, va_recv hR.K hR.P (ci := 13) (q0 := 0) rfl (hR.at14 hR.w.1), fun U hU hW9 => rmk hU hW9 hR hex hE hFc⟩ rfl rfl hl.1 rfl (lv_room (Nat.le_of_ble_eq_true rfl)) dX14_attributesOf_5 ⟨Nat.le_of_ble_eq_true rfl, Nat.le_of_ble_eq_true rfl⟩) hR.sS (fun q _ h => hFc q h) hFc (fun q _ h => hFc q h) (fun E9 ce9 q9 u9 t9 H1 locs ht9 hvm9 hp9 hB9 hz9 hk9 hS hce9 hcv9 hcl9 => ?_) (fun r2 S3 t9 H1 locs ht9 hvm9 hw9 hB9 hz9 hk9 hS => ?_)
  · obtain ⟨hp9, hwx, hsx⟩ := hp9
    obtain ⟨rfl, hBx⟩ := hB9
    replace h := h.2 u9 hp9
    have hR : Rep g ad A s u9 H1 locs := hR.call ht9 hBx hwx hS hFc
    have hsh := hsh.tr hsx
    exact vx_out (E := RJxb5711) (q := q9) (fun x h9 => (hnt x h9).elim) hlocks hce9 hcv9 hcl9 (fun t9 ht9 ha9 => ⟨u9, ⟨h, hR.w, hsh⟩, ⟨rfl, by rw [ht9]; exact hR.P, hR.D⟩, hR.sS.F ht9⟩) hR.sS.2.2 (Nat.le_of_ble_eq_true rfl) (Nat.le_of_ble_eq_true rfl)
  · obtain ⟨hq4, hw9, hs9⟩ := hw9
    have hR : Rep g ad A s S3 H1 locs := hR.call ht9 hB9 hw9 hS hFc
    have hsh := hsh.tr hs9
    replace h := h.1 r2 S3 hq4
    clear hB9 hz9 hk9 hvm9 ht9 hw9 hs9 hS
    generalize H1 = H at hR ⊢
    obtain ⟨hv5, h⟩ := h
    have hFc := rfree hR hA
    refine va_calli (va_runV (As := [.int r2]) (rest := []) ⟨hx, hb, hml, hown, hts⟩ (r_two l g ad H.size S3 r2 hR.w  hv5) (cwV 1 hts (gd2_V kx_186 kx_187 kx_188 kx_177 kx_189) rfl rfl rfl (by decide +kernel) ⟨Nat.le_of_ble_eq_true rfl, Nat.le_of_ble_eq_true rfl⟩) ⟨rblind, va_recv hR.K hR.P (ci := 13) (q0 := 0) rfl (hR.at14 hR.w.1), fun U hU hW9 => rmk hU hW9 hR hex hE hFc⟩ rfl rfl hl.1 rfl (lv_room (Nat.le_of_ble_eq_true rfl)) dX14_attributesOf_8 ⟨Nat.le_of_ble_eq_true rfl, Nat.le_of_ble_eq_true rfl⟩) hR.sS (fun q _ h => hFc q h) hFc (fun r6 u9 t9 H1 locs ht9 hvm9 hw9 hB9 hz9 hk9 hS => ?_)
    have hR : Rep g ad A s S3 H1 locs := hR.call ht9 hB9 hR.w hS hFc
    obtain rfl : r6 = (f_two S3 r2) := hw9
    clear hB9 hz9 hk9 hvm9 ht9 hS
    generalize H1 = H at hR ⊢
    obtain ⟨a8, ea8⟩ : ∃ z, z = (f_two S3 r2) := ⟨_, rfl⟩
    rw [← ea8]
    replace h := h a8 ea8
    refine lv_istore_n (lv' := [(2, .int a8), (0, .ref (ad 0)), (1, .int x1)]) hx hb dX14_attributesOf_11 rfl hl (by decide) rfl (fun ls hl => ?_)
    refine lv_iconst (v := 0) hx hb dX14_attributesOf_12 (by decide) ?_
    refine lv_istore_n (lv' := [(3, .int 0), (2, .int a8), (0, .ref (ad 0)), (1, .int x1)]) hx hb dX14_attributesOf_13 rfl hl (by decide) rfl (fun ls hl => ?_)
    have J_14 : ∀ (n14 : Nat) (U14 : MS) (v14_1 : Int32) (v14_2 : Int32) (v14_3 : Int32) (H : Heap) (locs : List Loc) (ls : Array Slot), w_attributesOf_L14 Q E n14 U14 v14_1 v14_2 v14_3 → shy S U14 → Rep g ad A s U14 H locs → lv_has ls 6 [(0, .ref (ad 0)), (1, .int v14_1), (2, .int v14_2), (3, .int v14_3)] → W p l e (headSpec (wt2 yX14_attributesOf cX14_attributesOf 6 none) ({ frames := 3, cells := 0, slots := 0, locals := 63 })).room s m ([.ref (ad 0), .int x1] : List Value).toArray below meth c H locs 0 0 (vx_MQ below (va_Qv (fun (u : MS) => Q u ∧ wfM u ∧ shy S u) (fun (u : MS) (t : State) => qE g ad A u t) A) ((vx_X (fun (u : MS) => E u ∧ wfM u ∧ shy S u) (fun (n9 : String) (u : MS) (t : State) => n9 = RJxb5711 ∧ qE g ad A u t) A)) ([.ref (ad 0), .int x1] : List Value).toArray s 0 0 A) (F0 m 14 ls []) := by
      intro n14
      induction n14 with
      | zero => intro U14 v14_1 v14_2 v14_3 H locs ls h hsh hR hl; unfold w_attributesOf_L14 at h; exact h.elim
      | succ n14 ih_14 =>
        intro U14 v14_1 v14_2 v14_3 H locs ls h hsh hR hl
        unfold w_attributesOf_L14 at h
        refine lv_iload_n hx hb dX14_attributesOf_14 rfl (lv_at hl 3 rfl) ?_
        refine lv_iload_n hx hb dX14_attributesOf_15 rfl (lv_at hl 2 rfl) ?_
        refine lv_icmp_ge (tgt := 90) hx hb dX14_attributesOf_16 (by decide) (fun c9 => ?_) (fun c9 => ?_)
        · replace h := h.1 (k_le rfl rfl c9)
          exact vx_ret (W.vret hx hb hr (fun t9 ht9 hW9 => ⟨⟨U14, rfl, ⟨h, hR.w, hsh⟩, ⟨by rw [ht9]; exact hR.P, hR.D⟩⟩, hR.sS.F ht9⟩) hR.sS.2.2 dX14_attributesOf_90)
        · replace h := h.2 (k_nle rfl rfl c9)
          refine lv_aload_n hx hb dX14_attributesOf_19 rfl (lv_at hl 0 rfl) ?_
          refine lv_ldc2 hx hb hown (hts _ kx_192) dX14_attributesOf_20 ?_
          obtain ⟨Q10, EQ10, h0, h⟩ := h
          have hFc := rfree hR hA
          refine vx_calli (vx_runV (As := [.long (2 : Int64)]) (rest := []) ⟨hx, hb, hml, hown, hts⟩ (r_over l g ad H.size U14 (2 : Int64) hR.w  Q10 EQ10 h0) (cwV 1 hts (gd2_V kx_193 kx_194 kx_195 kx_177 kx_196) rfl rfl rfl (by decide +kernel) ⟨Nat.le_of_ble_eq_true rfl, Nat.le_of_ble_eq_true rfl⟩) ⟨rblind, va_recv hR.K hR.P (ci := 13) (q0 := 0) rfl (hR.at14 hR.w.1), fun U hU hW9 => rmk hU hW9 hR hex hE hFc⟩ rfl rfl hl.1 rfl (lv_room (Nat.le_of_ble_eq_true rfl)) dX14_attributesOf_23 ⟨Nat.le_of_ble_eq_true rfl, Nat.le_of_ble_eq_true rfl⟩) hR.sS (fun q _ h => hFc q h) hFc (fun q _ h => hFc q h) (fun E9 ce9 q9 u9 t9 H1 locs ht9 hvm9 hp9 hB9 hz9 hk9 hS hce9 hcv9 hcl9 => ?_) (fun r11 S12 t9 H1 locs ht9 hvm9 hw9 hB9 hz9 hk9 hS => ?_)
          · obtain ⟨hp9, hwx, hsx⟩ := hp9
            obtain ⟨rfl, hBx⟩ := hB9
            replace h := h.2 u9 hp9
            have hR : Rep g ad A s u9 H1 locs := hR.call ht9 hBx hwx hS hFc
            have hsh := hsh.tr hsx
            exact vx_out (E := RJxb5711) (q := q9) (fun x h9 => (hnt x h9).elim) hlocks hce9 hcv9 hcl9 (fun t9 ht9 ha9 => ⟨u9, ⟨h, hR.w, hsh⟩, ⟨rfl, by rw [ht9]; exact hR.P, hR.D⟩, hR.sS.F ht9⟩) hR.sS.2.2 (Nat.le_of_ble_eq_true rfl) (Nat.le_of_ble_eq_true rfl)
          · obtain ⟨hq13, hw9, hs9⟩ := hw9
            have hR : Rep g ad A s S12 H1 locs := hR.call ht9 hB9 hw9 hS hFc
            have hsh := hsh.tr hs9
            replace h := h.1 r11 S12 hq13
            clear hB9 hz9 hk9 hvm9 ht9 hw9 hs9 hS
            generalize H1 = H at hR ⊢
            refine lv_istore (lv' := [(4, .int r11), (0, .ref (ad 0)), (1, .int v14_1), (2, .int v14_2), (3, .int v14_3)]) hx hb dX14_attributesOf_26 hl (by decide) rfl (fun ls hl => ?_)
            refine lv_aload_n hx hb dX14_attributesOf_28 rfl (lv_at hl 1 rfl) ?_
            refine lv_ldc2 hx hb hown (hts _ kx_211) dX14_attributesOf_29 ?_
            obtain ⟨Q14, EQ14, h0, h⟩ := h
            have hFc := rfree hR hA
            refine vx_calli (vx_runV (As := [.long (4 : Int64)]) (rest := []) ⟨hx, hb, hml, hown, hts⟩ (r_over l g ad H.size S12 (4 : Int64) hR.w  Q14 EQ14 h0) (cwV 1 hts (gd2_V kx_193 kx_194 kx_195 kx_177 kx_196) rfl rfl rfl (by decide +kernel) ⟨Nat.le_of_ble_eq_true rfl, Nat.le_of_ble_eq_true rfl⟩) ⟨rblind, va_recv hR.K hR.P (ci := 13) (q0 := 0) rfl (hR.at14 hR.w.1), fun U hU hW9 => rmk hU hW9 hR hex hE hFc⟩ rfl rfl hl.1 rfl (lv_room (Nat.le_of_ble_eq_true rfl)) dX14_attributesOf_32 ⟨Nat.le_of_ble_eq_true rfl, Nat.le_of_ble_eq_true rfl⟩) hR.sS (fun q _ h => hFc q h) hFc (fun q _ h => hFc q h) (fun E9 ce9 q9 u9 t9 H1 locs ht9 hvm9 hp9 hB9 hz9 hk9 hS hce9 hcv9 hcl9 => ?_) (fun r15 S16 t9 H1 locs ht9 hvm9 hw9 hB9 hz9 hk9 hS => ?_)
            · obtain ⟨hp9, hwx, hsx⟩ := hp9
              obtain ⟨rfl, hBx⟩ := hB9
              replace h := h.2 u9 hp9
              have hR : Rep g ad A s u9 H1 locs := hR.call ht9 hBx hwx hS hFc
              have hsh := hsh.tr hsx
              exact vx_out (E := RJxb5711) (q := q9) (fun x h9 => (hnt x h9).elim) hlocks hce9 hcv9 hcl9 (fun t9 ht9 ha9 => ⟨u9, ⟨h, hR.w, hsh⟩, ⟨rfl, by rw [ht9]; exact hR.P, hR.D⟩, hR.sS.F ht9⟩) hR.sS.2.2 (Nat.le_of_ble_eq_true rfl) (Nat.le_of_ble_eq_true rfl)
            · obtain ⟨hq17, hw9, hs9⟩ := hw9
              have hR : Rep g ad A s S16 H1 locs := hR.call ht9 hB9 hw9 hS hFc
              have hsh := hsh.tr hs9
              replace h := h.1 r15 S16 hq17
              clear hB9 hz9 hk9 hvm9 ht9 hw9 hs9 hS
              generalize H1 = H at hR ⊢
              refine lv_istore (lv' := [(5, .int r15), (4, .int r11), (0, .ref (ad 0)), (1, .int v14_1), (2, .int v14_2), (3, .int v14_3)]) hx hb dX14_attributesOf_35 hl (by decide) rfl (fun ls hl => ?_)
              refine lv_aload_n hx hb dX14_attributesOf_37 rfl (lv_at hl 2 rfl) ?_
              refine lv_aload_n hx hb dX14_attributesOf_38 rfl (lv_at hl 2 rfl) ?_
              refine lv_iload hx hb dX14_attributesOf_39 (lv_at hl 0 rfl) ?_
              obtain ⟨hv18, h⟩ := h
              have hFc := rfree hR hA
              refine va_calli (va_runV (As := [.int r15]) (rest := [.ref (ad 0)]) ⟨hx, hb, hml, hown, hts⟩ (r_four l g ad H.size S16 r15 hR.w  hv18) (cwV 1 hts (gd2_V kx_212 kx_213 kx_214 kx_177 kx_215) rfl rfl rfl (by decide +kernel) ⟨Nat.le_of_ble_eq_true rfl, Nat.le_of_ble_eq_true rfl⟩) ⟨rblind, va_recv hR.K hR.P (ci := 13) (q0 := 0) rfl (hR.at14 hR.w.1), fun U hU hW9 => rmk hU hW9 hR hex hE hFc⟩ rfl rfl hl.1 rfl (lv_room (Nat.le_of_ble_eq_true rfl)) dX14_attributesOf_41 ⟨Nat.le_of_ble_eq_true rfl, Nat.le_of_ble_eq_true rfl⟩) hR.sS (fun q _ h => hFc q h) hFc (fun r19 u9 t9 H1 locs ht9 hvm9 hw9 hB9 hz9 hk9 hS => ?_)
              have hR : Rep g ad A s S16 H1 locs := hR.call ht9 hB9 hR.w hS hFc
              obtain rfl : r19 = (f_four S16 r15) := hw9
              clear hB9 hz9 hk9 hvm9 ht9 hS
              generalize H1 = H at hR ⊢
              refine lv_i2l (v := ((f_four S16 r15).toInt64)) hx hb dX14_attributesOf_44 rfl ?_
              refine lv_ldc2 hx hb hown (hts _ kx_216) dX14_attributesOf_45 ?_
              refine lv_land hx hb dX14_attributesOf_48 ?_
              refine lv_topl (fun z21 ez21 => ?_)
              obtain rfl : z21 = (((f_four S16 r15).toInt64) &&& (4294967295 : Int64)) := ez21
              obtain ⟨Q22, EQ22, h0, h⟩ := h
              have hFc := rfree hR hA
              refine vx_calli (vx_runV (As := [.long (((f_four S16 r15).toInt64) &&& (4294967295 : Int64))]) (rest := []) ⟨hx, hb, hml, hown, hts⟩ (r_over l g ad H.size S16 (((f_four S16 r15).toInt64) &&& (4294967295 : Int64)) hR.w  Q22 EQ22 h0) (cwV 1 hts (gd2_V kx_193 kx_194 kx_195 kx_177 kx_196) rfl rfl rfl (by decide +kernel) ⟨Nat.le_of_ble_eq_true rfl, Nat.le_of_ble_eq_true rfl⟩) ⟨rblind, va_recv hR.K hR.P (ci := 13) (q0 := 0) rfl (hR.at14 hR.w.1), fun U hU hW9 => rmk hU hW9 hR hex hE hFc⟩ rfl rfl hl.1 rfl (lv_room (Nat.le_of_ble_eq_true rfl)) dX14_attributesOf_49 ⟨Nat.le_of_ble_eq_true rfl, Nat.le_of_ble_eq_true rfl⟩) hR.sS (fun q _ h => hFc q h) hFc (fun q _ h => hFc q h) (fun E9 ce9 q9 u9 t9 H1 locs ht9 hvm9 hp9 hB9 hz9 hk9 hS hce9 hcv9 hcl9 => ?_) (fun r23 S24 t9 H1 locs ht9 hvm9 hw9 hB9 hz9 hk9 hS => ?_)
              · obtain ⟨hp9, hwx, hsx⟩ := hp9
                obtain ⟨rfl, hBx⟩ := hB9
                replace h := h.2 u9 hp9
                have hR : Rep g ad A s u9 H1 locs := hR.call ht9 hBx hwx hS hFc
                have hsh := hsh.tr hsx
                exact vx_out (E := RJxb5711) (q := q9) (fun x h9 => (hnt x h9).elim) hlocks hce9 hcv9 hcl9 (fun t9 ht9 ha9 => ⟨u9, ⟨h, hR.w, hsh⟩, ⟨rfl, by rw [ht9]; exact hR.P, hR.D⟩, hR.sS.F ht9⟩) hR.sS.2.2 (Nat.le_of_ble_eq_true rfl) (Nat.le_of_ble_eq_true rfl)
              · obtain ⟨hq25, hw9, hs9⟩ := hw9
                have hR : Rep g ad A s S24 H1 locs := hR.call ht9 hB9 hw9 hS hFc
                have hsh := hsh.tr hs9
                replace h := h.1 r23 S24 hq25
                clear hB9 hz9 hk9 hvm9 ht9 hw9 hs9 hS
                generalize H1 = H at hR ⊢
                refine lv_pop hx hb dX14_attributesOf_52 rfl ?_
                refine lv_aload_n hx hb dX14_attributesOf_53 rfl (lv_at hl 2 rfl) ?_
                refine va_get (D := rD g) (ci := 13) (v := .ref (ad 10)) (C := RX14) (T := TX14) (N := 143) hx hb hts in2X14 hown hR.K hR.P 0 (hR.at14 hR.w.1) rfl 26 (by decide) (hts _ kx_217) (fun _ h9 => h9) (congrArg (fun z => some (vf ad z)) (hR.w.2.1 _ fin_26).1) dX14_attributesOf_54 ?_
                refine lv_aload_n hx hb dX14_attributesOf_57 rfl (lv_at hl 2 rfl) ?_
                refine va_get (D := rD g) (ci := 13) (v := .int (qI S24 0 25)) (C := RX14) (T := TX14) (N := 143) hx hb hts in2X14 hown hR.K hR.P 0 (hR.at14 hR.w.1) rfl 25 (by decide) (hts _ kx_206) (fun _ h9 => h9) rfl dX14_attributesOf_58 ?_
                refine lv_iload hx hb dX14_attributesOf_61 (lv_at hl 1 rfl) ?_
                obtain ⟨hv26, h⟩ := h
                refine va_iast hx hb hR.K hR.P hR.D hR.sS 10 1 (hR.atI (hR.w.2.1 _ fin_26).2.1) rfl (k_ixN (k_ix (n := 3000) (x := (qI S24 0 25)) (a := (qI S24 0 25).toInt) rfl hv26) (hR.w.2.1 _ fin_26).2.2) dX14_attributesOf_63 (fun H locs hP hD hS => ?_)
                have hR : Rep g ad A s (wI S24 10 (((qI S24 0 25).toInt).toNat) r11) H locs := hR.aI (hR.w.2.1 _ fin_26).2.1 hP hD hS
                obtain ⟨S27, eS27⟩ : ∃ z, z = wI S24 10 (((qI S24 0 25).toInt).toNat) r11 := ⟨_, rfl⟩
                rw [← eS27] at hR
                replace h := h S27 eS27
                have hsh : shy S S27 := by rw [eS27]; exact hsh
                refine lv_aload_n hx hb dX14_attributesOf_64 rfl (lv_at hl 2 rfl) ?_
                refine va_get (D := rD g) (ci := 13) (v := .ref (ad 11)) (C := RX14) (T := TX14) (N := 143) hx hb hts in2X14 hown hR.K hR.P 0 (hR.at14 hR.w.1) rfl 27 (by decide) (hts _ kx_218) (fun _ h9 => h9) (congrArg (fun z => some (vf ad z)) (hR.w.2.1 _ fin_27).1) dX14_attributesOf_65 ?_
                refine lv_aload_n hx hb dX14_attributesOf_68 rfl (lv_at hl 2 rfl) ?_
                refine va_get (D := rD g) (ci := 13) (v := .int (qI S27 0 25)) (C := RX14) (T := TX14) (N := 143) hx hb hts in2X14 hown hR.K hR.P 0 (hR.at14 hR.w.1) rfl 25 (by decide) (hts _ kx_206) (fun _ h9 => h9) rfl dX14_attributesOf_69 ?_
                refine lv_iload_n hx hb dX14_attributesOf_72 rfl (lv_at hl 3 rfl) ?_
                obtain ⟨hv28, h⟩ := h
                refine va_iast hx hb hR.K hR.P hR.D hR.sS 11 1 (hR.atI (hR.w.2.1 _ fin_27).2.1) rfl (k_ixN (k_ix (n := 3000) (x := (qI S27 0 25)) (a := (qI S27 0 25).toInt) rfl hv28) (hR.w.2.1 _ fin_27).2.2) dX14_attributesOf_73 (fun H locs hP hD hS => ?_)
                have hR : Rep g ad A s (wI S27 11 (((qI S27 0 25).toInt).toNat) v14_1) H locs := hR.aI (hR.w.2.1 _ fin_27).2.1 hP hD hS
                obtain ⟨S29, eS29⟩ : ∃ z, z = wI S27 11 (((qI S27 0 25).toInt).toNat) v14_1 := ⟨_, rfl⟩
                rw [← eS29] at hR
                replace h := h S29 eS29
                have hsh : shy S S29 := by rw [eS29]; exact hsh
                refine lv_aload_n hx hb dX14_attributesOf_74 rfl (lv_at hl 2 rfl) ?_
                refine lv_dup hx hb dX14_attributesOf_75 rfl ?_
                refine va_get (D := rD g) (ci := 13) (v := .int (qI S29 0 25)) (C := RX14) (T := TX14) (N := 143) hx hb hts in2X14 hown hR.K hR.P 0 (hR.at14 hR.w.1) rfl 25 (by decide) (hts _ kx_206) (fun _ h9 => h9) rfl dX14_attributesOf_76 ?_
                refine lv_iconst (v := 1) hx hb dX14_attributesOf_79 (by decide) ?_
                refine lv_iadd hx hb dX14_attributesOf_80 ?_
                refine lv_topi (fun z30 ez30 => ?_)
                obtain rfl : z30 = ((qI S29 0 25) + (1 : Int32)) := ez30
                refine va_put (D := rD g) (ci := 13) (v := .int ((qI S29 0 25) + (1 : Int32))) (ty := .int) (C := RX14) (T := TX14) (N := 143) hx hb hts in2X14 tyX14 tyX14_ok nmX14 hown hR.K hR.P hR.D hR.sS 0 (hR.at14 hR.w.1) rfl 25 (by decide) (hts _ kx_206) (fun _ h9 => h9) rfl (by decide +kernel) rfl rfl (Nat.le_of_ble_eq_true rfl) dX14_attributesOf_81 (fun H locs hP hD hS => ?_)
                have hR : Rep g ad A s (wI S29 0 25 ((qI S29 0 25) + (1 : Int32))) H locs := hR.pI hR.w.1 F14_s25 hP hD hS
                obtain ⟨S31, eS31⟩ : ∃ z, z = wI S29 0 25 ((qI S29 0 25) + (1 : Int32)) := ⟨_, rfl⟩
                rw [← eS31] at hR
                replace h := h S31 eS31
                have hsh : shy S S31 := by rw [eS31]; exact hsh
                obtain ⟨a32, ea32⟩ : ∃ z, z = (v14_3 + Int32.ofInt 1) := ⟨_, rfl⟩
                replace h := h a32 ea32
                refine lv_iinc (v := a32) (lv' := [(3, .int a32), (5, .int r15), (4, .int r11), (0, .ref (ad 0)), (1, .int v14_1), (2, .int v14_2)]) hx hb dX14_attributesOf_84 hl (k := 5) rfl ea32.symm (by decide) rfl (fun ls hl => ?_)
                refine lv_goto (tgt := 14) hx hb dX14_attributesOf_87 (by decide) ?_
                exact ih_14 S31 v14_1 v14_2 a32 _ _ ls h  hsh hR (lv_sub hl [3, 4, 5, 0] rfl)
    obtain ⟨n9, h⟩ := h
    exact J_14 n9 S3 x1 a8 0 _ _ ls h  hsh hR (lv_sub hl [2, 3, 1, 0] rfl)
def f_isEntry_J27 (S : MS) : Int32 := (0 : Int32)
def d_isEntry_J27 (S : MS) : Prop := True
def f_isEntry (S : MS) (x1 : Int32) (x2 : Int32) : Int32 := (if x1.toInt < 1 then f_isEntry_J27 S else (if (qI S 0 14).toInt ≤ x1.toInt then f_isEntry_J27 S else (if (qI S 4 x1.toInt.toNat).toInt = x2.toInt then (1 : Int32) else f_isEntry_J27 S)))
def d_isEntry (S : MS) (x1 : Int32) (x2 : Int32) : Prop := (if x1.toInt < 1 then d_isEntry_J27 S else (if (qI S 0 14).toInt ≤ x1.toInt then d_isEntry_J27 S else (((0 : Int) ≤ x1.toInt ∧ x1.toInt < 502) ∧ (if (qI S 4 x1.toInt.toNat).toInt = x2.toInt then True else d_isEntry_J27 S))))
set_option maxHeartbeats 2000000 in
set_option maxRecDepth 100000 in
theorem r_isEntry (l : Launch) (g : Gr) (ad : Nat → Nat) (sz : Nat) (S : MS) (x1 : Int32) (x2 : Int32) (hw : wfM S) (hd : d_isEntry S x1 x2) : Met l yX14_isEntry (wt2 yX14_isEntry cX14_isEntry 3 (some .boolean)) ({ frames := 0, cells := 0, slots := 0, locals := 0 }) (va_Pc [.ref (ad 0), .int x1, .int x2] (st_R g ad sz S)) (va_Qi (fun (r : Int32) (_ : Unit) => r = f_isEntry S x1 x2 ∧ (r = 0 ∨ r = 1)) (fun (_ : Unit) (t : State) => qE g ad (va_A (Wd g ad S) sz) S t) (va_A (Wd g ad S) sz)) 0 0 (va_A (Wd g ad S) sz) := by
  refine Met.ofW (cc := cX14_isEntry) (maxL := 3) (ret := (some .boolean)) (by decide) rfl ?_
  intro p e s m args below meth c s₁ B hml hv
  obtain ⟨rfl, hsz, hP, hK, hD0, hex, hE⟩ := hv
  have hx := B.exec
  have hb := B.bytes
  have hr := B.returns
  have hts0 := atoms_spec (ws := wt2 yX14_isEntry cX14_isEntry 3 (some .boolean)) B.pre
  have hts : ∀ w ∈ tb2, w.before _ s = true := fun w h => hts0 w (List.mem_cons_of_mem _ h)
  have hown : s.vm.findClass RX14 = some m.cls := findClass_of_methodNamed B.named
  subst hsz
  have hD := hD0.self (sz := s.heap.size)
  generalize hAe : va_A (Wd g ad S) s.heap.size = A at hD hE ⊢
  have hA : ∀ q : Nat, s.heap.size ≤ q → A q := fun q h => by rw [← hAe]; exact Or.inr h
  have hR : Rep g ad A s S s.heap [] := ⟨hK, hP, hD, va_S.rf, hw⟩
  clear hK hP hD hD0
  have hl := lv_entry ([.ref (ad 0), .int x1, .int x2]) (n := 3) (Nat.le_of_ble_eq_true rfl)
  rw [lg_entry_eq]
  generalize (lg_sl ([.ref (ad 0), .int x1, .int x2]) ++ List.replicate (3 - (lg_sl ([.ref (ad 0), .int x1, .int x2])).length) Slot.unset).toArray = ls at hl ⊢
  have hl : lv_has ls 3 [(0, .ref (ad 0)), (1, .int x1), (2, .int x2)] := hl
  obtain ⟨r0, hf⟩ : ∃ r0, f_isEntry S x1 x2 = r0 := ⟨_, rfl⟩
  have hf0 := hf
  unfold f_isEntry at hf
  unfold d_isEntry at hd
  refine lv_iload_n hx hb dX14_isEntry_0 rfl (lv_at hl 1 rfl) ?_
  refine lv_iconst (v := 1) hx hb dX14_isEntry_1 (by decide) ?_
  have J_27 : ∀ (H : Heap) (locs : List Loc) (ls : Array Slot), d_isEntry_J27 S → f_isEntry_J27 S = r0 → Rep g ad A s S H locs → lv_has ls 3 [] → W p l e (headSpec (wt2 yX14_isEntry cX14_isEntry 3 (some .boolean)) ({ frames := 0, cells := 0, slots := 0, locals := 0 })).room s m ([.ref (ad 0), .int x1, .int x2] : List Value).toArray below meth c H locs 0 0 (MQ below (va_Qi (fun (r : Int32) (_ : Unit) => r = f_isEntry S x1 x2 ∧ (r = 0 ∨ r = 1)) (fun (_ : Unit) (t : State) => qE g ad A S t) A) ([.ref (ad 0), .int x1, .int x2] : List Value).toArray s 0 0 A) (F0 m 27 ls []) := by
    intro H locs ls hd hf hR hl
    unfold d_isEntry_J27 at hd
    unfold f_isEntry_J27 at hf
    refine lv_iconst (v := 0) hx hb dX14_isEntry_27 (by decide) ?_
    exact W.zret (v := 0) hx hb hr (nz (Or.inl rfl)) (fun t9 ht9 hW9 => ⟨⟨_, (), rfl, ⟨hf.trans hf0.symm, (Or.inl rfl)⟩, ⟨by rw [ht9]; exact hR.P, hR.D⟩⟩, hR.sS.F ht9⟩) hR.sS.2.2 dX14_isEntry_28
  refine lv_icmp_lt (tgt := 27) hx hb dX14_isEntry_2 (by decide) (fun c1 => ?_) (fun c1 => ?_)
  · rw [if_pos (k_lt rfl (by decide) c1)] at hf
    (try rw [if_pos (k_lt rfl (by decide) c1)] at hd)
    exact J_27 _ _ ls hd hf  hR (lv_sub hl [] rfl)
  · rw [if_neg (k_nlt rfl (by decide) c1)] at hf
    (try rw [if_neg (k_nlt rfl (by decide) c1)] at hd)
    refine lv_iload_n hx hb dX14_isEntry_5 rfl (lv_at hl 1 rfl) ?_
    refine lv_aload_n hx hb dX14_isEntry_6 rfl (lv_at hl 0 rfl) ?_
    refine va_get (D := rD g) (ci := 13) (v := .int (qI S 0 14)) (C := RX14) (T := TX14) (N := 143) hx hb hts in2X14 hown hR.K hR.P 0 (hR.at14 hR.w.1) rfl 14 (by decide) (hts _ kx_197) (fun _ h9 => h9) rfl dX14_isEntry_7 ?_
    refine lv_icmp_ge (tgt := 27) hx hb dX14_isEntry_10 (by decide) (fun c2 => ?_) (fun c2 => ?_)
    · rw [if_pos (k_le rfl rfl c2)] at hf
      (try rw [if_pos (k_le rfl rfl c2)] at hd)
      exact J_27 _ _ ls hd hf  hR (lv_sub hl [] rfl)
    · rw [if_neg (k_nle rfl rfl c2)] at hf
      (try rw [if_neg (k_nle rfl rfl c2)] at hd)
      refine lv_aload_n hx hb dX14_isEntry_13 rfl (lv_at hl 0 rfl) ?_
      refine va_get (D := rD g) (ci := 13) (v := .ref (ad 4)) (C := RX14) (T := TX14) (N := 143) hx hb hts in2X14 hown hR.K hR.P 0 (hR.at14 hR.w.1) rfl 15 (by decide) (hts _ kx_202) (fun _ h9 => h9) (congrArg (fun z => some (vf ad z)) (hR.w.2.1 _ fin_15).1) dX14_isEntry_14 ?_
      refine lv_iload_n hx hb dX14_isEntry_17 rfl (lv_at hl 1 rfl) ?_
      obtain ⟨hv3, hd⟩ := hd
      refine va_iald hx hb hR.K hR.P 4 1 (hR.atI (hR.w.2.1 _ fin_15).2.1) rfl (k_ixN (k_ix (n := 502) (x := x1) (a := x1.toInt) rfl hv3) (hR.w.2.1 _ fin_15).2.2) dX14_isEntry_18 ?_
      refine lv_topi (fun z4 ez4 => ?_)
      obtain rfl : z4 = (qI S 4 x1.toInt.toNat) := ez4
      refine lv_iload_n hx hb dX14_isEntry_19 rfl (lv_at hl 2 rfl) ?_
      refine lv_icmp_ne (tgt := 27) hx hb dX14_isEntry_20 (by decide) (fun c5 => ?_) (fun c5 => ?_)
      · rw [if_neg (k_ne rfl rfl c5)] at hf
        (try rw [if_neg (k_ne rfl rfl c5)] at hd)
        exact J_27 _ _ ls hd hf  hR (lv_sub hl [] rfl)
      · rw [if_pos (k_eq rfl rfl c5)] at hf
        (try rw [if_pos (k_eq rfl rfl c5)] at hd)
        refine lv_iconst (v := 1) hx hb dX14_isEntry_23 (by decide) ?_
        refine lv_goto (tgt := 28) hx hb dX14_isEntry_24 (by decide) ?_
        exact W.zret (v := 1) hx hb hr (nz (Or.inr rfl)) (fun t9 ht9 hW9 => ⟨⟨_, (), rfl, ⟨hf.trans hf0.symm, (Or.inr rfl)⟩, ⟨by rw [ht9]; exact hR.P, hR.D⟩⟩, hR.sS.F ht9⟩) hR.sS.2.2 dX14_isEntry_28
