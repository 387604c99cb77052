def wX7_fileAttributesFit (S : MS) (Q : Int32 → MS → Prop) : Prop := (∀ S1, S1 = wI S 9 16 (qI S 9 15) → qT S 9 = 46 → wfC S1 → (∃ Q2, wX7_attributesFit S1 Q2 ∧ ∀ r3 S4, Q2 r3 S4 → wfC S4 → shy S1 S4 → Q r3 S4))
set_option maxHeartbeats 2000000 in
set_option maxRecDepth 100000 in
theorem rX7_fileAttributesFit (l : Launch) (g : Gr) (ad : Nat → Nat) (sz : Nat) (S : MS) (hw : wfC S) (Q : Int32 → MS → Prop) (h : wX7_fileAttributesFit S Q) : Met l yX7_fileAttributesFit (wt yX7_fileAttributesFit cX7_fileAttributesFit 1 (some .boolean)) ({ frames := 3, cells := 0, slots := 0, locals := 67 }) (va_Pc [.ref (ad 9)] (st_C g ad sz S)) (va_Qi (fun (r : Int32) (u : MS) => Q r u ∧ wfC u ∧ shy S u ∧ (r = 0 ∨ r = 1)) (fun (u : MS) (t : State) => qEC g ad (va_A (WdC g ad S) sz) u t) (va_A (WdC g ad S) sz)) 0 0 (va_A (WdC g ad S) sz) := by
  refine Met.ofW (cc := cX7_fileAttributesFit) (maxL := 1) (ret := (some .boolean)) (by decide) rfl ?_
  intro p e s m args below meth c s₁ B hml hv
  obtain ⟨rfl, hsz, hP, hK, hD0, hex, hE⟩ := hv
  have hx := B.exec
  have hb := B.bytes
  have hr := B.returns
  have hts0 := atoms_spec (ws := wt yX7_fileAttributesFit cX7_fileAttributesFit 1 (some .boolean)) B.pre
  have hts : ∀ w ∈ tb, w.before _ s = true := fun w h => hts0 w (List.mem_cons_of_mem _ h)
  have hown : s.vm.findClass RX7 = some m.cls := findClass_of_methodNamed B.named
  subst hsz
  have hD := hD0.self (sz := s.heap.size)
  generalize hAe : va_A (WdC g ad S) s.heap.size = A at hD hE ⊢
  have hA : ∀ q : Nat, s.heap.size ≤ q → A q := fun q h => by rw [← hAe]; exact Or.inr h
  have hR : RepC g ad A s S s.heap [] := ⟨hK, hP, hD, va_S.rf, hw⟩
  clear hK hP hD hD0
  have hl := lv_entry ([.ref (ad 9)]) (n := 1) (Nat.le_of_ble_eq_true rfl)
  rw [lg_entry_eq]
  generalize (lg_sl ([.ref (ad 9)]) ++ List.replicate (1 - (lg_sl ([.ref (ad 9)])).length) Slot.unset).toArray = ls at hl ⊢
  have hl : lv_has ls 1 [(0, .ref (ad 9))] := hl
  have hsh : shy S S := shy.rf
  unfold wX7_fileAttributesFit at h
  refine lv_aload_n hx hb dX7_fileAttributesFit_0 rfl (lv_at hl 0 rfl) ?_
  refine lv_aload_n hx hb dX7_fileAttributesFit_1 rfl (lv_at hl 0 rfl) ?_
  refine va_get (D := rD g) (ci := 6) (v := .int (qI S 9 15)) (C := RX7) (T := TX7) (N := 17) hx hb hts inX7 hown hR.K hR.P 9 (hR.at46 (hR.w.2.1 _ finC_2).2.1) rfl 15 (by decide) (hts _ kw_1273) (fun _ h9 => h9) rfl dX7_fileAttributesFit_2 ?_
  refine va_put (D := rD g) (ci := 6) (v := .int (qI S 9 15)) (ty := .int) (C := RX7) (T := TX7) (N := 17) hx hb hts inX7 tyX7 tyX7_ok nmX7 hown hR.K hR.P hR.D hR.sS 9 (hR.at46 (hR.w.2.1 _ finC_2).2.1) rfl 16 (by decide) (hts _ kw_1323) (fun _ h9 => h9) rfl (by decide +kernel) rfl rfl (Nat.le_of_ble_eq_true rfl) dX7_fileAttributesFit_5 (fun H locs hP hD hS => ?_)
  have hTk9 : qT S 9 = 46 := (hR.w.2.1 _ finC_2).2.1
  have hR : RepC g ad A s (wI S 9 16 (qI S 9 15)) H locs := hR.pI46 (hR.w.2.1 _ finC_2).2.1 FX7_s16 (fun q9 => absurd q9 (by decide)) hP hD hS
  obtain ⟨S1, eS1⟩ : ∃ z, z = wI S 9 16 (qI S 9 15) := ⟨_, rfl⟩
  rw [← eS1] at hR
  replace h := h S1 eS1 hTk9 hR.w
  have hsh : shy S S1 := by rw [eS1]; exact hsh
  refine lv_aload_n hx hb dX7_fileAttributesFit_8 rfl (lv_at hl 0 rfl) ?_
  obtain ⟨Q2, h0, h⟩ := h
  have hFc := cfree hR hA
  refine va_calli (va_runV (As := []) (rest := []) ⟨hx, hb, hml, hown, hts⟩ (rX7_attributesFit l g ad H.size S1 hR.w  Q2 h0) (cwV 0 hts (gd_V kw_1324 kw_1270 kw_1271 kw_710 kw_1269) rfl rfl rfl (by decide +kernel) ⟨Nat.le_of_ble_eq_true rfl, Nat.le_of_ble_eq_true rfl⟩) ⟨cblind, va_recv hR.K hR.P (ci := 6) (q0 := 9) rfl (hR.at46 (hR.w.2.1 _ finC_2).2.1), fun U hU hW9 => cmk hU hW9 hR hex hE hFc⟩ rfl rfl hl.1 rfl (lv_room (Nat.le_of_ble_eq_true rfl)) dX7_fileAttributesFit_9 ⟨Nat.le_of_ble_eq_true rfl, Nat.le_of_ble_eq_true rfl⟩) hR.sS (fun q _ h => hFc q h) hFc (fun r3 S4 t9 H1 locs ht9 hvm9 hw9 hB9 hz9 hk9 hS => ?_)
  obtain ⟨hq5, hw9, hs9, hz_r3⟩ := hw9
  have hR : RepC g ad A s S4 H1 locs := hR.call ht9 hB9 hw9 hS hFc
  have hsh := hsh.tr hs9
  replace h := h r3 S4 hq5 hw9 hs9
  clear hB9 hz9 hk9 hvm9 ht9 hw9 hs9 hS
  generalize H1 = H at hR ⊢
  exact W.zret (v := r3) hx hb hr (nz hz_r3) (fun t9 ht9 hW9 => ⟨⟨_, S4, rfl, ⟨h, hR.w, hsh, hz_r3⟩, ⟨by rw [ht9]; exact hR.P, hR.D⟩⟩, hR.sS.F ht9⟩) hR.sS.2.2 dX7_fileAttributesFit_12
def w_X7_entriesPoint_L2 (Q : Int32 → MS → Prop) : Nat → MS → Int32 → Prop
  | 0, _, _ => False
  | n2 + 1, U2, v2_1 => (wfC U2 → (((qI U2 9 5).toInt ≤ v2_1.toInt → Q (1 : Int32) U2) ∧ (¬ (qI U2 9 5).toInt ≤ v2_1.toInt → (∃ Q2, wX7_entryPoints U2 v2_1 Q2 ∧ ∀ r3 S4, Q2 r3 S4 → wfC S4 → shy U2 S4 → ((r3.toInt = 0 → (d_X7_entryAt S4 v2_1 ∧ (∃ Q11, wX7_breaks S4 (6 : Int32) (fX7_entryAt S4 v2_1) Q11 ∧ ∀ r12 S13, Q11 r12 S13 → wfC S13 → shy S4 S13 → Q r12 S13))) ∧ (¬ r3.toInt = 0 → (∀ a7 : Int32, a7 = (v2_1 + Int32.ofInt 1) → (w_X7_entriesPoint_L2 Q n2) S4 a7)))))))
def wX7_entriesPoint (S : MS) (Q : Int32 → MS → Prop) : Prop := (∃ n, w_X7_entriesPoint_L2 Q n S 1)
set_option maxHeartbeats 2000000 in
set_option maxRecDepth 100000 in
theorem rX7_entriesPoint (l : Launch) (g : Gr) (ad : Nat → Nat) (sz : Nat) (S : MS) (hw : wfC S) (Q : Int32 → MS → Prop) (h : wX7_entriesPoint S Q) : Met l yX7_entriesPoint (wt yX7_entriesPoint cX7_entriesPoint 2 (some .boolean)) ({ frames := 3, cells := 0, slots := 0, locals := 63 }) (va_Pc [.ref (ad 9)] (st_C g ad sz S)) (va_Qi (fun (r : Int32) (u : MS) => Q r u ∧ wfC u ∧ shy S u ∧ (r = 0 ∨ r = 1)) (fun (u : MS) (t : State) => qEC g ad (va_A (WdC g ad S) sz) u t) (va_A (WdC g ad S) sz)) 0 0 (va_A (WdC g ad S) sz) := by
  refine Met.ofW (cc := cX7_entriesPoint) (maxL := 2) (ret := (some .boolean)) (by decide) rfl ?_
  intro p e s m args below meth c s₁ B hml hv
  obtain ⟨rfl, hsz, hP, hK, hD0, hex, hE⟩ := hv
  have hx := B.exec
  have hb := B.bytes
  have hr := B.returns
  have hts0 := atoms_spec (ws := wt yX7_entriesPoint cX7_entriesPoint 2 (some .boolean)) B.pre
  have hts : ∀ w ∈ tb, w.before _ s = true := fun w h => hts0 w (List.mem_cons_of_mem _ h)
  have hown : s.vm.findClass RX7 = some m.cls := findClass_of_methodNamed B.named
  subst hsz
  have hD := hD0.self (sz := s.heap.size)
  generalize hAe : va_A (WdC g ad S) s.heap.size = A at hD hE ⊢
  have hA : ∀ q : Nat, s.heap.size ≤ q → A q := fun q h => by rw [← hAe]; exact Or.inr h
  have hR : RepC g ad A s S s.heap [] := ⟨hK, hP, hD, va_S.rf, hw⟩
  clear hK hP hD hD0
  have hl := lv_entry ([.ref (ad 9)]) (n := 2) (Nat.le_of_ble_eq_true rfl)
  rw [lg_entry_eq]
  generalize (lg_sl ([.ref (ad 9)]) ++ List.replicate (2 - (lg_sl ([.ref (ad 9)])).length) Slot.unset).toArray = ls at hl ⊢
  have hl : lv_has ls 2 [(0, .ref (ad 9))] := hl
  have hsh : shy S S := shy.rf
  unfold wX7_entriesPoint at h
  refine lv_iconst (v := 1) hx hb dX7_entriesPoint_0 (by decide) ?_
  refine lv_istore_n (lv' := [(1, .int 1), (0, .ref (ad 9))]) hx hb dX7_entriesPoint_1 rfl hl (by decide) rfl (fun ls hl => ?_)
  have J_2 : ∀ (n2 : Nat) (U2 : MS) (v2_1 : Int32) (H : Heap) (locs : List Loc) (ls : Array Slot), w_X7_entriesPoint_L2 Q n2 U2 v2_1 → shy S U2 → RepC g ad A s U2 H locs → lv_has ls 2 [(0, .ref (ad 9)), (1, .int v2_1)] → W p l e (headSpec (wt yX7_entriesPoint cX7_entriesPoint 2 (some .boolean)) ({ frames := 3, cells := 0, slots := 0, locals := 63 })).room s m ([.ref (ad 9)] : List Value).toArray below meth c H locs 0 0 (MQ below (va_Qi (fun (r : Int32) (u : MS) => Q r u ∧ wfC u ∧ shy S u ∧ (r = 0 ∨ r = 1)) (fun (u : MS) (t : State) => qEC g ad A u t) A) ([.ref (ad 9)] : List Value).toArray s 0 0 A) (F0 m 2 ls []) := by
    intro n2
    induction n2 with
    | zero => intro U2 v2_1 H locs ls h hsh hR hl; unfold w_X7_entriesPoint_L2 at h; exact h.elim
    | succ n2 ih_2 =>
      intro U2 v2_1 H locs ls h hsh hR hl
      unfold w_X7_entriesPoint_L2 at h
      replace h := h hR.w
      refine lv_iload_n hx hb dX7_entriesPoint_2 rfl (lv_at hl 1 rfl) ?_
      refine lv_aload_n hx hb dX7_entriesPoint_3 rfl (lv_at hl 0 rfl) ?_
      refine va_get (D := rD g) (ci := 6) (v := .int (qI U2 9 5)) (C := RX7) (T := TX7) (N := 17) hx hb hts inX7 hown hR.K hR.P 9 (hR.at46 (hR.w.2.1 _ finC_2).2.1) rfl 5 (by decide) (hts _ kw_1294) (fun _ h9 => h9) rfl dX7_entriesPoint_4 ?_
      refine lv_icmp_ge (tgt := 36) hx hb dX7_entriesPoint_7 (by decide) (fun c1 => ?_) (fun c1 => ?_)
      · replace h := h.1 (k_le rfl rfl c1)
        refine lv_iconst (v := 1) hx hb dX7_entriesPoint_36 (by decide) ?_
        exact W.zret (v := 1) hx hb hr (nz (Or.inr rfl)) (fun t9 ht9 hW9 => ⟨⟨_, U2, rfl, ⟨h, hR.w, hsh, (Or.inr rfl)⟩, ⟨by rw [ht9]; exact hR.P, hR.D⟩⟩, hR.sS.F ht9⟩) hR.sS.2.2 dX7_entriesPoint_37
      · replace h := h.2 (k_nle rfl rfl c1)
        refine lv_aload_n hx hb dX7_entriesPoint_10 rfl (lv_at hl 0 rfl) ?_
        refine lv_iload_n hx hb dX7_entriesPoint_11 rfl (lv_at hl 1 rfl) ?_
        obtain ⟨Q2, h0, h⟩ := h
        have hFc := cfree hR hA
        refine va_calli (va_runV (As := [.int v2_1]) (rest := []) ⟨hx, hb, hml, hown, hts⟩ (rX7_entryPoints l g ad H.size U2 v2_1 hR.w  Q2 h0) (cwV 1 hts (gd_V kw_1295 kw_1311 kw_1312 kw_710 kw_1310) rfl rfl rfl (by decide +kernel) ⟨Nat.le_of_ble_eq_true rfl, Nat.le_of_ble_eq_true rfl⟩) ⟨cblind, va_recv hR.K hR.P (ci := 6) (q0 := 9) rfl (hR.at46 (hR.w.2.1 _ finC_2).2.1), fun U hU hW9 => cmk hU hW9 hR hex hE hFc⟩ rfl rfl hl.1 rfl (lv_room (Nat.le_of_ble_eq_true rfl)) dX7_entriesPoint_12 ⟨Nat.le_of_ble_eq_true rfl, Nat.le_of_ble_eq_true rfl⟩) hR.sS (fun q _ h => hFc q h) hFc (fun r3 S4 t9 H1 locs ht9 hvm9 hw9 hB9 hz9 hk9 hS => ?_)
        obtain ⟨hq5, hw9, hs9, hz_r3⟩ := hw9
        have hR : RepC g ad A s S4 H1 locs := hR.call ht9 hB9 hw9 hS hFc
        have hsh := hsh.tr hs9
        replace h := h r3 S4 hq5 hw9 hs9
        clear hB9 hz9 hk9 hvm9 ht9 hw9 hs9 hS
        generalize H1 = H at hR ⊢
        refine lv_if_ne (tgt := 30) hx hb dX7_entriesPoint_15 (by decide) (fun c6 => ?_) (fun c6 => ?_)
        · replace h := h.2 (k_ne rfl (by decide) c6)
          obtain ⟨a7, ea7⟩ : ∃ z, z = (v2_1 + Int32.ofInt 1) := ⟨_, rfl⟩
          replace h := h a7 ea7
          refine lv_iinc (v := a7) (lv' := [(1, .int a7), (0, .ref (ad 9))]) hx hb dX7_entriesPoint_30 hl (k := 1) rfl ea7.symm (by decide) rfl (fun ls hl => ?_)
          refine lv_goto (tgt := 2) hx hb dX7_entriesPoint_33 (by decide) ?_
          exact ih_2 S4 a7 _ _ ls h  hsh hR (lv_sub hl [1, 0] rfl)
        · replace h := h.1 (k_eq rfl (by decide) c6)
          refine lv_aload_n hx hb dX7_entriesPoint_18 rfl (lv_at hl 0 rfl) ?_
          refine lv_bipush (v := 6) hx hb dX7_entriesPoint_19 (by decide) ?_
          refine lv_aload_n hx hb dX7_entriesPoint_21 rfl (lv_at hl 0 rfl) ?_
          refine lv_iload_n hx hb dX7_entriesPoint_22 rfl (lv_at hl 1 rfl) ?_
          obtain ⟨hv8, h⟩ := h
          have hFc := cfree hR hA
          refine va_calli (va_runV (As := [.int v2_1]) (rest := [.int 6, .ref (ad 9)]) ⟨hx, hb, hml, hown, hts⟩ (rX7_entryAt l g ad H.size S4 v2_1 hR.w  hv8) (cwV 1 hts (gd_V kw_1296 kw_1298 kw_1299 kw_710 kw_1297) rfl rfl rfl (by decide +kernel) ⟨Nat.le_of_ble_eq_true rfl, Nat.le_of_ble_eq_true rfl⟩) ⟨cblind, va_recv hR.K hR.P (ci := 6) (q0 := 9) rfl (hR.at46 (hR.w.2.1 _ finC_2).2.1), fun U hU hW9 => cmk hU hW9 hR hex hE hFc⟩ rfl rfl hl.1 rfl (lv_room (Nat.le_of_ble_eq_true rfl)) dX7_entriesPoint_23 ⟨Nat.le_of_ble_eq_true rfl, Nat.le_of_ble_eq_true rfl⟩) hR.sS (fun q _ h => hFc q h) hFc (fun r9 u9 t9 H1 locs ht9 hvm9 hw9 hB9 hz9 hk9 hS => ?_)
          have hR : RepC g ad A s S4 H1 locs := hR.call ht9 hB9 hR.w hS hFc
          obtain rfl : r9 = (fX7_entryAt S4 v2_1) := hw9
          clear hB9 hz9 hk9 hvm9 ht9 hS
          generalize H1 = H at hR ⊢
          obtain ⟨Q11, h0, h⟩ := h
          have hFc := cfree hR hA
          refine va_calli (va_runV (As := [.int 6, .int (fX7_entryAt S4 v2_1)]) (rest := []) ⟨hx, hb, hml, hown, hts⟩ (rX7_breaks l g ad H.size S4 (6 : Int32) (fX7_entryAt S4 v2_1) hR.w  Q11 h0) (cwV 2 hts (gd_V kw_1276 kw_1278 kw_1279 kw_710 kw_1277) rfl rfl rfl (by decide +kernel) ⟨Nat.le_of_ble_eq_true rfl, Nat.le_of_ble_eq_true rfl⟩) ⟨cblind, va_recv hR.K hR.P (ci := 6) (q0 := 9) rfl (hR.at46 (hR.w.2.1 _ finC_2).2.1), fun U hU hW9 => cmk hU hW9 hR hex hE hFc⟩ rfl rfl hl.1 rfl (lv_room (Nat.le_of_ble_eq_true rfl)) dX7_entriesPoint_26 ⟨Nat.le_of_ble_eq_true rfl, Nat.le_of_ble_eq_true rfl⟩) hR.sS (fun q _ h => hFc q h) hFc (fun r12 S13 t9 H1 locs ht9 hvm9 hw9 hB9 hz9 hk9 hS => ?_)
          obtain ⟨hq14, hw9, hs9, hz_r12⟩ := hw9
          have hR : RepC g ad A s S13 H1 locs := hR.call ht9 hB9 hw9 hS hFc
          have hsh := hsh.tr hs9
          replace h := h r12 S13 hq14 hw9 hs9
          clear hB9 hz9 hk9 hvm9 ht9 hw9 hs9 hS
          generalize H1 = H at hR ⊢
          exact W.zret (v := r12) hx hb hr (nz hz_r12) (fun t9 ht9 hW9 => ⟨⟨_, S13, rfl, ⟨h, hR.w, hsh, hz_r12⟩, ⟨by rw [ht9]; exact hR.P, hR.D⟩⟩, hR.sS.F ht9⟩) hR.sS.2.2 dX7_entriesPoint_29
  obtain ⟨n9, h⟩ := h
  exact J_2 n9 S 1 _ _ ls h  hsh hR (lv_sub hl [1, 0] rfl)
def w_X7_namesHold_L2 (Q : Int32 → MS → Prop) : Nat → MS → Int32 → Prop
  | 0, _, _ => False
  | n2 + 1, U2, v2_1 => (wfC U2 → ((((qI U2 9 7) + (qI U2 9 8)).toInt ≤ v2_1.toInt → (∃ Q3, wX7_attributeNamesHold U2 (qI U2 9 16) Q3 ∧ ∀ r4 S5, Q3 r4 S5 → wfC S5 → shy U2 S5 → Q r4 S5)) ∧ (¬ ((qI U2 9 7) + (qI U2 9 8)).toInt ≤ v2_1.toInt → (d_X7_memberPlace U2 v2_1 ∧ (∀ a10 : Int32, a10 = (fX7_memberPlace U2 v2_1) → (∃ Q12, wX7_isNameAt U2 (a10 + (2 : Int32)) Q12 ∧ ∀ r13 S14, Q12 r13 S14 → wfC S14 → shy U2 S14 → ((r13.toInt = 0 → Q (0 : Int32) S14) ∧ (¬ r13.toInt = 0 → (∃ Q18, wX7_isNameAt S14 (a10 + (4 : Int32)) Q18 ∧ ∀ r19 S20, Q18 r19 S20 → wfC S20 → shy S14 S20 → ((r19.toInt = 0 → Q (0 : Int32) S20) ∧ (¬ r19.toInt = 0 → (∃ Q24, wX7_attributeNamesHold S20 (a10 + (6 : Int32)) Q24 ∧ ∀ r25 S26, Q24 r25 S26 → wfC S26 → shy S20 S26 → ((r25.toInt = 0 → Q (0 : Int32) S26) ∧ (¬ r25.toInt = 0 → (∀ a29 : Int32, a29 = (v2_1 + Int32.ofInt 1) → (w_X7_namesHold_L2 Q n2) S26 a29)))))))))))))))
def wX7_namesHold (S : MS) (Q : Int32 → MS → Prop) : Prop := (∃ n, w_X7_namesHold_L2 Q n S 0)
set_option maxHeartbeats 2000000 in
set_option maxRecDepth 100000 in
theorem rX7_namesHold (l : Launch) (g : Gr) (ad : Nat → Nat) (sz : Nat) (S : MS) (hw : wfC S) (Q : Int32 → MS → Prop) (h : wX7_namesHold S Q) : Met l yX7_namesHold (wt yX7_namesHold cX7_namesHold 3 (some .boolean)) ({ frames := 4, cells := 0, slots := 0, locals := 87 }) (va_Pc [.ref (ad 9)] (st_C g ad sz S)) (va_Qi (fun (r : Int32) (u : MS) => Q r u ∧ wfC u ∧ shy S u ∧ (r = 0 ∨ r = 1)) (fun (u : MS) (t : State) => qEC g ad (va_A (WdC g ad S) sz) u t) (va_A (WdC g ad S) sz)) 0 0 (va_A (WdC g ad S) sz) := by
  refine Met.ofW (cc := cX7_namesHold) (maxL := 3) (ret := (some .boolean)) (by decide) rfl ?_
  intro p e s m args below meth c s₁ B hml hv
  obtain ⟨rfl, hsz, hP, hK, hD0, hex, hE⟩ := hv
  have hx := B.exec
  have hb := B.bytes
  have hr := B.returns
  have hts0 := atoms_spec (ws := wt yX7_namesHold cX7_namesHold 3 (some .boolean)) B.pre
  have hts : ∀ w ∈ tb, w.before _ s = true := fun w h => hts0 w (List.mem_cons_of_mem _ h)
  have hown : s.vm.findClass RX7 = some m.cls := findClass_of_methodNamed B.named
  subst hsz
  have hD := hD0.self (sz := s.heap.size)
  generalize hAe : va_A (WdC g ad S) s.heap.size = A at hD hE ⊢
  have hA : ∀ q : Nat, s.heap.size ≤ q → A q := fun q h => by rw [← hAe]; exact Or.inr h
  have hR : RepC g ad A s S s.heap [] := ⟨hK, hP, hD, va_S.rf, hw⟩
  clear hK hP hD hD0
  have hl := lv_entry ([.ref (ad 9)]) (n := 3) (Nat.le_of_ble_eq_true rfl)
  rw [lg_entry_eq]
  generalize (lg_sl ([.ref (ad 9)]) ++ List.replicate (3 - (lg_sl ([.ref (ad 9)])).length) Slot.unset).toArray = ls at hl ⊢
  have hl : lv_has ls 3 [(0, .ref (ad 9))] := hl
  have hsh : shy S S := shy.rf
  unfold wX7_namesHold at h
  refine lv_iconst (v := 0) hx hb dX7_namesHold_0 (by decide) ?_
  refine lv_istore_n (lv' := [(1, .int 0), (0, .ref (ad 9))]) hx hb dX7_namesHold_1 rfl hl (by decide) rfl (fun ls hl => ?_)
  have J_2 : ∀ (n2 : Nat) (U2 : MS) (v2_1 : Int32) (H : Heap) (locs : List Loc) (ls : Array Slot), w_X7_namesHold_L2 Q n2 U2 v2_1 → shy S U2 → RepC g ad A s U2 H locs → lv_has ls 3 [(0, .ref (ad 9)), (1, .int v2_1)] → W p l e (headSpec (wt yX7_namesHold cX7_namesHold 3 (some .boolean)) ({ frames := 4, cells := 0, slots := 0, locals := 87 })).room s m ([.ref (ad 9)] : List Value).toArray below meth c H locs 0 0 (MQ below (va_Qi (fun (r : Int32) (u : MS) => Q r u ∧ wfC u ∧ shy S u ∧ (r = 0 ∨ r = 1)) (fun (u : MS) (t : State) => qEC g ad A u t) A) ([.ref (ad 9)] : List Value).toArray s 0 0 A) (F0 m 2 ls []) := by
    intro n2
    induction n2 with
    | zero => intro U2 v2_1 H locs ls h hsh hR hl; unfold w_X7_namesHold_L2 at h; exact h.elim
    | succ n2 ih_2 =>
      intro U2 v2_1 H locs ls h hsh hR hl
      unfold w_X7_namesHold_L2 at h
      replace h := h hR.w
      refine lv_iload_n hx hb dX7_namesHold_2 rfl (lv_at hl 1 rfl) ?_
      refine lv_aload_n hx hb dX7_namesHold_3 rfl (lv_at hl 0 rfl) ?_
      refine va_get (D := rD g) (ci := 6) (v := .int (qI U2 9 7)) (C := RX7) (T := TX7) (N := 17) hx hb hts inX7 hown hR.K hR.P 9 (hR.at46 (hR.w.2.1 _ finC_2).2.1) rfl 7 (by decide) (hts _ kw_1287) (fun _ h9 => h9) rfl dX7_namesHold_4 ?_
      refine lv_aload_n hx hb dX7_namesHold_7 rfl (lv_at hl 0 rfl) ?_
      refine va_get (D := rD g) (ci := 6) (v := .int (qI U2 9 8)) (C := RX7) (T := TX7) (N := 17) hx hb hts inX7 hown hR.K hR.P 9 (hR.at46 (hR.w.2.1 _ finC_2).2.1) rfl 8 (by decide) (hts _ kw_1285) (fun _ h9 => h9) rfl dX7_namesHold_8 ?_
      refine lv_iadd hx hb dX7_namesHold_11 ?_
      refine lv_topi (fun z1 ez1 => ?_)
      obtain rfl : z1 = ((qI U2 9 7) + (qI U2 9 8)) := ez1
      refine lv_icmp_ge (tgt := 60) hx hb dX7_namesHold_12 (by decide) (fun c2 => ?_) (fun c2 => ?_)
      · replace h := h.1 (k_le rfl rfl c2)
        refine lv_aload_n hx hb dX7_namesHold_60 rfl (lv_at hl 0 rfl) ?_
        refine lv_aload_n hx hb dX7_namesHold_61 rfl (lv_at hl 0 rfl) ?_
        refine va_get (D := rD g) (ci := 6) (v := .int (qI U2 9 16)) (C := RX7) (T := TX7) (N := 17) hx hb hts inX7 hown hR.K hR.P 9 (hR.at46 (hR.w.2.1 _ finC_2).2.1) rfl 16 (by decide) (hts _ kw_1323) (fun _ h9 => h9) rfl dX7_namesHold_62 ?_
        obtain ⟨Q3, h0, h⟩ := h
        have hFc := cfree hR hA
        refine va_calli (va_runV (As := [.int (qI U2 9 16)]) (rest := []) ⟨hx, hb, hml, hown, hts⟩ (rX7_attributeNamesHold l g ad H.size U2 (qI U2 9 16) hR.w  Q3 h0) (cwV 1 hts (gd_V kw_1417 kw_1264 kw_1265 kw_710 kw_1263) rfl rfl rfl (by decide +kernel) ⟨Nat.le_of_ble_eq_true rfl, Nat.le_of_ble_eq_true rfl⟩) ⟨cblind, va_recv hR.K hR.P (ci := 6) (q0 := 9) rfl (hR.at46 (hR.w.2.1 _ finC_2).2.1), fun U hU hW9 => cmk hU hW9 hR hex hE hFc⟩ rfl rfl hl.1 rfl (lv_room (Nat.le_of_ble_eq_true rfl)) dX7_namesHold_65 ⟨Nat.le_of_ble_eq_true rfl, Nat.le_of_ble_eq_true rfl⟩) hR.sS (fun q _ h => hFc q h) hFc (fun r4 S5 t9 H1 locs ht9 hvm9 hw9 hB9 hz9 hk9 hS => ?_)
        obtain ⟨hq6, hw9, hs9, hz_r4⟩ := hw9
        have hR : RepC g ad A s S5 H1 locs := hR.call ht9 hB9 hw9 hS hFc
        have hsh := hsh.tr hs9
        replace h := h r4 S5 hq6 hw9 hs9
        clear hB9 hz9 hk9 hvm9 ht9 hw9 hs9 hS
        generalize H1 = H at hR ⊢
        exact W.zret (v := r4) hx hb hr (nz hz_r4) (fun t9 ht9 hW9 => ⟨⟨_, S5, rfl, ⟨h, hR.w, hsh, hz_r4⟩, ⟨by rw [ht9]; exact hR.P, hR.D⟩⟩, hR.sS.F ht9⟩) hR.sS.2.2 dX7_namesHold_68
      · replace h := h.2 (k_nle rfl rfl c2)
        refine lv_aload_n hx hb dX7_namesHold_15 rfl (lv_at hl 0 rfl) ?_
        refine lv_iload_n hx hb dX7_namesHold_16 rfl (lv_at hl 1 rfl) ?_
        obtain ⟨hv7, h⟩ := h
        have hFc := cfree hR hA
        refine va_calli (va_runV (As := [.int v2_1]) (rest := []) ⟨hx, hb, hml, hown, hts⟩ (rX7_memberPlace l g ad H.size U2 v2_1 hR.w  hv7) (cwV 1 hts (gd_V kw_1288 kw_1394 kw_1395 kw_710 kw_1393) rfl rfl rfl (by decide +kernel) ⟨Nat.le_of_ble_eq_true rfl, Nat.le_of_ble_eq_true rfl⟩) ⟨cblind, va_recv hR.K hR.P (ci := 6) (q0 := 9) rfl (hR.at46 (hR.w.2.1 _ finC_2).2.1), fun U hU hW9 => cmk hU hW9 hR hex hE hFc⟩ rfl rfl hl.1 rfl (lv_room (Nat.le_of_ble_eq_true rfl)) dX7_namesHold_17 ⟨Nat.le_of_ble_eq_true rfl, Nat.le_of_ble_eq_true rfl⟩) hR.sS (fun q _ h => hFc q h) hFc (fun r8 u9 t9 H1 locs ht9 hvm9 hw9 hB9 hz9 hk9 hS => ?_)
        have hR : RepC g ad A s U2 H1 locs := hR.call ht9 hB9 hR.w hS hFc
        obtain rfl : r8 = (fX7_memberPlace U2 v2_1) := hw9
        clear hB9 hz9 hk9 hvm9 ht9 hS
        generalize H1 = H at hR ⊢
        obtain ⟨a10, ea10⟩ : ∃ z, z = (fX7_memberPlace U2 v2_1) := ⟨_, rfl⟩
        rw [← ea10]
        replace h := h a10 ea10
        refine lv_istore_n (lv' := [(2, .int a10), (0, .ref (ad 9)), (1, .int v2_1)]) hx hb dX7_namesHold_20 rfl hl (by decide) rfl (fun ls hl => ?_)
        refine lv_aload_n hx hb dX7_namesHold_21 rfl (lv_at hl 1 rfl) ?_
        refine lv_iload_n hx hb dX7_namesHold_22 rfl (lv_at hl 0 rfl) ?_
        refine lv_iconst (v := 2) hx hb dX7_namesHold_23 (by decide) ?_
        refine lv_iadd hx hb dX7_namesHold_24 ?_
        refine lv_topi (fun z11 ez11 => ?_)
        obtain rfl : z11 = (a10 + (2 : Int32)) := ez11
        obtain ⟨Q12, h0, h⟩ := h
        have hFc := cfree hR hA
        refine va_calli (va_runV (As := [.int (a10 + (2 : Int32))]) (rest := []) ⟨hx, hb, hml, hown, hts⟩ (rX7_isNameAt l g ad H.size U2 (a10 + (2 : Int32)) hR.w  Q12 h0) (cwV 1 hts (gd_V kw_1267 kw_1353 kw_1354 kw_710 kw_1352) rfl rfl rfl (by decide +kernel) ⟨Nat.le_of_ble_eq_true rfl, Nat.le_of_ble_eq_true rfl⟩) ⟨cblind, va_recv hR.K hR.P (ci := 6) (q0 := 9) rfl (hR.at46 (hR.w.2.1 _ finC_2).2.1), fun U hU hW9 => cmk hU hW9 hR hex hE hFc⟩ rfl rfl hl.1 rfl (lv_room (Nat.le_of_ble_eq_true rfl)) dX7_namesHold_25 ⟨Nat.le_of_ble_eq_true rfl, Nat.le_of_ble_eq_true rfl⟩) hR.sS (fun q _ h => hFc q h) hFc (fun r13 S14 t9 H1 locs ht9 hvm9 hw9 hB9 hz9 hk9 hS => ?_)
        obtain ⟨hq15, hw9, hs9, hz_r13⟩ := hw9
        have hR : RepC g ad A s S14 H1 locs := hR.call ht9 hB9 hw9 hS hFc
        have hsh := hsh.tr hs9
        replace h := h r13 S14 hq15 hw9 hs9
        clear hB9 hz9 hk9 hvm9 ht9 hw9 hs9 hS
        generalize H1 = H at hR ⊢
        refine lv_if_eq (tgt := 52) hx hb dX7_namesHold_28 (by decide) (fun c16 => ?_) (fun c16 => ?_)
        · replace h := h.1 (k_eq rfl (by decide) c16)
          refine lv_iconst (v := 0) hx hb dX7_namesHold_52 (by decide) ?_
          exact W.zret (v := 0) hx hb hr (nz (Or.inl rfl)) (fun t9 ht9 hW9 => ⟨⟨_, S14, rfl, ⟨h, hR.w, hsh, (Or.inl rfl)⟩, ⟨by rw [ht9]; exact hR.P, hR.D⟩⟩, hR.sS.F ht9⟩) hR.sS.2.2 dX7_namesHold_53
        · replace h := h.2 (k_ne rfl (by decide) c16)
          refine lv_aload_n hx hb dX7_namesHold_31 rfl (lv_at hl 1 rfl) ?_
          refine lv_iload_n hx hb dX7_namesHold_32 rfl (lv_at hl 0 rfl) ?_
          refine lv_iconst (v := 4) hx hb dX7_namesHold_33 (by decide) ?_
          refine lv_iadd hx hb dX7_namesHold_34 ?_
          refine lv_topi (fun z17 ez17 => ?_)
          obtain rfl : z17 = (a10 + (4 : Int32)) := ez17
          obtain ⟨Q18, h0, h⟩ := h
          have hFc := cfree hR hA
          refine va_calli (va_runV (As := [.int (a10 + (4 : Int32))]) (rest := []) ⟨hx, hb, hml, hown, hts⟩ (rX7_isNameAt l g ad H.size S14 (a10 + (4 : Int32)) hR.w  Q18 h0) (cwV 1 hts (gd_V kw_1267 kw_1353 kw_1354 kw_710 kw_1352) rfl rfl rfl (by decide +kernel) ⟨Nat.le_of_ble_eq_true rfl, Nat.le_of_ble_eq_true rfl⟩) ⟨cblind, va_recv hR.K hR.P (ci := 6) (q0 := 9) rfl (hR.at46 (hR.w.2.1 _ finC_2).2.1), fun U hU hW9 => cmk hU hW9 hR hex hE hFc⟩ rfl rfl hl.1 rfl (lv_room (Nat.le_of_ble_eq_true rfl)) dX7_namesHold_35 ⟨Nat.le_of_ble_eq_true rfl, Nat.le_of_ble_eq_true rfl⟩) hR.sS (fun q _ h => hFc q h) hFc (fun r19 S20 t9 H1 locs ht9 hvm9 hw9 hB9 hz9 hk9 hS => ?_)
          obtain ⟨hq21, hw9, hs9, hz_r19⟩ := hw9
          have hR : RepC g ad A s S20 H1 locs := hR.call ht9 hB9 hw9 hS hFc
          have hsh := hsh.tr hs9
          replace h := h r19 S20 hq21 hw9 hs9
          clear hB9 hz9 hk9 hvm9 ht9 hw9 hs9 hS
          generalize H1 = H at hR ⊢
          refine lv_if_eq (tgt := 52) hx hb dX7_namesHold_38 (by decide) (fun c22 => ?_) (fun c22 => ?_)
          · replace h := h.1 (k_eq rfl (by decide) c22)
            refine lv_iconst (v := 0) hx hb dX7_namesHold_52 (by decide) ?_
            exact W.zret (v := 0) hx hb hr (nz (Or.inl rfl)) (fun t9 ht9 hW9 => ⟨⟨_, S20, rfl, ⟨h, hR.w, hsh, (Or.inl rfl)⟩, ⟨by rw [ht9]; exact hR.P, hR.D⟩⟩, hR.sS.F ht9⟩) hR.sS.2.2 dX7_namesHold_53
          · replace h := h.2 (k_ne rfl (by decide) c22)
            refine lv_aload_n hx hb dX7_namesHold_41 rfl (lv_at hl 1 rfl) ?_
            refine lv_iload_n hx hb dX7_namesHold_42 rfl (lv_at hl 0 rfl) ?_
            refine lv_bipush (v := 6) hx hb dX7_namesHold_43 (by decide) ?_
            refine lv_iadd hx hb dX7_namesHold_45 ?_
            refine lv_topi (fun z23 ez23 => ?_)
            obtain rfl : z23 = (a10 + (6 : Int32)) := ez23
            obtain ⟨Q24, h0, h⟩ := h
            have hFc := cfree hR hA
            refine va_calli (va_runV (As := [.int (a10 + (6 : Int32))]) (rest := []) ⟨hx, hb, hml, hown, hts⟩ (rX7_attributeNamesHold l g ad H.size S20 (a10 + (6 : Int32)) hR.w  Q24 h0) (cwV 1 hts (gd_V kw_1417 kw_1264 kw_1265 kw_710 kw_1263) rfl rfl rfl (by decide +kernel) ⟨Nat.le_of_ble_eq_true rfl, Nat.le_of_ble_eq_true rfl⟩) ⟨cblind, va_recv hR.K hR.P (ci := 6) (q0 := 9) rfl (hR.at46 (hR.w.2.1 _ finC_2).2.1), fun U hU hW9 => cmk hU hW9 hR hex hE hFc⟩ rfl rfl hl.1 rfl (lv_room (Nat.le_of_ble_eq_true rfl)) dX7_namesHold_46 ⟨Nat.le_of_ble_eq_true rfl, Nat.le_of_ble_eq_true rfl⟩) hR.sS (fun q _ h => hFc q h) hFc (fun r25 S26 t9 H1 locs ht9 hvm9 hw9 hB9 hz9 hk9 hS => ?_)
            obtain ⟨hq27, hw9, hs9, hz_r25⟩ := hw9
            have hR : RepC g ad A s S26 H1 locs := hR.call ht9 hB9 hw9 hS hFc
            have hsh := hsh.tr hs9
            replace h := h r25 S26 hq27 hw9 hs9
            clear hB9 hz9 hk9 hvm9 ht9 hw9 hs9 hS
            generalize H1 = H at hR ⊢
            refine lv_if_ne (tgt := 54) hx hb dX7_namesHold_49 (by decide) (fun c28 => ?_) (fun c28 => ?_)
            · replace h := h.2 (k_ne rfl (by decide) c28)
              obtain ⟨a29, ea29⟩ : ∃ z, z = (v2_1 + Int32.ofInt 1) := ⟨_, rfl⟩
              replace h := h a29 ea29
              refine lv_iinc (v := a29) (lv' := [(1, .int a29), (2, .int a10), (0, .ref (ad 9))]) hx hb dX7_namesHold_54 hl (k := 2) rfl ea29.symm (by decide) rfl (fun ls hl => ?_)
              refine lv_goto (tgt := 2) hx hb dX7_namesHold_57 (by decide) ?_
              exact ih_2 S26 a29 _ _ ls h  hsh hR (lv_sub hl [2, 0] rfl)
            · replace h := h.1 (k_eq rfl (by decide) c28)
              refine lv_iconst (v := 0) hx hb dX7_namesHold_52 (by decide) ?_
              exact W.zret (v := 0) hx hb hr (nz (Or.inl rfl)) (fun t9 ht9 hW9 => ⟨⟨_, S26, rfl, ⟨h, hR.w, hsh, (Or.inl rfl)⟩, ⟨by rw [ht9]; exact hR.P, hR.D⟩⟩, hR.sS.F ht9⟩) hR.sS.2.2 dX7_namesHold_53
  obtain ⟨n9, h⟩ := h
  exact J_2 n9 S 0 _ _ ls h  hsh hR (lv_sub hl [1, 0] rfl)
def f_X7_kindOfType_J22 (S : MS) (t22_0 : Int32) (t22_1 : Int32) (v22_2 : Int32) : Int32 := (if t22_1.toInt = t22_0.toInt then v22_2 else (0 : Int32))
def d_X7_kindOfType_J22 (S : MS) (t22_0 : Int32) (t22_1 : Int32) (v22_2 : Int32) : Prop := True
def fX7_kindOfType (S : MS) (x1 : Int32) : Int32 := (if (fX7_kindOfPart S x1 (0 : Int32)).toInt = 3 then f_X7_kindOfType_J22 S 2 (fX7_nameLength S x1) (fX7_kindOfPart S x1 (0 : Int32)) else f_X7_kindOfType_J22 S 1 (fX7_nameLength S x1) (fX7_kindOfPart S x1 (0 : Int32)))
def d_X7_kindOfType (S : MS) (x1 : Int32) : Prop := (d_X7_kindOfPart S x1 (0 : Int32) ∧ (d_X7_nameLength S x1 ∧ (if (fX7_kindOfPart S x1 (0 : Int32)).toInt = 3 then d_X7_kindOfType_J22 S 2 (fX7_nameLength S x1) (fX7_kindOfPart S x1 (0 : Int32)) else d_X7_kindOfType_J22 S 1 (fX7_nameLength S x1) (fX7_kindOfPart S x1 (0 : Int32)))))
set_option maxHeartbeats 2000000 in
set_option maxRecDepth 100000 in
theorem rX7_kindOfType (l : Launch) (g : Gr) (ad : Nat → Nat) (sz : Nat) (S : MS) (x1 : Int32) (hw : wfC S) (hd : d_X7_kindOfType S x1) : Met l yX7_kindOfType (wt yX7_kindOfType cX7_kindOfType 3 (some .int)) ({ frames := 3, cells := 0, slots := 0, locals := 65 }) (va_Pc [.ref (ad 9), .int x1] (st_C g ad sz S)) (va_Qi (fun (r : Int32) (_ : Unit) => r = fX7_kindOfType S x1) (fun (_ : Unit) (t : State) => qEC g ad (va_A (WdC g ad S) sz) S t) (va_A (WdC g ad S) sz)) 0 0 (va_A (WdC g ad S) sz) := by
  refine Met.ofW (cc := cX7_kindOfType) (maxL := 3) (ret := (some .int)) (by decide) rfl ?_
  intro p e s m args below meth c s₁ B hml hv
  obtain ⟨rfl, hsz, hP, hK, hD0, hex, hE⟩ := hv
  have hx := B.exec
  have hb := B.bytes
  have hr := B.returns
  have hts0 := atoms_spec (ws := wt yX7_kindOfType cX7_kindOfType 3 (some .int)) B.pre
  have hts : ∀ w ∈ tb, w.before _ s = true := fun w h => hts0 w (List.mem_cons_of_mem _ h)
  have hown : s.vm.findClass RX7 = some m.cls := findClass_of_methodNamed B.named
  subst hsz
  have hD := hD0.self (sz := s.heap.size)
  generalize hAe : va_A (WdC g ad S) s.heap.size = A at hD hE ⊢
  have hA : ∀ q : Nat, s.heap.size ≤ q → A q := fun q h => by rw [← hAe]; exact Or.inr h
  have hR : RepC g ad A s S s.heap [] := ⟨hK, hP, hD, va_S.rf, hw⟩
  clear hK hP hD hD0
  have hl := lv_entry ([.ref (ad 9), .int x1]) (n := 3) (Nat.le_of_ble_eq_true rfl)
  rw [lg_entry_eq]
  generalize (lg_sl ([.ref (ad 9), .int x1]) ++ List.replicate (3 - (lg_sl ([.ref (ad 9), .int x1])).length) Slot.unset).toArray = ls at hl ⊢
  have hl : lv_has ls 3 [(0, .ref (ad 9)), (1, .int x1)] := hl
  obtain ⟨r0, hf⟩ : ∃ r0, fX7_kindOfType S x1 = r0 := ⟨_, rfl⟩
  have hf0 := hf
  unfold fX7_kindOfType at hf
  unfold d_X7_kindOfType at hd
  refine lv_aload_n hx hb dX7_kindOfType_0 rfl (lv_at hl 0 rfl) ?_
  refine lv_iload_n hx hb dX7_kindOfType_1 rfl (lv_at hl 1 rfl) ?_
  refine lv_iconst (v := 0) hx hb dX7_kindOfType_2 (by decide) ?_
  obtain ⟨hv1, hd⟩ := hd
  have hFc := cfree hR hA
  refine va_calli (va_runV (As := [.int x1, .int 0]) (rest := []) ⟨hx, hb, hml, hown, hts⟩ (rX7_kindOfPart l g ad s.heap.size S x1 (0 : Int32) hR.w  hv1) (cwV 2 hts (gd_V kw_1351 kw_1385 kw_1386 kw_710 kw_1384) rfl rfl rfl (by decide +kernel) ⟨Nat.le_of_ble_eq_true rfl, Nat.le_of_ble_eq_true rfl⟩) ⟨cblind, va_recv hR.K hR.P (ci := 6) (q0 := 9) rfl (hR.at46 (hR.w.2.1 _ finC_2).2.1), fun U hU hW9 => cmk hU hW9 hR hex hE hFc⟩ rfl rfl hl.1 rfl (lv_room (Nat.le_of_ble_eq_true rfl)) dX7_kindOfType_3 ⟨Nat.le_of_ble_eq_true rfl, Nat.le_of_ble_eq_true rfl⟩) hR.sS (fun q _ h => hFc q h) hFc (fun r2 u9 t9 H1 locs ht9 hvm9 hw9 hB9 hz9 hk9 hS => ?_)
  have hR : RepC g ad A s S H1 locs := hR.call ht9 hB9 hR.w hS hFc
  obtain rfl : r2 = (fX7_kindOfPart S x1 (0 : Int32)) := hw9
  clear hB9 hz9 hk9 hvm9 ht9 hS
  generalize H1 = H at hR ⊢
  refine lv_istore_n (lv' := [(2, .int (fX7_kindOfPart S x1 (0 : Int32))), (0, .ref (ad 9)), (1, .int x1)]) hx hb dX7_kindOfType_6 rfl hl (by decide) rfl (fun ls hl => ?_)
  refine lv_aload_n hx hb dX7_kindOfType_7 rfl (lv_at hl 1 rfl) ?_
  refine lv_iload_n hx hb dX7_kindOfType_8 rfl (lv_at hl 2 rfl) ?_
  obtain ⟨hv4, hd⟩ := hd
  have hFc := cfree hR hA
  refine va_calli (va_runV (As := [.int x1]) (rest := []) ⟨hx, hb, hml, hown, hts⟩ (rX7_nameLength l g ad H.size S x1 hR.w  hv4) (cwV 1 hts (gd_V kw_1349 kw_1406 kw_1407 kw_710 kw_1405) rfl rfl rfl (by decide +kernel) ⟨Nat.le_of_ble_eq_true rfl, Nat.le_of_ble_eq_true rfl⟩) ⟨cblind, va_recv hR.K hR.P (ci := 6) (q0 := 9) rfl (hR.at46 (hR.w.2.1 _ finC_2).2.1), fun U hU hW9 => cmk hU hW9 hR hex hE hFc⟩ rfl rfl hl.1 rfl (lv_room (Nat.le_of_ble_eq_true rfl)) dX7_kindOfType_9 ⟨Nat.le_of_ble_eq_true rfl, Nat.le_of_ble_eq_true rfl⟩) hR.sS (fun q _ h => hFc q h) hFc (fun r5 u9 t9 H1 locs ht9 hvm9 hw9 hB9 hz9 hk9 hS => ?_)
  have hR : RepC g ad A s S H1 locs := hR.call ht9 hB9 hR.w hS hFc
  obtain rfl : r5 = (fX7_nameLength S x1) := hw9
  clear hB9 hz9 hk9 hvm9 ht9 hS
  generalize H1 = H at hR ⊢
  refine lv_iload_n hx hb dX7_kindOfType_12 rfl (lv_at hl 0 rfl) ?_
  refine lv_iconst (v := 3) hx hb dX7_kindOfType_13 (by decide) ?_
  have J_22 : ∀ (t22_0 : Int32) (t22_1 : Int32) (v22_2 : Int32) (H : Heap) (locs : List Loc) (ls : Array Slot), d_X7_kindOfType_J22 S t22_0 t22_1 v22_2 → f_X7_kindOfType_J22 S t22_0 t22_1 v22_2 = r0 → RepC g ad A s S H locs → lv_has ls 3 [(2, .int v22_2)] → W p l e (headSpec (wt yX7_kindOfType cX7_kindOfType 3 (some .int)) ({ frames := 3, cells := 0, slots := 0, locals := 65 })).room s m ([.ref (ad 9), .int x1] : List Value).toArray below meth c H locs 0 0 (MQ below (va_Qi (fun (r : Int32) (_ : Unit) => r = fX7_kindOfType S x1) (fun (_ : Unit) (t : State) => qEC g ad A S t) A) ([.ref (ad 9), .int x1] : List Value).toArray s 0 0 A) (F0 m 22 ls [.int t22_0, .int t22_1]) := by
    intro t22_0 t22_1 v22_2 H locs ls hd hf hR hl
    unfold d_X7_kindOfType_J22 at hd
    unfold f_X7_kindOfType_J22 at hf
    refine lv_icmp_ne (tgt := 29) hx hb dX7_kindOfType_22 (by decide) (fun c7 => ?_) (fun c7 => ?_)
    · rw [if_neg (k_ne rfl rfl c7)] at hf
      (try rw [if_neg (k_ne rfl rfl c7)] at hd)
      refine lv_iconst (v := 0) hx hb dX7_kindOfType_29 (by decide) ?_
      exact W.iret (v := 0) hx hb hr (fun t9 ht9 hW9 => ⟨⟨_, (), rfl, hf.trans hf0.symm, ⟨by rw [ht9]; exact hR.P, hR.D⟩⟩, hR.sS.F ht9⟩) hR.sS.2.2 dX7_kindOfType_30
    · rw [if_pos (k_eq rfl rfl c7)] at hf
      (try rw [if_pos (k_eq rfl rfl c7)] at hd)
      refine lv_iload_n hx hb dX7_kindOfType_25 rfl (lv_at hl 0 rfl) ?_
      refine lv_goto (tgt := 30) hx hb dX7_kindOfType_26 (by decide) ?_
      exact W.iret (v := v22_2) hx hb hr (fun t9 ht9 hW9 => ⟨⟨_, (), rfl, hf.trans hf0.symm, ⟨by rw [ht9]; exact hR.P, hR.D⟩⟩, hR.sS.F ht9⟩) hR.sS.2.2 dX7_kindOfType_30
  refine lv_icmp_ne (tgt := 21) hx hb dX7_kindOfType_14 (by decide) (fun c8 => ?_) (fun c8 => ?_)
  · rw [if_neg (k_ne rfl (by decide) c8)] at hf
    (try rw [if_neg (k_ne rfl (by decide) c8)] at hd)
    refine lv_iconst (v := 1) hx hb dX7_kindOfType_21 (by decide) ?_
    exact J_22 1 (fX7_nameLength S x1) (fX7_kindOfPart S x1 (0 : Int32)) _ _ ls hd hf  hR (lv_sub hl [0] rfl)
  · rw [if_pos (k_eq rfl (by decide) c8)] at hf
    (try rw [if_pos (k_eq rfl (by decide) c8)] at hd)
    refine lv_iconst (v := 2) hx hb dX7_kindOfType_17 (by decide) ?_
    refine lv_goto (tgt := 22) hx hb dX7_kindOfType_18 (by decide) ?_
    exact J_22 2 (fX7_nameLength S x1) (fX7_kindOfPart S x1 (0 : Int32)) _ _ ls hd hf  hR (lv_sub hl [0] rfl)
def w_X8_remove_J232 (Q : MS → Prop) (k138 : MS → Nat → Int32 → Int32 → Int32 → Int32 → Prop) (U232 : MS) (v232_0 : Nat) (v232_1 : Int32) (v232_2 : Int32) (v232_3 : Int32) (v232_4 : Int32) : Prop := (wfC U232 → qT U232 v232_0 = 47 → (∀ a28 : Int32, a28 = (v232_4 + Int32.ofInt 1) → k138 U232 v232_0 v232_1 v232_2 v232_3 a28))
def w_X8_remove_L138 (Q : MS → Prop) : Nat → MS → Nat → Int32 → Int32 → Int32 → Int32 → Prop
  | 0, _, _, _, _, _, _ => False
  | n138 + 1, U138, v138_0, v138_1, v138_2, v138_3, v138_4 => (wfC U138 → qT U138 v138_0 = 47 → (((qI U138 v138_0 9).toInt ≤ v138_4.toInt → (∀ S11, S11 = wI U138 v138_0 9 v138_3 → qT U138 v138_0 = 47 → wfC S11 → Q S11)) ∧ (¬ (qI U138 v138_0 9).toInt ≤ v138_4.toInt → ((qR U138 v138_0 5 = some (qO U138 v138_0 5)) ∧ (((0 : Int) ≤ v138_4.toInt ∧ v138_4.toInt < (qN U138 (qO U138 v138_0 5) : Int)) ∧ (d_X8_behindRemoved U138 (qI U138 (qO U138 v138_0 5) v138_4.toInt.toNat) v138_1 v138_2 ∧ (∀ a19 : Int32, a19 = (fX8_behindRemoved U138 (qI U138 (qO U138 v138_0 5) v138_4.toInt.toNat) v138_1 v138_2) → ((qR U138 v138_0 6 = some (qO U138 v138_0 6)) ∧ (((0 : Int) ≤ v138_4.toInt ∧ v138_4.toInt < (qN U138 (qO U138 v138_0 6) : Int)) ∧ (d_X8_behindRemoved U138 (qI U138 (qO U138 v138_0 6) v138_4.toInt.toNat) v138_1 v138_2 ∧ (∀ a27 : Int32, a27 = (fX8_behindRemoved U138 (qI U138 (qO U138 v138_0 6) v138_4.toInt.toNat) v138_1 v138_2) → ((a27.toInt ≤ a19.toInt → w_X8_remove_J232 Q (w_X8_remove_L138 Q n138) U138 v138_0 v138_1 v138_2 v138_3 v138_4) ∧ (¬ a27.toInt ≤ a19.toInt → ((qR U138 v138_0 5 = some (qO U138 v138_0 5)) ∧ (((0 : Int) ≤ v138_3.toInt ∧ v138_3.toInt < (qN U138 (qO U138 v138_0 5) : Int)) ∧ (∀ S33, S33 = wI U138 (qO U138 v138_0 5) v138_3.toInt.toNat a19 → qT U138 (qO U138 v138_0 5) = 224 → wfC S33 → ((qR S33 v138_0 6 = some (qO S33 v138_0 6)) ∧ (((0 : Int) ≤ v138_3.toInt ∧ v138_3.toInt < (qN S33 (qO S33 v138_0 6) : Int)) ∧ (∀ S37, S37 = wI S33 (qO S33 v138_0 6) v138_3.toInt.toNat a27 → qT S33 (qO S33 v138_0 6) = 225 → wfC S37 → ((qR S37 v138_0 7 = some (qO S37 v138_0 7)) ∧ ((qR S37 v138_0 7 = some (qO S37 v138_0 7)) ∧ (((0 : Int) ≤ v138_4.toInt ∧ v138_4.toInt < (qN S37 (qO S37 v138_0 7) : Int)) ∧ (d_X8_behindRemoved S37 (qI S37 (qO S37 v138_0 7) v138_4.toInt.toNat) v138_1 v138_2 ∧ (∀ a47 : Int32, a47 = (fX8_behindRemoved S37 (qI S37 (qO S37 v138_0 7) v138_4.toInt.toNat) v138_1 v138_2) → (((0 : Int) ≤ v138_3.toInt ∧ v138_3.toInt < (qN S37 (qO S37 v138_0 7) : Int)) ∧ (∀ S49, S49 = wI S37 (qO S37 v138_0 7) v138_3.toInt.toNat a47 → qT S37 (qO S37 v138_0 7) = 226 → wfC S49 → ((qR S49 v138_0 8 = some (qO S49 v138_0 8)) ∧ ((qR S49 v138_0 8 = some (qO S49 v138_0 8)) ∧ (((0 : Int) ≤ v138_4.toInt ∧ v138_4.toInt < (qN S49 (qO S49 v138_0 8) : Int)) ∧ (((0 : Int) ≤ v138_3.toInt ∧ v138_3.toInt < (qN S49 (qO S49 v138_0 8) : Int)) ∧ (∀ S57, S57 = wI S49 (qO S49 v138_0 8) v138_3.toInt.toNat (qI S49 (qO S49 v138_0 8) v138_4.toInt.toNat) → qT S49 (qO S49 v138_0 8) = 227 → wfC S57 → (∀ a58 : Int32, a58 = (v138_3 + Int32.ofInt 1) → w_X8_remove_J232 Q (w_X8_remove_L138 Q n138) S57 v138_0 v138_1 v138_2 a58 v138_4))))))))))))))))))))))))))))))))
def w_X8_remove_L95 (Q : MS → Prop) (k77 : MS → Nat → Int32 → Int32 → Int32 → Prop) : Nat → MS → Nat → Int32 → Int32 → Int32 → Int32 → Int32 → Prop
  | 0, _, _, _, _, _, _, _ => False
  | n95 + 1, U95, v95_0, v95_1, v95_2, v95_3, v95_4, v95_5 => (wfC U95 → qT U95 v95_0 = 47 → ((v95_4.toInt ≤ v95_5.toInt → (∀ a64 : Int32, a64 = (v95_3 + Int32.ofInt 1) → k77 U95 v95_0 v95_1 v95_2 a64)) ∧ (¬ v95_4.toInt ≤ v95_5.toInt → (d_X8_targetAt U95 v95_0 v95_3 v95_5 ∧ (∀ a68 : Int32, a68 = (fX8_targetAt U95 v95_0 v95_3 v95_5) → (d_X8_behindRemoved U95 a68 v95_1 v95_2 ∧ (∀ a72 : Int32, a72 = (fX8_behindRemoved U95 a68 v95_1 v95_2) → (qT U95 v95_0 = 47 → (∃ Q73, wX8_setTarget U95 v95_0 v95_3 v95_5 a72 Q73 ∧ ∀ S74, Q73 S74 → wfC S74 → shy U95 S74 → (∀ a76 : Int32, a76 = (v95_5 + Int32.ofInt 1) → (w_X8_remove_L95 Q k77 n95) S74 v95_0 v95_1 v95_2 v95_3 v95_4 a76))))))))))
def w_X8_remove_L77 (Q : MS → Prop) : Nat → MS → Nat → Int32 → Int32 → Int32 → Prop
  | 0, _, _, _, _, _ => False
  | n77 + 1, U77, v77_0, v77_1, v77_2, v77_3 => (wfC U77 → qT U77 v77_0 = 47 → (((qI U77 v77_0 2).toInt ≤ v77_3.toInt → (∃ n, w_X8_remove_L138 Q n U77 v77_0 v77_1 v77_2 0 0)) ∧ (¬ (qI U77 v77_0 2).toInt ≤ v77_3.toInt → (d_X8_targetCount U77 v77_0 v77_3 ∧ (∀ a62 : Int32, a62 = (fX8_targetCount U77 v77_0 v77_3) → (∃ n, w_X8_remove_L95 Q (w_X8_remove_L77 Q n77) n U77 v77_0 v77_1 v77_2 v77_3 a62 0))))))
def w_X8_remove_L21 (Q : MS → Prop) : Nat → MS → Nat → Int32 → Int32 → Int32 → Prop
  | 0, _, _, _, _, _ => False
  | n21 + 1, U21, v21_0, v21_1, v21_2, v21_3 => (wfC U21 → qT U21 v21_0 = 47 → (((qI U21 v21_0 2).toInt ≤ (v21_3 + v21_2).toInt → (∀ S8, S8 = wI U21 v21_0 2 ((qI U21 v21_0 2) - v21_2) → qT U21 v21_0 = 47 → wfC S8 → (∃ n, w_X8_remove_L77 Q n S8 v21_0 v21_1 v21_2 0))) ∧ (¬ (qI U21 v21_0 2).toInt ≤ (v21_3 + v21_2).toInt → ((qR U21 v21_0 0 = some (qO U21 v21_0 0)) ∧ ((qR U21 v21_0 0 = some (qO U21 v21_0 0)) ∧ (((0 : Int) ≤ (v21_3 + v21_2).toInt ∧ (v21_3 + v21_2).toInt < (qN U21 (qO U21 v21_0 0) : Int)) ∧ (((0 : Int) ≤ v21_3.toInt ∧ v21_3.toInt < (qN U21 (qO U21 v21_0 0) : Int)) ∧ (∀ S85, S85 = wI U21 (qO U21 v21_0 0) v21_3.toInt.toNat (qI U21 (qO U21 v21_0 0) (((v21_3 + v21_2).toInt).toNat)) → qT U21 (qO U21 v21_0 0) = 222 → wfC S85 → ((qR S85 v21_0 1 = some (qO S85 v21_0 1)) ∧ ((qR S85 v21_0 1 = some (qO S85 v21_0 1)) ∧ (((0 : Int) ≤ (v21_3 + v21_2).toInt ∧ (v21_3 + v21_2).toInt < (qN S85 (qO S85 v21_0 1) : Int)) ∧ (((0 : Int) ≤ v21_3.toInt ∧ v21_3.toInt < (qN S85 (qO S85 v21_0 1) : Int)) ∧ (∀ S94, S94 = wJ S85 (qO S85 v21_0 1) v21_3.toInt.toNat (qJ S85 (qO S85 v21_0 1) (((v21_3 + v21_2).toInt).toNat)) → qT S85 (qO S85 v21_0 1) = 406 → wfC S94 → (∀ a95 : Int32, a95 = (v21_3 + Int32.ofInt 1) → (w_X8_remove_L21 Q n21) S94 v21_0 v21_1 v21_2 a95))))))))))))))
def wX8_remove (S : MS) (p0 : Nat) (x1 : Int32) (x2 : Int32) (Q : MS → Prop) : Prop := ((x1.toInt < 0 → Q S) ∧ (¬ x1.toInt < 0 → ((x2.toInt ≤ 0 → Q S) ∧ (¬ x2.toInt ≤ 0 → (((x1 + x2).toInt ≤ (qI S p0 2).toInt → (∃ n, w_X8_remove_L21 Q n S p0 x1 x2 x1)) ∧ (¬ (x1 + x2).toInt ≤ (qI S p0 2).toInt → Q S))))))
set_option maxHeartbeats 2000000 in
set_option maxRecDepth 100000 in
theorem rX8_remove (l : Launch) (g : Gr) (ad : Nat → Nat) (sz : Nat) (S : MS) (p0 : Nat) (x1 : Int32) (x2 : Int32) (hw : wfC S) (hT_p0 : qT S p0 = 47) (Q : MS → Prop) (h : wX8_remove S p0 x1 x2 Q) : Met l yX8_remove (wt yX8_remove cX8_remove 7 none) ({ frames := 2, cells := 0, slots := 0, locals := 48 }) (va_Pc [.ref (ad p0), .int x1, .int x2] (st_C g ad sz S)) (va_Qv (fun (u : MS) => Q u ∧ wfC u ∧ shy S u) (fun (u : MS) (t : State) => qEC g ad (va_A (WdC g ad S) sz) u t) (va_A (WdC g ad S) sz)) 0 0 (va_A (WdC g ad S) sz) := by
  refine Met.ofW (cc := cX8_remove) (maxL := 7) (ret := none) (by decide) rfl ?_
  intro p e s m args below meth c s₁ B hml hv
  obtain ⟨rfl, hsz, hP, hK, hD0, hex, hE⟩ := hv
  have hx := B.exec
  have hb := B.bytes
  have hr := B.returns
  have hts0 := atoms_spec (ws := wt yX8_remove cX8_remove 7 none) B.pre
  have hts : ∀ w ∈ tb, w.before _ s = true := fun w h => hts0 w (List.mem_cons_of_mem _ h)
  have hown : s.vm.findClass RX8 = some m.cls := findClass_of_methodNamed B.named
  subst hsz
  have hD := hD0.self (sz := s.heap.size)
  generalize hAe : va_A (WdC g ad S) s.heap.size = A at hD hE ⊢
  have hA : ∀ q : Nat, s.heap.size ≤ q → A q := fun q h => by rw [← hAe]; exact Or.inr h
  have hR : RepC g ad A s S s.heap [] := ⟨hK, hP, hD, va_S.rf, hw⟩
  clear hK hP hD hD0
  have hl := lv_entry ([.ref (ad p0), .int x1, .int x2]) (n := 7) (Nat.le_of_ble_eq_true rfl)
  rw [lg_entry_eq]
  generalize (lg_sl ([.ref (ad p0), .int x1, .int x2]) ++ List.replicate (7 - (lg_sl ([.ref (ad p0), .int x1, .int x2])).length) Slot.unset).toArray = ls at hl ⊢
  have hl : lv_has ls 7 [(0, .ref (ad p0)), (1, .int x1), (2, .int x2)] := hl
  have hsh : shy S S := shy.rf
  unfold wX8_remove at h
  refine lv_iload_n hx hb dX8_remove_0 rfl (lv_at hl 1 rfl) ?_
  refine lv_if_lt (tgt := 18) hx hb dX8_remove_1 (by decide) (fun c1 => ?_) (fun c1 => ?_)
  · replace h := h.1 (k_lt rfl (by decide) c1)
    exact W.vret hx hb hr (fun t9 ht9 hW9 => ⟨⟨S, rfl, ⟨h, hR.w, hsh⟩, ⟨by rw [ht9]; exact hR.P, hR.D⟩⟩, hR.sS.F ht9⟩) hR.sS.2.2 dX8_remove_18
  · replace h := h.2 (k_nlt rfl (by decide) c1)
    refine lv_iload_n hx hb dX8_remove_4 rfl (lv_at hl 2 rfl) ?_
    refine lv_if_le (tgt := 18) hx hb dX8_remove_5 (by decide) (fun c2 => ?_) (fun c2 => ?_)
    · replace h := h.1 (k_le rfl (by decide) c2)
      exact W.vret hx hb hr (fun t9 ht9 hW9 => ⟨⟨S, rfl, ⟨h, hR.w, hsh⟩, ⟨by rw [ht9]; exact hR.P, hR.D⟩⟩, hR.sS.F ht9⟩) hR.sS.2.2 dX8_remove_18
    · replace h := h.2 (k_nle rfl (by decide) c2)
      refine lv_iload_n hx hb dX8_remove_8 rfl (lv_at hl 1 rfl) ?_
      refine lv_iload_n hx hb dX8_remove_9 rfl (lv_at hl 2 rfl) ?_
      refine lv_iadd hx hb dX8_remove_10 ?_
      refine lv_topi (fun z3 ez3 => ?_)
      obtain rfl : z3 = (x1 + x2) := ez3
      refine lv_aload_n hx hb dX8_remove_11 rfl (lv_at hl 0 rfl) ?_
      refine va_get (D := rD g) (ci := 7) (v := .int (qI S p0 2)) (C := RX8) (T := TX8) (N := 15) hx hb hts inX8 hown hR.K hR.P p0 (hR.at47 hT_p0) rfl 2 (by decide) (hts _ kw_1459) (fun _ h9 => h9) rfl dX8_remove_12 ?_
      refine lv_icmp_le (tgt := 19) hx hb dX8_remove_15 (by decide) (fun c4 => ?_) (fun c4 => ?_)
      · replace h := h.1 (k_le rfl rfl c4)
        refine lv_iload_n hx hb dX8_remove_19 rfl (lv_at hl 1 rfl) ?_
        refine lv_istore_n (lv' := [(3, .int x1), (0, .ref (ad p0)), (1, .int x1), (2, .int x2)]) hx hb dX8_remove_20 rfl hl (by decide) rfl (fun ls hl => ?_)
        have J_21 : ∀ (n21 : Nat) (U21 : MS) (v21_0 : Nat) (v21_1 : Int32) (v21_2 : Int32) (v21_3 : Int32) (H : Heap) (locs : List Loc) (ls : Array Slot), w_X8_remove_L21 Q n21 U21 v21_0 v21_1 v21_2 v21_3 → qT U21 v21_0 = 47 → shy S U21 → RepC g ad A s U21 H locs → lv_has ls 7 [(0, .ref (ad v21_0)), (1, .int v21_1), (2, .int v21_2), (3, .int v21_3)] → W p l e (headSpec (wt yX8_remove cX8_remove 7 none) ({ frames := 2, cells := 0, slots := 0, locals := 48 })).room s m ([.ref (ad p0), .int x1, .int x2] : List Value).toArray below meth c H locs 0 0 (MQ below (va_Qv (fun (u : MS) => Q u ∧ wfC u ∧ shy S u) (fun (u : MS) (t : State) => qEC g ad A u t) A) ([.ref (ad p0), .int x1, .int x2] : List Value).toArray s 0 0 A) (F0 m 21 ls []) := by
          intro n21
          induction n21 with
          | zero => intro U21 v21_0 v21_1 v21_2 v21_3 H locs ls h hT_v21_0 hsh hR hl; unfold w_X8_remove_L21 at h; exact h.elim
          | succ n21 ih_21 =>
            intro U21 v21_0 v21_1 v21_2 v21_3 H locs ls h hT_v21_0 hsh hR hl
            unfold w_X8_remove_L21 at h
            replace h := h hR.w hT_v21_0
            refine lv_iload_n hx hb dX8_remove_21 rfl (lv_at hl 3 rfl) ?_
            refine lv_iload_n hx hb dX8_remove_22 rfl (lv_at hl 2 rfl) ?_
            refine lv_iadd hx hb dX8_remove_23 ?_
            refine lv_topi (fun z5 ez5 => ?_)
            obtain rfl : z5 = (v21_3 + v21_2) := ez5
            refine lv_aload_n hx hb dX8_remove_24 rfl (lv_at hl 0 rfl) ?_
            refine va_get (D := rD g) (ci := 7) (v := .int (qI U21 v21_0 2)) (C := RX8) (T := TX8) (N := 15) hx hb hts inX8 hown hR.K hR.P v21_0 (hR.at47 hT_v21_0) rfl 2 (by decide) (hts _ kw_1459) (fun _ h9 => h9) rfl dX8_remove_25 ?_
            refine lv_icmp_ge (tgt := 65) hx hb dX8_remove_28 (by decide) (fun c6 => ?_) (fun c6 => ?_)
            · replace h := h.1 (k_le rfl rfl c6)
              refine lv_aload_n hx hb dX8_remove_65 rfl (lv_at hl 0 rfl) ?_
              refine lv_dup hx hb dX8_remove_66 rfl ?_
              refine va_get (D := rD g) (ci := 7) (v := .int (qI U21 v21_0 2)) (C := RX8) (T := TX8) (N := 15) hx hb hts inX8 hown hR.K hR.P v21_0 (hR.at47 hT_v21_0) rfl 2 (by decide) (hts _ kw_1459) (fun _ h9 => h9) rfl dX8_remove_67 ?_
              refine lv_iload_n hx hb dX8_remove_70 rfl (lv_at hl 2 rfl) ?_
              refine lv_isub hx hb dX8_remove_71 ?_
              refine lv_topi (fun z7 ez7 => ?_)
              obtain rfl : z7 = ((qI U21 v21_0 2) - v21_2) := ez7
              refine va_put (D := rD g) (ci := 7) (v := .int ((qI U21 v21_0 2) - v21_2)) (ty := .int) (C := RX8) (T := TX8) (N := 15) hx hb hts inX8 tyX8 tyX8_ok nmX8 hown hR.K hR.P hR.D hR.sS v21_0 (hR.at47 hT_v21_0) rfl 2 (by decide) (hts _ kw_1459) (fun _ h9 => h9) rfl (by decide +kernel) rfl rfl (Nat.le_of_ble_eq_true rfl) dX8_remove_72 (fun H locs hP hD hS => ?_)
              have hTk9 : qT U21 v21_0 = 47 := hT_v21_0
              have hR : RepC g ad A s (wI U21 v21_0 2 ((qI U21 v21_0 2) - v21_2)) H locs := hR.pI47 hT_v21_0 FX8_s2 (fun q9 => absurd q9 (by decide)) hP hD hS
              obtain ⟨S8, eS8⟩ : ∃ z, z = wI U21 v21_0 2 ((qI U21 v21_0 2) - v21_2) := ⟨_, rfl⟩
              rw [← eS8] at hR
              replace h := h S8 eS8 hTk9 hR.w
              have hT_v21_0 : qT S8 v21_0 = 47 := (congrArg (fun z => qT z v21_0) eS8).trans hT_v21_0
              have hsh : shy S S8 := by rw [eS8]; exact hsh
              refine lv_iconst (v := 0) hx hb dX8_remove_75 (by decide) ?_
              refine lv_istore_n (lv' := [(3, .int 0), (0, .ref (ad v21_0)), (1, .int v21_1), (2, .int v21_2)]) hx hb dX8_remove_76 rfl hl (by decide) rfl (fun ls hl => ?_)
              have J_77 : ∀ (n77 : Nat) (U77 : MS) (v77_0 : Nat) (v77_1 : Int32) (v77_2 : Int32) (v77_3 : Int32) (H : Heap) (locs : List Loc) (ls : Array Slot), w_X8_remove_L77 Q n77 U77 v77_0 v77_1 v77_2 v77_3 → qT U77 v77_0 = 47 → shy S U77 → RepC g ad A s U77 H locs → lv_has ls 7 [(0, .ref (ad v77_0)), (1, .int v77_1), (2, .int v77_2), (3, .int v77_3)] → W p l e (headSpec (wt yX8_remove cX8_remove 7 none) ({ frames := 2, cells := 0, slots := 0, locals := 48 })).room s m ([.ref (ad p0), .int x1, .int x2] : List Value).toArray below meth c H locs 0 0 (MQ below (va_Qv (fun (u : MS) => Q u ∧ wfC u ∧ shy S u) (fun (u : MS) (t : State) => qEC g ad A u t) A) ([.ref (ad p0), .int x1, .int x2] : List Value).toArray s 0 0 A) (F0 m 77 ls []) := by
                intro n77
                induction n77 with
                | zero => intro U77 v77_0 v77_1 v77_2 v77_3 H locs ls h hT_v77_0 hsh hR hl; unfold w_X8_remove_L77 at h; exact h.elim
                | succ n77 ih_77 =>
                  intro U77 v77_0 v77_1 v77_2 v77_3 H locs ls h hT_v77_0 hsh hR hl
                  unfold w_X8_remove_L77 at h
                  replace h := h hR.w hT_v77_0
                  refine lv_iload_n hx hb dX8_remove_77 rfl (lv_at hl 3 rfl) ?_
                  refine lv_aload_n hx hb dX8_remove_78 rfl (lv_at hl 0 rfl) ?_
                  refine va_get (D := rD g) (ci := 7) (v := .int (qI U77 v77_0 2)) (C := RX8) (T := TX8) (N := 15) hx hb hts inX8 hown hR.K hR.P v77_0 (hR.at47 hT_v77_0) rfl 2 (by decide) (hts _ kw_1459) (fun _ h9 => h9) rfl dX8_remove_79 ?_
                  refine lv_icmp_ge (tgt := 133) hx hb dX8_remove_82 (by decide) (fun c9 => ?_) (fun c9 => ?_)
                  · replace h := h.1 (k_le rfl rfl c9)
                    refine lv_iconst (v := 0) hx hb dX8_remove_133 (by decide) ?_
                    refine lv_istore_n (lv' := [(3, .int 0), (0, .ref (ad v77_0)), (1, .int v77_1), (2, .int v77_2)]) hx hb dX8_remove_134 rfl hl (by decide) rfl (fun ls hl => ?_)
                    refine lv_iconst (v := 0) hx hb dX8_remove_135 (by decide) ?_
                    refine lv_istore (lv' := [(4, .int 0), (3, .int 0), (0, .ref (ad v77_0)), (1, .int v77_1), (2, .int v77_2)]) hx hb dX8_remove_136 hl (by decide) rfl (fun ls hl => ?_)
                    have J_138 : ∀ (n138 : Nat) (U138 : MS) (v138_0 : Nat) (v138_1 : Int32) (v138_2 : Int32) (v138_3 : Int32) (v138_4 : Int32) (H : Heap) (locs : List Loc) (ls : Array Slot), w_X8_remove_L138 Q n138 U138 v138_0 v138_1 v138_2 v138_3 v138_4 → qT U138 v138_0 = 47 → shy S U138 → RepC g ad A s U138 H locs → lv_has ls 7 [(0, .ref (ad v138_0)), (1, .int v138_1), (2, .int v138_2), (3, .int v138_3), (4, .int v138_4)] → W p l e (headSpec (wt yX8_remove cX8_remove 7 none) ({ frames := 2, cells := 0, slots := 0, locals := 48 })).room s m ([.ref (ad p0), .int x1, .int x2] : List Value).toArray below meth c H locs 0 0 (MQ below (va_Qv (fun (u : MS) => Q u ∧ wfC u ∧ shy S u) (fun (u : MS) (t : State) => qEC g ad A u t) A) ([.ref (ad p0), .int x1, .int x2] : List Value).toArray s 0 0 A) (F0 m 138 ls []) := by
                      intro n138
                      induction n138 with
                      | zero => intro U138 v138_0 v138_1 v138_2 v138_3 v138_4 H locs ls h hT_v138_0 hsh hR hl; unfold w_X8_remove_L138 at h; exact h.elim
                      | succ n138 ih_138 =>
                        intro U138 v138_0 v138_1 v138_2 v138_3 v138_4 H locs ls h hT_v138_0 hsh hR hl
                        unfold w_X8_remove_L138 at h
                        replace h := h hR.w hT_v138_0
                        refine lv_iload hx hb dX8_remove_138 (lv_at hl 4 rfl) ?_
                        refine lv_aload_n hx hb dX8_remove_140 rfl (lv_at hl 0 rfl) ?_
                        refine va_get (D := rD g) (ci := 7) (v := .int (qI U138 v138_0 9)) (C := RX8) (T := TX8) (N := 15) hx hb hts inX8 hown hR.K hR.P v138_0 (hR.at47 hT_v138_0) rfl 9 (by decide) (hts _ kw_1465) (fun _ h9 => h9) rfl dX8_remove_141 ?_
                        refine lv_icmp_ge (tgt := 238) hx hb dX8_remove_144 (by decide) (fun c10 => ?_) (fun c10 => ?_)
                        · replace h := h.1 (k_le rfl rfl c10)
                          refine lv_aload_n hx hb dX8_remove_238 rfl (lv_at hl 0 rfl) ?_
                          refine lv_iload_n hx hb dX8_remove_239 rfl (lv_at hl 3 rfl) ?_
                          refine va_put (D := rD g) (ci := 7) (v := .int v138_3) (ty := .int) (C := RX8) (T := TX8) (N := 15) hx hb hts inX8 tyX8 tyX8_ok nmX8 hown hR.K hR.P hR.D hR.sS v138_0 (hR.at47 hT_v138_0) rfl 9 (by decide) (hts _ kw_1465) (fun _ h9 => h9) rfl (by decide +kernel) rfl rfl (Nat.le_of_ble_eq_true rfl) dX8_remove_240 (fun H locs hP hD hS => ?_)
                          have hTk9 : qT U138 v138_0 = 47 := hT_v138_0
                          have hR : RepC g ad A s (wI U138 v138_0 9 v138_3) H locs := hR.pI47 hT_v138_0 FX8_s9 (fun q9 => absurd q9 (by decide)) hP hD hS
                          obtain ⟨S11, eS11⟩ : ∃ z, z = wI U138 v138_0 9 v138_3 := ⟨_, rfl⟩
                          rw [← eS11] at hR
                          replace h := h S11 eS11 hTk9 hR.w
                          have hT_v138_0 : qT S11 v138_0 = 47 := (congrArg (fun z => qT z v138_0) eS11).trans hT_v138_0
                          have hsh : shy S S11 := by rw [eS11]; exact hsh
                          exact W.vret hx hb hr (fun t9 ht9 hW9 => ⟨⟨S11, rfl, ⟨h, hR.w, hsh⟩, ⟨by rw [ht9]; exact hR.P, hR.D⟩⟩, hR.sS.F ht9⟩) hR.sS.2.2 dX8_remove_243
                        · replace h := h.2 (k_nle rfl rfl c10)
                          refine lv_aload_n hx hb dX8_remove_147 rfl (lv_at hl 0 rfl) ?_
                          obtain ⟨hv13, h⟩ := h
                          have hT_b12 : qT U138 (qO U138 v138_0 5) = 224 := hR.w.ref hv13 hT_v138_0
                          refine va_get (D := rD g) (ci := 7) (v := .ref (ad (qO U138 v138_0 5))) (C := RX8) (T := TX8) (N := 15) hx hb hts inX8 hown hR.K hR.P v138_0 (hR.at47 hT_v138_0) rfl 5 (by decide) (hts _ kw_1466) (fun _ h9 => h9) (congrArg (fun z => some (vf ad z)) hv13) dX8_remove_148 ?_
                          refine lv_iload hx hb dX8_remove_151 (lv_at hl 4 rfl) ?_
                          obtain ⟨hv14, h⟩ := h
                          refine va_iald hx hb hR.K hR.P (qO U138 v138_0 5) 1 (hR.atI hT_b12 (by decide)) rfl (k_ix (x := v138_4) (a := v138_4.toInt) rfl hv14) dX8_remove_153 ?_
                          refine lv_topi (fun z15 ez15 => ?_)
                          obtain rfl : z15 = (qI U138 (qO U138 v138_0 5) v138_4.toInt.toNat) := ez15
                          refine lv_iload_n hx hb dX8_remove_154 rfl (lv_at hl 1 rfl) ?_
                          refine lv_iload_n hx hb dX8_remove_155 rfl (lv_at hl 2 rfl) ?_
                          obtain ⟨hv16, h⟩ := h
                          have hFc := cfree hR hA
                          refine va_calli (va_runS (As := [.int (qI U138 (qO U138 v138_0 5) v138_4.toInt.toNat), .int v138_1, .int v138_2]) (rest := []) ⟨hx, hb, hml, hown, hts⟩ (rX8_behindRemoved l g ad H.size U138 (qI U138 (qO U138 v138_0 5) v138_4.toInt.toNat) v138_1 v138_2 hR.w  hv16) (va_cwS 3 hts (gd_S kw_1520 kw_1480 kw_782 kw_1479) rfl rfl rfl (by decide +kernel) ⟨Nat.le_of_ble_eq_true rfl, Nat.le_of_ble_eq_true rfl⟩) ⟨cblind, fun U hU hW9 => cmk hU hW9 hR hex hE hFc⟩ rfl rfl hl.1 rfl (lv_room (Nat.le_of_ble_eq_true rfl)) dX8_remove_156 ⟨Nat.le_of_ble_eq_true rfl, Nat.le_of_ble_eq_true rfl⟩) hR.sS (fun q _ h => hFc q h) hFc (fun r17 u9 t9 H1 locs ht9 hvm9 hw9 hB9 hz9 hk9 hS => ?_)
                          have hR : RepC g ad A s U138 H1 locs := hR.call ht9 hB9 hR.w hS hFc
                          obtain rfl : r17 = (fX8_behindRemoved U138 (qI U138 (qO U138 v138_0 5) v138_4.toInt.toNat) v138_1 v138_2) := hw9
                          clear hB9 hz9 hk9 hvm9 ht9 hS
                          generalize H1 = H at hR ⊢
                          obtain ⟨a19, ea19⟩ : ∃ z, z = (fX8_behindRemoved U138 (qI U138 (qO U138 v138_0 5) v138_4.toInt.toNat) v138_1 v138_2) := ⟨_, rfl⟩
                          rw [← ea19]
                          replace h := h a19 ea19
                          refine lv_istore (lv' := [(5, .int a19), (0, .ref (ad v138_0)), (1, .int v138_1), (2, .int v138_2), (3, .int v138_3), (4, .int v138_4)]) hx hb dX8_remove_159 hl (by decide) rfl (fun ls hl => ?_)
                          refine lv_aload_n hx hb dX8_remove_161 rfl (lv_at hl 1 rfl) ?_
                          obtain ⟨hv21, h⟩ := h
                          have hT_b20 : qT U138 (qO U138 v138_0 6) = 225 := hR.w.ref hv21 hT_v138_0
                          refine va_get (D := rD g) (ci := 7) (v := .ref (ad (qO U138 v138_0 6))) (C := RX8) (T := TX8) (N := 15) hx hb hts inX8 hown hR.K hR.P v138_0 (hR.at47 hT_v138_0) rfl 6 (by decide) (hts _ kw_1467) (fun _ h9 => h9) (congrArg (fun z => some (vf ad z)) hv21) dX8_remove_162 ?_
                          refine lv_iload hx hb dX8_remove_165 (lv_at hl 5 rfl) ?_
                          obtain ⟨hv22, h⟩ := h
                          refine va_iald hx hb hR.K hR.P (qO U138 v138_0 6) 1 (hR.atI hT_b20 (by decide)) rfl (k_ix (x := v138_4) (a := v138_4.toInt) rfl hv22) dX8_remove_167 ?_
                          refine lv_topi (fun z23 ez23 => ?_)
                          obtain rfl : z23 = (qI U138 (qO U138 v138_0 6) v138_4.toInt.toNat) := ez23
                          refine lv_iload_n hx hb dX8_remove_168 rfl (lv_at hl 2 rfl) ?_
                          refine lv_iload_n hx hb dX8_remove_169 rfl (lv_at hl 3 rfl) ?_
                          obtain ⟨hv24, h⟩ := h
                          have hFc := cfree hR hA
                          refine va_calli (va_runS (As := [.int (qI U138 (qO U138 v138_0 6) v138_4.toInt.toNat), .int v138_1, .int v138_2]) (rest := []) ⟨hx, hb, hml, hown, hts⟩ (rX8_behindRemoved l g ad H.size U138 (qI U138 (qO U138 v138_0 6) v138_4.toInt.toNat) v138_1 v138_2 hR.w  hv24) (va_cwS 3 hts (gd_S kw_1520 kw_1480 kw_782 kw_1479) rfl rfl rfl (by decide +kernel) ⟨Nat.le_of_ble_eq_true rfl, Nat.le_of_ble_eq_true rfl⟩) ⟨cblind, fun U hU hW9 => cmk hU hW9 hR hex hE hFc⟩ rfl rfl hl.1 rfl (lv_room (Nat.le_of_ble_eq_true rfl)) dX8_remove_170 ⟨Nat.le_of_ble_eq_true rfl, Nat.le_of_ble_eq_true rfl⟩) hR.sS (fun q _ h => hFc q h) hFc (fun r25 u9 t9 H1 locs ht9 hvm9 hw9 hB9 hz9 hk9 hS => ?_)
                          have hR : RepC g ad A s U138 H1 locs := hR.call ht9 hB9 hR.w hS hFc
                          obtain rfl : r25 = (fX8_behindRemoved U138 (qI U138 (qO U138 v138_0 6) v138_4.toInt.toNat) v138_1 v138_2) := hw9
                          clear hB9 hz9 hk9 hvm9 ht9 hS
                          generalize H1 = H at hR ⊢
                          obtain ⟨a27, ea27⟩ : ∃ z, z = (fX8_behindRemoved U138 (qI U138 (qO U138 v138_0 6) v138_4.toInt.toNat) v138_1 v138_2) := ⟨_, rfl⟩
                          rw [← ea27]
                          replace h := h a27 ea27
                          refine lv_istore (lv' := [(6, .int a27), (5, .int a19), (0, .ref (ad v138_0)), (1, .int v138_1), (2, .int v138_2), (3, .int v138_3), (4, .int v138_4)]) hx hb dX8_remove_173 hl (by decide) rfl (fun ls hl => ?_)
                          refine lv_iload hx hb dX8_remove_175 (lv_at hl 1 rfl) ?_
                          refine lv_iload hx hb dX8_remove_177 (lv_at hl 0 rfl) ?_
                          have J_232 : ∀ (U232 : MS) (v232_0 : Nat) (v232_1 : Int32) (v232_2 : Int32) (v232_3 : Int32) (v232_4 : Int32) (H : Heap) (locs : List Loc) (ls : Array Slot), w_X8_remove_J232 Q (w_X8_remove_L138 Q n138) U232 v232_0 v232_1 v232_2 v232_3 v232_4 → qT U232 v232_0 = 47 → shy S U232 → RepC g ad A s U232 H locs → lv_has ls 7 [(0, .ref (ad v232_0)), (1, .int v232_1), (2, .int v232_2), (3, .int v232_3), (4, .int v232_4)] → W p l e (headSpec (wt yX8_remove cX8_remove 7 none) ({ frames := 2, cells := 0, slots := 0, locals := 48 })).room s m ([.ref (ad p0), .int x1, .int x2] : List Value).toArray below meth c H locs 0 0 (MQ below (va_Qv (fun (u : MS) => Q u ∧ wfC u ∧ shy S u) (fun (u : MS) (t : State) => qEC g ad A u t) A) ([.ref (ad p0), .int x1, .int x2] : List Value).toArray s 0 0 A) (F0 m 232 ls []) := by
                            intro U232 v232_0 v232_1 v232_2 v232_3 v232_4 H locs ls h hT_v232_0 hsh hR hl
                            unfold w_X8_remove_J232 at h
                            replace h := h hR.w hT_v232_0
                            obtain ⟨a28, ea28⟩ : ∃ z, z = (v232_4 + Int32.ofInt 1) := ⟨_, rfl⟩
                            replace h := h a28 ea28
                            refine lv_iinc (v := a28) (lv' := [(4, .int a28), (0, .ref (ad v232_0)), (1, .int v232_1), (2, .int v232_2), (3, .int v232_3)]) hx hb dX8_remove_232 hl (k := 4) rfl ea28.symm (by decide) rfl (fun ls hl => ?_)
                            refine lv_goto (tgt := 138) hx hb dX8_remove_235 (by decide) ?_
                            exact ih_138 U232 v232_0 v232_1 v232_2 v232_3 a28 _ _ ls h hT_v232_0 hsh hR (lv_sub hl [1, 2, 3, 4, 0] rfl)
                          refine lv_icmp_ge (tgt := 232) hx hb dX8_remove_179 (by decide) (fun c29 => ?_) (fun c29 => ?_)
                          · replace h := h.1 (k_le rfl rfl c29)
                            exact J_232 U138 v138_0 v138_1 v138_2 v138_3 v138_4 _ _ ls h hT_v138_0 hsh hR (lv_sub hl [2, 3, 4, 5, 6] rfl)
                          · replace h := h.2 (k_nle rfl rfl c29)
                            refine lv_aload_n hx hb dX8_remove_182 rfl (lv_at hl 2 rfl) ?_
                            obtain ⟨hv31, h⟩ := h
                            have hT_b30 : qT U138 (qO U138 v138_0 5) = 224 := hR.w.ref hv31 hT_v138_0
                            refine va_get (D := rD g) (ci := 7) (v := .ref (ad (qO U138 v138_0 5))) (C := RX8) (T := TX8) (N := 15) hx hb hts inX8 hown hR.K hR.P v138_0 (hR.at47 hT_v138_0) rfl 5 (by decide) (hts _ kw_1466) (fun _ h9 => h9) (congrArg (fun z => some (vf ad z)) hv31) dX8_remove_183 ?_
                            refine lv_iload_n hx hb dX8_remove_186 rfl (lv_at hl 5 rfl) ?_
                            refine lv_iload hx hb dX8_remove_187 (lv_at hl 1 rfl) ?_
                            obtain ⟨hv32, h⟩ := h
                            refine va_iast hx hb hR.K hR.P hR.D hR.sS (qO U138 v138_0 5) 1 (hR.atI hT_b30 (by decide)) rfl (k_ix (x := v138_3) (a := v138_3.toInt) rfl hv32) dX8_remove_189 (fun H locs hP hD hS => ?_)
                            have hTk9 : qT U138 (qO U138 v138_0 5) = 224 := hT_b30
                            have hR : RepC g ad A s (wI U138 (qO U138 v138_0 5) v138_3.toInt.toNat a19) H locs := hR.aI hT_b30 (by decide) hP hD hS
                            obtain ⟨S33, eS33⟩ : ∃ z, z = wI U138 (qO U138 v138_0 5) v138_3.toInt.toNat a19 := ⟨_, rfl⟩
                            rw [← eS33] at hR
                            replace h := h S33 eS33 hTk9 hR.w
                            have hT_v138_0 : qT S33 v138_0 = 47 := (congrArg (fun z => qT z v138_0) eS33).trans hT_v138_0
                            have hsh : shy S S33 := by rw [eS33]; exact hsh
                            refine lv_aload_n hx hb dX8_remove_190 rfl (lv_at hl 2 rfl) ?_
                            obtain ⟨hv35, h⟩ := h
                            have hT_b34 : qT S33 (qO S33 v138_0 6) = 225 := hR.w.ref hv35 hT_v138_0
                            refine va_get (D := rD g) (ci := 7) (v := .ref (ad (qO S33 v138_0 6))) (C := RX8) (T := TX8) (N := 15) hx hb hts inX8 hown hR.K hR.P v138_0 (hR.at47 hT_v138_0) rfl 6 (by decide) (hts _ kw_1467) (fun _ h9 => h9) (congrArg (fun z => some (vf ad z)) hv35) dX8_remove_191 ?_
                            refine lv_iload_n hx hb dX8_remove_194 rfl (lv_at hl 5 rfl) ?_
                            refine lv_iload hx hb dX8_remove_195 (lv_at hl 0 rfl) ?_
                            obtain ⟨hv36, h⟩ := h
                            refine va_iast hx hb hR.K hR.P hR.D hR.sS (qO S33 v138_0 6) 1 (hR.atI hT_b34 (by decide)) rfl (k_ix (x := v138_3) (a := v138_3.toInt) rfl hv36) dX8_remove_197 (fun H locs hP hD hS => ?_)
                            have hTk9 : qT S33 (qO S33 v138_0 6) = 225 := hT_b34
                            have hR : RepC g ad A s (wI S33 (qO S33 v138_0 6) v138_3.toInt.toNat a27) H locs := hR.aI hT_b34 (by decide) hP hD hS
                            obtain ⟨S37, eS37⟩ : ∃ z, z = wI S33 (qO S33 v138_0 6) v138_3.toInt.toNat a27 := ⟨_, rfl⟩
                            rw [← eS37] at hR
                            replace h := h S37 eS37 hTk9 hR.w
                            have hT_v138_0 : qT S37 v138_0 = 47 := (congrArg (fun z => qT z v138_0) eS37).trans hT_v138_0
                            have hsh : shy S S37 := by rw [eS37]; exact hsh
                            refine lv_aload_n hx hb dX8_remove_198 rfl (lv_at hl 2 rfl) ?_
                            obtain ⟨hv39, h⟩ := h
                            have hT_b38 : qT S37 (qO S37 v138_0 7) = 226 := hR.w.ref hv39 hT_v138_0
                            refine va_get (D := rD g) (ci := 7) (v := .ref (ad (qO S37 v138_0 7))) (C := RX8) (T := TX8) (N := 15) hx hb hts inX8 hown hR.K hR.P v138_0 (hR.at47 hT_v138_0) rfl 7 (by decide) (hts _ kw_1468) (fun _ h9 => h9) (congrArg (fun z => some (vf ad z)) hv39) dX8_remove_199 ?_
                            refine lv_iload_n hx hb dX8_remove_202 rfl (lv_at hl 5 rfl) ?_
                            refine lv_aload_n hx hb dX8_remove_203 rfl (lv_at hl 2 rfl) ?_
                            obtain ⟨hv41, h⟩ := h
                            have hT_b40 : qT S37 (qO S37 v138_0 7) = 226 := hR.w.ref hv41 hT_v138_0
                            refine va_get (D := rD g) (ci := 7) (v := .ref (ad (qO S37 v138_0 7))) (C := RX8) (T := TX8) (N := 15) hx hb hts inX8 hown hR.K hR.P v138_0 (hR.at47 hT_v138_0) rfl 7 (by decide) (hts _ kw_1468) (fun _ h9 => h9) (congrArg (fun z => some (vf ad z)) hv41) dX8_remove_204 ?_
                            refine lv_iload hx hb dX8_remove_207 (lv_at hl 6 rfl) ?_
                            obtain ⟨hv42, h⟩ := h
                            refine va_iald hx hb hR.K hR.P (qO S37 v138_0 7) 1 (hR.atI hT_b40 (by decide)) rfl (k_ix (x := v138_4) (a := v138_4.toInt) rfl hv42) dX8_remove_209 ?_
                            refine lv_topi (fun z43 ez43 => ?_)
                            obtain rfl : z43 = (qI S37 (qO S37 v138_0 7) v138_4.toInt.toNat) := ez43
                            refine lv_iload_n hx hb dX8_remove_210 rfl (lv_at hl 3 rfl) ?_
                            refine lv_iload_n hx hb dX8_remove_211 rfl (lv_at hl 4 rfl) ?_
                            obtain ⟨hv44, h⟩ := h
                            have hFc := cfree hR hA
                            refine va_calli (va_runS (As := [.int (qI S37 (qO S37 v138_0 7) v138_4.toInt.toNat), .int v138_1, .int v138_2]) (rest := [.int v138_3, .ref (ad (qO S37 v138_0 7))]) ⟨hx, hb, hml, hown, hts⟩ (rX8_behindRemoved l g ad H.size S37 (qI S37 (qO S37 v138_0 7) v138_4.toInt.toNat) v138_1 v138_2 hR.w  hv44) (va_cwS 3 hts (gd_S kw_1520 kw_1480 kw_782 kw_1479) rfl rfl rfl (by decide +kernel) ⟨Nat.le_of_ble_eq_true rfl, Nat.le_of_ble_eq_true rfl⟩) ⟨cblind, fun U hU hW9 => cmk hU hW9 hR hex hE hFc⟩ rfl rfl hl.1 rfl (lv_room (Nat.le_of_ble_eq_true rfl)) dX8_remove_212 ⟨Nat.le_of_ble_eq_true rfl, Nat.le_of_ble_eq_true rfl⟩) hR.sS (fun q _ h => hFc q h) hFc (fun r45 u9 t9 H1 locs ht9 hvm9 hw9 hB9 hz9 hk9 hS => ?_)
                            have hR : RepC g ad A s S37 H1 locs := hR.call ht9 hB9 hR.w hS hFc
                            obtain rfl : r45 = (fX8_behindRemoved S37 (qI S37 (qO S37 v138_0 7) v138_4.toInt.toNat) v138_1 v138_2) := hw9
                            clear hB9 hz9 hk9 hvm9 ht9 hS
                            generalize H1 = H at hR ⊢
                            obtain ⟨a47, ea47⟩ : ∃ z, z = (fX8_behindRemoved S37 (qI S37 (qO S37 v138_0 7) v138_4.toInt.toNat) v138_1 v138_2) := ⟨_, rfl⟩
                            rw [← ea47]
                            replace h := h a47 ea47
                            obtain ⟨hv48, h⟩ := h
                            refine va_iast hx hb hR.K hR.P hR.D hR.sS (qO S37 v138_0 7) 1 (hR.atI hT_b38 (by decide)) rfl (k_ix (x := v138_3) (a := v138_3.toInt) rfl hv48) dX8_remove_215 (fun H locs hP hD hS => ?_)
                            have hTk9 : qT S37 (qO S37 v138_0 7) = 226 := hT_b38
                            have hR : RepC g ad A s (wI S37 (qO S37 v138_0 7) v138_3.toInt.toNat a47) H locs := hR.aI hT_b38 (by decide) hP hD hS
                            obtain ⟨S49, eS49⟩ : ∃ z, z = wI S37 (qO S37 v138_0 7) v138_3.toInt.toNat a47 := ⟨_, rfl⟩
                            rw [← eS49] at hR
                            replace h := h S49 eS49 hTk9 hR.w
                            have hT_v138_0 : qT S49 v138_0 = 47 := (congrArg (fun z => qT z v138_0) eS49).trans hT_v138_0
                            have hsh : shy S S49 := by rw [eS49]; exact hsh
                            refine lv_aload_n hx hb dX8_remove_216 rfl (lv_at hl 2 rfl) ?_
                            obtain ⟨hv51, h⟩ := h
                            have hT_b50 : qT S49 (qO S49 v138_0 8) = 227 := hR.w.ref hv51 hT_v138_0
                            refine va_get (D := rD g) (ci := 7) (v := .ref (ad (qO S49 v138_0 8))) (C := RX8) (T := TX8) (N := 15) hx hb hts inX8 hown hR.K hR.P v138_0 (hR.at47 hT_v138_0) rfl 8 (by decide) (hts _ kw_1469) (fun _ h9 => h9) (congrArg (fun z => some (vf ad z)) hv51) dX8_remove_217 ?_
                            refine lv_iload_n hx hb dX8_remove_220 rfl (lv_at hl 5 rfl) ?_
                            refine lv_aload_n hx hb dX8_remove_221 rfl (lv_at hl 2 rfl) ?_
                            obtain ⟨hv53, h⟩ := h
                            have hT_b52 : qT S49 (qO S49 v138_0 8) = 227 := hR.w.ref hv53 hT_v138_0
                            refine va_get (D := rD g) (ci := 7) (v := .ref (ad (qO S49 v138_0 8))) (C := RX8) (T := TX8) (N := 15) hx hb hts inX8 hown hR.K hR.P v138_0 (hR.at47 hT_v138_0) rfl 8 (by decide) (hts _ kw_1469) (fun _ h9 => h9) (congrArg (fun z => some (vf ad z)) hv53) dX8_remove_222 ?_
                            refine lv_iload hx hb dX8_remove_225 (lv_at hl 6 rfl) ?_
                            obtain ⟨hv54, h⟩ := h
                            refine va_iald hx hb hR.K hR.P (qO S49 v138_0 8) 1 (hR.atI hT_b52 (by decide)) rfl (k_ix (x := v138_4) (a := v138_4.toInt) rfl hv54) dX8_remove_227 ?_
                            refine lv_topi (fun z55 ez55 => ?_)
                            obtain rfl : z55 = (qI S49 (qO S49 v138_0 8) v138_4.toInt.toNat) := ez55
                            obtain ⟨hv56, h⟩ := h
                            refine va_iast hx hb hR.K hR.P hR.D hR.sS (qO S49 v138_0 8) 1 (hR.atI hT_b50 (by decide)) rfl (k_ix (x := v138_3) (a := v138_3.toInt) rfl hv56) dX8_remove_228 (fun H locs hP hD hS => ?_)
                            have hTk9 : qT S49 (qO S49 v138_0 8) = 227 := hT_b50
                            have hR : RepC g ad A s (wI S49 (qO S49 v138_0 8) v138_3.toInt.toNat (qI S49 (qO S49 v138_0 8) v138_4.toInt.toNat)) H locs := hR.aI hT_b50 (by decide) hP hD hS
                            obtain ⟨S57, eS57⟩ : ∃ z, z = wI S49 (qO S49 v138_0 8) v138_3.toInt.toNat (qI S49 (qO S49 v138_0 8) v138_4.toInt.toNat) := ⟨_, rfl⟩
                            rw [← eS57] at hR
                            replace h := h S57 eS57 hTk9 hR.w
                            have hT_v138_0 : qT S57 v138_0 = 47 := (congrArg (fun z => qT z v138_0) eS57).trans hT_v138_0
                            have hsh : shy S S57 := by rw [eS57]; exact hsh
                            obtain ⟨a58, ea58⟩ : ∃ z, z = (v138_3 + Int32.ofInt 1) := ⟨_, rfl⟩
                            replace h := h a58 ea58
                            refine lv_iinc (v := a58) (lv' := [(3, .int a58), (6, .int a27), (5, .int a19), (0, .ref (ad v138_0)), (1, .int v138_1), (2, .int v138_2), (4, .int v138_4)]) hx hb dX8_remove_229 hl (k := 5) rfl ea58.symm (by decide) rfl (fun ls hl => ?_)
                            exact J_232 S57 v138_0 v138_1 v138_2 a58 v138_4 _ _ ls h hT_v138_0 hsh hR (lv_sub hl [3, 4, 5, 0, 6] rfl)
                    obtain ⟨n9, h⟩ := h
                    exact J_138 n9 U77 v77_0 v77_1 v77_2 0 0 _ _ ls h hT_v77_0 hsh hR (lv_sub hl [2, 3, 4, 1, 0] rfl)
                  · replace h := h.2 (k_nle rfl rfl c9)
                    refine lv_aload_n hx hb dX8_remove_85 rfl (lv_at hl 0 rfl) ?_
                    refine lv_iload_n hx hb dX8_remove_86 rfl (lv_at hl 3 rfl) ?_
                    obtain ⟨hv59, h⟩ := h
                    have hFc := cfree hR hA
                    refine va_calli (va_runV (As := [.int v77_3]) (rest := []) ⟨hx, hb, hml, hown, hts⟩ (rX8_targetCount l g ad H.size U77 v77_0 v77_3 hR.w hT_v77_0 hv59) (cwV 1 hts (gd_V kw_1518 kw_1541 kw_1542 kw_782 kw_1540) rfl rfl rfl (by decide +kernel) ⟨Nat.le_of_ble_eq_true rfl, Nat.le_of_ble_eq_true rfl⟩) ⟨cblind, va_recv hR.K hR.P (ci := 7) (q0 := v77_0) rfl (hR.at47 hT_v77_0), fun U hU hW9 => cmk hU hW9 hR hex hE hFc⟩ rfl rfl hl.1 rfl (lv_room (Nat.le_of_ble_eq_true rfl)) dX8_remove_87 ⟨Nat.le_of_ble_eq_true rfl, Nat.le_of_ble_eq_true rfl⟩) hR.sS (fun q _ h => hFc q h) hFc (fun r60 u9 t9 H1 locs ht9 hvm9 hw9 hB9 hz9 hk9 hS => ?_)
                    have hR : RepC g ad A s U77 H1 locs := hR.call ht9 hB9 hR.w hS hFc
                    obtain rfl : r60 = (fX8_targetCount U77 v77_0 v77_3) := hw9
                    clear hB9 hz9 hk9 hvm9 ht9 hS
                    generalize H1 = H at hR ⊢
                    obtain ⟨a62, ea62⟩ : ∃ z, z = (fX8_targetCount U77 v77_0 v77_3) := ⟨_, rfl⟩
                    rw [← ea62]
                    replace h := h a62 ea62
                    refine lv_istore (lv' := [(4, .int a62), (0, .ref (ad v77_0)), (1, .int v77_1), (2, .int v77_2), (3, .int v77_3)]) hx hb dX8_remove_90 hl (by decide) rfl (fun ls hl => ?_)
                    refine lv_iconst (v := 0) hx hb dX8_remove_92 (by decide) ?_
                    refine lv_istore (lv' := [(5, .int 0), (4, .int a62), (0, .ref (ad v77_0)), (1, .int v77_1), (2, .int v77_2), (3, .int v77_3)]) hx hb dX8_remove_93 hl (by decide) rfl (fun ls hl => ?_)
                    have J_95 : ∀ (n95 : Nat) (U95 : MS) (v95_0 : Nat) (v95_1 : Int32) (v95_2 : Int32) (v95_3 : Int32) (v95_4 : Int32) (v95_5 : Int32) (H : Heap) (locs : List Loc) (ls : Array Slot), w_X8_remove_L95 Q (w_X8_remove_L77 Q n77) n95 U95 v95_0 v95_1 v95_2 v95_3 v95_4 v95_5 → qT U95 v95_0 = 47 → shy S U95 → RepC g ad A s U95 H locs → lv_has ls 7 [(0, .ref (ad v95_0)), (1, .int v95_1), (2, .int v95_2), (3, .int v95_3), (4, .int v95_4), (5, .int v95_5)] → W p l e (headSpec (wt yX8_remove cX8_remove 7 none) ({ frames := 2, cells := 0, slots := 0, locals := 48 })).room s m ([.ref (ad p0), .int x1, .int x2] : List Value).toArray below meth c H locs 0 0 (MQ below (va_Qv (fun (u : MS) => Q u ∧ wfC u ∧ shy S u) (fun (u : MS) (t : State) => qEC g ad A u t) A) ([.ref (ad p0), .int x1, .int x2] : List Value).toArray s 0 0 A) (F0 m 95 ls []) := by
                      intro n95
                      induction n95 with
                      | zero => intro U95 v95_0 v95_1 v95_2 v95_3 v95_4 v95_5 H locs ls h hT_v95_0 hsh hR hl; unfold w_X8_remove_L95 at h; exact h.elim
                      | succ n95 ih_95 =>
                        intro U95 v95_0 v95_1 v95_2 v95_3 v95_4 v95_5 H locs ls h hT_v95_0 hsh hR hl
                        unfold w_X8_remove_L95 at h
                        replace h := h hR.w hT_v95_0
                        refine lv_iload hx hb dX8_remove_95 (lv_at hl 5 rfl) ?_
                        refine lv_iload hx hb dX8_remove_97 (lv_at hl 4 rfl) ?_
                        refine lv_icmp_ge (tgt := 127) hx hb dX8_remove_99 (by decide) (fun c63 => ?_) (fun c63 => ?_)
                        · replace h := h.1 (k_le rfl rfl c63)
                          obtain ⟨a64, ea64⟩ : ∃ z, z = (v95_3 + Int32.ofInt 1) := ⟨_, rfl⟩
                          replace h := h a64 ea64
                          refine lv_iinc (v := a64) (lv' := [(3, .int a64), (0, .ref (ad v95_0)), (1, .int v95_1), (2, .int v95_2), (4, .int v95_4), (5, .int v95_5)]) hx hb dX8_remove_127 hl (k := 3) rfl ea64.symm (by decide) rfl (fun ls hl => ?_)
                          refine lv_goto (tgt := 77) hx hb dX8_remove_130 (by decide) ?_
                          exact ih_77 U95 v95_0 v95_1 v95_2 a64 _ _ ls h hT_v95_0 hsh hR (lv_sub hl [1, 2, 3, 0] rfl)
                        · replace h := h.2 (k_nle rfl rfl c63)
                          refine lv_aload_n hx hb dX8_remove_102 rfl (lv_at hl 0 rfl) ?_
                          refine lv_iload_n hx hb dX8_remove_103 rfl (lv_at hl 3 rfl) ?_
                          refine lv_iload hx hb dX8_remove_104 (lv_at hl 5 rfl) ?_
                          refine lv_aload_n hx hb dX8_remove_106 rfl (lv_at hl 0 rfl) ?_
                          refine lv_iload_n hx hb dX8_remove_107 rfl (lv_at hl 3 rfl) ?_
                          refine lv_iload hx hb dX8_remove_108 (lv_at hl 5 rfl) ?_
                          obtain ⟨hv65, h⟩ := h
                          have hFc := cfree hR hA
                          refine va_calli (va_runV (As := [.int v95_3, .int v95_5]) (rest := [.int v95_5, .int v95_3, .ref (ad v95_0)]) ⟨hx, hb, hml, hown, hts⟩ (rX8_targetAt l g ad H.size U95 v95_0 v95_3 v95_5 hR.w hT_v95_0 hv65) (cwV 2 hts (gd_V kw_1519 kw_1537 kw_1538 kw_782 kw_1536) rfl rfl rfl (by decide +kernel) ⟨Nat.le_of_ble_eq_true rfl, Nat.le_of_ble_eq_true rfl⟩) ⟨cblind, va_recv hR.K hR.P (ci := 7) (q0 := v95_0) rfl (hR.at47 hT_v95_0), fun U hU hW9 => cmk hU hW9 hR hex hE hFc⟩ rfl rfl hl.1 rfl (lv_room (Nat.le_of_ble_eq_true rfl)) dX8_remove_110 ⟨Nat.le_of_ble_eq_true rfl, Nat.le_of_ble_eq_true rfl⟩) hR.sS (fun q _ h => hFc q h) hFc (fun r66 u9 t9 H1 locs ht9 hvm9 hw9 hB9 hz9 hk9 hS => ?_)
                          have hR : RepC g ad A s U95 H1 locs := hR.call ht9 hB9 hR.w hS hFc
                          obtain rfl : r66 = (fX8_targetAt U95 v95_0 v95_3 v95_5) := hw9
                          clear hB9 hz9 hk9 hvm9 ht9 hS
                          generalize H1 = H at hR ⊢
                          obtain ⟨a68, ea68⟩ : ∃ z, z = (fX8_targetAt U95 v95_0 v95_3 v95_5) := ⟨_, rfl⟩
                          rw [← ea68]
                          replace h := h a68 ea68
                          refine lv_iload_n hx hb dX8_remove_113 rfl (lv_at hl 1 rfl) ?_
                          refine lv_iload_n hx hb dX8_remove_114 rfl (lv_at hl 2 rfl) ?_
                          obtain ⟨hv69, h⟩ := h
                          have hFc := cfree hR hA
                          refine va_calli (va_runS (As := [.int a68, .int v95_1, .int v95_2]) (rest := [.int v95_5, .int v95_3, .ref (ad v95_0)]) ⟨hx, hb, hml, hown, hts⟩ (rX8_behindRemoved l g ad H.size U95 a68 v95_1 v95_2 hR.w  hv69) (va_cwS 3 hts (gd_S kw_1520 kw_1480 kw_782 kw_1479) rfl rfl rfl (by decide +kernel) ⟨Nat.le_of_ble_eq_true rfl, Nat.le_of_ble_eq_true rfl⟩) ⟨cblind, fun U hU hW9 => cmk hU hW9 hR hex hE hFc⟩ rfl rfl hl.1 rfl (lv_room (Nat.le_of_ble_eq_true rfl)) dX8_remove_115 ⟨Nat.le_of_ble_eq_true rfl, Nat.le_of_ble_eq_true rfl⟩) hR.sS (fun q _ h => hFc q h) hFc (fun r70 u9 t9 H1 locs ht9 hvm9 hw9 hB9 hz9 hk9 hS => ?_)
                          have hR : RepC g ad A s U95 H1 locs := hR.call ht9 hB9 hR.w hS hFc
                          obtain rfl : r70 = (fX8_behindRemoved U95 a68 v95_1 v95_2) := hw9
                          clear hB9 hz9 hk9 hvm9 ht9 hS
                          generalize H1 = H at hR ⊢
                          obtain ⟨a72, ea72⟩ : ∃ z, z = (fX8_behindRemoved U95 a68 v95_1 v95_2) := ⟨_, rfl⟩
                          rw [← ea72]
                          replace h := h a72 ea72
                          replace h := h (hT_v95_0)
                          obtain ⟨Q73, h0, h⟩ := h
                          have hFc := cfree hR hA
                          refine va_callv (va_runV (As := [.int v95_3, .int v95_5, .int a72]) (rest := []) ⟨hx, hb, hml, hown, hts⟩ (rX8_setTarget l g ad H.size U95 v95_0 v95_3 v95_5 a72 hR.w hT_v95_0 Q73 h0) (cwV 3 hts (gd_V kw_1521 kw_1526 kw_1527 kw_782 kw_1525) rfl rfl rfl (by decide +kernel) ⟨Nat.le_of_ble_eq_true rfl, Nat.le_of_ble_eq_true rfl⟩) ⟨cblind, va_recv hR.K hR.P (ci := 7) (q0 := v95_0) rfl (hR.at47 hT_v95_0), fun U hU hW9 => cmk hU hW9 hR hex hE hFc⟩ rfl rfl hl.1 rfl (lv_room (Nat.le_of_ble_eq_true rfl)) dX8_remove_118 ⟨Nat.le_of_ble_eq_true rfl, Nat.le_of_ble_eq_true rfl⟩) hR.sS (fun q _ h => hFc q h) hFc (fun  S74 t9 H1 locs ht9 hvm9 hw9 hB9 hz9 hk9 hS => ?_)
                          obtain ⟨hq75, hw9, hs9⟩ := hw9
                          have hR : RepC g ad A s S74 H1 locs := hR.call ht9 hB9 hw9 hS hFc
                          have hsh := hsh.tr hs9
                          replace h := h  S74 hq75 hw9 hs9
                          have hT_v95_0 := hs9.T hT_v95_0 (by decide)
                          clear hB9 hz9 hk9 hvm9 ht9 hw9 hs9 hS
                          generalize H1 = H at hR ⊢
                          obtain ⟨a76, ea76⟩ : ∃ z, z = (v95_5 + Int32.ofInt 1) := ⟨_, rfl⟩
                          replace h := h a76 ea76
                          refine lv_iinc (v := a76) (lv' := [(5, .int a76), (0, .ref (ad v95_0)), (1, .int v95_1), (2, .int v95_2), (3, .int v95_3), (4, .int v95_4)]) hx hb dX8_remove_121 hl (k := 5) rfl ea76.symm (by decide) rfl (fun ls hl => ?_)
                          refine lv_goto (tgt := 95) hx hb dX8_remove_124 (by decide) ?_
                          exact ih_95 S74 v95_0 v95_1 v95_2 v95_3 v95_4 a76 _ _ ls h hT_v95_0 hsh hR (lv_sub hl [1, 2, 3, 4, 5, 0] rfl)
                    obtain ⟨n9, h⟩ := h
                    exact J_95 n9 U77 v77_0 v77_1 v77_2 v77_3 a62 0 _ _ ls h hT_v77_0 hsh hR (lv_sub hl [2, 3, 4, 5, 1, 0] rfl)
              obtain ⟨n9, h⟩ := h
              exact J_77 n9 S8 v21_0 v21_1 v21_2 0 _ _ ls h hT_v21_0 hsh hR (lv_sub hl [1, 2, 3, 0] rfl)
            · replace h := h.2 (k_nle rfl rfl c6)
              refine lv_aload_n hx hb dX8_remove_31 rfl (lv_at hl 0 rfl) ?_
              obtain ⟨hv78, h⟩ := h
              have hT_b77 : qT U21 (qO U21 v21_0 0) = 222 := hR.w.ref hv78 hT_v21_0
              refine va_get (D := rD g) (ci := 7) (v := .ref (ad (qO U21 v21_0 0))) (C := RX8) (T := TX8) (N := 15) hx hb hts inX8 hown hR.K hR.P v21_0 (hR.at47 hT_v21_0) rfl 0 (by decide) (hts _ kw_1460) (fun _ h9 => h9) (congrArg (fun z => some (vf ad z)) hv78) dX8_remove_32 ?_
              refine lv_iload_n hx hb dX8_remove_35 rfl (lv_at hl 3 rfl) ?_
              refine lv_aload_n hx hb dX8_remove_36 rfl (lv_at hl 0 rfl) ?_
              obtain ⟨hv80, h⟩ := h
              have hT_b79 : qT U21 (qO U21 v21_0 0) = 222 := hR.w.ref hv80 hT_v21_0
              refine va_get (D := rD g) (ci := 7) (v := .ref (ad (qO U21 v21_0 0))) (C := RX8) (T := TX8) (N := 15) hx hb hts inX8 hown hR.K hR.P v21_0 (hR.at47 hT_v21_0) rfl 0 (by decide) (hts _ kw_1460) (fun _ h9 => h9) (congrArg (fun z => some (vf ad z)) hv80) dX8_remove_37 ?_
              refine lv_iload_n hx hb dX8_remove_40 rfl (lv_at hl 3 rfl) ?_
              refine lv_iload_n hx hb dX8_remove_41 rfl (lv_at hl 2 rfl) ?_
              refine lv_iadd hx hb dX8_remove_42 ?_
              refine lv_topi (fun z81 ez81 => ?_)
              obtain rfl : z81 = (v21_3 + v21_2) := ez81
              obtain ⟨hv82, h⟩ := h
              refine va_iald hx hb hR.K hR.P (qO U21 v21_0 0) 1 (hR.atI hT_b79 (by decide)) rfl (k_ix (x := (v21_3 + v21_2)) (a := (v21_3 + v21_2).toInt) rfl hv82) dX8_remove_43 ?_
              refine lv_topi (fun z83 ez83 => ?_)
              obtain rfl : z83 = (qI U21 (qO U21 v21_0 0) (((v21_3 + v21_2).toInt).toNat)) := ez83
              obtain ⟨hv84, h⟩ := h
              refine va_iast hx hb hR.K hR.P hR.D hR.sS (qO U21 v21_0 0) 1 (hR.atI hT_b77 (by decide)) rfl (k_ix (x := v21_3) (a := v21_3.toInt) rfl hv84) dX8_remove_44 (fun H locs hP hD hS => ?_)
              have hTk9 : qT U21 (qO U21 v21_0 0) = 222 := hT_b77
              have hR : RepC g ad A s (wI U21 (qO U21 v21_0 0) v21_3.toInt.toNat (qI U21 (qO U21 v21_0 0) (((v21_3 + v21_2).toInt).toNat))) H locs := hR.aI hT_b77 (by decide) hP hD hS
              obtain ⟨S85, eS85⟩ : ∃ z, z = wI U21 (qO U21 v21_0 0) v21_3.toInt.toNat (qI U21 (qO U21 v21_0 0) (((v21_3 + v21_2).toInt).toNat)) := ⟨_, rfl⟩
              rw [← eS85] at hR
              replace h := h S85 eS85 hTk9 hR.w
              have hT_v21_0 : qT S85 v21_0 = 47 := (congrArg (fun z => qT z v21_0) eS85).trans hT_v21_0
              have hsh : shy S S85 := by rw [eS85]; exact hsh
              refine lv_aload_n hx hb dX8_remove_45 rfl (lv_at hl 0 rfl) ?_
              obtain ⟨hv87, h⟩ := h
              have hT_b86 : qT S85 (qO S85 v21_0 1) = 406 := hR.w.ref hv87 hT_v21_0
              refine va_get (D := rD g) (ci := 7) (v := .ref (ad (qO S85 v21_0 1))) (C := RX8) (T := TX8) (N := 15) hx hb hts inX8 hown hR.K hR.P v21_0 (hR.at47 hT_v21_0) rfl 1 (by decide) (hts _ kw_1478) (fun _ h9 => h9) (congrArg (fun z => some (vf ad z)) hv87) dX8_remove_46 ?_
              refine lv_iload_n hx hb dX8_remove_49 rfl (lv_at hl 3 rfl) ?_
              refine lv_aload_n hx hb dX8_remove_50 rfl (lv_at hl 0 rfl) ?_
              obtain ⟨hv89, h⟩ := h
              have hT_b88 : qT S85 (qO S85 v21_0 1) = 406 := hR.w.ref hv89 hT_v21_0
              refine va_get (D := rD g) (ci := 7) (v := .ref (ad (qO S85 v21_0 1))) (C := RX8) (T := TX8) (N := 15) hx hb hts inX8 hown hR.K hR.P v21_0 (hR.at47 hT_v21_0) rfl 1 (by decide) (hts _ kw_1478) (fun _ h9 => h9) (congrArg (fun z => some (vf ad z)) hv89) dX8_remove_51 ?_
              refine lv_iload_n hx hb dX8_remove_54 rfl (lv_at hl 3 rfl) ?_
              refine lv_iload_n hx hb dX8_remove_55 rfl (lv_at hl 2 rfl) ?_
              refine lv_iadd hx hb dX8_remove_56 ?_
              refine lv_topi (fun z90 ez90 => ?_)
              obtain rfl : z90 = (v21_3 + v21_2) := ez90
              obtain ⟨hv91, h⟩ := h
              refine va_lald hx hb hR.K hR.P (qO S85 v21_0 1) 3 (hR.atL hT_b88 (by decide)) rfl (k_ix (x := (v21_3 + v21_2)) (a := (v21_3 + v21_2).toInt) rfl hv91) dX8_remove_57 ?_
              refine lv_topl (fun z92 ez92 => ?_)
              obtain rfl : z92 = (qJ S85 (qO S85 v21_0 1) (((v21_3 + v21_2).toInt).toNat)) := ez92
              obtain ⟨hv93, h⟩ := h
              refine va_last hx hb hR.K hR.P hR.D hR.sS (qO S85 v21_0 1) 3 (hR.atL hT_b86 (by decide)) rfl (k_ix (x := v21_3) (a := v21_3.toInt) rfl hv93) dX8_remove_58 (fun H locs hP hD hS => ?_)
              have hTk9 : qT S85 (qO S85 v21_0 1) = 406 := hT_b86
              have hR : RepC g ad A s (wJ S85 (qO S85 v21_0 1) v21_3.toInt.toNat (qJ S85 (qO S85 v21_0 1) (((v21_3 + v21_2).toInt).toNat))) H locs := hR.aL hT_b86 (by decide) hP hD hS
              obtain ⟨S94, eS94⟩ : ∃ z, z = wJ S85 (qO S85 v21_0 1) v21_3.toInt.toNat (qJ S85 (qO S85 v21_0 1) (((v21_3 + v21_2).toInt).toNat)) := ⟨_, rfl⟩
              rw [← eS94] at hR
              replace h := h S94 eS94 hTk9 hR.w
              have hT_v21_0 : qT S94 v21_0 = 47 := (congrArg (fun z => qT z v21_0) eS94).trans hT_v21_0
              have hsh : shy S S94 := by rw [eS94]; exact hsh
              obtain ⟨a95, ea95⟩ : ∃ z, z = (v21_3 + Int32.ofInt 1) := ⟨_, rfl⟩
              replace h := h a95 ea95
              refine lv_iinc (v := a95) (lv' := [(3, .int a95), (0, .ref (ad v21_0)), (1, .int v21_1), (2, .int v21_2)]) hx hb dX8_remove_59 hl (k := 3) rfl ea95.symm (by decide) rfl (fun ls hl => ?_)
              refine lv_goto (tgt := 21) hx hb dX8_remove_62 (by decide) ?_
              exact ih_21 S94 v21_0 v21_1 v21_2 a95 _ _ ls h hT_v21_0 hsh hR (lv_sub hl [1, 2, 3, 0] rfl)
        obtain ⟨n9, h⟩ := h
        exact J_21 n9 S p0 x1 x2 x1 _ _ ls h hT_p0 hsh hR (lv_sub hl [1, 2, 3, 0] rfl)
      · replace h := h.2 (k_nle rfl rfl c4)
        exact W.vret hx hb hr (fun t9 ht9 hW9 => ⟨⟨S, rfl, ⟨h, hR.w, hsh⟩, ⟨by rw [ht9]; exact hR.P, hR.D⟩⟩, hR.sS.F ht9⟩) hR.sS.2.2 dX8_remove_18
def w_X9_putCounters_L290 (Q : MS → Prop) : Nat → MS → Nat → Int32 → Prop
  | 0, _, _, _ => False
  | n290 + 1, U290, v290_1, v290_5 => (wfC U290 → qT U290 v290_1 = 47 → (((qI U290 v290_1 9).toInt ≤ v290_5.toInt → Q U290) ∧ (¬ (qI U290 v290_1 9).toInt ≤ v290_5.toInt → ((qR U290 v290_1 5 = some (qO U290 v290_1 5)) ∧ (((0 : Int) ≤ v290_5.toInt ∧ v290_5.toInt < (qN U290 (qO U290 v290_1 5) : Int)) ∧ (d_X9_placeOf U290 (qI U290 (qO U290 v290_1 5) v290_5.toInt.toNat) ∧ (∀ a31 : Int32, a31 = (fX9_placeOf U290 (qI U290 (qO U290 v290_1 5) v290_5.toInt.toNat)) → ((qR U290 v290_1 6 = some (qO U290 v290_1 6)) ∧ (((0 : Int) ≤ v290_5.toInt ∧ v290_5.toInt < (qN U290 (qO U290 v290_1 6) : Int)) ∧ (d_X9_placeOf U290 (qI U290 (qO U290 v290_1 6) v290_5.toInt.toNat) ∧ (∀ a39 : Int32, a39 = (fX9_placeOf U290 (qI U290 (qO U290 v290_1 6) v290_5.toInt.toNat)) → ((qR U290 v290_1 7 = some (qO U290 v290_1 7)) ∧ (((0 : Int) ≤ v290_5.toInt ∧ v290_5.toInt < (qN U290 (qO U290 v290_1 7) : Int)) ∧ (d_X9_placeOf U290 (qI U290 (qO U290 v290_1 7) v290_5.toInt.toNat) ∧ (∀ a47 : Int32, a47 = (fX9_placeOf U290 (qI U290 (qO U290 v290_1 7) v290_5.toInt.toNat)) → ((qR U290 v290_1 8 = some (qO U290 v290_1 8)) ∧ (((0 : Int) ≤ v290_5.toInt ∧ v290_5.toInt < (qN U290 (qO U290 v290_1 8) : Int)) ∧ (qT U290 (qO U290 66 0) = 47 → (∃ Q52, wX8_addCatch U290 (qO U290 66 0) a31 a39 a47 (qI U290 (qO U290 v290_1 8) v290_5.toInt.toNat) Q52 ∧ ∀ S53, Q52 S53 → wfC S53 → shy U290 S53 → (∀ a55 : Int32, a55 = (v290_5 + Int32.ofInt 1) → (w_X9_putCounters_L290 Q n290) S53 v290_1 a55))))))))))))))))))))
def w_X9_putCounters_L234 (Q : MS → Prop) (k208 : MS → Nat → Int32 → Prop) : Nat → MS → Nat → Int32 → Int32 → Int32 → Prop
  | 0, _, _, _, _, _ => False
  | n234 + 1, U234, v234_1, v234_5, v234_6, v234_7 => (wfC U234 → qT U234 v234_1 = 47 → ((v234_6.toInt ≤ v234_7.toInt → (∀ a62 : Int32, a62 = (v234_5 + Int32.ofInt 1) → k208 U234 v234_1 a62)) ∧ (¬ v234_6.toInt ≤ v234_7.toInt → (d_X8_targetAt U234 (qO U234 66 0) v234_5 v234_7 ∧ (∀ a68 : Int32, a68 = (fX8_targetAt U234 (qO U234 66 0) v234_5 v234_7) → (d_X9_placeOf U234 a68 ∧ (∀ a72 : Int32, a72 = (fX9_placeOf U234 a68) → (qT U234 (qO U234 66 0) = 47 → (∃ Q73, wX8_setTarget U234 (qO U234 66 0) v234_5 v234_7 a72 Q73 ∧ ∀ S74, Q73 S74 → wfC S74 → shy U234 S74 → (∀ a76 : Int32, a76 = (v234_7 + Int32.ofInt 1) → (w_X9_putCounters_L234 Q k208 n234) S74 v234_1 v234_5 v234_6 a76))))))))))
def w_X9_putCounters_L208 (Q : MS → Prop) : Nat → MS → Nat → Int32 → Prop
  | 0, _, _, _ => False
  | n208 + 1, U208, v208_1, v208_5 => (wfC U208 → qT U208 v208_1 = 47 → (((qI U208 (qO U208 66 0) 2).toInt ≤ v208_5.toInt → (∀ S21, S21 = wI U208 (qO U208 66 0) 9 (0 : Int32) → qT U208 (qO U208 66 0) = 47 → wfC S21 → (∃ n, w_X9_putCounters_L290 Q n S21 v208_1 0))) ∧ (¬ (qI U208 (qO U208 66 0) 2).toInt ≤ v208_5.toInt → (d_X8_targetCount U208 (qO U208 66 0) v208_5 ∧ (∀ a60 : Int32, a60 = (fX8_targetCount U208 (qO U208 66 0) v208_5) → (∃ n, w_X9_putCounters_L234 Q (w_X9_putCounters_L208 Q n208) n U208 v208_1 v208_5 a60 0))))))
def w_X9_putCounters_L176 (Q : MS → Prop) : Nat → MS → Nat → Int32 → Prop
  | 0, _, _, _ => False
  | n176 + 1, U176, v176_1, v176_5 => (wfC U176 → qT U176 v176_1 = 47 → (((qI U176 v176_1 4).toInt ≤ v176_5.toInt → (∃ n, w_X9_putCounters_L208 Q n U176 v176_1 0)) ∧ (¬ (qI U176 v176_1 4).toInt ≤ v176_5.toInt → ((qR U176 v176_1 3 = some (qO U176 v176_1 3)) ∧ (((0 : Int) ≤ v176_5.toInt ∧ v176_5.toInt < (qN U176 (qO U176 v176_1 3) : Int)) ∧ (qT U176 (qO U176 66 0) = 47 → (∃ Q82, wX8_addToTable U176 (qO U176 66 0) (qI U176 (qO U176 v176_1 3) v176_5.toInt.toNat) Q82 ∧ ∀ S83, Q82 S83 → wfC S83 → shy U176 S83 → (∀ a85 : Int32, a85 = (v176_5 + Int32.ofInt 1) → (w_X9_putCounters_L176 Q n176) S83 v176_1 a85))))))))
def w_X9_putCounters_J139 (Q : MS → Prop) (U139 : MS) (v139_1 : Nat) : Prop := (wfC U139 → qT U139 v139_1 = 47 → (((0 : Int) ≤ (if ((Int32.ofNat (qN U139 (qO U139 66 5))) - (1 : Int32)) < (qI U139 v139_1 2) then ((Int32.ofNat (qN U139 (qO U139 66 5))) - (1 : Int32)) else (qI U139 v139_1 2)).toInt ∧ (if ((Int32.ofNat (qN U139 (qO U139 66 5))) - (1 : Int32)) < (qI U139 v139_1 2) then ((Int32.ofNat (qN U139 (qO U139 66 5))) - (1 : Int32)) else (qI U139 v139_1 2)).toInt < (qN U139 (qO U139 66 5) : Int)) ∧ (∀ S14, S14 = wI U139 (qO U139 66 5) (((if ((Int32.ofNat (qN U139 (qO U139 66 5))) - (1 : Int32)) < (qI U139 v139_1 2) then ((Int32.ofNat (qN U139 (qO U139 66 5))) - (1 : Int32)) else (qI U139 v139_1 2)).toInt).toNat) (qI U139 (qO U139 66 0) 2) → qT U139 (qO U139 66 5) = 230 → wfC S14 → (∀ S16, S16 = wI S14 (qO S14 66 0) 4 (0 : Int32) → qT S14 (qO S14 66 0) = 47 → wfC S16 → (∃ n, w_X9_putCounters_L176 Q n S16 v139_1 0)))))
def w_X9_putCounters_J114 (Q : MS → Prop) (k19 : MS → Nat → Int32 → Int32 → Prop) (U114 : MS) (v114_1 : Nat) (v114_4 : Int32) (v114_5 : Int32) : Prop := (wfC U114 → qT U114 v114_1 = 47 → (d_X8_opAt U114 v114_1 v114_5 ∧ (∀ a106 : Int32, a106 = (fX8_opAt U114 v114_1 v114_5) → (d_X8_argAt U114 v114_1 v114_5 ∧ (∀ a110 : Int64, a110 = (fX8_argAt U114 v114_1 v114_5) → (qT U114 (qO U114 66 0) = 47 → (∃ Q111, wX8_add U114 (qO U114 66 0) a106 a110 Q111 ∧ ∀ S112, Q111 S112 → wfC S112 → shy U114 S112 → (∀ a114 : Int32, a114 = (v114_5 + Int32.ofInt 1) → k19 S112 v114_1 v114_4 a114))))))))
def w_X9_putCounters_L19 (Q : MS → Prop) : Nat → MS → Nat → Int32 → Int32 → Prop
  | 0, _, _, _, _ => False
  | n19 + 1, U19, v19_1, v19_4, v19_5 => (wfC U19 → qT U19 v19_1 = 47 → (((qI U19 v19_1 2).toInt ≤ v19_5.toInt → w_X9_putCounters_J139 Q U19 v19_1) ∧ (¬ (qI U19 v19_1 2).toInt ≤ v19_5.toInt → (((qN U19 (qO U19 66 5) : Int) ≤ v19_5.toInt → w_X9_putCounters_J139 Q U19 v19_1) ∧ (¬ (qN U19 (qO U19 66 5) : Int) ≤ v19_5.toInt → (((0 : Int) ≤ v19_5.toInt ∧ v19_5.toInt < (qN U19 (qO U19 66 5) : Int)) ∧ (∀ S93, S93 = wI U19 (qO U19 66 5) v19_5.toInt.toNat (qI U19 (qO U19 66 0) 2) → qT U19 (qO U19 66 5) = 230 → wfC S93 → (d_X3_blockAt S93 v19_5 ∧ (∀ a97 : Int32, a97 = (fX3_blockAt S93 v19_5) → (d_X3_isReached S93 a97 ∧ (∀ a101 : Int32, a101 = (fX3_isReached S93 a97) → ((a101.toInt = 0 → w_X9_putCounters_J114 Q (w_X9_putCounters_L19 Q n19) S93 v19_1 v19_4 v19_5) ∧ (¬ a101.toInt = 0 → (qT S93 (qO S93 66 0) = 47 → (∃ Q117, wX8_add S93 (qO S93 66 0) (178 : Int32) (v19_4.toInt64) Q117 ∧ ∀ S118, Q117 S118 → wfC S118 → shy S93 S118 → (qT S118 (qO S118 66 0) = 47 → (∃ Q121, wX8_add S118 (qO S118 66 0) (20 : Int32) 1 Q121 ∧ ∀ S122, Q121 S122 → wfC S122 → shy S118 S122 → (qT S122 (qO S122 66 0) = 47 → (∃ Q125, wX8_add S122 (qO S122 66 0) (97 : Int32) 0 Q125 ∧ ∀ S126, Q125 S126 → wfC S126 → shy S122 S126 → (qT S126 (qO S126 66 0) = 47 → (∃ Q129, wX8_add S126 (qO S126 66 0) (179 : Int32) (v19_4.toInt64) Q129 ∧ ∀ S130, Q129 S130 → wfC S130 → shy S126 S130 → (∀ a132 : Int32, a132 = (v19_4 + Int32.ofInt 1) → w_X9_putCounters_J114 Q (w_X9_putCounters_L19 Q n19) S130 v19_1 a132 v19_5))))))))))))))))))))))
def wX9_putCounters (S : MS) (p1 : Nat) (x3 : Int32) (Q : MS → Prop) : Prop := (qT S p1 = 47 → (∃ Q1, wX9_makeRoom S p1 Q1 ∧ ∀ S2, Q1 S2 → wfC S2 → shx S S2 → (∀ S6, S6 = wI S2 (qO S2 66 0) 2 (0 : Int32) → qT S2 (qO S2 66 0) = 47 → wfC S6 → (∃ n, w_X9_putCounters_L19 Q n S6 p1 x3 0))))
set_option maxHeartbeats 2000000 in
set_option maxRecDepth 100000 in
theorem rX9_putCounters (l : Launch) (g : Gr) (ad : Nat → Nat) (H0 : Heap) (S : MS) (p1 : Nat) (x3 : Int32) (hw : wfC S) (hT_p1 : qT S p1 = 47) (Q : MS → Prop) (h : wX9_putCounters S p1 x3 Q) : Met l yX9_putCounters (wt yX9_putCounters cX9_putCounters 8 none) ({ frames := 3, cells := KCC - qn S, slots := KSC - qu S, locals := 56 }) (va_Pc [.ref (ad 66), .ref (ad p1), .ref (ad 52), .int x3] (st_CH g ad H0 S)) (va_Qv (fun (u : MS × (Nat → Nat)) => Q u.1 ∧ wfC u.1 ∧ shx S u.1 ∧ adk ad u.2 S) (fun (u : MS × (Nat → Nat)) (t : State) => qEHC g (va_A (WdC g ad S) H0.size) S H0 u t) (va_A (WdC g ad S) H0.size)) (KCC - qn S) (KSC - qu S) (va_A (WdC g ad S) H0.size) := by
  refine Met.ofW (cc := cX9_putCounters) (maxL := 8) (ret := none) (by decide) rfl ?_
  intro p e s m args below meth c s₁ B hml hv
  obtain ⟨rfl, hH0, hsz, hP, hK, hD0, hex, hE⟩ := hv
  have hx := B.exec
  have hb := B.bytes
  have hr := B.returns
  have hts0 := atoms_spec (ws := wt yX9_putCounters cX9_putCounters 8 none) B.pre
  have hts : ∀ w ∈ tb, w.before _ s = true := fun w h => hts0 w (List.mem_cons_of_mem _ h)
  have hown : s.vm.findClass RX9 = some m.cls := findClass_of_methodNamed B.named
  subst hH0
  have hD := hD0.self (sz := s.heap.size)
  generalize hAe : va_A (WdC g ad S) s.heap.size = A at hD hE ⊢
  have hA : ∀ q : Nat, s.heap.size ≤ q → A q := fun q h => by rw [← hAe]; exact Or.inr h
  have hR : RepC g ad A s S s.heap [] := ⟨hK, hP, hD, va_S.rf, hw⟩
  clear hK hP hD hD0
  have hl := lv_entry ([.ref (ad 66), .ref (ad p1), .ref (ad 52), .int x3]) (n := 8) (Nat.le_of_ble_eq_true rfl)
  rw [lg_entry_eq]
  generalize (lg_sl ([.ref (ad 66), .ref (ad p1), .ref (ad 52), .int x3]) ++ List.replicate (8 - (lg_sl ([.ref (ad 66), .ref (ad p1), .ref (ad 52), .int x3])).length) Slot.unset).toArray = ls at hl ⊢
  have hlg : lgC S S 0 0 := lgC.rf
  have hak : adk ad ad S := adk.rf
  have hl : lv_has ls 8 [(0, .ref (ad 66)), (1, .ref (ad p1)), (2, .ref (ad 52)), (3, .int x3)] := hl
  have hsh : shx S S := shx.rf
  unfold wX9_putCounters at h
  refine lv_aload_n hx hb dX9_putCounters_0 rfl (lv_at hl 0 rfl) ?_
  refine lv_aload_n hx hb dX9_putCounters_1 rfl (lv_at hl 1 rfl) ?_
  replace h := h (hT_p1)
  obtain ⟨Q1, h0, h⟩ := h
  have hFc := cfree hR hA
  refine W_led2 (fun hL0 => ?_)
  refine va_callv (va_runV (As := [.ref (ad p1)]) (rest := []) ⟨hx, hb, hml, hown, hts⟩ (rX9_makeRoom l g ad s.heap S p1 hR.w hT_p1 Q1 h0) (cwV 1 hts (gd_V kw_1680 kw_1685 kw_1686 kw_404 kw_1684) rfl rfl rfl (by decide +kernel) ⟨Nat.le_of_ble_eq_true rfl, Nat.le_of_ble_eq_true rfl⟩) ⟨cblindH, va_recv hR.K hR.P (ci := 8) (q0 := 66) rfl (hR.at48 (hR.w.2.1 _ finC_31).2.1), fun U hU hW9 => cmkH hU hW9 hR hex hE hFc⟩ rfl rfl hl.1 rfl (lv_room (Nat.le_of_ble_eq_true rfl)) dX9_putCounters_2 ⟨(show 0 + (KCC - qn S) ≤ KCC - qn S from hlg.cm), (show 0 + (KSC - qu S) ≤ KSC - qu S from hlg.sm)⟩) hR.sS (fun q _ h => hFc q h) hFc (fun  S2 t9 H1 locs ht9 hvm9 hw9 hB9 hz9 hk9 hS => ?_)
  rcases S2 with ⟨S2, ak4⟩
  obtain ⟨hB9, dc9, ds9, hL9, hl9⟩ := hB9
  dsimp only at hw9 hB9 hl9
  rw [ht9] at hL9
  obtain ⟨hq3, hw9, hs9, hk8⟩ := hw9
  have hw8 := hR.w
  have hak := hak.tr hk8 hlg.2.2.1
  have hE := hE.ad hk8
  have hR : RepC g ak4 A s S2 H1 locs := hR.callH ht9 hB9 hw9 hS hFc
  have hsh := hsh.tr hs9
  refine W_tight2 (hL0.tr hL9).1 (hL0.tr hL9).2.1 ?_
  have hlg := hlg.call hl9
  replace h := h  S2 hq3 hw9 hs9
  have ea_0 : ak4 66 = ad 66 := hk8 _ (hw8.hd (hw8.2.1 _ finC_31).2.1 (by decide) (by decide))
  have ea_1 : ak4 p1 = ad p1 := hk8 _ (hw8.hd hT_p1 (by decide) (by decide))
  have ea_2 : ak4 52 = ad 52 := hk8 _ (hw8.hd (hw8.2.1 _ finC_30).2.1 (by decide) (by decide))
  have hl : lv_has ls 8 [(0, .ref (ak4 66)), (1, .ref (ak4 p1)), (2, .ref (ak4 52)), (3, .int x3)] := by simp only [ea_0, ea_1, ea_2]; exact hl
  have hT_p1 := hs9.T hT_p1 (by decide)
  clear hB9 hz9 hk9 hvm9 ht9 hw9 hs9 hS hL0 hL9
  generalize H1 = H at hR ⊢
  generalize dc9 = dc_ak4, ds9 = ds_ak4 at hlg ⊢
  refine lv_aload_n hx hb dX9_putCounters_5 rfl (lv_at hl 0 rfl) ?_
  have hT_b5 : qT S2 (qO S2 66 0) = 47 := hR.w.ref (hR.w.ptr ptrC_39) (hR.w.2.1 _ finC_31).2.1
  refine va_get (D := rD g) (ci := 8) (v := .ref (ak4 (qO S2 66 0))) (C := RX9) (T := TX9) (N := 6) hx hb hts inX9 hown hR.K hR.P 66 (hR.at48 (hR.w.2.1 _ finC_31).2.1) rfl 0 (by decide) (hts _ kw_1552) (fun _ h9 => h9) (congrArg (fun z => some (vf ak4 z)) (hR.w.ptr ptrC_39)) dX9_putCounters_6 ?_
  refine lv_iconst (v := 0) hx hb dX9_putCounters_9 (by decide) ?_
  refine va_put (D := rD g) (ci := 7) (v := .int 0) (ty := .int) (C := RX8) (T := TX8) (N := 15) hx hb hts inX8 tyX8 tyX8_ok nmX8 hown hR.K hR.P hR.D hR.sS (qO S2 66 0) (hR.at47 hT_b5) rfl 2 (by decide) (hts _ kw_1553) (fun _ h9 => h9) rfl (by decide +kernel) rfl rfl (Nat.le_of_ble_eq_true rfl) dX9_putCounters_10 (fun H locs hP hD hS => ?_)
  have hTk9 : qT S2 (qO S2 66 0) = 47 := hT_b5
  have hR : RepC g ak4 A s (wI S2 (qO S2 66 0) 2 (0 : Int32)) H locs := hR.pI47 hT_b5 FX8_s2 (fun q9 => absurd q9 (by decide)) hP hD hS
  obtain ⟨S6, eS6⟩ : ∃ z, z = wI S2 (qO S2 66 0) 2 (0 : Int32) := ⟨_, rfl⟩
  rw [← eS6] at hR
  replace h := h S6 eS6 hTk9 hR.w
  have hT_p1 : qT S6 p1 = 47 := (congrArg (fun z => qT z p1) eS6).trans hT_p1
  have hsh : shx S S6 := by rw [eS6]; exact hsh
  have hlg : lgC S S6 (0 + dc_ak4) (0 + ds_ak4) := by rw [eS6]; exact hlg
  refine lv_iload_n hx hb dX9_putCounters_13 rfl (lv_at hl 3 rfl) ?_
  refine lv_istore (lv' := [(4, .int x3), (0, .ref (ak4 66)), (1, .ref (ak4 p1)), (2, .ref (ak4 52)), (3, .int x3)]) hx hb dX9_putCounters_14 hl (by decide) rfl (fun ls hl => ?_)
  refine lv_iconst (v := 0) hx hb dX9_putCounters_16 (by decide) ?_
  refine lv_istore (lv' := [(5, .int 0), (4, .int x3), (0, .ref (ak4 66)), (1, .ref (ak4 p1)), (2, .ref (ak4 52)), (3, .int x3)]) hx hb dX9_putCounters_17 hl (by decide) rfl (fun ls hl => ?_)
  have J_19 : ∀ (n19 : Nat) (ad19 : Nat → Nat) (dc19 ds19 : Nat) (U19 : MS) (v19_1 : Nat) (v19_4 : Int32) (v19_5 : Int32) (H : Heap) (locs : List Loc) (ls : Array Slot), w_X9_putCounters_L19 Q n19 U19 v19_1 v19_4 v19_5 → qT U19 v19_1 = 47 → shx S U19 → lgC S U19 dc19 ds19 → adk ad ad19 S → ogC ad19 A s s.heap → RepC g ad19 A s U19 H locs → lv_has ls 8 [(0, .ref (ad19 66)), (1, .ref (ad19 v19_1)), (2, .ref (ad19 52)), (4, .int v19_4), (5, .int v19_5)] → W p l e (headSpec (wt yX9_putCounters cX9_putCounters 8 none) ({ frames := 3, cells := KCC - qn S, slots := KSC - qu S, locals := 56 })).room s m ([.ref (ad 66), .ref (ad p1), .ref (ad 52), .int x3] : List Value).toArray below meth c H locs dc19 ds19 (MQ below (va_Qv (fun (u : MS × (Nat → Nat)) => Q u.1 ∧ wfC u.1 ∧ shx S u.1 ∧ adk ad u.2 S) (fun (u : MS × (Nat → Nat)) (t : State) => qEHC g A S s.heap u t) A) ([.ref (ad 66), .ref (ad p1), .ref (ad 52), .int x3] : List Value).toArray s (KCC - qn S) (KSC - qu S) A) (F0 m 19 ls []) := by
    intro n19
    induction n19 with
    | zero => intro ad19 dc19 ds19 U19 v19_1 v19_4 v19_5 H locs ls h hT_v19_1 hsh hlg hak hE hR hl; unfold w_X9_putCounters_L19 at h; exact h.elim
    | succ n19 ih_19 =>
      intro ad19 dc19 ds19 U19 v19_1 v19_4 v19_5 H locs ls h hT_v19_1 hsh hlg hak hE hR hl
      unfold w_X9_putCounters_L19 at h
      replace h := h hR.w hT_v19_1
      refine lv_iload hx hb dX9_putCounters_19 (lv_at hl 4 rfl) ?_
      refine lv_aload_n hx hb dX9_putCounters_21 rfl (lv_at hl 1 rfl) ?_
      refine va_get (D := rD g) (ci := 7) (v := .int (qI U19 v19_1 2)) (C := RX8) (T := TX8) (N := 15) hx hb hts inX8 hown hR.K hR.P v19_1 (hR.at47 hT_v19_1) rfl 2 (by decide) (hts _ kw_1553) (fun _ h9 => h9) rfl dX9_putCounters_22 ?_
      have J_139 : ∀ (ad139 : Nat → Nat) (dc139 ds139 : Nat) (U139 : MS) (v139_1 : Nat) (H : Heap) (locs : List Loc) (ls : Array Slot), w_X9_putCounters_J139 Q U139 v139_1 → qT U139 v139_1 = 47 → shx S U139 → lgC S U139 dc139 ds139 → adk ad ad139 S → ogC ad139 A s s.heap → RepC g ad139 A s U139 H locs → lv_has ls 8 [(0, .ref (ad139 66)), (1, .ref (ad139 v139_1))] → W p l e (headSpec (wt yX9_putCounters cX9_putCounters 8 none) ({ frames := 3, cells := KCC - qn S, slots := KSC - qu S, locals := 56 })).room s m ([.ref (ad 66), .ref (ad p1), .ref (ad 52), .int x3] : List Value).toArray below meth c H locs dc139 ds139 (MQ below (va_Qv (fun (u : MS × (Nat → Nat)) => Q u.1 ∧ wfC u.1 ∧ shx S u.1 ∧ adk ad u.2 S) (fun (u : MS × (Nat → Nat)) (t : State) => qEHC g A S s.heap u t) A) ([.ref (ad 66), .ref (ad p1), .ref (ad 52), .int x3] : List Value).toArray s (KCC - qn S) (KSC - qu S) A) (F0 m 139 ls []) := by
        intro ad139 dc139 ds139 U139 v139_1 H locs ls h hT_v139_1 hsh hlg hak hE hR hl
        unfold w_X9_putCounters_J139 at h
        replace h := h hR.w hT_v139_1
        refine lv_aload_n hx hb dX9_putCounters_139 rfl (lv_at hl 0 rfl) ?_
        have hT_b7 : qT U139 (qO U139 66 5) = 230 := hR.w.ref (hR.w.ptr ptrC_38) (hR.w.2.1 _ finC_31).2.1
        refine va_get (D := rD g) (ci := 8) (v := .ref (ad139 (qO U139 66 5))) (C := RX9) (T := TX9) (N := 6) hx hb hts inX9 hown hR.K hR.P 66 (hR.at48 (hR.w.2.1 _ finC_31).2.1) rfl 5 (by decide) (hts _ kw_1592) (fun _ h9 => h9) (congrArg (fun z => some (vf ad139 z)) (hR.w.ptr ptrC_38)) dX9_putCounters_140 ?_
        refine lv_aload_n hx hb dX9_putCounters_143 rfl (lv_at hl 1 rfl) ?_
        refine va_get (D := rD g) (ci := 7) (v := .int (qI U139 v139_1 2)) (C := RX8) (T := TX8) (N := 15) hx hb hts inX8 hown hR.K hR.P v139_1 (hR.at47 hT_v139_1) rfl 2 (by decide) (hts _ kw_1553) (fun _ h9 => h9) rfl dX9_putCounters_144 ?_
        refine lv_aload_n hx hb dX9_putCounters_147 rfl (lv_at hl 0 rfl) ?_
        have hT_b8 : qT U139 (qO U139 66 5) = 230 := hR.w.ref (hR.w.ptr ptrC_38) (hR.w.2.1 _ finC_31).2.1
        refine va_get (D := rD g) (ci := 8) (v := .ref (ad139 (qO U139 66 5))) (C := RX9) (T := TX9) (N := 6) hx hb hts inX9 hown hR.K hR.P 66 (hR.at48 (hR.w.2.1 _ finC_31).2.1) rfl 5 (by decide) (hts _ kw_1592) (fun _ h9 => h9) (congrArg (fun z => some (vf ad139 z)) (hR.w.ptr ptrC_38)) dX9_putCounters_148 ?_
        refine va_alen (v := (Int32.ofNat (qN U139 (qO U139 66 5)))) hx hb hR.K hR.P (qO U139 66 5) 1 (hR.atI hT_b8 (by decide)) rfl rfl dX9_putCounters_151 ?_
        have hln9 : (Int32.ofNat (qN U139 (qO U139 66 5))).toInt = (qN U139 (qO U139 66 5) : Int) := toI_len (hR.w.len9 (hT_b8) (by decide))
        refine lv_iconst (v := 1) hx hb dX9_putCounters_152 (by decide) ?_
        refine lv_isub hx hb dX9_putCounters_153 ?_
        refine lv_topi (fun z10 ez10 => ?_)
        obtain rfl : z10 = ((Int32.ofNat (qN U139 (qO U139 66 5))) - (1 : Int32)) := ez10
        refine va_mmin hx hb (by rw [hml]; exact hl.1.symm) hown (hts _ kw_1704) (hts _ kw_1750) (hts _ kw_1748) (hts _ kw_1749) (Nat.le_of_ble_eq_true rfl) (Nat.le_of_ble_eq_true rfl) (show dc139 ≤ KCC - qn S from hlg.c) (show ds139 ≤ KSC - qu S from hlg.s) dX9_putCounters_154 ?_
        refine lv_topi (fun z11 ez11 => ?_)
        obtain rfl : z11 = (if ((Int32.ofNat (qN U139 (qO U139 66 5))) - (1 : Int32)) < (qI U139 v139_1 2) then ((Int32.ofNat (qN U139 (qO U139 66 5))) - (1 : Int32)) else (qI U139 v139_1 2)) := ez11
        refine lv_aload_n hx hb dX9_putCounters_157 rfl (lv_at hl 0 rfl) ?_
        have hT_b12 : qT U139 (qO U139 66 0) = 47 := hR.w.ref (hR.w.ptr ptrC_39) (hR.w.2.1 _ finC_31).2.1
        refine va_get (D := rD g) (ci := 8) (v := .ref (ad139 (qO U139 66 0))) (C := RX9) (T := TX9) (N := 6) hx hb hts inX9 hown hR.K hR.P 66 (hR.at48 (hR.w.2.1 _ finC_31).2.1) rfl 0 (by decide) (hts _ kw_1552) (fun _ h9 => h9) (congrArg (fun z => some (vf ad139 z)) (hR.w.ptr ptrC_39)) dX9_putCounters_158 ?_
        refine va_get (D := rD g) (ci := 7) (v := .int (qI U139 (qO U139 66 0) 2)) (C := RX8) (T := TX8) (N := 15) hx hb hts inX8 hown hR.K hR.P (qO U139 66 0) (hR.at47 hT_b12) rfl 2 (by decide) (hts _ kw_1553) (fun _ h9 => h9) rfl dX9_putCounters_161 ?_
        obtain ⟨hv13, h⟩ := h
        refine va_iast hx hb hR.K hR.P hR.D hR.sS (qO U139 66 5) 1 (hR.atI hT_b7 (by decide)) rfl (k_ix (x := (if ((Int32.ofNat (qN U139 (qO U139 66 5))) - (1 : Int32)) < (qI U139 v139_1 2) then ((Int32.ofNat (qN U139 (qO U139 66 5))) - (1 : Int32)) else (qI U139 v139_1 2))) (a := (if ((Int32.ofNat (qN U139 (qO U139 66 5))) - (1 : Int32)) < (qI U139 v139_1 2) then ((Int32.ofNat (qN U139 (qO U139 66 5))) - (1 : Int32)) else (qI U139 v139_1 2)).toInt) rfl hv13) dX9_putCounters_164 (fun H locs hP hD hS => ?_)
        have hTk9 : qT U139 (qO U139 66 5) = 230 := hT_b7
        have hR : RepC g ad139 A s (wI U139 (qO U139 66 5) (((if ((Int32.ofNat (qN U139 (qO U139 66 5))) - (1 : Int32)) < (qI U139 v139_1 2) then ((Int32.ofNat (qN U139 (qO U139 66 5))) - (1 : Int32)) else (qI U139 v139_1 2)).toInt).toNat) (qI U139 (qO U139 66 0) 2)) H locs := hR.aI hT_b7 (by decide) hP hD hS
        obtain ⟨S14, eS14⟩ : ∃ z, z = wI U139 (qO U139 66 5) (((if ((Int32.ofNat (qN U139 (qO U139 66 5))) - (1 : Int32)) < (qI U139 v139_1 2) then ((Int32.ofNat (qN U139 (qO U139 66 5))) - (1 : Int32)) else (qI U139 v139_1 2)).toInt).toNat) (qI U139 (qO U139 66 0) 2) := ⟨_, rfl⟩
        rw [← eS14] at hR
        replace h := h S14 eS14 hTk9 hR.w
        have hT_v139_1 : qT S14 v139_1 = 47 := (congrArg (fun z => qT z v139_1) eS14).trans hT_v139_1
        have hsh : shx S S14 := by rw [eS14]; exact hsh
        have hlg : lgC S S14 (dc139) (ds139) := by rw [eS14]; exact hlg
        refine lv_aload_n hx hb dX9_putCounters_165 rfl (lv_at hl 0 rfl) ?_
        have hT_b15 : qT S14 (qO S14 66 0) = 47 := hR.w.ref (hR.w.ptr ptrC_39) (hR.w.2.1 _ finC_31).2.1
        refine va_get (D := rD g) (ci := 8) (v := .ref (ad139 (qO S14 66 0))) (C := RX9) (T := TX9) (N := 6) hx hb hts inX9 hown hR.K hR.P 66 (hR.at48 (hR.w.2.1 _ finC_31).2.1) rfl 0 (by decide) (hts _ kw_1552) (fun _ h9 => h9) (congrArg (fun z => some (vf ad139 z)) (hR.w.ptr ptrC_39)) dX9_putCounters_166 ?_
        refine lv_iconst (v := 0) hx hb dX9_putCounters_169 (by decide) ?_
        refine va_put (D := rD g) (ci := 7) (v := .int 0) (ty := .int) (C := RX8) (T := TX8) (N := 15) hx hb hts inX8 tyX8 tyX8_ok nmX8 hown hR.K hR.P hR.D hR.sS (qO S14 66 0) (hR.at47 hT_b15) rfl 4 (by decide) (hts _ kw_1705) (fun _ h9 => h9) rfl (by decide +kernel) rfl rfl (Nat.le_of_ble_eq_true rfl) dX9_putCounters_170 (fun H locs hP hD hS => ?_)
        have hTk9 : qT S14 (qO S14 66 0) = 47 := hT_b15
        have hR : RepC g ad139 A s (wI S14 (qO S14 66 0) 4 (0 : Int32)) H locs := hR.pI47 hT_b15 FX8_s4 (fun q9 => absurd q9 (by decide)) hP hD hS
        obtain ⟨S16, eS16⟩ : ∃ z, z = wI S14 (qO S14 66 0) 4 (0 : Int32) := ⟨_, rfl⟩
        rw [← eS16] at hR
        replace h := h S16 eS16 hTk9 hR.w
        have hT_v139_1 : qT S16 v139_1 = 47 := (congrArg (fun z => qT z v139_1) eS16).trans hT_v139_1
        have hsh : shx S S16 := by rw [eS16]; exact hsh
        have hlg : lgC S S16 (dc139) (ds139) := by rw [eS16]; exact hlg
        refine lv_iconst (v := 0) hx hb dX9_putCounters_173 (by decide) ?_
        refine lv_istore (lv' := [(5, .int 0), (0, .ref (ad139 66)), (1, .ref (ad139 v139_1))]) hx hb dX9_putCounters_174 hl (by decide) rfl (fun ls hl => ?_)
        have J_176 : ∀ (n176 : Nat) (ad176 : Nat → Nat) (dc176 ds176 : Nat) (U176 : MS) (v176_1 : Nat) (v176_5 : Int32) (H : Heap) (locs : List Loc) (ls : Array Slot), w_X9_putCounters_L176 Q n176 U176 v176_1 v176_5 → qT U176 v176_1 = 47 → shx S U176 → lgC S U176 dc176 ds176 → adk ad ad176 S → ogC ad176 A s s.heap → RepC g ad176 A s U176 H locs → lv_has ls 8 [(0, .ref (ad176 66)), (1, .ref (ad176 v176_1)), (5, .int v176_5)] → W p l e (headSpec (wt yX9_putCounters cX9_putCounters 8 none) ({ frames := 3, cells := KCC - qn S, slots := KSC - qu S, locals := 56 })).room s m ([.ref (ad 66), .ref (ad p1), .ref (ad 52), .int x3] : List Value).toArray below meth c H locs dc176 ds176 (MQ below (va_Qv (fun (u : MS × (Nat → Nat)) => Q u.1 ∧ wfC u.1 ∧ shx S u.1 ∧ adk ad u.2 S) (fun (u : MS × (Nat → Nat)) (t : State) => qEHC g A S s.heap u t) A) ([.ref (ad 66), .ref (ad p1), .ref (ad 52), .int x3] : List Value).toArray s (KCC - qn S) (KSC - qu S) A) (F0 m 176 ls []) := by
          intro n176
          induction n176 with
          | zero => intro ad176 dc176 ds176 U176 v176_1 v176_5 H locs ls h hT_v176_1 hsh hlg hak hE hR hl; unfold w_X9_putCounters_L176 at h; exact h.elim
          | succ n176 ih_176 =>
            intro ad176 dc176 ds176 U176 v176_1 v176_5 H locs ls h hT_v176_1 hsh hlg hak hE hR hl
            unfold w_X9_putCounters_L176 at h
            replace h := h hR.w hT_v176_1
            refine lv_iload hx hb dX9_putCounters_176 (lv_at hl 2 rfl) ?_
            refine lv_aload_n hx hb dX9_putCounters_178 rfl (lv_at hl 1 rfl) ?_
            refine va_get (D := rD g) (ci := 7) (v := .int (qI U176 v176_1 4)) (C := RX8) (T := TX8) (N := 15) hx hb hts inX8 hown hR.K hR.P v176_1 (hR.at47 hT_v176_1) rfl 4 (by decide) (hts _ kw_1705) (fun _ h9 => h9) rfl dX9_putCounters_179 ?_
            refine lv_icmp_ge (tgt := 205) hx hb dX9_putCounters_182 (by decide) (fun c17 => ?_) (fun c17 => ?_)
            · replace h := h.1 (k_le rfl rfl c17)
              refine lv_iconst (v := 0) hx hb dX9_putCounters_205 (by decide) ?_
              refine lv_istore (lv' := [(5, .int 0), (0, .ref (ad176 66)), (1, .ref (ad176 v176_1))]) hx hb dX9_putCounters_206 hl (by decide) rfl (fun ls hl => ?_)
              have J_208 : ∀ (n208 : Nat) (ad208 : Nat → Nat) (dc208 ds208 : Nat) (U208 : MS) (v208_1 : Nat) (v208_5 : Int32) (H : Heap) (locs : List Loc) (ls : Array Slot), w_X9_putCounters_L208 Q n208 U208 v208_1 v208_5 → qT U208 v208_1 = 47 → shx S U208 → lgC S U208 dc208 ds208 → adk ad ad208 S → ogC ad208 A s s.heap → RepC g ad208 A s U208 H locs → lv_has ls 8 [(0, .ref (ad208 66)), (1, .ref (ad208 v208_1)), (5, .int v208_5)] → W p l e (headSpec (wt yX9_putCounters cX9_putCounters 8 none) ({ frames := 3, cells := KCC - qn S, slots := KSC - qu S, locals := 56 })).room s m ([.ref (ad 66), .ref (ad p1), .ref (ad 52), .int x3] : List Value).toArray below meth c H locs dc208 ds208 (MQ below (va_Qv (fun (u : MS × (Nat → Nat)) => Q u.1 ∧ wfC u.1 ∧ shx S u.1 ∧ adk ad u.2 S) (fun (u : MS × (Nat → Nat)) (t : State) => qEHC g A S s.heap u t) A) ([.ref (ad 66), .ref (ad p1), .ref (ad 52), .int x3] : List Value).toArray s (KCC - qn S) (KSC - qu S) A) (F0 m 208 ls []) := by
                intro n208
                induction n208 with
                | zero => intro ad208 dc208 ds208 U208 v208_1 v208_5 H locs ls h hT_v208_1 hsh hlg hak hE hR hl; unfold w_X9_putCounters_L208 at h; exact h.elim
                | succ n208 ih_208 =>
                  intro ad208 dc208 ds208 U208 v208_1 v208_5 H locs ls h hT_v208_1 hsh hlg hak hE hR hl
                  unfold w_X9_putCounters_L208 at h
                  replace h := h hR.w hT_v208_1
                  refine lv_iload hx hb dX9_putCounters_208 (lv_at hl 2 rfl) ?_
                  refine lv_aload_n hx hb dX9_putCounters_210 rfl (lv_at hl 0 rfl) ?_
                  have hT_b18 : qT U208 (qO U208 66 0) = 47 := hR.w.ref (hR.w.ptr ptrC_39) (hR.w.2.1 _ finC_31).2.1
                  refine va_get (D := rD g) (ci := 8) (v := .ref (ad208 (qO U208 66 0))) (C := RX9) (T := TX9) (N := 6) hx hb hts inX9 hown hR.K hR.P 66 (hR.at48 (hR.w.2.1 _ finC_31).2.1) rfl 0 (by decide) (hts _ kw_1552) (fun _ h9 => h9) (congrArg (fun z => some (vf ad208 z)) (hR.w.ptr ptrC_39)) dX9_putCounters_211 ?_
                  refine va_get (D := rD g) (ci := 7) (v := .int (qI U208 (qO U208 66 0) 2)) (C := RX8) (T := TX8) (N := 15) hx hb hts inX8 hown hR.K hR.P (qO U208 66 0) (hR.at47 hT_b18) rfl 2 (by decide) (hts _ kw_1553) (fun _ h9 => h9) rfl dX9_putCounters_214 ?_
                  refine lv_icmp_ge (tgt := 279) hx hb dX9_putCounters_217 (by decide) (fun c19 => ?_) (fun c19 => ?_)
                  · replace h := h.1 (k_le rfl rfl c19)
                    refine lv_aload_n hx hb dX9_putCounters_279 rfl (lv_at hl 0 rfl) ?_
                    have hT_b20 : qT U208 (qO U208 66 0) = 47 := hR.w.ref (hR.w.ptr ptrC_39) (hR.w.2.1 _ finC_31).2.1
                    refine va_get (D := rD g) (ci := 8) (v := .ref (ad208 (qO U208 66 0))) (C := RX9) (T := TX9) (N := 6) hx hb hts inX9 hown hR.K hR.P 66 (hR.at48 (hR.w.2.1 _ finC_31).2.1) rfl 0 (by decide) (hts _ kw_1552) (fun _ h9 => h9) (congrArg (fun z => some (vf ad208 z)) (hR.w.ptr ptrC_39)) dX9_putCounters_280 ?_
                    refine lv_iconst (v := 0) hx hb dX9_putCounters_283 (by decide) ?_
                    refine va_put (D := rD g) (ci := 7) (v := .int 0) (ty := .int) (C := RX8) (T := TX8) (N := 15) hx hb hts inX8 tyX8 tyX8_ok nmX8 hown hR.K hR.P hR.D hR.sS (qO U208 66 0) (hR.at47 hT_b20) rfl 9 (by decide) (hts _ kw_1570) (fun _ h9 => h9) rfl (by decide +kernel) rfl rfl (Nat.le_of_ble_eq_true rfl) dX9_putCounters_284 (fun H locs hP hD hS => ?_)
                    have hTk9 : qT U208 (qO U208 66 0) = 47 := hT_b20
                    have hR : RepC g ad208 A s (wI U208 (qO U208 66 0) 9 (0 : Int32)) H locs := hR.pI47 hT_b20 FX8_s9 (fun q9 => absurd q9 (by decide)) hP hD hS
                    obtain ⟨S21, eS21⟩ : ∃ z, z = wI U208 (qO U208 66 0) 9 (0 : Int32) := ⟨_, rfl⟩
                    rw [← eS21] at hR
                    replace h := h S21 eS21 hTk9 hR.w
                    have hT_v208_1 : qT S21 v208_1 = 47 := (congrArg (fun z => qT z v208_1) eS21).trans hT_v208_1
                    have hsh : shx S S21 := by rw [eS21]; exact hsh
                    have hlg : lgC S S21 (dc208) (ds208) := by rw [eS21]; exact hlg
                    refine lv_iconst (v := 0) hx hb dX9_putCounters_287 (by decide) ?_
                    refine lv_istore (lv' := [(5, .int 0), (0, .ref (ad208 66)), (1, .ref (ad208 v208_1))]) hx hb dX9_putCounters_288 hl (by decide) rfl (fun ls hl => ?_)
                    have J_290 : ∀ (n290 : Nat) (ad290 : Nat → Nat) (dc290 ds290 : Nat) (U290 : MS) (v290_1 : Nat) (v290_5 : Int32) (H : Heap) (locs : List Loc) (ls : Array Slot), w_X9_putCounters_L290 Q n290 U290 v290_1 v290_5 → qT U290 v290_1 = 47 → shx S U290 → lgC S U290 dc290 ds290 → adk ad ad290 S → ogC ad290 A s s.heap → RepC g ad290 A s U290 H locs → lv_has ls 8 [(0, .ref (ad290 66)), (1, .ref (ad290 v290_1)), (5, .int v290_5)] → W p l e (headSpec (wt yX9_putCounters cX9_putCounters 8 none) ({ frames := 3, cells := KCC - qn S, slots := KSC - qu S, locals := 56 })).room s m ([.ref (ad 66), .ref (ad p1), .ref (ad 52), .int x3] : List Value).toArray below meth c H locs dc290 ds290 (MQ below (va_Qv (fun (u : MS × (Nat → Nat)) => Q u.1 ∧ wfC u.1 ∧ shx S u.1 ∧ adk ad u.2 S) (fun (u : MS × (Nat → Nat)) (t : State) => qEHC g A S s.heap u t) A) ([.ref (ad 66), .ref (ad p1), .ref (ad 52), .int x3] : List Value).toArray s (KCC - qn S) (KSC - qu S) A) (F0 m 290 ls []) := by
                      intro n290
                      induction n290 with
                      | zero => intro ad290 dc290 ds290 U290 v290_1 v290_5 H locs ls h hT_v290_1 hsh hlg hak hE hR hl; unfold w_X9_putCounters_L290 at h; exact h.elim
                      | succ n290 ih_290 =>
                        intro ad290 dc290 ds290 U290 v290_1 v290_5 H locs ls h hT_v290_1 hsh hlg hak hE hR hl
                        unfold w_X9_putCounters_L290 at h
                        replace h := h hR.w hT_v290_1
                        refine lv_iload hx hb dX9_putCounters_290 (lv_at hl 2 rfl) ?_
                        refine lv_aload_n hx hb dX9_putCounters_292 rfl (lv_at hl 1 rfl) ?_
                        refine va_get (D := rD g) (ci := 7) (v := .int (qI U290 v290_1 9)) (C := RX8) (T := TX8) (N := 15) hx hb hts inX8 hown hR.K hR.P v290_1 (hR.at47 hT_v290_1) rfl 9 (by decide) (hts _ kw_1570) (fun _ h9 => h9) rfl dX9_putCounters_293 ?_
                        refine lv_icmp_ge (tgt := 352) hx hb dX9_putCounters_296 (by decide) (fun c22 => ?_) (fun c22 => ?_)
                        · replace h := h.1 (k_le rfl rfl c22)
                          refine W_led2 (fun hLd => ?_)
                          refine W.widen (k := KCC - qn S) (n := KSC - qu S) hlg.c hlg.s ?_
                          exact W.vret hx hb hr (fun t9 ht9 hW9 => ⟨⟨(U290, ad290), rfl, ⟨h, hR.w, hsh, hak⟩, ⟨⟨by rw [ht9]; exact hR.P, hR.D⟩, _, _, by rw [ht9]; exact hLd, hlg⟩⟩, hR.sS.F ht9⟩) hR.sS.2.2 dX9_putCounters_352
                        · replace h := h.2 (k_nle rfl rfl c22)
                          refine lv_aload_n hx hb dX9_putCounters_299 rfl (lv_at hl 0 rfl) ?_
                          have hT_b23 : qT U290 (qO U290 66 0) = 47 := hR.w.ref (hR.w.ptr ptrC_39) (hR.w.2.1 _ finC_31).2.1
                          refine va_get (D := rD g) (ci := 8) (v := .ref (ad290 (qO U290 66 0))) (C := RX9) (T := TX9) (N := 6) hx hb hts inX9 hown hR.K hR.P 66 (hR.at48 (hR.w.2.1 _ finC_31).2.1) rfl 0 (by decide) (hts _ kw_1552) (fun _ h9 => h9) (congrArg (fun z => some (vf ad290 z)) (hR.w.ptr ptrC_39)) dX9_putCounters_300 ?_
                          refine lv_aload_n hx hb dX9_putCounters_303 rfl (lv_at hl 0 rfl) ?_
                          refine lv_aload_n hx hb dX9_putCounters_304 rfl (lv_at hl 1 rfl) ?_
                          obtain ⟨hv25, h⟩ := h
                          have hT_b24 : qT U290 (qO U290 v290_1 5) = 224 := hR.w.ref hv25 hT_v290_1
                          refine va_get (D := rD g) (ci := 7) (v := .ref (ad290 (qO U290 v290_1 5))) (C := RX8) (T := TX8) (N := 15) hx hb hts inX8 hown hR.K hR.P v290_1 (hR.at47 hT_v290_1) rfl 5 (by decide) (hts _ kw_1571) (fun _ h9 => h9) (congrArg (fun z => some (vf ad290 z)) hv25) dX9_putCounters_305 ?_
                          refine lv_iload hx hb dX9_putCounters_308 (lv_at hl 2 rfl) ?_
                          obtain ⟨hv26, h⟩ := h
                          refine va_iald hx hb hR.K hR.P (qO U290 v290_1 5) 1 (hR.atI hT_b24 (by decide)) rfl (k_ix (x := v290_5) (a := v290_5.toInt) rfl hv26) dX9_putCounters_310 ?_
                          refine lv_topi (fun z27 ez27 => ?_)
                          obtain rfl : z27 = (qI U290 (qO U290 v290_1 5) v290_5.toInt.toNat) := ez27
                          obtain ⟨hv28, h⟩ := h
                          have hFc := cfree hR hA
                          refine va_calli (va_runV (As := [.int (qI U290 (qO U290 v290_1 5) v290_5.toInt.toNat)]) (rest := [.ref (ad290 (qO U290 66 0))]) ⟨hx, hb, hml, hown, hts⟩ (rX9_placeOf l g ad290 H.size U290 (qI U290 (qO U290 v290_1 5) v290_5.toInt.toNat) hR.w  hv28) (cwV 1 hts (gd_V kw_1708 kw_1693 kw_1694 kw_404 kw_1692) rfl rfl rfl (by decide +kernel) ⟨Nat.le_of_ble_eq_true rfl, Nat.le_of_ble_eq_true rfl⟩) ⟨cblind, va_recv hR.K hR.P (ci := 8) (q0 := 66) rfl (hR.at48 (hR.w.2.1 _ finC_31).2.1), fun U hU hW9 => cmk hU hW9 hR hex hE hFc⟩ rfl rfl hl.1 rfl (lv_room (Nat.le_of_ble_eq_true rfl)) dX9_putCounters_311 ⟨(show dc290 + 0 ≤ KCC - qn S from hlg.c), (show ds290 + 0 ≤ KSC - qu S from hlg.s)⟩) hR.sS (fun q _ h => hFc q h) hFc (fun r29 u9 t9 H1 locs ht9 hvm9 hw9 hB9 hz9 hk9 hS => ?_)
                          have hR : RepC g ad290 A s U290 H1 locs := hR.call ht9 hB9 hR.w hS hFc
                          obtain rfl : r29 = (fX9_placeOf U290 (qI U290 (qO U290 v290_1 5) v290_5.toInt.toNat)) := hw9
                          clear hB9 hz9 hk9 hvm9 ht9 hS
                          generalize H1 = H at hR ⊢
                          obtain ⟨a31, ea31⟩ : ∃ z, z = (fX9_placeOf U290 (qI U290 (qO U290 v290_1 5) v290_5.toInt.toNat)) := ⟨_, rfl⟩
                          rw [← ea31]
                          replace h := h a31 ea31
                          refine lv_aload_n hx hb dX9_putCounters_314 rfl (lv_at hl 0 rfl) ?_
                          refine lv_aload_n hx hb dX9_putCounters_315 rfl (lv_at hl 1 rfl) ?_
                          obtain ⟨hv33, h⟩ := h
                          have hT_b32 : qT U290 (qO U290 v290_1 6) = 225 := hR.w.ref hv33 hT_v290_1
                          refine va_get (D := rD g) (ci := 7) (v := .ref (ad290 (qO U290 v290_1 6))) (C := RX8) (T := TX8) (N := 15) hx hb hts inX8 hown hR.K hR.P v290_1 (hR.at47 hT_v290_1) rfl 6 (by decide) (hts _ kw_1572) (fun _ h9 => h9) (congrArg (fun z => some (vf ad290 z)) hv33) dX9_putCounters_316 ?_
                          refine lv_iload hx hb dX9_putCounters_319 (lv_at hl 2 rfl) ?_
                          obtain ⟨hv34, h⟩ := h
                          refine va_iald hx hb hR.K hR.P (qO U290 v290_1 6) 1 (hR.atI hT_b32 (by decide)) rfl (k_ix (x := v290_5) (a := v290_5.toInt) rfl hv34) dX9_putCounters_321 ?_
                          refine lv_topi (fun z35 ez35 => ?_)
                          obtain rfl : z35 = (qI U290 (qO U290 v290_1 6) v290_5.toInt.toNat) := ez35
                          obtain ⟨hv36, h⟩ := h
                          have hFc := cfree hR hA
                          refine va_calli (va_runV (As := [.int (qI U290 (qO U290 v290_1 6) v290_5.toInt.toNat)]) (rest := [.int a31, .ref (ad290 (qO U290 66 0))]) ⟨hx, hb, hml, hown, hts⟩ (rX9_placeOf l g ad290 H.size U290 (qI U290 (qO U290 v290_1 6) v290_5.toInt.toNat) hR.w  hv36) (cwV 1 hts (gd_V kw_1708 kw_1693 kw_1694 kw_404 kw_1692) rfl rfl rfl (by decide +kernel) ⟨Nat.le_of_ble_eq_true rfl, Nat.le_of_ble_eq_true rfl⟩) ⟨cblind, va_recv hR.K hR.P (ci := 8) (q0 := 66) rfl (hR.at48 (hR.w.2.1 _ finC_31).2.1), fun U hU hW9 => cmk hU hW9 hR hex hE hFc⟩ rfl rfl hl.1 rfl (lv_room (Nat.le_of_ble_eq_true rfl)) dX9_putCounters_322 ⟨(show dc290 + 0 ≤ KCC - qn S from hlg.c), (show ds290 + 0 ≤ KSC - qu S from hlg.s)⟩) hR.sS (fun q _ h => hFc q h) hFc (fun r37 u9 t9 H1 locs ht9 hvm9 hw9 hB9 hz9 hk9 hS => ?_)
                          have hR : RepC g ad290 A s U290 H1 locs := hR.call ht9 hB9 hR.w hS hFc
                          obtain rfl : r37 = (fX9_placeOf U290 (qI U290 (qO U290 v290_1 6) v290_5.toInt.toNat)) := hw9
                          clear hB9 hz9 hk9 hvm9 ht9 hS
                          generalize H1 = H at hR ⊢
                          obtain ⟨a39, ea39⟩ : ∃ z, z = (fX9_placeOf U290 (qI U290 (qO U290 v290_1 6) v290_5.toInt.toNat)) := ⟨_, rfl⟩
                          rw [← ea39]
                          replace h := h a39 ea39
                          refine lv_aload_n hx hb dX9_putCounters_325 rfl (lv_at hl 0 rfl) ?_
                          refine lv_aload_n hx hb dX9_putCounters_326 rfl (lv_at hl 1 rfl) ?_
                          obtain ⟨hv41, h⟩ := h
                          have hT_b40 : qT U290 (qO U290 v290_1 7) = 226 := hR.w.ref hv41 hT_v290_1
                          refine va_get (D := rD g) (ci := 7) (v := .ref (ad290 (qO U290 v290_1 7))) (C := RX8) (T := TX8) (N := 15) hx hb hts inX8 hown hR.K hR.P v290_1 (hR.at47 hT_v290_1) rfl 7 (by decide) (hts _ kw_1573) (fun _ h9 => h9) (congrArg (fun z => some (vf ad290 z)) hv41) dX9_putCounters_327 ?_
                          refine lv_iload hx hb dX9_putCounters_330 (lv_at hl 2 rfl) ?_
                          obtain ⟨hv42, h⟩ := h
                          refine va_iald hx hb hR.K hR.P (qO U290 v290_1 7) 1 (hR.atI hT_b40 (by decide)) rfl (k_ix (x := v290_5) (a := v290_5.toInt) rfl hv42) dX9_putCounters_332 ?_
                          refine lv_topi (fun z43 ez43 => ?_)
                          obtain rfl : z43 = (qI U290 (qO U290 v290_1 7) v290_5.toInt.toNat) := ez43
                          obtain ⟨hv44, h⟩ := h
                          have hFc := cfree hR hA
                          refine va_calli (va_runV (As := [.int (qI U290 (qO U290 v290_1 7) v290_5.toInt.toNat)]) (rest := [.int a39, .int a31, .ref (ad290 (qO U290 66 0))]) ⟨hx, hb, hml, hown, hts⟩ (rX9_placeOf l g ad290 H.size U290 (qI U290 (qO U290 v290_1 7) v290_5.toInt.toNat) hR.w  hv44) (cwV 1 hts (gd_V kw_1708 kw_1693 kw_1694 kw_404 kw_1692) rfl rfl rfl (by decide +kernel) ⟨Nat.le_of_ble_eq_true rfl, Nat.le_of_ble_eq_true rfl⟩) ⟨cblind, va_recv hR.K hR.P (ci := 8) (q0 := 66) rfl (hR.at48 (hR.w.2.1 _ finC_31).2.1), fun U hU hW9 => cmk hU hW9 hR hex hE hFc⟩ rfl rfl hl.1 rfl (lv_room (Nat.le_of_ble_eq_true rfl)) dX9_putCounters_333 ⟨(show dc290 + 0 ≤ KCC - qn S from hlg.c), (show ds290 + 0 ≤ KSC - qu S from hlg.s)⟩) hR.sS (fun q _ h => hFc q h) hFc (fun r45 u9 t9 H1 locs ht9 hvm9 hw9 hB9 hz9 hk9 hS => ?_)
                          have hR : RepC g ad290 A s U290 H1 locs := hR.call ht9 hB9 hR.w hS hFc
                          obtain rfl : r45 = (fX9_placeOf U290 (qI U290 (qO U290 v290_1 7) v290_5.toInt.toNat)) := hw9
                          clear hB9 hz9 hk9 hvm9 ht9 hS
                          generalize H1 = H at hR ⊢
                          obtain ⟨a47, ea47⟩ : ∃ z, z = (fX9_placeOf U290 (qI U290 (qO U290 v290_1 7) v290_5.toInt.toNat)) := ⟨_, rfl⟩
                          rw [← ea47]
                          replace h := h a47 ea47
                          refine lv_aload_n hx hb dX9_putCounters_336 rfl (lv_at hl 1 rfl) ?_
                          obtain ⟨hv49, h⟩ := h
                          have hT_b48 : qT U290 (qO U290 v290_1 8) = 227 := hR.w.ref hv49 hT_v290_1
                          refine va_get (D := rD g) (ci := 7) (v := .ref (ad290 (qO U290 v290_1 8))) (C := RX8) (T := TX8) (N := 15) hx hb hts inX8 hown hR.K hR.P v290_1 (hR.at47 hT_v290_1) rfl 8 (by decide) (hts _ kw_1709) (fun _ h9 => h9) (congrArg (fun z => some (vf ad290 z)) hv49) dX9_putCounters_337 ?_
                          refine lv_iload hx hb dX9_putCounters_340 (lv_at hl 2 rfl) ?_
                          obtain ⟨hv50, h⟩ := h
                          refine va_iald hx hb hR.K hR.P (qO U290 v290_1 8) 1 (hR.atI hT_b48 (by decide)) rfl (k_ix (x := v290_5) (a := v290_5.toInt) rfl hv50) dX9_putCounters_342 ?_
                          refine lv_topi (fun z51 ez51 => ?_)
                          obtain rfl : z51 = (qI U290 (qO U290 v290_1 8) v290_5.toInt.toNat) := ez51
                          replace h := h (hT_b23)
                          obtain ⟨Q52, h0, h⟩ := h
                          have hFc := cfree hR hA
                          refine va_callv (va_runV (As := [.int a31, .int a39, .int a47, .int (qI U290 (qO U290 v290_1 8) v290_5.toInt.toNat)]) (rest := []) ⟨hx, hb, hml, hown, hts⟩ (rX8_addCatch l g ad290 H.size U290 (qO U290 66 0) a31 a39 a47 (qI U290 (qO U290 v290_1 8) v290_5.toInt.toNat) hR.w hT_b23 Q52 h0) (cwV 4 hts (gd_V kw_1710 kw_1463 kw_1464 kw_782 kw_1462) rfl rfl rfl (by decide +kernel) ⟨Nat.le_of_ble_eq_true rfl, Nat.le_of_ble_eq_true rfl⟩) ⟨cblind, va_recv hR.K hR.P (ci := 7) (q0 := (qO U290 66 0)) rfl (hR.at47 hT_b23), fun U hU hW9 => cmk hU hW9 hR hex hE hFc⟩ rfl rfl hl.1 rfl (lv_room (Nat.le_of_ble_eq_true rfl)) dX9_putCounters_343 ⟨(show dc290 + 0 ≤ KCC - qn S from hlg.c), (show ds290 + 0 ≤ KSC - qu S from hlg.s)⟩) hR.sS (fun q _ h => hFc q h) hFc (fun  S53 t9 H1 locs ht9 hvm9 hw9 hB9 hz9 hk9 hS => ?_)
                          obtain ⟨hq54, hw9, hs9⟩ := hw9
                          have hR : RepC g ad290 A s S53 H1 locs := hR.call ht9 hB9 hw9 hS hFc
                          have hsh := hsh.tr hs9.1
                          have hlg : lgC S S53 (dc290) (ds290) := hlg.same hs9
                          replace h := h  S53 hq54 hw9 hs9
                          have hT_v290_1 := hs9.T hT_v290_1 (by decide)
                          clear hB9 hz9 hk9 hvm9 ht9 hw9 hs9 hS
                          generalize H1 = H at hR ⊢
                          obtain ⟨a55, ea55⟩ : ∃ z, z = (v290_5 + Int32.ofInt 1) := ⟨_, rfl⟩
                          replace h := h a55 ea55
                          refine lv_iinc (v := a55) (lv' := [(5, .int a55), (0, .ref (ad290 66)), (1, .ref (ad290 v290_1))]) hx hb dX9_putCounters_346 hl (k := 2) rfl ea55.symm (by decide) rfl (fun ls hl => ?_)
                          refine lv_goto (tgt := 290) hx hb dX9_putCounters_349 (by decide) ?_
                          exact ih_290 ad290 (dc290) (ds290) S53 v290_1 a55 _ _ ls h hT_v290_1 hsh hlg hak hE hR (lv_sub hl [1, 2, 0] rfl)
                    obtain ⟨n9, h⟩ := h
                    exact J_290 n9 ad208 (dc208) (ds208) S21 v208_1 0 _ _ ls h hT_v208_1 hsh hlg hak hE hR (lv_sub hl [1, 2, 0] rfl)
                  · replace h := h.2 (k_nle rfl rfl c19)
                    refine lv_aload_n hx hb dX9_putCounters_220 rfl (lv_at hl 0 rfl) ?_
                    have hT_b56 : qT U208 (qO U208 66 0) = 47 := hR.w.ref (hR.w.ptr ptrC_39) (hR.w.2.1 _ finC_31).2.1
                    refine va_get (D := rD g) (ci := 8) (v := .ref (ad208 (qO U208 66 0))) (C := RX9) (T := TX9) (N := 6) hx hb hts inX9 hown hR.K hR.P 66 (hR.at48 (hR.w.2.1 _ finC_31).2.1) rfl 0 (by decide) (hts _ kw_1552) (fun _ h9 => h9) (congrArg (fun z => some (vf ad208 z)) (hR.w.ptr ptrC_39)) dX9_putCounters_221 ?_
                    refine lv_iload hx hb dX9_putCounters_224 (lv_at hl 2 rfl) ?_
                    obtain ⟨hv57, h⟩ := h
                    have hFc := cfree hR hA
                    refine va_calli (va_runV (As := [.int v208_5]) (rest := []) ⟨hx, hb, hml, hown, hts⟩ (rX8_targetCount l g ad208 H.size U208 (qO U208 66 0) v208_5 hR.w hT_b56 hv57) (cwV 1 hts (gd_V kw_1567 kw_1541 kw_1542 kw_782 kw_1540) rfl rfl rfl (by decide +kernel) ⟨Nat.le_of_ble_eq_true rfl, Nat.le_of_ble_eq_true rfl⟩) ⟨cblind, va_recv hR.K hR.P (ci := 7) (q0 := (qO U208 66 0)) rfl (hR.at47 hT_b56), fun U hU hW9 => cmk hU hW9 hR hex hE hFc⟩ rfl rfl hl.1 rfl (lv_room (Nat.le_of_ble_eq_true rfl)) dX9_putCounters_226 ⟨(show dc208 + 0 ≤ KCC - qn S from hlg.c), (show ds208 + 0 ≤ KSC - qu S from hlg.s)⟩) hR.sS (fun q _ h => hFc q h) hFc (fun r58 u9 t9 H1 locs ht9 hvm9 hw9 hB9 hz9 hk9 hS => ?_)
                    have hR : RepC g ad208 A s U208 H1 locs := hR.call ht9 hB9 hR.w hS hFc
                    obtain rfl : r58 = (fX8_targetCount U208 (qO U208 66 0) v208_5) := hw9
                    clear hB9 hz9 hk9 hvm9 ht9 hS
                    generalize H1 = H at hR ⊢
                    obtain ⟨a60, ea60⟩ : ∃ z, z = (fX8_targetCount U208 (qO U208 66 0) v208_5) := ⟨_, rfl⟩
                    rw [← ea60]
                    replace h := h a60 ea60
                    refine lv_istore (lv' := [(6, .int a60), (0, .ref (ad208 66)), (1, .ref (ad208 v208_1)), (5, .int v208_5)]) hx hb dX9_putCounters_229 hl (by decide) rfl (fun ls hl => ?_)
                    refine lv_iconst (v := 0) hx hb dX9_putCounters_231 (by decide) ?_
                    refine lv_istore (lv' := [(7, .int 0), (6, .int a60), (0, .ref (ad208 66)), (1, .ref (ad208 v208_1)), (5, .int v208_5)]) hx hb dX9_putCounters_232 hl (by decide) rfl (fun ls hl => ?_)
                    have J_234 : ∀ (n234 : Nat) (ad234 : Nat → Nat) (dc234 ds234 : Nat) (U234 : MS) (v234_1 : Nat) (v234_5 : Int32) (v234_6 : Int32) (v234_7 : Int32) (H : Heap) (locs : List Loc) (ls : Array Slot), w_X9_putCounters_L234 Q (w_X9_putCounters_L208 Q n208) n234 U234 v234_1 v234_5 v234_6 v234_7 → qT U234 v234_1 = 47 → shx S U234 → lgC S U234 dc234 ds234 → adk ad ad234 S → ogC ad234 A s s.heap → RepC g ad234 A s U234 H locs → lv_has ls 8 [(0, .ref (ad234 66)), (1, .ref (ad234 v234_1)), (5, .int v234_5), (6, .int v234_6), (7, .int v234_7)] → W p l e (headSpec (wt yX9_putCounters cX9_putCounters 8 none) ({ frames := 3, cells := KCC - qn S, slots := KSC - qu S, locals := 56 })).room s m ([.ref (ad 66), .ref (ad p1), .ref (ad 52), .int x3] : List Value).toArray below meth c H locs dc234 ds234 (MQ below (va_Qv (fun (u : MS × (Nat → Nat)) => Q u.1 ∧ wfC u.1 ∧ shx S u.1 ∧ adk ad u.2 S) (fun (u : MS × (Nat → Nat)) (t : State) => qEHC g A S s.heap u t) A) ([.ref (ad 66), .ref (ad p1), .ref (ad 52), .int x3] : List Value).toArray s (KCC - qn S) (KSC - qu S) A) (F0 m 234 ls []) := by
                      intro n234
                      induction n234 with
                      | zero => intro ad234 dc234 ds234 U234 v234_1 v234_5 v234_6 v234_7 H locs ls h hT_v234_1 hsh hlg hak hE hR hl; unfold w_X9_putCounters_L234 at h; exact h.elim
                      | succ n234 ih_234 =>
                        intro ad234 dc234 ds234 U234 v234_1 v234_5 v234_6 v234_7 H locs ls h hT_v234_1 hsh hlg hak hE hR hl
                        unfold w_X9_putCounters_L234 at h
                        replace h := h hR.w hT_v234_1
                        refine lv_iload hx hb dX9_putCounters_234 (lv_at hl 4 rfl) ?_
                        refine lv_iload hx hb dX9_putCounters_236 (lv_at hl 3 rfl) ?_
                        refine lv_icmp_ge (tgt := 273) hx hb dX9_putCounters_238 (by decide) (fun c61 => ?_) (fun c61 => ?_)
                        · replace h := h.1 (k_le rfl rfl c61)
                          obtain ⟨a62, ea62⟩ : ∃ z, z = (v234_5 + Int32.ofInt 1) := ⟨_, rfl⟩
                          replace h := h a62 ea62
                          refine lv_iinc (v := a62) (lv' := [(5, .int a62), (0, .ref (ad234 66)), (1, .ref (ad234 v234_1)), (6, .int v234_6), (7, .int v234_7)]) hx hb dX9_putCounters_273 hl (k := 2) rfl ea62.symm (by decide) rfl (fun ls hl => ?_)
                          refine lv_goto (tgt := 208) hx hb dX9_putCounters_276 (by decide) ?_
                          exact ih_208 ad234 (dc234) (ds234) U234 v234_1 a62 _ _ ls h hT_v234_1 hsh hlg hak hE hR (lv_sub hl [1, 2, 0] rfl)
                        · replace h := h.2 (k_nle rfl rfl c61)
                          refine lv_aload_n hx hb dX9_putCounters_241 rfl (lv_at hl 0 rfl) ?_
                          have hT_b63 : qT U234 (qO U234 66 0) = 47 := hR.w.ref (hR.w.ptr ptrC_39) (hR.w.2.1 _ finC_31).2.1
                          refine va_get (D := rD g) (ci := 8) (v := .ref (ad234 (qO U234 66 0))) (C := RX9) (T := TX9) (N := 6) hx hb hts inX9 hown hR.K hR.P 66 (hR.at48 (hR.w.2.1 _ finC_31).2.1) rfl 0 (by decide) (hts _ kw_1552) (fun _ h9 => h9) (congrArg (fun z => some (vf ad234 z)) (hR.w.ptr ptrC_39)) dX9_putCounters_242 ?_
                          refine lv_iload hx hb dX9_putCounters_245 (lv_at hl 2 rfl) ?_
                          refine lv_iload hx hb dX9_putCounters_247 (lv_at hl 4 rfl) ?_
                          refine lv_aload_n hx hb dX9_putCounters_249 rfl (lv_at hl 0 rfl) ?_
                          refine lv_aload_n hx hb dX9_putCounters_250 rfl (lv_at hl 0 rfl) ?_
                          have hT_b64 : qT U234 (qO U234 66 0) = 47 := hR.w.ref (hR.w.ptr ptrC_39) (hR.w.2.1 _ finC_31).2.1
                          refine va_get (D := rD g) (ci := 8) (v := .ref (ad234 (qO U234 66 0))) (C := RX9) (T := TX9) (N := 6) hx hb hts inX9 hown hR.K hR.P 66 (hR.at48 (hR.w.2.1 _ finC_31).2.1) rfl 0 (by decide) (hts _ kw_1552) (fun _ h9 => h9) (congrArg (fun z => some (vf ad234 z)) (hR.w.ptr ptrC_39)) dX9_putCounters_251 ?_
                          refine lv_iload hx hb dX9_putCounters_254 (lv_at hl 2 rfl) ?_
                          refine lv_iload hx hb dX9_putCounters_256 (lv_at hl 4 rfl) ?_
                          obtain ⟨hv65, h⟩ := h
                          have hFc := cfree hR hA
                          refine va_calli (va_runV (As := [.int v234_5, .int v234_7]) (rest := [.ref (ad234 66), .int v234_7, .int v234_5, .ref (ad234 (qO U234 66 0))]) ⟨hx, hb, hml, hown, hts⟩ (rX8_targetAt l g ad234 H.size U234 (qO U234 66 0) v234_5 v234_7 hR.w hT_b64 hv65) (cwV 2 hts (gd_V kw_1568 kw_1537 kw_1538 kw_782 kw_1536) rfl rfl rfl (by decide +kernel) ⟨Nat.le_of_ble_eq_true rfl, Nat.le_of_ble_eq_true rfl⟩) ⟨cblind, va_recv hR.K hR.P (ci := 7) (q0 := (qO U234 66 0)) rfl (hR.at47 hT_b64), fun U hU hW9 => cmk hU hW9 hR hex hE hFc⟩ rfl rfl hl.1 rfl (lv_room (Nat.le_of_ble_eq_true rfl)) dX9_putCounters_258 ⟨(show dc234 + 0 ≤ KCC - qn S from hlg.c), (show ds234 + 0 ≤ KSC - qu S from hlg.s)⟩) hR.sS (fun q _ h => hFc q h) hFc (fun r66 u9 t9 H1 locs ht9 hvm9 hw9 hB9 hz9 hk9 hS => ?_)
                          have hR : RepC g ad234 A s U234 H1 locs := hR.call ht9 hB9 hR.w hS hFc
                          obtain rfl : r66 = (fX8_targetAt U234 (qO U234 66 0) v234_5 v234_7) := hw9
                          clear hB9 hz9 hk9 hvm9 ht9 hS
                          generalize H1 = H at hR ⊢
                          obtain ⟨a68, ea68⟩ : ∃ z, z = (fX8_targetAt U234 (qO U234 66 0) v234_5 v234_7) := ⟨_, rfl⟩
                          rw [← ea68]
                          replace h := h a68 ea68
                          obtain ⟨hv69, h⟩ := h
                          have hFc := cfree hR hA
                          refine va_calli (va_runV (As := [.int a68]) (rest := [.int v234_7, .int v234_5, .ref (ad234 (qO U234 66 0))]) ⟨hx, hb, hml, hown, hts⟩ (rX9_placeOf l g ad234 H.size U234 a68 hR.w  hv69) (cwV 1 hts (gd_V kw_1708 kw_1693 kw_1694 kw_404 kw_1692) rfl rfl rfl (by decide +kernel) ⟨Nat.le_of_ble_eq_true rfl, Nat.le_of_ble_eq_true rfl⟩) ⟨cblind, va_recv hR.K hR.P (ci := 8) (q0 := 66) rfl (hR.at48 (hR.w.2.1 _ finC_31).2.1), fun U hU hW9 => cmk hU hW9 hR hex hE hFc⟩ rfl rfl hl.1 rfl (lv_room (Nat.le_of_ble_eq_true rfl)) dX9_putCounters_261 ⟨(show dc234 + 0 ≤ KCC - qn S from hlg.c), (show ds234 + 0 ≤ KSC - qu S from hlg.s)⟩) hR.sS (fun q _ h => hFc q h) hFc (fun r70 u9 t9 H1 locs ht9 hvm9 hw9 hB9 hz9 hk9 hS => ?_)
                          have hR : RepC g ad234 A s U234 H1 locs := hR.call ht9 hB9 hR.w hS hFc
                          obtain rfl : r70 = (fX9_placeOf U234 a68) := hw9
                          clear hB9 hz9 hk9 hvm9 ht9 hS
                          generalize H1 = H at hR ⊢
                          obtain ⟨a72, ea72⟩ : ∃ z, z = (fX9_placeOf U234 a68) := ⟨_, rfl⟩
                          rw [← ea72]
                          replace h := h a72 ea72
                          replace h := h (hT_b63)
                          obtain ⟨Q73, h0, h⟩ := h
                          have hFc := cfree hR hA
                          refine va_callv (va_runV (As := [.int v234_5, .int v234_7, .int a72]) (rest := []) ⟨hx, hb, hml, hown, hts⟩ (rX8_setTarget l g ad234 H.size U234 (qO U234 66 0) v234_5 v234_7 a72 hR.w hT_b63 Q73 h0) (cwV 3 hts (gd_V kw_1651 kw_1526 kw_1527 kw_782 kw_1525) rfl rfl rfl (by decide +kernel) ⟨Nat.le_of_ble_eq_true rfl, Nat.le_of_ble_eq_true rfl⟩) ⟨cblind, va_recv hR.K hR.P (ci := 7) (q0 := (qO U234 66 0)) rfl (hR.at47 hT_b63), fun U hU hW9 => cmk hU hW9 hR hex hE hFc⟩ rfl rfl hl.1 rfl (lv_room (Nat.le_of_ble_eq_true rfl)) dX9_putCounters_264 ⟨(show dc234 + 0 ≤ KCC - qn S from hlg.c), (show ds234 + 0 ≤ KSC - qu S from hlg.s)⟩) hR.sS (fun q _ h => hFc q h) hFc (fun  S74 t9 H1 locs ht9 hvm9 hw9 hB9 hz9 hk9 hS => ?_)
                          obtain ⟨hq75, hw9, hs9⟩ := hw9
                          have hR : RepC g ad234 A s S74 H1 locs := hR.call ht9 hB9 hw9 hS hFc
                          have hsh := hsh.tr hs9.1
                          have hlg : lgC S S74 (dc234) (ds234) := hlg.same hs9
                          replace h := h  S74 hq75 hw9 hs9
                          have hT_v234_1 := hs9.T hT_v234_1 (by decide)
                          clear hB9 hz9 hk9 hvm9 ht9 hw9 hs9 hS
                          generalize H1 = H at hR ⊢
                          obtain ⟨a76, ea76⟩ : ∃ z, z = (v234_7 + Int32.ofInt 1) := ⟨_, rfl⟩
                          replace h := h a76 ea76
                          refine lv_iinc (v := a76) (lv' := [(7, .int a76), (0, .ref (ad234 66)), (1, .ref (ad234 v234_1)), (5, .int v234_5), (6, .int v234_6)]) hx hb dX9_putCounters_267 hl (k := 4) rfl ea76.symm (by decide) rfl (fun ls hl => ?_)
                          refine lv_goto (tgt := 234) hx hb dX9_putCounters_270 (by decide) ?_
                          exact ih_234 ad234 (dc234) (ds234) S74 v234_1 v234_5 v234_6 a76 _ _ ls h hT_v234_1 hsh hlg hak hE hR (lv_sub hl [1, 2, 3, 4, 0] rfl)
                    obtain ⟨n9, h⟩ := h
                    exact J_234 n9 ad208 (dc208) (ds208) U208 v208_1 v208_5 a60 0 _ _ ls h hT_v208_1 hsh hlg hak hE hR (lv_sub hl [2, 3, 4, 1, 0] rfl)
              obtain ⟨n9, h⟩ := h
              exact J_208 n9 ad176 (dc176) (ds176) U176 v176_1 0 _ _ ls h hT_v176_1 hsh hlg hak hE hR (lv_sub hl [1, 2, 0] rfl)
            · replace h := h.2 (k_nle rfl rfl c17)
              refine lv_aload_n hx hb dX9_putCounters_185 rfl (lv_at hl 0 rfl) ?_
              have hT_b77 : qT U176 (qO U176 66 0) = 47 := hR.w.ref (hR.w.ptr ptrC_39) (hR.w.2.1 _ finC_31).2.1
              refine va_get (D := rD g) (ci := 8) (v := .ref (ad176 (qO U176 66 0))) (C := RX9) (T := TX9) (N := 6) hx hb hts inX9 hown hR.K hR.P 66 (hR.at48 (hR.w.2.1 _ finC_31).2.1) rfl 0 (by decide) (hts _ kw_1552) (fun _ h9 => h9) (congrArg (fun z => some (vf ad176 z)) (hR.w.ptr ptrC_39)) dX9_putCounters_186 ?_
              refine lv_aload_n hx hb dX9_putCounters_189 rfl (lv_at hl 1 rfl) ?_
              obtain ⟨hv79, h⟩ := h
              have hT_b78 : qT U176 (qO U176 v176_1 3) = 223 := hR.w.ref hv79 hT_v176_1
              refine va_get (D := rD g) (ci := 7) (v := .ref (ad176 (qO U176 v176_1 3))) (C := RX8) (T := TX8) (N := 15) hx hb hts inX8 hown hR.K hR.P v176_1 (hR.at47 hT_v176_1) rfl 3 (by decide) (hts _ kw_1706) (fun _ h9 => h9) (congrArg (fun z => some (vf ad176 z)) hv79) dX9_putCounters_190 ?_
              refine lv_iload hx hb dX9_putCounters_193 (lv_at hl 2 rfl) ?_
              obtain ⟨hv80, h⟩ := h
              refine va_iald hx hb hR.K hR.P (qO U176 v176_1 3) 1 (hR.atI hT_b78 (by decide)) rfl (k_ix (x := v176_5) (a := v176_5.toInt) rfl hv80) dX9_putCounters_195 ?_
              refine lv_topi (fun z81 ez81 => ?_)
              obtain rfl : z81 = (qI U176 (qO U176 v176_1 3) v176_5.toInt.toNat) := ez81
              replace h := h (hT_b77)
              obtain ⟨Q82, h0, h⟩ := h
              have hFc := cfree hR hA
              refine va_callv (va_runV (As := [.int (qI U176 (qO U176 v176_1 3) v176_5.toInt.toNat)]) (rest := []) ⟨hx, hb, hml, hown, hts⟩ (rX8_addToTable l g ad176 H.size U176 (qO U176 66 0) (qI U176 (qO U176 v176_1 3) v176_5.toInt.toNat) hR.w hT_b77 Q82 h0) (cwV 1 hts (gd_V kw_1707 kw_1471 kw_1472 kw_782 kw_1470) rfl rfl rfl (by decide +kernel) ⟨Nat.le_of_ble_eq_true rfl, Nat.le_of_ble_eq_true rfl⟩) ⟨cblind, va_recv hR.K hR.P (ci := 7) (q0 := (qO U176 66 0)) rfl (hR.at47 hT_b77), fun U hU hW9 => cmk hU hW9 hR hex hE hFc⟩ rfl rfl hl.1 rfl (lv_room (Nat.le_of_ble_eq_true rfl)) dX9_putCounters_196 ⟨(show dc176 + 0 ≤ KCC - qn S from hlg.c), (show ds176 + 0 ≤ KSC - qu S from hlg.s)⟩) hR.sS (fun q _ h => hFc q h) hFc (fun  S83 t9 H1 locs ht9 hvm9 hw9 hB9 hz9 hk9 hS => ?_)
              obtain ⟨hq84, hw9, hs9⟩ := hw9
              have hR : RepC g ad176 A s S83 H1 locs := hR.call ht9 hB9 hw9 hS hFc
              have hsh := hsh.tr hs9.1
              have hlg : lgC S S83 (dc176) (ds176) := hlg.same hs9
              replace h := h  S83 hq84 hw9 hs9
              have hT_v176_1 := hs9.T hT_v176_1 (by decide)
              clear hB9 hz9 hk9 hvm9 ht9 hw9 hs9 hS
              generalize H1 = H at hR ⊢
              obtain ⟨a85, ea85⟩ : ∃ z, z = (v176_5 + Int32.ofInt 1) := ⟨_, rfl⟩
              replace h := h a85 ea85
              refine lv_iinc (v := a85) (lv' := [(5, .int a85), (0, .ref (ad176 66)), (1, .ref (ad176 v176_1))]) hx hb dX9_putCounters_199 hl (k := 2) rfl ea85.symm (by decide) rfl (fun ls hl => ?_)
              refine lv_goto (tgt := 176) hx hb dX9_putCounters_202 (by decide) ?_
              exact ih_176 ad176 (dc176) (ds176) S83 v176_1 a85 _ _ ls h hT_v176_1 hsh hlg hak hE hR (lv_sub hl [1, 2, 0] rfl)
        obtain ⟨n9, h⟩ := h
        exact J_176 n9 ad139 (dc139) (ds139) S16 v139_1 0 _ _ ls h hT_v139_1 hsh hlg hak hE hR (lv_sub hl [1, 2, 0] rfl)
      refine lv_icmp_ge (tgt := 139) hx hb dX9_putCounters_25 (by decide) (fun c86 => ?_) (fun c86 => ?_)
      · replace h := h.1 (k_le rfl rfl c86)
        exact J_139 ad19 (dc19) (ds19) U19 v19_1 _ _ ls h hT_v19_1 hsh hlg hak hE hR (lv_sub hl [0, 1] rfl)
      · replace h := h.2 (k_nle rfl rfl c86)
        refine lv_iload hx hb dX9_putCounters_28 (lv_at hl 4 rfl) ?_
        refine lv_aload_n hx hb dX9_putCounters_30 rfl (lv_at hl 0 rfl) ?_
        have hT_b87 : qT U19 (qO U19 66 5) = 230 := hR.w.ref (hR.w.ptr ptrC_38) (hR.w.2.1 _ finC_31).2.1
        refine va_get (D := rD g) (ci := 8) (v := .ref (ad19 (qO U19 66 5))) (C := RX9) (T := TX9) (N := 6) hx hb hts inX9 hown hR.K hR.P 66 (hR.at48 (hR.w.2.1 _ finC_31).2.1) rfl 5 (by decide) (hts _ kw_1592) (fun _ h9 => h9) (congrArg (fun z => some (vf ad19 z)) (hR.w.ptr ptrC_38)) dX9_putCounters_31 ?_
        refine va_alen (v := (Int32.ofNat (qN U19 (qO U19 66 5)))) hx hb hR.K hR.P (qO U19 66 5) 1 (hR.atI hT_b87 (by decide)) rfl rfl dX9_putCounters_34 ?_
        have hln88 : (Int32.ofNat (qN U19 (qO U19 66 5))).toInt = (qN U19 (qO U19 66 5) : Int) := toI_len (hR.w.len9 (hT_b87) (by decide))
        refine lv_icmp_ge (tgt := 139) hx hb dX9_putCounters_35 (by decide) (fun c89 => ?_) (fun c89 => ?_)
        · replace h := h.1 (k_le hln88 rfl c89)
          exact J_139 ad19 (dc19) (ds19) U19 v19_1 _ _ ls h hT_v19_1 hsh hlg hak hE hR (lv_sub hl [0, 1] rfl)
        · replace h := h.2 (k_nle hln88 rfl c89)
          refine lv_aload_n hx hb dX9_putCounters_38 rfl (lv_at hl 0 rfl) ?_
          have hT_b90 : qT U19 (qO U19 66 5) = 230 := hR.w.ref (hR.w.ptr ptrC_38) (hR.w.2.1 _ finC_31).2.1
          refine va_get (D := rD g) (ci := 8) (v := .ref (ad19 (qO U19 66 5))) (C := RX9) (T := TX9) (N := 6) hx hb hts inX9 hown hR.K hR.P 66 (hR.at48 (hR.w.2.1 _ finC_31).2.1) rfl 5 (by decide) (hts _ kw_1592) (fun _ h9 => h9) (congrArg (fun z => some (vf ad19 z)) (hR.w.ptr ptrC_38)) dX9_putCounters_39 ?_
          refine lv_iload hx hb dX9_putCounters_42 (lv_at hl 4 rfl) ?_
          refine lv_aload_n hx hb dX9_putCounters_44 rfl (lv_at hl 0 rfl) ?_
          have hT_b91 : qT U19 (qO U19 66 0) = 47 := hR.w.ref (hR.w.ptr ptrC_39) (hR.w.2.1 _ finC_31).2.1
          refine va_get (D := rD g) (ci := 8) (v := .ref (ad19 (qO U19 66 0))) (C := RX9) (T := TX9) (N := 6) hx hb hts inX9 hown hR.K hR.P 66 (hR.at48 (hR.w.2.1 _ finC_31).2.1) rfl 0 (by decide) (hts _ kw_1552) (fun _ h9 => h9) (congrArg (fun z => some (vf ad19 z)) (hR.w.ptr ptrC_39)) dX9_putCounters_45 ?_
          refine va_get (D := rD g) (ci := 7) (v := .int (qI U19 (qO U19 66 0) 2)) (C := RX8) (T := TX8) (N := 15) hx hb hts inX8 hown hR.K hR.P (qO U19 66 0) (hR.at47 hT_b91) rfl 2 (by decide) (hts _ kw_1553) (fun _ h9 => h9) rfl dX9_putCounters_48 ?_
          obtain ⟨hv92, h⟩ := h
          refine va_iast hx hb hR.K hR.P hR.D hR.sS (qO U19 66 5) 1 (hR.atI hT_b90 (by decide)) rfl (k_ix (x := v19_5) (a := v19_5.toInt) rfl hv92) dX9_putCounters_51 (fun H locs hP hD hS => ?_)
          have hTk9 : qT U19 (qO U19 66 5) = 230 := hT_b90
          have hR : RepC g ad19 A s (wI U19 (qO U19 66 5) v19_5.toInt.toNat (qI U19 (qO U19 66 0) 2)) H locs := hR.aI hT_b90 (by decide) hP hD hS
          obtain ⟨S93, eS93⟩ : ∃ z, z = wI U19 (qO U19 66 5) v19_5.toInt.toNat (qI U19 (qO U19 66 0) 2) := ⟨_, rfl⟩
          rw [← eS93] at hR
          replace h := h S93 eS93 hTk9 hR.w
          have hT_v19_1 : qT S93 v19_1 = 47 := (congrArg (fun z => qT z v19_1) eS93).trans hT_v19_1
          have hsh : shx S S93 := by rw [eS93]; exact hsh
          have hlg : lgC S S93 (dc19) (ds19) := by rw [eS93]; exact hlg
          refine lv_aload_n hx hb dX9_putCounters_52 rfl (lv_at hl 2 rfl) ?_
          refine lv_aload_n hx hb dX9_putCounters_53 rfl (lv_at hl 2 rfl) ?_
          refine lv_iload hx hb dX9_putCounters_54 (lv_at hl 4 rfl) ?_
          obtain ⟨hv94, h⟩ := h
          have hFc := cfree hR hA
          refine va_calli (va_runV (As := [.int v19_5]) (rest := [.ref (ad19 52)]) ⟨hx, hb, hml, hown, hts⟩ (rX3_blockAt l g ad19 H.size S93 v19_5 hR.w  hv94) (cwV 1 hts (gd_V kw_1701 kw_860 kw_861 kw_401 kw_859) rfl rfl rfl (by decide +kernel) ⟨Nat.le_of_ble_eq_true rfl, Nat.le_of_ble_eq_true rfl⟩) ⟨cblind, va_recv hR.K hR.P (ci := 3) (q0 := 52) rfl (hR.at43 (hR.w.2.1 _ finC_30).2.1), fun U hU hW9 => cmk hU hW9 hR hex hE hFc⟩ rfl rfl hl.1 rfl (lv_room (Nat.le_of_ble_eq_true rfl)) dX9_putCounters_56 ⟨(show dc19 + 0 ≤ KCC - qn S from hlg.c), (show ds19 + 0 ≤ KSC - qu S from hlg.s)⟩) hR.sS (fun q _ h => hFc q h) hFc (fun r95 u9 t9 H1 locs ht9 hvm9 hw9 hB9 hz9 hk9 hS => ?_)
          have hR : RepC g ad19 A s S93 H1 locs := hR.call ht9 hB9 hR.w hS hFc
          obtain rfl : r95 = (fX3_blockAt S93 v19_5) := hw9
          clear hB9 hz9 hk9 hvm9 ht9 hS
          generalize H1 = H at hR ⊢
          obtain ⟨a97, ea97⟩ : ∃ z, z = (fX3_blockAt S93 v19_5) := ⟨_, rfl⟩
          rw [← ea97]
          replace h := h a97 ea97
          obtain ⟨hv98, h⟩ := h
          have hFc := cfree hR hA
          refine va_calli (va_runV (As := [.int a97]) (rest := []) ⟨hx, hb, hml, hown, hts⟩ (rX3_isReached l g ad19 H.size S93 a97 hR.w  hv98) (cwV 1 hts (gd_V kw_1702 kw_930 kw_931 kw_401 kw_929) rfl rfl rfl (by decide +kernel) ⟨Nat.le_of_ble_eq_true rfl, Nat.le_of_ble_eq_true rfl⟩) ⟨cblind, va_recv hR.K hR.P (ci := 3) (q0 := 52) rfl (hR.at43 (hR.w.2.1 _ finC_30).2.1), fun U hU hW9 => cmk hU hW9 hR hex hE hFc⟩ rfl rfl hl.1 rfl (lv_room (Nat.le_of_ble_eq_true rfl)) dX9_putCounters_59 ⟨(show dc19 + 0 ≤ KCC - qn S from hlg.c), (show ds19 + 0 ≤ KSC - qu S from hlg.s)⟩) hR.sS (fun q _ h => hFc q h) hFc (fun r99 u9 t9 H1 locs ht9 hvm9 hw9 hB9 hz9 hk9 hS => ?_)
          have hR : RepC g ad19 A s S93 H1 locs := hR.call ht9 hB9 hR.w hS hFc
          obtain ⟨rfl, hz_r99⟩ := hw9
          clear hB9 hz9 hk9 hvm9 ht9 hS
          generalize H1 = H at hR ⊢
          obtain ⟨a101, ea101⟩ : ∃ z, z = (fX3_isReached S93 a97) := ⟨_, rfl⟩
          rw [← ea101]
          replace h := h a101 ea101
          rw [← ea101] at hz_r99
          have J_114 : ∀ (ad114 : Nat → Nat) (dc114 ds114 : Nat) (U114 : MS) (v114_1 : Nat) (v114_4 : Int32) (v114_5 : Int32) (H : Heap) (locs : List Loc) (ls : Array Slot), w_X9_putCounters_J114 Q (w_X9_putCounters_L19 Q n19) U114 v114_1 v114_4 v114_5 → qT U114 v114_1 = 47 → shx S U114 → lgC S U114 dc114 ds114 → adk ad ad114 S → ogC ad114 A s s.heap → RepC g ad114 A s U114 H locs → lv_has ls 8 [(0, .ref (ad114 66)), (1, .ref (ad114 v114_1)), (2, .ref (ad114 52)), (4, .int v114_4), (5, .int v114_5)] → W p l e (headSpec (wt yX9_putCounters cX9_putCounters 8 none) ({ frames := 3, cells := KCC - qn S, slots := KSC - qu S, locals := 56 })).room s m ([.ref (ad 66), .ref (ad p1), .ref (ad 52), .int x3] : List Value).toArray below meth c H locs dc114 ds114 (MQ below (va_Qv (fun (u : MS × (Nat → Nat)) => Q u.1 ∧ wfC u.1 ∧ shx S u.1 ∧ adk ad u.2 S) (fun (u : MS × (Nat → Nat)) (t : State) => qEHC g A S s.heap u t) A) ([.ref (ad 66), .ref (ad p1), .ref (ad 52), .int x3] : List Value).toArray s (KCC - qn S) (KSC - qu S) A) (F0 m 114 ls []) := by
            intro ad114 dc114 ds114 U114 v114_1 v114_4 v114_5 H locs ls h hT_v114_1 hsh hlg hak hE hR hl
            unfold w_X9_putCounters_J114 at h
            replace h := h hR.w hT_v114_1
            refine lv_aload_n hx hb dX9_putCounters_114 rfl (lv_at hl 0 rfl) ?_
            have hT_b102 : qT U114 (qO U114 66 0) = 47 := hR.w.ref (hR.w.ptr ptrC_39) (hR.w.2.1 _ finC_31).2.1
            refine va_get (D := rD g) (ci := 8) (v := .ref (ad114 (qO U114 66 0))) (C := RX9) (T := TX9) (N := 6) hx hb hts inX9 hown hR.K hR.P 66 (hR.at48 (hR.w.2.1 _ finC_31).2.1) rfl 0 (by decide) (hts _ kw_1552) (fun _ h9 => h9) (congrArg (fun z => some (vf ad114 z)) (hR.w.ptr ptrC_39)) dX9_putCounters_115 ?_
            refine lv_aload_n hx hb dX9_putCounters_118 rfl (lv_at hl 1 rfl) ?_
            refine lv_iload hx hb dX9_putCounters_119 (lv_at hl 4 rfl) ?_
            obtain ⟨hv103, h⟩ := h
            have hFc := cfree hR hA
            refine va_calli (va_runV (As := [.int v114_5]) (rest := [.ref (ad114 (qO U114 66 0))]) ⟨hx, hb, hml, hown, hts⟩ (rX8_opAt l g ad114 H.size U114 v114_1 v114_5 hR.w hT_v114_1 hv103) (cwV 1 hts (gd_V kw_1596 kw_1513 kw_1514 kw_782 kw_1512) rfl rfl rfl (by decide +kernel) ⟨Nat.le_of_ble_eq_true rfl, Nat.le_of_ble_eq_true rfl⟩) ⟨cblind, va_recv hR.K hR.P (ci := 7) (q0 := v114_1) rfl (hR.at47 hT_v114_1), fun U hU hW9 => cmk hU hW9 hR hex hE hFc⟩ rfl rfl hl.1 rfl (lv_room (Nat.le_of_ble_eq_true rfl)) dX9_putCounters_121 ⟨(show dc114 + 0 ≤ KCC - qn S from hlg.c), (show ds114 + 0 ≤ KSC - qu S from hlg.s)⟩) hR.sS (fun q _ h => hFc q h) hFc (fun r104 u9 t9 H1 locs ht9 hvm9 hw9 hB9 hz9 hk9 hS => ?_)
            have hR : RepC g ad114 A s U114 H1 locs := hR.call ht9 hB9 hR.w hS hFc
            obtain rfl : r104 = (fX8_opAt U114 v114_1 v114_5) := hw9
            clear hB9 hz9 hk9 hvm9 ht9 hS
            generalize H1 = H at hR ⊢
            obtain ⟨a106, ea106⟩ : ∃ z, z = (fX8_opAt U114 v114_1 v114_5) := ⟨_, rfl⟩
            rw [← ea106]
            replace h := h a106 ea106
            refine lv_aload_n hx hb dX9_putCounters_124 rfl (lv_at hl 1 rfl) ?_
            refine lv_iload hx hb dX9_putCounters_125 (lv_at hl 4 rfl) ?_
            obtain ⟨hv107, h⟩ := h
            have hFc := cfree hR hA
            refine va_calll (va_runV (As := [.int v114_5]) (rest := [.int a106, .ref (ad114 (qO U114 66 0))]) ⟨hx, hb, hml, hown, hts⟩ (rX8_argAt l g ad114 H.size U114 v114_1 v114_5 hR.w hT_v114_1 hv107) (cwV 1 hts (gd_V kw_1605 kw_1476 kw_1477 kw_782 kw_1475) rfl rfl rfl (by decide +kernel) ⟨Nat.le_of_ble_eq_true rfl, Nat.le_of_ble_eq_true rfl⟩) ⟨cblind, va_recv hR.K hR.P (ci := 7) (q0 := v114_1) rfl (hR.at47 hT_v114_1), fun U hU hW9 => cmk hU hW9 hR hex hE hFc⟩ rfl rfl hl.1 rfl (lv_room (Nat.le_of_ble_eq_true rfl)) dX9_putCounters_127 ⟨(show dc114 + 0 ≤ KCC - qn S from hlg.c), (show ds114 + 0 ≤ KSC - qu S from hlg.s)⟩) hR.sS (fun q _ h => hFc q h) hFc (fun r108 u9 t9 H1 locs ht9 hvm9 hw9 hB9 hz9 hk9 hS => ?_)
            have hR : RepC g ad114 A s U114 H1 locs := hR.call ht9 hB9 hR.w hS hFc
            obtain rfl : r108 = (fX8_argAt U114 v114_1 v114_5) := hw9
            clear hB9 hz9 hk9 hvm9 ht9 hS
            generalize H1 = H at hR ⊢
            obtain ⟨a110, ea110⟩ : ∃ z, z = (fX8_argAt U114 v114_1 v114_5) := ⟨_, rfl⟩
            rw [← ea110]
            replace h := h a110 ea110
            replace h := h (hT_b102)
            obtain ⟨Q111, h0, h⟩ := h
            have hFc := cfree hR hA
            refine va_callv (va_runV (As := [.int a106, .long a110]) (rest := []) ⟨hx, hb, hml, hown, hts⟩ (rX8_add l g ad114 H.size U114 (qO U114 66 0) a106 a110 hR.w hT_b102 Q111 h0) (cwV 2 hts (gd_V kw_1703 kw_1457 kw_1458 kw_782 kw_1456) rfl rfl rfl (by decide +kernel) ⟨Nat.le_of_ble_eq_true rfl, Nat.le_of_ble_eq_true rfl⟩) ⟨cblind, va_recv hR.K hR.P (ci := 7) (q0 := (qO U114 66 0)) rfl (hR.at47 hT_b102), fun U hU hW9 => cmk hU hW9 hR hex hE hFc⟩ rfl rfl hl.1 rfl (lv_room (Nat.le_of_ble_eq_true rfl)) dX9_putCounters_130 ⟨(show dc114 + 0 ≤ KCC - qn S from hlg.c), (show ds114 + 0 ≤ KSC - qu S from hlg.s)⟩) hR.sS (fun q _ h => hFc q h) hFc (fun  S112 t9 H1 locs ht9 hvm9 hw9 hB9 hz9 hk9 hS => ?_)
            obtain ⟨hq113, hw9, hs9⟩ := hw9
            have hR : RepC g ad114 A s S112 H1 locs := hR.call ht9 hB9 hw9 hS hFc
            have hsh := hsh.tr hs9.1
            have hlg : lgC S S112 (dc114) (ds114) := hlg.same hs9
            replace h := h  S112 hq113 hw9 hs9
            have hT_v114_1 := hs9.T hT_v114_1 (by decide)
            clear hB9 hz9 hk9 hvm9 ht9 hw9 hs9 hS
            generalize H1 = H at hR ⊢
            obtain ⟨a114, ea114⟩ : ∃ z, z = (v114_5 + Int32.ofInt 1) := ⟨_, rfl⟩
            replace h := h a114 ea114
            refine lv_iinc (v := a114) (lv' := [(5, .int a114), (0, .ref (ad114 66)), (1, .ref (ad114 v114_1)), (2, .ref (ad114 52)), (4, .int v114_4)]) hx hb dX9_putCounters_133 hl (k := 4) rfl ea114.symm (by decide) rfl (fun ls hl => ?_)
            refine lv_goto (tgt := 19) hx hb dX9_putCounters_136 (by decide) ?_
            exact ih_19 ad114 (dc114) (ds114) S112 v114_1 v114_4 a114 _ _ ls h hT_v114_1 hsh hlg hak hE hR (lv_sub hl [1, 2, 3, 4, 0] rfl)
          refine lv_if_eq (tgt := 114) hx hb dX9_putCounters_62 (by decide) (fun c115 => ?_) (fun c115 => ?_)
          · replace h := h.1 (k_eq rfl (by decide) c115)
            exact J_114 ad19 (dc19) (ds19) S93 v19_1 v19_4 v19_5 _ _ ls h hT_v19_1 hsh hlg hak hE hR (lv_sub hl [0, 1, 2, 3, 4] rfl)
          · replace h := h.2 (k_ne rfl (by decide) c115)
            refine lv_aload_n hx hb dX9_putCounters_65 rfl (lv_at hl 0 rfl) ?_
            have hT_b116 : qT S93 (qO S93 66 0) = 47 := hR.w.ref (hR.w.ptr ptrC_39) (hR.w.2.1 _ finC_31).2.1
            refine va_get (D := rD g) (ci := 8) (v := .ref (ad19 (qO S93 66 0))) (C := RX9) (T := TX9) (N := 6) hx hb hts inX9 hown hR.K hR.P 66 (hR.at48 (hR.w.2.1 _ finC_31).2.1) rfl 0 (by decide) (hts _ kw_1552) (fun _ h9 => h9) (congrArg (fun z => some (vf ad19 z)) (hR.w.ptr ptrC_39)) dX9_putCounters_66 ?_
            refine lv_sipush (v := 178) hx hb dX9_putCounters_69 (by decide) ?_
            refine lv_iload hx hb dX9_putCounters_72 (lv_at hl 3 rfl) ?_
            refine lv_i2l (v := (v19_4.toInt64)) hx hb dX9_putCounters_74 rfl ?_
            replace h := h (hT_b116)
            obtain ⟨Q117, h0, h⟩ := h
            have hFc := cfree hR hA
            refine va_callv (va_runV (As := [.int 178, .long (v19_4.toInt64)]) (rest := []) ⟨hx, hb, hml, hown, hts⟩ (rX8_add l g ad19 H.size S93 (qO S93 66 0) (178 : Int32) (v19_4.toInt64) hR.w hT_b116 Q117 h0) (cwV 2 hts (gd_V kw_1703 kw_1457 kw_1458 kw_782 kw_1456) rfl rfl rfl (by decide +kernel) ⟨Nat.le_of_ble_eq_true rfl, Nat.le_of_ble_eq_true rfl⟩) ⟨cblind, va_recv hR.K hR.P (ci := 7) (q0 := (qO S93 66 0)) rfl (hR.at47 hT_b116), fun U hU hW9 => cmk hU hW9 hR hex hE hFc⟩ rfl rfl hl.1 rfl (lv_room (Nat.le_of_ble_eq_true rfl)) dX9_putCounters_75 ⟨(show dc19 + 0 ≤ KCC - qn S from hlg.c), (show ds19 + 0 ≤ KSC - qu S from hlg.s)⟩) hR.sS (fun q _ h => hFc q h) hFc (fun  S118 t9 H1 locs ht9 hvm9 hw9 hB9 hz9 hk9 hS => ?_)
            obtain ⟨hq119, hw9, hs9⟩ := hw9
            have hR : RepC g ad19 A s S118 H1 locs := hR.call ht9 hB9 hw9 hS hFc
            have hsh := hsh.tr hs9.1
            have hlg : lgC S S118 (dc19) (ds19) := hlg.same hs9
            replace h := h  S118 hq119 hw9 hs9
            have hT_v19_1 := hs9.T hT_v19_1 (by decide)
            clear hB9 hz9 hk9 hvm9 ht9 hw9 hs9 hS
            generalize H1 = H at hR ⊢
            refine lv_aload_n hx hb dX9_putCounters_78 rfl (lv_at hl 0 rfl) ?_
            have hT_b120 : qT S118 (qO S118 66 0) = 47 := hR.w.ref (hR.w.ptr ptrC_39) (hR.w.2.1 _ finC_31).2.1
            refine va_get (D := rD g) (ci := 8) (v := .ref (ad19 (qO S118 66 0))) (C := RX9) (T := TX9) (N := 6) hx hb hts inX9 hown hR.K hR.P 66 (hR.at48 (hR.w.2.1 _ finC_31).2.1) rfl 0 (by decide) (hts _ kw_1552) (fun _ h9 => h9) (congrArg (fun z => some (vf ad19 z)) (hR.w.ptr ptrC_39)) dX9_putCounters_79 ?_
            refine lv_bipush (v := 20) hx hb dX9_putCounters_82 (by decide) ?_
            refine lv_lconst (v := 1) hx hb dX9_putCounters_84 (by decide) ?_
            replace h := h (hT_b120)
            obtain ⟨Q121, h0, h⟩ := h
            have hFc := cfree hR hA
            refine va_callv (va_runV (As := [.int 20, .long 1]) (rest := []) ⟨hx, hb, hml, hown, hts⟩ (rX8_add l g ad19 H.size S118 (qO S118 66 0) (20 : Int32) 1 hR.w hT_b120 Q121 h0) (cwV 2 hts (gd_V kw_1703 kw_1457 kw_1458 kw_782 kw_1456) rfl rfl rfl (by decide +kernel) ⟨Nat.le_of_ble_eq_true rfl, Nat.le_of_ble_eq_true rfl⟩) ⟨cblind, va_recv hR.K hR.P (ci := 7) (q0 := (qO S118 66 0)) rfl (hR.at47 hT_b120), fun U hU hW9 => cmk hU hW9 hR hex hE hFc⟩ rfl rfl hl.1 rfl (lv_room (Nat.le_of_ble_eq_true rfl)) dX9_putCounters_85 ⟨(show dc19 + 0 ≤ KCC - qn S from hlg.c), (show ds19 + 0 ≤ KSC - qu S from hlg.s)⟩) hR.sS (fun q _ h => hFc q h) hFc (fun  S122 t9 H1 locs ht9 hvm9 hw9 hB9 hz9 hk9 hS => ?_)
            obtain ⟨hq123, hw9, hs9⟩ := hw9
            have hR : RepC g ad19 A s S122 H1 locs := hR.call ht9 hB9 hw9 hS hFc
            have hsh := hsh.tr hs9.1
            have hlg : lgC S S122 (dc19) (ds19) := hlg.same hs9
            replace h := h  S122 hq123 hw9 hs9
            have hT_v19_1 := hs9.T hT_v19_1 (by decide)
            clear hB9 hz9 hk9 hvm9 ht9 hw9 hs9 hS
            generalize H1 = H at hR ⊢
            refine lv_aload_n hx hb dX9_putCounters_88 rfl (lv_at hl 0 rfl) ?_
            have hT_b124 : qT S122 (qO S122 66 0) = 47 := hR.w.ref (hR.w.ptr ptrC_39) (hR.w.2.1 _ finC_31).2.1
            refine va_get (D := rD g) (ci := 8) (v := .ref (ad19 (qO S122 66 0))) (C := RX9) (T := TX9) (N := 6) hx hb hts inX9 hown hR.K hR.P 66 (hR.at48 (hR.w.2.1 _ finC_31).2.1) rfl 0 (by decide) (hts _ kw_1552) (fun _ h9 => h9) (congrArg (fun z => some (vf ad19 z)) (hR.w.ptr ptrC_39)) dX9_putCounters_89 ?_
            refine lv_bipush (v := 97) hx hb dX9_putCounters_92 (by decide) ?_
            refine lv_lconst (v := 0) hx hb dX9_putCounters_94 (by decide) ?_
            replace h := h (hT_b124)
            obtain ⟨Q125, h0, h⟩ := h
            have hFc := cfree hR hA
            refine va_callv (va_runV (As := [.int 97, .long 0]) (rest := []) ⟨hx, hb, hml, hown, hts⟩ (rX8_add l g ad19 H.size S122 (qO S122 66 0) (97 : Int32) 0 hR.w hT_b124 Q125 h0) (cwV 2 hts (gd_V kw_1703 kw_1457 kw_1458 kw_782 kw_1456) rfl rfl rfl (by decide +kernel) ⟨Nat.le_of_ble_eq_true rfl, Nat.le_of_ble_eq_true rfl⟩) ⟨cblind, va_recv hR.K hR.P (ci := 7) (q0 := (qO S122 66 0)) rfl (hR.at47 hT_b124), fun U hU hW9 => cmk hU hW9 hR hex hE hFc⟩ rfl rfl hl.1 rfl (lv_room (Nat.le_of_ble_eq_true rfl)) dX9_putCounters_95 ⟨(show dc19 + 0 ≤ KCC - qn S from hlg.c), (show ds19 + 0 ≤ KSC - qu S from hlg.s)⟩) hR.sS (fun q _ h => hFc q h) hFc (fun  S126 t9 H1 locs ht9 hvm9 hw9 hB9 hz9 hk9 hS => ?_)
            obtain ⟨hq127, hw9, hs9⟩ := hw9
            have hR : RepC g ad19 A s S126 H1 locs := hR.call ht9 hB9 hw9 hS hFc
            have hsh := hsh.tr hs9.1
            have hlg : lgC S S126 (dc19) (ds19) := hlg.same hs9
            replace h := h  S126 hq127 hw9 hs9
            have hT_v19_1 := hs9.T hT_v19_1 (by decide)
            clear hB9 hz9 hk9 hvm9 ht9 hw9 hs9 hS
            generalize H1 = H at hR ⊢
            refine lv_aload_n hx hb dX9_putCounters_98 rfl (lv_at hl 0 rfl) ?_
            have hT_b128 : qT S126 (qO S126 66 0) = 47 := hR.w.ref (hR.w.ptr ptrC_39) (hR.w.2.1 _ finC_31).2.1
            refine va_get (D := rD g) (ci := 8) (v := .ref (ad19 (qO S126 66 0))) (C := RX9) (T := TX9) (N := 6) hx hb hts inX9 hown hR.K hR.P 66 (hR.at48 (hR.w.2.1 _ finC_31).2.1) rfl 0 (by decide) (hts _ kw_1552) (fun _ h9 => h9) (congrArg (fun z => some (vf ad19 z)) (hR.w.ptr ptrC_39)) dX9_putCounters_99 ?_
            refine lv_sipush (v := 179) hx hb dX9_putCounters_102 (by decide) ?_
            refine lv_iload hx hb dX9_putCounters_105 (lv_at hl 3 rfl) ?_
            refine lv_i2l (v := (v19_4.toInt64)) hx hb dX9_putCounters_107 rfl ?_
            replace h := h (hT_b128)
            obtain ⟨Q129, h0, h⟩ := h
            have hFc := cfree hR hA
            refine va_callv (va_runV (As := [.int 179, .long (v19_4.toInt64)]) (rest := []) ⟨hx, hb, hml, hown, hts⟩ (rX8_add l g ad19 H.size S126 (qO S126 66 0) (179 : Int32) (v19_4.toInt64) hR.w hT_b128 Q129 h0) (cwV 2 hts (gd_V kw_1703 kw_1457 kw_1458 kw_782 kw_1456) rfl rfl rfl (by decide +kernel) ⟨Nat.le_of_ble_eq_true rfl, Nat.le_of_ble_eq_true rfl⟩) ⟨cblind, va_recv hR.K hR.P (ci := 7) (q0 := (qO S126 66 0)) rfl (hR.at47 hT_b128), fun U hU hW9 => cmk hU hW9 hR hex hE hFc⟩ rfl rfl hl.1 rfl (lv_room (Nat.le_of_ble_eq_true rfl)) dX9_putCounters_108 ⟨(show dc19 + 0 ≤ KCC - qn S from hlg.c), (show ds19 + 0 ≤ KSC - qu S from hlg.s)⟩) hR.sS (fun q _ h => hFc q h) hFc (fun  S130 t9 H1 locs ht9 hvm9 hw9 hB9 hz9 hk9 hS => ?_)
            obtain ⟨hq131, hw9, hs9⟩ := hw9
            have hR : RepC g ad19 A s S130 H1 locs := hR.call ht9 hB9 hw9 hS hFc
            have hsh := hsh.tr hs9.1
            have hlg : lgC S S130 (dc19) (ds19) := hlg.same hs9
            replace h := h  S130 hq131 hw9 hs9
            have hT_v19_1 := hs9.T hT_v19_1 (by decide)
            clear hB9 hz9 hk9 hvm9 ht9 hw9 hs9 hS
            generalize H1 = H at hR ⊢
            obtain ⟨a132, ea132⟩ : ∃ z, z = (v19_4 + Int32.ofInt 1) := ⟨_, rfl⟩
            replace h := h a132 ea132
            refine lv_iinc (v := a132) (lv' := [(4, .int a132), (0, .ref (ad19 66)), (1, .ref (ad19 v19_1)), (2, .ref (ad19 52)), (5, .int v19_5)]) hx hb dX9_putCounters_111 hl (k := 3) rfl ea132.symm (by decide) rfl (fun ls hl => ?_)
            exact J_114 ad19 (dc19) (ds19) S130 v19_1 a132 v19_5 _ _ ls h hT_v19_1 hsh hlg hak hE hR (lv_sub hl [1, 2, 3, 0, 4] rfl)
  obtain ⟨n9, h⟩ := h
  exact J_19 n9 ak4 (0 + dc_ak4) (0 + ds_ak4) S6 p1 x3 0 _ _ ls h hT_p1 hsh hlg hak hE hR (lv_sub hl [2, 3, 4, 1, 0] rfl)
def wX9_isDropped (S : MS) (x1 : Int32) (x2 : Int32) (Q : Int32 → MS → Prop) : Prop := (qT S (qO S 66 0) = 47 → (∃ Q2, wX8_remove S (qO S 66 0) x1 x2 Q2 ∧ ∀ S3, Q2 S3 → wfC S3 → shy S S3 → Q (1 : Int32) S3))
set_option maxHeartbeats 2000000 in
set_option maxRecDepth 100000 in
theorem rX9_isDropped (l : Launch) (g : Gr) (ad : Nat → Nat) (sz : Nat) (S : MS) (x1 : Int32) (x2 : Int32) (hw : wfC S) (Q : Int32 → MS → Prop) (h : wX9_isDropped S x1 x2 Q) : Met l yX9_isDropped (wt yX9_isDropped cX9_isDropped 3 (some .boolean)) ({ frames := 3, cells := 0, slots := 0, locals := 74 }) (va_Pc [.ref (ad 66), .int x1, .int x2] (st_C g ad sz S)) (va_Qi (fun (r : Int32) (u : MS) => Q r u ∧ wfC u ∧ shy S u ∧ (r = 0 ∨ r = 1)) (fun (u : MS) (t : State) => qEC g ad (va_A (WdC g ad S) sz) u t) (va_A (WdC g ad S) sz)) 0 0 (va_A (WdC g ad S) sz) := by
  refine Met.ofW (cc := cX9_isDropped) (maxL := 3) (ret := (some .boolean)) (by decide) rfl ?_
  intro p e s m args below meth c s₁ B hml hv
  obtain ⟨rfl, hsz, hP, hK, hD0, hex, hE⟩ := hv
  have hx := B.exec
  have hb := B.bytes
  have hr := B.returns
  have hts0 := atoms_spec (ws := wt yX9_isDropped cX9_isDropped 3 (some .boolean)) B.pre
  have hts : ∀ w ∈ tb, w.before _ s = true := fun w h => hts0 w (List.mem_cons_of_mem _ h)
  have hown : s.vm.findClass RX9 = some m.cls := findClass_of_methodNamed B.named
  subst hsz
  have hD := hD0.self (sz := s.heap.size)
  generalize hAe : va_A (WdC g ad S) s.heap.size = A at hD hE ⊢
  have hA : ∀ q : Nat, s.heap.size ≤ q → A q := fun q h => by rw [← hAe]; exact Or.inr h
  have hR : RepC g ad A s S s.heap [] := ⟨hK, hP, hD, va_S.rf, hw⟩
  clear hK hP hD hD0
  have hl := lv_entry ([.ref (ad 66), .int x1, .int x2]) (n := 3) (Nat.le_of_ble_eq_true rfl)
  rw [lg_entry_eq]
  generalize (lg_sl ([.ref (ad 66), .int x1, .int x2]) ++ List.replicate (3 - (lg_sl ([.ref (ad 66), .int x1, .int x2])).length) Slot.unset).toArray = ls at hl ⊢
  have hl : lv_has ls 3 [(0, .ref (ad 66)), (1, .int x1), (2, .int x2)] := hl
  have hsh : shy S S := shy.rf
  unfold wX9_isDropped at h
  refine lv_aload_n hx hb dX9_isDropped_0 rfl (lv_at hl 0 rfl) ?_
  have hT_b1 : qT S (qO S 66 0) = 47 := hR.w.ref (hR.w.ptr ptrC_39) (hR.w.2.1 _ finC_31).2.1
  refine va_get (D := rD g) (ci := 8) (v := .ref (ad (qO S 66 0))) (C := RX9) (T := TX9) (N := 6) hx hb hts inX9 hown hR.K hR.P 66 (hR.at48 (hR.w.2.1 _ finC_31).2.1) rfl 0 (by decide) (hts _ kw_1552) (fun _ h9 => h9) (congrArg (fun z => some (vf ad z)) (hR.w.ptr ptrC_39)) dX9_isDropped_1 ?_
  refine lv_iload_n hx hb dX9_isDropped_4 rfl (lv_at hl 1 rfl) ?_
  refine lv_iload_n hx hb dX9_isDropped_5 rfl (lv_at hl 2 rfl) ?_
  replace h := h (hT_b1)
  obtain ⟨Q2, h0, h⟩ := h
  have hFc := cfree hR hA
  refine va_callv (va_runV (As := [.int x1, .int x2]) (rest := []) ⟨hx, hb, hml, hown, hts⟩ (rX8_remove l g ad s.heap.size S (qO S 66 0) x1 x2 hR.w hT_b1 Q2 h0) (cwV 2 hts (gd_V kw_1555 kw_1516 kw_1517 kw_782 kw_1515) rfl rfl rfl (by decide +kernel) ⟨Nat.le_of_ble_eq_true rfl, Nat.le_of_ble_eq_true rfl⟩) ⟨cblind, va_recv hR.K hR.P (ci := 7) (q0 := (qO S 66 0)) rfl (hR.at47 hT_b1), fun U hU hW9 => cmk hU hW9 hR hex hE hFc⟩ rfl rfl hl.1 rfl (lv_room (Nat.le_of_ble_eq_true rfl)) dX9_isDropped_6 ⟨Nat.le_of_ble_eq_true rfl, Nat.le_of_ble_eq_true rfl⟩) hR.sS (fun q _ h => hFc q h) hFc (fun  S3 t9 H1 locs ht9 hvm9 hw9 hB9 hz9 hk9 hS => ?_)
  obtain ⟨hq4, hw9, hs9⟩ := hw9
  have hR : RepC g ad A s S3 H1 locs := hR.call ht9 hB9 hw9 hS hFc
  have hsh := hsh.tr hs9
  replace h := h  S3 hq4 hw9 hs9
  clear hB9 hz9 hk9 hvm9 ht9 hw9 hs9 hS
  generalize H1 = H at hR ⊢
  refine lv_iconst (v := 1) hx hb dX9_isDropped_9 (by decide) ?_
  exact W.zret (v := 1) hx hb hr (nz (Or.inr rfl)) (fun t9 ht9 hW9 => ⟨⟨_, S3, rfl, ⟨h, hR.w, hsh, (Or.inr rfl)⟩, ⟨by rw [ht9]; exact hR.P, hR.D⟩⟩, hR.sS.F ht9⟩) hR.sS.2.2 dX9_isDropped_10
def w_X9_reachFrom_J122 (Q : Int32 → MS → Prop) (k74 : MS → Int32 → Int32 → Int32 → Prop) (U122 : MS) (t122_0 : Int32) (t122_1 : Int32) (v122_1 : Int32) (v122_4 : Int32) : Prop := (wfC U122 → (t122_0 = 0 ∨ t122_0 = 1) → (∀ a25 : Int32, a25 = (t122_1 ||| t122_0) → (∀ a26 : Int32, a26 = (v122_4 + Int32.ofInt 1) → k74 U122 v122_1 a25 a26)))
def w_X9_reachFrom_J121 (Q : Int32 → MS → Prop) (k74 : MS → Int32 → Int32 → Int32 → Prop) (U121 : MS) (t121_0 : Int32) (v121_1 : Int32) (v121_4 : Int32) : Prop := (wfC U121 → w_X9_reachFrom_J122 Q k74 U121 0 t121_0 v121_1 v121_4)
def w_X9_reachFrom_L74 (Q : Int32 → MS → Prop) : Nat → MS → Int32 → Int32 → Int32 → Prop
  | 0, _, _, _, _ => False
  | n74 + 1, U74, v74_1, v74_2, v74_4 => (wfC U74 → (((qI U74 (qO U74 66 0) 9).toInt ≤ v74_4.toInt → ((v74_2 = 0 ∨ v74_2 = 1) ∧ Q v74_2 U74)) ∧ (¬ (qI U74 (qO U74 66 0) 9).toInt ≤ v74_4.toInt → (d_X8_catchHas U74 (qO U74 66 0) v74_4 v74_1 ∧ (∀ a23 : Int32, a23 = (fX8_catchHas U74 (qO U74 66 0) v74_4 v74_1) → ((a23.toInt = 0 → w_X9_reachFrom_J121 Q (w_X9_reachFrom_L74 Q n74) U74 v74_2 v74_1 v74_4) ∧ (¬ a23.toInt = 0 → ((qR U74 (qO U74 66 0) 7 = some (qO U74 (qO U74 66 0) 7)) ∧ (((0 : Int) ≤ v74_4.toInt ∧ v74_4.toInt < (qN U74 (qO U74 (qO U74 66 0) 7) : Int)) ∧ (∃ Q33, wX9_isNewlyReached U74 (qI U74 (qO U74 (qO U74 66 0) 7) v74_4.toInt.toNat) Q33 ∧ ∀ r34 S35, Q33 r34 S35 → wfC S35 → shy U74 S35 → ((r34.toInt = 0 → w_X9_reachFrom_J121 Q (w_X9_reachFrom_L74 Q n74) S35 v74_2 v74_1 v74_4) ∧ (¬ r34.toInt = 0 → w_X9_reachFrom_J122 Q (w_X9_reachFrom_L74 Q n74) S35 1 v74_2 v74_1 v74_4))))))))))))
def w_X9_reachFrom_L42 (Q : Int32 → MS → Prop) : Nat → MS → Int32 → Int32 → Int32 → Int32 → Prop
  | 0, _, _, _, _, _ => False
  | n42 + 1, U42, v42_1, v42_2, v42_3, v42_4 => (wfC U42 → ((v42_3.toInt ≤ v42_4.toInt → (∃ n, w_X9_reachFrom_L74 Q n U42 v42_1 v42_2 0)) ∧ (¬ v42_3.toInt ≤ v42_4.toInt → (d_X8_targetAt U42 (qO U42 66 0) v42_1 v42_4 ∧ (∀ a42 : Int32, a42 = (fX8_targetAt U42 (qO U42 66 0) v42_1 v42_4) → (∃ Q43, wX9_isNewlyReached U42 a42 Q43 ∧ ∀ r44 S45, Q43 r44 S45 → wfC S45 → shy U42 S45 → (∀ a48 : Int32, a48 = (v42_2 ||| r44) → (∀ a49 : Int32, a49 = (v42_4 + Int32.ofInt 1) → (w_X9_reachFrom_L42 Q n42) S45 v42_1 a48 v42_3 a49))))))))
def w_X9_reachFrom_J29 (Q : Int32 → MS → Prop) (U29 : MS) (t29_0 : Int32) (v29_1 : Int32) : Prop := (wfC U29 → (t29_0 = 0 ∨ t29_0 = 1) → (d_X8_targetCount U29 (qO U29 66 0) v29_1 ∧ (∀ a14 : Int32, a14 = (fX8_targetCount U29 (qO U29 66 0) v29_1) → (∃ n, w_X9_reachFrom_L42 Q n U29 v29_1 t29_0 a14 0))))
def w_X9_reachFrom_J28 (Q : Int32 → MS → Prop) (U28 : MS) (v28_1 : Int32) : Prop := (wfC U28 → w_X9_reachFrom_J29 Q U28 0 v28_1)
def wX9_reachFrom (S : MS) (x1 : Int32) (Q : Int32 → MS → Prop) : Prop := (d_X8_opAt S (qO S 66 0) x1 ∧ (∀ a5 : Int32, a5 = (fX8_opAt S (qO S 66 0) x1) → (d_X6_goesOn S a5 ∧ (∀ a9 : Int32, a9 = (fX6_goesOn S a5) → ((a9.toInt = 0 → w_X9_reachFrom_J28 Q S x1) ∧ (¬ a9.toInt = 0 → (∃ Q52, wX9_isNewlyReached S (x1 + (1 : Int32)) Q52 ∧ ∀ r53 S54, Q52 r53 S54 → wfC S54 → shy S S54 → ((r53.toInt = 0 → w_X9_reachFrom_J28 Q S54 x1) ∧ (¬ r53.toInt = 0 → w_X9_reachFrom_J29 Q S54 1 x1)))))))))
set_option maxHeartbeats 2000000 in
set_option maxRecDepth 100000 in
theorem rX9_reachFrom (l : Launch) (g : Gr) (ad : Nat → Nat) (sz : Nat) (S : MS) (x1 : Int32) (hw : wfC S) (Q : Int32 → MS → Prop) (h : wX9_reachFrom S x1 Q) : Met l yX9_reachFrom (wt yX9_reachFrom cX9_reachFrom 5 (some .boolean)) ({ frames := 2, cells := 0, slots := 0, locals := 43 }) (va_Pc [.ref (ad 66), .int x1] (st_C g ad sz S)) (va_Qi (fun (r : Int32) (u : MS) => Q r u ∧ wfC u ∧ shy S u ∧ (r = 0 ∨ r = 1)) (fun (u : MS) (t : State) => qEC g ad (va_A (WdC g ad S) sz) u t) (va_A (WdC g ad S) sz)) 0 0 (va_A (WdC g ad S) sz) := by
  refine Met.ofW (cc := cX9_reachFrom) (maxL := 5) (ret := (some .boolean)) (by decide) rfl ?_
  intro p e s m args below meth c s₁ B hml hv
  obtain ⟨rfl, hsz, hP, hK, hD0, hex, hE⟩ := hv
  have hx := B.exec
  have hb := B.bytes
  have hr := B.returns
  have hts0 := atoms_spec (ws := wt yX9_reachFrom cX9_reachFrom 5 (some .boolean)) B.pre
  have hts : ∀ w ∈ tb, w.before _ s = true := fun w h => hts0 w (List.mem_cons_of_mem _ h)
  have hown : s.vm.findClass RX9 = some m.cls := findClass_of_methodNamed B.named
  subst hsz
  have hD := hD0.self (sz := s.heap.size)
  generalize hAe : va_A (WdC g ad S) s.heap.size = A at hD hE ⊢
  have hA : ∀ q : Nat, s.heap.size ≤ q → A q := fun q h => by rw [← hAe]; exact Or.inr h
  have hR : RepC g ad A s S s.heap [] := ⟨hK, hP, hD, va_S.rf, hw⟩
  clear hK hP hD hD0
  have hl := lv_entry ([.ref (ad 66), .int x1]) (n := 5) (Nat.le_of_ble_eq_true rfl)
  rw [lg_entry_eq]
  generalize (lg_sl ([.ref (ad 66), .int x1]) ++ List.replicate (5 - (lg_sl ([.ref (ad 66), .int x1])).length) Slot.unset).toArray = ls at hl ⊢
  have hl : lv_has ls 5 [(0, .ref (ad 66)), (1, .int x1)] := hl
  have hsh : shy S S := shy.rf
  unfold wX9_reachFrom at h
  refine lv_aload_n hx hb dX9_reachFrom_0 rfl (lv_at hl 0 rfl) ?_
  have hT_b1 : qT S (qO S 66 0) = 47 := hR.w.ref (hR.w.ptr ptrC_39) (hR.w.2.1 _ finC_31).2.1
  refine va_get (D := rD g) (ci := 8) (v := .ref (ad (qO S 66 0))) (C := RX9) (T := TX9) (N := 6) hx hb hts inX9 hown hR.K hR.P 66 (hR.at48 (hR.w.2.1 _ finC_31).2.1) rfl 0 (by decide) (hts _ kw_1552) (fun _ h9 => h9) (congrArg (fun z => some (vf ad z)) (hR.w.ptr ptrC_39)) dX9_reachFrom_1 ?_
  refine lv_iload_n hx hb dX9_reachFrom_4 rfl (lv_at hl 1 rfl) ?_
  obtain ⟨hv2, h⟩ := h
  have hFc := cfree hR hA
  refine va_calli (va_runV (As := [.int x1]) (rest := []) ⟨hx, hb, hml, hown, hts⟩ (rX8_opAt l g ad s.heap.size S (qO S 66 0) x1 hR.w hT_b1 hv2) (cwV 1 hts (gd_V kw_1596 kw_1513 kw_1514 kw_782 kw_1512) rfl rfl rfl (by decide +kernel) ⟨Nat.le_of_ble_eq_true rfl, Nat.le_of_ble_eq_true rfl⟩) ⟨cblind, va_recv hR.K hR.P (ci := 7) (q0 := (qO S 66 0)) rfl (hR.at47 hT_b1), fun U hU hW9 => cmk hU hW9 hR hex hE hFc⟩ rfl rfl hl.1 rfl (lv_room (Nat.le_of_ble_eq_true rfl)) dX9_reachFrom_5 ⟨Nat.le_of_ble_eq_true rfl, Nat.le_of_ble_eq_true rfl⟩) hR.sS (fun q _ h => hFc q h) hFc (fun r3 u9 t9 H1 locs ht9 hvm9 hw9 hB9 hz9 hk9 hS => ?_)
  have hR : RepC g ad A s S H1 locs := hR.call ht9 hB9 hR.w hS hFc
  obtain rfl : r3 = (fX8_opAt S (qO S 66 0) x1) := hw9
  clear hB9 hz9 hk9 hvm9 ht9 hS
  generalize H1 = H at hR ⊢
  obtain ⟨a5, ea5⟩ : ∃ z, z = (fX8_opAt S (qO S 66 0) x1) := ⟨_, rfl⟩
  rw [← ea5]
  replace h := h a5 ea5
  obtain ⟨hv6, h⟩ := h
  have hFc := cfree hR hA
  refine va_calli (va_runS (As := [.int a5]) (rest := []) ⟨hx, hb, hml, hown, hts⟩ (rX6_goesOn l g ad H.size S a5 hR.w  hv6) (va_cwS 1 hts (gd_S kw_1672 kw_1219 kw_1207 kw_1218) rfl rfl rfl (by decide +kernel) ⟨Nat.le_of_ble_eq_true rfl, Nat.le_of_ble_eq_true rfl⟩) ⟨cblind, fun U hU hW9 => cmk hU hW9 hR hex hE hFc⟩ rfl rfl hl.1 rfl (lv_room (Nat.le_of_ble_eq_true rfl)) dX9_reachFrom_8 ⟨Nat.le_of_ble_eq_true rfl, Nat.le_of_ble_eq_true rfl⟩) hR.sS (fun q _ h => hFc q h) hFc (fun r7 u9 t9 H1 locs ht9 hvm9 hw9 hB9 hz9 hk9 hS => ?_)
  have hR : RepC g ad A s S H1 locs := hR.call ht9 hB9 hR.w hS hFc
  obtain ⟨rfl, hz_r7⟩ := hw9
  clear hB9 hz9 hk9 hvm9 ht9 hS
  generalize H1 = H at hR ⊢
  obtain ⟨a9, ea9⟩ : ∃ z, z = (fX6_goesOn S a5) := ⟨_, rfl⟩
  rw [← ea9]
  replace h := h a9 ea9
  rw [← ea9] at hz_r7
  have J_29 : ∀ (U29 : MS) (t29_0 : Int32) (v29_1 : Int32) (H : Heap) (locs : List Loc) (ls : Array Slot), w_X9_reachFrom_J29 Q U29 t29_0 v29_1 → (t29_0 = 0 ∨ t29_0 = 1) → shy S U29 → RepC g ad A s U29 H locs → lv_has ls 5 [(0, .ref (ad 66)), (1, .int v29_1)] → W p l e (headSpec (wt yX9_reachFrom cX9_reachFrom 5 (some .boolean)) ({ frames := 2, cells := 0, slots := 0, locals := 43 })).room s m ([.ref (ad 66), .int x1] : List Value).toArray below meth c H locs 0 0 (MQ below (va_Qi (fun (r : Int32) (u : MS) => Q r u ∧ wfC u ∧ shy S u ∧ (r = 0 ∨ r = 1)) (fun (u : MS) (t : State) => qEC g ad A u t) A) ([.ref (ad 66), .int x1] : List Value).toArray s 0 0 A) (F0 m 29 ls [.int t29_0]) := by
    intro U29 t29_0 v29_1 H locs ls h hz_t29_0 hsh hR hl
    unfold w_X9_reachFrom_J29 at h
    replace h := h hR.w hz_t29_0
    refine lv_istore_n (lv' := [(2, .int t29_0), (0, .ref (ad 66)), (1, .int v29_1)]) hx hb dX9_reachFrom_29 rfl hl (by decide) rfl (fun ls hl => ?_)
    refine lv_aload_n hx hb dX9_reachFrom_30 rfl (lv_at hl 1 rfl) ?_
    have hT_b10 : qT U29 (qO U29 66 0) = 47 := hR.w.ref (hR.w.ptr ptrC_39) (hR.w.2.1 _ finC_31).2.1
    refine va_get (D := rD g) (ci := 8) (v := .ref (ad (qO U29 66 0))) (C := RX9) (T := TX9) (N := 6) hx hb hts inX9 hown hR.K hR.P 66 (hR.at48 (hR.w.2.1 _ finC_31).2.1) rfl 0 (by decide) (hts _ kw_1552) (fun _ h9 => h9) (congrArg (fun z => some (vf ad z)) (hR.w.ptr ptrC_39)) dX9_reachFrom_31 ?_
    refine lv_iload_n hx hb dX9_reachFrom_34 rfl (lv_at hl 2 rfl) ?_
    obtain ⟨hv11, h⟩ := h
    have hFc := cfree hR hA
    refine va_calli (va_runV (As := [.int v29_1]) (rest := []) ⟨hx, hb, hml, hown, hts⟩ (rX8_targetCount l g ad H.size U29 (qO U29 66 0) v29_1 hR.w hT_b10 hv11) (cwV 1 hts (gd_V kw_1567 kw_1541 kw_1542 kw_782 kw_1540) rfl rfl rfl (by decide +kernel) ⟨Nat.le_of_ble_eq_true rfl, Nat.le_of_ble_eq_true rfl⟩) ⟨cblind, va_recv hR.K hR.P (ci := 7) (q0 := (qO U29 66 0)) rfl (hR.at47 hT_b10), fun U hU hW9 => cmk hU hW9 hR hex hE hFc⟩ rfl rfl hl.1 rfl (lv_room (Nat.le_of_ble_eq_true rfl)) dX9_reachFrom_35 ⟨Nat.le_of_ble_eq_true rfl, Nat.le_of_ble_eq_true rfl⟩) hR.sS (fun q _ h => hFc q h) hFc (fun r12 u9 t9 H1 locs ht9 hvm9 hw9 hB9 hz9 hk9 hS => ?_)
    have hR : RepC g ad A s U29 H1 locs := hR.call ht9 hB9 hR.w hS hFc
    obtain rfl : r12 = (fX8_targetCount U29 (qO U29 66 0) v29_1) := hw9
    clear hB9 hz9 hk9 hvm9 ht9 hS
    generalize H1 = H at hR ⊢
    obtain ⟨a14, ea14⟩ : ∃ z, z = (fX8_targetCount U29 (qO U29 66 0) v29_1) := ⟨_, rfl⟩
    rw [← ea14]
    replace h := h a14 ea14
    refine lv_istore_n (lv' := [(3, .int a14), (2, .int t29_0), (0, .ref (ad 66)), (1, .int v29_1)]) hx hb dX9_reachFrom_38 rfl hl (by decide) rfl (fun ls hl => ?_)
    refine lv_iconst (v := 0) hx hb dX9_reachFrom_39 (by decide) ?_
    refine lv_istore (lv' := [(4, .int 0), (3, .int a14), (2, .int t29_0), (0, .ref (ad 66)), (1, .int v29_1)]) hx hb dX9_reachFrom_40 hl (by decide) rfl (fun ls hl => ?_)
    have J_42 : ∀ (n42 : Nat) (U42 : MS) (v42_1 : Int32) (v42_2 : Int32) (v42_3 : Int32) (v42_4 : Int32) (H : Heap) (locs : List Loc) (ls : Array Slot), w_X9_reachFrom_L42 Q n42 U42 v42_1 v42_2 v42_3 v42_4 → shy S U42 → RepC g ad A s U42 H locs → lv_has ls 5 [(0, .ref (ad 66)), (1, .int v42_1), (2, .int v42_2), (3, .int v42_3), (4, .int v42_4)] → W p l e (headSpec (wt yX9_reachFrom cX9_reachFrom 5 (some .boolean)) ({ frames := 2, cells := 0, slots := 0, locals := 43 })).room s m ([.ref (ad 66), .int x1] : List Value).toArray below meth c H locs 0 0 (MQ below (va_Qi (fun (r : Int32) (u : MS) => Q r u ∧ wfC u ∧ shy S u ∧ (r = 0 ∨ r = 1)) (fun (u : MS) (t : State) => qEC g ad A u t) A) ([.ref (ad 66), .int x1] : List Value).toArray s 0 0 A) (F0 m 42 ls []) := by
      intro n42
      induction n42 with
      | zero => intro U42 v42_1 v42_2 v42_3 v42_4 H locs ls h hsh hR hl; unfold w_X9_reachFrom_L42 at h; exact h.elim
      | succ n42 ih_42 =>
        intro U42 v42_1 v42_2 v42_3 v42_4 H locs ls h hsh hR hl
        unfold w_X9_reachFrom_L42 at h
        replace h := h hR.w
        refine lv_iload hx hb dX9_reachFrom_42 (lv_at hl 4 rfl) ?_
        refine lv_iload_n hx hb dX9_reachFrom_44 rfl (lv_at hl 3 rfl) ?_
        refine lv_icmp_ge (tgt := 71) hx hb dX9_reachFrom_45 (by decide) (fun c15 => ?_) (fun c15 => ?_)
        · replace h := h.1 (k_le rfl rfl c15)
          refine lv_iconst (v := 0) hx hb dX9_reachFrom_71 (by decide) ?_
          refine lv_istore (lv' := [(4, .int 0), (0, .ref (ad 66)), (1, .int v42_1), (2, .int v42_2), (3, .int v42_3)]) hx hb dX9_reachFrom_72 hl (by decide) rfl (fun ls hl => ?_)
          have J_74 : ∀ (n74 : Nat) (U74 : MS) (v74_1 : Int32) (v74_2 : Int32) (v74_4 : Int32) (H : Heap) (locs : List Loc) (ls : Array Slot), w_X9_reachFrom_L74 Q n74 U74 v74_1 v74_2 v74_4 → shy S U74 → RepC g ad A s U74 H locs → lv_has ls 5 [(0, .ref (ad 66)), (1, .int v74_1), (2, .int v74_2), (4, .int v74_4)] → W p l e (headSpec (wt yX9_reachFrom cX9_reachFrom 5 (some .boolean)) ({ frames := 2, cells := 0, slots := 0, locals := 43 })).room s m ([.ref (ad 66), .int x1] : List Value).toArray below meth c H locs 0 0 (MQ below (va_Qi (fun (r : Int32) (u : MS) => Q r u ∧ wfC u ∧ shy S u ∧ (r = 0 ∨ r = 1)) (fun (u : MS) (t : State) => qEC g ad A u t) A) ([.ref (ad 66), .int x1] : List Value).toArray s 0 0 A) (F0 m 74 ls []) := by
            intro n74
            induction n74 with
            | zero => intro U74 v74_1 v74_2 v74_4 H locs ls h hsh hR hl; unfold w_X9_reachFrom_L74 at h; exact h.elim
            | succ n74 ih_74 =>
              intro U74 v74_1 v74_2 v74_4 H locs ls h hsh hR hl
              unfold w_X9_reachFrom_L74 at h
              replace h := h hR.w
              refine lv_iload hx hb dX9_reachFrom_74 (lv_at hl 3 rfl) ?_
              refine lv_aload_n hx hb dX9_reachFrom_76 rfl (lv_at hl 0 rfl) ?_
              have hT_b16 : qT U74 (qO U74 66 0) = 47 := hR.w.ref (hR.w.ptr ptrC_39) (hR.w.2.1 _ finC_31).2.1
              refine va_get (D := rD g) (ci := 8) (v := .ref (ad (qO U74 66 0))) (C := RX9) (T := TX9) (N := 6) hx hb hts inX9 hown hR.K hR.P 66 (hR.at48 (hR.w.2.1 _ finC_31).2.1) rfl 0 (by decide) (hts _ kw_1552) (fun _ h9 => h9) (congrArg (fun z => some (vf ad z)) (hR.w.ptr ptrC_39)) dX9_reachFrom_77 ?_
              refine va_get (D := rD g) (ci := 7) (v := .int (qI U74 (qO U74 66 0) 9)) (C := RX8) (T := TX8) (N := 15) hx hb hts inX8 hown hR.K hR.P (qO U74 66 0) (hR.at47 hT_b16) rfl 9 (by decide) (hts _ kw_1570) (fun _ h9 => h9) rfl dX9_reachFrom_80 ?_
              refine lv_icmp_ge (tgt := 130) hx hb dX9_reachFrom_83 (by decide) (fun c17 => ?_) (fun c17 => ?_)
              · replace h := h.1 (k_le rfl rfl c17)
                refine lv_iload_n hx hb dX9_reachFrom_130 rfl (lv_at hl 2 rfl) ?_
                obtain ⟨hv18, h⟩ := h
                exact W.zret (v := v74_2) hx hb hr (nz hv18) (fun t9 ht9 hW9 => ⟨⟨_, U74, rfl, ⟨h, hR.w, hsh, hv18⟩, ⟨by rw [ht9]; exact hR.P, hR.D⟩⟩, hR.sS.F ht9⟩) hR.sS.2.2 dX9_reachFrom_131
              · replace h := h.2 (k_nle rfl rfl c17)
                refine lv_iload_n hx hb dX9_reachFrom_86 rfl (lv_at hl 2 rfl) ?_
                refine lv_aload_n hx hb dX9_reachFrom_87 rfl (lv_at hl 0 rfl) ?_
                have hT_b19 : qT U74 (qO U74 66 0) = 47 := hR.w.ref (hR.w.ptr ptrC_39) (hR.w.2.1 _ finC_31).2.1
                refine va_get (D := rD g) (ci := 8) (v := .ref (ad (qO U74 66 0))) (C := RX9) (T := TX9) (N := 6) hx hb hts inX9 hown hR.K hR.P 66 (hR.at48 (hR.w.2.1 _ finC_31).2.1) rfl 0 (by decide) (hts _ kw_1552) (fun _ h9 => h9) (congrArg (fun z => some (vf ad z)) (hR.w.ptr ptrC_39)) dX9_reachFrom_88 ?_
                refine lv_iload hx hb dX9_reachFrom_91 (lv_at hl 3 rfl) ?_
                refine lv_iload_n hx hb dX9_reachFrom_93 rfl (lv_at hl 1 rfl) ?_
                obtain ⟨hv20, h⟩ := h
                have hFc := cfree hR hA
                refine va_calli (va_runV (As := [.int v74_4, .int v74_1]) (rest := [.int v74_2]) ⟨hx, hb, hml, hown, hts⟩ (rX8_catchHas l g ad H.size U74 (qO U74 66 0) v74_4 v74_1 hR.w hT_b19 hv20) (cwV 2 hts (gd_V kw_1667 kw_1483 kw_1484 kw_782 kw_1482) rfl rfl rfl (by decide +kernel) ⟨Nat.le_of_ble_eq_true rfl, Nat.le_of_ble_eq_true rfl⟩) ⟨cblind, va_recv hR.K hR.P (ci := 7) (q0 := (qO U74 66 0)) rfl (hR.at47 hT_b19), fun U hU hW9 => cmk hU hW9 hR hex hE hFc⟩ rfl rfl hl.1 rfl (lv_room (Nat.le_of_ble_eq_true rfl)) dX9_reachFrom_94 ⟨Nat.le_of_ble_eq_true rfl, Nat.le_of_ble_eq_true rfl⟩) hR.sS (fun q _ h => hFc q h) hFc (fun r21 u9 t9 H1 locs ht9 hvm9 hw9 hB9 hz9 hk9 hS => ?_)
                have hR : RepC g ad A s U74 H1 locs := hR.call ht9 hB9 hR.w hS hFc
                obtain ⟨rfl, hz_r21⟩ := hw9
                clear hB9 hz9 hk9 hvm9 ht9 hS
                generalize H1 = H at hR ⊢
                obtain ⟨a23, ea23⟩ : ∃ z, z = (fX8_catchHas U74 (qO U74 66 0) v74_4 v74_1) := ⟨_, rfl⟩
                rw [← ea23]
                replace h := h a23 ea23
                rw [← ea23] at hz_r21
                have J_122 : ∀ (U122 : MS) (t122_0 : Int32) (t122_1 : Int32) (v122_1 : Int32) (v122_4 : Int32) (H : Heap) (locs : List Loc) (ls : Array Slot), w_X9_reachFrom_J122 Q (w_X9_reachFrom_L74 Q n74) U122 t122_0 t122_1 v122_1 v122_4 → (t122_0 = 0 ∨ t122_0 = 1) → shy S U122 → RepC g ad A s U122 H locs → lv_has ls 5 [(0, .ref (ad 66)), (1, .int v122_1), (4, .int v122_4)] → W p l e (headSpec (wt yX9_reachFrom cX9_reachFrom 5 (some .boolean)) ({ frames := 2, cells := 0, slots := 0, locals := 43 })).room s m ([.ref (ad 66), .int x1] : List Value).toArray below meth c H locs 0 0 (MQ below (va_Qi (fun (r : Int32) (u : MS) => Q r u ∧ wfC u ∧ shy S u ∧ (r = 0 ∨ r = 1)) (fun (u : MS) (t : State) => qEC g ad A u t) A) ([.ref (ad 66), .int x1] : List Value).toArray s 0 0 A) (F0 m 122 ls [.int t122_0, .int t122_1]) := by
                  intro U122 t122_0 t122_1 v122_1 v122_4 H locs ls h hz_t122_0 hsh hR hl
                  unfold w_X9_reachFrom_J122 at h
                  replace h := h hR.w hz_t122_0
                  refine lv_ior hx hb dX9_reachFrom_122 ?_
                  refine lv_topi (fun z24 ez24 => ?_)
                  obtain rfl : z24 = (t122_1 ||| t122_0) := ez24
                  obtain ⟨a25, ea25⟩ : ∃ z, z = (t122_1 ||| t122_0) := ⟨_, rfl⟩
                  rw [← ea25]
                  replace h := h a25 ea25
                  refine lv_istore_n (lv' := [(2, .int a25), (0, .ref (ad 66)), (1, .int v122_1), (4, .int v122_4)]) hx hb dX9_reachFrom_123 rfl hl (by decide) rfl (fun ls hl => ?_)
                  obtain ⟨a26, ea26⟩ : ∃ z, z = (v122_4 + Int32.ofInt 1) := ⟨_, rfl⟩
                  replace h := h a26 ea26
                  refine lv_iinc (v := a26) (lv' := [(4, .int a26), (2, .int a25), (0, .ref (ad 66)), (1, .int v122_1)]) hx hb dX9_reachFrom_124 hl (k := 3) rfl ea26.symm (by decide) rfl (fun ls hl => ?_)
                  refine lv_goto (tgt := 74) hx hb dX9_reachFrom_127 (by decide) ?_
                  exact ih_74 U122 v122_1 a25 a26 _ _ ls h  hsh hR (lv_sub hl [2, 3, 1, 0] rfl)
                have J_121 : ∀ (U121 : MS) (t121_0 : Int32) (v121_1 : Int32) (v121_4 : Int32) (H : Heap) (locs : List Loc) (ls : Array Slot), w_X9_reachFrom_J121 Q (w_X9_reachFrom_L74 Q n74) U121 t121_0 v121_1 v121_4 → shy S U121 → RepC g ad A s U121 H locs → lv_has ls 5 [(0, .ref (ad 66)), (1, .int v121_1), (4, .int v121_4)] → W p l e (headSpec (wt yX9_reachFrom cX9_reachFrom 5 (some .boolean)) ({ frames := 2, cells := 0, slots := 0, locals := 43 })).room s m ([.ref (ad 66), .int x1] : List Value).toArray below meth c H locs 0 0 (MQ below (va_Qi (fun (r : Int32) (u : MS) => Q r u ∧ wfC u ∧ shy S u ∧ (r = 0 ∨ r = 1)) (fun (u : MS) (t : State) => qEC g ad A u t) A) ([.ref (ad 66), .int x1] : List Value).toArray s 0 0 A) (F0 m 121 ls [.int t121_0]) := by
                  intro U121 t121_0 v121_1 v121_4 H locs ls h hsh hR hl
                  unfold w_X9_reachFrom_J121 at h
                  replace h := h hR.w
                  refine lv_iconst (v := 0) hx hb dX9_reachFrom_121 (by decide) ?_
                  exact J_122 U121 0 t121_0 v121_1 v121_4 _ _ ls h (Or.inl rfl) hsh hR (lv_sub hl [0, 1, 2] rfl)
                refine lv_if_eq (tgt := 121) hx hb dX9_reachFrom_97 (by decide) (fun c27 => ?_) (fun c27 => ?_)
                · replace h := h.1 (k_eq rfl (by decide) c27)
                  exact J_121 U74 v74_2 v74_1 v74_4 _ _ ls h  hsh hR (lv_sub hl [0, 1, 3] rfl)
                · replace h := h.2 (k_ne rfl (by decide) c27)
                  refine lv_aload_n hx hb dX9_reachFrom_100 rfl (lv_at hl 0 rfl) ?_
                  refine lv_aload_n hx hb dX9_reachFrom_101 rfl (lv_at hl 0 rfl) ?_
                  have hT_b28 : qT U74 (qO U74 66 0) = 47 := hR.w.ref (hR.w.ptr ptrC_39) (hR.w.2.1 _ finC_31).2.1
                  refine va_get (D := rD g) (ci := 8) (v := .ref (ad (qO U74 66 0))) (C := RX9) (T := TX9) (N := 6) hx hb hts inX9 hown hR.K hR.P 66 (hR.at48 (hR.w.2.1 _ finC_31).2.1) rfl 0 (by decide) (hts _ kw_1552) (fun _ h9 => h9) (congrArg (fun z => some (vf ad z)) (hR.w.ptr ptrC_39)) dX9_reachFrom_102 ?_
                  obtain ⟨hv30, h⟩ := h
                  have hT_b29 : qT U74 (qO U74 (qO U74 66 0) 7) = 226 := hR.w.ref hv30 hT_b28
                  refine va_get (D := rD g) (ci := 7) (v := .ref (ad (qO U74 (qO U74 66 0) 7))) (C := RX8) (T := TX8) (N := 15) hx hb hts inX8 hown hR.K hR.P (qO U74 66 0) (hR.at47 hT_b28) rfl 7 (by decide) (hts _ kw_1573) (fun _ h9 => h9) (congrArg (fun z => some (vf ad z)) hv30) dX9_reachFrom_105 ?_
                  refine lv_iload hx hb dX9_reachFrom_108 (lv_at hl 3 rfl) ?_
                  obtain ⟨hv31, h⟩ := h
                  refine va_iald hx hb hR.K hR.P (qO U74 (qO U74 66 0) 7) 1 (hR.atI hT_b29 (by decide)) rfl (k_ix (x := v74_4) (a := v74_4.toInt) rfl hv31) dX9_reachFrom_110 ?_
                  refine lv_topi (fun z32 ez32 => ?_)
                  obtain rfl : z32 = (qI U74 (qO U74 (qO U74 66 0) 7) v74_4.toInt.toNat) := ez32
                  obtain ⟨Q33, h0, h⟩ := h
                  have hFc := cfree hR hA
                  refine va_calli (va_runV (As := [.int (qI U74 (qO U74 (qO U74 66 0) 7) v74_4.toInt.toNat)]) (rest := [.int v74_2]) ⟨hx, hb, hml, hown, hts⟩ (rX9_isNewlyReached l g ad H.size U74 (qI U74 (qO U74 (qO U74 66 0) 7) v74_4.toInt.toNat) hR.w  Q33 h0) (cwV 1 hts (gd_V kw_1717 kw_1638 kw_1639 kw_404 kw_1637) rfl rfl rfl (by decide +kernel) ⟨Nat.le_of_ble_eq_true rfl, Nat.le_of_ble_eq_true rfl⟩) ⟨cblind, va_recv hR.K hR.P (ci := 8) (q0 := 66) rfl (hR.at48 (hR.w.2.1 _ finC_31).2.1), fun U hU hW9 => cmk hU hW9 hR hex hE hFc⟩ rfl rfl hl.1 rfl (lv_room (Nat.le_of_ble_eq_true rfl)) dX9_reachFrom_111 ⟨Nat.le_of_ble_eq_true rfl, Nat.le_of_ble_eq_true rfl⟩) hR.sS (fun q _ h => hFc q h) hFc (fun r34 S35 t9 H1 locs ht9 hvm9 hw9 hB9 hz9 hk9 hS => ?_)
                  obtain ⟨hq36, hw9, hs9, hz_r34⟩ := hw9
                  have hR : RepC g ad A s S35 H1 locs := hR.call ht9 hB9 hw9 hS hFc
                  have hsh := hsh.tr hs9
                  replace h := h r34 S35 hq36 hw9 hs9
                  clear hB9 hz9 hk9 hvm9 ht9 hw9 hs9 hS
                  generalize H1 = H at hR ⊢
                  refine lv_if_eq (tgt := 121) hx hb dX9_reachFrom_114 (by decide) (fun c37 => ?_) (fun c37 => ?_)
                  · replace h := h.1 (k_eq rfl (by decide) c37)
                    exact J_121 S35 v74_2 v74_1 v74_4 _ _ ls h  hsh hR (lv_sub hl [0, 1, 3] rfl)
                  · replace h := h.2 (k_ne rfl (by decide) c37)
                    refine lv_iconst (v := 1) hx hb dX9_reachFrom_117 (by decide) ?_
                    refine lv_goto (tgt := 122) hx hb dX9_reachFrom_118 (by decide) ?_
                    exact J_122 S35 1 v74_2 v74_1 v74_4 _ _ ls h (Or.inr rfl) hsh hR (lv_sub hl [0, 1, 3] rfl)
          obtain ⟨n9, h⟩ := h
          exact J_74 n9 U42 v42_1 v42_2 0 _ _ ls h  hsh hR (lv_sub hl [1, 2, 3, 0] rfl)
        · replace h := h.2 (k_nle rfl rfl c15)
          refine lv_iload_n hx hb dX9_reachFrom_48 rfl (lv_at hl 2 rfl) ?_
          refine lv_aload_n hx hb dX9_reachFrom_49 rfl (lv_at hl 0 rfl) ?_
          refine lv_aload_n hx hb dX9_reachFrom_50 rfl (lv_at hl 0 rfl) ?_
          have hT_b38 : qT U42 (qO U42 66 0) = 47 := hR.w.ref (hR.w.ptr ptrC_39) (hR.w.2.1 _ finC_31).2.1
          refine va_get (D := rD g) (ci := 8) (v := .ref (ad (qO U42 66 0))) (C := RX9) (T := TX9) (N := 6) hx hb hts inX9 hown hR.K hR.P 66 (hR.at48 (hR.w.2.1 _ finC_31).2.1) rfl 0 (by decide) (hts _ kw_1552) (fun _ h9 => h9) (congrArg (fun z => some (vf ad z)) (hR.w.ptr ptrC_39)) dX9_reachFrom_51 ?_
          refine lv_iload_n hx hb dX9_reachFrom_54 rfl (lv_at hl 1 rfl) ?_
          refine lv_iload hx hb dX9_reachFrom_55 (lv_at hl 4 rfl) ?_
          obtain ⟨hv39, h⟩ := h
          have hFc := cfree hR hA
          refine va_calli (va_runV (As := [.int v42_1, .int v42_4]) (rest := [.ref (ad 66), .int v42_2]) ⟨hx, hb, hml, hown, hts⟩ (rX8_targetAt l g ad H.size U42 (qO U42 66 0) v42_1 v42_4 hR.w hT_b38 hv39) (cwV 2 hts (gd_V kw_1568 kw_1537 kw_1538 kw_782 kw_1536) rfl rfl rfl (by decide +kernel) ⟨Nat.le_of_ble_eq_true rfl, Nat.le_of_ble_eq_true rfl⟩) ⟨cblind, va_recv hR.K hR.P (ci := 7) (q0 := (qO U42 66 0)) rfl (hR.at47 hT_b38), fun U hU hW9 => cmk hU hW9 hR hex hE hFc⟩ rfl rfl hl.1 rfl (lv_room (Nat.le_of_ble_eq_true rfl)) dX9_reachFrom_57 ⟨Nat.le_of_ble_eq_true rfl, Nat.le_of_ble_eq_true rfl⟩) hR.sS (fun q _ h => hFc q h) hFc (fun r40 u9 t9 H1 locs ht9 hvm9 hw9 hB9 hz9 hk9 hS => ?_)
          have hR : RepC g ad A s U42 H1 locs := hR.call ht9 hB9 hR.w hS hFc
          obtain rfl : r40 = (fX8_targetAt U42 (qO U42 66 0) v42_1 v42_4) := hw9
          clear hB9 hz9 hk9 hvm9 ht9 hS
          generalize H1 = H at hR ⊢
          obtain ⟨a42, ea42⟩ : ∃ z, z = (fX8_targetAt U42 (qO U42 66 0) v42_1 v42_4) := ⟨_, rfl⟩
          rw [← ea42]
          replace h := h a42 ea42
          obtain ⟨Q43, h0, h⟩ := h
          have hFc := cfree hR hA
          refine va_calli (va_runV (As := [.int a42]) (rest := [.int v42_2]) ⟨hx, hb, hml, hown, hts⟩ (rX9_isNewlyReached l g ad H.size U42 a42 hR.w  Q43 h0) (cwV 1 hts (gd_V kw_1717 kw_1638 kw_1639 kw_404 kw_1637) rfl rfl rfl (by decide +kernel) ⟨Nat.le_of_ble_eq_true rfl, Nat.le_of_ble_eq_true rfl⟩) ⟨cblind, va_recv hR.K hR.P (ci := 8) (q0 := 66) rfl (hR.at48 (hR.w.2.1 _ finC_31).2.1), fun U hU hW9 => cmk hU hW9 hR hex hE hFc⟩ rfl rfl hl.1 rfl (lv_room (Nat.le_of_ble_eq_true rfl)) dX9_reachFrom_60 ⟨Nat.le_of_ble_eq_true rfl, Nat.le_of_ble_eq_true rfl⟩) hR.sS (fun q _ h => hFc q h) hFc (fun r44 S45 t9 H1 locs ht9 hvm9 hw9 hB9 hz9 hk9 hS => ?_)
          obtain ⟨hq46, hw9, hs9, hz_r44⟩ := hw9
          have hR : RepC g ad A s S45 H1 locs := hR.call ht9 hB9 hw9 hS hFc
          have hsh := hsh.tr hs9
          replace h := h r44 S45 hq46 hw9 hs9
          clear hB9 hz9 hk9 hvm9 ht9 hw9 hs9 hS
          generalize H1 = H at hR ⊢
          refine lv_ior hx hb dX9_reachFrom_63 ?_
          refine lv_topi (fun z47 ez47 => ?_)
          obtain rfl : z47 = (v42_2 ||| r44) := ez47
          obtain ⟨a48, ea48⟩ : ∃ z, z = (v42_2 ||| r44) := ⟨_, rfl⟩
          rw [← ea48]
          replace h := h a48 ea48
          refine lv_istore_n (lv' := [(2, .int a48), (0, .ref (ad 66)), (1, .int v42_1), (3, .int v42_3), (4, .int v42_4)]) hx hb dX9_reachFrom_64 rfl hl (by decide) rfl (fun ls hl => ?_)
          obtain ⟨a49, ea49⟩ : ∃ z, z = (v42_4 + Int32.ofInt 1) := ⟨_, rfl⟩
          replace h := h a49 ea49
          refine lv_iinc (v := a49) (lv' := [(4, .int a49), (2, .int a48), (0, .ref (ad 66)), (1, .int v42_1), (3, .int v42_3)]) hx hb dX9_reachFrom_65 hl (k := 4) rfl ea49.symm (by decide) rfl (fun ls hl => ?_)
          refine lv_goto (tgt := 42) hx hb dX9_reachFrom_68 (by decide) ?_
          exact ih_42 S45 v42_1 a48 v42_3 a49 _ _ ls h  hsh hR (lv_sub hl [2, 3, 1, 4, 0] rfl)
    obtain ⟨n9, h⟩ := h
    exact J_42 n9 U29 v29_1 t29_0 a14 0 _ _ ls h  hsh hR (lv_sub hl [3, 4, 2, 1, 0] rfl)
  have J_28 : ∀ (U28 : MS) (v28_1 : Int32) (H : Heap) (locs : List Loc) (ls : Array Slot), w_X9_reachFrom_J28 Q U28 v28_1 → shy S U28 → RepC g ad A s U28 H locs → lv_has ls 5 [(0, .ref (ad 66)), (1, .int v28_1)] → W p l e (headSpec (wt yX9_reachFrom cX9_reachFrom 5 (some .boolean)) ({ frames := 2, cells := 0, slots := 0, locals := 43 })).room s m ([.ref (ad 66), .int x1] : List Value).toArray below meth c H locs 0 0 (MQ below (va_Qi (fun (r : Int32) (u : MS) => Q r u ∧ wfC u ∧ shy S u ∧ (r = 0 ∨ r = 1)) (fun (u : MS) (t : State) => qEC g ad A u t) A) ([.ref (ad 66), .int x1] : List Value).toArray s 0 0 A) (F0 m 28 ls []) := by
    intro U28 v28_1 H locs ls h hsh hR hl
    unfold w_X9_reachFrom_J28 at h
    replace h := h hR.w
    refine lv_iconst (v := 0) hx hb dX9_reachFrom_28 (by decide) ?_
    exact J_29 U28 0 v28_1 _ _ ls h (Or.inl rfl) hsh hR (lv_sub hl [0, 1] rfl)
  refine lv_if_eq (tgt := 28) hx hb dX9_reachFrom_11 (by decide) (fun c50 => ?_) (fun c50 => ?_)
  · replace h := h.1 (k_eq rfl (by decide) c50)
    exact J_28 S x1 _ _ ls h  hsh hR (lv_sub hl [0, 1] rfl)
  · replace h := h.2 (k_ne rfl (by decide) c50)
    refine lv_aload_n hx hb dX9_reachFrom_14 rfl (lv_at hl 0 rfl) ?_
    refine lv_iload_n hx hb dX9_reachFrom_15 rfl (lv_at hl 1 rfl) ?_
    refine lv_iconst (v := 1) hx hb dX9_reachFrom_16 (by decide) ?_
    refine lv_iadd hx hb dX9_reachFrom_17 ?_
    refine lv_topi (fun z51 ez51 => ?_)
    obtain rfl : z51 = (x1 + (1 : Int32)) := ez51
    obtain ⟨Q52, h0, h⟩ := h
    have hFc := cfree hR hA
    refine va_calli (va_runV (As := [.int (x1 + (1 : Int32))]) (rest := []) ⟨hx, hb, hml, hown, hts⟩ (rX9_isNewlyReached l g ad H.size S (x1 + (1 : Int32)) hR.w  Q52 h0) (cwV 1 hts (gd_V kw_1717 kw_1638 kw_1639 kw_404 kw_1637) rfl rfl rfl (by decide +kernel) ⟨Nat.le_of_ble_eq_true rfl, Nat.le_of_ble_eq_true rfl⟩) ⟨cblind, va_recv hR.K hR.P (ci := 8) (q0 := 66) rfl (hR.at48 (hR.w.2.1 _ finC_31).2.1), fun U hU hW9 => cmk hU hW9 hR hex hE hFc⟩ rfl rfl hl.1 rfl (lv_room (Nat.le_of_ble_eq_true rfl)) dX9_reachFrom_18 ⟨Nat.le_of_ble_eq_true rfl, Nat.le_of_ble_eq_true rfl⟩) hR.sS (fun q _ h => hFc q h) hFc (fun r53 S54 t9 H1 locs ht9 hvm9 hw9 hB9 hz9 hk9 hS => ?_)
    obtain ⟨hq55, hw9, hs9, hz_r53⟩ := hw9
    have hR : RepC g ad A s S54 H1 locs := hR.call ht9 hB9 hw9 hS hFc
    have hsh := hsh.tr hs9
    replace h := h r53 S54 hq55 hw9 hs9
    clear hB9 hz9 hk9 hvm9 ht9 hw9 hs9 hS
    generalize H1 = H at hR ⊢
    refine lv_if_eq (tgt := 28) hx hb dX9_reachFrom_21 (by decide) (fun c56 => ?_) (fun c56 => ?_)
    · replace h := h.1 (k_eq rfl (by decide) c56)
      exact J_28 S54 x1 _ _ ls h  hsh hR (lv_sub hl [0, 1] rfl)
    · replace h := h.2 (k_ne rfl (by decide) c56)
      refine lv_iconst (v := 1) hx hb dX9_reachFrom_24 (by decide) ?_
      refine lv_goto (tgt := 29) hx hb dX9_reachFrom_25 (by decide) ?_
      exact J_29 S54 1 x1 _ _ ls h (Or.inr rfl) hsh hR (lv_sub hl [0, 1] rfl)
