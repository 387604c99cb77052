def fX7_secondOf (S : MS) (x1 : Int32) : Int32 := (fX7_u2 S ((fX7_entryAt S x1) + (3 : Int32)))
def d_X7_secondOf (S : MS) (x1 : Int32) : Prop := (d_X7_entryAt S x1 ∧ (d_X7_u2 S ((fX7_entryAt S x1) + (3 : Int32)) ∧ True))
set_option maxHeartbeats 2000000 in
set_option maxRecDepth 100000 in
theorem rX7_secondOf (l : Launch) (g : Gr) (ad : Nat → Nat) (sz : Nat) (S : MS) (x1 : Int32) (hw : wfC S) (hd : d_X7_secondOf S x1) : Met l yX7_secondOf (wt yX7_secondOf cX7_secondOf 2 (some .int)) ({ frames := 1, cells := 0, slots := 0, locals := 21 }) (va_Pc [.ref (ad 9), .int x1] (st_C g ad sz S)) (va_Qi (fun (r : Int32) (_ : Unit) => r = fX7_secondOf S x1) (fun (_ : Unit) (t : State) => qEC g ad (va_A (WdC g ad S) sz) S t) (va_A (WdC g ad S) sz)) 0 0 (va_A (WdC g ad S) sz) := by
  refine Met.ofW (cc := cX7_secondOf) (maxL := 2) (ret := (some .int)) (by decide) rfl ?_
  intro p e s m args below meth c s₁ B hml hv
  obtain ⟨rfl, hsz, hP, hK, hD0, hex, hE⟩ := hv
  have hx := B.exec
  have hb := B.bytes
  have hr := B.returns
  have hts0 := atoms_spec (ws := wt yX7_secondOf cX7_secondOf 2 (some .int)) B.pre
  have hts : ∀ w ∈ tb, w.before _ s = true := fun w h => hts0 w (List.mem_cons_of_mem _ h)
  have hown : s.vm.findClass RX7 = some m.cls := findClass_of_methodNamed B.named
  subst hsz
  have hD := hD0.self (sz := s.heap.size)
  generalize hAe : va_A (WdC g ad S) s.heap.size = A at hD hE ⊢
  have hA : ∀ q : Nat, s.heap.size ≤ q → A q := fun q h => by rw [← hAe]; exact Or.inr h
  have hR : RepC g ad A s S s.heap [] := ⟨hK, hP, hD, va_S.rf, hw⟩
  clear hK hP hD hD0
  have hl := lv_entry ([.ref (ad 9), .int x1]) (n := 2) (Nat.le_of_ble_eq_true rfl)
  rw [lg_entry_eq]
  generalize (lg_sl ([.ref (ad 9), .int x1]) ++ List.replicate (2 - (lg_sl ([.ref (ad 9), .int x1])).length) Slot.unset).toArray = ls at hl ⊢
  have hl : lv_has ls 2 [(0, .ref (ad 9)), (1, .int x1)] := hl
  obtain ⟨r0, hf⟩ : ∃ r0, fX7_secondOf S x1 = r0 := ⟨_, rfl⟩
  have hf0 := hf
  unfold fX7_secondOf at hf
  unfold d_X7_secondOf at hd
  refine lv_aload_n hx hb dX7_secondOf_0 rfl (lv_at hl 0 rfl) ?_
  refine lv_aload_n hx hb dX7_secondOf_1 rfl (lv_at hl 0 rfl) ?_
  refine lv_iload_n hx hb dX7_secondOf_2 rfl (lv_at hl 1 rfl) ?_
  obtain ⟨hv1, hd⟩ := hd
  have hFc := cfree hR hA
  refine va_calli (va_runV (As := [.int x1]) (rest := [.ref (ad 9)]) ⟨hx, hb, hml, hown, hts⟩ (rX7_entryAt l g ad s.heap.size S x1 hR.w  hv1) (cwV 1 hts (gd_V kw_1296 kw_1298 kw_1299 kw_710 kw_1297) rfl rfl rfl (by decide +kernel) ⟨Nat.le_of_ble_eq_true rfl, Nat.le_of_ble_eq_true rfl⟩) ⟨cblind, va_recv hR.K hR.P (ci := 6) (q0 := 9) rfl (hR.at46 (hR.w.2.1 _ finC_2).2.1), fun U hU hW9 => cmk hU hW9 hR hex hE hFc⟩ rfl rfl hl.1 rfl (lv_room (Nat.le_of_ble_eq_true rfl)) dX7_secondOf_3 ⟨Nat.le_of_ble_eq_true rfl, Nat.le_of_ble_eq_true rfl⟩) hR.sS (fun q _ h => hFc q h) hFc (fun r2 u9 t9 H1 locs ht9 hvm9 hw9 hB9 hz9 hk9 hS => ?_)
  have hR : RepC g ad A s S H1 locs := hR.call ht9 hB9 hR.w hS hFc
  obtain rfl : r2 = (fX7_entryAt S x1) := hw9
  clear hB9 hz9 hk9 hvm9 ht9 hS
  generalize H1 = H at hR ⊢
  refine lv_iconst (v := 3) hx hb dX7_secondOf_6 (by decide) ?_
  refine lv_iadd hx hb dX7_secondOf_7 ?_
  refine lv_topi (fun z4 ez4 => ?_)
  obtain rfl : z4 = ((fX7_entryAt S x1) + (3 : Int32)) := ez4
  obtain ⟨hv5, hd⟩ := hd
  have hFc := cfree hR hA
  refine va_calli (va_runV (As := [.int ((fX7_entryAt S x1) + (3 : Int32))]) (rest := []) ⟨hx, hb, hml, hown, hts⟩ (rX7_u2 l g ad H.size S ((fX7_entryAt S x1) + (3 : Int32)) hR.w  hv5) (cwV 1 hts (gd_V kw_1266 kw_1450 kw_1451 kw_710 kw_1449) rfl rfl rfl (by decide +kernel) ⟨Nat.le_of_ble_eq_true rfl, Nat.le_of_ble_eq_true rfl⟩) ⟨cblind, va_recv hR.K hR.P (ci := 6) (q0 := 9) rfl (hR.at46 (hR.w.2.1 _ finC_2).2.1), fun U hU hW9 => cmk hU hW9 hR hex hE hFc⟩ rfl rfl hl.1 rfl (lv_room (Nat.le_of_ble_eq_true rfl)) dX7_secondOf_8 ⟨Nat.le_of_ble_eq_true rfl, Nat.le_of_ble_eq_true rfl⟩) hR.sS (fun q _ h => hFc q h) hFc (fun r6 u9 t9 H1 locs ht9 hvm9 hw9 hB9 hz9 hk9 hS => ?_)
  have hR : RepC g ad A s S H1 locs := hR.call ht9 hB9 hR.w hS hFc
  obtain rfl : r6 = (fX7_u2 S ((fX7_entryAt S x1) + (3 : Int32))) := hw9
  clear hB9 hz9 hk9 hvm9 ht9 hS
  generalize H1 = H at hR ⊢
  exact W.iret (v := (fX7_u2 S ((fX7_entryAt S x1) + (3 : Int32)))) hx hb hr (fun t9 ht9 hW9 => ⟨⟨_, (), rfl, hf.trans hf0.symm, ⟨by rw [ht9]; exact hR.P, hR.D⟩⟩, hR.sS.F ht9⟩) hR.sS.2.2 dX7_secondOf_11
def w_X7_entryPoints_J127 (Q : Int32 → MS → Prop) (U127 : MS) : Prop := (wfC U127 → Q (0 : Int32) U127)
def w_X7_entryPoints_J95 (Q : Int32 → MS → Prop) (U95 : MS) (v95_1 : Int32) : Prop := (wfC U95 → (d_X7_firstOf U95 v95_1 ∧ (∀ a8 : Int32, a8 = (fX7_firstOf U95 v95_1) → (d_X7_tagOf U95 a8 ∧ (∀ a12 : Int32, a12 = (fX7_tagOf U95 a8) → ((a12.toInt = 7 → (d_X7_secondOf U95 v95_1 ∧ (∀ a17 : Int32, a17 = (fX7_secondOf U95 v95_1) → (d_X7_tagOf U95 a17 ∧ (∀ a21 : Int32, a21 = (fX7_tagOf U95 a17) → ((a21.toInt = 12 → Q (1 : Int32) U95) ∧ (¬ a21.toInt = 12 → w_X7_entryPoints_J127 Q U95))))))) ∧ (¬ a12.toInt = 7 → w_X7_entryPoints_J127 Q U95)))))))
def w_X7_entryPoints_J93 (Q : Int32 → MS → Prop) (U93 : MS) : Prop := (wfC U93 → Q (0 : Int32) U93)
def wX7_entryPoints (S : MS) (x1 : Int32) (Q : Int32 → MS → Prop) : Prop := (d_X7_tagOf S x1 ∧ (∀ a4 : Int32, a4 = (fX7_tagOf S x1) → ((a4.toInt = 7 → (d_X7_firstOf S x1 ∧ (∀ a26 : Int32, a26 = (fX7_firstOf S x1) → (d_X7_tagOf S a26 ∧ (∀ a30 : Int32, a30 = (fX7_tagOf S a26) → ((a30.toInt = 1 → Q (1 : Int32) S) ∧ (¬ a30.toInt = 1 → Q (0 : Int32) S))))))) ∧ (¬ a4.toInt = 7 → ((a4.toInt = 8 → Q (1 : Int32) S) ∧ (¬ a4.toInt = 8 → ((a4.toInt = 9 → w_X7_entryPoints_J95 Q S x1) ∧ (¬ a4.toInt = 9 → ((a4.toInt = 10 → w_X7_entryPoints_J95 Q S x1) ∧ (¬ a4.toInt = 10 → ((a4.toInt = 11 → Q (1 : Int32) S) ∧ (¬ a4.toInt = 11 → ((a4.toInt = 12 → (d_X7_firstOf S x1 ∧ (∀ a35 : Int32, a35 = (fX7_firstOf S x1) → (d_X7_tagOf S a35 ∧ (∀ a39 : Int32, a39 = (fX7_tagOf S a35) → ((a39.toInt = 1 → (d_X7_secondOf S x1 ∧ (∀ a44 : Int32, a44 = (fX7_secondOf S x1) → (d_X7_tagOf S a44 ∧ (∀ a48 : Int32, a48 = (fX7_tagOf S a44) → ((a48.toInt = 1 → Q (1 : Int32) S) ∧ (¬ a48.toInt = 1 → w_X7_entryPoints_J93 Q S))))))) ∧ (¬ a39.toInt = 1 → w_X7_entryPoints_J93 Q S))))))) ∧ (¬ a4.toInt = 12 → Q (1 : Int32) S))))))))))))))
set_option maxHeartbeats 2000000 in
set_option maxRecDepth 100000 in
theorem rX7_entryPoints (l : Launch) (g : Gr) (ad : Nat → Nat) (sz : Nat) (S : MS) (x1 : Int32) (hw : wfC S) (Q : Int32 → MS → Prop) (h : wX7_entryPoints S x1 Q) : Met l yX7_entryPoints (wt yX7_entryPoints cX7_entryPoints 2 (some .boolean)) ({ frames := 2, cells := 0, slots := 0, locals := 42 }) (va_Pc [.ref (ad 9), .int x1] (st_C g ad sz S)) (va_Qi (fun (r : Int32) (u : MS) => Q r u ∧ wfC u ∧ shy S u ∧ (r = 0 ∨ r = 1)) (fun (u : MS) (t : State) => qEC g ad (va_A (WdC g ad S) sz) u t) (va_A (WdC g ad S) sz)) 0 0 (va_A (WdC g ad S) sz) := by
  refine Met.ofW (cc := cX7_entryPoints) (maxL := 2) (ret := (some .boolean)) (by decide) rfl ?_
  intro p e s m args below meth c s₁ B hml hv
  obtain ⟨rfl, hsz, hP, hK, hD0, hex, hE⟩ := hv
  have hx := B.exec
  have hb := B.bytes
  have hr := B.returns
  have hts0 := atoms_spec (ws := wt yX7_entryPoints cX7_entryPoints 2 (some .boolean)) B.pre
  have hts : ∀ w ∈ tb, w.before _ s = true := fun w h => hts0 w (List.mem_cons_of_mem _ h)
  have hown : s.vm.findClass RX7 = some m.cls := findClass_of_methodNamed B.named
  subst hsz
  have hD := hD0.self (sz := s.heap.size)
  generalize hAe : va_A (WdC g ad S) s.heap.size = A at hD hE ⊢
  have hA : ∀ q : Nat, s.heap.size ≤ q → A q := fun q h => by rw [← hAe]; exact Or.inr h
  have hR : RepC g ad A s S s.heap [] := ⟨hK, hP, hD, va_S.rf, hw⟩
  clear hK hP hD hD0
  have hl := lv_entry ([.ref (ad 9), .int x1]) (n := 2) (Nat.le_of_ble_eq_true rfl)
  rw [lg_entry_eq]
  generalize (lg_sl ([.ref (ad 9), .int x1]) ++ List.replicate (2 - (lg_sl ([.ref (ad 9), .int x1])).length) Slot.unset).toArray = ls at hl ⊢
  have hl : lv_has ls 2 [(0, .ref (ad 9)), (1, .int x1)] := hl
  have hsh : shy S S := shy.rf
  unfold wX7_entryPoints at h
  refine lv_aload_n hx hb dX7_entryPoints_0 rfl (lv_at hl 0 rfl) ?_
  refine lv_iload_n hx hb dX7_entryPoints_1 rfl (lv_at hl 1 rfl) ?_
  obtain ⟨hv1, h⟩ := h
  have hFc := cfree hR hA
  refine va_calli (va_runV (As := [.int x1]) (rest := []) ⟨hx, hb, hml, hown, hts⟩ (rX7_tagOf l g ad s.heap.size S x1 hR.w  hv1) (cwV 1 hts (gd_V kw_1313 kw_1435 kw_1436 kw_710 kw_1434) rfl rfl rfl (by decide +kernel) ⟨Nat.le_of_ble_eq_true rfl, Nat.le_of_ble_eq_true rfl⟩) ⟨cblind, va_recv hR.K hR.P (ci := 6) (q0 := 9) rfl (hR.at46 (hR.w.2.1 _ finC_2).2.1), fun U hU hW9 => cmk hU hW9 hR hex hE hFc⟩ rfl rfl hl.1 rfl (lv_room (Nat.le_of_ble_eq_true rfl)) dX7_entryPoints_2 ⟨Nat.le_of_ble_eq_true rfl, Nat.le_of_ble_eq_true rfl⟩) hR.sS (fun q _ h => hFc q h) hFc (fun r2 u9 t9 H1 locs ht9 hvm9 hw9 hB9 hz9 hk9 hS => ?_)
  have hR : RepC g ad A s S H1 locs := hR.call ht9 hB9 hR.w hS hFc
  obtain rfl : r2 = (fX7_tagOf S x1) := hw9
  clear hB9 hz9 hk9 hvm9 ht9 hS
  generalize H1 = H at hR ⊢
  obtain ⟨a4, ea4⟩ : ∃ z, z = (fX7_tagOf S x1) := ⟨_, rfl⟩
  rw [← ea4]
  replace h := h a4 ea4
  have J_95 : ∀ (U95 : MS) (v95_1 : Int32) (H : Heap) (locs : List Loc) (ls : Array Slot), w_X7_entryPoints_J95 Q U95 v95_1 → shy S U95 → RepC g ad A s U95 H locs → lv_has ls 2 [(0, .ref (ad 9)), (1, .int v95_1)] → W p l e (headSpec (wt yX7_entryPoints cX7_entryPoints 2 (some .boolean)) ({ frames := 2, cells := 0, slots := 0, locals := 42 })).room s m ([.ref (ad 9), .int x1] : List Value).toArray below meth c H locs 0 0 (MQ below (va_Qi (fun (r : Int32) (u : MS) => Q r u ∧ wfC u ∧ shy S u ∧ (r = 0 ∨ r = 1)) (fun (u : MS) (t : State) => qEC g ad A u t) A) ([.ref (ad 9), .int x1] : List Value).toArray s 0 0 A) (F0 m 95 ls []) := by
    intro U95 v95_1 H locs ls h hsh hR hl
    unfold w_X7_entryPoints_J95 at h
    replace h := h hR.w
    refine lv_aload_n hx hb dX7_entryPoints_95 rfl (lv_at hl 0 rfl) ?_
    refine lv_aload_n hx hb dX7_entryPoints_96 rfl (lv_at hl 0 rfl) ?_
    refine lv_iload_n hx hb dX7_entryPoints_97 rfl (lv_at hl 1 rfl) ?_
    obtain ⟨hv5, h⟩ := h
    have hFc := cfree hR hA
    refine va_calli (va_runV (As := [.int v95_1]) (rest := [.ref (ad 9)]) ⟨hx, hb, hml, hown, hts⟩ (rX7_firstOf l g ad H.size U95 v95_1 hR.w  hv5) (cwV 1 hts (gd_V kw_1314 kw_1326 kw_1327 kw_710 kw_1325) rfl rfl rfl (by decide +kernel) ⟨Nat.le_of_ble_eq_true rfl, Nat.le_of_ble_eq_true rfl⟩) ⟨cblind, va_recv hR.K hR.P (ci := 6) (q0 := 9) rfl (hR.at46 (hR.w.2.1 _ finC_2).2.1), fun U hU hW9 => cmk hU hW9 hR hex hE hFc⟩ rfl rfl hl.1 rfl (lv_room (Nat.le_of_ble_eq_true rfl)) dX7_entryPoints_98 ⟨Nat.le_of_ble_eq_true rfl, Nat.le_of_ble_eq_true rfl⟩) hR.sS (fun q _ h => hFc q h) hFc (fun r6 u9 t9 H1 locs ht9 hvm9 hw9 hB9 hz9 hk9 hS => ?_)
    have hR : RepC g ad A s U95 H1 locs := hR.call ht9 hB9 hR.w hS hFc
    obtain rfl : r6 = (fX7_firstOf U95 v95_1) := hw9
    clear hB9 hz9 hk9 hvm9 ht9 hS
    generalize H1 = H at hR ⊢
    obtain ⟨a8, ea8⟩ : ∃ z, z = (fX7_firstOf U95 v95_1) := ⟨_, rfl⟩
    rw [← ea8]
    replace h := h a8 ea8
    obtain ⟨hv9, h⟩ := h
    have hFc := cfree hR hA
    refine va_calli (va_runV (As := [.int a8]) (rest := []) ⟨hx, hb, hml, hown, hts⟩ (rX7_tagOf l g ad H.size U95 a8 hR.w  hv9) (cwV 1 hts (gd_V kw_1313 kw_1435 kw_1436 kw_710 kw_1434) rfl rfl rfl (by decide +kernel) ⟨Nat.le_of_ble_eq_true rfl, Nat.le_of_ble_eq_true rfl⟩) ⟨cblind, va_recv hR.K hR.P (ci := 6) (q0 := 9) rfl (hR.at46 (hR.w.2.1 _ finC_2).2.1), fun U hU hW9 => cmk hU hW9 hR hex hE hFc⟩ rfl rfl hl.1 rfl (lv_room (Nat.le_of_ble_eq_true rfl)) dX7_entryPoints_101 ⟨Nat.le_of_ble_eq_true rfl, Nat.le_of_ble_eq_true rfl⟩) hR.sS (fun q _ h => hFc q h) hFc (fun r10 u9 t9 H1 locs ht9 hvm9 hw9 hB9 hz9 hk9 hS => ?_)
    have hR : RepC g ad A s U95 H1 locs := hR.call ht9 hB9 hR.w hS hFc
    obtain rfl : r10 = (fX7_tagOf U95 a8) := hw9
    clear hB9 hz9 hk9 hvm9 ht9 hS
    generalize H1 = H at hR ⊢
    obtain ⟨a12, ea12⟩ : ∃ z, z = (fX7_tagOf U95 a8) := ⟨_, rfl⟩
    rw [← ea12]
    replace h := h a12 ea12
    refine lv_bipush (v := 7) hx hb dX7_entryPoints_104 (by decide) ?_
    have J_127 : ∀ (U127 : MS) (H : Heap) (locs : List Loc) (ls : Array Slot), w_X7_entryPoints_J127 Q U127 → shy S U127 → RepC g ad A s U127 H locs → lv_has ls 2 [] → W p l e (headSpec (wt yX7_entryPoints cX7_entryPoints 2 (some .boolean)) ({ frames := 2, cells := 0, slots := 0, locals := 42 })).room s m ([.ref (ad 9), .int x1] : List Value).toArray below meth c H locs 0 0 (MQ below (va_Qi (fun (r : Int32) (u : MS) => Q r u ∧ wfC u ∧ shy S u ∧ (r = 0 ∨ r = 1)) (fun (u : MS) (t : State) => qEC g ad A u t) A) ([.ref (ad 9), .int x1] : List Value).toArray s 0 0 A) (F0 m 127 ls []) := by
      intro U127 H locs ls h hsh hR hl
      unfold w_X7_entryPoints_J127 at h
      replace h := h hR.w
      refine lv_iconst (v := 0) hx hb dX7_entryPoints_127 (by decide) ?_
      exact W.zret (v := 0) hx hb hr (nz (Or.inl rfl)) (fun t9 ht9 hW9 => ⟨⟨_, U127, rfl, ⟨h, hR.w, hsh, (Or.inl rfl)⟩, ⟨by rw [ht9]; exact hR.P, hR.D⟩⟩, hR.sS.F ht9⟩) hR.sS.2.2 dX7_entryPoints_128
    refine lv_icmp_ne (tgt := 127) hx hb dX7_entryPoints_106 (by decide) (fun c13 => ?_) (fun c13 => ?_)
    · replace h := h.2 (k_ne rfl (by decide) c13)
      exact J_127 U95 _ _ ls h  hsh hR (lv_sub hl [] rfl)
    · replace h := h.1 (k_eq rfl (by decide) c13)
      refine lv_aload_n hx hb dX7_entryPoints_109 rfl (lv_at hl 0 rfl) ?_
      refine lv_aload_n hx hb dX7_entryPoints_110 rfl (lv_at hl 0 rfl) ?_
      refine lv_iload_n hx hb dX7_entryPoints_111 rfl (lv_at hl 1 rfl) ?_
      obtain ⟨hv14, h⟩ := h
      have hFc := cfree hR hA
      refine va_calli (va_runV (As := [.int v95_1]) (rest := [.ref (ad 9)]) ⟨hx, hb, hml, hown, hts⟩ (rX7_secondOf l g ad H.size U95 v95_1 hR.w  hv14) (cwV 1 hts (gd_V kw_1315 kw_1432 kw_1433 kw_710 kw_1431) rfl rfl rfl (by decide +kernel) ⟨Nat.le_of_ble_eq_true rfl, Nat.le_of_ble_eq_true rfl⟩) ⟨cblind, va_recv hR.K hR.P (ci := 6) (q0 := 9) rfl (hR.at46 (hR.w.2.1 _ finC_2).2.1), fun U hU hW9 => cmk hU hW9 hR hex hE hFc⟩ rfl rfl hl.1 rfl (lv_room (Nat.le_of_ble_eq_true rfl)) dX7_entryPoints_112 ⟨Nat.le_of_ble_eq_true rfl, Nat.le_of_ble_eq_true rfl⟩) hR.sS (fun q _ h => hFc q h) hFc (fun r15 u9 t9 H1 locs ht9 hvm9 hw9 hB9 hz9 hk9 hS => ?_)
      have hR : RepC g ad A s U95 H1 locs := hR.call ht9 hB9 hR.w hS hFc
      obtain rfl : r15 = (fX7_secondOf U95 v95_1) := hw9
      clear hB9 hz9 hk9 hvm9 ht9 hS
      generalize H1 = H at hR ⊢
      obtain ⟨a17, ea17⟩ : ∃ z, z = (fX7_secondOf U95 v95_1) := ⟨_, rfl⟩
      rw [← ea17]
      replace h := h a17 ea17
      obtain ⟨hv18, h⟩ := h
      have hFc := cfree hR hA
      refine va_calli (va_runV (As := [.int a17]) (rest := []) ⟨hx, hb, hml, hown, hts⟩ (rX7_tagOf l g ad H.size U95 a17 hR.w  hv18) (cwV 1 hts (gd_V kw_1313 kw_1435 kw_1436 kw_710 kw_1434) rfl rfl rfl (by decide +kernel) ⟨Nat.le_of_ble_eq_true rfl, Nat.le_of_ble_eq_true rfl⟩) ⟨cblind, va_recv hR.K hR.P (ci := 6) (q0 := 9) rfl (hR.at46 (hR.w.2.1 _ finC_2).2.1), fun U hU hW9 => cmk hU hW9 hR hex hE hFc⟩ rfl rfl hl.1 rfl (lv_room (Nat.le_of_ble_eq_true rfl)) dX7_entryPoints_115 ⟨Nat.le_of_ble_eq_true rfl, Nat.le_of_ble_eq_true rfl⟩) hR.sS (fun q _ h => hFc q h) hFc (fun r19 u9 t9 H1 locs ht9 hvm9 hw9 hB9 hz9 hk9 hS => ?_)
      have hR : RepC g ad A s U95 H1 locs := hR.call ht9 hB9 hR.w hS hFc
      obtain rfl : r19 = (fX7_tagOf U95 a17) := hw9
      clear hB9 hz9 hk9 hvm9 ht9 hS
      generalize H1 = H at hR ⊢
      obtain ⟨a21, ea21⟩ : ∃ z, z = (fX7_tagOf U95 a17) := ⟨_, rfl⟩
      rw [← ea21]
      replace h := h a21 ea21
      refine lv_bipush (v := 12) hx hb dX7_entryPoints_118 (by decide) ?_
      refine lv_icmp_ne (tgt := 127) hx hb dX7_entryPoints_120 (by decide) (fun c22 => ?_) (fun c22 => ?_)
      · replace h := h.2 (k_ne rfl (by decide) c22)
        exact J_127 U95 _ _ ls h  hsh hR (lv_sub hl [] rfl)
      · replace h := h.1 (k_eq rfl (by decide) c22)
        refine lv_iconst (v := 1) hx hb dX7_entryPoints_123 (by decide) ?_
        refine lv_goto (tgt := 128) hx hb dX7_entryPoints_124 (by decide) ?_
        exact W.zret (v := 1) hx hb hr (nz (Or.inr rfl)) (fun t9 ht9 hW9 => ⟨⟨_, U95, rfl, ⟨h, hR.w, hsh, (Or.inr rfl)⟩, ⟨by rw [ht9]; exact hR.P, hR.D⟩⟩, hR.sS.F ht9⟩) hR.sS.2.2 dX7_entryPoints_128
  by_cases c9_7 : a4.toInt = 7
  · refine lv_tableIn (off := 39) (tgt := 44) hx hb dX7_entryPoints_5 (by rw [c9_7]; decide) (by rw [c9_7]; decide) (by rw [c9_7]; rfl) (by decide) ?_
    replace h := h.1 (c9_7)
    refine lv_aload_n hx hb dX7_entryPoints_44 rfl (lv_at hl 0 rfl) ?_
    refine lv_aload_n hx hb dX7_entryPoints_45 rfl (lv_at hl 0 rfl) ?_
    refine lv_iload_n hx hb dX7_entryPoints_46 rfl (lv_at hl 1 rfl) ?_
    obtain ⟨hv23, h⟩ := h
    have hFc := cfree hR hA
    refine va_calli (va_runV (As := [.int x1]) (rest := [.ref (ad 9)]) ⟨hx, hb, hml, hown, hts⟩ (rX7_firstOf l g ad H.size S x1 hR.w  hv23) (cwV 1 hts (gd_V kw_1314 kw_1326 kw_1327 kw_710 kw_1325) rfl rfl rfl (by decide +kernel) ⟨Nat.le_of_ble_eq_true rfl, Nat.le_of_ble_eq_true rfl⟩) ⟨cblind, va_recv hR.K hR.P (ci := 6) (q0 := 9) rfl (hR.at46 (hR.w.2.1 _ finC_2).2.1), fun U hU hW9 => cmk hU hW9 hR hex hE hFc⟩ rfl rfl hl.1 rfl (lv_room (Nat.le_of_ble_eq_true rfl)) dX7_entryPoints_47 ⟨Nat.le_of_ble_eq_true rfl, Nat.le_of_ble_eq_true rfl⟩) hR.sS (fun q _ h => hFc q h) hFc (fun r24 u9 t9 H1 locs ht9 hvm9 hw9 hB9 hz9 hk9 hS => ?_)
    have hR : RepC g ad A s S H1 locs := hR.call ht9 hB9 hR.w hS hFc
    obtain rfl : r24 = (fX7_firstOf S x1) := hw9
    clear hB9 hz9 hk9 hvm9 ht9 hS
    generalize H1 = H at hR ⊢
    obtain ⟨a26, ea26⟩ : ∃ z, z = (fX7_firstOf S x1) := ⟨_, rfl⟩
    rw [← ea26]
    replace h := h a26 ea26
    obtain ⟨hv27, h⟩ := h
    have hFc := cfree hR hA
    refine va_calli (va_runV (As := [.int a26]) (rest := []) ⟨hx, hb, hml, hown, hts⟩ (rX7_tagOf l g ad H.size S a26 hR.w  hv27) (cwV 1 hts (gd_V kw_1313 kw_1435 kw_1436 kw_710 kw_1434) rfl rfl rfl (by decide +kernel) ⟨Nat.le_of_ble_eq_true rfl, Nat.le_of_ble_eq_true rfl⟩) ⟨cblind, va_recv hR.K hR.P (ci := 6) (q0 := 9) rfl (hR.at46 (hR.w.2.1 _ finC_2).2.1), fun U hU hW9 => cmk hU hW9 hR hex hE hFc⟩ rfl rfl hl.1 rfl (lv_room (Nat.le_of_ble_eq_true rfl)) dX7_entryPoints_50 ⟨Nat.le_of_ble_eq_true rfl, Nat.le_of_ble_eq_true rfl⟩) hR.sS (fun q _ h => hFc q h) hFc (fun r28 u9 t9 H1 locs ht9 hvm9 hw9 hB9 hz9 hk9 hS => ?_)
    have hR : RepC g ad A s S H1 locs := hR.call ht9 hB9 hR.w hS hFc
    obtain rfl : r28 = (fX7_tagOf S a26) := hw9
    clear hB9 hz9 hk9 hvm9 ht9 hS
    generalize H1 = H at hR ⊢
    obtain ⟨a30, ea30⟩ : ∃ z, z = (fX7_tagOf S a26) := ⟨_, rfl⟩
    rw [← ea30]
    replace h := h a30 ea30
    refine lv_iconst (v := 1) hx hb dX7_entryPoints_53 (by decide) ?_
    refine lv_icmp_ne (tgt := 61) hx hb dX7_entryPoints_54 (by decide) (fun c31 => ?_) (fun c31 => ?_)
    · replace h := h.2 (k_ne rfl (by decide) c31)
      refine lv_iconst (v := 0) hx hb dX7_entryPoints_61 (by decide) ?_
      exact W.zret (v := 0) hx hb hr (nz (Or.inl rfl)) (fun t9 ht9 hW9 => ⟨⟨_, S, rfl, ⟨h, hR.w, hsh, (Or.inl rfl)⟩, ⟨by rw [ht9]; exact hR.P, hR.D⟩⟩, hR.sS.F ht9⟩) hR.sS.2.2 dX7_entryPoints_62
    · replace h := h.1 (k_eq rfl (by decide) c31)
      refine lv_iconst (v := 1) hx hb dX7_entryPoints_57 (by decide) ?_
      refine lv_goto (tgt := 62) hx hb dX7_entryPoints_58 (by decide) ?_
      exact W.zret (v := 1) hx hb hr (nz (Or.inr rfl)) (fun t9 ht9 hW9 => ⟨⟨_, S, rfl, ⟨h, hR.w, hsh, (Or.inr rfl)⟩, ⟨by rw [ht9]; exact hR.P, hR.D⟩⟩, hR.sS.F ht9⟩) hR.sS.2.2 dX7_entryPoints_62
  replace h := h.2 c9_7
  by_cases c9_8 : a4.toInt = 8
  · refine lv_tableIn (off := 124) (tgt := 129) hx hb dX7_entryPoints_5 (by rw [c9_8]; decide) (by rw [c9_8]; decide) (by rw [c9_8]; rfl) (by decide) ?_
    replace h := h.1 (c9_8)
    refine lv_iconst (v := 1) hx hb dX7_entryPoints_129 (by decide) ?_
    exact W.zret (v := 1) hx hb hr (nz (Or.inr rfl)) (fun t9 ht9 hW9 => ⟨⟨_, S, rfl, ⟨h, hR.w, hsh, (Or.inr rfl)⟩, ⟨by rw [ht9]; exact hR.P, hR.D⟩⟩, hR.sS.F ht9⟩) hR.sS.2.2 dX7_entryPoints_130
  replace h := h.2 c9_8
  by_cases c9_9 : a4.toInt = 9
  · refine lv_tableIn (off := 90) (tgt := 95) hx hb dX7_entryPoints_5 (by rw [c9_9]; decide) (by rw [c9_9]; decide) (by rw [c9_9]; rfl) (by decide) ?_
    replace h := h.1 (c9_9)
    exact J_95 S x1 _ _ ls h  hsh hR (lv_sub hl [0, 1] rfl)
  replace h := h.2 c9_9
  by_cases c9_10 : a4.toInt = 10
  · refine lv_tableIn (off := 90) (tgt := 95) hx hb dX7_entryPoints_5 (by rw [c9_10]; decide) (by rw [c9_10]; decide) (by rw [c9_10]; rfl) (by decide) ?_
    replace h := h.1 (c9_10)
    exact J_95 S x1 _ _ ls h  hsh hR (lv_sub hl [0, 1] rfl)
  replace h := h.2 c9_10
  by_cases c9_11 : a4.toInt = 11
  · refine lv_tableIn (off := 124) (tgt := 129) hx hb dX7_entryPoints_5 (by rw [c9_11]; decide) (by rw [c9_11]; decide) (by rw [c9_11]; rfl) (by decide) ?_
    replace h := h.1 (c9_11)
    refine lv_iconst (v := 1) hx hb dX7_entryPoints_129 (by decide) ?_
    exact W.zret (v := 1) hx hb hr (nz (Or.inr rfl)) (fun t9 ht9 hW9 => ⟨⟨_, S, rfl, ⟨h, hR.w, hsh, (Or.inr rfl)⟩, ⟨by rw [ht9]; exact hR.P, hR.D⟩⟩, hR.sS.F ht9⟩) hR.sS.2.2 dX7_entryPoints_130
  replace h := h.2 c9_11
  by_cases c9_12 : a4.toInt = 12
  · refine lv_tableIn (off := 58) (tgt := 63) hx hb dX7_entryPoints_5 (by rw [c9_12]; decide) (by rw [c9_12]; decide) (by rw [c9_12]; rfl) (by decide) ?_
    replace h := h.1 (c9_12)
    refine lv_aload_n hx hb dX7_entryPoints_63 rfl (lv_at hl 0 rfl) ?_
    refine lv_aload_n hx hb dX7_entryPoints_64 rfl (lv_at hl 0 rfl) ?_
    refine lv_iload_n hx hb dX7_entryPoints_65 rfl (lv_at hl 1 rfl) ?_
    obtain ⟨hv32, h⟩ := h
    have hFc := cfree hR hA
    refine va_calli (va_runV (As := [.int x1]) (rest := [.ref (ad 9)]) ⟨hx, hb, hml, hown, hts⟩ (rX7_firstOf l g ad H.size S x1 hR.w  hv32) (cwV 1 hts (gd_V kw_1314 kw_1326 kw_1327 kw_710 kw_1325) rfl rfl rfl (by decide +kernel) ⟨Nat.le_of_ble_eq_true rfl, Nat.le_of_ble_eq_true rfl⟩) ⟨cblind, va_recv hR.K hR.P (ci := 6) (q0 := 9) rfl (hR.at46 (hR.w.2.1 _ finC_2).2.1), fun U hU hW9 => cmk hU hW9 hR hex hE hFc⟩ rfl rfl hl.1 rfl (lv_room (Nat.le_of_ble_eq_true rfl)) dX7_entryPoints_66 ⟨Nat.le_of_ble_eq_true rfl, Nat.le_of_ble_eq_true rfl⟩) hR.sS (fun q _ h => hFc q h) hFc (fun r33 u9 t9 H1 locs ht9 hvm9 hw9 hB9 hz9 hk9 hS => ?_)
    have hR : RepC g ad A s S H1 locs := hR.call ht9 hB9 hR.w hS hFc
    obtain rfl : r33 = (fX7_firstOf S x1) := hw9
    clear hB9 hz9 hk9 hvm9 ht9 hS
    generalize H1 = H at hR ⊢
    obtain ⟨a35, ea35⟩ : ∃ z, z = (fX7_firstOf S x1) := ⟨_, rfl⟩
    rw [← ea35]
    replace h := h a35 ea35
    obtain ⟨hv36, h⟩ := h
    have hFc := cfree hR hA
    refine va_calli (va_runV (As := [.int a35]) (rest := []) ⟨hx, hb, hml, hown, hts⟩ (rX7_tagOf l g ad H.size S a35 hR.w  hv36) (cwV 1 hts (gd_V kw_1313 kw_1435 kw_1436 kw_710 kw_1434) rfl rfl rfl (by decide +kernel) ⟨Nat.le_of_ble_eq_true rfl, Nat.le_of_ble_eq_true rfl⟩) ⟨cblind, va_recv hR.K hR.P (ci := 6) (q0 := 9) rfl (hR.at46 (hR.w.2.1 _ finC_2).2.1), fun U hU hW9 => cmk hU hW9 hR hex hE hFc⟩ rfl rfl hl.1 rfl (lv_room (Nat.le_of_ble_eq_true rfl)) dX7_entryPoints_69 ⟨Nat.le_of_ble_eq_true rfl, Nat.le_of_ble_eq_true rfl⟩) hR.sS (fun q _ h => hFc q h) hFc (fun r37 u9 t9 H1 locs ht9 hvm9 hw9 hB9 hz9 hk9 hS => ?_)
    have hR : RepC g ad A s S H1 locs := hR.call ht9 hB9 hR.w hS hFc
    obtain rfl : r37 = (fX7_tagOf S a35) := hw9
    clear hB9 hz9 hk9 hvm9 ht9 hS
    generalize H1 = H at hR ⊢
    obtain ⟨a39, ea39⟩ : ∃ z, z = (fX7_tagOf S a35) := ⟨_, rfl⟩
    rw [← ea39]
    replace h := h a39 ea39
    refine lv_iconst (v := 1) hx hb dX7_entryPoints_72 (by decide) ?_
    have J_93 : ∀ (U93 : MS) (H : Heap) (locs : List Loc) (ls : Array Slot), w_X7_entryPoints_J93 Q U93 → shy S U93 → RepC g ad A s U93 H locs → lv_has ls 2 [] → W p l e (headSpec (wt yX7_entryPoints cX7_entryPoints 2 (some .boolean)) ({ frames := 2, cells := 0, slots := 0, locals := 42 })).room s m ([.ref (ad 9), .int x1] : List Value).toArray below meth c H locs 0 0 (MQ below (va_Qi (fun (r : Int32) (u : MS) => Q r u ∧ wfC u ∧ shy S u ∧ (r = 0 ∨ r = 1)) (fun (u : MS) (t : State) => qEC g ad A u t) A) ([.ref (ad 9), .int x1] : List Value).toArray s 0 0 A) (F0 m 93 ls []) := by
      intro U93 H locs ls h hsh hR hl
      unfold w_X7_entryPoints_J93 at h
      replace h := h hR.w
      refine lv_iconst (v := 0) hx hb dX7_entryPoints_93 (by decide) ?_
      exact W.zret (v := 0) hx hb hr (nz (Or.inl rfl)) (fun t9 ht9 hW9 => ⟨⟨_, U93, rfl, ⟨h, hR.w, hsh, (Or.inl rfl)⟩, ⟨by rw [ht9]; exact hR.P, hR.D⟩⟩, hR.sS.F ht9⟩) hR.sS.2.2 dX7_entryPoints_94
    refine lv_icmp_ne (tgt := 93) hx hb dX7_entryPoints_73 (by decide) (fun c40 => ?_) (fun c40 => ?_)
    · replace h := h.2 (k_ne rfl (by decide) c40)
      exact J_93 S _ _ ls h  hsh hR (lv_sub hl [] rfl)
    · replace h := h.1 (k_eq rfl (by decide) c40)
      refine lv_aload_n hx hb dX7_entryPoints_76 rfl (lv_at hl 0 rfl) ?_
      refine lv_aload_n hx hb dX7_entryPoints_77 rfl (lv_at hl 0 rfl) ?_
      refine lv_iload_n hx hb dX7_entryPoints_78 rfl (lv_at hl 1 rfl) ?_
      obtain ⟨hv41, h⟩ := h
      have hFc := cfree hR hA
      refine va_calli (va_runV (As := [.int x1]) (rest := [.ref (ad 9)]) ⟨hx, hb, hml, hown, hts⟩ (rX7_secondOf l g ad H.size S x1 hR.w  hv41) (cwV 1 hts (gd_V kw_1315 kw_1432 kw_1433 kw_710 kw_1431) rfl rfl rfl (by decide +kernel) ⟨Nat.le_of_ble_eq_true rfl, Nat.le_of_ble_eq_true rfl⟩) ⟨cblind, va_recv hR.K hR.P (ci := 6) (q0 := 9) rfl (hR.at46 (hR.w.2.1 _ finC_2).2.1), fun U hU hW9 => cmk hU hW9 hR hex hE hFc⟩ rfl rfl hl.1 rfl (lv_room (Nat.le_of_ble_eq_true rfl)) dX7_entryPoints_79 ⟨Nat.le_of_ble_eq_true rfl, Nat.le_of_ble_eq_true rfl⟩) hR.sS (fun q _ h => hFc q h) hFc (fun r42 u9 t9 H1 locs ht9 hvm9 hw9 hB9 hz9 hk9 hS => ?_)
      have hR : RepC g ad A s S H1 locs := hR.call ht9 hB9 hR.w hS hFc
      obtain rfl : r42 = (fX7_secondOf S x1) := hw9
      clear hB9 hz9 hk9 hvm9 ht9 hS
      generalize H1 = H at hR ⊢
      obtain ⟨a44, ea44⟩ : ∃ z, z = (fX7_secondOf S x1) := ⟨_, rfl⟩
      rw [← ea44]
      replace h := h a44 ea44
      obtain ⟨hv45, h⟩ := h
      have hFc := cfree hR hA
      refine va_calli (va_runV (As := [.int a44]) (rest := []) ⟨hx, hb, hml, hown, hts⟩ (rX7_tagOf l g ad H.size S a44 hR.w  hv45) (cwV 1 hts (gd_V kw_1313 kw_1435 kw_1436 kw_710 kw_1434) rfl rfl rfl (by decide +kernel) ⟨Nat.le_of_ble_eq_true rfl, Nat.le_of_ble_eq_true rfl⟩) ⟨cblind, va_recv hR.K hR.P (ci := 6) (q0 := 9) rfl (hR.at46 (hR.w.2.1 _ finC_2).2.1), fun U hU hW9 => cmk hU hW9 hR hex hE hFc⟩ rfl rfl hl.1 rfl (lv_room (Nat.le_of_ble_eq_true rfl)) dX7_entryPoints_82 ⟨Nat.le_of_ble_eq_true rfl, Nat.le_of_ble_eq_true rfl⟩) hR.sS (fun q _ h => hFc q h) hFc (fun r46 u9 t9 H1 locs ht9 hvm9 hw9 hB9 hz9 hk9 hS => ?_)
      have hR : RepC g ad A s S H1 locs := hR.call ht9 hB9 hR.w hS hFc
      obtain rfl : r46 = (fX7_tagOf S a44) := hw9
      clear hB9 hz9 hk9 hvm9 ht9 hS
      generalize H1 = H at hR ⊢
      obtain ⟨a48, ea48⟩ : ∃ z, z = (fX7_tagOf S a44) := ⟨_, rfl⟩
      rw [← ea48]
      replace h := h a48 ea48
      refine lv_iconst (v := 1) hx hb dX7_entryPoints_85 (by decide) ?_
      refine lv_icmp_ne (tgt := 93) hx hb dX7_entryPoints_86 (by decide) (fun c49 => ?_) (fun c49 => ?_)
      · replace h := h.2 (k_ne rfl (by decide) c49)
        exact J_93 S _ _ ls h  hsh hR (lv_sub hl [] rfl)
      · replace h := h.1 (k_eq rfl (by decide) c49)
        refine lv_iconst (v := 1) hx hb dX7_entryPoints_89 (by decide) ?_
        refine lv_goto (tgt := 94) hx hb dX7_entryPoints_90 (by decide) ?_
        exact W.zret (v := 1) hx hb hr (nz (Or.inr rfl)) (fun t9 ht9 hW9 => ⟨⟨_, S, rfl, ⟨h, hR.w, hsh, (Or.inr rfl)⟩, ⟨by rw [ht9]; exact hR.P, hR.D⟩⟩, hR.sS.F ht9⟩) hR.sS.2.2 dX7_entryPoints_94
  replace h := h.2 c9_12
  refine lv_tableOut (tgt := 129) hx hb dX7_entryPoints_5 (by omega) (by decide) ?_
  refine lv_iconst (v := 1) hx hb dX7_entryPoints_129 (by decide) ?_
  exact W.zret (v := 1) hx hb hr (nz (Or.inr rfl)) (fun t9 ht9 hW9 => ⟨⟨_, S, rfl, ⟨h, hR.w, hsh, (Or.inr rfl)⟩, ⟨by rw [ht9]; exact hR.P, hR.D⟩⟩, hR.sS.F ht9⟩) hR.sS.2.2 dX7_entryPoints_130
def f_X7_memberPlace_J13 (S : MS) : Int32 := (0 : Int32)
def d_X7_memberPlace_J13 (S : MS) : Prop := True
def fX7_memberPlace (S : MS) (x1 : Int32) : Int32 := (if x1.toInt < 0 then f_X7_memberPlace_J13 S else (if x1.toInt < 48 then (qI S 12 x1.toInt.toNat) else f_X7_memberPlace_J13 S))
def d_X7_memberPlace (S : MS) (x1 : Int32) : Prop := (if x1.toInt < 0 then d_X7_memberPlace_J13 S else (if x1.toInt < 48 then (((0 : Int) ≤ x1.toInt ∧ x1.toInt < 48) ∧ True) else d_X7_memberPlace_J13 S))
set_option maxHeartbeats 2000000 in
set_option maxRecDepth 100000 in
theorem rX7_memberPlace (l : Launch) (g : Gr) (ad : Nat → Nat) (sz : Nat) (S : MS) (x1 : Int32) (hw : wfC S) (hd : d_X7_memberPlace S x1) : Met l yX7_memberPlace (wt yX7_memberPlace cX7_memberPlace 2 (some .int)) ({ frames := 0, cells := 0, slots := 0, locals := 0 }) (va_Pc [.ref (ad 9), .int x1] (st_C g ad sz S)) (va_Qi (fun (r : Int32) (_ : Unit) => r = fX7_memberPlace S x1) (fun (_ : Unit) (t : State) => qEC g ad (va_A (WdC g ad S) sz) S t) (va_A (WdC g ad S) sz)) 0 0 (va_A (WdC g ad S) sz) := by
  refine Met.ofW (cc := cX7_memberPlace) (maxL := 2) (ret := (some .int)) (by decide) rfl ?_
  intro p e s m args below meth c s₁ B hml hv
  obtain ⟨rfl, hsz, hP, hK, hD0, hex, hE⟩ := hv
  have hx := B.exec
  have hb := B.bytes
  have hr := B.returns
  have hts0 := atoms_spec (ws := wt yX7_memberPlace cX7_memberPlace 2 (some .int)) B.pre
  have hts : ∀ w ∈ tb, w.before _ s = true := fun w h => hts0 w (List.mem_cons_of_mem _ h)
  have hown : s.vm.findClass RX7 = some m.cls := findClass_of_methodNamed B.named
  subst hsz
  have hD := hD0.self (sz := s.heap.size)
  generalize hAe : va_A (WdC g ad S) s.heap.size = A at hD hE ⊢
  have hA : ∀ q : Nat, s.heap.size ≤ q → A q := fun q h => by rw [← hAe]; exact Or.inr h
  have hR : RepC g ad A s S s.heap [] := ⟨hK, hP, hD, va_S.rf, hw⟩
  clear hK hP hD hD0
  have hl := lv_entry ([.ref (ad 9), .int x1]) (n := 2) (Nat.le_of_ble_eq_true rfl)
  rw [lg_entry_eq]
  generalize (lg_sl ([.ref (ad 9), .int x1]) ++ List.replicate (2 - (lg_sl ([.ref (ad 9), .int x1])).length) Slot.unset).toArray = ls at hl ⊢
  have hl : lv_has ls 2 [(0, .ref (ad 9)), (1, .int x1)] := hl
  obtain ⟨r0, hf⟩ : ∃ r0, fX7_memberPlace S x1 = r0 := ⟨_, rfl⟩
  have hf0 := hf
  unfold fX7_memberPlace at hf
  unfold d_X7_memberPlace at hd
  refine lv_iload_n hx hb dX7_memberPlace_0 rfl (lv_at hl 1 rfl) ?_
  have J_13 : ∀ (H : Heap) (locs : List Loc) (ls : Array Slot), d_X7_memberPlace_J13 S → f_X7_memberPlace_J13 S = r0 → RepC g ad A s S H locs → lv_has ls 2 [] → W p l e (headSpec (wt yX7_memberPlace cX7_memberPlace 2 (some .int)) ({ frames := 0, cells := 0, slots := 0, locals := 0 })).room s m ([.ref (ad 9), .int x1] : List Value).toArray below meth c H locs 0 0 (MQ below (va_Qi (fun (r : Int32) (_ : Unit) => r = fX7_memberPlace S x1) (fun (_ : Unit) (t : State) => qEC g ad A S t) A) ([.ref (ad 9), .int x1] : List Value).toArray s 0 0 A) (F0 m 13 ls []) := by
    intro H locs ls hd hf hR hl
    unfold d_X7_memberPlace_J13 at hd
    unfold f_X7_memberPlace_J13 at hf
    refine lv_iconst (v := 0) hx hb dX7_memberPlace_13 (by decide) ?_
    refine lv_goto (tgt := 23) hx hb dX7_memberPlace_14 (by decide) ?_
    exact W.iret (v := 0) hx hb hr (fun t9 ht9 hW9 => ⟨⟨_, (), rfl, hf.trans hf0.symm, ⟨by rw [ht9]; exact hR.P, hR.D⟩⟩, hR.sS.F ht9⟩) hR.sS.2.2 dX7_memberPlace_23
  refine lv_if_lt (tgt := 13) hx hb dX7_memberPlace_1 (by decide) (fun c1 => ?_) (fun c1 => ?_)
  · rw [if_pos (k_lt rfl (by decide) c1)] at hf
    (try rw [if_pos (k_lt rfl (by decide) c1)] at hd)
    exact J_13 _ _ ls hd hf  hR (lv_sub hl [] rfl)
  · rw [if_neg (k_nlt rfl (by decide) c1)] at hf
    (try rw [if_neg (k_nlt rfl (by decide) c1)] at hd)
    refine lv_iload_n hx hb dX7_memberPlace_4 rfl (lv_at hl 1 rfl) ?_
    refine lv_aload_n hx hb dX7_memberPlace_5 rfl (lv_at hl 0 rfl) ?_
    refine va_get (D := rD g) (ci := 6) (v := .ref (ad 12)) (C := RX7) (T := TX7) (N := 17) hx hb hts inX7 hown hR.K hR.P 9 (hR.at46 (hR.w.2.1 _ finC_2).2.1) rfl 9 (by decide) (hts _ kw_1342) (fun _ h9 => h9) (congrArg (fun z => some (vf ad z)) (hR.w.2.1 _ finC_8).1) dX7_memberPlace_6 ?_
    refine va_alen (v := 48) hx hb hR.K hR.P 12 1 (hR.atI (hR.w.2.1 _ finC_8).2.1 (by decide)) rfl (by rw [(hR.w.2.1 _ finC_8).2.2]; rfl) dX7_memberPlace_9 ?_
    refine lv_icmp_lt (tgt := 17) hx hb dX7_memberPlace_10 (by decide) (fun c2 => ?_) (fun c2 => ?_)
    · rw [if_pos (k_lt rfl (by decide) c2)] at hf
      (try rw [if_pos (k_lt rfl (by decide) c2)] at hd)
      refine lv_aload_n hx hb dX7_memberPlace_17 rfl (lv_at hl 0 rfl) ?_
      refine va_get (D := rD g) (ci := 6) (v := .ref (ad 12)) (C := RX7) (T := TX7) (N := 17) hx hb hts inX7 hown hR.K hR.P 9 (hR.at46 (hR.w.2.1 _ finC_2).2.1) rfl 9 (by decide) (hts _ kw_1342) (fun _ h9 => h9) (congrArg (fun z => some (vf ad z)) (hR.w.2.1 _ finC_8).1) dX7_memberPlace_18 ?_
      refine lv_iload_n hx hb dX7_memberPlace_21 rfl (lv_at hl 1 rfl) ?_
      obtain ⟨hv3, hd⟩ := hd
      refine va_iald hx hb hR.K hR.P 12 1 (hR.atI (hR.w.2.1 _ finC_8).2.1 (by decide)) rfl (k_ixN (k_ix (n := 48) (x := x1) (a := x1.toInt) rfl hv3) (hR.w.2.1 _ finC_8).2.2) dX7_memberPlace_22 ?_
      refine lv_topi (fun z4 ez4 => ?_)
      obtain rfl : z4 = (qI S 12 x1.toInt.toNat) := ez4
      exact W.iret (v := (qI S 12 x1.toInt.toNat)) hx hb hr (fun t9 ht9 hW9 => ⟨⟨_, (), rfl, hf.trans hf0.symm, ⟨by rw [ht9]; exact hR.P, hR.D⟩⟩, hR.sS.F ht9⟩) hR.sS.2.2 dX7_memberPlace_23
    · rw [if_neg (k_nlt rfl (by decide) c2)] at hf
      (try rw [if_neg (k_nlt rfl (by decide) c2)] at hd)
      exact J_13 _ _ ls hd hf  hR (lv_sub hl [] rfl)
def fX7_nameOf (S : MS) (x1 : Int32) : Int32 := (fX7_u2 S ((fX7_memberPlace S x1) + (2 : Int32)))
def d_X7_nameOf (S : MS) (x1 : Int32) : Prop := (d_X7_memberPlace S x1 ∧ (d_X7_u2 S ((fX7_memberPlace S x1) + (2 : Int32)) ∧ True))
set_option maxHeartbeats 2000000 in
set_option maxRecDepth 100000 in
theorem rX7_nameOf (l : Launch) (g : Gr) (ad : Nat → Nat) (sz : Nat) (S : MS) (x1 : Int32) (hw : wfC S) (hd : d_X7_nameOf S x1) : Met l yX7_nameOf (wt yX7_nameOf cX7_nameOf 2 (some .int)) ({ frames := 1, cells := 0, slots := 0, locals := 21 }) (va_Pc [.ref (ad 9), .int x1] (st_C g ad sz S)) (va_Qi (fun (r : Int32) (_ : Unit) => r = fX7_nameOf S x1) (fun (_ : Unit) (t : State) => qEC g ad (va_A (WdC g ad S) sz) S t) (va_A (WdC g ad S) sz)) 0 0 (va_A (WdC g ad S) sz) := by
  refine Met.ofW (cc := cX7_nameOf) (maxL := 2) (ret := (some .int)) (by decide) rfl ?_
  intro p e s m args below meth c s₁ B hml hv
  obtain ⟨rfl, hsz, hP, hK, hD0, hex, hE⟩ := hv
  have hx := B.exec
  have hb := B.bytes
  have hr := B.returns
  have hts0 := atoms_spec (ws := wt yX7_nameOf cX7_nameOf 2 (some .int)) B.pre
  have hts : ∀ w ∈ tb, w.before _ s = true := fun w h => hts0 w (List.mem_cons_of_mem _ h)
  have hown : s.vm.findClass RX7 = some m.cls := findClass_of_methodNamed B.named
  subst hsz
  have hD := hD0.self (sz := s.heap.size)
  generalize hAe : va_A (WdC g ad S) s.heap.size = A at hD hE ⊢
  have hA : ∀ q : Nat, s.heap.size ≤ q → A q := fun q h => by rw [← hAe]; exact Or.inr h
  have hR : RepC g ad A s S s.heap [] := ⟨hK, hP, hD, va_S.rf, hw⟩
  clear hK hP hD hD0
  have hl := lv_entry ([.ref (ad 9), .int x1]) (n := 2) (Nat.le_of_ble_eq_true rfl)
  rw [lg_entry_eq]
  generalize (lg_sl ([.ref (ad 9), .int x1]) ++ List.replicate (2 - (lg_sl ([.ref (ad 9), .int x1])).length) Slot.unset).toArray = ls at hl ⊢
  have hl : lv_has ls 2 [(0, .ref (ad 9)), (1, .int x1)] := hl
  obtain ⟨r0, hf⟩ : ∃ r0, fX7_nameOf S x1 = r0 := ⟨_, rfl⟩
  have hf0 := hf
  unfold fX7_nameOf at hf
  unfold d_X7_nameOf at hd
  refine lv_aload_n hx hb dX7_nameOf_0 rfl (lv_at hl 0 rfl) ?_
  refine lv_aload_n hx hb dX7_nameOf_1 rfl (lv_at hl 0 rfl) ?_
  refine lv_iload_n hx hb dX7_nameOf_2 rfl (lv_at hl 1 rfl) ?_
  obtain ⟨hv1, hd⟩ := hd
  have hFc := cfree hR hA
  refine va_calli (va_runV (As := [.int x1]) (rest := [.ref (ad 9)]) ⟨hx, hb, hml, hown, hts⟩ (rX7_memberPlace l g ad s.heap.size S x1 hR.w  hv1) (cwV 1 hts (gd_V kw_1288 kw_1394 kw_1395 kw_710 kw_1393) rfl rfl rfl (by decide +kernel) ⟨Nat.le_of_ble_eq_true rfl, Nat.le_of_ble_eq_true rfl⟩) ⟨cblind, va_recv hR.K hR.P (ci := 6) (q0 := 9) rfl (hR.at46 (hR.w.2.1 _ finC_2).2.1), fun U hU hW9 => cmk hU hW9 hR hex hE hFc⟩ rfl rfl hl.1 rfl (lv_room (Nat.le_of_ble_eq_true rfl)) dX7_nameOf_3 ⟨Nat.le_of_ble_eq_true rfl, Nat.le_of_ble_eq_true rfl⟩) hR.sS (fun q _ h => hFc q h) hFc (fun r2 u9 t9 H1 locs ht9 hvm9 hw9 hB9 hz9 hk9 hS => ?_)
  have hR : RepC g ad A s S H1 locs := hR.call ht9 hB9 hR.w hS hFc
  obtain rfl : r2 = (fX7_memberPlace S x1) := hw9
  clear hB9 hz9 hk9 hvm9 ht9 hS
  generalize H1 = H at hR ⊢
  refine lv_iconst (v := 2) hx hb dX7_nameOf_6 (by decide) ?_
  refine lv_iadd hx hb dX7_nameOf_7 ?_
  refine lv_topi (fun z4 ez4 => ?_)
  obtain rfl : z4 = ((fX7_memberPlace S x1) + (2 : Int32)) := ez4
  obtain ⟨hv5, hd⟩ := hd
  have hFc := cfree hR hA
  refine va_calli (va_runV (As := [.int ((fX7_memberPlace S x1) + (2 : Int32))]) (rest := []) ⟨hx, hb, hml, hown, hts⟩ (rX7_u2 l g ad H.size S ((fX7_memberPlace S x1) + (2 : Int32)) hR.w  hv5) (cwV 1 hts (gd_V kw_1266 kw_1450 kw_1451 kw_710 kw_1449) rfl rfl rfl (by decide +kernel) ⟨Nat.le_of_ble_eq_true rfl, Nat.le_of_ble_eq_true rfl⟩) ⟨cblind, va_recv hR.K hR.P (ci := 6) (q0 := 9) rfl (hR.at46 (hR.w.2.1 _ finC_2).2.1), fun U hU hW9 => cmk hU hW9 hR hex hE hFc⟩ rfl rfl hl.1 rfl (lv_room (Nat.le_of_ble_eq_true rfl)) dX7_nameOf_8 ⟨Nat.le_of_ble_eq_true rfl, Nat.le_of_ble_eq_true rfl⟩) hR.sS (fun q _ h => hFc q h) hFc (fun r6 u9 t9 H1 locs ht9 hvm9 hw9 hB9 hz9 hk9 hS => ?_)
  have hR : RepC g ad A s S H1 locs := hR.call ht9 hB9 hR.w hS hFc
  obtain rfl : r6 = (fX7_u2 S ((fX7_memberPlace S x1) + (2 : Int32))) := hw9
  clear hB9 hz9 hk9 hvm9 ht9 hS
  generalize H1 = H at hR ⊢
  exact W.iret (v := (fX7_u2 S ((fX7_memberPlace S x1) + (2 : Int32)))) hx hb hr (fun t9 ht9 hW9 => ⟨⟨_, (), rfl, hf.trans hf0.symm, ⟨by rw [ht9]; exact hR.P, hR.D⟩⟩, hR.sS.F ht9⟩) hR.sS.2.2 dX7_nameOf_11
def fX7_typeOf (S : MS) (x1 : Int32) : Int32 := (fX7_u2 S ((fX7_memberPlace S x1) + (4 : Int32)))
def d_X7_typeOf (S : MS) (x1 : Int32) : Prop := (d_X7_memberPlace S x1 ∧ (d_X7_u2 S ((fX7_memberPlace S x1) + (4 : Int32)) ∧ True))
set_option maxHeartbeats 2000000 in
set_option maxRecDepth 100000 in
theorem rX7_typeOf (l : Launch) (g : Gr) (ad : Nat → Nat) (sz : Nat) (S : MS) (x1 : Int32) (hw : wfC S) (hd : d_X7_typeOf S x1) : Met l yX7_typeOf (wt yX7_typeOf cX7_typeOf 2 (some .int)) ({ frames := 1, cells := 0, slots := 0, locals := 21 }) (va_Pc [.ref (ad 9), .int x1] (st_C g ad sz S)) (va_Qi (fun (r : Int32) (_ : Unit) => r = fX7_typeOf S x1) (fun (_ : Unit) (t : State) => qEC g ad (va_A (WdC g ad S) sz) S t) (va_A (WdC g ad S) sz)) 0 0 (va_A (WdC g ad S) sz) := by
  refine Met.ofW (cc := cX7_typeOf) (maxL := 2) (ret := (some .int)) (by decide) rfl ?_
  intro p e s m args below meth c s₁ B hml hv
  obtain ⟨rfl, hsz, hP, hK, hD0, hex, hE⟩ := hv
  have hx := B.exec
  have hb := B.bytes
  have hr := B.returns
  have hts0 := atoms_spec (ws := wt yX7_typeOf cX7_typeOf 2 (some .int)) B.pre
  have hts : ∀ w ∈ tb, w.before _ s = true := fun w h => hts0 w (List.mem_cons_of_mem _ h)
  have hown : s.vm.findClass RX7 = some m.cls := findClass_of_methodNamed B.named
  subst hsz
  have hD := hD0.self (sz := s.heap.size)
  generalize hAe : va_A (WdC g ad S) s.heap.size = A at hD hE ⊢
  have hA : ∀ q : Nat, s.heap.size ≤ q → A q := fun q h => by rw [← hAe]; exact Or.inr h
  have hR : RepC g ad A s S s.heap [] := ⟨hK, hP, hD, va_S.rf, hw⟩
  clear hK hP hD hD0
  have hl := lv_entry ([.ref (ad 9), .int x1]) (n := 2) (Nat.le_of_ble_eq_true rfl)
  rw [lg_entry_eq]
  generalize (lg_sl ([.ref (ad 9), .int x1]) ++ List.replicate (2 - (lg_sl ([.ref (ad 9), .int x1])).length) Slot.unset).toArray = ls at hl ⊢
  have hl : lv_has ls 2 [(0, .ref (ad 9)), (1, .int x1)] := hl
  obtain ⟨r0, hf⟩ : ∃ r0, fX7_typeOf S x1 = r0 := ⟨_, rfl⟩
  have hf0 := hf
  unfold fX7_typeOf at hf
  unfold d_X7_typeOf at hd
  refine lv_aload_n hx hb dX7_typeOf_0 rfl (lv_at hl 0 rfl) ?_
  refine lv_aload_n hx hb dX7_typeOf_1 rfl (lv_at hl 0 rfl) ?_
  refine lv_iload_n hx hb dX7_typeOf_2 rfl (lv_at hl 1 rfl) ?_
  obtain ⟨hv1, hd⟩ := hd
  have hFc := cfree hR hA
  refine va_calli (va_runV (As := [.int x1]) (rest := [.ref (ad 9)]) ⟨hx, hb, hml, hown, hts⟩ (rX7_memberPlace l g ad s.heap.size S x1 hR.w  hv1) (cwV 1 hts (gd_V kw_1288 kw_1394 kw_1395 kw_710 kw_1393) rfl rfl rfl (by decide +kernel) ⟨Nat.le_of_ble_eq_true rfl, Nat.le_of_ble_eq_true rfl⟩) ⟨cblind, va_recv hR.K hR.P (ci := 6) (q0 := 9) rfl (hR.at46 (hR.w.2.1 _ finC_2).2.1), fun U hU hW9 => cmk hU hW9 hR hex hE hFc⟩ rfl rfl hl.1 rfl (lv_room (Nat.le_of_ble_eq_true rfl)) dX7_typeOf_3 ⟨Nat.le_of_ble_eq_true rfl, Nat.le_of_ble_eq_true rfl⟩) hR.sS (fun q _ h => hFc q h) hFc (fun r2 u9 t9 H1 locs ht9 hvm9 hw9 hB9 hz9 hk9 hS => ?_)
  have hR : RepC g ad A s S H1 locs := hR.call ht9 hB9 hR.w hS hFc
  obtain rfl : r2 = (fX7_memberPlace S x1) := hw9
  clear hB9 hz9 hk9 hvm9 ht9 hS
  generalize H1 = H at hR ⊢
  refine lv_iconst (v := 4) hx hb dX7_typeOf_6 (by decide) ?_
  refine lv_iadd hx hb dX7_typeOf_7 ?_
  refine lv_topi (fun z4 ez4 => ?_)
  obtain rfl : z4 = ((fX7_memberPlace S x1) + (4 : Int32)) := ez4
  obtain ⟨hv5, hd⟩ := hd
  have hFc := cfree hR hA
  refine va_calli (va_runV (As := [.int ((fX7_memberPlace S x1) + (4 : Int32))]) (rest := []) ⟨hx, hb, hml, hown, hts⟩ (rX7_u2 l g ad H.size S ((fX7_memberPlace S x1) + (4 : Int32)) hR.w  hv5) (cwV 1 hts (gd_V kw_1266 kw_1450 kw_1451 kw_710 kw_1449) rfl rfl rfl (by decide +kernel) ⟨Nat.le_of_ble_eq_true rfl, Nat.le_of_ble_eq_true rfl⟩) ⟨cblind, va_recv hR.K hR.P (ci := 6) (q0 := 9) rfl (hR.at46 (hR.w.2.1 _ finC_2).2.1), fun U hU hW9 => cmk hU hW9 hR hex hE hFc⟩ rfl rfl hl.1 rfl (lv_room (Nat.le_of_ble_eq_true rfl)) dX7_typeOf_8 ⟨Nat.le_of_ble_eq_true rfl, Nat.le_of_ble_eq_true rfl⟩) hR.sS (fun q _ h => hFc q h) hFc (fun r6 u9 t9 H1 locs ht9 hvm9 hw9 hB9 hz9 hk9 hS => ?_)
  have hR : RepC g ad A s S H1 locs := hR.call ht9 hB9 hR.w hS hFc
  obtain rfl : r6 = (fX7_u2 S ((fX7_memberPlace S x1) + (4 : Int32))) := hw9
  clear hB9 hz9 hk9 hvm9 ht9 hS
  generalize H1 = H at hR ⊢
  exact W.iret (v := (fX7_u2 S ((fX7_memberPlace S x1) + (4 : Int32)))) hx hb hr (fun t9 ht9 hW9 => ⟨⟨_, (), rfl, hf.trans hf0.symm, ⟨by rw [ht9]; exact hR.P, hR.D⟩⟩, hR.sS.F ht9⟩) hR.sS.2.2 dX7_typeOf_11
def w_X7_flagsHold_L26 (Q : Int32 → MS → Prop) : Nat → MS → Int32 → Prop
  | 0, _, _ => False
  | n26 + 1, U26, v26_1 => (wfC U26 → ((((qI U26 9 7) + (qI U26 9 8)).toInt ≤ v26_1.toInt → Q (1 : Int32) U26) ∧ (¬ ((qI U26 9 7) + (qI U26 9 8)).toInt ≤ v26_1.toInt → (d_X7_memberPlace U26 v26_1 ∧ (∀ a11 : Int32, a11 = (fX7_memberPlace U26 v26_1) → (d_X7_u2 U26 a11 ∧ (∀ a15 : Int32, a15 = (fX7_u2 U26 a11) → ((a15.toInt = 9 → (∀ a17 : Int32, a17 = (v26_1 + Int32.ofInt 1) → (w_X7_flagsHold_L26 Q n26) U26 a17)) ∧ (¬ a15.toInt = 9 → (d_X7_memberPlace U26 v26_1 ∧ (∀ a21 : Int32, a21 = (fX7_memberPlace U26 v26_1) → (∃ Q22, wX7_breaks U26 (7 : Int32) a21 Q22 ∧ ∀ r23 S24, Q22 r23 S24 → wfC S24 → shy U26 S24 → Q r23 S24))))))))))))
def wX7_flagsHold (S : MS) (Q : Int32 → MS → Prop) : Prop := (d_X7_u2 S (qI S 9 6) ∧ (∀ a4 : Int32, a4 = (fX7_u2 S (qI S 9 6)) → ((a4.toInt = 33 → (∃ n, w_X7_flagsHold_L26 Q n S 0)) ∧ (¬ a4.toInt = 33 → (∃ Q26, wX7_breaks S (7 : Int32) (qI S 9 6) Q26 ∧ ∀ r27 S28, Q26 r27 S28 → wfC S28 → shy S S28 → Q r27 S28)))))
set_option maxHeartbeats 2000000 in
set_option maxRecDepth 100000 in
theorem rX7_flagsHold (l : Launch) (g : Gr) (ad : Nat → Nat) (sz : Nat) (S : MS) (hw : wfC S) (Q : Int32 → MS → Prop) (h : wX7_flagsHold S Q) : Met l yX7_flagsHold (wt yX7_flagsHold cX7_flagsHold 2 (some .boolean)) ({ frames := 1, cells := 0, slots := 0, locals := 22 }) (va_Pc [.ref (ad 9)] (st_C g ad sz S)) (va_Qi (fun (r : Int32) (u : MS) => Q r u ∧ wfC u ∧ shy S u ∧ (r = 0 ∨ r = 1)) (fun (u : MS) (t : State) => qEC g ad (va_A (WdC g ad S) sz) u t) (va_A (WdC g ad S) sz)) 0 0 (va_A (WdC g ad S) sz) := by
  refine Met.ofW (cc := cX7_flagsHold) (maxL := 2) (ret := (some .boolean)) (by decide) rfl ?_
  intro p e s m args below meth c s₁ B hml hv
  obtain ⟨rfl, hsz, hP, hK, hD0, hex, hE⟩ := hv
  have hx := B.exec
  have hb := B.bytes
  have hr := B.returns
  have hts0 := atoms_spec (ws := wt yX7_flagsHold cX7_flagsHold 2 (some .boolean)) B.pre
  have hts : ∀ w ∈ tb, w.before _ s = true := fun w h => hts0 w (List.mem_cons_of_mem _ h)
  have hown : s.vm.findClass RX7 = some m.cls := findClass_of_methodNamed B.named
  subst hsz
  have hD := hD0.self (sz := s.heap.size)
  generalize hAe : va_A (WdC g ad S) s.heap.size = A at hD hE ⊢
  have hA : ∀ q : Nat, s.heap.size ≤ q → A q := fun q h => by rw [← hAe]; exact Or.inr h
  have hR : RepC g ad A s S s.heap [] := ⟨hK, hP, hD, va_S.rf, hw⟩
  clear hK hP hD hD0
  have hl := lv_entry ([.ref (ad 9)]) (n := 2) (Nat.le_of_ble_eq_true rfl)
  rw [lg_entry_eq]
  generalize (lg_sl ([.ref (ad 9)]) ++ List.replicate (2 - (lg_sl ([.ref (ad 9)])).length) Slot.unset).toArray = ls at hl ⊢
  have hl : lv_has ls 2 [(0, .ref (ad 9))] := hl
  have hsh : shy S S := shy.rf
  unfold wX7_flagsHold at h
  refine lv_aload_n hx hb dX7_flagsHold_0 rfl (lv_at hl 0 rfl) ?_
  refine lv_aload_n hx hb dX7_flagsHold_1 rfl (lv_at hl 0 rfl) ?_
  refine va_get (D := rD g) (ci := 6) (v := .int (qI S 9 6)) (C := RX7) (T := TX7) (N := 17) hx hb hts inX7 hown hR.K hR.P 9 (hR.at46 (hR.w.2.1 _ finC_2).2.1) rfl 6 (by decide) (hts _ kw_1331) (fun _ h9 => h9) rfl dX7_flagsHold_2 ?_
  obtain ⟨hv1, h⟩ := h
  have hFc := cfree hR hA
  refine va_calli (va_runV (As := [.int (qI S 9 6)]) (rest := []) ⟨hx, hb, hml, hown, hts⟩ (rX7_u2 l g ad s.heap.size S (qI S 9 6) hR.w  hv1) (cwV 1 hts (gd_V kw_1266 kw_1450 kw_1451 kw_710 kw_1449) rfl rfl rfl (by decide +kernel) ⟨Nat.le_of_ble_eq_true rfl, Nat.le_of_ble_eq_true rfl⟩) ⟨cblind, va_recv hR.K hR.P (ci := 6) (q0 := 9) rfl (hR.at46 (hR.w.2.1 _ finC_2).2.1), fun U hU hW9 => cmk hU hW9 hR hex hE hFc⟩ rfl rfl hl.1 rfl (lv_room (Nat.le_of_ble_eq_true rfl)) dX7_flagsHold_5 ⟨Nat.le_of_ble_eq_true rfl, Nat.le_of_ble_eq_true rfl⟩) hR.sS (fun q _ h => hFc q h) hFc (fun r2 u9 t9 H1 locs ht9 hvm9 hw9 hB9 hz9 hk9 hS => ?_)
  have hR : RepC g ad A s S H1 locs := hR.call ht9 hB9 hR.w hS hFc
  obtain rfl : r2 = (fX7_u2 S (qI S 9 6)) := hw9
  clear hB9 hz9 hk9 hvm9 ht9 hS
  generalize H1 = H at hR ⊢
  obtain ⟨a4, ea4⟩ : ∃ z, z = (fX7_u2 S (qI S 9 6)) := ⟨_, rfl⟩
  rw [← ea4]
  replace h := h a4 ea4
  refine lv_bipush (v := 33) hx hb dX7_flagsHold_8 (by decide) ?_
  refine lv_icmp_eq (tgt := 24) hx hb dX7_flagsHold_10 (by decide) (fun c5 => ?_) (fun c5 => ?_)
  · replace h := h.1 (k_eq rfl (by decide) c5)
    refine lv_iconst (v := 0) hx hb dX7_flagsHold_24 (by decide) ?_
    refine lv_istore_n (lv' := [(1, .int 0), (0, .ref (ad 9))]) hx hb dX7_flagsHold_25 rfl hl (by decide) rfl (fun ls hl => ?_)
    have J_26 : ∀ (n26 : Nat) (U26 : MS) (v26_1 : Int32) (H : Heap) (locs : List Loc) (ls : Array Slot), w_X7_flagsHold_L26 Q n26 U26 v26_1 → shy S U26 → RepC g ad A s U26 H locs → lv_has ls 2 [(0, .ref (ad 9)), (1, .int v26_1)] → W p l e (headSpec (wt yX7_flagsHold cX7_flagsHold 2 (some .boolean)) ({ frames := 1, cells := 0, slots := 0, locals := 22 })).room s m ([.ref (ad 9)] : List Value).toArray below meth c H locs 0 0 (MQ below (va_Qi (fun (r : Int32) (u : MS) => Q r u ∧ wfC u ∧ shy S u ∧ (r = 0 ∨ r = 1)) (fun (u : MS) (t : State) => qEC g ad A u t) A) ([.ref (ad 9)] : List Value).toArray s 0 0 A) (F0 m 26 ls []) := by
      intro n26
      induction n26 with
      | zero => intro U26 v26_1 H locs ls h hsh hR hl; unfold w_X7_flagsHold_L26 at h; exact h.elim
      | succ n26 ih_26 =>
        intro U26 v26_1 H locs ls h hsh hR hl
        unfold w_X7_flagsHold_L26 at h
        replace h := h hR.w
        refine lv_iload_n hx hb dX7_flagsHold_26 rfl (lv_at hl 1 rfl) ?_
        refine lv_aload_n hx hb dX7_flagsHold_27 rfl (lv_at hl 0 rfl) ?_
        refine va_get (D := rD g) (ci := 6) (v := .int (qI U26 9 7)) (C := RX7) (T := TX7) (N := 17) hx hb hts inX7 hown hR.K hR.P 9 (hR.at46 (hR.w.2.1 _ finC_2).2.1) rfl 7 (by decide) (hts _ kw_1287) (fun _ h9 => h9) rfl dX7_flagsHold_28 ?_
        refine lv_aload_n hx hb dX7_flagsHold_31 rfl (lv_at hl 0 rfl) ?_
        refine va_get (D := rD g) (ci := 6) (v := .int (qI U26 9 8)) (C := RX7) (T := TX7) (N := 17) hx hb hts inX7 hown hR.K hR.P 9 (hR.at46 (hR.w.2.1 _ finC_2).2.1) rfl 8 (by decide) (hts _ kw_1285) (fun _ h9 => h9) rfl dX7_flagsHold_32 ?_
        refine lv_iadd hx hb dX7_flagsHold_35 ?_
        refine lv_topi (fun z6 ez6 => ?_)
        obtain rfl : z6 = ((qI U26 9 7) + (qI U26 9 8)) := ez6
        refine lv_icmp_ge (tgt := 71) hx hb dX7_flagsHold_36 (by decide) (fun c7 => ?_) (fun c7 => ?_)
        · replace h := h.1 (k_le rfl rfl c7)
          refine lv_iconst (v := 1) hx hb dX7_flagsHold_71 (by decide) ?_
          exact W.zret (v := 1) hx hb hr (nz (Or.inr rfl)) (fun t9 ht9 hW9 => ⟨⟨_, U26, rfl, ⟨h, hR.w, hsh, (Or.inr rfl)⟩, ⟨by rw [ht9]; exact hR.P, hR.D⟩⟩, hR.sS.F ht9⟩) hR.sS.2.2 dX7_flagsHold_72
        · replace h := h.2 (k_nle rfl rfl c7)
          refine lv_aload_n hx hb dX7_flagsHold_39 rfl (lv_at hl 0 rfl) ?_
          refine lv_aload_n hx hb dX7_flagsHold_40 rfl (lv_at hl 0 rfl) ?_
          refine lv_iload_n hx hb dX7_flagsHold_41 rfl (lv_at hl 1 rfl) ?_
          obtain ⟨hv8, h⟩ := h
          have hFc := cfree hR hA
          refine va_calli (va_runV (As := [.int v26_1]) (rest := [.ref (ad 9)]) ⟨hx, hb, hml, hown, hts⟩ (rX7_memberPlace l g ad H.size U26 v26_1 hR.w  hv8) (cwV 1 hts (gd_V kw_1288 kw_1394 kw_1395 kw_710 kw_1393) rfl rfl rfl (by decide +kernel) ⟨Nat.le_of_ble_eq_true rfl, Nat.le_of_ble_eq_true rfl⟩) ⟨cblind, va_recv hR.K hR.P (ci := 6) (q0 := 9) rfl (hR.at46 (hR.w.2.1 _ finC_2).2.1), fun U hU hW9 => cmk hU hW9 hR hex hE hFc⟩ rfl rfl hl.1 rfl (lv_room (Nat.le_of_ble_eq_true rfl)) dX7_flagsHold_42 ⟨Nat.le_of_ble_eq_true rfl, Nat.le_of_ble_eq_true rfl⟩) hR.sS (fun q _ h => hFc q h) hFc (fun r9 u9 t9 H1 locs ht9 hvm9 hw9 hB9 hz9 hk9 hS => ?_)
          have hR : RepC g ad A s U26 H1 locs := hR.call ht9 hB9 hR.w hS hFc
          obtain rfl : r9 = (fX7_memberPlace U26 v26_1) := hw9
          clear hB9 hz9 hk9 hvm9 ht9 hS
          generalize H1 = H at hR ⊢
          obtain ⟨a11, ea11⟩ : ∃ z, z = (fX7_memberPlace U26 v26_1) := ⟨_, rfl⟩
          rw [← ea11]
          replace h := h a11 ea11
          obtain ⟨hv12, h⟩ := h
          have hFc := cfree hR hA
          refine va_calli (va_runV (As := [.int a11]) (rest := []) ⟨hx, hb, hml, hown, hts⟩ (rX7_u2 l g ad H.size U26 a11 hR.w  hv12) (cwV 1 hts (gd_V kw_1266 kw_1450 kw_1451 kw_710 kw_1449) rfl rfl rfl (by decide +kernel) ⟨Nat.le_of_ble_eq_true rfl, Nat.le_of_ble_eq_true rfl⟩) ⟨cblind, va_recv hR.K hR.P (ci := 6) (q0 := 9) rfl (hR.at46 (hR.w.2.1 _ finC_2).2.1), fun U hU hW9 => cmk hU hW9 hR hex hE hFc⟩ rfl rfl hl.1 rfl (lv_room (Nat.le_of_ble_eq_true rfl)) dX7_flagsHold_45 ⟨Nat.le_of_ble_eq_true rfl, Nat.le_of_ble_eq_true rfl⟩) hR.sS (fun q _ h => hFc q h) hFc (fun r13 u9 t9 H1 locs ht9 hvm9 hw9 hB9 hz9 hk9 hS => ?_)
          have hR : RepC g ad A s U26 H1 locs := hR.call ht9 hB9 hR.w hS hFc
          obtain rfl : r13 = (fX7_u2 U26 a11) := hw9
          clear hB9 hz9 hk9 hvm9 ht9 hS
          generalize H1 = H at hR ⊢
          obtain ⟨a15, ea15⟩ : ∃ z, z = (fX7_u2 U26 a11) := ⟨_, rfl⟩
          rw [← ea15]
          replace h := h a15 ea15
          refine lv_bipush (v := 9) hx hb dX7_flagsHold_48 (by decide) ?_
          refine lv_icmp_eq (tgt := 65) hx hb dX7_flagsHold_50 (by decide) (fun c16 => ?_) (fun c16 => ?_)
          · replace h := h.1 (k_eq rfl (by decide) c16)
            obtain ⟨a17, ea17⟩ : ∃ z, z = (v26_1 + Int32.ofInt 1) := ⟨_, rfl⟩
            replace h := h a17 ea17
            refine lv_iinc (v := a17) (lv' := [(1, .int a17), (0, .ref (ad 9))]) hx hb dX7_flagsHold_65 hl (k := 1) rfl ea17.symm (by decide) rfl (fun ls hl => ?_)
            refine lv_goto (tgt := 26) hx hb dX7_flagsHold_68 (by decide) ?_
            exact ih_26 U26 a17 _ _ ls h  hsh hR (lv_sub hl [1, 0] rfl)
          · replace h := h.2 (k_ne rfl (by decide) c16)
            refine lv_aload_n hx hb dX7_flagsHold_53 rfl (lv_at hl 0 rfl) ?_
            refine lv_bipush (v := 7) hx hb dX7_flagsHold_54 (by decide) ?_
            refine lv_aload_n hx hb dX7_flagsHold_56 rfl (lv_at hl 0 rfl) ?_
            refine lv_iload_n hx hb dX7_flagsHold_57 rfl (lv_at hl 1 rfl) ?_
            obtain ⟨hv18, h⟩ := h
            have hFc := cfree hR hA
            refine va_calli (va_runV (As := [.int v26_1]) (rest := [.int 7, .ref (ad 9)]) ⟨hx, hb, hml, hown, hts⟩ (rX7_memberPlace l g ad H.size U26 v26_1 hR.w  hv18) (cwV 1 hts (gd_V kw_1288 kw_1394 kw_1395 kw_710 kw_1393) rfl rfl rfl (by decide +kernel) ⟨Nat.le_of_ble_eq_true rfl, Nat.le_of_ble_eq_true rfl⟩) ⟨cblind, va_recv hR.K hR.P (ci := 6) (q0 := 9) rfl (hR.at46 (hR.w.2.1 _ finC_2).2.1), fun U hU hW9 => cmk hU hW9 hR hex hE hFc⟩ rfl rfl hl.1 rfl (lv_room (Nat.le_of_ble_eq_true rfl)) dX7_flagsHold_58 ⟨Nat.le_of_ble_eq_true rfl, Nat.le_of_ble_eq_true rfl⟩) hR.sS (fun q _ h => hFc q h) hFc (fun r19 u9 t9 H1 locs ht9 hvm9 hw9 hB9 hz9 hk9 hS => ?_)
            have hR : RepC g ad A s U26 H1 locs := hR.call ht9 hB9 hR.w hS hFc
            obtain rfl : r19 = (fX7_memberPlace U26 v26_1) := hw9
            clear hB9 hz9 hk9 hvm9 ht9 hS
            generalize H1 = H at hR ⊢
            obtain ⟨a21, ea21⟩ : ∃ z, z = (fX7_memberPlace U26 v26_1) := ⟨_, rfl⟩
            rw [← ea21]
            replace h := h a21 ea21
            obtain ⟨Q22, h0, h⟩ := h
            have hFc := cfree hR hA
            refine va_calli (va_runV (As := [.int 7, .int a21]) (rest := []) ⟨hx, hb, hml, hown, hts⟩ (rX7_breaks l g ad H.size U26 (7 : Int32) a21 hR.w  Q22 h0) (cwV 2 hts (gd_V kw_1276 kw_1278 kw_1279 kw_710 kw_1277) rfl rfl rfl (by decide +kernel) ⟨Nat.le_of_ble_eq_true rfl, Nat.le_of_ble_eq_true rfl⟩) ⟨cblind, va_recv hR.K hR.P (ci := 6) (q0 := 9) rfl (hR.at46 (hR.w.2.1 _ finC_2).2.1), fun U hU hW9 => cmk hU hW9 hR hex hE hFc⟩ rfl rfl hl.1 rfl (lv_room (Nat.le_of_ble_eq_true rfl)) dX7_flagsHold_61 ⟨Nat.le_of_ble_eq_true rfl, Nat.le_of_ble_eq_true rfl⟩) hR.sS (fun q _ h => hFc q h) hFc (fun r23 S24 t9 H1 locs ht9 hvm9 hw9 hB9 hz9 hk9 hS => ?_)
            obtain ⟨hq25, hw9, hs9, hz_r23⟩ := hw9
            have hR : RepC g ad A s S24 H1 locs := hR.call ht9 hB9 hw9 hS hFc
            have hsh := hsh.tr hs9
            replace h := h r23 S24 hq25 hw9 hs9
            clear hB9 hz9 hk9 hvm9 ht9 hw9 hs9 hS
            generalize H1 = H at hR ⊢
            exact W.zret (v := r23) hx hb hr (nz hz_r23) (fun t9 ht9 hW9 => ⟨⟨_, S24, rfl, ⟨h, hR.w, hsh, hz_r23⟩, ⟨by rw [ht9]; exact hR.P, hR.D⟩⟩, hR.sS.F ht9⟩) hR.sS.2.2 dX7_flagsHold_64
    obtain ⟨n9, h⟩ := h
    exact J_26 n9 S 0 _ _ ls h  hsh hR (lv_sub hl [1, 0] rfl)
  · replace h := h.2 (k_ne rfl (by decide) c5)
    refine lv_aload_n hx hb dX7_flagsHold_13 rfl (lv_at hl 0 rfl) ?_
    refine lv_bipush (v := 7) hx hb dX7_flagsHold_14 (by decide) ?_
    refine lv_aload_n hx hb dX7_flagsHold_16 rfl (lv_at hl 0 rfl) ?_
    refine va_get (D := rD g) (ci := 6) (v := .int (qI S 9 6)) (C := RX7) (T := TX7) (N := 17) hx hb hts inX7 hown hR.K hR.P 9 (hR.at46 (hR.w.2.1 _ finC_2).2.1) rfl 6 (by decide) (hts _ kw_1331) (fun _ h9 => h9) rfl dX7_flagsHold_17 ?_
    obtain ⟨Q26, h0, h⟩ := h
    have hFc := cfree hR hA
    refine va_calli (va_runV (As := [.int 7, .int (qI S 9 6)]) (rest := []) ⟨hx, hb, hml, hown, hts⟩ (rX7_breaks l g ad H.size S (7 : Int32) (qI S 9 6) hR.w  Q26 h0) (cwV 2 hts (gd_V kw_1276 kw_1278 kw_1279 kw_710 kw_1277) rfl rfl rfl (by decide +kernel) ⟨Nat.le_of_ble_eq_true rfl, Nat.le_of_ble_eq_true rfl⟩) ⟨cblind, va_recv hR.K hR.P (ci := 6) (q0 := 9) rfl (hR.at46 (hR.w.2.1 _ finC_2).2.1), fun U hU hW9 => cmk hU hW9 hR hex hE hFc⟩ rfl rfl hl.1 rfl (lv_room (Nat.le_of_ble_eq_true rfl)) dX7_flagsHold_20 ⟨Nat.le_of_ble_eq_true rfl, Nat.le_of_ble_eq_true rfl⟩) hR.sS (fun q _ h => hFc q h) hFc (fun r27 S28 t9 H1 locs ht9 hvm9 hw9 hB9 hz9 hk9 hS => ?_)
    obtain ⟨hq29, hw9, hs9, hz_r27⟩ := hw9
    have hR : RepC g ad A s S28 H1 locs := hR.call ht9 hB9 hw9 hS hFc
    have hsh := hsh.tr hs9
    replace h := h r27 S28 hq29 hw9 hs9
    clear hB9 hz9 hk9 hvm9 ht9 hw9 hs9 hS
    generalize H1 = H at hR ⊢
    exact W.zret (v := r27) hx hb hr (nz hz_r27) (fun t9 ht9 hW9 => ⟨⟨_, S28, rfl, ⟨h, hR.w, hsh, hz_r27⟩, ⟨by rw [ht9]; exact hR.P, hR.D⟩⟩, hR.sS.F ht9⟩) hR.sS.2.2 dX7_flagsHold_23
def w_X7_headHolds_J94 (Q : Int32 → MS → Prop) (U94 : MS) : Prop := (wfC U94 → Q (1 : Int32) U94)
def wX7_headHolds (S : MS) (Q : Int32 → MS → Prop) : Prop := (d_X7_u2 S ((qI S 9 6) + (2 : Int32)) ∧ (∀ a5 : Int32, a5 = (fX7_u2 S ((qI S 9 6) + (2 : Int32))) → (d_X7_tagOf S a5 ∧ (∀ a9 : Int32, a9 = (fX7_tagOf S a5) → ((a9.toInt = 7 → (d_X7_u2 S ((qI S 9 6) + (4 : Int32)) ∧ (∀ a15 : Int32, a15 = (fX7_u2 S ((qI S 9 6) + (4 : Int32))) → (d_X7_tagOf S a15 ∧ (∀ a19 : Int32, a19 = (fX7_tagOf S a15) → ((a19.toInt = 7 → (d_X7_u2 S ((qI S 9 6) + (6 : Int32)) ∧ (∀ a25 : Int32, a25 = (fX7_u2 S ((qI S 9 6) + (6 : Int32))) → ((a25.toInt = 0 → w_X7_headHolds_J94 Q S) ∧ (¬ a25.toInt = 0 → (∃ Q28, wX7_breaks S (8 : Int32) ((qI S 9 6) + (6 : Int32)) Q28 ∧ ∀ r29 S30, Q28 r29 S30 → wfC S30 → shy S S30 → ((r29.toInt = 0 → Q (0 : Int32) S30) ∧ (¬ r29.toInt = 0 → w_X7_headHolds_J94 Q S30)))))))) ∧ (¬ a19.toInt = 7 → (∃ Q34, wX7_breaks S (8 : Int32) ((qI S 9 6) + (4 : Int32)) Q34 ∧ ∀ r35 S36, Q34 r35 S36 → wfC S36 → shy S S36 → Q r35 S36)))))))) ∧ (¬ a9.toInt = 7 → (∃ Q39, wX7_breaks S (8 : Int32) ((qI S 9 6) + (2 : Int32)) Q39 ∧ ∀ r40 S41, Q39 r40 S41 → wfC S41 → shy S S41 → Q r40 S41)))))))
set_option maxHeartbeats 2000000 in
set_option maxRecDepth 100000 in
theorem rX7_headHolds (l : Launch) (g : Gr) (ad : Nat → Nat) (sz : Nat) (S : MS) (hw : wfC S) (Q : Int32 → MS → Prop) (h : wX7_headHolds S Q) : Met l yX7_headHolds (wt yX7_headHolds cX7_headHolds 1 (some .boolean)) ({ frames := 2, cells := 0, slots := 0, locals := 42 }) (va_Pc [.ref (ad 9)] (st_C g ad sz S)) (va_Qi (fun (r : Int32) (u : MS) => Q r u ∧ wfC u ∧ shy S u ∧ (r = 0 ∨ r = 1)) (fun (u : MS) (t : State) => qEC g ad (va_A (WdC g ad S) sz) u t) (va_A (WdC g ad S) sz)) 0 0 (va_A (WdC g ad S) sz) := by
  refine Met.ofW (cc := cX7_headHolds) (maxL := 1) (ret := (some .boolean)) (by decide) rfl ?_
  intro p e s m args below meth c s₁ B hml hv
  obtain ⟨rfl, hsz, hP, hK, hD0, hex, hE⟩ := hv
  have hx := B.exec
  have hb := B.bytes
  have hr := B.returns
  have hts0 := atoms_spec (ws := wt yX7_headHolds cX7_headHolds 1 (some .boolean)) B.pre
  have hts : ∀ w ∈ tb, w.before _ s = true := fun w h => hts0 w (List.mem_cons_of_mem _ h)
  have hown : s.vm.findClass RX7 = some m.cls := findClass_of_methodNamed B.named
  subst hsz
  have hD := hD0.self (sz := s.heap.size)
  generalize hAe : va_A (WdC g ad S) s.heap.size = A at hD hE ⊢
  have hA : ∀ q : Nat, s.heap.size ≤ q → A q := fun q h => by rw [← hAe]; exact Or.inr h
  have hR : RepC g ad A s S s.heap [] := ⟨hK, hP, hD, va_S.rf, hw⟩
  clear hK hP hD hD0
  have hl := lv_entry ([.ref (ad 9)]) (n := 1) (Nat.le_of_ble_eq_true rfl)
  rw [lg_entry_eq]
  generalize (lg_sl ([.ref (ad 9)]) ++ List.replicate (1 - (lg_sl ([.ref (ad 9)])).length) Slot.unset).toArray = ls at hl ⊢
  have hl : lv_has ls 1 [(0, .ref (ad 9))] := hl
  have hsh : shy S S := shy.rf
  unfold wX7_headHolds at h
  refine lv_aload_n hx hb dX7_headHolds_0 rfl (lv_at hl 0 rfl) ?_
  refine lv_aload_n hx hb dX7_headHolds_1 rfl (lv_at hl 0 rfl) ?_
  refine lv_aload_n hx hb dX7_headHolds_2 rfl (lv_at hl 0 rfl) ?_
  refine va_get (D := rD g) (ci := 6) (v := .int (qI S 9 6)) (C := RX7) (T := TX7) (N := 17) hx hb hts inX7 hown hR.K hR.P 9 (hR.at46 (hR.w.2.1 _ finC_2).2.1) rfl 6 (by decide) (hts _ kw_1331) (fun _ h9 => h9) rfl dX7_headHolds_3 ?_
  refine lv_iconst (v := 2) hx hb dX7_headHolds_6 (by decide) ?_
  refine lv_iadd hx hb dX7_headHolds_7 ?_
  refine lv_topi (fun z1 ez1 => ?_)
  obtain rfl : z1 = ((qI S 9 6) + (2 : Int32)) := ez1
  obtain ⟨hv2, h⟩ := h
  have hFc := cfree hR hA
  refine va_calli (va_runV (As := [.int ((qI S 9 6) + (2 : Int32))]) (rest := [.ref (ad 9)]) ⟨hx, hb, hml, hown, hts⟩ (rX7_u2 l g ad s.heap.size S ((qI S 9 6) + (2 : Int32)) hR.w  hv2) (cwV 1 hts (gd_V kw_1266 kw_1450 kw_1451 kw_710 kw_1449) rfl rfl rfl (by decide +kernel) ⟨Nat.le_of_ble_eq_true rfl, Nat.le_of_ble_eq_true rfl⟩) ⟨cblind, va_recv hR.K hR.P (ci := 6) (q0 := 9) rfl (hR.at46 (hR.w.2.1 _ finC_2).2.1), fun U hU hW9 => cmk hU hW9 hR hex hE hFc⟩ rfl rfl hl.1 rfl (lv_room (Nat.le_of_ble_eq_true rfl)) dX7_headHolds_8 ⟨Nat.le_of_ble_eq_true rfl, Nat.le_of_ble_eq_true rfl⟩) hR.sS (fun q _ h => hFc q h) hFc (fun r3 u9 t9 H1 locs ht9 hvm9 hw9 hB9 hz9 hk9 hS => ?_)
  have hR : RepC g ad A s S H1 locs := hR.call ht9 hB9 hR.w hS hFc
  obtain rfl : r3 = (fX7_u2 S ((qI S 9 6) + (2 : Int32))) := hw9
  clear hB9 hz9 hk9 hvm9 ht9 hS
  generalize H1 = H at hR ⊢
  obtain ⟨a5, ea5⟩ : ∃ z, z = (fX7_u2 S ((qI S 9 6) + (2 : Int32))) := ⟨_, rfl⟩
  rw [← ea5]
  replace h := h a5 ea5
  obtain ⟨hv6, h⟩ := h
  have hFc := cfree hR hA
  refine va_calli (va_runV (As := [.int a5]) (rest := []) ⟨hx, hb, hml, hown, hts⟩ (rX7_tagOf l g ad H.size S a5 hR.w  hv6) (cwV 1 hts (gd_V kw_1313 kw_1435 kw_1436 kw_710 kw_1434) rfl rfl rfl (by decide +kernel) ⟨Nat.le_of_ble_eq_true rfl, Nat.le_of_ble_eq_true rfl⟩) ⟨cblind, va_recv hR.K hR.P (ci := 6) (q0 := 9) rfl (hR.at46 (hR.w.2.1 _ finC_2).2.1), fun U hU hW9 => cmk hU hW9 hR hex hE hFc⟩ rfl rfl hl.1 rfl (lv_room (Nat.le_of_ble_eq_true rfl)) dX7_headHolds_11 ⟨Nat.le_of_ble_eq_true rfl, Nat.le_of_ble_eq_true rfl⟩) hR.sS (fun q _ h => hFc q h) hFc (fun r7 u9 t9 H1 locs ht9 hvm9 hw9 hB9 hz9 hk9 hS => ?_)
  have hR : RepC g ad A s S H1 locs := hR.call ht9 hB9 hR.w hS hFc
  obtain rfl : r7 = (fX7_tagOf S a5) := hw9
  clear hB9 hz9 hk9 hvm9 ht9 hS
  generalize H1 = H at hR ⊢
  obtain ⟨a9, ea9⟩ : ∃ z, z = (fX7_tagOf S a5) := ⟨_, rfl⟩
  rw [← ea9]
  replace h := h a9 ea9
  refine lv_bipush (v := 7) hx hb dX7_headHolds_14 (by decide) ?_
  refine lv_icmp_eq (tgt := 32) hx hb dX7_headHolds_16 (by decide) (fun c10 => ?_) (fun c10 => ?_)
  · replace h := h.1 (k_eq rfl (by decide) c10)
    refine lv_aload_n hx hb dX7_headHolds_32 rfl (lv_at hl 0 rfl) ?_
    refine lv_aload_n hx hb dX7_headHolds_33 rfl (lv_at hl 0 rfl) ?_
    refine lv_aload_n hx hb dX7_headHolds_34 rfl (lv_at hl 0 rfl) ?_
    refine va_get (D := rD g) (ci := 6) (v := .int (qI S 9 6)) (C := RX7) (T := TX7) (N := 17) hx hb hts inX7 hown hR.K hR.P 9 (hR.at46 (hR.w.2.1 _ finC_2).2.1) rfl 6 (by decide) (hts _ kw_1331) (fun _ h9 => h9) rfl dX7_headHolds_35 ?_
    refine lv_iconst (v := 4) hx hb dX7_headHolds_38 (by decide) ?_
    refine lv_iadd hx hb dX7_headHolds_39 ?_
    refine lv_topi (fun z11 ez11 => ?_)
    obtain rfl : z11 = ((qI S 9 6) + (4 : Int32)) := ez11
    obtain ⟨hv12, h⟩ := h
    have hFc := cfree hR hA
    refine va_calli (va_runV (As := [.int ((qI S 9 6) + (4 : Int32))]) (rest := [.ref (ad 9)]) ⟨hx, hb, hml, hown, hts⟩ (rX7_u2 l g ad H.size S ((qI S 9 6) + (4 : Int32)) hR.w  hv12) (cwV 1 hts (gd_V kw_1266 kw_1450 kw_1451 kw_710 kw_1449) rfl rfl rfl (by decide +kernel) ⟨Nat.le_of_ble_eq_true rfl, Nat.le_of_ble_eq_true rfl⟩) ⟨cblind, va_recv hR.K hR.P (ci := 6) (q0 := 9) rfl (hR.at46 (hR.w.2.1 _ finC_2).2.1), fun U hU hW9 => cmk hU hW9 hR hex hE hFc⟩ rfl rfl hl.1 rfl (lv_room (Nat.le_of_ble_eq_true rfl)) dX7_headHolds_40 ⟨Nat.le_of_ble_eq_true rfl, Nat.le_of_ble_eq_true rfl⟩) hR.sS (fun q _ h => hFc q h) hFc (fun r13 u9 t9 H1 locs ht9 hvm9 hw9 hB9 hz9 hk9 hS => ?_)
    have hR : RepC g ad A s S H1 locs := hR.call ht9 hB9 hR.w hS hFc
    obtain rfl : r13 = (fX7_u2 S ((qI S 9 6) + (4 : Int32))) := hw9
    clear hB9 hz9 hk9 hvm9 ht9 hS
    generalize H1 = H at hR ⊢
    obtain ⟨a15, ea15⟩ : ∃ z, z = (fX7_u2 S ((qI S 9 6) + (4 : Int32))) := ⟨_, rfl⟩
    rw [← ea15]
    replace h := h a15 ea15
    obtain ⟨hv16, h⟩ := h
    have hFc := cfree hR hA
    refine va_calli (va_runV (As := [.int a15]) (rest := []) ⟨hx, hb, hml, hown, hts⟩ (rX7_tagOf l g ad H.size S a15 hR.w  hv16) (cwV 1 hts (gd_V kw_1313 kw_1435 kw_1436 kw_710 kw_1434) rfl rfl rfl (by decide +kernel) ⟨Nat.le_of_ble_eq_true rfl, Nat.le_of_ble_eq_true rfl⟩) ⟨cblind, va_recv hR.K hR.P (ci := 6) (q0 := 9) rfl (hR.at46 (hR.w.2.1 _ finC_2).2.1), fun U hU hW9 => cmk hU hW9 hR hex hE hFc⟩ rfl rfl hl.1 rfl (lv_room (Nat.le_of_ble_eq_true rfl)) dX7_headHolds_43 ⟨Nat.le_of_ble_eq_true rfl, Nat.le_of_ble_eq_true rfl⟩) hR.sS (fun q _ h => hFc q h) hFc (fun r17 u9 t9 H1 locs ht9 hvm9 hw9 hB9 hz9 hk9 hS => ?_)
    have hR : RepC g ad A s S H1 locs := hR.call ht9 hB9 hR.w hS hFc
    obtain rfl : r17 = (fX7_tagOf S a15) := hw9
    clear hB9 hz9 hk9 hvm9 ht9 hS
    generalize H1 = H at hR ⊢
    obtain ⟨a19, ea19⟩ : ∃ z, z = (fX7_tagOf S a15) := ⟨_, rfl⟩
    rw [← ea19]
    replace h := h a19 ea19
    refine lv_bipush (v := 7) hx hb dX7_headHolds_46 (by decide) ?_
    refine lv_icmp_eq (tgt := 64) hx hb dX7_headHolds_48 (by decide) (fun c20 => ?_) (fun c20 => ?_)
    · replace h := h.1 (k_eq rfl (by decide) c20)
      refine lv_aload_n hx hb dX7_headHolds_64 rfl (lv_at hl 0 rfl) ?_
      refine lv_aload_n hx hb dX7_headHolds_65 rfl (lv_at hl 0 rfl) ?_
      refine va_get (D := rD g) (ci := 6) (v := .int (qI S 9 6)) (C := RX7) (T := TX7) (N := 17) hx hb hts inX7 hown hR.K hR.P 9 (hR.at46 (hR.w.2.1 _ finC_2).2.1) rfl 6 (by decide) (hts _ kw_1331) (fun _ h9 => h9) rfl dX7_headHolds_66 ?_
      refine lv_bipush (v := 6) hx hb dX7_headHolds_69 (by decide) ?_
      refine lv_iadd hx hb dX7_headHolds_71 ?_
      refine lv_topi (fun z21 ez21 => ?_)
      obtain rfl : z21 = ((qI S 9 6) + (6 : Int32)) := ez21
      obtain ⟨hv22, h⟩ := h
      have hFc := cfree hR hA
      refine va_calli (va_runV (As := [.int ((qI S 9 6) + (6 : Int32))]) (rest := []) ⟨hx, hb, hml, hown, hts⟩ (rX7_u2 l g ad H.size S ((qI S 9 6) + (6 : Int32)) hR.w  hv22) (cwV 1 hts (gd_V kw_1266 kw_1450 kw_1451 kw_710 kw_1449) rfl rfl rfl (by decide +kernel) ⟨Nat.le_of_ble_eq_true rfl, Nat.le_of_ble_eq_true rfl⟩) ⟨cblind, va_recv hR.K hR.P (ci := 6) (q0 := 9) rfl (hR.at46 (hR.w.2.1 _ finC_2).2.1), fun U hU hW9 => cmk hU hW9 hR hex hE hFc⟩ rfl rfl hl.1 rfl (lv_room (Nat.le_of_ble_eq_true rfl)) dX7_headHolds_72 ⟨Nat.le_of_ble_eq_true rfl, Nat.le_of_ble_eq_true rfl⟩) hR.sS (fun q _ h => hFc q h) hFc (fun r23 u9 t9 H1 locs ht9 hvm9 hw9 hB9 hz9 hk9 hS => ?_)
      have hR : RepC g ad A s S H1 locs := hR.call ht9 hB9 hR.w hS hFc
      obtain rfl : r23 = (fX7_u2 S ((qI S 9 6) + (6 : Int32))) := hw9
      clear hB9 hz9 hk9 hvm9 ht9 hS
      generalize H1 = H at hR ⊢
      obtain ⟨a25, ea25⟩ : ∃ z, z = (fX7_u2 S ((qI S 9 6) + (6 : Int32))) := ⟨_, rfl⟩
      rw [← ea25]
      replace h := h a25 ea25
      have J_94 : ∀ (U94 : MS) (H : Heap) (locs : List Loc) (ls : Array Slot), w_X7_headHolds_J94 Q U94 → shy S U94 → RepC g ad A s U94 H locs → lv_has ls 1 [] → W p l e (headSpec (wt yX7_headHolds cX7_headHolds 1 (some .boolean)) ({ frames := 2, cells := 0, slots := 0, locals := 42 })).room s m ([.ref (ad 9)] : List Value).toArray below meth c H locs 0 0 (MQ below (va_Qi (fun (r : Int32) (u : MS) => Q r u ∧ wfC u ∧ shy S u ∧ (r = 0 ∨ r = 1)) (fun (u : MS) (t : State) => qEC g ad A u t) A) ([.ref (ad 9)] : List Value).toArray s 0 0 A) (F0 m 94 ls []) := by
        intro U94 H locs ls h hsh hR hl
        unfold w_X7_headHolds_J94 at h
        replace h := h hR.w
        refine lv_iconst (v := 1) hx hb dX7_headHolds_94 (by decide) ?_
        refine lv_goto (tgt := 99) hx hb dX7_headHolds_95 (by decide) ?_
        exact W.zret (v := 1) hx hb hr (nz (Or.inr rfl)) (fun t9 ht9 hW9 => ⟨⟨_, U94, rfl, ⟨h, hR.w, hsh, (Or.inr rfl)⟩, ⟨by rw [ht9]; exact hR.P, hR.D⟩⟩, hR.sS.F ht9⟩) hR.sS.2.2 dX7_headHolds_99
      refine lv_if_eq (tgt := 94) hx hb dX7_headHolds_75 (by decide) (fun c26 => ?_) (fun c26 => ?_)
      · replace h := h.1 (k_eq rfl (by decide) c26)
        exact J_94 S _ _ ls h  hsh hR (lv_sub hl [] rfl)
      · replace h := h.2 (k_ne rfl (by decide) c26)
        refine lv_aload_n hx hb dX7_headHolds_78 rfl (lv_at hl 0 rfl) ?_
        refine lv_bipush (v := 8) hx hb dX7_headHolds_79 (by decide) ?_
        refine lv_aload_n hx hb dX7_headHolds_81 rfl (lv_at hl 0 rfl) ?_
        refine va_get (D := rD g) (ci := 6) (v := .int (qI S 9 6)) (C := RX7) (T := TX7) (N := 17) hx hb hts inX7 hown hR.K hR.P 9 (hR.at46 (hR.w.2.1 _ finC_2).2.1) rfl 6 (by decide) (hts _ kw_1331) (fun _ h9 => h9) rfl dX7_headHolds_82 ?_
        refine lv_bipush (v := 6) hx hb dX7_headHolds_85 (by decide) ?_
        refine lv_iadd hx hb dX7_headHolds_87 ?_
        refine lv_topi (fun z27 ez27 => ?_)
        obtain rfl : z27 = ((qI S 9 6) + (6 : Int32)) := ez27
        obtain ⟨Q28, h0, h⟩ := h
        have hFc := cfree hR hA
        refine va_calli (va_runV (As := [.int 8, .int ((qI S 9 6) + (6 : Int32))]) (rest := []) ⟨hx, hb, hml, hown, hts⟩ (rX7_breaks l g ad H.size S (8 : Int32) ((qI S 9 6) + (6 : Int32)) hR.w  Q28 h0) (cwV 2 hts (gd_V kw_1276 kw_1278 kw_1279 kw_710 kw_1277) rfl rfl rfl (by decide +kernel) ⟨Nat.le_of_ble_eq_true rfl, Nat.le_of_ble_eq_true rfl⟩) ⟨cblind, va_recv hR.K hR.P (ci := 6) (q0 := 9) rfl (hR.at46 (hR.w.2.1 _ finC_2).2.1), fun U hU hW9 => cmk hU hW9 hR hex hE hFc⟩ rfl rfl hl.1 rfl (lv_room (Nat.le_of_ble_eq_true rfl)) dX7_headHolds_88 ⟨Nat.le_of_ble_eq_true rfl, Nat.le_of_ble_eq_true rfl⟩) hR.sS (fun q _ h => hFc q h) hFc (fun r29 S30 t9 H1 locs ht9 hvm9 hw9 hB9 hz9 hk9 hS => ?_)
        obtain ⟨hq31, hw9, hs9, hz_r29⟩ := hw9
        have hR : RepC g ad A s S30 H1 locs := hR.call ht9 hB9 hw9 hS hFc
        have hsh := hsh.tr hs9
        replace h := h r29 S30 hq31 hw9 hs9
        clear hB9 hz9 hk9 hvm9 ht9 hw9 hs9 hS
        generalize H1 = H at hR ⊢
        refine lv_if_eq (tgt := 98) hx hb dX7_headHolds_91 (by decide) (fun c32 => ?_) (fun c32 => ?_)
        · replace h := h.1 (k_eq rfl (by decide) c32)
          refine lv_iconst (v := 0) hx hb dX7_headHolds_98 (by decide) ?_
          exact W.zret (v := 0) hx hb hr (nz (Or.inl rfl)) (fun t9 ht9 hW9 => ⟨⟨_, S30, rfl, ⟨h, hR.w, hsh, (Or.inl rfl)⟩, ⟨by rw [ht9]; exact hR.P, hR.D⟩⟩, hR.sS.F ht9⟩) hR.sS.2.2 dX7_headHolds_99
        · replace h := h.2 (k_ne rfl (by decide) c32)
          exact J_94 S30 _ _ ls h  hsh hR (lv_sub hl [] rfl)
    · replace h := h.2 (k_ne rfl (by decide) c20)
      refine lv_aload_n hx hb dX7_headHolds_51 rfl (lv_at hl 0 rfl) ?_
      refine lv_bipush (v := 8) hx hb dX7_headHolds_52 (by decide) ?_
      refine lv_aload_n hx hb dX7_headHolds_54 rfl (lv_at hl 0 rfl) ?_
      refine va_get (D := rD g) (ci := 6) (v := .int (qI S 9 6)) (C := RX7) (T := TX7) (N := 17) hx hb hts inX7 hown hR.K hR.P 9 (hR.at46 (hR.w.2.1 _ finC_2).2.1) rfl 6 (by decide) (hts _ kw_1331) (fun _ h9 => h9) rfl dX7_headHolds_55 ?_
      refine lv_iconst (v := 4) hx hb dX7_headHolds_58 (by decide) ?_
      refine lv_iadd hx hb dX7_headHolds_59 ?_
      refine lv_topi (fun z33 ez33 => ?_)
      obtain rfl : z33 = ((qI S 9 6) + (4 : Int32)) := ez33
      obtain ⟨Q34, h0, h⟩ := h
      have hFc := cfree hR hA
      refine va_calli (va_runV (As := [.int 8, .int ((qI S 9 6) + (4 : Int32))]) (rest := []) ⟨hx, hb, hml, hown, hts⟩ (rX7_breaks l g ad H.size S (8 : Int32) ((qI S 9 6) + (4 : Int32)) hR.w  Q34 h0) (cwV 2 hts (gd_V kw_1276 kw_1278 kw_1279 kw_710 kw_1277) rfl rfl rfl (by decide +kernel) ⟨Nat.le_of_ble_eq_true rfl, Nat.le_of_ble_eq_true rfl⟩) ⟨cblind, va_recv hR.K hR.P (ci := 6) (q0 := 9) rfl (hR.at46 (hR.w.2.1 _ finC_2).2.1), fun U hU hW9 => cmk hU hW9 hR hex hE hFc⟩ rfl rfl hl.1 rfl (lv_room (Nat.le_of_ble_eq_true rfl)) dX7_headHolds_60 ⟨Nat.le_of_ble_eq_true rfl, Nat.le_of_ble_eq_true rfl⟩) hR.sS (fun q _ h => hFc q h) hFc (fun r35 S36 t9 H1 locs ht9 hvm9 hw9 hB9 hz9 hk9 hS => ?_)
      obtain ⟨hq37, hw9, hs9, hz_r35⟩ := hw9
      have hR : RepC g ad A s S36 H1 locs := hR.call ht9 hB9 hw9 hS hFc
      have hsh := hsh.tr hs9
      replace h := h r35 S36 hq37 hw9 hs9
      clear hB9 hz9 hk9 hvm9 ht9 hw9 hs9 hS
      generalize H1 = H at hR ⊢
      exact W.zret (v := r35) hx hb hr (nz hz_r35) (fun t9 ht9 hW9 => ⟨⟨_, S36, rfl, ⟨h, hR.w, hsh, hz_r35⟩, ⟨by rw [ht9]; exact hR.P, hR.D⟩⟩, hR.sS.F ht9⟩) hR.sS.2.2 dX7_headHolds_63
  · replace h := h.2 (k_ne rfl (by decide) c10)
    refine lv_aload_n hx hb dX7_headHolds_19 rfl (lv_at hl 0 rfl) ?_
    refine lv_bipush (v := 8) hx hb dX7_headHolds_20 (by decide) ?_
    refine lv_aload_n hx hb dX7_headHolds_22 rfl (lv_at hl 0 rfl) ?_
    refine va_get (D := rD g) (ci := 6) (v := .int (qI S 9 6)) (C := RX7) (T := TX7) (N := 17) hx hb hts inX7 hown hR.K hR.P 9 (hR.at46 (hR.w.2.1 _ finC_2).2.1) rfl 6 (by decide) (hts _ kw_1331) (fun _ h9 => h9) rfl dX7_headHolds_23 ?_
    refine lv_iconst (v := 2) hx hb dX7_headHolds_26 (by decide) ?_
    refine lv_iadd hx hb dX7_headHolds_27 ?_
    refine lv_topi (fun z38 ez38 => ?_)
    obtain rfl : z38 = ((qI S 9 6) + (2 : Int32)) := ez38
    obtain ⟨Q39, h0, h⟩ := h
    have hFc := cfree hR hA
    refine va_calli (va_runV (As := [.int 8, .int ((qI S 9 6) + (2 : Int32))]) (rest := []) ⟨hx, hb, hml, hown, hts⟩ (rX7_breaks l g ad H.size S (8 : Int32) ((qI S 9 6) + (2 : Int32)) hR.w  Q39 h0) (cwV 2 hts (gd_V kw_1276 kw_1278 kw_1279 kw_710 kw_1277) rfl rfl rfl (by decide +kernel) ⟨Nat.le_of_ble_eq_true rfl, Nat.le_of_ble_eq_true rfl⟩) ⟨cblind, va_recv hR.K hR.P (ci := 6) (q0 := 9) rfl (hR.at46 (hR.w.2.1 _ finC_2).2.1), fun U hU hW9 => cmk hU hW9 hR hex hE hFc⟩ rfl rfl hl.1 rfl (lv_room (Nat.le_of_ble_eq_true rfl)) dX7_headHolds_28 ⟨Nat.le_of_ble_eq_true rfl, Nat.le_of_ble_eq_true rfl⟩) hR.sS (fun q _ h => hFc q h) hFc (fun r40 S41 t9 H1 locs ht9 hvm9 hw9 hB9 hz9 hk9 hS => ?_)
    obtain ⟨hq42, hw9, hs9, hz_r40⟩ := hw9
    have hR : RepC g ad A s S41 H1 locs := hR.call ht9 hB9 hw9 hS hFc
    have hsh := hsh.tr hs9
    replace h := h r40 S41 hq42 hw9 hs9
    clear hB9 hz9 hk9 hvm9 ht9 hw9 hs9 hS
    generalize H1 = H at hR ⊢
    exact W.zret (v := r40) hx hb hr (nz hz_r40) (fun t9 ht9 hW9 => ⟨⟨_, S41, rfl, ⟨h, hR.w, hsh, hz_r40⟩, ⟨by rw [ht9]; exact hR.P, hR.D⟩⟩, hR.sS.F ht9⟩) hR.sS.2.2 dX7_headHolds_31
def w_X7_isNameAt_J23 (Q : Int32 → MS → Prop) (U23 : MS) : Prop := (wfC U23 → Q (1 : Int32) U23)
def wX7_isNameAt (S : MS) (x1 : Int32) (Q : Int32 → MS → Prop) : Prop := (d_X7_u2 S x1 ∧ (∀ a4 : Int32, a4 = (fX7_u2 S x1) → (d_X7_tagOf S a4 ∧ (∀ a8 : Int32, a8 = (fX7_tagOf S a4) → ((a8.toInt = 1 → w_X7_isNameAt_J23 Q S) ∧ (¬ a8.toInt = 1 → (∃ Q10, wX7_breaks S (9 : Int32) x1 Q10 ∧ ∀ r11 S12, Q10 r11 S12 → wfC S12 → shy S S12 → ((r11.toInt = 0 → Q (0 : Int32) S12) ∧ (¬ r11.toInt = 0 → w_X7_isNameAt_J23 Q S12)))))))))
set_option maxHeartbeats 2000000 in
set_option maxRecDepth 100000 in
theorem rX7_isNameAt (l : Launch) (g : Gr) (ad : Nat → Nat) (sz : Nat) (S : MS) (x1 : Int32) (hw : wfC S) (Q : Int32 → MS → Prop) (h : wX7_isNameAt S x1 Q) : Met l yX7_isNameAt (wt yX7_isNameAt cX7_isNameAt 2 (some .boolean)) ({ frames := 2, cells := 0, slots := 0, locals := 42 }) (va_Pc [.ref (ad 9), .int x1] (st_C g ad sz S)) (va_Qi (fun (r : Int32) (u : MS) => Q r u ∧ wfC u ∧ shy S u ∧ (r = 0 ∨ r = 1)) (fun (u : MS) (t : State) => qEC g ad (va_A (WdC g ad S) sz) u t) (va_A (WdC g ad S) sz)) 0 0 (va_A (WdC g ad S) sz) := by
  refine Met.ofW (cc := cX7_isNameAt) (maxL := 2) (ret := (some .boolean)) (by decide) rfl ?_
  intro p e s m args below meth c s₁ B hml hv
  obtain ⟨rfl, hsz, hP, hK, hD0, hex, hE⟩ := hv
  have hx := B.exec
  have hb := B.bytes
  have hr := B.returns
  have hts0 := atoms_spec (ws := wt yX7_isNameAt cX7_isNameAt 2 (some .boolean)) B.pre
  have hts : ∀ w ∈ tb, w.before _ s = true := fun w h => hts0 w (List.mem_cons_of_mem _ h)
  have hown : s.vm.findClass RX7 = some m.cls := findClass_of_methodNamed B.named
  subst hsz
  have hD := hD0.self (sz := s.heap.size)
  generalize hAe : va_A (WdC g ad S) s.heap.size = A at hD hE ⊢
  have hA : ∀ q : Nat, s.heap.size ≤ q → A q := fun q h => by rw [← hAe]; exact Or.inr h
  have hR : RepC g ad A s S s.heap [] := ⟨hK, hP, hD, va_S.rf, hw⟩
  clear hK hP hD hD0
  have hl := lv_entry ([.ref (ad 9), .int x1]) (n := 2) (Nat.le_of_ble_eq_true rfl)
  rw [lg_entry_eq]
  generalize (lg_sl ([.ref (ad 9), .int x1]) ++ List.replicate (2 - (lg_sl ([.ref (ad 9), .int x1])).length) Slot.unset).toArray = ls at hl ⊢
  have hl : lv_has ls 2 [(0, .ref (ad 9)), (1, .int x1)] := hl
  have hsh : shy S S := shy.rf
  unfold wX7_isNameAt at h
  refine lv_aload_n hx hb dX7_isNameAt_0 rfl (lv_at hl 0 rfl) ?_
  refine lv_aload_n hx hb dX7_isNameAt_1 rfl (lv_at hl 0 rfl) ?_
  refine lv_iload_n hx hb dX7_isNameAt_2 rfl (lv_at hl 1 rfl) ?_
  obtain ⟨hv1, h⟩ := h
  have hFc := cfree hR hA
  refine va_calli (va_runV (As := [.int x1]) (rest := [.ref (ad 9)]) ⟨hx, hb, hml, hown, hts⟩ (rX7_u2 l g ad s.heap.size S x1 hR.w  hv1) (cwV 1 hts (gd_V kw_1266 kw_1450 kw_1451 kw_710 kw_1449) rfl rfl rfl (by decide +kernel) ⟨Nat.le_of_ble_eq_true rfl, Nat.le_of_ble_eq_true rfl⟩) ⟨cblind, va_recv hR.K hR.P (ci := 6) (q0 := 9) rfl (hR.at46 (hR.w.2.1 _ finC_2).2.1), fun U hU hW9 => cmk hU hW9 hR hex hE hFc⟩ rfl rfl hl.1 rfl (lv_room (Nat.le_of_ble_eq_true rfl)) dX7_isNameAt_3 ⟨Nat.le_of_ble_eq_true rfl, Nat.le_of_ble_eq_true rfl⟩) hR.sS (fun q _ h => hFc q h) hFc (fun r2 u9 t9 H1 locs ht9 hvm9 hw9 hB9 hz9 hk9 hS => ?_)
  have hR : RepC g ad A s S H1 locs := hR.call ht9 hB9 hR.w hS hFc
  obtain rfl : r2 = (fX7_u2 S x1) := hw9
  clear hB9 hz9 hk9 hvm9 ht9 hS
  generalize H1 = H at hR ⊢
  obtain ⟨a4, ea4⟩ : ∃ z, z = (fX7_u2 S x1) := ⟨_, rfl⟩
  rw [← ea4]
  replace h := h a4 ea4
  obtain ⟨hv5, h⟩ := h
  have hFc := cfree hR hA
  refine va_calli (va_runV (As := [.int a4]) (rest := []) ⟨hx, hb, hml, hown, hts⟩ (rX7_tagOf l g ad H.size S a4 hR.w  hv5) (cwV 1 hts (gd_V kw_1313 kw_1435 kw_1436 kw_710 kw_1434) rfl rfl rfl (by decide +kernel) ⟨Nat.le_of_ble_eq_true rfl, Nat.le_of_ble_eq_true rfl⟩) ⟨cblind, va_recv hR.K hR.P (ci := 6) (q0 := 9) rfl (hR.at46 (hR.w.2.1 _ finC_2).2.1), fun U hU hW9 => cmk hU hW9 hR hex hE hFc⟩ rfl rfl hl.1 rfl (lv_room (Nat.le_of_ble_eq_true rfl)) dX7_isNameAt_6 ⟨Nat.le_of_ble_eq_true rfl, Nat.le_of_ble_eq_true rfl⟩) hR.sS (fun q _ h => hFc q h) hFc (fun r6 u9 t9 H1 locs ht9 hvm9 hw9 hB9 hz9 hk9 hS => ?_)
  have hR : RepC g ad A s S H1 locs := hR.call ht9 hB9 hR.w hS hFc
  obtain rfl : r6 = (fX7_tagOf S a4) := hw9
  clear hB9 hz9 hk9 hvm9 ht9 hS
  generalize H1 = H at hR ⊢
  obtain ⟨a8, ea8⟩ : ∃ z, z = (fX7_tagOf S a4) := ⟨_, rfl⟩
  rw [← ea8]
  replace h := h a8 ea8
  refine lv_iconst (v := 1) hx hb dX7_isNameAt_9 (by decide) ?_
  have J_23 : ∀ (U23 : MS) (H : Heap) (locs : List Loc) (ls : Array Slot), w_X7_isNameAt_J23 Q U23 → shy S U23 → RepC g ad A s U23 H locs → lv_has ls 2 [] → W p l e (headSpec (wt yX7_isNameAt cX7_isNameAt 2 (some .boolean)) ({ frames := 2, cells := 0, slots := 0, locals := 42 })).room s m ([.ref (ad 9), .int x1] : List Value).toArray below meth c H locs 0 0 (MQ below (va_Qi (fun (r : Int32) (u : MS) => Q r u ∧ wfC u ∧ shy S u ∧ (r = 0 ∨ r = 1)) (fun (u : MS) (t : State) => qEC g ad A u t) A) ([.ref (ad 9), .int x1] : List Value).toArray s 0 0 A) (F0 m 23 ls []) := by
    intro U23 H locs ls h hsh hR hl
    unfold w_X7_isNameAt_J23 at h
    replace h := h hR.w
    refine lv_iconst (v := 1) hx hb dX7_isNameAt_23 (by decide) ?_
    refine lv_goto (tgt := 28) hx hb dX7_isNameAt_24 (by decide) ?_
    exact W.zret (v := 1) hx hb hr (nz (Or.inr rfl)) (fun t9 ht9 hW9 => ⟨⟨_, U23, rfl, ⟨h, hR.w, hsh, (Or.inr rfl)⟩, ⟨by rw [ht9]; exact hR.P, hR.D⟩⟩, hR.sS.F ht9⟩) hR.sS.2.2 dX7_isNameAt_28
  refine lv_icmp_eq (tgt := 23) hx hb dX7_isNameAt_10 (by decide) (fun c9 => ?_) (fun c9 => ?_)
  · replace h := h.1 (k_eq rfl (by decide) c9)
    exact J_23 S _ _ ls h  hsh hR (lv_sub hl [] rfl)
  · replace h := h.2 (k_ne rfl (by decide) c9)
    refine lv_aload_n hx hb dX7_isNameAt_13 rfl (lv_at hl 0 rfl) ?_
    refine lv_bipush (v := 9) hx hb dX7_isNameAt_14 (by decide) ?_
    refine lv_iload_n hx hb dX7_isNameAt_16 rfl (lv_at hl 1 rfl) ?_
    obtain ⟨Q10, h0, h⟩ := h
    have hFc := cfree hR hA
    refine va_calli (va_runV (As := [.int 9, .int x1]) (rest := []) ⟨hx, hb, hml, hown, hts⟩ (rX7_breaks l g ad H.size S (9 : Int32) x1 hR.w  Q10 h0) (cwV 2 hts (gd_V kw_1276 kw_1278 kw_1279 kw_710 kw_1277) rfl rfl rfl (by decide +kernel) ⟨Nat.le_of_ble_eq_true rfl, Nat.le_of_ble_eq_true rfl⟩) ⟨cblind, va_recv hR.K hR.P (ci := 6) (q0 := 9) rfl (hR.at46 (hR.w.2.1 _ finC_2).2.1), fun U hU hW9 => cmk hU hW9 hR hex hE hFc⟩ rfl rfl hl.1 rfl (lv_room (Nat.le_of_ble_eq_true rfl)) dX7_isNameAt_17 ⟨Nat.le_of_ble_eq_true rfl, Nat.le_of_ble_eq_true rfl⟩) hR.sS (fun q _ h => hFc q h) hFc (fun r11 S12 t9 H1 locs ht9 hvm9 hw9 hB9 hz9 hk9 hS => ?_)
    obtain ⟨hq13, hw9, hs9, hz_r11⟩ := hw9
    have hR : RepC g ad A s S12 H1 locs := hR.call ht9 hB9 hw9 hS hFc
    have hsh := hsh.tr hs9
    replace h := h r11 S12 hq13 hw9 hs9
    clear hB9 hz9 hk9 hvm9 ht9 hw9 hs9 hS
    generalize H1 = H at hR ⊢
    refine lv_if_eq (tgt := 27) hx hb dX7_isNameAt_20 (by decide) (fun c14 => ?_) (fun c14 => ?_)
    · replace h := h.1 (k_eq rfl (by decide) c14)
      refine lv_iconst (v := 0) hx hb dX7_isNameAt_27 (by decide) ?_
      exact W.zret (v := 0) hx hb hr (nz (Or.inl rfl)) (fun t9 ht9 hW9 => ⟨⟨_, S12, rfl, ⟨h, hR.w, hsh, (Or.inl rfl)⟩, ⟨by rw [ht9]; exact hR.P, hR.D⟩⟩, hR.sS.F ht9⟩) hR.sS.2.2 dX7_isNameAt_28
    · replace h := h.2 (k_ne rfl (by decide) c14)
      exact J_23 S12 _ _ ls h  hsh hR (lv_sub hl [] rfl)
def w_X7_attributeNamesHold_L13 (Q : Int32 → MS → Prop) : Nat → MS → Int32 → Int32 → Int32 → Prop
  | 0, _, _, _, _ => False
  | n13 + 1, U13, v13_2, v13_3, v13_4 => (wfC U13 → ((v13_2.toInt ≤ v13_4.toInt → Q (1 : Int32) U13) ∧ (¬ v13_2.toInt ≤ v13_4.toInt → (∃ Q8, wX7_isNameAt U13 v13_3 Q8 ∧ ∀ r9 S10, Q8 r9 S10 → wfC S10 → shy U13 S10 → ((r9.toInt = 0 → Q (0 : Int32) S10) ∧ (¬ r9.toInt = 0 → (d_X7_s4 S10 (v13_3 + (2 : Int32)) ∧ (∀ a19 : Int32, a19 = (v13_3 + ((6 : Int32) + (fX7_s4 S10 (v13_3 + (2 : Int32))))) → (∀ a20 : Int32, a20 = (v13_4 + Int32.ofInt 1) → (w_X7_attributeNamesHold_L13 Q n13) S10 v13_2 a19 a20)))))))))
def wX7_attributeNamesHold (S : MS) (x1 : Int32) (Q : Int32 → MS → Prop) : Prop := (d_X7_u2 S x1 ∧ (∀ a4 : Int32, a4 = (fX7_u2 S x1) → (∀ a6 : Int32, a6 = (x1 + (2 : Int32)) → (∃ n, w_X7_attributeNamesHold_L13 Q n S a4 a6 0))))
set_option maxHeartbeats 2000000 in
set_option maxRecDepth 100000 in
theorem rX7_attributeNamesHold (l : Launch) (g : Gr) (ad : Nat → Nat) (sz : Nat) (S : MS) (x1 : Int32) (hw : wfC S) (Q : Int32 → MS → Prop) (h : wX7_attributeNamesHold S x1 Q) : Met l yX7_attributeNamesHold (wt yX7_attributeNamesHold cX7_attributeNamesHold 5 (some .boolean)) ({ frames := 3, cells := 0, slots := 0, locals := 63 }) (va_Pc [.ref (ad 9), .int x1] (st_C g ad sz S)) (va_Qi (fun (r : Int32) (u : MS) => Q r u ∧ wfC u ∧ shy S u ∧ (r = 0 ∨ r = 1)) (fun (u : MS) (t : State) => qEC g ad (va_A (WdC g ad S) sz) u t) (va_A (WdC g ad S) sz)) 0 0 (va_A (WdC g ad S) sz) := by
  refine Met.ofW (cc := cX7_attributeNamesHold) (maxL := 5) (ret := (some .boolean)) (by decide) rfl ?_
  intro p e s m args below meth c s₁ B hml hv
  obtain ⟨rfl, hsz, hP, hK, hD0, hex, hE⟩ := hv
  have hx := B.exec
  have hb := B.bytes
  have hr := B.returns
  have hts0 := atoms_spec (ws := wt yX7_attributeNamesHold cX7_attributeNamesHold 5 (some .boolean)) B.pre
  have hts : ∀ w ∈ tb, w.before _ s = true := fun w h => hts0 w (List.mem_cons_of_mem _ h)
  have hown : s.vm.findClass RX7 = some m.cls := findClass_of_methodNamed B.named
  subst hsz
  have hD := hD0.self (sz := s.heap.size)
  generalize hAe : va_A (WdC g ad S) s.heap.size = A at hD hE ⊢
  have hA : ∀ q : Nat, s.heap.size ≤ q → A q := fun q h => by rw [← hAe]; exact Or.inr h
  have hR : RepC g ad A s S s.heap [] := ⟨hK, hP, hD, va_S.rf, hw⟩
  clear hK hP hD hD0
  have hl := lv_entry ([.ref (ad 9), .int x1]) (n := 5) (Nat.le_of_ble_eq_true rfl)
  rw [lg_entry_eq]
  generalize (lg_sl ([.ref (ad 9), .int x1]) ++ List.replicate (5 - (lg_sl ([.ref (ad 9), .int x1])).length) Slot.unset).toArray = ls at hl ⊢
  have hl : lv_has ls 5 [(0, .ref (ad 9)), (1, .int x1)] := hl
  have hsh : shy S S := shy.rf
  unfold wX7_attributeNamesHold at h
  refine lv_aload_n hx hb dX7_attributeNamesHold_0 rfl (lv_at hl 0 rfl) ?_
  refine lv_iload_n hx hb dX7_attributeNamesHold_1 rfl (lv_at hl 1 rfl) ?_
  obtain ⟨hv1, h⟩ := h
  have hFc := cfree hR hA
  refine va_calli (va_runV (As := [.int x1]) (rest := []) ⟨hx, hb, hml, hown, hts⟩ (rX7_u2 l g ad s.heap.size S x1 hR.w  hv1) (cwV 1 hts (gd_V kw_1266 kw_1450 kw_1451 kw_710 kw_1449) rfl rfl rfl (by decide +kernel) ⟨Nat.le_of_ble_eq_true rfl, Nat.le_of_ble_eq_true rfl⟩) ⟨cblind, va_recv hR.K hR.P (ci := 6) (q0 := 9) rfl (hR.at46 (hR.w.2.1 _ finC_2).2.1), fun U hU hW9 => cmk hU hW9 hR hex hE hFc⟩ rfl rfl hl.1 rfl (lv_room (Nat.le_of_ble_eq_true rfl)) dX7_attributeNamesHold_2 ⟨Nat.le_of_ble_eq_true rfl, Nat.le_of_ble_eq_true rfl⟩) hR.sS (fun q _ h => hFc q h) hFc (fun r2 u9 t9 H1 locs ht9 hvm9 hw9 hB9 hz9 hk9 hS => ?_)
  have hR : RepC g ad A s S H1 locs := hR.call ht9 hB9 hR.w hS hFc
  obtain rfl : r2 = (fX7_u2 S x1) := hw9
  clear hB9 hz9 hk9 hvm9 ht9 hS
  generalize H1 = H at hR ⊢
  obtain ⟨a4, ea4⟩ : ∃ z, z = (fX7_u2 S x1) := ⟨_, rfl⟩
  rw [← ea4]
  replace h := h a4 ea4
  refine lv_istore_n (lv' := [(2, .int a4), (0, .ref (ad 9)), (1, .int x1)]) hx hb dX7_attributeNamesHold_5 rfl hl (by decide) rfl (fun ls hl => ?_)
  refine lv_iload_n hx hb dX7_attributeNamesHold_6 rfl (lv_at hl 2 rfl) ?_
  refine lv_iconst (v := 2) hx hb dX7_attributeNamesHold_7 (by decide) ?_
  refine lv_iadd hx hb dX7_attributeNamesHold_8 ?_
  refine lv_topi (fun z5 ez5 => ?_)
  obtain rfl : z5 = (x1 + (2 : Int32)) := ez5
  obtain ⟨a6, ea6⟩ : ∃ z, z = (x1 + (2 : Int32)) := ⟨_, rfl⟩
  rw [← ea6]
  replace h := h a6 ea6
  refine lv_istore_n (lv' := [(3, .int a6), (2, .int a4), (0, .ref (ad 9)), (1, .int x1)]) hx hb dX7_attributeNamesHold_9 rfl hl (by decide) rfl (fun ls hl => ?_)
  refine lv_iconst (v := 0) hx hb dX7_attributeNamesHold_10 (by decide) ?_
  refine lv_istore (lv' := [(4, .int 0), (3, .int a6), (2, .int a4), (0, .ref (ad 9)), (1, .int x1)]) hx hb dX7_attributeNamesHold_11 hl (by decide) rfl (fun ls hl => ?_)
  have J_13 : ∀ (n13 : Nat) (U13 : MS) (v13_2 : Int32) (v13_3 : Int32) (v13_4 : Int32) (H : Heap) (locs : List Loc) (ls : Array Slot), w_X7_attributeNamesHold_L13 Q n13 U13 v13_2 v13_3 v13_4 → shy S U13 → RepC g ad A s U13 H locs → lv_has ls 5 [(0, .ref (ad 9)), (2, .int v13_2), (3, .int v13_3), (4, .int v13_4)] → W p l e (headSpec (wt yX7_attributeNamesHold cX7_attributeNamesHold 5 (some .boolean)) ({ frames := 3, cells := 0, slots := 0, locals := 63 })).room s m ([.ref (ad 9), .int x1] : List Value).toArray below meth c H locs 0 0 (MQ below (va_Qi (fun (r : Int32) (u : MS) => Q r u ∧ wfC u ∧ shy S u ∧ (r = 0 ∨ r = 1)) (fun (u : MS) (t : State) => qEC g ad A u t) A) ([.ref (ad 9), .int x1] : List Value).toArray s 0 0 A) (F0 m 13 ls []) := by
    intro n13
    induction n13 with
    | zero => intro U13 v13_2 v13_3 v13_4 H locs ls h hsh hR hl; unfold w_X7_attributeNamesHold_L13 at h; exact h.elim
    | succ n13 ih_13 =>
      intro U13 v13_2 v13_3 v13_4 H locs ls h hsh hR hl
      unfold w_X7_attributeNamesHold_L13 at h
      replace h := h hR.w
      refine lv_iload hx hb dX7_attributeNamesHold_13 (lv_at hl 3 rfl) ?_
      refine lv_iload_n hx hb dX7_attributeNamesHold_15 rfl (lv_at hl 1 rfl) ?_
      refine lv_icmp_ge (tgt := 48) hx hb dX7_attributeNamesHold_16 (by decide) (fun c7 => ?_) (fun c7 => ?_)
      · replace h := h.1 (k_le rfl rfl c7)
        refine lv_iconst (v := 1) hx hb dX7_attributeNamesHold_48 (by decide) ?_
        exact W.zret (v := 1) hx hb hr (nz (Or.inr rfl)) (fun t9 ht9 hW9 => ⟨⟨_, U13, rfl, ⟨h, hR.w, hsh, (Or.inr rfl)⟩, ⟨by rw [ht9]; exact hR.P, hR.D⟩⟩, hR.sS.F ht9⟩) hR.sS.2.2 dX7_attributeNamesHold_49
      · replace h := h.2 (k_nle rfl rfl c7)
        refine lv_aload_n hx hb dX7_attributeNamesHold_19 rfl (lv_at hl 0 rfl) ?_
        refine lv_iload_n hx hb dX7_attributeNamesHold_20 rfl (lv_at hl 2 rfl) ?_
        obtain ⟨Q8, h0, h⟩ := h
        have hFc := cfree hR hA
        refine va_calli (va_runV (As := [.int v13_3]) (rest := []) ⟨hx, hb, hml, hown, hts⟩ (rX7_isNameAt l g ad H.size U13 v13_3 hR.w  Q8 h0) (cwV 1 hts (gd_V kw_1267 kw_1353 kw_1354 kw_710 kw_1352) rfl rfl rfl (by decide +kernel) ⟨Nat.le_of_ble_eq_true rfl, Nat.le_of_ble_eq_true rfl⟩) ⟨cblind, va_recv hR.K hR.P (ci := 6) (q0 := 9) rfl (hR.at46 (hR.w.2.1 _ finC_2).2.1), fun U hU hW9 => cmk hU hW9 hR hex hE hFc⟩ rfl rfl hl.1 rfl (lv_room (Nat.le_of_ble_eq_true rfl)) dX7_attributeNamesHold_21 ⟨Nat.le_of_ble_eq_true rfl, Nat.le_of_ble_eq_true rfl⟩) hR.sS (fun q _ h => hFc q h) hFc (fun r9 S10 t9 H1 locs ht9 hvm9 hw9 hB9 hz9 hk9 hS => ?_)
        obtain ⟨hq11, hw9, hs9, hz_r9⟩ := hw9
        have hR : RepC g ad A s S10 H1 locs := hR.call ht9 hB9 hw9 hS hFc
        have hsh := hsh.tr hs9
        replace h := h r9 S10 hq11 hw9 hs9
        clear hB9 hz9 hk9 hvm9 ht9 hw9 hs9 hS
        generalize H1 = H at hR ⊢
        refine lv_if_ne (tgt := 29) hx hb dX7_attributeNamesHold_24 (by decide) (fun c12 => ?_) (fun c12 => ?_)
        · replace h := h.2 (k_ne rfl (by decide) c12)
          refine lv_iload_n hx hb dX7_attributeNamesHold_29 rfl (lv_at hl 2 rfl) ?_
          refine lv_bipush (v := 6) hx hb dX7_attributeNamesHold_30 (by decide) ?_
          refine lv_aload_n hx hb dX7_attributeNamesHold_32 rfl (lv_at hl 0 rfl) ?_
          refine lv_iload_n hx hb dX7_attributeNamesHold_33 rfl (lv_at hl 2 rfl) ?_
          refine lv_iconst (v := 2) hx hb dX7_attributeNamesHold_34 (by decide) ?_
          refine lv_iadd hx hb dX7_attributeNamesHold_35 ?_
          refine lv_topi (fun z13 ez13 => ?_)
          obtain rfl : z13 = (v13_3 + (2 : Int32)) := ez13
          obtain ⟨hv14, h⟩ := h
          have hFc := cfree hR hA
          refine va_calli (va_runV (As := [.int (v13_3 + (2 : Int32))]) (rest := [.int 6, .int v13_3]) ⟨hx, hb, hml, hown, hts⟩ (rX7_s4 l g ad H.size S10 (v13_3 + (2 : Int32)) hR.w  hv14) (cwV 1 hts (gd_V kw_1268 kw_1429 kw_1430 kw_710 kw_1428) rfl rfl rfl (by decide +kernel) ⟨Nat.le_of_ble_eq_true rfl, Nat.le_of_ble_eq_true rfl⟩) ⟨cblind, va_recv hR.K hR.P (ci := 6) (q0 := 9) rfl (hR.at46 (hR.w.2.1 _ finC_2).2.1), fun U hU hW9 => cmk hU hW9 hR hex hE hFc⟩ rfl rfl hl.1 rfl (lv_room (Nat.le_of_ble_eq_true rfl)) dX7_attributeNamesHold_36 ⟨Nat.le_of_ble_eq_true rfl, Nat.le_of_ble_eq_true rfl⟩) hR.sS (fun q _ h => hFc q h) hFc (fun r15 u9 t9 H1 locs ht9 hvm9 hw9 hB9 hz9 hk9 hS => ?_)
          have hR : RepC g ad A s S10 H1 locs := hR.call ht9 hB9 hR.w hS hFc
          obtain rfl : r15 = (fX7_s4 S10 (v13_3 + (2 : Int32))) := hw9
          clear hB9 hz9 hk9 hvm9 ht9 hS
          generalize H1 = H at hR ⊢
          refine lv_iadd hx hb dX7_attributeNamesHold_39 ?_
          refine lv_topi (fun z17 ez17 => ?_)
          obtain rfl : z17 = ((6 : Int32) + (fX7_s4 S10 (v13_3 + (2 : Int32)))) := ez17
          refine lv_iadd hx hb dX7_attributeNamesHold_40 ?_
          refine lv_topi (fun z18 ez18 => ?_)
          obtain rfl : z18 = (v13_3 + ((6 : Int32) + (fX7_s4 S10 (v13_3 + (2 : Int32))))) := ez18
          obtain ⟨a19, ea19⟩ : ∃ z, z = (v13_3 + ((6 : Int32) + (fX7_s4 S10 (v13_3 + (2 : Int32))))) := ⟨_, rfl⟩
          rw [← ea19]
          replace h := h a19 ea19
          refine lv_istore_n (lv' := [(3, .int a19), (0, .ref (ad 9)), (2, .int v13_2), (4, .int v13_4)]) hx hb dX7_attributeNamesHold_41 rfl hl (by decide) rfl (fun ls hl => ?_)
          obtain ⟨a20, ea20⟩ : ∃ z, z = (v13_4 + Int32.ofInt 1) := ⟨_, rfl⟩
          replace h := h a20 ea20
          refine lv_iinc (v := a20) (lv' := [(4, .int a20), (3, .int a19), (0, .ref (ad 9)), (2, .int v13_2)]) hx hb dX7_attributeNamesHold_42 hl (k := 3) rfl ea20.symm (by decide) rfl (fun ls hl => ?_)
          refine lv_goto (tgt := 13) hx hb dX7_attributeNamesHold_45 (by decide) ?_
          exact ih_13 S10 v13_2 a19 a20 _ _ ls h  hsh hR (lv_sub hl [2, 3, 1, 0] rfl)
        · replace h := h.1 (k_eq rfl (by decide) c12)
          refine lv_iconst (v := 0) hx hb dX7_attributeNamesHold_27 (by decide) ?_
          exact W.zret (v := 0) hx hb hr (nz (Or.inl rfl)) (fun t9 ht9 hW9 => ⟨⟨_, S10, rfl, ⟨h, hR.w, hsh, (Or.inl rfl)⟩, ⟨by rw [ht9]; exact hR.P, hR.D⟩⟩, hR.sS.F ht9⟩) hR.sS.2.2 dX7_attributeNamesHold_28
  obtain ⟨n9, h⟩ := h
  exact J_13 n9 S a4 a6 0 _ _ ls h  hsh hR (lv_sub hl [3, 2, 1, 0] rfl)
def fX7_nameLength (S : MS) (x1 : Int32) : Int32 := (fX7_u2 S ((fX7_entryAt S x1) + (1 : Int32)))
def d_X7_nameLength (S : MS) (x1 : Int32) : Prop := (d_X7_entryAt S x1 ∧ (d_X7_u2 S ((fX7_entryAt S x1) + (1 : Int32)) ∧ True))
set_option maxHeartbeats 2000000 in
set_option maxRecDepth 100000 in
theorem rX7_nameLength (l : Launch) (g : Gr) (ad : Nat → Nat) (sz : Nat) (S : MS) (x1 : Int32) (hw : wfC S) (hd : d_X7_nameLength S x1) : Met l yX7_nameLength (wt yX7_nameLength cX7_nameLength 2 (some .int)) ({ frames := 1, cells := 0, slots := 0, locals := 21 }) (va_Pc [.ref (ad 9), .int x1] (st_C g ad sz S)) (va_Qi (fun (r : Int32) (_ : Unit) => r = fX7_nameLength S x1) (fun (_ : Unit) (t : State) => qEC g ad (va_A (WdC g ad S) sz) S t) (va_A (WdC g ad S) sz)) 0 0 (va_A (WdC g ad S) sz) := by
  refine Met.ofW (cc := cX7_nameLength) (maxL := 2) (ret := (some .int)) (by decide) rfl ?_
  intro p e s m args below meth c s₁ B hml hv
  obtain ⟨rfl, hsz, hP, hK, hD0, hex, hE⟩ := hv
  have hx := B.exec
  have hb := B.bytes
  have hr := B.returns
  have hts0 := atoms_spec (ws := wt yX7_nameLength cX7_nameLength 2 (some .int)) B.pre
  have hts : ∀ w ∈ tb, w.before _ s = true := fun w h => hts0 w (List.mem_cons_of_mem _ h)
  have hown : s.vm.findClass RX7 = some m.cls := findClass_of_methodNamed B.named
  subst hsz
  have hD := hD0.self (sz := s.heap.size)
  generalize hAe : va_A (WdC g ad S) s.heap.size = A at hD hE ⊢
  have hA : ∀ q : Nat, s.heap.size ≤ q → A q := fun q h => by rw [← hAe]; exact Or.inr h
  have hR : RepC g ad A s S s.heap [] := ⟨hK, hP, hD, va_S.rf, hw⟩
  clear hK hP hD hD0
  have hl := lv_entry ([.ref (ad 9), .int x1]) (n := 2) (Nat.le_of_ble_eq_true rfl)
  rw [lg_entry_eq]
  generalize (lg_sl ([.ref (ad 9), .int x1]) ++ List.replicate (2 - (lg_sl ([.ref (ad 9), .int x1])).length) Slot.unset).toArray = ls at hl ⊢
  have hl : lv_has ls 2 [(0, .ref (ad 9)), (1, .int x1)] := hl
  obtain ⟨r0, hf⟩ : ∃ r0, fX7_nameLength S x1 = r0 := ⟨_, rfl⟩
  have hf0 := hf
  unfold fX7_nameLength at hf
  unfold d_X7_nameLength at hd
  refine lv_aload_n hx hb dX7_nameLength_0 rfl (lv_at hl 0 rfl) ?_
  refine lv_aload_n hx hb dX7_nameLength_1 rfl (lv_at hl 0 rfl) ?_
  refine lv_iload_n hx hb dX7_nameLength_2 rfl (lv_at hl 1 rfl) ?_
  obtain ⟨hv1, hd⟩ := hd
  have hFc := cfree hR hA
  refine va_calli (va_runV (As := [.int x1]) (rest := [.ref (ad 9)]) ⟨hx, hb, hml, hown, hts⟩ (rX7_entryAt l g ad s.heap.size S x1 hR.w  hv1) (cwV 1 hts (gd_V kw_1296 kw_1298 kw_1299 kw_710 kw_1297) rfl rfl rfl (by decide +kernel) ⟨Nat.le_of_ble_eq_true rfl, Nat.le_of_ble_eq_true rfl⟩) ⟨cblind, va_recv hR.K hR.P (ci := 6) (q0 := 9) rfl (hR.at46 (hR.w.2.1 _ finC_2).2.1), fun U hU hW9 => cmk hU hW9 hR hex hE hFc⟩ rfl rfl hl.1 rfl (lv_room (Nat.le_of_ble_eq_true rfl)) dX7_nameLength_3 ⟨Nat.le_of_ble_eq_true rfl, Nat.le_of_ble_eq_true rfl⟩) hR.sS (fun q _ h => hFc q h) hFc (fun r2 u9 t9 H1 locs ht9 hvm9 hw9 hB9 hz9 hk9 hS => ?_)
  have hR : RepC g ad A s S H1 locs := hR.call ht9 hB9 hR.w hS hFc
  obtain rfl : r2 = (fX7_entryAt S x1) := hw9
  clear hB9 hz9 hk9 hvm9 ht9 hS
  generalize H1 = H at hR ⊢
  refine lv_iconst (v := 1) hx hb dX7_nameLength_6 (by decide) ?_
  refine lv_iadd hx hb dX7_nameLength_7 ?_
  refine lv_topi (fun z4 ez4 => ?_)
  obtain rfl : z4 = ((fX7_entryAt S x1) + (1 : Int32)) := ez4
  obtain ⟨hv5, hd⟩ := hd
  have hFc := cfree hR hA
  refine va_calli (va_runV (As := [.int ((fX7_entryAt S x1) + (1 : Int32))]) (rest := []) ⟨hx, hb, hml, hown, hts⟩ (rX7_u2 l g ad H.size S ((fX7_entryAt S x1) + (1 : Int32)) hR.w  hv5) (cwV 1 hts (gd_V kw_1266 kw_1450 kw_1451 kw_710 kw_1449) rfl rfl rfl (by decide +kernel) ⟨Nat.le_of_ble_eq_true rfl, Nat.le_of_ble_eq_true rfl⟩) ⟨cblind, va_recv hR.K hR.P (ci := 6) (q0 := 9) rfl (hR.at46 (hR.w.2.1 _ finC_2).2.1), fun U hU hW9 => cmk hU hW9 hR hex hE hFc⟩ rfl rfl hl.1 rfl (lv_room (Nat.le_of_ble_eq_true rfl)) dX7_nameLength_8 ⟨Nat.le_of_ble_eq_true rfl, Nat.le_of_ble_eq_true rfl⟩) hR.sS (fun q _ h => hFc q h) hFc (fun r6 u9 t9 H1 locs ht9 hvm9 hw9 hB9 hz9 hk9 hS => ?_)
  have hR : RepC g ad A s S H1 locs := hR.call ht9 hB9 hR.w hS hFc
  obtain rfl : r6 = (fX7_u2 S ((fX7_entryAt S x1) + (1 : Int32))) := hw9
  clear hB9 hz9 hk9 hvm9 ht9 hS
  generalize H1 = H at hR ⊢
  exact W.iret (v := (fX7_u2 S ((fX7_entryAt S x1) + (1 : Int32)))) hx hb hr (fun t9 ht9 hW9 => ⟨⟨_, (), rfl, hf.trans hf0.symm, ⟨by rw [ht9]; exact hR.P, hR.D⟩⟩, hR.sS.F ht9⟩) hR.sS.2.2 dX7_nameLength_11
def fX7_nameSign (S : MS) (x1 : Int32) (x2 : Int32) : Int32 := (fX7_u1 S (((fX7_entryAt S x1) + (3 : Int32)) + x2))
def d_X7_nameSign (S : MS) (x1 : Int32) (x2 : Int32) : Prop := (d_X7_entryAt S x1 ∧ (d_X7_u1 S (((fX7_entryAt S x1) + (3 : Int32)) + x2) ∧ True))
set_option maxHeartbeats 2000000 in
set_option maxRecDepth 100000 in
theorem rX7_nameSign (l : Launch) (g : Gr) (ad : Nat → Nat) (sz : Nat) (S : MS) (x1 : Int32) (x2 : Int32) (hw : wfC S) (hd : d_X7_nameSign S x1 x2) : Met l yX7_nameSign (wt yX7_nameSign cX7_nameSign 3 (some .int)) ({ frames := 1, cells := 0, slots := 0, locals := 21 }) (va_Pc [.ref (ad 9), .int x1, .int x2] (st_C g ad sz S)) (va_Qi (fun (r : Int32) (_ : Unit) => r = fX7_nameSign S x1 x2) (fun (_ : Unit) (t : State) => qEC g ad (va_A (WdC g ad S) sz) S t) (va_A (WdC g ad S) sz)) 0 0 (va_A (WdC g ad S) sz) := by
  refine Met.ofW (cc := cX7_nameSign) (maxL := 3) (ret := (some .int)) (by decide) rfl ?_
  intro p e s m args below meth c s₁ B hml hv
  obtain ⟨rfl, hsz, hP, hK, hD0, hex, hE⟩ := hv
  have hx := B.exec
  have hb := B.bytes
  have hr := B.returns
  have hts0 := atoms_spec (ws := wt yX7_nameSign cX7_nameSign 3 (some .int)) B.pre
  have hts : ∀ w ∈ tb, w.before _ s = true := fun w h => hts0 w (List.mem_cons_of_mem _ h)
  have hown : s.vm.findClass RX7 = some m.cls := findClass_of_methodNamed B.named
  subst hsz
  have hD := hD0.self (sz := s.heap.size)
  generalize hAe : va_A (WdC g ad S) s.heap.size = A at hD hE ⊢
  have hA : ∀ q : Nat, s.heap.size ≤ q → A q := fun q h => by rw [← hAe]; exact Or.inr h
  have hR : RepC g ad A s S s.heap [] := ⟨hK, hP, hD, va_S.rf, hw⟩
  clear hK hP hD hD0
  have hl := lv_entry ([.ref (ad 9), .int x1, .int x2]) (n := 3) (Nat.le_of_ble_eq_true rfl)
  rw [lg_entry_eq]
  generalize (lg_sl ([.ref (ad 9), .int x1, .int x2]) ++ List.replicate (3 - (lg_sl ([.ref (ad 9), .int x1, .int x2])).length) Slot.unset).toArray = ls at hl ⊢
  have hl : lv_has ls 3 [(0, .ref (ad 9)), (1, .int x1), (2, .int x2)] := hl
  obtain ⟨r0, hf⟩ : ∃ r0, fX7_nameSign S x1 x2 = r0 := ⟨_, rfl⟩
  have hf0 := hf
  unfold fX7_nameSign at hf
  unfold d_X7_nameSign at hd
  refine lv_aload_n hx hb dX7_nameSign_0 rfl (lv_at hl 0 rfl) ?_
  refine lv_aload_n hx hb dX7_nameSign_1 rfl (lv_at hl 0 rfl) ?_
  refine lv_iload_n hx hb dX7_nameSign_2 rfl (lv_at hl 1 rfl) ?_
  obtain ⟨hv1, hd⟩ := hd
  have hFc := cfree hR hA
  refine va_calli (va_runV (As := [.int x1]) (rest := [.ref (ad 9)]) ⟨hx, hb, hml, hown, hts⟩ (rX7_entryAt l g ad s.heap.size S x1 hR.w  hv1) (cwV 1 hts (gd_V kw_1296 kw_1298 kw_1299 kw_710 kw_1297) rfl rfl rfl (by decide +kernel) ⟨Nat.le_of_ble_eq_true rfl, Nat.le_of_ble_eq_true rfl⟩) ⟨cblind, va_recv hR.K hR.P (ci := 6) (q0 := 9) rfl (hR.at46 (hR.w.2.1 _ finC_2).2.1), fun U hU hW9 => cmk hU hW9 hR hex hE hFc⟩ rfl rfl hl.1 rfl (lv_room (Nat.le_of_ble_eq_true rfl)) dX7_nameSign_3 ⟨Nat.le_of_ble_eq_true rfl, Nat.le_of_ble_eq_true rfl⟩) hR.sS (fun q _ h => hFc q h) hFc (fun r2 u9 t9 H1 locs ht9 hvm9 hw9 hB9 hz9 hk9 hS => ?_)
  have hR : RepC g ad A s S H1 locs := hR.call ht9 hB9 hR.w hS hFc
  obtain rfl : r2 = (fX7_entryAt S x1) := hw9
  clear hB9 hz9 hk9 hvm9 ht9 hS
  generalize H1 = H at hR ⊢
  refine lv_iconst (v := 3) hx hb dX7_nameSign_6 (by decide) ?_
  refine lv_iadd hx hb dX7_nameSign_7 ?_
  refine lv_topi (fun z4 ez4 => ?_)
  obtain rfl : z4 = ((fX7_entryAt S x1) + (3 : Int32)) := ez4
  refine lv_iload_n hx hb dX7_nameSign_8 rfl (lv_at hl 2 rfl) ?_
  refine lv_iadd hx hb dX7_nameSign_9 ?_
  refine lv_topi (fun z5 ez5 => ?_)
  obtain rfl : z5 = (((fX7_entryAt S x1) + (3 : Int32)) + x2) := ez5
  obtain ⟨hv6, hd⟩ := hd
  have hFc := cfree hR hA
  refine va_calli (va_runV (As := [.int (((fX7_entryAt S x1) + (3 : Int32)) + x2)]) (rest := []) ⟨hx, hb, hml, hown, hts⟩ (rX7_u1 l g ad H.size S (((fX7_entryAt S x1) + (3 : Int32)) + x2) hR.w  hv6) (cwV 1 hts (gd_V kw_1304 kw_1447 kw_1448 kw_710 kw_1446) rfl rfl rfl (by decide +kernel) ⟨Nat.le_of_ble_eq_true rfl, Nat.le_of_ble_eq_true rfl⟩) ⟨cblind, va_recv hR.K hR.P (ci := 6) (q0 := 9) rfl (hR.at46 (hR.w.2.1 _ finC_2).2.1), fun U hU hW9 => cmk hU hW9 hR hex hE hFc⟩ rfl rfl hl.1 rfl (lv_room (Nat.le_of_ble_eq_true rfl)) dX7_nameSign_10 ⟨Nat.le_of_ble_eq_true rfl, Nat.le_of_ble_eq_true rfl⟩) hR.sS (fun q _ h => hFc q h) hFc (fun r7 u9 t9 H1 locs ht9 hvm9 hw9 hB9 hz9 hk9 hS => ?_)
  have hR : RepC g ad A s S H1 locs := hR.call ht9 hB9 hR.w hS hFc
  obtain rfl : r7 = (fX7_u1 S (((fX7_entryAt S x1) + (3 : Int32)) + x2)) := hw9
  clear hB9 hz9 hk9 hvm9 ht9 hS
  generalize H1 = H at hR ⊢
  exact W.iret (v := (fX7_u1 S (((fX7_entryAt S x1) + (3 : Int32)) + x2))) hx hb hr (fun t9 ht9 hW9 => ⟨⟨_, (), rfl, hf.trans hf0.symm, ⟨by rw [ht9]; exact hR.P, hR.D⟩⟩, hR.sS.F ht9⟩) hR.sS.2.2 dX7_nameSign_13
def f_X7_kindOfPart_J84 (S : MS) : Int32 := (0 : Int32)
def d_X7_kindOfPart_J84 (S : MS) : Prop := True
def fX7_kindOfPart (S : MS) (x1 : Int32) (x2 : Int32) : Int32 := (if x2.toInt < (fX7_nameLength S x1).toInt then (if (fX7_nameSign S x1 x2).toInt = 73 then (1 : Int32) else (if (fX7_nameSign S x1 x2).toInt = 74 then (2 : Int32) else (if (fX7_nameSign S x1 x2).toInt = 91 then (if (fX7_nameLength S x1).toInt ≤ (x2 + (1 : Int32)).toInt then f_X7_kindOfPart_J84 S else (if (fX7_nameSign S x1 (x2 + (1 : Int32))).toInt = 73 then (3 : Int32) else f_X7_kindOfPart_J84 S)) else (0 : Int32)))) else (0 : Int32))
def d_X7_kindOfPart (S : MS) (x1 : Int32) (x2 : Int32) : Prop := (d_X7_nameLength S x1 ∧ (if x2.toInt < (fX7_nameLength S x1).toInt then (d_X7_nameSign S x1 x2 ∧ (if (fX7_nameSign S x1 x2).toInt = 73 then True else (if (fX7_nameSign S x1 x2).toInt = 74 then True else (if (fX7_nameSign S x1 x2).toInt = 91 then (d_X7_nameLength S x1 ∧ (if (fX7_nameLength S x1).toInt ≤ (x2 + (1 : Int32)).toInt then d_X7_kindOfPart_J84 S else (d_X7_nameSign S x1 (x2 + (1 : Int32)) ∧ (if (fX7_nameSign S x1 (x2 + (1 : Int32))).toInt = 73 then True else d_X7_kindOfPart_J84 S)))) else True)))) else True))
set_option maxHeartbeats 2000000 in
set_option maxRecDepth 100000 in
theorem rX7_kindOfPart (l : Launch) (g : Gr) (ad : Nat → Nat) (sz : Nat) (S : MS) (x1 : Int32) (x2 : Int32) (hw : wfC S) (hd : d_X7_kindOfPart S x1 x2) : Met l yX7_kindOfPart (wt yX7_kindOfPart cX7_kindOfPart 3 (some .int)) ({ frames := 2, cells := 0, slots := 0, locals := 43 }) (va_Pc [.ref (ad 9), .int x1, .int x2] (st_C g ad sz S)) (va_Qi (fun (r : Int32) (_ : Unit) => r = fX7_kindOfPart S x1 x2) (fun (_ : Unit) (t : State) => qEC g ad (va_A (WdC g ad S) sz) S t) (va_A (WdC g ad S) sz)) 0 0 (va_A (WdC g ad S) sz) := by
  refine Met.ofW (cc := cX7_kindOfPart) (maxL := 3) (ret := (some .int)) (by decide) rfl ?_
  intro p e s m args below meth c s₁ B hml hv
  obtain ⟨rfl, hsz, hP, hK, hD0, hex, hE⟩ := hv
  have hx := B.exec
  have hb := B.bytes
  have hr := B.returns
  have hts0 := atoms_spec (ws := wt yX7_kindOfPart cX7_kindOfPart 3 (some .int)) B.pre
  have hts : ∀ w ∈ tb, w.before _ s = true := fun w h => hts0 w (List.mem_cons_of_mem _ h)
  have hown : s.vm.findClass RX7 = some m.cls := findClass_of_methodNamed B.named
  subst hsz
  have hD := hD0.self (sz := s.heap.size)
  generalize hAe : va_A (WdC g ad S) s.heap.size = A at hD hE ⊢
  have hA : ∀ q : Nat, s.heap.size ≤ q → A q := fun q h => by rw [← hAe]; exact Or.inr h
  have hR : RepC g ad A s S s.heap [] := ⟨hK, hP, hD, va_S.rf, hw⟩
  clear hK hP hD hD0
  have hl := lv_entry ([.ref (ad 9), .int x1, .int x2]) (n := 3) (Nat.le_of_ble_eq_true rfl)
  rw [lg_entry_eq]
  generalize (lg_sl ([.ref (ad 9), .int x1, .int x2]) ++ List.replicate (3 - (lg_sl ([.ref (ad 9), .int x1, .int x2])).length) Slot.unset).toArray = ls at hl ⊢
  have hl : lv_has ls 3 [(0, .ref (ad 9)), (1, .int x1), (2, .int x2)] := hl
  obtain ⟨r0, hf⟩ : ∃ r0, fX7_kindOfPart S x1 x2 = r0 := ⟨_, rfl⟩
  have hf0 := hf
  unfold fX7_kindOfPart at hf
  unfold d_X7_kindOfPart at hd
  refine lv_iload_n hx hb dX7_kindOfPart_0 rfl (lv_at hl 2 rfl) ?_
  refine lv_aload_n hx hb dX7_kindOfPart_1 rfl (lv_at hl 0 rfl) ?_
  refine lv_iload_n hx hb dX7_kindOfPart_2 rfl (lv_at hl 1 rfl) ?_
  obtain ⟨hv1, hd⟩ := hd
  have hFc := cfree hR hA
  refine va_calli (va_runV (As := [.int x1]) (rest := [.int x2]) ⟨hx, hb, hml, hown, hts⟩ (rX7_nameLength l g ad s.heap.size S x1 hR.w  hv1) (cwV 1 hts (gd_V kw_1349 kw_1406 kw_1407 kw_710 kw_1405) rfl rfl rfl (by decide +kernel) ⟨Nat.le_of_ble_eq_true rfl, Nat.le_of_ble_eq_true rfl⟩) ⟨cblind, va_recv hR.K hR.P (ci := 6) (q0 := 9) rfl (hR.at46 (hR.w.2.1 _ finC_2).2.1), fun U hU hW9 => cmk hU hW9 hR hex hE hFc⟩ rfl rfl hl.1 rfl (lv_room (Nat.le_of_ble_eq_true rfl)) dX7_kindOfPart_3 ⟨Nat.le_of_ble_eq_true rfl, Nat.le_of_ble_eq_true rfl⟩) hR.sS (fun q _ h => hFc q h) hFc (fun r2 u9 t9 H1 locs ht9 hvm9 hw9 hB9 hz9 hk9 hS => ?_)
  have hR : RepC g ad A s S H1 locs := hR.call ht9 hB9 hR.w hS hFc
  obtain rfl : r2 = (fX7_nameLength S x1) := hw9
  clear hB9 hz9 hk9 hvm9 ht9 hS
  generalize H1 = H at hR ⊢
  refine lv_icmp_lt (tgt := 11) hx hb dX7_kindOfPart_6 (by decide) (fun c4 => ?_) (fun c4 => ?_)
  · rw [if_pos (k_lt rfl rfl c4)] at hf
    (try rw [if_pos (k_lt rfl rfl c4)] at hd)
    refine lv_aload_n hx hb dX7_kindOfPart_11 rfl (lv_at hl 0 rfl) ?_
    refine lv_iload_n hx hb dX7_kindOfPart_12 rfl (lv_at hl 1 rfl) ?_
    refine lv_iload_n hx hb dX7_kindOfPart_13 rfl (lv_at hl 2 rfl) ?_
    obtain ⟨hv5, hd⟩ := hd
    have hFc := cfree hR hA
    refine va_calli (va_runV (As := [.int x1, .int x2]) (rest := []) ⟨hx, hb, hml, hown, hts⟩ (rX7_nameSign l g ad H.size S x1 x2 hR.w  hv5) (cwV 2 hts (gd_V kw_1350 kw_1412 kw_1413 kw_710 kw_1411) rfl rfl rfl (by decide +kernel) ⟨Nat.le_of_ble_eq_true rfl, Nat.le_of_ble_eq_true rfl⟩) ⟨cblind, va_recv hR.K hR.P (ci := 6) (q0 := 9) rfl (hR.at46 (hR.w.2.1 _ finC_2).2.1), fun U hU hW9 => cmk hU hW9 hR hex hE hFc⟩ rfl rfl hl.1 rfl (lv_room (Nat.le_of_ble_eq_true rfl)) dX7_kindOfPart_14 ⟨Nat.le_of_ble_eq_true rfl, Nat.le_of_ble_eq_true rfl⟩) hR.sS (fun q _ h => hFc q h) hFc (fun r6 u9 t9 H1 locs ht9 hvm9 hw9 hB9 hz9 hk9 hS => ?_)
    have hR : RepC g ad A s S H1 locs := hR.call ht9 hB9 hR.w hS hFc
    obtain rfl : r6 = (fX7_nameSign S x1 x2) := hw9
    clear hB9 hz9 hk9 hvm9 ht9 hS
    generalize H1 = H at hR ⊢
    by_cases c9_73 : (fX7_nameSign S x1 x2).toInt = 73
    · refine lv_lookup (off := 35) (tgt := 52) hx hb dX7_kindOfPart_17 (by decide) (by rw [c9_73]; decide) (by decide) ?_
      rw [if_pos (c9_73)] at hf
      (try rw [if_pos (c9_73)] at hd)
      refine lv_iconst (v := 1) hx hb dX7_kindOfPart_52 (by decide) ?_
      exact W.iret (v := 1) hx hb hr (fun t9 ht9 hW9 => ⟨⟨_, (), rfl, hf.trans hf0.symm, ⟨by rw [ht9]; exact hR.P, hR.D⟩⟩, hR.sS.F ht9⟩) hR.sS.2.2 dX7_kindOfPart_53
    rw [if_neg c9_73] at hf
    (try rw [if_neg c9_73] at hd)
    by_cases c9_74 : (fX7_nameSign S x1 x2).toInt = 74
    · refine lv_lookup (off := 37) (tgt := 54) hx hb dX7_kindOfPart_17 (by decide) (by rw [c9_74]; decide) (by decide) ?_
      rw [if_pos (c9_74)] at hf
      (try rw [if_pos (c9_74)] at hd)
      refine lv_iconst (v := 2) hx hb dX7_kindOfPart_54 (by decide) ?_
      exact W.iret (v := 2) hx hb hr (fun t9 ht9 hW9 => ⟨⟨_, (), rfl, hf.trans hf0.symm, ⟨by rw [ht9]; exact hR.P, hR.D⟩⟩, hR.sS.F ht9⟩) hR.sS.2.2 dX7_kindOfPart_55
    rw [if_neg c9_74] at hf
    (try rw [if_neg c9_74] at hd)
    by_cases c9_91 : (fX7_nameSign S x1 x2).toInt = 91
    · refine lv_lookup (off := 39) (tgt := 56) hx hb dX7_kindOfPart_17 (by decide) (by rw [c9_91]; decide) (by decide) ?_
      rw [if_pos (c9_91)] at hf
      (try rw [if_pos (c9_91)] at hd)
      refine lv_iload_n hx hb dX7_kindOfPart_56 rfl (lv_at hl 2 rfl) ?_
      refine lv_iconst (v := 1) hx hb dX7_kindOfPart_57 (by decide) ?_
      refine lv_iadd hx hb dX7_kindOfPart_58 ?_
      refine lv_topi (fun z8 ez8 => ?_)
      obtain rfl : z8 = (x2 + (1 : Int32)) := ez8
      refine lv_aload_n hx hb dX7_kindOfPart_59 rfl (lv_at hl 0 rfl) ?_
      refine lv_iload_n hx hb dX7_kindOfPart_60 rfl (lv_at hl 1 rfl) ?_
      obtain ⟨hv9, hd⟩ := hd
      have hFc := cfree hR hA
      refine va_calli (va_runV (As := [.int x1]) (rest := [.int (x2 + (1 : Int32))]) ⟨hx, hb, hml, hown, hts⟩ (rX7_nameLength l g ad H.size S x1 hR.w  hv9) (cwV 1 hts (gd_V kw_1349 kw_1406 kw_1407 kw_710 kw_1405) rfl rfl rfl (by decide +kernel) ⟨Nat.le_of_ble_eq_true rfl, Nat.le_of_ble_eq_true rfl⟩) ⟨cblind, va_recv hR.K hR.P (ci := 6) (q0 := 9) rfl (hR.at46 (hR.w.2.1 _ finC_2).2.1), fun U hU hW9 => cmk hU hW9 hR hex hE hFc⟩ rfl rfl hl.1 rfl (lv_room (Nat.le_of_ble_eq_true rfl)) dX7_kindOfPart_61 ⟨Nat.le_of_ble_eq_true rfl, Nat.le_of_ble_eq_true rfl⟩) hR.sS (fun q _ h => hFc q h) hFc (fun r10 u9 t9 H1 locs ht9 hvm9 hw9 hB9 hz9 hk9 hS => ?_)
      have hR : RepC g ad A s S H1 locs := hR.call ht9 hB9 hR.w hS hFc
      obtain rfl : r10 = (fX7_nameLength S x1) := hw9
      clear hB9 hz9 hk9 hvm9 ht9 hS
      generalize H1 = H at hR ⊢
      have J_84 : ∀ (H : Heap) (locs : List Loc) (ls : Array Slot), d_X7_kindOfPart_J84 S → f_X7_kindOfPart_J84 S = r0 → RepC g ad A s S H locs → lv_has ls 3 [] → W p l e (headSpec (wt yX7_kindOfPart cX7_kindOfPart 3 (some .int)) ({ frames := 2, cells := 0, slots := 0, locals := 43 })).room s m ([.ref (ad 9), .int x1, .int x2] : List Value).toArray below meth c H locs 0 0 (MQ below (va_Qi (fun (r : Int32) (_ : Unit) => r = fX7_kindOfPart S x1 x2) (fun (_ : Unit) (t : State) => qEC g ad A S t) A) ([.ref (ad 9), .int x1, .int x2] : List Value).toArray s 0 0 A) (F0 m 84 ls []) := by
        intro H locs ls hd hf hR hl
        unfold d_X7_kindOfPart_J84 at hd
        unfold f_X7_kindOfPart_J84 at hf
        refine lv_iconst (v := 0) hx hb dX7_kindOfPart_84 (by decide) ?_
        exact W.iret (v := 0) hx hb hr (fun t9 ht9 hW9 => ⟨⟨_, (), rfl, hf.trans hf0.symm, ⟨by rw [ht9]; exact hR.P, hR.D⟩⟩, hR.sS.F ht9⟩) hR.sS.2.2 dX7_kindOfPart_85
      refine lv_icmp_ge (tgt := 84) hx hb dX7_kindOfPart_64 (by decide) (fun c12 => ?_) (fun c12 => ?_)
      · rw [if_pos (k_le rfl rfl c12)] at hf
        (try rw [if_pos (k_le rfl rfl c12)] at hd)
        exact J_84 _ _ ls hd hf  hR (lv_sub hl [] rfl)
      · rw [if_neg (k_nle rfl rfl c12)] at hf
        (try rw [if_neg (k_nle rfl rfl c12)] at hd)
        refine lv_aload_n hx hb dX7_kindOfPart_67 rfl (lv_at hl 0 rfl) ?_
        refine lv_iload_n hx hb dX7_kindOfPart_68 rfl (lv_at hl 1 rfl) ?_
        refine lv_iload_n hx hb dX7_kindOfPart_69 rfl (lv_at hl 2 rfl) ?_
        refine lv_iconst (v := 1) hx hb dX7_kindOfPart_70 (by decide) ?_
        refine lv_iadd hx hb dX7_kindOfPart_71 ?_
        refine lv_topi (fun z13 ez13 => ?_)
        obtain rfl : z13 = (x2 + (1 : Int32)) := ez13
        obtain ⟨hv14, hd⟩ := hd
        have hFc := cfree hR hA
        refine va_calli (va_runV (As := [.int x1, .int (x2 + (1 : Int32))]) (rest := []) ⟨hx, hb, hml, hown, hts⟩ (rX7_nameSign l g ad H.size S x1 (x2 + (1 : Int32)) hR.w  hv14) (cwV 2 hts (gd_V kw_1350 kw_1412 kw_1413 kw_710 kw_1411) rfl rfl rfl (by decide +kernel) ⟨Nat.le_of_ble_eq_true rfl, Nat.le_of_ble_eq_true rfl⟩) ⟨cblind, va_recv hR.K hR.P (ci := 6) (q0 := 9) rfl (hR.at46 (hR.w.2.1 _ finC_2).2.1), fun U hU hW9 => cmk hU hW9 hR hex hE hFc⟩ rfl rfl hl.1 rfl (lv_room (Nat.le_of_ble_eq_true rfl)) dX7_kindOfPart_72 ⟨Nat.le_of_ble_eq_true rfl, Nat.le_of_ble_eq_true rfl⟩) hR.sS (fun q _ h => hFc q h) hFc (fun r15 u9 t9 H1 locs ht9 hvm9 hw9 hB9 hz9 hk9 hS => ?_)
        have hR : RepC g ad A s S H1 locs := hR.call ht9 hB9 hR.w hS hFc
        obtain rfl : r15 = (fX7_nameSign S x1 (x2 + (1 : Int32))) := hw9
        clear hB9 hz9 hk9 hvm9 ht9 hS
        generalize H1 = H at hR ⊢
        refine lv_bipush (v := 73) hx hb dX7_kindOfPart_75 (by decide) ?_
        refine lv_icmp_ne (tgt := 84) hx hb dX7_kindOfPart_77 (by decide) (fun c17 => ?_) (fun c17 => ?_)
        · rw [if_neg (k_ne rfl (by decide) c17)] at hf
          (try rw [if_neg (k_ne rfl (by decide) c17)] at hd)
          exact J_84 _ _ ls hd hf  hR (lv_sub hl [] rfl)
        · rw [if_pos (k_eq rfl (by decide) c17)] at hf
          (try rw [if_pos (k_eq rfl (by decide) c17)] at hd)
          refine lv_iconst (v := 3) hx hb dX7_kindOfPart_80 (by decide) ?_
          refine lv_goto (tgt := 85) hx hb dX7_kindOfPart_81 (by decide) ?_
          exact W.iret (v := 3) hx hb hr (fun t9 ht9 hW9 => ⟨⟨_, (), rfl, hf.trans hf0.symm, ⟨by rw [ht9]; exact hR.P, hR.D⟩⟩, hR.sS.F ht9⟩) hR.sS.2.2 dX7_kindOfPart_85
    rw [if_neg c9_91] at hf
    (try rw [if_neg c9_91] at hd)
    refine lv_lookup (off := 69) (tgt := 86) hx hb dX7_kindOfPart_17 (by decide) (lx_cons c9_73 (lx_cons c9_74 (lx_cons c9_91 lx_nil))) (by decide) ?_
    refine lv_iconst (v := 0) hx hb dX7_kindOfPart_86 (by decide) ?_
    exact W.iret (v := 0) hx hb hr (fun t9 ht9 hW9 => ⟨⟨_, (), rfl, hf.trans hf0.symm, ⟨by rw [ht9]; exact hR.P, hR.D⟩⟩, hR.sS.F ht9⟩) hR.sS.2.2 dX7_kindOfPart_87
  · rw [if_neg (k_nlt rfl rfl c4)] at hf
    (try rw [if_neg (k_nlt rfl rfl c4)] at hd)
    refine lv_iconst (v := 0) hx hb dX7_kindOfPart_9 (by decide) ?_
    exact W.iret (v := 0) hx hb hr (fun t9 ht9 hW9 => ⟨⟨_, (), rfl, hf.trans hf0.symm, ⟨by rw [ht9]; exact hR.P, hR.D⟩⟩, hR.sS.F ht9⟩) hR.sS.2.2 dX7_kindOfPart_10
def w_X7_isMethodType_J179 (Q : Int32 → MS → Prop) (U179 : MS) (t179_0 : Int32) (t179_1 : Int32) (v179_2 : Int32) : Prop := (wfC U179 → (((t179_1 + t179_0).toInt = v179_2.toInt → Q (1 : Int32) U179) ∧ (¬ (t179_1 + t179_0).toInt = v179_2.toInt → Q (0 : Int32) U179)))
def w_X7_isMethodType_J165 (Q : Int32 → MS → Prop) (U165 : MS) (v165_2 : Int32) (v165_3 : Int32) : Prop := (wfC U165 → (((qI U165 9 14).toInt = 3 → w_X7_isMethodType_J179 Q U165 2 v165_3 v165_2) ∧ (¬ (qI U165 9 14).toInt = 3 → w_X7_isMethodType_J179 Q U165 1 v165_3 v165_2)))
def w_X7_isMethodType_J112 (Q : Int32 → MS → Prop) (U112 : MS) (v112_1 : Int32) (v112_2 : Int32) (v112_3 : Int32) : Prop := (wfC U112 → ((v112_2.toInt ≤ (v112_3 + (1 : Int32)).toInt → Q (0 : Int32) U112) ∧ (¬ v112_2.toInt ≤ (v112_3 + (1 : Int32)).toInt → (d_X7_nameSign U112 v112_1 v112_3 ∧ (((fX7_nameSign U112 v112_1 v112_3).toInt = 41 → (∀ a22 : Int32, a22 = (v112_3 + Int32.ofInt 1) → (d_X7_kindOfPart U112 v112_1 a22 ∧ (∀ S26, S26 = wI U112 9 14 (fX7_kindOfPart U112 v112_1 a22) → qT U112 9 = 46 → wfC S26 → (((qI S26 9 14).toInt = 0 → (d_X7_nameSign S26 v112_1 a22 ∧ (((fX7_nameSign S26 v112_1 a22).toInt = 86 → w_X7_isMethodType_J165 Q S26 v112_2 a22) ∧ (¬ (fX7_nameSign S26 v112_1 a22).toInt = 86 → Q (0 : Int32) S26)))) ∧ (¬ (qI S26 9 14).toInt = 0 → w_X7_isMethodType_J165 Q S26 v112_2 a22)))))) ∧ (¬ (fX7_nameSign U112 v112_1 v112_3).toInt = 41 → Q (0 : Int32) U112))))))
def w_X7_isMethodType_J99 (Q : Int32 → MS → Prop) (k44 : MS → Int32 → Int32 → Int32 → Int32 → Prop) (U99 : MS) (t99_0 : Int32) (t99_1 : Int32) (v99_1 : Int32) (v99_2 : Int32) : Prop := (wfC U99 → (∀ a43 : Int32, a43 = (t99_1 + t99_0) → (d_X7_kindOfPart U99 v99_1 a43 ∧ (∀ a47 : Int32, a47 = (fX7_kindOfPart U99 v99_1 a43) → k44 U99 v99_1 v99_2 a43 a47))))
def w_X7_isMethodType_J83 (Q : Int32 → MS → Prop) (k44 : MS → Int32 → Int32 → Int32 → Int32 → Prop) (U83 : MS) (t83_0 : Int32) (t83_1 : Int32) (v83_1 : Int32) (v83_2 : Int32) (v83_3 : Int32) (v83_4 : Int32) : Prop := (wfC U83 → (∀ S41, S41 = wI U83 9 13 (t83_1 + t83_0) → qT U83 9 = 46 → wfC S41 → ((v83_4.toInt = 3 → w_X7_isMethodType_J99 Q k44 S41 2 v83_3 v83_1 v83_2) ∧ (¬ v83_4.toInt = 3 → w_X7_isMethodType_J99 Q k44 S41 1 v83_3 v83_1 v83_2))))
def w_X7_isMethodType_L44 (Q : Int32 → MS → Prop) : Nat → MS → Int32 → Int32 → Int32 → Int32 → Prop
  | 0, _, _, _, _, _ => False
  | n44 + 1, U44, v44_1, v44_2, v44_3, v44_4 => (wfC U44 → ((v44_4.toInt = 0 → w_X7_isMethodType_J112 Q U44 v44_1 v44_2 v44_3) ∧ (¬ v44_4.toInt = 0 → ((v44_2.toInt ≤ v44_3.toInt → w_X7_isMethodType_J112 Q U44 v44_1 v44_2 v44_3) ∧ (¬ v44_2.toInt ≤ v44_3.toInt → (∀ S39, S39 = wI U44 9 12 (((qI U44 9 12) <<< ((4 : Int32) &&& 31)) ||| v44_4) → qT U44 9 = 46 → wfC S39 → ((v44_4.toInt = 2 → w_X7_isMethodType_J83 Q (w_X7_isMethodType_L44 Q n44) S39 2 (qI S39 9 13) v44_1 v44_2 v44_3 v44_4) ∧ (¬ v44_4.toInt = 2 → w_X7_isMethodType_J83 Q (w_X7_isMethodType_L44 Q n44) S39 1 (qI S39 9 13) v44_1 v44_2 v44_3 v44_4))))))))
def wX7_isMethodType (S : MS) (x1 : Int32) (Q : Int32 → MS → Prop) : Prop := (∀ S1, S1 = wI S 9 12 (0 : Int32) → qT S 9 = 46 → wfC S1 → (∀ S2, S2 = wI S1 9 13 (0 : Int32) → qT S1 9 = 46 → wfC S2 → (∀ S3, S3 = wI S2 9 14 (0 : Int32) → qT S2 9 = 46 → wfC S3 → (d_X7_nameLength S3 x1 ∧ (∀ a7 : Int32, a7 = (fX7_nameLength S3 x1) → (d_X7_nameSign S3 x1 (0 : Int32) ∧ (((fX7_nameSign S3 x1 (0 : Int32)).toInt = 40 → (d_X7_kindOfPart S3 x1 (1 : Int32) ∧ (∀ a15 : Int32, a15 = (fX7_kindOfPart S3 x1 (1 : Int32)) → (∃ n, w_X7_isMethodType_L44 Q n S3 x1 a7 1 a15)))) ∧ (¬ (fX7_nameSign S3 x1 (0 : Int32)).toInt = 40 → Q (0 : Int32) S3))))))))
set_option maxHeartbeats 2000000 in
set_option maxRecDepth 100000 in
theorem rX7_isMethodType (l : Launch) (g : Gr) (ad : Nat → Nat) (sz : Nat) (S : MS) (x1 : Int32) (hw : wfC S) (Q : Int32 → MS → Prop) (h : wX7_isMethodType S x1 Q) : Met l yX7_isMethodType (wt yX7_isMethodType cX7_isMethodType 5 (some .boolean)) ({ frames := 3, cells := 0, slots := 0, locals := 65 }) (va_Pc [.ref (ad 9), .int x1] (st_C g ad sz S)) (va_Qi (fun (r : Int32) (u : MS) => Q r u ∧ wfC u ∧ shy S u ∧ (r = 0 ∨ r = 1)) (fun (u : MS) (t : State) => qEC g ad (va_A (WdC g ad S) sz) u t) (va_A (WdC g ad S) sz)) 0 0 (va_A (WdC g ad S) sz) := by
  refine Met.ofW (cc := cX7_isMethodType) (maxL := 5) (ret := (some .boolean)) (by decide) rfl ?_
  intro p e s m args below meth c s₁ B hml hv
  obtain ⟨rfl, hsz, hP, hK, hD0, hex, hE⟩ := hv
  have hx := B.exec
  have hb := B.bytes
  have hr := B.returns
  have hts0 := atoms_spec (ws := wt yX7_isMethodType cX7_isMethodType 5 (some .boolean)) B.pre
  have hts : ∀ w ∈ tb, w.before _ s = true := fun w h => hts0 w (List.mem_cons_of_mem _ h)
  have hown : s.vm.findClass RX7 = some m.cls := findClass_of_methodNamed B.named
  subst hsz
  have hD := hD0.self (sz := s.heap.size)
  generalize hAe : va_A (WdC g ad S) s.heap.size = A at hD hE ⊢
  have hA : ∀ q : Nat, s.heap.size ≤ q → A q := fun q h => by rw [← hAe]; exact Or.inr h
  have hR : RepC g ad A s S s.heap [] := ⟨hK, hP, hD, va_S.rf, hw⟩
  clear hK hP hD hD0
  have hl := lv_entry ([.ref (ad 9), .int x1]) (n := 5) (Nat.le_of_ble_eq_true rfl)
  rw [lg_entry_eq]
  generalize (lg_sl ([.ref (ad 9), .int x1]) ++ List.replicate (5 - (lg_sl ([.ref (ad 9), .int x1])).length) Slot.unset).toArray = ls at hl ⊢
  have hl : lv_has ls 5 [(0, .ref (ad 9)), (1, .int x1)] := hl
  have hsh : shy S S := shy.rf
  unfold wX7_isMethodType at h
  refine lv_aload_n hx hb dX7_isMethodType_0 rfl (lv_at hl 0 rfl) ?_
  refine lv_iconst (v := 0) hx hb dX7_isMethodType_1 (by decide) ?_
  refine va_put (D := rD g) (ci := 6) (v := .int 0) (ty := .int) (C := RX7) (T := TX7) (N := 17) hx hb hts inX7 tyX7 tyX7_ok nmX7 hown hR.K hR.P hR.D hR.sS 9 (hR.at46 (hR.w.2.1 _ finC_2).2.1) rfl 12 (by decide) (hts _ kw_1346) (fun _ h9 => h9) rfl (by decide +kernel) rfl rfl (Nat.le_of_ble_eq_true rfl) dX7_isMethodType_2 (fun H locs hP hD hS => ?_)
  have hTk9 : qT S 9 = 46 := (hR.w.2.1 _ finC_2).2.1
  have hR : RepC g ad A s (wI S 9 12 (0 : Int32)) H locs := hR.pI46 (hR.w.2.1 _ finC_2).2.1 FX7_s12 (fun q9 => absurd q9 (by decide)) hP hD hS
  obtain ⟨S1, eS1⟩ : ∃ z, z = wI S 9 12 (0 : Int32) := ⟨_, rfl⟩
  rw [← eS1] at hR
  replace h := h S1 eS1 hTk9 hR.w
  have hsh : shy S S1 := by rw [eS1]; exact hsh
  refine lv_aload_n hx hb dX7_isMethodType_5 rfl (lv_at hl 0 rfl) ?_
  refine lv_iconst (v := 0) hx hb dX7_isMethodType_6 (by decide) ?_
  refine va_put (D := rD g) (ci := 6) (v := .int 0) (ty := .int) (C := RX7) (T := TX7) (N := 17) hx hb hts inX7 tyX7 tyX7_ok nmX7 hown hR.K hR.P hR.D hR.sS 9 (hR.at46 (hR.w.2.1 _ finC_2).2.1) rfl 13 (by decide) (hts _ kw_1347) (fun _ h9 => h9) rfl (by decide +kernel) rfl rfl (Nat.le_of_ble_eq_true rfl) dX7_isMethodType_7 (fun H locs hP hD hS => ?_)
  have hTk9 : qT S1 9 = 46 := (hR.w.2.1 _ finC_2).2.1
  have hR : RepC g ad A s (wI S1 9 13 (0 : Int32)) H locs := hR.pI46 (hR.w.2.1 _ finC_2).2.1 FX7_s13 (fun q9 => absurd q9 (by decide)) hP hD hS
  obtain ⟨S2, eS2⟩ : ∃ z, z = wI S1 9 13 (0 : Int32) := ⟨_, rfl⟩
  rw [← eS2] at hR
  replace h := h S2 eS2 hTk9 hR.w
  have hsh : shy S S2 := by rw [eS2]; exact hsh
  refine lv_aload_n hx hb dX7_isMethodType_10 rfl (lv_at hl 0 rfl) ?_
  refine lv_iconst (v := 0) hx hb dX7_isMethodType_11 (by decide) ?_
  refine va_put (D := rD g) (ci := 6) (v := .int 0) (ty := .int) (C := RX7) (T := TX7) (N := 17) hx hb hts inX7 tyX7 tyX7_ok nmX7 hown hR.K hR.P hR.D hR.sS 9 (hR.at46 (hR.w.2.1 _ finC_2).2.1) rfl 14 (by decide) (hts _ kw_1348) (fun _ h9 => h9) rfl (by decide +kernel) rfl rfl (Nat.le_of_ble_eq_true rfl) dX7_isMethodType_12 (fun H locs hP hD hS => ?_)
  have hTk9 : qT S2 9 = 46 := (hR.w.2.1 _ finC_2).2.1
  have hR : RepC g ad A s (wI S2 9 14 (0 : Int32)) H locs := hR.pI46 (hR.w.2.1 _ finC_2).2.1 FX7_s14 (fun q9 => absurd q9 (by decide)) hP hD hS
  obtain ⟨S3, eS3⟩ : ∃ z, z = wI S2 9 14 (0 : Int32) := ⟨_, rfl⟩
  rw [← eS3] at hR
  replace h := h S3 eS3 hTk9 hR.w
  have hsh : shy S S3 := by rw [eS3]; exact hsh
  refine lv_aload_n hx hb dX7_isMethodType_15 rfl (lv_at hl 0 rfl) ?_
  refine lv_iload_n hx hb dX7_isMethodType_16 rfl (lv_at hl 1 rfl) ?_
  obtain ⟨hv4, h⟩ := h
  have hFc := cfree hR hA
  refine va_calli (va_runV (As := [.int x1]) (rest := []) ⟨hx, hb, hml, hown, hts⟩ (rX7_nameLength l g ad H.size S3 x1 hR.w  hv4) (cwV 1 hts (gd_V kw_1349 kw_1406 kw_1407 kw_710 kw_1405) rfl rfl rfl (by decide +kernel) ⟨Nat.le_of_ble_eq_true rfl, Nat.le_of_ble_eq_true rfl⟩) ⟨cblind, va_recv hR.K hR.P (ci := 6) (q0 := 9) rfl (hR.at46 (hR.w.2.1 _ finC_2).2.1), fun U hU hW9 => cmk hU hW9 hR hex hE hFc⟩ rfl rfl hl.1 rfl (lv_room (Nat.le_of_ble_eq_true rfl)) dX7_isMethodType_17 ⟨Nat.le_of_ble_eq_true rfl, Nat.le_of_ble_eq_true rfl⟩) hR.sS (fun q _ h => hFc q h) hFc (fun r5 u9 t9 H1 locs ht9 hvm9 hw9 hB9 hz9 hk9 hS => ?_)
  have hR : RepC g ad A s S3 H1 locs := hR.call ht9 hB9 hR.w hS hFc
  obtain rfl : r5 = (fX7_nameLength S3 x1) := hw9
  clear hB9 hz9 hk9 hvm9 ht9 hS
  generalize H1 = H at hR ⊢
  obtain ⟨a7, ea7⟩ : ∃ z, z = (fX7_nameLength S3 x1) := ⟨_, rfl⟩
  rw [← ea7]
  replace h := h a7 ea7
  refine lv_istore_n (lv' := [(2, .int a7), (0, .ref (ad 9)), (1, .int x1)]) hx hb dX7_isMethodType_20 rfl hl (by decide) rfl (fun ls hl => ?_)
  refine lv_aload_n hx hb dX7_isMethodType_21 rfl (lv_at hl 1 rfl) ?_
  refine lv_iload_n hx hb dX7_isMethodType_22 rfl (lv_at hl 2 rfl) ?_
  refine lv_iconst (v := 0) hx hb dX7_isMethodType_23 (by decide) ?_
  obtain ⟨hv8, h⟩ := h
  have hFc := cfree hR hA
  refine va_calli (va_runV (As := [.int x1, .int 0]) (rest := []) ⟨hx, hb, hml, hown, hts⟩ (rX7_nameSign l g ad H.size S3 x1 (0 : Int32) hR.w  hv8) (cwV 2 hts (gd_V kw_1350 kw_1412 kw_1413 kw_710 kw_1411) rfl rfl rfl (by decide +kernel) ⟨Nat.le_of_ble_eq_true rfl, Nat.le_of_ble_eq_true rfl⟩) ⟨cblind, va_recv hR.K hR.P (ci := 6) (q0 := 9) rfl (hR.at46 (hR.w.2.1 _ finC_2).2.1), fun U hU hW9 => cmk hU hW9 hR hex hE hFc⟩ rfl rfl hl.1 rfl (lv_room (Nat.le_of_ble_eq_true rfl)) dX7_isMethodType_24 ⟨Nat.le_of_ble_eq_true rfl, Nat.le_of_ble_eq_true rfl⟩) hR.sS (fun q _ h => hFc q h) hFc (fun r9 u9 t9 H1 locs ht9 hvm9 hw9 hB9 hz9 hk9 hS => ?_)
  have hR : RepC g ad A s S3 H1 locs := hR.call ht9 hB9 hR.w hS hFc
  obtain rfl : r9 = (fX7_nameSign S3 x1 (0 : Int32)) := hw9
  clear hB9 hz9 hk9 hvm9 ht9 hS
  generalize H1 = H at hR ⊢
  refine lv_bipush (v := 40) hx hb dX7_isMethodType_27 (by decide) ?_
  refine lv_icmp_eq (tgt := 34) hx hb dX7_isMethodType_29 (by decide) (fun c11 => ?_) (fun c11 => ?_)
  · replace h := h.1 (k_eq rfl (by decide) c11)
    refine lv_iconst (v := 1) hx hb dX7_isMethodType_34 (by decide) ?_
    refine lv_istore_n (lv' := [(3, .int 1), (2, .int a7), (0, .ref (ad 9)), (1, .int x1)]) hx hb dX7_isMethodType_35 rfl hl (by decide) rfl (fun ls hl => ?_)
    refine lv_aload_n hx hb dX7_isMethodType_36 rfl (lv_at hl 2 rfl) ?_
    refine lv_iload_n hx hb dX7_isMethodType_37 rfl (lv_at hl 3 rfl) ?_
    refine lv_iload_n hx hb dX7_isMethodType_38 rfl (lv_at hl 0 rfl) ?_
    obtain ⟨hv12, h⟩ := h
    have hFc := cfree hR hA
    refine va_calli (va_runV (As := [.int x1, .int 1]) (rest := []) ⟨hx, hb, hml, hown, hts⟩ (rX7_kindOfPart l g ad H.size S3 x1 (1 : Int32) hR.w  hv12) (cwV 2 hts (gd_V kw_1351 kw_1385 kw_1386 kw_710 kw_1384) rfl rfl rfl (by decide +kernel) ⟨Nat.le_of_ble_eq_true rfl, Nat.le_of_ble_eq_true rfl⟩) ⟨cblind, va_recv hR.K hR.P (ci := 6) (q0 := 9) rfl (hR.at46 (hR.w.2.1 _ finC_2).2.1), fun U hU hW9 => cmk hU hW9 hR hex hE hFc⟩ rfl rfl hl.1 rfl (lv_room (Nat.le_of_ble_eq_true rfl)) dX7_isMethodType_39 ⟨Nat.le_of_ble_eq_true rfl, Nat.le_of_ble_eq_true rfl⟩) hR.sS (fun q _ h => hFc q h) hFc (fun r13 u9 t9 H1 locs ht9 hvm9 hw9 hB9 hz9 hk9 hS => ?_)
    have hR : RepC g ad A s S3 H1 locs := hR.call ht9 hB9 hR.w hS hFc
    obtain rfl : r13 = (fX7_kindOfPart S3 x1 (1 : Int32)) := hw9
    clear hB9 hz9 hk9 hvm9 ht9 hS
    generalize H1 = H at hR ⊢
    obtain ⟨a15, ea15⟩ : ∃ z, z = (fX7_kindOfPart S3 x1 (1 : Int32)) := ⟨_, rfl⟩
    rw [← ea15]
    replace h := h a15 ea15
    refine lv_istore (lv' := [(4, .int a15), (3, .int 1), (2, .int a7), (0, .ref (ad 9)), (1, .int x1)]) hx hb dX7_isMethodType_42 hl (by decide) rfl (fun ls hl => ?_)
    have J_44 : ∀ (n44 : Nat) (U44 : MS) (v44_1 : Int32) (v44_2 : Int32) (v44_3 : Int32) (v44_4 : Int32) (H : Heap) (locs : List Loc) (ls : Array Slot), w_X7_isMethodType_L44 Q n44 U44 v44_1 v44_2 v44_3 v44_4 → shy S U44 → RepC g ad A s U44 H locs → lv_has ls 5 [(0, .ref (ad 9)), (1, .int v44_1), (2, .int v44_2), (3, .int v44_3), (4, .int v44_4)] → W p l e (headSpec (wt yX7_isMethodType cX7_isMethodType 5 (some .boolean)) ({ frames := 3, cells := 0, slots := 0, locals := 65 })).room s m ([.ref (ad 9), .int x1] : List Value).toArray below meth c H locs 0 0 (MQ below (va_Qi (fun (r : Int32) (u : MS) => Q r u ∧ wfC u ∧ shy S u ∧ (r = 0 ∨ r = 1)) (fun (u : MS) (t : State) => qEC g ad A u t) A) ([.ref (ad 9), .int x1] : List Value).toArray s 0 0 A) (F0 m 44 ls []) := by
      intro n44
      induction n44 with
      | zero => intro U44 v44_1 v44_2 v44_3 v44_4 H locs ls h hsh hR hl; unfold w_X7_isMethodType_L44 at h; exact h.elim
      | succ n44 ih_44 =>
        intro U44 v44_1 v44_2 v44_3 v44_4 H locs ls h hsh hR hl
        unfold w_X7_isMethodType_L44 at h
        replace h := h hR.w
        refine lv_iload hx hb dX7_isMethodType_44 (lv_at hl 4 rfl) ?_
        have J_112 : ∀ (U112 : MS) (v112_1 : Int32) (v112_2 : Int32) (v112_3 : Int32) (H : Heap) (locs : List Loc) (ls : Array Slot), w_X7_isMethodType_J112 Q U112 v112_1 v112_2 v112_3 → shy S U112 → RepC g ad A s U112 H locs → lv_has ls 5 [(0, .ref (ad 9)), (1, .int v112_1), (2, .int v112_2), (3, .int v112_3)] → W p l e (headSpec (wt yX7_isMethodType cX7_isMethodType 5 (some .boolean)) ({ frames := 3, cells := 0, slots := 0, locals := 65 })).room s m ([.ref (ad 9), .int x1] : List Value).toArray below meth c H locs 0 0 (MQ below (va_Qi (fun (r : Int32) (u : MS) => Q r u ∧ wfC u ∧ shy S u ∧ (r = 0 ∨ r = 1)) (fun (u : MS) (t : State) => qEC g ad A u t) A) ([.ref (ad 9), .int x1] : List Value).toArray s 0 0 A) (F0 m 112 ls []) := by
          intro U112 v112_1 v112_2 v112_3 H locs ls h hsh hR hl
          unfold w_X7_isMethodType_J112 at h
          replace h := h hR.w
          refine lv_iload_n hx hb dX7_isMethodType_112 rfl (lv_at hl 3 rfl) ?_
          refine lv_iconst (v := 1) hx hb dX7_isMethodType_113 (by decide) ?_
          refine lv_iadd hx hb dX7_isMethodType_114 ?_
          refine lv_topi (fun z16 ez16 => ?_)
          obtain rfl : z16 = (v112_3 + (1 : Int32)) := ez16
          refine lv_iload_n hx hb dX7_isMethodType_115 rfl (lv_at hl 2 rfl) ?_
          refine lv_icmp_ge (tgt := 130) hx hb dX7_isMethodType_116 (by decide) (fun c17 => ?_) (fun c17 => ?_)
          · replace h := h.1 (k_le rfl rfl c17)
            refine lv_iconst (v := 0) hx hb dX7_isMethodType_130 (by decide) ?_
            exact W.zret (v := 0) hx hb hr (nz (Or.inl rfl)) (fun t9 ht9 hW9 => ⟨⟨_, U112, rfl, ⟨h, hR.w, hsh, (Or.inl rfl)⟩, ⟨by rw [ht9]; exact hR.P, hR.D⟩⟩, hR.sS.F ht9⟩) hR.sS.2.2 dX7_isMethodType_131
          · replace h := h.2 (k_nle rfl rfl c17)
            refine lv_aload_n hx hb dX7_isMethodType_119 rfl (lv_at hl 0 rfl) ?_
            refine lv_iload_n hx hb dX7_isMethodType_120 rfl (lv_at hl 1 rfl) ?_
            refine lv_iload_n hx hb dX7_isMethodType_121 rfl (lv_at hl 3 rfl) ?_
            obtain ⟨hv18, h⟩ := h
            have hFc := cfree hR hA
            refine va_calli (va_runV (As := [.int v112_1, .int v112_3]) (rest := []) ⟨hx, hb, hml, hown, hts⟩ (rX7_nameSign l g ad H.size U112 v112_1 v112_3 hR.w  hv18) (cwV 2 hts (gd_V kw_1350 kw_1412 kw_1413 kw_710 kw_1411) rfl rfl rfl (by decide +kernel) ⟨Nat.le_of_ble_eq_true rfl, Nat.le_of_ble_eq_true rfl⟩) ⟨cblind, va_recv hR.K hR.P (ci := 6) (q0 := 9) rfl (hR.at46 (hR.w.2.1 _ finC_2).2.1), fun U hU hW9 => cmk hU hW9 hR hex hE hFc⟩ rfl rfl hl.1 rfl (lv_room (Nat.le_of_ble_eq_true rfl)) dX7_isMethodType_122 ⟨Nat.le_of_ble_eq_true rfl, Nat.le_of_ble_eq_true rfl⟩) hR.sS (fun q _ h => hFc q h) hFc (fun r19 u9 t9 H1 locs ht9 hvm9 hw9 hB9 hz9 hk9 hS => ?_)
            have hR : RepC g ad A s U112 H1 locs := hR.call ht9 hB9 hR.w hS hFc
            obtain rfl : r19 = (fX7_nameSign U112 v112_1 v112_3) := hw9
            clear hB9 hz9 hk9 hvm9 ht9 hS
            generalize H1 = H at hR ⊢
            refine lv_bipush (v := 41) hx hb dX7_isMethodType_125 (by decide) ?_
            refine lv_icmp_eq (tgt := 132) hx hb dX7_isMethodType_127 (by decide) (fun c21 => ?_) (fun c21 => ?_)
            · replace h := h.1 (k_eq rfl (by decide) c21)
              obtain ⟨a22, ea22⟩ : ∃ z, z = (v112_3 + Int32.ofInt 1) := ⟨_, rfl⟩
              replace h := h a22 ea22
              refine lv_iinc (v := a22) (lv' := [(3, .int a22), (0, .ref (ad 9)), (1, .int v112_1), (2, .int v112_2)]) hx hb dX7_isMethodType_132 hl (k := 3) rfl ea22.symm (by decide) rfl (fun ls hl => ?_)
              refine lv_aload_n hx hb dX7_isMethodType_135 rfl (lv_at hl 1 rfl) ?_
              refine lv_aload_n hx hb dX7_isMethodType_136 rfl (lv_at hl 1 rfl) ?_
              refine lv_iload_n hx hb dX7_isMethodType_137 rfl (lv_at hl 2 rfl) ?_
              refine lv_iload_n hx hb dX7_isMethodType_138 rfl (lv_at hl 0 rfl) ?_
              obtain ⟨hv23, h⟩ := h
              have hFc := cfree hR hA
              refine va_calli (va_runV (As := [.int v112_1, .int a22]) (rest := [.ref (ad 9)]) ⟨hx, hb, hml, hown, hts⟩ (rX7_kindOfPart l g ad H.size U112 v112_1 a22 hR.w  hv23) (cwV 2 hts (gd_V kw_1351 kw_1385 kw_1386 kw_710 kw_1384) rfl rfl rfl (by decide +kernel) ⟨Nat.le_of_ble_eq_true rfl, Nat.le_of_ble_eq_true rfl⟩) ⟨cblind, va_recv hR.K hR.P (ci := 6) (q0 := 9) rfl (hR.at46 (hR.w.2.1 _ finC_2).2.1), fun U hU hW9 => cmk hU hW9 hR hex hE hFc⟩ rfl rfl hl.1 rfl (lv_room (Nat.le_of_ble_eq_true rfl)) dX7_isMethodType_139 ⟨Nat.le_of_ble_eq_true rfl, Nat.le_of_ble_eq_true rfl⟩) hR.sS (fun q _ h => hFc q h) hFc (fun r24 u9 t9 H1 locs ht9 hvm9 hw9 hB9 hz9 hk9 hS => ?_)
              have hR : RepC g ad A s U112 H1 locs := hR.call ht9 hB9 hR.w hS hFc
              obtain rfl : r24 = (fX7_kindOfPart U112 v112_1 a22) := hw9
              clear hB9 hz9 hk9 hvm9 ht9 hS
              generalize H1 = H at hR ⊢
              refine va_put (D := rD g) (ci := 6) (v := .int (fX7_kindOfPart U112 v112_1 a22)) (ty := .int) (C := RX7) (T := TX7) (N := 17) hx hb hts inX7 tyX7 tyX7_ok nmX7 hown hR.K hR.P hR.D hR.sS 9 (hR.at46 (hR.w.2.1 _ finC_2).2.1) rfl 14 (by decide) (hts _ kw_1348) (fun _ h9 => h9) rfl (by decide +kernel) rfl rfl (Nat.le_of_ble_eq_true rfl) dX7_isMethodType_142 (fun H locs hP hD hS => ?_)
              have hTk9 : qT U112 9 = 46 := (hR.w.2.1 _ finC_2).2.1
              have hR : RepC g ad A s (wI U112 9 14 (fX7_kindOfPart U112 v112_1 a22)) H locs := hR.pI46 (hR.w.2.1 _ finC_2).2.1 FX7_s14 (fun q9 => absurd q9 (by decide)) hP hD hS
              obtain ⟨S26, eS26⟩ : ∃ z, z = wI U112 9 14 (fX7_kindOfPart U112 v112_1 a22) := ⟨_, rfl⟩
              rw [← eS26] at hR
              replace h := h S26 eS26 hTk9 hR.w
              have hsh : shy S S26 := by rw [eS26]; exact hsh
              refine lv_aload_n hx hb dX7_isMethodType_145 rfl (lv_at hl 1 rfl) ?_
              refine va_get (D := rD g) (ci := 6) (v := .int (qI S26 9 14)) (C := RX7) (T := TX7) (N := 17) hx hb hts inX7 hown hR.K hR.P 9 (hR.at46 (hR.w.2.1 _ finC_2).2.1) rfl 14 (by decide) (hts _ kw_1348) (fun _ h9 => h9) rfl dX7_isMethodType_146 ?_
              have J_165 : ∀ (U165 : MS) (v165_2 : Int32) (v165_3 : Int32) (H : Heap) (locs : List Loc) (ls : Array Slot), w_X7_isMethodType_J165 Q U165 v165_2 v165_3 → shy S U165 → RepC g ad A s U165 H locs → lv_has ls 5 [(0, .ref (ad 9)), (2, .int v165_2), (3, .int v165_3)] → W p l e (headSpec (wt yX7_isMethodType cX7_isMethodType 5 (some .boolean)) ({ frames := 3, cells := 0, slots := 0, locals := 65 })).room s m ([.ref (ad 9), .int x1] : List Value).toArray below meth c H locs 0 0 (MQ below (va_Qi (fun (r : Int32) (u : MS) => Q r u ∧ wfC u ∧ shy S u ∧ (r = 0 ∨ r = 1)) (fun (u : MS) (t : State) => qEC g ad A u t) A) ([.ref (ad 9), .int x1] : List Value).toArray s 0 0 A) (F0 m 165 ls []) := by
                intro U165 v165_2 v165_3 H locs ls h hsh hR hl
                unfold w_X7_isMethodType_J165 at h
                replace h := h hR.w
                refine lv_iload_n hx hb dX7_isMethodType_165 rfl (lv_at hl 2 rfl) ?_
                refine lv_aload_n hx hb dX7_isMethodType_166 rfl (lv_at hl 0 rfl) ?_
                refine va_get (D := rD g) (ci := 6) (v := .int (qI U165 9 14)) (C := RX7) (T := TX7) (N := 17) hx hb hts inX7 hown hR.K hR.P 9 (hR.at46 (hR.w.2.1 _ finC_2).2.1) rfl 14 (by decide) (hts _ kw_1348) (fun _ h9 => h9) rfl dX7_isMethodType_167 ?_
                refine lv_iconst (v := 3) hx hb dX7_isMethodType_170 (by decide) ?_
                have J_179 : ∀ (U179 : MS) (t179_0 : Int32) (t179_1 : Int32) (v179_2 : Int32) (H : Heap) (locs : List Loc) (ls : Array Slot), w_X7_isMethodType_J179 Q U179 t179_0 t179_1 v179_2 → shy S U179 → RepC g ad A s U179 H locs → lv_has ls 5 [(2, .int v179_2)] → W p l e (headSpec (wt yX7_isMethodType cX7_isMethodType 5 (some .boolean)) ({ frames := 3, cells := 0, slots := 0, locals := 65 })).room s m ([.ref (ad 9), .int x1] : List Value).toArray below meth c H locs 0 0 (MQ below (va_Qi (fun (r : Int32) (u : MS) => Q r u ∧ wfC u ∧ shy S u ∧ (r = 0 ∨ r = 1)) (fun (u : MS) (t : State) => qEC g ad A u t) A) ([.ref (ad 9), .int x1] : List Value).toArray s 0 0 A) (F0 m 179 ls [.int t179_0, .int t179_1]) := by
                  intro U179 t179_0 t179_1 v179_2 H locs ls h hsh hR hl
                  unfold w_X7_isMethodType_J179 at h
                  replace h := h hR.w
                  refine lv_iadd hx hb dX7_isMethodType_179 ?_
                  refine lv_topi (fun z27 ez27 => ?_)
                  obtain rfl : z27 = (t179_1 + t179_0) := ez27
                  refine lv_iload_n hx hb dX7_isMethodType_180 rfl (lv_at hl 0 rfl) ?_
                  refine lv_icmp_ne (tgt := 188) hx hb dX7_isMethodType_181 (by decide) (fun c28 => ?_) (fun c28 => ?_)
                  · replace h := h.2 (k_ne rfl rfl c28)
                    refine lv_iconst (v := 0) hx hb dX7_isMethodType_188 (by decide) ?_
                    exact W.zret (v := 0) hx hb hr (nz (Or.inl rfl)) (fun t9 ht9 hW9 => ⟨⟨_, U179, rfl, ⟨h, hR.w, hsh, (Or.inl rfl)⟩, ⟨by rw [ht9]; exact hR.P, hR.D⟩⟩, hR.sS.F ht9⟩) hR.sS.2.2 dX7_isMethodType_189
                  · replace h := h.1 (k_eq rfl rfl c28)
                    refine lv_iconst (v := 1) hx hb dX7_isMethodType_184 (by decide) ?_
                    refine lv_goto (tgt := 189) hx hb dX7_isMethodType_185 (by decide) ?_
                    exact W.zret (v := 1) hx hb hr (nz (Or.inr rfl)) (fun t9 ht9 hW9 => ⟨⟨_, U179, rfl, ⟨h, hR.w, hsh, (Or.inr rfl)⟩, ⟨by rw [ht9]; exact hR.P, hR.D⟩⟩, hR.sS.F ht9⟩) hR.sS.2.2 dX7_isMethodType_189
                refine lv_icmp_ne (tgt := 178) hx hb dX7_isMethodType_171 (by decide) (fun c29 => ?_) (fun c29 => ?_)
                · replace h := h.2 (k_ne rfl (by decide) c29)
                  refine lv_iconst (v := 1) hx hb dX7_isMethodType_178 (by decide) ?_
                  exact J_179 U165 1 v165_3 v165_2 _ _ ls h  hsh hR (lv_sub hl [1] rfl)
                · replace h := h.1 (k_eq rfl (by decide) c29)
                  refine lv_iconst (v := 2) hx hb dX7_isMethodType_174 (by decide) ?_
                  refine lv_goto (tgt := 179) hx hb dX7_isMethodType_175 (by decide) ?_
                  exact J_179 U165 2 v165_3 v165_2 _ _ ls h  hsh hR (lv_sub hl [1] rfl)
              refine lv_if_ne (tgt := 165) hx hb dX7_isMethodType_149 (by decide) (fun c30 => ?_) (fun c30 => ?_)
              · replace h := h.2 (k_ne rfl (by decide) c30)
                exact J_165 S26 v112_2 a22 _ _ ls h  hsh hR (lv_sub hl [1, 3, 0] rfl)
              · replace h := h.1 (k_eq rfl (by decide) c30)
                refine lv_aload_n hx hb dX7_isMethodType_152 rfl (lv_at hl 1 rfl) ?_
                refine lv_iload_n hx hb dX7_isMethodType_153 rfl (lv_at hl 2 rfl) ?_
                refine lv_iload_n hx hb dX7_isMethodType_154 rfl (lv_at hl 0 rfl) ?_
                obtain ⟨hv31, h⟩ := h
                have hFc := cfree hR hA
                refine va_calli (va_runV (As := [.int v112_1, .int a22]) (rest := []) ⟨hx, hb, hml, hown, hts⟩ (rX7_nameSign l g ad H.size S26 v112_1 a22 hR.w  hv31) (cwV 2 hts (gd_V kw_1350 kw_1412 kw_1413 kw_710 kw_1411) rfl rfl rfl (by decide +kernel) ⟨Nat.le_of_ble_eq_true rfl, Nat.le_of_ble_eq_true rfl⟩) ⟨cblind, va_recv hR.K hR.P (ci := 6) (q0 := 9) rfl (hR.at46 (hR.w.2.1 _ finC_2).2.1), fun U hU hW9 => cmk hU hW9 hR hex hE hFc⟩ rfl rfl hl.1 rfl (lv_room (Nat.le_of_ble_eq_true rfl)) dX7_isMethodType_155 ⟨Nat.le_of_ble_eq_true rfl, Nat.le_of_ble_eq_true rfl⟩) hR.sS (fun q _ h => hFc q h) hFc (fun r32 u9 t9 H1 locs ht9 hvm9 hw9 hB9 hz9 hk9 hS => ?_)
                have hR : RepC g ad A s S26 H1 locs := hR.call ht9 hB9 hR.w hS hFc
                obtain rfl : r32 = (fX7_nameSign S26 v112_1 a22) := hw9
                clear hB9 hz9 hk9 hvm9 ht9 hS
                generalize H1 = H at hR ⊢
                refine lv_bipush (v := 86) hx hb dX7_isMethodType_158 (by decide) ?_
                refine lv_icmp_eq (tgt := 165) hx hb dX7_isMethodType_160 (by decide) (fun c34 => ?_) (fun c34 => ?_)
                · replace h := h.1 (k_eq rfl (by decide) c34)
                  exact J_165 S26 v112_2 a22 _ _ ls h  hsh hR (lv_sub hl [1, 3, 0] rfl)
                · replace h := h.2 (k_ne rfl (by decide) c34)
                  refine lv_iconst (v := 0) hx hb dX7_isMethodType_163 (by decide) ?_
                  exact W.zret (v := 0) hx hb hr (nz (Or.inl rfl)) (fun t9 ht9 hW9 => ⟨⟨_, S26, rfl, ⟨h, hR.w, hsh, (Or.inl rfl)⟩, ⟨by rw [ht9]; exact hR.P, hR.D⟩⟩, hR.sS.F ht9⟩) hR.sS.2.2 dX7_isMethodType_164
            · replace h := h.2 (k_ne rfl (by decide) c21)
              refine lv_iconst (v := 0) hx hb dX7_isMethodType_130 (by decide) ?_
              exact W.zret (v := 0) hx hb hr (nz (Or.inl rfl)) (fun t9 ht9 hW9 => ⟨⟨_, U112, rfl, ⟨h, hR.w, hsh, (Or.inl rfl)⟩, ⟨by rw [ht9]; exact hR.P, hR.D⟩⟩, hR.sS.F ht9⟩) hR.sS.2.2 dX7_isMethodType_131
        refine lv_if_eq (tgt := 112) hx hb dX7_isMethodType_46 (by decide) (fun c35 => ?_) (fun c35 => ?_)
        · replace h := h.1 (k_eq rfl (by decide) c35)
          exact J_112 U44 v44_1 v44_2 v44_3 _ _ ls h  hsh hR (lv_sub hl [0, 1, 2, 3] rfl)
        · replace h := h.2 (k_ne rfl (by decide) c35)
          refine lv_iload_n hx hb dX7_isMethodType_49 rfl (lv_at hl 3 rfl) ?_
          refine lv_iload_n hx hb dX7_isMethodType_50 rfl (lv_at hl 2 rfl) ?_
          refine lv_icmp_ge (tgt := 112) hx hb dX7_isMethodType_51 (by decide) (fun c36 => ?_) (fun c36 => ?_)
          · replace h := h.1 (k_le rfl rfl c36)
            exact J_112 U44 v44_1 v44_2 v44_3 _ _ ls h  hsh hR (lv_sub hl [0, 1, 2, 3] rfl)
          · replace h := h.2 (k_nle rfl rfl c36)
            refine lv_aload_n hx hb dX7_isMethodType_54 rfl (lv_at hl 0 rfl) ?_
            refine lv_aload_n hx hb dX7_isMethodType_55 rfl (lv_at hl 0 rfl) ?_
            refine va_get (D := rD g) (ci := 6) (v := .int (qI U44 9 12)) (C := RX7) (T := TX7) (N := 17) hx hb hts inX7 hown hR.K hR.P 9 (hR.at46 (hR.w.2.1 _ finC_2).2.1) rfl 12 (by decide) (hts _ kw_1346) (fun _ h9 => h9) rfl dX7_isMethodType_56 ?_
            refine lv_iconst (v := 4) hx hb dX7_isMethodType_59 (by decide) ?_
            refine lv_ishl hx hb dX7_isMethodType_60 ?_
            refine lv_topi (fun z37 ez37 => ?_)
            obtain rfl : z37 = ((qI U44 9 12) <<< ((4 : Int32) &&& 31)) := ez37
            refine lv_iload hx hb dX7_isMethodType_61 (lv_at hl 4 rfl) ?_
            refine lv_ior hx hb dX7_isMethodType_63 ?_
            refine lv_topi (fun z38 ez38 => ?_)
            obtain rfl : z38 = (((qI U44 9 12) <<< ((4 : Int32) &&& 31)) ||| v44_4) := ez38
            refine va_put (D := rD g) (ci := 6) (v := .int (((qI U44 9 12) <<< ((4 : Int32) &&& 31)) ||| v44_4)) (ty := .int) (C := RX7) (T := TX7) (N := 17) hx hb hts inX7 tyX7 tyX7_ok nmX7 hown hR.K hR.P hR.D hR.sS 9 (hR.at46 (hR.w.2.1 _ finC_2).2.1) rfl 12 (by decide) (hts _ kw_1346) (fun _ h9 => h9) rfl (by decide +kernel) rfl rfl (Nat.le_of_ble_eq_true rfl) dX7_isMethodType_64 (fun H locs hP hD hS => ?_)
            have hTk9 : qT U44 9 = 46 := (hR.w.2.1 _ finC_2).2.1
            have hR : RepC g ad A s (wI U44 9 12 (((qI U44 9 12) <<< ((4 : Int32) &&& 31)) ||| v44_4)) H locs := hR.pI46 (hR.w.2.1 _ finC_2).2.1 FX7_s12 (fun q9 => absurd q9 (by decide)) hP hD hS
            obtain ⟨S39, eS39⟩ : ∃ z, z = wI U44 9 12 (((qI U44 9 12) <<< ((4 : Int32) &&& 31)) ||| v44_4) := ⟨_, rfl⟩
            rw [← eS39] at hR
            replace h := h S39 eS39 hTk9 hR.w
            have hsh : shy S S39 := by rw [eS39]; exact hsh
            refine lv_aload_n hx hb dX7_isMethodType_67 rfl (lv_at hl 0 rfl) ?_
            refine lv_dup hx hb dX7_isMethodType_68 rfl ?_
            refine va_get (D := rD g) (ci := 6) (v := .int (qI S39 9 13)) (C := RX7) (T := TX7) (N := 17) hx hb hts inX7 hown hR.K hR.P 9 (hR.at46 (hR.w.2.1 _ finC_2).2.1) rfl 13 (by decide) (hts _ kw_1347) (fun _ h9 => h9) rfl dX7_isMethodType_69 ?_
            refine lv_iload hx hb dX7_isMethodType_72 (lv_at hl 4 rfl) ?_
            refine lv_iconst (v := 2) hx hb dX7_isMethodType_74 (by decide) ?_
            have J_83 : ∀ (U83 : MS) (t83_0 : Int32) (t83_1 : Int32) (v83_1 : Int32) (v83_2 : Int32) (v83_3 : Int32) (v83_4 : Int32) (H : Heap) (locs : List Loc) (ls : Array Slot), w_X7_isMethodType_J83 Q (w_X7_isMethodType_L44 Q n44) U83 t83_0 t83_1 v83_1 v83_2 v83_3 v83_4 → shy S U83 → RepC g ad A s U83 H locs → lv_has ls 5 [(0, .ref (ad 9)), (1, .int v83_1), (2, .int v83_2), (3, .int v83_3), (4, .int v83_4)] → W p l e (headSpec (wt yX7_isMethodType cX7_isMethodType 5 (some .boolean)) ({ frames := 3, cells := 0, slots := 0, locals := 65 })).room s m ([.ref (ad 9), .int x1] : List Value).toArray below meth c H locs 0 0 (MQ below (va_Qi (fun (r : Int32) (u : MS) => Q r u ∧ wfC u ∧ shy S u ∧ (r = 0 ∨ r = 1)) (fun (u : MS) (t : State) => qEC g ad A u t) A) ([.ref (ad 9), .int x1] : List Value).toArray s 0 0 A) (F0 m 83 ls [.int t83_0, .int t83_1, .ref (ad 9)]) := by
              intro U83 t83_0 t83_1 v83_1 v83_2 v83_3 v83_4 H locs ls h hsh hR hl
              unfold w_X7_isMethodType_J83 at h
              replace h := h hR.w
              refine lv_iadd hx hb dX7_isMethodType_83 ?_
              refine lv_topi (fun z40 ez40 => ?_)
              obtain rfl : z40 = (t83_1 + t83_0) := ez40
              refine va_put (D := rD g) (ci := 6) (v := .int (t83_1 + t83_0)) (ty := .int) (C := RX7) (T := TX7) (N := 17) hx hb hts inX7 tyX7 tyX7_ok nmX7 hown hR.K hR.P hR.D hR.sS 9 (hR.at46 (hR.w.2.1 _ finC_2).2.1) rfl 13 (by decide) (hts _ kw_1347) (fun _ h9 => h9) rfl (by decide +kernel) rfl rfl (Nat.le_of_ble_eq_true rfl) dX7_isMethodType_84 (fun H locs hP hD hS => ?_)
              have hTk9 : qT U83 9 = 46 := (hR.w.2.1 _ finC_2).2.1
              have hR : RepC g ad A s (wI U83 9 13 (t83_1 + t83_0)) H locs := hR.pI46 (hR.w.2.1 _ finC_2).2.1 FX7_s13 (fun q9 => absurd q9 (by decide)) hP hD hS
              obtain ⟨S41, eS41⟩ : ∃ z, z = wI U83 9 13 (t83_1 + t83_0) := ⟨_, rfl⟩
              rw [← eS41] at hR
              replace h := h S41 eS41 hTk9 hR.w
              have hsh : shy S S41 := by rw [eS41]; exact hsh
              refine lv_iload_n hx hb dX7_isMethodType_87 rfl (lv_at hl 3 rfl) ?_
              refine lv_iload hx hb dX7_isMethodType_88 (lv_at hl 4 rfl) ?_
              refine lv_iconst (v := 3) hx hb dX7_isMethodType_90 (by decide) ?_
              have J_99 : ∀ (U99 : MS) (t99_0 : Int32) (t99_1 : Int32) (v99_1 : Int32) (v99_2 : Int32) (H : Heap) (locs : List Loc) (ls : Array Slot), w_X7_isMethodType_J99 Q (w_X7_isMethodType_L44 Q n44) U99 t99_0 t99_1 v99_1 v99_2 → shy S U99 → RepC g ad A s U99 H locs → lv_has ls 5 [(0, .ref (ad 9)), (1, .int v99_1), (2, .int v99_2)] → W p l e (headSpec (wt yX7_isMethodType cX7_isMethodType 5 (some .boolean)) ({ frames := 3, cells := 0, slots := 0, locals := 65 })).room s m ([.ref (ad 9), .int x1] : List Value).toArray below meth c H locs 0 0 (MQ below (va_Qi (fun (r : Int32) (u : MS) => Q r u ∧ wfC u ∧ shy S u ∧ (r = 0 ∨ r = 1)) (fun (u : MS) (t : State) => qEC g ad A u t) A) ([.ref (ad 9), .int x1] : List Value).toArray s 0 0 A) (F0 m 99 ls [.int t99_0, .int t99_1]) := by
                intro U99 t99_0 t99_1 v99_1 v99_2 H locs ls h hsh hR hl
                unfold w_X7_isMethodType_J99 at h
                replace h := h hR.w
                refine lv_iadd hx hb dX7_isMethodType_99 ?_
                refine lv_topi (fun z42 ez42 => ?_)
                obtain rfl : z42 = (t99_1 + t99_0) := ez42
                obtain ⟨a43, ea43⟩ : ∃ z, z = (t99_1 + t99_0) := ⟨_, rfl⟩
                rw [← ea43]
                replace h := h a43 ea43
                refine lv_istore_n (lv' := [(3, .int a43), (0, .ref (ad 9)), (1, .int v99_1), (2, .int v99_2)]) hx hb dX7_isMethodType_100 rfl hl (by decide) rfl (fun ls hl => ?_)
                refine lv_aload_n hx hb dX7_isMethodType_101 rfl (lv_at hl 1 rfl) ?_
                refine lv_iload_n hx hb dX7_isMethodType_102 rfl (lv_at hl 2 rfl) ?_
                refine lv_iload_n hx hb dX7_isMethodType_103 rfl (lv_at hl 0 rfl) ?_
                obtain ⟨hv44, h⟩ := h
                have hFc := cfree hR hA
                refine va_calli (va_runV (As := [.int v99_1, .int a43]) (rest := []) ⟨hx, hb, hml, hown, hts⟩ (rX7_kindOfPart l g ad H.size U99 v99_1 a43 hR.w  hv44) (cwV 2 hts (gd_V kw_1351 kw_1385 kw_1386 kw_710 kw_1384) rfl rfl rfl (by decide +kernel) ⟨Nat.le_of_ble_eq_true rfl, Nat.le_of_ble_eq_true rfl⟩) ⟨cblind, va_recv hR.K hR.P (ci := 6) (q0 := 9) rfl (hR.at46 (hR.w.2.1 _ finC_2).2.1), fun U hU hW9 => cmk hU hW9 hR hex hE hFc⟩ rfl rfl hl.1 rfl (lv_room (Nat.le_of_ble_eq_true rfl)) dX7_isMethodType_104 ⟨Nat.le_of_ble_eq_true rfl, Nat.le_of_ble_eq_true rfl⟩) hR.sS (fun q _ h => hFc q h) hFc (fun r45 u9 t9 H1 locs ht9 hvm9 hw9 hB9 hz9 hk9 hS => ?_)
                have hR : RepC g ad A s U99 H1 locs := hR.call ht9 hB9 hR.w hS hFc
                obtain rfl : r45 = (fX7_kindOfPart U99 v99_1 a43) := hw9
                clear hB9 hz9 hk9 hvm9 ht9 hS
                generalize H1 = H at hR ⊢
                obtain ⟨a47, ea47⟩ : ∃ z, z = (fX7_kindOfPart U99 v99_1 a43) := ⟨_, rfl⟩
                rw [← ea47]
                replace h := h a47 ea47
                refine lv_istore (lv' := [(4, .int a47), (3, .int a43), (0, .ref (ad 9)), (1, .int v99_1), (2, .int v99_2)]) hx hb dX7_isMethodType_107 hl (by decide) rfl (fun ls hl => ?_)
                refine lv_goto (tgt := 44) hx hb dX7_isMethodType_109 (by decide) ?_
                exact ih_44 U99 v99_1 v99_2 a43 a47 _ _ ls h  hsh hR (lv_sub hl [2, 3, 4, 1, 0] rfl)
              refine lv_icmp_ne (tgt := 98) hx hb dX7_isMethodType_91 (by decide) (fun c48 => ?_) (fun c48 => ?_)
              · replace h := h.2 (k_ne rfl (by decide) c48)
                refine lv_iconst (v := 1) hx hb dX7_isMethodType_98 (by decide) ?_
                exact J_99 S41 1 v83_3 v83_1 v83_2 _ _ ls h  hsh hR (lv_sub hl [0, 1, 2] rfl)
              · replace h := h.1 (k_eq rfl (by decide) c48)
                refine lv_iconst (v := 2) hx hb dX7_isMethodType_94 (by decide) ?_
                refine lv_goto (tgt := 99) hx hb dX7_isMethodType_95 (by decide) ?_
                exact J_99 S41 2 v83_3 v83_1 v83_2 _ _ ls h  hsh hR (lv_sub hl [0, 1, 2] rfl)
            refine lv_icmp_ne (tgt := 82) hx hb dX7_isMethodType_75 (by decide) (fun c49 => ?_) (fun c49 => ?_)
            · replace h := h.2 (k_ne rfl (by decide) c49)
              refine lv_iconst (v := 1) hx hb dX7_isMethodType_82 (by decide) ?_
              exact J_83 S39 1 (qI S39 9 13) v44_1 v44_2 v44_3 v44_4 _ _ ls h  hsh hR (lv_sub hl [0, 1, 2, 3, 4] rfl)
            · replace h := h.1 (k_eq rfl (by decide) c49)
              refine lv_iconst (v := 2) hx hb dX7_isMethodType_78 (by decide) ?_
              refine lv_goto (tgt := 83) hx hb dX7_isMethodType_79 (by decide) ?_
              exact J_83 S39 2 (qI S39 9 13) v44_1 v44_2 v44_3 v44_4 _ _ ls h  hsh hR (lv_sub hl [0, 1, 2, 3, 4] rfl)
    obtain ⟨n9, h⟩ := h
    exact J_44 n9 S3 x1 a7 1 a15 _ _ ls h  hsh hR (lv_sub hl [3, 4, 2, 1, 0] rfl)
  · replace h := h.2 (k_ne rfl (by decide) c11)
    refine lv_iconst (v := 0) hx hb dX7_isMethodType_32 (by decide) ?_
    exact W.zret (v := 0) hx hb hr (nz (Or.inl rfl)) (fun t9 ht9 hW9 => ⟨⟨_, S3, rfl, ⟨h, hR.w, hsh, (Or.inl rfl)⟩, ⟨by rw [ht9]; exact hR.P, hR.D⟩⟩, hR.sS.F ht9⟩) hR.sS.2.2 dX7_isMethodType_33
def w_X7_isSameName_L25 (Q : Int32 → MS → Prop) : Nat → MS → Int32 → Int32 → Int32 → Int32 → Prop
  | 0, _, _, _, _, _ => False
  | n25 + 1, U25, v25_3, v25_4, v25_5, v25_6 => (wfC U25 → ((((3 : Int32) + v25_5).toInt ≤ v25_6.toInt → Q (1 : Int32) U25) ∧ (¬ ((3 : Int32) + v25_5).toInt ≤ v25_6.toInt → (d_X7_u1 U25 (v25_3 + v25_6) ∧ (d_X7_u1 U25 (v25_4 + v25_6) ∧ (((fX7_u1 U25 (v25_3 + v25_6)).toInt = (fX7_u1 U25 (v25_4 + v25_6)).toInt → (∀ a25 : Int32, a25 = (v25_6 + Int32.ofInt 1) → (w_X7_isSameName_L25 Q n25) U25 v25_3 v25_4 v25_5 a25)) ∧ (¬ (fX7_u1 U25 (v25_3 + v25_6)).toInt = (fX7_u1 U25 (v25_4 + v25_6)).toInt → Q (0 : Int32) U25)))))))
def wX7_isSameName (S : MS) (x1 : Int32) (x2 : Int32) (Q : Int32 → MS → Prop) : Prop := (d_X7_entryAt S x1 ∧ (∀ a4 : Int32, a4 = (fX7_entryAt S x1) → (d_X7_entryAt S x2 ∧ (∀ a8 : Int32, a8 = (fX7_entryAt S x2) → (d_X7_u2 S (a4 + (1 : Int32)) ∧ (∀ a13 : Int32, a13 = (fX7_u2 S (a4 + (1 : Int32))) → (∃ n, w_X7_isSameName_L25 Q n S a4 a8 a13 1)))))))
set_option maxHeartbeats 2000000 in
set_option maxRecDepth 100000 in
theorem rX7_isSameName (l : Launch) (g : Gr) (ad : Nat → Nat) (sz : Nat) (S : MS) (x1 : Int32) (x2 : Int32) (hw : wfC S) (Q : Int32 → MS → Prop) (h : wX7_isSameName S x1 x2 Q) : Met l yX7_isSameName (wt yX7_isSameName cX7_isSameName 7 (some .boolean)) ({ frames := 1, cells := 0, slots := 0, locals := 21 }) (va_Pc [.ref (ad 9), .int x1, .int x2] (st_C g ad sz S)) (va_Qi (fun (r : Int32) (u : MS) => Q r u ∧ wfC u ∧ shy S u ∧ (r = 0 ∨ r = 1)) (fun (u : MS) (t : State) => qEC g ad (va_A (WdC g ad S) sz) u t) (va_A (WdC g ad S) sz)) 0 0 (va_A (WdC g ad S) sz) := by
  refine Met.ofW (cc := cX7_isSameName) (maxL := 7) (ret := (some .boolean)) (by decide) rfl ?_
  intro p e s m args below meth c s₁ B hml hv
  obtain ⟨rfl, hsz, hP, hK, hD0, hex, hE⟩ := hv
  have hx := B.exec
  have hb := B.bytes
  have hr := B.returns
  have hts0 := atoms_spec (ws := wt yX7_isSameName cX7_isSameName 7 (some .boolean)) B.pre
  have hts : ∀ w ∈ tb, w.before _ s = true := fun w h => hts0 w (List.mem_cons_of_mem _ h)
  have hown : s.vm.findClass RX7 = some m.cls := findClass_of_methodNamed B.named
  subst hsz
  have hD := hD0.self (sz := s.heap.size)
  generalize hAe : va_A (WdC g ad S) s.heap.size = A at hD hE ⊢
  have hA : ∀ q : Nat, s.heap.size ≤ q → A q := fun q h => by rw [← hAe]; exact Or.inr h
  have hR : RepC g ad A s S s.heap [] := ⟨hK, hP, hD, va_S.rf, hw⟩
  clear hK hP hD hD0
  have hl := lv_entry ([.ref (ad 9), .int x1, .int x2]) (n := 7) (Nat.le_of_ble_eq_true rfl)
  rw [lg_entry_eq]
  generalize (lg_sl ([.ref (ad 9), .int x1, .int x2]) ++ List.replicate (7 - (lg_sl ([.ref (ad 9), .int x1, .int x2])).length) Slot.unset).toArray = ls at hl ⊢
  have hl : lv_has ls 7 [(0, .ref (ad 9)), (1, .int x1), (2, .int x2)] := hl
  have hsh : shy S S := shy.rf
  unfold wX7_isSameName at h
  refine lv_aload_n hx hb dX7_isSameName_0 rfl (lv_at hl 0 rfl) ?_
  refine lv_iload_n hx hb dX7_isSameName_1 rfl (lv_at hl 1 rfl) ?_
  obtain ⟨hv1, h⟩ := h
  have hFc := cfree hR hA
  refine va_calli (va_runV (As := [.int x1]) (rest := []) ⟨hx, hb, hml, hown, hts⟩ (rX7_entryAt l g ad s.heap.size S x1 hR.w  hv1) (cwV 1 hts (gd_V kw_1296 kw_1298 kw_1299 kw_710 kw_1297) rfl rfl rfl (by decide +kernel) ⟨Nat.le_of_ble_eq_true rfl, Nat.le_of_ble_eq_true rfl⟩) ⟨cblind, va_recv hR.K hR.P (ci := 6) (q0 := 9) rfl (hR.at46 (hR.w.2.1 _ finC_2).2.1), fun U hU hW9 => cmk hU hW9 hR hex hE hFc⟩ rfl rfl hl.1 rfl (lv_room (Nat.le_of_ble_eq_true rfl)) dX7_isSameName_2 ⟨Nat.le_of_ble_eq_true rfl, Nat.le_of_ble_eq_true rfl⟩) hR.sS (fun q _ h => hFc q h) hFc (fun r2 u9 t9 H1 locs ht9 hvm9 hw9 hB9 hz9 hk9 hS => ?_)
  have hR : RepC g ad A s S H1 locs := hR.call ht9 hB9 hR.w hS hFc
  obtain rfl : r2 = (fX7_entryAt S x1) := hw9
  clear hB9 hz9 hk9 hvm9 ht9 hS
  generalize H1 = H at hR ⊢
  obtain ⟨a4, ea4⟩ : ∃ z, z = (fX7_entryAt S x1) := ⟨_, rfl⟩
  rw [← ea4]
  replace h := h a4 ea4
  refine lv_istore_n (lv' := [(3, .int a4), (0, .ref (ad 9)), (1, .int x1), (2, .int x2)]) hx hb dX7_isSameName_5 rfl hl (by decide) rfl (fun ls hl => ?_)
  refine lv_aload_n hx hb dX7_isSameName_6 rfl (lv_at hl 1 rfl) ?_
  refine lv_iload_n hx hb dX7_isSameName_7 rfl (lv_at hl 3 rfl) ?_
  obtain ⟨hv5, h⟩ := h
  have hFc := cfree hR hA
  refine va_calli (va_runV (As := [.int x2]) (rest := []) ⟨hx, hb, hml, hown, hts⟩ (rX7_entryAt l g ad H.size S x2 hR.w  hv5) (cwV 1 hts (gd_V kw_1296 kw_1298 kw_1299 kw_710 kw_1297) rfl rfl rfl (by decide +kernel) ⟨Nat.le_of_ble_eq_true rfl, Nat.le_of_ble_eq_true rfl⟩) ⟨cblind, va_recv hR.K hR.P (ci := 6) (q0 := 9) rfl (hR.at46 (hR.w.2.1 _ finC_2).2.1), fun U hU hW9 => cmk hU hW9 hR hex hE hFc⟩ rfl rfl hl.1 rfl (lv_room (Nat.le_of_ble_eq_true rfl)) dX7_isSameName_8 ⟨Nat.le_of_ble_eq_true rfl, Nat.le_of_ble_eq_true rfl⟩) hR.sS (fun q _ h => hFc q h) hFc (fun r6 u9 t9 H1 locs ht9 hvm9 hw9 hB9 hz9 hk9 hS => ?_)
  have hR : RepC g ad A s S H1 locs := hR.call ht9 hB9 hR.w hS hFc
  obtain rfl : r6 = (fX7_entryAt S x2) := hw9
  clear hB9 hz9 hk9 hvm9 ht9 hS
  generalize H1 = H at hR ⊢
  obtain ⟨a8, ea8⟩ : ∃ z, z = (fX7_entryAt S x2) := ⟨_, rfl⟩
  rw [← ea8]
  replace h := h a8 ea8
  refine lv_istore (lv' := [(4, .int a8), (3, .int a4), (0, .ref (ad 9)), (1, .int x1), (2, .int x2)]) hx hb dX7_isSameName_11 hl (by decide) rfl (fun ls hl => ?_)
  refine lv_aload_n hx hb dX7_isSameName_13 rfl (lv_at hl 2 rfl) ?_
  refine lv_iload_n hx hb dX7_isSameName_14 rfl (lv_at hl 1 rfl) ?_
  refine lv_iconst (v := 1) hx hb dX7_isSameName_15 (by decide) ?_
  refine lv_iadd hx hb dX7_isSameName_16 ?_
  refine lv_topi (fun z9 ez9 => ?_)
  obtain rfl : z9 = (a4 + (1 : Int32)) := ez9
  obtain ⟨hv10, h⟩ := h
  have hFc := cfree hR hA
  refine va_calli (va_runV (As := [.int (a4 + (1 : Int32))]) (rest := []) ⟨hx, hb, hml, hown, hts⟩ (rX7_u2 l g ad H.size S (a4 + (1 : Int32)) hR.w  hv10) (cwV 1 hts (gd_V kw_1266 kw_1450 kw_1451 kw_710 kw_1449) rfl rfl rfl (by decide +kernel) ⟨Nat.le_of_ble_eq_true rfl, Nat.le_of_ble_eq_true rfl⟩) ⟨cblind, va_recv hR.K hR.P (ci := 6) (q0 := 9) rfl (hR.at46 (hR.w.2.1 _ finC_2).2.1), fun U hU hW9 => cmk hU hW9 hR hex hE hFc⟩ rfl rfl hl.1 rfl (lv_room (Nat.le_of_ble_eq_true rfl)) dX7_isSameName_17 ⟨Nat.le_of_ble_eq_true rfl, Nat.le_of_ble_eq_true rfl⟩) hR.sS (fun q _ h => hFc q h) hFc (fun r11 u9 t9 H1 locs ht9 hvm9 hw9 hB9 hz9 hk9 hS => ?_)
  have hR : RepC g ad A s S H1 locs := hR.call ht9 hB9 hR.w hS hFc
  obtain rfl : r11 = (fX7_u2 S (a4 + (1 : Int32))) := hw9
  clear hB9 hz9 hk9 hvm9 ht9 hS
  generalize H1 = H at hR ⊢
  obtain ⟨a13, ea13⟩ : ∃ z, z = (fX7_u2 S (a4 + (1 : Int32))) := ⟨_, rfl⟩
  rw [← ea13]
  replace h := h a13 ea13
  refine lv_istore (lv' := [(5, .int a13), (4, .int a8), (3, .int a4), (0, .ref (ad 9)), (1, .int x1), (2, .int x2)]) hx hb dX7_isSameName_20 hl (by decide) rfl (fun ls hl => ?_)
  refine lv_iconst (v := 1) hx hb dX7_isSameName_22 (by decide) ?_
  refine lv_istore (lv' := [(6, .int 1), (5, .int a13), (4, .int a8), (3, .int a4), (0, .ref (ad 9)), (1, .int x1), (2, .int x2)]) hx hb dX7_isSameName_23 hl (by decide) rfl (fun ls hl => ?_)
  have J_25 : ∀ (n25 : Nat) (U25 : MS) (v25_3 : Int32) (v25_4 : Int32) (v25_5 : Int32) (v25_6 : Int32) (H : Heap) (locs : List Loc) (ls : Array Slot), w_X7_isSameName_L25 Q n25 U25 v25_3 v25_4 v25_5 v25_6 → shy S U25 → RepC g ad A s U25 H locs → lv_has ls 7 [(0, .ref (ad 9)), (3, .int v25_3), (4, .int v25_4), (5, .int v25_5), (6, .int v25_6)] → W p l e (headSpec (wt yX7_isSameName cX7_isSameName 7 (some .boolean)) ({ frames := 1, cells := 0, slots := 0, locals := 21 })).room s m ([.ref (ad 9), .int x1, .int x2] : List Value).toArray below meth c H locs 0 0 (MQ below (va_Qi (fun (r : Int32) (u : MS) => Q r u ∧ wfC u ∧ shy S u ∧ (r = 0 ∨ r = 1)) (fun (u : MS) (t : State) => qEC g ad A u t) A) ([.ref (ad 9), .int x1, .int x2] : List Value).toArray s 0 0 A) (F0 m 25 ls []) := by
    intro n25
    induction n25 with
    | zero => intro U25 v25_3 v25_4 v25_5 v25_6 H locs ls h hsh hR hl; unfold w_X7_isSameName_L25 at h; exact h.elim
    | succ n25 ih_25 =>
      intro U25 v25_3 v25_4 v25_5 v25_6 H locs ls h hsh hR hl
      unfold w_X7_isSameName_L25 at h
      replace h := h hR.w
      refine lv_iload hx hb dX7_isSameName_25 (lv_at hl 4 rfl) ?_
      refine lv_iconst (v := 3) hx hb dX7_isSameName_27 (by decide) ?_
      refine lv_iload hx hb dX7_isSameName_28 (lv_at hl 3 rfl) ?_
      refine lv_iadd hx hb dX7_isSameName_30 ?_
      refine lv_topi (fun z14 ez14 => ?_)
      obtain rfl : z14 = ((3 : Int32) + v25_5) := ez14
      refine lv_icmp_ge (tgt := 62) hx hb dX7_isSameName_31 (by decide) (fun c15 => ?_) (fun c15 => ?_)
      · replace h := h.1 (k_le rfl rfl c15)
        refine lv_iconst (v := 1) hx hb dX7_isSameName_62 (by decide) ?_
        exact W.zret (v := 1) hx hb hr (nz (Or.inr rfl)) (fun t9 ht9 hW9 => ⟨⟨_, U25, rfl, ⟨h, hR.w, hsh, (Or.inr rfl)⟩, ⟨by rw [ht9]; exact hR.P, hR.D⟩⟩, hR.sS.F ht9⟩) hR.sS.2.2 dX7_isSameName_63
      · replace h := h.2 (k_nle rfl rfl c15)
        refine lv_aload_n hx hb dX7_isSameName_34 rfl (lv_at hl 0 rfl) ?_
        refine lv_iload_n hx hb dX7_isSameName_35 rfl (lv_at hl 1 rfl) ?_
        refine lv_iload hx hb dX7_isSameName_36 (lv_at hl 4 rfl) ?_
        refine lv_iadd hx hb dX7_isSameName_38 ?_
        refine lv_topi (fun z16 ez16 => ?_)
        obtain rfl : z16 = (v25_3 + v25_6) := ez16
        obtain ⟨hv17, h⟩ := h
        have hFc := cfree hR hA
        refine va_calli (va_runV (As := [.int (v25_3 + v25_6)]) (rest := []) ⟨hx, hb, hml, hown, hts⟩ (rX7_u1 l g ad H.size U25 (v25_3 + v25_6) hR.w  hv17) (cwV 1 hts (gd_V kw_1304 kw_1447 kw_1448 kw_710 kw_1446) rfl rfl rfl (by decide +kernel) ⟨Nat.le_of_ble_eq_true rfl, Nat.le_of_ble_eq_true rfl⟩) ⟨cblind, va_recv hR.K hR.P (ci := 6) (q0 := 9) rfl (hR.at46 (hR.w.2.1 _ finC_2).2.1), fun U hU hW9 => cmk hU hW9 hR hex hE hFc⟩ rfl rfl hl.1 rfl (lv_room (Nat.le_of_ble_eq_true rfl)) dX7_isSameName_39 ⟨Nat.le_of_ble_eq_true rfl, Nat.le_of_ble_eq_true rfl⟩) hR.sS (fun q _ h => hFc q h) hFc (fun r18 u9 t9 H1 locs ht9 hvm9 hw9 hB9 hz9 hk9 hS => ?_)
        have hR : RepC g ad A s U25 H1 locs := hR.call ht9 hB9 hR.w hS hFc
        obtain rfl : r18 = (fX7_u1 U25 (v25_3 + v25_6)) := hw9
        clear hB9 hz9 hk9 hvm9 ht9 hS
        generalize H1 = H at hR ⊢
        refine lv_aload_n hx hb dX7_isSameName_42 rfl (lv_at hl 0 rfl) ?_
        refine lv_iload hx hb dX7_isSameName_43 (lv_at hl 2 rfl) ?_
        refine lv_iload hx hb dX7_isSameName_45 (lv_at hl 4 rfl) ?_
        refine lv_iadd hx hb dX7_isSameName_47 ?_
        refine lv_topi (fun z20 ez20 => ?_)
        obtain rfl : z20 = (v25_4 + v25_6) := ez20
        obtain ⟨hv21, h⟩ := h
        have hFc := cfree hR hA
        refine va_calli (va_runV (As := [.int (v25_4 + v25_6)]) (rest := [.int (fX7_u1 U25 (v25_3 + v25_6))]) ⟨hx, hb, hml, hown, hts⟩ (rX7_u1 l g ad H.size U25 (v25_4 + v25_6) hR.w  hv21) (cwV 1 hts (gd_V kw_1304 kw_1447 kw_1448 kw_710 kw_1446) rfl rfl rfl (by decide +kernel) ⟨Nat.le_of_ble_eq_true rfl, Nat.le_of_ble_eq_true rfl⟩) ⟨cblind, va_recv hR.K hR.P (ci := 6) (q0 := 9) rfl (hR.at46 (hR.w.2.1 _ finC_2).2.1), fun U hU hW9 => cmk hU hW9 hR hex hE hFc⟩ rfl rfl hl.1 rfl (lv_room (Nat.le_of_ble_eq_true rfl)) dX7_isSameName_48 ⟨Nat.le_of_ble_eq_true rfl, Nat.le_of_ble_eq_true rfl⟩) hR.sS (fun q _ h => hFc q h) hFc (fun r22 u9 t9 H1 locs ht9 hvm9 hw9 hB9 hz9 hk9 hS => ?_)
        have hR : RepC g ad A s U25 H1 locs := hR.call ht9 hB9 hR.w hS hFc
        obtain rfl : r22 = (fX7_u1 U25 (v25_4 + v25_6)) := hw9
        clear hB9 hz9 hk9 hvm9 ht9 hS
        generalize H1 = H at hR ⊢
        refine lv_icmp_eq (tgt := 56) hx hb dX7_isSameName_51 (by decide) (fun c24 => ?_) (fun c24 => ?_)
        · replace h := h.1 (k_eq rfl rfl c24)
          obtain ⟨a25, ea25⟩ : ∃ z, z = (v25_6 + Int32.ofInt 1) := ⟨_, rfl⟩
          replace h := h a25 ea25
          refine lv_iinc (v := a25) (lv' := [(6, .int a25), (0, .ref (ad 9)), (3, .int v25_3), (4, .int v25_4), (5, .int v25_5)]) hx hb dX7_isSameName_56 hl (k := 4) rfl ea25.symm (by decide) rfl (fun ls hl => ?_)
          refine lv_goto (tgt := 25) hx hb dX7_isSameName_59 (by decide) ?_
          exact ih_25 U25 v25_3 v25_4 v25_5 a25 _ _ ls h  hsh hR (lv_sub hl [1, 2, 3, 4, 0] rfl)
        · replace h := h.2 (k_ne rfl rfl c24)
          refine lv_iconst (v := 0) hx hb dX7_isSameName_54 (by decide) ?_
          exact W.zret (v := 0) hx hb hr (nz (Or.inl rfl)) (fun t9 ht9 hW9 => ⟨⟨_, U25, rfl, ⟨h, hR.w, hsh, (Or.inl rfl)⟩, ⟨by rw [ht9]; exact hR.P, hR.D⟩⟩, hR.sS.F ht9⟩) hR.sS.2.2 dX7_isSameName_55
  obtain ⟨n9, h⟩ := h
  exact J_25 n9 S a4 a8 a13 1 _ _ ls h  hsh hR (lv_sub hl [4, 3, 2, 1, 0] rfl)
