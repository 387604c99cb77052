def f_X6_usesLocal_J21 (S : MS) : Int32 := (1 : Int32)
def d_X6_usesLocal_J21 (S : MS) : Prop := True
def fX6_usesLocal (S : MS) (x0 : Int32) : Int32 := (if (fX6_isLoad S x0).toInt = 0 then (if (fX6_isStore S x0).toInt = 0 then (if x0.toInt = 132 then f_X6_usesLocal_J21 S else (0 : Int32)) else f_X6_usesLocal_J21 S) else f_X6_usesLocal_J21 S)
def d_X6_usesLocal (S : MS) (x0 : Int32) : Prop := (d_X6_isLoad S x0 ∧ (if (fX6_isLoad S x0).toInt = 0 then (d_X6_isStore S x0 ∧ (if (fX6_isStore S x0).toInt = 0 then (if x0.toInt = 132 then d_X6_usesLocal_J21 S else True) else d_X6_usesLocal_J21 S)) else d_X6_usesLocal_J21 S))
set_option maxHeartbeats 2000000 in
set_option maxRecDepth 100000 in
theorem rX6_usesLocal (l : Launch) (g : Gr) (ad : Nat → Nat) (sz : Nat) (S : MS) (x0 : Int32) (hw : wfC S) (hd : d_X6_usesLocal S x0) : Met l yX6_usesLocal (wt yX6_usesLocal cX6_usesLocal 1 (some .boolean)) ({ frames := 1, cells := 0, slots := 0, locals := 20 }) (va_Pc [.int x0] (st_C g ad sz S)) (va_Qi (fun (r : Int32) (_ : Unit) => r = fX6_usesLocal S x0 ∧ (r = 0 ∨ r = 1)) (fun (_ : Unit) (t : State) => qEC g ad (va_A (WdC g ad S) sz) S t) (va_A (WdC g ad S) sz)) 0 0 (va_A (WdC g ad S) sz) := by
  refine Met.ofW (cc := cX6_usesLocal) (maxL := 1) (ret := (some .boolean)) (by decide) rfl ?_
  intro p e s m args below meth c s₁ B hml hv
  obtain ⟨rfl, hsz, hP, hK, hD0, hex, hE⟩ := hv
  have hx := B.exec
  have hb := B.bytes
  have hr := B.returns
  have hts0 := atoms_spec (ws := wt yX6_usesLocal cX6_usesLocal 1 (some .boolean)) B.pre
  have hts : ∀ w ∈ tb, w.before _ s = true := fun w h => hts0 w (List.mem_cons_of_mem _ h)
  have hown : s.vm.findClass RX6 = some m.cls := findClass_of_methodNamed B.named
  subst hsz
  have hD := hD0.self (sz := s.heap.size)
  generalize hAe : va_A (WdC g ad S) s.heap.size = A at hD hE ⊢
  have hA : ∀ q : Nat, s.heap.size ≤ q → A q := fun q h => by rw [← hAe]; exact Or.inr h
  have hR : RepC g ad A s S s.heap [] := ⟨hK, hP, hD, va_S.rf, hw⟩
  clear hK hP hD hD0
  have hl := lv_entry ([.int x0]) (n := 1) (Nat.le_of_ble_eq_true rfl)
  rw [lg_entry_eq]
  generalize (lg_sl ([.int x0]) ++ List.replicate (1 - (lg_sl ([.int x0])).length) Slot.unset).toArray = ls at hl ⊢
  have hl : lv_has ls 1 [(0, .int x0)] := hl
  obtain ⟨r0, hf⟩ : ∃ r0, fX6_usesLocal S x0 = r0 := ⟨_, rfl⟩
  have hf0 := hf
  unfold fX6_usesLocal at hf
  unfold d_X6_usesLocal at hd
  refine lv_iload_n hx hb dX6_usesLocal_0 rfl (lv_at hl 0 rfl) ?_
  obtain ⟨hv1, hd⟩ := hd
  have hFc := cfree hR hA
  refine va_calli (va_runS (As := [.int x0]) (rest := []) ⟨hx, hb, hml, hown, hts⟩ (rX6_isLoad l g ad s.heap.size S x0 hR.w  hv1) (va_cwS 1 hts (gd_S kw_1261 kw_1227 kw_1207 kw_1226) rfl rfl rfl (by decide +kernel) ⟨Nat.le_of_ble_eq_true rfl, Nat.le_of_ble_eq_true rfl⟩) ⟨cblind, fun U hU hW9 => cmk hU hW9 hR hex hE hFc⟩ rfl rfl hl.1 rfl (lv_room (Nat.le_of_ble_eq_true rfl)) dX6_usesLocal_1 ⟨Nat.le_of_ble_eq_true rfl, Nat.le_of_ble_eq_true rfl⟩) hR.sS (fun q _ h => hFc q h) hFc (fun r2 u9 t9 H1 locs ht9 hvm9 hw9 hB9 hz9 hk9 hS => ?_)
  have hR : RepC g ad A s S H1 locs := hR.call ht9 hB9 hR.w hS hFc
  obtain ⟨rfl, hz_r2⟩ := hw9
  clear hB9 hz9 hk9 hvm9 ht9 hS
  generalize H1 = H at hR ⊢
  have J_21 : ∀ (H : Heap) (locs : List Loc) (ls : Array Slot), d_X6_usesLocal_J21 S → f_X6_usesLocal_J21 S = r0 → RepC g ad A s S H locs → lv_has ls 1 [] → W p l e (headSpec (wt yX6_usesLocal cX6_usesLocal 1 (some .boolean)) ({ frames := 1, cells := 0, slots := 0, locals := 20 })).room s m ([.int x0] : List Value).toArray below meth c H locs 0 0 (MQ below (va_Qi (fun (r : Int32) (_ : Unit) => r = fX6_usesLocal S x0 ∧ (r = 0 ∨ r = 1)) (fun (_ : Unit) (t : State) => qEC g ad A S t) A) ([.int x0] : List Value).toArray s 0 0 A) (F0 m 21 ls []) := by
    intro H locs ls hd hf hR hl
    unfold d_X6_usesLocal_J21 at hd
    unfold f_X6_usesLocal_J21 at hf
    refine lv_iconst (v := 1) hx hb dX6_usesLocal_21 (by decide) ?_
    refine lv_goto (tgt := 26) hx hb dX6_usesLocal_22 (by decide) ?_
    exact W.zret (v := 1) hx hb hr (nz (Or.inr rfl)) (fun t9 ht9 hW9 => ⟨⟨_, (), rfl, ⟨hf.trans hf0.symm, (Or.inr rfl)⟩, ⟨by rw [ht9]; exact hR.P, hR.D⟩⟩, hR.sS.F ht9⟩) hR.sS.2.2 dX6_usesLocal_26
  refine lv_if_ne (tgt := 21) hx hb dX6_usesLocal_4 (by decide) (fun c4 => ?_) (fun c4 => ?_)
  · rw [if_neg (k_ne rfl (by decide) c4)] at hf
    (try rw [if_neg (k_ne rfl (by decide) c4)] at hd)
    exact J_21 _ _ ls hd hf  hR (lv_sub hl [] rfl)
  · rw [if_pos (k_eq rfl (by decide) c4)] at hf
    (try rw [if_pos (k_eq rfl (by decide) c4)] at hd)
    refine lv_iload_n hx hb dX6_usesLocal_7 rfl (lv_at hl 0 rfl) ?_
    obtain ⟨hv5, hd⟩ := hd
    have hFc := cfree hR hA
    refine va_calli (va_runS (As := [.int x0]) (rest := []) ⟨hx, hb, hml, hown, hts⟩ (rX6_isStore l g ad H.size S x0 hR.w  hv5) (va_cwS 1 hts (gd_S kw_1262 kw_1231 kw_1207 kw_1230) rfl rfl rfl (by decide +kernel) ⟨Nat.le_of_ble_eq_true rfl, Nat.le_of_ble_eq_true rfl⟩) ⟨cblind, fun U hU hW9 => cmk hU hW9 hR hex hE hFc⟩ rfl rfl hl.1 rfl (lv_room (Nat.le_of_ble_eq_true rfl)) dX6_usesLocal_8 ⟨Nat.le_of_ble_eq_true rfl, Nat.le_of_ble_eq_true rfl⟩) hR.sS (fun q _ h => hFc q h) hFc (fun r6 u9 t9 H1 locs ht9 hvm9 hw9 hB9 hz9 hk9 hS => ?_)
    have hR : RepC g ad A s S H1 locs := hR.call ht9 hB9 hR.w hS hFc
    obtain ⟨rfl, hz_r6⟩ := hw9
    clear hB9 hz9 hk9 hvm9 ht9 hS
    generalize H1 = H at hR ⊢
    refine lv_if_ne (tgt := 21) hx hb dX6_usesLocal_11 (by decide) (fun c8 => ?_) (fun c8 => ?_)
    · rw [if_neg (k_ne rfl (by decide) c8)] at hf
      (try rw [if_neg (k_ne rfl (by decide) c8)] at hd)
      exact J_21 _ _ ls hd hf  hR (lv_sub hl [] rfl)
    · rw [if_pos (k_eq rfl (by decide) c8)] at hf
      (try rw [if_pos (k_eq rfl (by decide) c8)] at hd)
      refine lv_iload_n hx hb dX6_usesLocal_14 rfl (lv_at hl 0 rfl) ?_
      refine lv_sipush (v := 132) hx hb dX6_usesLocal_15 (by decide) ?_
      refine lv_icmp_ne (tgt := 25) hx hb dX6_usesLocal_18 (by decide) (fun c9 => ?_) (fun c9 => ?_)
      · rw [if_neg (k_ne rfl (by decide) c9)] at hf
        (try rw [if_neg (k_ne rfl (by decide) c9)] at hd)
        refine lv_iconst (v := 0) hx hb dX6_usesLocal_25 (by decide) ?_
        exact W.zret (v := 0) hx hb hr (nz (Or.inl rfl)) (fun t9 ht9 hW9 => ⟨⟨_, (), rfl, ⟨hf.trans hf0.symm, (Or.inl rfl)⟩, ⟨by rw [ht9]; exact hR.P, hR.D⟩⟩, hR.sS.F ht9⟩) hR.sS.2.2 dX6_usesLocal_26
      · rw [if_pos (k_eq rfl (by decide) c9)] at hf
        (try rw [if_pos (k_eq rfl (by decide) c9)] at hd)
        exact J_21 _ _ ls hd hf  hR (lv_sub hl [] rfl)
def f_X6_localWidth_J12 (S : MS) : Int32 := (2 : Int32)
def d_X6_localWidth_J12 (S : MS) : Prop := True
def fX6_localWidth (S : MS) (x0 : Int32) : Int32 := (if x0.toInt = 22 then f_X6_localWidth_J12 S else (if x0.toInt = 55 then f_X6_localWidth_J12 S else (1 : Int32)))
def d_X6_localWidth (S : MS) (x0 : Int32) : Prop := (if x0.toInt = 22 then d_X6_localWidth_J12 S else (if x0.toInt = 55 then d_X6_localWidth_J12 S else True))
set_option maxHeartbeats 2000000 in
set_option maxRecDepth 100000 in
theorem rX6_localWidth (l : Launch) (g : Gr) (ad : Nat → Nat) (sz : Nat) (S : MS) (x0 : Int32) (hw : wfC S) (hd : d_X6_localWidth S x0) : Met l yX6_localWidth (wt yX6_localWidth cX6_localWidth 1 (some .int)) ({ frames := 0, cells := 0, slots := 0, locals := 0 }) (va_Pc [.int x0] (st_C g ad sz S)) (va_Qi (fun (r : Int32) (_ : Unit) => r = fX6_localWidth S x0) (fun (_ : Unit) (t : State) => qEC g ad (va_A (WdC g ad S) sz) S t) (va_A (WdC g ad S) sz)) 0 0 (va_A (WdC g ad S) sz) := by
  refine Met.ofW (cc := cX6_localWidth) (maxL := 1) (ret := (some .int)) (by decide) rfl ?_
  intro p e s m args below meth c s₁ B hml hv
  obtain ⟨rfl, hsz, hP, hK, hD0, hex, hE⟩ := hv
  have hx := B.exec
  have hb := B.bytes
  have hr := B.returns
  have hts0 := atoms_spec (ws := wt yX6_localWidth cX6_localWidth 1 (some .int)) B.pre
  have hts : ∀ w ∈ tb, w.before _ s = true := fun w h => hts0 w (List.mem_cons_of_mem _ h)
  have hown : s.vm.findClass RX6 = some m.cls := findClass_of_methodNamed B.named
  subst hsz
  have hD := hD0.self (sz := s.heap.size)
  generalize hAe : va_A (WdC g ad S) s.heap.size = A at hD hE ⊢
  have hA : ∀ q : Nat, s.heap.size ≤ q → A q := fun q h => by rw [← hAe]; exact Or.inr h
  have hR : RepC g ad A s S s.heap [] := ⟨hK, hP, hD, va_S.rf, hw⟩
  clear hK hP hD hD0
  have hl := lv_entry ([.int x0]) (n := 1) (Nat.le_of_ble_eq_true rfl)
  rw [lg_entry_eq]
  generalize (lg_sl ([.int x0]) ++ List.replicate (1 - (lg_sl ([.int x0])).length) Slot.unset).toArray = ls at hl ⊢
  have hl : lv_has ls 1 [(0, .int x0)] := hl
  obtain ⟨r0, hf⟩ : ∃ r0, fX6_localWidth S x0 = r0 := ⟨_, rfl⟩
  have hf0 := hf
  unfold fX6_localWidth at hf
  unfold d_X6_localWidth at hd
  refine lv_iload_n hx hb dX6_localWidth_0 rfl (lv_at hl 0 rfl) ?_
  refine lv_bipush (v := 22) hx hb dX6_localWidth_1 (by decide) ?_
  have J_12 : ∀ (H : Heap) (locs : List Loc) (ls : Array Slot), d_X6_localWidth_J12 S → f_X6_localWidth_J12 S = r0 → RepC g ad A s S H locs → lv_has ls 1 [] → W p l e (headSpec (wt yX6_localWidth cX6_localWidth 1 (some .int)) ({ frames := 0, cells := 0, slots := 0, locals := 0 })).room s m ([.int x0] : List Value).toArray below meth c H locs 0 0 (MQ below (va_Qi (fun (r : Int32) (_ : Unit) => r = fX6_localWidth S x0) (fun (_ : Unit) (t : State) => qEC g ad A S t) A) ([.int x0] : List Value).toArray s 0 0 A) (F0 m 12 ls []) := by
    intro H locs ls hd hf hR hl
    unfold d_X6_localWidth_J12 at hd
    unfold f_X6_localWidth_J12 at hf
    refine lv_iconst (v := 2) hx hb dX6_localWidth_12 (by decide) ?_
    refine lv_goto (tgt := 17) hx hb dX6_localWidth_13 (by decide) ?_
    exact W.iret (v := 2) hx hb hr (fun t9 ht9 hW9 => ⟨⟨_, (), rfl, hf.trans hf0.symm, ⟨by rw [ht9]; exact hR.P, hR.D⟩⟩, hR.sS.F ht9⟩) hR.sS.2.2 dX6_localWidth_17
  refine lv_icmp_eq (tgt := 12) hx hb dX6_localWidth_3 (by decide) (fun c1 => ?_) (fun c1 => ?_)
  · rw [if_pos (k_eq rfl (by decide) c1)] at hf
    (try rw [if_pos (k_eq rfl (by decide) c1)] at hd)
    exact J_12 _ _ ls hd hf  hR (lv_sub hl [] rfl)
  · rw [if_neg (k_ne rfl (by decide) c1)] at hf
    (try rw [if_neg (k_ne rfl (by decide) c1)] at hd)
    refine lv_iload_n hx hb dX6_localWidth_6 rfl (lv_at hl 0 rfl) ?_
    refine lv_bipush (v := 55) hx hb dX6_localWidth_7 (by decide) ?_
    refine lv_icmp_ne (tgt := 16) hx hb dX6_localWidth_9 (by decide) (fun c2 => ?_) (fun c2 => ?_)
    · rw [if_neg (k_ne rfl (by decide) c2)] at hf
      (try rw [if_neg (k_ne rfl (by decide) c2)] at hd)
      refine lv_iconst (v := 1) hx hb dX6_localWidth_16 (by decide) ?_
      exact W.iret (v := 1) hx hb hr (fun t9 ht9 hW9 => ⟨⟨_, (), rfl, hf.trans hf0.symm, ⟨by rw [ht9]; exact hR.P, hR.D⟩⟩, hR.sS.F ht9⟩) hR.sS.2.2 dX6_localWidth_17
    · rw [if_pos (k_eq rfl (by decide) c2)] at hf
      (try rw [if_pos (k_eq rfl (by decide) c2)] at hd)
      exact J_12 _ _ ls hd hf  hR (lv_sub hl [] rfl)
def f_X6_isShift_J16 (S : MS) : Int32 := (0 : Int32)
def d_X6_isShift_J16 (S : MS) : Prop := True
def fX6_isShift (S : MS) (x0 : Int32) : Int32 := (if x0.toInt < 120 then f_X6_isShift_J16 S else (if 125 < x0.toInt then f_X6_isShift_J16 S else (1 : Int32)))
def d_X6_isShift (S : MS) (x0 : Int32) : Prop := (if x0.toInt < 120 then d_X6_isShift_J16 S else (if 125 < x0.toInt then d_X6_isShift_J16 S else True))
set_option maxHeartbeats 2000000 in
set_option maxRecDepth 100000 in
theorem rX6_isShift (l : Launch) (g : Gr) (ad : Nat → Nat) (sz : Nat) (S : MS) (x0 : Int32) (hw : wfC S) (hd : d_X6_isShift S x0) : Met l yX6_isShift (wt yX6_isShift cX6_isShift 1 (some .boolean)) ({ frames := 0, cells := 0, slots := 0, locals := 0 }) (va_Pc [.int x0] (st_C g ad sz S)) (va_Qi (fun (r : Int32) (_ : Unit) => r = fX6_isShift S x0 ∧ (r = 0 ∨ r = 1)) (fun (_ : Unit) (t : State) => qEC g ad (va_A (WdC g ad S) sz) S t) (va_A (WdC g ad S) sz)) 0 0 (va_A (WdC g ad S) sz) := by
  refine Met.ofW (cc := cX6_isShift) (maxL := 1) (ret := (some .boolean)) (by decide) rfl ?_
  intro p e s m args below meth c s₁ B hml hv
  obtain ⟨rfl, hsz, hP, hK, hD0, hex, hE⟩ := hv
  have hx := B.exec
  have hb := B.bytes
  have hr := B.returns
  have hts0 := atoms_spec (ws := wt yX6_isShift cX6_isShift 1 (some .boolean)) B.pre
  have hts : ∀ w ∈ tb, w.before _ s = true := fun w h => hts0 w (List.mem_cons_of_mem _ h)
  have hown : s.vm.findClass RX6 = some m.cls := findClass_of_methodNamed B.named
  subst hsz
  have hD := hD0.self (sz := s.heap.size)
  generalize hAe : va_A (WdC g ad S) s.heap.size = A at hD hE ⊢
  have hA : ∀ q : Nat, s.heap.size ≤ q → A q := fun q h => by rw [← hAe]; exact Or.inr h
  have hR : RepC g ad A s S s.heap [] := ⟨hK, hP, hD, va_S.rf, hw⟩
  clear hK hP hD hD0
  have hl := lv_entry ([.int x0]) (n := 1) (Nat.le_of_ble_eq_true rfl)
  rw [lg_entry_eq]
  generalize (lg_sl ([.int x0]) ++ List.replicate (1 - (lg_sl ([.int x0])).length) Slot.unset).toArray = ls at hl ⊢
  have hl : lv_has ls 1 [(0, .int x0)] := hl
  obtain ⟨r0, hf⟩ : ∃ r0, fX6_isShift S x0 = r0 := ⟨_, rfl⟩
  have hf0 := hf
  unfold fX6_isShift at hf
  unfold d_X6_isShift at hd
  refine lv_iload_n hx hb dX6_isShift_0 rfl (lv_at hl 0 rfl) ?_
  refine lv_bipush (v := 120) hx hb dX6_isShift_1 (by decide) ?_
  have J_16 : ∀ (H : Heap) (locs : List Loc) (ls : Array Slot), d_X6_isShift_J16 S → f_X6_isShift_J16 S = r0 → RepC g ad A s S H locs → lv_has ls 1 [] → W p l e (headSpec (wt yX6_isShift cX6_isShift 1 (some .boolean)) ({ frames := 0, cells := 0, slots := 0, locals := 0 })).room s m ([.int x0] : List Value).toArray below meth c H locs 0 0 (MQ below (va_Qi (fun (r : Int32) (_ : Unit) => r = fX6_isShift S x0 ∧ (r = 0 ∨ r = 1)) (fun (_ : Unit) (t : State) => qEC g ad A S t) A) ([.int x0] : List Value).toArray s 0 0 A) (F0 m 16 ls []) := by
    intro H locs ls hd hf hR hl
    unfold d_X6_isShift_J16 at hd
    unfold f_X6_isShift_J16 at hf
    refine lv_iconst (v := 0) hx hb dX6_isShift_16 (by decide) ?_
    exact W.zret (v := 0) hx hb hr (nz (Or.inl rfl)) (fun t9 ht9 hW9 => ⟨⟨_, (), rfl, ⟨hf.trans hf0.symm, (Or.inl rfl)⟩, ⟨by rw [ht9]; exact hR.P, hR.D⟩⟩, hR.sS.F ht9⟩) hR.sS.2.2 dX6_isShift_17
  refine lv_icmp_lt (tgt := 16) hx hb dX6_isShift_3 (by decide) (fun c1 => ?_) (fun c1 => ?_)
  · rw [if_pos (k_lt rfl (by decide) c1)] at hf
    (try rw [if_pos (k_lt rfl (by decide) c1)] at hd)
    exact J_16 _ _ ls hd hf  hR (lv_sub hl [] rfl)
  · rw [if_neg (k_nlt rfl (by decide) c1)] at hf
    (try rw [if_neg (k_nlt rfl (by decide) c1)] at hd)
    refine lv_iload_n hx hb dX6_isShift_6 rfl (lv_at hl 0 rfl) ?_
    refine lv_bipush (v := 125) hx hb dX6_isShift_7 (by decide) ?_
    refine lv_icmp_gt (tgt := 16) hx hb dX6_isShift_9 (by decide) (fun c2 => ?_) (fun c2 => ?_)
    · rw [if_pos (k_lt (by decide) rfl c2)] at hf
      (try rw [if_pos (k_lt (by decide) rfl c2)] at hd)
      exact J_16 _ _ ls hd hf  hR (lv_sub hl [] rfl)
    · rw [if_neg (k_nlt (by decide) rfl c2)] at hf
      (try rw [if_neg (k_nlt (by decide) rfl c2)] at hd)
      refine lv_iconst (v := 1) hx hb dX6_isShift_12 (by decide) ?_
      refine lv_goto (tgt := 17) hx hb dX6_isShift_13 (by decide) ?_
      exact W.zret (v := 1) hx hb hr (nz (Or.inr rfl)) (fun t9 ht9 hW9 => ⟨⟨_, (), rfl, ⟨hf.trans hf0.symm, (Or.inr rfl)⟩, ⟨by rw [ht9]; exact hR.P, hR.D⟩⟩, hR.sS.F ht9⟩) hR.sS.2.2 dX6_isShift_17
def f_X6_isDivision_J24 (S : MS) : Int32 := (1 : Int32)
def d_X6_isDivision_J24 (S : MS) : Prop := True
def fX6_isDivision (S : MS) (x0 : Int32) : Int32 := (if x0.toInt = 108 then f_X6_isDivision_J24 S else (if x0.toInt = 109 then f_X6_isDivision_J24 S else (if x0.toInt = 112 then f_X6_isDivision_J24 S else (if x0.toInt = 113 then f_X6_isDivision_J24 S else (0 : Int32)))))
def d_X6_isDivision (S : MS) (x0 : Int32) : Prop := (if x0.toInt = 108 then d_X6_isDivision_J24 S else (if x0.toInt = 109 then d_X6_isDivision_J24 S else (if x0.toInt = 112 then d_X6_isDivision_J24 S else (if x0.toInt = 113 then d_X6_isDivision_J24 S else True))))
set_option maxHeartbeats 2000000 in
set_option maxRecDepth 100000 in
theorem rX6_isDivision (l : Launch) (g : Gr) (ad : Nat → Nat) (sz : Nat) (S : MS) (x0 : Int32) (hw : wfC S) (hd : d_X6_isDivision S x0) : Met l yX6_isDivision (wt yX6_isDivision cX6_isDivision 1 (some .boolean)) ({ frames := 0, cells := 0, slots := 0, locals := 0 }) (va_Pc [.int x0] (st_C g ad sz S)) (va_Qi (fun (r : Int32) (_ : Unit) => r = fX6_isDivision S x0 ∧ (r = 0 ∨ r = 1)) (fun (_ : Unit) (t : State) => qEC g ad (va_A (WdC g ad S) sz) S t) (va_A (WdC g ad S) sz)) 0 0 (va_A (WdC g ad S) sz) := by
  refine Met.ofW (cc := cX6_isDivision) (maxL := 1) (ret := (some .boolean)) (by decide) rfl ?_
  intro p e s m args below meth c s₁ B hml hv
  obtain ⟨rfl, hsz, hP, hK, hD0, hex, hE⟩ := hv
  have hx := B.exec
  have hb := B.bytes
  have hr := B.returns
  have hts0 := atoms_spec (ws := wt yX6_isDivision cX6_isDivision 1 (some .boolean)) B.pre
  have hts : ∀ w ∈ tb, w.before _ s = true := fun w h => hts0 w (List.mem_cons_of_mem _ h)
  have hown : s.vm.findClass RX6 = some m.cls := findClass_of_methodNamed B.named
  subst hsz
  have hD := hD0.self (sz := s.heap.size)
  generalize hAe : va_A (WdC g ad S) s.heap.size = A at hD hE ⊢
  have hA : ∀ q : Nat, s.heap.size ≤ q → A q := fun q h => by rw [← hAe]; exact Or.inr h
  have hR : RepC g ad A s S s.heap [] := ⟨hK, hP, hD, va_S.rf, hw⟩
  clear hK hP hD hD0
  have hl := lv_entry ([.int x0]) (n := 1) (Nat.le_of_ble_eq_true rfl)
  rw [lg_entry_eq]
  generalize (lg_sl ([.int x0]) ++ List.replicate (1 - (lg_sl ([.int x0])).length) Slot.unset).toArray = ls at hl ⊢
  have hl : lv_has ls 1 [(0, .int x0)] := hl
  obtain ⟨r0, hf⟩ : ∃ r0, fX6_isDivision S x0 = r0 := ⟨_, rfl⟩
  have hf0 := hf
  unfold fX6_isDivision at hf
  unfold d_X6_isDivision at hd
  refine lv_iload_n hx hb dX6_isDivision_0 rfl (lv_at hl 0 rfl) ?_
  refine lv_bipush (v := 108) hx hb dX6_isDivision_1 (by decide) ?_
  have J_24 : ∀ (H : Heap) (locs : List Loc) (ls : Array Slot), d_X6_isDivision_J24 S → f_X6_isDivision_J24 S = r0 → RepC g ad A s S H locs → lv_has ls 1 [] → W p l e (headSpec (wt yX6_isDivision cX6_isDivision 1 (some .boolean)) ({ frames := 0, cells := 0, slots := 0, locals := 0 })).room s m ([.int x0] : List Value).toArray below meth c H locs 0 0 (MQ below (va_Qi (fun (r : Int32) (_ : Unit) => r = fX6_isDivision S x0 ∧ (r = 0 ∨ r = 1)) (fun (_ : Unit) (t : State) => qEC g ad A S t) A) ([.int x0] : List Value).toArray s 0 0 A) (F0 m 24 ls []) := by
    intro H locs ls hd hf hR hl
    unfold d_X6_isDivision_J24 at hd
    unfold f_X6_isDivision_J24 at hf
    refine lv_iconst (v := 1) hx hb dX6_isDivision_24 (by decide) ?_
    refine lv_goto (tgt := 29) hx hb dX6_isDivision_25 (by decide) ?_
    exact W.zret (v := 1) hx hb hr (nz (Or.inr rfl)) (fun t9 ht9 hW9 => ⟨⟨_, (), rfl, ⟨hf.trans hf0.symm, (Or.inr rfl)⟩, ⟨by rw [ht9]; exact hR.P, hR.D⟩⟩, hR.sS.F ht9⟩) hR.sS.2.2 dX6_isDivision_29
  refine lv_icmp_eq (tgt := 24) hx hb dX6_isDivision_3 (by decide) (fun c1 => ?_) (fun c1 => ?_)
  · rw [if_pos (k_eq rfl (by decide) c1)] at hf
    (try rw [if_pos (k_eq rfl (by decide) c1)] at hd)
    exact J_24 _ _ ls hd hf  hR (lv_sub hl [] rfl)
  · rw [if_neg (k_ne rfl (by decide) c1)] at hf
    (try rw [if_neg (k_ne rfl (by decide) c1)] at hd)
    refine lv_iload_n hx hb dX6_isDivision_6 rfl (lv_at hl 0 rfl) ?_
    refine lv_bipush (v := 109) hx hb dX6_isDivision_7 (by decide) ?_
    refine lv_icmp_eq (tgt := 24) hx hb dX6_isDivision_9 (by decide) (fun c2 => ?_) (fun c2 => ?_)
    · rw [if_pos (k_eq rfl (by decide) c2)] at hf
      (try rw [if_pos (k_eq rfl (by decide) c2)] at hd)
      exact J_24 _ _ ls hd hf  hR (lv_sub hl [] rfl)
    · rw [if_neg (k_ne rfl (by decide) c2)] at hf
      (try rw [if_neg (k_ne rfl (by decide) c2)] at hd)
      refine lv_iload_n hx hb dX6_isDivision_12 rfl (lv_at hl 0 rfl) ?_
      refine lv_bipush (v := 112) hx hb dX6_isDivision_13 (by decide) ?_
      refine lv_icmp_eq (tgt := 24) hx hb dX6_isDivision_15 (by decide) (fun c3 => ?_) (fun c3 => ?_)
      · rw [if_pos (k_eq rfl (by decide) c3)] at hf
        (try rw [if_pos (k_eq rfl (by decide) c3)] at hd)
        exact J_24 _ _ ls hd hf  hR (lv_sub hl [] rfl)
      · rw [if_neg (k_ne rfl (by decide) c3)] at hf
        (try rw [if_neg (k_ne rfl (by decide) c3)] at hd)
        refine lv_iload_n hx hb dX6_isDivision_18 rfl (lv_at hl 0 rfl) ?_
        refine lv_bipush (v := 113) hx hb dX6_isDivision_19 (by decide) ?_
        refine lv_icmp_ne (tgt := 28) hx hb dX6_isDivision_21 (by decide) (fun c4 => ?_) (fun c4 => ?_)
        · rw [if_neg (k_ne rfl (by decide) c4)] at hf
          (try rw [if_neg (k_ne rfl (by decide) c4)] at hd)
          refine lv_iconst (v := 0) hx hb dX6_isDivision_28 (by decide) ?_
          exact W.zret (v := 0) hx hb hr (nz (Or.inl rfl)) (fun t9 ht9 hW9 => ⟨⟨_, (), rfl, ⟨hf.trans hf0.symm, (Or.inl rfl)⟩, ⟨by rw [ht9]; exact hR.P, hR.D⟩⟩, hR.sS.F ht9⟩) hR.sS.2.2 dX6_isDivision_29
        · rw [if_pos (k_eq rfl (by decide) c4)] at hf
          (try rw [if_pos (k_eq rfl (by decide) c4)] at hd)
          exact J_24 _ _ ls hd hf  hR (lv_sub hl [] rfl)
def f_X6_isBinary_J38 (S : MS) : Int32 := (1 : Int32)
def d_X6_isBinary_J38 (S : MS) : Prop := True
def f_X6_isBinary_J31 (S : MS) (v31_0 : Int32) : Int32 := (if v31_0.toInt = 148 then f_X6_isBinary_J38 S else (0 : Int32))
def d_X6_isBinary_J31 (S : MS) (v31_0 : Int32) : Prop := (if v31_0.toInt = 148 then d_X6_isBinary_J38 S else True)
def f_X6_isBinary_J18 (S : MS) (v18_0 : Int32) : Int32 := (if v18_0.toInt < 120 then f_X6_isBinary_J31 S v18_0 else (if v18_0.toInt ≤ 131 then f_X6_isBinary_J38 S else f_X6_isBinary_J31 S v18_0))
def d_X6_isBinary_J18 (S : MS) (v18_0 : Int32) : Prop := (if v18_0.toInt < 120 then d_X6_isBinary_J31 S v18_0 else (if v18_0.toInt ≤ 131 then d_X6_isBinary_J38 S else d_X6_isBinary_J31 S v18_0))
def fX6_isBinary (S : MS) (x0 : Int32) : Int32 := (if x0.toInt < 96 then f_X6_isBinary_J18 S x0 else (if 113 < x0.toInt then f_X6_isBinary_J18 S x0 else (if (x0 &&& (2 : Int32)).toInt = 0 then f_X6_isBinary_J38 S else f_X6_isBinary_J18 S x0)))
def d_X6_isBinary (S : MS) (x0 : Int32) : Prop := (if x0.toInt < 96 then d_X6_isBinary_J18 S x0 else (if 113 < x0.toInt then d_X6_isBinary_J18 S x0 else (if (x0 &&& (2 : Int32)).toInt = 0 then d_X6_isBinary_J38 S else d_X6_isBinary_J18 S x0)))
set_option maxHeartbeats 2000000 in
set_option maxRecDepth 100000 in
theorem rX6_isBinary (l : Launch) (g : Gr) (ad : Nat → Nat) (sz : Nat) (S : MS) (x0 : Int32) (hw : wfC S) (hd : d_X6_isBinary S x0) : Met l yX6_isBinary (wt yX6_isBinary cX6_isBinary 1 (some .boolean)) ({ frames := 0, cells := 0, slots := 0, locals := 0 }) (va_Pc [.int x0] (st_C g ad sz S)) (va_Qi (fun (r : Int32) (_ : Unit) => r = fX6_isBinary S x0 ∧ (r = 0 ∨ r = 1)) (fun (_ : Unit) (t : State) => qEC g ad (va_A (WdC g ad S) sz) S t) (va_A (WdC g ad S) sz)) 0 0 (va_A (WdC g ad S) sz) := by
  refine Met.ofW (cc := cX6_isBinary) (maxL := 1) (ret := (some .boolean)) (by decide) rfl ?_
  intro p e s m args below meth c s₁ B hml hv
  obtain ⟨rfl, hsz, hP, hK, hD0, hex, hE⟩ := hv
  have hx := B.exec
  have hb := B.bytes
  have hr := B.returns
  have hts0 := atoms_spec (ws := wt yX6_isBinary cX6_isBinary 1 (some .boolean)) B.pre
  have hts : ∀ w ∈ tb, w.before _ s = true := fun w h => hts0 w (List.mem_cons_of_mem _ h)
  have hown : s.vm.findClass RX6 = some m.cls := findClass_of_methodNamed B.named
  subst hsz
  have hD := hD0.self (sz := s.heap.size)
  generalize hAe : va_A (WdC g ad S) s.heap.size = A at hD hE ⊢
  have hA : ∀ q : Nat, s.heap.size ≤ q → A q := fun q h => by rw [← hAe]; exact Or.inr h
  have hR : RepC g ad A s S s.heap [] := ⟨hK, hP, hD, va_S.rf, hw⟩
  clear hK hP hD hD0
  have hl := lv_entry ([.int x0]) (n := 1) (Nat.le_of_ble_eq_true rfl)
  rw [lg_entry_eq]
  generalize (lg_sl ([.int x0]) ++ List.replicate (1 - (lg_sl ([.int x0])).length) Slot.unset).toArray = ls at hl ⊢
  have hl : lv_has ls 1 [(0, .int x0)] := hl
  obtain ⟨r0, hf⟩ : ∃ r0, fX6_isBinary S x0 = r0 := ⟨_, rfl⟩
  have hf0 := hf
  unfold fX6_isBinary at hf
  unfold d_X6_isBinary at hd
  refine lv_iload_n hx hb dX6_isBinary_0 rfl (lv_at hl 0 rfl) ?_
  refine lv_bipush (v := 96) hx hb dX6_isBinary_1 (by decide) ?_
  have J_38 : ∀ (H : Heap) (locs : List Loc) (ls : Array Slot), d_X6_isBinary_J38 S → f_X6_isBinary_J38 S = r0 → RepC g ad A s S H locs → lv_has ls 1 [] → W p l e (headSpec (wt yX6_isBinary cX6_isBinary 1 (some .boolean)) ({ frames := 0, cells := 0, slots := 0, locals := 0 })).room s m ([.int x0] : List Value).toArray below meth c H locs 0 0 (MQ below (va_Qi (fun (r : Int32) (_ : Unit) => r = fX6_isBinary S x0 ∧ (r = 0 ∨ r = 1)) (fun (_ : Unit) (t : State) => qEC g ad A S t) A) ([.int x0] : List Value).toArray s 0 0 A) (F0 m 38 ls []) := by
    intro H locs ls hd hf hR hl
    unfold d_X6_isBinary_J38 at hd
    unfold f_X6_isBinary_J38 at hf
    refine lv_iconst (v := 1) hx hb dX6_isBinary_38 (by decide) ?_
    refine lv_goto (tgt := 43) hx hb dX6_isBinary_39 (by decide) ?_
    exact W.zret (v := 1) hx hb hr (nz (Or.inr rfl)) (fun t9 ht9 hW9 => ⟨⟨_, (), rfl, ⟨hf.trans hf0.symm, (Or.inr rfl)⟩, ⟨by rw [ht9]; exact hR.P, hR.D⟩⟩, hR.sS.F ht9⟩) hR.sS.2.2 dX6_isBinary_43
  have J_18 : ∀ (v18_0 : Int32) (H : Heap) (locs : List Loc) (ls : Array Slot), d_X6_isBinary_J18 S v18_0 → f_X6_isBinary_J18 S v18_0 = r0 → RepC g ad A s S H locs → lv_has ls 1 [(0, .int v18_0)] → W p l e (headSpec (wt yX6_isBinary cX6_isBinary 1 (some .boolean)) ({ frames := 0, cells := 0, slots := 0, locals := 0 })).room s m ([.int x0] : List Value).toArray below meth c H locs 0 0 (MQ below (va_Qi (fun (r : Int32) (_ : Unit) => r = fX6_isBinary S x0 ∧ (r = 0 ∨ r = 1)) (fun (_ : Unit) (t : State) => qEC g ad A S t) A) ([.int x0] : List Value).toArray s 0 0 A) (F0 m 18 ls []) := by
    intro v18_0 H locs ls hd hf hR hl
    unfold d_X6_isBinary_J18 at hd
    unfold f_X6_isBinary_J18 at hf
    refine lv_iload_n hx hb dX6_isBinary_18 rfl (lv_at hl 0 rfl) ?_
    refine lv_bipush (v := 120) hx hb dX6_isBinary_19 (by decide) ?_
    have J_31 : ∀ (v31_0 : Int32) (H : Heap) (locs : List Loc) (ls : Array Slot), d_X6_isBinary_J31 S v31_0 → f_X6_isBinary_J31 S v31_0 = r0 → RepC g ad A s S H locs → lv_has ls 1 [(0, .int v31_0)] → W p l e (headSpec (wt yX6_isBinary cX6_isBinary 1 (some .boolean)) ({ frames := 0, cells := 0, slots := 0, locals := 0 })).room s m ([.int x0] : List Value).toArray below meth c H locs 0 0 (MQ below (va_Qi (fun (r : Int32) (_ : Unit) => r = fX6_isBinary S x0 ∧ (r = 0 ∨ r = 1)) (fun (_ : Unit) (t : State) => qEC g ad A S t) A) ([.int x0] : List Value).toArray s 0 0 A) (F0 m 31 ls []) := by
      intro v31_0 H locs ls hd hf hR hl
      unfold d_X6_isBinary_J31 at hd
      unfold f_X6_isBinary_J31 at hf
      refine lv_iload_n hx hb dX6_isBinary_31 rfl (lv_at hl 0 rfl) ?_
      refine lv_sipush (v := 148) hx hb dX6_isBinary_32 (by decide) ?_
      refine lv_icmp_ne (tgt := 42) hx hb dX6_isBinary_35 (by decide) (fun c1 => ?_) (fun c1 => ?_)
      · rw [if_neg (k_ne rfl (by decide) c1)] at hf
        (try rw [if_neg (k_ne rfl (by decide) c1)] at hd)
        refine lv_iconst (v := 0) hx hb dX6_isBinary_42 (by decide) ?_
        exact W.zret (v := 0) hx hb hr (nz (Or.inl rfl)) (fun t9 ht9 hW9 => ⟨⟨_, (), rfl, ⟨hf.trans hf0.symm, (Or.inl rfl)⟩, ⟨by rw [ht9]; exact hR.P, hR.D⟩⟩, hR.sS.F ht9⟩) hR.sS.2.2 dX6_isBinary_43
      · rw [if_pos (k_eq rfl (by decide) c1)] at hf
        (try rw [if_pos (k_eq rfl (by decide) c1)] at hd)
        exact J_38 _ _ ls hd hf  hR (lv_sub hl [] rfl)
    refine lv_icmp_lt (tgt := 31) hx hb dX6_isBinary_21 (by decide) (fun c2 => ?_) (fun c2 => ?_)
    · rw [if_pos (k_lt rfl (by decide) c2)] at hf
      (try rw [if_pos (k_lt rfl (by decide) c2)] at hd)
      exact J_31 v18_0 _ _ ls hd hf  hR (lv_sub hl [0] rfl)
    · rw [if_neg (k_nlt rfl (by decide) c2)] at hf
      (try rw [if_neg (k_nlt rfl (by decide) c2)] at hd)
      refine lv_iload_n hx hb dX6_isBinary_24 rfl (lv_at hl 0 rfl) ?_
      refine lv_sipush (v := 131) hx hb dX6_isBinary_25 (by decide) ?_
      refine lv_icmp_le (tgt := 38) hx hb dX6_isBinary_28 (by decide) (fun c3 => ?_) (fun c3 => ?_)
      · rw [if_pos (k_le rfl (by decide) c3)] at hf
        (try rw [if_pos (k_le rfl (by decide) c3)] at hd)
        exact J_38 _ _ ls hd hf  hR (lv_sub hl [] rfl)
      · rw [if_neg (k_nle rfl (by decide) c3)] at hf
        (try rw [if_neg (k_nle rfl (by decide) c3)] at hd)
        exact J_31 v18_0 _ _ ls hd hf  hR (lv_sub hl [0] rfl)
  refine lv_icmp_lt (tgt := 18) hx hb dX6_isBinary_3 (by decide) (fun c4 => ?_) (fun c4 => ?_)
  · rw [if_pos (k_lt rfl (by decide) c4)] at hf
    (try rw [if_pos (k_lt rfl (by decide) c4)] at hd)
    exact J_18 x0 _ _ ls hd hf  hR (lv_sub hl [0] rfl)
  · rw [if_neg (k_nlt rfl (by decide) c4)] at hf
    (try rw [if_neg (k_nlt rfl (by decide) c4)] at hd)
    refine lv_iload_n hx hb dX6_isBinary_6 rfl (lv_at hl 0 rfl) ?_
    refine lv_bipush (v := 113) hx hb dX6_isBinary_7 (by decide) ?_
    refine lv_icmp_gt (tgt := 18) hx hb dX6_isBinary_9 (by decide) (fun c5 => ?_) (fun c5 => ?_)
    · rw [if_pos (k_lt (by decide) rfl c5)] at hf
      (try rw [if_pos (k_lt (by decide) rfl c5)] at hd)
      exact J_18 x0 _ _ ls hd hf  hR (lv_sub hl [0] rfl)
    · rw [if_neg (k_nlt (by decide) rfl c5)] at hf
      (try rw [if_neg (k_nlt (by decide) rfl c5)] at hd)
      refine lv_iload_n hx hb dX6_isBinary_12 rfl (lv_at hl 0 rfl) ?_
      refine lv_iconst (v := 2) hx hb dX6_isBinary_13 (by decide) ?_
      refine lv_iand hx hb dX6_isBinary_14 ?_
      refine lv_topi (fun z6 ez6 => ?_)
      obtain rfl : z6 = (x0 &&& (2 : Int32)) := ez6
      refine lv_if_eq (tgt := 38) hx hb dX6_isBinary_15 (by decide) (fun c7 => ?_) (fun c7 => ?_)
      · rw [if_pos (k_eq rfl (by decide) c7)] at hf
        (try rw [if_pos (k_eq rfl (by decide) c7)] at hd)
        exact J_38 _ _ ls hd hf  hR (lv_sub hl [] rfl)
      · rw [if_neg (k_ne rfl (by decide) c7)] at hf
        (try rw [if_neg (k_ne rfl (by decide) c7)] at hd)
        exact J_18 x0 _ _ ls hd hf  hR (lv_sub hl [0] rfl)
def f_X6_isUnary_J40 (S : MS) : Int32 := (1 : Int32)
def d_X6_isUnary_J40 (S : MS) : Prop := True
def f_X6_isUnary_J44 (S : MS) : Int32 := (0 : Int32)
def d_X6_isUnary_J44 (S : MS) : Prop := True
def fX6_isUnary (S : MS) (x0 : Int32) : Int32 := (if x0.toInt = 116 then f_X6_isUnary_J40 S else (if x0.toInt = 117 then f_X6_isUnary_J40 S else (if x0.toInt = 133 then f_X6_isUnary_J40 S else (if x0.toInt = 136 then f_X6_isUnary_J40 S else (if x0.toInt < 145 then f_X6_isUnary_J44 S else (if 147 < x0.toInt then f_X6_isUnary_J44 S else f_X6_isUnary_J40 S))))))
def d_X6_isUnary (S : MS) (x0 : Int32) : Prop := (if x0.toInt = 116 then d_X6_isUnary_J40 S else (if x0.toInt = 117 then d_X6_isUnary_J40 S else (if x0.toInt = 133 then d_X6_isUnary_J40 S else (if x0.toInt = 136 then d_X6_isUnary_J40 S else (if x0.toInt < 145 then d_X6_isUnary_J44 S else (if 147 < x0.toInt then d_X6_isUnary_J44 S else d_X6_isUnary_J40 S))))))
set_option maxHeartbeats 2000000 in
set_option maxRecDepth 100000 in
theorem rX6_isUnary (l : Launch) (g : Gr) (ad : Nat → Nat) (sz : Nat) (S : MS) (x0 : Int32) (hw : wfC S) (hd : d_X6_isUnary S x0) : Met l yX6_isUnary (wt yX6_isUnary cX6_isUnary 1 (some .boolean)) ({ frames := 0, cells := 0, slots := 0, locals := 0 }) (va_Pc [.int x0] (st_C g ad sz S)) (va_Qi (fun (r : Int32) (_ : Unit) => r = fX6_isUnary S x0 ∧ (r = 0 ∨ r = 1)) (fun (_ : Unit) (t : State) => qEC g ad (va_A (WdC g ad S) sz) S t) (va_A (WdC g ad S) sz)) 0 0 (va_A (WdC g ad S) sz) := by
  refine Met.ofW (cc := cX6_isUnary) (maxL := 1) (ret := (some .boolean)) (by decide) rfl ?_
  intro p e s m args below meth c s₁ B hml hv
  obtain ⟨rfl, hsz, hP, hK, hD0, hex, hE⟩ := hv
  have hx := B.exec
  have hb := B.bytes
  have hr := B.returns
  have hts0 := atoms_spec (ws := wt yX6_isUnary cX6_isUnary 1 (some .boolean)) B.pre
  have hts : ∀ w ∈ tb, w.before _ s = true := fun w h => hts0 w (List.mem_cons_of_mem _ h)
  have hown : s.vm.findClass RX6 = some m.cls := findClass_of_methodNamed B.named
  subst hsz
  have hD := hD0.self (sz := s.heap.size)
  generalize hAe : va_A (WdC g ad S) s.heap.size = A at hD hE ⊢
  have hA : ∀ q : Nat, s.heap.size ≤ q → A q := fun q h => by rw [← hAe]; exact Or.inr h
  have hR : RepC g ad A s S s.heap [] := ⟨hK, hP, hD, va_S.rf, hw⟩
  clear hK hP hD hD0
  have hl := lv_entry ([.int x0]) (n := 1) (Nat.le_of_ble_eq_true rfl)
  rw [lg_entry_eq]
  generalize (lg_sl ([.int x0]) ++ List.replicate (1 - (lg_sl ([.int x0])).length) Slot.unset).toArray = ls at hl ⊢
  have hl : lv_has ls 1 [(0, .int x0)] := hl
  obtain ⟨r0, hf⟩ : ∃ r0, fX6_isUnary S x0 = r0 := ⟨_, rfl⟩
  have hf0 := hf
  unfold fX6_isUnary at hf
  unfold d_X6_isUnary at hd
  refine lv_iload_n hx hb dX6_isUnary_0 rfl (lv_at hl 0 rfl) ?_
  refine lv_bipush (v := 116) hx hb dX6_isUnary_1 (by decide) ?_
  have J_40 : ∀ (H : Heap) (locs : List Loc) (ls : Array Slot), d_X6_isUnary_J40 S → f_X6_isUnary_J40 S = r0 → RepC g ad A s S H locs → lv_has ls 1 [] → W p l e (headSpec (wt yX6_isUnary cX6_isUnary 1 (some .boolean)) ({ frames := 0, cells := 0, slots := 0, locals := 0 })).room s m ([.int x0] : List Value).toArray below meth c H locs 0 0 (MQ below (va_Qi (fun (r : Int32) (_ : Unit) => r = fX6_isUnary S x0 ∧ (r = 0 ∨ r = 1)) (fun (_ : Unit) (t : State) => qEC g ad A S t) A) ([.int x0] : List Value).toArray s 0 0 A) (F0 m 40 ls []) := by
    intro H locs ls hd hf hR hl
    unfold d_X6_isUnary_J40 at hd
    unfold f_X6_isUnary_J40 at hf
    refine lv_iconst (v := 1) hx hb dX6_isUnary_40 (by decide) ?_
    refine lv_goto (tgt := 45) hx hb dX6_isUnary_41 (by decide) ?_
    exact W.zret (v := 1) hx hb hr (nz (Or.inr rfl)) (fun t9 ht9 hW9 => ⟨⟨_, (), rfl, ⟨hf.trans hf0.symm, (Or.inr rfl)⟩, ⟨by rw [ht9]; exact hR.P, hR.D⟩⟩, hR.sS.F ht9⟩) hR.sS.2.2 dX6_isUnary_45
  refine lv_icmp_eq (tgt := 40) hx hb dX6_isUnary_3 (by decide) (fun c1 => ?_) (fun c1 => ?_)
  · rw [if_pos (k_eq rfl (by decide) c1)] at hf
    (try rw [if_pos (k_eq rfl (by decide) c1)] at hd)
    exact J_40 _ _ ls hd hf  hR (lv_sub hl [] rfl)
  · rw [if_neg (k_ne rfl (by decide) c1)] at hf
    (try rw [if_neg (k_ne rfl (by decide) c1)] at hd)
    refine lv_iload_n hx hb dX6_isUnary_6 rfl (lv_at hl 0 rfl) ?_
    refine lv_bipush (v := 117) hx hb dX6_isUnary_7 (by decide) ?_
    refine lv_icmp_eq (tgt := 40) hx hb dX6_isUnary_9 (by decide) (fun c2 => ?_) (fun c2 => ?_)
    · rw [if_pos (k_eq rfl (by decide) c2)] at hf
      (try rw [if_pos (k_eq rfl (by decide) c2)] at hd)
      exact J_40 _ _ ls hd hf  hR (lv_sub hl [] rfl)
    · rw [if_neg (k_ne rfl (by decide) c2)] at hf
      (try rw [if_neg (k_ne rfl (by decide) c2)] at hd)
      refine lv_iload_n hx hb dX6_isUnary_12 rfl (lv_at hl 0 rfl) ?_
      refine lv_sipush (v := 133) hx hb dX6_isUnary_13 (by decide) ?_
      refine lv_icmp_eq (tgt := 40) hx hb dX6_isUnary_16 (by decide) (fun c3 => ?_) (fun c3 => ?_)
      · rw [if_pos (k_eq rfl (by decide) c3)] at hf
        (try rw [if_pos (k_eq rfl (by decide) c3)] at hd)
        exact J_40 _ _ ls hd hf  hR (lv_sub hl [] rfl)
      · rw [if_neg (k_ne rfl (by decide) c3)] at hf
        (try rw [if_neg (k_ne rfl (by decide) c3)] at hd)
        refine lv_iload_n hx hb dX6_isUnary_19 rfl (lv_at hl 0 rfl) ?_
        refine lv_sipush (v := 136) hx hb dX6_isUnary_20 (by decide) ?_
        refine lv_icmp_eq (tgt := 40) hx hb dX6_isUnary_23 (by decide) (fun c4 => ?_) (fun c4 => ?_)
        · rw [if_pos (k_eq rfl (by decide) c4)] at hf
          (try rw [if_pos (k_eq rfl (by decide) c4)] at hd)
          exact J_40 _ _ ls hd hf  hR (lv_sub hl [] rfl)
        · rw [if_neg (k_ne rfl (by decide) c4)] at hf
          (try rw [if_neg (k_ne rfl (by decide) c4)] at hd)
          refine lv_iload_n hx hb dX6_isUnary_26 rfl (lv_at hl 0 rfl) ?_
          refine lv_sipush (v := 145) hx hb dX6_isUnary_27 (by decide) ?_
          have J_44 : ∀ (H : Heap) (locs : List Loc) (ls : Array Slot), d_X6_isUnary_J44 S → f_X6_isUnary_J44 S = r0 → RepC g ad A s S H locs → lv_has ls 1 [] → W p l e (headSpec (wt yX6_isUnary cX6_isUnary 1 (some .boolean)) ({ frames := 0, cells := 0, slots := 0, locals := 0 })).room s m ([.int x0] : List Value).toArray below meth c H locs 0 0 (MQ below (va_Qi (fun (r : Int32) (_ : Unit) => r = fX6_isUnary S x0 ∧ (r = 0 ∨ r = 1)) (fun (_ : Unit) (t : State) => qEC g ad A S t) A) ([.int x0] : List Value).toArray s 0 0 A) (F0 m 44 ls []) := by
            intro H locs ls hd hf hR hl
            unfold d_X6_isUnary_J44 at hd
            unfold f_X6_isUnary_J44 at hf
            refine lv_iconst (v := 0) hx hb dX6_isUnary_44 (by decide) ?_
            exact W.zret (v := 0) hx hb hr (nz (Or.inl rfl)) (fun t9 ht9 hW9 => ⟨⟨_, (), rfl, ⟨hf.trans hf0.symm, (Or.inl rfl)⟩, ⟨by rw [ht9]; exact hR.P, hR.D⟩⟩, hR.sS.F ht9⟩) hR.sS.2.2 dX6_isUnary_45
          refine lv_icmp_lt (tgt := 44) hx hb dX6_isUnary_30 (by decide) (fun c5 => ?_) (fun c5 => ?_)
          · rw [if_pos (k_lt rfl (by decide) c5)] at hf
            (try rw [if_pos (k_lt rfl (by decide) c5)] at hd)
            exact J_44 _ _ ls hd hf  hR (lv_sub hl [] rfl)
          · rw [if_neg (k_nlt rfl (by decide) c5)] at hf
            (try rw [if_neg (k_nlt rfl (by decide) c5)] at hd)
            refine lv_iload_n hx hb dX6_isUnary_33 rfl (lv_at hl 0 rfl) ?_
            refine lv_sipush (v := 147) hx hb dX6_isUnary_34 (by decide) ?_
            refine lv_icmp_gt (tgt := 44) hx hb dX6_isUnary_37 (by decide) (fun c6 => ?_) (fun c6 => ?_)
            · rw [if_pos (k_lt (by decide) rfl c6)] at hf
              (try rw [if_pos (k_lt (by decide) rfl c6)] at hd)
              exact J_44 _ _ ls hd hf  hR (lv_sub hl [] rfl)
            · rw [if_neg (k_nlt (by decide) rfl c6)] at hf
              (try rw [if_neg (k_nlt (by decide) rfl c6)] at hd)
              exact J_40 _ _ ls hd hf  hR (lv_sub hl [] rfl)
def f_X6_lengthOf_J12 (S : MS) : Int32 := (0 : Int32)
def d_X6_lengthOf_J12 (S : MS) : Prop := True
def fX6_lengthOf (S : MS) (x0 : Int32) : Int32 := (if x0.toInt < 0 then f_X6_lengthOf_J12 S else (if x0.toInt < 202 then (stLN.getD x0.toInt.toNat 0) else f_X6_lengthOf_J12 S))
def d_X6_lengthOf (S : MS) (x0 : Int32) : Prop := (if x0.toInt < 0 then d_X6_lengthOf_J12 S else (if x0.toInt < 202 then (((0 : Int) ≤ x0.toInt ∧ x0.toInt < ((202 : Nat) : Int)) ∧ True) else d_X6_lengthOf_J12 S))
set_option maxHeartbeats 2000000 in
set_option maxRecDepth 100000 in
theorem rX6_lengthOf (l : Launch) (g : Gr) (ad : Nat → Nat) (sz : Nat) (S : MS) (x0 : Int32) (hw : wfC S) (hd : d_X6_lengthOf S x0) : Met l yX6_lengthOf (wt yX6_lengthOf cX6_lengthOf 1 (some .int)) ({ frames := 0, cells := 0, slots := 0, locals := 0 }) (va_Pc [.int x0] (st_C g ad sz S)) (va_Qi (fun (r : Int32) (_ : Unit) => r = fX6_lengthOf S x0) (fun (_ : Unit) (t : State) => qEC g ad (va_A (WdC g ad S) sz) S t) (va_A (WdC g ad S) sz)) 0 0 (va_A (WdC g ad S) sz) := by
  refine Met.ofW (cc := cX6_lengthOf) (maxL := 1) (ret := (some .int)) (by decide) rfl ?_
  intro p e s m args below meth c s₁ B hml hv
  obtain ⟨rfl, hsz, hP, hK, hD0, hex, hE⟩ := hv
  have hx := B.exec
  have hb := B.bytes
  have hr := B.returns
  have hts0 := atoms_spec (ws := wt yX6_lengthOf cX6_lengthOf 1 (some .int)) B.pre
  have hts : ∀ w ∈ tb, w.before _ s = true := fun w h => hts0 w (List.mem_cons_of_mem _ h)
  have hown : s.vm.findClass RX6 = some m.cls := findClass_of_methodNamed B.named
  subst hsz
  have hD := hD0.self (sz := s.heap.size)
  generalize hAe : va_A (WdC g ad S) s.heap.size = A at hD hE ⊢
  have hA : ∀ q : Nat, s.heap.size ≤ q → A q := fun q h => by rw [← hAe]; exact Or.inr h
  have hR : RepC g ad A s S s.heap [] := ⟨hK, hP, hD, va_S.rf, hw⟩
  clear hK hP hD hD0
  have hl := lv_entry ([.int x0]) (n := 1) (Nat.le_of_ble_eq_true rfl)
  rw [lg_entry_eq]
  generalize (lg_sl ([.int x0]) ++ List.replicate (1 - (lg_sl ([.int x0])).length) Slot.unset).toArray = ls at hl ⊢
  have hl : lv_has ls 1 [(0, .int x0)] := hl
  obtain ⟨r0, hf⟩ : ∃ r0, fX6_lengthOf S x0 = r0 := ⟨_, rfl⟩
  have hf0 := hf
  unfold fX6_lengthOf at hf
  unfold d_X6_lengthOf at hd
  refine lv_iload_n hx hb dX6_lengthOf_0 rfl (lv_at hl 0 rfl) ?_
  have J_12 : ∀ (H : Heap) (locs : List Loc) (ls : Array Slot), d_X6_lengthOf_J12 S → f_X6_lengthOf_J12 S = r0 → RepC g ad A s S H locs → lv_has ls 1 [] → W p l e (headSpec (wt yX6_lengthOf cX6_lengthOf 1 (some .int)) ({ frames := 0, cells := 0, slots := 0, locals := 0 })).room s m ([.int x0] : List Value).toArray below meth c H locs 0 0 (MQ below (va_Qi (fun (r : Int32) (_ : Unit) => r = fX6_lengthOf S x0) (fun (_ : Unit) (t : State) => qEC g ad A S t) A) ([.int x0] : List Value).toArray s 0 0 A) (F0 m 12 ls []) := by
    intro H locs ls hd hf hR hl
    unfold d_X6_lengthOf_J12 at hd
    unfold f_X6_lengthOf_J12 at hf
    refine lv_iconst (v := 0) hx hb dX6_lengthOf_12 (by decide) ?_
    refine lv_goto (tgt := 21) hx hb dX6_lengthOf_13 (by decide) ?_
    exact W.iret (v := 0) hx hb hr (fun t9 ht9 hW9 => ⟨⟨_, (), rfl, hf.trans hf0.symm, ⟨by rw [ht9]; exact hR.P, hR.D⟩⟩, hR.sS.F ht9⟩) hR.sS.2.2 dX6_lengthOf_21
  refine lv_if_lt (tgt := 12) hx hb dX6_lengthOf_1 (by decide) (fun c1 => ?_) (fun c1 => ?_)
  · rw [if_pos (k_lt rfl (by decide) c1)] at hf
    (try rw [if_pos (k_lt rfl (by decide) c1)] at hd)
    exact J_12 _ _ ls hd hf  hR (lv_sub hl [] rfl)
  · rw [if_neg (k_nlt rfl (by decide) c1)] at hf
    (try rw [if_neg (k_nlt rfl (by decide) c1)] at hd)
    refine lv_iload_n hx hb dX6_lengthOf_4 rfl (lv_at hl 0 rfl) ?_
    obtain ⟨q2, hZ_q2, hG_q2⟩ := id hE.1.2.2.1
    refine va_gets (C := RX6) (n := "LENGTH_OF") (d := "[I") (v := .ref q2) hx hb hZ_q2 hR.sS hown (hts _ kw_1245) (fun _ h9 => h9) dX6_lengthOf_5 ?_
    refine va_tlen (v := 202) hx hb hG_q2 hR.sS rfl dX6_lengthOf_8 ?_
    refine lv_icmp_lt (tgt := 16) hx hb dX6_lengthOf_9 (by decide) (fun c3 => ?_) (fun c3 => ?_)
    · rw [if_pos (k_lt rfl (by decide) c3)] at hf
      (try rw [if_pos (k_lt rfl (by decide) c3)] at hd)
      obtain ⟨q4, hZ_q4, hG_q4⟩ := id hE.1.2.2.1
      refine va_gets (C := RX6) (n := "LENGTH_OF") (d := "[I") (v := .ref q4) hx hb hZ_q4 hR.sS hown (hts _ kw_1245) (fun _ h9 => h9) dX6_lengthOf_16 ?_
      refine lv_iload_n hx hb dX6_lengthOf_19 rfl (lv_at hl 0 rfl) ?_
      obtain ⟨hv5, hd⟩ := hd
      refine va_ti (v := .int (stLN.getD x0.toInt.toNat 0)) hx hb hG_q4 hR.sS (n_in hv5) rfl dX6_lengthOf_20 ?_
      exact W.iret (v := (stLN.getD x0.toInt.toNat 0)) hx hb hr (fun t9 ht9 hW9 => ⟨⟨_, (), rfl, hf.trans hf0.symm, ⟨by rw [ht9]; exact hR.P, hR.D⟩⟩, hR.sS.F ht9⟩) hR.sS.2.2 dX6_lengthOf_21
    · rw [if_neg (k_nlt rfl (by decide) c3)] at hf
      (try rw [if_neg (k_nlt rfl (by decide) c3)] at hd)
      exact J_12 _ _ ls hd hf  hR (lv_sub hl [] rfl)
def f_X6_takes_J12 (S : MS) : Int32 := (0 : Int32)
def d_X6_takes_J12 (S : MS) : Prop := True
def fX6_takes (S : MS) (x0 : Int32) : Int32 := (if x0.toInt < 0 then f_X6_takes_J12 S else (if x0.toInt < 202 then (stTK.getD x0.toInt.toNat 0) else f_X6_takes_J12 S))
def d_X6_takes (S : MS) (x0 : Int32) : Prop := (if x0.toInt < 0 then d_X6_takes_J12 S else (if x0.toInt < 202 then (((0 : Int) ≤ x0.toInt ∧ x0.toInt < ((202 : Nat) : Int)) ∧ True) else d_X6_takes_J12 S))
set_option maxHeartbeats 2000000 in
set_option maxRecDepth 100000 in
theorem rX6_takes (l : Launch) (g : Gr) (ad : Nat → Nat) (sz : Nat) (S : MS) (x0 : Int32) (hw : wfC S) (hd : d_X6_takes S x0) : Met l yX6_takes (wt yX6_takes cX6_takes 1 (some .int)) ({ frames := 0, cells := 0, slots := 0, locals := 0 }) (va_Pc [.int x0] (st_C g ad sz S)) (va_Qi (fun (r : Int32) (_ : Unit) => r = fX6_takes S x0) (fun (_ : Unit) (t : State) => qEC g ad (va_A (WdC g ad S) sz) S t) (va_A (WdC g ad S) sz)) 0 0 (va_A (WdC g ad S) sz) := by
  refine Met.ofW (cc := cX6_takes) (maxL := 1) (ret := (some .int)) (by decide) rfl ?_
  intro p e s m args below meth c s₁ B hml hv
  obtain ⟨rfl, hsz, hP, hK, hD0, hex, hE⟩ := hv
  have hx := B.exec
  have hb := B.bytes
  have hr := B.returns
  have hts0 := atoms_spec (ws := wt yX6_takes cX6_takes 1 (some .int)) B.pre
  have hts : ∀ w ∈ tb, w.before _ s = true := fun w h => hts0 w (List.mem_cons_of_mem _ h)
  have hown : s.vm.findClass RX6 = some m.cls := findClass_of_methodNamed B.named
  subst hsz
  have hD := hD0.self (sz := s.heap.size)
  generalize hAe : va_A (WdC g ad S) s.heap.size = A at hD hE ⊢
  have hA : ∀ q : Nat, s.heap.size ≤ q → A q := fun q h => by rw [← hAe]; exact Or.inr h
  have hR : RepC g ad A s S s.heap [] := ⟨hK, hP, hD, va_S.rf, hw⟩
  clear hK hP hD hD0
  have hl := lv_entry ([.int x0]) (n := 1) (Nat.le_of_ble_eq_true rfl)
  rw [lg_entry_eq]
  generalize (lg_sl ([.int x0]) ++ List.replicate (1 - (lg_sl ([.int x0])).length) Slot.unset).toArray = ls at hl ⊢
  have hl : lv_has ls 1 [(0, .int x0)] := hl
  obtain ⟨r0, hf⟩ : ∃ r0, fX6_takes S x0 = r0 := ⟨_, rfl⟩
  have hf0 := hf
  unfold fX6_takes at hf
  unfold d_X6_takes at hd
  refine lv_iload_n hx hb dX6_takes_0 rfl (lv_at hl 0 rfl) ?_
  have J_12 : ∀ (H : Heap) (locs : List Loc) (ls : Array Slot), d_X6_takes_J12 S → f_X6_takes_J12 S = r0 → RepC g ad A s S H locs → lv_has ls 1 [] → W p l e (headSpec (wt yX6_takes cX6_takes 1 (some .int)) ({ frames := 0, cells := 0, slots := 0, locals := 0 })).room s m ([.int x0] : List Value).toArray below meth c H locs 0 0 (MQ below (va_Qi (fun (r : Int32) (_ : Unit) => r = fX6_takes S x0) (fun (_ : Unit) (t : State) => qEC g ad A S t) A) ([.int x0] : List Value).toArray s 0 0 A) (F0 m 12 ls []) := by
    intro H locs ls hd hf hR hl
    unfold d_X6_takes_J12 at hd
    unfold f_X6_takes_J12 at hf
    refine lv_iconst (v := 0) hx hb dX6_takes_12 (by decide) ?_
    refine lv_goto (tgt := 21) hx hb dX6_takes_13 (by decide) ?_
    exact W.iret (v := 0) hx hb hr (fun t9 ht9 hW9 => ⟨⟨_, (), rfl, hf.trans hf0.symm, ⟨by rw [ht9]; exact hR.P, hR.D⟩⟩, hR.sS.F ht9⟩) hR.sS.2.2 dX6_takes_21
  refine lv_if_lt (tgt := 12) hx hb dX6_takes_1 (by decide) (fun c1 => ?_) (fun c1 => ?_)
  · rw [if_pos (k_lt rfl (by decide) c1)] at hf
    (try rw [if_pos (k_lt rfl (by decide) c1)] at hd)
    exact J_12 _ _ ls hd hf  hR (lv_sub hl [] rfl)
  · rw [if_neg (k_nlt rfl (by decide) c1)] at hf
    (try rw [if_neg (k_nlt rfl (by decide) c1)] at hd)
    refine lv_iload_n hx hb dX6_takes_4 rfl (lv_at hl 0 rfl) ?_
    obtain ⟨q2, hZ_q2, hG_q2⟩ := id hE.1.2.2.2.1
    refine va_gets (C := RX6) (n := "TAKES_OF") (d := "[I") (v := .ref q2) hx hb hZ_q2 hR.sS hown (hts _ kw_1256) (fun _ h9 => h9) dX6_takes_5 ?_
    refine va_tlen (v := 202) hx hb hG_q2 hR.sS rfl dX6_takes_8 ?_
    refine lv_icmp_lt (tgt := 16) hx hb dX6_takes_9 (by decide) (fun c3 => ?_) (fun c3 => ?_)
    · rw [if_pos (k_lt rfl (by decide) c3)] at hf
      (try rw [if_pos (k_lt rfl (by decide) c3)] at hd)
      obtain ⟨q4, hZ_q4, hG_q4⟩ := id hE.1.2.2.2.1
      refine va_gets (C := RX6) (n := "TAKES_OF") (d := "[I") (v := .ref q4) hx hb hZ_q4 hR.sS hown (hts _ kw_1256) (fun _ h9 => h9) dX6_takes_16 ?_
      refine lv_iload_n hx hb dX6_takes_19 rfl (lv_at hl 0 rfl) ?_
      obtain ⟨hv5, hd⟩ := hd
      refine va_ti (v := .int (stTK.getD x0.toInt.toNat 0)) hx hb hG_q4 hR.sS (n_in hv5) rfl dX6_takes_20 ?_
      exact W.iret (v := (stTK.getD x0.toInt.toNat 0)) hx hb hr (fun t9 ht9 hW9 => ⟨⟨_, (), rfl, hf.trans hf0.symm, ⟨by rw [ht9]; exact hR.P, hR.D⟩⟩, hR.sS.F ht9⟩) hR.sS.2.2 dX6_takes_21
    · rw [if_neg (k_nlt rfl (by decide) c3)] at hf
      (try rw [if_neg (k_nlt rfl (by decide) c3)] at hd)
      exact J_12 _ _ ls hd hf  hR (lv_sub hl [] rfl)
def f_X6_gives_J12 (S : MS) : Int32 := (0 : Int32)
def d_X6_gives_J12 (S : MS) : Prop := True
def fX6_gives (S : MS) (x0 : Int32) : Int32 := (if x0.toInt < 0 then f_X6_gives_J12 S else (if x0.toInt < 202 then (stGV.getD x0.toInt.toNat 0) else f_X6_gives_J12 S))
def d_X6_gives (S : MS) (x0 : Int32) : Prop := (if x0.toInt < 0 then d_X6_gives_J12 S else (if x0.toInt < 202 then (((0 : Int) ≤ x0.toInt ∧ x0.toInt < ((202 : Nat) : Int)) ∧ True) else d_X6_gives_J12 S))
set_option maxHeartbeats 2000000 in
set_option maxRecDepth 100000 in
theorem rX6_gives (l : Launch) (g : Gr) (ad : Nat → Nat) (sz : Nat) (S : MS) (x0 : Int32) (hw : wfC S) (hd : d_X6_gives S x0) : Met l yX6_gives (wt yX6_gives cX6_gives 1 (some .int)) ({ frames := 0, cells := 0, slots := 0, locals := 0 }) (va_Pc [.int x0] (st_C g ad sz S)) (va_Qi (fun (r : Int32) (_ : Unit) => r = fX6_gives S x0) (fun (_ : Unit) (t : State) => qEC g ad (va_A (WdC g ad S) sz) S t) (va_A (WdC g ad S) sz)) 0 0 (va_A (WdC g ad S) sz) := by
  refine Met.ofW (cc := cX6_gives) (maxL := 1) (ret := (some .int)) (by decide) rfl ?_
  intro p e s m args below meth c s₁ B hml hv
  obtain ⟨rfl, hsz, hP, hK, hD0, hex, hE⟩ := hv
  have hx := B.exec
  have hb := B.bytes
  have hr := B.returns
  have hts0 := atoms_spec (ws := wt yX6_gives cX6_gives 1 (some .int)) B.pre
  have hts : ∀ w ∈ tb, w.before _ s = true := fun w h => hts0 w (List.mem_cons_of_mem _ h)
  have hown : s.vm.findClass RX6 = some m.cls := findClass_of_methodNamed B.named
  subst hsz
  have hD := hD0.self (sz := s.heap.size)
  generalize hAe : va_A (WdC g ad S) s.heap.size = A at hD hE ⊢
  have hA : ∀ q : Nat, s.heap.size ≤ q → A q := fun q h => by rw [← hAe]; exact Or.inr h
  have hR : RepC g ad A s S s.heap [] := ⟨hK, hP, hD, va_S.rf, hw⟩
  clear hK hP hD hD0
  have hl := lv_entry ([.int x0]) (n := 1) (Nat.le_of_ble_eq_true rfl)
  rw [lg_entry_eq]
  generalize (lg_sl ([.int x0]) ++ List.replicate (1 - (lg_sl ([.int x0])).length) Slot.unset).toArray = ls at hl ⊢
  have hl : lv_has ls 1 [(0, .int x0)] := hl
  obtain ⟨r0, hf⟩ : ∃ r0, fX6_gives S x0 = r0 := ⟨_, rfl⟩
  have hf0 := hf
  unfold fX6_gives at hf
  unfold d_X6_gives at hd
  refine lv_iload_n hx hb dX6_gives_0 rfl (lv_at hl 0 rfl) ?_
  have J_12 : ∀ (H : Heap) (locs : List Loc) (ls : Array Slot), d_X6_gives_J12 S → f_X6_gives_J12 S = r0 → RepC g ad A s S H locs → lv_has ls 1 [] → W p l e (headSpec (wt yX6_gives cX6_gives 1 (some .int)) ({ frames := 0, cells := 0, slots := 0, locals := 0 })).room s m ([.int x0] : List Value).toArray below meth c H locs 0 0 (MQ below (va_Qi (fun (r : Int32) (_ : Unit) => r = fX6_gives S x0) (fun (_ : Unit) (t : State) => qEC g ad A S t) A) ([.int x0] : List Value).toArray s 0 0 A) (F0 m 12 ls []) := by
    intro H locs ls hd hf hR hl
    unfold d_X6_gives_J12 at hd
    unfold f_X6_gives_J12 at hf
    refine lv_iconst (v := 0) hx hb dX6_gives_12 (by decide) ?_
    refine lv_goto (tgt := 21) hx hb dX6_gives_13 (by decide) ?_
    exact W.iret (v := 0) hx hb hr (fun t9 ht9 hW9 => ⟨⟨_, (), rfl, hf.trans hf0.symm, ⟨by rw [ht9]; exact hR.P, hR.D⟩⟩, hR.sS.F ht9⟩) hR.sS.2.2 dX6_gives_21
  refine lv_if_lt (tgt := 12) hx hb dX6_gives_1 (by decide) (fun c1 => ?_) (fun c1 => ?_)
  · rw [if_pos (k_lt rfl (by decide) c1)] at hf
    (try rw [if_pos (k_lt rfl (by decide) c1)] at hd)
    exact J_12 _ _ ls hd hf  hR (lv_sub hl [] rfl)
  · rw [if_neg (k_nlt rfl (by decide) c1)] at hf
    (try rw [if_neg (k_nlt rfl (by decide) c1)] at hd)
    refine lv_iload_n hx hb dX6_gives_4 rfl (lv_at hl 0 rfl) ?_
    obtain ⟨q2, hZ_q2, hG_q2⟩ := id hE.1.2.2.2.2
    refine va_gets (C := RX6) (n := "GIVES_OF") (d := "[I") (v := .ref q2) hx hb hZ_q2 hR.sS hown (hts _ kw_1217) (fun _ h9 => h9) dX6_gives_5 ?_
    refine va_tlen (v := 202) hx hb hG_q2 hR.sS rfl dX6_gives_8 ?_
    refine lv_icmp_lt (tgt := 16) hx hb dX6_gives_9 (by decide) (fun c3 => ?_) (fun c3 => ?_)
    · rw [if_pos (k_lt rfl (by decide) c3)] at hf
      (try rw [if_pos (k_lt rfl (by decide) c3)] at hd)
      obtain ⟨q4, hZ_q4, hG_q4⟩ := id hE.1.2.2.2.2
      refine va_gets (C := RX6) (n := "GIVES_OF") (d := "[I") (v := .ref q4) hx hb hZ_q4 hR.sS hown (hts _ kw_1217) (fun _ h9 => h9) dX6_gives_16 ?_
      refine lv_iload_n hx hb dX6_gives_19 rfl (lv_at hl 0 rfl) ?_
      obtain ⟨hv5, hd⟩ := hd
      refine va_ti (v := .int (stGV.getD x0.toInt.toNat 0)) hx hb hG_q4 hR.sS (n_in hv5) rfl dX6_gives_20 ?_
      exact W.iret (v := (stGV.getD x0.toInt.toNat 0)) hx hb hr (fun t9 ht9 hW9 => ⟨⟨_, (), rfl, hf.trans hf0.symm, ⟨by rw [ht9]; exact hR.P, hR.D⟩⟩, hR.sS.F ht9⟩) hR.sS.2.2 dX6_gives_21
    · rw [if_neg (k_nlt rfl (by decide) c3)] at hf
      (try rw [if_neg (k_nlt rfl (by decide) c3)] at hd)
      exact J_12 _ _ ls hd hf  hR (lv_sub hl [] rfl)
def w_X6_placesOf_J22 (Q : Int32 → MS → Prop) (k4 : MS → Int32 → Int32 → Prop) (U22 : MS) (t22_0 : Int32) (t22_1 : Int32) (v22_2 : Int32) : Prop := (wfC U22 → (∀ a4 : Int32, a4 = (t22_1 + t22_0) → (∀ a6 : Int32, a6 = (v22_2 >>> ((4 : Int32) &&& 31)) → k4 U22 a4 a6)))
def w_X6_placesOf_L4 (Q : Int32 → MS → Prop) : Nat → MS → Int32 → Int32 → Prop
  | 0, _, _, _ => False
  | n4 + 1, U4, v4_1, v4_2 => (wfC U4 → ((v4_2.toInt ≤ 0 → Q v4_1 U4) ∧ (¬ v4_2.toInt ≤ 0 → (((v4_2 &&& (15 : Int32)).toInt = 2 → w_X6_placesOf_J22 Q (w_X6_placesOf_L4 Q n4) U4 2 v4_1 v4_2) ∧ (¬ (v4_2 &&& (15 : Int32)).toInt = 2 → w_X6_placesOf_J22 Q (w_X6_placesOf_L4 Q n4) U4 1 v4_1 v4_2)))))
def wX6_placesOf (S : MS) (x0 : Int32) (Q : Int32 → MS → Prop) : Prop := (∃ n, w_X6_placesOf_L4 Q n S 0 x0)
set_option maxHeartbeats 2000000 in
set_option maxRecDepth 100000 in
theorem rX6_placesOf (l : Launch) (g : Gr) (ad : Nat → Nat) (sz : Nat) (S : MS) (x0 : Int32) (hw : wfC S) (Q : Int32 → MS → Prop) (h : wX6_placesOf S x0 Q) : Met l yX6_placesOf (wt yX6_placesOf cX6_placesOf 3 (some .int)) ({ frames := 0, cells := 0, slots := 0, locals := 0 }) (va_Pc [.int x0] (st_C g ad sz S)) (va_Qi (fun (r : Int32) (u : MS) => Q r u ∧ wfC u ∧ shy S u) (fun (u : MS) (t : State) => qEC g ad (va_A (WdC g ad S) sz) u t) (va_A (WdC g ad S) sz)) 0 0 (va_A (WdC g ad S) sz) := by
  refine Met.ofW (cc := cX6_placesOf) (maxL := 3) (ret := (some .int)) (by decide) rfl ?_
  intro p e s m args below meth c s₁ B hml hv
  obtain ⟨rfl, hsz, hP, hK, hD0, hex, hE⟩ := hv
  have hx := B.exec
  have hb := B.bytes
  have hr := B.returns
  have hts0 := atoms_spec (ws := wt yX6_placesOf cX6_placesOf 3 (some .int)) B.pre
  have hts : ∀ w ∈ tb, w.before _ s = true := fun w h => hts0 w (List.mem_cons_of_mem _ h)
  have hown : s.vm.findClass RX6 = some m.cls := findClass_of_methodNamed B.named
  subst hsz
  have hD := hD0.self (sz := s.heap.size)
  generalize hAe : va_A (WdC g ad S) s.heap.size = A at hD hE ⊢
  have hA : ∀ q : Nat, s.heap.size ≤ q → A q := fun q h => by rw [← hAe]; exact Or.inr h
  have hR : RepC g ad A s S s.heap [] := ⟨hK, hP, hD, va_S.rf, hw⟩
  clear hK hP hD hD0
  have hl := lv_entry ([.int x0]) (n := 3) (Nat.le_of_ble_eq_true rfl)
  rw [lg_entry_eq]
  generalize (lg_sl ([.int x0]) ++ List.replicate (3 - (lg_sl ([.int x0])).length) Slot.unset).toArray = ls at hl ⊢
  have hl : lv_has ls 3 [(0, .int x0)] := hl
  have hsh : shy S S := shy.rf
  unfold wX6_placesOf at h
  refine lv_iconst (v := 0) hx hb dX6_placesOf_0 (by decide) ?_
  refine lv_istore_n (lv' := [(1, .int 0), (0, .int x0)]) hx hb dX6_placesOf_1 rfl hl (by decide) rfl (fun ls hl => ?_)
  refine lv_iload_n hx hb dX6_placesOf_2 rfl (lv_at hl 1 rfl) ?_
  refine lv_istore_n (lv' := [(2, .int x0), (1, .int 0), (0, .int x0)]) hx hb dX6_placesOf_3 rfl hl (by decide) rfl (fun ls hl => ?_)
  have J_4 : ∀ (n4 : Nat) (U4 : MS) (v4_1 : Int32) (v4_2 : Int32) (H : Heap) (locs : List Loc) (ls : Array Slot), w_X6_placesOf_L4 Q n4 U4 v4_1 v4_2 → shy S U4 → RepC g ad A s U4 H locs → lv_has ls 3 [(1, .int v4_1), (2, .int v4_2)] → W p l e (headSpec (wt yX6_placesOf cX6_placesOf 3 (some .int)) ({ frames := 0, cells := 0, slots := 0, locals := 0 })).room s m ([.int x0] : List Value).toArray below meth c H locs 0 0 (MQ below (va_Qi (fun (r : Int32) (u : MS) => Q r u ∧ wfC u ∧ shy S u) (fun (u : MS) (t : State) => qEC g ad A u t) A) ([.int x0] : List Value).toArray s 0 0 A) (F0 m 4 ls []) := by
    intro n4
    induction n4 with
    | zero => intro U4 v4_1 v4_2 H locs ls h hsh hR hl; unfold w_X6_placesOf_L4 at h; exact h.elim
    | succ n4 ih_4 =>
      intro U4 v4_1 v4_2 H locs ls h hsh hR hl
      unfold w_X6_placesOf_L4 at h
      replace h := h hR.w
      refine lv_iload_n hx hb dX6_placesOf_4 rfl (lv_at hl 1 rfl) ?_
      refine lv_if_le (tgt := 31) hx hb dX6_placesOf_5 (by decide) (fun c1 => ?_) (fun c1 => ?_)
      · replace h := h.1 (k_le rfl (by decide) c1)
        refine lv_iload_n hx hb dX6_placesOf_31 rfl (lv_at hl 0 rfl) ?_
        exact W.iret (v := v4_1) hx hb hr (fun t9 ht9 hW9 => ⟨⟨_, U4, rfl, ⟨h, hR.w, hsh⟩, ⟨by rw [ht9]; exact hR.P, hR.D⟩⟩, hR.sS.F ht9⟩) hR.sS.2.2 dX6_placesOf_32
      · replace h := h.2 (k_nle rfl (by decide) c1)
        refine lv_iload_n hx hb dX6_placesOf_8 rfl (lv_at hl 0 rfl) ?_
        refine lv_iload_n hx hb dX6_placesOf_9 rfl (lv_at hl 1 rfl) ?_
        refine lv_bipush (v := 15) hx hb dX6_placesOf_10 (by decide) ?_
        refine lv_iand hx hb dX6_placesOf_12 ?_
        refine lv_topi (fun z2 ez2 => ?_)
        obtain rfl : z2 = (v4_2 &&& (15 : Int32)) := ez2
        refine lv_iconst (v := 2) hx hb dX6_placesOf_13 (by decide) ?_
        have J_22 : ∀ (U22 : MS) (t22_0 : Int32) (t22_1 : Int32) (v22_2 : Int32) (H : Heap) (locs : List Loc) (ls : Array Slot), w_X6_placesOf_J22 Q (w_X6_placesOf_L4 Q n4) U22 t22_0 t22_1 v22_2 → shy S U22 → RepC g ad A s U22 H locs → lv_has ls 3 [(2, .int v22_2)] → W p l e (headSpec (wt yX6_placesOf cX6_placesOf 3 (some .int)) ({ frames := 0, cells := 0, slots := 0, locals := 0 })).room s m ([.int x0] : List Value).toArray below meth c H locs 0 0 (MQ below (va_Qi (fun (r : Int32) (u : MS) => Q r u ∧ wfC u ∧ shy S u) (fun (u : MS) (t : State) => qEC g ad A u t) A) ([.int x0] : List Value).toArray s 0 0 A) (F0 m 22 ls [.int t22_0, .int t22_1]) := by
          intro U22 t22_0 t22_1 v22_2 H locs ls h hsh hR hl
          unfold w_X6_placesOf_J22 at h
          replace h := h hR.w
          refine lv_iadd hx hb dX6_placesOf_22 ?_
          refine lv_topi (fun z3 ez3 => ?_)
          obtain rfl : z3 = (t22_1 + t22_0) := ez3
          obtain ⟨a4, ea4⟩ : ∃ z, z = (t22_1 + t22_0) := ⟨_, rfl⟩
          rw [← ea4]
          replace h := h a4 ea4
          refine lv_istore_n (lv' := [(1, .int a4), (2, .int v22_2)]) hx hb dX6_placesOf_23 rfl hl (by decide) rfl (fun ls hl => ?_)
          refine lv_iload_n hx hb dX6_placesOf_24 rfl (lv_at hl 1 rfl) ?_
          refine lv_iconst (v := 4) hx hb dX6_placesOf_25 (by decide) ?_
          refine lv_ishr hx hb dX6_placesOf_26 ?_
          refine lv_topi (fun z5 ez5 => ?_)
          obtain rfl : z5 = (v22_2 >>> ((4 : Int32) &&& 31)) := ez5
          obtain ⟨a6, ea6⟩ : ∃ z, z = (v22_2 >>> ((4 : Int32) &&& 31)) := ⟨_, rfl⟩
          rw [← ea6]
          replace h := h a6 ea6
          refine lv_istore_n (lv' := [(2, .int a6), (1, .int a4)]) hx hb dX6_placesOf_27 rfl hl (by decide) rfl (fun ls hl => ?_)
          refine lv_goto (tgt := 4) hx hb dX6_placesOf_28 (by decide) ?_
          exact ih_4 U22 a4 a6 _ _ ls h  hsh hR (lv_sub hl [1, 0] rfl)
        refine lv_icmp_ne (tgt := 21) hx hb dX6_placesOf_14 (by decide) (fun c7 => ?_) (fun c7 => ?_)
        · replace h := h.2 (k_ne rfl (by decide) c7)
          refine lv_iconst (v := 1) hx hb dX6_placesOf_21 (by decide) ?_
          exact J_22 U4 1 v4_1 v4_2 _ _ ls h  hsh hR (lv_sub hl [1] rfl)
        · replace h := h.1 (k_eq rfl (by decide) c7)
          refine lv_iconst (v := 2) hx hb dX6_placesOf_17 (by decide) ?_
          refine lv_goto (tgt := 22) hx hb dX6_placesOf_18 (by decide) ?_
          exact J_22 U4 2 v4_1 v4_2 _ _ ls h  hsh hR (lv_sub hl [1] rfl)
  obtain ⟨n9, h⟩ := h
  exact J_4 n9 S 0 x0 _ _ ls h  hsh hR (lv_sub hl [1, 0] rfl)
def w_X6_kindCount_L4 (Q : Int32 → MS → Prop) : Nat → MS → Int32 → Int32 → Prop
  | 0, _, _, _ => False
  | n4 + 1, U4, v4_1, v4_2 => (wfC U4 → ((v4_2.toInt ≤ 0 → Q v4_1 U4) ∧ (¬ v4_2.toInt ≤ 0 → (∀ a2 : Int32, a2 = (v4_1 + Int32.ofInt 1) → (∀ a4 : Int32, a4 = (v4_2 >>> ((4 : Int32) &&& 31)) → (w_X6_kindCount_L4 Q n4) U4 a2 a4)))))
def wX6_kindCount (S : MS) (x0 : Int32) (Q : Int32 → MS → Prop) : Prop := (∃ n, w_X6_kindCount_L4 Q n S 0 x0)
set_option maxHeartbeats 2000000 in
set_option maxRecDepth 100000 in
theorem rX6_kindCount (l : Launch) (g : Gr) (ad : Nat → Nat) (sz : Nat) (S : MS) (x0 : Int32) (hw : wfC S) (Q : Int32 → MS → Prop) (h : wX6_kindCount S x0 Q) : Met l yX6_kindCount (wt yX6_kindCount cX6_kindCount 3 (some .int)) ({ frames := 0, cells := 0, slots := 0, locals := 0 }) (va_Pc [.int x0] (st_C g ad sz S)) (va_Qi (fun (r : Int32) (u : MS) => Q r u ∧ wfC u ∧ shy S u) (fun (u : MS) (t : State) => qEC g ad (va_A (WdC g ad S) sz) u t) (va_A (WdC g ad S) sz)) 0 0 (va_A (WdC g ad S) sz) := by
  refine Met.ofW (cc := cX6_kindCount) (maxL := 3) (ret := (some .int)) (by decide) rfl ?_
  intro p e s m args below meth c s₁ B hml hv
  obtain ⟨rfl, hsz, hP, hK, hD0, hex, hE⟩ := hv
  have hx := B.exec
  have hb := B.bytes
  have hr := B.returns
  have hts0 := atoms_spec (ws := wt yX6_kindCount cX6_kindCount 3 (some .int)) B.pre
  have hts : ∀ w ∈ tb, w.before _ s = true := fun w h => hts0 w (List.mem_cons_of_mem _ h)
  have hown : s.vm.findClass RX6 = some m.cls := findClass_of_methodNamed B.named
  subst hsz
  have hD := hD0.self (sz := s.heap.size)
  generalize hAe : va_A (WdC g ad S) s.heap.size = A at hD hE ⊢
  have hA : ∀ q : Nat, s.heap.size ≤ q → A q := fun q h => by rw [← hAe]; exact Or.inr h
  have hR : RepC g ad A s S s.heap [] := ⟨hK, hP, hD, va_S.rf, hw⟩
  clear hK hP hD hD0
  have hl := lv_entry ([.int x0]) (n := 3) (Nat.le_of_ble_eq_true rfl)
  rw [lg_entry_eq]
  generalize (lg_sl ([.int x0]) ++ List.replicate (3 - (lg_sl ([.int x0])).length) Slot.unset).toArray = ls at hl ⊢
  have hl : lv_has ls 3 [(0, .int x0)] := hl
  have hsh : shy S S := shy.rf
  unfold wX6_kindCount at h
  refine lv_iconst (v := 0) hx hb dX6_kindCount_0 (by decide) ?_
  refine lv_istore_n (lv' := [(1, .int 0), (0, .int x0)]) hx hb dX6_kindCount_1 rfl hl (by decide) rfl (fun ls hl => ?_)
  refine lv_iload_n hx hb dX6_kindCount_2 rfl (lv_at hl 1 rfl) ?_
  refine lv_istore_n (lv' := [(2, .int x0), (1, .int 0), (0, .int x0)]) hx hb dX6_kindCount_3 rfl hl (by decide) rfl (fun ls hl => ?_)
  have J_4 : ∀ (n4 : Nat) (U4 : MS) (v4_1 : Int32) (v4_2 : Int32) (H : Heap) (locs : List Loc) (ls : Array Slot), w_X6_kindCount_L4 Q n4 U4 v4_1 v4_2 → shy S U4 → RepC g ad A s U4 H locs → lv_has ls 3 [(1, .int v4_1), (2, .int v4_2)] → W p l e (headSpec (wt yX6_kindCount cX6_kindCount 3 (some .int)) ({ frames := 0, cells := 0, slots := 0, locals := 0 })).room s m ([.int x0] : List Value).toArray below meth c H locs 0 0 (MQ below (va_Qi (fun (r : Int32) (u : MS) => Q r u ∧ wfC u ∧ shy S u) (fun (u : MS) (t : State) => qEC g ad A u t) A) ([.int x0] : List Value).toArray s 0 0 A) (F0 m 4 ls []) := by
    intro n4
    induction n4 with
    | zero => intro U4 v4_1 v4_2 H locs ls h hsh hR hl; unfold w_X6_kindCount_L4 at h; exact h.elim
    | succ n4 ih_4 =>
      intro U4 v4_1 v4_2 H locs ls h hsh hR hl
      unfold w_X6_kindCount_L4 at h
      replace h := h hR.w
      refine lv_iload_n hx hb dX6_kindCount_4 rfl (lv_at hl 1 rfl) ?_
      refine lv_if_le (tgt := 18) hx hb dX6_kindCount_5 (by decide) (fun c1 => ?_) (fun c1 => ?_)
      · replace h := h.1 (k_le rfl (by decide) c1)
        refine lv_iload_n hx hb dX6_kindCount_18 rfl (lv_at hl 0 rfl) ?_
        exact W.iret (v := v4_1) hx hb hr (fun t9 ht9 hW9 => ⟨⟨_, U4, rfl, ⟨h, hR.w, hsh⟩, ⟨by rw [ht9]; exact hR.P, hR.D⟩⟩, hR.sS.F ht9⟩) hR.sS.2.2 dX6_kindCount_19
      · replace h := h.2 (k_nle rfl (by decide) c1)
        obtain ⟨a2, ea2⟩ : ∃ z, z = (v4_1 + Int32.ofInt 1) := ⟨_, rfl⟩
        replace h := h a2 ea2
        refine lv_iinc (v := a2) (lv' := [(1, .int a2), (2, .int v4_2)]) hx hb dX6_kindCount_8 hl (k := 0) rfl ea2.symm (by decide) rfl (fun ls hl => ?_)
        refine lv_iload_n hx hb dX6_kindCount_11 rfl (lv_at hl 1 rfl) ?_
        refine lv_iconst (v := 4) hx hb dX6_kindCount_12 (by decide) ?_
        refine lv_ishr hx hb dX6_kindCount_13 ?_
        refine lv_topi (fun z3 ez3 => ?_)
        obtain rfl : z3 = (v4_2 >>> ((4 : Int32) &&& 31)) := ez3
        obtain ⟨a4, ea4⟩ : ∃ z, z = (v4_2 >>> ((4 : Int32) &&& 31)) := ⟨_, rfl⟩
        rw [← ea4]
        replace h := h a4 ea4
        refine lv_istore_n (lv' := [(2, .int a4), (1, .int a2)]) hx hb dX6_kindCount_14 rfl hl (by decide) rfl (fun ls hl => ?_)
        refine lv_goto (tgt := 4) hx hb dX6_kindCount_15 (by decide) ?_
        exact ih_4 U4 a2 a4 _ _ ls h  hsh hR (lv_sub hl [1, 0] rfl)
  obtain ⟨n9, h⟩ := h
  exact J_4 n9 S 0 x0 _ _ ls h  hsh hR (lv_sub hl [1, 0] rfl)
def wX6_kindAt (S : MS) (x0 : Int32) (x1 : Int32) (Q : Int32 → MS → Prop) : Prop := (∃ Q1, wX6_kindCount S x0 Q1 ∧ ∀ r2 S3, Q1 r2 S3 → wfC S3 → shy S S3 → Q ((x0 >>> (((4 : Int32) * ((r2 - (1 : Int32)) - x1)) &&& 31)) &&& (15 : Int32)) S3)
set_option maxHeartbeats 2000000 in
set_option maxRecDepth 100000 in
theorem rX6_kindAt (l : Launch) (g : Gr) (ad : Nat → Nat) (sz : Nat) (S : MS) (x0 : Int32) (x1 : Int32) (hw : wfC S) (Q : Int32 → MS → Prop) (h : wX6_kindAt S x0 x1 Q) : Met l yX6_kindAt (wt yX6_kindAt cX6_kindAt 2 (some .int)) ({ frames := 1, cells := 0, slots := 0, locals := 22 }) (va_Pc [.int x0, .int x1] (st_C g ad sz S)) (va_Qi (fun (r : Int32) (u : MS) => Q r u ∧ wfC u ∧ shy S u) (fun (u : MS) (t : State) => qEC g ad (va_A (WdC g ad S) sz) u t) (va_A (WdC g ad S) sz)) 0 0 (va_A (WdC g ad S) sz) := by
  refine Met.ofW (cc := cX6_kindAt) (maxL := 2) (ret := (some .int)) (by decide) rfl ?_
  intro p e s m args below meth c s₁ B hml hv
  obtain ⟨rfl, hsz, hP, hK, hD0, hex, hE⟩ := hv
  have hx := B.exec
  have hb := B.bytes
  have hr := B.returns
  have hts0 := atoms_spec (ws := wt yX6_kindAt cX6_kindAt 2 (some .int)) B.pre
  have hts : ∀ w ∈ tb, w.before _ s = true := fun w h => hts0 w (List.mem_cons_of_mem _ h)
  have hown : s.vm.findClass RX6 = some m.cls := findClass_of_methodNamed B.named
  subst hsz
  have hD := hD0.self (sz := s.heap.size)
  generalize hAe : va_A (WdC g ad S) s.heap.size = A at hD hE ⊢
  have hA : ∀ q : Nat, s.heap.size ≤ q → A q := fun q h => by rw [← hAe]; exact Or.inr h
  have hR : RepC g ad A s S s.heap [] := ⟨hK, hP, hD, va_S.rf, hw⟩
  clear hK hP hD hD0
  have hl := lv_entry ([.int x0, .int x1]) (n := 2) (Nat.le_of_ble_eq_true rfl)
  rw [lg_entry_eq]
  generalize (lg_sl ([.int x0, .int x1]) ++ List.replicate (2 - (lg_sl ([.int x0, .int x1])).length) Slot.unset).toArray = ls at hl ⊢
  have hl : lv_has ls 2 [(0, .int x0), (1, .int x1)] := hl
  have hsh : shy S S := shy.rf
  unfold wX6_kindAt at h
  refine lv_iload_n hx hb dX6_kindAt_0 rfl (lv_at hl 0 rfl) ?_
  refine lv_iconst (v := 4) hx hb dX6_kindAt_1 (by decide) ?_
  refine lv_iload_n hx hb dX6_kindAt_2 rfl (lv_at hl 0 rfl) ?_
  obtain ⟨Q1, h0, h⟩ := h
  have hFc := cfree hR hA
  refine va_calli (va_runS (As := [.int x0]) (rest := [.int 4, .int x0]) ⟨hx, hb, hml, hown, hts⟩ (rX6_kindCount l g ad s.heap.size S x0 hR.w  Q1 h0) (va_cwS 1 hts (gd_S kw_1240 kw_1242 kw_1207 kw_1241) rfl rfl rfl (by decide +kernel) ⟨Nat.le_of_ble_eq_true rfl, Nat.le_of_ble_eq_true rfl⟩) ⟨cblind, fun U hU hW9 => cmk hU hW9 hR hex hE hFc⟩ rfl rfl hl.1 rfl (lv_room (Nat.le_of_ble_eq_true rfl)) dX6_kindAt_3 ⟨Nat.le_of_ble_eq_true rfl, Nat.le_of_ble_eq_true rfl⟩) hR.sS (fun q _ h => hFc q h) hFc (fun r2 S3 t9 H1 locs ht9 hvm9 hw9 hB9 hz9 hk9 hS => ?_)
  obtain ⟨hq4, hw9, hs9⟩ := hw9
  have hR : RepC g ad A s S3 H1 locs := hR.call ht9 hB9 hw9 hS hFc
  have hsh := hsh.tr hs9
  replace h := h r2 S3 hq4 hw9 hs9
  clear hB9 hz9 hk9 hvm9 ht9 hw9 hs9 hS
  generalize H1 = H at hR ⊢
  refine lv_iconst (v := 1) hx hb dX6_kindAt_6 (by decide) ?_
  refine lv_isub hx hb dX6_kindAt_7 ?_
  refine lv_topi (fun z5 ez5 => ?_)
  obtain rfl : z5 = (r2 - (1 : Int32)) := ez5
  refine lv_iload_n hx hb dX6_kindAt_8 rfl (lv_at hl 1 rfl) ?_
  refine lv_isub hx hb dX6_kindAt_9 ?_
  refine lv_topi (fun z6 ez6 => ?_)
  obtain rfl : z6 = ((r2 - (1 : Int32)) - x1) := ez6
  refine lv_imul hx hb dX6_kindAt_10 ?_
  refine lv_topi (fun z7 ez7 => ?_)
  obtain rfl : z7 = ((4 : Int32) * ((r2 - (1 : Int32)) - x1)) := ez7
  refine lv_ishr hx hb dX6_kindAt_11 ?_
  refine lv_topi (fun z8 ez8 => ?_)
  obtain rfl : z8 = (x0 >>> (((4 : Int32) * ((r2 - (1 : Int32)) - x1)) &&& 31)) := ez8
  refine lv_bipush (v := 15) hx hb dX6_kindAt_12 (by decide) ?_
  refine lv_iand hx hb dX6_kindAt_14 ?_
  refine lv_topi (fun z9 ez9 => ?_)
  obtain rfl : z9 = ((x0 >>> (((4 : Int32) * ((r2 - (1 : Int32)) - x1)) &&& 31)) &&& (15 : Int32)) := ez9
  exact W.iret (v := ((x0 >>> (((4 : Int32) * ((r2 - (1 : Int32)) - x1)) &&& 31)) &&& (15 : Int32))) hx hb hr (fun t9 ht9 hW9 => ⟨⟨_, S3, rfl, ⟨h, hR.w, hsh⟩, ⟨by rw [ht9]; exact hR.P, hR.D⟩⟩, hR.sS.F ht9⟩) hR.sS.2.2 dX6_kindAt_15
def f_X6_ofInts_J204 (S : MS) (v204_1 : Int32) (v204_2 : Int32) : Int32 := (v204_1 ^^^ v204_2)
def d_X6_ofInts_J204 (S : MS) (v204_1 : Int32) (v204_2 : Int32) : Prop := True
def fX6_ofInts (S : MS) (x0 : Int32) (x1 : Int32) (x2 : Int32) : Int32 := (if x0.toInt = 96 then (x1 + x2) else (if x0.toInt = 97 then f_X6_ofInts_J204 S x1 x2 else (if x0.toInt = 98 then f_X6_ofInts_J204 S x1 x2 else (if x0.toInt = 99 then f_X6_ofInts_J204 S x1 x2 else (if x0.toInt = 100 then (x1 - x2) else (if x0.toInt = 101 then f_X6_ofInts_J204 S x1 x2 else (if x0.toInt = 102 then f_X6_ofInts_J204 S x1 x2 else (if x0.toInt = 103 then f_X6_ofInts_J204 S x1 x2 else (if x0.toInt = 104 then (x1 * x2) else (if x0.toInt = 105 then f_X6_ofInts_J204 S x1 x2 else (if x0.toInt = 106 then f_X6_ofInts_J204 S x1 x2 else (if x0.toInt = 107 then f_X6_ofInts_J204 S x1 x2 else (if x0.toInt = 108 then (if x2.toInt = 0 then (0 : Int32) else (x1 / x2)) else (if x0.toInt = 109 then f_X6_ofInts_J204 S x1 x2 else (if x0.toInt = 110 then f_X6_ofInts_J204 S x1 x2 else (if x0.toInt = 111 then f_X6_ofInts_J204 S x1 x2 else (if x0.toInt = 112 then (if x2.toInt = 0 then (0 : Int32) else (x1 - x1 / x2 * x2)) else (if x0.toInt = 113 then f_X6_ofInts_J204 S x1 x2 else (if x0.toInt = 114 then f_X6_ofInts_J204 S x1 x2 else (if x0.toInt = 115 then f_X6_ofInts_J204 S x1 x2 else (if x0.toInt = 116 then f_X6_ofInts_J204 S x1 x2 else (if x0.toInt = 117 then f_X6_ofInts_J204 S x1 x2 else (if x0.toInt = 118 then f_X6_ofInts_J204 S x1 x2 else (if x0.toInt = 119 then f_X6_ofInts_J204 S x1 x2 else (if x0.toInt = 120 then (x1 <<< (x2 &&& 31)) else (if x0.toInt = 121 then f_X6_ofInts_J204 S x1 x2 else (if x0.toInt = 122 then (x1 >>> (x2 &&& 31)) else (if x0.toInt = 123 then f_X6_ofInts_J204 S x1 x2 else (if x0.toInt = 124 then ((x1.toUInt32 >>> (x2.toUInt32 &&& Int32.toUInt32 31)).toInt32) else (if x0.toInt = 125 then f_X6_ofInts_J204 S x1 x2 else (if x0.toInt = 126 then (x1 &&& x2) else (if x0.toInt = 127 then f_X6_ofInts_J204 S x1 x2 else (if x0.toInt = 128 then (x1 ||| x2) else f_X6_ofInts_J204 S x1 x2)))))))))))))))))))))))))))))))))
def d_X6_ofInts (S : MS) (x0 : Int32) (x1 : Int32) (x2 : Int32) : Prop := (if x0.toInt = 96 then True else (if x0.toInt = 97 then d_X6_ofInts_J204 S x1 x2 else (if x0.toInt = 98 then d_X6_ofInts_J204 S x1 x2 else (if x0.toInt = 99 then d_X6_ofInts_J204 S x1 x2 else (if x0.toInt = 100 then True else (if x0.toInt = 101 then d_X6_ofInts_J204 S x1 x2 else (if x0.toInt = 102 then d_X6_ofInts_J204 S x1 x2 else (if x0.toInt = 103 then d_X6_ofInts_J204 S x1 x2 else (if x0.toInt = 104 then True else (if x0.toInt = 105 then d_X6_ofInts_J204 S x1 x2 else (if x0.toInt = 106 then d_X6_ofInts_J204 S x1 x2 else (if x0.toInt = 107 then d_X6_ofInts_J204 S x1 x2 else (if x0.toInt = 108 then (if x2.toInt = 0 then True else ((x2.toInt ≠ 0) ∧ True)) else (if x0.toInt = 109 then d_X6_ofInts_J204 S x1 x2 else (if x0.toInt = 110 then d_X6_ofInts_J204 S x1 x2 else (if x0.toInt = 111 then d_X6_ofInts_J204 S x1 x2 else (if x0.toInt = 112 then (if x2.toInt = 0 then True else ((x2.toInt ≠ 0) ∧ True)) else (if x0.toInt = 113 then d_X6_ofInts_J204 S x1 x2 else (if x0.toInt = 114 then d_X6_ofInts_J204 S x1 x2 else (if x0.toInt = 115 then d_X6_ofInts_J204 S x1 x2 else (if x0.toInt = 116 then d_X6_ofInts_J204 S x1 x2 else (if x0.toInt = 117 then d_X6_ofInts_J204 S x1 x2 else (if x0.toInt = 118 then d_X6_ofInts_J204 S x1 x2 else (if x0.toInt = 119 then d_X6_ofInts_J204 S x1 x2 else (if x0.toInt = 120 then True else (if x0.toInt = 121 then d_X6_ofInts_J204 S x1 x2 else (if x0.toInt = 122 then True else (if x0.toInt = 123 then d_X6_ofInts_J204 S x1 x2 else (if x0.toInt = 124 then True else (if x0.toInt = 125 then d_X6_ofInts_J204 S x1 x2 else (if x0.toInt = 126 then True else (if x0.toInt = 127 then d_X6_ofInts_J204 S x1 x2 else (if x0.toInt = 128 then True else d_X6_ofInts_J204 S x1 x2)))))))))))))))))))))))))))))))))
set_option maxHeartbeats 2000000 in
set_option maxRecDepth 100000 in
theorem rX6_ofInts (l : Launch) (g : Gr) (ad : Nat → Nat) (sz : Nat) (S : MS) (x0 : Int32) (x1 : Int32) (x2 : Int32) (hw : wfC S) (hd : d_X6_ofInts S x0 x1 x2) : Met l yX6_ofInts (wt yX6_ofInts cX6_ofInts 3 (some .int)) ({ frames := 0, cells := 0, slots := 0, locals := 0 }) (va_Pc [.int x0, .int x1, .int x2] (st_C g ad sz S)) (va_Qi (fun (r : Int32) (_ : Unit) => r = fX6_ofInts S x0 x1 x2) (fun (_ : Unit) (t : State) => qEC g ad (va_A (WdC g ad S) sz) S t) (va_A (WdC g ad S) sz)) 0 0 (va_A (WdC g ad S) sz) := by
  refine Met.ofW (cc := cX6_ofInts) (maxL := 3) (ret := (some .int)) (by decide) rfl ?_
  intro p e s m args below meth c s₁ B hml hv
  obtain ⟨rfl, hsz, hP, hK, hD0, hex, hE⟩ := hv
  have hx := B.exec
  have hb := B.bytes
  have hr := B.returns
  have hts0 := atoms_spec (ws := wt yX6_ofInts cX6_ofInts 3 (some .int)) B.pre
  have hts : ∀ w ∈ tb, w.before _ s = true := fun w h => hts0 w (List.mem_cons_of_mem _ h)
  have hown : s.vm.findClass RX6 = some m.cls := findClass_of_methodNamed B.named
  subst hsz
  have hD := hD0.self (sz := s.heap.size)
  generalize hAe : va_A (WdC g ad S) s.heap.size = A at hD hE ⊢
  have hA : ∀ q : Nat, s.heap.size ≤ q → A q := fun q h => by rw [← hAe]; exact Or.inr h
  have hR : RepC g ad A s S s.heap [] := ⟨hK, hP, hD, va_S.rf, hw⟩
  clear hK hP hD hD0
  have hl := lv_entry ([.int x0, .int x1, .int x2]) (n := 3) (Nat.le_of_ble_eq_true rfl)
  rw [lg_entry_eq]
  generalize (lg_sl ([.int x0, .int x1, .int x2]) ++ List.replicate (3 - (lg_sl ([.int x0, .int x1, .int x2])).length) Slot.unset).toArray = ls at hl ⊢
  have hl : lv_has ls 3 [(0, .int x0), (1, .int x1), (2, .int x2)] := hl
  obtain ⟨r0, hf⟩ : ∃ r0, fX6_ofInts S x0 x1 x2 = r0 := ⟨_, rfl⟩
  have hf0 := hf
  unfold fX6_ofInts at hf
  unfold d_X6_ofInts at hd
  refine lv_iload_n hx hb dX6_ofInts_0 rfl (lv_at hl 0 rfl) ?_
  have J_204 : ∀ (v204_1 : Int32) (v204_2 : Int32) (H : Heap) (locs : List Loc) (ls : Array Slot), d_X6_ofInts_J204 S v204_1 v204_2 → f_X6_ofInts_J204 S v204_1 v204_2 = r0 → RepC g ad A s S H locs → lv_has ls 3 [(1, .int v204_1), (2, .int v204_2)] → W p l e (headSpec (wt yX6_ofInts cX6_ofInts 3 (some .int)) ({ frames := 0, cells := 0, slots := 0, locals := 0 })).room s m ([.int x0, .int x1, .int x2] : List Value).toArray below meth c H locs 0 0 (MQ below (va_Qi (fun (r : Int32) (_ : Unit) => r = fX6_ofInts S x0 x1 x2) (fun (_ : Unit) (t : State) => qEC g ad A S t) A) ([.int x0, .int x1, .int x2] : List Value).toArray s 0 0 A) (F0 m 204 ls []) := by
    intro v204_1 v204_2 H locs ls hd hf hR hl
    unfold d_X6_ofInts_J204 at hd
    unfold f_X6_ofInts_J204 at hf
    refine lv_iload_n hx hb dX6_ofInts_204 rfl (lv_at hl 0 rfl) ?_
    refine lv_iload_n hx hb dX6_ofInts_205 rfl (lv_at hl 1 rfl) ?_
    refine lv_ixor hx hb dX6_ofInts_206 ?_
    refine lv_topi (fun z1 ez1 => ?_)
    obtain rfl : z1 = (v204_1 ^^^ v204_2) := ez1
    exact W.iret (v := (v204_1 ^^^ v204_2)) hx hb hr (fun t9 ht9 hW9 => ⟨⟨_, (), rfl, hf.trans hf0.symm, ⟨by rw [ht9]; exact hR.P, hR.D⟩⟩, hR.sS.F ht9⟩) hR.sS.2.2 dX6_ofInts_207
  by_cases c9_96 : x0.toInt = 96
  · refine lv_tableIn (off := 147) (tgt := 148) hx hb dX6_ofInts_1 (by rw [c9_96]; decide) (by rw [c9_96]; decide) (by rw [c9_96]; rfl) (by decide) ?_
    rw [if_pos (c9_96)] at hf
    (try rw [if_pos (c9_96)] at hd)
    refine lv_iload_n hx hb dX6_ofInts_148 rfl (lv_at hl 1 rfl) ?_
    refine lv_iload_n hx hb dX6_ofInts_149 rfl (lv_at hl 2 rfl) ?_
    refine lv_iadd hx hb dX6_ofInts_150 ?_
    refine lv_topi (fun z2 ez2 => ?_)
    obtain rfl : z2 = (x1 + x2) := ez2
    exact W.iret (v := (x1 + x2)) hx hb hr (fun t9 ht9 hW9 => ⟨⟨_, (), rfl, hf.trans hf0.symm, ⟨by rw [ht9]; exact hR.P, hR.D⟩⟩, hR.sS.F ht9⟩) hR.sS.2.2 dX6_ofInts_151
  rw [if_neg c9_96] at hf
  (try rw [if_neg c9_96] at hd)
  by_cases c9_97 : x0.toInt = 97
  · refine lv_tableIn (off := 203) (tgt := 204) hx hb dX6_ofInts_1 (by rw [c9_97]; decide) (by rw [c9_97]; decide) (by rw [c9_97]; rfl) (by decide) ?_
    rw [if_pos (c9_97)] at hf
    (try rw [if_pos (c9_97)] at hd)
    exact J_204 x1 x2 _ _ ls hd hf  hR (lv_sub hl [1, 2] rfl)
  rw [if_neg c9_97] at hf
  (try rw [if_neg c9_97] at hd)
  by_cases c9_98 : x0.toInt = 98
  · refine lv_tableIn (off := 203) (tgt := 204) hx hb dX6_ofInts_1 (by rw [c9_98]; decide) (by rw [c9_98]; decide) (by rw [c9_98]; rfl) (by decide) ?_
    rw [if_pos (c9_98)] at hf
    (try rw [if_pos (c9_98)] at hd)
    exact J_204 x1 x2 _ _ ls hd hf  hR (lv_sub hl [1, 2] rfl)
  rw [if_neg c9_98] at hf
  (try rw [if_neg c9_98] at hd)
  by_cases c9_99 : x0.toInt = 99
  · refine lv_tableIn (off := 203) (tgt := 204) hx hb dX6_ofInts_1 (by rw [c9_99]; decide) (by rw [c9_99]; decide) (by rw [c9_99]; rfl) (by decide) ?_
    rw [if_pos (c9_99)] at hf
    (try rw [if_pos (c9_99)] at hd)
    exact J_204 x1 x2 _ _ ls hd hf  hR (lv_sub hl [1, 2] rfl)
  rw [if_neg c9_99] at hf
  (try rw [if_neg c9_99] at hd)
  by_cases c9_100 : x0.toInt = 100
  · refine lv_tableIn (off := 151) (tgt := 152) hx hb dX6_ofInts_1 (by rw [c9_100]; decide) (by rw [c9_100]; decide) (by rw [c9_100]; rfl) (by decide) ?_
    rw [if_pos (c9_100)] at hf
    (try rw [if_pos (c9_100)] at hd)
    refine lv_iload_n hx hb dX6_ofInts_152 rfl (lv_at hl 1 rfl) ?_
    refine lv_iload_n hx hb dX6_ofInts_153 rfl (lv_at hl 2 rfl) ?_
    refine lv_isub hx hb dX6_ofInts_154 ?_
    refine lv_topi (fun z3 ez3 => ?_)
    obtain rfl : z3 = (x1 - x2) := ez3
    exact W.iret (v := (x1 - x2)) hx hb hr (fun t9 ht9 hW9 => ⟨⟨_, (), rfl, hf.trans hf0.symm, ⟨by rw [ht9]; exact hR.P, hR.D⟩⟩, hR.sS.F ht9⟩) hR.sS.2.2 dX6_ofInts_155
  rw [if_neg c9_100] at hf
  (try rw [if_neg c9_100] at hd)
  by_cases c9_101 : x0.toInt = 101
  · refine lv_tableIn (off := 203) (tgt := 204) hx hb dX6_ofInts_1 (by rw [c9_101]; decide) (by rw [c9_101]; decide) (by rw [c9_101]; rfl) (by decide) ?_
    rw [if_pos (c9_101)] at hf
    (try rw [if_pos (c9_101)] at hd)
    exact J_204 x1 x2 _ _ ls hd hf  hR (lv_sub hl [1, 2] rfl)
  rw [if_neg c9_101] at hf
  (try rw [if_neg c9_101] at hd)
  by_cases c9_102 : x0.toInt = 102
  · refine lv_tableIn (off := 203) (tgt := 204) hx hb dX6_ofInts_1 (by rw [c9_102]; decide) (by rw [c9_102]; decide) (by rw [c9_102]; rfl) (by decide) ?_
    rw [if_pos (c9_102)] at hf
    (try rw [if_pos (c9_102)] at hd)
    exact J_204 x1 x2 _ _ ls hd hf  hR (lv_sub hl [1, 2] rfl)
  rw [if_neg c9_102] at hf
  (try rw [if_neg c9_102] at hd)
  by_cases c9_103 : x0.toInt = 103
  · refine lv_tableIn (off := 203) (tgt := 204) hx hb dX6_ofInts_1 (by rw [c9_103]; decide) (by rw [c9_103]; decide) (by rw [c9_103]; rfl) (by decide) ?_
    rw [if_pos (c9_103)] at hf
    (try rw [if_pos (c9_103)] at hd)
    exact J_204 x1 x2 _ _ ls hd hf  hR (lv_sub hl [1, 2] rfl)
  rw [if_neg c9_103] at hf
  (try rw [if_neg c9_103] at hd)
  by_cases c9_104 : x0.toInt = 104
  · refine lv_tableIn (off := 155) (tgt := 156) hx hb dX6_ofInts_1 (by rw [c9_104]; decide) (by rw [c9_104]; decide) (by rw [c9_104]; rfl) (by decide) ?_
    rw [if_pos (c9_104)] at hf
    (try rw [if_pos (c9_104)] at hd)
    refine lv_iload_n hx hb dX6_ofInts_156 rfl (lv_at hl 1 rfl) ?_
    refine lv_iload_n hx hb dX6_ofInts_157 rfl (lv_at hl 2 rfl) ?_
    refine lv_imul hx hb dX6_ofInts_158 ?_
    refine lv_topi (fun z4 ez4 => ?_)
    obtain rfl : z4 = (x1 * x2) := ez4
    exact W.iret (v := (x1 * x2)) hx hb hr (fun t9 ht9 hW9 => ⟨⟨_, (), rfl, hf.trans hf0.symm, ⟨by rw [ht9]; exact hR.P, hR.D⟩⟩, hR.sS.F ht9⟩) hR.sS.2.2 dX6_ofInts_159
  rw [if_neg c9_104] at hf
  (try rw [if_neg c9_104] at hd)
  by_cases c9_105 : x0.toInt = 105
  · refine lv_tableIn (off := 203) (tgt := 204) hx hb dX6_ofInts_1 (by rw [c9_105]; decide) (by rw [c9_105]; decide) (by rw [c9_105]; rfl) (by decide) ?_
    rw [if_pos (c9_105)] at hf
    (try rw [if_pos (c9_105)] at hd)
    exact J_204 x1 x2 _ _ ls hd hf  hR (lv_sub hl [1, 2] rfl)
  rw [if_neg c9_105] at hf
  (try rw [if_neg c9_105] at hd)
  by_cases c9_106 : x0.toInt = 106
  · refine lv_tableIn (off := 203) (tgt := 204) hx hb dX6_ofInts_1 (by rw [c9_106]; decide) (by rw [c9_106]; decide) (by rw [c9_106]; rfl) (by decide) ?_
    rw [if_pos (c9_106)] at hf
    (try rw [if_pos (c9_106)] at hd)
    exact J_204 x1 x2 _ _ ls hd hf  hR (lv_sub hl [1, 2] rfl)
  rw [if_neg c9_106] at hf
  (try rw [if_neg c9_106] at hd)
  by_cases c9_107 : x0.toInt = 107
  · refine lv_tableIn (off := 203) (tgt := 204) hx hb dX6_ofInts_1 (by rw [c9_107]; decide) (by rw [c9_107]; decide) (by rw [c9_107]; rfl) (by decide) ?_
    rw [if_pos (c9_107)] at hf
    (try rw [if_pos (c9_107)] at hd)
    exact J_204 x1 x2 _ _ ls hd hf  hR (lv_sub hl [1, 2] rfl)
  rw [if_neg c9_107] at hf
  (try rw [if_neg c9_107] at hd)
  by_cases c9_108 : x0.toInt = 108
  · refine lv_tableIn (off := 159) (tgt := 160) hx hb dX6_ofInts_1 (by rw [c9_108]; decide) (by rw [c9_108]; decide) (by rw [c9_108]; rfl) (by decide) ?_
    rw [if_pos (c9_108)] at hf
    (try rw [if_pos (c9_108)] at hd)
    refine lv_iload_n hx hb dX6_ofInts_160 rfl (lv_at hl 2 rfl) ?_
    refine lv_if_ne (tgt := 168) hx hb dX6_ofInts_161 (by decide) (fun c5 => ?_) (fun c5 => ?_)
    · rw [if_neg (k_ne rfl (by decide) c5)] at hf
      (try rw [if_neg (k_ne rfl (by decide) c5)] at hd)
      refine lv_iload_n hx hb dX6_ofInts_168 rfl (lv_at hl 1 rfl) ?_
      refine lv_iload_n hx hb dX6_ofInts_169 rfl (lv_at hl 2 rfl) ?_
      obtain ⟨hv6, hd⟩ := hd
      refine lv_idiv hx hb dX6_ofInts_170 (n_ne0 hv6) ?_
      refine lv_topi (fun z7 ez7 => ?_)
      obtain rfl : z7 = (x1 / x2) := ez7
      exact W.iret (v := (x1 / x2)) hx hb hr (fun t9 ht9 hW9 => ⟨⟨_, (), rfl, hf.trans hf0.symm, ⟨by rw [ht9]; exact hR.P, hR.D⟩⟩, hR.sS.F ht9⟩) hR.sS.2.2 dX6_ofInts_171
    · rw [if_pos (k_eq rfl (by decide) c5)] at hf
      (try rw [if_pos (k_eq rfl (by decide) c5)] at hd)
      refine lv_iconst (v := 0) hx hb dX6_ofInts_164 (by decide) ?_
      refine lv_goto (tgt := 171) hx hb dX6_ofInts_165 (by decide) ?_
      exact W.iret (v := 0) hx hb hr (fun t9 ht9 hW9 => ⟨⟨_, (), rfl, hf.trans hf0.symm, ⟨by rw [ht9]; exact hR.P, hR.D⟩⟩, hR.sS.F ht9⟩) hR.sS.2.2 dX6_ofInts_171
  rw [if_neg c9_108] at hf
  (try rw [if_neg c9_108] at hd)
  by_cases c9_109 : x0.toInt = 109
  · refine lv_tableIn (off := 203) (tgt := 204) hx hb dX6_ofInts_1 (by rw [c9_109]; decide) (by rw [c9_109]; decide) (by rw [c9_109]; rfl) (by decide) ?_
    rw [if_pos (c9_109)] at hf
    (try rw [if_pos (c9_109)] at hd)
    exact J_204 x1 x2 _ _ ls hd hf  hR (lv_sub hl [1, 2] rfl)
  rw [if_neg c9_109] at hf
  (try rw [if_neg c9_109] at hd)
  by_cases c9_110 : x0.toInt = 110
  · refine lv_tableIn (off := 203) (tgt := 204) hx hb dX6_ofInts_1 (by rw [c9_110]; decide) (by rw [c9_110]; decide) (by rw [c9_110]; rfl) (by decide) ?_
    rw [if_pos (c9_110)] at hf
    (try rw [if_pos (c9_110)] at hd)
    exact J_204 x1 x2 _ _ ls hd hf  hR (lv_sub hl [1, 2] rfl)
  rw [if_neg c9_110] at hf
  (try rw [if_neg c9_110] at hd)
  by_cases c9_111 : x0.toInt = 111
  · refine lv_tableIn (off := 203) (tgt := 204) hx hb dX6_ofInts_1 (by rw [c9_111]; decide) (by rw [c9_111]; decide) (by rw [c9_111]; rfl) (by decide) ?_
    rw [if_pos (c9_111)] at hf
    (try rw [if_pos (c9_111)] at hd)
    exact J_204 x1 x2 _ _ ls hd hf  hR (lv_sub hl [1, 2] rfl)
  rw [if_neg c9_111] at hf
  (try rw [if_neg c9_111] at hd)
  by_cases c9_112 : x0.toInt = 112
  · refine lv_tableIn (off := 171) (tgt := 172) hx hb dX6_ofInts_1 (by rw [c9_112]; decide) (by rw [c9_112]; decide) (by rw [c9_112]; rfl) (by decide) ?_
    rw [if_pos (c9_112)] at hf
    (try rw [if_pos (c9_112)] at hd)
    refine lv_iload_n hx hb dX6_ofInts_172 rfl (lv_at hl 2 rfl) ?_
    refine lv_if_ne (tgt := 180) hx hb dX6_ofInts_173 (by decide) (fun c8 => ?_) (fun c8 => ?_)
    · rw [if_neg (k_ne rfl (by decide) c8)] at hf
      (try rw [if_neg (k_ne rfl (by decide) c8)] at hd)
      refine lv_iload_n hx hb dX6_ofInts_180 rfl (lv_at hl 1 rfl) ?_
      refine lv_iload_n hx hb dX6_ofInts_181 rfl (lv_at hl 2 rfl) ?_
      obtain ⟨hv9, hd⟩ := hd
      refine lv_irem hx hb dX6_ofInts_182 (n_ne0 hv9) ?_
      refine lv_topi (fun z10 ez10 => ?_)
      obtain rfl : z10 = (x1 - x1 / x2 * x2) := ez10
      exact W.iret (v := (x1 - x1 / x2 * x2)) hx hb hr (fun t9 ht9 hW9 => ⟨⟨_, (), rfl, hf.trans hf0.symm, ⟨by rw [ht9]; exact hR.P, hR.D⟩⟩, hR.sS.F ht9⟩) hR.sS.2.2 dX6_ofInts_183
    · rw [if_pos (k_eq rfl (by decide) c8)] at hf
      (try rw [if_pos (k_eq rfl (by decide) c8)] at hd)
      refine lv_iconst (v := 0) hx hb dX6_ofInts_176 (by decide) ?_
      refine lv_goto (tgt := 183) hx hb dX6_ofInts_177 (by decide) ?_
      exact W.iret (v := 0) hx hb hr (fun t9 ht9 hW9 => ⟨⟨_, (), rfl, hf.trans hf0.symm, ⟨by rw [ht9]; exact hR.P, hR.D⟩⟩, hR.sS.F ht9⟩) hR.sS.2.2 dX6_ofInts_183
  rw [if_neg c9_112] at hf
  (try rw [if_neg c9_112] at hd)
  by_cases c9_113 : x0.toInt = 113
  · refine lv_tableIn (off := 203) (tgt := 204) hx hb dX6_ofInts_1 (by rw [c9_113]; decide) (by rw [c9_113]; decide) (by rw [c9_113]; rfl) (by decide) ?_
    rw [if_pos (c9_113)] at hf
    (try rw [if_pos (c9_113)] at hd)
    exact J_204 x1 x2 _ _ ls hd hf  hR (lv_sub hl [1, 2] rfl)
  rw [if_neg c9_113] at hf
  (try rw [if_neg c9_113] at hd)
  by_cases c9_114 : x0.toInt = 114
  · refine lv_tableIn (off := 203) (tgt := 204) hx hb dX6_ofInts_1 (by rw [c9_114]; decide) (by rw [c9_114]; decide) (by rw [c9_114]; rfl) (by decide) ?_
    rw [if_pos (c9_114)] at hf
    (try rw [if_pos (c9_114)] at hd)
    exact J_204 x1 x2 _ _ ls hd hf  hR (lv_sub hl [1, 2] rfl)
  rw [if_neg c9_114] at hf
  (try rw [if_neg c9_114] at hd)
  by_cases c9_115 : x0.toInt = 115
  · refine lv_tableIn (off := 203) (tgt := 204) hx hb dX6_ofInts_1 (by rw [c9_115]; decide) (by rw [c9_115]; decide) (by rw [c9_115]; rfl) (by decide) ?_
    rw [if_pos (c9_115)] at hf
    (try rw [if_pos (c9_115)] at hd)
    exact J_204 x1 x2 _ _ ls hd hf  hR (lv_sub hl [1, 2] rfl)
  rw [if_neg c9_115] at hf
  (try rw [if_neg c9_115] at hd)
  by_cases c9_116 : x0.toInt = 116
  · refine lv_tableIn (off := 203) (tgt := 204) hx hb dX6_ofInts_1 (by rw [c9_116]; decide) (by rw [c9_116]; decide) (by rw [c9_116]; rfl) (by decide) ?_
    rw [if_pos (c9_116)] at hf
    (try rw [if_pos (c9_116)] at hd)
    exact J_204 x1 x2 _ _ ls hd hf  hR (lv_sub hl [1, 2] rfl)
  rw [if_neg c9_116] at hf
  (try rw [if_neg c9_116] at hd)
  by_cases c9_117 : x0.toInt = 117
  · refine lv_tableIn (off := 203) (tgt := 204) hx hb dX6_ofInts_1 (by rw [c9_117]; decide) (by rw [c9_117]; decide) (by rw [c9_117]; rfl) (by decide) ?_
    rw [if_pos (c9_117)] at hf
    (try rw [if_pos (c9_117)] at hd)
    exact J_204 x1 x2 _ _ ls hd hf  hR (lv_sub hl [1, 2] rfl)
  rw [if_neg c9_117] at hf
  (try rw [if_neg c9_117] at hd)
  by_cases c9_118 : x0.toInt = 118
  · refine lv_tableIn (off := 203) (tgt := 204) hx hb dX6_ofInts_1 (by rw [c9_118]; decide) (by rw [c9_118]; decide) (by rw [c9_118]; rfl) (by decide) ?_
    rw [if_pos (c9_118)] at hf
    (try rw [if_pos (c9_118)] at hd)
    exact J_204 x1 x2 _ _ ls hd hf  hR (lv_sub hl [1, 2] rfl)
  rw [if_neg c9_118] at hf
  (try rw [if_neg c9_118] at hd)
  by_cases c9_119 : x0.toInt = 119
  · refine lv_tableIn (off := 203) (tgt := 204) hx hb dX6_ofInts_1 (by rw [c9_119]; decide) (by rw [c9_119]; decide) (by rw [c9_119]; rfl) (by decide) ?_
    rw [if_pos (c9_119)] at hf
    (try rw [if_pos (c9_119)] at hd)
    exact J_204 x1 x2 _ _ ls hd hf  hR (lv_sub hl [1, 2] rfl)
  rw [if_neg c9_119] at hf
  (try rw [if_neg c9_119] at hd)
  by_cases c9_120 : x0.toInt = 120
  · refine lv_tableIn (off := 183) (tgt := 184) hx hb dX6_ofInts_1 (by rw [c9_120]; decide) (by rw [c9_120]; decide) (by rw [c9_120]; rfl) (by decide) ?_
    rw [if_pos (c9_120)] at hf
    (try rw [if_pos (c9_120)] at hd)
    refine lv_iload_n hx hb dX6_ofInts_184 rfl (lv_at hl 1 rfl) ?_
    refine lv_iload_n hx hb dX6_ofInts_185 rfl (lv_at hl 2 rfl) ?_
    refine lv_ishl hx hb dX6_ofInts_186 ?_
    refine lv_topi (fun z11 ez11 => ?_)
    obtain rfl : z11 = (x1 <<< (x2 &&& 31)) := ez11
    exact W.iret (v := (x1 <<< (x2 &&& 31))) hx hb hr (fun t9 ht9 hW9 => ⟨⟨_, (), rfl, hf.trans hf0.symm, ⟨by rw [ht9]; exact hR.P, hR.D⟩⟩, hR.sS.F ht9⟩) hR.sS.2.2 dX6_ofInts_187
  rw [if_neg c9_120] at hf
  (try rw [if_neg c9_120] at hd)
  by_cases c9_121 : x0.toInt = 121
  · refine lv_tableIn (off := 203) (tgt := 204) hx hb dX6_ofInts_1 (by rw [c9_121]; decide) (by rw [c9_121]; decide) (by rw [c9_121]; rfl) (by decide) ?_
    rw [if_pos (c9_121)] at hf
    (try rw [if_pos (c9_121)] at hd)
    exact J_204 x1 x2 _ _ ls hd hf  hR (lv_sub hl [1, 2] rfl)
  rw [if_neg c9_121] at hf
  (try rw [if_neg c9_121] at hd)
  by_cases c9_122 : x0.toInt = 122
  · refine lv_tableIn (off := 187) (tgt := 188) hx hb dX6_ofInts_1 (by rw [c9_122]; decide) (by rw [c9_122]; decide) (by rw [c9_122]; rfl) (by decide) ?_
    rw [if_pos (c9_122)] at hf
    (try rw [if_pos (c9_122)] at hd)
    refine lv_iload_n hx hb dX6_ofInts_188 rfl (lv_at hl 1 rfl) ?_
    refine lv_iload_n hx hb dX6_ofInts_189 rfl (lv_at hl 2 rfl) ?_
    refine lv_ishr hx hb dX6_ofInts_190 ?_
    refine lv_topi (fun z12 ez12 => ?_)
    obtain rfl : z12 = (x1 >>> (x2 &&& 31)) := ez12
    exact W.iret (v := (x1 >>> (x2 &&& 31))) hx hb hr (fun t9 ht9 hW9 => ⟨⟨_, (), rfl, hf.trans hf0.symm, ⟨by rw [ht9]; exact hR.P, hR.D⟩⟩, hR.sS.F ht9⟩) hR.sS.2.2 dX6_ofInts_191
  rw [if_neg c9_122] at hf
  (try rw [if_neg c9_122] at hd)
  by_cases c9_123 : x0.toInt = 123
  · refine lv_tableIn (off := 203) (tgt := 204) hx hb dX6_ofInts_1 (by rw [c9_123]; decide) (by rw [c9_123]; decide) (by rw [c9_123]; rfl) (by decide) ?_
    rw [if_pos (c9_123)] at hf
    (try rw [if_pos (c9_123)] at hd)
    exact J_204 x1 x2 _ _ ls hd hf  hR (lv_sub hl [1, 2] rfl)
  rw [if_neg c9_123] at hf
  (try rw [if_neg c9_123] at hd)
  by_cases c9_124 : x0.toInt = 124
  · refine lv_tableIn (off := 191) (tgt := 192) hx hb dX6_ofInts_1 (by rw [c9_124]; decide) (by rw [c9_124]; decide) (by rw [c9_124]; rfl) (by decide) ?_
    rw [if_pos (c9_124)] at hf
    (try rw [if_pos (c9_124)] at hd)
    refine lv_iload_n hx hb dX6_ofInts_192 rfl (lv_at hl 1 rfl) ?_
    refine lv_iload_n hx hb dX6_ofInts_193 rfl (lv_at hl 2 rfl) ?_
    refine lv_iushr hx hb dX6_ofInts_194 rfl ?_
    refine lv_topi (fun z13 ez13 => ?_)
    obtain rfl : z13 = ((x1.toUInt32 >>> (x2.toUInt32 &&& Int32.toUInt32 31)).toInt32) := ez13
    exact W.iret (v := ((x1.toUInt32 >>> (x2.toUInt32 &&& Int32.toUInt32 31)).toInt32)) hx hb hr (fun t9 ht9 hW9 => ⟨⟨_, (), rfl, hf.trans hf0.symm, ⟨by rw [ht9]; exact hR.P, hR.D⟩⟩, hR.sS.F ht9⟩) hR.sS.2.2 dX6_ofInts_195
  rw [if_neg c9_124] at hf
  (try rw [if_neg c9_124] at hd)
  by_cases c9_125 : x0.toInt = 125
  · refine lv_tableIn (off := 203) (tgt := 204) hx hb dX6_ofInts_1 (by rw [c9_125]; decide) (by rw [c9_125]; decide) (by rw [c9_125]; rfl) (by decide) ?_
    rw [if_pos (c9_125)] at hf
    (try rw [if_pos (c9_125)] at hd)
    exact J_204 x1 x2 _ _ ls hd hf  hR (lv_sub hl [1, 2] rfl)
  rw [if_neg c9_125] at hf
  (try rw [if_neg c9_125] at hd)
  by_cases c9_126 : x0.toInt = 126
  · refine lv_tableIn (off := 195) (tgt := 196) hx hb dX6_ofInts_1 (by rw [c9_126]; decide) (by rw [c9_126]; decide) (by rw [c9_126]; rfl) (by decide) ?_
    rw [if_pos (c9_126)] at hf
    (try rw [if_pos (c9_126)] at hd)
    refine lv_iload_n hx hb dX6_ofInts_196 rfl (lv_at hl 1 rfl) ?_
    refine lv_iload_n hx hb dX6_ofInts_197 rfl (lv_at hl 2 rfl) ?_
    refine lv_iand hx hb dX6_ofInts_198 ?_
    refine lv_topi (fun z14 ez14 => ?_)
    obtain rfl : z14 = (x1 &&& x2) := ez14
    exact W.iret (v := (x1 &&& x2)) hx hb hr (fun t9 ht9 hW9 => ⟨⟨_, (), rfl, hf.trans hf0.symm, ⟨by rw [ht9]; exact hR.P, hR.D⟩⟩, hR.sS.F ht9⟩) hR.sS.2.2 dX6_ofInts_199
  rw [if_neg c9_126] at hf
  (try rw [if_neg c9_126] at hd)
  by_cases c9_127 : x0.toInt = 127
  · refine lv_tableIn (off := 203) (tgt := 204) hx hb dX6_ofInts_1 (by rw [c9_127]; decide) (by rw [c9_127]; decide) (by rw [c9_127]; rfl) (by decide) ?_
    rw [if_pos (c9_127)] at hf
    (try rw [if_pos (c9_127)] at hd)
    exact J_204 x1 x2 _ _ ls hd hf  hR (lv_sub hl [1, 2] rfl)
  rw [if_neg c9_127] at hf
  (try rw [if_neg c9_127] at hd)
  by_cases c9_128 : x0.toInt = 128
  · refine lv_tableIn (off := 199) (tgt := 200) hx hb dX6_ofInts_1 (by rw [c9_128]; decide) (by rw [c9_128]; decide) (by rw [c9_128]; rfl) (by decide) ?_
    rw [if_pos (c9_128)] at hf
    (try rw [if_pos (c9_128)] at hd)
    refine lv_iload_n hx hb dX6_ofInts_200 rfl (lv_at hl 1 rfl) ?_
    refine lv_iload_n hx hb dX6_ofInts_201 rfl (lv_at hl 2 rfl) ?_
    refine lv_ior hx hb dX6_ofInts_202 ?_
    refine lv_topi (fun z15 ez15 => ?_)
    obtain rfl : z15 = (x1 ||| x2) := ez15
    exact W.iret (v := (x1 ||| x2)) hx hb hr (fun t9 ht9 hW9 => ⟨⟨_, (), rfl, hf.trans hf0.symm, ⟨by rw [ht9]; exact hR.P, hR.D⟩⟩, hR.sS.F ht9⟩) hR.sS.2.2 dX6_ofInts_203
  rw [if_neg c9_128] at hf
  (try rw [if_neg c9_128] at hd)
  refine lv_tableOut (tgt := 204) hx hb dX6_ofInts_1 (by omega) (by decide) ?_
  exact J_204 x1 x2 _ _ ls hd hf  hR (lv_sub hl [1, 2] rfl)
def f_X6_ofLongs_J211 (S : MS) (v211_1 : Int64) (v211_3 : Int64) : Int64 := (v211_1 ^^^ v211_3)
def d_X6_ofLongs_J211 (S : MS) (v211_1 : Int64) (v211_3 : Int64) : Prop := True
def fX6_ofLongs (S : MS) (x0 : Int32) (y1 : Int64) (y3 : Int64) : Int64 := (if x0.toInt = 97 then (y1 + y3) else (if x0.toInt = 98 then f_X6_ofLongs_J211 S y1 y3 else (if x0.toInt = 99 then f_X6_ofLongs_J211 S y1 y3 else (if x0.toInt = 100 then f_X6_ofLongs_J211 S y1 y3 else (if x0.toInt = 101 then (y1 - y3) else (if x0.toInt = 102 then f_X6_ofLongs_J211 S y1 y3 else (if x0.toInt = 103 then f_X6_ofLongs_J211 S y1 y3 else (if x0.toInt = 104 then f_X6_ofLongs_J211 S y1 y3 else (if x0.toInt = 105 then (y1 * y3) else (if x0.toInt = 106 then f_X6_ofLongs_J211 S y1 y3 else (if x0.toInt = 107 then f_X6_ofLongs_J211 S y1 y3 else (if x0.toInt = 108 then f_X6_ofLongs_J211 S y1 y3 else (if x0.toInt = 109 then (if (lg_cmp y3 0).toInt = 0 then 0 else (y1 / y3)) else (if x0.toInt = 110 then f_X6_ofLongs_J211 S y1 y3 else (if x0.toInt = 111 then f_X6_ofLongs_J211 S y1 y3 else (if x0.toInt = 112 then f_X6_ofLongs_J211 S y1 y3 else (if x0.toInt = 113 then (if (lg_cmp y3 0).toInt = 0 then 0 else (y1 - y1 / y3 * y3)) else (if x0.toInt = 114 then f_X6_ofLongs_J211 S y1 y3 else (if x0.toInt = 115 then f_X6_ofLongs_J211 S y1 y3 else (if x0.toInt = 116 then f_X6_ofLongs_J211 S y1 y3 else (if x0.toInt = 117 then f_X6_ofLongs_J211 S y1 y3 else (if x0.toInt = 118 then f_X6_ofLongs_J211 S y1 y3 else (if x0.toInt = 119 then f_X6_ofLongs_J211 S y1 y3 else (if x0.toInt = 120 then f_X6_ofLongs_J211 S y1 y3 else (if x0.toInt = 121 then (y1 <<< ((y3.toInt32).toInt64 &&& 63)) else (if x0.toInt = 122 then f_X6_ofLongs_J211 S y1 y3 else (if x0.toInt = 123 then (y1 >>> ((y3.toInt32).toInt64 &&& 63)) else (if x0.toInt = 124 then f_X6_ofLongs_J211 S y1 y3 else (if x0.toInt = 125 then ((y1.toUInt64 >>> ((y3.toInt32).toInt64.toUInt64 &&& Int64.toUInt64 63)).toInt64) else (if x0.toInt = 126 then f_X6_ofLongs_J211 S y1 y3 else (if x0.toInt = 127 then (y1 &&& y3) else (if x0.toInt = 128 then f_X6_ofLongs_J211 S y1 y3 else (if x0.toInt = 129 then (y1 ||| y3) else f_X6_ofLongs_J211 S y1 y3)))))))))))))))))))))))))))))))))
def d_X6_ofLongs (S : MS) (x0 : Int32) (y1 : Int64) (y3 : Int64) : Prop := (if x0.toInt = 97 then True else (if x0.toInt = 98 then d_X6_ofLongs_J211 S y1 y3 else (if x0.toInt = 99 then d_X6_ofLongs_J211 S y1 y3 else (if x0.toInt = 100 then d_X6_ofLongs_J211 S y1 y3 else (if x0.toInt = 101 then True else (if x0.toInt = 102 then d_X6_ofLongs_J211 S y1 y3 else (if x0.toInt = 103 then d_X6_ofLongs_J211 S y1 y3 else (if x0.toInt = 104 then d_X6_ofLongs_J211 S y1 y3 else (if x0.toInt = 105 then True else (if x0.toInt = 106 then d_X6_ofLongs_J211 S y1 y3 else (if x0.toInt = 107 then d_X6_ofLongs_J211 S y1 y3 else (if x0.toInt = 108 then d_X6_ofLongs_J211 S y1 y3 else (if x0.toInt = 109 then (if (lg_cmp y3 0).toInt = 0 then True else ((¬ y3 = 0) ∧ True)) else (if x0.toInt = 110 then d_X6_ofLongs_J211 S y1 y3 else (if x0.toInt = 111 then d_X6_ofLongs_J211 S y1 y3 else (if x0.toInt = 112 then d_X6_ofLongs_J211 S y1 y3 else (if x0.toInt = 113 then (if (lg_cmp y3 0).toInt = 0 then True else ((¬ y3 = 0) ∧ True)) else (if x0.toInt = 114 then d_X6_ofLongs_J211 S y1 y3 else (if x0.toInt = 115 then d_X6_ofLongs_J211 S y1 y3 else (if x0.toInt = 116 then d_X6_ofLongs_J211 S y1 y3 else (if x0.toInt = 117 then d_X6_ofLongs_J211 S y1 y3 else (if x0.toInt = 118 then d_X6_ofLongs_J211 S y1 y3 else (if x0.toInt = 119 then d_X6_ofLongs_J211 S y1 y3 else (if x0.toInt = 120 then d_X6_ofLongs_J211 S y1 y3 else (if x0.toInt = 121 then True else (if x0.toInt = 122 then d_X6_ofLongs_J211 S y1 y3 else (if x0.toInt = 123 then True else (if x0.toInt = 124 then d_X6_ofLongs_J211 S y1 y3 else (if x0.toInt = 125 then True else (if x0.toInt = 126 then d_X6_ofLongs_J211 S y1 y3 else (if x0.toInt = 127 then True else (if x0.toInt = 128 then d_X6_ofLongs_J211 S y1 y3 else (if x0.toInt = 129 then True else d_X6_ofLongs_J211 S y1 y3)))))))))))))))))))))))))))))))))
set_option maxHeartbeats 2000000 in
set_option maxRecDepth 100000 in
theorem rX6_ofLongs (l : Launch) (g : Gr) (ad : Nat → Nat) (sz : Nat) (S : MS) (x0 : Int32) (y1 : Int64) (y3 : Int64) (hw : wfC S) (hd : d_X6_ofLongs S x0 y1 y3) : Met l yX6_ofLongs (wt yX6_ofLongs cX6_ofLongs 5 (some .long)) ({ frames := 0, cells := 0, slots := 0, locals := 0 }) (va_Pc [.int x0, .long y1, .long y3] (st_C g ad sz S)) (va_Ql (fun (r : Int64) (_ : Unit) => r = fX6_ofLongs S x0 y1 y3) (fun (_ : Unit) (t : State) => qEC g ad (va_A (WdC g ad S) sz) S t) (va_A (WdC g ad S) sz)) 0 0 (va_A (WdC g ad S) sz) := by
  refine Met.ofW (cc := cX6_ofLongs) (maxL := 5) (ret := (some .long)) (by decide) rfl ?_
  intro p e s m args below meth c s₁ B hml hv
  obtain ⟨rfl, hsz, hP, hK, hD0, hex, hE⟩ := hv
  have hx := B.exec
  have hb := B.bytes
  have hr := B.returns
  have hts0 := atoms_spec (ws := wt yX6_ofLongs cX6_ofLongs 5 (some .long)) B.pre
  have hts : ∀ w ∈ tb, w.before _ s = true := fun w h => hts0 w (List.mem_cons_of_mem _ h)
  have hown : s.vm.findClass RX6 = some m.cls := findClass_of_methodNamed B.named
  subst hsz
  have hD := hD0.self (sz := s.heap.size)
  generalize hAe : va_A (WdC g ad S) s.heap.size = A at hD hE ⊢
  have hA : ∀ q : Nat, s.heap.size ≤ q → A q := fun q h => by rw [← hAe]; exact Or.inr h
  have hR : RepC g ad A s S s.heap [] := ⟨hK, hP, hD, va_S.rf, hw⟩
  clear hK hP hD hD0
  have hl := lv_entry ([.int x0, .long y1, .long y3]) (n := 5) (Nat.le_of_ble_eq_true rfl)
  rw [lg_entry_eq]
  generalize (lg_sl ([.int x0, .long y1, .long y3]) ++ List.replicate (5 - (lg_sl ([.int x0, .long y1, .long y3])).length) Slot.unset).toArray = ls at hl ⊢
  have hl : lv_has ls 5 [(0, .int x0), (1, .long y1), (3, .long y3)] := hl
  obtain ⟨r0, hf⟩ : ∃ r0, fX6_ofLongs S x0 y1 y3 = r0 := ⟨_, rfl⟩
  have hf0 := hf
  unfold fX6_ofLongs at hf
  unfold d_X6_ofLongs at hd
  refine lv_iload_n hx hb dX6_ofLongs_0 rfl (lv_at hl 0 rfl) ?_
  have J_211 : ∀ (v211_1 : Int64) (v211_3 : Int64) (H : Heap) (locs : List Loc) (ls : Array Slot), d_X6_ofLongs_J211 S v211_1 v211_3 → f_X6_ofLongs_J211 S v211_1 v211_3 = r0 → RepC g ad A s S H locs → lv_has ls 5 [(1, .long v211_1), (3, .long v211_3)] → W p l e (headSpec (wt yX6_ofLongs cX6_ofLongs 5 (some .long)) ({ frames := 0, cells := 0, slots := 0, locals := 0 })).room s m ([.int x0, .long y1, .long y3] : List Value).toArray below meth c H locs 0 0 (MQ below (va_Ql (fun (r : Int64) (_ : Unit) => r = fX6_ofLongs S x0 y1 y3) (fun (_ : Unit) (t : State) => qEC g ad A S t) A) ([.int x0, .long y1, .long y3] : List Value).toArray s 0 0 A) (F0 m 211 ls []) := by
    intro v211_1 v211_3 H locs ls hd hf hR hl
    unfold d_X6_ofLongs_J211 at hd
    unfold f_X6_ofLongs_J211 at hf
    refine lv_lload_n hx hb dX6_ofLongs_211 rfl (lv_at hl 0 rfl) ?_
    refine lv_lload_n hx hb dX6_ofLongs_212 rfl (lv_at hl 1 rfl) ?_
    refine lv_lxor hx hb dX6_ofLongs_213 ?_
    refine lv_topl (fun z1 ez1 => ?_)
    obtain rfl : z1 = (v211_1 ^^^ v211_3) := ez1
    exact W.lret (v := (v211_1 ^^^ v211_3)) hx hb hr (fun t9 ht9 hW9 => ⟨⟨_, (), rfl, hf.trans hf0.symm, ⟨by rw [ht9]; exact hR.P, hR.D⟩⟩, hR.sS.F ht9⟩) hR.sS.2.2 dX6_ofLongs_214
  by_cases c9_97 : x0.toInt = 97
  · refine lv_tableIn (off := 147) (tgt := 148) hx hb dX6_ofLongs_1 (by rw [c9_97]; decide) (by rw [c9_97]; decide) (by rw [c9_97]; rfl) (by decide) ?_
    rw [if_pos (c9_97)] at hf
    (try rw [if_pos (c9_97)] at hd)
    refine lv_lload_n hx hb dX6_ofLongs_148 rfl (lv_at hl 1 rfl) ?_
    refine lv_lload_n hx hb dX6_ofLongs_149 rfl (lv_at hl 2 rfl) ?_
    refine lv_ladd hx hb dX6_ofLongs_150 ?_
    refine lv_topl (fun z2 ez2 => ?_)
    obtain rfl : z2 = (y1 + y3) := ez2
    exact W.lret (v := (y1 + y3)) hx hb hr (fun t9 ht9 hW9 => ⟨⟨_, (), rfl, hf.trans hf0.symm, ⟨by rw [ht9]; exact hR.P, hR.D⟩⟩, hR.sS.F ht9⟩) hR.sS.2.2 dX6_ofLongs_151
  rw [if_neg c9_97] at hf
  (try rw [if_neg c9_97] at hd)
  by_cases c9_98 : x0.toInt = 98
  · refine lv_tableIn (off := 210) (tgt := 211) hx hb dX6_ofLongs_1 (by rw [c9_98]; decide) (by rw [c9_98]; decide) (by rw [c9_98]; rfl) (by decide) ?_
    rw [if_pos (c9_98)] at hf
    (try rw [if_pos (c9_98)] at hd)
    exact J_211 y1 y3 _ _ ls hd hf  hR (lv_sub hl [1, 2] rfl)
  rw [if_neg c9_98] at hf
  (try rw [if_neg c9_98] at hd)
  by_cases c9_99 : x0.toInt = 99
  · refine lv_tableIn (off := 210) (tgt := 211) hx hb dX6_ofLongs_1 (by rw [c9_99]; decide) (by rw [c9_99]; decide) (by rw [c9_99]; rfl) (by decide) ?_
    rw [if_pos (c9_99)] at hf
    (try rw [if_pos (c9_99)] at hd)
    exact J_211 y1 y3 _ _ ls hd hf  hR (lv_sub hl [1, 2] rfl)
  rw [if_neg c9_99] at hf
  (try rw [if_neg c9_99] at hd)
  by_cases c9_100 : x0.toInt = 100
  · refine lv_tableIn (off := 210) (tgt := 211) hx hb dX6_ofLongs_1 (by rw [c9_100]; decide) (by rw [c9_100]; decide) (by rw [c9_100]; rfl) (by decide) ?_
    rw [if_pos (c9_100)] at hf
    (try rw [if_pos (c9_100)] at hd)
    exact J_211 y1 y3 _ _ ls hd hf  hR (lv_sub hl [1, 2] rfl)
  rw [if_neg c9_100] at hf
  (try rw [if_neg c9_100] at hd)
  by_cases c9_101 : x0.toInt = 101
  · refine lv_tableIn (off := 151) (tgt := 152) hx hb dX6_ofLongs_1 (by rw [c9_101]; decide) (by rw [c9_101]; decide) (by rw [c9_101]; rfl) (by decide) ?_
    rw [if_pos (c9_101)] at hf
    (try rw [if_pos (c9_101)] at hd)
    refine lv_lload_n hx hb dX6_ofLongs_152 rfl (lv_at hl 1 rfl) ?_
    refine lv_lload_n hx hb dX6_ofLongs_153 rfl (lv_at hl 2 rfl) ?_
    refine lv_lsub hx hb dX6_ofLongs_154 ?_
    refine lv_topl (fun z3 ez3 => ?_)
    obtain rfl : z3 = (y1 - y3) := ez3
    exact W.lret (v := (y1 - y3)) hx hb hr (fun t9 ht9 hW9 => ⟨⟨_, (), rfl, hf.trans hf0.symm, ⟨by rw [ht9]; exact hR.P, hR.D⟩⟩, hR.sS.F ht9⟩) hR.sS.2.2 dX6_ofLongs_155
  rw [if_neg c9_101] at hf
  (try rw [if_neg c9_101] at hd)
  by_cases c9_102 : x0.toInt = 102
  · refine lv_tableIn (off := 210) (tgt := 211) hx hb dX6_ofLongs_1 (by rw [c9_102]; decide) (by rw [c9_102]; decide) (by rw [c9_102]; rfl) (by decide) ?_
    rw [if_pos (c9_102)] at hf
    (try rw [if_pos (c9_102)] at hd)
    exact J_211 y1 y3 _ _ ls hd hf  hR (lv_sub hl [1, 2] rfl)
  rw [if_neg c9_102] at hf
  (try rw [if_neg c9_102] at hd)
  by_cases c9_103 : x0.toInt = 103
  · refine lv_tableIn (off := 210) (tgt := 211) hx hb dX6_ofLongs_1 (by rw [c9_103]; decide) (by rw [c9_103]; decide) (by rw [c9_103]; rfl) (by decide) ?_
    rw [if_pos (c9_103)] at hf
    (try rw [if_pos (c9_103)] at hd)
    exact J_211 y1 y3 _ _ ls hd hf  hR (lv_sub hl [1, 2] rfl)
  rw [if_neg c9_103] at hf
  (try rw [if_neg c9_103] at hd)
  by_cases c9_104 : x0.toInt = 104
  · refine lv_tableIn (off := 210) (tgt := 211) hx hb dX6_ofLongs_1 (by rw [c9_104]; decide) (by rw [c9_104]; decide) (by rw [c9_104]; rfl) (by decide) ?_
    rw [if_pos (c9_104)] at hf
    (try rw [if_pos (c9_104)] at hd)
    exact J_211 y1 y3 _ _ ls hd hf  hR (lv_sub hl [1, 2] rfl)
  rw [if_neg c9_104] at hf
  (try rw [if_neg c9_104] at hd)
  by_cases c9_105 : x0.toInt = 105
  · refine lv_tableIn (off := 155) (tgt := 156) hx hb dX6_ofLongs_1 (by rw [c9_105]; decide) (by rw [c9_105]; decide) (by rw [c9_105]; rfl) (by decide) ?_
    rw [if_pos (c9_105)] at hf
    (try rw [if_pos (c9_105)] at hd)
    refine lv_lload_n hx hb dX6_ofLongs_156 rfl (lv_at hl 1 rfl) ?_
    refine lv_lload_n hx hb dX6_ofLongs_157 rfl (lv_at hl 2 rfl) ?_
    refine lv_lmul hx hb dX6_ofLongs_158 ?_
    refine lv_topl (fun z4 ez4 => ?_)
    obtain rfl : z4 = (y1 * y3) := ez4
    exact W.lret (v := (y1 * y3)) hx hb hr (fun t9 ht9 hW9 => ⟨⟨_, (), rfl, hf.trans hf0.symm, ⟨by rw [ht9]; exact hR.P, hR.D⟩⟩, hR.sS.F ht9⟩) hR.sS.2.2 dX6_ofLongs_159
  rw [if_neg c9_105] at hf
  (try rw [if_neg c9_105] at hd)
  by_cases c9_106 : x0.toInt = 106
  · refine lv_tableIn (off := 210) (tgt := 211) hx hb dX6_ofLongs_1 (by rw [c9_106]; decide) (by rw [c9_106]; decide) (by rw [c9_106]; rfl) (by decide) ?_
    rw [if_pos (c9_106)] at hf
    (try rw [if_pos (c9_106)] at hd)
    exact J_211 y1 y3 _ _ ls hd hf  hR (lv_sub hl [1, 2] rfl)
  rw [if_neg c9_106] at hf
  (try rw [if_neg c9_106] at hd)
  by_cases c9_107 : x0.toInt = 107
  · refine lv_tableIn (off := 210) (tgt := 211) hx hb dX6_ofLongs_1 (by rw [c9_107]; decide) (by rw [c9_107]; decide) (by rw [c9_107]; rfl) (by decide) ?_
    rw [if_pos (c9_107)] at hf
    (try rw [if_pos (c9_107)] at hd)
    exact J_211 y1 y3 _ _ ls hd hf  hR (lv_sub hl [1, 2] rfl)
  rw [if_neg c9_107] at hf
  (try rw [if_neg c9_107] at hd)
  by_cases c9_108 : x0.toInt = 108
  · refine lv_tableIn (off := 210) (tgt := 211) hx hb dX6_ofLongs_1 (by rw [c9_108]; decide) (by rw [c9_108]; decide) (by rw [c9_108]; rfl) (by decide) ?_
    rw [if_pos (c9_108)] at hf
    (try rw [if_pos (c9_108)] at hd)
    exact J_211 y1 y3 _ _ ls hd hf  hR (lv_sub hl [1, 2] rfl)
  rw [if_neg c9_108] at hf
  (try rw [if_neg c9_108] at hd)
  by_cases c9_109 : x0.toInt = 109
  · refine lv_tableIn (off := 159) (tgt := 160) hx hb dX6_ofLongs_1 (by rw [c9_109]; decide) (by rw [c9_109]; decide) (by rw [c9_109]; rfl) (by decide) ?_
    rw [if_pos (c9_109)] at hf
    (try rw [if_pos (c9_109)] at hd)
    refine lv_lload_n hx hb dX6_ofLongs_160 rfl (lv_at hl 2 rfl) ?_
    refine lv_lconst (v := 0) hx hb dX6_ofLongs_161 (by decide) ?_
    refine W.lcmp hx hb dX6_ofLongs_162 ?_
    refine lv_topi (fun z5 ez5 => ?_)
    obtain rfl : z5 = (lg_cmp y3 0) := ez5
    refine lv_if_ne (tgt := 170) hx hb dX6_ofLongs_163 (by decide) (fun c6 => ?_) (fun c6 => ?_)
    · rw [if_neg (k_ne rfl (by decide) c6)] at hf
      (try rw [if_neg (k_ne rfl (by decide) c6)] at hd)
      refine lv_lload_n hx hb dX6_ofLongs_170 rfl (lv_at hl 1 rfl) ?_
      refine lv_lload_n hx hb dX6_ofLongs_171 rfl (lv_at hl 2 rfl) ?_
      obtain ⟨hv7, hd⟩ := hd
      refine lv_ldiv hx hb dX6_ofLongs_172 hv7 ?_
      refine lv_topl (fun z8 ez8 => ?_)
      obtain rfl : z8 = (y1 / y3) := ez8
      exact W.lret (v := (y1 / y3)) hx hb hr (fun t9 ht9 hW9 => ⟨⟨_, (), rfl, hf.trans hf0.symm, ⟨by rw [ht9]; exact hR.P, hR.D⟩⟩, hR.sS.F ht9⟩) hR.sS.2.2 dX6_ofLongs_173
    · rw [if_pos (k_eq rfl (by decide) c6)] at hf
      (try rw [if_pos (k_eq rfl (by decide) c6)] at hd)
      refine lv_lconst (v := 0) hx hb dX6_ofLongs_166 (by decide) ?_
      refine lv_goto (tgt := 173) hx hb dX6_ofLongs_167 (by decide) ?_
      exact W.lret (v := 0) hx hb hr (fun t9 ht9 hW9 => ⟨⟨_, (), rfl, hf.trans hf0.symm, ⟨by rw [ht9]; exact hR.P, hR.D⟩⟩, hR.sS.F ht9⟩) hR.sS.2.2 dX6_ofLongs_173
  rw [if_neg c9_109] at hf
  (try rw [if_neg c9_109] at hd)
  by_cases c9_110 : x0.toInt = 110
  · refine lv_tableIn (off := 210) (tgt := 211) hx hb dX6_ofLongs_1 (by rw [c9_110]; decide) (by rw [c9_110]; decide) (by rw [c9_110]; rfl) (by decide) ?_
    rw [if_pos (c9_110)] at hf
    (try rw [if_pos (c9_110)] at hd)
    exact J_211 y1 y3 _ _ ls hd hf  hR (lv_sub hl [1, 2] rfl)
  rw [if_neg c9_110] at hf
  (try rw [if_neg c9_110] at hd)
  by_cases c9_111 : x0.toInt = 111
  · refine lv_tableIn (off := 210) (tgt := 211) hx hb dX6_ofLongs_1 (by rw [c9_111]; decide) (by rw [c9_111]; decide) (by rw [c9_111]; rfl) (by decide) ?_
    rw [if_pos (c9_111)] at hf
    (try rw [if_pos (c9_111)] at hd)
    exact J_211 y1 y3 _ _ ls hd hf  hR (lv_sub hl [1, 2] rfl)
  rw [if_neg c9_111] at hf
  (try rw [if_neg c9_111] at hd)
  by_cases c9_112 : x0.toInt = 112
  · refine lv_tableIn (off := 210) (tgt := 211) hx hb dX6_ofLongs_1 (by rw [c9_112]; decide) (by rw [c9_112]; decide) (by rw [c9_112]; rfl) (by decide) ?_
    rw [if_pos (c9_112)] at hf
    (try rw [if_pos (c9_112)] at hd)
    exact J_211 y1 y3 _ _ ls hd hf  hR (lv_sub hl [1, 2] rfl)
  rw [if_neg c9_112] at hf
  (try rw [if_neg c9_112] at hd)
  by_cases c9_113 : x0.toInt = 113
  · refine lv_tableIn (off := 173) (tgt := 174) hx hb dX6_ofLongs_1 (by rw [c9_113]; decide) (by rw [c9_113]; decide) (by rw [c9_113]; rfl) (by decide) ?_
    rw [if_pos (c9_113)] at hf
    (try rw [if_pos (c9_113)] at hd)
    refine lv_lload_n hx hb dX6_ofLongs_174 rfl (lv_at hl 2 rfl) ?_
    refine lv_lconst (v := 0) hx hb dX6_ofLongs_175 (by decide) ?_
    refine W.lcmp hx hb dX6_ofLongs_176 ?_
    refine lv_topi (fun z9 ez9 => ?_)
    obtain rfl : z9 = (lg_cmp y3 0) := ez9
    refine lv_if_ne (tgt := 184) hx hb dX6_ofLongs_177 (by decide) (fun c10 => ?_) (fun c10 => ?_)
    · rw [if_neg (k_ne rfl (by decide) c10)] at hf
      (try rw [if_neg (k_ne rfl (by decide) c10)] at hd)
      refine lv_lload_n hx hb dX6_ofLongs_184 rfl (lv_at hl 1 rfl) ?_
      refine lv_lload_n hx hb dX6_ofLongs_185 rfl (lv_at hl 2 rfl) ?_
      obtain ⟨hv11, hd⟩ := hd
      refine lv_lrem hx hb dX6_ofLongs_186 hv11 ?_
      refine lv_topl (fun z12 ez12 => ?_)
      obtain rfl : z12 = (y1 - y1 / y3 * y3) := ez12
      exact W.lret (v := (y1 - y1 / y3 * y3)) hx hb hr (fun t9 ht9 hW9 => ⟨⟨_, (), rfl, hf.trans hf0.symm, ⟨by rw [ht9]; exact hR.P, hR.D⟩⟩, hR.sS.F ht9⟩) hR.sS.2.2 dX6_ofLongs_187
    · rw [if_pos (k_eq rfl (by decide) c10)] at hf
      (try rw [if_pos (k_eq rfl (by decide) c10)] at hd)
      refine lv_lconst (v := 0) hx hb dX6_ofLongs_180 (by decide) ?_
      refine lv_goto (tgt := 187) hx hb dX6_ofLongs_181 (by decide) ?_
      exact W.lret (v := 0) hx hb hr (fun t9 ht9 hW9 => ⟨⟨_, (), rfl, hf.trans hf0.symm, ⟨by rw [ht9]; exact hR.P, hR.D⟩⟩, hR.sS.F ht9⟩) hR.sS.2.2 dX6_ofLongs_187
  rw [if_neg c9_113] at hf
  (try rw [if_neg c9_113] at hd)
  by_cases c9_114 : x0.toInt = 114
  · refine lv_tableIn (off := 210) (tgt := 211) hx hb dX6_ofLongs_1 (by rw [c9_114]; decide) (by rw [c9_114]; decide) (by rw [c9_114]; rfl) (by decide) ?_
    rw [if_pos (c9_114)] at hf
    (try rw [if_pos (c9_114)] at hd)
    exact J_211 y1 y3 _ _ ls hd hf  hR (lv_sub hl [1, 2] rfl)
  rw [if_neg c9_114] at hf
  (try rw [if_neg c9_114] at hd)
  by_cases c9_115 : x0.toInt = 115
  · refine lv_tableIn (off := 210) (tgt := 211) hx hb dX6_ofLongs_1 (by rw [c9_115]; decide) (by rw [c9_115]; decide) (by rw [c9_115]; rfl) (by decide) ?_
    rw [if_pos (c9_115)] at hf
    (try rw [if_pos (c9_115)] at hd)
    exact J_211 y1 y3 _ _ ls hd hf  hR (lv_sub hl [1, 2] rfl)
  rw [if_neg c9_115] at hf
  (try rw [if_neg c9_115] at hd)
  by_cases c9_116 : x0.toInt = 116
  · refine lv_tableIn (off := 210) (tgt := 211) hx hb dX6_ofLongs_1 (by rw [c9_116]; decide) (by rw [c9_116]; decide) (by rw [c9_116]; rfl) (by decide) ?_
    rw [if_pos (c9_116)] at hf
    (try rw [if_pos (c9_116)] at hd)
    exact J_211 y1 y3 _ _ ls hd hf  hR (lv_sub hl [1, 2] rfl)
  rw [if_neg c9_116] at hf
  (try rw [if_neg c9_116] at hd)
  by_cases c9_117 : x0.toInt = 117
  · refine lv_tableIn (off := 210) (tgt := 211) hx hb dX6_ofLongs_1 (by rw [c9_117]; decide) (by rw [c9_117]; decide) (by rw [c9_117]; rfl) (by decide) ?_
    rw [if_pos (c9_117)] at hf
    (try rw [if_pos (c9_117)] at hd)
    exact J_211 y1 y3 _ _ ls hd hf  hR (lv_sub hl [1, 2] rfl)
  rw [if_neg c9_117] at hf
  (try rw [if_neg c9_117] at hd)
  by_cases c9_118 : x0.toInt = 118
  · refine lv_tableIn (off := 210) (tgt := 211) hx hb dX6_ofLongs_1 (by rw [c9_118]; decide) (by rw [c9_118]; decide) (by rw [c9_118]; rfl) (by decide) ?_
    rw [if_pos (c9_118)] at hf
    (try rw [if_pos (c9_118)] at hd)
    exact J_211 y1 y3 _ _ ls hd hf  hR (lv_sub hl [1, 2] rfl)
  rw [if_neg c9_118] at hf
  (try rw [if_neg c9_118] at hd)
  by_cases c9_119 : x0.toInt = 119
  · refine lv_tableIn (off := 210) (tgt := 211) hx hb dX6_ofLongs_1 (by rw [c9_119]; decide) (by rw [c9_119]; decide) (by rw [c9_119]; rfl) (by decide) ?_
    rw [if_pos (c9_119)] at hf
    (try rw [if_pos (c9_119)] at hd)
    exact J_211 y1 y3 _ _ ls hd hf  hR (lv_sub hl [1, 2] rfl)
  rw [if_neg c9_119] at hf
  (try rw [if_neg c9_119] at hd)
  by_cases c9_120 : x0.toInt = 120
  · refine lv_tableIn (off := 210) (tgt := 211) hx hb dX6_ofLongs_1 (by rw [c9_120]; decide) (by rw [c9_120]; decide) (by rw [c9_120]; rfl) (by decide) ?_
    rw [if_pos (c9_120)] at hf
    (try rw [if_pos (c9_120)] at hd)
    exact J_211 y1 y3 _ _ ls hd hf  hR (lv_sub hl [1, 2] rfl)
  rw [if_neg c9_120] at hf
  (try rw [if_neg c9_120] at hd)
  by_cases c9_121 : x0.toInt = 121
  · refine lv_tableIn (off := 187) (tgt := 188) hx hb dX6_ofLongs_1 (by rw [c9_121]; decide) (by rw [c9_121]; decide) (by rw [c9_121]; rfl) (by decide) ?_
    rw [if_pos (c9_121)] at hf
    (try rw [if_pos (c9_121)] at hd)
    refine lv_lload_n hx hb dX6_ofLongs_188 rfl (lv_at hl 1 rfl) ?_
    refine lv_lload_n hx hb dX6_ofLongs_189 rfl (lv_at hl 2 rfl) ?_
    refine lv_l2i (v := (y3.toInt32)) hx hb dX6_ofLongs_190 rfl ?_
    refine lv_lshl (v := (y1 <<< ((y3.toInt32).toInt64 &&& 63))) hx hb dX6_ofLongs_191 rfl ?_
    exact W.lret (v := (y1 <<< ((y3.toInt32).toInt64 &&& 63))) hx hb hr (fun t9 ht9 hW9 => ⟨⟨_, (), rfl, hf.trans hf0.symm, ⟨by rw [ht9]; exact hR.P, hR.D⟩⟩, hR.sS.F ht9⟩) hR.sS.2.2 dX6_ofLongs_192
  rw [if_neg c9_121] at hf
  (try rw [if_neg c9_121] at hd)
  by_cases c9_122 : x0.toInt = 122
  · refine lv_tableIn (off := 210) (tgt := 211) hx hb dX6_ofLongs_1 (by rw [c9_122]; decide) (by rw [c9_122]; decide) (by rw [c9_122]; rfl) (by decide) ?_
    rw [if_pos (c9_122)] at hf
    (try rw [if_pos (c9_122)] at hd)
    exact J_211 y1 y3 _ _ ls hd hf  hR (lv_sub hl [1, 2] rfl)
  rw [if_neg c9_122] at hf
  (try rw [if_neg c9_122] at hd)
  by_cases c9_123 : x0.toInt = 123
  · refine lv_tableIn (off := 192) (tgt := 193) hx hb dX6_ofLongs_1 (by rw [c9_123]; decide) (by rw [c9_123]; decide) (by rw [c9_123]; rfl) (by decide) ?_
    rw [if_pos (c9_123)] at hf
    (try rw [if_pos (c9_123)] at hd)
    refine lv_lload_n hx hb dX6_ofLongs_193 rfl (lv_at hl 1 rfl) ?_
    refine lv_lload_n hx hb dX6_ofLongs_194 rfl (lv_at hl 2 rfl) ?_
    refine lv_l2i (v := (y3.toInt32)) hx hb dX6_ofLongs_195 rfl ?_
    refine lv_lshr (v := (y1 >>> ((y3.toInt32).toInt64 &&& 63))) hx hb dX6_ofLongs_196 rfl ?_
    exact W.lret (v := (y1 >>> ((y3.toInt32).toInt64 &&& 63))) hx hb hr (fun t9 ht9 hW9 => ⟨⟨_, (), rfl, hf.trans hf0.symm, ⟨by rw [ht9]; exact hR.P, hR.D⟩⟩, hR.sS.F ht9⟩) hR.sS.2.2 dX6_ofLongs_197
  rw [if_neg c9_123] at hf
  (try rw [if_neg c9_123] at hd)
  by_cases c9_124 : x0.toInt = 124
  · refine lv_tableIn (off := 210) (tgt := 211) hx hb dX6_ofLongs_1 (by rw [c9_124]; decide) (by rw [c9_124]; decide) (by rw [c9_124]; rfl) (by decide) ?_
    rw [if_pos (c9_124)] at hf
    (try rw [if_pos (c9_124)] at hd)
    exact J_211 y1 y3 _ _ ls hd hf  hR (lv_sub hl [1, 2] rfl)
  rw [if_neg c9_124] at hf
  (try rw [if_neg c9_124] at hd)
  by_cases c9_125 : x0.toInt = 125
  · refine lv_tableIn (off := 197) (tgt := 198) hx hb dX6_ofLongs_1 (by rw [c9_125]; decide) (by rw [c9_125]; decide) (by rw [c9_125]; rfl) (by decide) ?_
    rw [if_pos (c9_125)] at hf
    (try rw [if_pos (c9_125)] at hd)
    refine lv_lload_n hx hb dX6_ofLongs_198 rfl (lv_at hl 1 rfl) ?_
    refine lv_lload_n hx hb dX6_ofLongs_199 rfl (lv_at hl 2 rfl) ?_
    refine lv_l2i (v := (y3.toInt32)) hx hb dX6_ofLongs_200 rfl ?_
    refine lv_lushr (v := ((y1.toUInt64 >>> ((y3.toInt32).toInt64.toUInt64 &&& Int64.toUInt64 63)).toInt64)) hx hb dX6_ofLongs_201 rfl ?_
    exact W.lret (v := ((y1.toUInt64 >>> ((y3.toInt32).toInt64.toUInt64 &&& Int64.toUInt64 63)).toInt64)) hx hb hr (fun t9 ht9 hW9 => ⟨⟨_, (), rfl, hf.trans hf0.symm, ⟨by rw [ht9]; exact hR.P, hR.D⟩⟩, hR.sS.F ht9⟩) hR.sS.2.2 dX6_ofLongs_202
  rw [if_neg c9_125] at hf
  (try rw [if_neg c9_125] at hd)
  by_cases c9_126 : x0.toInt = 126
  · refine lv_tableIn (off := 210) (tgt := 211) hx hb dX6_ofLongs_1 (by rw [c9_126]; decide) (by rw [c9_126]; decide) (by rw [c9_126]; rfl) (by decide) ?_
    rw [if_pos (c9_126)] at hf
    (try rw [if_pos (c9_126)] at hd)
    exact J_211 y1 y3 _ _ ls hd hf  hR (lv_sub hl [1, 2] rfl)
  rw [if_neg c9_126] at hf
  (try rw [if_neg c9_126] at hd)
  by_cases c9_127 : x0.toInt = 127
  · refine lv_tableIn (off := 202) (tgt := 203) hx hb dX6_ofLongs_1 (by rw [c9_127]; decide) (by rw [c9_127]; decide) (by rw [c9_127]; rfl) (by decide) ?_
    rw [if_pos (c9_127)] at hf
    (try rw [if_pos (c9_127)] at hd)
    refine lv_lload_n hx hb dX6_ofLongs_203 rfl (lv_at hl 1 rfl) ?_
    refine lv_lload_n hx hb dX6_ofLongs_204 rfl (lv_at hl 2 rfl) ?_
    refine lv_land hx hb dX6_ofLongs_205 ?_
    refine lv_topl (fun z13 ez13 => ?_)
    obtain rfl : z13 = (y1 &&& y3) := ez13
    exact W.lret (v := (y1 &&& y3)) hx hb hr (fun t9 ht9 hW9 => ⟨⟨_, (), rfl, hf.trans hf0.symm, ⟨by rw [ht9]; exact hR.P, hR.D⟩⟩, hR.sS.F ht9⟩) hR.sS.2.2 dX6_ofLongs_206
  rw [if_neg c9_127] at hf
  (try rw [if_neg c9_127] at hd)
  by_cases c9_128 : x0.toInt = 128
  · refine lv_tableIn (off := 210) (tgt := 211) hx hb dX6_ofLongs_1 (by rw [c9_128]; decide) (by rw [c9_128]; decide) (by rw [c9_128]; rfl) (by decide) ?_
    rw [if_pos (c9_128)] at hf
    (try rw [if_pos (c9_128)] at hd)
    exact J_211 y1 y3 _ _ ls hd hf  hR (lv_sub hl [1, 2] rfl)
  rw [if_neg c9_128] at hf
  (try rw [if_neg c9_128] at hd)
  by_cases c9_129 : x0.toInt = 129
  · refine lv_tableIn (off := 206) (tgt := 207) hx hb dX6_ofLongs_1 (by rw [c9_129]; decide) (by rw [c9_129]; decide) (by rw [c9_129]; rfl) (by decide) ?_
    rw [if_pos (c9_129)] at hf
    (try rw [if_pos (c9_129)] at hd)
    refine lv_lload_n hx hb dX6_ofLongs_207 rfl (lv_at hl 1 rfl) ?_
    refine lv_lload_n hx hb dX6_ofLongs_208 rfl (lv_at hl 2 rfl) ?_
    refine lv_lor hx hb dX6_ofLongs_209 ?_
    refine lv_topl (fun z14 ez14 => ?_)
    obtain rfl : z14 = (y1 ||| y3) := ez14
    exact W.lret (v := (y1 ||| y3)) hx hb hr (fun t9 ht9 hW9 => ⟨⟨_, (), rfl, hf.trans hf0.symm, ⟨by rw [ht9]; exact hR.P, hR.D⟩⟩, hR.sS.F ht9⟩) hR.sS.2.2 dX6_ofLongs_210
  rw [if_neg c9_129] at hf
  (try rw [if_neg c9_129] at hd)
  refine lv_tableOut (tgt := 211) hx hb dX6_ofLongs_1 (by omega) (by decide) ?_
  exact J_211 y1 y3 _ _ ls hd hf  hR (lv_sub hl [1, 2] rfl)
def fX6_unary (S : MS) (x0 : Int32) (y1 : Int64) : Int64 := (if x0.toInt = 116 then ((-(y1.toInt32)).toInt64) else (if x0.toInt = 117 then (-y1) else (if x0.toInt = 136 then ((y1.toInt32).toInt64) else (if x0.toInt = 145 then (((y1.toInt32).toInt8.toInt32).toInt64) else (if x0.toInt = 146 then ((((y1.toInt32).toUInt32 % 65536).toInt32).toInt64) else (if x0.toInt = 147 then (((y1.toInt32).toInt16.toInt32).toInt64) else y1))))))
def d_X6_unary (S : MS) (x0 : Int32) (y1 : Int64) : Prop := True
set_option maxHeartbeats 2000000 in
set_option maxRecDepth 100000 in
theorem rX6_unary (l : Launch) (g : Gr) (ad : Nat → Nat) (sz : Nat) (S : MS) (x0 : Int32) (y1 : Int64) (hw : wfC S) (hd : d_X6_unary S x0 y1) : Met l yX6_unary (wt yX6_unary cX6_unary 3 (some .long)) ({ frames := 0, cells := 0, slots := 0, locals := 0 }) (va_Pc [.int x0, .long y1] (st_C g ad sz S)) (va_Ql (fun (r : Int64) (_ : Unit) => r = fX6_unary S x0 y1) (fun (_ : Unit) (t : State) => qEC g ad (va_A (WdC g ad S) sz) S t) (va_A (WdC g ad S) sz)) 0 0 (va_A (WdC g ad S) sz) := by
  refine Met.ofW (cc := cX6_unary) (maxL := 3) (ret := (some .long)) (by decide) rfl ?_
  intro p e s m args below meth c s₁ B hml hv
  obtain ⟨rfl, hsz, hP, hK, hD0, hex, hE⟩ := hv
  have hx := B.exec
  have hb := B.bytes
  have hr := B.returns
  have hts0 := atoms_spec (ws := wt yX6_unary cX6_unary 3 (some .long)) B.pre
  have hts : ∀ w ∈ tb, w.before _ s = true := fun w h => hts0 w (List.mem_cons_of_mem _ h)
  have hown : s.vm.findClass RX6 = some m.cls := findClass_of_methodNamed B.named
  subst hsz
  have hD := hD0.self (sz := s.heap.size)
  generalize hAe : va_A (WdC g ad S) s.heap.size = A at hD hE ⊢
  have hA : ∀ q : Nat, s.heap.size ≤ q → A q := fun q h => by rw [← hAe]; exact Or.inr h
  have hR : RepC g ad A s S s.heap [] := ⟨hK, hP, hD, va_S.rf, hw⟩
  clear hK hP hD hD0
  have hl := lv_entry ([.int x0, .long y1]) (n := 3) (Nat.le_of_ble_eq_true rfl)
  rw [lg_entry_eq]
  generalize (lg_sl ([.int x0, .long y1]) ++ List.replicate (3 - (lg_sl ([.int x0, .long y1])).length) Slot.unset).toArray = ls at hl ⊢
  have hl : lv_has ls 3 [(0, .int x0), (1, .long y1)] := hl
  obtain ⟨r0, hf⟩ : ∃ r0, fX6_unary S x0 y1 = r0 := ⟨_, rfl⟩
  have hf0 := hf
  unfold fX6_unary at hf
  unfold d_X6_unary at hd
  refine lv_iload_n hx hb dX6_unary_0 rfl (lv_at hl 0 rfl) ?_
  by_cases c9_116 : x0.toInt = 116
  · refine lv_lookup (off := 59) (tgt := 60) hx hb dX6_unary_1 (by decide) (by rw [c9_116]; decide) (by decide) ?_
    rw [if_pos (c9_116)] at hf
    (try rw [if_pos (c9_116)] at hd)
    refine lv_lload_n hx hb dX6_unary_60 rfl (lv_at hl 1 rfl) ?_
    refine lv_l2i (v := (y1.toInt32)) hx hb dX6_unary_61 rfl ?_
    refine lv_ineg hx hb dX6_unary_62 ?_
    refine lv_topi (fun z1 ez1 => ?_)
    obtain rfl : z1 = (-(y1.toInt32)) := ez1
    refine lv_i2l (v := ((-(y1.toInt32)).toInt64)) hx hb dX6_unary_63 rfl ?_
    exact W.lret (v := ((-(y1.toInt32)).toInt64)) hx hb hr (fun t9 ht9 hW9 => ⟨⟨_, (), rfl, hf.trans hf0.symm, ⟨by rw [ht9]; exact hR.P, hR.D⟩⟩, hR.sS.F ht9⟩) hR.sS.2.2 dX6_unary_64
  rw [if_neg c9_116] at hf
  (try rw [if_neg c9_116] at hd)
  by_cases c9_117 : x0.toInt = 117
  · refine lv_lookup (off := 64) (tgt := 65) hx hb dX6_unary_1 (by decide) (by rw [c9_117]; decide) (by decide) ?_
    rw [if_pos (c9_117)] at hf
    (try rw [if_pos (c9_117)] at hd)
    refine lv_lload_n hx hb dX6_unary_65 rfl (lv_at hl 1 rfl) ?_
    refine lv_lneg hx hb dX6_unary_66 ?_
    refine lv_topl (fun z2 ez2 => ?_)
    obtain rfl : z2 = (-y1) := ez2
    exact W.lret (v := (-y1)) hx hb hr (fun t9 ht9 hW9 => ⟨⟨_, (), rfl, hf.trans hf0.symm, ⟨by rw [ht9]; exact hR.P, hR.D⟩⟩, hR.sS.F ht9⟩) hR.sS.2.2 dX6_unary_67
  rw [if_neg c9_117] at hf
  (try rw [if_neg c9_117] at hd)
  by_cases c9_136 : x0.toInt = 136
  · refine lv_lookup (off := 67) (tgt := 68) hx hb dX6_unary_1 (by decide) (by rw [c9_136]; decide) (by decide) ?_
    rw [if_pos (c9_136)] at hf
    (try rw [if_pos (c9_136)] at hd)
    refine lv_lload_n hx hb dX6_unary_68 rfl (lv_at hl 1 rfl) ?_
    refine lv_l2i (v := (y1.toInt32)) hx hb dX6_unary_69 rfl ?_
    refine lv_i2l (v := ((y1.toInt32).toInt64)) hx hb dX6_unary_70 rfl ?_
    exact W.lret (v := ((y1.toInt32).toInt64)) hx hb hr (fun t9 ht9 hW9 => ⟨⟨_, (), rfl, hf.trans hf0.symm, ⟨by rw [ht9]; exact hR.P, hR.D⟩⟩, hR.sS.F ht9⟩) hR.sS.2.2 dX6_unary_71
  rw [if_neg c9_136] at hf
  (try rw [if_neg c9_136] at hd)
  by_cases c9_145 : x0.toInt = 145
  · refine lv_lookup (off := 71) (tgt := 72) hx hb dX6_unary_1 (by decide) (by rw [c9_145]; decide) (by decide) ?_
    rw [if_pos (c9_145)] at hf
    (try rw [if_pos (c9_145)] at hd)
    refine lv_lload_n hx hb dX6_unary_72 rfl (lv_at hl 1 rfl) ?_
    refine lv_l2i (v := (y1.toInt32)) hx hb dX6_unary_73 rfl ?_
    refine lv_i2b (v := ((y1.toInt32).toInt8.toInt32)) hx hb dX6_unary_74 rfl ?_
    refine lv_i2l (v := (((y1.toInt32).toInt8.toInt32).toInt64)) hx hb dX6_unary_75 rfl ?_
    exact W.lret (v := (((y1.toInt32).toInt8.toInt32).toInt64)) hx hb hr (fun t9 ht9 hW9 => ⟨⟨_, (), rfl, hf.trans hf0.symm, ⟨by rw [ht9]; exact hR.P, hR.D⟩⟩, hR.sS.F ht9⟩) hR.sS.2.2 dX6_unary_76
  rw [if_neg c9_145] at hf
  (try rw [if_neg c9_145] at hd)
  by_cases c9_146 : x0.toInt = 146
  · refine lv_lookup (off := 76) (tgt := 77) hx hb dX6_unary_1 (by decide) (by rw [c9_146]; decide) (by decide) ?_
    rw [if_pos (c9_146)] at hf
    (try rw [if_pos (c9_146)] at hd)
    refine lv_lload_n hx hb dX6_unary_77 rfl (lv_at hl 1 rfl) ?_
    refine lv_l2i (v := (y1.toInt32)) hx hb dX6_unary_78 rfl ?_
    refine lv_i2c (v := (((y1.toInt32).toUInt32 % 65536).toInt32)) hx hb dX6_unary_79 rfl ?_
    refine lv_i2l (v := ((((y1.toInt32).toUInt32 % 65536).toInt32).toInt64)) hx hb dX6_unary_80 rfl ?_
    exact W.lret (v := ((((y1.toInt32).toUInt32 % 65536).toInt32).toInt64)) hx hb hr (fun t9 ht9 hW9 => ⟨⟨_, (), rfl, hf.trans hf0.symm, ⟨by rw [ht9]; exact hR.P, hR.D⟩⟩, hR.sS.F ht9⟩) hR.sS.2.2 dX6_unary_81
  rw [if_neg c9_146] at hf
  (try rw [if_neg c9_146] at hd)
  by_cases c9_147 : x0.toInt = 147
  · refine lv_lookup (off := 81) (tgt := 82) hx hb dX6_unary_1 (by decide) (by rw [c9_147]; decide) (by decide) ?_
    rw [if_pos (c9_147)] at hf
    (try rw [if_pos (c9_147)] at hd)
    refine lv_lload_n hx hb dX6_unary_82 rfl (lv_at hl 1 rfl) ?_
    refine lv_l2i (v := (y1.toInt32)) hx hb dX6_unary_83 rfl ?_
    refine lv_i2s (v := ((y1.toInt32).toInt16.toInt32)) hx hb dX6_unary_84 rfl ?_
    refine lv_i2l (v := (((y1.toInt32).toInt16.toInt32).toInt64)) hx hb dX6_unary_85 rfl ?_
    exact W.lret (v := (((y1.toInt32).toInt16.toInt32).toInt64)) hx hb hr (fun t9 ht9 hW9 => ⟨⟨_, (), rfl, hf.trans hf0.symm, ⟨by rw [ht9]; exact hR.P, hR.D⟩⟩, hR.sS.F ht9⟩) hR.sS.2.2 dX6_unary_86
  rw [if_neg c9_147] at hf
  (try rw [if_neg c9_147] at hd)
  refine lv_lookup (off := 86) (tgt := 87) hx hb dX6_unary_1 (by decide) (lx_cons c9_116 (lx_cons c9_117 (lx_cons c9_136 (lx_cons c9_145 (lx_cons c9_146 (lx_cons c9_147 lx_nil)))))) (by decide) ?_
  refine lv_lload_n hx hb dX6_unary_87 rfl (lv_at hl 1 rfl) ?_
  exact W.lret (v := y1) hx hb hr (fun t9 ht9 hW9 => ⟨⟨_, (), rfl, hf.trans hf0.symm, ⟨by rw [ht9]; exact hR.P, hR.D⟩⟩, hR.sS.F ht9⟩) hR.sS.2.2 dX6_unary_88
