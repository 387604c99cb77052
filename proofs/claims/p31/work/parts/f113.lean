def fX12_place (S : MS) : Int32 := (qI S 0 14)
def d_X12_place (S : MS) : Prop := True
set_option maxHeartbeats 2000000 in
set_option maxRecDepth 100000 in
theorem rX12_place (l : Launch) (g : Gr) (ad : Nat → Nat) (sz : Nat) (S : MS) (hw : wfC S) (hd : d_X12_place S) : Met l yX12_place (wt yX12_place cX12_place 1 (some .int)) ({ frames := 0, cells := 0, slots := 0, locals := 0 }) (va_Pc [.ref (ad 0)] (st_C g ad sz S)) (va_Qi (fun (r : Int32) (_ : Unit) => r = fX12_place S) (fun (_ : Unit) (t : State) => qEC g ad (va_A (WdC g ad S) sz) S t) (va_A (WdC g ad S) sz)) 0 0 (va_A (WdC g ad S) sz) := by
  refine Met.ofW (cc := cX12_place) (maxL := 1) (ret := (some .int)) (by decide) rfl ?_
  intro p e s m args below meth c s₁ B hml hv
  obtain ⟨rfl, hsz, hP, hK, hD0, hex, hE⟩ := hv
  have hx := B.exec
  have hb := B.bytes
  have hr := B.returns
  have hts0 := atoms_spec (ws := wt yX12_place cX12_place 1 (some .int)) B.pre
  have hts : ∀ w ∈ tb, w.before _ s = true := fun w h => hts0 w (List.mem_cons_of_mem _ h)
  have hown : s.vm.findClass RX12 = some m.cls := findClass_of_methodNamed B.named
  subst hsz
  have hD := hD0.self (sz := s.heap.size)
  generalize hAe : va_A (WdC g ad S) s.heap.size = A at hD hE ⊢
  have hA : ∀ q : Nat, s.heap.size ≤ q → A q := fun q h => by rw [← hAe]; exact Or.inr h
  have hR : RepC g ad A s S s.heap [] := ⟨hK, hP, hD, va_S.rf, hw⟩
  clear hK hP hD hD0
  have hl := lv_entry ([.ref (ad 0)]) (n := 1) (Nat.le_of_ble_eq_true rfl)
  rw [lg_entry_eq]
  generalize (lg_sl ([.ref (ad 0)]) ++ List.replicate (1 - (lg_sl ([.ref (ad 0)])).length) Slot.unset).toArray = ls at hl ⊢
  have hl : lv_has ls 1 [(0, .ref (ad 0))] := hl
  obtain ⟨r0, hf⟩ : ∃ r0, fX12_place S = r0 := ⟨_, rfl⟩
  have hf0 := hf
  unfold fX12_place at hf
  unfold d_X12_place at hd
  refine lv_aload_n hx hb dX12_place_0 rfl (lv_at hl 0 rfl) ?_
  refine va_get (D := rD g) (ci := 11) (v := .int (qI S 0 14)) (C := RX12) (T := TX12) (N := 18) hx hb hts inX12 hown hR.K hR.P 0 (hR.at51 hR.w.1) rfl 14 (by decide) (hts _ kw_371) (fun _ h9 => h9) rfl dX12_place_1 ?_
  exact W.iret (v := (qI S 0 14)) hx hb hr (fun t9 ht9 hW9 => ⟨⟨_, (), rfl, hf.trans hf0.symm, ⟨by rw [ht9]; exact hR.P, hR.D⟩⟩, hR.sS.F ht9⟩) hR.sS.2.2 dX12_place_4
def fX12_method (S : MS) : Int32 := (qI S 0 15)
def d_X12_method (S : MS) : Prop := True
set_option maxHeartbeats 2000000 in
set_option maxRecDepth 100000 in
theorem rX12_method (l : Launch) (g : Gr) (ad : Nat → Nat) (sz : Nat) (S : MS) (hw : wfC S) (hd : d_X12_method S) : Met l yX12_method (wt yX12_method cX12_method 1 (some .int)) ({ frames := 0, cells := 0, slots := 0, locals := 0 }) (va_Pc [.ref (ad 0)] (st_C g ad sz S)) (va_Qi (fun (r : Int32) (_ : Unit) => r = fX12_method S) (fun (_ : Unit) (t : State) => qEC g ad (va_A (WdC g ad S) sz) S t) (va_A (WdC g ad S) sz)) 0 0 (va_A (WdC g ad S) sz) := by
  refine Met.ofW (cc := cX12_method) (maxL := 1) (ret := (some .int)) (by decide) rfl ?_
  intro p e s m args below meth c s₁ B hml hv
  obtain ⟨rfl, hsz, hP, hK, hD0, hex, hE⟩ := hv
  have hx := B.exec
  have hb := B.bytes
  have hr := B.returns
  have hts0 := atoms_spec (ws := wt yX12_method cX12_method 1 (some .int)) B.pre
  have hts : ∀ w ∈ tb, w.before _ s = true := fun w h => hts0 w (List.mem_cons_of_mem _ h)
  have hown : s.vm.findClass RX12 = some m.cls := findClass_of_methodNamed B.named
  subst hsz
  have hD := hD0.self (sz := s.heap.size)
  generalize hAe : va_A (WdC g ad S) s.heap.size = A at hD hE ⊢
  have hA : ∀ q : Nat, s.heap.size ≤ q → A q := fun q h => by rw [← hAe]; exact Or.inr h
  have hR : RepC g ad A s S s.heap [] := ⟨hK, hP, hD, va_S.rf, hw⟩
  clear hK hP hD hD0
  have hl := lv_entry ([.ref (ad 0)]) (n := 1) (Nat.le_of_ble_eq_true rfl)
  rw [lg_entry_eq]
  generalize (lg_sl ([.ref (ad 0)]) ++ List.replicate (1 - (lg_sl ([.ref (ad 0)])).length) Slot.unset).toArray = ls at hl ⊢
  have hl : lv_has ls 1 [(0, .ref (ad 0))] := hl
  obtain ⟨r0, hf⟩ : ∃ r0, fX12_method S = r0 := ⟨_, rfl⟩
  have hf0 := hf
  unfold fX12_method at hf
  unfold d_X12_method at hd
  refine lv_aload_n hx hb dX12_method_0 rfl (lv_at hl 0 rfl) ?_
  refine va_get (D := rD g) (ci := 11) (v := .int (qI S 0 15)) (C := RX12) (T := TX12) (N := 18) hx hb hts inX12 hown hR.K hR.P 0 (hR.at51 hR.w.1) rfl 15 (by decide) (hts _ kw_405) (fun _ h9 => h9) rfl dX12_method_1 ?_
  exact W.iret (v := (qI S 0 15)) hx hb hr (fun t9 ht9 hW9 => ⟨⟨_, (), rfl, hf.trans hf0.symm, ⟨by rw [ht9]; exact hR.P, hR.D⟩⟩, hR.sS.F ht9⟩) hR.sS.2.2 dX12_method_4
def fX12_at (S : MS) : Int32 := (qI S 0 16)
def d_X12_at (S : MS) : Prop := True
set_option maxHeartbeats 2000000 in
set_option maxRecDepth 100000 in
theorem rX12_at (l : Launch) (g : Gr) (ad : Nat → Nat) (sz : Nat) (S : MS) (hw : wfC S) (hd : d_X12_at S) : Met l yX12_at (wt yX12_at cX12_at 1 (some .int)) ({ frames := 0, cells := 0, slots := 0, locals := 0 }) (va_Pc [.ref (ad 0)] (st_C g ad sz S)) (va_Qi (fun (r : Int32) (_ : Unit) => r = fX12_at S) (fun (_ : Unit) (t : State) => qEC g ad (va_A (WdC g ad S) sz) S t) (va_A (WdC g ad S) sz)) 0 0 (va_A (WdC g ad S) sz) := by
  refine Met.ofW (cc := cX12_at) (maxL := 1) (ret := (some .int)) (by decide) rfl ?_
  intro p e s m args below meth c s₁ B hml hv
  obtain ⟨rfl, hsz, hP, hK, hD0, hex, hE⟩ := hv
  have hx := B.exec
  have hb := B.bytes
  have hr := B.returns
  have hts0 := atoms_spec (ws := wt yX12_at cX12_at 1 (some .int)) B.pre
  have hts : ∀ w ∈ tb, w.before _ s = true := fun w h => hts0 w (List.mem_cons_of_mem _ h)
  have hown : s.vm.findClass RX12 = some m.cls := findClass_of_methodNamed B.named
  subst hsz
  have hD := hD0.self (sz := s.heap.size)
  generalize hAe : va_A (WdC g ad S) s.heap.size = A at hD hE ⊢
  have hA : ∀ q : Nat, s.heap.size ≤ q → A q := fun q h => by rw [← hAe]; exact Or.inr h
  have hR : RepC g ad A s S s.heap [] := ⟨hK, hP, hD, va_S.rf, hw⟩
  clear hK hP hD hD0
  have hl := lv_entry ([.ref (ad 0)]) (n := 1) (Nat.le_of_ble_eq_true rfl)
  rw [lg_entry_eq]
  generalize (lg_sl ([.ref (ad 0)]) ++ List.replicate (1 - (lg_sl ([.ref (ad 0)])).length) Slot.unset).toArray = ls at hl ⊢
  have hl : lv_has ls 1 [(0, .ref (ad 0))] := hl
  obtain ⟨r0, hf⟩ : ∃ r0, fX12_at S = r0 := ⟨_, rfl⟩
  have hf0 := hf
  unfold fX12_at at hf
  unfold d_X12_at at hd
  refine lv_aload_n hx hb dX12_at_0 rfl (lv_at hl 0 rfl) ?_
  refine va_get (D := rD g) (ci := 11) (v := .int (qI S 0 16)) (C := RX12) (T := TX12) (N := 18) hx hb hts inX12 hown hR.K hR.P 0 (hR.at51 hR.w.1) rfl 16 (by decide) (hts _ kw_295) (fun _ h9 => h9) rfl dX12_at_1 ?_
  exact W.iret (v := (qI S 0 16)) hx hb hr (fun t9 ht9 hW9 => ⟨⟨_, (), rfl, hf.trans hf0.symm, ⟨by rw [ht9]; exact hR.P, hR.D⟩⟩, hR.sS.F ht9⟩) hR.sS.2.2 dX12_at_4
def f_X12_byteAt_J15 (S : MS) : Int32 := (-1 : Int32)
def d_X12_byteAt_J15 (S : MS) : Prop := True
def fX12_byteAt (S : MS) (x1 : Int32) : Int32 := (if x1.toInt < 0 then f_X12_byteAt_J15 S else (if x1.toInt < (qI S 3 1).toInt then (fX0_get S 3 x1) else f_X12_byteAt_J15 S))
def d_X12_byteAt (S : MS) (x1 : Int32) : Prop := (if x1.toInt < 0 then d_X12_byteAt_J15 S else (if x1.toInt < (qI S 3 1).toInt then (d_X0_get S 3 x1 ∧ True) else d_X12_byteAt_J15 S))
set_option maxHeartbeats 2000000 in
set_option maxRecDepth 100000 in
theorem rX12_byteAt (l : Launch) (g : Gr) (ad : Nat → Nat) (sz : Nat) (S : MS) (x1 : Int32) (hw : wfC S) (hd : d_X12_byteAt S x1) : Met l yX12_byteAt (wt yX12_byteAt cX12_byteAt 2 (some .int)) ({ frames := 1, cells := 0, slots := 0, locals := 21 }) (va_Pc [.ref (ad 0), .int x1] (st_C g ad sz S)) (va_Qi (fun (r : Int32) (_ : Unit) => r = fX12_byteAt S x1) (fun (_ : Unit) (t : State) => qEC g ad (va_A (WdC g ad S) sz) S t) (va_A (WdC g ad S) sz)) 0 0 (va_A (WdC g ad S) sz) := by
  refine Met.ofW (cc := cX12_byteAt) (maxL := 2) (ret := (some .int)) (by decide) rfl ?_
  intro p e s m args below meth c s₁ B hml hv
  obtain ⟨rfl, hsz, hP, hK, hD0, hex, hE⟩ := hv
  have hx := B.exec
  have hb := B.bytes
  have hr := B.returns
  have hts0 := atoms_spec (ws := wt yX12_byteAt cX12_byteAt 2 (some .int)) B.pre
  have hts : ∀ w ∈ tb, w.before _ s = true := fun w h => hts0 w (List.mem_cons_of_mem _ h)
  have hown : s.vm.findClass RX12 = some m.cls := findClass_of_methodNamed B.named
  subst hsz
  have hD := hD0.self (sz := s.heap.size)
  generalize hAe : va_A (WdC g ad S) s.heap.size = A at hD hE ⊢
  have hA : ∀ q : Nat, s.heap.size ≤ q → A q := fun q h => by rw [← hAe]; exact Or.inr h
  have hR : RepC g ad A s S s.heap [] := ⟨hK, hP, hD, va_S.rf, hw⟩
  clear hK hP hD hD0
  have hl := lv_entry ([.ref (ad 0), .int x1]) (n := 2) (Nat.le_of_ble_eq_true rfl)
  rw [lg_entry_eq]
  generalize (lg_sl ([.ref (ad 0), .int x1]) ++ List.replicate (2 - (lg_sl ([.ref (ad 0), .int x1])).length) Slot.unset).toArray = ls at hl ⊢
  have hl : lv_has ls 2 [(0, .ref (ad 0)), (1, .int x1)] := hl
  obtain ⟨r0, hf⟩ : ∃ r0, fX12_byteAt S x1 = r0 := ⟨_, rfl⟩
  have hf0 := hf
  unfold fX12_byteAt at hf
  unfold d_X12_byteAt at hd
  refine lv_iload_n hx hb dX12_byteAt_0 rfl (lv_at hl 1 rfl) ?_
  have J_15 : ∀ (H : Heap) (locs : List Loc) (ls : Array Slot), d_X12_byteAt_J15 S → f_X12_byteAt_J15 S = r0 → RepC g ad A s S H locs → lv_has ls 2 [] → W p l e (headSpec (wt yX12_byteAt cX12_byteAt 2 (some .int)) ({ frames := 1, cells := 0, slots := 0, locals := 21 })).room s m ([.ref (ad 0), .int x1] : List Value).toArray below meth c H locs 0 0 (MQ below (va_Qi (fun (r : Int32) (_ : Unit) => r = fX12_byteAt S x1) (fun (_ : Unit) (t : State) => qEC g ad A S t) A) ([.ref (ad 0), .int x1] : List Value).toArray s 0 0 A) (F0 m 15 ls []) := by
    intro H locs ls hd hf hR hl
    unfold d_X12_byteAt_J15 at hd
    unfold f_X12_byteAt_J15 at hf
    refine lv_iconst (v := (-1)) hx hb dX12_byteAt_15 (by decide) ?_
    refine lv_goto (tgt := 27) hx hb dX12_byteAt_16 (by decide) ?_
    exact W.iret (v := (-1)) hx hb hr (fun t9 ht9 hW9 => ⟨⟨_, (), rfl, hf.trans hf0.symm, ⟨by rw [ht9]; exact hR.P, hR.D⟩⟩, hR.sS.F ht9⟩) hR.sS.2.2 dX12_byteAt_27
  refine lv_if_lt (tgt := 15) hx hb dX12_byteAt_1 (by decide) (fun c1 => ?_) (fun c1 => ?_)
  · rw [if_pos (k_lt rfl (by decide) c1)] at hf
    (try rw [if_pos (k_lt rfl (by decide) c1)] at hd)
    exact J_15 _ _ ls hd hf  hR (lv_sub hl [] rfl)
  · rw [if_neg (k_nlt rfl (by decide) c1)] at hf
    (try rw [if_neg (k_nlt rfl (by decide) c1)] at hd)
    refine lv_iload_n hx hb dX12_byteAt_4 rfl (lv_at hl 1 rfl) ?_
    refine lv_aload_n hx hb dX12_byteAt_5 rfl (lv_at hl 0 rfl) ?_
    refine va_get (D := rD g) (ci := 11) (v := .ref (ad 3)) (C := RX12) (T := TX12) (N := 18) hx hb hts inX12 hown hR.K hR.P 0 (hR.at51 hR.w.1) rfl 1 (by decide) (hts _ kw_310) (fun _ h9 => h9) (congrArg (fun z => some (vf ad z)) (hR.w.2.1 _ finC_23).1) dX12_byteAt_6 ?_
    refine va_get (D := rD g) (ci := 0) (v := .int (qI S 3 1)) (C := RX0) (T := TX0) (N := 2) hx hb hts inX0 hown hR.K hR.P 3 (hR.at40 (hR.w.2.1 _ finC_23).2.1) rfl 1 (by decide) (hts _ kw_311) (fun _ h9 => h9) rfl dX12_byteAt_9 ?_
    refine lv_icmp_lt (tgt := 19) hx hb dX12_byteAt_12 (by decide) (fun c2 => ?_) (fun c2 => ?_)
    · rw [if_pos (k_lt rfl rfl c2)] at hf
      (try rw [if_pos (k_lt rfl rfl c2)] at hd)
      refine lv_aload_n hx hb dX12_byteAt_19 rfl (lv_at hl 0 rfl) ?_
      refine va_get (D := rD g) (ci := 11) (v := .ref (ad 3)) (C := RX12) (T := TX12) (N := 18) hx hb hts inX12 hown hR.K hR.P 0 (hR.at51 hR.w.1) rfl 1 (by decide) (hts _ kw_310) (fun _ h9 => h9) (congrArg (fun z => some (vf ad z)) (hR.w.2.1 _ finC_23).1) dX12_byteAt_20 ?_
      refine lv_iload_n hx hb dX12_byteAt_23 rfl (lv_at hl 1 rfl) ?_
      obtain ⟨hv3, hd⟩ := hd
      have hFc := cfree hR hA
      refine va_calli (va_runV (As := [.int x1]) (rest := []) ⟨hx, hb, hml, hown, hts⟩ (rX0_get l g ad s.heap.size S 3 x1 hR.w (hR.w.2.1 _ finC_23).2.1 hv3) (cwV 1 hts (gd_V kw_312 kw_1 kw_2 kw_3 kw_0) rfl rfl rfl (by decide +kernel) ⟨Nat.le_of_ble_eq_true rfl, Nat.le_of_ble_eq_true rfl⟩) ⟨cblind, va_recv hR.K hR.P (ci := 0) (q0 := 3) rfl (hR.at40 (hR.w.2.1 _ finC_23).2.1), fun U hU hW9 => cmk hU hW9 hR hex hE hFc⟩ rfl rfl hl.1 rfl (lv_room (Nat.le_of_ble_eq_true rfl)) dX12_byteAt_24 ⟨Nat.le_of_ble_eq_true rfl, Nat.le_of_ble_eq_true rfl⟩) hR.sS (fun q _ h => hFc q h) hFc (fun r4 u9 t9 H1 locs ht9 hvm9 hw9 hB9 hz9 hk9 hS => ?_)
      have hR : RepC g ad A s S H1 locs := hR.call ht9 hB9 hR.w hS hFc
      obtain rfl : r4 = (fX0_get S 3 x1) := hw9
      clear hB9 hz9 hk9 hvm9 ht9 hS
      generalize H1 = H at hR ⊢
      exact W.iret (v := (fX0_get S 3 x1)) hx hb hr (fun t9 ht9 hW9 => ⟨⟨_, (), rfl, hf.trans hf0.symm, ⟨by rw [ht9]; exact hR.P, hR.D⟩⟩, hR.sS.F ht9⟩) hR.sS.2.2 dX12_byteAt_27
    · rw [if_neg (k_nlt rfl rfl c2)] at hf
      (try rw [if_neg (k_nlt rfl rfl c2)] at hd)
      exact J_15 _ _ ls hd hf  hR (lv_sub hl [] rfl)
def wX12_argument (S : MS) (y1 : Int64) (Q : Int32 → MS → Prop) : Prop := (∃ Q1, wX5_addArgument S y1 Q1 ∧ ∀ r2 S3, Q1 r2 S3 → wfC S3 → shy S S3 → Q r2 S3)
set_option maxHeartbeats 2000000 in
set_option maxRecDepth 100000 in
theorem rX12_argument (l : Launch) (g : Gr) (ad : Nat → Nat) (sz : Nat) (S : MS) (y1 : Int64) (hw : wfC S) (Q : Int32 → MS → Prop) (h : wX12_argument S y1 Q) : Met l yX12_argument (wt yX12_argument cX12_argument 3 (some .int)) ({ frames := 1, cells := 0, slots := 0, locals := 22 }) (va_Pc [.ref (ad 0), .long y1] (st_C g ad sz S)) (va_Qi (fun (r : Int32) (u : MS) => Q r u ∧ wfC u ∧ shy S u) (fun (u : MS) (t : State) => qEC g ad (va_A (WdC g ad S) sz) u t) (va_A (WdC g ad S) sz)) 0 0 (va_A (WdC g ad S) sz) := by
  refine Met.ofW (cc := cX12_argument) (maxL := 3) (ret := (some .int)) (by decide) rfl ?_
  intro p e s m args below meth c s₁ B hml hv
  obtain ⟨rfl, hsz, hP, hK, hD0, hex, hE⟩ := hv
  have hx := B.exec
  have hb := B.bytes
  have hr := B.returns
  have hts0 := atoms_spec (ws := wt yX12_argument cX12_argument 3 (some .int)) B.pre
  have hts : ∀ w ∈ tb, w.before _ s = true := fun w h => hts0 w (List.mem_cons_of_mem _ h)
  have hown : s.vm.findClass RX12 = some m.cls := findClass_of_methodNamed B.named
  subst hsz
  have hD := hD0.self (sz := s.heap.size)
  generalize hAe : va_A (WdC g ad S) s.heap.size = A at hD hE ⊢
  have hA : ∀ q : Nat, s.heap.size ≤ q → A q := fun q h => by rw [← hAe]; exact Or.inr h
  have hR : RepC g ad A s S s.heap [] := ⟨hK, hP, hD, va_S.rf, hw⟩
  clear hK hP hD hD0
  have hl := lv_entry ([.ref (ad 0), .long y1]) (n := 3) (Nat.le_of_ble_eq_true rfl)
  rw [lg_entry_eq]
  generalize (lg_sl ([.ref (ad 0), .long y1]) ++ List.replicate (3 - (lg_sl ([.ref (ad 0), .long y1])).length) Slot.unset).toArray = ls at hl ⊢
  have hl : lv_has ls 3 [(0, .ref (ad 0)), (1, .long y1)] := hl
  have hsh : shy S S := shy.rf
  unfold wX12_argument at h
  refine lv_aload_n hx hb dX12_argument_0 rfl (lv_at hl 0 rfl) ?_
  refine va_get (D := rD g) (ci := 11) (v := .ref (ad 44)) (C := RX12) (T := TX12) (N := 18) hx hb hts inX12 hown hR.K hR.P 0 (hR.at51 hR.w.1) rfl 7 (by decide) (hts _ kw_286) (fun _ h9 => h9) (congrArg (fun z => some (vf ad z)) (hR.w.2.1 _ finC_29).1) dX12_argument_1 ?_
  refine lv_lload_n hx hb dX12_argument_4 rfl (lv_at hl 1 rfl) ?_
  obtain ⟨Q1, h0, h⟩ := h
  have hFc := cfree hR hA
  refine va_calli (va_runV (As := [.long y1]) (rest := []) ⟨hx, hb, hml, hown, hts⟩ (rX5_addArgument l g ad s.heap.size S y1 hR.w  Q1 h0) (cwV 1 hts (gd_V kw_287 kw_1001 kw_1002 kw_398 kw_1000) rfl rfl rfl (by decide +kernel) ⟨Nat.le_of_ble_eq_true rfl, Nat.le_of_ble_eq_true rfl⟩) ⟨cblind, va_recv hR.K hR.P (ci := 5) (q0 := 44) rfl (hR.at45 (hR.w.2.1 _ finC_29).2.1), fun U hU hW9 => cmk hU hW9 hR hex hE hFc⟩ rfl rfl hl.1 rfl (lv_room (Nat.le_of_ble_eq_true rfl)) dX12_argument_5 ⟨Nat.le_of_ble_eq_true rfl, Nat.le_of_ble_eq_true rfl⟩) hR.sS (fun q _ h => hFc q h) hFc (fun r2 S3 t9 H1 locs ht9 hvm9 hw9 hB9 hz9 hk9 hS => ?_)
  obtain ⟨hq4, hw9, hs9⟩ := hw9
  have hR : RepC g ad A s S3 H1 locs := hR.call ht9 hB9 hw9 hS hFc
  have hsh := hsh.tr hs9
  replace h := h r2 S3 hq4 hw9 hs9
  clear hB9 hz9 hk9 hvm9 ht9 hw9 hs9 hS
  generalize H1 = H at hR ⊢
  exact W.iret (v := r2) hx hb hr (fun t9 ht9 hW9 => ⟨⟨_, S3, rfl, ⟨h, hR.w, hsh⟩, ⟨by rw [ht9]; exact hR.P, hR.D⟩⟩, hR.sS.F ht9⟩) hR.sS.2.2 dX12_argument_8
def fX12_result (S : MS) : Int64 := (qJ S 44 16)
def d_X12_result (S : MS) : Prop := True
set_option maxHeartbeats 2000000 in
set_option maxRecDepth 100000 in
theorem rX12_result (l : Launch) (g : Gr) (ad : Nat → Nat) (sz : Nat) (S : MS) (hw : wfC S) (hd : d_X12_result S) : Met l yX12_result (wt yX12_result cX12_result 1 (some .long)) ({ frames := 0, cells := 0, slots := 0, locals := 0 }) (va_Pc [.ref (ad 0)] (st_C g ad sz S)) (va_Ql (fun (r : Int64) (_ : Unit) => r = fX12_result S) (fun (_ : Unit) (t : State) => qEC g ad (va_A (WdC g ad S) sz) S t) (va_A (WdC g ad S) sz)) 0 0 (va_A (WdC g ad S) sz) := by
  refine Met.ofW (cc := cX12_result) (maxL := 1) (ret := (some .long)) (by decide) rfl ?_
  intro p e s m args below meth c s₁ B hml hv
  obtain ⟨rfl, hsz, hP, hK, hD0, hex, hE⟩ := hv
  have hx := B.exec
  have hb := B.bytes
  have hr := B.returns
  have hts0 := atoms_spec (ws := wt yX12_result cX12_result 1 (some .long)) B.pre
  have hts : ∀ w ∈ tb, w.before _ s = true := fun w h => hts0 w (List.mem_cons_of_mem _ h)
  have hown : s.vm.findClass RX12 = some m.cls := findClass_of_methodNamed B.named
  subst hsz
  have hD := hD0.self (sz := s.heap.size)
  generalize hAe : va_A (WdC g ad S) s.heap.size = A at hD hE ⊢
  have hA : ∀ q : Nat, s.heap.size ≤ q → A q := fun q h => by rw [← hAe]; exact Or.inr h
  have hR : RepC g ad A s S s.heap [] := ⟨hK, hP, hD, va_S.rf, hw⟩
  clear hK hP hD hD0
  have hl := lv_entry ([.ref (ad 0)]) (n := 1) (Nat.le_of_ble_eq_true rfl)
  rw [lg_entry_eq]
  generalize (lg_sl ([.ref (ad 0)]) ++ List.replicate (1 - (lg_sl ([.ref (ad 0)])).length) Slot.unset).toArray = ls at hl ⊢
  have hl : lv_has ls 1 [(0, .ref (ad 0))] := hl
  obtain ⟨r0, hf⟩ : ∃ r0, fX12_result S = r0 := ⟨_, rfl⟩
  have hf0 := hf
  unfold fX12_result at hf
  unfold d_X12_result at hd
  refine lv_aload_n hx hb dX12_result_0 rfl (lv_at hl 0 rfl) ?_
  refine va_get (D := rD g) (ci := 11) (v := .ref (ad 44)) (C := RX12) (T := TX12) (N := 18) hx hb hts inX12 hown hR.K hR.P 0 (hR.at51 hR.w.1) rfl 7 (by decide) (hts _ kw_286) (fun _ h9 => h9) (congrArg (fun z => some (vf ad z)) (hR.w.2.1 _ finC_29).1) dX12_result_1 ?_
  refine va_get (D := rD g) (ci := 5) (v := .long (qJ S 44 16)) (C := RX5) (T := TX5) (N := 20) hx hb hts inX5 hown hR.K hR.P 44 (hR.at45 (hR.w.2.1 _ finC_29).2.1) rfl 16 (by decide) (hts _ kw_427) (fun _ h9 => h9) rfl dX12_result_4 ?_
  exact W.lret (v := (qJ S 44 16)) hx hb hr (fun t9 ht9 hW9 => ⟨⟨_, (), rfl, hf.trans hf0.symm, ⟨by rw [ht9]; exact hR.P, hR.D⟩⟩, hR.sS.F ht9⟩) hR.sS.2.2 dX12_result_7
def fX12_error (S : MS) : Int32 := (qI S 44 17)
def d_X12_error (S : MS) : Prop := True
set_option maxHeartbeats 2000000 in
set_option maxRecDepth 100000 in
theorem rX12_error (l : Launch) (g : Gr) (ad : Nat → Nat) (sz : Nat) (S : MS) (hw : wfC S) (hd : d_X12_error S) : Met l yX12_error (wt yX12_error cX12_error 1 (some .int)) ({ frames := 0, cells := 0, slots := 0, locals := 0 }) (va_Pc [.ref (ad 0)] (st_C g ad sz S)) (va_Qi (fun (r : Int32) (_ : Unit) => r = fX12_error S) (fun (_ : Unit) (t : State) => qEC g ad (va_A (WdC g ad S) sz) S t) (va_A (WdC g ad S) sz)) 0 0 (va_A (WdC g ad S) sz) := by
  refine Met.ofW (cc := cX12_error) (maxL := 1) (ret := (some .int)) (by decide) rfl ?_
  intro p e s m args below meth c s₁ B hml hv
  obtain ⟨rfl, hsz, hP, hK, hD0, hex, hE⟩ := hv
  have hx := B.exec
  have hb := B.bytes
  have hr := B.returns
  have hts0 := atoms_spec (ws := wt yX12_error cX12_error 1 (some .int)) B.pre
  have hts : ∀ w ∈ tb, w.before _ s = true := fun w h => hts0 w (List.mem_cons_of_mem _ h)
  have hown : s.vm.findClass RX12 = some m.cls := findClass_of_methodNamed B.named
  subst hsz
  have hD := hD0.self (sz := s.heap.size)
  generalize hAe : va_A (WdC g ad S) s.heap.size = A at hD hE ⊢
  have hA : ∀ q : Nat, s.heap.size ≤ q → A q := fun q h => by rw [← hAe]; exact Or.inr h
  have hR : RepC g ad A s S s.heap [] := ⟨hK, hP, hD, va_S.rf, hw⟩
  clear hK hP hD hD0
  have hl := lv_entry ([.ref (ad 0)]) (n := 1) (Nat.le_of_ble_eq_true rfl)
  rw [lg_entry_eq]
  generalize (lg_sl ([.ref (ad 0)]) ++ List.replicate (1 - (lg_sl ([.ref (ad 0)])).length) Slot.unset).toArray = ls at hl ⊢
  have hl : lv_has ls 1 [(0, .ref (ad 0))] := hl
  obtain ⟨r0, hf⟩ : ∃ r0, fX12_error S = r0 := ⟨_, rfl⟩
  have hf0 := hf
  unfold fX12_error at hf
  unfold d_X12_error at hd
  refine lv_aload_n hx hb dX12_error_0 rfl (lv_at hl 0 rfl) ?_
  refine va_get (D := rD g) (ci := 11) (v := .ref (ad 44)) (C := RX12) (T := TX12) (N := 18) hx hb hts inX12 hown hR.K hR.P 0 (hR.at51 hR.w.1) rfl 7 (by decide) (hts _ kw_286) (fun _ h9 => h9) (congrArg (fun z => some (vf ad z)) (hR.w.2.1 _ finC_29).1) dX12_error_1 ?_
  refine va_get (D := rD g) (ci := 5) (v := .int (qI S 44 17)) (C := RX5) (T := TX5) (N := 20) hx hb hts inX5 hown hR.K hR.P 44 (hR.at45 (hR.w.2.1 _ finC_29).2.1) rfl 17 (by decide) (hts _ kw_353) (fun _ h9 => h9) rfl dX12_error_4 ?_
  exact W.iret (v := (qI S 44 17)) hx hb hr (fun t9 ht9 hW9 => ⟨⟨_, (), rfl, hf.trans hf0.symm, ⟨by rw [ht9]; exact hR.P, hR.D⟩⟩, hR.sS.F ht9⟩) hR.sS.2.2 dX12_error_7
def fX12_steps (S : MS) : Int32 := (qI S 44 18)
def d_X12_steps (S : MS) : Prop := True
set_option maxHeartbeats 2000000 in
set_option maxRecDepth 100000 in
theorem rX12_steps (l : Launch) (g : Gr) (ad : Nat → Nat) (sz : Nat) (S : MS) (hw : wfC S) (hd : d_X12_steps S) : Met l yX12_steps (wt yX12_steps cX12_steps 1 (some .int)) ({ frames := 0, cells := 0, slots := 0, locals := 0 }) (va_Pc [.ref (ad 0)] (st_C g ad sz S)) (va_Qi (fun (r : Int32) (_ : Unit) => r = fX12_steps S) (fun (_ : Unit) (t : State) => qEC g ad (va_A (WdC g ad S) sz) S t) (va_A (WdC g ad S) sz)) 0 0 (va_A (WdC g ad S) sz) := by
  refine Met.ofW (cc := cX12_steps) (maxL := 1) (ret := (some .int)) (by decide) rfl ?_
  intro p e s m args below meth c s₁ B hml hv
  obtain ⟨rfl, hsz, hP, hK, hD0, hex, hE⟩ := hv
  have hx := B.exec
  have hb := B.bytes
  have hr := B.returns
  have hts0 := atoms_spec (ws := wt yX12_steps cX12_steps 1 (some .int)) B.pre
  have hts : ∀ w ∈ tb, w.before _ s = true := fun w h => hts0 w (List.mem_cons_of_mem _ h)
  have hown : s.vm.findClass RX12 = some m.cls := findClass_of_methodNamed B.named
  subst hsz
  have hD := hD0.self (sz := s.heap.size)
  generalize hAe : va_A (WdC g ad S) s.heap.size = A at hD hE ⊢
  have hA : ∀ q : Nat, s.heap.size ≤ q → A q := fun q h => by rw [← hAe]; exact Or.inr h
  have hR : RepC g ad A s S s.heap [] := ⟨hK, hP, hD, va_S.rf, hw⟩
  clear hK hP hD hD0
  have hl := lv_entry ([.ref (ad 0)]) (n := 1) (Nat.le_of_ble_eq_true rfl)
  rw [lg_entry_eq]
  generalize (lg_sl ([.ref (ad 0)]) ++ List.replicate (1 - (lg_sl ([.ref (ad 0)])).length) Slot.unset).toArray = ls at hl ⊢
  have hl : lv_has ls 1 [(0, .ref (ad 0))] := hl
  obtain ⟨r0, hf⟩ : ∃ r0, fX12_steps S = r0 := ⟨_, rfl⟩
  have hf0 := hf
  unfold fX12_steps at hf
  unfold d_X12_steps at hd
  refine lv_aload_n hx hb dX12_steps_0 rfl (lv_at hl 0 rfl) ?_
  refine va_get (D := rD g) (ci := 11) (v := .ref (ad 44)) (C := RX12) (T := TX12) (N := 18) hx hb hts inX12 hown hR.K hR.P 0 (hR.at51 hR.w.1) rfl 7 (by decide) (hts _ kw_286) (fun _ h9 => h9) (congrArg (fun z => some (vf ad z)) (hR.w.2.1 _ finC_29).1) dX12_steps_1 ?_
  refine va_get (D := rD g) (ci := 5) (v := .int (qI S 44 18)) (C := RX5) (T := TX5) (N := 20) hx hb hts inX5 hown hR.K hR.P 44 (hR.at45 (hR.w.2.1 _ finC_29).2.1) rfl 18 (by decide) (hts _ kw_458) (fun _ h9 => h9) rfl dX12_steps_4 ?_
  exact W.iret (v := (qI S 44 18)) hx hb hr (fun t9 ht9 hW9 => ⟨⟨_, (), rfl, hf.trans hf0.symm, ⟨by rw [ht9]; exact hR.P, hR.D⟩⟩, hR.sS.F ht9⟩) hR.sS.2.2 dX12_steps_7
def fX12_field (S : MS) (x1 : Int32) : Int64 := (fX5_fieldAt S x1)
def d_X12_field (S : MS) (x1 : Int32) : Prop := (d_X5_fieldAt S x1 ∧ True)
set_option maxHeartbeats 2000000 in
set_option maxRecDepth 100000 in
theorem rX12_field (l : Launch) (g : Gr) (ad : Nat → Nat) (sz : Nat) (S : MS) (x1 : Int32) (hw : wfC S) (hd : d_X12_field S x1) : Met l yX12_field (wt yX12_field cX12_field 2 (some .long)) ({ frames := 1, cells := 0, slots := 0, locals := 21 }) (va_Pc [.ref (ad 0), .int x1] (st_C g ad sz S)) (va_Ql (fun (r : Int64) (_ : Unit) => r = fX12_field S x1) (fun (_ : Unit) (t : State) => qEC g ad (va_A (WdC g ad S) sz) S t) (va_A (WdC g ad S) sz)) 0 0 (va_A (WdC g ad S) sz) := by
  refine Met.ofW (cc := cX12_field) (maxL := 2) (ret := (some .long)) (by decide) rfl ?_
  intro p e s m args below meth c s₁ B hml hv
  obtain ⟨rfl, hsz, hP, hK, hD0, hex, hE⟩ := hv
  have hx := B.exec
  have hb := B.bytes
  have hr := B.returns
  have hts0 := atoms_spec (ws := wt yX12_field cX12_field 2 (some .long)) B.pre
  have hts : ∀ w ∈ tb, w.before _ s = true := fun w h => hts0 w (List.mem_cons_of_mem _ h)
  have hown : s.vm.findClass RX12 = some m.cls := findClass_of_methodNamed B.named
  subst hsz
  have hD := hD0.self (sz := s.heap.size)
  generalize hAe : va_A (WdC g ad S) s.heap.size = A at hD hE ⊢
  have hA : ∀ q : Nat, s.heap.size ≤ q → A q := fun q h => by rw [← hAe]; exact Or.inr h
  have hR : RepC g ad A s S s.heap [] := ⟨hK, hP, hD, va_S.rf, hw⟩
  clear hK hP hD hD0
  have hl := lv_entry ([.ref (ad 0), .int x1]) (n := 2) (Nat.le_of_ble_eq_true rfl)
  rw [lg_entry_eq]
  generalize (lg_sl ([.ref (ad 0), .int x1]) ++ List.replicate (2 - (lg_sl ([.ref (ad 0), .int x1])).length) Slot.unset).toArray = ls at hl ⊢
  have hl : lv_has ls 2 [(0, .ref (ad 0)), (1, .int x1)] := hl
  obtain ⟨r0, hf⟩ : ∃ r0, fX12_field S x1 = r0 := ⟨_, rfl⟩
  have hf0 := hf
  unfold fX12_field at hf
  unfold d_X12_field at hd
  refine lv_aload_n hx hb dX12_field_0 rfl (lv_at hl 0 rfl) ?_
  refine va_get (D := rD g) (ci := 11) (v := .ref (ad 44)) (C := RX12) (T := TX12) (N := 18) hx hb hts inX12 hown hR.K hR.P 0 (hR.at51 hR.w.1) rfl 7 (by decide) (hts _ kw_286) (fun _ h9 => h9) (congrArg (fun z => some (vf ad z)) (hR.w.2.1 _ finC_29).1) dX12_field_1 ?_
  refine lv_iload_n hx hb dX12_field_4 rfl (lv_at hl 1 rfl) ?_
  obtain ⟨hv1, hd⟩ := hd
  have hFc := cfree hR hA
  refine va_calll (va_runV (As := [.int x1]) (rest := []) ⟨hx, hb, hml, hown, hts⟩ (rX5_fieldAt l g ad s.heap.size S x1 hR.w  hv1) (cwV 1 hts (gd_V kw_363 kw_1051 kw_1052 kw_398 kw_1050) rfl rfl rfl (by decide +kernel) ⟨Nat.le_of_ble_eq_true rfl, Nat.le_of_ble_eq_true rfl⟩) ⟨cblind, va_recv hR.K hR.P (ci := 5) (q0 := 44) rfl (hR.at45 (hR.w.2.1 _ finC_29).2.1), fun U hU hW9 => cmk hU hW9 hR hex hE hFc⟩ rfl rfl hl.1 rfl (lv_room (Nat.le_of_ble_eq_true rfl)) dX12_field_5 ⟨Nat.le_of_ble_eq_true rfl, Nat.le_of_ble_eq_true rfl⟩) hR.sS (fun q _ h => hFc q h) hFc (fun r2 u9 t9 H1 locs ht9 hvm9 hw9 hB9 hz9 hk9 hS => ?_)
  have hR : RepC g ad A s S H1 locs := hR.call ht9 hB9 hR.w hS hFc
  obtain rfl : r2 = (fX5_fieldAt S x1) := hw9
  clear hB9 hz9 hk9 hvm9 ht9 hS
  generalize H1 = H at hR ⊢
  exact W.lret (v := (fX5_fieldAt S x1)) hx hb hr (fun t9 ht9 hW9 => ⟨⟨_, (), rfl, hf.trans hf0.symm, ⟨by rw [ht9]; exact hR.P, hR.D⟩⟩, hR.sS.F ht9⟩) hR.sS.2.2 dX12_field_8
def fX12_applied (S : MS) (x1 : Int32) : Int32 := (fX9_appliedAt S x1)
def d_X12_applied (S : MS) (x1 : Int32) : Prop := (d_X9_appliedAt S x1 ∧ True)
set_option maxHeartbeats 2000000 in
set_option maxRecDepth 100000 in
theorem rX12_applied (l : Launch) (g : Gr) (ad : Nat → Nat) (sz : Nat) (S : MS) (x1 : Int32) (hw : wfC S) (hd : d_X12_applied S x1) : Met l yX12_applied (wt yX12_applied cX12_applied 2 (some .int)) ({ frames := 1, cells := 0, slots := 0, locals := 21 }) (va_Pc [.ref (ad 0), .int x1] (st_C g ad sz S)) (va_Qi (fun (r : Int32) (_ : Unit) => r = fX12_applied S x1) (fun (_ : Unit) (t : State) => qEC g ad (va_A (WdC g ad S) sz) S t) (va_A (WdC g ad S) sz)) 0 0 (va_A (WdC g ad S) sz) := by
  refine Met.ofW (cc := cX12_applied) (maxL := 2) (ret := (some .int)) (by decide) rfl ?_
  intro p e s m args below meth c s₁ B hml hv
  obtain ⟨rfl, hsz, hP, hK, hD0, hex, hE⟩ := hv
  have hx := B.exec
  have hb := B.bytes
  have hr := B.returns
  have hts0 := atoms_spec (ws := wt yX12_applied cX12_applied 2 (some .int)) B.pre
  have hts : ∀ w ∈ tb, w.before _ s = true := fun w h => hts0 w (List.mem_cons_of_mem _ h)
  have hown : s.vm.findClass RX12 = some m.cls := findClass_of_methodNamed B.named
  subst hsz
  have hD := hD0.self (sz := s.heap.size)
  generalize hAe : va_A (WdC g ad S) s.heap.size = A at hD hE ⊢
  have hA : ∀ q : Nat, s.heap.size ≤ q → A q := fun q h => by rw [← hAe]; exact Or.inr h
  have hR : RepC g ad A s S s.heap [] := ⟨hK, hP, hD, va_S.rf, hw⟩
  clear hK hP hD hD0
  have hl := lv_entry ([.ref (ad 0), .int x1]) (n := 2) (Nat.le_of_ble_eq_true rfl)
  rw [lg_entry_eq]
  generalize (lg_sl ([.ref (ad 0), .int x1]) ++ List.replicate (2 - (lg_sl ([.ref (ad 0), .int x1])).length) Slot.unset).toArray = ls at hl ⊢
  have hl : lv_has ls 2 [(0, .ref (ad 0)), (1, .int x1)] := hl
  obtain ⟨r0, hf⟩ : ∃ r0, fX12_applied S x1 = r0 := ⟨_, rfl⟩
  have hf0 := hf
  unfold fX12_applied at hf
  unfold d_X12_applied at hd
  refine lv_aload_n hx hb dX12_applied_0 rfl (lv_at hl 0 rfl) ?_
  refine va_get (D := rD g) (ci := 11) (v := .ref (ad 66)) (C := RX12) (T := TX12) (N := 18) hx hb hts inX12 hown hR.K hR.P 0 (hR.at51 hR.w.1) rfl 9 (by decide) (hts _ kw_281) (fun _ h9 => h9) (congrArg (fun z => some (vf ad z)) (hR.w.2.1 _ finC_31).1) dX12_applied_1 ?_
  refine lv_iload_n hx hb dX12_applied_4 rfl (lv_at hl 1 rfl) ?_
  obtain ⟨hv1, hd⟩ := hd
  have hFc := cfree hR hA
  refine va_calli (va_runV (As := [.int x1]) (rest := []) ⟨hx, hb, hml, hown, hts⟩ (rX9_appliedAt l g ad s.heap.size S x1 hR.w  hv1) (cwV 1 hts (gd_V kw_282 kw_1545 kw_1546 kw_404 kw_1544) rfl rfl rfl (by decide +kernel) ⟨Nat.le_of_ble_eq_true rfl, Nat.le_of_ble_eq_true rfl⟩) ⟨cblind, va_recv hR.K hR.P (ci := 8) (q0 := 66) rfl (hR.at48 (hR.w.2.1 _ finC_31).2.1), fun U hU hW9 => cmk hU hW9 hR hex hE hFc⟩ rfl rfl hl.1 rfl (lv_room (Nat.le_of_ble_eq_true rfl)) dX12_applied_5 ⟨Nat.le_of_ble_eq_true rfl, Nat.le_of_ble_eq_true rfl⟩) hR.sS (fun q _ h => hFc q h) hFc (fun r2 u9 t9 H1 locs ht9 hvm9 hw9 hB9 hz9 hk9 hS => ?_)
  have hR : RepC g ad A s S H1 locs := hR.call ht9 hB9 hR.w hS hFc
  obtain rfl : r2 = (fX9_appliedAt S x1) := hw9
  clear hB9 hz9 hk9 hvm9 ht9 hS
  generalize H1 = H at hR ⊢
  exact W.iret (v := (fX9_appliedAt S x1)) hx hb hr (fun t9 ht9 hW9 => ⟨⟨_, (), rfl, hf.trans hf0.symm, ⟨by rw [ht9]; exact hR.P, hR.D⟩⟩, hR.sS.F ht9⟩) hR.sS.2.2 dX12_applied_8
def fX12_strays (S : MS) : Int32 := (qI S 44 19)
def d_X12_strays (S : MS) : Prop := True
set_option maxHeartbeats 2000000 in
set_option maxRecDepth 100000 in
theorem rX12_strays (l : Launch) (g : Gr) (ad : Nat → Nat) (sz : Nat) (S : MS) (hw : wfC S) (hd : d_X12_strays S) : Met l yX12_strays (wt yX12_strays cX12_strays 1 (some .int)) ({ frames := 0, cells := 0, slots := 0, locals := 0 }) (va_Pc [.ref (ad 0)] (st_C g ad sz S)) (va_Qi (fun (r : Int32) (_ : Unit) => r = fX12_strays S) (fun (_ : Unit) (t : State) => qEC g ad (va_A (WdC g ad S) sz) S t) (va_A (WdC g ad S) sz)) 0 0 (va_A (WdC g ad S) sz) := by
  refine Met.ofW (cc := cX12_strays) (maxL := 1) (ret := (some .int)) (by decide) rfl ?_
  intro p e s m args below meth c s₁ B hml hv
  obtain ⟨rfl, hsz, hP, hK, hD0, hex, hE⟩ := hv
  have hx := B.exec
  have hb := B.bytes
  have hr := B.returns
  have hts0 := atoms_spec (ws := wt yX12_strays cX12_strays 1 (some .int)) B.pre
  have hts : ∀ w ∈ tb, w.before _ s = true := fun w h => hts0 w (List.mem_cons_of_mem _ h)
  have hown : s.vm.findClass RX12 = some m.cls := findClass_of_methodNamed B.named
  subst hsz
  have hD := hD0.self (sz := s.heap.size)
  generalize hAe : va_A (WdC g ad S) s.heap.size = A at hD hE ⊢
  have hA : ∀ q : Nat, s.heap.size ≤ q → A q := fun q h => by rw [← hAe]; exact Or.inr h
  have hR : RepC g ad A s S s.heap [] := ⟨hK, hP, hD, va_S.rf, hw⟩
  clear hK hP hD hD0
  have hl := lv_entry ([.ref (ad 0)]) (n := 1) (Nat.le_of_ble_eq_true rfl)
  rw [lg_entry_eq]
  generalize (lg_sl ([.ref (ad 0)]) ++ List.replicate (1 - (lg_sl ([.ref (ad 0)])).length) Slot.unset).toArray = ls at hl ⊢
  have hl : lv_has ls 1 [(0, .ref (ad 0))] := hl
  obtain ⟨r0, hf⟩ : ∃ r0, fX12_strays S = r0 := ⟨_, rfl⟩
  have hf0 := hf
  unfold fX12_strays at hf
  unfold d_X12_strays at hd
  refine lv_aload_n hx hb dX12_strays_0 rfl (lv_at hl 0 rfl) ?_
  refine va_get (D := rD g) (ci := 11) (v := .ref (ad 44)) (C := RX12) (T := TX12) (N := 18) hx hb hts inX12 hown hR.K hR.P 0 (hR.at51 hR.w.1) rfl 7 (by decide) (hts _ kw_286) (fun _ h9 => h9) (congrArg (fun z => some (vf ad z)) (hR.w.2.1 _ finC_29).1) dX12_strays_1 ?_
  refine va_get (D := rD g) (ci := 5) (v := .int (qI S 44 19)) (C := RX5) (T := TX5) (N := 20) hx hb hts inX5 hown hR.K hR.P 44 (hR.at45 (hR.w.2.1 _ finC_29).2.1) rfl 19 (by decide) (hts _ kw_462) (fun _ h9 => h9) rfl dX12_strays_4 ?_
  exact W.iret (v := (qI S 44 19)) hx hb hr (fun t9 ht9 hW9 => ⟨⟨_, (), rfl, hf.trans hf0.symm, ⟨by rw [ht9]; exact hR.P, hR.D⟩⟩, hR.sS.F ht9⟩) hR.sS.2.2 dX12_strays_7
def w_X12_unitAt_J12 (Q : Option Nat → MS → Prop) (U12 : MS) : Prop := (wfC U12 → Q none U12)
def wX12_unitAt (S : MS) (x1 : Int32) (Q : Option Nat → MS → Prop) : Prop := ((x1.toInt < 0 → w_X12_unitAt_J12 Q S) ∧ (¬ x1.toInt < 0 → ((x1.toInt < (qI S 0 11).toInt → (((0 : Int) ≤ x1.toInt ∧ x1.toInt < 12) ∧ (((qR S 7 x1.toInt.toNat) = none → Q none S) ∧ (¬ (qR S 7 x1.toInt.toNat) = none → Q (some (((qR S 7 x1.toInt.toNat)).getD 0)) S)))) ∧ (¬ x1.toInt < (qI S 0 11).toInt → w_X12_unitAt_J12 Q S))))
set_option maxHeartbeats 2000000 in
set_option maxRecDepth 100000 in
theorem rX12_unitAt (l : Launch) (g : Gr) (ad : Nat → Nat) (sz : Nat) (S : MS) (x1 : Int32) (hw : wfC S) (Q : Option Nat → MS → Prop) (h : wX12_unitAt S x1 Q) : Met l yX12_unitAt (wt yX12_unitAt cX12_unitAt 2 (some (.object "CodeFoundry$Unit"))) ({ frames := 0, cells := 0, slots := 0, locals := 0 }) (va_Pc [.ref (ad 0), .int x1] (st_C g ad sz S)) (va_Qq (fun (r : Option Nat) (u : MS) => ∃ b : Option Nat, r = b.map ad ∧ Q b u ∧ wfC u ∧ shy S u ∧ ∀ z, b = some z → qT u z = 49) (fun (u : MS) (t : State) => qEC g ad (va_A (WdC g ad S) sz) u t) (va_A (WdC g ad S) sz)) 0 0 (va_A (WdC g ad S) sz) := by
  refine Met.ofW (cc := cX12_unitAt) (maxL := 2) (ret := (some (.object "CodeFoundry$Unit"))) (by decide) rfl ?_
  intro p e s m args below meth c s₁ B hml hv
  obtain ⟨rfl, hsz, hP, hK, hD0, hex, hE⟩ := hv
  have hx := B.exec
  have hb := B.bytes
  have hr := B.returns
  have hts0 := atoms_spec (ws := wt yX12_unitAt cX12_unitAt 2 (some (.object "CodeFoundry$Unit"))) B.pre
  have hts : ∀ w ∈ tb, w.before _ s = true := fun w h => hts0 w (List.mem_cons_of_mem _ h)
  have hown : s.vm.findClass RX12 = some m.cls := findClass_of_methodNamed B.named
  subst hsz
  have hD := hD0.self (sz := s.heap.size)
  generalize hAe : va_A (WdC g ad S) s.heap.size = A at hD hE ⊢
  have hA : ∀ q : Nat, s.heap.size ≤ q → A q := fun q h => by rw [← hAe]; exact Or.inr h
  have hR : RepC g ad A s S s.heap [] := ⟨hK, hP, hD, va_S.rf, hw⟩
  clear hK hP hD hD0
  have hl := lv_entry ([.ref (ad 0), .int x1]) (n := 2) (Nat.le_of_ble_eq_true rfl)
  rw [lg_entry_eq]
  generalize (lg_sl ([.ref (ad 0), .int x1]) ++ List.replicate (2 - (lg_sl ([.ref (ad 0), .int x1])).length) Slot.unset).toArray = ls at hl ⊢
  have hl : lv_has ls 2 [(0, .ref (ad 0)), (1, .int x1)] := hl
  have hsh : shy S S := shy.rf
  unfold wX12_unitAt at h
  refine lv_iload_n hx hb dX12_unitAt_0 rfl (lv_at hl 1 rfl) ?_
  have J_12 : ∀ (U12 : MS) (H : Heap) (locs : List Loc) (ls : Array Slot), w_X12_unitAt_J12 Q U12 → shy S U12 → RepC g ad A s U12 H locs → lv_has ls 2 [] → W p l e (headSpec (wt yX12_unitAt cX12_unitAt 2 (some (.object "CodeFoundry$Unit"))) ({ frames := 0, cells := 0, slots := 0, locals := 0 })).room s m ([.ref (ad 0), .int x1] : List Value).toArray below meth c H locs 0 0 (MQ below (va_Qq (fun (r : Option Nat) (u : MS) => ∃ b : Option Nat, r = b.map ad ∧ Q b u ∧ wfC u ∧ shy S u ∧ ∀ z, b = some z → qT u z = 49) (fun (u : MS) (t : State) => qEC g ad A u t) A) ([.ref (ad 0), .int x1] : List Value).toArray s 0 0 A) (F0 m 12 ls []) := by
    intro U12 H locs ls h hsh hR hl
    unfold w_X12_unitAt_J12 at h
    replace h := h hR.w
    refine lv_null hx hb dX12_unitAt_12 ?_
    refine lv_goto (tgt := 22) hx hb dX12_unitAt_13 (by decide) ?_
    exact W.aret (v := .null) hx hb hr (Or.inl ⟨_, rfl⟩) (Or.inl rfl) (fun t9 ht9 hW9 => ⟨⟨none, U12, rfl, ⟨none, rfl, h, hR.w, hsh, fun z q9 => by cases q9⟩, ⟨by rw [ht9]; exact hR.P, hR.D⟩⟩, hR.sS.F ht9⟩) hR.sS.2.2 dX12_unitAt_22
  refine lv_if_lt (tgt := 12) hx hb dX12_unitAt_1 (by decide) (fun c1 => ?_) (fun c1 => ?_)
  · replace h := h.1 (k_lt rfl (by decide) c1)
    exact J_12 S _ _ ls h  hsh hR (lv_sub hl [] rfl)
  · replace h := h.2 (k_nlt rfl (by decide) c1)
    refine lv_iload_n hx hb dX12_unitAt_4 rfl (lv_at hl 1 rfl) ?_
    refine lv_aload_n hx hb dX12_unitAt_5 rfl (lv_at hl 0 rfl) ?_
    refine va_get (D := rD g) (ci := 11) (v := .int (qI S 0 11)) (C := RX12) (T := TX12) (N := 18) hx hb hts inX12 hown hR.K hR.P 0 (hR.at51 hR.w.1) rfl 11 (by decide) (hts _ kw_317) (fun _ h9 => h9) rfl dX12_unitAt_6 ?_
    refine lv_icmp_lt (tgt := 16) hx hb dX12_unitAt_9 (by decide) (fun c2 => ?_) (fun c2 => ?_)
    · replace h := h.1 (k_lt rfl rfl c2)
      refine lv_aload_n hx hb dX12_unitAt_16 rfl (lv_at hl 0 rfl) ?_
      refine va_get (D := rD g) (ci := 11) (v := .ref (ad 7)) (C := RX12) (T := TX12) (N := 18) hx hb hts inX12 hown hR.K hR.P 0 (hR.at51 hR.w.1) rfl 3 (by decide) (hts _ kw_386) (fun _ h9 => h9) (congrArg (fun z => some (vf ad z)) (hR.w.2.1 _ finC_25).1) dX12_unitAt_17 ?_
      refine lv_iload_n hx hb dX12_unitAt_20 rfl (lv_at hl 1 rfl) ?_
      obtain ⟨hv3, h⟩ := h
      refine va_aldq hx hb hR.K hR.P 7 4 (hR.at5 (hR.w.2.1 _ finC_25).2.1) rfl (k_ixN (k_ix (n := 12) (x := x1) (a := x1.toInt) rfl hv3) (hR.w.2.1 _ finC_25).2.2) dX12_unitAt_21 ?_
      have hO_o4 : ∀ z, (qR S 7 x1.toInt.toNat) = some z → qT S z = 49 := fun z q => hR.w.ref q (hR.w.2.1 _ finC_25).2.1
      rw [show va_rf (Option.map ad (qR S 7 (x1 : Int32).toNatClampNeg)) = vf ad (qR S 7 x1.toInt.toNat) from rfl]
      rcases hq_b5 : (qR S 7 x1.toInt.toNat) with _ | b5
      · skip
        replace h := h.1 (hq_b5)
        exact W.aret (v := .null) hx hb hr (Or.inl ⟨_, rfl⟩) (Or.inl rfl) (fun t9 ht9 hW9 => ⟨⟨none, S, rfl, ⟨none, rfl, h, hR.w, hsh, fun z q9 => by cases q9⟩, ⟨by rw [ht9]; exact hR.P, hR.D⟩⟩, hR.sS.F ht9⟩) hR.sS.2.2 dX12_unitAt_22
      · have hg_b5 : b5 = ((qR S 7 x1.toInt.toNat)).getD 0 := by rw [hq_b5]; rfl
        have hT_b5 : qT S (((qR S 7 x1.toInt.toNat)).getD 0) = 49 := hg_b5 ▸ hO_o4 _ hq_b5
        subst hg_b5
        replace h := h.2 (fun q9 => Option.some_ne_none _ (hq_b5.symm.trans q9))
        exact W.aret (v := .ref (ad (((qR S 7 x1.toInt.toNat)).getD 0))) hx hb hr (Or.inl ⟨_, rfl⟩) (Or.inr ⟨_, rfl⟩) (fun t9 ht9 hW9 => ⟨⟨some (ad (((qR S 7 x1.toInt.toNat)).getD 0)), S, rfl, ⟨some (((qR S 7 x1.toInt.toNat)).getD 0), rfl, h, hR.w, hsh, fun z q9 => by cases q9; exact hT_b5⟩, ⟨by rw [ht9]; exact hR.P, hR.D⟩⟩, hR.sS.F ht9⟩) hR.sS.2.2 dX12_unitAt_22
    · replace h := h.2 (k_nlt rfl rfl c2)
      exact J_12 S _ _ ls h  hsh hR (lv_sub hl [] rfl)
def w_X12_soundUnitAt_J24 (Q : Option Nat → MS → Prop) (U24 : MS) : Prop := (wfC U24 → Q none U24)
def wX12_soundUnitAt (S : MS) (x1 : Int32) (Q : Option Nat → MS → Prop) : Prop := (∃ Q1, wX12_unitAt S x1 Q1 ∧ ∀ b5 S3, Q1 b5 S3 → wfC S3 → shy S S3 → (∀ z, b5 = some z → qT S3 z = 49) → ((b5 = none → w_X12_soundUnitAt_J24 Q S3) ∧ (¬ b5 = none → (((qI S3 ((b5).getD 0) 15).toInt = 0 → w_X12_soundUnitAt_J24 Q S3) ∧ (¬ (qI S3 ((b5).getD 0) 15).toInt = 0 → (((qI S3 ((b5).getD 0) 16).toInt < 0 → Q (some ((b5).getD 0)) S3) ∧ (¬ (qI S3 ((b5).getD 0) 16).toInt < 0 → w_X12_soundUnitAt_J24 Q S3)))))))
set_option maxHeartbeats 2000000 in
set_option maxRecDepth 100000 in
theorem rX12_soundUnitAt (l : Launch) (g : Gr) (ad : Nat → Nat) (sz : Nat) (S : MS) (x1 : Int32) (hw : wfC S) (Q : Option Nat → MS → Prop) (h : wX12_soundUnitAt S x1 Q) : Met l yX12_soundUnitAt (wt yX12_soundUnitAt cX12_soundUnitAt 3 (some (.object "CodeFoundry$Unit"))) ({ frames := 1, cells := 0, slots := 0, locals := 21 }) (va_Pc [.ref (ad 0), .int x1] (st_C g ad sz S)) (va_Qq (fun (r : Option Nat) (u : MS) => ∃ b : Option Nat, r = b.map ad ∧ Q b u ∧ wfC u ∧ shy S u ∧ ∀ z, b = some z → qT u z = 49) (fun (u : MS) (t : State) => qEC g ad (va_A (WdC g ad S) sz) u t) (va_A (WdC g ad S) sz)) 0 0 (va_A (WdC g ad S) sz) := by
  refine Met.ofW (cc := cX12_soundUnitAt) (maxL := 3) (ret := (some (.object "CodeFoundry$Unit"))) (by decide) rfl ?_
  intro p e s m args below meth c s₁ B hml hv
  obtain ⟨rfl, hsz, hP, hK, hD0, hex, hE⟩ := hv
  have hx := B.exec
  have hb := B.bytes
  have hr := B.returns
  have hts0 := atoms_spec (ws := wt yX12_soundUnitAt cX12_soundUnitAt 3 (some (.object "CodeFoundry$Unit"))) B.pre
  have hts : ∀ w ∈ tb, w.before _ s = true := fun w h => hts0 w (List.mem_cons_of_mem _ h)
  have hown : s.vm.findClass RX12 = some m.cls := findClass_of_methodNamed B.named
  subst hsz
  have hD := hD0.self (sz := s.heap.size)
  generalize hAe : va_A (WdC g ad S) s.heap.size = A at hD hE ⊢
  have hA : ∀ q : Nat, s.heap.size ≤ q → A q := fun q h => by rw [← hAe]; exact Or.inr h
  have hR : RepC g ad A s S s.heap [] := ⟨hK, hP, hD, va_S.rf, hw⟩
  clear hK hP hD hD0
  have hl := lv_entry ([.ref (ad 0), .int x1]) (n := 3) (Nat.le_of_ble_eq_true rfl)
  rw [lg_entry_eq]
  generalize (lg_sl ([.ref (ad 0), .int x1]) ++ List.replicate (3 - (lg_sl ([.ref (ad 0), .int x1])).length) Slot.unset).toArray = ls at hl ⊢
  have hl : lv_has ls 3 [(0, .ref (ad 0)), (1, .int x1)] := hl
  have hsh : shy S S := shy.rf
  unfold wX12_soundUnitAt at h
  refine lv_aload_n hx hb dX12_soundUnitAt_0 rfl (lv_at hl 0 rfl) ?_
  refine lv_iload_n hx hb dX12_soundUnitAt_1 rfl (lv_at hl 1 rfl) ?_
  obtain ⟨Q1, h0, h⟩ := h
  have hFc := cfree hR hA
  refine va_callq (va_runV (As := [.int x1]) (rest := []) ⟨hx, hb, hml, hown, hts⟩ (rX12_unitAt l g ad s.heap.size S x1 hR.w  Q1 h0) (cwV 1 hts (gd_V kw_431 kw_464 kw_465 kw_280 kw_463) rfl rfl rfl (by decide +kernel) ⟨Nat.le_of_ble_eq_true rfl, Nat.le_of_ble_eq_true rfl⟩) ⟨cblind, va_recv hR.K hR.P (ci := 11) (q0 := 0) rfl (hR.at51 hR.w.1), fun U hU hW9 => cmk hU hW9 hR hex hE hFc⟩ rfl rfl hl.1 rfl (lv_room (Nat.le_of_ble_eq_true rfl)) dX12_soundUnitAt_2 ⟨Nat.le_of_ble_eq_true rfl, Nat.le_of_ble_eq_true rfl⟩) hR.sS (fun q _ h => hFc q h) hFc (fun r2 S3 t9 H1 locs ht9 hvm9 hw9 hB9 hz9 hk9 hS => ?_)
  obtain ⟨b5, rfl, hq4, hw9, hs9, hO_b5⟩ := hw9
  have hR : RepC g ad A s S3 H1 locs := hR.call ht9 hB9 hw9 hS hFc
  have hsh := hsh.tr hs9
  replace h := h b5 S3 hq4 hw9 hs9 hO_b5
  clear hB9 hz9 hk9 hvm9 ht9 hw9 hs9 hS
  generalize H1 = H at hR ⊢
  rcases hq_b6 : b5 with _ | b6
  · skip
    replace h := h.1 (hq_b6)
    refine lv_astore_nN (lv' := [(2, .null), (0, .ref (ad 0)), (1, .int x1)]) hx hb dX12_soundUnitAt_5 rfl hl (by decide) rfl (fun ls hl => ?_)
    refine lv_aload_nN hx hb dX12_soundUnitAt_6 rfl (lv_at hl 0 rfl) ?_
    have J_24 : ∀ (U24 : MS) (H : Heap) (locs : List Loc) (ls : Array Slot), w_X12_soundUnitAt_J24 Q U24 → shy S U24 → RepC g ad A s U24 H locs → lv_has ls 3 [] → W p l e (headSpec (wt yX12_soundUnitAt cX12_soundUnitAt 3 (some (.object "CodeFoundry$Unit"))) ({ frames := 1, cells := 0, slots := 0, locals := 21 })).room s m ([.ref (ad 0), .int x1] : List Value).toArray below meth c H locs 0 0 (MQ below (va_Qq (fun (r : Option Nat) (u : MS) => ∃ b : Option Nat, r = b.map ad ∧ Q b u ∧ wfC u ∧ shy S u ∧ ∀ z, b = some z → qT u z = 49) (fun (u : MS) (t : State) => qEC g ad A u t) A) ([.ref (ad 0), .int x1] : List Value).toArray s 0 0 A) (F0 m 24 ls []) := by
      intro U24 H locs ls h hsh hR hl
      unfold w_X12_soundUnitAt_J24 at h
      replace h := h hR.w
      refine lv_null hx hb dX12_soundUnitAt_24 ?_
      refine lv_goto (tgt := 29) hx hb dX12_soundUnitAt_25 (by decide) ?_
      exact W.aret (v := .null) hx hb hr (Or.inl ⟨_, rfl⟩) (Or.inl rfl) (fun t9 ht9 hW9 => ⟨⟨none, U24, rfl, ⟨none, rfl, h, hR.w, hsh, fun z q9 => by cases q9⟩, ⟨by rw [ht9]; exact hR.P, hR.D⟩⟩, hR.sS.F ht9⟩) hR.sS.2.2 dX12_soundUnitAt_29
    refine lv_ifnullN (tgt := 24) hx hb dX12_soundUnitAt_7 (by decide) ?_
    exact J_24 S3 _ _ ls h  hsh hR (lv_sub hl [] rfl)
  · have hg_b6 : b6 = (b5).getD 0 := by rw [hq_b6]; rfl
    have hT_b6 : qT S3 ((b5).getD 0) = 49 := hg_b6 ▸ hO_b5 _ hq_b6
    subst hg_b6
    replace h := h.2 (fun q9 => Option.some_ne_none _ (hq_b6.symm.trans q9))
    refine lv_astore_n (lv' := [(2, .ref (ad ((b5).getD 0))), (0, .ref (ad 0)), (1, .int x1)]) hx hb dX12_soundUnitAt_5 rfl hl (by decide) rfl (fun ls hl => ?_)
    refine lv_aload_n hx hb dX12_soundUnitAt_6 rfl (lv_at hl 0 rfl) ?_
    have J_24 : ∀ (U24 : MS) (H : Heap) (locs : List Loc) (ls : Array Slot), w_X12_soundUnitAt_J24 Q U24 → shy S U24 → RepC g ad A s U24 H locs → lv_has ls 3 [] → W p l e (headSpec (wt yX12_soundUnitAt cX12_soundUnitAt 3 (some (.object "CodeFoundry$Unit"))) ({ frames := 1, cells := 0, slots := 0, locals := 21 })).room s m ([.ref (ad 0), .int x1] : List Value).toArray below meth c H locs 0 0 (MQ below (va_Qq (fun (r : Option Nat) (u : MS) => ∃ b : Option Nat, r = b.map ad ∧ Q b u ∧ wfC u ∧ shy S u ∧ ∀ z, b = some z → qT u z = 49) (fun (u : MS) (t : State) => qEC g ad A u t) A) ([.ref (ad 0), .int x1] : List Value).toArray s 0 0 A) (F0 m 24 ls []) := by
      intro U24 H locs ls h hsh hR hl
      unfold w_X12_soundUnitAt_J24 at h
      replace h := h hR.w
      refine lv_null hx hb dX12_soundUnitAt_24 ?_
      refine lv_goto (tgt := 29) hx hb dX12_soundUnitAt_25 (by decide) ?_
      exact W.aret (v := .null) hx hb hr (Or.inl ⟨_, rfl⟩) (Or.inl rfl) (fun t9 ht9 hW9 => ⟨⟨none, U24, rfl, ⟨none, rfl, h, hR.w, hsh, fun z q9 => by cases q9⟩, ⟨by rw [ht9]; exact hR.P, hR.D⟩⟩, hR.sS.F ht9⟩) hR.sS.2.2 dX12_soundUnitAt_29
    refine lv_ifnull hx hb dX12_soundUnitAt_7 ?_
    refine lv_aload_n hx hb dX12_soundUnitAt_10 rfl (lv_at hl 0 rfl) ?_
    refine va_get (D := rD g) (ci := 9) (v := .int (qI S3 ((b5).getD 0) 15)) (C := RX10) (T := TX10) (N := 18) hx hb hts inX10 hown hR.K hR.P ((b5).getD 0) (hR.at49 hT_b6) rfl 15 (by decide) (hts _ kw_449) (fun _ h9 => h9) rfl dX12_soundUnitAt_11 ?_
    have hz7 := hR.w.bit (b := ((b5).getD 0)) (j := 15) (hT_b6) (by decide)
    refine lv_if_eq (tgt := 24) hx hb dX12_soundUnitAt_14 (by decide) (fun c8 => ?_) (fun c8 => ?_)
    · replace h := h.1 (k_eq rfl (by decide) c8)
      exact J_24 S3 _ _ ls h  hsh hR (lv_sub hl [] rfl)
    · replace h := h.2 (k_ne rfl (by decide) c8)
      refine lv_aload_n hx hb dX12_soundUnitAt_17 rfl (lv_at hl 0 rfl) ?_
      refine va_get (D := rD g) (ci := 9) (v := .int (qI S3 ((b5).getD 0) 16)) (C := RX10) (T := TX10) (N := 18) hx hb hts inX10 hown hR.K hR.P ((b5).getD 0) (hR.at49 hT_b6) rfl 16 (by decide) (hts _ kw_450) (fun _ h9 => h9) rfl dX12_soundUnitAt_18 ?_
      refine lv_if_lt (tgt := 28) hx hb dX12_soundUnitAt_21 (by decide) (fun c9 => ?_) (fun c9 => ?_)
      · replace h := h.1 (k_lt rfl (by decide) c9)
        refine lv_aload_n hx hb dX12_soundUnitAt_28 rfl (lv_at hl 0 rfl) ?_
        exact W.aret (v := .ref (ad ((b5).getD 0))) hx hb hr (Or.inl ⟨_, rfl⟩) (Or.inr ⟨_, rfl⟩) (fun t9 ht9 hW9 => ⟨⟨some (ad ((b5).getD 0)), S3, rfl, ⟨some ((b5).getD 0), rfl, h, hR.w, hsh, fun z q9 => by cases q9; exact hT_b6⟩, ⟨by rw [ht9]; exact hR.P, hR.D⟩⟩, hR.sS.F ht9⟩) hR.sS.2.2 dX12_soundUnitAt_29
      · replace h := h.2 (k_nlt rfl (by decide) c9)
        exact J_24 S3 _ _ ls h  hsh hR (lv_sub hl [] rfl)
def wX12_rowAt (S : MS) (x1 : Int32) (x2 : Int32) (Q : Option Nat → MS → Prop) : Prop := (∃ Q1, wX12_unitAt S x1 Q1 ∧ ∀ b5 S3, Q1 b5 S3 → wfC S3 → shy S S3 → (∀ z, b5 = some z → qT S3 z = 49) → ((b5 = none → Q none S3) ∧ (¬ b5 = none → (qT S3 ((b5).getD 0) = 49 → (∃ Q7, wX10_rowAt S3 ((b5).getD 0) x2 Q7 ∧ ∀ b11 S9, Q7 b11 S9 → wfC S9 → shy S3 S9 → (∀ z, b11 = some z → qT S9 z = 47) → ((b11 = none → Q none S9) ∧ (¬ b11 = none → Q (some ((b11).getD 0)) S9)))))))
set_option maxHeartbeats 2000000 in
set_option maxRecDepth 100000 in
theorem rX12_rowAt (l : Launch) (g : Gr) (ad : Nat → Nat) (sz : Nat) (S : MS) (x1 : Int32) (x2 : Int32) (hw : wfC S) (Q : Option Nat → MS → Prop) (h : wX12_rowAt S x1 x2 Q) : Met l yX12_rowAt (wt yX12_rowAt cX12_rowAt 4 (some (.object "CodeFoundry$Row"))) ({ frames := 1, cells := 0, slots := 0, locals := 21 }) (va_Pc [.ref (ad 0), .int x1, .int x2] (st_C g ad sz S)) (va_Qq (fun (r : Option Nat) (u : MS) => ∃ b : Option Nat, r = b.map ad ∧ Q b u ∧ wfC u ∧ shy S u ∧ ∀ z, b = some z → qT u z = 47) (fun (u : MS) (t : State) => qEC g ad (va_A (WdC g ad S) sz) u t) (va_A (WdC g ad S) sz)) 0 0 (va_A (WdC g ad S) sz) := by
  refine Met.ofW (cc := cX12_rowAt) (maxL := 4) (ret := (some (.object "CodeFoundry$Row"))) (by decide) rfl ?_
  intro p e s m args below meth c s₁ B hml hv
  obtain ⟨rfl, hsz, hP, hK, hD0, hex, hE⟩ := hv
  have hx := B.exec
  have hb := B.bytes
  have hr := B.returns
  have hts0 := atoms_spec (ws := wt yX12_rowAt cX12_rowAt 4 (some (.object "CodeFoundry$Row"))) B.pre
  have hts : ∀ w ∈ tb, w.before _ s = true := fun w h => hts0 w (List.mem_cons_of_mem _ h)
  have hown : s.vm.findClass RX12 = some m.cls := findClass_of_methodNamed B.named
  subst hsz
  have hD := hD0.self (sz := s.heap.size)
  generalize hAe : va_A (WdC g ad S) s.heap.size = A at hD hE ⊢
  have hA : ∀ q : Nat, s.heap.size ≤ q → A q := fun q h => by rw [← hAe]; exact Or.inr h
  have hR : RepC g ad A s S s.heap [] := ⟨hK, hP, hD, va_S.rf, hw⟩
  clear hK hP hD hD0
  have hl := lv_entry ([.ref (ad 0), .int x1, .int x2]) (n := 4) (Nat.le_of_ble_eq_true rfl)
  rw [lg_entry_eq]
  generalize (lg_sl ([.ref (ad 0), .int x1, .int x2]) ++ List.replicate (4 - (lg_sl ([.ref (ad 0), .int x1, .int x2])).length) Slot.unset).toArray = ls at hl ⊢
  have hl : lv_has ls 4 [(0, .ref (ad 0)), (1, .int x1), (2, .int x2)] := hl
  have hsh : shy S S := shy.rf
  unfold wX12_rowAt at h
  refine lv_aload_n hx hb dX12_rowAt_0 rfl (lv_at hl 0 rfl) ?_
  refine lv_iload_n hx hb dX12_rowAt_1 rfl (lv_at hl 1 rfl) ?_
  obtain ⟨Q1, h0, h⟩ := h
  have hFc := cfree hR hA
  refine va_callq (va_runV (As := [.int x1]) (rest := []) ⟨hx, hb, hml, hown, hts⟩ (rX12_unitAt l g ad s.heap.size S x1 hR.w  Q1 h0) (cwV 1 hts (gd_V kw_431 kw_464 kw_465 kw_280 kw_463) rfl rfl rfl (by decide +kernel) ⟨Nat.le_of_ble_eq_true rfl, Nat.le_of_ble_eq_true rfl⟩) ⟨cblind, va_recv hR.K hR.P (ci := 11) (q0 := 0) rfl (hR.at51 hR.w.1), fun U hU hW9 => cmk hU hW9 hR hex hE hFc⟩ rfl rfl hl.1 rfl (lv_room (Nat.le_of_ble_eq_true rfl)) dX12_rowAt_2 ⟨Nat.le_of_ble_eq_true rfl, Nat.le_of_ble_eq_true rfl⟩) hR.sS (fun q _ h => hFc q h) hFc (fun r2 S3 t9 H1 locs ht9 hvm9 hw9 hB9 hz9 hk9 hS => ?_)
  obtain ⟨b5, rfl, hq4, hw9, hs9, hO_b5⟩ := hw9
  have hR : RepC g ad A s S3 H1 locs := hR.call ht9 hB9 hw9 hS hFc
  have hsh := hsh.tr hs9
  replace h := h b5 S3 hq4 hw9 hs9 hO_b5
  clear hB9 hz9 hk9 hvm9 ht9 hw9 hs9 hS
  generalize H1 = H at hR ⊢
  rcases hq_b6 : b5 with _ | b6
  · skip
    replace h := h.1 (hq_b6)
    refine lv_astore_nN (lv' := [(3, .null), (0, .ref (ad 0)), (1, .int x1), (2, .int x2)]) hx hb dX12_rowAt_5 rfl hl (by decide) rfl (fun ls hl => ?_)
    refine lv_aload_nN hx hb dX12_rowAt_6 rfl (lv_at hl 0 rfl) ?_
    refine lv_ifnonnullN hx hb dX12_rowAt_7 ?_
    refine lv_null hx hb dX12_rowAt_10 ?_
    refine lv_goto (tgt := 19) hx hb dX12_rowAt_11 (by decide) ?_
    exact W.aret (v := .null) hx hb hr (Or.inl ⟨_, rfl⟩) (Or.inl rfl) (fun t9 ht9 hW9 => ⟨⟨none, S3, rfl, ⟨none, rfl, h, hR.w, hsh, fun z q9 => by cases q9⟩, ⟨by rw [ht9]; exact hR.P, hR.D⟩⟩, hR.sS.F ht9⟩) hR.sS.2.2 dX12_rowAt_19
  · have hg_b6 : b6 = (b5).getD 0 := by rw [hq_b6]; rfl
    have hT_b6 : qT S3 ((b5).getD 0) = 49 := hg_b6 ▸ hO_b5 _ hq_b6
    subst hg_b6
    replace h := h.2 (fun q9 => Option.some_ne_none _ (hq_b6.symm.trans q9))
    refine lv_astore_n (lv' := [(3, .ref (ad ((b5).getD 0))), (0, .ref (ad 0)), (1, .int x1), (2, .int x2)]) hx hb dX12_rowAt_5 rfl hl (by decide) rfl (fun ls hl => ?_)
    refine lv_aload_n hx hb dX12_rowAt_6 rfl (lv_at hl 0 rfl) ?_
    refine lv_ifnonnull (tgt := 14) hx hb dX12_rowAt_7 (by decide) ?_
    refine lv_aload_n hx hb dX12_rowAt_14 rfl (lv_at hl 0 rfl) ?_
    refine lv_iload_n hx hb dX12_rowAt_15 rfl (lv_at hl 3 rfl) ?_
    replace h := h (hT_b6)
    obtain ⟨Q7, h0, h⟩ := h
    have hFc := cfree hR hA
    refine va_callq (va_runV (As := [.int x2]) (rest := []) ⟨hx, hb, hml, hown, hts⟩ (rX10_rowAt l g ad H.size S3 ((b5).getD 0) x2 hR.w hT_b6 Q7 h0) (cwV 1 hts (gd_V kw_324 kw_70 kw_71 kw_34 kw_69) rfl rfl rfl (by decide +kernel) ⟨Nat.le_of_ble_eq_true rfl, Nat.le_of_ble_eq_true rfl⟩) ⟨cblind, va_recv hR.K hR.P (ci := 9) (q0 := ((b5).getD 0)) rfl (hR.at49 hT_b6), fun U hU hW9 => cmk hU hW9 hR hex hE hFc⟩ rfl rfl hl.1 rfl (lv_room (Nat.le_of_ble_eq_true rfl)) dX12_rowAt_16 ⟨Nat.le_of_ble_eq_true rfl, Nat.le_of_ble_eq_true rfl⟩) hR.sS (fun q _ h => hFc q h) hFc (fun r8 S9 t9 H1 locs ht9 hvm9 hw9 hB9 hz9 hk9 hS => ?_)
    obtain ⟨b11, rfl, hq10, hw9, hs9, hO_b11⟩ := hw9
    have hR : RepC g ad A s S9 H1 locs := hR.call ht9 hB9 hw9 hS hFc
    have hsh := hsh.tr hs9
    replace h := h b11 S9 hq10 hw9 hs9 hO_b11
    have hT_b6 := hs9.T hT_b6 (by decide)
    clear hB9 hz9 hk9 hvm9 ht9 hw9 hs9 hS
    generalize H1 = H at hR ⊢
    rcases hq_b12 : b11 with _ | b12
    · skip
      replace h := h.1 (hq_b12)
      exact W.aret (v := .null) hx hb hr (Or.inl ⟨_, rfl⟩) (Or.inl rfl) (fun t9 ht9 hW9 => ⟨⟨none, S9, rfl, ⟨none, rfl, h, hR.w, hsh, fun z q9 => by cases q9⟩, ⟨by rw [ht9]; exact hR.P, hR.D⟩⟩, hR.sS.F ht9⟩) hR.sS.2.2 dX12_rowAt_19
    · have hg_b12 : b12 = (b11).getD 0 := by rw [hq_b12]; rfl
      have hT_b12 : qT S9 ((b11).getD 0) = 47 := hg_b12 ▸ hO_b11 _ hq_b12
      subst hg_b12
      replace h := h.2 (fun q9 => Option.some_ne_none _ (hq_b12.symm.trans q9))
      exact W.aret (v := .ref (ad ((b11).getD 0))) hx hb hr (Or.inl ⟨_, rfl⟩) (Or.inr ⟨_, rfl⟩) (fun t9 ht9 hW9 => ⟨⟨some (ad ((b11).getD 0)), S9, rfl, ⟨some ((b11).getD 0), rfl, h, hR.w, hsh, fun z q9 => by cases q9; exact hT_b12⟩, ⟨by rw [ht9]; exact hR.P, hR.D⟩⟩, hR.sS.F ht9⟩) hR.sS.2.2 dX12_rowAt_19
def wX12_keep (S : MS) (p1 : Option Nat) (x2 : Int32) (Q : Int32 → MS → Prop) : Prop := ((p1 = none → Q x2 S) ∧ (¬ p1 = none → (((qI S 0 11).toInt < 12 → (((0 : Int) ≤ (qI S 0 11).toInt ∧ (qI S 0 11).toInt < 12) ∧ (∀ S4, S4 = wR S 7 (((qI S 0 11).toInt).toNat) (some ((p1).getD 0)) → qT S 7 = 5 → wfC S4 → (∀ S6, S6 = wI S4 0 11 ((qI S4 0 11) + (1 : Int32)) → qT S4 0 = 51 → wfC S6 → Q ((qI S6 0 11) - (1 : Int32)) S6)))) ∧ (¬ (qI S 0 11).toInt < 12 → Q x2 S))))
set_option maxHeartbeats 2000000 in
set_option maxRecDepth 100000 in
theorem rX12_keep (l : Launch) (g : Gr) (ad : Nat → Nat) (sz : Nat) (S : MS) (p1 : Option Nat) (x2 : Int32) (hw : wfC S) (hO_p1 : ∀ z, p1 = some z → qT S z = 49) (Q : Int32 → MS → Prop) (h : wX12_keep S p1 x2 Q) : Met l yX12_keep (wt yX12_keep cX12_keep 3 (some .int)) ({ frames := 0, cells := 0, slots := 0, locals := 0 }) (va_Pc [.ref (ad 0), vf ad p1, .int x2] (st_C g ad sz S)) (va_Qi (fun (r : Int32) (u : MS) => Q r u ∧ wfC u ∧ shy S u) (fun (u : MS) (t : State) => qEC g ad (va_A (WdC g ad S) sz) u t) (va_A (WdC g ad S) sz)) 0 0 (va_A (WdC g ad S) sz) := by
  refine Met.ofW (cc := cX12_keep) (maxL := 3) (ret := (some .int)) (by decide) rfl ?_
  intro p e s m args below meth c s₁ B hml hv
  obtain ⟨rfl, hsz, hP, hK, hD0, hex, hE⟩ := hv
  have hx := B.exec
  have hb := B.bytes
  have hr := B.returns
  have hts0 := atoms_spec (ws := wt yX12_keep cX12_keep 3 (some .int)) B.pre
  have hts : ∀ w ∈ tb, w.before _ s = true := fun w h => hts0 w (List.mem_cons_of_mem _ h)
  have hown : s.vm.findClass RX12 = some m.cls := findClass_of_methodNamed B.named
  subst hsz
  have hD := hD0.self (sz := s.heap.size)
  generalize hAe : va_A (WdC g ad S) s.heap.size = A at hD hE ⊢
  have hA : ∀ q : Nat, s.heap.size ≤ q → A q := fun q h => by rw [← hAe]; exact Or.inr h
  have hR : RepC g ad A s S s.heap [] := ⟨hK, hP, hD, va_S.rf, hw⟩
  clear hK hP hD hD0
  have hl := lv_entry ([.ref (ad 0), vf ad p1, .int x2]) (n := 3) (by cases p1 <;> exact Nat.le_of_ble_eq_true rfl)
  rw [lg_entry_eq]
  generalize (lg_sl ([.ref (ad 0), vf ad p1, .int x2]) ++ List.replicate (3 - (lg_sl ([.ref (ad 0), vf ad p1, .int x2])).length) Slot.unset).toArray = ls at hl ⊢
  have hl : lv_has ls 3 [(0, .ref (ad 0)), (1, vf ad p1), (2, .int x2)] := by cases p1 <;> exact hl
  have hsh : shy S S := shy.rf
  unfold wX12_keep at h
  rcases (show p1 = none ∨ ∃ z, p1 = some z by cases p1 <;> simp) with hq_b1 | ⟨b1, hq_b1⟩
  · rw [hq_b1] at hl
    skip
    replace h := h.1 (hq_b1)
    refine lv_aload_nN hx hb dX12_keep_0 rfl (lv_at hl 1 rfl) ?_
    refine lv_ifnullN (tgt := 13) hx hb dX12_keep_1 (by decide) ?_
    refine lv_iload_n hx hb dX12_keep_13 rfl (lv_at hl 2 rfl) ?_
    exact W.iret (v := x2) hx hb hr (fun t9 ht9 hW9 => ⟨⟨_, S, rfl, ⟨h, hR.w, hsh⟩, ⟨by rw [ht9]; exact hR.P, hR.D⟩⟩, hR.sS.F ht9⟩) hR.sS.2.2 dX12_keep_14
  · rw [hq_b1] at hl
    have hg_b1 : b1 = (p1).getD 0 := by rw [hq_b1]; rfl
    have hT_b1 : qT S ((p1).getD 0) = 49 := hg_b1 ▸ hO_p1 _ hq_b1
    subst hg_b1
    replace h := h.2 (fun q9 => Option.some_ne_none _ (hq_b1.symm.trans q9))
    refine lv_aload_n hx hb dX12_keep_0 rfl (lv_at hl 1 rfl) ?_
    refine lv_ifnull hx hb dX12_keep_1 ?_
    refine lv_aload_n hx hb dX12_keep_4 rfl (lv_at hl 0 rfl) ?_
    refine va_get (D := rD g) (ci := 11) (v := .int (qI S 0 11)) (C := RX12) (T := TX12) (N := 18) hx hb hts inX12 hown hR.K hR.P 0 (hR.at51 hR.w.1) rfl 11 (by decide) (hts _ kw_317) (fun _ h9 => h9) rfl dX12_keep_5 ?_
    refine lv_bipush (v := 12) hx hb dX12_keep_8 (by decide) ?_
    refine lv_icmp_lt (tgt := 15) hx hb dX12_keep_10 (by decide) (fun c2 => ?_) (fun c2 => ?_)
    · replace h := h.1 (k_lt rfl (by decide) c2)
      refine lv_aload_n hx hb dX12_keep_15 rfl (lv_at hl 0 rfl) ?_
      refine va_get (D := rD g) (ci := 11) (v := .ref (ad 7)) (C := RX12) (T := TX12) (N := 18) hx hb hts inX12 hown hR.K hR.P 0 (hR.at51 hR.w.1) rfl 3 (by decide) (hts _ kw_386) (fun _ h9 => h9) (congrArg (fun z => some (vf ad z)) (hR.w.2.1 _ finC_25).1) dX12_keep_16 ?_
      refine lv_aload_n hx hb dX12_keep_19 rfl (lv_at hl 0 rfl) ?_
      refine va_get (D := rD g) (ci := 11) (v := .int (qI S 0 11)) (C := RX12) (T := TX12) (N := 18) hx hb hts inX12 hown hR.K hR.P 0 (hR.at51 hR.w.1) rfl 11 (by decide) (hts _ kw_317) (fun _ h9 => h9) rfl dX12_keep_20 ?_
      refine lv_aload_n hx hb dX12_keep_23 rfl (lv_at hl 1 rfl) ?_
      obtain ⟨hv3, h⟩ := h
      refine va_astq hx hb hR.K hR.P hR.D hR.sS 7 4 ((p1).getD 0) 9 (hR.at5 (hR.w.2.1 _ finC_25).2.1) rfl (hR.at49 hT_b1) rfl (k_ixN (k_ix (n := 12) (x := (qI S 0 11)) (a := (qI S 0 11).toInt) rfl hv3) (hR.w.2.1 _ finC_25).2.2) dX12_keep_24 (fun H locs hP hD hS => ?_)
      have hw9 : wfC (wR S 7 (((qI S 0 11).toInt).toNat) (some ((p1).getD 0))) := hR.w.put (fun b q9 => by cases q9; exact (hT_b1).trans (by rw [(hR.w.2.1 _ finC_25).2.1]; rfl)) (hR.w.noown (hR.w.2.1 _ finC_25).2.1 (by decide) (by decide)) (by rw [(hR.w.2.1 _ finC_25).2.1]; show (49 : Nat) ≠ 0; decide) (fun b _ q9 => absurd (show otgC (qT S 7) (((qI S 0 11).toInt).toNat) = 0 by rw [(hR.w.2.1 _ finC_25).2.1]; rfl) q9) (fun _ => Option.some_ne_none _)
      have hTk9 : qT S 7 = 5 := (hR.w.2.1 _ finC_25).2.1
      have hR : RepC g ad A s (wR S 7 (((qI S 0 11).toInt).toNat) (some ((p1).getD 0))) H locs := hR.a5 (hR.w.2.1 _ finC_25).2.1 hw9 hP hD hS
      obtain ⟨S4, eS4⟩ : ∃ z, z = wR S 7 (((qI S 0 11).toInt).toNat) (some ((p1).getD 0)) := ⟨_, rfl⟩
      rw [← eS4] at hR
      replace h := h S4 eS4 hTk9 hR.w
      have hT_b1 : qT S4 ((p1).getD 0) = 49 := (congrArg (fun z => qT z ((p1).getD 0)) eS4).trans hT_b1
      have hsh : shy S S4 := by rw [eS4]; exact hsh
      refine lv_aload_n hx hb dX12_keep_25 rfl (lv_at hl 0 rfl) ?_
      refine lv_dup hx hb dX12_keep_26 rfl ?_
      refine va_get (D := rD g) (ci := 11) (v := .int (qI S4 0 11)) (C := RX12) (T := TX12) (N := 18) hx hb hts inX12 hown hR.K hR.P 0 (hR.at51 hR.w.1) rfl 11 (by decide) (hts _ kw_317) (fun _ h9 => h9) rfl dX12_keep_27 ?_
      refine lv_iconst (v := 1) hx hb dX12_keep_30 (by decide) ?_
      refine lv_iadd hx hb dX12_keep_31 ?_
      refine lv_topi (fun z5 ez5 => ?_)
      obtain rfl : z5 = ((qI S4 0 11) + (1 : Int32)) := ez5
      refine va_put (D := rD g) (ci := 11) (v := .int ((qI S4 0 11) + (1 : Int32))) (ty := .int) (C := RX12) (T := TX12) (N := 18) hx hb hts inX12 tyX12 tyX12_ok nmX12 hown hR.K hR.P hR.D hR.sS 0 (hR.at51 hR.w.1) rfl 11 (by decide) (hts _ kw_317) (fun _ h9 => h9) rfl (by decide +kernel) rfl rfl (Nat.le_of_ble_eq_true rfl) dX12_keep_32 (fun H locs hP hD hS => ?_)
      have hTk9 : qT S4 0 = 51 := hR.w.1
      have hR : RepC g ad A s (wI S4 0 11 ((qI S4 0 11) + (1 : Int32))) H locs := hR.pI51 hR.w.1 FX12_s11 (fun q9 => absurd q9 (by decide)) hP hD hS
      obtain ⟨S6, eS6⟩ : ∃ z, z = wI S4 0 11 ((qI S4 0 11) + (1 : Int32)) := ⟨_, rfl⟩
      rw [← eS6] at hR
      replace h := h S6 eS6 hTk9 hR.w
      have hT_b1 : qT S6 ((p1).getD 0) = 49 := (congrArg (fun z => qT z ((p1).getD 0)) eS6).trans hT_b1
      have hsh : shy S S6 := by rw [eS6]; exact hsh
      refine lv_aload_n hx hb dX12_keep_35 rfl (lv_at hl 0 rfl) ?_
      refine va_get (D := rD g) (ci := 11) (v := .int (qI S6 0 11)) (C := RX12) (T := TX12) (N := 18) hx hb hts inX12 hown hR.K hR.P 0 (hR.at51 hR.w.1) rfl 11 (by decide) (hts _ kw_317) (fun _ h9 => h9) rfl dX12_keep_36 ?_
      refine lv_iconst (v := 1) hx hb dX12_keep_39 (by decide) ?_
      refine lv_isub hx hb dX12_keep_40 ?_
      refine lv_topi (fun z7 ez7 => ?_)
      obtain rfl : z7 = ((qI S6 0 11) - (1 : Int32)) := ez7
      exact W.iret (v := ((qI S6 0 11) - (1 : Int32))) hx hb hr (fun t9 ht9 hW9 => ⟨⟨_, S6, rfl, ⟨h, hR.w, hsh⟩, ⟨by rw [ht9]; exact hR.P, hR.D⟩⟩, hR.sS.F ht9⟩) hR.sS.2.2 dX12_keep_41
    · replace h := h.2 (k_nlt rfl (by decide) c2)
      refine lv_iload_n hx hb dX12_keep_13 rfl (lv_at hl 2 rfl) ?_
      exact W.iret (v := x2) hx hb hr (fun t9 ht9 hW9 => ⟨⟨_, S, rfl, ⟨h, hR.w, hsh⟩, ⟨by rw [ht9]; exact hR.P, hR.D⟩⟩, hR.sS.F ht9⟩) hR.sS.2.2 dX12_keep_14
def w_X1_comeTo_J152 (Q : MS → Prop) (U152 : MS) (v152_1 : Int32) : Prop := (wfC U152 → (((0 : Int) ≤ v152_1.toInt ∧ v152_1.toInt < (qN U152 (qO U152 16 2) : Int)) ∧ (∀ S18, S18 = wI U152 (qO U152 16 2) v152_1.toInt.toNat (vp_nar .boolean (1 : Int32)) → qT U152 (qO U152 16 2) = 301 → wfC S18 → Q S18)))
def w_X1_comeTo_J146 (Q : MS → Prop) (k50 : MS → Int32 → Int32 → Int32 → Int32 → Prop) (U146 : MS) (v146_1 : Int32) (v146_2 : Int32) (v146_3 : Int32) (v146_4 : Int32) : Prop := (wfC U146 → (v146_3 = 0 ∨ v146_3 = 1) → (∀ a21 : Int32, a21 = (v146_4 + Int32.ofInt 1) → k50 U146 v146_1 v146_2 v146_3 a21))
def w_X1_comeTo_J122 (Q : MS → Prop) (k50 : MS → Int32 → Int32 → Int32 → Int32 → Prop) (U122 : MS) (v122_1 : Int32) (v122_2 : Int32) (v122_3 : Int32) (v122_4 : Int32) (v122_5 : Int32) : Prop := (wfC U122 → (v122_3 = 0 ∨ v122_3 = 1) → (((0 : Int) ≤ (v122_2 + v122_4).toInt ∧ (v122_2 + v122_4).toInt < (qN U122 (qO U122 16 1) : Int)) ∧ (∀ S25, S25 = wI U122 (qO U122 16 1) (((v122_2 + v122_4).toInt).toNat) (vp_nar .byte (v122_5.toInt8.toInt32)) → qT U122 (qO U122 16 1) = 102 → wfC S25 → (((0 : Int) ≤ v122_1.toInt ∧ v122_1.toInt < (qN S25 (qO S25 16 3) : Int)) ∧ (∀ S28, S28 = wI S25 (qO S25 16 3) v122_1.toInt.toNat (vp_nar .boolean (1 : Int32)) → qT S25 (qO S25 16 3) = 302 → wfC S28 → (∀ S29, S29 = wI S28 16 7 (1 : Int32) → qT S28 16 = 41 → wfC S29 → w_X1_comeTo_J146 Q k50 S29 v122_1 v122_2 v122_3 v122_4))))))
def w_X1_comeTo_J102 (Q : MS → Prop) (k50 : MS → Int32 → Int32 → Int32 → Int32 → Prop) (U102 : MS) (t102_0 : Int32) (v102_1 : Int32) (v102_2 : Int32) (v102_3 : Int32) (v102_4 : Int32) : Prop := (wfC U102 → (v102_3 = 0 ∨ v102_3 = 1) → ((v102_3.toInt = 0 → (((0 : Int) ≤ (v102_2 + v102_4).toInt ∧ (v102_2 + v102_4).toInt < (qN U102 (qO U102 16 1) : Int)) ∧ ((t102_0.toInt = (qI U102 (qO U102 16 1) (((v102_2 + v102_4).toInt).toNat)).toInt → w_X1_comeTo_J146 Q k50 U102 v102_1 v102_2 v102_3 v102_4) ∧ (¬ t102_0.toInt = (qI U102 (qO U102 16 1) (((v102_2 + v102_4).toInt).toNat)).toInt → w_X1_comeTo_J122 Q k50 U102 v102_1 v102_2 v102_3 v102_4 t102_0)))) ∧ (¬ v102_3.toInt = 0 → w_X1_comeTo_J122 Q k50 U102 v102_1 v102_2 v102_3 v102_4 t102_0)))
def w_X1_comeTo_L50 (Q : MS → Prop) : Nat → MS → Int32 → Int32 → Int32 → Int32 → Prop
  | 0, _, _, _, _, _ => False
  | n50 + 1, U50, v50_1, v50_2, v50_3, v50_4 => (wfC U50 → (v50_3 = 0 ∨ v50_3 = 1) → ((((24 : Int32) + (qI U50 16 5)).toInt ≤ v50_4.toInt → w_X1_comeTo_J152 Q U50 v50_1) ∧ (¬ ((24 : Int32) + (qI U50 16 5)).toInt ≤ v50_4.toInt → ((48 ≤ v50_4.toInt → w_X1_comeTo_J152 Q U50 v50_1) ∧ (¬ 48 ≤ v50_4.toInt → ((v50_3.toInt = 0 → (((0 : Int) ≤ (v50_2 + v50_4).toInt ∧ (v50_2 + v50_4).toInt < (qN U50 (qO U50 16 1) : Int)) ∧ (((0 : Int) ≤ v50_4.toInt ∧ v50_4.toInt < 48) ∧ (d_X1_join U50 (qI U50 (qO U50 16 1) (((v50_2 + v50_4).toInt).toNat)) (qI U50 24 v50_4.toInt.toNat) ∧ w_X1_comeTo_J102 Q (w_X1_comeTo_L50 Q n50) U50 (fX1_join U50 (qI U50 (qO U50 16 1) (((v50_2 + v50_4).toInt).toNat)) (qI U50 24 v50_4.toInt.toNat)) v50_1 v50_2 v50_3 v50_4)))) ∧ (¬ v50_3.toInt = 0 → (((0 : Int) ≤ v50_4.toInt ∧ v50_4.toInt < 48) ∧ w_X1_comeTo_J102 Q (w_X1_comeTo_L50 Q n50) U50 (qI U50 24 v50_4.toInt.toNat) v50_1 v50_2 v50_3 v50_4))))))))
def w_X1_comeTo_J46 (Q : MS → Prop) (U46 : MS) (t46_0 : Int32) (v46_1 : Int32) (v46_2 : Int32) : Prop := (wfC U46 → (t46_0 = 0 ∨ t46_0 = 1) → (∃ n, w_X1_comeTo_L50 Q n U46 v46_1 v46_2 t46_0 0))
def wX1_comeTo (S : MS) (x1 : Int32) (Q : MS → Prop) : Prop := ((x1.toInt < 0 → Q S) ∧ (¬ x1.toInt < 0 → ((qR S 16 9 = some (qO S 16 9)) ∧ (((qI S (qO S 16 9) 2).toInt ≤ x1.toInt → Q S) ∧ (¬ (qI S (qO S 16 9) 2).toInt ≤ x1.toInt → (d_X4_isWrong S 17 x1 ∧ (((fX4_isWrong S 17 x1).toInt = 0 → (∀ a10 : Int32, a10 = (x1 * (48 : Int32)) → (((0 : Int) ≤ x1.toInt ∧ x1.toInt < (qN S (qO S 16 2) : Int)) ∧ (((qI S (qO S 16 2) x1.toInt.toNat).toInt = 0 → w_X1_comeTo_J46 Q S 1 x1 a10) ∧ (¬ (qI S (qO S 16 2) x1.toInt.toNat).toInt = 0 → w_X1_comeTo_J46 Q S 0 x1 a10))))) ∧ (¬ (fX4_isWrong S 17 x1).toInt = 0 → Q S))))))))
set_option maxHeartbeats 2000000 in
set_option maxRecDepth 100000 in
theorem rX1_comeTo (l : Launch) (g : Gr) (ad : Nat → Nat) (sz : Nat) (S : MS) (x1 : Int32) (hw : wfC S) (Q : MS → Prop) (h : wX1_comeTo S x1 Q) : Met l yX1_comeTo (wt yX1_comeTo cX1_comeTo 6 none) ({ frames := 2, cells := 0, slots := 0, locals := 41 }) (va_Pc [.ref (ad 16), .int x1] (st_C g ad sz S)) (va_Qv (fun (u : MS) => Q u ∧ wfC u ∧ shy S u) (fun (u : MS) (t : State) => qEC g ad (va_A (WdC g ad S) sz) u t) (va_A (WdC g ad S) sz)) 0 0 (va_A (WdC g ad S) sz) := by
  refine Met.ofW (cc := cX1_comeTo) (maxL := 6) (ret := none) (by decide) rfl ?_
  intro p e s m args below meth c s₁ B hml hv
  obtain ⟨rfl, hsz, hP, hK, hD0, hex, hE⟩ := hv
  have hx := B.exec
  have hb := B.bytes
  have hr := B.returns
  have hts0 := atoms_spec (ws := wt yX1_comeTo cX1_comeTo 6 none) B.pre
  have hts : ∀ w ∈ tb, w.before _ s = true := fun w h => hts0 w (List.mem_cons_of_mem _ h)
  have hown : s.vm.findClass RX1 = some m.cls := findClass_of_methodNamed B.named
  subst hsz
  have hD := hD0.self (sz := s.heap.size)
  generalize hAe : va_A (WdC g ad S) s.heap.size = A at hD hE ⊢
  have hA : ∀ q : Nat, s.heap.size ≤ q → A q := fun q h => by rw [← hAe]; exact Or.inr h
  have hR : RepC g ad A s S s.heap [] := ⟨hK, hP, hD, va_S.rf, hw⟩
  clear hK hP hD hD0
  have hl := lv_entry ([.ref (ad 16), .int x1]) (n := 6) (Nat.le_of_ble_eq_true rfl)
  rw [lg_entry_eq]
  generalize (lg_sl ([.ref (ad 16), .int x1]) ++ List.replicate (6 - (lg_sl ([.ref (ad 16), .int x1])).length) Slot.unset).toArray = ls at hl ⊢
  have hl : lv_has ls 6 [(0, .ref (ad 16)), (1, .int x1)] := hl
  have hsh : shy S S := shy.rf
  unfold wX1_comeTo at h
  refine lv_iload_n hx hb dX1_comeTo_0 rfl (lv_at hl 1 rfl) ?_
  refine lv_if_lt (tgt := 26) hx hb dX1_comeTo_1 (by decide) (fun c1 => ?_) (fun c1 => ?_)
  · replace h := h.1 (k_lt rfl (by decide) c1)
    exact W.vret hx hb hr (fun t9 ht9 hW9 => ⟨⟨S, rfl, ⟨h, hR.w, hsh⟩, ⟨by rw [ht9]; exact hR.P, hR.D⟩⟩, hR.sS.F ht9⟩) hR.sS.2.2 dX1_comeTo_26
  · replace h := h.2 (k_nlt rfl (by decide) c1)
    refine lv_iload_n hx hb dX1_comeTo_4 rfl (lv_at hl 1 rfl) ?_
    refine lv_aload_n hx hb dX1_comeTo_5 rfl (lv_at hl 0 rfl) ?_
    obtain ⟨hv3, h⟩ := h
    have hT_b2 : qT S (qO S 16 9) = 47 := hR.w.ref hv3 (hR.w.2.1 _ finC_27).2.1
    refine va_get (D := rD g) (ci := 1) (v := .ref (ad (qO S 16 9))) (C := RX1) (T := TX1) (N := 10) hx hb hts inX1 hown hR.K hR.P 16 (hR.at41 (hR.w.2.1 _ finC_27).2.1) rfl 9 (by decide) (hts _ kw_479) (fun _ h9 => h9) (congrArg (fun z => some (vf ad z)) hv3) dX1_comeTo_6 ?_
    refine va_get (D := rD g) (ci := 7) (v := .int (qI S (qO S 16 9) 2)) (C := RX8) (T := TX8) (N := 15) hx hb hts inX8 hown hR.K hR.P (qO S 16 9) (hR.at47 hT_b2) rfl 2 (by decide) (hts _ kw_491) (fun _ h9 => h9) rfl dX1_comeTo_9 ?_
    refine lv_icmp_ge (tgt := 26) hx hb dX1_comeTo_12 (by decide) (fun c4 => ?_) (fun c4 => ?_)
    · replace h := h.1 (k_le rfl rfl c4)
      exact W.vret hx hb hr (fun t9 ht9 hW9 => ⟨⟨S, rfl, ⟨h, hR.w, hsh⟩, ⟨by rw [ht9]; exact hR.P, hR.D⟩⟩, hR.sS.F ht9⟩) hR.sS.2.2 dX1_comeTo_26
    · replace h := h.2 (k_nle rfl rfl c4)
      refine lv_aload_n hx hb dX1_comeTo_15 rfl (lv_at hl 0 rfl) ?_
      refine va_get (D := rD g) (ci := 1) (v := .ref (ad 17)) (C := RX1) (T := TX1) (N := 10) hx hb hts inX1 hown hR.K hR.P 16 (hR.at41 (hR.w.2.1 _ finC_27).2.1) rfl 0 (by decide) (hts _ kw_492) (fun _ h9 => h9) (congrArg (fun z => some (vf ad z)) (hR.w.2.1 _ finC_0).1) dX1_comeTo_16 ?_
      refine lv_iload_n hx hb dX1_comeTo_19 rfl (lv_at hl 1 rfl) ?_
      obtain ⟨hv5, h⟩ := h
      have hFc := cfree hR hA
      refine va_calli (va_runV (As := [.int x1]) (rest := []) ⟨hx, hb, hml, hown, hts⟩ (rX4_isWrong l g ad s.heap.size S 17 x1 hR.w (hR.w.2.1 _ finC_0).2.1 hv5) (cwV 1 hts (gd_V kw_493 kw_968 kw_969 kw_167 kw_967) rfl rfl rfl (by decide +kernel) ⟨Nat.le_of_ble_eq_true rfl, Nat.le_of_ble_eq_true rfl⟩) ⟨cblind, va_recv hR.K hR.P (ci := 4) (q0 := 17) rfl (hR.at44 (hR.w.2.1 _ finC_0).2.1), fun U hU hW9 => cmk hU hW9 hR hex hE hFc⟩ rfl rfl hl.1 rfl (lv_room (Nat.le_of_ble_eq_true rfl)) dX1_comeTo_20 ⟨Nat.le_of_ble_eq_true rfl, Nat.le_of_ble_eq_true rfl⟩) hR.sS (fun q _ h => hFc q h) hFc (fun r6 u9 t9 H1 locs ht9 hvm9 hw9 hB9 hz9 hk9 hS => ?_)
      have hR : RepC g ad A s S H1 locs := hR.call ht9 hB9 hR.w hS hFc
      obtain ⟨rfl, hz_r6⟩ := hw9
      clear hB9 hz9 hk9 hvm9 ht9 hS
      generalize H1 = H at hR ⊢
      refine lv_if_eq (tgt := 27) hx hb dX1_comeTo_23 (by decide) (fun c8 => ?_) (fun c8 => ?_)
      · replace h := h.1 (k_eq rfl (by decide) c8)
        refine lv_iload_n hx hb dX1_comeTo_27 rfl (lv_at hl 1 rfl) ?_
        refine lv_bipush (v := 48) hx hb dX1_comeTo_28 (by decide) ?_
        refine lv_imul hx hb dX1_comeTo_30 ?_
        refine lv_topi (fun z9 ez9 => ?_)
        obtain rfl : z9 = (x1 * (48 : Int32)) := ez9
        obtain ⟨a10, ea10⟩ : ∃ z, z = (x1 * (48 : Int32)) := ⟨_, rfl⟩
        rw [← ea10]
        replace h := h a10 ea10
        refine lv_istore_n (lv' := [(2, .int a10), (0, .ref (ad 16)), (1, .int x1)]) hx hb dX1_comeTo_31 rfl hl (by decide) rfl (fun ls hl => ?_)
        refine lv_aload_n hx hb dX1_comeTo_32 rfl (lv_at hl 1 rfl) ?_
        have hT_b11 : qT S (qO S 16 2) = 301 := hR.w.ref (hR.w.ptr ptrC_5) (hR.w.2.1 _ finC_27).2.1
        refine va_get (D := rD g) (ci := 1) (v := .ref (ad (qO S 16 2))) (C := RX1) (T := TX1) (N := 10) hx hb hts inX1 hown hR.K hR.P 16 (hR.at41 (hR.w.2.1 _ finC_27).2.1) rfl 2 (by decide) (hts _ kw_494) (fun _ h9 => h9) (congrArg (fun z => some (vf ad z)) (hR.w.ptr ptrC_5)) dX1_comeTo_33 ?_
        refine lv_iload_n hx hb dX1_comeTo_36 rfl (lv_at hl 2 rfl) ?_
        obtain ⟨hv12, h⟩ := h
        refine va_zald hx hb hR.K hR.P (qO S 16 2) 2 (hR.atZ hT_b11 (by decide)) rfl (k_ix (x := x1) (a := x1.toInt) rfl hv12) dX1_comeTo_37 ?_
        refine lv_topi (fun z13 ez13 => ?_)
        obtain rfl : z13 = (qI S (qO S 16 2) x1.toInt.toNat) := ez13
        have hz14 := hR.w.bit3 (b := (qO S 16 2)) (j := x1.toInt.toNat) (hT_b11) (by decide)
        have J_46 : ∀ (U46 : MS) (t46_0 : Int32) (v46_1 : Int32) (v46_2 : Int32) (H : Heap) (locs : List Loc) (ls : Array Slot), w_X1_comeTo_J46 Q U46 t46_0 v46_1 v46_2 → (t46_0 = 0 ∨ t46_0 = 1) → shy S U46 → RepC g ad A s U46 H locs → lv_has ls 6 [(0, .ref (ad 16)), (1, .int v46_1), (2, .int v46_2)] → W p l e (headSpec (wt yX1_comeTo cX1_comeTo 6 none) ({ frames := 2, cells := 0, slots := 0, locals := 41 })).room s m ([.ref (ad 16), .int x1] : List Value).toArray below meth c H locs 0 0 (MQ below (va_Qv (fun (u : MS) => Q u ∧ wfC u ∧ shy S u) (fun (u : MS) (t : State) => qEC g ad A u t) A) ([.ref (ad 16), .int x1] : List Value).toArray s 0 0 A) (F0 m 46 ls [.int t46_0]) := by
          intro U46 t46_0 v46_1 v46_2 H locs ls h hz_t46_0 hsh hR hl
          unfold w_X1_comeTo_J46 at h
          replace h := h hR.w hz_t46_0
          refine lv_istore_n (lv' := [(3, .int t46_0), (0, .ref (ad 16)), (1, .int v46_1), (2, .int v46_2)]) hx hb dX1_comeTo_46 rfl hl (by decide) rfl (fun ls hl => ?_)
          refine lv_iconst (v := 0) hx hb dX1_comeTo_47 (by decide) ?_
          refine lv_istore (lv' := [(4, .int 0), (3, .int t46_0), (0, .ref (ad 16)), (1, .int v46_1), (2, .int v46_2)]) hx hb dX1_comeTo_48 hl (by decide) rfl (fun ls hl => ?_)
          have J_50 : ∀ (n50 : Nat) (U50 : MS) (v50_1 : Int32) (v50_2 : Int32) (v50_3 : Int32) (v50_4 : Int32) (H : Heap) (locs : List Loc) (ls : Array Slot), w_X1_comeTo_L50 Q n50 U50 v50_1 v50_2 v50_3 v50_4 → (v50_3 = 0 ∨ v50_3 = 1) → shy S U50 → RepC g ad A s U50 H locs → lv_has ls 6 [(0, .ref (ad 16)), (1, .int v50_1), (2, .int v50_2), (3, .int v50_3), (4, .int v50_4)] → W p l e (headSpec (wt yX1_comeTo cX1_comeTo 6 none) ({ frames := 2, cells := 0, slots := 0, locals := 41 })).room s m ([.ref (ad 16), .int x1] : List Value).toArray below meth c H locs 0 0 (MQ below (va_Qv (fun (u : MS) => Q u ∧ wfC u ∧ shy S u) (fun (u : MS) (t : State) => qEC g ad A u t) A) ([.ref (ad 16), .int x1] : List Value).toArray s 0 0 A) (F0 m 50 ls []) := by
            intro n50
            induction n50 with
            | zero => intro U50 v50_1 v50_2 v50_3 v50_4 H locs ls h hz_v50_3 hsh hR hl; unfold w_X1_comeTo_L50 at h; exact h.elim
            | succ n50 ih_50 =>
              intro U50 v50_1 v50_2 v50_3 v50_4 H locs ls h hz_v50_3 hsh hR hl
              unfold w_X1_comeTo_L50 at h
              replace h := h hR.w hz_v50_3
              refine lv_iload hx hb dX1_comeTo_50 (lv_at hl 4 rfl) ?_
              refine lv_bipush (v := 24) hx hb dX1_comeTo_52 (by decide) ?_
              refine lv_aload_n hx hb dX1_comeTo_54 rfl (lv_at hl 0 rfl) ?_
              refine va_get (D := rD g) (ci := 1) (v := .int (qI U50 16 5)) (C := RX1) (T := TX1) (N := 10) hx hb hts inX1 hown hR.K hR.P 16 (hR.at41 (hR.w.2.1 _ finC_27).2.1) rfl 5 (by decide) (hts _ kw_486) (fun _ h9 => h9) rfl dX1_comeTo_55 ?_
              refine lv_iadd hx hb dX1_comeTo_58 ?_
              refine lv_topi (fun z15 ez15 => ?_)
              obtain rfl : z15 = ((24 : Int32) + (qI U50 16 5)) := ez15
              have J_152 : ∀ (U152 : MS) (v152_1 : Int32) (H : Heap) (locs : List Loc) (ls : Array Slot), w_X1_comeTo_J152 Q U152 v152_1 → shy S U152 → RepC g ad A s U152 H locs → lv_has ls 6 [(0, .ref (ad 16)), (1, .int v152_1)] → W p l e (headSpec (wt yX1_comeTo cX1_comeTo 6 none) ({ frames := 2, cells := 0, slots := 0, locals := 41 })).room s m ([.ref (ad 16), .int x1] : List Value).toArray below meth c H locs 0 0 (MQ below (va_Qv (fun (u : MS) => Q u ∧ wfC u ∧ shy S u) (fun (u : MS) (t : State) => qEC g ad A u t) A) ([.ref (ad 16), .int x1] : List Value).toArray s 0 0 A) (F0 m 152 ls []) := by
                intro U152 v152_1 H locs ls h hsh hR hl
                unfold w_X1_comeTo_J152 at h
                replace h := h hR.w
                refine lv_aload_n hx hb dX1_comeTo_152 rfl (lv_at hl 0 rfl) ?_
                have hT_b16 : qT U152 (qO U152 16 2) = 301 := hR.w.ref (hR.w.ptr ptrC_5) (hR.w.2.1 _ finC_27).2.1
                refine va_get (D := rD g) (ci := 1) (v := .ref (ad (qO U152 16 2))) (C := RX1) (T := TX1) (N := 10) hx hb hts inX1 hown hR.K hR.P 16 (hR.at41 (hR.w.2.1 _ finC_27).2.1) rfl 2 (by decide) (hts _ kw_494) (fun _ h9 => h9) (congrArg (fun z => some (vf ad z)) (hR.w.ptr ptrC_5)) dX1_comeTo_153 ?_
                refine lv_iload_n hx hb dX1_comeTo_156 rfl (lv_at hl 1 rfl) ?_
                refine lv_iconst (v := 1) hx hb dX1_comeTo_157 (by decide) ?_
                obtain ⟨hv17, h⟩ := h
                refine va_zast hx hb hR.K hR.P hR.D hR.sS (qO U152 16 2) 2 (hR.atZ hT_b16 (by decide)) rfl (k_ix (x := v152_1) (a := v152_1.toInt) rfl hv17) dX1_comeTo_158 (fun H locs hP hD hS => ?_)
                have hTk9 : qT U152 (qO U152 16 2) = 301 := hT_b16
                have hR : RepC g ad A s (wI U152 (qO U152 16 2) v152_1.toInt.toNat (vp_nar .boolean (1 : Int32))) H locs := hR.aZ hT_b16 (by decide) (bit_nz2 (Or.inr rfl)) hP hD hS
                obtain ⟨S18, eS18⟩ : ∃ z, z = wI U152 (qO U152 16 2) v152_1.toInt.toNat (vp_nar .boolean (1 : Int32)) := ⟨_, rfl⟩
                rw [← eS18] at hR
                replace h := h S18 eS18 hTk9 hR.w
                have hsh : shy S S18 := by rw [eS18]; exact hsh
                exact W.vret hx hb hr (fun t9 ht9 hW9 => ⟨⟨S18, rfl, ⟨h, hR.w, hsh⟩, ⟨by rw [ht9]; exact hR.P, hR.D⟩⟩, hR.sS.F ht9⟩) hR.sS.2.2 dX1_comeTo_159
              refine lv_icmp_ge (tgt := 152) hx hb dX1_comeTo_59 (by decide) (fun c19 => ?_) (fun c19 => ?_)
              · replace h := h.1 (k_le rfl rfl c19)
                exact J_152 U50 v50_1 _ _ ls h  hsh hR (lv_sub hl [0, 1] rfl)
              · replace h := h.2 (k_nle rfl rfl c19)
                refine lv_iload hx hb dX1_comeTo_62 (lv_at hl 4 rfl) ?_
                refine lv_bipush (v := 48) hx hb dX1_comeTo_64 (by decide) ?_
                refine lv_icmp_ge (tgt := 152) hx hb dX1_comeTo_66 (by decide) (fun c20 => ?_) (fun c20 => ?_)
                · replace h := h.1 (k_le (by decide) rfl c20)
                  exact J_152 U50 v50_1 _ _ ls h  hsh hR (lv_sub hl [0, 1] rfl)
                · replace h := h.2 (k_nle (by decide) rfl c20)
                  refine lv_iload_n hx hb dX1_comeTo_69 rfl (lv_at hl 3 rfl) ?_
                  have J_102 : ∀ (U102 : MS) (t102_0 : Int32) (v102_1 : Int32) (v102_2 : Int32) (v102_3 : Int32) (v102_4 : Int32) (H : Heap) (locs : List Loc) (ls : Array Slot), w_X1_comeTo_J102 Q (w_X1_comeTo_L50 Q n50) U102 t102_0 v102_1 v102_2 v102_3 v102_4 → (v102_3 = 0 ∨ v102_3 = 1) → shy S U102 → RepC g ad A s U102 H locs → lv_has ls 6 [(0, .ref (ad 16)), (1, .int v102_1), (2, .int v102_2), (3, .int v102_3), (4, .int v102_4)] → W p l e (headSpec (wt yX1_comeTo cX1_comeTo 6 none) ({ frames := 2, cells := 0, slots := 0, locals := 41 })).room s m ([.ref (ad 16), .int x1] : List Value).toArray below meth c H locs 0 0 (MQ below (va_Qv (fun (u : MS) => Q u ∧ wfC u ∧ shy S u) (fun (u : MS) (t : State) => qEC g ad A u t) A) ([.ref (ad 16), .int x1] : List Value).toArray s 0 0 A) (F0 m 102 ls [.int t102_0]) := by
                    intro U102 t102_0 v102_1 v102_2 v102_3 v102_4 H locs ls h hz_v102_3 hsh hR hl
                    unfold w_X1_comeTo_J102 at h
                    replace h := h hR.w hz_v102_3
                    refine lv_istore (lv' := [(5, .int t102_0), (0, .ref (ad 16)), (1, .int v102_1), (2, .int v102_2), (3, .int v102_3), (4, .int v102_4)]) hx hb dX1_comeTo_102 hl (by decide) rfl (fun ls hl => ?_)
                    refine lv_iload_n hx hb dX1_comeTo_104 rfl (lv_at hl 4 rfl) ?_
                    have J_146 : ∀ (U146 : MS) (v146_1 : Int32) (v146_2 : Int32) (v146_3 : Int32) (v146_4 : Int32) (H : Heap) (locs : List Loc) (ls : Array Slot), w_X1_comeTo_J146 Q (w_X1_comeTo_L50 Q n50) U146 v146_1 v146_2 v146_3 v146_4 → (v146_3 = 0 ∨ v146_3 = 1) → shy S U146 → RepC g ad A s U146 H locs → lv_has ls 6 [(0, .ref (ad 16)), (1, .int v146_1), (2, .int v146_2), (3, .int v146_3), (4, .int v146_4)] → W p l e (headSpec (wt yX1_comeTo cX1_comeTo 6 none) ({ frames := 2, cells := 0, slots := 0, locals := 41 })).room s m ([.ref (ad 16), .int x1] : List Value).toArray below meth c H locs 0 0 (MQ below (va_Qv (fun (u : MS) => Q u ∧ wfC u ∧ shy S u) (fun (u : MS) (t : State) => qEC g ad A u t) A) ([.ref (ad 16), .int x1] : List Value).toArray s 0 0 A) (F0 m 146 ls []) := by
                      intro U146 v146_1 v146_2 v146_3 v146_4 H locs ls h hz_v146_3 hsh hR hl
                      unfold w_X1_comeTo_J146 at h
                      replace h := h hR.w hz_v146_3
                      obtain ⟨a21, ea21⟩ : ∃ z, z = (v146_4 + Int32.ofInt 1) := ⟨_, rfl⟩
                      replace h := h a21 ea21
                      refine lv_iinc (v := a21) (lv' := [(4, .int a21), (0, .ref (ad 16)), (1, .int v146_1), (2, .int v146_2), (3, .int v146_3)]) hx hb dX1_comeTo_146 hl (k := 4) rfl ea21.symm (by decide) rfl (fun ls hl => ?_)
                      refine lv_goto (tgt := 50) hx hb dX1_comeTo_149 (by decide) ?_
                      exact ih_50 U146 v146_1 v146_2 v146_3 a21 _ _ ls h hz_v146_3 hsh hR (lv_sub hl [1, 2, 3, 4, 0] rfl)
                    have J_122 : ∀ (U122 : MS) (v122_1 : Int32) (v122_2 : Int32) (v122_3 : Int32) (v122_4 : Int32) (v122_5 : Int32) (H : Heap) (locs : List Loc) (ls : Array Slot), w_X1_comeTo_J122 Q (w_X1_comeTo_L50 Q n50) U122 v122_1 v122_2 v122_3 v122_4 v122_5 → (v122_3 = 0 ∨ v122_3 = 1) → shy S U122 → RepC g ad A s U122 H locs → lv_has ls 6 [(0, .ref (ad 16)), (1, .int v122_1), (2, .int v122_2), (3, .int v122_3), (4, .int v122_4), (5, .int v122_5)] → W p l e (headSpec (wt yX1_comeTo cX1_comeTo 6 none) ({ frames := 2, cells := 0, slots := 0, locals := 41 })).room s m ([.ref (ad 16), .int x1] : List Value).toArray below meth c H locs 0 0 (MQ below (va_Qv (fun (u : MS) => Q u ∧ wfC u ∧ shy S u) (fun (u : MS) (t : State) => qEC g ad A u t) A) ([.ref (ad 16), .int x1] : List Value).toArray s 0 0 A) (F0 m 122 ls []) := by
                      intro U122 v122_1 v122_2 v122_3 v122_4 v122_5 H locs ls h hz_v122_3 hsh hR hl
                      unfold w_X1_comeTo_J122 at h
                      replace h := h hR.w hz_v122_3
                      refine lv_aload_n hx hb dX1_comeTo_122 rfl (lv_at hl 0 rfl) ?_
                      have hT_b22 : qT U122 (qO U122 16 1) = 102 := hR.w.ref (hR.w.ptr ptrC_4) (hR.w.2.1 _ finC_27).2.1
                      refine va_get (D := rD g) (ci := 1) (v := .ref (ad (qO U122 16 1))) (C := RX1) (T := TX1) (N := 10) hx hb hts inX1 hown hR.K hR.P 16 (hR.at41 (hR.w.2.1 _ finC_27).2.1) rfl 1 (by decide) (hts _ kw_495) (fun _ h9 => h9) (congrArg (fun z => some (vf ad z)) (hR.w.ptr ptrC_4)) dX1_comeTo_123 ?_
                      refine lv_iload_n hx hb dX1_comeTo_126 rfl (lv_at hl 2 rfl) ?_
                      refine lv_iload hx hb dX1_comeTo_127 (lv_at hl 4 rfl) ?_
                      refine lv_iadd hx hb dX1_comeTo_129 ?_
                      refine lv_topi (fun z23 ez23 => ?_)
                      obtain rfl : z23 = (v122_2 + v122_4) := ez23
                      refine lv_iload hx hb dX1_comeTo_130 (lv_at hl 5 rfl) ?_
                      refine lv_i2b (v := (v122_5.toInt8.toInt32)) hx hb dX1_comeTo_132 rfl ?_
                      obtain ⟨hv24, h⟩ := h
                      refine va_bast hx hb hR.K hR.P hR.D hR.sS (qO U122 16 1) 0 (hR.atB hT_b22 (by decide)) rfl (k_ix (x := (v122_2 + v122_4)) (a := (v122_2 + v122_4).toInt) rfl hv24) dX1_comeTo_133 (fun H locs hP hD hS => ?_)
                      have hTk9 : qT U122 (qO U122 16 1) = 102 := hT_b22
                      have hR : RepC g ad A s (wI U122 (qO U122 16 1) (((v122_2 + v122_4).toInt).toNat) (vp_nar .byte (v122_5.toInt8.toInt32))) H locs := hR.aB hT_b22 (by decide) (fit_nb _) hP hD hS
                      obtain ⟨S25, eS25⟩ : ∃ z, z = wI U122 (qO U122 16 1) (((v122_2 + v122_4).toInt).toNat) (vp_nar .byte (v122_5.toInt8.toInt32)) := ⟨_, rfl⟩
                      rw [← eS25] at hR
                      replace h := h S25 eS25 hTk9 hR.w
                      have hsh : shy S S25 := by rw [eS25]; exact hsh
                      refine lv_aload_n hx hb dX1_comeTo_134 rfl (lv_at hl 0 rfl) ?_
                      have hT_b26 : qT S25 (qO S25 16 3) = 302 := hR.w.ref (hR.w.ptr ptrC_6) (hR.w.2.1 _ finC_27).2.1
                      refine va_get (D := rD g) (ci := 1) (v := .ref (ad (qO S25 16 3))) (C := RX1) (T := TX1) (N := 10) hx hb hts inX1 hown hR.K hR.P 16 (hR.at41 (hR.w.2.1 _ finC_27).2.1) rfl 3 (by decide) (hts _ kw_497) (fun _ h9 => h9) (congrArg (fun z => some (vf ad z)) (hR.w.ptr ptrC_6)) dX1_comeTo_135 ?_
                      refine lv_iload_n hx hb dX1_comeTo_138 rfl (lv_at hl 1 rfl) ?_
                      refine lv_iconst (v := 1) hx hb dX1_comeTo_139 (by decide) ?_
                      obtain ⟨hv27, h⟩ := h
                      refine va_zast hx hb hR.K hR.P hR.D hR.sS (qO S25 16 3) 2 (hR.atZ hT_b26 (by decide)) rfl (k_ix (x := v122_1) (a := v122_1.toInt) rfl hv27) dX1_comeTo_140 (fun H locs hP hD hS => ?_)
                      have hTk9 : qT S25 (qO S25 16 3) = 302 := hT_b26
                      have hR : RepC g ad A s (wI S25 (qO S25 16 3) v122_1.toInt.toNat (vp_nar .boolean (1 : Int32))) H locs := hR.aZ hT_b26 (by decide) (bit_nz2 (Or.inr rfl)) hP hD hS
                      obtain ⟨S28, eS28⟩ : ∃ z, z = wI S25 (qO S25 16 3) v122_1.toInt.toNat (vp_nar .boolean (1 : Int32)) := ⟨_, rfl⟩
                      rw [← eS28] at hR
                      replace h := h S28 eS28 hTk9 hR.w
                      have hsh : shy S S28 := by rw [eS28]; exact hsh
                      refine lv_aload_n hx hb dX1_comeTo_141 rfl (lv_at hl 0 rfl) ?_
                      refine lv_iconst (v := 1) hx hb dX1_comeTo_142 (by decide) ?_
                      refine va_put (D := rD g) (ci := 1) (v := .int 1) (ty := .boolean) (C := RX1) (T := TX1) (N := 10) hx hb hts inX1 tyX1 tyX1_ok nmX1 hown hR.K hR.P hR.D hR.sS 16 (hR.at41 (hR.w.2.1 _ finC_27).2.1) rfl 7 (by decide) (hts _ kw_498) (fun _ h9 => h9) rfl (by decide +kernel) rfl rfl (Nat.le_of_ble_eq_true rfl) dX1_comeTo_143 (fun H locs hP hD hS => ?_)
                      have hTk9 : qT S28 16 = 41 := (hR.w.2.1 _ finC_27).2.1
                      have hR : RepC g ad A s (wI S28 16 7 (1 : Int32)) H locs := hR.pI41 (hR.w.2.1 _ finC_27).2.1 FX1_s7 (fun _ => (Or.inr rfl)) hP hD hS
                      obtain ⟨S29, eS29⟩ : ∃ z, z = wI S28 16 7 (1 : Int32) := ⟨_, rfl⟩
                      rw [← eS29] at hR
                      replace h := h S29 eS29 hTk9 hR.w
                      have hsh : shy S S29 := by rw [eS29]; exact hsh
                      exact J_146 S29 v122_1 v122_2 v122_3 v122_4 _ _ ls h hz_v122_3 hsh hR (lv_sub hl [0, 1, 2, 3, 4] rfl)
                    refine lv_if_ne (tgt := 122) hx hb dX1_comeTo_105 (by decide) (fun c30 => ?_) (fun c30 => ?_)
                    · replace h := h.2 (k_ne rfl (by decide) c30)
                      exact J_122 U102 v102_1 v102_2 v102_3 v102_4 t102_0 _ _ ls h hz_v102_3 hsh hR (lv_sub hl [1, 2, 3, 4, 5, 0] rfl)
                    · replace h := h.1 (k_eq rfl (by decide) c30)
                      refine lv_iload hx hb dX1_comeTo_108 (lv_at hl 0 rfl) ?_
                      refine lv_aload_n hx hb dX1_comeTo_110 rfl (lv_at hl 1 rfl) ?_
                      have hT_b31 : qT U102 (qO U102 16 1) = 102 := hR.w.ref (hR.w.ptr ptrC_4) (hR.w.2.1 _ finC_27).2.1
                      refine va_get (D := rD g) (ci := 1) (v := .ref (ad (qO U102 16 1))) (C := RX1) (T := TX1) (N := 10) hx hb hts inX1 hown hR.K hR.P 16 (hR.at41 (hR.w.2.1 _ finC_27).2.1) rfl 1 (by decide) (hts _ kw_495) (fun _ h9 => h9) (congrArg (fun z => some (vf ad z)) (hR.w.ptr ptrC_4)) dX1_comeTo_111 ?_
                      refine lv_iload_n hx hb dX1_comeTo_114 rfl (lv_at hl 3 rfl) ?_
                      refine lv_iload hx hb dX1_comeTo_115 (lv_at hl 5 rfl) ?_
                      refine lv_iadd hx hb dX1_comeTo_117 ?_
                      refine lv_topi (fun z32 ez32 => ?_)
                      obtain rfl : z32 = (v102_2 + v102_4) := ez32
                      obtain ⟨hv33, h⟩ := h
                      refine va_bald hx hb hR.K hR.P (qO U102 16 1) 0 (hR.atB hT_b31 (by decide)) rfl (k_ix (x := (v102_2 + v102_4)) (a := (v102_2 + v102_4).toInt) rfl hv33) dX1_comeTo_118 ?_
                      refine lv_topi (fun z34 ez34 => ?_)
                      obtain rfl : z34 = (qI U102 (qO U102 16 1) (((v102_2 + v102_4).toInt).toNat)) := ez34
                      refine lv_icmp_eq (tgt := 146) hx hb dX1_comeTo_119 (by decide) (fun c35 => ?_) (fun c35 => ?_)
                      · replace h := h.1 (k_eq rfl rfl c35)
                        exact J_146 U102 v102_1 v102_2 v102_3 v102_4 _ _ ls h hz_v102_3 hsh hR (lv_sub hl [1, 2, 3, 4, 5] rfl)
                      · replace h := h.2 (k_ne rfl rfl c35)
                        exact J_122 U102 v102_1 v102_2 v102_3 v102_4 t102_0 _ _ ls h hz_v102_3 hsh hR (lv_sub hl [1, 2, 3, 4, 5, 0] rfl)
                  refine lv_if_eq (tgt := 83) hx hb dX1_comeTo_70 (by decide) (fun c36 => ?_) (fun c36 => ?_)
                  · replace h := h.1 (k_eq rfl (by decide) c36)
                    refine lv_aload_n hx hb dX1_comeTo_83 rfl (lv_at hl 0 rfl) ?_
                    have hT_b37 : qT U50 (qO U50 16 1) = 102 := hR.w.ref (hR.w.ptr ptrC_4) (hR.w.2.1 _ finC_27).2.1
                    refine va_get (D := rD g) (ci := 1) (v := .ref (ad (qO U50 16 1))) (C := RX1) (T := TX1) (N := 10) hx hb hts inX1 hown hR.K hR.P 16 (hR.at41 (hR.w.2.1 _ finC_27).2.1) rfl 1 (by decide) (hts _ kw_495) (fun _ h9 => h9) (congrArg (fun z => some (vf ad z)) (hR.w.ptr ptrC_4)) dX1_comeTo_84 ?_
                    refine lv_iload_n hx hb dX1_comeTo_87 rfl (lv_at hl 2 rfl) ?_
                    refine lv_iload hx hb dX1_comeTo_88 (lv_at hl 4 rfl) ?_
                    refine lv_iadd hx hb dX1_comeTo_90 ?_
                    refine lv_topi (fun z38 ez38 => ?_)
                    obtain rfl : z38 = (v50_2 + v50_4) := ez38
                    obtain ⟨hv39, h⟩ := h
                    refine va_bald hx hb hR.K hR.P (qO U50 16 1) 0 (hR.atB hT_b37 (by decide)) rfl (k_ix (x := (v50_2 + v50_4)) (a := (v50_2 + v50_4).toInt) rfl hv39) dX1_comeTo_91 ?_
                    refine lv_topi (fun z40 ez40 => ?_)
                    obtain rfl : z40 = (qI U50 (qO U50 16 1) (((v50_2 + v50_4).toInt).toNat)) := ez40
                    refine lv_aload_n hx hb dX1_comeTo_92 rfl (lv_at hl 0 rfl) ?_
                    refine va_get (D := rD g) (ci := 1) (v := .ref (ad 24)) (C := RX1) (T := TX1) (N := 10) hx hb hts inX1 hown hR.K hR.P 16 (hR.at41 (hR.w.2.1 _ finC_27).2.1) rfl 4 (by decide) (hts _ kw_477) (fun _ h9 => h9) (congrArg (fun z => some (vf ad z)) (hR.w.2.1 _ finC_1).1) dX1_comeTo_93 ?_
                    refine lv_iload hx hb dX1_comeTo_96 (lv_at hl 4 rfl) ?_
                    obtain ⟨hv41, h⟩ := h
                    refine va_bald hx hb hR.K hR.P 24 0 (hR.atB (hR.w.2.1 _ finC_1).2.1 (by decide)) rfl (k_ixN (k_ix (n := 48) (x := v50_4) (a := v50_4.toInt) rfl hv41) (hR.w.2.1 _ finC_1).2.2) dX1_comeTo_98 ?_
                    refine lv_topi (fun z42 ez42 => ?_)
                    obtain rfl : z42 = (qI U50 24 v50_4.toInt.toNat) := ez42
                    obtain ⟨hv43, h⟩ := h
                    have hFc := cfree hR hA
                    refine va_calli (va_runS (As := [.int (qI U50 (qO U50 16 1) (((v50_2 + v50_4).toInt).toNat)), .int (qI U50 24 v50_4.toInt.toNat)]) (rest := []) ⟨hx, hb, hml, hown, hts⟩ (rX1_join l g ad H.size U50 (qI U50 (qO U50 16 1) (((v50_2 + v50_4).toInt).toNat)) (qI U50 24 v50_4.toInt.toNat) hR.w  hv43) (va_cwS 2 hts (gd_S kw_496 kw_559 kw_392 kw_558) rfl rfl rfl (by decide +kernel) ⟨Nat.le_of_ble_eq_true rfl, Nat.le_of_ble_eq_true rfl⟩) ⟨cblind, fun U hU hW9 => cmk hU hW9 hR hex hE hFc⟩ rfl rfl hl.1 rfl (lv_room (Nat.le_of_ble_eq_true rfl)) dX1_comeTo_99 ⟨Nat.le_of_ble_eq_true rfl, Nat.le_of_ble_eq_true rfl⟩) hR.sS (fun q _ h => hFc q h) hFc (fun r44 u9 t9 H1 locs ht9 hvm9 hw9 hB9 hz9 hk9 hS => ?_)
                    have hR : RepC g ad A s U50 H1 locs := hR.call ht9 hB9 hR.w hS hFc
                    obtain rfl : r44 = (fX1_join U50 (qI U50 (qO U50 16 1) (((v50_2 + v50_4).toInt).toNat)) (qI U50 24 v50_4.toInt.toNat)) := hw9
                    clear hB9 hz9 hk9 hvm9 ht9 hS
                    generalize H1 = H at hR ⊢
                    exact J_102 U50 (fX1_join U50 (qI U50 (qO U50 16 1) (((v50_2 + v50_4).toInt).toNat)) (qI U50 24 v50_4.toInt.toNat)) v50_1 v50_2 v50_3 v50_4 _ _ ls h hz_v50_3 hsh hR (lv_sub hl [0, 1, 2, 3, 4] rfl)
                  · replace h := h.2 (k_ne rfl (by decide) c36)
                    refine lv_aload_n hx hb dX1_comeTo_73 rfl (lv_at hl 0 rfl) ?_
                    refine va_get (D := rD g) (ci := 1) (v := .ref (ad 24)) (C := RX1) (T := TX1) (N := 10) hx hb hts inX1 hown hR.K hR.P 16 (hR.at41 (hR.w.2.1 _ finC_27).2.1) rfl 4 (by decide) (hts _ kw_477) (fun _ h9 => h9) (congrArg (fun z => some (vf ad z)) (hR.w.2.1 _ finC_1).1) dX1_comeTo_74 ?_
                    refine lv_iload hx hb dX1_comeTo_77 (lv_at hl 4 rfl) ?_
                    obtain ⟨hv46, h⟩ := h
                    refine va_bald hx hb hR.K hR.P 24 0 (hR.atB (hR.w.2.1 _ finC_1).2.1 (by decide)) rfl (k_ixN (k_ix (n := 48) (x := v50_4) (a := v50_4.toInt) rfl hv46) (hR.w.2.1 _ finC_1).2.2) dX1_comeTo_79 ?_
                    refine lv_topi (fun z47 ez47 => ?_)
                    obtain rfl : z47 = (qI U50 24 v50_4.toInt.toNat) := ez47
                    refine lv_goto (tgt := 102) hx hb dX1_comeTo_80 (by decide) ?_
                    exact J_102 U50 (qI U50 24 v50_4.toInt.toNat) v50_1 v50_2 v50_3 v50_4 _ _ ls h hz_v50_3 hsh hR (lv_sub hl [0, 1, 2, 3, 4] rfl)
          obtain ⟨n9, h⟩ := h
          exact J_50 n9 U46 v46_1 v46_2 t46_0 0 _ _ ls h hz_t46_0 hsh hR (lv_sub hl [2, 3, 4, 1, 0] rfl)
        refine lv_if_ne (tgt := 45) hx hb dX1_comeTo_38 (by decide) (fun c48 => ?_) (fun c48 => ?_)
        · replace h := h.2 (k_ne rfl (by decide) c48)
          refine lv_iconst (v := 0) hx hb dX1_comeTo_45 (by decide) ?_
          exact J_46 S 0 x1 a10 _ _ ls h (Or.inl rfl) hsh hR (lv_sub hl [1, 2, 0] rfl)
        · replace h := h.1 (k_eq rfl (by decide) c48)
          refine lv_iconst (v := 1) hx hb dX1_comeTo_41 (by decide) ?_
          refine lv_goto (tgt := 46) hx hb dX1_comeTo_42 (by decide) ?_
          exact J_46 S 1 x1 a10 _ _ ls h (Or.inr rfl) hsh hR (lv_sub hl [1, 2, 0] rfl)
      · replace h := h.2 (k_ne rfl (by decide) c8)
        exact W.vret hx hb hr (fun t9 ht9 hW9 => ⟨⟨S, rfl, ⟨h, hR.w, hsh⟩, ⟨by rw [ht9]; exact hR.P, hR.D⟩⟩, hR.sS.F ht9⟩) hR.sS.2.2 dX1_comeTo_26
def wX1_takeUp (S : MS) (x1 : Int32) (Q : MS → Prop) : Prop := (d_X4_heightAt S 17 x1 ∧ (∀ S6, S6 = wI S 16 5 (if (0 : Int32) < (if (24 : Int32) < (fX4_heightAt S 17 x1) then (24 : Int32) else (fX4_heightAt S 17 x1)) then (if (24 : Int32) < (fX4_heightAt S 17 x1) then (24 : Int32) else (fX4_heightAt S 17 x1)) else (0 : Int32)) → qT S 16 = 41 → wfC S6 → ((¬ (x1 * (48 : Int32)) < 0 ∧ ¬ (0 : Int32) < 0 ∧ ¬ (48 : Int32) < 0 ∧ (x1 * (48 : Int32)).toNatClampNeg + (48 : Int32).toNatClampNeg ≤ qN S6 (qO S6 16 1) ∧ (0 : Int32).toNatClampNeg + (48 : Int32).toNatClampNeg ≤ qN S6 24) ∧ (∀ S10, S10 = wC S6 24 (va_cpy (qI S6 (qO S6 16 1)) (qI S6 24) (x1 * (48 : Int32)).toNatClampNeg (0 : Int32).toNatClampNeg (48 : Int32).toNatClampNeg) → qT S6 24 = 103 → wfC S10 → Q S10))))
set_option maxHeartbeats 2000000 in
set_option maxRecDepth 100000 in
theorem rX1_takeUp (l : Launch) (g : Gr) (ad : Nat → Nat) (sz : Nat) (S : MS) (x1 : Int32) (hw : wfC S) (Q : MS → Prop) (h : wX1_takeUp S x1 Q) : Met l yX1_takeUp (wt yX1_takeUp cX1_takeUp 2 none) ({ frames := 2, cells := 0, slots := 0, locals := 42 }) (va_Pc [.ref (ad 16), .int x1] (st_C g ad sz S)) (va_Qv (fun (u : MS) => Q u ∧ wfC u ∧ shy S u) (fun (u : MS) (t : State) => qEC g ad (va_A (WdC g ad S) sz) u t) (va_A (WdC g ad S) sz)) 0 0 (va_A (WdC g ad S) sz) := by
  refine Met.ofW (cc := cX1_takeUp) (maxL := 2) (ret := none) (by decide) rfl ?_
  intro p e s m args below meth c s₁ B hml hv
  obtain ⟨rfl, hsz, hP, hK, hD0, hex, hE⟩ := hv
  have hx := B.exec
  have hb := B.bytes
  have hr := B.returns
  have hts0 := atoms_spec (ws := wt yX1_takeUp cX1_takeUp 2 none) B.pre
  have hts : ∀ w ∈ tb, w.before _ s = true := fun w h => hts0 w (List.mem_cons_of_mem _ h)
  have hown : s.vm.findClass RX1 = some m.cls := findClass_of_methodNamed B.named
  subst hsz
  have hD := hD0.self (sz := s.heap.size)
  generalize hAe : va_A (WdC g ad S) s.heap.size = A at hD hE ⊢
  have hA : ∀ q : Nat, s.heap.size ≤ q → A q := fun q h => by rw [← hAe]; exact Or.inr h
  have hR : RepC g ad A s S s.heap [] := ⟨hK, hP, hD, va_S.rf, hw⟩
  clear hK hP hD hD0
  have hl := lv_entry ([.ref (ad 16), .int x1]) (n := 2) (Nat.le_of_ble_eq_true rfl)
  rw [lg_entry_eq]
  generalize (lg_sl ([.ref (ad 16), .int x1]) ++ List.replicate (2 - (lg_sl ([.ref (ad 16), .int x1])).length) Slot.unset).toArray = ls at hl ⊢
  have hl : lv_has ls 2 [(0, .ref (ad 16)), (1, .int x1)] := hl
  have hsh : shy S S := shy.rf
  unfold wX1_takeUp at h
  refine lv_aload_n hx hb dX1_takeUp_0 rfl (lv_at hl 0 rfl) ?_
  refine lv_iconst (v := 0) hx hb dX1_takeUp_1 (by decide) ?_
  refine lv_aload_n hx hb dX1_takeUp_2 rfl (lv_at hl 0 rfl) ?_
  refine va_get (D := rD g) (ci := 1) (v := .ref (ad 17)) (C := RX1) (T := TX1) (N := 10) hx hb hts inX1 hown hR.K hR.P 16 (hR.at41 (hR.w.2.1 _ finC_27).2.1) rfl 0 (by decide) (hts _ kw_492) (fun _ h9 => h9) (congrArg (fun z => some (vf ad z)) (hR.w.2.1 _ finC_0).1) dX1_takeUp_3 ?_
  refine lv_iload_n hx hb dX1_takeUp_6 rfl (lv_at hl 1 rfl) ?_
  obtain ⟨hv1, h⟩ := h
  have hFc := cfree hR hA
  refine va_calli (va_runV (As := [.int x1]) (rest := [.int 0, .ref (ad 16)]) ⟨hx, hb, hml, hown, hts⟩ (rX4_heightAt l g ad s.heap.size S 17 x1 hR.w (hR.w.2.1 _ finC_0).2.1 hv1) (cwV 1 hts (gd_V kw_567 kw_960 kw_961 kw_167 kw_959) rfl rfl rfl (by decide +kernel) ⟨Nat.le_of_ble_eq_true rfl, Nat.le_of_ble_eq_true rfl⟩) ⟨cblind, va_recv hR.K hR.P (ci := 4) (q0 := 17) rfl (hR.at44 (hR.w.2.1 _ finC_0).2.1), fun U hU hW9 => cmk hU hW9 hR hex hE hFc⟩ rfl rfl hl.1 rfl (lv_room (Nat.le_of_ble_eq_true rfl)) dX1_takeUp_7 ⟨Nat.le_of_ble_eq_true rfl, Nat.le_of_ble_eq_true rfl⟩) hR.sS (fun q _ h => hFc q h) hFc (fun r2 u9 t9 H1 locs ht9 hvm9 hw9 hB9 hz9 hk9 hS => ?_)
  have hR : RepC g ad A s S H1 locs := hR.call ht9 hB9 hR.w hS hFc
  obtain rfl : r2 = (fX4_heightAt S 17 x1) := hw9
  clear hB9 hz9 hk9 hvm9 ht9 hS
  generalize H1 = H at hR ⊢
  refine lv_bipush (v := 24) hx hb dX1_takeUp_10 (by decide) ?_
  refine va_mmin hx hb (by rw [hml]; exact hl.1.symm) hown (hts _ kw_611) (hts _ kw_1750) (hts _ kw_1748) (hts _ kw_1749) (Nat.le_of_ble_eq_true rfl) (Nat.le_of_ble_eq_true rfl) (Nat.le_of_ble_eq_true rfl) (Nat.le_of_ble_eq_true rfl) dX1_takeUp_12 ?_
  refine lv_topi (fun z4 ez4 => ?_)
  obtain rfl : z4 = (if (24 : Int32) < (fX4_heightAt S 17 x1) then (24 : Int32) else (fX4_heightAt S 17 x1)) := ez4
  refine va_mmax hx hb (by rw [hml]; exact hl.1.symm) hown (hts _ kw_612) (hts _ kw_1747) (hts _ kw_1748) (hts _ kw_1746) (Nat.le_of_ble_eq_true rfl) (Nat.le_of_ble_eq_true rfl) (Nat.le_of_ble_eq_true rfl) (Nat.le_of_ble_eq_true rfl) dX1_takeUp_15 ?_
  refine lv_topi (fun z5 ez5 => ?_)
  obtain rfl : z5 = (if (0 : Int32) < (if (24 : Int32) < (fX4_heightAt S 17 x1) then (24 : Int32) else (fX4_heightAt S 17 x1)) then (if (24 : Int32) < (fX4_heightAt S 17 x1) then (24 : Int32) else (fX4_heightAt S 17 x1)) else (0 : Int32)) := ez5
  refine va_put (D := rD g) (ci := 1) (v := .int (if (0 : Int32) < (if (24 : Int32) < (fX4_heightAt S 17 x1) then (24 : Int32) else (fX4_heightAt S 17 x1)) then (if (24 : Int32) < (fX4_heightAt S 17 x1) then (24 : Int32) else (fX4_heightAt S 17 x1)) else (0 : Int32))) (ty := .int) (C := RX1) (T := TX1) (N := 10) hx hb hts inX1 tyX1 tyX1_ok nmX1 hown hR.K hR.P hR.D hR.sS 16 (hR.at41 (hR.w.2.1 _ finC_27).2.1) rfl 5 (by decide) (hts _ kw_486) (fun _ h9 => h9) rfl (by decide +kernel) rfl rfl (Nat.le_of_ble_eq_true rfl) dX1_takeUp_18 (fun H locs hP hD hS => ?_)
  have hTk9 : qT S 16 = 41 := (hR.w.2.1 _ finC_27).2.1
  have hR : RepC g ad A s (wI S 16 5 (if (0 : Int32) < (if (24 : Int32) < (fX4_heightAt S 17 x1) then (24 : Int32) else (fX4_heightAt S 17 x1)) then (if (24 : Int32) < (fX4_heightAt S 17 x1) then (24 : Int32) else (fX4_heightAt S 17 x1)) else (0 : Int32))) H locs := hR.pI41 (hR.w.2.1 _ finC_27).2.1 FX1_s5 (fun q9 => absurd q9 (by decide)) hP hD hS
  obtain ⟨S6, eS6⟩ : ∃ z, z = wI S 16 5 (if (0 : Int32) < (if (24 : Int32) < (fX4_heightAt S 17 x1) then (24 : Int32) else (fX4_heightAt S 17 x1)) then (if (24 : Int32) < (fX4_heightAt S 17 x1) then (24 : Int32) else (fX4_heightAt S 17 x1)) else (0 : Int32)) := ⟨_, rfl⟩
  rw [← eS6] at hR
  replace h := h S6 eS6 hTk9 hR.w
  have hsh : shy S S6 := by rw [eS6]; exact hsh
  refine lv_aload_n hx hb dX1_takeUp_21 rfl (lv_at hl 0 rfl) ?_
  have hT_b7 : qT S6 (qO S6 16 1) = 102 := hR.w.ref (hR.w.ptr ptrC_4) (hR.w.2.1 _ finC_27).2.1
  refine va_get (D := rD g) (ci := 1) (v := .ref (ad (qO S6 16 1))) (C := RX1) (T := TX1) (N := 10) hx hb hts inX1 hown hR.K hR.P 16 (hR.at41 (hR.w.2.1 _ finC_27).2.1) rfl 1 (by decide) (hts _ kw_495) (fun _ h9 => h9) (congrArg (fun z => some (vf ad z)) (hR.w.ptr ptrC_4)) dX1_takeUp_22 ?_
  refine lv_iload_n hx hb dX1_takeUp_25 rfl (lv_at hl 1 rfl) ?_
  refine lv_bipush (v := 48) hx hb dX1_takeUp_26 (by decide) ?_
  refine lv_imul hx hb dX1_takeUp_28 ?_
  refine lv_topi (fun z8 ez8 => ?_)
  obtain rfl : z8 = (x1 * (48 : Int32)) := ez8
  refine lv_aload_n hx hb dX1_takeUp_29 rfl (lv_at hl 0 rfl) ?_
  refine va_get (D := rD g) (ci := 1) (v := .ref (ad 24)) (C := RX1) (T := TX1) (N := 10) hx hb hts inX1 hown hR.K hR.P 16 (hR.at41 (hR.w.2.1 _ finC_27).2.1) rfl 4 (by decide) (hts _ kw_477) (fun _ h9 => h9) (congrArg (fun z => some (vf ad z)) (hR.w.2.1 _ finC_1).1) dX1_takeUp_30 ?_
  refine lv_iconst (v := 0) hx hb dX1_takeUp_33 (by decide) ?_
  refine lv_bipush (v := 48) hx hb dX1_takeUp_34 (by decide) ?_
  obtain ⟨hv9, h⟩ := h
  refine va_copyi hx hb (by rw [hml]; exact hl.1.symm) hown (hts _ kw_613) (hts _ kw_28) (hts _ kw_29) (hts _ kw_30) hR.K hR.P hR.D hR.sS (qO S6 16 1) 24 0 0 (hR.atB hT_b7 (by decide)) (hR.atB (hR.w.2.1 _ finC_1).2.1 (by decide)) rfl rfl rfl hv9.1 hv9.2.1 hv9.2.2.1 hv9.2.2.2.1 hv9.2.2.2.2 (fun i _ => hR.w.by (hT_b7) (by decide)) (Nat.le_of_ble_eq_true rfl) (Nat.le_of_ble_eq_true rfl) dX1_takeUp_36 (fun H locs hP hD hS => ?_)
  have hTk9 : qT S6 24 = 103 := (hR.w.2.1 _ finC_1).2.1
  have hR : RepC g ad A s (wC S6 24 (va_cpy (qI S6 (qO S6 16 1)) (qI S6 24) (x1 * (48 : Int32)).toNatClampNeg (0 : Int32).toNatClampNeg (48 : Int32).toNatClampNeg)) H locs := hR.cB (hR.w.2.1 _ finC_1).2.1 (by decide) (fit_cpy (fun i => hR.w.by (hT_b7) (by decide)) (fun i => hR.w.by ((hR.w.2.1 _ finC_1).2.1) (by decide))) hP hD hS
  obtain ⟨S10, eS10⟩ : ∃ z, z = wC S6 24 (va_cpy (qI S6 (qO S6 16 1)) (qI S6 24) (x1 * (48 : Int32)).toNatClampNeg (0 : Int32).toNatClampNeg (48 : Int32).toNatClampNeg) := ⟨_, rfl⟩
  rw [← eS10] at hR
  replace h := h S10 eS10 hTk9 hR.w
  have hsh : shy S S10 := by rw [eS10]; exact hsh
  exact W.vret hx hb hr (fun t9 ht9 hW9 => ⟨⟨S10, rfl, ⟨h, hR.w, hsh⟩, ⟨by rw [ht9]; exact hR.P, hR.D⟩⟩, hR.sS.F ht9⟩) hR.sS.2.2 dX1_takeUp_39
def w_X1_load_J95 (Q : MS → Prop) (U95 : MS) (t95_0 : Int32) (t95_1 : Int32) (v95_1 : Int32) : Prop := (wfC U95 → (t95_0 = 0 ∨ t95_0 = 1) → (((t95_1 ||| t95_0) = 0 ∨ (t95_1 ||| t95_0) = 1) ∧ (∀ S9, S9 = wI U95 16 6 (t95_1 ||| t95_0) → qT U95 16 = 41 → wfC S9 → (d_X6_gives S9 v95_1 ∧ (∀ a13 : Int32, a13 = (fX6_gives S9 v95_1) → (∃ Q14, wX1_give S9 a13 Q14 ∧ ∀ S15, Q14 S15 → wfC S15 → shy S9 S15 → Q S15))))))
def w_X1_load_J90 (Q : MS → Prop) (U90 : MS) (t90_0 : Int32) (v90_1 : Int32) : Prop := (wfC U90 → w_X1_load_J95 Q U90 1 t90_0 v90_1)
def w_X1_load_J29 (Q : MS → Prop) (U29 : MS) (t29_0 : Int32) (t29_1 : Int32) (v29_3 : Int32) : Prop := (wfC U29 → (t29_0 = 0 ∨ t29_0 = 1) → (((t29_1 ||| t29_0) = 0 ∨ (t29_1 ||| t29_0) = 1) ∧ (∀ S33, S33 = wI U29 16 6 (t29_1 ||| t29_0) → qT U29 16 = 41 → wfC S33 → (d_X1_isReference S33 v29_3 ∧ (∀ a37 : Int32, a37 = (fX1_isReference S33 v29_3) → ((a37.toInt = 0 → (∃ Q39, wX1_push S33 (0 : Int32) Q39 ∧ ∀ S40, Q39 S40 → wfC S40 → shy S33 S40 → Q S40)) ∧ (¬ a37.toInt = 0 → (∃ Q42, wX1_push S33 v29_3 Q42 ∧ ∀ S43, Q42 S43 → wfC S43 → shy S33 S43 → Q S43))))))))
def wX1_load (S : MS) (x1 : Int32) (x2 : Int32) (Q : MS → Prop) : Prop := (d_X1_placeAt S x2 ∧ (∀ a4 : Int32, a4 = (fX1_placeAt S x2) → ((x1.toInt = 25 → (d_X1_isReference S a4 ∧ (∀ a30 : Int32, a30 = (fX1_isReference S a4) → ((a30.toInt = 0 → w_X1_load_J29 Q S 1 (qI S 16 6) a4) ∧ (¬ a30.toInt = 0 → w_X1_load_J29 Q S 0 (qI S 16 6) a4))))) ∧ (¬ x1.toInt = 25 → ((x1.toInt = 21 → ((a4.toInt = 1 → w_X1_load_J95 Q S 0 (qI S 16 6) x1) ∧ (¬ a4.toInt = 1 → w_X1_load_J95 Q S 1 (qI S 16 6) x1))) ∧ (¬ x1.toInt = 21 → ((a4.toInt = 2 → (d_X1_placeAt S (x2 + (1 : Int32)) ∧ (∀ a23 : Int32, a23 = (fX1_placeAt S (x2 + (1 : Int32))) → ((a23.toInt = 3 → w_X1_load_J95 Q S 0 (qI S 16 6) x1) ∧ (¬ a23.toInt = 3 → w_X1_load_J90 Q S (qI S 16 6) x1))))) ∧ (¬ a4.toInt = 2 → w_X1_load_J90 Q S (qI S 16 6) x1))))))))
set_option maxHeartbeats 2000000 in
set_option maxRecDepth 100000 in
theorem rX1_load (l : Launch) (g : Gr) (ad : Nat → Nat) (sz : Nat) (S : MS) (x1 : Int32) (x2 : Int32) (hw : wfC S) (Q : MS → Prop) (h : wX1_load S x1 x2 Q) : Met l yX1_load (wt yX1_load cX1_load 4 none) ({ frames := 2, cells := 0, slots := 0, locals := 42 }) (va_Pc [.ref (ad 16), .int x1, .int x2] (st_C g ad sz S)) (va_Qv (fun (u : MS) => Q u ∧ wfC u ∧ shy S u) (fun (u : MS) (t : State) => qEC g ad (va_A (WdC g ad S) sz) u t) (va_A (WdC g ad S) sz)) 0 0 (va_A (WdC g ad S) sz) := by
  refine Met.ofW (cc := cX1_load) (maxL := 4) (ret := none) (by decide) rfl ?_
  intro p e s m args below meth c s₁ B hml hv
  obtain ⟨rfl, hsz, hP, hK, hD0, hex, hE⟩ := hv
  have hx := B.exec
  have hb := B.bytes
  have hr := B.returns
  have hts0 := atoms_spec (ws := wt yX1_load cX1_load 4 none) B.pre
  have hts : ∀ w ∈ tb, w.before _ s = true := fun w h => hts0 w (List.mem_cons_of_mem _ h)
  have hown : s.vm.findClass RX1 = some m.cls := findClass_of_methodNamed B.named
  subst hsz
  have hD := hD0.self (sz := s.heap.size)
  generalize hAe : va_A (WdC g ad S) s.heap.size = A at hD hE ⊢
  have hA : ∀ q : Nat, s.heap.size ≤ q → A q := fun q h => by rw [← hAe]; exact Or.inr h
  have hR : RepC g ad A s S s.heap [] := ⟨hK, hP, hD, va_S.rf, hw⟩
  clear hK hP hD hD0
  have hl := lv_entry ([.ref (ad 16), .int x1, .int x2]) (n := 4) (Nat.le_of_ble_eq_true rfl)
  rw [lg_entry_eq]
  generalize (lg_sl ([.ref (ad 16), .int x1, .int x2]) ++ List.replicate (4 - (lg_sl ([.ref (ad 16), .int x1, .int x2])).length) Slot.unset).toArray = ls at hl ⊢
  have hl : lv_has ls 4 [(0, .ref (ad 16)), (1, .int x1), (2, .int x2)] := hl
  have hsh : shy S S := shy.rf
  unfold wX1_load at h
  refine lv_aload_n hx hb dX1_load_0 rfl (lv_at hl 0 rfl) ?_
  refine lv_iload_n hx hb dX1_load_1 rfl (lv_at hl 2 rfl) ?_
  obtain ⟨hv1, h⟩ := h
  have hFc := cfree hR hA
  refine va_calli (va_runV (As := [.int x2]) (rest := []) ⟨hx, hb, hml, hown, hts⟩ (rX1_placeAt l g ad s.heap.size S x2 hR.w  hv1) (cwV 1 hts (gd_V kw_537 kw_579 kw_580 kw_392 kw_578) rfl rfl rfl (by decide +kernel) ⟨Nat.le_of_ble_eq_true rfl, Nat.le_of_ble_eq_true rfl⟩) ⟨cblind, va_recv hR.K hR.P (ci := 1) (q0 := 16) rfl (hR.at41 (hR.w.2.1 _ finC_27).2.1), fun U hU hW9 => cmk hU hW9 hR hex hE hFc⟩ rfl rfl hl.1 rfl (lv_room (Nat.le_of_ble_eq_true rfl)) dX1_load_2 ⟨Nat.le_of_ble_eq_true rfl, Nat.le_of_ble_eq_true rfl⟩) hR.sS (fun q _ h => hFc q h) hFc (fun r2 u9 t9 H1 locs ht9 hvm9 hw9 hB9 hz9 hk9 hS => ?_)
  have hR : RepC g ad A s S H1 locs := hR.call ht9 hB9 hR.w hS hFc
  obtain rfl : r2 = (fX1_placeAt S x2) := hw9
  clear hB9 hz9 hk9 hvm9 ht9 hS
  generalize H1 = H at hR ⊢
  obtain ⟨a4, ea4⟩ : ∃ z, z = (fX1_placeAt S x2) := ⟨_, rfl⟩
  rw [← ea4]
  replace h := h a4 ea4
  refine lv_istore_n (lv' := [(3, .int a4), (0, .ref (ad 16)), (1, .int x1), (2, .int x2)]) hx hb dX1_load_5 rfl hl (by decide) rfl (fun ls hl => ?_)
  refine lv_iload_n hx hb dX1_load_6 rfl (lv_at hl 2 rfl) ?_
  refine lv_bipush (v := 25) hx hb dX1_load_7 (by decide) ?_
  refine lv_icmp_ne (tgt := 50) hx hb dX1_load_9 (by decide) (fun c5 => ?_) (fun c5 => ?_)
  · replace h := h.2 (k_ne rfl (by decide) c5)
    refine lv_aload_n hx hb dX1_load_50 rfl (lv_at hl 1 rfl) ?_
    refine lv_dup hx hb dX1_load_51 rfl ?_
    refine va_get (D := rD g) (ci := 1) (v := .int (qI S 16 6)) (C := RX1) (T := TX1) (N := 10) hx hb hts inX1 hown hR.K hR.P 16 (hR.at41 (hR.w.2.1 _ finC_27).2.1) rfl 6 (by decide) (hts _ kw_536) (fun _ h9 => h9) rfl dX1_load_52 ?_
    have hz6 := hR.w.bit (b := 16) (j := 6) ((hR.w.2.1 _ finC_27).2.1) (by decide)
    refine lv_iload_n hx hb dX1_load_55 rfl (lv_at hl 2 rfl) ?_
    refine lv_bipush (v := 21) hx hb dX1_load_56 (by decide) ?_
    have J_95 : ∀ (U95 : MS) (t95_0 : Int32) (t95_1 : Int32) (v95_1 : Int32) (H : Heap) (locs : List Loc) (ls : Array Slot), w_X1_load_J95 Q U95 t95_0 t95_1 v95_1 → (t95_0 = 0 ∨ t95_0 = 1) → shy S U95 → RepC g ad A s U95 H locs → lv_has ls 4 [(0, .ref (ad 16)), (1, .int v95_1)] → W p l e (headSpec (wt yX1_load cX1_load 4 none) ({ frames := 2, cells := 0, slots := 0, locals := 42 })).room s m ([.ref (ad 16), .int x1, .int x2] : List Value).toArray below meth c H locs 0 0 (MQ below (va_Qv (fun (u : MS) => Q u ∧ wfC u ∧ shy S u) (fun (u : MS) (t : State) => qEC g ad A u t) A) ([.ref (ad 16), .int x1, .int x2] : List Value).toArray s 0 0 A) (F0 m 95 ls [.int t95_0, .int t95_1, .ref (ad 16)]) := by
      intro U95 t95_0 t95_1 v95_1 H locs ls h hz_t95_0 hsh hR hl
      unfold w_X1_load_J95 at h
      replace h := h hR.w hz_t95_0
      refine lv_ior hx hb dX1_load_95 ?_
      refine lv_topi (fun z7 ez7 => ?_)
      obtain rfl : z7 = (t95_1 ||| t95_0) := ez7
      obtain ⟨hv8, h⟩ := h
      refine va_put (D := rD g) (ci := 1) (v := .int (t95_1 ||| t95_0)) (ty := .boolean) (C := RX1) (T := TX1) (N := 10) hx hb hts inX1 tyX1 tyX1_ok nmX1 hown hR.K hR.P hR.D hR.sS 16 (hR.at41 (hR.w.2.1 _ finC_27).2.1) rfl 6 (by decide) (hts _ kw_536) (fun _ h9 => h9) rfl (by decide +kernel) (nz hv8) (fz2 hv8) (Nat.le_of_ble_eq_true rfl) dX1_load_96 (fun H locs hP hD hS => ?_)
      have hTk9 : qT U95 16 = 41 := (hR.w.2.1 _ finC_27).2.1
      have hR : RepC g ad A s (wI U95 16 6 (t95_1 ||| t95_0)) H locs := hR.pI41 (hR.w.2.1 _ finC_27).2.1 FX1_s6 (fun _ => hv8) hP hD hS
      obtain ⟨S9, eS9⟩ : ∃ z, z = wI U95 16 6 (t95_1 ||| t95_0) := ⟨_, rfl⟩
      rw [← eS9] at hR
      replace h := h S9 eS9 hTk9 hR.w
      have hsh : shy S S9 := by rw [eS9]; exact hsh
      refine lv_aload_n hx hb dX1_load_99 rfl (lv_at hl 0 rfl) ?_
      refine lv_iload_n hx hb dX1_load_100 rfl (lv_at hl 1 rfl) ?_
      obtain ⟨hv10, h⟩ := h
      have hFc := cfree hR hA
      refine va_calli (va_runS (As := [.int v95_1]) (rest := [.ref (ad 16)]) ⟨hx, hb, hml, hown, hts⟩ (rX6_gives l g ad H.size S9 v95_1 hR.w  hv10) (va_cwS 1 hts (gd_S kw_572 kw_1216 kw_1207 kw_1215) rfl rfl rfl (by decide +kernel) ⟨Nat.le_of_ble_eq_true rfl, Nat.le_of_ble_eq_true rfl⟩) ⟨cblind, fun U hU hW9 => cmk hU hW9 hR hex hE hFc⟩ rfl rfl hl.1 rfl (lv_room (Nat.le_of_ble_eq_true rfl)) dX1_load_101 ⟨Nat.le_of_ble_eq_true rfl, Nat.le_of_ble_eq_true rfl⟩) hR.sS (fun q _ h => hFc q h) hFc (fun r11 u9 t9 H1 locs ht9 hvm9 hw9 hB9 hz9 hk9 hS => ?_)
      have hR : RepC g ad A s S9 H1 locs := hR.call ht9 hB9 hR.w hS hFc
      obtain rfl : r11 = (fX6_gives S9 v95_1) := hw9
      clear hB9 hz9 hk9 hvm9 ht9 hS
      generalize H1 = H at hR ⊢
      obtain ⟨a13, ea13⟩ : ∃ z, z = (fX6_gives S9 v95_1) := ⟨_, rfl⟩
      rw [← ea13]
      replace h := h a13 ea13
      obtain ⟨Q14, h0, h⟩ := h
      have hFc := cfree hR hA
      refine va_callv (va_runV (As := [.int a13]) (rest := []) ⟨hx, hb, hml, hown, hts⟩ (rX1_give l g ad H.size S9 a13 hR.w  Q14 h0) (cwV 1 hts (gd_V kw_541 kw_524 kw_525 kw_392 kw_523) rfl rfl rfl (by decide +kernel) ⟨Nat.le_of_ble_eq_true rfl, Nat.le_of_ble_eq_true rfl⟩) ⟨cblind, va_recv hR.K hR.P (ci := 1) (q0 := 16) rfl (hR.at41 (hR.w.2.1 _ finC_27).2.1), fun U hU hW9 => cmk hU hW9 hR hex hE hFc⟩ rfl rfl hl.1 rfl (lv_room (Nat.le_of_ble_eq_true rfl)) dX1_load_104 ⟨Nat.le_of_ble_eq_true rfl, Nat.le_of_ble_eq_true rfl⟩) hR.sS (fun q _ h => hFc q h) hFc (fun  S15 t9 H1 locs ht9 hvm9 hw9 hB9 hz9 hk9 hS => ?_)
      obtain ⟨hq16, hw9, hs9⟩ := hw9
      have hR : RepC g ad A s S15 H1 locs := hR.call ht9 hB9 hw9 hS hFc
      have hsh := hsh.tr hs9
      replace h := h  S15 hq16 hw9 hs9
      clear hB9 hz9 hk9 hvm9 ht9 hw9 hs9 hS
      generalize H1 = H at hR ⊢
      exact W.vret hx hb hr (fun t9 ht9 hW9 => ⟨⟨S15, rfl, ⟨h, hR.w, hsh⟩, ⟨by rw [ht9]; exact hR.P, hR.D⟩⟩, hR.sS.F ht9⟩) hR.sS.2.2 dX1_load_107
    refine lv_icmp_ne (tgt := 74) hx hb dX1_load_58 (by decide) (fun c17 => ?_) (fun c17 => ?_)
    · replace h := h.2 (k_ne rfl (by decide) c17)
      refine lv_iload_n hx hb dX1_load_74 rfl (lv_at hl 0 rfl) ?_
      refine lv_iconst (v := 2) hx hb dX1_load_75 (by decide) ?_
      have J_90 : ∀ (U90 : MS) (t90_0 : Int32) (v90_1 : Int32) (H : Heap) (locs : List Loc) (ls : Array Slot), w_X1_load_J90 Q U90 t90_0 v90_1 → shy S U90 → RepC g ad A s U90 H locs → lv_has ls 4 [(0, .ref (ad 16)), (1, .int v90_1)] → W p l e (headSpec (wt yX1_load cX1_load 4 none) ({ frames := 2, cells := 0, slots := 0, locals := 42 })).room s m ([.ref (ad 16), .int x1, .int x2] : List Value).toArray below meth c H locs 0 0 (MQ below (va_Qv (fun (u : MS) => Q u ∧ wfC u ∧ shy S u) (fun (u : MS) (t : State) => qEC g ad A u t) A) ([.ref (ad 16), .int x1, .int x2] : List Value).toArray s 0 0 A) (F0 m 90 ls [.int t90_0, .ref (ad 16)]) := by
        intro U90 t90_0 v90_1 H locs ls h hsh hR hl
        unfold w_X1_load_J90 at h
        replace h := h hR.w
        refine lv_iconst (v := 1) hx hb dX1_load_90 (by decide) ?_
        refine lv_goto (tgt := 95) hx hb dX1_load_91 (by decide) ?_
        exact J_95 U90 1 t90_0 v90_1 _ _ ls h (Or.inr rfl) hsh hR (lv_sub hl [0, 1] rfl)
      refine lv_icmp_ne (tgt := 90) hx hb dX1_load_76 (by decide) (fun c18 => ?_) (fun c18 => ?_)
      · replace h := h.2 (k_ne rfl (by decide) c18)
        exact J_90 S (qI S 16 6) x1 _ _ ls h  hsh hR (lv_sub hl [1, 2] rfl)
      · replace h := h.1 (k_eq rfl (by decide) c18)
        refine lv_aload_n hx hb dX1_load_79 rfl (lv_at hl 1 rfl) ?_
        refine lv_iload_n hx hb dX1_load_80 rfl (lv_at hl 3 rfl) ?_
        refine lv_iconst (v := 1) hx hb dX1_load_81 (by decide) ?_
        refine lv_iadd hx hb dX1_load_82 ?_
        refine lv_topi (fun z19 ez19 => ?_)
        obtain rfl : z19 = (x2 + (1 : Int32)) := ez19
        obtain ⟨hv20, h⟩ := h
        have hFc := cfree hR hA
        refine va_calli (va_runV (As := [.int (x2 + (1 : Int32))]) (rest := [.int (qI S 16 6), .ref (ad 16)]) ⟨hx, hb, hml, hown, hts⟩ (rX1_placeAt l g ad H.size S (x2 + (1 : Int32)) hR.w  hv20) (cwV 1 hts (gd_V kw_537 kw_579 kw_580 kw_392 kw_578) rfl rfl rfl (by decide +kernel) ⟨Nat.le_of_ble_eq_true rfl, Nat.le_of_ble_eq_true rfl⟩) ⟨cblind, va_recv hR.K hR.P (ci := 1) (q0 := 16) rfl (hR.at41 (hR.w.2.1 _ finC_27).2.1), fun U hU hW9 => cmk hU hW9 hR hex hE hFc⟩ rfl rfl hl.1 rfl (lv_room (Nat.le_of_ble_eq_true rfl)) dX1_load_83 ⟨Nat.le_of_ble_eq_true rfl, Nat.le_of_ble_eq_true rfl⟩) hR.sS (fun q _ h => hFc q h) hFc (fun r21 u9 t9 H1 locs ht9 hvm9 hw9 hB9 hz9 hk9 hS => ?_)
        have hR : RepC g ad A s S H1 locs := hR.call ht9 hB9 hR.w hS hFc
        obtain rfl : r21 = (fX1_placeAt S (x2 + (1 : Int32))) := hw9
        clear hB9 hz9 hk9 hvm9 ht9 hS
        generalize H1 = H at hR ⊢
        obtain ⟨a23, ea23⟩ : ∃ z, z = (fX1_placeAt S (x2 + (1 : Int32))) := ⟨_, rfl⟩
        rw [← ea23]
        replace h := h a23 ea23
        refine lv_iconst (v := 3) hx hb dX1_load_86 (by decide) ?_
        refine lv_icmp_eq (tgt := 94) hx hb dX1_load_87 (by decide) (fun c24 => ?_) (fun c24 => ?_)
        · replace h := h.1 (k_eq rfl (by decide) c24)
          refine lv_iconst (v := 0) hx hb dX1_load_94 (by decide) ?_
          exact J_95 S 0 (qI S 16 6) x1 _ _ ls h (Or.inl rfl) hsh hR (lv_sub hl [1, 2] rfl)
        · replace h := h.2 (k_ne rfl (by decide) c24)
          exact J_90 S (qI S 16 6) x1 _ _ ls h  hsh hR (lv_sub hl [1, 2] rfl)
    · replace h := h.1 (k_eq rfl (by decide) c17)
      refine lv_iload_n hx hb dX1_load_61 rfl (lv_at hl 0 rfl) ?_
      refine lv_iconst (v := 1) hx hb dX1_load_62 (by decide) ?_
      refine lv_icmp_eq (tgt := 70) hx hb dX1_load_63 (by decide) (fun c25 => ?_) (fun c25 => ?_)
      · replace h := h.1 (k_eq rfl (by decide) c25)
        refine lv_iconst (v := 0) hx hb dX1_load_70 (by decide) ?_
        refine lv_goto (tgt := 95) hx hb dX1_load_71 (by decide) ?_
        exact J_95 S 0 (qI S 16 6) x1 _ _ ls h (Or.inl rfl) hsh hR (lv_sub hl [1, 2] rfl)
      · replace h := h.2 (k_ne rfl (by decide) c25)
        refine lv_iconst (v := 1) hx hb dX1_load_66 (by decide) ?_
        refine lv_goto (tgt := 95) hx hb dX1_load_67 (by decide) ?_
        exact J_95 S 1 (qI S 16 6) x1 _ _ ls h (Or.inr rfl) hsh hR (lv_sub hl [1, 2] rfl)
  · replace h := h.1 (k_eq rfl (by decide) c5)
    refine lv_aload_n hx hb dX1_load_12 rfl (lv_at hl 1 rfl) ?_
    refine lv_dup hx hb dX1_load_13 rfl ?_
    refine va_get (D := rD g) (ci := 1) (v := .int (qI S 16 6)) (C := RX1) (T := TX1) (N := 10) hx hb hts inX1 hown hR.K hR.P 16 (hR.at41 (hR.w.2.1 _ finC_27).2.1) rfl 6 (by decide) (hts _ kw_536) (fun _ h9 => h9) rfl dX1_load_14 ?_
    have hz26 := hR.w.bit (b := 16) (j := 6) ((hR.w.2.1 _ finC_27).2.1) (by decide)
    refine lv_iload_n hx hb dX1_load_17 rfl (lv_at hl 0 rfl) ?_
    obtain ⟨hv27, h⟩ := h
    have hFc := cfree hR hA
    refine va_calli (va_runS (As := [.int a4]) (rest := [.int (qI S 16 6), .ref (ad 16)]) ⟨hx, hb, hml, hown, hts⟩ (rX1_isReference l g ad H.size S a4 hR.w  hv27) (va_cwS 1 hts (gd_S kw_571 kw_557 kw_392 kw_556) rfl rfl rfl (by decide +kernel) ⟨Nat.le_of_ble_eq_true rfl, Nat.le_of_ble_eq_true rfl⟩) ⟨cblind, fun U hU hW9 => cmk hU hW9 hR hex hE hFc⟩ rfl rfl hl.1 rfl (lv_room (Nat.le_of_ble_eq_true rfl)) dX1_load_18 ⟨Nat.le_of_ble_eq_true rfl, Nat.le_of_ble_eq_true rfl⟩) hR.sS (fun q _ h => hFc q h) hFc (fun r28 u9 t9 H1 locs ht9 hvm9 hw9 hB9 hz9 hk9 hS => ?_)
    have hR : RepC g ad A s S H1 locs := hR.call ht9 hB9 hR.w hS hFc
    obtain ⟨rfl, hz_r28⟩ := hw9
    clear hB9 hz9 hk9 hvm9 ht9 hS
    generalize H1 = H at hR ⊢
    obtain ⟨a30, ea30⟩ : ∃ z, z = (fX1_isReference S a4) := ⟨_, rfl⟩
    rw [← ea30]
    replace h := h a30 ea30
    rw [← ea30] at hz_r28
    have J_29 : ∀ (U29 : MS) (t29_0 : Int32) (t29_1 : Int32) (v29_3 : Int32) (H : Heap) (locs : List Loc) (ls : Array Slot), w_X1_load_J29 Q U29 t29_0 t29_1 v29_3 → (t29_0 = 0 ∨ t29_0 = 1) → shy S U29 → RepC g ad A s U29 H locs → lv_has ls 4 [(0, .ref (ad 16)), (3, .int v29_3)] → W p l e (headSpec (wt yX1_load cX1_load 4 none) ({ frames := 2, cells := 0, slots := 0, locals := 42 })).room s m ([.ref (ad 16), .int x1, .int x2] : List Value).toArray below meth c H locs 0 0 (MQ below (va_Qv (fun (u : MS) => Q u ∧ wfC u ∧ shy S u) (fun (u : MS) (t : State) => qEC g ad A u t) A) ([.ref (ad 16), .int x1, .int x2] : List Value).toArray s 0 0 A) (F0 m 29 ls [.int t29_0, .int t29_1, .ref (ad 16)]) := by
      intro U29 t29_0 t29_1 v29_3 H locs ls h hz_t29_0 hsh hR hl
      unfold w_X1_load_J29 at h
      replace h := h hR.w hz_t29_0
      refine lv_ior hx hb dX1_load_29 ?_
      refine lv_topi (fun z31 ez31 => ?_)
      obtain rfl : z31 = (t29_1 ||| t29_0) := ez31
      obtain ⟨hv32, h⟩ := h
      refine va_put (D := rD g) (ci := 1) (v := .int (t29_1 ||| t29_0)) (ty := .boolean) (C := RX1) (T := TX1) (N := 10) hx hb hts inX1 tyX1 tyX1_ok nmX1 hown hR.K hR.P hR.D hR.sS 16 (hR.at41 (hR.w.2.1 _ finC_27).2.1) rfl 6 (by decide) (hts _ kw_536) (fun _ h9 => h9) rfl (by decide +kernel) (nz hv32) (fz2 hv32) (Nat.le_of_ble_eq_true rfl) dX1_load_30 (fun H locs hP hD hS => ?_)
      have hTk9 : qT U29 16 = 41 := (hR.w.2.1 _ finC_27).2.1
      have hR : RepC g ad A s (wI U29 16 6 (t29_1 ||| t29_0)) H locs := hR.pI41 (hR.w.2.1 _ finC_27).2.1 FX1_s6 (fun _ => hv32) hP hD hS
      obtain ⟨S33, eS33⟩ : ∃ z, z = wI U29 16 6 (t29_1 ||| t29_0) := ⟨_, rfl⟩
      rw [← eS33] at hR
      replace h := h S33 eS33 hTk9 hR.w
      have hsh : shy S S33 := by rw [eS33]; exact hsh
      refine lv_aload_n hx hb dX1_load_33 rfl (lv_at hl 0 rfl) ?_
      refine lv_iload_n hx hb dX1_load_34 rfl (lv_at hl 1 rfl) ?_
      obtain ⟨hv34, h⟩ := h
      have hFc := cfree hR hA
      refine va_calli (va_runS (As := [.int v29_3]) (rest := [.ref (ad 16)]) ⟨hx, hb, hml, hown, hts⟩ (rX1_isReference l g ad H.size S33 v29_3 hR.w  hv34) (va_cwS 1 hts (gd_S kw_571 kw_557 kw_392 kw_556) rfl rfl rfl (by decide +kernel) ⟨Nat.le_of_ble_eq_true rfl, Nat.le_of_ble_eq_true rfl⟩) ⟨cblind, fun U hU hW9 => cmk hU hW9 hR hex hE hFc⟩ rfl rfl hl.1 rfl (lv_room (Nat.le_of_ble_eq_true rfl)) dX1_load_35 ⟨Nat.le_of_ble_eq_true rfl, Nat.le_of_ble_eq_true rfl⟩) hR.sS (fun q _ h => hFc q h) hFc (fun r35 u9 t9 H1 locs ht9 hvm9 hw9 hB9 hz9 hk9 hS => ?_)
      have hR : RepC g ad A s S33 H1 locs := hR.call ht9 hB9 hR.w hS hFc
      obtain ⟨rfl, hz_r35⟩ := hw9
      clear hB9 hz9 hk9 hvm9 ht9 hS
      generalize H1 = H at hR ⊢
      obtain ⟨a37, ea37⟩ : ∃ z, z = (fX1_isReference S33 v29_3) := ⟨_, rfl⟩
      rw [← ea37]
      replace h := h a37 ea37
      rw [← ea37] at hz_r35
      refine lv_if_eq (tgt := 45) hx hb dX1_load_38 (by decide) (fun c38 => ?_) (fun c38 => ?_)
      · replace h := h.1 (k_eq rfl (by decide) c38)
        refine lv_iconst (v := 0) hx hb dX1_load_45 (by decide) ?_
        obtain ⟨Q39, h0, h⟩ := h
        have hFc := cfree hR hA
        refine va_callv (va_runV (As := [.int 0]) (rest := []) ⟨hx, hb, hml, hown, hts⟩ (rX1_push l g ad H.size S33 (0 : Int32) hR.w  Q39 h0) (cwV 1 hts (gd_V kw_526 kw_585 kw_586 kw_392 kw_584) rfl rfl rfl (by decide +kernel) ⟨Nat.le_of_ble_eq_true rfl, Nat.le_of_ble_eq_true rfl⟩) ⟨cblind, va_recv hR.K hR.P (ci := 1) (q0 := 16) rfl (hR.at41 (hR.w.2.1 _ finC_27).2.1), fun U hU hW9 => cmk hU hW9 hR hex hE hFc⟩ rfl rfl hl.1 rfl (lv_room (Nat.le_of_ble_eq_true rfl)) dX1_load_46 ⟨Nat.le_of_ble_eq_true rfl, Nat.le_of_ble_eq_true rfl⟩) hR.sS (fun q _ h => hFc q h) hFc (fun  S40 t9 H1 locs ht9 hvm9 hw9 hB9 hz9 hk9 hS => ?_)
        obtain ⟨hq41, hw9, hs9⟩ := hw9
        have hR : RepC g ad A s S40 H1 locs := hR.call ht9 hB9 hw9 hS hFc
        have hsh := hsh.tr hs9
        replace h := h  S40 hq41 hw9 hs9
        clear hB9 hz9 hk9 hvm9 ht9 hw9 hs9 hS
        generalize H1 = H at hR ⊢
        exact W.vret hx hb hr (fun t9 ht9 hW9 => ⟨⟨S40, rfl, ⟨h, hR.w, hsh⟩, ⟨by rw [ht9]; exact hR.P, hR.D⟩⟩, hR.sS.F ht9⟩) hR.sS.2.2 dX1_load_49
      · replace h := h.2 (k_ne rfl (by decide) c38)
        refine lv_iload_n hx hb dX1_load_41 rfl (lv_at hl 1 rfl) ?_
        refine lv_goto (tgt := 46) hx hb dX1_load_42 (by decide) ?_
        obtain ⟨Q42, h0, h⟩ := h
        have hFc := cfree hR hA
        refine va_callv (va_runV (As := [.int v29_3]) (rest := []) ⟨hx, hb, hml, hown, hts⟩ (rX1_push l g ad H.size S33 v29_3 hR.w  Q42 h0) (cwV 1 hts (gd_V kw_526 kw_585 kw_586 kw_392 kw_584) rfl rfl rfl (by decide +kernel) ⟨Nat.le_of_ble_eq_true rfl, Nat.le_of_ble_eq_true rfl⟩) ⟨cblind, va_recv hR.K hR.P (ci := 1) (q0 := 16) rfl (hR.at41 (hR.w.2.1 _ finC_27).2.1), fun U hU hW9 => cmk hU hW9 hR hex hE hFc⟩ rfl rfl hl.1 rfl (lv_room (Nat.le_of_ble_eq_true rfl)) dX1_load_46 ⟨Nat.le_of_ble_eq_true rfl, Nat.le_of_ble_eq_true rfl⟩) hR.sS (fun q _ h => hFc q h) hFc (fun  S43 t9 H1 locs ht9 hvm9 hw9 hB9 hz9 hk9 hS => ?_)
        obtain ⟨hq44, hw9, hs9⟩ := hw9
        have hR : RepC g ad A s S43 H1 locs := hR.call ht9 hB9 hw9 hS hFc
        have hsh := hsh.tr hs9
        replace h := h  S43 hq44 hw9 hs9
        clear hB9 hz9 hk9 hvm9 ht9 hw9 hs9 hS
        generalize H1 = H at hR ⊢
        exact W.vret hx hb hr (fun t9 ht9 hW9 => ⟨⟨S43, rfl, ⟨h, hR.w, hsh⟩, ⟨by rw [ht9]; exact hR.P, hR.D⟩⟩, hR.sS.F ht9⟩) hR.sS.2.2 dX1_load_49
    refine lv_if_ne (tgt := 28) hx hb dX1_load_21 (by decide) (fun c45 => ?_) (fun c45 => ?_)
    · replace h := h.2 (k_ne rfl (by decide) c45)
      refine lv_iconst (v := 0) hx hb dX1_load_28 (by decide) ?_
      exact J_29 S 0 (qI S 16 6) a4 _ _ ls h (Or.inl rfl) hsh hR (lv_sub hl [1, 0] rfl)
    · replace h := h.1 (k_eq rfl (by decide) c45)
      refine lv_iconst (v := 1) hx hb dX1_load_24 (by decide) ?_
      refine lv_goto (tgt := 29) hx hb dX1_load_25 (by decide) ?_
      exact J_29 S 1 (qI S 16 6) a4 _ _ ls h (Or.inr rfl) hsh hR (lv_sub hl [1, 0] rfl)
def w_X1_store_J67 (Q : MS → Prop) (U67 : MS) (v67_1 : Int32) (v67_2 : Int32) (v67_3 : Int32) (v67_4 : Int32) : Prop := (wfC U67 → ((v67_1.toInt = 58 → (d_X1_isReference U67 v67_4 ∧ (∀ a31 : Int32, a31 = (fX1_isReference U67 v67_4) → ((a31.toInt = 0 → (∃ Q33, wX1_setPlace U67 v67_2 (0 : Int32) Q33 ∧ ∀ S34, Q33 S34 → wfC S34 → shy U67 S34 → Q S34)) ∧ (¬ a31.toInt = 0 → (∃ Q36, wX1_setPlace U67 v67_2 v67_4 Q36 ∧ ∀ S37, Q36 S37 → wfC S37 → shy U67 S37 → Q S37)))))) ∧ (¬ v67_1.toInt = 58 → (d_X1_lowerType U67 v67_3 ∧ (∀ a19 : Int32, a19 = (fX1_lowerType U67 v67_3) → (∃ Q20, wX1_setPlace U67 v67_2 a19 Q20 ∧ ∀ S21, Q20 S21 → wfC S21 → shy U67 S21 → ((v67_1.toInt = 55 → (∃ Q25, wX1_setPlace S21 (v67_2 + (1 : Int32)) (3 : Int32) Q25 ∧ ∀ S26, Q25 S26 → wfC S26 → shy S21 S26 → Q S26)) ∧ (¬ v67_1.toInt = 55 → Q S21))))))))
def w_X1_store_J43 (Q : MS → Prop) (U43 : MS) (v43_1 : Int32) (v43_2 : Int32) (v43_3 : Int32) (v43_4 : Int32) (v43_5 : Int32) : Prop := (wfC U43 → ((24 ≤ v43_5.toInt → w_X1_store_J67 Q U43 v43_1 v43_2 v43_3 v43_4) ∧ (¬ 24 ≤ v43_5.toInt → (d_X1_placeAt U43 v43_5 ∧ (∀ a43 : Int32, a43 = (fX1_placeAt U43 v43_5) → ((a43.toInt = 3 → (∃ Q45, wX1_setPlace U43 v43_5 (0 : Int32) Q45 ∧ ∀ S46, Q45 S46 → wfC S46 → shy U43 S46 → w_X1_store_J67 Q S46 v43_1 v43_2 v43_3 v43_4)) ∧ (¬ a43.toInt = 3 → w_X1_store_J67 Q U43 v43_1 v43_2 v43_3 v43_4)))))))
def wX1_store (S : MS) (x1 : Int32) (x2 : Int32) (Q : MS → Prop) : Prop := (d_X6_takes S x1 ∧ (∀ a4 : Int32, a4 = (fX6_takes S x1) → (∃ Q5, wX1_take S a4 Q5 ∧ ∀ r6 S7, Q5 r6 S7 → wfC S7 → shy S S7 → (d_X6_localWidth S7 x1 ∧ (∀ a12 : Int32, a12 = (fX6_localWidth S7 x1) → (∀ a14 : Int32, a14 = (x2 + a12) → ((x2.toInt ≤ 0 → w_X1_store_J43 Q S7 x1 x2 a4 r6 a14) ∧ (¬ x2.toInt ≤ 0 → (d_X1_placeAt S7 (x2 - (1 : Int32)) ∧ (∀ a53 : Int32, a53 = (fX1_placeAt S7 (x2 - (1 : Int32))) → ((a53.toInt = 2 → (∃ Q56, wX1_setPlace S7 (x2 - (1 : Int32)) (0 : Int32) Q56 ∧ ∀ S57, Q56 S57 → wfC S57 → shy S7 S57 → w_X1_store_J43 Q S57 x1 x2 a4 r6 a14)) ∧ (¬ a53.toInt = 2 → w_X1_store_J43 Q S7 x1 x2 a4 r6 a14))))))))))))
set_option maxHeartbeats 2000000 in
set_option maxRecDepth 100000 in
theorem rX1_store (l : Launch) (g : Gr) (ad : Nat → Nat) (sz : Nat) (S : MS) (x1 : Int32) (x2 : Int32) (hw : wfC S) (Q : MS → Prop) (h : wX1_store S x1 x2 Q) : Met l yX1_store (wt yX1_store cX1_store 6 none) ({ frames := 2, cells := 0, slots := 0, locals := 42 }) (va_Pc [.ref (ad 16), .int x1, .int x2] (st_C g ad sz S)) (va_Qv (fun (u : MS) => Q u ∧ wfC u ∧ shy S u) (fun (u : MS) (t : State) => qEC g ad (va_A (WdC g ad S) sz) u t) (va_A (WdC g ad S) sz)) 0 0 (va_A (WdC g ad S) sz) := by
  refine Met.ofW (cc := cX1_store) (maxL := 6) (ret := none) (by decide) rfl ?_
  intro p e s m args below meth c s₁ B hml hv
  obtain ⟨rfl, hsz, hP, hK, hD0, hex, hE⟩ := hv
  have hx := B.exec
  have hb := B.bytes
  have hr := B.returns
  have hts0 := atoms_spec (ws := wt yX1_store cX1_store 6 none) B.pre
  have hts : ∀ w ∈ tb, w.before _ s = true := fun w h => hts0 w (List.mem_cons_of_mem _ h)
  have hown : s.vm.findClass RX1 = some m.cls := findClass_of_methodNamed B.named
  subst hsz
  have hD := hD0.self (sz := s.heap.size)
  generalize hAe : va_A (WdC g ad S) s.heap.size = A at hD hE ⊢
  have hA : ∀ q : Nat, s.heap.size ≤ q → A q := fun q h => by rw [← hAe]; exact Or.inr h
  have hR : RepC g ad A s S s.heap [] := ⟨hK, hP, hD, va_S.rf, hw⟩
  clear hK hP hD hD0
  have hl := lv_entry ([.ref (ad 16), .int x1, .int x2]) (n := 6) (Nat.le_of_ble_eq_true rfl)
  rw [lg_entry_eq]
  generalize (lg_sl ([.ref (ad 16), .int x1, .int x2]) ++ List.replicate (6 - (lg_sl ([.ref (ad 16), .int x1, .int x2])).length) Slot.unset).toArray = ls at hl ⊢
  have hl : lv_has ls 6 [(0, .ref (ad 16)), (1, .int x1), (2, .int x2)] := hl
  have hsh : shy S S := shy.rf
  unfold wX1_store at h
  refine lv_iload_n hx hb dX1_store_0 rfl (lv_at hl 1 rfl) ?_
  obtain ⟨hv1, h⟩ := h
  have hFc := cfree hR hA
  refine va_calli (va_runS (As := [.int x1]) (rest := []) ⟨hx, hb, hml, hown, hts⟩ (rX6_takes l g ad s.heap.size S x1 hR.w  hv1) (va_cwS 1 hts (gd_S kw_598 kw_1255 kw_1207 kw_1254) rfl rfl rfl (by decide +kernel) ⟨Nat.le_of_ble_eq_true rfl, Nat.le_of_ble_eq_true rfl⟩) ⟨cblind, fun U hU hW9 => cmk hU hW9 hR hex hE hFc⟩ rfl rfl hl.1 rfl (lv_room (Nat.le_of_ble_eq_true rfl)) dX1_store_1 ⟨Nat.le_of_ble_eq_true rfl, Nat.le_of_ble_eq_true rfl⟩) hR.sS (fun q _ h => hFc q h) hFc (fun r2 u9 t9 H1 locs ht9 hvm9 hw9 hB9 hz9 hk9 hS => ?_)
  have hR : RepC g ad A s S H1 locs := hR.call ht9 hB9 hR.w hS hFc
  obtain rfl : r2 = (fX6_takes S x1) := hw9
  clear hB9 hz9 hk9 hvm9 ht9 hS
  generalize H1 = H at hR ⊢
  obtain ⟨a4, ea4⟩ : ∃ z, z = (fX6_takes S x1) := ⟨_, rfl⟩
  rw [← ea4]
  replace h := h a4 ea4
  refine lv_istore_n (lv' := [(3, .int a4), (0, .ref (ad 16)), (1, .int x1), (2, .int x2)]) hx hb dX1_store_4 rfl hl (by decide) rfl (fun ls hl => ?_)
  refine lv_aload_n hx hb dX1_store_5 rfl (lv_at hl 1 rfl) ?_
  refine lv_iload_n hx hb dX1_store_6 rfl (lv_at hl 0 rfl) ?_
  obtain ⟨Q5, h0, h⟩ := h
  have hFc := cfree hR hA
  refine va_calli (va_runV (As := [.int a4]) (rest := []) ⟨hx, hb, hml, hown, hts⟩ (rX1_take l g ad H.size S a4 hR.w  Q5 h0) (cwV 1 hts (gd_V kw_539 kw_601 kw_602 kw_392 kw_600) rfl rfl rfl (by decide +kernel) ⟨Nat.le_of_ble_eq_true rfl, Nat.le_of_ble_eq_true rfl⟩) ⟨cblind, va_recv hR.K hR.P (ci := 1) (q0 := 16) rfl (hR.at41 (hR.w.2.1 _ finC_27).2.1), fun U hU hW9 => cmk hU hW9 hR hex hE hFc⟩ rfl rfl hl.1 rfl (lv_room (Nat.le_of_ble_eq_true rfl)) dX1_store_7 ⟨Nat.le_of_ble_eq_true rfl, Nat.le_of_ble_eq_true rfl⟩) hR.sS (fun q _ h => hFc q h) hFc (fun r6 S7 t9 H1 locs ht9 hvm9 hw9 hB9 hz9 hk9 hS => ?_)
  obtain ⟨hq8, hw9, hs9⟩ := hw9
  have hR : RepC g ad A s S7 H1 locs := hR.call ht9 hB9 hw9 hS hFc
  have hsh := hsh.tr hs9
  replace h := h r6 S7 hq8 hw9 hs9
  clear hB9 hz9 hk9 hvm9 ht9 hw9 hs9 hS
  generalize H1 = H at hR ⊢
  refine lv_istore (lv' := [(4, .int r6), (3, .int a4), (0, .ref (ad 16)), (1, .int x1), (2, .int x2)]) hx hb dX1_store_10 hl (by decide) rfl (fun ls hl => ?_)
  refine lv_iload_n hx hb dX1_store_12 rfl (lv_at hl 4 rfl) ?_
  refine lv_iload_n hx hb dX1_store_13 rfl (lv_at hl 3 rfl) ?_
  obtain ⟨hv9, h⟩ := h
  have hFc := cfree hR hA
  refine va_calli (va_runS (As := [.int x1]) (rest := [.int x2]) ⟨hx, hb, hml, hown, hts⟩ (rX6_localWidth l g ad H.size S7 x1 hR.w  hv9) (va_cwS 1 hts (gd_S kw_599 kw_1247 kw_1207 kw_1246) rfl rfl rfl (by decide +kernel) ⟨Nat.le_of_ble_eq_true rfl, Nat.le_of_ble_eq_true rfl⟩) ⟨cblind, fun U hU hW9 => cmk hU hW9 hR hex hE hFc⟩ rfl rfl hl.1 rfl (lv_room (Nat.le_of_ble_eq_true rfl)) dX1_store_14 ⟨Nat.le_of_ble_eq_true rfl, Nat.le_of_ble_eq_true rfl⟩) hR.sS (fun q _ h => hFc q h) hFc (fun r10 u9 t9 H1 locs ht9 hvm9 hw9 hB9 hz9 hk9 hS => ?_)
  have hR : RepC g ad A s S7 H1 locs := hR.call ht9 hB9 hR.w hS hFc
  obtain rfl : r10 = (fX6_localWidth S7 x1) := hw9
  clear hB9 hz9 hk9 hvm9 ht9 hS
  generalize H1 = H at hR ⊢
  obtain ⟨a12, ea12⟩ : ∃ z, z = (fX6_localWidth S7 x1) := ⟨_, rfl⟩
  rw [← ea12]
  replace h := h a12 ea12
  refine lv_iadd hx hb dX1_store_17 ?_
  refine lv_topi (fun z13 ez13 => ?_)
  obtain rfl : z13 = (x2 + a12) := ez13
  obtain ⟨a14, ea14⟩ : ∃ z, z = (x2 + a12) := ⟨_, rfl⟩
  rw [← ea14]
  replace h := h a14 ea14
  refine lv_istore (lv' := [(5, .int a14), (4, .int r6), (3, .int a4), (0, .ref (ad 16)), (1, .int x1), (2, .int x2)]) hx hb dX1_store_18 hl (by decide) rfl (fun ls hl => ?_)
  refine lv_iload_n hx hb dX1_store_20 rfl (lv_at hl 5 rfl) ?_
  have J_43 : ∀ (U43 : MS) (v43_1 : Int32) (v43_2 : Int32) (v43_3 : Int32) (v43_4 : Int32) (v43_5 : Int32) (H : Heap) (locs : List Loc) (ls : Array Slot), w_X1_store_J43 Q U43 v43_1 v43_2 v43_3 v43_4 v43_5 → shy S U43 → RepC g ad A s U43 H locs → lv_has ls 6 [(0, .ref (ad 16)), (1, .int v43_1), (2, .int v43_2), (3, .int v43_3), (4, .int v43_4), (5, .int v43_5)] → W p l e (headSpec (wt yX1_store cX1_store 6 none) ({ frames := 2, cells := 0, slots := 0, locals := 42 })).room s m ([.ref (ad 16), .int x1, .int x2] : List Value).toArray below meth c H locs 0 0 (MQ below (va_Qv (fun (u : MS) => Q u ∧ wfC u ∧ shy S u) (fun (u : MS) (t : State) => qEC g ad A u t) A) ([.ref (ad 16), .int x1, .int x2] : List Value).toArray s 0 0 A) (F0 m 43 ls []) := by
    intro U43 v43_1 v43_2 v43_3 v43_4 v43_5 H locs ls h hsh hR hl
    unfold w_X1_store_J43 at h
    replace h := h hR.w
    refine lv_iload hx hb dX1_store_43 (lv_at hl 5 rfl) ?_
    refine lv_bipush (v := 24) hx hb dX1_store_45 (by decide) ?_
    have J_67 : ∀ (U67 : MS) (v67_1 : Int32) (v67_2 : Int32) (v67_3 : Int32) (v67_4 : Int32) (H : Heap) (locs : List Loc) (ls : Array Slot), w_X1_store_J67 Q U67 v67_1 v67_2 v67_3 v67_4 → shy S U67 → RepC g ad A s U67 H locs → lv_has ls 6 [(0, .ref (ad 16)), (1, .int v67_1), (2, .int v67_2), (3, .int v67_3), (4, .int v67_4)] → W p l e (headSpec (wt yX1_store cX1_store 6 none) ({ frames := 2, cells := 0, slots := 0, locals := 42 })).room s m ([.ref (ad 16), .int x1, .int x2] : List Value).toArray below meth c H locs 0 0 (MQ below (va_Qv (fun (u : MS) => Q u ∧ wfC u ∧ shy S u) (fun (u : MS) (t : State) => qEC g ad A u t) A) ([.ref (ad 16), .int x1, .int x2] : List Value).toArray s 0 0 A) (F0 m 67 ls []) := by
      intro U67 v67_1 v67_2 v67_3 v67_4 H locs ls h hsh hR hl
      unfold w_X1_store_J67 at h
      replace h := h hR.w
      refine lv_iload_n hx hb dX1_store_67 rfl (lv_at hl 1 rfl) ?_
      refine lv_bipush (v := 58) hx hb dX1_store_68 (by decide) ?_
      refine lv_icmp_ne (tgt := 93) hx hb dX1_store_70 (by decide) (fun c15 => ?_) (fun c15 => ?_)
      · replace h := h.2 (k_ne rfl (by decide) c15)
        refine lv_aload_n hx hb dX1_store_93 rfl (lv_at hl 0 rfl) ?_
        refine lv_iload_n hx hb dX1_store_94 rfl (lv_at hl 2 rfl) ?_
        refine lv_iload_n hx hb dX1_store_95 rfl (lv_at hl 3 rfl) ?_
        obtain ⟨hv16, h⟩ := h
        have hFc := cfree hR hA
        refine va_calli (va_runS (As := [.int v67_3]) (rest := [.int v67_2, .ref (ad 16)]) ⟨hx, hb, hml, hown, hts⟩ (rX1_lowerType l g ad H.size U67 v67_3 hR.w  hv16) (va_cwS 1 hts (gd_S kw_484 kw_574 kw_392 kw_573) rfl rfl rfl (by decide +kernel) ⟨Nat.le_of_ble_eq_true rfl, Nat.le_of_ble_eq_true rfl⟩) ⟨cblind, fun U hU hW9 => cmk hU hW9 hR hex hE hFc⟩ rfl rfl hl.1 rfl (lv_room (Nat.le_of_ble_eq_true rfl)) dX1_store_96 ⟨Nat.le_of_ble_eq_true rfl, Nat.le_of_ble_eq_true rfl⟩) hR.sS (fun q _ h => hFc q h) hFc (fun r17 u9 t9 H1 locs ht9 hvm9 hw9 hB9 hz9 hk9 hS => ?_)
        have hR : RepC g ad A s U67 H1 locs := hR.call ht9 hB9 hR.w hS hFc
        obtain rfl : r17 = (fX1_lowerType U67 v67_3) := hw9
        clear hB9 hz9 hk9 hvm9 ht9 hS
        generalize H1 = H at hR ⊢
        obtain ⟨a19, ea19⟩ : ∃ z, z = (fX1_lowerType U67 v67_3) := ⟨_, rfl⟩
        rw [← ea19]
        replace h := h a19 ea19
        obtain ⟨Q20, h0, h⟩ := h
        have hFc := cfree hR hA
        refine va_callv (va_runV (As := [.int v67_2, .int a19]) (rest := []) ⟨hx, hb, hml, hown, hts⟩ (rX1_setPlace l g ad H.size U67 v67_2 a19 hR.w  Q20 h0) (cwV 2 hts (gd_V kw_485 kw_588 kw_589 kw_392 kw_587) rfl rfl rfl (by decide +kernel) ⟨Nat.le_of_ble_eq_true rfl, Nat.le_of_ble_eq_true rfl⟩) ⟨cblind, va_recv hR.K hR.P (ci := 1) (q0 := 16) rfl (hR.at41 (hR.w.2.1 _ finC_27).2.1), fun U hU hW9 => cmk hU hW9 hR hex hE hFc⟩ rfl rfl hl.1 rfl (lv_room (Nat.le_of_ble_eq_true rfl)) dX1_store_99 ⟨Nat.le_of_ble_eq_true rfl, Nat.le_of_ble_eq_true rfl⟩) hR.sS (fun q _ h => hFc q h) hFc (fun  S21 t9 H1 locs ht9 hvm9 hw9 hB9 hz9 hk9 hS => ?_)
        obtain ⟨hq22, hw9, hs9⟩ := hw9
        have hR : RepC g ad A s S21 H1 locs := hR.call ht9 hB9 hw9 hS hFc
        have hsh := hsh.tr hs9
        replace h := h  S21 hq22 hw9 hs9
        clear hB9 hz9 hk9 hvm9 ht9 hw9 hs9 hS
        generalize H1 = H at hR ⊢
        refine lv_iload_n hx hb dX1_store_102 rfl (lv_at hl 1 rfl) ?_
        refine lv_bipush (v := 55) hx hb dX1_store_103 (by decide) ?_
        refine lv_icmp_ne (tgt := 116) hx hb dX1_store_105 (by decide) (fun c23 => ?_) (fun c23 => ?_)
        · replace h := h.2 (k_ne rfl (by decide) c23)
          exact W.vret hx hb hr (fun t9 ht9 hW9 => ⟨⟨S21, rfl, ⟨h, hR.w, hsh⟩, ⟨by rw [ht9]; exact hR.P, hR.D⟩⟩, hR.sS.F ht9⟩) hR.sS.2.2 dX1_store_116
        · replace h := h.1 (k_eq rfl (by decide) c23)
          refine lv_aload_n hx hb dX1_store_108 rfl (lv_at hl 0 rfl) ?_
          refine lv_iload_n hx hb dX1_store_109 rfl (lv_at hl 2 rfl) ?_
          refine lv_iconst (v := 1) hx hb dX1_store_110 (by decide) ?_
          refine lv_iadd hx hb dX1_store_111 ?_
          refine lv_topi (fun z24 ez24 => ?_)
          obtain rfl : z24 = (v67_2 + (1 : Int32)) := ez24
          refine lv_iconst (v := 3) hx hb dX1_store_112 (by decide) ?_
          obtain ⟨Q25, h0, h⟩ := h
          have hFc := cfree hR hA
          refine va_callv (va_runV (As := [.int (v67_2 + (1 : Int32)), .int 3]) (rest := []) ⟨hx, hb, hml, hown, hts⟩ (rX1_setPlace l g ad H.size S21 (v67_2 + (1 : Int32)) (3 : Int32) hR.w  Q25 h0) (cwV 2 hts (gd_V kw_485 kw_588 kw_589 kw_392 kw_587) rfl rfl rfl (by decide +kernel) ⟨Nat.le_of_ble_eq_true rfl, Nat.le_of_ble_eq_true rfl⟩) ⟨cblind, va_recv hR.K hR.P (ci := 1) (q0 := 16) rfl (hR.at41 (hR.w.2.1 _ finC_27).2.1), fun U hU hW9 => cmk hU hW9 hR hex hE hFc⟩ rfl rfl hl.1 rfl (lv_room (Nat.le_of_ble_eq_true rfl)) dX1_store_113 ⟨Nat.le_of_ble_eq_true rfl, Nat.le_of_ble_eq_true rfl⟩) hR.sS (fun q _ h => hFc q h) hFc (fun  S26 t9 H1 locs ht9 hvm9 hw9 hB9 hz9 hk9 hS => ?_)
          obtain ⟨hq27, hw9, hs9⟩ := hw9
          have hR : RepC g ad A s S26 H1 locs := hR.call ht9 hB9 hw9 hS hFc
          have hsh := hsh.tr hs9
          replace h := h  S26 hq27 hw9 hs9
          clear hB9 hz9 hk9 hvm9 ht9 hw9 hs9 hS
          generalize H1 = H at hR ⊢
          exact W.vret hx hb hr (fun t9 ht9 hW9 => ⟨⟨S26, rfl, ⟨h, hR.w, hsh⟩, ⟨by rw [ht9]; exact hR.P, hR.D⟩⟩, hR.sS.F ht9⟩) hR.sS.2.2 dX1_store_116
      · replace h := h.1 (k_eq rfl (by decide) c15)
        refine lv_aload_n hx hb dX1_store_73 rfl (lv_at hl 0 rfl) ?_
        refine lv_iload_n hx hb dX1_store_74 rfl (lv_at hl 2 rfl) ?_
        refine lv_iload hx hb dX1_store_75 (lv_at hl 4 rfl) ?_
        obtain ⟨hv28, h⟩ := h
        have hFc := cfree hR hA
        refine va_calli (va_runS (As := [.int v67_4]) (rest := [.int v67_2, .ref (ad 16)]) ⟨hx, hb, hml, hown, hts⟩ (rX1_isReference l g ad H.size U67 v67_4 hR.w  hv28) (va_cwS 1 hts (gd_S kw_571 kw_557 kw_392 kw_556) rfl rfl rfl (by decide +kernel) ⟨Nat.le_of_ble_eq_true rfl, Nat.le_of_ble_eq_true rfl⟩) ⟨cblind, fun U hU hW9 => cmk hU hW9 hR hex hE hFc⟩ rfl rfl hl.1 rfl (lv_room (Nat.le_of_ble_eq_true rfl)) dX1_store_77 ⟨Nat.le_of_ble_eq_true rfl, Nat.le_of_ble_eq_true rfl⟩) hR.sS (fun q _ h => hFc q h) hFc (fun r29 u9 t9 H1 locs ht9 hvm9 hw9 hB9 hz9 hk9 hS => ?_)
        have hR : RepC g ad A s U67 H1 locs := hR.call ht9 hB9 hR.w hS hFc
        obtain ⟨rfl, hz_r29⟩ := hw9
        clear hB9 hz9 hk9 hvm9 ht9 hS
        generalize H1 = H at hR ⊢
        obtain ⟨a31, ea31⟩ : ∃ z, z = (fX1_isReference U67 v67_4) := ⟨_, rfl⟩
        rw [← ea31]
        replace h := h a31 ea31
        rw [← ea31] at hz_r29
        refine lv_if_eq (tgt := 88) hx hb dX1_store_80 (by decide) (fun c32 => ?_) (fun c32 => ?_)
        · replace h := h.1 (k_eq rfl (by decide) c32)
          refine lv_iconst (v := 0) hx hb dX1_store_88 (by decide) ?_
          obtain ⟨Q33, h0, h⟩ := h
          have hFc := cfree hR hA
          refine va_callv (va_runV (As := [.int v67_2, .int 0]) (rest := []) ⟨hx, hb, hml, hown, hts⟩ (rX1_setPlace l g ad H.size U67 v67_2 (0 : Int32) hR.w  Q33 h0) (cwV 2 hts (gd_V kw_485 kw_588 kw_589 kw_392 kw_587) rfl rfl rfl (by decide +kernel) ⟨Nat.le_of_ble_eq_true rfl, Nat.le_of_ble_eq_true rfl⟩) ⟨cblind, va_recv hR.K hR.P (ci := 1) (q0 := 16) rfl (hR.at41 (hR.w.2.1 _ finC_27).2.1), fun U hU hW9 => cmk hU hW9 hR hex hE hFc⟩ rfl rfl hl.1 rfl (lv_room (Nat.le_of_ble_eq_true rfl)) dX1_store_89 ⟨Nat.le_of_ble_eq_true rfl, Nat.le_of_ble_eq_true rfl⟩) hR.sS (fun q _ h => hFc q h) hFc (fun  S34 t9 H1 locs ht9 hvm9 hw9 hB9 hz9 hk9 hS => ?_)
          obtain ⟨hq35, hw9, hs9⟩ := hw9
          have hR : RepC g ad A s S34 H1 locs := hR.call ht9 hB9 hw9 hS hFc
          have hsh := hsh.tr hs9
          replace h := h  S34 hq35 hw9 hs9
          clear hB9 hz9 hk9 hvm9 ht9 hw9 hs9 hS
          generalize H1 = H at hR ⊢
          exact W.vret hx hb hr (fun t9 ht9 hW9 => ⟨⟨S34, rfl, ⟨h, hR.w, hsh⟩, ⟨by rw [ht9]; exact hR.P, hR.D⟩⟩, hR.sS.F ht9⟩) hR.sS.2.2 dX1_store_92
        · replace h := h.2 (k_ne rfl (by decide) c32)
          refine lv_iload hx hb dX1_store_83 (lv_at hl 4 rfl) ?_
          refine lv_goto (tgt := 89) hx hb dX1_store_85 (by decide) ?_
          obtain ⟨Q36, h0, h⟩ := h
          have hFc := cfree hR hA
          refine va_callv (va_runV (As := [.int v67_2, .int v67_4]) (rest := []) ⟨hx, hb, hml, hown, hts⟩ (rX1_setPlace l g ad H.size U67 v67_2 v67_4 hR.w  Q36 h0) (cwV 2 hts (gd_V kw_485 kw_588 kw_589 kw_392 kw_587) rfl rfl rfl (by decide +kernel) ⟨Nat.le_of_ble_eq_true rfl, Nat.le_of_ble_eq_true rfl⟩) ⟨cblind, va_recv hR.K hR.P (ci := 1) (q0 := 16) rfl (hR.at41 (hR.w.2.1 _ finC_27).2.1), fun U hU hW9 => cmk hU hW9 hR hex hE hFc⟩ rfl rfl hl.1 rfl (lv_room (Nat.le_of_ble_eq_true rfl)) dX1_store_89 ⟨Nat.le_of_ble_eq_true rfl, Nat.le_of_ble_eq_true rfl⟩) hR.sS (fun q _ h => hFc q h) hFc (fun  S37 t9 H1 locs ht9 hvm9 hw9 hB9 hz9 hk9 hS => ?_)
          obtain ⟨hq38, hw9, hs9⟩ := hw9
          have hR : RepC g ad A s S37 H1 locs := hR.call ht9 hB9 hw9 hS hFc
          have hsh := hsh.tr hs9
          replace h := h  S37 hq38 hw9 hs9
          clear hB9 hz9 hk9 hvm9 ht9 hw9 hs9 hS
          generalize H1 = H at hR ⊢
          exact W.vret hx hb hr (fun t9 ht9 hW9 => ⟨⟨S37, rfl, ⟨h, hR.w, hsh⟩, ⟨by rw [ht9]; exact hR.P, hR.D⟩⟩, hR.sS.F ht9⟩) hR.sS.2.2 dX1_store_92
    refine lv_icmp_ge (tgt := 67) hx hb dX1_store_47 (by decide) (fun c39 => ?_) (fun c39 => ?_)
    · replace h := h.1 (k_le (by decide) rfl c39)
      exact J_67 U43 v43_1 v43_2 v43_3 v43_4 _ _ ls h  hsh hR (lv_sub hl [0, 1, 2, 3, 4] rfl)
    · replace h := h.2 (k_nle (by decide) rfl c39)
      refine lv_aload_n hx hb dX1_store_50 rfl (lv_at hl 0 rfl) ?_
      refine lv_iload hx hb dX1_store_51 (lv_at hl 5 rfl) ?_
      obtain ⟨hv40, h⟩ := h
      have hFc := cfree hR hA
      refine va_calli (va_runV (As := [.int v43_5]) (rest := []) ⟨hx, hb, hml, hown, hts⟩ (rX1_placeAt l g ad H.size U43 v43_5 hR.w  hv40) (cwV 1 hts (gd_V kw_537 kw_579 kw_580 kw_392 kw_578) rfl rfl rfl (by decide +kernel) ⟨Nat.le_of_ble_eq_true rfl, Nat.le_of_ble_eq_true rfl⟩) ⟨cblind, va_recv hR.K hR.P (ci := 1) (q0 := 16) rfl (hR.at41 (hR.w.2.1 _ finC_27).2.1), fun U hU hW9 => cmk hU hW9 hR hex hE hFc⟩ rfl rfl hl.1 rfl (lv_room (Nat.le_of_ble_eq_true rfl)) dX1_store_53 ⟨Nat.le_of_ble_eq_true rfl, Nat.le_of_ble_eq_true rfl⟩) hR.sS (fun q _ h => hFc q h) hFc (fun r41 u9 t9 H1 locs ht9 hvm9 hw9 hB9 hz9 hk9 hS => ?_)
      have hR : RepC g ad A s U43 H1 locs := hR.call ht9 hB9 hR.w hS hFc
      obtain rfl : r41 = (fX1_placeAt U43 v43_5) := hw9
      clear hB9 hz9 hk9 hvm9 ht9 hS
      generalize H1 = H at hR ⊢
      obtain ⟨a43, ea43⟩ : ∃ z, z = (fX1_placeAt U43 v43_5) := ⟨_, rfl⟩
      rw [← ea43]
      replace h := h a43 ea43
      refine lv_iconst (v := 3) hx hb dX1_store_56 (by decide) ?_
      refine lv_icmp_ne (tgt := 67) hx hb dX1_store_57 (by decide) (fun c44 => ?_) (fun c44 => ?_)
      · replace h := h.2 (k_ne rfl (by decide) c44)
        exact J_67 U43 v43_1 v43_2 v43_3 v43_4 _ _ ls h  hsh hR (lv_sub hl [0, 1, 2, 3, 4] rfl)
      · replace h := h.1 (k_eq rfl (by decide) c44)
        refine lv_aload_n hx hb dX1_store_60 rfl (lv_at hl 0 rfl) ?_
        refine lv_iload hx hb dX1_store_61 (lv_at hl 5 rfl) ?_
        refine lv_iconst (v := 0) hx hb dX1_store_63 (by decide) ?_
        obtain ⟨Q45, h0, h⟩ := h
        have hFc := cfree hR hA
        refine va_callv (va_runV (As := [.int v43_5, .int 0]) (rest := []) ⟨hx, hb, hml, hown, hts⟩ (rX1_setPlace l g ad H.size U43 v43_5 (0 : Int32) hR.w  Q45 h0) (cwV 2 hts (gd_V kw_485 kw_588 kw_589 kw_392 kw_587) rfl rfl rfl (by decide +kernel) ⟨Nat.le_of_ble_eq_true rfl, Nat.le_of_ble_eq_true rfl⟩) ⟨cblind, va_recv hR.K hR.P (ci := 1) (q0 := 16) rfl (hR.at41 (hR.w.2.1 _ finC_27).2.1), fun U hU hW9 => cmk hU hW9 hR hex hE hFc⟩ rfl rfl hl.1 rfl (lv_room (Nat.le_of_ble_eq_true rfl)) dX1_store_64 ⟨Nat.le_of_ble_eq_true rfl, Nat.le_of_ble_eq_true rfl⟩) hR.sS (fun q _ h => hFc q h) hFc (fun  S46 t9 H1 locs ht9 hvm9 hw9 hB9 hz9 hk9 hS => ?_)
        obtain ⟨hq47, hw9, hs9⟩ := hw9
        have hR : RepC g ad A s S46 H1 locs := hR.call ht9 hB9 hw9 hS hFc
        have hsh := hsh.tr hs9
        replace h := h  S46 hq47 hw9 hs9
        clear hB9 hz9 hk9 hvm9 ht9 hw9 hs9 hS
        generalize H1 = H at hR ⊢
        exact J_67 S46 v43_1 v43_2 v43_3 v43_4 _ _ ls h  hsh hR (lv_sub hl [0, 1, 2, 3, 4] rfl)
  refine lv_if_le (tgt := 43) hx hb dX1_store_21 (by decide) (fun c48 => ?_) (fun c48 => ?_)
  · replace h := h.1 (k_le rfl (by decide) c48)
    exact J_43 S7 x1 x2 a4 r6 a14 _ _ ls h  hsh hR (lv_sub hl [3, 4, 5, 2, 1, 0] rfl)
  · replace h := h.2 (k_nle rfl (by decide) c48)
    refine lv_aload_n hx hb dX1_store_24 rfl (lv_at hl 3 rfl) ?_
    refine lv_iload_n hx hb dX1_store_25 rfl (lv_at hl 5 rfl) ?_
    refine lv_iconst (v := 1) hx hb dX1_store_26 (by decide) ?_
    refine lv_isub hx hb dX1_store_27 ?_
    refine lv_topi (fun z49 ez49 => ?_)
    obtain rfl : z49 = (x2 - (1 : Int32)) := ez49
    obtain ⟨hv50, h⟩ := h
    have hFc := cfree hR hA
    refine va_calli (va_runV (As := [.int (x2 - (1 : Int32))]) (rest := []) ⟨hx, hb, hml, hown, hts⟩ (rX1_placeAt l g ad H.size S7 (x2 - (1 : Int32)) hR.w  hv50) (cwV 1 hts (gd_V kw_537 kw_579 kw_580 kw_392 kw_578) rfl rfl rfl (by decide +kernel) ⟨Nat.le_of_ble_eq_true rfl, Nat.le_of_ble_eq_true rfl⟩) ⟨cblind, va_recv hR.K hR.P (ci := 1) (q0 := 16) rfl (hR.at41 (hR.w.2.1 _ finC_27).2.1), fun U hU hW9 => cmk hU hW9 hR hex hE hFc⟩ rfl rfl hl.1 rfl (lv_room (Nat.le_of_ble_eq_true rfl)) dX1_store_28 ⟨Nat.le_of_ble_eq_true rfl, Nat.le_of_ble_eq_true rfl⟩) hR.sS (fun q _ h => hFc q h) hFc (fun r51 u9 t9 H1 locs ht9 hvm9 hw9 hB9 hz9 hk9 hS => ?_)
    have hR : RepC g ad A s S7 H1 locs := hR.call ht9 hB9 hR.w hS hFc
    obtain rfl : r51 = (fX1_placeAt S7 (x2 - (1 : Int32))) := hw9
    clear hB9 hz9 hk9 hvm9 ht9 hS
    generalize H1 = H at hR ⊢
    obtain ⟨a53, ea53⟩ : ∃ z, z = (fX1_placeAt S7 (x2 - (1 : Int32))) := ⟨_, rfl⟩
    rw [← ea53]
    replace h := h a53 ea53
    refine lv_iconst (v := 2) hx hb dX1_store_31 (by decide) ?_
    refine lv_icmp_ne (tgt := 43) hx hb dX1_store_32 (by decide) (fun c54 => ?_) (fun c54 => ?_)
    · replace h := h.2 (k_ne rfl (by decide) c54)
      exact J_43 S7 x1 x2 a4 r6 a14 _ _ ls h  hsh hR (lv_sub hl [3, 4, 5, 2, 1, 0] rfl)
    · replace h := h.1 (k_eq rfl (by decide) c54)
      refine lv_aload_n hx hb dX1_store_35 rfl (lv_at hl 3 rfl) ?_
      refine lv_iload_n hx hb dX1_store_36 rfl (lv_at hl 5 rfl) ?_
      refine lv_iconst (v := 1) hx hb dX1_store_37 (by decide) ?_
      refine lv_isub hx hb dX1_store_38 ?_
      refine lv_topi (fun z55 ez55 => ?_)
      obtain rfl : z55 = (x2 - (1 : Int32)) := ez55
      refine lv_iconst (v := 0) hx hb dX1_store_39 (by decide) ?_
      obtain ⟨Q56, h0, h⟩ := h
      have hFc := cfree hR hA
      refine va_callv (va_runV (As := [.int (x2 - (1 : Int32)), .int 0]) (rest := []) ⟨hx, hb, hml, hown, hts⟩ (rX1_setPlace l g ad H.size S7 (x2 - (1 : Int32)) (0 : Int32) hR.w  Q56 h0) (cwV 2 hts (gd_V kw_485 kw_588 kw_589 kw_392 kw_587) rfl rfl rfl (by decide +kernel) ⟨Nat.le_of_ble_eq_true rfl, Nat.le_of_ble_eq_true rfl⟩) ⟨cblind, va_recv hR.K hR.P (ci := 1) (q0 := 16) rfl (hR.at41 (hR.w.2.1 _ finC_27).2.1), fun U hU hW9 => cmk hU hW9 hR hex hE hFc⟩ rfl rfl hl.1 rfl (lv_room (Nat.le_of_ble_eq_true rfl)) dX1_store_40 ⟨Nat.le_of_ble_eq_true rfl, Nat.le_of_ble_eq_true rfl⟩) hR.sS (fun q _ h => hFc q h) hFc (fun  S57 t9 H1 locs ht9 hvm9 hw9 hB9 hz9 hk9 hS => ?_)
      obtain ⟨hq58, hw9, hs9⟩ := hw9
      have hR : RepC g ad A s S57 H1 locs := hR.call ht9 hB9 hw9 hS hFc
      have hsh := hsh.tr hs9
      replace h := h  S57 hq58 hw9 hs9
      clear hB9 hz9 hk9 hvm9 ht9 hw9 hs9 hS
      generalize H1 = H at hR ⊢
      exact J_43 S57 x1 x2 a4 r6 a14 _ _ ls h  hsh hR (lv_sub hl [3, 4, 5, 2, 1, 0] rfl)
def w_X1_keepTypes_J161 (Q : MS → Prop) (k50 : MS → Int32 → Prop) (U161 : MS) (v161_1 : Int32) : Prop := (wfC U161 → (∀ a47 : Int32, a47 = (v161_1 + Int32.ofInt 1) → k50 U161 a47))
def w_X1_keepTypes_J155 (Q : MS → Prop) (k81 : MS → Int32 → Int32 → Prop) (U155 : MS) (v155_1 : Int32) (v155_2 : Int32) : Prop := (wfC U155 → (∀ a56 : Int32, a56 = (v155_2 + Int32.ofInt 1) → k81 U155 v155_1 a56))
def w_X1_keepTypes_L81 (Q : MS → Prop) (k50 : MS → Int32 → Prop) : Nat → MS → Int32 → Int32 → Prop
  | 0, _, _, _ => False
  | n81 + 1, U81, v81_1, v81_2 => (wfC U81 → (((0 : Int) ≤ v81_1.toInt ∧ v81_1.toInt < (qN U81 (qO U81 16 2) : Int)) ∧ (((qI U81 (qO U81 16 2) v81_1.toInt.toNat).toInt = 0 → w_X1_keepTypes_J161 Q k50 U81 v81_1) ∧ (¬ (qI U81 (qO U81 16 2) v81_1.toInt.toNat).toInt = 0 → ((24 ≤ v81_2.toInt → w_X1_keepTypes_J161 Q k50 U81 v81_1) ∧ (¬ 24 ≤ v81_2.toInt → (((0 : Int) ≤ ((v81_1 * (48 : Int32)) + v81_2).toInt ∧ ((v81_1 * (48 : Int32)) + v81_2).toInt < (qN U81 (qO U81 16 1) : Int)) ∧ (∀ a55 : Int64, a55 = ((qI U81 (qO U81 16 1) ((((v81_1 * (48 : Int32)) + v81_2).toInt).toNat)).toInt64) → ((16 ≤ v81_2.toInt → ((qR U81 16 9 = some (qO U81 16 9)) ∧ ((qR U81 (qO U81 16 9) 14 = some (qO U81 (qO U81 16 9) 14)) ∧ (((0 : Int) ≤ v81_1.toInt ∧ v81_1.toInt < (qN U81 (qO U81 (qO U81 16 9) 14) : Int)) ∧ (((0 : Int) ≤ v81_1.toInt ∧ v81_1.toInt < (qN U81 (qO U81 (qO U81 16 9) 14) : Int)) ∧ (∀ S68, S68 = wJ U81 (qO U81 (qO U81 16 9) 14) v81_1.toInt.toNat ((qJ U81 (qO U81 (qO U81 16 9) 14) v81_1.toInt.toNat) ||| (a55 <<< (((4 : Int32) * (v81_2 - (16 : Int32))).toInt64 &&& 63))) → qT U81 (qO U81 (qO U81 16 9) 14) = 408 → wfC S68 → w_X1_keepTypes_J155 Q (w_X1_keepTypes_L81 Q k50 n81) S68 v81_1 v81_2)))))) ∧ (¬ 16 ≤ v81_2.toInt → ((qR U81 16 9 = some (qO U81 16 9)) ∧ ((qR U81 (qO U81 16 9) 13 = some (qO U81 (qO U81 16 9) 13)) ∧ (((0 : Int) ≤ v81_1.toInt ∧ v81_1.toInt < (qN U81 (qO U81 (qO U81 16 9) 13) : Int)) ∧ (((0 : Int) ≤ v81_1.toInt ∧ v81_1.toInt < (qN U81 (qO U81 (qO U81 16 9) 13) : Int)) ∧ (∀ S78, S78 = wJ U81 (qO U81 (qO U81 16 9) 13) v81_1.toInt.toNat ((qJ U81 (qO U81 (qO U81 16 9) 13) v81_1.toInt.toNat) ||| (a55 <<< (((4 : Int32) * v81_2).toInt64 &&& 63))) → qT U81 (qO U81 (qO U81 16 9) 13) = 407 → wfC S78 → w_X1_keepTypes_J155 Q (w_X1_keepTypes_L81 Q k50 n81) S78 v81_1 v81_2)))))))))))))))
def w_X1_keepTypes_L50 (Q : MS → Prop) : Nat → MS → Int32 → Prop
  | 0, _, _ => False
  | n50 + 1, U50, v50_1 => (wfC U50 → ((qR U50 16 9 = some (qO U50 16 9)) ∧ (((qI U50 (qO U50 16 9) 2).toInt ≤ v50_1.toInt → Q U50) ∧ (¬ (qI U50 (qO U50 16 9) 2).toInt ≤ v50_1.toInt → ((qR U50 16 9 = some (qO U50 16 9)) ∧ ((qR U50 (qO U50 16 9) 12 = some (qO U50 (qO U50 16 9) 12)) ∧ (d_X4_heightAt U50 17 v50_1 ∧ (((0 : Int) ≤ v50_1.toInt ∧ v50_1.toInt < (qN U50 (qO U50 (qO U50 16 9) 12) : Int)) ∧ (∀ S42, S42 = wI U50 (qO U50 (qO U50 16 9) 12) v50_1.toInt.toNat (vp_nar .byte ((fX4_heightAt U50 17 v50_1).toInt8.toInt32)) → qT U50 (qO U50 (qO U50 16 9) 12) = 104 → wfC S42 → (∃ n, w_X1_keepTypes_L81 Q (w_X1_keepTypes_L50 Q n50) n S42 v50_1 0))))))))))
def wX1_keepTypes (S : MS) (Q : MS → Prop) : Prop := ((qR S 16 9 = some (qO S 16 9)) ∧ ((qR S 16 9 = some (qO S 16 9)) ∧ (((0 : Int) ≤ (qI S (qO S 16 9) 2).toInt ∧ (qn S + 1 ≤ KCC ∧ qu S + (qI S (qO S 16 9) 2).toInt.toNat ≤ KSC)) ∧ (∀ S8, S8 = wN S 104 ((qI S (qO S 16 9) 2).toInt.toNat) ((qI S (qO S 16 9) 2).toInt.toNat) → wfC S8 → (∀ S10, S10 = wR S8 (qO S 16 9) 12 (some (qn S)) → qT S8 (qO S 16 9) = 47 → wfC S10 → ((qR S10 16 9 = some (qO S10 16 9)) ∧ ((qR S10 16 9 = some (qO S10 16 9)) ∧ (((0 : Int) ≤ (qI S10 (qO S10 16 9) 2).toInt ∧ (qn S10 + 1 ≤ KCC ∧ qu S10 + (qI S10 (qO S10 16 9) 2).toInt.toNat ≤ KSC)) ∧ (∀ S18, S18 = wN S10 407 ((qI S10 (qO S10 16 9) 2).toInt.toNat) ((qI S10 (qO S10 16 9) 2).toInt.toNat) → wfC S18 → (∀ S20, S20 = wR S18 (qO S10 16 9) 13 (some (qn S10)) → qT S18 (qO S10 16 9) = 47 → wfC S20 → ((qR S20 16 9 = some (qO S20 16 9)) ∧ ((qR S20 16 9 = some (qO S20 16 9)) ∧ (((0 : Int) ≤ (qI S20 (qO S20 16 9) 2).toInt ∧ (qn S20 + 1 ≤ KCC ∧ qu S20 + (qI S20 (qO S20 16 9) 2).toInt.toNat ≤ KSC)) ∧ (∀ S28, S28 = wN S20 408 ((qI S20 (qO S20 16 9) 2).toInt.toNat) ((qI S20 (qO S20 16 9) 2).toInt.toNat) → wfC S28 → (∀ S30, S30 = wR S28 (qO S20 16 9) 14 (some (qn S20)) → qT S28 (qO S20 16 9) = 47 → wfC S30 → (∃ n, w_X1_keepTypes_L50 Q n S30 0))))))))))))))))
set_option maxHeartbeats 2000000 in
set_option maxRecDepth 100000 in
theorem rX1_keepTypes (l : Launch) (g : Gr) (ad : Nat → Nat) (H0 : Heap) (S : MS) (hw : wfC S) (Q : MS → Prop) (h : wX1_keepTypes S Q) : Met l yX1_keepTypes (wt yX1_keepTypes cX1_keepTypes 5 none) ({ frames := 2, cells := KCC - qn S, slots := KSC - qu S, locals := 42 }) (va_Pc [.ref (ad 16)] (st_CH g ad H0 S)) (va_Qv (fun (u : MS × (Nat → Nat)) => Q u.1 ∧ wfC u.1 ∧ shx S u.1 ∧ adk ad u.2 S) (fun (u : MS × (Nat → Nat)) (t : State) => qEHC g (va_A (WdC g ad S) H0.size) S H0 u t) (va_A (WdC g ad S) H0.size)) (KCC - qn S) (KSC - qu S) (va_A (WdC g ad S) H0.size) := by
  refine Met.ofW (cc := cX1_keepTypes) (maxL := 5) (ret := none) (by decide) rfl ?_
  intro p e s m args below meth c s₁ B hml hv
  obtain ⟨rfl, hH0, hsz, hP, hK, hD0, hex, hE⟩ := hv
  have hx := B.exec
  have hb := B.bytes
  have hr := B.returns
  have hts0 := atoms_spec (ws := wt yX1_keepTypes cX1_keepTypes 5 none) B.pre
  have hts : ∀ w ∈ tb, w.before _ s = true := fun w h => hts0 w (List.mem_cons_of_mem _ h)
  have hown : s.vm.findClass RX1 = some m.cls := findClass_of_methodNamed B.named
  subst hH0
  have hD := hD0.self (sz := s.heap.size)
  generalize hAe : va_A (WdC g ad S) s.heap.size = A at hD hE ⊢
  have hA : ∀ q : Nat, s.heap.size ≤ q → A q := fun q h => by rw [← hAe]; exact Or.inr h
  have hR : RepC g ad A s S s.heap [] := ⟨hK, hP, hD, va_S.rf, hw⟩
  clear hK hP hD hD0
  have hl := lv_entry ([.ref (ad 16)]) (n := 5) (Nat.le_of_ble_eq_true rfl)
  rw [lg_entry_eq]
  generalize (lg_sl ([.ref (ad 16)]) ++ List.replicate (5 - (lg_sl ([.ref (ad 16)])).length) Slot.unset).toArray = ls at hl ⊢
  have hlg : lgC S S 0 0 := lgC.rf
  have hak : adk ad ad S := adk.rf
  have hl : lv_has ls 5 [(0, .ref (ad 16))] := hl
  have hsh : shx S S := shx.rf
  unfold wX1_keepTypes at h
  refine lv_aload_n hx hb dX1_keepTypes_0 rfl (lv_at hl 0 rfl) ?_
  obtain ⟨hv2, h⟩ := h
  have hT_b1 : qT S (qO S 16 9) = 47 := hR.w.ref hv2 (hR.w.2.1 _ finC_27).2.1
  refine va_get (D := rD g) (ci := 1) (v := .ref (ad (qO S 16 9))) (C := RX1) (T := TX1) (N := 10) hx hb hts inX1 hown hR.K hR.P 16 (hR.at41 (hR.w.2.1 _ finC_27).2.1) rfl 9 (by decide) (hts _ kw_479) (fun _ h9 => h9) (congrArg (fun z => some (vf ad z)) hv2) dX1_keepTypes_1 ?_
  refine lv_aload_n hx hb dX1_keepTypes_4 rfl (lv_at hl 0 rfl) ?_
  obtain ⟨hv4, h⟩ := h
  have hT_b3 : qT S (qO S 16 9) = 47 := hR.w.ref hv4 (hR.w.2.1 _ finC_27).2.1
  refine va_get (D := rD g) (ci := 1) (v := .ref (ad (qO S 16 9))) (C := RX1) (T := TX1) (N := 10) hx hb hts inX1 hown hR.K hR.P 16 (hR.at41 (hR.w.2.1 _ finC_27).2.1) rfl 9 (by decide) (hts _ kw_479) (fun _ h9 => h9) (congrArg (fun z => some (vf ad z)) hv4) dX1_keepTypes_5 ?_
  refine va_get (D := rD g) (ci := 7) (v := .int (qI S (qO S 16 9) 2)) (C := RX8) (T := TX8) (N := 15) hx hb hts inX8 hown hR.K hR.P (qO S 16 9) (hR.at47 hT_b3) rfl 2 (by decide) (hts _ kw_491) (fun _ h9 => h9) rfl dX1_keepTypes_8 ?_
  obtain ⟨hv5, h⟩ := h
  have e9 : KCC = 300000 := rfl
  have e8 : KSC = 3553400 := rfl
  have e7 : TXB = 10000000 := rfl
  have hTX : qn S < TXB := by have := hv5.2.1; omega
  refine va_newa (atype := .byte) (ty := .byte) (a0 := ((qI S (qO S 16 9) 2).toInt.toNat, .inl (fun _ => 0))) (N' := (qI S (qO S 16 9) 2).toInt.toNat) hx hb (hts (.arrayClass .byte) kw_11) rfl hR.K hR.P hR.D hR.sS hA (fun _ => rfl) (fun q9 => absurd (k_lt (b := 0) rfl (by decide) q9) (Int.not_lt.mpr hv5.1)) rfl (by show ((qI S (qO S 16 9) 2).toInt.toNat) * 1 ≤ 536870912; have := hv5.2.2; omega) (show 0 + 1 ≤ KCC - qn S from hlg.c1 hv5.2.1) (show 0 + ((qI S (qO S 16 9) 2).toInt.toNat) ≤ KSC - qu S from hlg.s1 hv5.2.2) dX1_keepTypes_11 (fun q6 cA9 H hK9 hP hD hS => ?_)
  obtain rfl := cls_new3 hR.K hK9 (k := 0) rfl (fun _ h => by cases h)
  have hw8 := hR.w
  have hR := hR.new (t := 104) (n := (qI S (qO S 16 9) 2).toInt.toNat) (k := (qI S (qO S 16 9) 2).toInt.toNat) hTX (by decide) (by have := hv5.2.2; omega) (wN_CB (by decide)) hP hD hS
  have hk8 : adk ad (adx ad (qn S) q6) S := adk.rf.new (Nat.le_refl _) hTX
  have hak := hak.new (q := q6) hlg.2.2.1 hTX
  have hE := hE.ad hk8
  have hlg : lgC S (wN S 104 ((qI S (qO S 16 9) 2).toInt.toNat) ((qI S (qO S 16 9) 2).toInt.toNat)) (0 + 1) (0 + ((qI S (qO S 16 9) 2).toInt.toNat)) := hlg.new (t := 104) (n := (qI S (qO S 16 9) 2).toInt.toNat) ⟨hv5.2.1, hv5.2.2⟩
  have hs8 : shx S (wN S 104 ((qI S (qO S 16 9) 2).toInt.toNat) ((qI S (qO S 16 9) 2).toInt.toNat)) := shx.newC (t := 104) (n := (qI S (qO S 16 9) 2).toInt.toNat) (k := (qI S (qO S 16 9) 2).toInt.toNat) shx.rf hw8 hTX
  obtain ⟨am7, eam7⟩ : ∃ z, z = adx ad (qn S) q6 := ⟨_, rfl⟩
  have eq_q6 : am7 (qn S) = q6 := by rw [eam7]; exact if_pos rfl
  rw [← eam7] at hR hk8 hak hE
  obtain ⟨S8, eS8⟩ : ∃ z, z = wN S 104 ((qI S (qO S 16 9) 2).toInt.toNat) ((qI S (qO S 16 9) 2).toInt.toNat) := ⟨_, rfl⟩
  rw [← eS8] at hR hlg hs8
  replace h := h S8 eS8 hR.w
  have hsh := hsh.tr hs8
  have hT_b9 : qT S8 (qn S) = 104 := by rw [eS8]; exact if_pos rfl
  have ea_0 : am7 16 = ad 16 := hk8 _ (hw8.hd (hw8.2.1 _ finC_27).2.1 (by decide) (by decide))
  have ea_1 : am7 (qO S 16 9) = ad (qO S 16 9) := hk8 _ (hw8.hd hT_b1 (by decide) (by decide))
  have hT_b1 := hs8.T hT_b1 (by decide)
  have hl : lv_has ls 5 [(0, .ref (am7 16))] := by simp only [ea_0, ea_1]; exact hl
  refine W.eq (g2 := F0 m 13 ls [.ref (am7 (qn S)), .ref (am7 (qO S 16 9))]) (by simp only [ea_0, ea_1, eq_q6]) ?_
  clear hw8 hk8 hs8 hP hD hS e9 e8 e7 hTX
  refine va_put (D := rD g) (ci := 7) (v := .ref (am7 (qn S))) (ty := (.array .byte)) (C := RX8) (T := TX8) (N := 15) hx hb hts inX8 tyX8 tyX8_ok nmX8 hown hR.K hR.P hR.D hR.sS (qO S 16 9) (hR.at47 hT_b1) rfl 12 (by decide) (hts _ kw_563) (fun _ h9 => h9) rfl (by decide +kernel) rfl rfl (Nat.le_of_ble_eq_true rfl) dX1_keepTypes_13 (fun H locs hP hD hS => ?_)
  have hw9 : wfC (wR S8 (qO S 16 9) 12 (some (qn S))) := hR.w.put (fun b q9 => by cases q9; exact (hT_b9).trans (by rw [hT_b1]; rfl)) (hR.w.noown hT_b1 (by decide) (by decide)) (by rw [hT_b1]; decide) (fun b _ q9 => absurd (show otgC (qT S8 (qO S 16 9)) 12 = 0 by rw [hT_b1]; decide) q9) (fun _ => Option.some_ne_none _)
  have hTk9 : qT S8 (qO S 16 9) = 47 := hT_b1
  have hR : RepC g am7 A s (wR S8 (qO S 16 9) 12 (some (qn S))) H locs := hR.pR47 hT_b1 FX8_s12 hw9 hP hD hS
  obtain ⟨S10, eS10⟩ : ∃ z, z = wR S8 (qO S 16 9) 12 (some (qn S)) := ⟨_, rfl⟩
  rw [← eS10] at hR
  replace h := h S10 eS10 hTk9 hR.w
  have hsh : shx S S10 := by rw [eS10]; exact hsh
  have hlg : lgC S S10 (0 + 1) (0 + ((qI S (qO S 16 9) 2).toInt.toNat)) := by rw [eS10]; exact hlg
  refine lv_aload_n hx hb dX1_keepTypes_16 rfl (lv_at hl 0 rfl) ?_
  obtain ⟨hv12, h⟩ := h
  have hT_b11 : qT S10 (qO S10 16 9) = 47 := hR.w.ref hv12 (hR.w.2.1 _ finC_27).2.1
  refine va_get (D := rD g) (ci := 1) (v := .ref (am7 (qO S10 16 9))) (C := RX1) (T := TX1) (N := 10) hx hb hts inX1 hown hR.K hR.P 16 (hR.at41 (hR.w.2.1 _ finC_27).2.1) rfl 9 (by decide) (hts _ kw_479) (fun _ h9 => h9) (congrArg (fun z => some (vf am7 z)) hv12) dX1_keepTypes_17 ?_
  refine lv_aload_n hx hb dX1_keepTypes_20 rfl (lv_at hl 0 rfl) ?_
  obtain ⟨hv14, h⟩ := h
  have hT_b13 : qT S10 (qO S10 16 9) = 47 := hR.w.ref hv14 (hR.w.2.1 _ finC_27).2.1
  refine va_get (D := rD g) (ci := 1) (v := .ref (am7 (qO S10 16 9))) (C := RX1) (T := TX1) (N := 10) hx hb hts inX1 hown hR.K hR.P 16 (hR.at41 (hR.w.2.1 _ finC_27).2.1) rfl 9 (by decide) (hts _ kw_479) (fun _ h9 => h9) (congrArg (fun z => some (vf am7 z)) hv14) dX1_keepTypes_21 ?_
  refine va_get (D := rD g) (ci := 7) (v := .int (qI S10 (qO S10 16 9) 2)) (C := RX8) (T := TX8) (N := 15) hx hb hts inX8 hown hR.K hR.P (qO S10 16 9) (hR.at47 hT_b13) rfl 2 (by decide) (hts _ kw_491) (fun _ h9 => h9) rfl dX1_keepTypes_24 ?_
  obtain ⟨hv15, h⟩ := h
  have e9 : KCC = 300000 := rfl
  have e8 : KSC = 3553400 := rfl
  have e7 : TXB = 10000000 := rfl
  have hTX : qn S10 < TXB := by have := hv15.2.1; omega
  refine va_newa (atype := .long) (ty := .long) (a0 := ((qI S10 (qO S10 16 9) 2).toInt.toNat, .inr (.inl (fun _ => 0)))) (N' := (qI S10 (qO S10 16 9) 2).toInt.toNat) hx hb (hts (.arrayClass .long) kw_564) rfl hR.K hR.P hR.D hR.sS hA (fun _ => rfl) (fun q9 => absurd (k_lt (b := 0) rfl (by decide) q9) (Int.not_lt.mpr hv15.1)) rfl (by show ((qI S10 (qO S10 16 9) 2).toInt.toNat) * 8 ≤ 536870912; have := hv15.2.2; omega) (show 0 + 1 + 1 ≤ KCC - qn S from hlg.c1 hv15.2.1) (show 0 + ((qI S (qO S 16 9) 2).toInt.toNat) + ((qI S10 (qO S10 16 9) 2).toInt.toNat) ≤ KSC - qu S from hlg.s1 hv15.2.2) dX1_keepTypes_27 (fun q16 cA9 H hK9 hP hD hS => ?_)
  obtain rfl := cls_new3 hR.K hK9 (k := 3) rfl (fun _ h => by cases h)
  have hw8 := hR.w
  have hR := hR.new (t := 407) (n := (qI S10 (qO S10 16 9) 2).toInt.toNat) (k := (qI S10 (qO S10 16 9) 2).toInt.toNat) hTX (by decide) (by have := hv15.2.2; omega) (wN_CL (by decide)) hP hD hS
  have hk8 : adk am7 (adx am7 (qn S10) q16) S10 := adk.rf.new (Nat.le_refl _) hTX
  have hak := hak.new (q := q16) hlg.2.2.1 hTX
  have hE := hE.ad hk8
  have hlg : lgC S (wN S10 407 ((qI S10 (qO S10 16 9) 2).toInt.toNat) ((qI S10 (qO S10 16 9) 2).toInt.toNat)) (0 + 1 + 1) (0 + ((qI S (qO S 16 9) 2).toInt.toNat) + ((qI S10 (qO S10 16 9) 2).toInt.toNat)) := hlg.new (t := 407) (n := (qI S10 (qO S10 16 9) 2).toInt.toNat) ⟨hv15.2.1, hv15.2.2⟩
  have hs8 : shx S10 (wN S10 407 ((qI S10 (qO S10 16 9) 2).toInt.toNat) ((qI S10 (qO S10 16 9) 2).toInt.toNat)) := shx.newC (t := 407) (n := (qI S10 (qO S10 16 9) 2).toInt.toNat) (k := (qI S10 (qO S10 16 9) 2).toInt.toNat) shx.rf hw8 hTX
  obtain ⟨am17, eam17⟩ : ∃ z, z = adx am7 (qn S10) q16 := ⟨_, rfl⟩
  have eq_q16 : am17 (qn S10) = q16 := by rw [eam17]; exact if_pos rfl
  rw [← eam17] at hR hk8 hak hE
  obtain ⟨S18, eS18⟩ : ∃ z, z = wN S10 407 ((qI S10 (qO S10 16 9) 2).toInt.toNat) ((qI S10 (qO S10 16 9) 2).toInt.toNat) := ⟨_, rfl⟩
  rw [← eS18] at hR hlg hs8
  replace h := h S18 eS18 hR.w
  have hsh := hsh.tr hs8
  have hT_b19 : qT S18 (qn S10) = 407 := by rw [eS18]; exact if_pos rfl
  have ea_0 : am17 16 = am7 16 := hk8 _ (hw8.hd (hw8.2.1 _ finC_27).2.1 (by decide) (by decide))
  have ea_1 : am17 (qO S10 16 9) = am7 (qO S10 16 9) := hk8 _ (hw8.hd hT_b11 (by decide) (by decide))
  have hT_b11 := hs8.T hT_b11 (by decide)
  have hl : lv_has ls 5 [(0, .ref (am17 16))] := by simp only [ea_0, ea_1]; exact hl
  refine W.eq (g2 := F0 m 29 ls [.ref (am17 (qn S10)), .ref (am17 (qO S10 16 9))]) (by simp only [ea_0, ea_1, eq_q16]) ?_
  clear hw8 hk8 hs8 hP hD hS e9 e8 e7 hTX
  refine va_put (D := rD g) (ci := 7) (v := .ref (am17 (qn S10))) (ty := (.array .long)) (C := RX8) (T := TX8) (N := 15) hx hb hts inX8 tyX8 tyX8_ok nmX8 hown hR.K hR.P hR.D hR.sS (qO S10 16 9) (hR.at47 hT_b11) rfl 13 (by decide) (hts _ kw_565) (fun _ h9 => h9) rfl (by decide +kernel) rfl rfl (Nat.le_of_ble_eq_true rfl) dX1_keepTypes_29 (fun H locs hP hD hS => ?_)
  have hw9 : wfC (wR S18 (qO S10 16 9) 13 (some (qn S10))) := hR.w.put (fun b q9 => by cases q9; exact (hT_b19).trans (by rw [hT_b11]; rfl)) (hR.w.noown hT_b11 (by decide) (by decide)) (by rw [hT_b11]; decide) (fun b _ q9 => absurd (show otgC (qT S18 (qO S10 16 9)) 13 = 0 by rw [hT_b11]; decide) q9) (fun _ => Option.some_ne_none _)
  have hTk9 : qT S18 (qO S10 16 9) = 47 := hT_b11
  have hR : RepC g am17 A s (wR S18 (qO S10 16 9) 13 (some (qn S10))) H locs := hR.pR47 hT_b11 FX8_s13 hw9 hP hD hS
  obtain ⟨S20, eS20⟩ : ∃ z, z = wR S18 (qO S10 16 9) 13 (some (qn S10)) := ⟨_, rfl⟩
  rw [← eS20] at hR
  replace h := h S20 eS20 hTk9 hR.w
  have hsh : shx S S20 := by rw [eS20]; exact hsh
  have hlg : lgC S S20 (0 + 1 + 1) (0 + ((qI S (qO S 16 9) 2).toInt.toNat) + ((qI S10 (qO S10 16 9) 2).toInt.toNat)) := by rw [eS20]; exact hlg
  refine lv_aload_n hx hb dX1_keepTypes_32 rfl (lv_at hl 0 rfl) ?_
  obtain ⟨hv22, h⟩ := h
  have hT_b21 : qT S20 (qO S20 16 9) = 47 := hR.w.ref hv22 (hR.w.2.1 _ finC_27).2.1
  refine va_get (D := rD g) (ci := 1) (v := .ref (am17 (qO S20 16 9))) (C := RX1) (T := TX1) (N := 10) hx hb hts inX1 hown hR.K hR.P 16 (hR.at41 (hR.w.2.1 _ finC_27).2.1) rfl 9 (by decide) (hts _ kw_479) (fun _ h9 => h9) (congrArg (fun z => some (vf am17 z)) hv22) dX1_keepTypes_33 ?_
  refine lv_aload_n hx hb dX1_keepTypes_36 rfl (lv_at hl 0 rfl) ?_
  obtain ⟨hv24, h⟩ := h
  have hT_b23 : qT S20 (qO S20 16 9) = 47 := hR.w.ref hv24 (hR.w.2.1 _ finC_27).2.1
  refine va_get (D := rD g) (ci := 1) (v := .ref (am17 (qO S20 16 9))) (C := RX1) (T := TX1) (N := 10) hx hb hts inX1 hown hR.K hR.P 16 (hR.at41 (hR.w.2.1 _ finC_27).2.1) rfl 9 (by decide) (hts _ kw_479) (fun _ h9 => h9) (congrArg (fun z => some (vf am17 z)) hv24) dX1_keepTypes_37 ?_
  refine va_get (D := rD g) (ci := 7) (v := .int (qI S20 (qO S20 16 9) 2)) (C := RX8) (T := TX8) (N := 15) hx hb hts inX8 hown hR.K hR.P (qO S20 16 9) (hR.at47 hT_b23) rfl 2 (by decide) (hts _ kw_491) (fun _ h9 => h9) rfl dX1_keepTypes_40 ?_
  obtain ⟨hv25, h⟩ := h
  have e9 : KCC = 300000 := rfl
  have e8 : KSC = 3553400 := rfl
  have e7 : TXB = 10000000 := rfl
  have hTX : qn S20 < TXB := by have := hv25.2.1; omega
  refine va_newa (atype := .long) (ty := .long) (a0 := ((qI S20 (qO S20 16 9) 2).toInt.toNat, .inr (.inl (fun _ => 0)))) (N' := (qI S20 (qO S20 16 9) 2).toInt.toNat) hx hb (hts (.arrayClass .long) kw_564) rfl hR.K hR.P hR.D hR.sS hA (fun _ => rfl) (fun q9 => absurd (k_lt (b := 0) rfl (by decide) q9) (Int.not_lt.mpr hv25.1)) rfl (by show ((qI S20 (qO S20 16 9) 2).toInt.toNat) * 8 ≤ 536870912; have := hv25.2.2; omega) (show 0 + 1 + 1 + 1 ≤ KCC - qn S from hlg.c1 hv25.2.1) (show 0 + ((qI S (qO S 16 9) 2).toInt.toNat) + ((qI S10 (qO S10 16 9) 2).toInt.toNat) + ((qI S20 (qO S20 16 9) 2).toInt.toNat) ≤ KSC - qu S from hlg.s1 hv25.2.2) dX1_keepTypes_43 (fun q26 cA9 H hK9 hP hD hS => ?_)
  obtain rfl := cls_new3 hR.K hK9 (k := 3) rfl (fun _ h => by cases h)
  have hw8 := hR.w
  have hR := hR.new (t := 408) (n := (qI S20 (qO S20 16 9) 2).toInt.toNat) (k := (qI S20 (qO S20 16 9) 2).toInt.toNat) hTX (by decide) (by have := hv25.2.2; omega) (wN_CL (by decide)) hP hD hS
  have hk8 : adk am17 (adx am17 (qn S20) q26) S20 := adk.rf.new (Nat.le_refl _) hTX
  have hak := hak.new (q := q26) hlg.2.2.1 hTX
  have hE := hE.ad hk8
  have hlg : lgC S (wN S20 408 ((qI S20 (qO S20 16 9) 2).toInt.toNat) ((qI S20 (qO S20 16 9) 2).toInt.toNat)) (0 + 1 + 1 + 1) (0 + ((qI S (qO S 16 9) 2).toInt.toNat) + ((qI S10 (qO S10 16 9) 2).toInt.toNat) + ((qI S20 (qO S20 16 9) 2).toInt.toNat)) := hlg.new (t := 408) (n := (qI S20 (qO S20 16 9) 2).toInt.toNat) ⟨hv25.2.1, hv25.2.2⟩
  have hs8 : shx S20 (wN S20 408 ((qI S20 (qO S20 16 9) 2).toInt.toNat) ((qI S20 (qO S20 16 9) 2).toInt.toNat)) := shx.newC (t := 408) (n := (qI S20 (qO S20 16 9) 2).toInt.toNat) (k := (qI S20 (qO S20 16 9) 2).toInt.toNat) shx.rf hw8 hTX
  obtain ⟨am27, eam27⟩ : ∃ z, z = adx am17 (qn S20) q26 := ⟨_, rfl⟩
  have eq_q26 : am27 (qn S20) = q26 := by rw [eam27]; exact if_pos rfl
  rw [← eam27] at hR hk8 hak hE
  obtain ⟨S28, eS28⟩ : ∃ z, z = wN S20 408 ((qI S20 (qO S20 16 9) 2).toInt.toNat) ((qI S20 (qO S20 16 9) 2).toInt.toNat) := ⟨_, rfl⟩
  rw [← eS28] at hR hlg hs8
  replace h := h S28 eS28 hR.w
  have hsh := hsh.tr hs8
  have hT_b29 : qT S28 (qn S20) = 408 := by rw [eS28]; exact if_pos rfl
  have ea_0 : am27 16 = am17 16 := hk8 _ (hw8.hd (hw8.2.1 _ finC_27).2.1 (by decide) (by decide))
  have ea_1 : am27 (qO S20 16 9) = am17 (qO S20 16 9) := hk8 _ (hw8.hd hT_b21 (by decide) (by decide))
  have hT_b21 := hs8.T hT_b21 (by decide)
  have hl : lv_has ls 5 [(0, .ref (am27 16))] := by simp only [ea_0, ea_1]; exact hl
  refine W.eq (g2 := F0 m 45 ls [.ref (am27 (qn S20)), .ref (am27 (qO S20 16 9))]) (by simp only [ea_0, ea_1, eq_q26]) ?_
  clear hw8 hk8 hs8 hP hD hS e9 e8 e7 hTX
  refine va_put (D := rD g) (ci := 7) (v := .ref (am27 (qn S20))) (ty := (.array .long)) (C := RX8) (T := TX8) (N := 15) hx hb hts inX8 tyX8 tyX8_ok nmX8 hown hR.K hR.P hR.D hR.sS (qO S20 16 9) (hR.at47 hT_b21) rfl 14 (by decide) (hts _ kw_566) (fun _ h9 => h9) rfl (by decide +kernel) rfl rfl (Nat.le_of_ble_eq_true rfl) dX1_keepTypes_45 (fun H locs hP hD hS => ?_)
  have hw9 : wfC (wR S28 (qO S20 16 9) 14 (some (qn S20))) := hR.w.put (fun b q9 => by cases q9; exact (hT_b29).trans (by rw [hT_b21]; rfl)) (hR.w.noown hT_b21 (by decide) (by decide)) (by rw [hT_b21]; decide) (fun b _ q9 => absurd (show otgC (qT S28 (qO S20 16 9)) 14 = 0 by rw [hT_b21]; decide) q9) (fun _ => Option.some_ne_none _)
  have hTk9 : qT S28 (qO S20 16 9) = 47 := hT_b21
  have hR : RepC g am27 A s (wR S28 (qO S20 16 9) 14 (some (qn S20))) H locs := hR.pR47 hT_b21 FX8_s14 hw9 hP hD hS
  obtain ⟨S30, eS30⟩ : ∃ z, z = wR S28 (qO S20 16 9) 14 (some (qn S20)) := ⟨_, rfl⟩
  rw [← eS30] at hR
  replace h := h S30 eS30 hTk9 hR.w
  have hsh : shx S S30 := by rw [eS30]; exact hsh
  have hlg : lgC S S30 (0 + 1 + 1 + 1) (0 + ((qI S (qO S 16 9) 2).toInt.toNat) + ((qI S10 (qO S10 16 9) 2).toInt.toNat) + ((qI S20 (qO S20 16 9) 2).toInt.toNat)) := by rw [eS30]; exact hlg
  refine lv_iconst (v := 0) hx hb dX1_keepTypes_48 (by decide) ?_
  refine lv_istore_n (lv' := [(1, .int 0), (0, .ref (am27 16))]) hx hb dX1_keepTypes_49 rfl hl (by decide) rfl (fun ls hl => ?_)
  have J_50 : ∀ (n50 : Nat) (ad50 : Nat → Nat) (dc50 ds50 : Nat) (U50 : MS) (v50_1 : Int32) (H : Heap) (locs : List Loc) (ls : Array Slot), w_X1_keepTypes_L50 Q n50 U50 v50_1 → shx S U50 → lgC S U50 dc50 ds50 → adk ad ad50 S → ogC ad50 A s s.heap → RepC g ad50 A s U50 H locs → lv_has ls 5 [(0, .ref (ad50 16)), (1, .int v50_1)] → W p l e (headSpec (wt yX1_keepTypes cX1_keepTypes 5 none) ({ frames := 2, cells := KCC - qn S, slots := KSC - qu S, locals := 42 })).room s m ([.ref (ad 16)] : List Value).toArray below meth c H locs dc50 ds50 (MQ below (va_Qv (fun (u : MS × (Nat → Nat)) => Q u.1 ∧ wfC u.1 ∧ shx S u.1 ∧ adk ad u.2 S) (fun (u : MS × (Nat → Nat)) (t : State) => qEHC g A S s.heap u t) A) ([.ref (ad 16)] : List Value).toArray s (KCC - qn S) (KSC - qu S) A) (F0 m 50 ls []) := by
    intro n50
    induction n50 with
    | zero => intro ad50 dc50 ds50 U50 v50_1 H locs ls h hsh hlg hak hE hR hl; unfold w_X1_keepTypes_L50 at h; exact h.elim
    | succ n50 ih_50 =>
      intro ad50 dc50 ds50 U50 v50_1 H locs ls h hsh hlg hak hE hR hl
      unfold w_X1_keepTypes_L50 at h
      replace h := h hR.w
      refine lv_iload_n hx hb dX1_keepTypes_50 rfl (lv_at hl 1 rfl) ?_
      refine lv_aload_n hx hb dX1_keepTypes_51 rfl (lv_at hl 0 rfl) ?_
      obtain ⟨hv32, h⟩ := h
      have hT_b31 : qT U50 (qO U50 16 9) = 47 := hR.w.ref hv32 (hR.w.2.1 _ finC_27).2.1
      refine va_get (D := rD g) (ci := 1) (v := .ref (ad50 (qO U50 16 9))) (C := RX1) (T := TX1) (N := 10) hx hb hts inX1 hown hR.K hR.P 16 (hR.at41 (hR.w.2.1 _ finC_27).2.1) rfl 9 (by decide) (hts _ kw_479) (fun _ h9 => h9) (congrArg (fun z => some (vf ad50 z)) hv32) dX1_keepTypes_52 ?_
      refine va_get (D := rD g) (ci := 7) (v := .int (qI U50 (qO U50 16 9) 2)) (C := RX8) (T := TX8) (N := 15) hx hb hts inX8 hown hR.K hR.P (qO U50 16 9) (hR.at47 hT_b31) rfl 2 (by decide) (hts _ kw_491) (fun _ h9 => h9) rfl dX1_keepTypes_55 ?_
      refine lv_icmp_ge (tgt := 167) hx hb dX1_keepTypes_58 (by decide) (fun c33 => ?_) (fun c33 => ?_)
      · replace h := h.1 (k_le rfl rfl c33)
        refine W_led2 (fun hLd => ?_)
        refine W.widen (k := KCC - qn S) (n := KSC - qu S) hlg.c hlg.s ?_
        exact W.vret hx hb hr (fun t9 ht9 hW9 => ⟨⟨(U50, ad50), rfl, ⟨h, hR.w, hsh, hak⟩, ⟨⟨by rw [ht9]; exact hR.P, hR.D⟩, _, _, by rw [ht9]; exact hLd, hlg⟩⟩, hR.sS.F ht9⟩) hR.sS.2.2 dX1_keepTypes_167
      · replace h := h.2 (k_nle rfl rfl c33)
        refine lv_aload_n hx hb dX1_keepTypes_61 rfl (lv_at hl 0 rfl) ?_
        obtain ⟨hv35, h⟩ := h
        have hT_b34 : qT U50 (qO U50 16 9) = 47 := hR.w.ref hv35 (hR.w.2.1 _ finC_27).2.1
        refine va_get (D := rD g) (ci := 1) (v := .ref (ad50 (qO U50 16 9))) (C := RX1) (T := TX1) (N := 10) hx hb hts inX1 hown hR.K hR.P 16 (hR.at41 (hR.w.2.1 _ finC_27).2.1) rfl 9 (by decide) (hts _ kw_479) (fun _ h9 => h9) (congrArg (fun z => some (vf ad50 z)) hv35) dX1_keepTypes_62 ?_
        obtain ⟨hv37, h⟩ := h
        have hT_b36 : qT U50 (qO U50 (qO U50 16 9) 12) = 104 := hR.w.ref hv37 hT_b34
        refine va_get (D := rD g) (ci := 7) (v := .ref (ad50 (qO U50 (qO U50 16 9) 12))) (C := RX8) (T := TX8) (N := 15) hx hb hts inX8 hown hR.K hR.P (qO U50 16 9) (hR.at47 hT_b34) rfl 12 (by decide) (hts _ kw_563) (fun _ h9 => h9) (congrArg (fun z => some (vf ad50 z)) hv37) dX1_keepTypes_65 ?_
        refine lv_iload_n hx hb dX1_keepTypes_68 rfl (lv_at hl 1 rfl) ?_
        refine lv_aload_n hx hb dX1_keepTypes_69 rfl (lv_at hl 0 rfl) ?_
        refine va_get (D := rD g) (ci := 1) (v := .ref (ad50 17)) (C := RX1) (T := TX1) (N := 10) hx hb hts inX1 hown hR.K hR.P 16 (hR.at41 (hR.w.2.1 _ finC_27).2.1) rfl 0 (by decide) (hts _ kw_492) (fun _ h9 => h9) (congrArg (fun z => some (vf ad50 z)) (hR.w.2.1 _ finC_0).1) dX1_keepTypes_70 ?_
        refine lv_iload_n hx hb dX1_keepTypes_73 rfl (lv_at hl 1 rfl) ?_
        obtain ⟨hv38, h⟩ := h
        have hFc := cfree hR hA
        refine va_calli (va_runV (As := [.int v50_1]) (rest := [.int v50_1, .ref (ad50 (qO U50 (qO U50 16 9) 12))]) ⟨hx, hb, hml, hown, hts⟩ (rX4_heightAt l g ad50 H.size U50 17 v50_1 hR.w (hR.w.2.1 _ finC_0).2.1 hv38) (cwV 1 hts (gd_V kw_567 kw_960 kw_961 kw_167 kw_959) rfl rfl rfl (by decide +kernel) ⟨Nat.le_of_ble_eq_true rfl, Nat.le_of_ble_eq_true rfl⟩) ⟨cblind, va_recv hR.K hR.P (ci := 4) (q0 := 17) rfl (hR.at44 (hR.w.2.1 _ finC_0).2.1), fun U hU hW9 => cmk hU hW9 hR hex hE hFc⟩ rfl rfl hl.1 rfl (lv_room (Nat.le_of_ble_eq_true rfl)) dX1_keepTypes_74 ⟨(show dc50 + 0 ≤ KCC - qn S from hlg.c), (show ds50 + 0 ≤ KSC - qu S from hlg.s)⟩) hR.sS (fun q _ h => hFc q h) hFc (fun r39 u9 t9 H1 locs ht9 hvm9 hw9 hB9 hz9 hk9 hS => ?_)
        have hR : RepC g ad50 A s U50 H1 locs := hR.call ht9 hB9 hR.w hS hFc
        obtain rfl : r39 = (fX4_heightAt U50 17 v50_1) := hw9
        clear hB9 hz9 hk9 hvm9 ht9 hS
        generalize H1 = H at hR ⊢
        refine lv_i2b (v := ((fX4_heightAt U50 17 v50_1).toInt8.toInt32)) hx hb dX1_keepTypes_77 rfl ?_
        obtain ⟨hv41, h⟩ := h
        refine va_bast hx hb hR.K hR.P hR.D hR.sS (qO U50 (qO U50 16 9) 12) 0 (hR.atB hT_b36 (by decide)) rfl (k_ix (x := v50_1) (a := v50_1.toInt) rfl hv41) dX1_keepTypes_78 (fun H locs hP hD hS => ?_)
        have hTk9 : qT U50 (qO U50 (qO U50 16 9) 12) = 104 := hT_b36
        have hR : RepC g ad50 A s (wI U50 (qO U50 (qO U50 16 9) 12) v50_1.toInt.toNat (vp_nar .byte ((fX4_heightAt U50 17 v50_1).toInt8.toInt32))) H locs := hR.aB hT_b36 (by decide) (fit_nb _) hP hD hS
        obtain ⟨S42, eS42⟩ : ∃ z, z = wI U50 (qO U50 (qO U50 16 9) 12) v50_1.toInt.toNat (vp_nar .byte ((fX4_heightAt U50 17 v50_1).toInt8.toInt32)) := ⟨_, rfl⟩
        rw [← eS42] at hR
        replace h := h S42 eS42 hTk9 hR.w
        have hsh : shx S S42 := by rw [eS42]; exact hsh
        have hlg : lgC S S42 (dc50) (ds50) := by rw [eS42]; exact hlg
        refine lv_iconst (v := 0) hx hb dX1_keepTypes_79 (by decide) ?_
        refine lv_istore_n (lv' := [(2, .int 0), (0, .ref (ad50 16)), (1, .int v50_1)]) hx hb dX1_keepTypes_80 rfl hl (by decide) rfl (fun ls hl => ?_)
        have J_81 : ∀ (n81 : Nat) (ad81 : Nat → Nat) (dc81 ds81 : Nat) (U81 : MS) (v81_1 : Int32) (v81_2 : Int32) (H : Heap) (locs : List Loc) (ls : Array Slot), w_X1_keepTypes_L81 Q (w_X1_keepTypes_L50 Q n50) n81 U81 v81_1 v81_2 → shx S U81 → lgC S U81 dc81 ds81 → adk ad ad81 S → ogC ad81 A s s.heap → RepC g ad81 A s U81 H locs → lv_has ls 5 [(0, .ref (ad81 16)), (1, .int v81_1), (2, .int v81_2)] → W p l e (headSpec (wt yX1_keepTypes cX1_keepTypes 5 none) ({ frames := 2, cells := KCC - qn S, slots := KSC - qu S, locals := 42 })).room s m ([.ref (ad 16)] : List Value).toArray below meth c H locs dc81 ds81 (MQ below (va_Qv (fun (u : MS × (Nat → Nat)) => Q u.1 ∧ wfC u.1 ∧ shx S u.1 ∧ adk ad u.2 S) (fun (u : MS × (Nat → Nat)) (t : State) => qEHC g A S s.heap u t) A) ([.ref (ad 16)] : List Value).toArray s (KCC - qn S) (KSC - qu S) A) (F0 m 81 ls []) := by
          intro n81
          induction n81 with
          | zero => intro ad81 dc81 ds81 U81 v81_1 v81_2 H locs ls h hsh hlg hak hE hR hl; unfold w_X1_keepTypes_L81 at h; exact h.elim
          | succ n81 ih_81 =>
            intro ad81 dc81 ds81 U81 v81_1 v81_2 H locs ls h hsh hlg hak hE hR hl
            unfold w_X1_keepTypes_L81 at h
            replace h := h hR.w
            refine lv_aload_n hx hb dX1_keepTypes_81 rfl (lv_at hl 0 rfl) ?_
            have hT_b43 : qT U81 (qO U81 16 2) = 301 := hR.w.ref (hR.w.ptr ptrC_5) (hR.w.2.1 _ finC_27).2.1
            refine va_get (D := rD g) (ci := 1) (v := .ref (ad81 (qO U81 16 2))) (C := RX1) (T := TX1) (N := 10) hx hb hts inX1 hown hR.K hR.P 16 (hR.at41 (hR.w.2.1 _ finC_27).2.1) rfl 2 (by decide) (hts _ kw_494) (fun _ h9 => h9) (congrArg (fun z => some (vf ad81 z)) (hR.w.ptr ptrC_5)) dX1_keepTypes_82 ?_
            refine lv_iload_n hx hb dX1_keepTypes_85 rfl (lv_at hl 1 rfl) ?_
            obtain ⟨hv44, h⟩ := h
            refine va_zald hx hb hR.K hR.P (qO U81 16 2) 2 (hR.atZ hT_b43 (by decide)) rfl (k_ix (x := v81_1) (a := v81_1.toInt) rfl hv44) dX1_keepTypes_86 ?_
            refine lv_topi (fun z45 ez45 => ?_)
            obtain rfl : z45 = (qI U81 (qO U81 16 2) v81_1.toInt.toNat) := ez45
            have hz46 := hR.w.bit3 (b := (qO U81 16 2)) (j := v81_1.toInt.toNat) (hT_b43) (by decide)
            have J_161 : ∀ (ad161 : Nat → Nat) (dc161 ds161 : Nat) (U161 : MS) (v161_1 : Int32) (H : Heap) (locs : List Loc) (ls : Array Slot), w_X1_keepTypes_J161 Q (w_X1_keepTypes_L50 Q n50) U161 v161_1 → shx S U161 → lgC S U161 dc161 ds161 → adk ad ad161 S → ogC ad161 A s s.heap → RepC g ad161 A s U161 H locs → lv_has ls 5 [(0, .ref (ad161 16)), (1, .int v161_1)] → W p l e (headSpec (wt yX1_keepTypes cX1_keepTypes 5 none) ({ frames := 2, cells := KCC - qn S, slots := KSC - qu S, locals := 42 })).room s m ([.ref (ad 16)] : List Value).toArray below meth c H locs dc161 ds161 (MQ below (va_Qv (fun (u : MS × (Nat → Nat)) => Q u.1 ∧ wfC u.1 ∧ shx S u.1 ∧ adk ad u.2 S) (fun (u : MS × (Nat → Nat)) (t : State) => qEHC g A S s.heap u t) A) ([.ref (ad 16)] : List Value).toArray s (KCC - qn S) (KSC - qu S) A) (F0 m 161 ls []) := by
              intro ad161 dc161 ds161 U161 v161_1 H locs ls h hsh hlg hak hE hR hl
              unfold w_X1_keepTypes_J161 at h
              replace h := h hR.w
              obtain ⟨a47, ea47⟩ : ∃ z, z = (v161_1 + Int32.ofInt 1) := ⟨_, rfl⟩
              replace h := h a47 ea47
              refine lv_iinc (v := a47) (lv' := [(1, .int a47), (0, .ref (ad161 16))]) hx hb dX1_keepTypes_161 hl (k := 1) rfl ea47.symm (by decide) rfl (fun ls hl => ?_)
              refine lv_goto (tgt := 50) hx hb dX1_keepTypes_164 (by decide) ?_
              exact ih_50 ad161 (dc161) (ds161) U161 a47 _ _ ls h  hsh hlg hak hE hR (lv_sub hl [1, 0] rfl)
            refine lv_if_eq (tgt := 161) hx hb dX1_keepTypes_87 (by decide) (fun c48 => ?_) (fun c48 => ?_)
            · replace h := h.1 (k_eq rfl (by decide) c48)
              exact J_161 ad81 (dc81) (ds81) U81 v81_1 _ _ ls h  hsh hlg hak hE hR (lv_sub hl [0, 1] rfl)
            · replace h := h.2 (k_ne rfl (by decide) c48)
              refine lv_iload_n hx hb dX1_keepTypes_90 rfl (lv_at hl 2 rfl) ?_
              refine lv_bipush (v := 24) hx hb dX1_keepTypes_91 (by decide) ?_
              refine lv_icmp_ge (tgt := 161) hx hb dX1_keepTypes_93 (by decide) (fun c49 => ?_) (fun c49 => ?_)
              · replace h := h.1 (k_le (by decide) rfl c49)
                exact J_161 ad81 (dc81) (ds81) U81 v81_1 _ _ ls h  hsh hlg hak hE hR (lv_sub hl [0, 1] rfl)
              · replace h := h.2 (k_nle (by decide) rfl c49)
                refine lv_aload_n hx hb dX1_keepTypes_96 rfl (lv_at hl 0 rfl) ?_
                have hT_b50 : qT U81 (qO U81 16 1) = 102 := hR.w.ref (hR.w.ptr ptrC_4) (hR.w.2.1 _ finC_27).2.1
                refine va_get (D := rD g) (ci := 1) (v := .ref (ad81 (qO U81 16 1))) (C := RX1) (T := TX1) (N := 10) hx hb hts inX1 hown hR.K hR.P 16 (hR.at41 (hR.w.2.1 _ finC_27).2.1) rfl 1 (by decide) (hts _ kw_495) (fun _ h9 => h9) (congrArg (fun z => some (vf ad81 z)) (hR.w.ptr ptrC_4)) dX1_keepTypes_97 ?_
                refine lv_iload_n hx hb dX1_keepTypes_100 rfl (lv_at hl 1 rfl) ?_
                refine lv_bipush (v := 48) hx hb dX1_keepTypes_101 (by decide) ?_
                refine lv_imul hx hb dX1_keepTypes_103 ?_
                refine lv_topi (fun z51 ez51 => ?_)
                obtain rfl : z51 = (v81_1 * (48 : Int32)) := ez51
                refine lv_iload_n hx hb dX1_keepTypes_104 rfl (lv_at hl 2 rfl) ?_
                refine lv_iadd hx hb dX1_keepTypes_105 ?_
                refine lv_topi (fun z52 ez52 => ?_)
                obtain rfl : z52 = ((v81_1 * (48 : Int32)) + v81_2) := ez52
                obtain ⟨hv53, h⟩ := h
                refine va_bald hx hb hR.K hR.P (qO U81 16 1) 0 (hR.atB hT_b50 (by decide)) rfl (k_ix (x := ((v81_1 * (48 : Int32)) + v81_2)) (a := ((v81_1 * (48 : Int32)) + v81_2).toInt) rfl hv53) dX1_keepTypes_106 ?_
                refine lv_topi (fun z54 ez54 => ?_)
                obtain rfl : z54 = (qI U81 (qO U81 16 1) ((((v81_1 * (48 : Int32)) + v81_2).toInt).toNat)) := ez54
                refine lv_i2l (v := ((qI U81 (qO U81 16 1) ((((v81_1 * (48 : Int32)) + v81_2).toInt).toNat)).toInt64)) hx hb dX1_keepTypes_107 rfl ?_
                obtain ⟨a55, ea55⟩ : ∃ z, z = ((qI U81 (qO U81 16 1) ((((v81_1 * (48 : Int32)) + v81_2).toInt).toNat)).toInt64) := ⟨_, rfl⟩
                rw [← ea55]
                replace h := h a55 ea55
                refine lv_lstore_n (lv' := [(3, .long a55), (0, .ref (ad81 16)), (1, .int v81_1), (2, .int v81_2)]) hx hb dX1_keepTypes_108 rfl hl (by decide) rfl (fun ls hl => ?_)
                refine lv_iload_n hx hb dX1_keepTypes_109 rfl (lv_at hl 3 rfl) ?_
                refine lv_bipush (v := 16) hx hb dX1_keepTypes_110 (by decide) ?_
                have J_155 : ∀ (ad155 : Nat → Nat) (dc155 ds155 : Nat) (U155 : MS) (v155_1 : Int32) (v155_2 : Int32) (H : Heap) (locs : List Loc) (ls : Array Slot), w_X1_keepTypes_J155 Q (w_X1_keepTypes_L81 Q (w_X1_keepTypes_L50 Q n50) n81) U155 v155_1 v155_2 → shx S U155 → lgC S U155 dc155 ds155 → adk ad ad155 S → ogC ad155 A s s.heap → RepC g ad155 A s U155 H locs → lv_has ls 5 [(0, .ref (ad155 16)), (1, .int v155_1), (2, .int v155_2)] → W p l e (headSpec (wt yX1_keepTypes cX1_keepTypes 5 none) ({ frames := 2, cells := KCC - qn S, slots := KSC - qu S, locals := 42 })).room s m ([.ref (ad 16)] : List Value).toArray below meth c H locs dc155 ds155 (MQ below (va_Qv (fun (u : MS × (Nat → Nat)) => Q u.1 ∧ wfC u.1 ∧ shx S u.1 ∧ adk ad u.2 S) (fun (u : MS × (Nat → Nat)) (t : State) => qEHC g A S s.heap u t) A) ([.ref (ad 16)] : List Value).toArray s (KCC - qn S) (KSC - qu S) A) (F0 m 155 ls []) := by
                  intro ad155 dc155 ds155 U155 v155_1 v155_2 H locs ls h hsh hlg hak hE hR hl
                  unfold w_X1_keepTypes_J155 at h
                  replace h := h hR.w
                  obtain ⟨a56, ea56⟩ : ∃ z, z = (v155_2 + Int32.ofInt 1) := ⟨_, rfl⟩
                  replace h := h a56 ea56
                  refine lv_iinc (v := a56) (lv' := [(2, .int a56), (0, .ref (ad155 16)), (1, .int v155_1)]) hx hb dX1_keepTypes_155 hl (k := 2) rfl ea56.symm (by decide) rfl (fun ls hl => ?_)
                  refine lv_goto (tgt := 81) hx hb dX1_keepTypes_158 (by decide) ?_
                  exact ih_81 ad155 (dc155) (ds155) U155 v155_1 a56 _ _ ls h  hsh hlg hak hE hR (lv_sub hl [1, 2, 0] rfl)
                refine lv_icmp_ge (tgt := 135) hx hb dX1_keepTypes_112 (by decide) (fun c57 => ?_) (fun c57 => ?_)
                · replace h := h.1 (k_le (by decide) rfl c57)
                  refine lv_aload_n hx hb dX1_keepTypes_135 rfl (lv_at hl 1 rfl) ?_
                  obtain ⟨hv59, h⟩ := h
                  have hT_b58 : qT U81 (qO U81 16 9) = 47 := hR.w.ref hv59 (hR.w.2.1 _ finC_27).2.1
                  refine va_get (D := rD g) (ci := 1) (v := .ref (ad81 (qO U81 16 9))) (C := RX1) (T := TX1) (N := 10) hx hb hts inX1 hown hR.K hR.P 16 (hR.at41 (hR.w.2.1 _ finC_27).2.1) rfl 9 (by decide) (hts _ kw_479) (fun _ h9 => h9) (congrArg (fun z => some (vf ad81 z)) hv59) dX1_keepTypes_136 ?_
                  obtain ⟨hv61, h⟩ := h
                  have hT_b60 : qT U81 (qO U81 (qO U81 16 9) 14) = 408 := hR.w.ref hv61 hT_b58
                  refine va_get (D := rD g) (ci := 7) (v := .ref (ad81 (qO U81 (qO U81 16 9) 14))) (C := RX8) (T := TX8) (N := 15) hx hb hts inX8 hown hR.K hR.P (qO U81 16 9) (hR.at47 hT_b58) rfl 14 (by decide) (hts _ kw_566) (fun _ h9 => h9) (congrArg (fun z => some (vf ad81 z)) hv61) dX1_keepTypes_139 ?_
                  refine lv_iload_n hx hb dX1_keepTypes_142 rfl (lv_at hl 2 rfl) ?_
                  refine lv_dup2_11 hx hb dX1_keepTypes_143 rfl rfl ?_
                  obtain ⟨hv62, h⟩ := h
                  refine va_lald hx hb hR.K hR.P (qO U81 (qO U81 16 9) 14) 3 (hR.atL hT_b60 (by decide)) rfl (k_ix (x := v81_1) (a := v81_1.toInt) rfl hv62) dX1_keepTypes_144 ?_
                  refine lv_topl (fun z63 ez63 => ?_)
                  obtain rfl : z63 = (qJ U81 (qO U81 (qO U81 16 9) 14) v81_1.toInt.toNat) := ez63
                  refine lv_lload_n hx hb dX1_keepTypes_145 rfl (lv_at hl 0 rfl) ?_
                  refine lv_iconst (v := 4) hx hb dX1_keepTypes_146 (by decide) ?_
                  refine lv_iload_n hx hb dX1_keepTypes_147 rfl (lv_at hl 3 rfl) ?_
                  refine lv_bipush (v := 16) hx hb dX1_keepTypes_148 (by decide) ?_
                  refine lv_isub hx hb dX1_keepTypes_150 ?_
                  refine lv_topi (fun z64 ez64 => ?_)
                  obtain rfl : z64 = (v81_2 - (16 : Int32)) := ez64
                  refine lv_imul hx hb dX1_keepTypes_151 ?_
                  refine lv_topi (fun z65 ez65 => ?_)
                  obtain rfl : z65 = ((4 : Int32) * (v81_2 - (16 : Int32))) := ez65
                  refine lv_lshl (v := (a55 <<< (((4 : Int32) * (v81_2 - (16 : Int32))).toInt64 &&& 63))) hx hb dX1_keepTypes_152 rfl ?_
                  refine lv_lor hx hb dX1_keepTypes_153 ?_
                  refine lv_topl (fun z66 ez66 => ?_)
                  obtain rfl : z66 = ((qJ U81 (qO U81 (qO U81 16 9) 14) v81_1.toInt.toNat) ||| (a55 <<< (((4 : Int32) * (v81_2 - (16 : Int32))).toInt64 &&& 63))) := ez66
                  obtain ⟨hv67, h⟩ := h
                  refine va_last hx hb hR.K hR.P hR.D hR.sS (qO U81 (qO U81 16 9) 14) 3 (hR.atL hT_b60 (by decide)) rfl (k_ix (x := v81_1) (a := v81_1.toInt) rfl hv67) dX1_keepTypes_154 (fun H locs hP hD hS => ?_)
                  have hTk9 : qT U81 (qO U81 (qO U81 16 9) 14) = 408 := hT_b60
                  have hR : RepC g ad81 A s (wJ U81 (qO U81 (qO U81 16 9) 14) v81_1.toInt.toNat ((qJ U81 (qO U81 (qO U81 16 9) 14) v81_1.toInt.toNat) ||| (a55 <<< (((4 : Int32) * (v81_2 - (16 : Int32))).toInt64 &&& 63)))) H locs := hR.aL hT_b60 (by decide) hP hD hS
                  obtain ⟨S68, eS68⟩ : ∃ z, z = wJ U81 (qO U81 (qO U81 16 9) 14) v81_1.toInt.toNat ((qJ U81 (qO U81 (qO U81 16 9) 14) v81_1.toInt.toNat) ||| (a55 <<< (((4 : Int32) * (v81_2 - (16 : Int32))).toInt64 &&& 63))) := ⟨_, rfl⟩
                  rw [← eS68] at hR
                  replace h := h S68 eS68 hTk9 hR.w
                  have hsh : shx S S68 := by rw [eS68]; exact hsh
                  have hlg : lgC S S68 (dc81) (ds81) := by rw [eS68]; exact hlg
                  exact J_155 ad81 (dc81) (ds81) S68 v81_1 v81_2 _ _ ls h  hsh hlg hak hE hR (lv_sub hl [1, 2, 3] rfl)
                · replace h := h.2 (k_nle (by decide) rfl c57)
                  refine lv_aload_n hx hb dX1_keepTypes_115 rfl (lv_at hl 1 rfl) ?_
                  obtain ⟨hv70, h⟩ := h
                  have hT_b69 : qT U81 (qO U81 16 9) = 47 := hR.w.ref hv70 (hR.w.2.1 _ finC_27).2.1
                  refine va_get (D := rD g) (ci := 1) (v := .ref (ad81 (qO U81 16 9))) (C := RX1) (T := TX1) (N := 10) hx hb hts inX1 hown hR.K hR.P 16 (hR.at41 (hR.w.2.1 _ finC_27).2.1) rfl 9 (by decide) (hts _ kw_479) (fun _ h9 => h9) (congrArg (fun z => some (vf ad81 z)) hv70) dX1_keepTypes_116 ?_
                  obtain ⟨hv72, h⟩ := h
                  have hT_b71 : qT U81 (qO U81 (qO U81 16 9) 13) = 407 := hR.w.ref hv72 hT_b69
                  refine va_get (D := rD g) (ci := 7) (v := .ref (ad81 (qO U81 (qO U81 16 9) 13))) (C := RX8) (T := TX8) (N := 15) hx hb hts inX8 hown hR.K hR.P (qO U81 16 9) (hR.at47 hT_b69) rfl 13 (by decide) (hts _ kw_565) (fun _ h9 => h9) (congrArg (fun z => some (vf ad81 z)) hv72) dX1_keepTypes_119 ?_
                  refine lv_iload_n hx hb dX1_keepTypes_122 rfl (lv_at hl 2 rfl) ?_
                  refine lv_dup2_11 hx hb dX1_keepTypes_123 rfl rfl ?_
                  obtain ⟨hv73, h⟩ := h
                  refine va_lald hx hb hR.K hR.P (qO U81 (qO U81 16 9) 13) 3 (hR.atL hT_b71 (by decide)) rfl (k_ix (x := v81_1) (a := v81_1.toInt) rfl hv73) dX1_keepTypes_124 ?_
                  refine lv_topl (fun z74 ez74 => ?_)
                  obtain rfl : z74 = (qJ U81 (qO U81 (qO U81 16 9) 13) v81_1.toInt.toNat) := ez74
                  refine lv_lload_n hx hb dX1_keepTypes_125 rfl (lv_at hl 0 rfl) ?_
                  refine lv_iconst (v := 4) hx hb dX1_keepTypes_126 (by decide) ?_
                  refine lv_iload_n hx hb dX1_keepTypes_127 rfl (lv_at hl 3 rfl) ?_
                  refine lv_imul hx hb dX1_keepTypes_128 ?_
                  refine lv_topi (fun z75 ez75 => ?_)
                  obtain rfl : z75 = ((4 : Int32) * v81_2) := ez75
                  refine lv_lshl (v := (a55 <<< (((4 : Int32) * v81_2).toInt64 &&& 63))) hx hb dX1_keepTypes_129 rfl ?_
                  refine lv_lor hx hb dX1_keepTypes_130 ?_
                  refine lv_topl (fun z76 ez76 => ?_)
                  obtain rfl : z76 = ((qJ U81 (qO U81 (qO U81 16 9) 13) v81_1.toInt.toNat) ||| (a55 <<< (((4 : Int32) * v81_2).toInt64 &&& 63))) := ez76
                  obtain ⟨hv77, h⟩ := h
                  refine va_last hx hb hR.K hR.P hR.D hR.sS (qO U81 (qO U81 16 9) 13) 3 (hR.atL hT_b71 (by decide)) rfl (k_ix (x := v81_1) (a := v81_1.toInt) rfl hv77) dX1_keepTypes_131 (fun H locs hP hD hS => ?_)
                  have hTk9 : qT U81 (qO U81 (qO U81 16 9) 13) = 407 := hT_b71
                  have hR : RepC g ad81 A s (wJ U81 (qO U81 (qO U81 16 9) 13) v81_1.toInt.toNat ((qJ U81 (qO U81 (qO U81 16 9) 13) v81_1.toInt.toNat) ||| (a55 <<< (((4 : Int32) * v81_2).toInt64 &&& 63)))) H locs := hR.aL hT_b71 (by decide) hP hD hS
                  obtain ⟨S78, eS78⟩ : ∃ z, z = wJ U81 (qO U81 (qO U81 16 9) 13) v81_1.toInt.toNat ((qJ U81 (qO U81 (qO U81 16 9) 13) v81_1.toInt.toNat) ||| (a55 <<< (((4 : Int32) * v81_2).toInt64 &&& 63))) := ⟨_, rfl⟩
                  rw [← eS78] at hR
                  replace h := h S78 eS78 hTk9 hR.w
                  have hsh : shx S S78 := by rw [eS78]; exact hsh
                  have hlg : lgC S S78 (dc81) (ds81) := by rw [eS78]; exact hlg
                  refine lv_goto (tgt := 155) hx hb dX1_keepTypes_132 (by decide) ?_
                  exact J_155 ad81 (dc81) (ds81) S78 v81_1 v81_2 _ _ ls h  hsh hlg hak hE hR (lv_sub hl [1, 2, 3] rfl)
        obtain ⟨n9, h⟩ := h
        exact J_81 n9 ad50 (dc50) (ds50) S42 v50_1 0 _ _ ls h  hsh hlg hak hE hR (lv_sub hl [1, 2, 0] rfl)
  obtain ⟨n9, h⟩ := h
  exact J_50 n9 am27 (0 + 1 + 1 + 1) (0 + ((qI S (qO S 16 9) 2).toInt.toNat) + ((qI S10 (qO S10 16 9) 2).toInt.toNat) + ((qI S20 (qO S20 16 9) 2).toInt.toNat)) S30 0 _ _ ls h  hsh hlg hak hE hR (lv_sub hl [1, 0] rfl)
