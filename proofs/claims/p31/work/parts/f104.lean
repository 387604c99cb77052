def f_X5_fieldAt_J28 (S : MS) : Int64 := 0
def d_X5_fieldAt_J28 (S : MS) : Prop := True
def fX5_fieldAt (S : MS) (x1 : Int32) : Int64 := (if (qR S 44 0) = none then f_X5_fieldAt_J28 S else (if x1.toInt < 0 then f_X5_fieldAt_J28 S else (if (qI S (qO S 44 0) 4).toInt ≤ x1.toInt then f_X5_fieldAt_J28 S else (if x1.toInt < 24 then (qJ S 45 x1.toInt.toNat) else f_X5_fieldAt_J28 S))))
def d_X5_fieldAt (S : MS) (x1 : Int32) : Prop := (if (qR S 44 0) = none then d_X5_fieldAt_J28 S else (if x1.toInt < 0 then d_X5_fieldAt_J28 S else ((qR S 44 0 = some (qO S 44 0)) ∧ (if (qI S (qO S 44 0) 4).toInt ≤ x1.toInt then d_X5_fieldAt_J28 S else (if x1.toInt < 24 then (((0 : Int) ≤ x1.toInt ∧ x1.toInt < 24) ∧ True) else d_X5_fieldAt_J28 S)))))
set_option maxHeartbeats 2000000 in
set_option maxRecDepth 100000 in
theorem rX5_fieldAt (l : Launch) (g : Gr) (ad : Nat → Nat) (sz : Nat) (S : MS) (x1 : Int32) (hw : wfC S) (hd : d_X5_fieldAt S x1) : Met l yX5_fieldAt (wt yX5_fieldAt cX5_fieldAt 2 (some .long)) ({ frames := 0, cells := 0, slots := 0, locals := 0 }) (va_Pc [.ref (ad 44), .int x1] (st_C g ad sz S)) (va_Ql (fun (r : Int64) (_ : Unit) => r = fX5_fieldAt S x1) (fun (_ : Unit) (t : State) => qEC g ad (va_A (WdC g ad S) sz) S t) (va_A (WdC g ad S) sz)) 0 0 (va_A (WdC g ad S) sz) := by
  refine Met.ofW (cc := cX5_fieldAt) (maxL := 2) (ret := (some .long)) (by decide) rfl ?_
  intro p e s m args below meth c s₁ B hml hv
  obtain ⟨rfl, hsz, hP, hK, hD0, hex, hE⟩ := hv
  have hx := B.exec
  have hb := B.bytes
  have hr := B.returns
  have hts0 := atoms_spec (ws := wt yX5_fieldAt cX5_fieldAt 2 (some .long)) B.pre
  have hts : ∀ w ∈ tb, w.before _ s = true := fun w h => hts0 w (List.mem_cons_of_mem _ h)
  have hown : s.vm.findClass RX5 = some m.cls := findClass_of_methodNamed B.named
  subst hsz
  have hD := hD0.self (sz := s.heap.size)
  generalize hAe : va_A (WdC g ad S) s.heap.size = A at hD hE ⊢
  have hA : ∀ q : Nat, s.heap.size ≤ q → A q := fun q h => by rw [← hAe]; exact Or.inr h
  have hR : RepC g ad A s S s.heap [] := ⟨hK, hP, hD, va_S.rf, hw⟩
  clear hK hP hD hD0
  have hl := lv_entry ([.ref (ad 44), .int x1]) (n := 2) (Nat.le_of_ble_eq_true rfl)
  rw [lg_entry_eq]
  generalize (lg_sl ([.ref (ad 44), .int x1]) ++ List.replicate (2 - (lg_sl ([.ref (ad 44), .int x1])).length) Slot.unset).toArray = ls at hl ⊢
  have hl : lv_has ls 2 [(0, .ref (ad 44)), (1, .int x1)] := hl
  obtain ⟨r0, hf⟩ : ∃ r0, fX5_fieldAt S x1 = r0 := ⟨_, rfl⟩
  have hf0 := hf
  unfold fX5_fieldAt at hf
  unfold d_X5_fieldAt at hd
  refine lv_aload_n hx hb dX5_fieldAt_0 rfl (lv_at hl 0 rfl) ?_
  have hO_o1 : ∀ z, (qR S 44 0) = some z → qT S z = 49 := fun z q => hR.w.ref q (hR.w.2.1 _ finC_29).2.1
  refine va_get (D := rD g) (ci := 5) (v := vf ad (qR S 44 0)) (C := RX5) (T := TX5) (N := 20) hx hb hts inX5 hown hR.K hR.P 44 (hR.at45 (hR.w.2.1 _ finC_29).2.1) rfl 0 (by decide) (hts _ kw_1027) (fun _ h9 => h9) rfl dX5_fieldAt_1 ?_
  have J_28 : ∀ (H : Heap) (locs : List Loc) (ls : Array Slot), d_X5_fieldAt_J28 S → f_X5_fieldAt_J28 S = r0 → RepC g ad A s S H locs → lv_has ls 2 [] → W p l e (headSpec (wt yX5_fieldAt cX5_fieldAt 2 (some .long)) ({ frames := 0, cells := 0, slots := 0, locals := 0 })).room s m ([.ref (ad 44), .int x1] : List Value).toArray below meth c H locs 0 0 (MQ below (va_Ql (fun (r : Int64) (_ : Unit) => r = fX5_fieldAt S x1) (fun (_ : Unit) (t : State) => qEC g ad A S t) A) ([.ref (ad 44), .int x1] : List Value).toArray s 0 0 A) (F0 m 28 ls []) := by
    intro H locs ls hd hf hR hl
    unfold d_X5_fieldAt_J28 at hd
    unfold f_X5_fieldAt_J28 at hf
    refine lv_lconst (v := 0) hx hb dX5_fieldAt_28 (by decide) ?_
    refine lv_goto (tgt := 38) hx hb dX5_fieldAt_29 (by decide) ?_
    exact W.lret (v := 0) hx hb hr (fun t9 ht9 hW9 => ⟨⟨_, (), rfl, hf.trans hf0.symm, ⟨by rw [ht9]; exact hR.P, hR.D⟩⟩, hR.sS.F ht9⟩) hR.sS.2.2 dX5_fieldAt_38
  rcases hq_b2 : (qR S 44 0) with _ | b2
  · skip
    rw [if_pos (hq_b2)] at hf
    (try rw [if_pos (hq_b2)] at hd)
    refine lv_ifnullN (tgt := 28) hx hb dX5_fieldAt_4 (by decide) ?_
    exact J_28 _ _ ls hd hf  hR (lv_sub hl [] rfl)
  · have hg_b2 : b2 = ((qR S 44 0)).getD 0 := by rw [hq_b2]; rfl
    have hT_b2 : qT S (((qR S 44 0)).getD 0) = 49 := hg_b2 ▸ hO_o1 _ hq_b2
    subst hg_b2
    rw [if_neg (fun q9 => Option.some_ne_none _ (hq_b2.symm.trans q9))] at hf
    (try rw [if_neg (fun q9 => Option.some_ne_none _ (hq_b2.symm.trans q9))] at hd)
    refine lv_ifnull hx hb dX5_fieldAt_4 ?_
    refine lv_iload_n hx hb dX5_fieldAt_7 rfl (lv_at hl 1 rfl) ?_
    refine lv_if_lt (tgt := 28) hx hb dX5_fieldAt_8 (by decide) (fun c3 => ?_) (fun c3 => ?_)
    · rw [if_pos (k_lt rfl (by decide) c3)] at hf
      (try rw [if_pos (k_lt rfl (by decide) c3)] at hd)
      exact J_28 _ _ ls hd hf  hR (lv_sub hl [] rfl)
    · rw [if_neg (k_nlt rfl (by decide) c3)] at hf
      (try rw [if_neg (k_nlt rfl (by decide) c3)] at hd)
      refine lv_iload_n hx hb dX5_fieldAt_11 rfl (lv_at hl 1 rfl) ?_
      refine lv_aload_n hx hb dX5_fieldAt_12 rfl (lv_at hl 0 rfl) ?_
      obtain ⟨hv5, hd⟩ := hd
      have hT_b4 : qT S (qO S 44 0) = 49 := hR.w.ref hv5 (hR.w.2.1 _ finC_29).2.1
      refine va_get (D := rD g) (ci := 5) (v := .ref (ad (qO S 44 0))) (C := RX5) (T := TX5) (N := 20) hx hb hts inX5 hown hR.K hR.P 44 (hR.at45 (hR.w.2.1 _ finC_29).2.1) rfl 0 (by decide) (hts _ kw_1027) (fun _ h9 => h9) (congrArg (fun z => some (vf ad z)) hv5) dX5_fieldAt_13 ?_
      refine va_get (D := rD g) (ci := 9) (v := .int (qI S (qO S 44 0) 4)) (C := RX10) (T := TX10) (N := 18) hx hb hts inX10 hown hR.K hR.P (qO S 44 0) (hR.at49 hT_b4) rfl 4 (by decide) (hts _ kw_1053) (fun _ h9 => h9) rfl dX5_fieldAt_16 ?_
      refine lv_icmp_ge (tgt := 28) hx hb dX5_fieldAt_19 (by decide) (fun c6 => ?_) (fun c6 => ?_)
      · rw [if_pos (k_le rfl rfl c6)] at hf
        (try rw [if_pos (k_le rfl rfl c6)] at hd)
        exact J_28 _ _ ls hd hf  hR (lv_sub hl [] rfl)
      · rw [if_neg (k_nle rfl rfl c6)] at hf
        (try rw [if_neg (k_nle rfl rfl c6)] at hd)
        refine lv_iload_n hx hb dX5_fieldAt_22 rfl (lv_at hl 1 rfl) ?_
        refine lv_bipush (v := 24) hx hb dX5_fieldAt_23 (by decide) ?_
        refine lv_icmp_lt (tgt := 32) hx hb dX5_fieldAt_25 (by decide) (fun c7 => ?_) (fun c7 => ?_)
        · rw [if_pos (k_lt rfl (by decide) c7)] at hf
          (try rw [if_pos (k_lt rfl (by decide) c7)] at hd)
          refine lv_aload_n hx hb dX5_fieldAt_32 rfl (lv_at hl 0 rfl) ?_
          refine va_get (D := rD g) (ci := 5) (v := .ref (ad 45)) (C := RX5) (T := TX5) (N := 20) hx hb hts inX5 hown hR.K hR.P 44 (hR.at45 (hR.w.2.1 _ finC_29).2.1) rfl 1 (by decide) (hts _ kw_1054) (fun _ h9 => h9) (congrArg (fun z => some (vf ad z)) (hR.w.2.1 _ finC_4).1) dX5_fieldAt_33 ?_
          refine lv_iload_n hx hb dX5_fieldAt_36 rfl (lv_at hl 1 rfl) ?_
          obtain ⟨hv8, hd⟩ := hd
          refine va_lald hx hb hR.K hR.P 45 3 (hR.atL (hR.w.2.1 _ finC_4).2.1 (by decide)) rfl (k_ixN (k_ix (n := 24) (x := x1) (a := x1.toInt) rfl hv8) (hR.w.2.1 _ finC_4).2.2) dX5_fieldAt_37 ?_
          refine lv_topl (fun z9 ez9 => ?_)
          obtain rfl : z9 = (qJ S 45 x1.toInt.toNat) := ez9
          exact W.lret (v := (qJ S 45 x1.toInt.toNat)) hx hb hr (fun t9 ht9 hW9 => ⟨⟨_, (), rfl, hf.trans hf0.symm, ⟨by rw [ht9]; exact hR.P, hR.D⟩⟩, hR.sS.F ht9⟩) hR.sS.2.2 dX5_fieldAt_38
        · rw [if_neg (k_nlt rfl (by decide) c7)] at hf
          (try rw [if_neg (k_nlt rfl (by decide) c7)] at hd)
          exact J_28 _ _ ls hd hf  hR (lv_sub hl [] rfl)
def f_X5_isArray_J20 (S : MS) : Int32 := (0 : Int32)
def d_X5_isArray_J20 (S : MS) : Prop := True
def fX5_isArray (S : MS) (y1 : Int64) : Int32 := (if (lg_cmp y1 1).toInt < 0 then f_X5_isArray_J20 S else (if 0 < (lg_cmp y1 ((qI S 44 5).toInt64)).toInt then f_X5_isArray_J20 S else (1 : Int32)))
def d_X5_isArray (S : MS) (y1 : Int64) : Prop := (if (lg_cmp y1 1).toInt < 0 then d_X5_isArray_J20 S else (if 0 < (lg_cmp y1 ((qI S 44 5).toInt64)).toInt then d_X5_isArray_J20 S else True))
set_option maxHeartbeats 2000000 in
set_option maxRecDepth 100000 in
theorem rX5_isArray (l : Launch) (g : Gr) (ad : Nat → Nat) (sz : Nat) (S : MS) (y1 : Int64) (hw : wfC S) (hd : d_X5_isArray S y1) : Met l yX5_isArray (wt yX5_isArray cX5_isArray 3 (some .boolean)) ({ frames := 0, cells := 0, slots := 0, locals := 0 }) (va_Pc [.ref (ad 44), .long y1] (st_C g ad sz S)) (va_Qi (fun (r : Int32) (_ : Unit) => r = fX5_isArray S y1 ∧ (r = 0 ∨ r = 1)) (fun (_ : Unit) (t : State) => qEC g ad (va_A (WdC g ad S) sz) S t) (va_A (WdC g ad S) sz)) 0 0 (va_A (WdC g ad S) sz) := by
  refine Met.ofW (cc := cX5_isArray) (maxL := 3) (ret := (some .boolean)) (by decide) rfl ?_
  intro p e s m args below meth c s₁ B hml hv
  obtain ⟨rfl, hsz, hP, hK, hD0, hex, hE⟩ := hv
  have hx := B.exec
  have hb := B.bytes
  have hr := B.returns
  have hts0 := atoms_spec (ws := wt yX5_isArray cX5_isArray 3 (some .boolean)) B.pre
  have hts : ∀ w ∈ tb, w.before _ s = true := fun w h => hts0 w (List.mem_cons_of_mem _ h)
  have hown : s.vm.findClass RX5 = some m.cls := findClass_of_methodNamed B.named
  subst hsz
  have hD := hD0.self (sz := s.heap.size)
  generalize hAe : va_A (WdC g ad S) s.heap.size = A at hD hE ⊢
  have hA : ∀ q : Nat, s.heap.size ≤ q → A q := fun q h => by rw [← hAe]; exact Or.inr h
  have hR : RepC g ad A s S s.heap [] := ⟨hK, hP, hD, va_S.rf, hw⟩
  clear hK hP hD hD0
  have hl := lv_entry ([.ref (ad 44), .long y1]) (n := 3) (Nat.le_of_ble_eq_true rfl)
  rw [lg_entry_eq]
  generalize (lg_sl ([.ref (ad 44), .long y1]) ++ List.replicate (3 - (lg_sl ([.ref (ad 44), .long y1])).length) Slot.unset).toArray = ls at hl ⊢
  have hl : lv_has ls 3 [(0, .ref (ad 44)), (1, .long y1)] := hl
  obtain ⟨r0, hf⟩ : ∃ r0, fX5_isArray S y1 = r0 := ⟨_, rfl⟩
  have hf0 := hf
  unfold fX5_isArray at hf
  unfold d_X5_isArray at hd
  refine lv_lload_n hx hb dX5_isArray_0 rfl (lv_at hl 1 rfl) ?_
  refine lv_lconst (v := 1) hx hb dX5_isArray_1 (by decide) ?_
  refine W.lcmp hx hb dX5_isArray_2 ?_
  refine lv_topi (fun z1 ez1 => ?_)
  obtain rfl : z1 = (lg_cmp y1 1) := ez1
  have J_20 : ∀ (H : Heap) (locs : List Loc) (ls : Array Slot), d_X5_isArray_J20 S → f_X5_isArray_J20 S = r0 → RepC g ad A s S H locs → lv_has ls 3 [] → W p l e (headSpec (wt yX5_isArray cX5_isArray 3 (some .boolean)) ({ frames := 0, cells := 0, slots := 0, locals := 0 })).room s m ([.ref (ad 44), .long y1] : List Value).toArray below meth c H locs 0 0 (MQ below (va_Qi (fun (r : Int32) (_ : Unit) => r = fX5_isArray S y1 ∧ (r = 0 ∨ r = 1)) (fun (_ : Unit) (t : State) => qEC g ad A S t) A) ([.ref (ad 44), .long y1] : List Value).toArray s 0 0 A) (F0 m 20 ls []) := by
    intro H locs ls hd hf hR hl
    unfold d_X5_isArray_J20 at hd
    unfold f_X5_isArray_J20 at hf
    refine lv_iconst (v := 0) hx hb dX5_isArray_20 (by decide) ?_
    exact W.zret (v := 0) hx hb hr (nz (Or.inl rfl)) (fun t9 ht9 hW9 => ⟨⟨_, (), rfl, ⟨hf.trans hf0.symm, (Or.inl rfl)⟩, ⟨by rw [ht9]; exact hR.P, hR.D⟩⟩, hR.sS.F ht9⟩) hR.sS.2.2 dX5_isArray_21
  refine lv_if_lt (tgt := 20) hx hb dX5_isArray_3 (by decide) (fun c2 => ?_) (fun c2 => ?_)
  · rw [if_pos (k_lt rfl (by decide) c2)] at hf
    (try rw [if_pos (k_lt rfl (by decide) c2)] at hd)
    exact J_20 _ _ ls hd hf  hR (lv_sub hl [] rfl)
  · rw [if_neg (k_nlt rfl (by decide) c2)] at hf
    (try rw [if_neg (k_nlt rfl (by decide) c2)] at hd)
    refine lv_lload_n hx hb dX5_isArray_6 rfl (lv_at hl 1 rfl) ?_
    refine lv_aload_n hx hb dX5_isArray_7 rfl (lv_at hl 0 rfl) ?_
    refine va_get (D := rD g) (ci := 5) (v := .int (qI S 44 5)) (C := RX5) (T := TX5) (N := 20) hx hb hts inX5 hown hR.K hR.P 44 (hR.at45 (hR.w.2.1 _ finC_29).2.1) rfl 5 (by decide) (hts _ kw_1008) (fun _ h9 => h9) rfl dX5_isArray_8 ?_
    refine lv_i2l (v := ((qI S 44 5).toInt64)) hx hb dX5_isArray_11 rfl ?_
    refine W.lcmp hx hb dX5_isArray_12 ?_
    refine lv_topi (fun z3 ez3 => ?_)
    obtain rfl : z3 = (lg_cmp y1 ((qI S 44 5).toInt64)) := ez3
    refine lv_if_gt (tgt := 20) hx hb dX5_isArray_13 (by decide) (fun c4 => ?_) (fun c4 => ?_)
    · rw [if_pos (k_lt (by decide) rfl c4)] at hf
      (try rw [if_pos (k_lt (by decide) rfl c4)] at hd)
      exact J_20 _ _ ls hd hf  hR (lv_sub hl [] rfl)
    · rw [if_neg (k_nlt (by decide) rfl c4)] at hf
      (try rw [if_neg (k_nlt (by decide) rfl c4)] at hd)
      refine lv_iconst (v := 1) hx hb dX5_isArray_16 (by decide) ?_
      refine lv_goto (tgt := 21) hx hb dX5_isArray_17 (by decide) ?_
      exact W.zret (v := 1) hx hb hr (nz (Or.inr rfl)) (fun t9 ht9 hW9 => ⟨⟨_, (), rfl, ⟨hf.trans hf0.symm, (Or.inr rfl)⟩, ⟨by rw [ht9]; exact hR.P, hR.D⟩⟩, hR.sS.F ht9⟩) hR.sS.2.2 dX5_isArray_21
def f_X5_arrayStart_J26 (S : MS) : Int32 := (0 : Int32)
def d_X5_arrayStart_J26 (S : MS) : Prop := True
def fX5_arrayStart (S : MS) (x1 : Int32) : Int32 := (if x1.toInt ≤ (qI S 44 5).toInt then (if x1.toInt < 0 then f_X5_arrayStart_J26 S else (if x1.toInt < (qN S (qO S 44 4) : Int) then (qI S (qO S 44 4) x1.toInt.toNat) else f_X5_arrayStart_J26 S)) else (qI S 44 3))
def d_X5_arrayStart (S : MS) (x1 : Int32) : Prop := (if x1.toInt ≤ (qI S 44 5).toInt then (if x1.toInt < 0 then d_X5_arrayStart_J26 S else (if x1.toInt < (qN S (qO S 44 4) : Int) then (((0 : Int) ≤ x1.toInt ∧ x1.toInt < (qN S (qO S 44 4) : Int)) ∧ True) else d_X5_arrayStart_J26 S)) else True)
set_option maxHeartbeats 2000000 in
set_option maxRecDepth 100000 in
theorem rX5_arrayStart (l : Launch) (g : Gr) (ad : Nat → Nat) (sz : Nat) (S : MS) (x1 : Int32) (hw : wfC S) (hd : d_X5_arrayStart S x1) : Met l yX5_arrayStart (wt yX5_arrayStart cX5_arrayStart 2 (some .int)) ({ frames := 0, cells := 0, slots := 0, locals := 0 }) (va_Pc [.ref (ad 44), .int x1] (st_C g ad sz S)) (va_Qi (fun (r : Int32) (_ : Unit) => r = fX5_arrayStart S x1) (fun (_ : Unit) (t : State) => qEC g ad (va_A (WdC g ad S) sz) S t) (va_A (WdC g ad S) sz)) 0 0 (va_A (WdC g ad S) sz) := by
  refine Met.ofW (cc := cX5_arrayStart) (maxL := 2) (ret := (some .int)) (by decide) rfl ?_
  intro p e s m args below meth c s₁ B hml hv
  obtain ⟨rfl, hsz, hP, hK, hD0, hex, hE⟩ := hv
  have hx := B.exec
  have hb := B.bytes
  have hr := B.returns
  have hts0 := atoms_spec (ws := wt yX5_arrayStart cX5_arrayStart 2 (some .int)) B.pre
  have hts : ∀ w ∈ tb, w.before _ s = true := fun w h => hts0 w (List.mem_cons_of_mem _ h)
  have hown : s.vm.findClass RX5 = some m.cls := findClass_of_methodNamed B.named
  subst hsz
  have hD := hD0.self (sz := s.heap.size)
  generalize hAe : va_A (WdC g ad S) s.heap.size = A at hD hE ⊢
  have hA : ∀ q : Nat, s.heap.size ≤ q → A q := fun q h => by rw [← hAe]; exact Or.inr h
  have hR : RepC g ad A s S s.heap [] := ⟨hK, hP, hD, va_S.rf, hw⟩
  clear hK hP hD hD0
  have hl := lv_entry ([.ref (ad 44), .int x1]) (n := 2) (Nat.le_of_ble_eq_true rfl)
  rw [lg_entry_eq]
  generalize (lg_sl ([.ref (ad 44), .int x1]) ++ List.replicate (2 - (lg_sl ([.ref (ad 44), .int x1])).length) Slot.unset).toArray = ls at hl ⊢
  have hl : lv_has ls 2 [(0, .ref (ad 44)), (1, .int x1)] := hl
  obtain ⟨r0, hf⟩ : ∃ r0, fX5_arrayStart S x1 = r0 := ⟨_, rfl⟩
  have hf0 := hf
  unfold fX5_arrayStart at hf
  unfold d_X5_arrayStart at hd
  refine lv_iload_n hx hb dX5_arrayStart_0 rfl (lv_at hl 1 rfl) ?_
  refine lv_aload_n hx hb dX5_arrayStart_1 rfl (lv_at hl 0 rfl) ?_
  refine va_get (D := rD g) (ci := 5) (v := .int (qI S 44 5)) (C := RX5) (T := TX5) (N := 20) hx hb hts inX5 hown hR.K hR.P 44 (hR.at45 (hR.w.2.1 _ finC_29).2.1) rfl 5 (by decide) (hts _ kw_1008) (fun _ h9 => h9) rfl dX5_arrayStart_2 ?_
  refine lv_icmp_le (tgt := 13) hx hb dX5_arrayStart_5 (by decide) (fun c1 => ?_) (fun c1 => ?_)
  · rw [if_pos (k_le rfl rfl c1)] at hf
    (try rw [if_pos (k_le rfl rfl c1)] at hd)
    refine lv_iload_n hx hb dX5_arrayStart_13 rfl (lv_at hl 1 rfl) ?_
    have J_26 : ∀ (H : Heap) (locs : List Loc) (ls : Array Slot), d_X5_arrayStart_J26 S → f_X5_arrayStart_J26 S = r0 → RepC g ad A s S H locs → lv_has ls 2 [] → W p l e (headSpec (wt yX5_arrayStart cX5_arrayStart 2 (some .int)) ({ frames := 0, cells := 0, slots := 0, locals := 0 })).room s m ([.ref (ad 44), .int x1] : List Value).toArray below meth c H locs 0 0 (MQ below (va_Qi (fun (r : Int32) (_ : Unit) => r = fX5_arrayStart S x1) (fun (_ : Unit) (t : State) => qEC g ad A S t) A) ([.ref (ad 44), .int x1] : List Value).toArray s 0 0 A) (F0 m 26 ls []) := by
      intro H locs ls hd hf hR hl
      unfold d_X5_arrayStart_J26 at hd
      unfold f_X5_arrayStart_J26 at hf
      refine lv_iconst (v := 0) hx hb dX5_arrayStart_26 (by decide) ?_
      refine lv_goto (tgt := 36) hx hb dX5_arrayStart_27 (by decide) ?_
      exact W.iret (v := 0) hx hb hr (fun t9 ht9 hW9 => ⟨⟨_, (), rfl, hf.trans hf0.symm, ⟨by rw [ht9]; exact hR.P, hR.D⟩⟩, hR.sS.F ht9⟩) hR.sS.2.2 dX5_arrayStart_36
    refine lv_if_lt (tgt := 26) hx hb dX5_arrayStart_14 (by decide) (fun c2 => ?_) (fun c2 => ?_)
    · rw [if_pos (k_lt rfl (by decide) c2)] at hf
      (try rw [if_pos (k_lt rfl (by decide) c2)] at hd)
      exact J_26 _ _ ls hd hf  hR (lv_sub hl [] rfl)
    · rw [if_neg (k_nlt rfl (by decide) c2)] at hf
      (try rw [if_neg (k_nlt rfl (by decide) c2)] at hd)
      refine lv_iload_n hx hb dX5_arrayStart_17 rfl (lv_at hl 1 rfl) ?_
      refine lv_aload_n hx hb dX5_arrayStart_18 rfl (lv_at hl 0 rfl) ?_
      have hT_b3 : qT S (qO S 44 4) = 216 := hR.w.ref (hR.w.ptr ptrC_19) (hR.w.2.1 _ finC_29).2.1
      refine va_get (D := rD g) (ci := 5) (v := .ref (ad (qO S 44 4))) (C := RX5) (T := TX5) (N := 20) hx hb hts inX5 hown hR.K hR.P 44 (hR.at45 (hR.w.2.1 _ finC_29).2.1) rfl 4 (by decide) (hts _ kw_1010) (fun _ h9 => h9) (congrArg (fun z => some (vf ad z)) (hR.w.ptr ptrC_19)) dX5_arrayStart_19 ?_
      refine va_alen (v := (Int32.ofNat (qN S (qO S 44 4)))) hx hb hR.K hR.P (qO S 44 4) 1 (hR.atI hT_b3 (by decide)) rfl rfl dX5_arrayStart_22 ?_
      have hln4 : (Int32.ofNat (qN S (qO S 44 4))).toInt = (qN S (qO S 44 4) : Int) := toI_len (hR.w.len9 (hT_b3) (by decide))
      refine lv_icmp_lt (tgt := 30) hx hb dX5_arrayStart_23 (by decide) (fun c5 => ?_) (fun c5 => ?_)
      · rw [if_pos (k_lt rfl hln4 c5)] at hf
        (try rw [if_pos (k_lt rfl hln4 c5)] at hd)
        refine lv_aload_n hx hb dX5_arrayStart_30 rfl (lv_at hl 0 rfl) ?_
        have hT_b6 : qT S (qO S 44 4) = 216 := hR.w.ref (hR.w.ptr ptrC_19) (hR.w.2.1 _ finC_29).2.1
        refine va_get (D := rD g) (ci := 5) (v := .ref (ad (qO S 44 4))) (C := RX5) (T := TX5) (N := 20) hx hb hts inX5 hown hR.K hR.P 44 (hR.at45 (hR.w.2.1 _ finC_29).2.1) rfl 4 (by decide) (hts _ kw_1010) (fun _ h9 => h9) (congrArg (fun z => some (vf ad z)) (hR.w.ptr ptrC_19)) dX5_arrayStart_31 ?_
        refine lv_iload_n hx hb dX5_arrayStart_34 rfl (lv_at hl 1 rfl) ?_
        obtain ⟨hv7, hd⟩ := hd
        refine va_iald hx hb hR.K hR.P (qO S 44 4) 1 (hR.atI hT_b6 (by decide)) rfl (k_ix (x := x1) (a := x1.toInt) rfl hv7) dX5_arrayStart_35 ?_
        refine lv_topi (fun z8 ez8 => ?_)
        obtain rfl : z8 = (qI S (qO S 44 4) x1.toInt.toNat) := ez8
        exact W.iret (v := (qI S (qO S 44 4) x1.toInt.toNat)) hx hb hr (fun t9 ht9 hW9 => ⟨⟨_, (), rfl, hf.trans hf0.symm, ⟨by rw [ht9]; exact hR.P, hR.D⟩⟩, hR.sS.F ht9⟩) hR.sS.2.2 dX5_arrayStart_36
      · rw [if_neg (k_nlt rfl hln4 c5)] at hf
        (try rw [if_neg (k_nlt rfl hln4 c5)] at hd)
        exact J_26 _ _ ls hd hf  hR (lv_sub hl [] rfl)
  · rw [if_neg (k_nle rfl rfl c1)] at hf
    (try rw [if_neg (k_nle rfl rfl c1)] at hd)
    refine lv_aload_n hx hb dX5_arrayStart_8 rfl (lv_at hl 0 rfl) ?_
    refine va_get (D := rD g) (ci := 5) (v := .int (qI S 44 3)) (C := RX5) (T := TX5) (N := 20) hx hb hts inX5 hown hR.K hR.P 44 (hR.at45 (hR.w.2.1 _ finC_29).2.1) rfl 3 (by decide) (hts _ kw_1009) (fun _ h9 => h9) rfl dX5_arrayStart_9 ?_
    exact W.iret (v := (qI S 44 3)) hx hb hr (fun t9 ht9 hW9 => ⟨⟨_, (), rfl, hf.trans hf0.symm, ⟨by rw [ht9]; exact hR.P, hR.D⟩⟩, hR.sS.F ht9⟩) hR.sS.2.2 dX5_arrayStart_12
def w_X5_heapAt_J21 (Q : Int32 → MS → Prop) (U21 : MS) : Prop := (wfC U21 → (∀ S2, S2 = wI U21 44 19 ((qI U21 44 19) + (1 : Int32)) → qT U21 44 = 45 → wfC S2 → Q (0 : Int32) S2))
def wX5_heapAt (S : MS) (x1 : Int32) (Q : Int32 → MS → Prop) : Prop := ((x1.toInt < 0 → w_X5_heapAt_J21 Q S) ∧ (¬ x1.toInt < 0 → (((qI S 44 3).toInt ≤ x1.toInt → w_X5_heapAt_J21 Q S) ∧ (¬ (qI S 44 3).toInt ≤ x1.toInt → ((x1.toInt < (qN S (qO S 44 2) : Int) → (((0 : Int) ≤ x1.toInt ∧ x1.toInt < (qN S (qO S 44 2) : Int)) ∧ Q (qI S (qO S 44 2) x1.toInt.toNat) S)) ∧ (¬ x1.toInt < (qN S (qO S 44 2) : Int) → w_X5_heapAt_J21 Q S))))))
set_option maxHeartbeats 2000000 in
set_option maxRecDepth 100000 in
theorem rX5_heapAt (l : Launch) (g : Gr) (ad : Nat → Nat) (sz : Nat) (S : MS) (x1 : Int32) (hw : wfC S) (Q : Int32 → MS → Prop) (h : wX5_heapAt S x1 Q) : Met l yX5_heapAt (wt yX5_heapAt cX5_heapAt 2 (some .int)) ({ frames := 0, cells := 0, slots := 0, locals := 0 }) (va_Pc [.ref (ad 44), .int x1] (st_C g ad sz S)) (va_Qi (fun (r : Int32) (u : MS) => Q r u ∧ wfC u ∧ shy S u) (fun (u : MS) (t : State) => qEC g ad (va_A (WdC g ad S) sz) u t) (va_A (WdC g ad S) sz)) 0 0 (va_A (WdC g ad S) sz) := by
  refine Met.ofW (cc := cX5_heapAt) (maxL := 2) (ret := (some .int)) (by decide) rfl ?_
  intro p e s m args below meth c s₁ B hml hv
  obtain ⟨rfl, hsz, hP, hK, hD0, hex, hE⟩ := hv
  have hx := B.exec
  have hb := B.bytes
  have hr := B.returns
  have hts0 := atoms_spec (ws := wt yX5_heapAt cX5_heapAt 2 (some .int)) B.pre
  have hts : ∀ w ∈ tb, w.before _ s = true := fun w h => hts0 w (List.mem_cons_of_mem _ h)
  have hown : s.vm.findClass RX5 = some m.cls := findClass_of_methodNamed B.named
  subst hsz
  have hD := hD0.self (sz := s.heap.size)
  generalize hAe : va_A (WdC g ad S) s.heap.size = A at hD hE ⊢
  have hA : ∀ q : Nat, s.heap.size ≤ q → A q := fun q h => by rw [← hAe]; exact Or.inr h
  have hR : RepC g ad A s S s.heap [] := ⟨hK, hP, hD, va_S.rf, hw⟩
  clear hK hP hD hD0
  have hl := lv_entry ([.ref (ad 44), .int x1]) (n := 2) (Nat.le_of_ble_eq_true rfl)
  rw [lg_entry_eq]
  generalize (lg_sl ([.ref (ad 44), .int x1]) ++ List.replicate (2 - (lg_sl ([.ref (ad 44), .int x1])).length) Slot.unset).toArray = ls at hl ⊢
  have hl : lv_has ls 2 [(0, .ref (ad 44)), (1, .int x1)] := hl
  have hsh : shy S S := shy.rf
  unfold wX5_heapAt at h
  refine lv_iload_n hx hb dX5_heapAt_0 rfl (lv_at hl 1 rfl) ?_
  have J_21 : ∀ (U21 : MS) (H : Heap) (locs : List Loc) (ls : Array Slot), w_X5_heapAt_J21 Q U21 → shy S U21 → RepC g ad A s U21 H locs → lv_has ls 2 [(0, .ref (ad 44))] → W p l e (headSpec (wt yX5_heapAt cX5_heapAt 2 (some .int)) ({ frames := 0, cells := 0, slots := 0, locals := 0 })).room s m ([.ref (ad 44), .int x1] : List Value).toArray below meth c H locs 0 0 (MQ below (va_Qi (fun (r : Int32) (u : MS) => Q r u ∧ wfC u ∧ shy S u) (fun (u : MS) (t : State) => qEC g ad A u t) A) ([.ref (ad 44), .int x1] : List Value).toArray s 0 0 A) (F0 m 21 ls []) := by
    intro U21 H locs ls h hsh hR hl
    unfold w_X5_heapAt_J21 at h
    replace h := h hR.w
    refine lv_aload_n hx hb dX5_heapAt_21 rfl (lv_at hl 0 rfl) ?_
    refine lv_dup hx hb dX5_heapAt_22 rfl ?_
    refine va_get (D := rD g) (ci := 5) (v := .int (qI U21 44 19)) (C := RX5) (T := TX5) (N := 20) hx hb hts inX5 hown hR.K hR.P 44 (hR.at45 (hR.w.2.1 _ finC_29).2.1) rfl 19 (by decide) (hts _ kw_1045) (fun _ h9 => h9) rfl dX5_heapAt_23 ?_
    refine lv_iconst (v := 1) hx hb dX5_heapAt_26 (by decide) ?_
    refine lv_iadd hx hb dX5_heapAt_27 ?_
    refine lv_topi (fun z1 ez1 => ?_)
    obtain rfl : z1 = ((qI U21 44 19) + (1 : Int32)) := ez1
    refine va_put (D := rD g) (ci := 5) (v := .int ((qI U21 44 19) + (1 : Int32))) (ty := .int) (C := RX5) (T := TX5) (N := 20) hx hb hts inX5 tyX5 tyX5_ok nmX5 hown hR.K hR.P hR.D hR.sS 44 (hR.at45 (hR.w.2.1 _ finC_29).2.1) rfl 19 (by decide) (hts _ kw_1045) (fun _ h9 => h9) rfl (by decide +kernel) rfl rfl (Nat.le_of_ble_eq_true rfl) dX5_heapAt_28 (fun H locs hP hD hS => ?_)
    have hTk9 : qT U21 44 = 45 := (hR.w.2.1 _ finC_29).2.1
    have hR : RepC g ad A s (wI U21 44 19 ((qI U21 44 19) + (1 : Int32))) H locs := hR.pI45 (hR.w.2.1 _ finC_29).2.1 FX5_s19 (fun q9 => absurd q9 (by decide)) hP hD hS
    obtain ⟨S2, eS2⟩ : ∃ z, z = wI U21 44 19 ((qI U21 44 19) + (1 : Int32)) := ⟨_, rfl⟩
    rw [← eS2] at hR
    replace h := h S2 eS2 hTk9 hR.w
    have hsh : shy S S2 := by rw [eS2]; exact hsh
    refine lv_iconst (v := 0) hx hb dX5_heapAt_31 (by decide) ?_
    exact W.iret (v := 0) hx hb hr (fun t9 ht9 hW9 => ⟨⟨_, S2, rfl, ⟨h, hR.w, hsh⟩, ⟨by rw [ht9]; exact hR.P, hR.D⟩⟩, hR.sS.F ht9⟩) hR.sS.2.2 dX5_heapAt_32
  refine lv_if_lt (tgt := 21) hx hb dX5_heapAt_1 (by decide) (fun c3 => ?_) (fun c3 => ?_)
  · replace h := h.1 (k_lt rfl (by decide) c3)
    exact J_21 S _ _ ls h  hsh hR (lv_sub hl [0] rfl)
  · replace h := h.2 (k_nlt rfl (by decide) c3)
    refine lv_iload_n hx hb dX5_heapAt_4 rfl (lv_at hl 1 rfl) ?_
    refine lv_aload_n hx hb dX5_heapAt_5 rfl (lv_at hl 0 rfl) ?_
    refine va_get (D := rD g) (ci := 5) (v := .int (qI S 44 3)) (C := RX5) (T := TX5) (N := 20) hx hb hts inX5 hown hR.K hR.P 44 (hR.at45 (hR.w.2.1 _ finC_29).2.1) rfl 3 (by decide) (hts _ kw_1009) (fun _ h9 => h9) rfl dX5_heapAt_6 ?_
    refine lv_icmp_ge (tgt := 21) hx hb dX5_heapAt_9 (by decide) (fun c4 => ?_) (fun c4 => ?_)
    · replace h := h.1 (k_le rfl rfl c4)
      exact J_21 S _ _ ls h  hsh hR (lv_sub hl [0] rfl)
    · replace h := h.2 (k_nle rfl rfl c4)
      refine lv_iload_n hx hb dX5_heapAt_12 rfl (lv_at hl 1 rfl) ?_
      refine lv_aload_n hx hb dX5_heapAt_13 rfl (lv_at hl 0 rfl) ?_
      have hT_b5 : qT S (qO S 44 2) = 215 := hR.w.ref (hR.w.ptr ptrC_18) (hR.w.2.1 _ finC_29).2.1
      refine va_get (D := rD g) (ci := 5) (v := .ref (ad (qO S 44 2))) (C := RX5) (T := TX5) (N := 20) hx hb hts inX5 hown hR.K hR.P 44 (hR.at45 (hR.w.2.1 _ finC_29).2.1) rfl 2 (by decide) (hts _ kw_1069) (fun _ h9 => h9) (congrArg (fun z => some (vf ad z)) (hR.w.ptr ptrC_18)) dX5_heapAt_14 ?_
      refine va_alen (v := (Int32.ofNat (qN S (qO S 44 2)))) hx hb hR.K hR.P (qO S 44 2) 1 (hR.atI hT_b5 (by decide)) rfl rfl dX5_heapAt_17 ?_
      have hln6 : (Int32.ofNat (qN S (qO S 44 2))).toInt = (qN S (qO S 44 2) : Int) := toI_len (hR.w.len9 (hT_b5) (by decide))
      refine lv_icmp_lt (tgt := 33) hx hb dX5_heapAt_18 (by decide) (fun c7 => ?_) (fun c7 => ?_)
      · replace h := h.1 (k_lt rfl hln6 c7)
        refine lv_aload_n hx hb dX5_heapAt_33 rfl (lv_at hl 0 rfl) ?_
        have hT_b8 : qT S (qO S 44 2) = 215 := hR.w.ref (hR.w.ptr ptrC_18) (hR.w.2.1 _ finC_29).2.1
        refine va_get (D := rD g) (ci := 5) (v := .ref (ad (qO S 44 2))) (C := RX5) (T := TX5) (N := 20) hx hb hts inX5 hown hR.K hR.P 44 (hR.at45 (hR.w.2.1 _ finC_29).2.1) rfl 2 (by decide) (hts _ kw_1069) (fun _ h9 => h9) (congrArg (fun z => some (vf ad z)) (hR.w.ptr ptrC_18)) dX5_heapAt_34 ?_
        refine lv_iload_n hx hb dX5_heapAt_37 rfl (lv_at hl 1 rfl) ?_
        obtain ⟨hv9, h⟩ := h
        refine va_iald hx hb hR.K hR.P (qO S 44 2) 1 (hR.atI hT_b8 (by decide)) rfl (k_ix (x := x1) (a := x1.toInt) rfl hv9) dX5_heapAt_38 ?_
        refine lv_topi (fun z10 ez10 => ?_)
        obtain rfl : z10 = (qI S (qO S 44 2) x1.toInt.toNat) := ez10
        exact W.iret (v := (qI S (qO S 44 2) x1.toInt.toNat)) hx hb hr (fun t9 ht9 hW9 => ⟨⟨_, S, rfl, ⟨h, hR.w, hsh⟩, ⟨by rw [ht9]; exact hR.P, hR.D⟩⟩, hR.sS.F ht9⟩) hR.sS.2.2 dX5_heapAt_39
      · replace h := h.2 (k_nlt rfl hln6 c7)
        exact J_21 S _ _ ls h  hsh hR (lv_sub hl [0] rfl)
def wX5_setFrame (S : MS) (x1 : Int32) (x2 : Int32) (Q : MS → Prop) : Prop := (((qI S 44 11).toInt < 0 → Q S) ∧ (¬ (qI S 44 11).toInt < 0 → ((60 ≤ (qI S 44 11).toInt → Q S) ∧ (¬ 60 ≤ (qI S 44 11).toInt → (((0 : Int) ≤ (((3 : Int32) * (qI S 44 11)) + x1).toInt ∧ (((3 : Int32) * (qI S 44 11)) + x1).toInt < 180) ∧ (∀ S6, S6 = wI S 51 (((((3 : Int32) * (qI S 44 11)) + x1).toInt).toNat) x2 → qT S 51 = 217 → wfC S6 → Q S6))))))
set_option maxHeartbeats 2000000 in
set_option maxRecDepth 100000 in
theorem rX5_setFrame (l : Launch) (g : Gr) (ad : Nat → Nat) (sz : Nat) (S : MS) (x1 : Int32) (x2 : Int32) (hw : wfC S) (Q : MS → Prop) (h : wX5_setFrame S x1 x2 Q) : Met l yX5_setFrame (wt yX5_setFrame cX5_setFrame 3 none) ({ frames := 0, cells := 0, slots := 0, locals := 0 }) (va_Pc [.ref (ad 44), .int x1, .int x2] (st_C g ad sz S)) (va_Qv (fun (u : MS) => Q u ∧ wfC u ∧ shy S u) (fun (u : MS) (t : State) => qEC g ad (va_A (WdC g ad S) sz) u t) (va_A (WdC g ad S) sz)) 0 0 (va_A (WdC g ad S) sz) := by
  refine Met.ofW (cc := cX5_setFrame) (maxL := 3) (ret := none) (by decide) rfl ?_
  intro p e s m args below meth c s₁ B hml hv
  obtain ⟨rfl, hsz, hP, hK, hD0, hex, hE⟩ := hv
  have hx := B.exec
  have hb := B.bytes
  have hr := B.returns
  have hts0 := atoms_spec (ws := wt yX5_setFrame cX5_setFrame 3 none) B.pre
  have hts : ∀ w ∈ tb, w.before _ s = true := fun w h => hts0 w (List.mem_cons_of_mem _ h)
  have hown : s.vm.findClass RX5 = some m.cls := findClass_of_methodNamed B.named
  subst hsz
  have hD := hD0.self (sz := s.heap.size)
  generalize hAe : va_A (WdC g ad S) s.heap.size = A at hD hE ⊢
  have hA : ∀ q : Nat, s.heap.size ≤ q → A q := fun q h => by rw [← hAe]; exact Or.inr h
  have hR : RepC g ad A s S s.heap [] := ⟨hK, hP, hD, va_S.rf, hw⟩
  clear hK hP hD hD0
  have hl := lv_entry ([.ref (ad 44), .int x1, .int x2]) (n := 3) (Nat.le_of_ble_eq_true rfl)
  rw [lg_entry_eq]
  generalize (lg_sl ([.ref (ad 44), .int x1, .int x2]) ++ List.replicate (3 - (lg_sl ([.ref (ad 44), .int x1, .int x2])).length) Slot.unset).toArray = ls at hl ⊢
  have hl : lv_has ls 3 [(0, .ref (ad 44)), (1, .int x1), (2, .int x2)] := hl
  have hsh : shy S S := shy.rf
  unfold wX5_setFrame at h
  refine lv_aload_n hx hb dX5_setFrame_0 rfl (lv_at hl 0 rfl) ?_
  refine va_get (D := rD g) (ci := 5) (v := .int (qI S 44 11)) (C := RX5) (T := TX5) (N := 20) hx hb hts inX5 hown hR.K hR.P 44 (hR.at45 (hR.w.2.1 _ finC_29).2.1) rfl 11 (by decide) (hts _ kw_1025) (fun _ h9 => h9) rfl dX5_setFrame_1 ?_
  refine lv_if_lt (tgt := 30) hx hb dX5_setFrame_4 (by decide) (fun c1 => ?_) (fun c1 => ?_)
  · replace h := h.1 (k_lt rfl (by decide) c1)
    exact W.vret hx hb hr (fun t9 ht9 hW9 => ⟨⟨S, rfl, ⟨h, hR.w, hsh⟩, ⟨by rw [ht9]; exact hR.P, hR.D⟩⟩, hR.sS.F ht9⟩) hR.sS.2.2 dX5_setFrame_30
  · replace h := h.2 (k_nlt rfl (by decide) c1)
    refine lv_aload_n hx hb dX5_setFrame_7 rfl (lv_at hl 0 rfl) ?_
    refine va_get (D := rD g) (ci := 5) (v := .int (qI S 44 11)) (C := RX5) (T := TX5) (N := 20) hx hb hts inX5 hown hR.K hR.P 44 (hR.at45 (hR.w.2.1 _ finC_29).2.1) rfl 11 (by decide) (hts _ kw_1025) (fun _ h9 => h9) rfl dX5_setFrame_8 ?_
    refine lv_bipush (v := 60) hx hb dX5_setFrame_11 (by decide) ?_
    refine lv_icmp_ge (tgt := 30) hx hb dX5_setFrame_13 (by decide) (fun c2 => ?_) (fun c2 => ?_)
    · replace h := h.1 (k_le (by decide) rfl c2)
      exact W.vret hx hb hr (fun t9 ht9 hW9 => ⟨⟨S, rfl, ⟨h, hR.w, hsh⟩, ⟨by rw [ht9]; exact hR.P, hR.D⟩⟩, hR.sS.F ht9⟩) hR.sS.2.2 dX5_setFrame_30
    · replace h := h.2 (k_nle (by decide) rfl c2)
      refine lv_aload_n hx hb dX5_setFrame_16 rfl (lv_at hl 0 rfl) ?_
      refine va_get (D := rD g) (ci := 5) (v := .ref (ad 51)) (C := RX5) (T := TX5) (N := 20) hx hb hts inX5 hown hR.K hR.P 44 (hR.at45 (hR.w.2.1 _ finC_29).2.1) rfl 10 (by decide) (hts _ kw_1058) (fun _ h9 => h9) (congrArg (fun z => some (vf ad z)) (hR.w.2.1 _ finC_6).1) dX5_setFrame_17 ?_
      refine lv_iconst (v := 3) hx hb dX5_setFrame_20 (by decide) ?_
      refine lv_aload_n hx hb dX5_setFrame_21 rfl (lv_at hl 0 rfl) ?_
      refine va_get (D := rD g) (ci := 5) (v := .int (qI S 44 11)) (C := RX5) (T := TX5) (N := 20) hx hb hts inX5 hown hR.K hR.P 44 (hR.at45 (hR.w.2.1 _ finC_29).2.1) rfl 11 (by decide) (hts _ kw_1025) (fun _ h9 => h9) rfl dX5_setFrame_22 ?_
      refine lv_imul hx hb dX5_setFrame_25 ?_
      refine lv_topi (fun z3 ez3 => ?_)
      obtain rfl : z3 = ((3 : Int32) * (qI S 44 11)) := ez3
      refine lv_iload_n hx hb dX5_setFrame_26 rfl (lv_at hl 1 rfl) ?_
      refine lv_iadd hx hb dX5_setFrame_27 ?_
      refine lv_topi (fun z4 ez4 => ?_)
      obtain rfl : z4 = (((3 : Int32) * (qI S 44 11)) + x1) := ez4
      refine lv_iload_n hx hb dX5_setFrame_28 rfl (lv_at hl 2 rfl) ?_
      obtain ⟨hv5, h⟩ := h
      refine va_iast hx hb hR.K hR.P hR.D hR.sS 51 1 (hR.atI (hR.w.2.1 _ finC_6).2.1 (by decide)) rfl (k_ixN (k_ix (n := 180) (x := (((3 : Int32) * (qI S 44 11)) + x1)) (a := (((3 : Int32) * (qI S 44 11)) + x1).toInt) rfl hv5) (hR.w.2.1 _ finC_6).2.2) dX5_setFrame_29 (fun H locs hP hD hS => ?_)
      have hTk9 : qT S 51 = 217 := (hR.w.2.1 _ finC_6).2.1
      have hR : RepC g ad A s (wI S 51 (((((3 : Int32) * (qI S 44 11)) + x1).toInt).toNat) x2) H locs := hR.aI (hR.w.2.1 _ finC_6).2.1 (by decide) hP hD hS
      obtain ⟨S6, eS6⟩ : ∃ z, z = wI S 51 (((((3 : Int32) * (qI S 44 11)) + x1).toInt).toNat) x2 := ⟨_, rfl⟩
      rw [← eS6] at hR
      replace h := h S6 eS6 hTk9 hR.w
      have hsh : shy S S6 := by rw [eS6]; exact hsh
      exact W.vret hx hb hr (fun t9 ht9 hW9 => ⟨⟨S6, rfl, ⟨h, hR.w, hsh⟩, ⟨by rw [ht9]; exact hR.P, hR.D⟩⟩, hR.sS.F ht9⟩) hR.sS.2.2 dX5_setFrame_30
def f_X5_frameAt_J32 (S : MS) : Int32 := (0 : Int32)
def d_X5_frameAt_J32 (S : MS) : Prop := True
def fX5_frameAt (S : MS) (x1 : Int32) : Int32 := (if (qI S 44 11).toInt < 0 then f_X5_frameAt_J32 S else (if 60 ≤ (qI S 44 11).toInt then f_X5_frameAt_J32 S else (qI S 51 (((((3 : Int32) * (qI S 44 11)) + x1).toInt).toNat))))
def d_X5_frameAt (S : MS) (x1 : Int32) : Prop := (if (qI S 44 11).toInt < 0 then d_X5_frameAt_J32 S else (if 60 ≤ (qI S 44 11).toInt then d_X5_frameAt_J32 S else (((0 : Int) ≤ (((3 : Int32) * (qI S 44 11)) + x1).toInt ∧ (((3 : Int32) * (qI S 44 11)) + x1).toInt < 180) ∧ True)))
set_option maxHeartbeats 2000000 in
set_option maxRecDepth 100000 in
theorem rX5_frameAt (l : Launch) (g : Gr) (ad : Nat → Nat) (sz : Nat) (S : MS) (x1 : Int32) (hw : wfC S) (hd : d_X5_frameAt S x1) : Met l yX5_frameAt (wt yX5_frameAt cX5_frameAt 2 (some .int)) ({ frames := 0, cells := 0, slots := 0, locals := 0 }) (va_Pc [.ref (ad 44), .int x1] (st_C g ad sz S)) (va_Qi (fun (r : Int32) (_ : Unit) => r = fX5_frameAt S x1) (fun (_ : Unit) (t : State) => qEC g ad (va_A (WdC g ad S) sz) S t) (va_A (WdC g ad S) sz)) 0 0 (va_A (WdC g ad S) sz) := by
  refine Met.ofW (cc := cX5_frameAt) (maxL := 2) (ret := (some .int)) (by decide) rfl ?_
  intro p e s m args below meth c s₁ B hml hv
  obtain ⟨rfl, hsz, hP, hK, hD0, hex, hE⟩ := hv
  have hx := B.exec
  have hb := B.bytes
  have hr := B.returns
  have hts0 := atoms_spec (ws := wt yX5_frameAt cX5_frameAt 2 (some .int)) B.pre
  have hts : ∀ w ∈ tb, w.before _ s = true := fun w h => hts0 w (List.mem_cons_of_mem _ h)
  have hown : s.vm.findClass RX5 = some m.cls := findClass_of_methodNamed B.named
  subst hsz
  have hD := hD0.self (sz := s.heap.size)
  generalize hAe : va_A (WdC g ad S) s.heap.size = A at hD hE ⊢
  have hA : ∀ q : Nat, s.heap.size ≤ q → A q := fun q h => by rw [← hAe]; exact Or.inr h
  have hR : RepC g ad A s S s.heap [] := ⟨hK, hP, hD, va_S.rf, hw⟩
  clear hK hP hD hD0
  have hl := lv_entry ([.ref (ad 44), .int x1]) (n := 2) (Nat.le_of_ble_eq_true rfl)
  rw [lg_entry_eq]
  generalize (lg_sl ([.ref (ad 44), .int x1]) ++ List.replicate (2 - (lg_sl ([.ref (ad 44), .int x1])).length) Slot.unset).toArray = ls at hl ⊢
  have hl : lv_has ls 2 [(0, .ref (ad 44)), (1, .int x1)] := hl
  obtain ⟨r0, hf⟩ : ∃ r0, fX5_frameAt S x1 = r0 := ⟨_, rfl⟩
  have hf0 := hf
  unfold fX5_frameAt at hf
  unfold d_X5_frameAt at hd
  refine lv_aload_n hx hb dX5_frameAt_0 rfl (lv_at hl 0 rfl) ?_
  refine va_get (D := rD g) (ci := 5) (v := .int (qI S 44 11)) (C := RX5) (T := TX5) (N := 20) hx hb hts inX5 hown hR.K hR.P 44 (hR.at45 (hR.w.2.1 _ finC_29).2.1) rfl 11 (by decide) (hts _ kw_1025) (fun _ h9 => h9) rfl dX5_frameAt_1 ?_
  have J_32 : ∀ (H : Heap) (locs : List Loc) (ls : Array Slot), d_X5_frameAt_J32 S → f_X5_frameAt_J32 S = r0 → RepC g ad A s S H locs → lv_has ls 2 [] → W p l e (headSpec (wt yX5_frameAt cX5_frameAt 2 (some .int)) ({ frames := 0, cells := 0, slots := 0, locals := 0 })).room s m ([.ref (ad 44), .int x1] : List Value).toArray below meth c H locs 0 0 (MQ below (va_Qi (fun (r : Int32) (_ : Unit) => r = fX5_frameAt S x1) (fun (_ : Unit) (t : State) => qEC g ad A S t) A) ([.ref (ad 44), .int x1] : List Value).toArray s 0 0 A) (F0 m 32 ls []) := by
    intro H locs ls hd hf hR hl
    unfold d_X5_frameAt_J32 at hd
    unfold f_X5_frameAt_J32 at hf
    refine lv_iconst (v := 0) hx hb dX5_frameAt_32 (by decide) ?_
    exact W.iret (v := 0) hx hb hr (fun t9 ht9 hW9 => ⟨⟨_, (), rfl, hf.trans hf0.symm, ⟨by rw [ht9]; exact hR.P, hR.D⟩⟩, hR.sS.F ht9⟩) hR.sS.2.2 dX5_frameAt_33
  refine lv_if_lt (tgt := 32) hx hb dX5_frameAt_4 (by decide) (fun c1 => ?_) (fun c1 => ?_)
  · rw [if_pos (k_lt rfl (by decide) c1)] at hf
    (try rw [if_pos (k_lt rfl (by decide) c1)] at hd)
    exact J_32 _ _ ls hd hf  hR (lv_sub hl [] rfl)
  · rw [if_neg (k_nlt rfl (by decide) c1)] at hf
    (try rw [if_neg (k_nlt rfl (by decide) c1)] at hd)
    refine lv_aload_n hx hb dX5_frameAt_7 rfl (lv_at hl 0 rfl) ?_
    refine va_get (D := rD g) (ci := 5) (v := .int (qI S 44 11)) (C := RX5) (T := TX5) (N := 20) hx hb hts inX5 hown hR.K hR.P 44 (hR.at45 (hR.w.2.1 _ finC_29).2.1) rfl 11 (by decide) (hts _ kw_1025) (fun _ h9 => h9) rfl dX5_frameAt_8 ?_
    refine lv_bipush (v := 60) hx hb dX5_frameAt_11 (by decide) ?_
    refine lv_icmp_ge (tgt := 32) hx hb dX5_frameAt_13 (by decide) (fun c2 => ?_) (fun c2 => ?_)
    · rw [if_pos (k_le (by decide) rfl c2)] at hf
      (try rw [if_pos (k_le (by decide) rfl c2)] at hd)
      exact J_32 _ _ ls hd hf  hR (lv_sub hl [] rfl)
    · rw [if_neg (k_nle (by decide) rfl c2)] at hf
      (try rw [if_neg (k_nle (by decide) rfl c2)] at hd)
      refine lv_aload_n hx hb dX5_frameAt_16 rfl (lv_at hl 0 rfl) ?_
      refine va_get (D := rD g) (ci := 5) (v := .ref (ad 51)) (C := RX5) (T := TX5) (N := 20) hx hb hts inX5 hown hR.K hR.P 44 (hR.at45 (hR.w.2.1 _ finC_29).2.1) rfl 10 (by decide) (hts _ kw_1058) (fun _ h9 => h9) (congrArg (fun z => some (vf ad z)) (hR.w.2.1 _ finC_6).1) dX5_frameAt_17 ?_
      refine lv_iconst (v := 3) hx hb dX5_frameAt_20 (by decide) ?_
      refine lv_aload_n hx hb dX5_frameAt_21 rfl (lv_at hl 0 rfl) ?_
      refine va_get (D := rD g) (ci := 5) (v := .int (qI S 44 11)) (C := RX5) (T := TX5) (N := 20) hx hb hts inX5 hown hR.K hR.P 44 (hR.at45 (hR.w.2.1 _ finC_29).2.1) rfl 11 (by decide) (hts _ kw_1025) (fun _ h9 => h9) rfl dX5_frameAt_22 ?_
      refine lv_imul hx hb dX5_frameAt_25 ?_
      refine lv_topi (fun z3 ez3 => ?_)
      obtain rfl : z3 = ((3 : Int32) * (qI S 44 11)) := ez3
      refine lv_iload_n hx hb dX5_frameAt_26 rfl (lv_at hl 1 rfl) ?_
      refine lv_iadd hx hb dX5_frameAt_27 ?_
      refine lv_topi (fun z4 ez4 => ?_)
      obtain rfl : z4 = (((3 : Int32) * (qI S 44 11)) + x1) := ez4
      obtain ⟨hv5, hd⟩ := hd
      refine va_iald hx hb hR.K hR.P 51 1 (hR.atI (hR.w.2.1 _ finC_6).2.1 (by decide)) rfl (k_ixN (k_ix (n := 180) (x := (((3 : Int32) * (qI S 44 11)) + x1)) (a := (((3 : Int32) * (qI S 44 11)) + x1).toInt) rfl hv5) (hR.w.2.1 _ finC_6).2.2) dX5_frameAt_28 ?_
      refine lv_topi (fun z6 ez6 => ?_)
      obtain rfl : z6 = (qI S 51 (((((3 : Int32) * (qI S 44 11)) + x1).toInt).toNat)) := ez6
      refine lv_goto (tgt := 33) hx hb dX5_frameAt_29 (by decide) ?_
      exact W.iret (v := (qI S 51 (((((3 : Int32) * (qI S 44 11)) + x1).toInt).toNat))) hx hb hr (fun t9 ht9 hW9 => ⟨⟨_, (), rfl, hf.trans hf0.symm, ⟨by rw [ht9]; exact hR.P, hR.D⟩⟩, hR.sS.F ht9⟩) hR.sS.2.2 dX5_frameAt_33
def w_X5_setLocal_J36 (Q : MS → Prop) (U36 : MS) : Prop := (wfC U36 → (∀ S5, S5 = wI U36 44 19 ((qI U36 44 19) + (1 : Int32)) → qT U36 44 = 45 → wfC S5 → Q S5))
def wX5_setLocal (S : MS) (x1 : Int32) (y2 : Int64) (Q : MS → Prop) : Prop := (∀ a3 : Int32, a3 = (((qI S 44 11) * (24 : Int32)) + x1) → ((x1.toInt < 0 → w_X5_setLocal_J36 Q S) ∧ (¬ x1.toInt < 0 → ((24 ≤ x1.toInt → w_X5_setLocal_J36 Q S) ∧ (¬ 24 ≤ x1.toInt → ((a3.toInt < 0 → w_X5_setLocal_J36 Q S) ∧ (¬ a3.toInt < 0 → ((a3.toInt < (qN S (qO S 44 8) : Int) → (((0 : Int) ≤ a3.toInt ∧ a3.toInt < (qN S (qO S 44 8) : Int)) ∧ (∀ S14, S14 = wJ S (qO S 44 8) a3.toInt.toNat y2 → qT S (qO S 44 8) = 404 → wfC S14 → Q S14))) ∧ (¬ a3.toInt < (qN S (qO S 44 8) : Int) → w_X5_setLocal_J36 Q S)))))))))
set_option maxHeartbeats 2000000 in
set_option maxRecDepth 100000 in
theorem rX5_setLocal (l : Launch) (g : Gr) (ad : Nat → Nat) (sz : Nat) (S : MS) (x1 : Int32) (y2 : Int64) (hw : wfC S) (Q : MS → Prop) (h : wX5_setLocal S x1 y2 Q) : Met l yX5_setLocal (wt yX5_setLocal cX5_setLocal 5 none) ({ frames := 0, cells := 0, slots := 0, locals := 0 }) (va_Pc [.ref (ad 44), .int x1, .long y2] (st_C g ad sz S)) (va_Qv (fun (u : MS) => Q u ∧ wfC u ∧ shy S u) (fun (u : MS) (t : State) => qEC g ad (va_A (WdC g ad S) sz) u t) (va_A (WdC g ad S) sz)) 0 0 (va_A (WdC g ad S) sz) := by
  refine Met.ofW (cc := cX5_setLocal) (maxL := 5) (ret := none) (by decide) rfl ?_
  intro p e s m args below meth c s₁ B hml hv
  obtain ⟨rfl, hsz, hP, hK, hD0, hex, hE⟩ := hv
  have hx := B.exec
  have hb := B.bytes
  have hr := B.returns
  have hts0 := atoms_spec (ws := wt yX5_setLocal cX5_setLocal 5 none) B.pre
  have hts : ∀ w ∈ tb, w.before _ s = true := fun w h => hts0 w (List.mem_cons_of_mem _ h)
  have hown : s.vm.findClass RX5 = some m.cls := findClass_of_methodNamed B.named
  subst hsz
  have hD := hD0.self (sz := s.heap.size)
  generalize hAe : va_A (WdC g ad S) s.heap.size = A at hD hE ⊢
  have hA : ∀ q : Nat, s.heap.size ≤ q → A q := fun q h => by rw [← hAe]; exact Or.inr h
  have hR : RepC g ad A s S s.heap [] := ⟨hK, hP, hD, va_S.rf, hw⟩
  clear hK hP hD hD0
  have hl := lv_entry ([.ref (ad 44), .int x1, .long y2]) (n := 5) (Nat.le_of_ble_eq_true rfl)
  rw [lg_entry_eq]
  generalize (lg_sl ([.ref (ad 44), .int x1, .long y2]) ++ List.replicate (5 - (lg_sl ([.ref (ad 44), .int x1, .long y2])).length) Slot.unset).toArray = ls at hl ⊢
  have hl : lv_has ls 5 [(0, .ref (ad 44)), (1, .int x1), (2, .long y2)] := hl
  have hsh : shy S S := shy.rf
  unfold wX5_setLocal at h
  refine lv_aload_n hx hb dX5_setLocal_0 rfl (lv_at hl 0 rfl) ?_
  refine va_get (D := rD g) (ci := 5) (v := .int (qI S 44 11)) (C := RX5) (T := TX5) (N := 20) hx hb hts inX5 hown hR.K hR.P 44 (hR.at45 (hR.w.2.1 _ finC_29).2.1) rfl 11 (by decide) (hts _ kw_1025) (fun _ h9 => h9) rfl dX5_setLocal_1 ?_
  refine lv_bipush (v := 24) hx hb dX5_setLocal_4 (by decide) ?_
  refine lv_imul hx hb dX5_setLocal_6 ?_
  refine lv_topi (fun z1 ez1 => ?_)
  obtain rfl : z1 = ((qI S 44 11) * (24 : Int32)) := ez1
  refine lv_iload_n hx hb dX5_setLocal_7 rfl (lv_at hl 1 rfl) ?_
  refine lv_iadd hx hb dX5_setLocal_8 ?_
  refine lv_topi (fun z2 ez2 => ?_)
  obtain rfl : z2 = (((qI S 44 11) * (24 : Int32)) + x1) := ez2
  obtain ⟨a3, ea3⟩ : ∃ z, z = (((qI S 44 11) * (24 : Int32)) + x1) := ⟨_, rfl⟩
  rw [← ea3]
  replace h := h a3 ea3
  refine lv_istore (lv' := [(4, .int a3), (0, .ref (ad 44)), (1, .int x1), (2, .long y2)]) hx hb dX5_setLocal_9 hl (by decide) rfl (fun ls hl => ?_)
  refine lv_iload_n hx hb dX5_setLocal_11 rfl (lv_at hl 2 rfl) ?_
  have J_36 : ∀ (U36 : MS) (H : Heap) (locs : List Loc) (ls : Array Slot), w_X5_setLocal_J36 Q U36 → shy S U36 → RepC g ad A s U36 H locs → lv_has ls 5 [(0, .ref (ad 44))] → W p l e (headSpec (wt yX5_setLocal cX5_setLocal 5 none) ({ frames := 0, cells := 0, slots := 0, locals := 0 })).room s m ([.ref (ad 44), .int x1, .long y2] : List Value).toArray below meth c H locs 0 0 (MQ below (va_Qv (fun (u : MS) => Q u ∧ wfC u ∧ shy S u) (fun (u : MS) (t : State) => qEC g ad A u t) A) ([.ref (ad 44), .int x1, .long y2] : List Value).toArray s 0 0 A) (F0 m 36 ls []) := by
    intro U36 H locs ls h hsh hR hl
    unfold w_X5_setLocal_J36 at h
    replace h := h hR.w
    refine lv_aload_n hx hb dX5_setLocal_36 rfl (lv_at hl 0 rfl) ?_
    refine lv_dup hx hb dX5_setLocal_37 rfl ?_
    refine va_get (D := rD g) (ci := 5) (v := .int (qI U36 44 19)) (C := RX5) (T := TX5) (N := 20) hx hb hts inX5 hown hR.K hR.P 44 (hR.at45 (hR.w.2.1 _ finC_29).2.1) rfl 19 (by decide) (hts _ kw_1045) (fun _ h9 => h9) rfl dX5_setLocal_38 ?_
    refine lv_iconst (v := 1) hx hb dX5_setLocal_41 (by decide) ?_
    refine lv_iadd hx hb dX5_setLocal_42 ?_
    refine lv_topi (fun z4 ez4 => ?_)
    obtain rfl : z4 = ((qI U36 44 19) + (1 : Int32)) := ez4
    refine va_put (D := rD g) (ci := 5) (v := .int ((qI U36 44 19) + (1 : Int32))) (ty := .int) (C := RX5) (T := TX5) (N := 20) hx hb hts inX5 tyX5 tyX5_ok nmX5 hown hR.K hR.P hR.D hR.sS 44 (hR.at45 (hR.w.2.1 _ finC_29).2.1) rfl 19 (by decide) (hts _ kw_1045) (fun _ h9 => h9) rfl (by decide +kernel) rfl rfl (Nat.le_of_ble_eq_true rfl) dX5_setLocal_43 (fun H locs hP hD hS => ?_)
    have hTk9 : qT U36 44 = 45 := (hR.w.2.1 _ finC_29).2.1
    have hR : RepC g ad A s (wI U36 44 19 ((qI U36 44 19) + (1 : Int32))) H locs := hR.pI45 (hR.w.2.1 _ finC_29).2.1 FX5_s19 (fun q9 => absurd q9 (by decide)) hP hD hS
    obtain ⟨S5, eS5⟩ : ∃ z, z = wI U36 44 19 ((qI U36 44 19) + (1 : Int32)) := ⟨_, rfl⟩
    rw [← eS5] at hR
    replace h := h S5 eS5 hTk9 hR.w
    have hsh : shy S S5 := by rw [eS5]; exact hsh
    exact W.vret hx hb hr (fun t9 ht9 hW9 => ⟨⟨S5, rfl, ⟨h, hR.w, hsh⟩, ⟨by rw [ht9]; exact hR.P, hR.D⟩⟩, hR.sS.F ht9⟩) hR.sS.2.2 dX5_setLocal_46
  refine lv_if_lt (tgt := 36) hx hb dX5_setLocal_12 (by decide) (fun c6 => ?_) (fun c6 => ?_)
  · replace h := h.1 (k_lt rfl (by decide) c6)
    exact J_36 S _ _ ls h  hsh hR (lv_sub hl [1] rfl)
  · replace h := h.2 (k_nlt rfl (by decide) c6)
    refine lv_iload_n hx hb dX5_setLocal_15 rfl (lv_at hl 2 rfl) ?_
    refine lv_bipush (v := 24) hx hb dX5_setLocal_16 (by decide) ?_
    refine lv_icmp_ge (tgt := 36) hx hb dX5_setLocal_18 (by decide) (fun c7 => ?_) (fun c7 => ?_)
    · replace h := h.1 (k_le (by decide) rfl c7)
      exact J_36 S _ _ ls h  hsh hR (lv_sub hl [1] rfl)
    · replace h := h.2 (k_nle (by decide) rfl c7)
      refine lv_iload hx hb dX5_setLocal_21 (lv_at hl 0 rfl) ?_
      refine lv_if_lt (tgt := 36) hx hb dX5_setLocal_23 (by decide) (fun c8 => ?_) (fun c8 => ?_)
      · replace h := h.1 (k_lt rfl (by decide) c8)
        exact J_36 S _ _ ls h  hsh hR (lv_sub hl [1] rfl)
      · replace h := h.2 (k_nlt rfl (by decide) c8)
        refine lv_iload hx hb dX5_setLocal_26 (lv_at hl 0 rfl) ?_
        refine lv_aload_n hx hb dX5_setLocal_28 rfl (lv_at hl 1 rfl) ?_
        have hT_b9 : qT S (qO S 44 8) = 404 := hR.w.ref (hR.w.ptr ptrC_20) (hR.w.2.1 _ finC_29).2.1
        refine va_get (D := rD g) (ci := 5) (v := .ref (ad (qO S 44 8))) (C := RX5) (T := TX5) (N := 20) hx hb hts inX5 hown hR.K hR.P 44 (hR.at45 (hR.w.2.1 _ finC_29).2.1) rfl 8 (by decide) (hts _ kw_1044) (fun _ h9 => h9) (congrArg (fun z => some (vf ad z)) (hR.w.ptr ptrC_20)) dX5_setLocal_29 ?_
        refine va_alen (v := (Int32.ofNat (qN S (qO S 44 8)))) hx hb hR.K hR.P (qO S 44 8) 3 (hR.atL hT_b9 (by decide)) rfl rfl dX5_setLocal_32 ?_
        have hln10 : (Int32.ofNat (qN S (qO S 44 8))).toInt = (qN S (qO S 44 8) : Int) := toI_len (hR.w.len9 (hT_b9) (by decide))
        refine lv_icmp_lt (tgt := 47) hx hb dX5_setLocal_33 (by decide) (fun c11 => ?_) (fun c11 => ?_)
        · replace h := h.1 (k_lt rfl hln10 c11)
          refine lv_aload_n hx hb dX5_setLocal_47 rfl (lv_at hl 1 rfl) ?_
          have hT_b12 : qT S (qO S 44 8) = 404 := hR.w.ref (hR.w.ptr ptrC_20) (hR.w.2.1 _ finC_29).2.1
          refine va_get (D := rD g) (ci := 5) (v := .ref (ad (qO S 44 8))) (C := RX5) (T := TX5) (N := 20) hx hb hts inX5 hown hR.K hR.P 44 (hR.at45 (hR.w.2.1 _ finC_29).2.1) rfl 8 (by decide) (hts _ kw_1044) (fun _ h9 => h9) (congrArg (fun z => some (vf ad z)) (hR.w.ptr ptrC_20)) dX5_setLocal_48 ?_
          refine lv_iload hx hb dX5_setLocal_51 (lv_at hl 0 rfl) ?_
          refine lv_lload_n hx hb dX5_setLocal_53 rfl (lv_at hl 3 rfl) ?_
          obtain ⟨hv13, h⟩ := h
          refine va_last hx hb hR.K hR.P hR.D hR.sS (qO S 44 8) 3 (hR.atL hT_b12 (by decide)) rfl (k_ix (x := a3) (a := a3.toInt) rfl hv13) dX5_setLocal_54 (fun H locs hP hD hS => ?_)
          have hTk9 : qT S (qO S 44 8) = 404 := hT_b12
          have hR : RepC g ad A s (wJ S (qO S 44 8) a3.toInt.toNat y2) H locs := hR.aL hT_b12 (by decide) hP hD hS
          obtain ⟨S14, eS14⟩ : ∃ z, z = wJ S (qO S 44 8) a3.toInt.toNat y2 := ⟨_, rfl⟩
          rw [← eS14] at hR
          replace h := h S14 eS14 hTk9 hR.w
          have hsh : shy S S14 := by rw [eS14]; exact hsh
          exact W.vret hx hb hr (fun t9 ht9 hW9 => ⟨⟨S14, rfl, ⟨h, hR.w, hsh⟩, ⟨by rw [ht9]; exact hR.P, hR.D⟩⟩, hR.sS.F ht9⟩) hR.sS.2.2 dX5_setLocal_55
        · replace h := h.2 (k_nlt rfl hln10 c11)
          exact J_36 S _ _ ls h  hsh hR (lv_sub hl [1] rfl)
def w_X5_localAt_J33 (Q : Int64 → MS → Prop) (U33 : MS) : Prop := (wfC U33 → (∀ S5, S5 = wI U33 44 19 ((qI U33 44 19) + (1 : Int32)) → qT U33 44 = 45 → wfC S5 → Q 0 S5))
def wX5_localAt (S : MS) (x1 : Int32) (Q : Int64 → MS → Prop) : Prop := (∀ a3 : Int32, a3 = (((qI S 44 11) * (24 : Int32)) + x1) → ((x1.toInt < 0 → w_X5_localAt_J33 Q S) ∧ (¬ x1.toInt < 0 → ((24 ≤ x1.toInt → w_X5_localAt_J33 Q S) ∧ (¬ 24 ≤ x1.toInt → ((a3.toInt < 0 → w_X5_localAt_J33 Q S) ∧ (¬ a3.toInt < 0 → ((a3.toInt < (qN S (qO S 44 8) : Int) → (((0 : Int) ≤ a3.toInt ∧ a3.toInt < (qN S (qO S 44 8) : Int)) ∧ Q (qJ S (qO S 44 8) a3.toInt.toNat) S)) ∧ (¬ a3.toInt < (qN S (qO S 44 8) : Int) → w_X5_localAt_J33 Q S)))))))))
set_option maxHeartbeats 2000000 in
set_option maxRecDepth 100000 in
theorem rX5_localAt (l : Launch) (g : Gr) (ad : Nat → Nat) (sz : Nat) (S : MS) (x1 : Int32) (hw : wfC S) (Q : Int64 → MS → Prop) (h : wX5_localAt S x1 Q) : Met l yX5_localAt (wt yX5_localAt cX5_localAt 3 (some .long)) ({ frames := 0, cells := 0, slots := 0, locals := 0 }) (va_Pc [.ref (ad 44), .int x1] (st_C g ad sz S)) (va_Ql (fun (r : Int64) (u : MS) => Q r u ∧ wfC u ∧ shy S u) (fun (u : MS) (t : State) => qEC g ad (va_A (WdC g ad S) sz) u t) (va_A (WdC g ad S) sz)) 0 0 (va_A (WdC g ad S) sz) := by
  refine Met.ofW (cc := cX5_localAt) (maxL := 3) (ret := (some .long)) (by decide) rfl ?_
  intro p e s m args below meth c s₁ B hml hv
  obtain ⟨rfl, hsz, hP, hK, hD0, hex, hE⟩ := hv
  have hx := B.exec
  have hb := B.bytes
  have hr := B.returns
  have hts0 := atoms_spec (ws := wt yX5_localAt cX5_localAt 3 (some .long)) B.pre
  have hts : ∀ w ∈ tb, w.before _ s = true := fun w h => hts0 w (List.mem_cons_of_mem _ h)
  have hown : s.vm.findClass RX5 = some m.cls := findClass_of_methodNamed B.named
  subst hsz
  have hD := hD0.self (sz := s.heap.size)
  generalize hAe : va_A (WdC g ad S) s.heap.size = A at hD hE ⊢
  have hA : ∀ q : Nat, s.heap.size ≤ q → A q := fun q h => by rw [← hAe]; exact Or.inr h
  have hR : RepC g ad A s S s.heap [] := ⟨hK, hP, hD, va_S.rf, hw⟩
  clear hK hP hD hD0
  have hl := lv_entry ([.ref (ad 44), .int x1]) (n := 3) (Nat.le_of_ble_eq_true rfl)
  rw [lg_entry_eq]
  generalize (lg_sl ([.ref (ad 44), .int x1]) ++ List.replicate (3 - (lg_sl ([.ref (ad 44), .int x1])).length) Slot.unset).toArray = ls at hl ⊢
  have hl : lv_has ls 3 [(0, .ref (ad 44)), (1, .int x1)] := hl
  have hsh : shy S S := shy.rf
  unfold wX5_localAt at h
  refine lv_aload_n hx hb dX5_localAt_0 rfl (lv_at hl 0 rfl) ?_
  refine va_get (D := rD g) (ci := 5) (v := .int (qI S 44 11)) (C := RX5) (T := TX5) (N := 20) hx hb hts inX5 hown hR.K hR.P 44 (hR.at45 (hR.w.2.1 _ finC_29).2.1) rfl 11 (by decide) (hts _ kw_1025) (fun _ h9 => h9) rfl dX5_localAt_1 ?_
  refine lv_bipush (v := 24) hx hb dX5_localAt_4 (by decide) ?_
  refine lv_imul hx hb dX5_localAt_6 ?_
  refine lv_topi (fun z1 ez1 => ?_)
  obtain rfl : z1 = ((qI S 44 11) * (24 : Int32)) := ez1
  refine lv_iload_n hx hb dX5_localAt_7 rfl (lv_at hl 1 rfl) ?_
  refine lv_iadd hx hb dX5_localAt_8 ?_
  refine lv_topi (fun z2 ez2 => ?_)
  obtain rfl : z2 = (((qI S 44 11) * (24 : Int32)) + x1) := ez2
  obtain ⟨a3, ea3⟩ : ∃ z, z = (((qI S 44 11) * (24 : Int32)) + x1) := ⟨_, rfl⟩
  rw [← ea3]
  replace h := h a3 ea3
  refine lv_istore_n (lv' := [(2, .int a3), (0, .ref (ad 44)), (1, .int x1)]) hx hb dX5_localAt_9 rfl hl (by decide) rfl (fun ls hl => ?_)
  refine lv_iload_n hx hb dX5_localAt_10 rfl (lv_at hl 2 rfl) ?_
  have J_33 : ∀ (U33 : MS) (H : Heap) (locs : List Loc) (ls : Array Slot), w_X5_localAt_J33 Q U33 → shy S U33 → RepC g ad A s U33 H locs → lv_has ls 3 [(0, .ref (ad 44))] → W p l e (headSpec (wt yX5_localAt cX5_localAt 3 (some .long)) ({ frames := 0, cells := 0, slots := 0, locals := 0 })).room s m ([.ref (ad 44), .int x1] : List Value).toArray below meth c H locs 0 0 (MQ below (va_Ql (fun (r : Int64) (u : MS) => Q r u ∧ wfC u ∧ shy S u) (fun (u : MS) (t : State) => qEC g ad A u t) A) ([.ref (ad 44), .int x1] : List Value).toArray s 0 0 A) (F0 m 33 ls []) := by
    intro U33 H locs ls h hsh hR hl
    unfold w_X5_localAt_J33 at h
    replace h := h hR.w
    refine lv_aload_n hx hb dX5_localAt_33 rfl (lv_at hl 0 rfl) ?_
    refine lv_dup hx hb dX5_localAt_34 rfl ?_
    refine va_get (D := rD g) (ci := 5) (v := .int (qI U33 44 19)) (C := RX5) (T := TX5) (N := 20) hx hb hts inX5 hown hR.K hR.P 44 (hR.at45 (hR.w.2.1 _ finC_29).2.1) rfl 19 (by decide) (hts _ kw_1045) (fun _ h9 => h9) rfl dX5_localAt_35 ?_
    refine lv_iconst (v := 1) hx hb dX5_localAt_38 (by decide) ?_
    refine lv_iadd hx hb dX5_localAt_39 ?_
    refine lv_topi (fun z4 ez4 => ?_)
    obtain rfl : z4 = ((qI U33 44 19) + (1 : Int32)) := ez4
    refine va_put (D := rD g) (ci := 5) (v := .int ((qI U33 44 19) + (1 : Int32))) (ty := .int) (C := RX5) (T := TX5) (N := 20) hx hb hts inX5 tyX5 tyX5_ok nmX5 hown hR.K hR.P hR.D hR.sS 44 (hR.at45 (hR.w.2.1 _ finC_29).2.1) rfl 19 (by decide) (hts _ kw_1045) (fun _ h9 => h9) rfl (by decide +kernel) rfl rfl (Nat.le_of_ble_eq_true rfl) dX5_localAt_40 (fun H locs hP hD hS => ?_)
    have hTk9 : qT U33 44 = 45 := (hR.w.2.1 _ finC_29).2.1
    have hR : RepC g ad A s (wI U33 44 19 ((qI U33 44 19) + (1 : Int32))) H locs := hR.pI45 (hR.w.2.1 _ finC_29).2.1 FX5_s19 (fun q9 => absurd q9 (by decide)) hP hD hS
    obtain ⟨S5, eS5⟩ : ∃ z, z = wI U33 44 19 ((qI U33 44 19) + (1 : Int32)) := ⟨_, rfl⟩
    rw [← eS5] at hR
    replace h := h S5 eS5 hTk9 hR.w
    have hsh : shy S S5 := by rw [eS5]; exact hsh
    refine lv_lconst (v := 0) hx hb dX5_localAt_43 (by decide) ?_
    exact W.lret (v := 0) hx hb hr (fun t9 ht9 hW9 => ⟨⟨_, S5, rfl, ⟨h, hR.w, hsh⟩, ⟨by rw [ht9]; exact hR.P, hR.D⟩⟩, hR.sS.F ht9⟩) hR.sS.2.2 dX5_localAt_44
  refine lv_if_lt (tgt := 33) hx hb dX5_localAt_11 (by decide) (fun c6 => ?_) (fun c6 => ?_)
  · replace h := h.1 (k_lt rfl (by decide) c6)
    exact J_33 S _ _ ls h  hsh hR (lv_sub hl [1] rfl)
  · replace h := h.2 (k_nlt rfl (by decide) c6)
    refine lv_iload_n hx hb dX5_localAt_14 rfl (lv_at hl 2 rfl) ?_
    refine lv_bipush (v := 24) hx hb dX5_localAt_15 (by decide) ?_
    refine lv_icmp_ge (tgt := 33) hx hb dX5_localAt_17 (by decide) (fun c7 => ?_) (fun c7 => ?_)
    · replace h := h.1 (k_le (by decide) rfl c7)
      exact J_33 S _ _ ls h  hsh hR (lv_sub hl [1] rfl)
    · replace h := h.2 (k_nle (by decide) rfl c7)
      refine lv_iload_n hx hb dX5_localAt_20 rfl (lv_at hl 0 rfl) ?_
      refine lv_if_lt (tgt := 33) hx hb dX5_localAt_21 (by decide) (fun c8 => ?_) (fun c8 => ?_)
      · replace h := h.1 (k_lt rfl (by decide) c8)
        exact J_33 S _ _ ls h  hsh hR (lv_sub hl [1] rfl)
      · replace h := h.2 (k_nlt rfl (by decide) c8)
        refine lv_iload_n hx hb dX5_localAt_24 rfl (lv_at hl 0 rfl) ?_
        refine lv_aload_n hx hb dX5_localAt_25 rfl (lv_at hl 1 rfl) ?_
        have hT_b9 : qT S (qO S 44 8) = 404 := hR.w.ref (hR.w.ptr ptrC_20) (hR.w.2.1 _ finC_29).2.1
        refine va_get (D := rD g) (ci := 5) (v := .ref (ad (qO S 44 8))) (C := RX5) (T := TX5) (N := 20) hx hb hts inX5 hown hR.K hR.P 44 (hR.at45 (hR.w.2.1 _ finC_29).2.1) rfl 8 (by decide) (hts _ kw_1044) (fun _ h9 => h9) (congrArg (fun z => some (vf ad z)) (hR.w.ptr ptrC_20)) dX5_localAt_26 ?_
        refine va_alen (v := (Int32.ofNat (qN S (qO S 44 8)))) hx hb hR.K hR.P (qO S 44 8) 3 (hR.atL hT_b9 (by decide)) rfl rfl dX5_localAt_29 ?_
        have hln10 : (Int32.ofNat (qN S (qO S 44 8))).toInt = (qN S (qO S 44 8) : Int) := toI_len (hR.w.len9 (hT_b9) (by decide))
        refine lv_icmp_lt (tgt := 45) hx hb dX5_localAt_30 (by decide) (fun c11 => ?_) (fun c11 => ?_)
        · replace h := h.1 (k_lt rfl hln10 c11)
          refine lv_aload_n hx hb dX5_localAt_45 rfl (lv_at hl 1 rfl) ?_
          have hT_b12 : qT S (qO S 44 8) = 404 := hR.w.ref (hR.w.ptr ptrC_20) (hR.w.2.1 _ finC_29).2.1
          refine va_get (D := rD g) (ci := 5) (v := .ref (ad (qO S 44 8))) (C := RX5) (T := TX5) (N := 20) hx hb hts inX5 hown hR.K hR.P 44 (hR.at45 (hR.w.2.1 _ finC_29).2.1) rfl 8 (by decide) (hts _ kw_1044) (fun _ h9 => h9) (congrArg (fun z => some (vf ad z)) (hR.w.ptr ptrC_20)) dX5_localAt_46 ?_
          refine lv_iload_n hx hb dX5_localAt_49 rfl (lv_at hl 0 rfl) ?_
          obtain ⟨hv13, h⟩ := h
          refine va_lald hx hb hR.K hR.P (qO S 44 8) 3 (hR.atL hT_b12 (by decide)) rfl (k_ix (x := a3) (a := a3.toInt) rfl hv13) dX5_localAt_50 ?_
          refine lv_topl (fun z14 ez14 => ?_)
          obtain rfl : z14 = (qJ S (qO S 44 8) a3.toInt.toNat) := ez14
          exact W.lret (v := (qJ S (qO S 44 8) a3.toInt.toNat)) hx hb hr (fun t9 ht9 hW9 => ⟨⟨_, S, rfl, ⟨h, hR.w, hsh⟩, ⟨by rw [ht9]; exact hR.P, hR.D⟩⟩, hR.sS.F ht9⟩) hR.sS.2.2 dX5_localAt_51
        · replace h := h.2 (k_nlt rfl hln10 c11)
          exact J_33 S _ _ ls h  hsh hR (lv_sub hl [1] rfl)
def w_X5_push_J42 (Q : MS → Prop) (U42 : MS) : Prop := (wfC U42 → (∀ S5, S5 = wI U42 44 19 ((qI U42 44 19) + (1 : Int32)) → qT U42 44 = 45 → wfC S5 → Q S5))
def wX5_push (S : MS) (y1 : Int64) (Q : MS → Prop) : Prop := (∀ a3 : Int32, a3 = (((qI S 44 11) * (24 : Int32)) + (qI S 44 14)) → (((qI S 44 14).toInt < 0 → w_X5_push_J42 Q S) ∧ (¬ (qI S 44 14).toInt < 0 → ((24 ≤ (qI S 44 14).toInt → w_X5_push_J42 Q S) ∧ (¬ 24 ≤ (qI S 44 14).toInt → ((a3.toInt < 0 → w_X5_push_J42 Q S) ∧ (¬ a3.toInt < 0 → ((a3.toInt < (qN S (qO S 44 9) : Int) → (((0 : Int) ≤ a3.toInt ∧ a3.toInt < (qN S (qO S 44 9) : Int)) ∧ (∀ S14, S14 = wJ S (qO S 44 9) a3.toInt.toNat y1 → qT S (qO S 44 9) = 405 → wfC S14 → (∀ S16, S16 = wI S14 44 14 ((qI S14 44 14) + (1 : Int32)) → qT S14 44 = 45 → wfC S16 → Q S16)))) ∧ (¬ a3.toInt < (qN S (qO S 44 9) : Int) → w_X5_push_J42 Q S)))))))))
set_option maxHeartbeats 2000000 in
set_option maxRecDepth 100000 in
theorem rX5_push (l : Launch) (g : Gr) (ad : Nat → Nat) (sz : Nat) (S : MS) (y1 : Int64) (hw : wfC S) (Q : MS → Prop) (h : wX5_push S y1 Q) : Met l yX5_push (wt yX5_push cX5_push 4 none) ({ frames := 0, cells := 0, slots := 0, locals := 0 }) (va_Pc [.ref (ad 44), .long y1] (st_C g ad sz S)) (va_Qv (fun (u : MS) => Q u ∧ wfC u ∧ shy S u) (fun (u : MS) (t : State) => qEC g ad (va_A (WdC g ad S) sz) u t) (va_A (WdC g ad S) sz)) 0 0 (va_A (WdC g ad S) sz) := by
  refine Met.ofW (cc := cX5_push) (maxL := 4) (ret := none) (by decide) rfl ?_
  intro p e s m args below meth c s₁ B hml hv
  obtain ⟨rfl, hsz, hP, hK, hD0, hex, hE⟩ := hv
  have hx := B.exec
  have hb := B.bytes
  have hr := B.returns
  have hts0 := atoms_spec (ws := wt yX5_push cX5_push 4 none) B.pre
  have hts : ∀ w ∈ tb, w.before _ s = true := fun w h => hts0 w (List.mem_cons_of_mem _ h)
  have hown : s.vm.findClass RX5 = some m.cls := findClass_of_methodNamed B.named
  subst hsz
  have hD := hD0.self (sz := s.heap.size)
  generalize hAe : va_A (WdC g ad S) s.heap.size = A at hD hE ⊢
  have hA : ∀ q : Nat, s.heap.size ≤ q → A q := fun q h => by rw [← hAe]; exact Or.inr h
  have hR : RepC g ad A s S s.heap [] := ⟨hK, hP, hD, va_S.rf, hw⟩
  clear hK hP hD hD0
  have hl := lv_entry ([.ref (ad 44), .long y1]) (n := 4) (Nat.le_of_ble_eq_true rfl)
  rw [lg_entry_eq]
  generalize (lg_sl ([.ref (ad 44), .long y1]) ++ List.replicate (4 - (lg_sl ([.ref (ad 44), .long y1])).length) Slot.unset).toArray = ls at hl ⊢
  have hl : lv_has ls 4 [(0, .ref (ad 44)), (1, .long y1)] := hl
  have hsh : shy S S := shy.rf
  unfold wX5_push at h
  refine lv_aload_n hx hb dX5_push_0 rfl (lv_at hl 0 rfl) ?_
  refine va_get (D := rD g) (ci := 5) (v := .int (qI S 44 11)) (C := RX5) (T := TX5) (N := 20) hx hb hts inX5 hown hR.K hR.P 44 (hR.at45 (hR.w.2.1 _ finC_29).2.1) rfl 11 (by decide) (hts _ kw_1025) (fun _ h9 => h9) rfl dX5_push_1 ?_
  refine lv_bipush (v := 24) hx hb dX5_push_4 (by decide) ?_
  refine lv_imul hx hb dX5_push_6 ?_
  refine lv_topi (fun z1 ez1 => ?_)
  obtain rfl : z1 = ((qI S 44 11) * (24 : Int32)) := ez1
  refine lv_aload_n hx hb dX5_push_7 rfl (lv_at hl 0 rfl) ?_
  refine va_get (D := rD g) (ci := 5) (v := .int (qI S 44 14)) (C := RX5) (T := TX5) (N := 20) hx hb hts inX5 hown hR.K hR.P 44 (hR.at45 (hR.w.2.1 _ finC_29).2.1) rfl 14 (by decide) (hts _ kw_1031) (fun _ h9 => h9) rfl dX5_push_8 ?_
  refine lv_iadd hx hb dX5_push_11 ?_
  refine lv_topi (fun z2 ez2 => ?_)
  obtain rfl : z2 = (((qI S 44 11) * (24 : Int32)) + (qI S 44 14)) := ez2
  obtain ⟨a3, ea3⟩ : ∃ z, z = (((qI S 44 11) * (24 : Int32)) + (qI S 44 14)) := ⟨_, rfl⟩
  rw [← ea3]
  replace h := h a3 ea3
  refine lv_istore_n (lv' := [(3, .int a3), (0, .ref (ad 44)), (1, .long y1)]) hx hb dX5_push_12 rfl hl (by decide) rfl (fun ls hl => ?_)
  refine lv_aload_n hx hb dX5_push_13 rfl (lv_at hl 1 rfl) ?_
  refine va_get (D := rD g) (ci := 5) (v := .int (qI S 44 14)) (C := RX5) (T := TX5) (N := 20) hx hb hts inX5 hown hR.K hR.P 44 (hR.at45 (hR.w.2.1 _ finC_29).2.1) rfl 14 (by decide) (hts _ kw_1031) (fun _ h9 => h9) rfl dX5_push_14 ?_
  have J_42 : ∀ (U42 : MS) (H : Heap) (locs : List Loc) (ls : Array Slot), w_X5_push_J42 Q U42 → shy S U42 → RepC g ad A s U42 H locs → lv_has ls 4 [(0, .ref (ad 44))] → W p l e (headSpec (wt yX5_push cX5_push 4 none) ({ frames := 0, cells := 0, slots := 0, locals := 0 })).room s m ([.ref (ad 44), .long y1] : List Value).toArray below meth c H locs 0 0 (MQ below (va_Qv (fun (u : MS) => Q u ∧ wfC u ∧ shy S u) (fun (u : MS) (t : State) => qEC g ad A u t) A) ([.ref (ad 44), .long y1] : List Value).toArray s 0 0 A) (F0 m 42 ls []) := by
    intro U42 H locs ls h hsh hR hl
    unfold w_X5_push_J42 at h
    replace h := h hR.w
    refine lv_aload_n hx hb dX5_push_42 rfl (lv_at hl 0 rfl) ?_
    refine lv_dup hx hb dX5_push_43 rfl ?_
    refine va_get (D := rD g) (ci := 5) (v := .int (qI U42 44 19)) (C := RX5) (T := TX5) (N := 20) hx hb hts inX5 hown hR.K hR.P 44 (hR.at45 (hR.w.2.1 _ finC_29).2.1) rfl 19 (by decide) (hts _ kw_1045) (fun _ h9 => h9) rfl dX5_push_44 ?_
    refine lv_iconst (v := 1) hx hb dX5_push_47 (by decide) ?_
    refine lv_iadd hx hb dX5_push_48 ?_
    refine lv_topi (fun z4 ez4 => ?_)
    obtain rfl : z4 = ((qI U42 44 19) + (1 : Int32)) := ez4
    refine va_put (D := rD g) (ci := 5) (v := .int ((qI U42 44 19) + (1 : Int32))) (ty := .int) (C := RX5) (T := TX5) (N := 20) hx hb hts inX5 tyX5 tyX5_ok nmX5 hown hR.K hR.P hR.D hR.sS 44 (hR.at45 (hR.w.2.1 _ finC_29).2.1) rfl 19 (by decide) (hts _ kw_1045) (fun _ h9 => h9) rfl (by decide +kernel) rfl rfl (Nat.le_of_ble_eq_true rfl) dX5_push_49 (fun H locs hP hD hS => ?_)
    have hTk9 : qT U42 44 = 45 := (hR.w.2.1 _ finC_29).2.1
    have hR : RepC g ad A s (wI U42 44 19 ((qI U42 44 19) + (1 : Int32))) H locs := hR.pI45 (hR.w.2.1 _ finC_29).2.1 FX5_s19 (fun q9 => absurd q9 (by decide)) hP hD hS
    obtain ⟨S5, eS5⟩ : ∃ z, z = wI U42 44 19 ((qI U42 44 19) + (1 : Int32)) := ⟨_, rfl⟩
    rw [← eS5] at hR
    replace h := h S5 eS5 hTk9 hR.w
    have hsh : shy S S5 := by rw [eS5]; exact hsh
    exact W.vret hx hb hr (fun t9 ht9 hW9 => ⟨⟨S5, rfl, ⟨h, hR.w, hsh⟩, ⟨by rw [ht9]; exact hR.P, hR.D⟩⟩, hR.sS.F ht9⟩) hR.sS.2.2 dX5_push_52
  refine lv_if_lt (tgt := 42) hx hb dX5_push_17 (by decide) (fun c6 => ?_) (fun c6 => ?_)
  · replace h := h.1 (k_lt rfl (by decide) c6)
    exact J_42 S _ _ ls h  hsh hR (lv_sub hl [1] rfl)
  · replace h := h.2 (k_nlt rfl (by decide) c6)
    refine lv_aload_n hx hb dX5_push_20 rfl (lv_at hl 1 rfl) ?_
    refine va_get (D := rD g) (ci := 5) (v := .int (qI S 44 14)) (C := RX5) (T := TX5) (N := 20) hx hb hts inX5 hown hR.K hR.P 44 (hR.at45 (hR.w.2.1 _ finC_29).2.1) rfl 14 (by decide) (hts _ kw_1031) (fun _ h9 => h9) rfl dX5_push_21 ?_
    refine lv_bipush (v := 24) hx hb dX5_push_24 (by decide) ?_
    refine lv_icmp_ge (tgt := 42) hx hb dX5_push_26 (by decide) (fun c7 => ?_) (fun c7 => ?_)
    · replace h := h.1 (k_le (by decide) rfl c7)
      exact J_42 S _ _ ls h  hsh hR (lv_sub hl [1] rfl)
    · replace h := h.2 (k_nle (by decide) rfl c7)
      refine lv_iload_n hx hb dX5_push_29 rfl (lv_at hl 0 rfl) ?_
      refine lv_if_lt (tgt := 42) hx hb dX5_push_30 (by decide) (fun c8 => ?_) (fun c8 => ?_)
      · replace h := h.1 (k_lt rfl (by decide) c8)
        exact J_42 S _ _ ls h  hsh hR (lv_sub hl [1] rfl)
      · replace h := h.2 (k_nlt rfl (by decide) c8)
        refine lv_iload_n hx hb dX5_push_33 rfl (lv_at hl 0 rfl) ?_
        refine lv_aload_n hx hb dX5_push_34 rfl (lv_at hl 1 rfl) ?_
        have hT_b9 : qT S (qO S 44 9) = 405 := hR.w.ref (hR.w.ptr ptrC_21) (hR.w.2.1 _ finC_29).2.1
        refine va_get (D := rD g) (ci := 5) (v := .ref (ad (qO S 44 9))) (C := RX5) (T := TX5) (N := 20) hx hb hts inX5 hown hR.K hR.P 44 (hR.at45 (hR.w.2.1 _ finC_29).2.1) rfl 9 (by decide) (hts _ kw_1046) (fun _ h9 => h9) (congrArg (fun z => some (vf ad z)) (hR.w.ptr ptrC_21)) dX5_push_35 ?_
        refine va_alen (v := (Int32.ofNat (qN S (qO S 44 9)))) hx hb hR.K hR.P (qO S 44 9) 3 (hR.atL hT_b9 (by decide)) rfl rfl dX5_push_38 ?_
        have hln10 : (Int32.ofNat (qN S (qO S 44 9))).toInt = (qN S (qO S 44 9) : Int) := toI_len (hR.w.len9 (hT_b9) (by decide))
        refine lv_icmp_lt (tgt := 53) hx hb dX5_push_39 (by decide) (fun c11 => ?_) (fun c11 => ?_)
        · replace h := h.1 (k_lt rfl hln10 c11)
          refine lv_aload_n hx hb dX5_push_53 rfl (lv_at hl 1 rfl) ?_
          have hT_b12 : qT S (qO S 44 9) = 405 := hR.w.ref (hR.w.ptr ptrC_21) (hR.w.2.1 _ finC_29).2.1
          refine va_get (D := rD g) (ci := 5) (v := .ref (ad (qO S 44 9))) (C := RX5) (T := TX5) (N := 20) hx hb hts inX5 hown hR.K hR.P 44 (hR.at45 (hR.w.2.1 _ finC_29).2.1) rfl 9 (by decide) (hts _ kw_1046) (fun _ h9 => h9) (congrArg (fun z => some (vf ad z)) (hR.w.ptr ptrC_21)) dX5_push_54 ?_
          refine lv_iload_n hx hb dX5_push_57 rfl (lv_at hl 0 rfl) ?_
          refine lv_lload_n hx hb dX5_push_58 rfl (lv_at hl 2 rfl) ?_
          obtain ⟨hv13, h⟩ := h
          refine va_last hx hb hR.K hR.P hR.D hR.sS (qO S 44 9) 3 (hR.atL hT_b12 (by decide)) rfl (k_ix (x := a3) (a := a3.toInt) rfl hv13) dX5_push_59 (fun H locs hP hD hS => ?_)
          have hTk9 : qT S (qO S 44 9) = 405 := hT_b12
          have hR : RepC g ad A s (wJ S (qO S 44 9) a3.toInt.toNat y1) H locs := hR.aL hT_b12 (by decide) hP hD hS
          obtain ⟨S14, eS14⟩ : ∃ z, z = wJ S (qO S 44 9) a3.toInt.toNat y1 := ⟨_, rfl⟩
          rw [← eS14] at hR
          replace h := h S14 eS14 hTk9 hR.w
          have hsh : shy S S14 := by rw [eS14]; exact hsh
          refine lv_aload_n hx hb dX5_push_60 rfl (lv_at hl 1 rfl) ?_
          refine lv_dup hx hb dX5_push_61 rfl ?_
          refine va_get (D := rD g) (ci := 5) (v := .int (qI S14 44 14)) (C := RX5) (T := TX5) (N := 20) hx hb hts inX5 hown hR.K hR.P 44 (hR.at45 (hR.w.2.1 _ finC_29).2.1) rfl 14 (by decide) (hts _ kw_1031) (fun _ h9 => h9) rfl dX5_push_62 ?_
          refine lv_iconst (v := 1) hx hb dX5_push_65 (by decide) ?_
          refine lv_iadd hx hb dX5_push_66 ?_
          refine lv_topi (fun z15 ez15 => ?_)
          obtain rfl : z15 = ((qI S14 44 14) + (1 : Int32)) := ez15
          refine va_put (D := rD g) (ci := 5) (v := .int ((qI S14 44 14) + (1 : Int32))) (ty := .int) (C := RX5) (T := TX5) (N := 20) hx hb hts inX5 tyX5 tyX5_ok nmX5 hown hR.K hR.P hR.D hR.sS 44 (hR.at45 (hR.w.2.1 _ finC_29).2.1) rfl 14 (by decide) (hts _ kw_1031) (fun _ h9 => h9) rfl (by decide +kernel) rfl rfl (Nat.le_of_ble_eq_true rfl) dX5_push_67 (fun H locs hP hD hS => ?_)
          have hTk9 : qT S14 44 = 45 := (hR.w.2.1 _ finC_29).2.1
          have hR : RepC g ad A s (wI S14 44 14 ((qI S14 44 14) + (1 : Int32))) H locs := hR.pI45 (hR.w.2.1 _ finC_29).2.1 FX5_s14 (fun q9 => absurd q9 (by decide)) hP hD hS
          obtain ⟨S16, eS16⟩ : ∃ z, z = wI S14 44 14 ((qI S14 44 14) + (1 : Int32)) := ⟨_, rfl⟩
          rw [← eS16] at hR
          replace h := h S16 eS16 hTk9 hR.w
          have hsh : shy S S16 := by rw [eS16]; exact hsh
          exact W.vret hx hb hr (fun t9 ht9 hW9 => ⟨⟨S16, rfl, ⟨h, hR.w, hsh⟩, ⟨by rw [ht9]; exact hR.P, hR.D⟩⟩, hR.sS.F ht9⟩) hR.sS.2.2 dX5_push_70
        · replace h := h.2 (k_nlt rfl hln10 c11)
          exact J_42 S _ _ ls h  hsh hR (lv_sub hl [1] rfl)
def w_X5_pop_J45 (Q : Int64 → MS → Prop) (U45 : MS) : Prop := (wfC U45 → (∀ S6, S6 = wI U45 44 19 ((qI U45 44 19) + (1 : Int32)) → qT U45 44 = 45 → wfC S6 → Q 0 S6))
def wX5_pop (S : MS) (Q : Int64 → MS → Prop) : Prop := (∀ a4 : Int32, a4 = ((((qI S 44 11) * (24 : Int32)) + (qI S 44 14)) - (1 : Int32)) → (((qI S 44 14).toInt < 1 → w_X5_pop_J45 Q S) ∧ (¬ (qI S 44 14).toInt < 1 → ((24 < (qI S 44 14).toInt → w_X5_pop_J45 Q S) ∧ (¬ 24 < (qI S 44 14).toInt → ((a4.toInt < 0 → w_X5_pop_J45 Q S) ∧ (¬ a4.toInt < 0 → ((a4.toInt < (qN S (qO S 44 9) : Int) → (∀ S14, S14 = wI S 44 14 ((qI S 44 14) - (1 : Int32)) → qT S 44 = 45 → wfC S14 → (((0 : Int) ≤ a4.toInt ∧ a4.toInt < (qN S14 (qO S14 44 9) : Int)) ∧ Q (qJ S14 (qO S14 44 9) a4.toInt.toNat) S14))) ∧ (¬ a4.toInt < (qN S (qO S 44 9) : Int) → w_X5_pop_J45 Q S)))))))))
set_option maxHeartbeats 2000000 in
set_option maxRecDepth 100000 in
theorem rX5_pop (l : Launch) (g : Gr) (ad : Nat → Nat) (sz : Nat) (S : MS) (hw : wfC S) (Q : Int64 → MS → Prop) (h : wX5_pop S Q) : Met l yX5_pop (wt yX5_pop cX5_pop 2 (some .long)) ({ frames := 0, cells := 0, slots := 0, locals := 0 }) (va_Pc [.ref (ad 44)] (st_C g ad sz S)) (va_Ql (fun (r : Int64) (u : MS) => Q r u ∧ wfC u ∧ shy S u) (fun (u : MS) (t : State) => qEC g ad (va_A (WdC g ad S) sz) u t) (va_A (WdC g ad S) sz)) 0 0 (va_A (WdC g ad S) sz) := by
  refine Met.ofW (cc := cX5_pop) (maxL := 2) (ret := (some .long)) (by decide) rfl ?_
  intro p e s m args below meth c s₁ B hml hv
  obtain ⟨rfl, hsz, hP, hK, hD0, hex, hE⟩ := hv
  have hx := B.exec
  have hb := B.bytes
  have hr := B.returns
  have hts0 := atoms_spec (ws := wt yX5_pop cX5_pop 2 (some .long)) B.pre
  have hts : ∀ w ∈ tb, w.before _ s = true := fun w h => hts0 w (List.mem_cons_of_mem _ h)
  have hown : s.vm.findClass RX5 = some m.cls := findClass_of_methodNamed B.named
  subst hsz
  have hD := hD0.self (sz := s.heap.size)
  generalize hAe : va_A (WdC g ad S) s.heap.size = A at hD hE ⊢
  have hA : ∀ q : Nat, s.heap.size ≤ q → A q := fun q h => by rw [← hAe]; exact Or.inr h
  have hR : RepC g ad A s S s.heap [] := ⟨hK, hP, hD, va_S.rf, hw⟩
  clear hK hP hD hD0
  have hl := lv_entry ([.ref (ad 44)]) (n := 2) (Nat.le_of_ble_eq_true rfl)
  rw [lg_entry_eq]
  generalize (lg_sl ([.ref (ad 44)]) ++ List.replicate (2 - (lg_sl ([.ref (ad 44)])).length) Slot.unset).toArray = ls at hl ⊢
  have hl : lv_has ls 2 [(0, .ref (ad 44))] := hl
  have hsh : shy S S := shy.rf
  unfold wX5_pop at h
  refine lv_aload_n hx hb dX5_pop_0 rfl (lv_at hl 0 rfl) ?_
  refine va_get (D := rD g) (ci := 5) (v := .int (qI S 44 11)) (C := RX5) (T := TX5) (N := 20) hx hb hts inX5 hown hR.K hR.P 44 (hR.at45 (hR.w.2.1 _ finC_29).2.1) rfl 11 (by decide) (hts _ kw_1025) (fun _ h9 => h9) rfl dX5_pop_1 ?_
  refine lv_bipush (v := 24) hx hb dX5_pop_4 (by decide) ?_
  refine lv_imul hx hb dX5_pop_6 ?_
  refine lv_topi (fun z1 ez1 => ?_)
  obtain rfl : z1 = ((qI S 44 11) * (24 : Int32)) := ez1
  refine lv_aload_n hx hb dX5_pop_7 rfl (lv_at hl 0 rfl) ?_
  refine va_get (D := rD g) (ci := 5) (v := .int (qI S 44 14)) (C := RX5) (T := TX5) (N := 20) hx hb hts inX5 hown hR.K hR.P 44 (hR.at45 (hR.w.2.1 _ finC_29).2.1) rfl 14 (by decide) (hts _ kw_1031) (fun _ h9 => h9) rfl dX5_pop_8 ?_
  refine lv_iadd hx hb dX5_pop_11 ?_
  refine lv_topi (fun z2 ez2 => ?_)
  obtain rfl : z2 = (((qI S 44 11) * (24 : Int32)) + (qI S 44 14)) := ez2
  refine lv_iconst (v := 1) hx hb dX5_pop_12 (by decide) ?_
  refine lv_isub hx hb dX5_pop_13 ?_
  refine lv_topi (fun z3 ez3 => ?_)
  obtain rfl : z3 = ((((qI S 44 11) * (24 : Int32)) + (qI S 44 14)) - (1 : Int32)) := ez3
  obtain ⟨a4, ea4⟩ : ∃ z, z = ((((qI S 44 11) * (24 : Int32)) + (qI S 44 14)) - (1 : Int32)) := ⟨_, rfl⟩
  rw [← ea4]
  replace h := h a4 ea4
  refine lv_istore_n (lv' := [(1, .int a4), (0, .ref (ad 44))]) hx hb dX5_pop_14 rfl hl (by decide) rfl (fun ls hl => ?_)
  refine lv_aload_n hx hb dX5_pop_15 rfl (lv_at hl 1 rfl) ?_
  refine va_get (D := rD g) (ci := 5) (v := .int (qI S 44 14)) (C := RX5) (T := TX5) (N := 20) hx hb hts inX5 hown hR.K hR.P 44 (hR.at45 (hR.w.2.1 _ finC_29).2.1) rfl 14 (by decide) (hts _ kw_1031) (fun _ h9 => h9) rfl dX5_pop_16 ?_
  refine lv_iconst (v := 1) hx hb dX5_pop_19 (by decide) ?_
  have J_45 : ∀ (U45 : MS) (H : Heap) (locs : List Loc) (ls : Array Slot), w_X5_pop_J45 Q U45 → shy S U45 → RepC g ad A s U45 H locs → lv_has ls 2 [(0, .ref (ad 44))] → W p l e (headSpec (wt yX5_pop cX5_pop 2 (some .long)) ({ frames := 0, cells := 0, slots := 0, locals := 0 })).room s m ([.ref (ad 44)] : List Value).toArray below meth c H locs 0 0 (MQ below (va_Ql (fun (r : Int64) (u : MS) => Q r u ∧ wfC u ∧ shy S u) (fun (u : MS) (t : State) => qEC g ad A u t) A) ([.ref (ad 44)] : List Value).toArray s 0 0 A) (F0 m 45 ls []) := by
    intro U45 H locs ls h hsh hR hl
    unfold w_X5_pop_J45 at h
    replace h := h hR.w
    refine lv_aload_n hx hb dX5_pop_45 rfl (lv_at hl 0 rfl) ?_
    refine lv_dup hx hb dX5_pop_46 rfl ?_
    refine va_get (D := rD g) (ci := 5) (v := .int (qI U45 44 19)) (C := RX5) (T := TX5) (N := 20) hx hb hts inX5 hown hR.K hR.P 44 (hR.at45 (hR.w.2.1 _ finC_29).2.1) rfl 19 (by decide) (hts _ kw_1045) (fun _ h9 => h9) rfl dX5_pop_47 ?_
    refine lv_iconst (v := 1) hx hb dX5_pop_50 (by decide) ?_
    refine lv_iadd hx hb dX5_pop_51 ?_
    refine lv_topi (fun z5 ez5 => ?_)
    obtain rfl : z5 = ((qI U45 44 19) + (1 : Int32)) := ez5
    refine va_put (D := rD g) (ci := 5) (v := .int ((qI U45 44 19) + (1 : Int32))) (ty := .int) (C := RX5) (T := TX5) (N := 20) hx hb hts inX5 tyX5 tyX5_ok nmX5 hown hR.K hR.P hR.D hR.sS 44 (hR.at45 (hR.w.2.1 _ finC_29).2.1) rfl 19 (by decide) (hts _ kw_1045) (fun _ h9 => h9) rfl (by decide +kernel) rfl rfl (Nat.le_of_ble_eq_true rfl) dX5_pop_52 (fun H locs hP hD hS => ?_)
    have hTk9 : qT U45 44 = 45 := (hR.w.2.1 _ finC_29).2.1
    have hR : RepC g ad A s (wI U45 44 19 ((qI U45 44 19) + (1 : Int32))) H locs := hR.pI45 (hR.w.2.1 _ finC_29).2.1 FX5_s19 (fun q9 => absurd q9 (by decide)) hP hD hS
    obtain ⟨S6, eS6⟩ : ∃ z, z = wI U45 44 19 ((qI U45 44 19) + (1 : Int32)) := ⟨_, rfl⟩
    rw [← eS6] at hR
    replace h := h S6 eS6 hTk9 hR.w
    have hsh : shy S S6 := by rw [eS6]; exact hsh
    refine lv_lconst (v := 0) hx hb dX5_pop_55 (by decide) ?_
    exact W.lret (v := 0) hx hb hr (fun t9 ht9 hW9 => ⟨⟨_, S6, rfl, ⟨h, hR.w, hsh⟩, ⟨by rw [ht9]; exact hR.P, hR.D⟩⟩, hR.sS.F ht9⟩) hR.sS.2.2 dX5_pop_56
  refine lv_icmp_lt (tgt := 45) hx hb dX5_pop_20 (by decide) (fun c7 => ?_) (fun c7 => ?_)
  · replace h := h.1 (k_lt rfl (by decide) c7)
    exact J_45 S _ _ ls h  hsh hR (lv_sub hl [1] rfl)
  · replace h := h.2 (k_nlt rfl (by decide) c7)
    refine lv_aload_n hx hb dX5_pop_23 rfl (lv_at hl 1 rfl) ?_
    refine va_get (D := rD g) (ci := 5) (v := .int (qI S 44 14)) (C := RX5) (T := TX5) (N := 20) hx hb hts inX5 hown hR.K hR.P 44 (hR.at45 (hR.w.2.1 _ finC_29).2.1) rfl 14 (by decide) (hts _ kw_1031) (fun _ h9 => h9) rfl dX5_pop_24 ?_
    refine lv_bipush (v := 24) hx hb dX5_pop_27 (by decide) ?_
    refine lv_icmp_gt (tgt := 45) hx hb dX5_pop_29 (by decide) (fun c8 => ?_) (fun c8 => ?_)
    · replace h := h.1 (k_lt (by decide) rfl c8)
      exact J_45 S _ _ ls h  hsh hR (lv_sub hl [1] rfl)
    · replace h := h.2 (k_nlt (by decide) rfl c8)
      refine lv_iload_n hx hb dX5_pop_32 rfl (lv_at hl 0 rfl) ?_
      refine lv_if_lt (tgt := 45) hx hb dX5_pop_33 (by decide) (fun c9 => ?_) (fun c9 => ?_)
      · replace h := h.1 (k_lt rfl (by decide) c9)
        exact J_45 S _ _ ls h  hsh hR (lv_sub hl [1] rfl)
      · replace h := h.2 (k_nlt rfl (by decide) c9)
        refine lv_iload_n hx hb dX5_pop_36 rfl (lv_at hl 0 rfl) ?_
        refine lv_aload_n hx hb dX5_pop_37 rfl (lv_at hl 1 rfl) ?_
        have hT_b10 : qT S (qO S 44 9) = 405 := hR.w.ref (hR.w.ptr ptrC_21) (hR.w.2.1 _ finC_29).2.1
        refine va_get (D := rD g) (ci := 5) (v := .ref (ad (qO S 44 9))) (C := RX5) (T := TX5) (N := 20) hx hb hts inX5 hown hR.K hR.P 44 (hR.at45 (hR.w.2.1 _ finC_29).2.1) rfl 9 (by decide) (hts _ kw_1046) (fun _ h9 => h9) (congrArg (fun z => some (vf ad z)) (hR.w.ptr ptrC_21)) dX5_pop_38 ?_
        refine va_alen (v := (Int32.ofNat (qN S (qO S 44 9)))) hx hb hR.K hR.P (qO S 44 9) 3 (hR.atL hT_b10 (by decide)) rfl rfl dX5_pop_41 ?_
        have hln11 : (Int32.ofNat (qN S (qO S 44 9))).toInt = (qN S (qO S 44 9) : Int) := toI_len (hR.w.len9 (hT_b10) (by decide))
        refine lv_icmp_lt (tgt := 57) hx hb dX5_pop_42 (by decide) (fun c12 => ?_) (fun c12 => ?_)
        · replace h := h.1 (k_lt rfl hln11 c12)
          refine lv_aload_n hx hb dX5_pop_57 rfl (lv_at hl 1 rfl) ?_
          refine lv_dup hx hb dX5_pop_58 rfl ?_
          refine va_get (D := rD g) (ci := 5) (v := .int (qI S 44 14)) (C := RX5) (T := TX5) (N := 20) hx hb hts inX5 hown hR.K hR.P 44 (hR.at45 (hR.w.2.1 _ finC_29).2.1) rfl 14 (by decide) (hts _ kw_1031) (fun _ h9 => h9) rfl dX5_pop_59 ?_
          refine lv_iconst (v := 1) hx hb dX5_pop_62 (by decide) ?_
          refine lv_isub hx hb dX5_pop_63 ?_
          refine lv_topi (fun z13 ez13 => ?_)
          obtain rfl : z13 = ((qI S 44 14) - (1 : Int32)) := ez13
          refine va_put (D := rD g) (ci := 5) (v := .int ((qI S 44 14) - (1 : Int32))) (ty := .int) (C := RX5) (T := TX5) (N := 20) hx hb hts inX5 tyX5 tyX5_ok nmX5 hown hR.K hR.P hR.D hR.sS 44 (hR.at45 (hR.w.2.1 _ finC_29).2.1) rfl 14 (by decide) (hts _ kw_1031) (fun _ h9 => h9) rfl (by decide +kernel) rfl rfl (Nat.le_of_ble_eq_true rfl) dX5_pop_64 (fun H locs hP hD hS => ?_)
          have hTk9 : qT S 44 = 45 := (hR.w.2.1 _ finC_29).2.1
          have hR : RepC g ad A s (wI S 44 14 ((qI S 44 14) - (1 : Int32))) H locs := hR.pI45 (hR.w.2.1 _ finC_29).2.1 FX5_s14 (fun q9 => absurd q9 (by decide)) hP hD hS
          obtain ⟨S14, eS14⟩ : ∃ z, z = wI S 44 14 ((qI S 44 14) - (1 : Int32)) := ⟨_, rfl⟩
          rw [← eS14] at hR
          replace h := h S14 eS14 hTk9 hR.w
          have hsh : shy S S14 := by rw [eS14]; exact hsh
          refine lv_aload_n hx hb dX5_pop_67 rfl (lv_at hl 1 rfl) ?_
          have hT_b15 : qT S14 (qO S14 44 9) = 405 := hR.w.ref (hR.w.ptr ptrC_21) (hR.w.2.1 _ finC_29).2.1
          refine va_get (D := rD g) (ci := 5) (v := .ref (ad (qO S14 44 9))) (C := RX5) (T := TX5) (N := 20) hx hb hts inX5 hown hR.K hR.P 44 (hR.at45 (hR.w.2.1 _ finC_29).2.1) rfl 9 (by decide) (hts _ kw_1046) (fun _ h9 => h9) (congrArg (fun z => some (vf ad z)) (hR.w.ptr ptrC_21)) dX5_pop_68 ?_
          refine lv_iload_n hx hb dX5_pop_71 rfl (lv_at hl 0 rfl) ?_
          obtain ⟨hv16, h⟩ := h
          refine va_lald hx hb hR.K hR.P (qO S14 44 9) 3 (hR.atL hT_b15 (by decide)) rfl (k_ix (x := a4) (a := a4.toInt) rfl hv16) dX5_pop_72 ?_
          refine lv_topl (fun z17 ez17 => ?_)
          obtain rfl : z17 = (qJ S14 (qO S14 44 9) a4.toInt.toNat) := ez17
          exact W.lret (v := (qJ S14 (qO S14 44 9) a4.toInt.toNat)) hx hb hr (fun t9 ht9 hW9 => ⟨⟨_, S14, rfl, ⟨h, hR.w, hsh⟩, ⟨by rw [ht9]; exact hR.P, hR.D⟩⟩, hR.sS.F ht9⟩) hR.sS.2.2 dX5_pop_73
        · replace h := h.2 (k_nlt rfl hln11 c12)
          exact J_45 S _ _ ls h  hsh hR (lv_sub hl [1] rfl)
def w_X5_push__J9 (Q : MS → Prop) (U9 : MS) (v9_1 : Int32) : Prop := (wfC U9 → ((v9_1.toInt = 2 → (∃ Q2, wX5_push U9 0 Q2 ∧ ∀ S3, Q2 S3 → wfC S3 → shy U9 S3 → Q S3)) ∧ (¬ v9_1.toInt = 2 → Q U9)))
def wX5_push_ (S : MS) (x1 : Int32) (y2 : Int64) (Q : MS → Prop) : Prop := ((x1.toInt = 0 → w_X5_push__J9 Q S x1) ∧ (¬ x1.toInt = 0 → (∃ Q6, wX5_push S y2 Q6 ∧ ∀ S7, Q6 S7 → wfC S7 → shy S S7 → w_X5_push__J9 Q S7 x1)))
set_option maxHeartbeats 2000000 in
set_option maxRecDepth 100000 in
theorem rX5_push_ (l : Launch) (g : Gr) (ad : Nat → Nat) (sz : Nat) (S : MS) (x1 : Int32) (y2 : Int64) (hw : wfC S) (Q : MS → Prop) (h : wX5_push_ S x1 y2 Q) : Met l yX5_push_ (wt yX5_push_ cX5_push_ 4 none) ({ frames := 1, cells := 0, slots := 0, locals := 23 }) (va_Pc [.ref (ad 44), .int x1, .long y2] (st_C g ad sz S)) (va_Qv (fun (u : MS) => Q u ∧ wfC u ∧ shy S u) (fun (u : MS) (t : State) => qEC g ad (va_A (WdC g ad S) sz) u t) (va_A (WdC g ad S) sz)) 0 0 (va_A (WdC g ad S) sz) := by
  refine Met.ofW (cc := cX5_push_) (maxL := 4) (ret := none) (by decide) rfl ?_
  intro p e s m args below meth c s₁ B hml hv
  obtain ⟨rfl, hsz, hP, hK, hD0, hex, hE⟩ := hv
  have hx := B.exec
  have hb := B.bytes
  have hr := B.returns
  have hts0 := atoms_spec (ws := wt yX5_push_ cX5_push_ 4 none) B.pre
  have hts : ∀ w ∈ tb, w.before _ s = true := fun w h => hts0 w (List.mem_cons_of_mem _ h)
  have hown : s.vm.findClass RX5 = some m.cls := findClass_of_methodNamed B.named
  subst hsz
  have hD := hD0.self (sz := s.heap.size)
  generalize hAe : va_A (WdC g ad S) s.heap.size = A at hD hE ⊢
  have hA : ∀ q : Nat, s.heap.size ≤ q → A q := fun q h => by rw [← hAe]; exact Or.inr h
  have hR : RepC g ad A s S s.heap [] := ⟨hK, hP, hD, va_S.rf, hw⟩
  clear hK hP hD hD0
  have hl := lv_entry ([.ref (ad 44), .int x1, .long y2]) (n := 4) (Nat.le_of_ble_eq_true rfl)
  rw [lg_entry_eq]
  generalize (lg_sl ([.ref (ad 44), .int x1, .long y2]) ++ List.replicate (4 - (lg_sl ([.ref (ad 44), .int x1, .long y2])).length) Slot.unset).toArray = ls at hl ⊢
  have hl : lv_has ls 4 [(0, .ref (ad 44)), (1, .int x1), (2, .long y2)] := hl
  have hsh : shy S S := shy.rf
  unfold wX5_push_ at h
  refine lv_iload_n hx hb dX5_push__0 rfl (lv_at hl 1 rfl) ?_
  have J_9 : ∀ (U9 : MS) (v9_1 : Int32) (H : Heap) (locs : List Loc) (ls : Array Slot), w_X5_push__J9 Q U9 v9_1 → shy S U9 → RepC g ad A s U9 H locs → lv_has ls 4 [(0, .ref (ad 44)), (1, .int v9_1)] → W p l e (headSpec (wt yX5_push_ cX5_push_ 4 none) ({ frames := 1, cells := 0, slots := 0, locals := 23 })).room s m ([.ref (ad 44), .int x1, .long y2] : List Value).toArray below meth c H locs 0 0 (MQ below (va_Qv (fun (u : MS) => Q u ∧ wfC u ∧ shy S u) (fun (u : MS) (t : State) => qEC g ad A u t) A) ([.ref (ad 44), .int x1, .long y2] : List Value).toArray s 0 0 A) (F0 m 9 ls []) := by
    intro U9 v9_1 H locs ls h hsh hR hl
    unfold w_X5_push__J9 at h
    replace h := h hR.w
    refine lv_iload_n hx hb dX5_push__9 rfl (lv_at hl 1 rfl) ?_
    refine lv_iconst (v := 2) hx hb dX5_push__10 (by decide) ?_
    refine lv_icmp_ne (tgt := 19) hx hb dX5_push__11 (by decide) (fun c1 => ?_) (fun c1 => ?_)
    · replace h := h.2 (k_ne rfl (by decide) c1)
      exact W.vret hx hb hr (fun t9 ht9 hW9 => ⟨⟨U9, rfl, ⟨h, hR.w, hsh⟩, ⟨by rw [ht9]; exact hR.P, hR.D⟩⟩, hR.sS.F ht9⟩) hR.sS.2.2 dX5_push__19
    · replace h := h.1 (k_eq rfl (by decide) c1)
      refine lv_aload_n hx hb dX5_push__14 rfl (lv_at hl 0 rfl) ?_
      refine lv_lconst (v := 0) hx hb dX5_push__15 (by decide) ?_
      obtain ⟨Q2, h0, h⟩ := h
      have hFc := cfree hR hA
      refine va_callv (va_runV (As := [.long 0]) (rest := []) ⟨hx, hb, hml, hown, hts⟩ (rX5_push l g ad H.size U9 0 hR.w  Q2 h0) (cwV 1 hts (gd_V kw_1099 kw_1130 kw_1131 kw_398 kw_1129) rfl rfl rfl (by decide +kernel) ⟨Nat.le_of_ble_eq_true rfl, Nat.le_of_ble_eq_true rfl⟩) ⟨cblind, va_recv hR.K hR.P (ci := 5) (q0 := 44) rfl (hR.at45 (hR.w.2.1 _ finC_29).2.1), fun U hU hW9 => cmk hU hW9 hR hex hE hFc⟩ rfl rfl hl.1 rfl (lv_room (Nat.le_of_ble_eq_true rfl)) dX5_push__16 ⟨Nat.le_of_ble_eq_true rfl, Nat.le_of_ble_eq_true rfl⟩) hR.sS (fun q _ h => hFc q h) hFc (fun  S3 t9 H1 locs ht9 hvm9 hw9 hB9 hz9 hk9 hS => ?_)
      obtain ⟨hq4, hw9, hs9⟩ := hw9
      have hR : RepC g ad A s S3 H1 locs := hR.call ht9 hB9 hw9 hS hFc
      have hsh := hsh.tr hs9
      replace h := h  S3 hq4 hw9 hs9
      clear hB9 hz9 hk9 hvm9 ht9 hw9 hs9 hS
      generalize H1 = H at hR ⊢
      exact W.vret hx hb hr (fun t9 ht9 hW9 => ⟨⟨S3, rfl, ⟨h, hR.w, hsh⟩, ⟨by rw [ht9]; exact hR.P, hR.D⟩⟩, hR.sS.F ht9⟩) hR.sS.2.2 dX5_push__19
  refine lv_if_eq (tgt := 9) hx hb dX5_push__1 (by decide) (fun c5 => ?_) (fun c5 => ?_)
  · replace h := h.1 (k_eq rfl (by decide) c5)
    exact J_9 S x1 _ _ ls h  hsh hR (lv_sub hl [0, 1] rfl)
  · replace h := h.2 (k_ne rfl (by decide) c5)
    refine lv_aload_n hx hb dX5_push__4 rfl (lv_at hl 0 rfl) ?_
    refine lv_lload_n hx hb dX5_push__5 rfl (lv_at hl 2 rfl) ?_
    obtain ⟨Q6, h0, h⟩ := h
    have hFc := cfree hR hA
    refine va_callv (va_runV (As := [.long y2]) (rest := []) ⟨hx, hb, hml, hown, hts⟩ (rX5_push l g ad s.heap.size S y2 hR.w  Q6 h0) (cwV 1 hts (gd_V kw_1099 kw_1130 kw_1131 kw_398 kw_1129) rfl rfl rfl (by decide +kernel) ⟨Nat.le_of_ble_eq_true rfl, Nat.le_of_ble_eq_true rfl⟩) ⟨cblind, va_recv hR.K hR.P (ci := 5) (q0 := 44) rfl (hR.at45 (hR.w.2.1 _ finC_29).2.1), fun U hU hW9 => cmk hU hW9 hR hex hE hFc⟩ rfl rfl hl.1 rfl (lv_room (Nat.le_of_ble_eq_true rfl)) dX5_push__6 ⟨Nat.le_of_ble_eq_true rfl, Nat.le_of_ble_eq_true rfl⟩) hR.sS (fun q _ h => hFc q h) hFc (fun  S7 t9 H1 locs ht9 hvm9 hw9 hB9 hz9 hk9 hS => ?_)
    obtain ⟨hq8, hw9, hs9⟩ := hw9
    have hR : RepC g ad A s S7 H1 locs := hR.call ht9 hB9 hw9 hS hFc
    have hsh := hsh.tr hs9
    replace h := h  S7 hq8 hw9 hs9
    clear hB9 hz9 hk9 hvm9 ht9 hw9 hs9 hS
    generalize H1 = H at hR ⊢
    exact J_9 S7 x1 _ _ ls h  hsh hR (lv_sub hl [0, 1] rfl)
def w_X5_pop__J10 (Q : Int64 → MS → Prop) (U10 : MS) (v10_1 : Int32) : Prop := (wfC U10 → ((v10_1.toInt = 0 → Q 0 U10) ∧ (¬ v10_1.toInt = 0 → (∃ Q2, wX5_pop U10 Q2 ∧ ∀ r3 S4, Q2 r3 S4 → wfC S4 → shy U10 S4 → Q r3 S4))))
def wX5_pop_ (S : MS) (x1 : Int32) (Q : Int64 → MS → Prop) : Prop := ((x1.toInt = 2 → (∃ Q7, wX5_pop S Q7 ∧ ∀ r8 S9, Q7 r8 S9 → wfC S9 → shy S S9 → w_X5_pop__J10 Q S9 x1)) ∧ (¬ x1.toInt = 2 → w_X5_pop__J10 Q S x1))
set_option maxHeartbeats 2000000 in
set_option maxRecDepth 100000 in
theorem rX5_pop_ (l : Launch) (g : Gr) (ad : Nat → Nat) (sz : Nat) (S : MS) (x1 : Int32) (hw : wfC S) (Q : Int64 → MS → Prop) (h : wX5_pop_ S x1 Q) : Met l yX5_pop_ (wt yX5_pop_ cX5_pop_ 2 (some .long)) ({ frames := 1, cells := 0, slots := 0, locals := 21 }) (va_Pc [.ref (ad 44), .int x1] (st_C g ad sz S)) (va_Ql (fun (r : Int64) (u : MS) => Q r u ∧ wfC u ∧ shy S u) (fun (u : MS) (t : State) => qEC g ad (va_A (WdC g ad S) sz) u t) (va_A (WdC g ad S) sz)) 0 0 (va_A (WdC g ad S) sz) := by
  refine Met.ofW (cc := cX5_pop_) (maxL := 2) (ret := (some .long)) (by decide) rfl ?_
  intro p e s m args below meth c s₁ B hml hv
  obtain ⟨rfl, hsz, hP, hK, hD0, hex, hE⟩ := hv
  have hx := B.exec
  have hb := B.bytes
  have hr := B.returns
  have hts0 := atoms_spec (ws := wt yX5_pop_ cX5_pop_ 2 (some .long)) B.pre
  have hts : ∀ w ∈ tb, w.before _ s = true := fun w h => hts0 w (List.mem_cons_of_mem _ h)
  have hown : s.vm.findClass RX5 = some m.cls := findClass_of_methodNamed B.named
  subst hsz
  have hD := hD0.self (sz := s.heap.size)
  generalize hAe : va_A (WdC g ad S) s.heap.size = A at hD hE ⊢
  have hA : ∀ q : Nat, s.heap.size ≤ q → A q := fun q h => by rw [← hAe]; exact Or.inr h
  have hR : RepC g ad A s S s.heap [] := ⟨hK, hP, hD, va_S.rf, hw⟩
  clear hK hP hD hD0
  have hl := lv_entry ([.ref (ad 44), .int x1]) (n := 2) (Nat.le_of_ble_eq_true rfl)
  rw [lg_entry_eq]
  generalize (lg_sl ([.ref (ad 44), .int x1]) ++ List.replicate (2 - (lg_sl ([.ref (ad 44), .int x1])).length) Slot.unset).toArray = ls at hl ⊢
  have hl : lv_has ls 2 [(0, .ref (ad 44)), (1, .int x1)] := hl
  have hsh : shy S S := shy.rf
  unfold wX5_pop_ at h
  refine lv_iload_n hx hb dX5_pop__0 rfl (lv_at hl 1 rfl) ?_
  refine lv_iconst (v := 2) hx hb dX5_pop__1 (by decide) ?_
  have J_10 : ∀ (U10 : MS) (v10_1 : Int32) (H : Heap) (locs : List Loc) (ls : Array Slot), w_X5_pop__J10 Q U10 v10_1 → shy S U10 → RepC g ad A s U10 H locs → lv_has ls 2 [(0, .ref (ad 44)), (1, .int v10_1)] → W p l e (headSpec (wt yX5_pop_ cX5_pop_ 2 (some .long)) ({ frames := 1, cells := 0, slots := 0, locals := 21 })).room s m ([.ref (ad 44), .int x1] : List Value).toArray below meth c H locs 0 0 (MQ below (va_Ql (fun (r : Int64) (u : MS) => Q r u ∧ wfC u ∧ shy S u) (fun (u : MS) (t : State) => qEC g ad A u t) A) ([.ref (ad 44), .int x1] : List Value).toArray s 0 0 A) (F0 m 10 ls []) := by
    intro U10 v10_1 H locs ls h hsh hR hl
    unfold w_X5_pop__J10 at h
    replace h := h hR.w
    refine lv_iload_n hx hb dX5_pop__10 rfl (lv_at hl 1 rfl) ?_
    refine lv_if_ne (tgt := 18) hx hb dX5_pop__11 (by decide) (fun c1 => ?_) (fun c1 => ?_)
    · replace h := h.2 (k_ne rfl (by decide) c1)
      refine lv_aload_n hx hb dX5_pop__18 rfl (lv_at hl 0 rfl) ?_
      obtain ⟨Q2, h0, h⟩ := h
      have hFc := cfree hR hA
      refine va_calll (va_runV (As := []) (rest := []) ⟨hx, hb, hml, hown, hts⟩ (rX5_pop l g ad H.size U10 hR.w  Q2 h0) (cwV 0 hts (gd_V kw_1080 kw_1124 kw_1125 kw_398 kw_1123) rfl rfl rfl (by decide +kernel) ⟨Nat.le_of_ble_eq_true rfl, Nat.le_of_ble_eq_true rfl⟩) ⟨cblind, va_recv hR.K hR.P (ci := 5) (q0 := 44) rfl (hR.at45 (hR.w.2.1 _ finC_29).2.1), fun U hU hW9 => cmk hU hW9 hR hex hE hFc⟩ rfl rfl hl.1 rfl (lv_room (Nat.le_of_ble_eq_true rfl)) dX5_pop__19 ⟨Nat.le_of_ble_eq_true rfl, Nat.le_of_ble_eq_true rfl⟩) hR.sS (fun q _ h => hFc q h) hFc (fun r3 S4 t9 H1 locs ht9 hvm9 hw9 hB9 hz9 hk9 hS => ?_)
      obtain ⟨hq5, hw9, hs9⟩ := hw9
      have hR : RepC g ad A s S4 H1 locs := hR.call ht9 hB9 hw9 hS hFc
      have hsh := hsh.tr hs9
      replace h := h r3 S4 hq5 hw9 hs9
      clear hB9 hz9 hk9 hvm9 ht9 hw9 hs9 hS
      generalize H1 = H at hR ⊢
      exact W.lret (v := r3) hx hb hr (fun t9 ht9 hW9 => ⟨⟨_, S4, rfl, ⟨h, hR.w, hsh⟩, ⟨by rw [ht9]; exact hR.P, hR.D⟩⟩, hR.sS.F ht9⟩) hR.sS.2.2 dX5_pop__22
    · replace h := h.1 (k_eq rfl (by decide) c1)
      refine lv_lconst (v := 0) hx hb dX5_pop__14 (by decide) ?_
      refine lv_goto (tgt := 22) hx hb dX5_pop__15 (by decide) ?_
      exact W.lret (v := 0) hx hb hr (fun t9 ht9 hW9 => ⟨⟨_, U10, rfl, ⟨h, hR.w, hsh⟩, ⟨by rw [ht9]; exact hR.P, hR.D⟩⟩, hR.sS.F ht9⟩) hR.sS.2.2 dX5_pop__22
  refine lv_icmp_ne (tgt := 10) hx hb dX5_pop__2 (by decide) (fun c6 => ?_) (fun c6 => ?_)
  · replace h := h.2 (k_ne rfl (by decide) c6)
    exact J_10 S x1 _ _ ls h  hsh hR (lv_sub hl [0, 1] rfl)
  · replace h := h.1 (k_eq rfl (by decide) c6)
    refine lv_aload_n hx hb dX5_pop__5 rfl (lv_at hl 0 rfl) ?_
    obtain ⟨Q7, h0, h⟩ := h
    have hFc := cfree hR hA
    refine va_calll (va_runV (As := []) (rest := []) ⟨hx, hb, hml, hown, hts⟩ (rX5_pop l g ad s.heap.size S hR.w  Q7 h0) (cwV 0 hts (gd_V kw_1080 kw_1124 kw_1125 kw_398 kw_1123) rfl rfl rfl (by decide +kernel) ⟨Nat.le_of_ble_eq_true rfl, Nat.le_of_ble_eq_true rfl⟩) ⟨cblind, va_recv hR.K hR.P (ci := 5) (q0 := 44) rfl (hR.at45 (hR.w.2.1 _ finC_29).2.1), fun U hU hW9 => cmk hU hW9 hR hex hE hFc⟩ rfl rfl hl.1 rfl (lv_room (Nat.le_of_ble_eq_true rfl)) dX5_pop__6 ⟨Nat.le_of_ble_eq_true rfl, Nat.le_of_ble_eq_true rfl⟩) hR.sS (fun q _ h => hFc q h) hFc (fun r8 S9 t9 H1 locs ht9 hvm9 hw9 hB9 hz9 hk9 hS => ?_)
    obtain ⟨hq10, hw9, hs9⟩ := hw9
    have hR : RepC g ad A s S9 H1 locs := hR.call ht9 hB9 hw9 hS hFc
    have hsh := hsh.tr hs9
    replace h := h r8 S9 hq10 hw9 hs9
    clear hB9 hz9 hk9 hvm9 ht9 hw9 hs9 hS
    generalize H1 = H at hR ⊢
    refine lv_pop2_2 hx hb dX5_pop__9 rfl ?_
    exact J_10 S9 x1 _ _ ls h  hsh hR (lv_sub hl [0, 1] rfl)
def w_X5_shuffle_J25 (Q : MS → Prop) (U25 : MS) (t25_0 : Int64) (v25_1 : Int32) (v25_2 : Int64) : Prop := (wfC U25 → ((v25_1.toInt = 89 → (∃ Q5, wX5_push U25 v25_2 Q5 ∧ ∀ S6, Q5 S6 → wfC S6 → shy U25 S6 → (∃ Q8, wX5_push S6 v25_2 Q8 ∧ ∀ S9, Q8 S9 → wfC S9 → shy S6 S9 → Q S9))) ∧ (¬ v25_1.toInt = 89 → ((v25_1.toInt = 90 → (∃ Q11, wX5_push U25 v25_2 Q11 ∧ ∀ S12, Q11 S12 → wfC S12 → shy U25 S12 → (∃ Q14, wX5_push S12 t25_0 Q14 ∧ ∀ S15, Q14 S15 → wfC S15 → shy S12 S15 → (∃ Q17, wX5_push S15 v25_2 Q17 ∧ ∀ S18, Q17 S18 → wfC S18 → shy S15 S18 → Q S18)))) ∧ (¬ v25_1.toInt = 90 → ((v25_1.toInt = 91 → Q U25) ∧ (¬ v25_1.toInt = 91 → ((v25_1.toInt = 92 → (∃ Q20, wX5_push U25 t25_0 Q20 ∧ ∀ S21, Q20 S21 → wfC S21 → shy U25 S21 → (∃ Q23, wX5_push S21 v25_2 Q23 ∧ ∀ S24, Q23 S24 → wfC S24 → shy S21 S24 → (∃ Q26, wX5_push S24 t25_0 Q26 ∧ ∀ S27, Q26 S27 → wfC S27 → shy S24 S27 → (∃ Q29, wX5_push S27 v25_2 Q29 ∧ ∀ S30, Q29 S30 → wfC S30 → shy S27 S30 → Q S30))))) ∧ (¬ v25_1.toInt = 92 → ((v25_1.toInt = 93 → Q U25) ∧ (¬ v25_1.toInt = 93 → ((v25_1.toInt = 94 → Q U25) ∧ (¬ v25_1.toInt = 94 → ((v25_1.toInt = 95 → (∃ Q32, wX5_push U25 v25_2 Q32 ∧ ∀ S33, Q32 S33 → wfC S33 → shy U25 S33 → (∃ Q35, wX5_push S33 t25_0 Q35 ∧ ∀ S36, Q35 S36 → wfC S36 → shy S33 S36 → Q S36))) ∧ (¬ v25_1.toInt = 95 → Q U25)))))))))))))))
def w_X5_shuffle_J17 (Q : MS → Prop) (U17 : MS) (v17_1 : Int32) (v17_2 : Int64) : Prop := (wfC U17 → w_X5_shuffle_J25 Q U17 0 v17_1 v17_2)
def wX5_shuffle (S : MS) (x1 : Int32) (Q : MS → Prop) : Prop := (∃ Q1, wX5_pop S Q1 ∧ ∀ r2 S3, Q1 r2 S3 → wfC S3 → shy S S3 → ((x1.toInt = 87 → w_X5_shuffle_J17 Q S3 x1 r2) ∧ (¬ x1.toInt = 87 → ((x1.toInt = 89 → w_X5_shuffle_J17 Q S3 x1 r2) ∧ (¬ x1.toInt = 89 → (∃ Q40, wX5_pop S3 Q40 ∧ ∀ r41 S42, Q40 r41 S42 → wfC S42 → shy S3 S42 → w_X5_shuffle_J25 Q S42 r41 x1 r2))))))
set_option maxHeartbeats 2000000 in
set_option maxRecDepth 100000 in
theorem rX5_shuffle (l : Launch) (g : Gr) (ad : Nat → Nat) (sz : Nat) (S : MS) (x1 : Int32) (hw : wfC S) (Q : MS → Prop) (h : wX5_shuffle S x1 Q) : Met l yX5_shuffle (wt yX5_shuffle cX5_shuffle 6 none) ({ frames := 1, cells := 0, slots := 0, locals := 23 }) (va_Pc [.ref (ad 44), .int x1] (st_C g ad sz S)) (va_Qv (fun (u : MS) => Q u ∧ wfC u ∧ shy S u) (fun (u : MS) (t : State) => qEC g ad (va_A (WdC g ad S) sz) u t) (va_A (WdC g ad S) sz)) 0 0 (va_A (WdC g ad S) sz) := by
  refine Met.ofW (cc := cX5_shuffle) (maxL := 6) (ret := none) (by decide) rfl ?_
  intro p e s m args below meth c s₁ B hml hv
  obtain ⟨rfl, hsz, hP, hK, hD0, hex, hE⟩ := hv
  have hx := B.exec
  have hb := B.bytes
  have hr := B.returns
  have hts0 := atoms_spec (ws := wt yX5_shuffle cX5_shuffle 6 none) B.pre
  have hts : ∀ w ∈ tb, w.before _ s = true := fun w h => hts0 w (List.mem_cons_of_mem _ h)
  have hown : s.vm.findClass RX5 = some m.cls := findClass_of_methodNamed B.named
  subst hsz
  have hD := hD0.self (sz := s.heap.size)
  generalize hAe : va_A (WdC g ad S) s.heap.size = A at hD hE ⊢
  have hA : ∀ q : Nat, s.heap.size ≤ q → A q := fun q h => by rw [← hAe]; exact Or.inr h
  have hR : RepC g ad A s S s.heap [] := ⟨hK, hP, hD, va_S.rf, hw⟩
  clear hK hP hD hD0
  have hl := lv_entry ([.ref (ad 44), .int x1]) (n := 6) (Nat.le_of_ble_eq_true rfl)
  rw [lg_entry_eq]
  generalize (lg_sl ([.ref (ad 44), .int x1]) ++ List.replicate (6 - (lg_sl ([.ref (ad 44), .int x1])).length) Slot.unset).toArray = ls at hl ⊢
  have hl : lv_has ls 6 [(0, .ref (ad 44)), (1, .int x1)] := hl
  have hsh : shy S S := shy.rf
  unfold wX5_shuffle at h
  refine lv_aload_n hx hb dX5_shuffle_0 rfl (lv_at hl 0 rfl) ?_
  obtain ⟨Q1, h0, h⟩ := h
  have hFc := cfree hR hA
  refine va_calll (va_runV (As := []) (rest := []) ⟨hx, hb, hml, hown, hts⟩ (rX5_pop l g ad s.heap.size S hR.w  Q1 h0) (cwV 0 hts (gd_V kw_1080 kw_1124 kw_1125 kw_398 kw_1123) rfl rfl rfl (by decide +kernel) ⟨Nat.le_of_ble_eq_true rfl, Nat.le_of_ble_eq_true rfl⟩) ⟨cblind, va_recv hR.K hR.P (ci := 5) (q0 := 44) rfl (hR.at45 (hR.w.2.1 _ finC_29).2.1), fun U hU hW9 => cmk hU hW9 hR hex hE hFc⟩ rfl rfl hl.1 rfl (lv_room (Nat.le_of_ble_eq_true rfl)) dX5_shuffle_1 ⟨Nat.le_of_ble_eq_true rfl, Nat.le_of_ble_eq_true rfl⟩) hR.sS (fun q _ h => hFc q h) hFc (fun r2 S3 t9 H1 locs ht9 hvm9 hw9 hB9 hz9 hk9 hS => ?_)
  obtain ⟨hq4, hw9, hs9⟩ := hw9
  have hR : RepC g ad A s S3 H1 locs := hR.call ht9 hB9 hw9 hS hFc
  have hsh := hsh.tr hs9
  replace h := h r2 S3 hq4 hw9 hs9
  clear hB9 hz9 hk9 hvm9 ht9 hw9 hs9 hS
  generalize H1 = H at hR ⊢
  refine lv_lstore_n (lv' := [(2, .long r2), (0, .ref (ad 44)), (1, .int x1)]) hx hb dX5_shuffle_4 rfl hl (by decide) rfl (fun ls hl => ?_)
  refine lv_iload_n hx hb dX5_shuffle_5 rfl (lv_at hl 2 rfl) ?_
  refine lv_bipush (v := 87) hx hb dX5_shuffle_6 (by decide) ?_
  have J_25 : ∀ (U25 : MS) (t25_0 : Int64) (v25_1 : Int32) (v25_2 : Int64) (H : Heap) (locs : List Loc) (ls : Array Slot), w_X5_shuffle_J25 Q U25 t25_0 v25_1 v25_2 → shy S U25 → RepC g ad A s U25 H locs → lv_has ls 6 [(0, .ref (ad 44)), (1, .int v25_1), (2, .long v25_2)] → W p l e (headSpec (wt yX5_shuffle cX5_shuffle 6 none) ({ frames := 1, cells := 0, slots := 0, locals := 23 })).room s m ([.ref (ad 44), .int x1] : List Value).toArray below meth c H locs 0 0 (MQ below (va_Qv (fun (u : MS) => Q u ∧ wfC u ∧ shy S u) (fun (u : MS) (t : State) => qEC g ad A u t) A) ([.ref (ad 44), .int x1] : List Value).toArray s 0 0 A) (F0 m 25 ls [.long t25_0]) := by
    intro U25 t25_0 v25_1 v25_2 H locs ls h hsh hR hl
    unfold w_X5_shuffle_J25 at h
    replace h := h hR.w
    refine lv_lstore (lv' := [(4, .long t25_0), (0, .ref (ad 44)), (1, .int v25_1), (2, .long v25_2)]) hx hb dX5_shuffle_25 hl (by decide) rfl (fun ls hl => ?_)
    refine lv_iload_n hx hb dX5_shuffle_27 rfl (lv_at hl 2 rfl) ?_
    by_cases c9_89 : v25_1.toInt = 89
    · refine lv_tableIn (off := 44) (tgt := 72) hx hb dX5_shuffle_28 (by rw [c9_89]; decide) (by rw [c9_89]; decide) (by rw [c9_89]; rfl) (by decide) ?_
      replace h := h.1 (c9_89)
      refine lv_aload_n hx hb dX5_shuffle_72 rfl (lv_at hl 1 rfl) ?_
      refine lv_lload_n hx hb dX5_shuffle_73 rfl (lv_at hl 3 rfl) ?_
      obtain ⟨Q5, h0, h⟩ := h
      have hFc := cfree hR hA
      refine va_callv (va_runV (As := [.long v25_2]) (rest := []) ⟨hx, hb, hml, hown, hts⟩ (rX5_push l g ad H.size U25 v25_2 hR.w  Q5 h0) (cwV 1 hts (gd_V kw_1099 kw_1130 kw_1131 kw_398 kw_1129) rfl rfl rfl (by decide +kernel) ⟨Nat.le_of_ble_eq_true rfl, Nat.le_of_ble_eq_true rfl⟩) ⟨cblind, va_recv hR.K hR.P (ci := 5) (q0 := 44) rfl (hR.at45 (hR.w.2.1 _ finC_29).2.1), fun U hU hW9 => cmk hU hW9 hR hex hE hFc⟩ rfl rfl hl.1 rfl (lv_room (Nat.le_of_ble_eq_true rfl)) dX5_shuffle_74 ⟨Nat.le_of_ble_eq_true rfl, Nat.le_of_ble_eq_true rfl⟩) hR.sS (fun q _ h => hFc q h) hFc (fun  S6 t9 H1 locs ht9 hvm9 hw9 hB9 hz9 hk9 hS => ?_)
      obtain ⟨hq7, hw9, hs9⟩ := hw9
      have hR : RepC g ad A s S6 H1 locs := hR.call ht9 hB9 hw9 hS hFc
      have hsh := hsh.tr hs9
      replace h := h  S6 hq7 hw9 hs9
      clear hB9 hz9 hk9 hvm9 ht9 hw9 hs9 hS
      generalize H1 = H at hR ⊢
      refine lv_aload_n hx hb dX5_shuffle_77 rfl (lv_at hl 1 rfl) ?_
      refine lv_lload_n hx hb dX5_shuffle_78 rfl (lv_at hl 3 rfl) ?_
      obtain ⟨Q8, h0, h⟩ := h
      have hFc := cfree hR hA
      refine va_callv (va_runV (As := [.long v25_2]) (rest := []) ⟨hx, hb, hml, hown, hts⟩ (rX5_push l g ad H.size S6 v25_2 hR.w  Q8 h0) (cwV 1 hts (gd_V kw_1099 kw_1130 kw_1131 kw_398 kw_1129) rfl rfl rfl (by decide +kernel) ⟨Nat.le_of_ble_eq_true rfl, Nat.le_of_ble_eq_true rfl⟩) ⟨cblind, va_recv hR.K hR.P (ci := 5) (q0 := 44) rfl (hR.at45 (hR.w.2.1 _ finC_29).2.1), fun U hU hW9 => cmk hU hW9 hR hex hE hFc⟩ rfl rfl hl.1 rfl (lv_room (Nat.le_of_ble_eq_true rfl)) dX5_shuffle_79 ⟨Nat.le_of_ble_eq_true rfl, Nat.le_of_ble_eq_true rfl⟩) hR.sS (fun q _ h => hFc q h) hFc (fun  S9 t9 H1 locs ht9 hvm9 hw9 hB9 hz9 hk9 hS => ?_)
      obtain ⟨hq10, hw9, hs9⟩ := hw9
      have hR : RepC g ad A s S9 H1 locs := hR.call ht9 hB9 hw9 hS hFc
      have hsh := hsh.tr hs9
      replace h := h  S9 hq10 hw9 hs9
      clear hB9 hz9 hk9 hvm9 ht9 hw9 hs9 hS
      generalize H1 = H at hR ⊢
      refine lv_goto (tgt := 143) hx hb dX5_shuffle_82 (by decide) ?_
      exact W.vret hx hb hr (fun t9 ht9 hW9 => ⟨⟨S9, rfl, ⟨h, hR.w, hsh⟩, ⟨by rw [ht9]; exact hR.P, hR.D⟩⟩, hR.sS.F ht9⟩) hR.sS.2.2 dX5_shuffle_143
    replace h := h.2 c9_89
    by_cases c9_90 : v25_1.toInt = 90
    · refine lv_tableIn (off := 57) (tgt := 85) hx hb dX5_shuffle_28 (by rw [c9_90]; decide) (by rw [c9_90]; decide) (by rw [c9_90]; rfl) (by decide) ?_
      replace h := h.1 (c9_90)
      refine lv_aload_n hx hb dX5_shuffle_85 rfl (lv_at hl 1 rfl) ?_
      refine lv_lload_n hx hb dX5_shuffle_86 rfl (lv_at hl 3 rfl) ?_
      obtain ⟨Q11, h0, h⟩ := h
      have hFc := cfree hR hA
      refine va_callv (va_runV (As := [.long v25_2]) (rest := []) ⟨hx, hb, hml, hown, hts⟩ (rX5_push l g ad H.size U25 v25_2 hR.w  Q11 h0) (cwV 1 hts (gd_V kw_1099 kw_1130 kw_1131 kw_398 kw_1129) rfl rfl rfl (by decide +kernel) ⟨Nat.le_of_ble_eq_true rfl, Nat.le_of_ble_eq_true rfl⟩) ⟨cblind, va_recv hR.K hR.P (ci := 5) (q0 := 44) rfl (hR.at45 (hR.w.2.1 _ finC_29).2.1), fun U hU hW9 => cmk hU hW9 hR hex hE hFc⟩ rfl rfl hl.1 rfl (lv_room (Nat.le_of_ble_eq_true rfl)) dX5_shuffle_87 ⟨Nat.le_of_ble_eq_true rfl, Nat.le_of_ble_eq_true rfl⟩) hR.sS (fun q _ h => hFc q h) hFc (fun  S12 t9 H1 locs ht9 hvm9 hw9 hB9 hz9 hk9 hS => ?_)
      obtain ⟨hq13, hw9, hs9⟩ := hw9
      have hR : RepC g ad A s S12 H1 locs := hR.call ht9 hB9 hw9 hS hFc
      have hsh := hsh.tr hs9
      replace h := h  S12 hq13 hw9 hs9
      clear hB9 hz9 hk9 hvm9 ht9 hw9 hs9 hS
      generalize H1 = H at hR ⊢
      refine lv_aload_n hx hb dX5_shuffle_90 rfl (lv_at hl 1 rfl) ?_
      refine lv_lload hx hb dX5_shuffle_91 (lv_at hl 0 rfl) ?_
      obtain ⟨Q14, h0, h⟩ := h
      have hFc := cfree hR hA
      refine va_callv (va_runV (As := [.long t25_0]) (rest := []) ⟨hx, hb, hml, hown, hts⟩ (rX5_push l g ad H.size S12 t25_0 hR.w  Q14 h0) (cwV 1 hts (gd_V kw_1099 kw_1130 kw_1131 kw_398 kw_1129) rfl rfl rfl (by decide +kernel) ⟨Nat.le_of_ble_eq_true rfl, Nat.le_of_ble_eq_true rfl⟩) ⟨cblind, va_recv hR.K hR.P (ci := 5) (q0 := 44) rfl (hR.at45 (hR.w.2.1 _ finC_29).2.1), fun U hU hW9 => cmk hU hW9 hR hex hE hFc⟩ rfl rfl hl.1 rfl (lv_room (Nat.le_of_ble_eq_true rfl)) dX5_shuffle_93 ⟨Nat.le_of_ble_eq_true rfl, Nat.le_of_ble_eq_true rfl⟩) hR.sS (fun q _ h => hFc q h) hFc (fun  S15 t9 H1 locs ht9 hvm9 hw9 hB9 hz9 hk9 hS => ?_)
      obtain ⟨hq16, hw9, hs9⟩ := hw9
      have hR : RepC g ad A s S15 H1 locs := hR.call ht9 hB9 hw9 hS hFc
      have hsh := hsh.tr hs9
      replace h := h  S15 hq16 hw9 hs9
      clear hB9 hz9 hk9 hvm9 ht9 hw9 hs9 hS
      generalize H1 = H at hR ⊢
      refine lv_aload_n hx hb dX5_shuffle_96 rfl (lv_at hl 1 rfl) ?_
      refine lv_lload_n hx hb dX5_shuffle_97 rfl (lv_at hl 3 rfl) ?_
      obtain ⟨Q17, h0, h⟩ := h
      have hFc := cfree hR hA
      refine va_callv (va_runV (As := [.long v25_2]) (rest := []) ⟨hx, hb, hml, hown, hts⟩ (rX5_push l g ad H.size S15 v25_2 hR.w  Q17 h0) (cwV 1 hts (gd_V kw_1099 kw_1130 kw_1131 kw_398 kw_1129) rfl rfl rfl (by decide +kernel) ⟨Nat.le_of_ble_eq_true rfl, Nat.le_of_ble_eq_true rfl⟩) ⟨cblind, va_recv hR.K hR.P (ci := 5) (q0 := 44) rfl (hR.at45 (hR.w.2.1 _ finC_29).2.1), fun U hU hW9 => cmk hU hW9 hR hex hE hFc⟩ rfl rfl hl.1 rfl (lv_room (Nat.le_of_ble_eq_true rfl)) dX5_shuffle_98 ⟨Nat.le_of_ble_eq_true rfl, Nat.le_of_ble_eq_true rfl⟩) hR.sS (fun q _ h => hFc q h) hFc (fun  S18 t9 H1 locs ht9 hvm9 hw9 hB9 hz9 hk9 hS => ?_)
      obtain ⟨hq19, hw9, hs9⟩ := hw9
      have hR : RepC g ad A s S18 H1 locs := hR.call ht9 hB9 hw9 hS hFc
      have hsh := hsh.tr hs9
      replace h := h  S18 hq19 hw9 hs9
      clear hB9 hz9 hk9 hvm9 ht9 hw9 hs9 hS
      generalize H1 = H at hR ⊢
      refine lv_goto (tgt := 143) hx hb dX5_shuffle_101 (by decide) ?_
      exact W.vret hx hb hr (fun t9 ht9 hW9 => ⟨⟨S18, rfl, ⟨h, hR.w, hsh⟩, ⟨by rw [ht9]; exact hR.P, hR.D⟩⟩, hR.sS.F ht9⟩) hR.sS.2.2 dX5_shuffle_143
    replace h := h.2 c9_90
    by_cases c9_91 : v25_1.toInt = 91
    · refine lv_tableIn (off := 115) (tgt := 143) hx hb dX5_shuffle_28 (by rw [c9_91]; decide) (by rw [c9_91]; decide) (by rw [c9_91]; rfl) (by decide) ?_
      replace h := h.1 (c9_91)
      exact W.vret hx hb hr (fun t9 ht9 hW9 => ⟨⟨U25, rfl, ⟨h, hR.w, hsh⟩, ⟨by rw [ht9]; exact hR.P, hR.D⟩⟩, hR.sS.F ht9⟩) hR.sS.2.2 dX5_shuffle_143
    replace h := h.2 c9_91
    by_cases c9_92 : v25_1.toInt = 92
    · refine lv_tableIn (off := 76) (tgt := 104) hx hb dX5_shuffle_28 (by rw [c9_92]; decide) (by rw [c9_92]; decide) (by rw [c9_92]; rfl) (by decide) ?_
      replace h := h.1 (c9_92)
      refine lv_aload_n hx hb dX5_shuffle_104 rfl (lv_at hl 1 rfl) ?_
      refine lv_lload hx hb dX5_shuffle_105 (lv_at hl 0 rfl) ?_
      obtain ⟨Q20, h0, h⟩ := h
      have hFc := cfree hR hA
      refine va_callv (va_runV (As := [.long t25_0]) (rest := []) ⟨hx, hb, hml, hown, hts⟩ (rX5_push l g ad H.size U25 t25_0 hR.w  Q20 h0) (cwV 1 hts (gd_V kw_1099 kw_1130 kw_1131 kw_398 kw_1129) rfl rfl rfl (by decide +kernel) ⟨Nat.le_of_ble_eq_true rfl, Nat.le_of_ble_eq_true rfl⟩) ⟨cblind, va_recv hR.K hR.P (ci := 5) (q0 := 44) rfl (hR.at45 (hR.w.2.1 _ finC_29).2.1), fun U hU hW9 => cmk hU hW9 hR hex hE hFc⟩ rfl rfl hl.1 rfl (lv_room (Nat.le_of_ble_eq_true rfl)) dX5_shuffle_107 ⟨Nat.le_of_ble_eq_true rfl, Nat.le_of_ble_eq_true rfl⟩) hR.sS (fun q _ h => hFc q h) hFc (fun  S21 t9 H1 locs ht9 hvm9 hw9 hB9 hz9 hk9 hS => ?_)
      obtain ⟨hq22, hw9, hs9⟩ := hw9
      have hR : RepC g ad A s S21 H1 locs := hR.call ht9 hB9 hw9 hS hFc
      have hsh := hsh.tr hs9
      replace h := h  S21 hq22 hw9 hs9
      clear hB9 hz9 hk9 hvm9 ht9 hw9 hs9 hS
      generalize H1 = H at hR ⊢
      refine lv_aload_n hx hb dX5_shuffle_110 rfl (lv_at hl 1 rfl) ?_
      refine lv_lload_n hx hb dX5_shuffle_111 rfl (lv_at hl 3 rfl) ?_
      obtain ⟨Q23, h0, h⟩ := h
      have hFc := cfree hR hA
      refine va_callv (va_runV (As := [.long v25_2]) (rest := []) ⟨hx, hb, hml, hown, hts⟩ (rX5_push l g ad H.size S21 v25_2 hR.w  Q23 h0) (cwV 1 hts (gd_V kw_1099 kw_1130 kw_1131 kw_398 kw_1129) rfl rfl rfl (by decide +kernel) ⟨Nat.le_of_ble_eq_true rfl, Nat.le_of_ble_eq_true rfl⟩) ⟨cblind, va_recv hR.K hR.P (ci := 5) (q0 := 44) rfl (hR.at45 (hR.w.2.1 _ finC_29).2.1), fun U hU hW9 => cmk hU hW9 hR hex hE hFc⟩ rfl rfl hl.1 rfl (lv_room (Nat.le_of_ble_eq_true rfl)) dX5_shuffle_112 ⟨Nat.le_of_ble_eq_true rfl, Nat.le_of_ble_eq_true rfl⟩) hR.sS (fun q _ h => hFc q h) hFc (fun  S24 t9 H1 locs ht9 hvm9 hw9 hB9 hz9 hk9 hS => ?_)
      obtain ⟨hq25, hw9, hs9⟩ := hw9
      have hR : RepC g ad A s S24 H1 locs := hR.call ht9 hB9 hw9 hS hFc
      have hsh := hsh.tr hs9
      replace h := h  S24 hq25 hw9 hs9
      clear hB9 hz9 hk9 hvm9 ht9 hw9 hs9 hS
      generalize H1 = H at hR ⊢
      refine lv_aload_n hx hb dX5_shuffle_115 rfl (lv_at hl 1 rfl) ?_
      refine lv_lload hx hb dX5_shuffle_116 (lv_at hl 0 rfl) ?_
      obtain ⟨Q26, h0, h⟩ := h
      have hFc := cfree hR hA
      refine va_callv (va_runV (As := [.long t25_0]) (rest := []) ⟨hx, hb, hml, hown, hts⟩ (rX5_push l g ad H.size S24 t25_0 hR.w  Q26 h0) (cwV 1 hts (gd_V kw_1099 kw_1130 kw_1131 kw_398 kw_1129) rfl rfl rfl (by decide +kernel) ⟨Nat.le_of_ble_eq_true rfl, Nat.le_of_ble_eq_true rfl⟩) ⟨cblind, va_recv hR.K hR.P (ci := 5) (q0 := 44) rfl (hR.at45 (hR.w.2.1 _ finC_29).2.1), fun U hU hW9 => cmk hU hW9 hR hex hE hFc⟩ rfl rfl hl.1 rfl (lv_room (Nat.le_of_ble_eq_true rfl)) dX5_shuffle_118 ⟨Nat.le_of_ble_eq_true rfl, Nat.le_of_ble_eq_true rfl⟩) hR.sS (fun q _ h => hFc q h) hFc (fun  S27 t9 H1 locs ht9 hvm9 hw9 hB9 hz9 hk9 hS => ?_)
      obtain ⟨hq28, hw9, hs9⟩ := hw9
      have hR : RepC g ad A s S27 H1 locs := hR.call ht9 hB9 hw9 hS hFc
      have hsh := hsh.tr hs9
      replace h := h  S27 hq28 hw9 hs9
      clear hB9 hz9 hk9 hvm9 ht9 hw9 hs9 hS
      generalize H1 = H at hR ⊢
      refine lv_aload_n hx hb dX5_shuffle_121 rfl (lv_at hl 1 rfl) ?_
      refine lv_lload_n hx hb dX5_shuffle_122 rfl (lv_at hl 3 rfl) ?_
      obtain ⟨Q29, h0, h⟩ := h
      have hFc := cfree hR hA
      refine va_callv (va_runV (As := [.long v25_2]) (rest := []) ⟨hx, hb, hml, hown, hts⟩ (rX5_push l g ad H.size S27 v25_2 hR.w  Q29 h0) (cwV 1 hts (gd_V kw_1099 kw_1130 kw_1131 kw_398 kw_1129) rfl rfl rfl (by decide +kernel) ⟨Nat.le_of_ble_eq_true rfl, Nat.le_of_ble_eq_true rfl⟩) ⟨cblind, va_recv hR.K hR.P (ci := 5) (q0 := 44) rfl (hR.at45 (hR.w.2.1 _ finC_29).2.1), fun U hU hW9 => cmk hU hW9 hR hex hE hFc⟩ rfl rfl hl.1 rfl (lv_room (Nat.le_of_ble_eq_true rfl)) dX5_shuffle_123 ⟨Nat.le_of_ble_eq_true rfl, Nat.le_of_ble_eq_true rfl⟩) hR.sS (fun q _ h => hFc q h) hFc (fun  S30 t9 H1 locs ht9 hvm9 hw9 hB9 hz9 hk9 hS => ?_)
      obtain ⟨hq31, hw9, hs9⟩ := hw9
      have hR : RepC g ad A s S30 H1 locs := hR.call ht9 hB9 hw9 hS hFc
      have hsh := hsh.tr hs9
      replace h := h  S30 hq31 hw9 hs9
      clear hB9 hz9 hk9 hvm9 ht9 hw9 hs9 hS
      generalize H1 = H at hR ⊢
      refine lv_goto (tgt := 143) hx hb dX5_shuffle_126 (by decide) ?_
      exact W.vret hx hb hr (fun t9 ht9 hW9 => ⟨⟨S30, rfl, ⟨h, hR.w, hsh⟩, ⟨by rw [ht9]; exact hR.P, hR.D⟩⟩, hR.sS.F ht9⟩) hR.sS.2.2 dX5_shuffle_143
    replace h := h.2 c9_92
    by_cases c9_93 : v25_1.toInt = 93
    · refine lv_tableIn (off := 115) (tgt := 143) hx hb dX5_shuffle_28 (by rw [c9_93]; decide) (by rw [c9_93]; decide) (by rw [c9_93]; rfl) (by decide) ?_
      replace h := h.1 (c9_93)
      exact W.vret hx hb hr (fun t9 ht9 hW9 => ⟨⟨U25, rfl, ⟨h, hR.w, hsh⟩, ⟨by rw [ht9]; exact hR.P, hR.D⟩⟩, hR.sS.F ht9⟩) hR.sS.2.2 dX5_shuffle_143
    replace h := h.2 c9_93
    by_cases c9_94 : v25_1.toInt = 94
    · refine lv_tableIn (off := 115) (tgt := 143) hx hb dX5_shuffle_28 (by rw [c9_94]; decide) (by rw [c9_94]; decide) (by rw [c9_94]; rfl) (by decide) ?_
      replace h := h.1 (c9_94)
      exact W.vret hx hb hr (fun t9 ht9 hW9 => ⟨⟨U25, rfl, ⟨h, hR.w, hsh⟩, ⟨by rw [ht9]; exact hR.P, hR.D⟩⟩, hR.sS.F ht9⟩) hR.sS.2.2 dX5_shuffle_143
    replace h := h.2 c9_94
    by_cases c9_95 : v25_1.toInt = 95
    · refine lv_tableIn (off := 101) (tgt := 129) hx hb dX5_shuffle_28 (by rw [c9_95]; decide) (by rw [c9_95]; decide) (by rw [c9_95]; rfl) (by decide) ?_
      replace h := h.1 (c9_95)
      refine lv_aload_n hx hb dX5_shuffle_129 rfl (lv_at hl 1 rfl) ?_
      refine lv_lload_n hx hb dX5_shuffle_130 rfl (lv_at hl 3 rfl) ?_
      obtain ⟨Q32, h0, h⟩ := h
      have hFc := cfree hR hA
      refine va_callv (va_runV (As := [.long v25_2]) (rest := []) ⟨hx, hb, hml, hown, hts⟩ (rX5_push l g ad H.size U25 v25_2 hR.w  Q32 h0) (cwV 1 hts (gd_V kw_1099 kw_1130 kw_1131 kw_398 kw_1129) rfl rfl rfl (by decide +kernel) ⟨Nat.le_of_ble_eq_true rfl, Nat.le_of_ble_eq_true rfl⟩) ⟨cblind, va_recv hR.K hR.P (ci := 5) (q0 := 44) rfl (hR.at45 (hR.w.2.1 _ finC_29).2.1), fun U hU hW9 => cmk hU hW9 hR hex hE hFc⟩ rfl rfl hl.1 rfl (lv_room (Nat.le_of_ble_eq_true rfl)) dX5_shuffle_131 ⟨Nat.le_of_ble_eq_true rfl, Nat.le_of_ble_eq_true rfl⟩) hR.sS (fun q _ h => hFc q h) hFc (fun  S33 t9 H1 locs ht9 hvm9 hw9 hB9 hz9 hk9 hS => ?_)
      obtain ⟨hq34, hw9, hs9⟩ := hw9
      have hR : RepC g ad A s S33 H1 locs := hR.call ht9 hB9 hw9 hS hFc
      have hsh := hsh.tr hs9
      replace h := h  S33 hq34 hw9 hs9
      clear hB9 hz9 hk9 hvm9 ht9 hw9 hs9 hS
      generalize H1 = H at hR ⊢
      refine lv_aload_n hx hb dX5_shuffle_134 rfl (lv_at hl 1 rfl) ?_
      refine lv_lload hx hb dX5_shuffle_135 (lv_at hl 0 rfl) ?_
      obtain ⟨Q35, h0, h⟩ := h
      have hFc := cfree hR hA
      refine va_callv (va_runV (As := [.long t25_0]) (rest := []) ⟨hx, hb, hml, hown, hts⟩ (rX5_push l g ad H.size S33 t25_0 hR.w  Q35 h0) (cwV 1 hts (gd_V kw_1099 kw_1130 kw_1131 kw_398 kw_1129) rfl rfl rfl (by decide +kernel) ⟨Nat.le_of_ble_eq_true rfl, Nat.le_of_ble_eq_true rfl⟩) ⟨cblind, va_recv hR.K hR.P (ci := 5) (q0 := 44) rfl (hR.at45 (hR.w.2.1 _ finC_29).2.1), fun U hU hW9 => cmk hU hW9 hR hex hE hFc⟩ rfl rfl hl.1 rfl (lv_room (Nat.le_of_ble_eq_true rfl)) dX5_shuffle_137 ⟨Nat.le_of_ble_eq_true rfl, Nat.le_of_ble_eq_true rfl⟩) hR.sS (fun q _ h => hFc q h) hFc (fun  S36 t9 H1 locs ht9 hvm9 hw9 hB9 hz9 hk9 hS => ?_)
      obtain ⟨hq37, hw9, hs9⟩ := hw9
      have hR : RepC g ad A s S36 H1 locs := hR.call ht9 hB9 hw9 hS hFc
      have hsh := hsh.tr hs9
      replace h := h  S36 hq37 hw9 hs9
      clear hB9 hz9 hk9 hvm9 ht9 hw9 hs9 hS
      generalize H1 = H at hR ⊢
      refine lv_goto (tgt := 143) hx hb dX5_shuffle_140 (by decide) ?_
      exact W.vret hx hb hr (fun t9 ht9 hW9 => ⟨⟨S36, rfl, ⟨h, hR.w, hsh⟩, ⟨by rw [ht9]; exact hR.P, hR.D⟩⟩, hR.sS.F ht9⟩) hR.sS.2.2 dX5_shuffle_143
    replace h := h.2 c9_95
    refine lv_tableOut (tgt := 143) hx hb dX5_shuffle_28 (by omega) (by decide) ?_
    exact W.vret hx hb hr (fun t9 ht9 hW9 => ⟨⟨U25, rfl, ⟨h, hR.w, hsh⟩, ⟨by rw [ht9]; exact hR.P, hR.D⟩⟩, hR.sS.F ht9⟩) hR.sS.2.2 dX5_shuffle_143
  have J_17 : ∀ (U17 : MS) (v17_1 : Int32) (v17_2 : Int64) (H : Heap) (locs : List Loc) (ls : Array Slot), w_X5_shuffle_J17 Q U17 v17_1 v17_2 → shy S U17 → RepC g ad A s U17 H locs → lv_has ls 6 [(0, .ref (ad 44)), (1, .int v17_1), (2, .long v17_2)] → W p l e (headSpec (wt yX5_shuffle cX5_shuffle 6 none) ({ frames := 1, cells := 0, slots := 0, locals := 23 })).room s m ([.ref (ad 44), .int x1] : List Value).toArray below meth c H locs 0 0 (MQ below (va_Qv (fun (u : MS) => Q u ∧ wfC u ∧ shy S u) (fun (u : MS) (t : State) => qEC g ad A u t) A) ([.ref (ad 44), .int x1] : List Value).toArray s 0 0 A) (F0 m 17 ls []) := by
    intro U17 v17_1 v17_2 H locs ls h hsh hR hl
    unfold w_X5_shuffle_J17 at h
    replace h := h hR.w
    refine lv_lconst (v := 0) hx hb dX5_shuffle_17 (by decide) ?_
    refine lv_goto (tgt := 25) hx hb dX5_shuffle_18 (by decide) ?_
    exact J_25 U17 0 v17_1 v17_2 _ _ ls h  hsh hR (lv_sub hl [0, 1, 2] rfl)
  refine lv_icmp_eq (tgt := 17) hx hb dX5_shuffle_8 (by decide) (fun c38 => ?_) (fun c38 => ?_)
  · replace h := h.1 (k_eq rfl (by decide) c38)
    exact J_17 S3 x1 r2 _ _ ls h  hsh hR (lv_sub hl [1, 2, 0] rfl)
  · replace h := h.2 (k_ne rfl (by decide) c38)
    refine lv_iload_n hx hb dX5_shuffle_11 rfl (lv_at hl 2 rfl) ?_
    refine lv_bipush (v := 89) hx hb dX5_shuffle_12 (by decide) ?_
    refine lv_icmp_ne (tgt := 21) hx hb dX5_shuffle_14 (by decide) (fun c39 => ?_) (fun c39 => ?_)
    · replace h := h.2 (k_ne rfl (by decide) c39)
      refine lv_aload_n hx hb dX5_shuffle_21 rfl (lv_at hl 1 rfl) ?_
      obtain ⟨Q40, h0, h⟩ := h
      have hFc := cfree hR hA
      refine va_calll (va_runV (As := []) (rest := []) ⟨hx, hb, hml, hown, hts⟩ (rX5_pop l g ad H.size S3 hR.w  Q40 h0) (cwV 0 hts (gd_V kw_1080 kw_1124 kw_1125 kw_398 kw_1123) rfl rfl rfl (by decide +kernel) ⟨Nat.le_of_ble_eq_true rfl, Nat.le_of_ble_eq_true rfl⟩) ⟨cblind, va_recv hR.K hR.P (ci := 5) (q0 := 44) rfl (hR.at45 (hR.w.2.1 _ finC_29).2.1), fun U hU hW9 => cmk hU hW9 hR hex hE hFc⟩ rfl rfl hl.1 rfl (lv_room (Nat.le_of_ble_eq_true rfl)) dX5_shuffle_22 ⟨Nat.le_of_ble_eq_true rfl, Nat.le_of_ble_eq_true rfl⟩) hR.sS (fun q _ h => hFc q h) hFc (fun r41 S42 t9 H1 locs ht9 hvm9 hw9 hB9 hz9 hk9 hS => ?_)
      obtain ⟨hq43, hw9, hs9⟩ := hw9
      have hR : RepC g ad A s S42 H1 locs := hR.call ht9 hB9 hw9 hS hFc
      have hsh := hsh.tr hs9
      replace h := h r41 S42 hq43 hw9 hs9
      clear hB9 hz9 hk9 hvm9 ht9 hw9 hs9 hS
      generalize H1 = H at hR ⊢
      exact J_25 S42 r41 x1 r2 _ _ ls h  hsh hR (lv_sub hl [1, 2, 0] rfl)
    · replace h := h.1 (k_eq rfl (by decide) c39)
      exact J_17 S3 x1 r2 _ _ ls h  hsh hR (lv_sub hl [1, 2, 0] rfl)
def w_X5_setField_J10 (Q : MS → Prop) (U10 : MS) : Prop := (wfC U10 → (∀ S2, S2 = wI U10 44 19 ((qI U10 44 19) + (1 : Int32)) → qT U10 44 = 45 → wfC S2 → Q S2))
def wX5_setField (S : MS) (x1 : Int32) (y2 : Int64) (Q : MS → Prop) : Prop := ((x1.toInt < 0 → w_X5_setField_J10 Q S) ∧ (¬ x1.toInt < 0 → ((x1.toInt < 24 → (((0 : Int) ≤ x1.toInt ∧ x1.toInt < 24) ∧ (∀ S6, S6 = wJ S 45 x1.toInt.toNat y2 → qT S 45 = 402 → wfC S6 → Q S6))) ∧ (¬ x1.toInt < 24 → w_X5_setField_J10 Q S))))
set_option maxHeartbeats 2000000 in
set_option maxRecDepth 100000 in
theorem rX5_setField (l : Launch) (g : Gr) (ad : Nat → Nat) (sz : Nat) (S : MS) (x1 : Int32) (y2 : Int64) (hw : wfC S) (Q : MS → Prop) (h : wX5_setField S x1 y2 Q) : Met l yX5_setField (wt yX5_setField cX5_setField 4 none) ({ frames := 0, cells := 0, slots := 0, locals := 0 }) (va_Pc [.ref (ad 44), .int x1, .long y2] (st_C g ad sz S)) (va_Qv (fun (u : MS) => Q u ∧ wfC u ∧ shy S u) (fun (u : MS) (t : State) => qEC g ad (va_A (WdC g ad S) sz) u t) (va_A (WdC g ad S) sz)) 0 0 (va_A (WdC g ad S) sz) := by
  refine Met.ofW (cc := cX5_setField) (maxL := 4) (ret := none) (by decide) rfl ?_
  intro p e s m args below meth c s₁ B hml hv
  obtain ⟨rfl, hsz, hP, hK, hD0, hex, hE⟩ := hv
  have hx := B.exec
  have hb := B.bytes
  have hr := B.returns
  have hts0 := atoms_spec (ws := wt yX5_setField cX5_setField 4 none) B.pre
  have hts : ∀ w ∈ tb, w.before _ s = true := fun w h => hts0 w (List.mem_cons_of_mem _ h)
  have hown : s.vm.findClass RX5 = some m.cls := findClass_of_methodNamed B.named
  subst hsz
  have hD := hD0.self (sz := s.heap.size)
  generalize hAe : va_A (WdC g ad S) s.heap.size = A at hD hE ⊢
  have hA : ∀ q : Nat, s.heap.size ≤ q → A q := fun q h => by rw [← hAe]; exact Or.inr h
  have hR : RepC g ad A s S s.heap [] := ⟨hK, hP, hD, va_S.rf, hw⟩
  clear hK hP hD hD0
  have hl := lv_entry ([.ref (ad 44), .int x1, .long y2]) (n := 4) (Nat.le_of_ble_eq_true rfl)
  rw [lg_entry_eq]
  generalize (lg_sl ([.ref (ad 44), .int x1, .long y2]) ++ List.replicate (4 - (lg_sl ([.ref (ad 44), .int x1, .long y2])).length) Slot.unset).toArray = ls at hl ⊢
  have hl : lv_has ls 4 [(0, .ref (ad 44)), (1, .int x1), (2, .long y2)] := hl
  have hsh : shy S S := shy.rf
  unfold wX5_setField at h
  refine lv_iload_n hx hb dX5_setField_0 rfl (lv_at hl 1 rfl) ?_
  have J_10 : ∀ (U10 : MS) (H : Heap) (locs : List Loc) (ls : Array Slot), w_X5_setField_J10 Q U10 → shy S U10 → RepC g ad A s U10 H locs → lv_has ls 4 [(0, .ref (ad 44))] → W p l e (headSpec (wt yX5_setField cX5_setField 4 none) ({ frames := 0, cells := 0, slots := 0, locals := 0 })).room s m ([.ref (ad 44), .int x1, .long y2] : List Value).toArray below meth c H locs 0 0 (MQ below (va_Qv (fun (u : MS) => Q u ∧ wfC u ∧ shy S u) (fun (u : MS) (t : State) => qEC g ad A u t) A) ([.ref (ad 44), .int x1, .long y2] : List Value).toArray s 0 0 A) (F0 m 10 ls []) := by
    intro U10 H locs ls h hsh hR hl
    unfold w_X5_setField_J10 at h
    replace h := h hR.w
    refine lv_aload_n hx hb dX5_setField_10 rfl (lv_at hl 0 rfl) ?_
    refine lv_dup hx hb dX5_setField_11 rfl ?_
    refine va_get (D := rD g) (ci := 5) (v := .int (qI U10 44 19)) (C := RX5) (T := TX5) (N := 20) hx hb hts inX5 hown hR.K hR.P 44 (hR.at45 (hR.w.2.1 _ finC_29).2.1) rfl 19 (by decide) (hts _ kw_1045) (fun _ h9 => h9) rfl dX5_setField_12 ?_
    refine lv_iconst (v := 1) hx hb dX5_setField_15 (by decide) ?_
    refine lv_iadd hx hb dX5_setField_16 ?_
    refine lv_topi (fun z1 ez1 => ?_)
    obtain rfl : z1 = ((qI U10 44 19) + (1 : Int32)) := ez1
    refine va_put (D := rD g) (ci := 5) (v := .int ((qI U10 44 19) + (1 : Int32))) (ty := .int) (C := RX5) (T := TX5) (N := 20) hx hb hts inX5 tyX5 tyX5_ok nmX5 hown hR.K hR.P hR.D hR.sS 44 (hR.at45 (hR.w.2.1 _ finC_29).2.1) rfl 19 (by decide) (hts _ kw_1045) (fun _ h9 => h9) rfl (by decide +kernel) rfl rfl (Nat.le_of_ble_eq_true rfl) dX5_setField_17 (fun H locs hP hD hS => ?_)
    have hTk9 : qT U10 44 = 45 := (hR.w.2.1 _ finC_29).2.1
    have hR : RepC g ad A s (wI U10 44 19 ((qI U10 44 19) + (1 : Int32))) H locs := hR.pI45 (hR.w.2.1 _ finC_29).2.1 FX5_s19 (fun q9 => absurd q9 (by decide)) hP hD hS
    obtain ⟨S2, eS2⟩ : ∃ z, z = wI U10 44 19 ((qI U10 44 19) + (1 : Int32)) := ⟨_, rfl⟩
    rw [← eS2] at hR
    replace h := h S2 eS2 hTk9 hR.w
    have hsh : shy S S2 := by rw [eS2]; exact hsh
    exact W.vret hx hb hr (fun t9 ht9 hW9 => ⟨⟨S2, rfl, ⟨h, hR.w, hsh⟩, ⟨by rw [ht9]; exact hR.P, hR.D⟩⟩, hR.sS.F ht9⟩) hR.sS.2.2 dX5_setField_20
  refine lv_if_lt (tgt := 10) hx hb dX5_setField_1 (by decide) (fun c3 => ?_) (fun c3 => ?_)
  · replace h := h.1 (k_lt rfl (by decide) c3)
    exact J_10 S _ _ ls h  hsh hR (lv_sub hl [0] rfl)
  · replace h := h.2 (k_nlt rfl (by decide) c3)
    refine lv_iload_n hx hb dX5_setField_4 rfl (lv_at hl 1 rfl) ?_
    refine lv_bipush (v := 24) hx hb dX5_setField_5 (by decide) ?_
    refine lv_icmp_lt (tgt := 21) hx hb dX5_setField_7 (by decide) (fun c4 => ?_) (fun c4 => ?_)
    · replace h := h.1 (k_lt rfl (by decide) c4)
      refine lv_aload_n hx hb dX5_setField_21 rfl (lv_at hl 0 rfl) ?_
      refine va_get (D := rD g) (ci := 5) (v := .ref (ad 45)) (C := RX5) (T := TX5) (N := 20) hx hb hts inX5 hown hR.K hR.P 44 (hR.at45 (hR.w.2.1 _ finC_29).2.1) rfl 1 (by decide) (hts _ kw_1054) (fun _ h9 => h9) (congrArg (fun z => some (vf ad z)) (hR.w.2.1 _ finC_4).1) dX5_setField_22 ?_
      refine lv_iload_n hx hb dX5_setField_25 rfl (lv_at hl 1 rfl) ?_
      refine lv_lload_n hx hb dX5_setField_26 rfl (lv_at hl 2 rfl) ?_
      obtain ⟨hv5, h⟩ := h
      refine va_last hx hb hR.K hR.P hR.D hR.sS 45 3 (hR.atL (hR.w.2.1 _ finC_4).2.1 (by decide)) rfl (k_ixN (k_ix (n := 24) (x := x1) (a := x1.toInt) rfl hv5) (hR.w.2.1 _ finC_4).2.2) dX5_setField_27 (fun H locs hP hD hS => ?_)
      have hTk9 : qT S 45 = 402 := (hR.w.2.1 _ finC_4).2.1
      have hR : RepC g ad A s (wJ S 45 x1.toInt.toNat y2) H locs := hR.aL (hR.w.2.1 _ finC_4).2.1 (by decide) hP hD hS
      obtain ⟨S6, eS6⟩ : ∃ z, z = wJ S 45 x1.toInt.toNat y2 := ⟨_, rfl⟩
      rw [← eS6] at hR
      replace h := h S6 eS6 hTk9 hR.w
      have hsh : shy S S6 := by rw [eS6]; exact hsh
      exact W.vret hx hb hr (fun t9 ht9 hW9 => ⟨⟨S6, rfl, ⟨h, hR.w, hsh⟩, ⟨by rw [ht9]; exact hR.P, hR.D⟩⟩, hR.sS.F ht9⟩) hR.sS.2.2 dX5_setField_28
    · replace h := h.2 (k_nlt rfl (by decide) c4)
      exact J_10 S _ _ ls h  hsh hR (lv_sub hl [0] rfl)
def f_X6_isJump_J28 (S : MS) : Int32 := (1 : Int32)
def d_X6_isJump_J28 (S : MS) : Prop := True
def f_X6_isJump_J14 (S : MS) (v14_0 : Int32) : Int32 := (if v14_0.toInt = 198 then f_X6_isJump_J28 S else (if v14_0.toInt = 199 then f_X6_isJump_J28 S else (0 : Int32)))
def d_X6_isJump_J14 (S : MS) (v14_0 : Int32) : Prop := (if v14_0.toInt = 198 then d_X6_isJump_J28 S else (if v14_0.toInt = 199 then d_X6_isJump_J28 S else True))
def fX6_isJump (S : MS) (x0 : Int32) : Int32 := (if x0.toInt < 153 then f_X6_isJump_J14 S x0 else (if x0.toInt ≤ 167 then f_X6_isJump_J28 S else f_X6_isJump_J14 S x0))
def d_X6_isJump (S : MS) (x0 : Int32) : Prop := (if x0.toInt < 153 then d_X6_isJump_J14 S x0 else (if x0.toInt ≤ 167 then d_X6_isJump_J28 S else d_X6_isJump_J14 S x0))
set_option maxHeartbeats 2000000 in
set_option maxRecDepth 100000 in
theorem rX6_isJump (l : Launch) (g : Gr) (ad : Nat → Nat) (sz : Nat) (S : MS) (x0 : Int32) (hw : wfC S) (hd : d_X6_isJump S x0) : Met l yX6_isJump (wt yX6_isJump cX6_isJump 1 (some .boolean)) ({ frames := 0, cells := 0, slots := 0, locals := 0 }) (va_Pc [.int x0] (st_C g ad sz S)) (va_Qi (fun (r : Int32) (_ : Unit) => r = fX6_isJump S x0 ∧ (r = 0 ∨ r = 1)) (fun (_ : Unit) (t : State) => qEC g ad (va_A (WdC g ad S) sz) S t) (va_A (WdC g ad S) sz)) 0 0 (va_A (WdC g ad S) sz) := by
  refine Met.ofW (cc := cX6_isJump) (maxL := 1) (ret := (some .boolean)) (by decide) rfl ?_
  intro p e s m args below meth c s₁ B hml hv
  obtain ⟨rfl, hsz, hP, hK, hD0, hex, hE⟩ := hv
  have hx := B.exec
  have hb := B.bytes
  have hr := B.returns
  have hts0 := atoms_spec (ws := wt yX6_isJump cX6_isJump 1 (some .boolean)) B.pre
  have hts : ∀ w ∈ tb, w.before _ s = true := fun w h => hts0 w (List.mem_cons_of_mem _ h)
  have hown : s.vm.findClass RX6 = some m.cls := findClass_of_methodNamed B.named
  subst hsz
  have hD := hD0.self (sz := s.heap.size)
  generalize hAe : va_A (WdC g ad S) s.heap.size = A at hD hE ⊢
  have hA : ∀ q : Nat, s.heap.size ≤ q → A q := fun q h => by rw [← hAe]; exact Or.inr h
  have hR : RepC g ad A s S s.heap [] := ⟨hK, hP, hD, va_S.rf, hw⟩
  clear hK hP hD hD0
  have hl := lv_entry ([.int x0]) (n := 1) (Nat.le_of_ble_eq_true rfl)
  rw [lg_entry_eq]
  generalize (lg_sl ([.int x0]) ++ List.replicate (1 - (lg_sl ([.int x0])).length) Slot.unset).toArray = ls at hl ⊢
  have hl : lv_has ls 1 [(0, .int x0)] := hl
  obtain ⟨r0, hf⟩ : ∃ r0, fX6_isJump S x0 = r0 := ⟨_, rfl⟩
  have hf0 := hf
  unfold fX6_isJump at hf
  unfold d_X6_isJump at hd
  refine lv_iload_n hx hb dX6_isJump_0 rfl (lv_at hl 0 rfl) ?_
  refine lv_sipush (v := 153) hx hb dX6_isJump_1 (by decide) ?_
  have J_28 : ∀ (H : Heap) (locs : List Loc) (ls : Array Slot), d_X6_isJump_J28 S → f_X6_isJump_J28 S = r0 → RepC g ad A s S H locs → lv_has ls 1 [] → W p l e (headSpec (wt yX6_isJump cX6_isJump 1 (some .boolean)) ({ frames := 0, cells := 0, slots := 0, locals := 0 })).room s m ([.int x0] : List Value).toArray below meth c H locs 0 0 (MQ below (va_Qi (fun (r : Int32) (_ : Unit) => r = fX6_isJump S x0 ∧ (r = 0 ∨ r = 1)) (fun (_ : Unit) (t : State) => qEC g ad A S t) A) ([.int x0] : List Value).toArray s 0 0 A) (F0 m 28 ls []) := by
    intro H locs ls hd hf hR hl
    unfold d_X6_isJump_J28 at hd
    unfold f_X6_isJump_J28 at hf
    refine lv_iconst (v := 1) hx hb dX6_isJump_28 (by decide) ?_
    refine lv_goto (tgt := 33) hx hb dX6_isJump_29 (by decide) ?_
    exact W.zret (v := 1) hx hb hr (nz (Or.inr rfl)) (fun t9 ht9 hW9 => ⟨⟨_, (), rfl, ⟨hf.trans hf0.symm, (Or.inr rfl)⟩, ⟨by rw [ht9]; exact hR.P, hR.D⟩⟩, hR.sS.F ht9⟩) hR.sS.2.2 dX6_isJump_33
  have J_14 : ∀ (v14_0 : Int32) (H : Heap) (locs : List Loc) (ls : Array Slot), d_X6_isJump_J14 S v14_0 → f_X6_isJump_J14 S v14_0 = r0 → RepC g ad A s S H locs → lv_has ls 1 [(0, .int v14_0)] → W p l e (headSpec (wt yX6_isJump cX6_isJump 1 (some .boolean)) ({ frames := 0, cells := 0, slots := 0, locals := 0 })).room s m ([.int x0] : List Value).toArray below meth c H locs 0 0 (MQ below (va_Qi (fun (r : Int32) (_ : Unit) => r = fX6_isJump S x0 ∧ (r = 0 ∨ r = 1)) (fun (_ : Unit) (t : State) => qEC g ad A S t) A) ([.int x0] : List Value).toArray s 0 0 A) (F0 m 14 ls []) := by
    intro v14_0 H locs ls hd hf hR hl
    unfold d_X6_isJump_J14 at hd
    unfold f_X6_isJump_J14 at hf
    refine lv_iload_n hx hb dX6_isJump_14 rfl (lv_at hl 0 rfl) ?_
    refine lv_sipush (v := 198) hx hb dX6_isJump_15 (by decide) ?_
    refine lv_icmp_eq (tgt := 28) hx hb dX6_isJump_18 (by decide) (fun c1 => ?_) (fun c1 => ?_)
    · rw [if_pos (k_eq rfl (by decide) c1)] at hf
      (try rw [if_pos (k_eq rfl (by decide) c1)] at hd)
      exact J_28 _ _ ls hd hf  hR (lv_sub hl [] rfl)
    · rw [if_neg (k_ne rfl (by decide) c1)] at hf
      (try rw [if_neg (k_ne rfl (by decide) c1)] at hd)
      refine lv_iload_n hx hb dX6_isJump_21 rfl (lv_at hl 0 rfl) ?_
      refine lv_sipush (v := 199) hx hb dX6_isJump_22 (by decide) ?_
      refine lv_icmp_ne (tgt := 32) hx hb dX6_isJump_25 (by decide) (fun c2 => ?_) (fun c2 => ?_)
      · rw [if_neg (k_ne rfl (by decide) c2)] at hf
        (try rw [if_neg (k_ne rfl (by decide) c2)] at hd)
        refine lv_iconst (v := 0) hx hb dX6_isJump_32 (by decide) ?_
        exact W.zret (v := 0) hx hb hr (nz (Or.inl rfl)) (fun t9 ht9 hW9 => ⟨⟨_, (), rfl, ⟨hf.trans hf0.symm, (Or.inl rfl)⟩, ⟨by rw [ht9]; exact hR.P, hR.D⟩⟩, hR.sS.F ht9⟩) hR.sS.2.2 dX6_isJump_33
      · rw [if_pos (k_eq rfl (by decide) c2)] at hf
        (try rw [if_pos (k_eq rfl (by decide) c2)] at hd)
        exact J_28 _ _ ls hd hf  hR (lv_sub hl [] rfl)
  refine lv_icmp_lt (tgt := 14) hx hb dX6_isJump_4 (by decide) (fun c3 => ?_) (fun c3 => ?_)
  · rw [if_pos (k_lt rfl (by decide) c3)] at hf
    (try rw [if_pos (k_lt rfl (by decide) c3)] at hd)
    exact J_14 x0 _ _ ls hd hf  hR (lv_sub hl [0] rfl)
  · rw [if_neg (k_nlt rfl (by decide) c3)] at hf
    (try rw [if_neg (k_nlt rfl (by decide) c3)] at hd)
    refine lv_iload_n hx hb dX6_isJump_7 rfl (lv_at hl 0 rfl) ?_
    refine lv_sipush (v := 167) hx hb dX6_isJump_8 (by decide) ?_
    refine lv_icmp_le (tgt := 28) hx hb dX6_isJump_11 (by decide) (fun c4 => ?_) (fun c4 => ?_)
    · rw [if_pos (k_le rfl (by decide) c4)] at hf
      (try rw [if_pos (k_le rfl (by decide) c4)] at hd)
      exact J_28 _ _ ls hd hf  hR (lv_sub hl [] rfl)
    · rw [if_neg (k_nle rfl (by decide) c4)] at hf
      (try rw [if_neg (k_nle rfl (by decide) c4)] at hd)
      exact J_14 x0 _ _ ls hd hf  hR (lv_sub hl [0] rfl)
def f_X6_isSwitch_J14 (S : MS) : Int32 := (1 : Int32)
def d_X6_isSwitch_J14 (S : MS) : Prop := True
def fX6_isSwitch (S : MS) (x0 : Int32) : Int32 := (if x0.toInt = 170 then f_X6_isSwitch_J14 S else (if x0.toInt = 171 then f_X6_isSwitch_J14 S else (0 : Int32)))
def d_X6_isSwitch (S : MS) (x0 : Int32) : Prop := (if x0.toInt = 170 then d_X6_isSwitch_J14 S else (if x0.toInt = 171 then d_X6_isSwitch_J14 S else True))
set_option maxHeartbeats 2000000 in
set_option maxRecDepth 100000 in
theorem rX6_isSwitch (l : Launch) (g : Gr) (ad : Nat → Nat) (sz : Nat) (S : MS) (x0 : Int32) (hw : wfC S) (hd : d_X6_isSwitch S x0) : Met l yX6_isSwitch (wt yX6_isSwitch cX6_isSwitch 1 (some .boolean)) ({ frames := 0, cells := 0, slots := 0, locals := 0 }) (va_Pc [.int x0] (st_C g ad sz S)) (va_Qi (fun (r : Int32) (_ : Unit) => r = fX6_isSwitch S x0 ∧ (r = 0 ∨ r = 1)) (fun (_ : Unit) (t : State) => qEC g ad (va_A (WdC g ad S) sz) S t) (va_A (WdC g ad S) sz)) 0 0 (va_A (WdC g ad S) sz) := by
  refine Met.ofW (cc := cX6_isSwitch) (maxL := 1) (ret := (some .boolean)) (by decide) rfl ?_
  intro p e s m args below meth c s₁ B hml hv
  obtain ⟨rfl, hsz, hP, hK, hD0, hex, hE⟩ := hv
  have hx := B.exec
  have hb := B.bytes
  have hr := B.returns
  have hts0 := atoms_spec (ws := wt yX6_isSwitch cX6_isSwitch 1 (some .boolean)) B.pre
  have hts : ∀ w ∈ tb, w.before _ s = true := fun w h => hts0 w (List.mem_cons_of_mem _ h)
  have hown : s.vm.findClass RX6 = some m.cls := findClass_of_methodNamed B.named
  subst hsz
  have hD := hD0.self (sz := s.heap.size)
  generalize hAe : va_A (WdC g ad S) s.heap.size = A at hD hE ⊢
  have hA : ∀ q : Nat, s.heap.size ≤ q → A q := fun q h => by rw [← hAe]; exact Or.inr h
  have hR : RepC g ad A s S s.heap [] := ⟨hK, hP, hD, va_S.rf, hw⟩
  clear hK hP hD hD0
  have hl := lv_entry ([.int x0]) (n := 1) (Nat.le_of_ble_eq_true rfl)
  rw [lg_entry_eq]
  generalize (lg_sl ([.int x0]) ++ List.replicate (1 - (lg_sl ([.int x0])).length) Slot.unset).toArray = ls at hl ⊢
  have hl : lv_has ls 1 [(0, .int x0)] := hl
  obtain ⟨r0, hf⟩ : ∃ r0, fX6_isSwitch S x0 = r0 := ⟨_, rfl⟩
  have hf0 := hf
  unfold fX6_isSwitch at hf
  unfold d_X6_isSwitch at hd
  refine lv_iload_n hx hb dX6_isSwitch_0 rfl (lv_at hl 0 rfl) ?_
  refine lv_sipush (v := 170) hx hb dX6_isSwitch_1 (by decide) ?_
  have J_14 : ∀ (H : Heap) (locs : List Loc) (ls : Array Slot), d_X6_isSwitch_J14 S → f_X6_isSwitch_J14 S = r0 → RepC g ad A s S H locs → lv_has ls 1 [] → W p l e (headSpec (wt yX6_isSwitch cX6_isSwitch 1 (some .boolean)) ({ frames := 0, cells := 0, slots := 0, locals := 0 })).room s m ([.int x0] : List Value).toArray below meth c H locs 0 0 (MQ below (va_Qi (fun (r : Int32) (_ : Unit) => r = fX6_isSwitch S x0 ∧ (r = 0 ∨ r = 1)) (fun (_ : Unit) (t : State) => qEC g ad A S t) A) ([.int x0] : List Value).toArray s 0 0 A) (F0 m 14 ls []) := by
    intro H locs ls hd hf hR hl
    unfold d_X6_isSwitch_J14 at hd
    unfold f_X6_isSwitch_J14 at hf
    refine lv_iconst (v := 1) hx hb dX6_isSwitch_14 (by decide) ?_
    refine lv_goto (tgt := 19) hx hb dX6_isSwitch_15 (by decide) ?_
    exact W.zret (v := 1) hx hb hr (nz (Or.inr rfl)) (fun t9 ht9 hW9 => ⟨⟨_, (), rfl, ⟨hf.trans hf0.symm, (Or.inr rfl)⟩, ⟨by rw [ht9]; exact hR.P, hR.D⟩⟩, hR.sS.F ht9⟩) hR.sS.2.2 dX6_isSwitch_19
  refine lv_icmp_eq (tgt := 14) hx hb dX6_isSwitch_4 (by decide) (fun c1 => ?_) (fun c1 => ?_)
  · rw [if_pos (k_eq rfl (by decide) c1)] at hf
    (try rw [if_pos (k_eq rfl (by decide) c1)] at hd)
    exact J_14 _ _ ls hd hf  hR (lv_sub hl [] rfl)
  · rw [if_neg (k_ne rfl (by decide) c1)] at hf
    (try rw [if_neg (k_ne rfl (by decide) c1)] at hd)
    refine lv_iload_n hx hb dX6_isSwitch_7 rfl (lv_at hl 0 rfl) ?_
    refine lv_sipush (v := 171) hx hb dX6_isSwitch_8 (by decide) ?_
    refine lv_icmp_ne (tgt := 18) hx hb dX6_isSwitch_11 (by decide) (fun c2 => ?_) (fun c2 => ?_)
    · rw [if_neg (k_ne rfl (by decide) c2)] at hf
      (try rw [if_neg (k_ne rfl (by decide) c2)] at hd)
      refine lv_iconst (v := 0) hx hb dX6_isSwitch_18 (by decide) ?_
      exact W.zret (v := 0) hx hb hr (nz (Or.inl rfl)) (fun t9 ht9 hW9 => ⟨⟨_, (), rfl, ⟨hf.trans hf0.symm, (Or.inl rfl)⟩, ⟨by rw [ht9]; exact hR.P, hR.D⟩⟩, hR.sS.F ht9⟩) hR.sS.2.2 dX6_isSwitch_19
    · rw [if_pos (k_eq rfl (by decide) c2)] at hf
      (try rw [if_pos (k_eq rfl (by decide) c2)] at hd)
      exact J_14 _ _ ls hd hf  hR (lv_sub hl [] rfl)
def f_X6_goesOn_J32 (S : MS) : Int32 := (0 : Int32)
def d_X6_goesOn_J32 (S : MS) : Prop := True
def f_X6_goesOn_J28 (S : MS) : Int32 := (1 : Int32)
def d_X6_goesOn_J28 (S : MS) : Prop := True
def fX6_goesOn (S : MS) (x0 : Int32) : Int32 := (if x0.toInt = 167 then f_X6_goesOn_J32 S else (if x0.toInt = 191 then f_X6_goesOn_J32 S else (if x0.toInt < 170 then f_X6_goesOn_J28 S else (if x0.toInt ≤ 177 then f_X6_goesOn_J32 S else f_X6_goesOn_J28 S))))
def d_X6_goesOn (S : MS) (x0 : Int32) : Prop := (if x0.toInt = 167 then d_X6_goesOn_J32 S else (if x0.toInt = 191 then d_X6_goesOn_J32 S else (if x0.toInt < 170 then d_X6_goesOn_J28 S else (if x0.toInt ≤ 177 then d_X6_goesOn_J32 S else d_X6_goesOn_J28 S))))
set_option maxHeartbeats 2000000 in
set_option maxRecDepth 100000 in
theorem rX6_goesOn (l : Launch) (g : Gr) (ad : Nat → Nat) (sz : Nat) (S : MS) (x0 : Int32) (hw : wfC S) (hd : d_X6_goesOn S x0) : Met l yX6_goesOn (wt yX6_goesOn cX6_goesOn 1 (some .boolean)) ({ frames := 0, cells := 0, slots := 0, locals := 0 }) (va_Pc [.int x0] (st_C g ad sz S)) (va_Qi (fun (r : Int32) (_ : Unit) => r = fX6_goesOn S x0 ∧ (r = 0 ∨ r = 1)) (fun (_ : Unit) (t : State) => qEC g ad (va_A (WdC g ad S) sz) S t) (va_A (WdC g ad S) sz)) 0 0 (va_A (WdC g ad S) sz) := by
  refine Met.ofW (cc := cX6_goesOn) (maxL := 1) (ret := (some .boolean)) (by decide) rfl ?_
  intro p e s m args below meth c s₁ B hml hv
  obtain ⟨rfl, hsz, hP, hK, hD0, hex, hE⟩ := hv
  have hx := B.exec
  have hb := B.bytes
  have hr := B.returns
  have hts0 := atoms_spec (ws := wt yX6_goesOn cX6_goesOn 1 (some .boolean)) B.pre
  have hts : ∀ w ∈ tb, w.before _ s = true := fun w h => hts0 w (List.mem_cons_of_mem _ h)
  have hown : s.vm.findClass RX6 = some m.cls := findClass_of_methodNamed B.named
  subst hsz
  have hD := hD0.self (sz := s.heap.size)
  generalize hAe : va_A (WdC g ad S) s.heap.size = A at hD hE ⊢
  have hA : ∀ q : Nat, s.heap.size ≤ q → A q := fun q h => by rw [← hAe]; exact Or.inr h
  have hR : RepC g ad A s S s.heap [] := ⟨hK, hP, hD, va_S.rf, hw⟩
  clear hK hP hD hD0
  have hl := lv_entry ([.int x0]) (n := 1) (Nat.le_of_ble_eq_true rfl)
  rw [lg_entry_eq]
  generalize (lg_sl ([.int x0]) ++ List.replicate (1 - (lg_sl ([.int x0])).length) Slot.unset).toArray = ls at hl ⊢
  have hl : lv_has ls 1 [(0, .int x0)] := hl
  obtain ⟨r0, hf⟩ : ∃ r0, fX6_goesOn S x0 = r0 := ⟨_, rfl⟩
  have hf0 := hf
  unfold fX6_goesOn at hf
  unfold d_X6_goesOn at hd
  refine lv_iload_n hx hb dX6_goesOn_0 rfl (lv_at hl 0 rfl) ?_
  refine lv_sipush (v := 167) hx hb dX6_goesOn_1 (by decide) ?_
  have J_32 : ∀ (H : Heap) (locs : List Loc) (ls : Array Slot), d_X6_goesOn_J32 S → f_X6_goesOn_J32 S = r0 → RepC g ad A s S H locs → lv_has ls 1 [] → W p l e (headSpec (wt yX6_goesOn cX6_goesOn 1 (some .boolean)) ({ frames := 0, cells := 0, slots := 0, locals := 0 })).room s m ([.int x0] : List Value).toArray below meth c H locs 0 0 (MQ below (va_Qi (fun (r : Int32) (_ : Unit) => r = fX6_goesOn S x0 ∧ (r = 0 ∨ r = 1)) (fun (_ : Unit) (t : State) => qEC g ad A S t) A) ([.int x0] : List Value).toArray s 0 0 A) (F0 m 32 ls []) := by
    intro H locs ls hd hf hR hl
    unfold d_X6_goesOn_J32 at hd
    unfold f_X6_goesOn_J32 at hf
    refine lv_iconst (v := 0) hx hb dX6_goesOn_32 (by decide) ?_
    exact W.zret (v := 0) hx hb hr (nz (Or.inl rfl)) (fun t9 ht9 hW9 => ⟨⟨_, (), rfl, ⟨hf.trans hf0.symm, (Or.inl rfl)⟩, ⟨by rw [ht9]; exact hR.P, hR.D⟩⟩, hR.sS.F ht9⟩) hR.sS.2.2 dX6_goesOn_33
  refine lv_icmp_eq (tgt := 32) hx hb dX6_goesOn_4 (by decide) (fun c1 => ?_) (fun c1 => ?_)
  · rw [if_pos (k_eq rfl (by decide) c1)] at hf
    (try rw [if_pos (k_eq rfl (by decide) c1)] at hd)
    exact J_32 _ _ ls hd hf  hR (lv_sub hl [] rfl)
  · rw [if_neg (k_ne rfl (by decide) c1)] at hf
    (try rw [if_neg (k_ne rfl (by decide) c1)] at hd)
    refine lv_iload_n hx hb dX6_goesOn_7 rfl (lv_at hl 0 rfl) ?_
    refine lv_sipush (v := 191) hx hb dX6_goesOn_8 (by decide) ?_
    refine lv_icmp_eq (tgt := 32) hx hb dX6_goesOn_11 (by decide) (fun c2 => ?_) (fun c2 => ?_)
    · rw [if_pos (k_eq rfl (by decide) c2)] at hf
      (try rw [if_pos (k_eq rfl (by decide) c2)] at hd)
      exact J_32 _ _ ls hd hf  hR (lv_sub hl [] rfl)
    · rw [if_neg (k_ne rfl (by decide) c2)] at hf
      (try rw [if_neg (k_ne rfl (by decide) c2)] at hd)
      refine lv_iload_n hx hb dX6_goesOn_14 rfl (lv_at hl 0 rfl) ?_
      refine lv_sipush (v := 170) hx hb dX6_goesOn_15 (by decide) ?_
      have J_28 : ∀ (H : Heap) (locs : List Loc) (ls : Array Slot), d_X6_goesOn_J28 S → f_X6_goesOn_J28 S = r0 → RepC g ad A s S H locs → lv_has ls 1 [] → W p l e (headSpec (wt yX6_goesOn cX6_goesOn 1 (some .boolean)) ({ frames := 0, cells := 0, slots := 0, locals := 0 })).room s m ([.int x0] : List Value).toArray below meth c H locs 0 0 (MQ below (va_Qi (fun (r : Int32) (_ : Unit) => r = fX6_goesOn S x0 ∧ (r = 0 ∨ r = 1)) (fun (_ : Unit) (t : State) => qEC g ad A S t) A) ([.int x0] : List Value).toArray s 0 0 A) (F0 m 28 ls []) := by
        intro H locs ls hd hf hR hl
        unfold d_X6_goesOn_J28 at hd
        unfold f_X6_goesOn_J28 at hf
        refine lv_iconst (v := 1) hx hb dX6_goesOn_28 (by decide) ?_
        refine lv_goto (tgt := 33) hx hb dX6_goesOn_29 (by decide) ?_
        exact W.zret (v := 1) hx hb hr (nz (Or.inr rfl)) (fun t9 ht9 hW9 => ⟨⟨_, (), rfl, ⟨hf.trans hf0.symm, (Or.inr rfl)⟩, ⟨by rw [ht9]; exact hR.P, hR.D⟩⟩, hR.sS.F ht9⟩) hR.sS.2.2 dX6_goesOn_33
      refine lv_icmp_lt (tgt := 28) hx hb dX6_goesOn_18 (by decide) (fun c3 => ?_) (fun c3 => ?_)
      · rw [if_pos (k_lt rfl (by decide) c3)] at hf
        (try rw [if_pos (k_lt rfl (by decide) c3)] at hd)
        exact J_28 _ _ ls hd hf  hR (lv_sub hl [] rfl)
      · rw [if_neg (k_nlt rfl (by decide) c3)] at hf
        (try rw [if_neg (k_nlt rfl (by decide) c3)] at hd)
        refine lv_iload_n hx hb dX6_goesOn_21 rfl (lv_at hl 0 rfl) ?_
        refine lv_sipush (v := 177) hx hb dX6_goesOn_22 (by decide) ?_
        refine lv_icmp_le (tgt := 32) hx hb dX6_goesOn_25 (by decide) (fun c4 => ?_) (fun c4 => ?_)
        · rw [if_pos (k_le rfl (by decide) c4)] at hf
          (try rw [if_pos (k_le rfl (by decide) c4)] at hd)
          exact J_32 _ _ ls hd hf  hR (lv_sub hl [] rfl)
        · rw [if_neg (k_nle rfl (by decide) c4)] at hf
          (try rw [if_neg (k_nle rfl (by decide) c4)] at hd)
          exact J_28 _ _ ls hd hf  hR (lv_sub hl [] rfl)
def f_X6_isLoad_J18 (S : MS) : Int32 := (1 : Int32)
def d_X6_isLoad_J18 (S : MS) : Prop := True
def fX6_isLoad (S : MS) (x0 : Int32) : Int32 := (if x0.toInt = 21 then f_X6_isLoad_J18 S else (if x0.toInt = 22 then f_X6_isLoad_J18 S else (if x0.toInt = 25 then f_X6_isLoad_J18 S else (0 : Int32))))
def d_X6_isLoad (S : MS) (x0 : Int32) : Prop := (if x0.toInt = 21 then d_X6_isLoad_J18 S else (if x0.toInt = 22 then d_X6_isLoad_J18 S else (if x0.toInt = 25 then d_X6_isLoad_J18 S else True)))
set_option maxHeartbeats 2000000 in
set_option maxRecDepth 100000 in
theorem rX6_isLoad (l : Launch) (g : Gr) (ad : Nat → Nat) (sz : Nat) (S : MS) (x0 : Int32) (hw : wfC S) (hd : d_X6_isLoad S x0) : Met l yX6_isLoad (wt yX6_isLoad cX6_isLoad 1 (some .boolean)) ({ frames := 0, cells := 0, slots := 0, locals := 0 }) (va_Pc [.int x0] (st_C g ad sz S)) (va_Qi (fun (r : Int32) (_ : Unit) => r = fX6_isLoad S x0 ∧ (r = 0 ∨ r = 1)) (fun (_ : Unit) (t : State) => qEC g ad (va_A (WdC g ad S) sz) S t) (va_A (WdC g ad S) sz)) 0 0 (va_A (WdC g ad S) sz) := by
  refine Met.ofW (cc := cX6_isLoad) (maxL := 1) (ret := (some .boolean)) (by decide) rfl ?_
  intro p e s m args below meth c s₁ B hml hv
  obtain ⟨rfl, hsz, hP, hK, hD0, hex, hE⟩ := hv
  have hx := B.exec
  have hb := B.bytes
  have hr := B.returns
  have hts0 := atoms_spec (ws := wt yX6_isLoad cX6_isLoad 1 (some .boolean)) B.pre
  have hts : ∀ w ∈ tb, w.before _ s = true := fun w h => hts0 w (List.mem_cons_of_mem _ h)
  have hown : s.vm.findClass RX6 = some m.cls := findClass_of_methodNamed B.named
  subst hsz
  have hD := hD0.self (sz := s.heap.size)
  generalize hAe : va_A (WdC g ad S) s.heap.size = A at hD hE ⊢
  have hA : ∀ q : Nat, s.heap.size ≤ q → A q := fun q h => by rw [← hAe]; exact Or.inr h
  have hR : RepC g ad A s S s.heap [] := ⟨hK, hP, hD, va_S.rf, hw⟩
  clear hK hP hD hD0
  have hl := lv_entry ([.int x0]) (n := 1) (Nat.le_of_ble_eq_true rfl)
  rw [lg_entry_eq]
  generalize (lg_sl ([.int x0]) ++ List.replicate (1 - (lg_sl ([.int x0])).length) Slot.unset).toArray = ls at hl ⊢
  have hl : lv_has ls 1 [(0, .int x0)] := hl
  obtain ⟨r0, hf⟩ : ∃ r0, fX6_isLoad S x0 = r0 := ⟨_, rfl⟩
  have hf0 := hf
  unfold fX6_isLoad at hf
  unfold d_X6_isLoad at hd
  refine lv_iload_n hx hb dX6_isLoad_0 rfl (lv_at hl 0 rfl) ?_
  refine lv_bipush (v := 21) hx hb dX6_isLoad_1 (by decide) ?_
  have J_18 : ∀ (H : Heap) (locs : List Loc) (ls : Array Slot), d_X6_isLoad_J18 S → f_X6_isLoad_J18 S = r0 → RepC g ad A s S H locs → lv_has ls 1 [] → W p l e (headSpec (wt yX6_isLoad cX6_isLoad 1 (some .boolean)) ({ frames := 0, cells := 0, slots := 0, locals := 0 })).room s m ([.int x0] : List Value).toArray below meth c H locs 0 0 (MQ below (va_Qi (fun (r : Int32) (_ : Unit) => r = fX6_isLoad S x0 ∧ (r = 0 ∨ r = 1)) (fun (_ : Unit) (t : State) => qEC g ad A S t) A) ([.int x0] : List Value).toArray s 0 0 A) (F0 m 18 ls []) := by
    intro H locs ls hd hf hR hl
    unfold d_X6_isLoad_J18 at hd
    unfold f_X6_isLoad_J18 at hf
    refine lv_iconst (v := 1) hx hb dX6_isLoad_18 (by decide) ?_
    refine lv_goto (tgt := 23) hx hb dX6_isLoad_19 (by decide) ?_
    exact W.zret (v := 1) hx hb hr (nz (Or.inr rfl)) (fun t9 ht9 hW9 => ⟨⟨_, (), rfl, ⟨hf.trans hf0.symm, (Or.inr rfl)⟩, ⟨by rw [ht9]; exact hR.P, hR.D⟩⟩, hR.sS.F ht9⟩) hR.sS.2.2 dX6_isLoad_23
  refine lv_icmp_eq (tgt := 18) hx hb dX6_isLoad_3 (by decide) (fun c1 => ?_) (fun c1 => ?_)
  · rw [if_pos (k_eq rfl (by decide) c1)] at hf
    (try rw [if_pos (k_eq rfl (by decide) c1)] at hd)
    exact J_18 _ _ ls hd hf  hR (lv_sub hl [] rfl)
  · rw [if_neg (k_ne rfl (by decide) c1)] at hf
    (try rw [if_neg (k_ne rfl (by decide) c1)] at hd)
    refine lv_iload_n hx hb dX6_isLoad_6 rfl (lv_at hl 0 rfl) ?_
    refine lv_bipush (v := 22) hx hb dX6_isLoad_7 (by decide) ?_
    refine lv_icmp_eq (tgt := 18) hx hb dX6_isLoad_9 (by decide) (fun c2 => ?_) (fun c2 => ?_)
    · rw [if_pos (k_eq rfl (by decide) c2)] at hf
      (try rw [if_pos (k_eq rfl (by decide) c2)] at hd)
      exact J_18 _ _ ls hd hf  hR (lv_sub hl [] rfl)
    · rw [if_neg (k_ne rfl (by decide) c2)] at hf
      (try rw [if_neg (k_ne rfl (by decide) c2)] at hd)
      refine lv_iload_n hx hb dX6_isLoad_12 rfl (lv_at hl 0 rfl) ?_
      refine lv_bipush (v := 25) hx hb dX6_isLoad_13 (by decide) ?_
      refine lv_icmp_ne (tgt := 22) hx hb dX6_isLoad_15 (by decide) (fun c3 => ?_) (fun c3 => ?_)
      · rw [if_neg (k_ne rfl (by decide) c3)] at hf
        (try rw [if_neg (k_ne rfl (by decide) c3)] at hd)
        refine lv_iconst (v := 0) hx hb dX6_isLoad_22 (by decide) ?_
        exact W.zret (v := 0) hx hb hr (nz (Or.inl rfl)) (fun t9 ht9 hW9 => ⟨⟨_, (), rfl, ⟨hf.trans hf0.symm, (Or.inl rfl)⟩, ⟨by rw [ht9]; exact hR.P, hR.D⟩⟩, hR.sS.F ht9⟩) hR.sS.2.2 dX6_isLoad_23
      · rw [if_pos (k_eq rfl (by decide) c3)] at hf
        (try rw [if_pos (k_eq rfl (by decide) c3)] at hd)
        exact J_18 _ _ ls hd hf  hR (lv_sub hl [] rfl)
def f_X6_isStore_J18 (S : MS) : Int32 := (1 : Int32)
def d_X6_isStore_J18 (S : MS) : Prop := True
def fX6_isStore (S : MS) (x0 : Int32) : Int32 := (if x0.toInt = 54 then f_X6_isStore_J18 S else (if x0.toInt = 55 then f_X6_isStore_J18 S else (if x0.toInt = 58 then f_X6_isStore_J18 S else (0 : Int32))))
def d_X6_isStore (S : MS) (x0 : Int32) : Prop := (if x0.toInt = 54 then d_X6_isStore_J18 S else (if x0.toInt = 55 then d_X6_isStore_J18 S else (if x0.toInt = 58 then d_X6_isStore_J18 S else True)))
set_option maxHeartbeats 2000000 in
set_option maxRecDepth 100000 in
theorem rX6_isStore (l : Launch) (g : Gr) (ad : Nat → Nat) (sz : Nat) (S : MS) (x0 : Int32) (hw : wfC S) (hd : d_X6_isStore S x0) : Met l yX6_isStore (wt yX6_isStore cX6_isStore 1 (some .boolean)) ({ frames := 0, cells := 0, slots := 0, locals := 0 }) (va_Pc [.int x0] (st_C g ad sz S)) (va_Qi (fun (r : Int32) (_ : Unit) => r = fX6_isStore S x0 ∧ (r = 0 ∨ r = 1)) (fun (_ : Unit) (t : State) => qEC g ad (va_A (WdC g ad S) sz) S t) (va_A (WdC g ad S) sz)) 0 0 (va_A (WdC g ad S) sz) := by
  refine Met.ofW (cc := cX6_isStore) (maxL := 1) (ret := (some .boolean)) (by decide) rfl ?_
  intro p e s m args below meth c s₁ B hml hv
  obtain ⟨rfl, hsz, hP, hK, hD0, hex, hE⟩ := hv
  have hx := B.exec
  have hb := B.bytes
  have hr := B.returns
  have hts0 := atoms_spec (ws := wt yX6_isStore cX6_isStore 1 (some .boolean)) B.pre
  have hts : ∀ w ∈ tb, w.before _ s = true := fun w h => hts0 w (List.mem_cons_of_mem _ h)
  have hown : s.vm.findClass RX6 = some m.cls := findClass_of_methodNamed B.named
  subst hsz
  have hD := hD0.self (sz := s.heap.size)
  generalize hAe : va_A (WdC g ad S) s.heap.size = A at hD hE ⊢
  have hA : ∀ q : Nat, s.heap.size ≤ q → A q := fun q h => by rw [← hAe]; exact Or.inr h
  have hR : RepC g ad A s S s.heap [] := ⟨hK, hP, hD, va_S.rf, hw⟩
  clear hK hP hD hD0
  have hl := lv_entry ([.int x0]) (n := 1) (Nat.le_of_ble_eq_true rfl)
  rw [lg_entry_eq]
  generalize (lg_sl ([.int x0]) ++ List.replicate (1 - (lg_sl ([.int x0])).length) Slot.unset).toArray = ls at hl ⊢
  have hl : lv_has ls 1 [(0, .int x0)] := hl
  obtain ⟨r0, hf⟩ : ∃ r0, fX6_isStore S x0 = r0 := ⟨_, rfl⟩
  have hf0 := hf
  unfold fX6_isStore at hf
  unfold d_X6_isStore at hd
  refine lv_iload_n hx hb dX6_isStore_0 rfl (lv_at hl 0 rfl) ?_
  refine lv_bipush (v := 54) hx hb dX6_isStore_1 (by decide) ?_
  have J_18 : ∀ (H : Heap) (locs : List Loc) (ls : Array Slot), d_X6_isStore_J18 S → f_X6_isStore_J18 S = r0 → RepC g ad A s S H locs → lv_has ls 1 [] → W p l e (headSpec (wt yX6_isStore cX6_isStore 1 (some .boolean)) ({ frames := 0, cells := 0, slots := 0, locals := 0 })).room s m ([.int x0] : List Value).toArray below meth c H locs 0 0 (MQ below (va_Qi (fun (r : Int32) (_ : Unit) => r = fX6_isStore S x0 ∧ (r = 0 ∨ r = 1)) (fun (_ : Unit) (t : State) => qEC g ad A S t) A) ([.int x0] : List Value).toArray s 0 0 A) (F0 m 18 ls []) := by
    intro H locs ls hd hf hR hl
    unfold d_X6_isStore_J18 at hd
    unfold f_X6_isStore_J18 at hf
    refine lv_iconst (v := 1) hx hb dX6_isStore_18 (by decide) ?_
    refine lv_goto (tgt := 23) hx hb dX6_isStore_19 (by decide) ?_
    exact W.zret (v := 1) hx hb hr (nz (Or.inr rfl)) (fun t9 ht9 hW9 => ⟨⟨_, (), rfl, ⟨hf.trans hf0.symm, (Or.inr rfl)⟩, ⟨by rw [ht9]; exact hR.P, hR.D⟩⟩, hR.sS.F ht9⟩) hR.sS.2.2 dX6_isStore_23
  refine lv_icmp_eq (tgt := 18) hx hb dX6_isStore_3 (by decide) (fun c1 => ?_) (fun c1 => ?_)
  · rw [if_pos (k_eq rfl (by decide) c1)] at hf
    (try rw [if_pos (k_eq rfl (by decide) c1)] at hd)
    exact J_18 _ _ ls hd hf  hR (lv_sub hl [] rfl)
  · rw [if_neg (k_ne rfl (by decide) c1)] at hf
    (try rw [if_neg (k_ne rfl (by decide) c1)] at hd)
    refine lv_iload_n hx hb dX6_isStore_6 rfl (lv_at hl 0 rfl) ?_
    refine lv_bipush (v := 55) hx hb dX6_isStore_7 (by decide) ?_
    refine lv_icmp_eq (tgt := 18) hx hb dX6_isStore_9 (by decide) (fun c2 => ?_) (fun c2 => ?_)
    · rw [if_pos (k_eq rfl (by decide) c2)] at hf
      (try rw [if_pos (k_eq rfl (by decide) c2)] at hd)
      exact J_18 _ _ ls hd hf  hR (lv_sub hl [] rfl)
    · rw [if_neg (k_ne rfl (by decide) c2)] at hf
      (try rw [if_neg (k_ne rfl (by decide) c2)] at hd)
      refine lv_iload_n hx hb dX6_isStore_12 rfl (lv_at hl 0 rfl) ?_
      refine lv_bipush (v := 58) hx hb dX6_isStore_13 (by decide) ?_
      refine lv_icmp_ne (tgt := 22) hx hb dX6_isStore_15 (by decide) (fun c3 => ?_) (fun c3 => ?_)
      · rw [if_neg (k_ne rfl (by decide) c3)] at hf
        (try rw [if_neg (k_ne rfl (by decide) c3)] at hd)
        refine lv_iconst (v := 0) hx hb dX6_isStore_22 (by decide) ?_
        exact W.zret (v := 0) hx hb hr (nz (Or.inl rfl)) (fun t9 ht9 hW9 => ⟨⟨_, (), rfl, ⟨hf.trans hf0.symm, (Or.inl rfl)⟩, ⟨by rw [ht9]; exact hR.P, hR.D⟩⟩, hR.sS.F ht9⟩) hR.sS.2.2 dX6_isStore_23
      · rw [if_pos (k_eq rfl (by decide) c3)] at hf
        (try rw [if_pos (k_eq rfl (by decide) c3)] at hd)
        exact J_18 _ _ ls hd hf  hR (lv_sub hl [] rfl)
