def f_X9_isWindow_J50 (S : MS) : Int32 := (0 : Int32)
def d_X9_isWindow_J50 (S : MS) : Prop := True
def f_X9_isWindow_J46 (S : MS) : Int32 := (1 : Int32)
def d_X9_isWindow_J46 (S : MS) : Prop := True
def fX9_isWindow (S : MS) (x1 : Int32) (x2 : Int32) : Int32 := (if x1.toInt < 0 then (0 : Int32) else (if (x1 + x2).toInt < (qI S (qO S 66 0) 2).toInt then (if (qI S (qO S 66 2) (((x1 + (1 : Int32)).toInt).toNat)).toInt = 0 then (if x2.toInt < 3 then f_X9_isWindow_J46 S else (if (qI S (qO S 66 2) (((x1 + (2 : Int32)).toInt).toNat)).toInt = 0 then f_X9_isWindow_J46 S else f_X9_isWindow_J50 S)) else f_X9_isWindow_J50 S) else (0 : Int32)))
def d_X9_isWindow (S : MS) (x1 : Int32) (x2 : Int32) : Prop := (if x1.toInt < 0 then True else (if (x1 + x2).toInt < (qI S (qO S 66 0) 2).toInt then (((0 : Int) ≤ (x1 + (1 : Int32)).toInt ∧ (x1 + (1 : Int32)).toInt < (qN S (qO S 66 2) : Int)) ∧ (if (qI S (qO S 66 2) (((x1 + (1 : Int32)).toInt).toNat)).toInt = 0 then (if x2.toInt < 3 then d_X9_isWindow_J46 S else (((0 : Int) ≤ (x1 + (2 : Int32)).toInt ∧ (x1 + (2 : Int32)).toInt < (qN S (qO S 66 2) : Int)) ∧ (if (qI S (qO S 66 2) (((x1 + (2 : Int32)).toInt).toNat)).toInt = 0 then d_X9_isWindow_J46 S else d_X9_isWindow_J50 S))) else d_X9_isWindow_J50 S)) else True))
set_option maxHeartbeats 2000000 in
set_option maxRecDepth 100000 in
theorem rX9_isWindow (l : Launch) (g : Gr) (ad : Nat → Nat) (sz : Nat) (S : MS) (x1 : Int32) (x2 : Int32) (hw : wfC S) (hd : d_X9_isWindow S x1 x2) : Met l yX9_isWindow (wt yX9_isWindow cX9_isWindow 3 (some .boolean)) ({ frames := 0, cells := 0, slots := 0, locals := 0 }) (va_Pc [.ref (ad 66), .int x1, .int x2] (st_C g ad sz S)) (va_Qi (fun (r : Int32) (_ : Unit) => r = fX9_isWindow S x1 x2 ∧ (r = 0 ∨ r = 1)) (fun (_ : Unit) (t : State) => qEC g ad (va_A (WdC g ad S) sz) S t) (va_A (WdC g ad S) sz)) 0 0 (va_A (WdC g ad S) sz) := by
  refine Met.ofW (cc := cX9_isWindow) (maxL := 3) (ret := (some .boolean)) (by decide) rfl ?_
  intro p e s m args below meth c s₁ B hml hv
  obtain ⟨rfl, hsz, hP, hK, hD0, hex, hE⟩ := hv
  have hx := B.exec
  have hb := B.bytes
  have hr := B.returns
  have hts0 := atoms_spec (ws := wt yX9_isWindow cX9_isWindow 3 (some .boolean)) B.pre
  have hts : ∀ w ∈ tb, w.before _ s = true := fun w h => hts0 w (List.mem_cons_of_mem _ h)
  have hown : s.vm.findClass RX9 = some m.cls := findClass_of_methodNamed B.named
  subst hsz
  have hD := hD0.self (sz := s.heap.size)
  generalize hAe : va_A (WdC g ad S) s.heap.size = A at hD hE ⊢
  have hA : ∀ q : Nat, s.heap.size ≤ q → A q := fun q h => by rw [← hAe]; exact Or.inr h
  have hR : RepC g ad A s S s.heap [] := ⟨hK, hP, hD, va_S.rf, hw⟩
  clear hK hP hD hD0
  have hl := lv_entry ([.ref (ad 66), .int x1, .int x2]) (n := 3) (Nat.le_of_ble_eq_true rfl)
  rw [lg_entry_eq]
  generalize (lg_sl ([.ref (ad 66), .int x1, .int x2]) ++ List.replicate (3 - (lg_sl ([.ref (ad 66), .int x1, .int x2])).length) Slot.unset).toArray = ls at hl ⊢
  have hl : lv_has ls 3 [(0, .ref (ad 66)), (1, .int x1), (2, .int x2)] := hl
  obtain ⟨r0, hf⟩ : ∃ r0, fX9_isWindow S x1 x2 = r0 := ⟨_, rfl⟩
  have hf0 := hf
  unfold fX9_isWindow at hf
  unfold d_X9_isWindow at hd
  refine lv_iload_n hx hb dX9_isWindow_0 rfl (lv_at hl 1 rfl) ?_
  refine lv_if_lt (tgt := 17) hx hb dX9_isWindow_1 (by decide) (fun c1 => ?_) (fun c1 => ?_)
  · rw [if_pos (k_lt rfl (by decide) c1)] at hf
    (try rw [if_pos (k_lt rfl (by decide) c1)] at hd)
    refine lv_iconst (v := 0) hx hb dX9_isWindow_17 (by decide) ?_
    exact W.zret (v := 0) hx hb hr (nz (Or.inl rfl)) (fun t9 ht9 hW9 => ⟨⟨_, (), rfl, ⟨hf.trans hf0.symm, (Or.inl rfl)⟩, ⟨by rw [ht9]; exact hR.P, hR.D⟩⟩, hR.sS.F ht9⟩) hR.sS.2.2 dX9_isWindow_18
  · rw [if_neg (k_nlt rfl (by decide) c1)] at hf
    (try rw [if_neg (k_nlt rfl (by decide) c1)] at hd)
    refine lv_iload_n hx hb dX9_isWindow_4 rfl (lv_at hl 1 rfl) ?_
    refine lv_iload_n hx hb dX9_isWindow_5 rfl (lv_at hl 2 rfl) ?_
    refine lv_iadd hx hb dX9_isWindow_6 ?_
    refine lv_topi (fun z2 ez2 => ?_)
    obtain rfl : z2 = (x1 + x2) := ez2
    refine lv_aload_n hx hb dX9_isWindow_7 rfl (lv_at hl 0 rfl) ?_
    have hT_b3 : qT S (qO S 66 0) = 47 := hR.w.ref (hR.w.ptr ptrC_39) (hR.w.2.1 _ finC_31).2.1
    refine va_get (D := rD g) (ci := 8) (v := .ref (ad (qO S 66 0))) (C := RX9) (T := TX9) (N := 6) hx hb hts inX9 hown hR.K hR.P 66 (hR.at48 (hR.w.2.1 _ finC_31).2.1) rfl 0 (by decide) (hts _ kw_1552) (fun _ h9 => h9) (congrArg (fun z => some (vf ad z)) (hR.w.ptr ptrC_39)) dX9_isWindow_8 ?_
    refine va_get (D := rD g) (ci := 7) (v := .int (qI S (qO S 66 0) 2)) (C := RX8) (T := TX8) (N := 15) hx hb hts inX8 hown hR.K hR.P (qO S 66 0) (hR.at47 hT_b3) rfl 2 (by decide) (hts _ kw_1553) (fun _ h9 => h9) rfl dX9_isWindow_11 ?_
    refine lv_icmp_lt (tgt := 19) hx hb dX9_isWindow_14 (by decide) (fun c4 => ?_) (fun c4 => ?_)
    · rw [if_pos (k_lt rfl rfl c4)] at hf
      (try rw [if_pos (k_lt rfl rfl c4)] at hd)
      refine lv_aload_n hx hb dX9_isWindow_19 rfl (lv_at hl 0 rfl) ?_
      have hT_b5 : qT S (qO S 66 2) = 305 := hR.w.ref (hR.w.ptr ptrC_35) (hR.w.2.1 _ finC_31).2.1
      refine va_get (D := rD g) (ci := 8) (v := .ref (ad (qO S 66 2))) (C := RX9) (T := TX9) (N := 6) hx hb hts inX9 hown hR.K hR.P 66 (hR.at48 (hR.w.2.1 _ finC_31).2.1) rfl 2 (by decide) (hts _ kw_1566) (fun _ h9 => h9) (congrArg (fun z => some (vf ad z)) (hR.w.ptr ptrC_35)) dX9_isWindow_20 ?_
      refine lv_iload_n hx hb dX9_isWindow_23 rfl (lv_at hl 1 rfl) ?_
      refine lv_iconst (v := 1) hx hb dX9_isWindow_24 (by decide) ?_
      refine lv_iadd hx hb dX9_isWindow_25 ?_
      refine lv_topi (fun z6 ez6 => ?_)
      obtain rfl : z6 = (x1 + (1 : Int32)) := ez6
      obtain ⟨hv7, hd⟩ := hd
      refine va_zald hx hb hR.K hR.P (qO S 66 2) 2 (hR.atZ hT_b5 (by decide)) rfl (k_ix (x := (x1 + (1 : Int32))) (a := (x1 + (1 : Int32)).toInt) rfl hv7) dX9_isWindow_26 ?_
      refine lv_topi (fun z8 ez8 => ?_)
      obtain rfl : z8 = (qI S (qO S 66 2) (((x1 + (1 : Int32)).toInt).toNat)) := ez8
      have hz9 := hR.w.bit3 (b := (qO S 66 2)) (j := ((x1 + (1 : Int32)).toInt).toNat) (hT_b5) (by decide)
      have J_50 : ∀ (H : Heap) (locs : List Loc) (ls : Array Slot), d_X9_isWindow_J50 S → f_X9_isWindow_J50 S = r0 → RepC g ad A s S H locs → lv_has ls 3 [] → W p l e (headSpec (wt yX9_isWindow cX9_isWindow 3 (some .boolean)) ({ frames := 0, cells := 0, slots := 0, locals := 0 })).room s m ([.ref (ad 66), .int x1, .int x2] : List Value).toArray below meth c H locs 0 0 (MQ below (va_Qi (fun (r : Int32) (_ : Unit) => r = fX9_isWindow S x1 x2 ∧ (r = 0 ∨ r = 1)) (fun (_ : Unit) (t : State) => qEC g ad A S t) A) ([.ref (ad 66), .int x1, .int x2] : List Value).toArray s 0 0 A) (F0 m 50 ls []) := by
        intro H locs ls hd hf hR hl
        unfold d_X9_isWindow_J50 at hd
        unfold f_X9_isWindow_J50 at hf
        refine lv_iconst (v := 0) hx hb dX9_isWindow_50 (by decide) ?_
        exact W.zret (v := 0) hx hb hr (nz (Or.inl rfl)) (fun t9 ht9 hW9 => ⟨⟨_, (), rfl, ⟨hf.trans hf0.symm, (Or.inl rfl)⟩, ⟨by rw [ht9]; exact hR.P, hR.D⟩⟩, hR.sS.F ht9⟩) hR.sS.2.2 dX9_isWindow_51
      refine lv_if_ne (tgt := 50) hx hb dX9_isWindow_27 (by decide) (fun c10 => ?_) (fun c10 => ?_)
      · rw [if_neg (k_ne rfl (by decide) c10)] at hf
        (try rw [if_neg (k_ne rfl (by decide) c10)] at hd)
        exact J_50 _ _ ls hd hf  hR (lv_sub hl [] rfl)
      · rw [if_pos (k_eq rfl (by decide) c10)] at hf
        (try rw [if_pos (k_eq rfl (by decide) c10)] at hd)
        refine lv_iload_n hx hb dX9_isWindow_30 rfl (lv_at hl 2 rfl) ?_
        refine lv_iconst (v := 3) hx hb dX9_isWindow_31 (by decide) ?_
        have J_46 : ∀ (H : Heap) (locs : List Loc) (ls : Array Slot), d_X9_isWindow_J46 S → f_X9_isWindow_J46 S = r0 → RepC g ad A s S H locs → lv_has ls 3 [] → W p l e (headSpec (wt yX9_isWindow cX9_isWindow 3 (some .boolean)) ({ frames := 0, cells := 0, slots := 0, locals := 0 })).room s m ([.ref (ad 66), .int x1, .int x2] : List Value).toArray below meth c H locs 0 0 (MQ below (va_Qi (fun (r : Int32) (_ : Unit) => r = fX9_isWindow S x1 x2 ∧ (r = 0 ∨ r = 1)) (fun (_ : Unit) (t : State) => qEC g ad A S t) A) ([.ref (ad 66), .int x1, .int x2] : List Value).toArray s 0 0 A) (F0 m 46 ls []) := by
          intro H locs ls hd hf hR hl
          unfold d_X9_isWindow_J46 at hd
          unfold f_X9_isWindow_J46 at hf
          refine lv_iconst (v := 1) hx hb dX9_isWindow_46 (by decide) ?_
          refine lv_goto (tgt := 51) hx hb dX9_isWindow_47 (by decide) ?_
          exact W.zret (v := 1) hx hb hr (nz (Or.inr rfl)) (fun t9 ht9 hW9 => ⟨⟨_, (), rfl, ⟨hf.trans hf0.symm, (Or.inr rfl)⟩, ⟨by rw [ht9]; exact hR.P, hR.D⟩⟩, hR.sS.F ht9⟩) hR.sS.2.2 dX9_isWindow_51
        refine lv_icmp_lt (tgt := 46) hx hb dX9_isWindow_32 (by decide) (fun c11 => ?_) (fun c11 => ?_)
        · rw [if_pos (k_lt rfl (by decide) c11)] at hf
          (try rw [if_pos (k_lt rfl (by decide) c11)] at hd)
          exact J_46 _ _ ls hd hf  hR (lv_sub hl [] rfl)
        · rw [if_neg (k_nlt rfl (by decide) c11)] at hf
          (try rw [if_neg (k_nlt rfl (by decide) c11)] at hd)
          refine lv_aload_n hx hb dX9_isWindow_35 rfl (lv_at hl 0 rfl) ?_
          have hT_b12 : qT S (qO S 66 2) = 305 := hR.w.ref (hR.w.ptr ptrC_35) (hR.w.2.1 _ finC_31).2.1
          refine va_get (D := rD g) (ci := 8) (v := .ref (ad (qO S 66 2))) (C := RX9) (T := TX9) (N := 6) hx hb hts inX9 hown hR.K hR.P 66 (hR.at48 (hR.w.2.1 _ finC_31).2.1) rfl 2 (by decide) (hts _ kw_1566) (fun _ h9 => h9) (congrArg (fun z => some (vf ad z)) (hR.w.ptr ptrC_35)) dX9_isWindow_36 ?_
          refine lv_iload_n hx hb dX9_isWindow_39 rfl (lv_at hl 1 rfl) ?_
          refine lv_iconst (v := 2) hx hb dX9_isWindow_40 (by decide) ?_
          refine lv_iadd hx hb dX9_isWindow_41 ?_
          refine lv_topi (fun z13 ez13 => ?_)
          obtain rfl : z13 = (x1 + (2 : Int32)) := ez13
          obtain ⟨hv14, hd⟩ := hd
          refine va_zald hx hb hR.K hR.P (qO S 66 2) 2 (hR.atZ hT_b12 (by decide)) rfl (k_ix (x := (x1 + (2 : Int32))) (a := (x1 + (2 : Int32)).toInt) rfl hv14) dX9_isWindow_42 ?_
          refine lv_topi (fun z15 ez15 => ?_)
          obtain rfl : z15 = (qI S (qO S 66 2) (((x1 + (2 : Int32)).toInt).toNat)) := ez15
          have hz16 := hR.w.bit3 (b := (qO S 66 2)) (j := ((x1 + (2 : Int32)).toInt).toNat) (hT_b12) (by decide)
          refine lv_if_ne (tgt := 50) hx hb dX9_isWindow_43 (by decide) (fun c17 => ?_) (fun c17 => ?_)
          · rw [if_neg (k_ne rfl (by decide) c17)] at hf
            (try rw [if_neg (k_ne rfl (by decide) c17)] at hd)
            exact J_50 _ _ ls hd hf  hR (lv_sub hl [] rfl)
          · rw [if_pos (k_eq rfl (by decide) c17)] at hf
            (try rw [if_pos (k_eq rfl (by decide) c17)] at hd)
            exact J_46 _ _ ls hd hf  hR (lv_sub hl [] rfl)
    · rw [if_neg (k_nlt rfl rfl c4)] at hf
      (try rw [if_neg (k_nlt rfl rfl c4)] at hd)
      refine lv_iconst (v := 0) hx hb dX9_isWindow_17 (by decide) ?_
      exact W.zret (v := 0) hx hb hr (nz (Or.inl rfl)) (fun t9 ht9 hW9 => ⟨⟨_, (), rfl, ⟨hf.trans hf0.symm, (Or.inl rfl)⟩, ⟨by rw [ht9]; exact hR.P, hR.D⟩⟩, hR.sS.F ht9⟩) hR.sS.2.2 dX9_isWindow_18
def fX9_pushKind (S : MS) (x1 : Int32) : Int32 := (if (fX8_opAt S (qO S 66 0) x1).toInt = 17 then (1 : Int32) else (if (fX8_opAt S (qO S 66 0) x1).toInt = 20 then (2 : Int32) else (0 : Int32)))
def d_X9_pushKind (S : MS) (x1 : Int32) : Prop := (d_X8_opAt S (qO S 66 0) x1 ∧ True)
set_option maxHeartbeats 2000000 in
set_option maxRecDepth 100000 in
theorem rX9_pushKind (l : Launch) (g : Gr) (ad : Nat → Nat) (sz : Nat) (S : MS) (x1 : Int32) (hw : wfC S) (hd : d_X9_pushKind S x1) : Met l yX9_pushKind (wt yX9_pushKind cX9_pushKind 3 (some .int)) ({ frames := 1, cells := 0, slots := 0, locals := 21 }) (va_Pc [.ref (ad 66), .int x1] (st_C g ad sz S)) (va_Qi (fun (r : Int32) (_ : Unit) => r = fX9_pushKind S x1) (fun (_ : Unit) (t : State) => qEC g ad (va_A (WdC g ad S) sz) S t) (va_A (WdC g ad S) sz)) 0 0 (va_A (WdC g ad S) sz) := by
  refine Met.ofW (cc := cX9_pushKind) (maxL := 3) (ret := (some .int)) (by decide) rfl ?_
  intro p e s m args below meth c s₁ B hml hv
  obtain ⟨rfl, hsz, hP, hK, hD0, hex, hE⟩ := hv
  have hx := B.exec
  have hb := B.bytes
  have hr := B.returns
  have hts0 := atoms_spec (ws := wt yX9_pushKind cX9_pushKind 3 (some .int)) B.pre
  have hts : ∀ w ∈ tb, w.before _ s = true := fun w h => hts0 w (List.mem_cons_of_mem _ h)
  have hown : s.vm.findClass RX9 = some m.cls := findClass_of_methodNamed B.named
  subst hsz
  have hD := hD0.self (sz := s.heap.size)
  generalize hAe : va_A (WdC g ad S) s.heap.size = A at hD hE ⊢
  have hA : ∀ q : Nat, s.heap.size ≤ q → A q := fun q h => by rw [← hAe]; exact Or.inr h
  have hR : RepC g ad A s S s.heap [] := ⟨hK, hP, hD, va_S.rf, hw⟩
  clear hK hP hD hD0
  have hl := lv_entry ([.ref (ad 66), .int x1]) (n := 3) (Nat.le_of_ble_eq_true rfl)
  rw [lg_entry_eq]
  generalize (lg_sl ([.ref (ad 66), .int x1]) ++ List.replicate (3 - (lg_sl ([.ref (ad 66), .int x1])).length) Slot.unset).toArray = ls at hl ⊢
  have hl : lv_has ls 3 [(0, .ref (ad 66)), (1, .int x1)] := hl
  obtain ⟨r0, hf⟩ : ∃ r0, fX9_pushKind S x1 = r0 := ⟨_, rfl⟩
  have hf0 := hf
  unfold fX9_pushKind at hf
  unfold d_X9_pushKind at hd
  refine lv_aload_n hx hb dX9_pushKind_0 rfl (lv_at hl 0 rfl) ?_
  have hT_b1 : qT S (qO S 66 0) = 47 := hR.w.ref (hR.w.ptr ptrC_39) (hR.w.2.1 _ finC_31).2.1
  refine va_get (D := rD g) (ci := 8) (v := .ref (ad (qO S 66 0))) (C := RX9) (T := TX9) (N := 6) hx hb hts inX9 hown hR.K hR.P 66 (hR.at48 (hR.w.2.1 _ finC_31).2.1) rfl 0 (by decide) (hts _ kw_1552) (fun _ h9 => h9) (congrArg (fun z => some (vf ad z)) (hR.w.ptr ptrC_39)) dX9_pushKind_1 ?_
  refine lv_iload_n hx hb dX9_pushKind_4 rfl (lv_at hl 1 rfl) ?_
  obtain ⟨hv2, hd⟩ := hd
  have hFc := cfree hR hA
  refine va_calli (va_runV (As := [.int x1]) (rest := []) ⟨hx, hb, hml, hown, hts⟩ (rX8_opAt l g ad s.heap.size S (qO S 66 0) x1 hR.w hT_b1 hv2) (cwV 1 hts (gd_V kw_1596 kw_1513 kw_1514 kw_782 kw_1512) rfl rfl rfl (by decide +kernel) ⟨Nat.le_of_ble_eq_true rfl, Nat.le_of_ble_eq_true rfl⟩) ⟨cblind, va_recv hR.K hR.P (ci := 7) (q0 := (qO S 66 0)) rfl (hR.at47 hT_b1), fun U hU hW9 => cmk hU hW9 hR hex hE hFc⟩ rfl rfl hl.1 rfl (lv_room (Nat.le_of_ble_eq_true rfl)) dX9_pushKind_5 ⟨Nat.le_of_ble_eq_true rfl, Nat.le_of_ble_eq_true rfl⟩) hR.sS (fun q _ h => hFc q h) hFc (fun r3 u9 t9 H1 locs ht9 hvm9 hw9 hB9 hz9 hk9 hS => ?_)
  have hR : RepC g ad A s S H1 locs := hR.call ht9 hB9 hR.w hS hFc
  obtain rfl : r3 = (fX8_opAt S (qO S 66 0) x1) := hw9
  clear hB9 hz9 hk9 hvm9 ht9 hS
  generalize H1 = H at hR ⊢
  refine lv_istore_n (lv' := [(2, .int (fX8_opAt S (qO S 66 0) x1)), (0, .ref (ad 66)), (1, .int x1)]) hx hb dX9_pushKind_8 rfl hl (by decide) rfl (fun ls hl => ?_)
  refine lv_iload_n hx hb dX9_pushKind_9 rfl (lv_at hl 0 rfl) ?_
  refine lv_bipush (v := 17) hx hb dX9_pushKind_10 (by decide) ?_
  refine lv_icmp_ne (tgt := 19) hx hb dX9_pushKind_12 (by decide) (fun c5 => ?_) (fun c5 => ?_)
  · rw [if_neg (k_ne rfl (by decide) c5)] at hf
    (try rw [if_neg (k_ne rfl (by decide) c5)] at hd)
    refine lv_iload_n hx hb dX9_pushKind_19 rfl (lv_at hl 0 rfl) ?_
    refine lv_bipush (v := 20) hx hb dX9_pushKind_20 (by decide) ?_
    refine lv_icmp_ne (tgt := 29) hx hb dX9_pushKind_22 (by decide) (fun c6 => ?_) (fun c6 => ?_)
    · rw [if_neg (k_ne rfl (by decide) c6)] at hf
      (try rw [if_neg (k_ne rfl (by decide) c6)] at hd)
      refine lv_iconst (v := 0) hx hb dX9_pushKind_29 (by decide) ?_
      exact W.iret (v := 0) hx hb hr (fun t9 ht9 hW9 => ⟨⟨_, (), rfl, hf.trans hf0.symm, ⟨by rw [ht9]; exact hR.P, hR.D⟩⟩, hR.sS.F ht9⟩) hR.sS.2.2 dX9_pushKind_30
    · rw [if_pos (k_eq rfl (by decide) c6)] at hf
      (try rw [if_pos (k_eq rfl (by decide) c6)] at hd)
      refine lv_iconst (v := 2) hx hb dX9_pushKind_25 (by decide) ?_
      refine lv_goto (tgt := 30) hx hb dX9_pushKind_26 (by decide) ?_
      exact W.iret (v := 2) hx hb hr (fun t9 ht9 hW9 => ⟨⟨_, (), rfl, hf.trans hf0.symm, ⟨by rw [ht9]; exact hR.P, hR.D⟩⟩, hR.sS.F ht9⟩) hR.sS.2.2 dX9_pushKind_30
  · rw [if_pos (k_eq rfl (by decide) c5)] at hf
    (try rw [if_pos (k_eq rfl (by decide) c5)] at hd)
    refine lv_iconst (v := 1) hx hb dX9_pushKind_15 (by decide) ?_
    refine lv_goto (tgt := 30) hx hb dX9_pushKind_16 (by decide) ?_
    exact W.iret (v := 1) hx hb hr (fun t9 ht9 hW9 => ⟨⟨_, (), rfl, hf.trans hf0.symm, ⟨by rw [ht9]; exact hR.P, hR.D⟩⟩, hR.sS.F ht9⟩) hR.sS.2.2 dX9_pushKind_30
def wX9_putPush (S : MS) (x1 : Int32) (x2 : Int32) (y3 : Int64) (Q : MS → Prop) : Prop := ((x2.toInt = 2 → (qT S (qO S 66 0) = 47 → (∃ Q6, wX8_set S (qO S 66 0) x1 (20 : Int32) y3 Q6 ∧ ∀ S7, Q6 S7 → wfC S7 → shy S S7 → Q S7))) ∧ (¬ x2.toInt = 2 → (qT S (qO S 66 0) = 47 → (∃ Q3, wX8_set S (qO S 66 0) x1 (17 : Int32) y3 Q3 ∧ ∀ S4, Q3 S4 → wfC S4 → shy S S4 → Q S4))))
set_option maxHeartbeats 2000000 in
set_option maxRecDepth 100000 in
theorem rX9_putPush (l : Launch) (g : Gr) (ad : Nat → Nat) (sz : Nat) (S : MS) (x1 : Int32) (x2 : Int32) (y3 : Int64) (hw : wfC S) (Q : MS → Prop) (h : wX9_putPush S x1 x2 y3 Q) : Met l yX9_putPush (wt yX9_putPush cX9_putPush 5 none) ({ frames := 1, cells := 0, slots := 0, locals := 24 }) (va_Pc [.ref (ad 66), .int x1, .int x2, .long y3] (st_C g ad sz S)) (va_Qv (fun (u : MS) => Q u ∧ wfC u ∧ shy S u) (fun (u : MS) (t : State) => qEC g ad (va_A (WdC g ad S) sz) u t) (va_A (WdC g ad S) sz)) 0 0 (va_A (WdC g ad S) sz) := by
  refine Met.ofW (cc := cX9_putPush) (maxL := 5) (ret := none) (by decide) rfl ?_
  intro p e s m args below meth c s₁ B hml hv
  obtain ⟨rfl, hsz, hP, hK, hD0, hex, hE⟩ := hv
  have hx := B.exec
  have hb := B.bytes
  have hr := B.returns
  have hts0 := atoms_spec (ws := wt yX9_putPush cX9_putPush 5 none) B.pre
  have hts : ∀ w ∈ tb, w.before _ s = true := fun w h => hts0 w (List.mem_cons_of_mem _ h)
  have hown : s.vm.findClass RX9 = some m.cls := findClass_of_methodNamed B.named
  subst hsz
  have hD := hD0.self (sz := s.heap.size)
  generalize hAe : va_A (WdC g ad S) s.heap.size = A at hD hE ⊢
  have hA : ∀ q : Nat, s.heap.size ≤ q → A q := fun q h => by rw [← hAe]; exact Or.inr h
  have hR : RepC g ad A s S s.heap [] := ⟨hK, hP, hD, va_S.rf, hw⟩
  clear hK hP hD hD0
  have hl := lv_entry ([.ref (ad 66), .int x1, .int x2, .long y3]) (n := 5) (Nat.le_of_ble_eq_true rfl)
  rw [lg_entry_eq]
  generalize (lg_sl ([.ref (ad 66), .int x1, .int x2, .long y3]) ++ List.replicate (5 - (lg_sl ([.ref (ad 66), .int x1, .int x2, .long y3])).length) Slot.unset).toArray = ls at hl ⊢
  have hl : lv_has ls 5 [(0, .ref (ad 66)), (1, .int x1), (2, .int x2), (3, .long y3)] := hl
  have hsh : shy S S := shy.rf
  unfold wX9_putPush at h
  refine lv_aload_n hx hb dX9_putPush_0 rfl (lv_at hl 0 rfl) ?_
  have hT_b1 : qT S (qO S 66 0) = 47 := hR.w.ref (hR.w.ptr ptrC_39) (hR.w.2.1 _ finC_31).2.1
  refine va_get (D := rD g) (ci := 8) (v := .ref (ad (qO S 66 0))) (C := RX9) (T := TX9) (N := 6) hx hb hts inX9 hown hR.K hR.P 66 (hR.at48 (hR.w.2.1 _ finC_31).2.1) rfl 0 (by decide) (hts _ kw_1552) (fun _ h9 => h9) (congrArg (fun z => some (vf ad z)) (hR.w.ptr ptrC_39)) dX9_putPush_1 ?_
  refine lv_iload_n hx hb dX9_putPush_4 rfl (lv_at hl 1 rfl) ?_
  refine lv_iload_n hx hb dX9_putPush_5 rfl (lv_at hl 2 rfl) ?_
  refine lv_iconst (v := 2) hx hb dX9_putPush_6 (by decide) ?_
  refine lv_icmp_ne (tgt := 15) hx hb dX9_putPush_7 (by decide) (fun c2 => ?_) (fun c2 => ?_)
  · replace h := h.2 (k_ne rfl (by decide) c2)
    refine lv_bipush (v := 17) hx hb dX9_putPush_15 (by decide) ?_
    refine lv_lload_n hx hb dX9_putPush_17 rfl (lv_at hl 3 rfl) ?_
    replace h := h (hT_b1)
    obtain ⟨Q3, h0, h⟩ := h
    have hFc := cfree hR hA
    refine va_callv (va_runV (As := [.int x1, .int 17, .long y3]) (rest := []) ⟨hx, hb, hml, hown, hts⟩ (rX8_set l g ad s.heap.size S (qO S 66 0) x1 (17 : Int32) y3 hR.w hT_b1 Q3 h0) (cwV 3 hts (gd_V kw_1600 kw_1523 kw_1524 kw_782 kw_1522) rfl rfl rfl (by decide +kernel) ⟨Nat.le_of_ble_eq_true rfl, Nat.le_of_ble_eq_true rfl⟩) ⟨cblind, va_recv hR.K hR.P (ci := 7) (q0 := (qO S 66 0)) rfl (hR.at47 hT_b1), fun U hU hW9 => cmk hU hW9 hR hex hE hFc⟩ rfl rfl hl.1 rfl (lv_room (Nat.le_of_ble_eq_true rfl)) dX9_putPush_18 ⟨Nat.le_of_ble_eq_true rfl, Nat.le_of_ble_eq_true rfl⟩) hR.sS (fun q _ h => hFc q h) hFc (fun  S4 t9 H1 locs ht9 hvm9 hw9 hB9 hz9 hk9 hS => ?_)
    obtain ⟨hq5, hw9, hs9⟩ := hw9
    have hR : RepC g ad A s S4 H1 locs := hR.call ht9 hB9 hw9 hS hFc
    have hsh := hsh.tr hs9
    replace h := h  S4 hq5 hw9 hs9
    clear hB9 hz9 hk9 hvm9 ht9 hw9 hs9 hS
    generalize H1 = H at hR ⊢
    exact W.vret hx hb hr (fun t9 ht9 hW9 => ⟨⟨S4, rfl, ⟨h, hR.w, hsh⟩, ⟨by rw [ht9]; exact hR.P, hR.D⟩⟩, hR.sS.F ht9⟩) hR.sS.2.2 dX9_putPush_21
  · replace h := h.1 (k_eq rfl (by decide) c2)
    refine lv_bipush (v := 20) hx hb dX9_putPush_10 (by decide) ?_
    refine lv_goto (tgt := 17) hx hb dX9_putPush_12 (by decide) ?_
    refine lv_lload_n hx hb dX9_putPush_17 rfl (lv_at hl 3 rfl) ?_
    replace h := h (hT_b1)
    obtain ⟨Q6, h0, h⟩ := h
    have hFc := cfree hR hA
    refine va_callv (va_runV (As := [.int x1, .int 20, .long y3]) (rest := []) ⟨hx, hb, hml, hown, hts⟩ (rX8_set l g ad s.heap.size S (qO S 66 0) x1 (20 : Int32) y3 hR.w hT_b1 Q6 h0) (cwV 3 hts (gd_V kw_1600 kw_1523 kw_1524 kw_782 kw_1522) rfl rfl rfl (by decide +kernel) ⟨Nat.le_of_ble_eq_true rfl, Nat.le_of_ble_eq_true rfl⟩) ⟨cblind, va_recv hR.K hR.P (ci := 7) (q0 := (qO S 66 0)) rfl (hR.at47 hT_b1), fun U hU hW9 => cmk hU hW9 hR hex hE hFc⟩ rfl rfl hl.1 rfl (lv_room (Nat.le_of_ble_eq_true rfl)) dX9_putPush_18 ⟨Nat.le_of_ble_eq_true rfl, Nat.le_of_ble_eq_true rfl⟩) hR.sS (fun q _ h => hFc q h) hFc (fun  S7 t9 H1 locs ht9 hvm9 hw9 hB9 hz9 hk9 hS => ?_)
    obtain ⟨hq8, hw9, hs9⟩ := hw9
    have hR : RepC g ad A s S7 H1 locs := hR.call ht9 hB9 hw9 hS hFc
    have hsh := hsh.tr hs9
    replace h := h  S7 hq8 hw9 hs9
    clear hB9 hz9 hk9 hvm9 ht9 hw9 hs9 hS
    generalize H1 = H at hR ⊢
    exact W.vret hx hb hr (fun t9 ht9 hW9 => ⟨⟨S7, rfl, ⟨h, hR.w, hsh⟩, ⟨by rw [ht9]; exact hR.P, hR.D⟩⟩, hR.sS.F ht9⟩) hR.sS.2.2 dX9_putPush_21
def f_X9_isNeutral_J200 (S : MS) (v200_1 : Int32) : Int32 := (if (lg_cmp (fX8_argAt S (qO S 66 0) v200_1) 0).toInt = 0 then (1 : Int32) else (0 : Int32))
def d_X9_isNeutral_J200 (S : MS) (v200_1 : Int32) : Prop := (d_X8_argAt S (qO S 66 0) v200_1 ∧ True)
def f_X9_isNeutral_J219 (S : MS) (v219_1 : Int32) : Int32 := (if (lg_cmp (fX8_argAt S (qO S 66 0) v219_1) 1).toInt = 0 then (1 : Int32) else (0 : Int32))
def d_X9_isNeutral_J219 (S : MS) (v219_1 : Int32) : Prop := (d_X8_argAt S (qO S 66 0) v219_1 ∧ True)
def f_X9_isNeutral_J238 (S : MS) (v238_1 : Int32) : Int32 := (if (lg_cmp (fX8_argAt S (qO S 66 0) v238_1) (-1 : Int64)).toInt = 0 then (1 : Int32) else (0 : Int32))
def d_X9_isNeutral_J238 (S : MS) (v238_1 : Int32) : Prop := (d_X8_argAt S (qO S 66 0) v238_1 ∧ True)
def f_X9_isNeutral_J283 (S : MS) : Int32 := (0 : Int32)
def d_X9_isNeutral_J283 (S : MS) : Prop := True
def f_X9_isNeutral_J259 (S : MS) (v259_1 : Int32) (v259_2 : Int32) : Int32 := (if (fX6_isShift S v259_2).toInt = 0 then f_X9_isNeutral_J283 S else (if (lg_cmp (fX8_argAt S (qO S 66 0) v259_1) 0).toInt = 0 then (1 : Int32) else f_X9_isNeutral_J283 S))
def d_X9_isNeutral_J259 (S : MS) (v259_1 : Int32) (v259_2 : Int32) : Prop := (d_X6_isShift S v259_2 ∧ (if (fX6_isShift S v259_2).toInt = 0 then d_X9_isNeutral_J283 S else (d_X8_argAt S (qO S 66 0) v259_1 ∧ (if (lg_cmp (fX8_argAt S (qO S 66 0) v259_1) 0).toInt = 0 then True else d_X9_isNeutral_J283 S))))
def fX9_isNeutral (S : MS) (x1 : Int32) : Int32 := (if (fX9_pushKind S x1).toInt = 0 then (0 : Int32) else (if (fX6_isBinary S (fX8_opAt S (qO S 66 0) (x1 + (1 : Int32)))).toInt = 0 then (0 : Int32) else (if (fX9_pushKind S x1).toInt = ((fX6_takes S (fX8_opAt S (qO S 66 0) (x1 + (1 : Int32)))) &&& (15 : Int32)).toInt then (if (fX8_opAt S (qO S 66 0) (x1 + (1 : Int32))).toInt = 96 then f_X9_isNeutral_J200 S x1 else (if (fX8_opAt S (qO S 66 0) (x1 + (1 : Int32))).toInt = 97 then f_X9_isNeutral_J200 S x1 else (if (fX8_opAt S (qO S 66 0) (x1 + (1 : Int32))).toInt = 98 then f_X9_isNeutral_J259 S x1 (fX8_opAt S (qO S 66 0) (x1 + (1 : Int32))) else (if (fX8_opAt S (qO S 66 0) (x1 + (1 : Int32))).toInt = 99 then f_X9_isNeutral_J259 S x1 (fX8_opAt S (qO S 66 0) (x1 + (1 : Int32))) else (if (fX8_opAt S (qO S 66 0) (x1 + (1 : Int32))).toInt = 100 then f_X9_isNeutral_J200 S x1 else (if (fX8_opAt S (qO S 66 0) (x1 + (1 : Int32))).toInt = 101 then f_X9_isNeutral_J200 S x1 else (if (fX8_opAt S (qO S 66 0) (x1 + (1 : Int32))).toInt = 102 then f_X9_isNeutral_J259 S x1 (fX8_opAt S (qO S 66 0) (x1 + (1 : Int32))) else (if (fX8_opAt S (qO S 66 0) (x1 + (1 : Int32))).toInt = 103 then f_X9_isNeutral_J259 S x1 (fX8_opAt S (qO S 66 0) (x1 + (1 : Int32))) else (if (fX8_opAt S (qO S 66 0) (x1 + (1 : Int32))).toInt = 104 then f_X9_isNeutral_J219 S x1 else (if (fX8_opAt S (qO S 66 0) (x1 + (1 : Int32))).toInt = 105 then f_X9_isNeutral_J219 S x1 else (if (fX8_opAt S (qO S 66 0) (x1 + (1 : Int32))).toInt = 106 then f_X9_isNeutral_J259 S x1 (fX8_opAt S (qO S 66 0) (x1 + (1 : Int32))) else (if (fX8_opAt S (qO S 66 0) (x1 + (1 : Int32))).toInt = 107 then f_X9_isNeutral_J259 S x1 (fX8_opAt S (qO S 66 0) (x1 + (1 : Int32))) else (if (fX8_opAt S (qO S 66 0) (x1 + (1 : Int32))).toInt = 108 then f_X9_isNeutral_J219 S x1 else (if (fX8_opAt S (qO S 66 0) (x1 + (1 : Int32))).toInt = 109 then f_X9_isNeutral_J219 S x1 else (if (fX8_opAt S (qO S 66 0) (x1 + (1 : Int32))).toInt = 110 then f_X9_isNeutral_J259 S x1 (fX8_opAt S (qO S 66 0) (x1 + (1 : Int32))) else (if (fX8_opAt S (qO S 66 0) (x1 + (1 : Int32))).toInt = 111 then f_X9_isNeutral_J259 S x1 (fX8_opAt S (qO S 66 0) (x1 + (1 : Int32))) else (if (fX8_opAt S (qO S 66 0) (x1 + (1 : Int32))).toInt = 112 then f_X9_isNeutral_J259 S x1 (fX8_opAt S (qO S 66 0) (x1 + (1 : Int32))) else (if (fX8_opAt S (qO S 66 0) (x1 + (1 : Int32))).toInt = 113 then f_X9_isNeutral_J259 S x1 (fX8_opAt S (qO S 66 0) (x1 + (1 : Int32))) else (if (fX8_opAt S (qO S 66 0) (x1 + (1 : Int32))).toInt = 114 then f_X9_isNeutral_J259 S x1 (fX8_opAt S (qO S 66 0) (x1 + (1 : Int32))) else (if (fX8_opAt S (qO S 66 0) (x1 + (1 : Int32))).toInt = 115 then f_X9_isNeutral_J259 S x1 (fX8_opAt S (qO S 66 0) (x1 + (1 : Int32))) else (if (fX8_opAt S (qO S 66 0) (x1 + (1 : Int32))).toInt = 116 then f_X9_isNeutral_J259 S x1 (fX8_opAt S (qO S 66 0) (x1 + (1 : Int32))) else (if (fX8_opAt S (qO S 66 0) (x1 + (1 : Int32))).toInt = 117 then f_X9_isNeutral_J259 S x1 (fX8_opAt S (qO S 66 0) (x1 + (1 : Int32))) else (if (fX8_opAt S (qO S 66 0) (x1 + (1 : Int32))).toInt = 118 then f_X9_isNeutral_J259 S x1 (fX8_opAt S (qO S 66 0) (x1 + (1 : Int32))) else (if (fX8_opAt S (qO S 66 0) (x1 + (1 : Int32))).toInt = 119 then f_X9_isNeutral_J259 S x1 (fX8_opAt S (qO S 66 0) (x1 + (1 : Int32))) else (if (fX8_opAt S (qO S 66 0) (x1 + (1 : Int32))).toInt = 120 then f_X9_isNeutral_J259 S x1 (fX8_opAt S (qO S 66 0) (x1 + (1 : Int32))) else (if (fX8_opAt S (qO S 66 0) (x1 + (1 : Int32))).toInt = 121 then f_X9_isNeutral_J259 S x1 (fX8_opAt S (qO S 66 0) (x1 + (1 : Int32))) else (if (fX8_opAt S (qO S 66 0) (x1 + (1 : Int32))).toInt = 122 then f_X9_isNeutral_J259 S x1 (fX8_opAt S (qO S 66 0) (x1 + (1 : Int32))) else (if (fX8_opAt S (qO S 66 0) (x1 + (1 : Int32))).toInt = 123 then f_X9_isNeutral_J259 S x1 (fX8_opAt S (qO S 66 0) (x1 + (1 : Int32))) else (if (fX8_opAt S (qO S 66 0) (x1 + (1 : Int32))).toInt = 124 then f_X9_isNeutral_J259 S x1 (fX8_opAt S (qO S 66 0) (x1 + (1 : Int32))) else (if (fX8_opAt S (qO S 66 0) (x1 + (1 : Int32))).toInt = 125 then f_X9_isNeutral_J259 S x1 (fX8_opAt S (qO S 66 0) (x1 + (1 : Int32))) else (if (fX8_opAt S (qO S 66 0) (x1 + (1 : Int32))).toInt = 126 then f_X9_isNeutral_J238 S x1 else (if (fX8_opAt S (qO S 66 0) (x1 + (1 : Int32))).toInt = 127 then f_X9_isNeutral_J238 S x1 else (if (fX8_opAt S (qO S 66 0) (x1 + (1 : Int32))).toInt = 128 then f_X9_isNeutral_J200 S x1 else (if (fX8_opAt S (qO S 66 0) (x1 + (1 : Int32))).toInt = 129 then f_X9_isNeutral_J200 S x1 else (if (fX8_opAt S (qO S 66 0) (x1 + (1 : Int32))).toInt = 130 then f_X9_isNeutral_J200 S x1 else (if (fX8_opAt S (qO S 66 0) (x1 + (1 : Int32))).toInt = 131 then f_X9_isNeutral_J200 S x1 else f_X9_isNeutral_J259 S x1 (fX8_opAt S (qO S 66 0) (x1 + (1 : Int32))))))))))))))))))))))))))))))))))))))) else (0 : Int32))))
def d_X9_isNeutral (S : MS) (x1 : Int32) : Prop := (d_X8_opAt S (qO S 66 0) (x1 + (1 : Int32)) ∧ (d_X9_pushKind S x1 ∧ (if (fX9_pushKind S x1).toInt = 0 then True else (d_X6_isBinary S (fX8_opAt S (qO S 66 0) (x1 + (1 : Int32))) ∧ (if (fX6_isBinary S (fX8_opAt S (qO S 66 0) (x1 + (1 : Int32)))).toInt = 0 then True else (d_X6_takes S (fX8_opAt S (qO S 66 0) (x1 + (1 : Int32))) ∧ (if (fX9_pushKind S x1).toInt = ((fX6_takes S (fX8_opAt S (qO S 66 0) (x1 + (1 : Int32)))) &&& (15 : Int32)).toInt then (if (fX8_opAt S (qO S 66 0) (x1 + (1 : Int32))).toInt = 96 then d_X9_isNeutral_J200 S x1 else (if (fX8_opAt S (qO S 66 0) (x1 + (1 : Int32))).toInt = 97 then d_X9_isNeutral_J200 S x1 else (if (fX8_opAt S (qO S 66 0) (x1 + (1 : Int32))).toInt = 98 then d_X9_isNeutral_J259 S x1 (fX8_opAt S (qO S 66 0) (x1 + (1 : Int32))) else (if (fX8_opAt S (qO S 66 0) (x1 + (1 : Int32))).toInt = 99 then d_X9_isNeutral_J259 S x1 (fX8_opAt S (qO S 66 0) (x1 + (1 : Int32))) else (if (fX8_opAt S (qO S 66 0) (x1 + (1 : Int32))).toInt = 100 then d_X9_isNeutral_J200 S x1 else (if (fX8_opAt S (qO S 66 0) (x1 + (1 : Int32))).toInt = 101 then d_X9_isNeutral_J200 S x1 else (if (fX8_opAt S (qO S 66 0) (x1 + (1 : Int32))).toInt = 102 then d_X9_isNeutral_J259 S x1 (fX8_opAt S (qO S 66 0) (x1 + (1 : Int32))) else (if (fX8_opAt S (qO S 66 0) (x1 + (1 : Int32))).toInt = 103 then d_X9_isNeutral_J259 S x1 (fX8_opAt S (qO S 66 0) (x1 + (1 : Int32))) else (if (fX8_opAt S (qO S 66 0) (x1 + (1 : Int32))).toInt = 104 then d_X9_isNeutral_J219 S x1 else (if (fX8_opAt S (qO S 66 0) (x1 + (1 : Int32))).toInt = 105 then d_X9_isNeutral_J219 S x1 else (if (fX8_opAt S (qO S 66 0) (x1 + (1 : Int32))).toInt = 106 then d_X9_isNeutral_J259 S x1 (fX8_opAt S (qO S 66 0) (x1 + (1 : Int32))) else (if (fX8_opAt S (qO S 66 0) (x1 + (1 : Int32))).toInt = 107 then d_X9_isNeutral_J259 S x1 (fX8_opAt S (qO S 66 0) (x1 + (1 : Int32))) else (if (fX8_opAt S (qO S 66 0) (x1 + (1 : Int32))).toInt = 108 then d_X9_isNeutral_J219 S x1 else (if (fX8_opAt S (qO S 66 0) (x1 + (1 : Int32))).toInt = 109 then d_X9_isNeutral_J219 S x1 else (if (fX8_opAt S (qO S 66 0) (x1 + (1 : Int32))).toInt = 110 then d_X9_isNeutral_J259 S x1 (fX8_opAt S (qO S 66 0) (x1 + (1 : Int32))) else (if (fX8_opAt S (qO S 66 0) (x1 + (1 : Int32))).toInt = 111 then d_X9_isNeutral_J259 S x1 (fX8_opAt S (qO S 66 0) (x1 + (1 : Int32))) else (if (fX8_opAt S (qO S 66 0) (x1 + (1 : Int32))).toInt = 112 then d_X9_isNeutral_J259 S x1 (fX8_opAt S (qO S 66 0) (x1 + (1 : Int32))) else (if (fX8_opAt S (qO S 66 0) (x1 + (1 : Int32))).toInt = 113 then d_X9_isNeutral_J259 S x1 (fX8_opAt S (qO S 66 0) (x1 + (1 : Int32))) else (if (fX8_opAt S (qO S 66 0) (x1 + (1 : Int32))).toInt = 114 then d_X9_isNeutral_J259 S x1 (fX8_opAt S (qO S 66 0) (x1 + (1 : Int32))) else (if (fX8_opAt S (qO S 66 0) (x1 + (1 : Int32))).toInt = 115 then d_X9_isNeutral_J259 S x1 (fX8_opAt S (qO S 66 0) (x1 + (1 : Int32))) else (if (fX8_opAt S (qO S 66 0) (x1 + (1 : Int32))).toInt = 116 then d_X9_isNeutral_J259 S x1 (fX8_opAt S (qO S 66 0) (x1 + (1 : Int32))) else (if (fX8_opAt S (qO S 66 0) (x1 + (1 : Int32))).toInt = 117 then d_X9_isNeutral_J259 S x1 (fX8_opAt S (qO S 66 0) (x1 + (1 : Int32))) else (if (fX8_opAt S (qO S 66 0) (x1 + (1 : Int32))).toInt = 118 then d_X9_isNeutral_J259 S x1 (fX8_opAt S (qO S 66 0) (x1 + (1 : Int32))) else (if (fX8_opAt S (qO S 66 0) (x1 + (1 : Int32))).toInt = 119 then d_X9_isNeutral_J259 S x1 (fX8_opAt S (qO S 66 0) (x1 + (1 : Int32))) else (if (fX8_opAt S (qO S 66 0) (x1 + (1 : Int32))).toInt = 120 then d_X9_isNeutral_J259 S x1 (fX8_opAt S (qO S 66 0) (x1 + (1 : Int32))) else (if (fX8_opAt S (qO S 66 0) (x1 + (1 : Int32))).toInt = 121 then d_X9_isNeutral_J259 S x1 (fX8_opAt S (qO S 66 0) (x1 + (1 : Int32))) else (if (fX8_opAt S (qO S 66 0) (x1 + (1 : Int32))).toInt = 122 then d_X9_isNeutral_J259 S x1 (fX8_opAt S (qO S 66 0) (x1 + (1 : Int32))) else (if (fX8_opAt S (qO S 66 0) (x1 + (1 : Int32))).toInt = 123 then d_X9_isNeutral_J259 S x1 (fX8_opAt S (qO S 66 0) (x1 + (1 : Int32))) else (if (fX8_opAt S (qO S 66 0) (x1 + (1 : Int32))).toInt = 124 then d_X9_isNeutral_J259 S x1 (fX8_opAt S (qO S 66 0) (x1 + (1 : Int32))) else (if (fX8_opAt S (qO S 66 0) (x1 + (1 : Int32))).toInt = 125 then d_X9_isNeutral_J259 S x1 (fX8_opAt S (qO S 66 0) (x1 + (1 : Int32))) else (if (fX8_opAt S (qO S 66 0) (x1 + (1 : Int32))).toInt = 126 then d_X9_isNeutral_J238 S x1 else (if (fX8_opAt S (qO S 66 0) (x1 + (1 : Int32))).toInt = 127 then d_X9_isNeutral_J238 S x1 else (if (fX8_opAt S (qO S 66 0) (x1 + (1 : Int32))).toInt = 128 then d_X9_isNeutral_J200 S x1 else (if (fX8_opAt S (qO S 66 0) (x1 + (1 : Int32))).toInt = 129 then d_X9_isNeutral_J200 S x1 else (if (fX8_opAt S (qO S 66 0) (x1 + (1 : Int32))).toInt = 130 then d_X9_isNeutral_J200 S x1 else (if (fX8_opAt S (qO S 66 0) (x1 + (1 : Int32))).toInt = 131 then d_X9_isNeutral_J200 S x1 else d_X9_isNeutral_J259 S x1 (fX8_opAt S (qO S 66 0) (x1 + (1 : Int32))))))))))))))))))))))))))))))))))))))) else True)))))))
set_option maxHeartbeats 2000000 in
set_option maxRecDepth 100000 in
theorem rX9_isNeutral (l : Launch) (g : Gr) (ad : Nat → Nat) (sz : Nat) (S : MS) (x1 : Int32) (hw : wfC S) (hd : d_X9_isNeutral S x1) : Met l yX9_isNeutral (wt yX9_isNeutral cX9_isNeutral 4 (some .boolean)) ({ frames := 2, cells := 0, slots := 0, locals := 43 }) (va_Pc [.ref (ad 66), .int x1] (st_C g ad sz S)) (va_Qi (fun (r : Int32) (_ : Unit) => r = fX9_isNeutral S x1 ∧ (r = 0 ∨ r = 1)) (fun (_ : Unit) (t : State) => qEC g ad (va_A (WdC g ad S) sz) S t) (va_A (WdC g ad S) sz)) 0 0 (va_A (WdC g ad S) sz) := by
  refine Met.ofW (cc := cX9_isNeutral) (maxL := 4) (ret := (some .boolean)) (by decide) rfl ?_
  intro p e s m args below meth c s₁ B hml hv
  obtain ⟨rfl, hsz, hP, hK, hD0, hex, hE⟩ := hv
  have hx := B.exec
  have hb := B.bytes
  have hr := B.returns
  have hts0 := atoms_spec (ws := wt yX9_isNeutral cX9_isNeutral 4 (some .boolean)) B.pre
  have hts : ∀ w ∈ tb, w.before _ s = true := fun w h => hts0 w (List.mem_cons_of_mem _ h)
  have hown : s.vm.findClass RX9 = some m.cls := findClass_of_methodNamed B.named
  subst hsz
  have hD := hD0.self (sz := s.heap.size)
  generalize hAe : va_A (WdC g ad S) s.heap.size = A at hD hE ⊢
  have hA : ∀ q : Nat, s.heap.size ≤ q → A q := fun q h => by rw [← hAe]; exact Or.inr h
  have hR : RepC g ad A s S s.heap [] := ⟨hK, hP, hD, va_S.rf, hw⟩
  clear hK hP hD hD0
  have hl := lv_entry ([.ref (ad 66), .int x1]) (n := 4) (Nat.le_of_ble_eq_true rfl)
  rw [lg_entry_eq]
  generalize (lg_sl ([.ref (ad 66), .int x1]) ++ List.replicate (4 - (lg_sl ([.ref (ad 66), .int x1])).length) Slot.unset).toArray = ls at hl ⊢
  have hl : lv_has ls 4 [(0, .ref (ad 66)), (1, .int x1)] := hl
  obtain ⟨r0, hf⟩ : ∃ r0, fX9_isNeutral S x1 = r0 := ⟨_, rfl⟩
  have hf0 := hf
  unfold fX9_isNeutral at hf
  unfold d_X9_isNeutral at hd
  refine lv_aload_n hx hb dX9_isNeutral_0 rfl (lv_at hl 0 rfl) ?_
  have hT_b1 : qT S (qO S 66 0) = 47 := hR.w.ref (hR.w.ptr ptrC_39) (hR.w.2.1 _ finC_31).2.1
  refine va_get (D := rD g) (ci := 8) (v := .ref (ad (qO S 66 0))) (C := RX9) (T := TX9) (N := 6) hx hb hts inX9 hown hR.K hR.P 66 (hR.at48 (hR.w.2.1 _ finC_31).2.1) rfl 0 (by decide) (hts _ kw_1552) (fun _ h9 => h9) (congrArg (fun z => some (vf ad z)) (hR.w.ptr ptrC_39)) dX9_isNeutral_1 ?_
  refine lv_iload_n hx hb dX9_isNeutral_4 rfl (lv_at hl 1 rfl) ?_
  refine lv_iconst (v := 1) hx hb dX9_isNeutral_5 (by decide) ?_
  refine lv_iadd hx hb dX9_isNeutral_6 ?_
  refine lv_topi (fun z2 ez2 => ?_)
  obtain rfl : z2 = (x1 + (1 : Int32)) := ez2
  obtain ⟨hv3, hd⟩ := hd
  have hFc := cfree hR hA
  refine va_calli (va_runV (As := [.int (x1 + (1 : Int32))]) (rest := []) ⟨hx, hb, hml, hown, hts⟩ (rX8_opAt l g ad s.heap.size S (qO S 66 0) (x1 + (1 : Int32)) hR.w hT_b1 hv3) (cwV 1 hts (gd_V kw_1596 kw_1513 kw_1514 kw_782 kw_1512) rfl rfl rfl (by decide +kernel) ⟨Nat.le_of_ble_eq_true rfl, Nat.le_of_ble_eq_true rfl⟩) ⟨cblind, va_recv hR.K hR.P (ci := 7) (q0 := (qO S 66 0)) rfl (hR.at47 hT_b1), fun U hU hW9 => cmk hU hW9 hR hex hE hFc⟩ rfl rfl hl.1 rfl (lv_room (Nat.le_of_ble_eq_true rfl)) dX9_isNeutral_7 ⟨Nat.le_of_ble_eq_true rfl, Nat.le_of_ble_eq_true rfl⟩) hR.sS (fun q _ h => hFc q h) hFc (fun r4 u9 t9 H1 locs ht9 hvm9 hw9 hB9 hz9 hk9 hS => ?_)
  have hR : RepC g ad A s S H1 locs := hR.call ht9 hB9 hR.w hS hFc
  obtain rfl : r4 = (fX8_opAt S (qO S 66 0) (x1 + (1 : Int32))) := hw9
  clear hB9 hz9 hk9 hvm9 ht9 hS
  generalize H1 = H at hR ⊢
  refine lv_istore_n (lv' := [(2, .int (fX8_opAt S (qO S 66 0) (x1 + (1 : Int32)))), (0, .ref (ad 66)), (1, .int x1)]) hx hb dX9_isNeutral_10 rfl hl (by decide) rfl (fun ls hl => ?_)
  refine lv_aload_n hx hb dX9_isNeutral_11 rfl (lv_at hl 1 rfl) ?_
  refine lv_iload_n hx hb dX9_isNeutral_12 rfl (lv_at hl 2 rfl) ?_
  obtain ⟨hv6, hd⟩ := hd
  have hFc := cfree hR hA
  refine va_calli (va_runV (As := [.int x1]) (rest := []) ⟨hx, hb, hml, hown, hts⟩ (rX9_pushKind l g ad H.size S x1 hR.w  hv6) (cwV 1 hts (gd_V kw_1622 kw_1696 kw_1697 kw_404 kw_1695) rfl rfl rfl (by decide +kernel) ⟨Nat.le_of_ble_eq_true rfl, Nat.le_of_ble_eq_true rfl⟩) ⟨cblind, va_recv hR.K hR.P (ci := 8) (q0 := 66) rfl (hR.at48 (hR.w.2.1 _ finC_31).2.1), fun U hU hW9 => cmk hU hW9 hR hex hE hFc⟩ rfl rfl hl.1 rfl (lv_room (Nat.le_of_ble_eq_true rfl)) dX9_isNeutral_13 ⟨Nat.le_of_ble_eq_true rfl, Nat.le_of_ble_eq_true rfl⟩) hR.sS (fun q _ h => hFc q h) hFc (fun r7 u9 t9 H1 locs ht9 hvm9 hw9 hB9 hz9 hk9 hS => ?_)
  have hR : RepC g ad A s S H1 locs := hR.call ht9 hB9 hR.w hS hFc
  obtain rfl : r7 = (fX9_pushKind S x1) := hw9
  clear hB9 hz9 hk9 hvm9 ht9 hS
  generalize H1 = H at hR ⊢
  refine lv_istore_n (lv' := [(3, .int (fX9_pushKind S x1)), (2, .int (fX8_opAt S (qO S 66 0) (x1 + (1 : Int32)))), (0, .ref (ad 66)), (1, .int x1)]) hx hb dX9_isNeutral_16 rfl hl (by decide) rfl (fun ls hl => ?_)
  refine lv_iload_n hx hb dX9_isNeutral_17 rfl (lv_at hl 0 rfl) ?_
  refine lv_if_eq (tgt := 39) hx hb dX9_isNeutral_18 (by decide) (fun c9 => ?_) (fun c9 => ?_)
  · rw [if_pos (k_eq rfl (by decide) c9)] at hf
    (try rw [if_pos (k_eq rfl (by decide) c9)] at hd)
    refine lv_iconst (v := 0) hx hb dX9_isNeutral_39 (by decide) ?_
    exact W.zret (v := 0) hx hb hr (nz (Or.inl rfl)) (fun t9 ht9 hW9 => ⟨⟨_, (), rfl, ⟨hf.trans hf0.symm, (Or.inl rfl)⟩, ⟨by rw [ht9]; exact hR.P, hR.D⟩⟩, hR.sS.F ht9⟩) hR.sS.2.2 dX9_isNeutral_40
  · rw [if_neg (k_ne rfl (by decide) c9)] at hf
    (try rw [if_neg (k_ne rfl (by decide) c9)] at hd)
    refine lv_iload_n hx hb dX9_isNeutral_21 rfl (lv_at hl 1 rfl) ?_
    obtain ⟨hv10, hd⟩ := hd
    have hFc := cfree hR hA
    refine va_calli (va_runS (As := [.int (fX8_opAt S (qO S 66 0) (x1 + (1 : Int32)))]) (rest := []) ⟨hx, hb, hml, hown, hts⟩ (rX6_isBinary l g ad H.size S (fX8_opAt S (qO S 66 0) (x1 + (1 : Int32))) hR.w  hv10) (va_cwS 1 hts (gd_S kw_1621 kw_1221 kw_1207 kw_1220) rfl rfl rfl (by decide +kernel) ⟨Nat.le_of_ble_eq_true rfl, Nat.le_of_ble_eq_true rfl⟩) ⟨cblind, fun U hU hW9 => cmk hU hW9 hR hex hE hFc⟩ rfl rfl hl.1 rfl (lv_room (Nat.le_of_ble_eq_true rfl)) dX9_isNeutral_22 ⟨Nat.le_of_ble_eq_true rfl, Nat.le_of_ble_eq_true rfl⟩) hR.sS (fun q _ h => hFc q h) hFc (fun r11 u9 t9 H1 locs ht9 hvm9 hw9 hB9 hz9 hk9 hS => ?_)
    have hR : RepC g ad A s S H1 locs := hR.call ht9 hB9 hR.w hS hFc
    obtain ⟨rfl, hz_r11⟩ := hw9
    clear hB9 hz9 hk9 hvm9 ht9 hS
    generalize H1 = H at hR ⊢
    refine lv_if_eq (tgt := 39) hx hb dX9_isNeutral_25 (by decide) (fun c13 => ?_) (fun c13 => ?_)
    · rw [if_pos (k_eq rfl (by decide) c13)] at hf
      (try rw [if_pos (k_eq rfl (by decide) c13)] at hd)
      refine lv_iconst (v := 0) hx hb dX9_isNeutral_39 (by decide) ?_
      exact W.zret (v := 0) hx hb hr (nz (Or.inl rfl)) (fun t9 ht9 hW9 => ⟨⟨_, (), rfl, ⟨hf.trans hf0.symm, (Or.inl rfl)⟩, ⟨by rw [ht9]; exact hR.P, hR.D⟩⟩, hR.sS.F ht9⟩) hR.sS.2.2 dX9_isNeutral_40
    · rw [if_neg (k_ne rfl (by decide) c13)] at hf
      (try rw [if_neg (k_ne rfl (by decide) c13)] at hd)
      refine lv_iload_n hx hb dX9_isNeutral_28 rfl (lv_at hl 0 rfl) ?_
      refine lv_iload_n hx hb dX9_isNeutral_29 rfl (lv_at hl 1 rfl) ?_
      obtain ⟨hv14, hd⟩ := hd
      have hFc := cfree hR hA
      refine va_calli (va_runS (As := [.int (fX8_opAt S (qO S 66 0) (x1 + (1 : Int32)))]) (rest := [.int (fX9_pushKind S x1)]) ⟨hx, hb, hml, hown, hts⟩ (rX6_takes l g ad H.size S (fX8_opAt S (qO S 66 0) (x1 + (1 : Int32))) hR.w  hv14) (va_cwS 1 hts (gd_S kw_1623 kw_1255 kw_1207 kw_1254) rfl rfl rfl (by decide +kernel) ⟨Nat.le_of_ble_eq_true rfl, Nat.le_of_ble_eq_true rfl⟩) ⟨cblind, fun U hU hW9 => cmk hU hW9 hR hex hE hFc⟩ rfl rfl hl.1 rfl (lv_room (Nat.le_of_ble_eq_true rfl)) dX9_isNeutral_30 ⟨Nat.le_of_ble_eq_true rfl, Nat.le_of_ble_eq_true rfl⟩) hR.sS (fun q _ h => hFc q h) hFc (fun r15 u9 t9 H1 locs ht9 hvm9 hw9 hB9 hz9 hk9 hS => ?_)
      have hR : RepC g ad A s S H1 locs := hR.call ht9 hB9 hR.w hS hFc
      obtain rfl : r15 = (fX6_takes S (fX8_opAt S (qO S 66 0) (x1 + (1 : Int32)))) := hw9
      clear hB9 hz9 hk9 hvm9 ht9 hS
      generalize H1 = H at hR ⊢
      refine lv_bipush (v := 15) hx hb dX9_isNeutral_33 (by decide) ?_
      refine lv_iand hx hb dX9_isNeutral_35 ?_
      refine lv_topi (fun z17 ez17 => ?_)
      obtain rfl : z17 = ((fX6_takes S (fX8_opAt S (qO S 66 0) (x1 + (1 : Int32)))) &&& (15 : Int32)) := ez17
      refine lv_icmp_eq (tgt := 41) hx hb dX9_isNeutral_36 (by decide) (fun c18 => ?_) (fun c18 => ?_)
      · rw [if_pos (k_eq rfl rfl c18)] at hf
        (try rw [if_pos (k_eq rfl rfl c18)] at hd)
        refine lv_iload_n hx hb dX9_isNeutral_41 rfl (lv_at hl 1 rfl) ?_
        have J_200 : ∀ (v200_1 : Int32) (H : Heap) (locs : List Loc) (ls : Array Slot), d_X9_isNeutral_J200 S v200_1 → f_X9_isNeutral_J200 S v200_1 = r0 → RepC g ad A s S H locs → lv_has ls 4 [(0, .ref (ad 66)), (1, .int v200_1)] → W p l e (headSpec (wt yX9_isNeutral cX9_isNeutral 4 (some .boolean)) ({ frames := 2, cells := 0, slots := 0, locals := 43 })).room s m ([.ref (ad 66), .int x1] : List Value).toArray below meth c H locs 0 0 (MQ below (va_Qi (fun (r : Int32) (_ : Unit) => r = fX9_isNeutral S x1 ∧ (r = 0 ∨ r = 1)) (fun (_ : Unit) (t : State) => qEC g ad A S t) A) ([.ref (ad 66), .int x1] : List Value).toArray s 0 0 A) (F0 m 200 ls []) := by
          intro v200_1 H locs ls hd hf hR hl
          unfold d_X9_isNeutral_J200 at hd
          unfold f_X9_isNeutral_J200 at hf
          refine lv_aload_n hx hb dX9_isNeutral_200 rfl (lv_at hl 0 rfl) ?_
          have hT_b19 : qT S (qO S 66 0) = 47 := hR.w.ref (hR.w.ptr ptrC_39) (hR.w.2.1 _ finC_31).2.1
          refine va_get (D := rD g) (ci := 8) (v := .ref (ad (qO S 66 0))) (C := RX9) (T := TX9) (N := 6) hx hb hts inX9 hown hR.K hR.P 66 (hR.at48 (hR.w.2.1 _ finC_31).2.1) rfl 0 (by decide) (hts _ kw_1552) (fun _ h9 => h9) (congrArg (fun z => some (vf ad z)) (hR.w.ptr ptrC_39)) dX9_isNeutral_201 ?_
          refine lv_iload_n hx hb dX9_isNeutral_204 rfl (lv_at hl 1 rfl) ?_
          obtain ⟨hv20, hd⟩ := hd
          have hFc := cfree hR hA
          refine va_calll (va_runV (As := [.int v200_1]) (rest := []) ⟨hx, hb, hml, hown, hts⟩ (rX8_argAt l g ad H.size S (qO S 66 0) v200_1 hR.w hT_b19 hv20) (cwV 1 hts (gd_V kw_1605 kw_1476 kw_1477 kw_782 kw_1475) rfl rfl rfl (by decide +kernel) ⟨Nat.le_of_ble_eq_true rfl, Nat.le_of_ble_eq_true rfl⟩) ⟨cblind, va_recv hR.K hR.P (ci := 7) (q0 := (qO S 66 0)) rfl (hR.at47 hT_b19), fun U hU hW9 => cmk hU hW9 hR hex hE hFc⟩ rfl rfl hl.1 rfl (lv_room (Nat.le_of_ble_eq_true rfl)) dX9_isNeutral_205 ⟨Nat.le_of_ble_eq_true rfl, Nat.le_of_ble_eq_true rfl⟩) hR.sS (fun q _ h => hFc q h) hFc (fun r21 u9 t9 H1 locs ht9 hvm9 hw9 hB9 hz9 hk9 hS => ?_)
          have hR : RepC g ad A s S H1 locs := hR.call ht9 hB9 hR.w hS hFc
          obtain rfl : r21 = (fX8_argAt S (qO S 66 0) v200_1) := hw9
          clear hB9 hz9 hk9 hvm9 ht9 hS
          generalize H1 = H at hR ⊢
          refine lv_lconst (v := 0) hx hb dX9_isNeutral_208 (by decide) ?_
          refine W.lcmp hx hb dX9_isNeutral_209 ?_
          refine lv_topi (fun z23 ez23 => ?_)
          obtain rfl : z23 = (lg_cmp (fX8_argAt S (qO S 66 0) v200_1) 0) := ez23
          refine lv_if_ne (tgt := 217) hx hb dX9_isNeutral_210 (by decide) (fun c24 => ?_) (fun c24 => ?_)
          · rw [if_neg (k_ne rfl (by decide) c24)] at hf
            (try rw [if_neg (k_ne rfl (by decide) c24)] at hd)
            refine lv_iconst (v := 0) hx hb dX9_isNeutral_217 (by decide) ?_
            exact W.zret (v := 0) hx hb hr (nz (Or.inl rfl)) (fun t9 ht9 hW9 => ⟨⟨_, (), rfl, ⟨hf.trans hf0.symm, (Or.inl rfl)⟩, ⟨by rw [ht9]; exact hR.P, hR.D⟩⟩, hR.sS.F ht9⟩) hR.sS.2.2 dX9_isNeutral_218
          · rw [if_pos (k_eq rfl (by decide) c24)] at hf
            (try rw [if_pos (k_eq rfl (by decide) c24)] at hd)
            refine lv_iconst (v := 1) hx hb dX9_isNeutral_213 (by decide) ?_
            refine lv_goto (tgt := 218) hx hb dX9_isNeutral_214 (by decide) ?_
            exact W.zret (v := 1) hx hb hr (nz (Or.inr rfl)) (fun t9 ht9 hW9 => ⟨⟨_, (), rfl, ⟨hf.trans hf0.symm, (Or.inr rfl)⟩, ⟨by rw [ht9]; exact hR.P, hR.D⟩⟩, hR.sS.F ht9⟩) hR.sS.2.2 dX9_isNeutral_218
        have J_219 : ∀ (v219_1 : Int32) (H : Heap) (locs : List Loc) (ls : Array Slot), d_X9_isNeutral_J219 S v219_1 → f_X9_isNeutral_J219 S v219_1 = r0 → RepC g ad A s S H locs → lv_has ls 4 [(0, .ref (ad 66)), (1, .int v219_1)] → W p l e (headSpec (wt yX9_isNeutral cX9_isNeutral 4 (some .boolean)) ({ frames := 2, cells := 0, slots := 0, locals := 43 })).room s m ([.ref (ad 66), .int x1] : List Value).toArray below meth c H locs 0 0 (MQ below (va_Qi (fun (r : Int32) (_ : Unit) => r = fX9_isNeutral S x1 ∧ (r = 0 ∨ r = 1)) (fun (_ : Unit) (t : State) => qEC g ad A S t) A) ([.ref (ad 66), .int x1] : List Value).toArray s 0 0 A) (F0 m 219 ls []) := by
          intro v219_1 H locs ls hd hf hR hl
          unfold d_X9_isNeutral_J219 at hd
          unfold f_X9_isNeutral_J219 at hf
          refine lv_aload_n hx hb dX9_isNeutral_219 rfl (lv_at hl 0 rfl) ?_
          have hT_b25 : qT S (qO S 66 0) = 47 := hR.w.ref (hR.w.ptr ptrC_39) (hR.w.2.1 _ finC_31).2.1
          refine va_get (D := rD g) (ci := 8) (v := .ref (ad (qO S 66 0))) (C := RX9) (T := TX9) (N := 6) hx hb hts inX9 hown hR.K hR.P 66 (hR.at48 (hR.w.2.1 _ finC_31).2.1) rfl 0 (by decide) (hts _ kw_1552) (fun _ h9 => h9) (congrArg (fun z => some (vf ad z)) (hR.w.ptr ptrC_39)) dX9_isNeutral_220 ?_
          refine lv_iload_n hx hb dX9_isNeutral_223 rfl (lv_at hl 1 rfl) ?_
          obtain ⟨hv26, hd⟩ := hd
          have hFc := cfree hR hA
          refine va_calll (va_runV (As := [.int v219_1]) (rest := []) ⟨hx, hb, hml, hown, hts⟩ (rX8_argAt l g ad H.size S (qO S 66 0) v219_1 hR.w hT_b25 hv26) (cwV 1 hts (gd_V kw_1605 kw_1476 kw_1477 kw_782 kw_1475) rfl rfl rfl (by decide +kernel) ⟨Nat.le_of_ble_eq_true rfl, Nat.le_of_ble_eq_true rfl⟩) ⟨cblind, va_recv hR.K hR.P (ci := 7) (q0 := (qO S 66 0)) rfl (hR.at47 hT_b25), fun U hU hW9 => cmk hU hW9 hR hex hE hFc⟩ rfl rfl hl.1 rfl (lv_room (Nat.le_of_ble_eq_true rfl)) dX9_isNeutral_224 ⟨Nat.le_of_ble_eq_true rfl, Nat.le_of_ble_eq_true rfl⟩) hR.sS (fun q _ h => hFc q h) hFc (fun r27 u9 t9 H1 locs ht9 hvm9 hw9 hB9 hz9 hk9 hS => ?_)
          have hR : RepC g ad A s S H1 locs := hR.call ht9 hB9 hR.w hS hFc
          obtain rfl : r27 = (fX8_argAt S (qO S 66 0) v219_1) := hw9
          clear hB9 hz9 hk9 hvm9 ht9 hS
          generalize H1 = H at hR ⊢
          refine lv_lconst (v := 1) hx hb dX9_isNeutral_227 (by decide) ?_
          refine W.lcmp hx hb dX9_isNeutral_228 ?_
          refine lv_topi (fun z29 ez29 => ?_)
          obtain rfl : z29 = (lg_cmp (fX8_argAt S (qO S 66 0) v219_1) 1) := ez29
          refine lv_if_ne (tgt := 236) hx hb dX9_isNeutral_229 (by decide) (fun c30 => ?_) (fun c30 => ?_)
          · rw [if_neg (k_ne rfl (by decide) c30)] at hf
            (try rw [if_neg (k_ne rfl (by decide) c30)] at hd)
            refine lv_iconst (v := 0) hx hb dX9_isNeutral_236 (by decide) ?_
            exact W.zret (v := 0) hx hb hr (nz (Or.inl rfl)) (fun t9 ht9 hW9 => ⟨⟨_, (), rfl, ⟨hf.trans hf0.symm, (Or.inl rfl)⟩, ⟨by rw [ht9]; exact hR.P, hR.D⟩⟩, hR.sS.F ht9⟩) hR.sS.2.2 dX9_isNeutral_237
          · rw [if_pos (k_eq rfl (by decide) c30)] at hf
            (try rw [if_pos (k_eq rfl (by decide) c30)] at hd)
            refine lv_iconst (v := 1) hx hb dX9_isNeutral_232 (by decide) ?_
            refine lv_goto (tgt := 237) hx hb dX9_isNeutral_233 (by decide) ?_
            exact W.zret (v := 1) hx hb hr (nz (Or.inr rfl)) (fun t9 ht9 hW9 => ⟨⟨_, (), rfl, ⟨hf.trans hf0.symm, (Or.inr rfl)⟩, ⟨by rw [ht9]; exact hR.P, hR.D⟩⟩, hR.sS.F ht9⟩) hR.sS.2.2 dX9_isNeutral_237
        have J_238 : ∀ (v238_1 : Int32) (H : Heap) (locs : List Loc) (ls : Array Slot), d_X9_isNeutral_J238 S v238_1 → f_X9_isNeutral_J238 S v238_1 = r0 → RepC g ad A s S H locs → lv_has ls 4 [(0, .ref (ad 66)), (1, .int v238_1)] → W p l e (headSpec (wt yX9_isNeutral cX9_isNeutral 4 (some .boolean)) ({ frames := 2, cells := 0, slots := 0, locals := 43 })).room s m ([.ref (ad 66), .int x1] : List Value).toArray below meth c H locs 0 0 (MQ below (va_Qi (fun (r : Int32) (_ : Unit) => r = fX9_isNeutral S x1 ∧ (r = 0 ∨ r = 1)) (fun (_ : Unit) (t : State) => qEC g ad A S t) A) ([.ref (ad 66), .int x1] : List Value).toArray s 0 0 A) (F0 m 238 ls []) := by
          intro v238_1 H locs ls hd hf hR hl
          unfold d_X9_isNeutral_J238 at hd
          unfold f_X9_isNeutral_J238 at hf
          refine lv_aload_n hx hb dX9_isNeutral_238 rfl (lv_at hl 0 rfl) ?_
          have hT_b31 : qT S (qO S 66 0) = 47 := hR.w.ref (hR.w.ptr ptrC_39) (hR.w.2.1 _ finC_31).2.1
          refine va_get (D := rD g) (ci := 8) (v := .ref (ad (qO S 66 0))) (C := RX9) (T := TX9) (N := 6) hx hb hts inX9 hown hR.K hR.P 66 (hR.at48 (hR.w.2.1 _ finC_31).2.1) rfl 0 (by decide) (hts _ kw_1552) (fun _ h9 => h9) (congrArg (fun z => some (vf ad z)) (hR.w.ptr ptrC_39)) dX9_isNeutral_239 ?_
          refine lv_iload_n hx hb dX9_isNeutral_242 rfl (lv_at hl 1 rfl) ?_
          obtain ⟨hv32, hd⟩ := hd
          have hFc := cfree hR hA
          refine va_calll (va_runV (As := [.int v238_1]) (rest := []) ⟨hx, hb, hml, hown, hts⟩ (rX8_argAt l g ad H.size S (qO S 66 0) v238_1 hR.w hT_b31 hv32) (cwV 1 hts (gd_V kw_1605 kw_1476 kw_1477 kw_782 kw_1475) rfl rfl rfl (by decide +kernel) ⟨Nat.le_of_ble_eq_true rfl, Nat.le_of_ble_eq_true rfl⟩) ⟨cblind, va_recv hR.K hR.P (ci := 7) (q0 := (qO S 66 0)) rfl (hR.at47 hT_b31), fun U hU hW9 => cmk hU hW9 hR hex hE hFc⟩ rfl rfl hl.1 rfl (lv_room (Nat.le_of_ble_eq_true rfl)) dX9_isNeutral_243 ⟨Nat.le_of_ble_eq_true rfl, Nat.le_of_ble_eq_true rfl⟩) hR.sS (fun q _ h => hFc q h) hFc (fun r33 u9 t9 H1 locs ht9 hvm9 hw9 hB9 hz9 hk9 hS => ?_)
          have hR : RepC g ad A s S H1 locs := hR.call ht9 hB9 hR.w hS hFc
          obtain rfl : r33 = (fX8_argAt S (qO S 66 0) v238_1) := hw9
          clear hB9 hz9 hk9 hvm9 ht9 hS
          generalize H1 = H at hR ⊢
          refine lv_ldc2 hx hb hown (hts _ kw_1635) dX9_isNeutral_246 ?_
          refine W.lcmp hx hb dX9_isNeutral_249 ?_
          refine lv_topi (fun z35 ez35 => ?_)
          obtain rfl : z35 = (lg_cmp (fX8_argAt S (qO S 66 0) v238_1) (-1 : Int64)) := ez35
          refine lv_if_ne (tgt := 257) hx hb dX9_isNeutral_250 (by decide) (fun c36 => ?_) (fun c36 => ?_)
          · rw [if_neg (k_ne rfl (by decide) c36)] at hf
            (try rw [if_neg (k_ne rfl (by decide) c36)] at hd)
            refine lv_iconst (v := 0) hx hb dX9_isNeutral_257 (by decide) ?_
            exact W.zret (v := 0) hx hb hr (nz (Or.inl rfl)) (fun t9 ht9 hW9 => ⟨⟨_, (), rfl, ⟨hf.trans hf0.symm, (Or.inl rfl)⟩, ⟨by rw [ht9]; exact hR.P, hR.D⟩⟩, hR.sS.F ht9⟩) hR.sS.2.2 dX9_isNeutral_258
          · rw [if_pos (k_eq rfl (by decide) c36)] at hf
            (try rw [if_pos (k_eq rfl (by decide) c36)] at hd)
            refine lv_iconst (v := 1) hx hb dX9_isNeutral_253 (by decide) ?_
            refine lv_goto (tgt := 258) hx hb dX9_isNeutral_254 (by decide) ?_
            exact W.zret (v := 1) hx hb hr (nz (Or.inr rfl)) (fun t9 ht9 hW9 => ⟨⟨_, (), rfl, ⟨hf.trans hf0.symm, (Or.inr rfl)⟩, ⟨by rw [ht9]; exact hR.P, hR.D⟩⟩, hR.sS.F ht9⟩) hR.sS.2.2 dX9_isNeutral_258
        have J_259 : ∀ (v259_1 : Int32) (v259_2 : Int32) (H : Heap) (locs : List Loc) (ls : Array Slot), d_X9_isNeutral_J259 S v259_1 v259_2 → f_X9_isNeutral_J259 S v259_1 v259_2 = r0 → RepC g ad A s S H locs → lv_has ls 4 [(0, .ref (ad 66)), (1, .int v259_1), (2, .int v259_2)] → W p l e (headSpec (wt yX9_isNeutral cX9_isNeutral 4 (some .boolean)) ({ frames := 2, cells := 0, slots := 0, locals := 43 })).room s m ([.ref (ad 66), .int x1] : List Value).toArray below meth c H locs 0 0 (MQ below (va_Qi (fun (r : Int32) (_ : Unit) => r = fX9_isNeutral S x1 ∧ (r = 0 ∨ r = 1)) (fun (_ : Unit) (t : State) => qEC g ad A S t) A) ([.ref (ad 66), .int x1] : List Value).toArray s 0 0 A) (F0 m 259 ls []) := by
          intro v259_1 v259_2 H locs ls hd hf hR hl
          unfold d_X9_isNeutral_J259 at hd
          unfold f_X9_isNeutral_J259 at hf
          refine lv_iload_n hx hb dX9_isNeutral_259 rfl (lv_at hl 2 rfl) ?_
          obtain ⟨hv37, hd⟩ := hd
          have hFc := cfree hR hA
          refine va_calli (va_runS (As := [.int v259_2]) (rest := []) ⟨hx, hb, hml, hown, hts⟩ (rX6_isShift l g ad H.size S v259_2 hR.w  hv37) (va_cwS 1 hts (gd_S kw_1636 kw_1229 kw_1207 kw_1228) rfl rfl rfl (by decide +kernel) ⟨Nat.le_of_ble_eq_true rfl, Nat.le_of_ble_eq_true rfl⟩) ⟨cblind, fun U hU hW9 => cmk hU hW9 hR hex hE hFc⟩ rfl rfl hl.1 rfl (lv_room (Nat.le_of_ble_eq_true rfl)) dX9_isNeutral_260 ⟨Nat.le_of_ble_eq_true rfl, Nat.le_of_ble_eq_true rfl⟩) hR.sS (fun q _ h => hFc q h) hFc (fun r38 u9 t9 H1 locs ht9 hvm9 hw9 hB9 hz9 hk9 hS => ?_)
          have hR : RepC g ad A s S H1 locs := hR.call ht9 hB9 hR.w hS hFc
          obtain ⟨rfl, hz_r38⟩ := hw9
          clear hB9 hz9 hk9 hvm9 ht9 hS
          generalize H1 = H at hR ⊢
          have J_283 : ∀ (H : Heap) (locs : List Loc) (ls : Array Slot), d_X9_isNeutral_J283 S → f_X9_isNeutral_J283 S = r0 → RepC g ad A s S H locs → lv_has ls 4 [] → W p l e (headSpec (wt yX9_isNeutral cX9_isNeutral 4 (some .boolean)) ({ frames := 2, cells := 0, slots := 0, locals := 43 })).room s m ([.ref (ad 66), .int x1] : List Value).toArray below meth c H locs 0 0 (MQ below (va_Qi (fun (r : Int32) (_ : Unit) => r = fX9_isNeutral S x1 ∧ (r = 0 ∨ r = 1)) (fun (_ : Unit) (t : State) => qEC g ad A S t) A) ([.ref (ad 66), .int x1] : List Value).toArray s 0 0 A) (F0 m 283 ls []) := by
            intro H locs ls hd hf hR hl
            unfold d_X9_isNeutral_J283 at hd
            unfold f_X9_isNeutral_J283 at hf
            refine lv_iconst (v := 0) hx hb dX9_isNeutral_283 (by decide) ?_
            exact W.zret (v := 0) hx hb hr (nz (Or.inl rfl)) (fun t9 ht9 hW9 => ⟨⟨_, (), rfl, ⟨hf.trans hf0.symm, (Or.inl rfl)⟩, ⟨by rw [ht9]; exact hR.P, hR.D⟩⟩, hR.sS.F ht9⟩) hR.sS.2.2 dX9_isNeutral_284
          refine lv_if_eq (tgt := 283) hx hb dX9_isNeutral_263 (by decide) (fun c40 => ?_) (fun c40 => ?_)
          · rw [if_pos (k_eq rfl (by decide) c40)] at hf
            (try rw [if_pos (k_eq rfl (by decide) c40)] at hd)
            exact J_283 _ _ ls hd hf  hR (lv_sub hl [] rfl)
          · rw [if_neg (k_ne rfl (by decide) c40)] at hf
            (try rw [if_neg (k_ne rfl (by decide) c40)] at hd)
            refine lv_aload_n hx hb dX9_isNeutral_266 rfl (lv_at hl 0 rfl) ?_
            have hT_b41 : qT S (qO S 66 0) = 47 := hR.w.ref (hR.w.ptr ptrC_39) (hR.w.2.1 _ finC_31).2.1
            refine va_get (D := rD g) (ci := 8) (v := .ref (ad (qO S 66 0))) (C := RX9) (T := TX9) (N := 6) hx hb hts inX9 hown hR.K hR.P 66 (hR.at48 (hR.w.2.1 _ finC_31).2.1) rfl 0 (by decide) (hts _ kw_1552) (fun _ h9 => h9) (congrArg (fun z => some (vf ad z)) (hR.w.ptr ptrC_39)) dX9_isNeutral_267 ?_
            refine lv_iload_n hx hb dX9_isNeutral_270 rfl (lv_at hl 1 rfl) ?_
            obtain ⟨hv42, hd⟩ := hd
            have hFc := cfree hR hA
            refine va_calll (va_runV (As := [.int v259_1]) (rest := []) ⟨hx, hb, hml, hown, hts⟩ (rX8_argAt l g ad H.size S (qO S 66 0) v259_1 hR.w hT_b41 hv42) (cwV 1 hts (gd_V kw_1605 kw_1476 kw_1477 kw_782 kw_1475) rfl rfl rfl (by decide +kernel) ⟨Nat.le_of_ble_eq_true rfl, Nat.le_of_ble_eq_true rfl⟩) ⟨cblind, va_recv hR.K hR.P (ci := 7) (q0 := (qO S 66 0)) rfl (hR.at47 hT_b41), fun U hU hW9 => cmk hU hW9 hR hex hE hFc⟩ rfl rfl hl.1 rfl (lv_room (Nat.le_of_ble_eq_true rfl)) dX9_isNeutral_271 ⟨Nat.le_of_ble_eq_true rfl, Nat.le_of_ble_eq_true rfl⟩) hR.sS (fun q _ h => hFc q h) hFc (fun r43 u9 t9 H1 locs ht9 hvm9 hw9 hB9 hz9 hk9 hS => ?_)
            have hR : RepC g ad A s S H1 locs := hR.call ht9 hB9 hR.w hS hFc
            obtain rfl : r43 = (fX8_argAt S (qO S 66 0) v259_1) := hw9
            clear hB9 hz9 hk9 hvm9 ht9 hS
            generalize H1 = H at hR ⊢
            refine lv_lconst (v := 0) hx hb dX9_isNeutral_274 (by decide) ?_
            refine W.lcmp hx hb dX9_isNeutral_275 ?_
            refine lv_topi (fun z45 ez45 => ?_)
            obtain rfl : z45 = (lg_cmp (fX8_argAt S (qO S 66 0) v259_1) 0) := ez45
            refine lv_if_ne (tgt := 283) hx hb dX9_isNeutral_276 (by decide) (fun c46 => ?_) (fun c46 => ?_)
            · rw [if_neg (k_ne rfl (by decide) c46)] at hf
              (try rw [if_neg (k_ne rfl (by decide) c46)] at hd)
              exact J_283 _ _ ls hd hf  hR (lv_sub hl [] rfl)
            · rw [if_pos (k_eq rfl (by decide) c46)] at hf
              (try rw [if_pos (k_eq rfl (by decide) c46)] at hd)
              refine lv_iconst (v := 1) hx hb dX9_isNeutral_279 (by decide) ?_
              refine lv_goto (tgt := 284) hx hb dX9_isNeutral_280 (by decide) ?_
              exact W.zret (v := 1) hx hb hr (nz (Or.inr rfl)) (fun t9 ht9 hW9 => ⟨⟨_, (), rfl, ⟨hf.trans hf0.symm, (Or.inr rfl)⟩, ⟨by rw [ht9]; exact hR.P, hR.D⟩⟩, hR.sS.F ht9⟩) hR.sS.2.2 dX9_isNeutral_284
        by_cases c9_96 : (fX8_opAt S (qO S 66 0) (x1 + (1 : Int32))).toInt = 96
        · refine lv_tableIn (off := 158) (tgt := 200) hx hb dX9_isNeutral_42 (by rw [c9_96]; decide) (by rw [c9_96]; decide) (by rw [c9_96]; rfl) (by decide) ?_
          rw [if_pos (c9_96)] at hf
          (try rw [if_pos (c9_96)] at hd)
          exact J_200 x1 _ _ ls hd hf  hR (lv_sub hl [2, 3] rfl)
        rw [if_neg c9_96] at hf
        (try rw [if_neg c9_96] at hd)
        by_cases c9_97 : (fX8_opAt S (qO S 66 0) (x1 + (1 : Int32))).toInt = 97
        · refine lv_tableIn (off := 158) (tgt := 200) hx hb dX9_isNeutral_42 (by rw [c9_97]; decide) (by rw [c9_97]; decide) (by rw [c9_97]; rfl) (by decide) ?_
          rw [if_pos (c9_97)] at hf
          (try rw [if_pos (c9_97)] at hd)
          exact J_200 x1 _ _ ls hd hf  hR (lv_sub hl [2, 3] rfl)
        rw [if_neg c9_97] at hf
        (try rw [if_neg c9_97] at hd)
        by_cases c9_98 : (fX8_opAt S (qO S 66 0) (x1 + (1 : Int32))).toInt = 98
        · refine lv_tableIn (off := 217) (tgt := 259) hx hb dX9_isNeutral_42 (by rw [c9_98]; decide) (by rw [c9_98]; decide) (by rw [c9_98]; rfl) (by decide) ?_
          rw [if_pos (c9_98)] at hf
          (try rw [if_pos (c9_98)] at hd)
          exact J_259 x1 (fX8_opAt S (qO S 66 0) (x1 + (1 : Int32))) _ _ ls hd hf  hR (lv_sub hl [2, 3, 1] rfl)
        rw [if_neg c9_98] at hf
        (try rw [if_neg c9_98] at hd)
        by_cases c9_99 : (fX8_opAt S (qO S 66 0) (x1 + (1 : Int32))).toInt = 99
        · refine lv_tableIn (off := 217) (tgt := 259) hx hb dX9_isNeutral_42 (by rw [c9_99]; decide) (by rw [c9_99]; decide) (by rw [c9_99]; rfl) (by decide) ?_
          rw [if_pos (c9_99)] at hf
          (try rw [if_pos (c9_99)] at hd)
          exact J_259 x1 (fX8_opAt S (qO S 66 0) (x1 + (1 : Int32))) _ _ ls hd hf  hR (lv_sub hl [2, 3, 1] rfl)
        rw [if_neg c9_99] at hf
        (try rw [if_neg c9_99] at hd)
        by_cases c9_100 : (fX8_opAt S (qO S 66 0) (x1 + (1 : Int32))).toInt = 100
        · refine lv_tableIn (off := 158) (tgt := 200) hx hb dX9_isNeutral_42 (by rw [c9_100]; decide) (by rw [c9_100]; decide) (by rw [c9_100]; rfl) (by decide) ?_
          rw [if_pos (c9_100)] at hf
          (try rw [if_pos (c9_100)] at hd)
          exact J_200 x1 _ _ ls hd hf  hR (lv_sub hl [2, 3] rfl)
        rw [if_neg c9_100] at hf
        (try rw [if_neg c9_100] at hd)
        by_cases c9_101 : (fX8_opAt S (qO S 66 0) (x1 + (1 : Int32))).toInt = 101
        · refine lv_tableIn (off := 158) (tgt := 200) hx hb dX9_isNeutral_42 (by rw [c9_101]; decide) (by rw [c9_101]; decide) (by rw [c9_101]; rfl) (by decide) ?_
          rw [if_pos (c9_101)] at hf
          (try rw [if_pos (c9_101)] at hd)
          exact J_200 x1 _ _ ls hd hf  hR (lv_sub hl [2, 3] rfl)
        rw [if_neg c9_101] at hf
        (try rw [if_neg c9_101] at hd)
        by_cases c9_102 : (fX8_opAt S (qO S 66 0) (x1 + (1 : Int32))).toInt = 102
        · refine lv_tableIn (off := 217) (tgt := 259) hx hb dX9_isNeutral_42 (by rw [c9_102]; decide) (by rw [c9_102]; decide) (by rw [c9_102]; rfl) (by decide) ?_
          rw [if_pos (c9_102)] at hf
          (try rw [if_pos (c9_102)] at hd)
          exact J_259 x1 (fX8_opAt S (qO S 66 0) (x1 + (1 : Int32))) _ _ ls hd hf  hR (lv_sub hl [2, 3, 1] rfl)
        rw [if_neg c9_102] at hf
        (try rw [if_neg c9_102] at hd)
        by_cases c9_103 : (fX8_opAt S (qO S 66 0) (x1 + (1 : Int32))).toInt = 103
        · refine lv_tableIn (off := 217) (tgt := 259) hx hb dX9_isNeutral_42 (by rw [c9_103]; decide) (by rw [c9_103]; decide) (by rw [c9_103]; rfl) (by decide) ?_
          rw [if_pos (c9_103)] at hf
          (try rw [if_pos (c9_103)] at hd)
          exact J_259 x1 (fX8_opAt S (qO S 66 0) (x1 + (1 : Int32))) _ _ ls hd hf  hR (lv_sub hl [2, 3, 1] rfl)
        rw [if_neg c9_103] at hf
        (try rw [if_neg c9_103] at hd)
        by_cases c9_104 : (fX8_opAt S (qO S 66 0) (x1 + (1 : Int32))).toInt = 104
        · refine lv_tableIn (off := 177) (tgt := 219) hx hb dX9_isNeutral_42 (by rw [c9_104]; decide) (by rw [c9_104]; decide) (by rw [c9_104]; rfl) (by decide) ?_
          rw [if_pos (c9_104)] at hf
          (try rw [if_pos (c9_104)] at hd)
          exact J_219 x1 _ _ ls hd hf  hR (lv_sub hl [2, 3] rfl)
        rw [if_neg c9_104] at hf
        (try rw [if_neg c9_104] at hd)
        by_cases c9_105 : (fX8_opAt S (qO S 66 0) (x1 + (1 : Int32))).toInt = 105
        · refine lv_tableIn (off := 177) (tgt := 219) hx hb dX9_isNeutral_42 (by rw [c9_105]; decide) (by rw [c9_105]; decide) (by rw [c9_105]; rfl) (by decide) ?_
          rw [if_pos (c9_105)] at hf
          (try rw [if_pos (c9_105)] at hd)
          exact J_219 x1 _ _ ls hd hf  hR (lv_sub hl [2, 3] rfl)
        rw [if_neg c9_105] at hf
        (try rw [if_neg c9_105] at hd)
        by_cases c9_106 : (fX8_opAt S (qO S 66 0) (x1 + (1 : Int32))).toInt = 106
        · refine lv_tableIn (off := 217) (tgt := 259) hx hb dX9_isNeutral_42 (by rw [c9_106]; decide) (by rw [c9_106]; decide) (by rw [c9_106]; rfl) (by decide) ?_
          rw [if_pos (c9_106)] at hf
          (try rw [if_pos (c9_106)] at hd)
          exact J_259 x1 (fX8_opAt S (qO S 66 0) (x1 + (1 : Int32))) _ _ ls hd hf  hR (lv_sub hl [2, 3, 1] rfl)
        rw [if_neg c9_106] at hf
        (try rw [if_neg c9_106] at hd)
        by_cases c9_107 : (fX8_opAt S (qO S 66 0) (x1 + (1 : Int32))).toInt = 107
        · refine lv_tableIn (off := 217) (tgt := 259) hx hb dX9_isNeutral_42 (by rw [c9_107]; decide) (by rw [c9_107]; decide) (by rw [c9_107]; rfl) (by decide) ?_
          rw [if_pos (c9_107)] at hf
          (try rw [if_pos (c9_107)] at hd)
          exact J_259 x1 (fX8_opAt S (qO S 66 0) (x1 + (1 : Int32))) _ _ ls hd hf  hR (lv_sub hl [2, 3, 1] rfl)
        rw [if_neg c9_107] at hf
        (try rw [if_neg c9_107] at hd)
        by_cases c9_108 : (fX8_opAt S (qO S 66 0) (x1 + (1 : Int32))).toInt = 108
        · refine lv_tableIn (off := 177) (tgt := 219) hx hb dX9_isNeutral_42 (by rw [c9_108]; decide) (by rw [c9_108]; decide) (by rw [c9_108]; rfl) (by decide) ?_
          rw [if_pos (c9_108)] at hf
          (try rw [if_pos (c9_108)] at hd)
          exact J_219 x1 _ _ ls hd hf  hR (lv_sub hl [2, 3] rfl)
        rw [if_neg c9_108] at hf
        (try rw [if_neg c9_108] at hd)
        by_cases c9_109 : (fX8_opAt S (qO S 66 0) (x1 + (1 : Int32))).toInt = 109
        · refine lv_tableIn (off := 177) (tgt := 219) hx hb dX9_isNeutral_42 (by rw [c9_109]; decide) (by rw [c9_109]; decide) (by rw [c9_109]; rfl) (by decide) ?_
          rw [if_pos (c9_109)] at hf
          (try rw [if_pos (c9_109)] at hd)
          exact J_219 x1 _ _ ls hd hf  hR (lv_sub hl [2, 3] rfl)
        rw [if_neg c9_109] at hf
        (try rw [if_neg c9_109] at hd)
        by_cases c9_110 : (fX8_opAt S (qO S 66 0) (x1 + (1 : Int32))).toInt = 110
        · refine lv_tableIn (off := 217) (tgt := 259) hx hb dX9_isNeutral_42 (by rw [c9_110]; decide) (by rw [c9_110]; decide) (by rw [c9_110]; rfl) (by decide) ?_
          rw [if_pos (c9_110)] at hf
          (try rw [if_pos (c9_110)] at hd)
          exact J_259 x1 (fX8_opAt S (qO S 66 0) (x1 + (1 : Int32))) _ _ ls hd hf  hR (lv_sub hl [2, 3, 1] rfl)
        rw [if_neg c9_110] at hf
        (try rw [if_neg c9_110] at hd)
        by_cases c9_111 : (fX8_opAt S (qO S 66 0) (x1 + (1 : Int32))).toInt = 111
        · refine lv_tableIn (off := 217) (tgt := 259) hx hb dX9_isNeutral_42 (by rw [c9_111]; decide) (by rw [c9_111]; decide) (by rw [c9_111]; rfl) (by decide) ?_
          rw [if_pos (c9_111)] at hf
          (try rw [if_pos (c9_111)] at hd)
          exact J_259 x1 (fX8_opAt S (qO S 66 0) (x1 + (1 : Int32))) _ _ ls hd hf  hR (lv_sub hl [2, 3, 1] rfl)
        rw [if_neg c9_111] at hf
        (try rw [if_neg c9_111] at hd)
        by_cases c9_112 : (fX8_opAt S (qO S 66 0) (x1 + (1 : Int32))).toInt = 112
        · refine lv_tableIn (off := 217) (tgt := 259) hx hb dX9_isNeutral_42 (by rw [c9_112]; decide) (by rw [c9_112]; decide) (by rw [c9_112]; rfl) (by decide) ?_
          rw [if_pos (c9_112)] at hf
          (try rw [if_pos (c9_112)] at hd)
          exact J_259 x1 (fX8_opAt S (qO S 66 0) (x1 + (1 : Int32))) _ _ ls hd hf  hR (lv_sub hl [2, 3, 1] rfl)
        rw [if_neg c9_112] at hf
        (try rw [if_neg c9_112] at hd)
        by_cases c9_113 : (fX8_opAt S (qO S 66 0) (x1 + (1 : Int32))).toInt = 113
        · refine lv_tableIn (off := 217) (tgt := 259) hx hb dX9_isNeutral_42 (by rw [c9_113]; decide) (by rw [c9_113]; decide) (by rw [c9_113]; rfl) (by decide) ?_
          rw [if_pos (c9_113)] at hf
          (try rw [if_pos (c9_113)] at hd)
          exact J_259 x1 (fX8_opAt S (qO S 66 0) (x1 + (1 : Int32))) _ _ ls hd hf  hR (lv_sub hl [2, 3, 1] rfl)
        rw [if_neg c9_113] at hf
        (try rw [if_neg c9_113] at hd)
        by_cases c9_114 : (fX8_opAt S (qO S 66 0) (x1 + (1 : Int32))).toInt = 114
        · refine lv_tableIn (off := 217) (tgt := 259) hx hb dX9_isNeutral_42 (by rw [c9_114]; decide) (by rw [c9_114]; decide) (by rw [c9_114]; rfl) (by decide) ?_
          rw [if_pos (c9_114)] at hf
          (try rw [if_pos (c9_114)] at hd)
          exact J_259 x1 (fX8_opAt S (qO S 66 0) (x1 + (1 : Int32))) _ _ ls hd hf  hR (lv_sub hl [2, 3, 1] rfl)
        rw [if_neg c9_114] at hf
        (try rw [if_neg c9_114] at hd)
        by_cases c9_115 : (fX8_opAt S (qO S 66 0) (x1 + (1 : Int32))).toInt = 115
        · refine lv_tableIn (off := 217) (tgt := 259) hx hb dX9_isNeutral_42 (by rw [c9_115]; decide) (by rw [c9_115]; decide) (by rw [c9_115]; rfl) (by decide) ?_
          rw [if_pos (c9_115)] at hf
          (try rw [if_pos (c9_115)] at hd)
          exact J_259 x1 (fX8_opAt S (qO S 66 0) (x1 + (1 : Int32))) _ _ ls hd hf  hR (lv_sub hl [2, 3, 1] rfl)
        rw [if_neg c9_115] at hf
        (try rw [if_neg c9_115] at hd)
        by_cases c9_116 : (fX8_opAt S (qO S 66 0) (x1 + (1 : Int32))).toInt = 116
        · refine lv_tableIn (off := 217) (tgt := 259) hx hb dX9_isNeutral_42 (by rw [c9_116]; decide) (by rw [c9_116]; decide) (by rw [c9_116]; rfl) (by decide) ?_
          rw [if_pos (c9_116)] at hf
          (try rw [if_pos (c9_116)] at hd)
          exact J_259 x1 (fX8_opAt S (qO S 66 0) (x1 + (1 : Int32))) _ _ ls hd hf  hR (lv_sub hl [2, 3, 1] rfl)
        rw [if_neg c9_116] at hf
        (try rw [if_neg c9_116] at hd)
        by_cases c9_117 : (fX8_opAt S (qO S 66 0) (x1 + (1 : Int32))).toInt = 117
        · refine lv_tableIn (off := 217) (tgt := 259) hx hb dX9_isNeutral_42 (by rw [c9_117]; decide) (by rw [c9_117]; decide) (by rw [c9_117]; rfl) (by decide) ?_
          rw [if_pos (c9_117)] at hf
          (try rw [if_pos (c9_117)] at hd)
          exact J_259 x1 (fX8_opAt S (qO S 66 0) (x1 + (1 : Int32))) _ _ ls hd hf  hR (lv_sub hl [2, 3, 1] rfl)
        rw [if_neg c9_117] at hf
        (try rw [if_neg c9_117] at hd)
        by_cases c9_118 : (fX8_opAt S (qO S 66 0) (x1 + (1 : Int32))).toInt = 118
        · refine lv_tableIn (off := 217) (tgt := 259) hx hb dX9_isNeutral_42 (by rw [c9_118]; decide) (by rw [c9_118]; decide) (by rw [c9_118]; rfl) (by decide) ?_
          rw [if_pos (c9_118)] at hf
          (try rw [if_pos (c9_118)] at hd)
          exact J_259 x1 (fX8_opAt S (qO S 66 0) (x1 + (1 : Int32))) _ _ ls hd hf  hR (lv_sub hl [2, 3, 1] rfl)
        rw [if_neg c9_118] at hf
        (try rw [if_neg c9_118] at hd)
        by_cases c9_119 : (fX8_opAt S (qO S 66 0) (x1 + (1 : Int32))).toInt = 119
        · refine lv_tableIn (off := 217) (tgt := 259) hx hb dX9_isNeutral_42 (by rw [c9_119]; decide) (by rw [c9_119]; decide) (by rw [c9_119]; rfl) (by decide) ?_
          rw [if_pos (c9_119)] at hf
          (try rw [if_pos (c9_119)] at hd)
          exact J_259 x1 (fX8_opAt S (qO S 66 0) (x1 + (1 : Int32))) _ _ ls hd hf  hR (lv_sub hl [2, 3, 1] rfl)
        rw [if_neg c9_119] at hf
        (try rw [if_neg c9_119] at hd)
        by_cases c9_120 : (fX8_opAt S (qO S 66 0) (x1 + (1 : Int32))).toInt = 120
        · refine lv_tableIn (off := 217) (tgt := 259) hx hb dX9_isNeutral_42 (by rw [c9_120]; decide) (by rw [c9_120]; decide) (by rw [c9_120]; rfl) (by decide) ?_
          rw [if_pos (c9_120)] at hf
          (try rw [if_pos (c9_120)] at hd)
          exact J_259 x1 (fX8_opAt S (qO S 66 0) (x1 + (1 : Int32))) _ _ ls hd hf  hR (lv_sub hl [2, 3, 1] rfl)
        rw [if_neg c9_120] at hf
        (try rw [if_neg c9_120] at hd)
        by_cases c9_121 : (fX8_opAt S (qO S 66 0) (x1 + (1 : Int32))).toInt = 121
        · refine lv_tableIn (off := 217) (tgt := 259) hx hb dX9_isNeutral_42 (by rw [c9_121]; decide) (by rw [c9_121]; decide) (by rw [c9_121]; rfl) (by decide) ?_
          rw [if_pos (c9_121)] at hf
          (try rw [if_pos (c9_121)] at hd)
          exact J_259 x1 (fX8_opAt S (qO S 66 0) (x1 + (1 : Int32))) _ _ ls hd hf  hR (lv_sub hl [2, 3, 1] rfl)
        rw [if_neg c9_121] at hf
        (try rw [if_neg c9_121] at hd)
        by_cases c9_122 : (fX8_opAt S (qO S 66 0) (x1 + (1 : Int32))).toInt = 122
        · refine lv_tableIn (off := 217) (tgt := 259) hx hb dX9_isNeutral_42 (by rw [c9_122]; decide) (by rw [c9_122]; decide) (by rw [c9_122]; rfl) (by decide) ?_
          rw [if_pos (c9_122)] at hf
          (try rw [if_pos (c9_122)] at hd)
          exact J_259 x1 (fX8_opAt S (qO S 66 0) (x1 + (1 : Int32))) _ _ ls hd hf  hR (lv_sub hl [2, 3, 1] rfl)
        rw [if_neg c9_122] at hf
        (try rw [if_neg c9_122] at hd)
        by_cases c9_123 : (fX8_opAt S (qO S 66 0) (x1 + (1 : Int32))).toInt = 123
        · refine lv_tableIn (off := 217) (tgt := 259) hx hb dX9_isNeutral_42 (by rw [c9_123]; decide) (by rw [c9_123]; decide) (by rw [c9_123]; rfl) (by decide) ?_
          rw [if_pos (c9_123)] at hf
          (try rw [if_pos (c9_123)] at hd)
          exact J_259 x1 (fX8_opAt S (qO S 66 0) (x1 + (1 : Int32))) _ _ ls hd hf  hR (lv_sub hl [2, 3, 1] rfl)
        rw [if_neg c9_123] at hf
        (try rw [if_neg c9_123] at hd)
        by_cases c9_124 : (fX8_opAt S (qO S 66 0) (x1 + (1 : Int32))).toInt = 124
        · refine lv_tableIn (off := 217) (tgt := 259) hx hb dX9_isNeutral_42 (by rw [c9_124]; decide) (by rw [c9_124]; decide) (by rw [c9_124]; rfl) (by decide) ?_
          rw [if_pos (c9_124)] at hf
          (try rw [if_pos (c9_124)] at hd)
          exact J_259 x1 (fX8_opAt S (qO S 66 0) (x1 + (1 : Int32))) _ _ ls hd hf  hR (lv_sub hl [2, 3, 1] rfl)
        rw [if_neg c9_124] at hf
        (try rw [if_neg c9_124] at hd)
        by_cases c9_125 : (fX8_opAt S (qO S 66 0) (x1 + (1 : Int32))).toInt = 125
        · refine lv_tableIn (off := 217) (tgt := 259) hx hb dX9_isNeutral_42 (by rw [c9_125]; decide) (by rw [c9_125]; decide) (by rw [c9_125]; rfl) (by decide) ?_
          rw [if_pos (c9_125)] at hf
          (try rw [if_pos (c9_125)] at hd)
          exact J_259 x1 (fX8_opAt S (qO S 66 0) (x1 + (1 : Int32))) _ _ ls hd hf  hR (lv_sub hl [2, 3, 1] rfl)
        rw [if_neg c9_125] at hf
        (try rw [if_neg c9_125] at hd)
        by_cases c9_126 : (fX8_opAt S (qO S 66 0) (x1 + (1 : Int32))).toInt = 126
        · refine lv_tableIn (off := 196) (tgt := 238) hx hb dX9_isNeutral_42 (by rw [c9_126]; decide) (by rw [c9_126]; decide) (by rw [c9_126]; rfl) (by decide) ?_
          rw [if_pos (c9_126)] at hf
          (try rw [if_pos (c9_126)] at hd)
          exact J_238 x1 _ _ ls hd hf  hR (lv_sub hl [2, 3] rfl)
        rw [if_neg c9_126] at hf
        (try rw [if_neg c9_126] at hd)
        by_cases c9_127 : (fX8_opAt S (qO S 66 0) (x1 + (1 : Int32))).toInt = 127
        · refine lv_tableIn (off := 196) (tgt := 238) hx hb dX9_isNeutral_42 (by rw [c9_127]; decide) (by rw [c9_127]; decide) (by rw [c9_127]; rfl) (by decide) ?_
          rw [if_pos (c9_127)] at hf
          (try rw [if_pos (c9_127)] at hd)
          exact J_238 x1 _ _ ls hd hf  hR (lv_sub hl [2, 3] rfl)
        rw [if_neg c9_127] at hf
        (try rw [if_neg c9_127] at hd)
        by_cases c9_128 : (fX8_opAt S (qO S 66 0) (x1 + (1 : Int32))).toInt = 128
        · refine lv_tableIn (off := 158) (tgt := 200) hx hb dX9_isNeutral_42 (by rw [c9_128]; decide) (by rw [c9_128]; decide) (by rw [c9_128]; rfl) (by decide) ?_
          rw [if_pos (c9_128)] at hf
          (try rw [if_pos (c9_128)] at hd)
          exact J_200 x1 _ _ ls hd hf  hR (lv_sub hl [2, 3] rfl)
        rw [if_neg c9_128] at hf
        (try rw [if_neg c9_128] at hd)
        by_cases c9_129 : (fX8_opAt S (qO S 66 0) (x1 + (1 : Int32))).toInt = 129
        · refine lv_tableIn (off := 158) (tgt := 200) hx hb dX9_isNeutral_42 (by rw [c9_129]; decide) (by rw [c9_129]; decide) (by rw [c9_129]; rfl) (by decide) ?_
          rw [if_pos (c9_129)] at hf
          (try rw [if_pos (c9_129)] at hd)
          exact J_200 x1 _ _ ls hd hf  hR (lv_sub hl [2, 3] rfl)
        rw [if_neg c9_129] at hf
        (try rw [if_neg c9_129] at hd)
        by_cases c9_130 : (fX8_opAt S (qO S 66 0) (x1 + (1 : Int32))).toInt = 130
        · refine lv_tableIn (off := 158) (tgt := 200) hx hb dX9_isNeutral_42 (by rw [c9_130]; decide) (by rw [c9_130]; decide) (by rw [c9_130]; rfl) (by decide) ?_
          rw [if_pos (c9_130)] at hf
          (try rw [if_pos (c9_130)] at hd)
          exact J_200 x1 _ _ ls hd hf  hR (lv_sub hl [2, 3] rfl)
        rw [if_neg c9_130] at hf
        (try rw [if_neg c9_130] at hd)
        by_cases c9_131 : (fX8_opAt S (qO S 66 0) (x1 + (1 : Int32))).toInt = 131
        · refine lv_tableIn (off := 158) (tgt := 200) hx hb dX9_isNeutral_42 (by rw [c9_131]; decide) (by rw [c9_131]; decide) (by rw [c9_131]; rfl) (by decide) ?_
          rw [if_pos (c9_131)] at hf
          (try rw [if_pos (c9_131)] at hd)
          exact J_200 x1 _ _ ls hd hf  hR (lv_sub hl [2, 3] rfl)
        rw [if_neg c9_131] at hf
        (try rw [if_neg c9_131] at hd)
        refine lv_tableOut (tgt := 259) hx hb dX9_isNeutral_42 (by omega) (by decide) ?_
        exact J_259 x1 (fX8_opAt S (qO S 66 0) (x1 + (1 : Int32))) _ _ ls hd hf  hR (lv_sub hl [2, 3, 1] rfl)
      · rw [if_neg (k_ne rfl rfl c18)] at hf
        (try rw [if_neg (k_ne rfl rfl c18)] at hd)
        refine lv_iconst (v := 0) hx hb dX9_isNeutral_39 (by decide) ?_
        exact W.zret (v := 0) hx hb hr (nz (Or.inl rfl)) (fun t9 ht9 hW9 => ⟨⟨_, (), rfl, ⟨hf.trans hf0.symm, (Or.inl rfl)⟩, ⟨by rw [ht9]; exact hR.P, hR.D⟩⟩, hR.sS.F ht9⟩) hR.sS.2.2 dX9_isNeutral_40
def f_X9_isPopped_J56 (S : MS) (t56_0 : Int32) (t56_1 : Int32) : Int32 := (if t56_1.toInt = t56_0.toInt then (1 : Int32) else (0 : Int32))
def d_X9_isPopped_J56 (S : MS) (t56_0 : Int32) (t56_1 : Int32) : Prop := True
def f_X9_isPopped_J31 (S : MS) (v31_1 : Int32) (v31_2 : Int32) : Int32 := (if (fX6_gives S v31_2).toInt = 2 then f_X9_isPopped_J56 S 88 (fX8_opAt S (qO S 66 0) (v31_1 + (1 : Int32))) else f_X9_isPopped_J56 S 87 (fX8_opAt S (qO S 66 0) (v31_1 + (1 : Int32))))
def d_X9_isPopped_J31 (S : MS) (v31_1 : Int32) (v31_2 : Int32) : Prop := (d_X8_opAt S (qO S 66 0) (v31_1 + (1 : Int32)) ∧ (d_X6_gives S v31_2 ∧ (if (fX6_gives S v31_2).toInt = 2 then d_X9_isPopped_J56 S 88 (fX8_opAt S (qO S 66 0) (v31_1 + (1 : Int32))) else d_X9_isPopped_J56 S 87 (fX8_opAt S (qO S 66 0) (v31_1 + (1 : Int32))))))
def fX9_isPopped (S : MS) (x1 : Int32) : Int32 := (if (fX9_pushKind S x1).toInt = 0 then (if (fX8_opAt S (qO S 66 0) x1).toInt = 1 then f_X9_isPopped_J31 S x1 (fX8_opAt S (qO S 66 0) x1) else (if (fX6_isLoad S (fX8_opAt S (qO S 66 0) x1)).toInt = 0 then (0 : Int32) else f_X9_isPopped_J31 S x1 (fX8_opAt S (qO S 66 0) x1))) else f_X9_isPopped_J31 S x1 (fX8_opAt S (qO S 66 0) x1))
def d_X9_isPopped (S : MS) (x1 : Int32) : Prop := (d_X8_opAt S (qO S 66 0) x1 ∧ (d_X9_pushKind S x1 ∧ (if (fX9_pushKind S x1).toInt = 0 then (if (fX8_opAt S (qO S 66 0) x1).toInt = 1 then d_X9_isPopped_J31 S x1 (fX8_opAt S (qO S 66 0) x1) else (d_X6_isLoad S (fX8_opAt S (qO S 66 0) x1) ∧ (if (fX6_isLoad S (fX8_opAt S (qO S 66 0) x1)).toInt = 0 then True else d_X9_isPopped_J31 S x1 (fX8_opAt S (qO S 66 0) x1)))) else d_X9_isPopped_J31 S x1 (fX8_opAt S (qO S 66 0) x1))))
set_option maxHeartbeats 2000000 in
set_option maxRecDepth 100000 in
theorem rX9_isPopped (l : Launch) (g : Gr) (ad : Nat → Nat) (sz : Nat) (S : MS) (x1 : Int32) (hw : wfC S) (hd : d_X9_isPopped S x1) : Met l yX9_isPopped (wt yX9_isPopped cX9_isPopped 3 (some .boolean)) ({ frames := 2, cells := 0, slots := 0, locals := 43 }) (va_Pc [.ref (ad 66), .int x1] (st_C g ad sz S)) (va_Qi (fun (r : Int32) (_ : Unit) => r = fX9_isPopped S x1 ∧ (r = 0 ∨ r = 1)) (fun (_ : Unit) (t : State) => qEC g ad (va_A (WdC g ad S) sz) S t) (va_A (WdC g ad S) sz)) 0 0 (va_A (WdC g ad S) sz) := by
  refine Met.ofW (cc := cX9_isPopped) (maxL := 3) (ret := (some .boolean)) (by decide) rfl ?_
  intro p e s m args below meth c s₁ B hml hv
  obtain ⟨rfl, hsz, hP, hK, hD0, hex, hE⟩ := hv
  have hx := B.exec
  have hb := B.bytes
  have hr := B.returns
  have hts0 := atoms_spec (ws := wt yX9_isPopped cX9_isPopped 3 (some .boolean)) B.pre
  have hts : ∀ w ∈ tb, w.before _ s = true := fun w h => hts0 w (List.mem_cons_of_mem _ h)
  have hown : s.vm.findClass RX9 = some m.cls := findClass_of_methodNamed B.named
  subst hsz
  have hD := hD0.self (sz := s.heap.size)
  generalize hAe : va_A (WdC g ad S) s.heap.size = A at hD hE ⊢
  have hA : ∀ q : Nat, s.heap.size ≤ q → A q := fun q h => by rw [← hAe]; exact Or.inr h
  have hR : RepC g ad A s S s.heap [] := ⟨hK, hP, hD, va_S.rf, hw⟩
  clear hK hP hD hD0
  have hl := lv_entry ([.ref (ad 66), .int x1]) (n := 3) (Nat.le_of_ble_eq_true rfl)
  rw [lg_entry_eq]
  generalize (lg_sl ([.ref (ad 66), .int x1]) ++ List.replicate (3 - (lg_sl ([.ref (ad 66), .int x1])).length) Slot.unset).toArray = ls at hl ⊢
  have hl : lv_has ls 3 [(0, .ref (ad 66)), (1, .int x1)] := hl
  obtain ⟨r0, hf⟩ : ∃ r0, fX9_isPopped S x1 = r0 := ⟨_, rfl⟩
  have hf0 := hf
  unfold fX9_isPopped at hf
  unfold d_X9_isPopped at hd
  refine lv_aload_n hx hb dX9_isPopped_0 rfl (lv_at hl 0 rfl) ?_
  have hT_b1 : qT S (qO S 66 0) = 47 := hR.w.ref (hR.w.ptr ptrC_39) (hR.w.2.1 _ finC_31).2.1
  refine va_get (D := rD g) (ci := 8) (v := .ref (ad (qO S 66 0))) (C := RX9) (T := TX9) (N := 6) hx hb hts inX9 hown hR.K hR.P 66 (hR.at48 (hR.w.2.1 _ finC_31).2.1) rfl 0 (by decide) (hts _ kw_1552) (fun _ h9 => h9) (congrArg (fun z => some (vf ad z)) (hR.w.ptr ptrC_39)) dX9_isPopped_1 ?_
  refine lv_iload_n hx hb dX9_isPopped_4 rfl (lv_at hl 1 rfl) ?_
  obtain ⟨hv2, hd⟩ := hd
  have hFc := cfree hR hA
  refine va_calli (va_runV (As := [.int x1]) (rest := []) ⟨hx, hb, hml, hown, hts⟩ (rX8_opAt l g ad s.heap.size S (qO S 66 0) x1 hR.w hT_b1 hv2) (cwV 1 hts (gd_V kw_1596 kw_1513 kw_1514 kw_782 kw_1512) rfl rfl rfl (by decide +kernel) ⟨Nat.le_of_ble_eq_true rfl, Nat.le_of_ble_eq_true rfl⟩) ⟨cblind, va_recv hR.K hR.P (ci := 7) (q0 := (qO S 66 0)) rfl (hR.at47 hT_b1), fun U hU hW9 => cmk hU hW9 hR hex hE hFc⟩ rfl rfl hl.1 rfl (lv_room (Nat.le_of_ble_eq_true rfl)) dX9_isPopped_5 ⟨Nat.le_of_ble_eq_true rfl, Nat.le_of_ble_eq_true rfl⟩) hR.sS (fun q _ h => hFc q h) hFc (fun r3 u9 t9 H1 locs ht9 hvm9 hw9 hB9 hz9 hk9 hS => ?_)
  have hR : RepC g ad A s S H1 locs := hR.call ht9 hB9 hR.w hS hFc
  obtain rfl : r3 = (fX8_opAt S (qO S 66 0) x1) := hw9
  clear hB9 hz9 hk9 hvm9 ht9 hS
  generalize H1 = H at hR ⊢
  refine lv_istore_n (lv' := [(2, .int (fX8_opAt S (qO S 66 0) x1)), (0, .ref (ad 66)), (1, .int x1)]) hx hb dX9_isPopped_8 rfl hl (by decide) rfl (fun ls hl => ?_)
  refine lv_aload_n hx hb dX9_isPopped_9 rfl (lv_at hl 1 rfl) ?_
  refine lv_iload_n hx hb dX9_isPopped_10 rfl (lv_at hl 2 rfl) ?_
  obtain ⟨hv5, hd⟩ := hd
  have hFc := cfree hR hA
  refine va_calli (va_runV (As := [.int x1]) (rest := []) ⟨hx, hb, hml, hown, hts⟩ (rX9_pushKind l g ad H.size S x1 hR.w  hv5) (cwV 1 hts (gd_V kw_1622 kw_1696 kw_1697 kw_404 kw_1695) rfl rfl rfl (by decide +kernel) ⟨Nat.le_of_ble_eq_true rfl, Nat.le_of_ble_eq_true rfl⟩) ⟨cblind, va_recv hR.K hR.P (ci := 8) (q0 := 66) rfl (hR.at48 (hR.w.2.1 _ finC_31).2.1), fun U hU hW9 => cmk hU hW9 hR hex hE hFc⟩ rfl rfl hl.1 rfl (lv_room (Nat.le_of_ble_eq_true rfl)) dX9_isPopped_11 ⟨Nat.le_of_ble_eq_true rfl, Nat.le_of_ble_eq_true rfl⟩) hR.sS (fun q _ h => hFc q h) hFc (fun r6 u9 t9 H1 locs ht9 hvm9 hw9 hB9 hz9 hk9 hS => ?_)
  have hR : RepC g ad A s S H1 locs := hR.call ht9 hB9 hR.w hS hFc
  obtain rfl : r6 = (fX9_pushKind S x1) := hw9
  clear hB9 hz9 hk9 hvm9 ht9 hS
  generalize H1 = H at hR ⊢
  have J_31 : ∀ (v31_1 : Int32) (v31_2 : Int32) (H : Heap) (locs : List Loc) (ls : Array Slot), d_X9_isPopped_J31 S v31_1 v31_2 → f_X9_isPopped_J31 S v31_1 v31_2 = r0 → RepC g ad A s S H locs → lv_has ls 3 [(0, .ref (ad 66)), (1, .int v31_1), (2, .int v31_2)] → W p l e (headSpec (wt yX9_isPopped cX9_isPopped 3 (some .boolean)) ({ frames := 2, cells := 0, slots := 0, locals := 43 })).room s m ([.ref (ad 66), .int x1] : List Value).toArray below meth c H locs 0 0 (MQ below (va_Qi (fun (r : Int32) (_ : Unit) => r = fX9_isPopped S x1 ∧ (r = 0 ∨ r = 1)) (fun (_ : Unit) (t : State) => qEC g ad A S t) A) ([.ref (ad 66), .int x1] : List Value).toArray s 0 0 A) (F0 m 31 ls []) := by
    intro v31_1 v31_2 H locs ls hd hf hR hl
    unfold d_X9_isPopped_J31 at hd
    unfold f_X9_isPopped_J31 at hf
    refine lv_aload_n hx hb dX9_isPopped_31 rfl (lv_at hl 0 rfl) ?_
    have hT_b8 : qT S (qO S 66 0) = 47 := hR.w.ref (hR.w.ptr ptrC_39) (hR.w.2.1 _ finC_31).2.1
    refine va_get (D := rD g) (ci := 8) (v := .ref (ad (qO S 66 0))) (C := RX9) (T := TX9) (N := 6) hx hb hts inX9 hown hR.K hR.P 66 (hR.at48 (hR.w.2.1 _ finC_31).2.1) rfl 0 (by decide) (hts _ kw_1552) (fun _ h9 => h9) (congrArg (fun z => some (vf ad z)) (hR.w.ptr ptrC_39)) dX9_isPopped_32 ?_
    refine lv_iload_n hx hb dX9_isPopped_35 rfl (lv_at hl 1 rfl) ?_
    refine lv_iconst (v := 1) hx hb dX9_isPopped_36 (by decide) ?_
    refine lv_iadd hx hb dX9_isPopped_37 ?_
    refine lv_topi (fun z9 ez9 => ?_)
    obtain rfl : z9 = (v31_1 + (1 : Int32)) := ez9
    obtain ⟨hv10, hd⟩ := hd
    have hFc := cfree hR hA
    refine va_calli (va_runV (As := [.int (v31_1 + (1 : Int32))]) (rest := []) ⟨hx, hb, hml, hown, hts⟩ (rX8_opAt l g ad H.size S (qO S 66 0) (v31_1 + (1 : Int32)) hR.w hT_b8 hv10) (cwV 1 hts (gd_V kw_1596 kw_1513 kw_1514 kw_782 kw_1512) rfl rfl rfl (by decide +kernel) ⟨Nat.le_of_ble_eq_true rfl, Nat.le_of_ble_eq_true rfl⟩) ⟨cblind, va_recv hR.K hR.P (ci := 7) (q0 := (qO S 66 0)) rfl (hR.at47 hT_b8), fun U hU hW9 => cmk hU hW9 hR hex hE hFc⟩ rfl rfl hl.1 rfl (lv_room (Nat.le_of_ble_eq_true rfl)) dX9_isPopped_38 ⟨Nat.le_of_ble_eq_true rfl, Nat.le_of_ble_eq_true rfl⟩) hR.sS (fun q _ h => hFc q h) hFc (fun r11 u9 t9 H1 locs ht9 hvm9 hw9 hB9 hz9 hk9 hS => ?_)
    have hR : RepC g ad A s S H1 locs := hR.call ht9 hB9 hR.w hS hFc
    obtain rfl : r11 = (fX8_opAt S (qO S 66 0) (v31_1 + (1 : Int32))) := hw9
    clear hB9 hz9 hk9 hvm9 ht9 hS
    generalize H1 = H at hR ⊢
    refine lv_iload_n hx hb dX9_isPopped_41 rfl (lv_at hl 2 rfl) ?_
    obtain ⟨hv13, hd⟩ := hd
    have hFc := cfree hR hA
    refine va_calli (va_runS (As := [.int v31_2]) (rest := [.int (fX8_opAt S (qO S 66 0) (v31_1 + (1 : Int32)))]) ⟨hx, hb, hml, hown, hts⟩ (rX6_gives l g ad H.size S v31_2 hR.w  hv13) (va_cwS 1 hts (gd_S kw_1625 kw_1216 kw_1207 kw_1215) rfl rfl rfl (by decide +kernel) ⟨Nat.le_of_ble_eq_true rfl, Nat.le_of_ble_eq_true rfl⟩) ⟨cblind, fun U hU hW9 => cmk hU hW9 hR hex hE hFc⟩ rfl rfl hl.1 rfl (lv_room (Nat.le_of_ble_eq_true rfl)) dX9_isPopped_42 ⟨Nat.le_of_ble_eq_true rfl, Nat.le_of_ble_eq_true rfl⟩) hR.sS (fun q _ h => hFc q h) hFc (fun r14 u9 t9 H1 locs ht9 hvm9 hw9 hB9 hz9 hk9 hS => ?_)
    have hR : RepC g ad A s S H1 locs := hR.call ht9 hB9 hR.w hS hFc
    obtain rfl : r14 = (fX6_gives S v31_2) := hw9
    clear hB9 hz9 hk9 hvm9 ht9 hS
    generalize H1 = H at hR ⊢
    refine lv_iconst (v := 2) hx hb dX9_isPopped_45 (by decide) ?_
    have J_56 : ∀ (t56_0 : Int32) (t56_1 : Int32) (H : Heap) (locs : List Loc) (ls : Array Slot), d_X9_isPopped_J56 S t56_0 t56_1 → f_X9_isPopped_J56 S t56_0 t56_1 = r0 → RepC g ad A s S H locs → lv_has ls 3 [] → W p l e (headSpec (wt yX9_isPopped cX9_isPopped 3 (some .boolean)) ({ frames := 2, cells := 0, slots := 0, locals := 43 })).room s m ([.ref (ad 66), .int x1] : List Value).toArray below meth c H locs 0 0 (MQ below (va_Qi (fun (r : Int32) (_ : Unit) => r = fX9_isPopped S x1 ∧ (r = 0 ∨ r = 1)) (fun (_ : Unit) (t : State) => qEC g ad A S t) A) ([.ref (ad 66), .int x1] : List Value).toArray s 0 0 A) (F0 m 56 ls [.int t56_0, .int t56_1]) := by
      intro t56_0 t56_1 H locs ls hd hf hR hl
      unfold d_X9_isPopped_J56 at hd
      unfold f_X9_isPopped_J56 at hf
      refine lv_icmp_ne (tgt := 63) hx hb dX9_isPopped_56 (by decide) (fun c16 => ?_) (fun c16 => ?_)
      · rw [if_neg (k_ne rfl rfl c16)] at hf
        (try rw [if_neg (k_ne rfl rfl c16)] at hd)
        refine lv_iconst (v := 0) hx hb dX9_isPopped_63 (by decide) ?_
        exact W.zret (v := 0) hx hb hr (nz (Or.inl rfl)) (fun t9 ht9 hW9 => ⟨⟨_, (), rfl, ⟨hf.trans hf0.symm, (Or.inl rfl)⟩, ⟨by rw [ht9]; exact hR.P, hR.D⟩⟩, hR.sS.F ht9⟩) hR.sS.2.2 dX9_isPopped_64
      · rw [if_pos (k_eq rfl rfl c16)] at hf
        (try rw [if_pos (k_eq rfl rfl c16)] at hd)
        refine lv_iconst (v := 1) hx hb dX9_isPopped_59 (by decide) ?_
        refine lv_goto (tgt := 64) hx hb dX9_isPopped_60 (by decide) ?_
        exact W.zret (v := 1) hx hb hr (nz (Or.inr rfl)) (fun t9 ht9 hW9 => ⟨⟨_, (), rfl, ⟨hf.trans hf0.symm, (Or.inr rfl)⟩, ⟨by rw [ht9]; exact hR.P, hR.D⟩⟩, hR.sS.F ht9⟩) hR.sS.2.2 dX9_isPopped_64
    refine lv_icmp_ne (tgt := 54) hx hb dX9_isPopped_46 (by decide) (fun c17 => ?_) (fun c17 => ?_)
    · rw [if_neg (k_ne rfl (by decide) c17)] at hf
      (try rw [if_neg (k_ne rfl (by decide) c17)] at hd)
      refine lv_bipush (v := 87) hx hb dX9_isPopped_54 (by decide) ?_
      exact J_56 87 (fX8_opAt S (qO S 66 0) (v31_1 + (1 : Int32))) _ _ ls hd hf  hR (lv_sub hl [] rfl)
    · rw [if_pos (k_eq rfl (by decide) c17)] at hf
      (try rw [if_pos (k_eq rfl (by decide) c17)] at hd)
      refine lv_bipush (v := 88) hx hb dX9_isPopped_49 (by decide) ?_
      refine lv_goto (tgt := 56) hx hb dX9_isPopped_51 (by decide) ?_
      exact J_56 88 (fX8_opAt S (qO S 66 0) (v31_1 + (1 : Int32))) _ _ ls hd hf  hR (lv_sub hl [] rfl)
  refine lv_if_ne (tgt := 31) hx hb dX9_isPopped_14 (by decide) (fun c18 => ?_) (fun c18 => ?_)
  · rw [if_neg (k_ne rfl (by decide) c18)] at hf
    (try rw [if_neg (k_ne rfl (by decide) c18)] at hd)
    exact J_31 x1 (fX8_opAt S (qO S 66 0) x1) _ _ ls hd hf  hR (lv_sub hl [1, 2, 0] rfl)
  · rw [if_pos (k_eq rfl (by decide) c18)] at hf
    (try rw [if_pos (k_eq rfl (by decide) c18)] at hd)
    refine lv_iload_n hx hb dX9_isPopped_17 rfl (lv_at hl 0 rfl) ?_
    refine lv_iconst (v := 1) hx hb dX9_isPopped_18 (by decide) ?_
    refine lv_icmp_eq (tgt := 31) hx hb dX9_isPopped_19 (by decide) (fun c19 => ?_) (fun c19 => ?_)
    · rw [if_pos (k_eq rfl (by decide) c19)] at hf
      (try rw [if_pos (k_eq rfl (by decide) c19)] at hd)
      exact J_31 x1 (fX8_opAt S (qO S 66 0) x1) _ _ ls hd hf  hR (lv_sub hl [1, 2, 0] rfl)
    · rw [if_neg (k_ne rfl (by decide) c19)] at hf
      (try rw [if_neg (k_ne rfl (by decide) c19)] at hd)
      refine lv_iload_n hx hb dX9_isPopped_22 rfl (lv_at hl 0 rfl) ?_
      obtain ⟨hv20, hd⟩ := hd
      have hFc := cfree hR hA
      refine va_calli (va_runS (As := [.int (fX8_opAt S (qO S 66 0) x1)]) (rest := []) ⟨hx, hb, hml, hown, hts⟩ (rX6_isLoad l g ad H.size S (fX8_opAt S (qO S 66 0) x1) hR.w  hv20) (va_cwS 1 hts (gd_S kw_1647 kw_1227 kw_1207 kw_1226) rfl rfl rfl (by decide +kernel) ⟨Nat.le_of_ble_eq_true rfl, Nat.le_of_ble_eq_true rfl⟩) ⟨cblind, fun U hU hW9 => cmk hU hW9 hR hex hE hFc⟩ rfl rfl hl.1 rfl (lv_room (Nat.le_of_ble_eq_true rfl)) dX9_isPopped_23 ⟨Nat.le_of_ble_eq_true rfl, Nat.le_of_ble_eq_true rfl⟩) hR.sS (fun q _ h => hFc q h) hFc (fun r21 u9 t9 H1 locs ht9 hvm9 hw9 hB9 hz9 hk9 hS => ?_)
      have hR : RepC g ad A s S H1 locs := hR.call ht9 hB9 hR.w hS hFc
      obtain ⟨rfl, hz_r21⟩ := hw9
      clear hB9 hz9 hk9 hvm9 ht9 hS
      generalize H1 = H at hR ⊢
      refine lv_if_ne (tgt := 31) hx hb dX9_isPopped_26 (by decide) (fun c23 => ?_) (fun c23 => ?_)
      · rw [if_neg (k_ne rfl (by decide) c23)] at hf
        (try rw [if_neg (k_ne rfl (by decide) c23)] at hd)
        exact J_31 x1 (fX8_opAt S (qO S 66 0) x1) _ _ ls hd hf  hR (lv_sub hl [1, 2, 0] rfl)
      · rw [if_pos (k_eq rfl (by decide) c23)] at hf
        (try rw [if_pos (k_eq rfl (by decide) c23)] at hd)
        refine lv_iconst (v := 0) hx hb dX9_isPopped_29 (by decide) ?_
        exact W.zret (v := 0) hx hb hr (nz (Or.inl rfl)) (fun t9 ht9 hW9 => ⟨⟨_, (), rfl, ⟨hf.trans hf0.symm, (Or.inl rfl)⟩, ⟨by rw [ht9]; exact hR.P, hR.D⟩⟩, hR.sS.F ht9⟩) hR.sS.2.2 dX9_isPopped_30
def f_X9_localBits_J20 (S : MS) (t20_0 : Int32) (v20_1 : Int32) : Int32 := (t20_0 <<< ((fX8_localOf S (qO S 66 0) v20_1) &&& 31))
def d_X9_localBits_J20 (S : MS) (t20_0 : Int32) (v20_1 : Int32) : Prop := (d_X8_localOf S (qO S 66 0) v20_1 ∧ True)
def fX9_localBits (S : MS) (x1 : Int32) : Int32 := (if (fX6_localWidth S (fX8_opAt S (qO S 66 0) x1)).toInt = 2 then f_X9_localBits_J20 S 3 x1 else f_X9_localBits_J20 S 1 x1)
def d_X9_localBits (S : MS) (x1 : Int32) : Prop := (d_X8_opAt S (qO S 66 0) x1 ∧ (d_X6_localWidth S (fX8_opAt S (qO S 66 0) x1) ∧ (if (fX6_localWidth S (fX8_opAt S (qO S 66 0) x1)).toInt = 2 then d_X9_localBits_J20 S 3 x1 else d_X9_localBits_J20 S 1 x1)))
set_option maxHeartbeats 2000000 in
set_option maxRecDepth 100000 in
theorem rX9_localBits (l : Launch) (g : Gr) (ad : Nat → Nat) (sz : Nat) (S : MS) (x1 : Int32) (hw : wfC S) (hd : d_X9_localBits S x1) : Met l yX9_localBits (wt yX9_localBits cX9_localBits 2 (some .int)) ({ frames := 2, cells := 0, slots := 0, locals := 42 }) (va_Pc [.ref (ad 66), .int x1] (st_C g ad sz S)) (va_Qi (fun (r : Int32) (_ : Unit) => r = fX9_localBits S x1) (fun (_ : Unit) (t : State) => qEC g ad (va_A (WdC g ad S) sz) S t) (va_A (WdC g ad S) sz)) 0 0 (va_A (WdC g ad S) sz) := by
  refine Met.ofW (cc := cX9_localBits) (maxL := 2) (ret := (some .int)) (by decide) rfl ?_
  intro p e s m args below meth c s₁ B hml hv
  obtain ⟨rfl, hsz, hP, hK, hD0, hex, hE⟩ := hv
  have hx := B.exec
  have hb := B.bytes
  have hr := B.returns
  have hts0 := atoms_spec (ws := wt yX9_localBits cX9_localBits 2 (some .int)) B.pre
  have hts : ∀ w ∈ tb, w.before _ s = true := fun w h => hts0 w (List.mem_cons_of_mem _ h)
  have hown : s.vm.findClass RX9 = some m.cls := findClass_of_methodNamed B.named
  subst hsz
  have hD := hD0.self (sz := s.heap.size)
  generalize hAe : va_A (WdC g ad S) s.heap.size = A at hD hE ⊢
  have hA : ∀ q : Nat, s.heap.size ≤ q → A q := fun q h => by rw [← hAe]; exact Or.inr h
  have hR : RepC g ad A s S s.heap [] := ⟨hK, hP, hD, va_S.rf, hw⟩
  clear hK hP hD hD0
  have hl := lv_entry ([.ref (ad 66), .int x1]) (n := 2) (Nat.le_of_ble_eq_true rfl)
  rw [lg_entry_eq]
  generalize (lg_sl ([.ref (ad 66), .int x1]) ++ List.replicate (2 - (lg_sl ([.ref (ad 66), .int x1])).length) Slot.unset).toArray = ls at hl ⊢
  have hl : lv_has ls 2 [(0, .ref (ad 66)), (1, .int x1)] := hl
  obtain ⟨r0, hf⟩ : ∃ r0, fX9_localBits S x1 = r0 := ⟨_, rfl⟩
  have hf0 := hf
  unfold fX9_localBits at hf
  unfold d_X9_localBits at hd
  refine lv_aload_n hx hb dX9_localBits_0 rfl (lv_at hl 0 rfl) ?_
  have hT_b1 : qT S (qO S 66 0) = 47 := hR.w.ref (hR.w.ptr ptrC_39) (hR.w.2.1 _ finC_31).2.1
  refine va_get (D := rD g) (ci := 8) (v := .ref (ad (qO S 66 0))) (C := RX9) (T := TX9) (N := 6) hx hb hts inX9 hown hR.K hR.P 66 (hR.at48 (hR.w.2.1 _ finC_31).2.1) rfl 0 (by decide) (hts _ kw_1552) (fun _ h9 => h9) (congrArg (fun z => some (vf ad z)) (hR.w.ptr ptrC_39)) dX9_localBits_1 ?_
  refine lv_iload_n hx hb dX9_localBits_4 rfl (lv_at hl 1 rfl) ?_
  obtain ⟨hv2, hd⟩ := hd
  have hFc := cfree hR hA
  refine va_calli (va_runV (As := [.int x1]) (rest := []) ⟨hx, hb, hml, hown, hts⟩ (rX8_opAt l g ad s.heap.size S (qO S 66 0) x1 hR.w hT_b1 hv2) (cwV 1 hts (gd_V kw_1596 kw_1513 kw_1514 kw_782 kw_1512) rfl rfl rfl (by decide +kernel) ⟨Nat.le_of_ble_eq_true rfl, Nat.le_of_ble_eq_true rfl⟩) ⟨cblind, va_recv hR.K hR.P (ci := 7) (q0 := (qO S 66 0)) rfl (hR.at47 hT_b1), fun U hU hW9 => cmk hU hW9 hR hex hE hFc⟩ rfl rfl hl.1 rfl (lv_room (Nat.le_of_ble_eq_true rfl)) dX9_localBits_5 ⟨Nat.le_of_ble_eq_true rfl, Nat.le_of_ble_eq_true rfl⟩) hR.sS (fun q _ h => hFc q h) hFc (fun r3 u9 t9 H1 locs ht9 hvm9 hw9 hB9 hz9 hk9 hS => ?_)
  have hR : RepC g ad A s S H1 locs := hR.call ht9 hB9 hR.w hS hFc
  obtain rfl : r3 = (fX8_opAt S (qO S 66 0) x1) := hw9
  clear hB9 hz9 hk9 hvm9 ht9 hS
  generalize H1 = H at hR ⊢
  obtain ⟨hv5, hd⟩ := hd
  have hFc := cfree hR hA
  refine va_calli (va_runS (As := [.int (fX8_opAt S (qO S 66 0) x1)]) (rest := []) ⟨hx, hb, hml, hown, hts⟩ (rX6_localWidth l g ad H.size S (fX8_opAt S (qO S 66 0) x1) hR.w  hv5) (va_cwS 1 hts (gd_S kw_1676 kw_1247 kw_1207 kw_1246) rfl rfl rfl (by decide +kernel) ⟨Nat.le_of_ble_eq_true rfl, Nat.le_of_ble_eq_true rfl⟩) ⟨cblind, fun U hU hW9 => cmk hU hW9 hR hex hE hFc⟩ rfl rfl hl.1 rfl (lv_room (Nat.le_of_ble_eq_true rfl)) dX9_localBits_8 ⟨Nat.le_of_ble_eq_true rfl, Nat.le_of_ble_eq_true rfl⟩) hR.sS (fun q _ h => hFc q h) hFc (fun r6 u9 t9 H1 locs ht9 hvm9 hw9 hB9 hz9 hk9 hS => ?_)
  have hR : RepC g ad A s S H1 locs := hR.call ht9 hB9 hR.w hS hFc
  obtain rfl : r6 = (fX6_localWidth S (fX8_opAt S (qO S 66 0) x1)) := hw9
  clear hB9 hz9 hk9 hvm9 ht9 hS
  generalize H1 = H at hR ⊢
  refine lv_iconst (v := 2) hx hb dX9_localBits_11 (by decide) ?_
  have J_20 : ∀ (t20_0 : Int32) (v20_1 : Int32) (H : Heap) (locs : List Loc) (ls : Array Slot), d_X9_localBits_J20 S t20_0 v20_1 → f_X9_localBits_J20 S t20_0 v20_1 = r0 → RepC g ad A s S H locs → lv_has ls 2 [(0, .ref (ad 66)), (1, .int v20_1)] → W p l e (headSpec (wt yX9_localBits cX9_localBits 2 (some .int)) ({ frames := 2, cells := 0, slots := 0, locals := 42 })).room s m ([.ref (ad 66), .int x1] : List Value).toArray below meth c H locs 0 0 (MQ below (va_Qi (fun (r : Int32) (_ : Unit) => r = fX9_localBits S x1) (fun (_ : Unit) (t : State) => qEC g ad A S t) A) ([.ref (ad 66), .int x1] : List Value).toArray s 0 0 A) (F0 m 20 ls [.int t20_0]) := by
    intro t20_0 v20_1 H locs ls hd hf hR hl
    unfold d_X9_localBits_J20 at hd
    unfold f_X9_localBits_J20 at hf
    refine lv_aload_n hx hb dX9_localBits_20 rfl (lv_at hl 0 rfl) ?_
    have hT_b8 : qT S (qO S 66 0) = 47 := hR.w.ref (hR.w.ptr ptrC_39) (hR.w.2.1 _ finC_31).2.1
    refine va_get (D := rD g) (ci := 8) (v := .ref (ad (qO S 66 0))) (C := RX9) (T := TX9) (N := 6) hx hb hts inX9 hown hR.K hR.P 66 (hR.at48 (hR.w.2.1 _ finC_31).2.1) rfl 0 (by decide) (hts _ kw_1552) (fun _ h9 => h9) (congrArg (fun z => some (vf ad z)) (hR.w.ptr ptrC_39)) dX9_localBits_21 ?_
    refine lv_iload_n hx hb dX9_localBits_24 rfl (lv_at hl 1 rfl) ?_
    obtain ⟨hv9, hd⟩ := hd
    have hFc := cfree hR hA
    refine va_calli (va_runV (As := [.int v20_1]) (rest := [.int t20_0]) ⟨hx, hb, hml, hown, hts⟩ (rX8_localOf l g ad H.size S (qO S 66 0) v20_1 hR.w hT_b8 hv9) (cwV 1 hts (gd_V kw_1643 kw_1509 kw_1510 kw_782 kw_1508) rfl rfl rfl (by decide +kernel) ⟨Nat.le_of_ble_eq_true rfl, Nat.le_of_ble_eq_true rfl⟩) ⟨cblind, va_recv hR.K hR.P (ci := 7) (q0 := (qO S 66 0)) rfl (hR.at47 hT_b8), fun U hU hW9 => cmk hU hW9 hR hex hE hFc⟩ rfl rfl hl.1 rfl (lv_room (Nat.le_of_ble_eq_true rfl)) dX9_localBits_25 ⟨Nat.le_of_ble_eq_true rfl, Nat.le_of_ble_eq_true rfl⟩) hR.sS (fun q _ h => hFc q h) hFc (fun r10 u9 t9 H1 locs ht9 hvm9 hw9 hB9 hz9 hk9 hS => ?_)
    have hR : RepC g ad A s S H1 locs := hR.call ht9 hB9 hR.w hS hFc
    obtain rfl : r10 = (fX8_localOf S (qO S 66 0) v20_1) := hw9
    clear hB9 hz9 hk9 hvm9 ht9 hS
    generalize H1 = H at hR ⊢
    refine lv_ishl hx hb dX9_localBits_28 ?_
    refine lv_topi (fun z12 ez12 => ?_)
    obtain rfl : z12 = (t20_0 <<< ((fX8_localOf S (qO S 66 0) v20_1) &&& 31)) := ez12
    exact W.iret (v := (t20_0 <<< ((fX8_localOf S (qO S 66 0) v20_1) &&& 31))) hx hb hr (fun t9 ht9 hW9 => ⟨⟨_, (), rfl, hf.trans hf0.symm, ⟨by rw [ht9]; exact hR.P, hR.D⟩⟩, hR.sS.F ht9⟩) hR.sS.2.2 dX9_localBits_29
  refine lv_icmp_ne (tgt := 19) hx hb dX9_localBits_12 (by decide) (fun c13 => ?_) (fun c13 => ?_)
  · rw [if_neg (k_ne rfl (by decide) c13)] at hf
    (try rw [if_neg (k_ne rfl (by decide) c13)] at hd)
    refine lv_iconst (v := 1) hx hb dX9_localBits_19 (by decide) ?_
    exact J_20 1 x1 _ _ ls hd hf  hR (lv_sub hl [0, 1] rfl)
  · rw [if_pos (k_eq rfl (by decide) c13)] at hf
    (try rw [if_pos (k_eq rfl (by decide) c13)] at hd)
    refine lv_iconst (v := 3) hx hb dX9_localBits_15 (by decide) ?_
    refine lv_goto (tgt := 20) hx hb dX9_localBits_16 (by decide) ?_
    exact J_20 3 x1 _ _ ls hd hf  hR (lv_sub hl [0, 1] rfl)
def f_X9_liveAt_J15 (S : MS) : Int32 := (0 : Int32)
def d_X9_liveAt_J15 (S : MS) : Prop := True
def fX9_liveAt (S : MS) (x1 : Int32) : Int32 := (if x1.toInt < 0 then f_X9_liveAt_J15 S else (if x1.toInt < (qI S (qO S 66 0) 2).toInt then (qI S (qO S 66 4) x1.toInt.toNat) else f_X9_liveAt_J15 S))
def d_X9_liveAt (S : MS) (x1 : Int32) : Prop := (if x1.toInt < 0 then d_X9_liveAt_J15 S else (if x1.toInt < (qI S (qO S 66 0) 2).toInt then (((0 : Int) ≤ x1.toInt ∧ x1.toInt < (qN S (qO S 66 4) : Int)) ∧ True) else d_X9_liveAt_J15 S))
set_option maxHeartbeats 2000000 in
set_option maxRecDepth 100000 in
theorem rX9_liveAt (l : Launch) (g : Gr) (ad : Nat → Nat) (sz : Nat) (S : MS) (x1 : Int32) (hw : wfC S) (hd : d_X9_liveAt S x1) : Met l yX9_liveAt (wt yX9_liveAt cX9_liveAt 2 (some .int)) ({ frames := 0, cells := 0, slots := 0, locals := 0 }) (va_Pc [.ref (ad 66), .int x1] (st_C g ad sz S)) (va_Qi (fun (r : Int32) (_ : Unit) => r = fX9_liveAt S x1) (fun (_ : Unit) (t : State) => qEC g ad (va_A (WdC g ad S) sz) S t) (va_A (WdC g ad S) sz)) 0 0 (va_A (WdC g ad S) sz) := by
  refine Met.ofW (cc := cX9_liveAt) (maxL := 2) (ret := (some .int)) (by decide) rfl ?_
  intro p e s m args below meth c s₁ B hml hv
  obtain ⟨rfl, hsz, hP, hK, hD0, hex, hE⟩ := hv
  have hx := B.exec
  have hb := B.bytes
  have hr := B.returns
  have hts0 := atoms_spec (ws := wt yX9_liveAt cX9_liveAt 2 (some .int)) B.pre
  have hts : ∀ w ∈ tb, w.before _ s = true := fun w h => hts0 w (List.mem_cons_of_mem _ h)
  have hown : s.vm.findClass RX9 = some m.cls := findClass_of_methodNamed B.named
  subst hsz
  have hD := hD0.self (sz := s.heap.size)
  generalize hAe : va_A (WdC g ad S) s.heap.size = A at hD hE ⊢
  have hA : ∀ q : Nat, s.heap.size ≤ q → A q := fun q h => by rw [← hAe]; exact Or.inr h
  have hR : RepC g ad A s S s.heap [] := ⟨hK, hP, hD, va_S.rf, hw⟩
  clear hK hP hD hD0
  have hl := lv_entry ([.ref (ad 66), .int x1]) (n := 2) (Nat.le_of_ble_eq_true rfl)
  rw [lg_entry_eq]
  generalize (lg_sl ([.ref (ad 66), .int x1]) ++ List.replicate (2 - (lg_sl ([.ref (ad 66), .int x1])).length) Slot.unset).toArray = ls at hl ⊢
  have hl : lv_has ls 2 [(0, .ref (ad 66)), (1, .int x1)] := hl
  obtain ⟨r0, hf⟩ : ∃ r0, fX9_liveAt S x1 = r0 := ⟨_, rfl⟩
  have hf0 := hf
  unfold fX9_liveAt at hf
  unfold d_X9_liveAt at hd
  refine lv_iload_n hx hb dX9_liveAt_0 rfl (lv_at hl 1 rfl) ?_
  have J_15 : ∀ (H : Heap) (locs : List Loc) (ls : Array Slot), d_X9_liveAt_J15 S → f_X9_liveAt_J15 S = r0 → RepC g ad A s S H locs → lv_has ls 2 [] → W p l e (headSpec (wt yX9_liveAt cX9_liveAt 2 (some .int)) ({ frames := 0, cells := 0, slots := 0, locals := 0 })).room s m ([.ref (ad 66), .int x1] : List Value).toArray below meth c H locs 0 0 (MQ below (va_Qi (fun (r : Int32) (_ : Unit) => r = fX9_liveAt S x1) (fun (_ : Unit) (t : State) => qEC g ad A S t) A) ([.ref (ad 66), .int x1] : List Value).toArray s 0 0 A) (F0 m 15 ls []) := by
    intro H locs ls hd hf hR hl
    unfold d_X9_liveAt_J15 at hd
    unfold f_X9_liveAt_J15 at hf
    refine lv_iconst (v := 0) hx hb dX9_liveAt_15 (by decide) ?_
    refine lv_goto (tgt := 25) hx hb dX9_liveAt_16 (by decide) ?_
    exact W.iret (v := 0) hx hb hr (fun t9 ht9 hW9 => ⟨⟨_, (), rfl, hf.trans hf0.symm, ⟨by rw [ht9]; exact hR.P, hR.D⟩⟩, hR.sS.F ht9⟩) hR.sS.2.2 dX9_liveAt_25
  refine lv_if_lt (tgt := 15) hx hb dX9_liveAt_1 (by decide) (fun c1 => ?_) (fun c1 => ?_)
  · rw [if_pos (k_lt rfl (by decide) c1)] at hf
    (try rw [if_pos (k_lt rfl (by decide) c1)] at hd)
    exact J_15 _ _ ls hd hf  hR (lv_sub hl [] rfl)
  · rw [if_neg (k_nlt rfl (by decide) c1)] at hf
    (try rw [if_neg (k_nlt rfl (by decide) c1)] at hd)
    refine lv_iload_n hx hb dX9_liveAt_4 rfl (lv_at hl 1 rfl) ?_
    refine lv_aload_n hx hb dX9_liveAt_5 rfl (lv_at hl 0 rfl) ?_
    have hT_b2 : qT S (qO S 66 0) = 47 := hR.w.ref (hR.w.ptr ptrC_39) (hR.w.2.1 _ finC_31).2.1
    refine va_get (D := rD g) (ci := 8) (v := .ref (ad (qO S 66 0))) (C := RX9) (T := TX9) (N := 6) hx hb hts inX9 hown hR.K hR.P 66 (hR.at48 (hR.w.2.1 _ finC_31).2.1) rfl 0 (by decide) (hts _ kw_1552) (fun _ h9 => h9) (congrArg (fun z => some (vf ad z)) (hR.w.ptr ptrC_39)) dX9_liveAt_6 ?_
    refine va_get (D := rD g) (ci := 7) (v := .int (qI S (qO S 66 0) 2)) (C := RX8) (T := TX8) (N := 15) hx hb hts inX8 hown hR.K hR.P (qO S 66 0) (hR.at47 hT_b2) rfl 2 (by decide) (hts _ kw_1553) (fun _ h9 => h9) rfl dX9_liveAt_9 ?_
    refine lv_icmp_lt (tgt := 19) hx hb dX9_liveAt_12 (by decide) (fun c3 => ?_) (fun c3 => ?_)
    · rw [if_pos (k_lt rfl rfl c3)] at hf
      (try rw [if_pos (k_lt rfl rfl c3)] at hd)
      refine lv_aload_n hx hb dX9_liveAt_19 rfl (lv_at hl 0 rfl) ?_
      have hT_b4 : qT S (qO S 66 4) = 229 := hR.w.ref (hR.w.ptr ptrC_37) (hR.w.2.1 _ finC_31).2.1
      refine va_get (D := rD g) (ci := 8) (v := .ref (ad (qO S 66 4))) (C := RX9) (T := TX9) (N := 6) hx hb hts inX9 hown hR.K hR.P 66 (hR.at48 (hR.w.2.1 _ finC_31).2.1) rfl 4 (by decide) (hts _ kw_1559) (fun _ h9 => h9) (congrArg (fun z => some (vf ad z)) (hR.w.ptr ptrC_37)) dX9_liveAt_20 ?_
      refine lv_iload_n hx hb dX9_liveAt_23 rfl (lv_at hl 1 rfl) ?_
      obtain ⟨hv5, hd⟩ := hd
      refine va_iald hx hb hR.K hR.P (qO S 66 4) 1 (hR.atI hT_b4 (by decide)) rfl (k_ix (x := x1) (a := x1.toInt) rfl hv5) dX9_liveAt_24 ?_
      refine lv_topi (fun z6 ez6 => ?_)
      obtain rfl : z6 = (qI S (qO S 66 4) x1.toInt.toNat) := ez6
      exact W.iret (v := (qI S (qO S 66 4) x1.toInt.toNat)) hx hb hr (fun t9 ht9 hW9 => ⟨⟨_, (), rfl, hf.trans hf0.symm, ⟨by rw [ht9]; exact hR.P, hR.D⟩⟩, hR.sS.F ht9⟩) hR.sS.2.2 dX9_liveAt_25
    · rw [if_neg (k_nlt rfl rfl c3)] at hf
      (try rw [if_neg (k_nlt rfl rfl c3)] at hd)
      exact J_15 _ _ ls hd hf  hR (lv_sub hl [] rfl)
def wX10_init (S : MS) (p0 : Nat) (p1 : Nat) (x2 : Int32) (x3 : Int32) (Q : MS → Prop) : Prop := (∀ S1, S1 = wI S p0 16 (-1 : Int32) → qT S p0 = 49 → wfC S1 → (∀ S2, S2 = wI S1 p0 17 (-1 : Int32) → qT S1 p0 = 49 → wfC S2 → ((p1 = p0 + 1) ∧ (∀ S4, S4 = wR S2 p0 0 (some p1) → qT S2 p0 = 49 → wfC S4 → (∀ S5, S5 = wI S4 p0 4 x2 → qT S4 p0 = 49 → wfC S5 → (((0 : Int) ≤ x2.toInt ∧ (qn S5 + 1 ≤ KCC ∧ qu S5 + x2.toInt.toNat ≤ KSC)) ∧ (∀ S9, S9 = wN S5 231 x2.toInt.toNat x2.toInt.toNat → wfC S9 → (((qn S5) = p0 + 2) ∧ (∀ S12, S12 = wR S9 p0 5 (some (qn S5)) → qT S9 p0 = 49 → wfC S12 → (((0 : Int) ≤ x2.toInt ∧ (qn S12 + 1 ≤ KCC ∧ qu S12 + x2.toInt.toNat ≤ KSC)) ∧ (∀ S16, S16 = wN S12 232 x2.toInt.toNat x2.toInt.toNat → wfC S16 → (((qn S12) = p0 + 3) ∧ (∀ S19, S19 = wR S16 p0 6 (some (qn S12)) → qT S16 p0 = 49 → wfC S19 → (((0 : Int) ≤ x2.toInt ∧ (qn S19 + 1 ≤ KCC ∧ qu S19 + x2.toInt.toNat ≤ KSC)) ∧ (∀ S23, S23 = wN S19 233 x2.toInt.toNat x2.toInt.toNat → wfC S23 → (((qn S19) = p0 + 4) ∧ (∀ S26, S26 = wR S23 p0 7 (some (qn S19)) → qT S23 p0 = 49 → wfC S26 → (∀ S27, S27 = wI S26 p0 8 x3 → qT S26 p0 = 49 → wfC S27 → (((0 : Int) ≤ x3.toInt ∧ (qn S27 + 1 ≤ KCC ∧ qu S27 + x3.toInt.toNat ≤ KSC)) ∧ (∀ S31, S31 = wN S27 234 x3.toInt.toNat x3.toInt.toNat → wfC S31 → (((qn S27) = p0 + 5) ∧ (∀ S34, S34 = wR S31 p0 9 (some (qn S27)) → qT S31 p0 = 49 → wfC S34 → (((0 : Int) ≤ x3.toInt ∧ (qn S34 + 1 ≤ KCC ∧ qu S34 + x3.toInt.toNat ≤ KSC)) ∧ (∀ S38, S38 = wN S34 235 x3.toInt.toNat x3.toInt.toNat → wfC S38 → (((qn S34) = p0 + 6) ∧ (∀ S41, S41 = wR S38 p0 10 (some (qn S34)) → qT S38 p0 = 49 → wfC S41 → (((0 : Int) ≤ x3.toInt ∧ (qn S41 + 1 ≤ KCC ∧ qu S41 + x3.toInt.toNat ≤ KSC)) ∧ (∀ S45, S45 = wN S41 236 x3.toInt.toNat x3.toInt.toNat → wfC S45 → (((qn S41) = p0 + 7) ∧ (∀ S48, S48 = wR S45 p0 11 (some (qn S41)) → qT S45 p0 = 49 → wfC S48 → (((0 : Int) ≤ x3.toInt ∧ (qn S48 + 1 ≤ KCC ∧ qu S48 + x3.toInt.toNat ≤ KSC)) ∧ (∀ S52, S52 = wN S48 237 x3.toInt.toNat x3.toInt.toNat → wfC S52 → (((qn S48) = p0 + 8) ∧ (∀ S55, S55 = wR S52 p0 12 (some (qn S48)) → qT S52 p0 = 49 → wfC S55 → (((0 : Int) ≤ x3.toInt ∧ (qn S55 + 1 ≤ KCC ∧ qu S55 + x3.toInt.toNat ≤ KSC)) ∧ (∀ S59, S59 = wN S55 6 x3.toInt.toNat x3.toInt.toNat → wfC S59 → (((qn S55) = p0 + 9) ∧ (∀ S62, S62 = wR S59 p0 13 (some (qn S55)) → qT S59 p0 = 49 → wfC S62 → Q S62))))))))))))))))))))))))))))))))))))))
set_option maxHeartbeats 2000000 in
set_option maxRecDepth 100000 in
theorem rX10_init (l : Launch) (g : Gr) (ad : Nat → Nat) (H0 : Heap) (S : MS) (p0 : Nat) (p1 : Nat) (x2 : Int32) (x3 : Int32) (hw : wfC S) (hT_p0 : qT S p0 = 49) (hT_p1 : qT S p1 = 105) (Q : MS → Prop) (h : wX10_init S p0 p1 x2 x3 Q) : Met l yX10_init (wt yX10_init cX10_init 4 none) ({ frames := 1, cells := KCC - qn S, slots := KSC - qu S, locals := 12 }) (va_Pc [.ref (ad p0), .ref (ad p1), .int x2, .int x3] (st_CH g ad H0 S)) (va_Qv (fun (u : MS × (Nat → Nat)) => Q u.1 ∧ wfC u.1 ∧ shx S u.1 ∧ adk ad u.2 S) (fun (u : MS × (Nat → Nat)) (t : State) => qEHC g (va_A (WdC g ad S) H0.size) S H0 u t) (va_A (WdC g ad S) H0.size)) (KCC - qn S) (KSC - qu S) (va_A (WdC g ad S) H0.size) := by
  refine Met.ofW (cc := cX10_init) (maxL := 4) (ret := none) (by decide) rfl ?_
  intro p e s m args below meth c s₁ B hml hv
  obtain ⟨rfl, hH0, hsz, hP, hK, hD0, hex, hE⟩ := hv
  have hx := B.exec
  have hb := B.bytes
  have hr := B.returns
  have hts0 := atoms_spec (ws := wt yX10_init cX10_init 4 none) B.pre
  have hts : ∀ w ∈ tb, w.before _ s = true := fun w h => hts0 w (List.mem_cons_of_mem _ h)
  have hown : s.vm.findClass RX10 = some m.cls := findClass_of_methodNamed B.named
  subst hH0
  have hD := hD0.self (sz := s.heap.size)
  generalize hAe : va_A (WdC g ad S) s.heap.size = A at hD hE ⊢
  have hA : ∀ q : Nat, s.heap.size ≤ q → A q := fun q h => by rw [← hAe]; exact Or.inr h
  have hR : RepC g ad A s S s.heap [] := ⟨hK, hP, hD, va_S.rf, hw⟩
  clear hK hP hD hD0
  have hl := lv_entry ([.ref (ad p0), .ref (ad p1), .int x2, .int x3]) (n := 4) (Nat.le_of_ble_eq_true rfl)
  rw [lg_entry_eq]
  generalize (lg_sl ([.ref (ad p0), .ref (ad p1), .int x2, .int x3]) ++ List.replicate (4 - (lg_sl ([.ref (ad p0), .ref (ad p1), .int x2, .int x3])).length) Slot.unset).toArray = ls at hl ⊢
  have hlg : lgC S S 0 0 := lgC.rf
  have hak : adk ad ad S := adk.rf
  have hin9 : meth.name = "<init>" := (name_of_methodNamed B.named B.method).1
  have hl : lv_has ls 4 [(0, .ref (ad p0)), (1, .ref (ad p1)), (2, .int x2), (3, .int x3)] := hl
  have hsh : shx S S := shx.rf
  unfold wX10_init at h
  refine lv_aload_n hx hb dX10_init_0 rfl (lv_at hl 0 rfl) ?_
  refine W.objInit hx hb hown (hts _ kw_46) (hts _ kw_9) (hts _ kw_10) rfl (by rw [hml]; exact hl.1) rfl dX10_init_1 (Nat.le_of_ble_eq_true rfl) (Nat.le_of_ble_eq_true rfl) ?_
  refine W.eq (g2 := F0 m 4 ls []) rfl ?_
  refine lv_aload_n hx hb dX10_init_4 rfl (lv_at hl 0 rfl) ?_
  refine lv_iconst (v := (-1)) hx hb dX10_init_5 (by decide) ?_
  refine va_put (D := rD g) (ci := 9) (v := .int (-1)) (ty := .int) (C := RX10) (T := TX10) (N := 18) hx hb hts inX10 tyX10 tyX10_ok nmX10 hown hR.K hR.P hR.D hR.sS p0 (hR.at49 hT_p0) rfl 16 (by decide) (hts _ kw_47) (fun _ h9 => h9) rfl (by decide +kernel) rfl rfl (Nat.le_of_ble_eq_true rfl) dX10_init_6 (fun H locs hP hD hS => ?_)
  have hTk9 : qT S p0 = 49 := hT_p0
  have hR : RepC g ad A s (wI S p0 16 (-1 : Int32)) H locs := hR.pI49 hT_p0 FX10_s16 (fun q9 => absurd q9 (by decide)) hP hD hS
  obtain ⟨S1, eS1⟩ : ∃ z, z = wI S p0 16 (-1 : Int32) := ⟨_, rfl⟩
  rw [← eS1] at hR
  replace h := h S1 eS1 hTk9 hR.w
  have hT_p0 : qT S1 p0 = 49 := (congrArg (fun z => qT z p0) eS1).trans hT_p0
  have hT_p1 : qT S1 p1 = 105 := (congrArg (fun z => qT z p1) eS1).trans hT_p1
  have hsh : shx S S1 := by rw [eS1]; exact hsh
  have hlg : lgC S S1 (0) (0) := by rw [eS1]; exact hlg
  refine lv_aload_n hx hb dX10_init_9 rfl (lv_at hl 0 rfl) ?_
  refine lv_iconst (v := (-1)) hx hb dX10_init_10 (by decide) ?_
  refine va_put (D := rD g) (ci := 9) (v := .int (-1)) (ty := .int) (C := RX10) (T := TX10) (N := 18) hx hb hts inX10 tyX10 tyX10_ok nmX10 hown hR.K hR.P hR.D hR.sS p0 (hR.at49 hT_p0) rfl 17 (by decide) (hts _ kw_48) (fun _ h9 => h9) rfl (by decide +kernel) rfl rfl (Nat.le_of_ble_eq_true rfl) dX10_init_11 (fun H locs hP hD hS => ?_)
  have hTk9 : qT S1 p0 = 49 := hT_p0
  have hR : RepC g ad A s (wI S1 p0 17 (-1 : Int32)) H locs := hR.pI49 hT_p0 FX10_s17 (fun q9 => absurd q9 (by decide)) hP hD hS
  obtain ⟨S2, eS2⟩ : ∃ z, z = wI S1 p0 17 (-1 : Int32) := ⟨_, rfl⟩
  rw [← eS2] at hR
  replace h := h S2 eS2 hTk9 hR.w
  have hT_p0 : qT S2 p0 = 49 := (congrArg (fun z => qT z p0) eS2).trans hT_p0
  have hT_p1 : qT S2 p1 = 105 := (congrArg (fun z => qT z p1) eS2).trans hT_p1
  have hsh : shx S S2 := by rw [eS2]; exact hsh
  have hlg : lgC S S2 (0) (0) := by rw [eS2]; exact hlg
  refine lv_aload_n hx hb dX10_init_14 rfl (lv_at hl 0 rfl) ?_
  refine lv_aload_n hx hb dX10_init_15 rfl (lv_at hl 1 rfl) ?_
  refine va_putF (D := rD g) (ci := 9) (v := .ref (ad p1)) (ty := (.array .byte)) (C := RX10) (T := TX10) (N := 18) hx hb hts inX10 tyX10 tyX10_ok nmX10 hown hR.K hR.P hR.D hR.sS p0 (hR.at49 hT_p0) rfl 0 (by decide) (hts _ kw_49) (fun _ h9 => h9) rfl hin9 rfl (by decide +kernel) rfl rfl (Nat.le_of_ble_eq_true rfl) dX10_init_16 (fun H locs hP hD hS => ?_)
  obtain ⟨hv3, h⟩ := h
  have hw9 : wfC (wR S2 p0 0 (some p1)) := hR.w.put (fun b q9 => by cases q9; exact (hT_p1).trans (by rw [hT_p0]; rfl)) (hR.w.noown hT_p0 (by decide) (by decide)) (by rw [hT_p0]; decide) (fun b q9 _ => by cases q9; rw [hT_p0]; exact hv3) (fun _ => Option.some_ne_none _)
  have hTk9 : qT S2 p0 = 49 := hT_p0
  have hR : RepC g ad A s (wR S2 p0 0 (some p1)) H locs := hR.pR49 hT_p0 FX10_s0 hw9 hP hD hS
  obtain ⟨S4, eS4⟩ : ∃ z, z = wR S2 p0 0 (some p1) := ⟨_, rfl⟩
  rw [← eS4] at hR
  replace h := h S4 eS4 hTk9 hR.w
  have hT_p0 : qT S4 p0 = 49 := (congrArg (fun z => qT z p0) eS4).trans hT_p0
  have hT_p1 : qT S4 p1 = 105 := (congrArg (fun z => qT z p1) eS4).trans hT_p1
  have hsh : shx S S4 := by rw [eS4]; exact hsh
  have hlg : lgC S S4 (0) (0) := by rw [eS4]; exact hlg
  refine lv_aload_n hx hb dX10_init_19 rfl (lv_at hl 0 rfl) ?_
  refine lv_iload_n hx hb dX10_init_20 rfl (lv_at hl 2 rfl) ?_
  refine va_put (D := rD g) (ci := 9) (v := .int x2) (ty := .int) (C := RX10) (T := TX10) (N := 18) hx hb hts inX10 tyX10 tyX10_ok nmX10 hown hR.K hR.P hR.D hR.sS p0 (hR.at49 hT_p0) rfl 4 (by decide) (hts _ kw_50) (fun _ h9 => h9) rfl (by decide +kernel) rfl rfl (Nat.le_of_ble_eq_true rfl) dX10_init_21 (fun H locs hP hD hS => ?_)
  have hTk9 : qT S4 p0 = 49 := hT_p0
  have hR : RepC g ad A s (wI S4 p0 4 x2) H locs := hR.pI49 hT_p0 FX10_s4 (fun q9 => absurd q9 (by decide)) hP hD hS
  obtain ⟨S5, eS5⟩ : ∃ z, z = wI S4 p0 4 x2 := ⟨_, rfl⟩
  rw [← eS5] at hR
  replace h := h S5 eS5 hTk9 hR.w
  have hT_p0 : qT S5 p0 = 49 := (congrArg (fun z => qT z p0) eS5).trans hT_p0
  have hT_p1 : qT S5 p1 = 105 := (congrArg (fun z => qT z p1) eS5).trans hT_p1
  have hsh : shx S S5 := by rw [eS5]; exact hsh
  have hlg : lgC S S5 (0) (0) := by rw [eS5]; exact hlg
  refine lv_aload_n hx hb dX10_init_24 rfl (lv_at hl 0 rfl) ?_
  refine lv_iload_n hx hb dX10_init_25 rfl (lv_at hl 2 rfl) ?_
  obtain ⟨hv6, h⟩ := h
  have e9 : KCC = 300000 := rfl
  have e8 : KSC = 3553400 := rfl
  have e7 : TXB = 10000000 := rfl
  have hTX : qn S5 < TXB := by have := hv6.2.1; omega
  refine va_newa (atype := .int) (ty := .int) (a0 := (x2.toInt.toNat, .inl (fun _ => 0))) (N' := x2.toInt.toNat) hx hb (hts (.arrayClass .int) kw_51) rfl hR.K hR.P hR.D hR.sS hA (fun _ => rfl) (fun q9 => absurd (k_lt (b := 0) rfl (by decide) q9) (Int.not_lt.mpr hv6.1)) rfl (by show x2.toInt.toNat * 4 ≤ 536870912; have := hv6.2.2; omega) (show 0 + 1 ≤ KCC - qn S from hlg.c1 hv6.2.1) (show 0 + x2.toInt.toNat ≤ KSC - qu S from hlg.s1 hv6.2.2) dX10_init_26 (fun q7 cA9 H hK9 hP hD hS => ?_)
  obtain rfl := cls_new3 hR.K hK9 (k := 1) rfl (fun _ h => by cases h)
  have hw8 := hR.w
  have hR := hR.new (t := 231) (n := x2.toInt.toNat) (k := x2.toInt.toNat) hTX (by decide) (by have := hv6.2.2; omega) (wN_CI (by decide)) hP hD hS
  have hk8 : adk ad (adx ad (qn S5) q7) S5 := adk.rf.new (Nat.le_refl _) hTX
  have hak := hak.new (q := q7) hlg.2.2.1 hTX
  have hE := hE.ad hk8
  have hlg : lgC S (wN S5 231 x2.toInt.toNat x2.toInt.toNat) (0 + 1) (0 + x2.toInt.toNat) := hlg.new (t := 231) (n := x2.toInt.toNat) ⟨hv6.2.1, hv6.2.2⟩
  have hs8 : shx S5 (wN S5 231 x2.toInt.toNat x2.toInt.toNat) := shx.newC (t := 231) (n := x2.toInt.toNat) (k := x2.toInt.toNat) shx.rf hw8 hTX
  obtain ⟨am8, eam8⟩ : ∃ z, z = adx ad (qn S5) q7 := ⟨_, rfl⟩
  have eq_q7 : am8 (qn S5) = q7 := by rw [eam8]; exact if_pos rfl
  rw [← eam8] at hR hk8 hak hE
  obtain ⟨S9, eS9⟩ : ∃ z, z = wN S5 231 x2.toInt.toNat x2.toInt.toNat := ⟨_, rfl⟩
  rw [← eS9] at hR hlg hs8
  replace h := h S9 eS9 hR.w
  have hsh := hsh.tr hs8
  have hT_b10 : qT S9 (qn S5) = 231 := by rw [eS9]; exact if_pos rfl
  have ea_0 : am8 p0 = ad p0 := hk8 _ (hw8.hd hT_p0 (by decide) (by decide))
  have ea_1 : am8 p1 = ad p1 := hk8 _ (hw8.hd hT_p1 (by decide) (by decide))
  have hT_p0 := hs8.T hT_p0 (by decide)
  have hT_p1 := hs8.T hT_p1 (by decide)
  have hl : lv_has ls 4 [(0, .ref (am8 p0)), (1, .ref (am8 p1)), (2, .int x2), (3, .int x3)] := by simp only [ea_0, ea_1]; exact hl
  refine W.eq (g2 := F0 m 28 ls [.ref (am8 (qn S5)), .ref (am8 p0)]) (by simp only [ea_0, ea_1, eq_q7]) ?_
  clear hw8 hk8 hs8 hP hD hS e9 e8 e7 hTX
  refine va_putF (D := rD g) (ci := 9) (v := .ref (am8 (qn S5))) (ty := (.array .int)) (C := RX10) (T := TX10) (N := 18) hx hb hts inX10 tyX10 tyX10_ok nmX10 hown hR.K hR.P hR.D hR.sS p0 (hR.at49 hT_p0) rfl 5 (by decide) (hts _ kw_52) (fun _ h9 => h9) rfl hin9 rfl (by decide +kernel) rfl rfl (Nat.le_of_ble_eq_true rfl) dX10_init_28 (fun H locs hP hD hS => ?_)
  obtain ⟨hv11, h⟩ := h
  have hw9 : wfC (wR S9 p0 5 (some (qn S5))) := hR.w.put (fun b q9 => by cases q9; exact (hT_b10).trans (by rw [hT_p0]; rfl)) (hR.w.noown hT_p0 (by decide) (by decide)) (by rw [hT_p0]; decide) (fun b q9 _ => by cases q9; rw [hT_p0]; exact hv11) (fun _ => Option.some_ne_none _)
  have hTk9 : qT S9 p0 = 49 := hT_p0
  have hR : RepC g am8 A s (wR S9 p0 5 (some (qn S5))) H locs := hR.pR49 hT_p0 FX10_s5 hw9 hP hD hS
  obtain ⟨S12, eS12⟩ : ∃ z, z = wR S9 p0 5 (some (qn S5)) := ⟨_, rfl⟩
  rw [← eS12] at hR
  replace h := h S12 eS12 hTk9 hR.w
  have hT_p0 : qT S12 p0 = 49 := (congrArg (fun z => qT z p0) eS12).trans hT_p0
  have hT_p1 : qT S12 p1 = 105 := (congrArg (fun z => qT z p1) eS12).trans hT_p1
  have hsh : shx S S12 := by rw [eS12]; exact hsh
  have hlg : lgC S S12 (0 + 1) (0 + x2.toInt.toNat) := by rw [eS12]; exact hlg
  refine lv_aload_n hx hb dX10_init_31 rfl (lv_at hl 0 rfl) ?_
  refine lv_iload_n hx hb dX10_init_32 rfl (lv_at hl 2 rfl) ?_
  obtain ⟨hv13, h⟩ := h
  have e9 : KCC = 300000 := rfl
  have e8 : KSC = 3553400 := rfl
  have e7 : TXB = 10000000 := rfl
  have hTX : qn S12 < TXB := by have := hv13.2.1; omega
  refine va_newa (atype := .int) (ty := .int) (a0 := (x2.toInt.toNat, .inl (fun _ => 0))) (N' := x2.toInt.toNat) hx hb (hts (.arrayClass .int) kw_51) rfl hR.K hR.P hR.D hR.sS hA (fun _ => rfl) (fun q9 => absurd (k_lt (b := 0) rfl (by decide) q9) (Int.not_lt.mpr hv13.1)) rfl (by show x2.toInt.toNat * 4 ≤ 536870912; have := hv13.2.2; omega) (show 0 + 1 + 1 ≤ KCC - qn S from hlg.c1 hv13.2.1) (show 0 + x2.toInt.toNat + x2.toInt.toNat ≤ KSC - qu S from hlg.s1 hv13.2.2) dX10_init_33 (fun q14 cA9 H hK9 hP hD hS => ?_)
  obtain rfl := cls_new3 hR.K hK9 (k := 1) rfl (fun _ h => by cases h)
  have hw8 := hR.w
  have hR := hR.new (t := 232) (n := x2.toInt.toNat) (k := x2.toInt.toNat) hTX (by decide) (by have := hv13.2.2; omega) (wN_CI (by decide)) hP hD hS
  have hk8 : adk am8 (adx am8 (qn S12) q14) S12 := adk.rf.new (Nat.le_refl _) hTX
  have hak := hak.new (q := q14) hlg.2.2.1 hTX
  have hE := hE.ad hk8
  have hlg : lgC S (wN S12 232 x2.toInt.toNat x2.toInt.toNat) (0 + 1 + 1) (0 + x2.toInt.toNat + x2.toInt.toNat) := hlg.new (t := 232) (n := x2.toInt.toNat) ⟨hv13.2.1, hv13.2.2⟩
  have hs8 : shx S12 (wN S12 232 x2.toInt.toNat x2.toInt.toNat) := shx.newC (t := 232) (n := x2.toInt.toNat) (k := x2.toInt.toNat) shx.rf hw8 hTX
  obtain ⟨am15, eam15⟩ : ∃ z, z = adx am8 (qn S12) q14 := ⟨_, rfl⟩
  have eq_q14 : am15 (qn S12) = q14 := by rw [eam15]; exact if_pos rfl
  rw [← eam15] at hR hk8 hak hE
  obtain ⟨S16, eS16⟩ : ∃ z, z = wN S12 232 x2.toInt.toNat x2.toInt.toNat := ⟨_, rfl⟩
  rw [← eS16] at hR hlg hs8
  replace h := h S16 eS16 hR.w
  have hsh := hsh.tr hs8
  have hT_b17 : qT S16 (qn S12) = 232 := by rw [eS16]; exact if_pos rfl
  have ea_0 : am15 p0 = am8 p0 := hk8 _ (hw8.hd hT_p0 (by decide) (by decide))
  have ea_1 : am15 p1 = am8 p1 := hk8 _ (hw8.hd hT_p1 (by decide) (by decide))
  have hT_p0 := hs8.T hT_p0 (by decide)
  have hT_p1 := hs8.T hT_p1 (by decide)
  have hl : lv_has ls 4 [(0, .ref (am15 p0)), (1, .ref (am15 p1)), (2, .int x2), (3, .int x3)] := by simp only [ea_0, ea_1]; exact hl
  refine W.eq (g2 := F0 m 35 ls [.ref (am15 (qn S12)), .ref (am15 p0)]) (by simp only [ea_0, ea_1, eq_q14]) ?_
  clear hw8 hk8 hs8 hP hD hS e9 e8 e7 hTX
  refine va_putF (D := rD g) (ci := 9) (v := .ref (am15 (qn S12))) (ty := (.array .int)) (C := RX10) (T := TX10) (N := 18) hx hb hts inX10 tyX10 tyX10_ok nmX10 hown hR.K hR.P hR.D hR.sS p0 (hR.at49 hT_p0) rfl 6 (by decide) (hts _ kw_53) (fun _ h9 => h9) rfl hin9 rfl (by decide +kernel) rfl rfl (Nat.le_of_ble_eq_true rfl) dX10_init_35 (fun H locs hP hD hS => ?_)
  obtain ⟨hv18, h⟩ := h
  have hw9 : wfC (wR S16 p0 6 (some (qn S12))) := hR.w.put (fun b q9 => by cases q9; exact (hT_b17).trans (by rw [hT_p0]; rfl)) (hR.w.noown hT_p0 (by decide) (by decide)) (by rw [hT_p0]; decide) (fun b q9 _ => by cases q9; rw [hT_p0]; exact hv18) (fun _ => Option.some_ne_none _)
  have hTk9 : qT S16 p0 = 49 := hT_p0
  have hR : RepC g am15 A s (wR S16 p0 6 (some (qn S12))) H locs := hR.pR49 hT_p0 FX10_s6 hw9 hP hD hS
  obtain ⟨S19, eS19⟩ : ∃ z, z = wR S16 p0 6 (some (qn S12)) := ⟨_, rfl⟩
  rw [← eS19] at hR
  replace h := h S19 eS19 hTk9 hR.w
  have hT_p0 : qT S19 p0 = 49 := (congrArg (fun z => qT z p0) eS19).trans hT_p0
  have hT_p1 : qT S19 p1 = 105 := (congrArg (fun z => qT z p1) eS19).trans hT_p1
  have hsh : shx S S19 := by rw [eS19]; exact hsh
  have hlg : lgC S S19 (0 + 1 + 1) (0 + x2.toInt.toNat + x2.toInt.toNat) := by rw [eS19]; exact hlg
  refine lv_aload_n hx hb dX10_init_38 rfl (lv_at hl 0 rfl) ?_
  refine lv_iload_n hx hb dX10_init_39 rfl (lv_at hl 2 rfl) ?_
  obtain ⟨hv20, h⟩ := h
  have e9 : KCC = 300000 := rfl
  have e8 : KSC = 3553400 := rfl
  have e7 : TXB = 10000000 := rfl
  have hTX : qn S19 < TXB := by have := hv20.2.1; omega
  refine va_newa (atype := .int) (ty := .int) (a0 := (x2.toInt.toNat, .inl (fun _ => 0))) (N' := x2.toInt.toNat) hx hb (hts (.arrayClass .int) kw_51) rfl hR.K hR.P hR.D hR.sS hA (fun _ => rfl) (fun q9 => absurd (k_lt (b := 0) rfl (by decide) q9) (Int.not_lt.mpr hv20.1)) rfl (by show x2.toInt.toNat * 4 ≤ 536870912; have := hv20.2.2; omega) (show 0 + 1 + 1 + 1 ≤ KCC - qn S from hlg.c1 hv20.2.1) (show 0 + x2.toInt.toNat + x2.toInt.toNat + x2.toInt.toNat ≤ KSC - qu S from hlg.s1 hv20.2.2) dX10_init_40 (fun q21 cA9 H hK9 hP hD hS => ?_)
  obtain rfl := cls_new3 hR.K hK9 (k := 1) rfl (fun _ h => by cases h)
  have hw8 := hR.w
  have hR := hR.new (t := 233) (n := x2.toInt.toNat) (k := x2.toInt.toNat) hTX (by decide) (by have := hv20.2.2; omega) (wN_CI (by decide)) hP hD hS
  have hk8 : adk am15 (adx am15 (qn S19) q21) S19 := adk.rf.new (Nat.le_refl _) hTX
  have hak := hak.new (q := q21) hlg.2.2.1 hTX
  have hE := hE.ad hk8
  have hlg : lgC S (wN S19 233 x2.toInt.toNat x2.toInt.toNat) (0 + 1 + 1 + 1) (0 + x2.toInt.toNat + x2.toInt.toNat + x2.toInt.toNat) := hlg.new (t := 233) (n := x2.toInt.toNat) ⟨hv20.2.1, hv20.2.2⟩
  have hs8 : shx S19 (wN S19 233 x2.toInt.toNat x2.toInt.toNat) := shx.newC (t := 233) (n := x2.toInt.toNat) (k := x2.toInt.toNat) shx.rf hw8 hTX
  obtain ⟨am22, eam22⟩ : ∃ z, z = adx am15 (qn S19) q21 := ⟨_, rfl⟩
  have eq_q21 : am22 (qn S19) = q21 := by rw [eam22]; exact if_pos rfl
  rw [← eam22] at hR hk8 hak hE
  obtain ⟨S23, eS23⟩ : ∃ z, z = wN S19 233 x2.toInt.toNat x2.toInt.toNat := ⟨_, rfl⟩
  rw [← eS23] at hR hlg hs8
  replace h := h S23 eS23 hR.w
  have hsh := hsh.tr hs8
  have hT_b24 : qT S23 (qn S19) = 233 := by rw [eS23]; exact if_pos rfl
  have ea_0 : am22 p0 = am15 p0 := hk8 _ (hw8.hd hT_p0 (by decide) (by decide))
  have ea_1 : am22 p1 = am15 p1 := hk8 _ (hw8.hd hT_p1 (by decide) (by decide))
  have hT_p0 := hs8.T hT_p0 (by decide)
  have hT_p1 := hs8.T hT_p1 (by decide)
  have hl : lv_has ls 4 [(0, .ref (am22 p0)), (1, .ref (am22 p1)), (2, .int x2), (3, .int x3)] := by simp only [ea_0, ea_1]; exact hl
  refine W.eq (g2 := F0 m 42 ls [.ref (am22 (qn S19)), .ref (am22 p0)]) (by simp only [ea_0, ea_1, eq_q21]) ?_
  clear hw8 hk8 hs8 hP hD hS e9 e8 e7 hTX
  refine va_putF (D := rD g) (ci := 9) (v := .ref (am22 (qn S19))) (ty := (.array .int)) (C := RX10) (T := TX10) (N := 18) hx hb hts inX10 tyX10 tyX10_ok nmX10 hown hR.K hR.P hR.D hR.sS p0 (hR.at49 hT_p0) rfl 7 (by decide) (hts _ kw_54) (fun _ h9 => h9) rfl hin9 rfl (by decide +kernel) rfl rfl (Nat.le_of_ble_eq_true rfl) dX10_init_42 (fun H locs hP hD hS => ?_)
  obtain ⟨hv25, h⟩ := h
  have hw9 : wfC (wR S23 p0 7 (some (qn S19))) := hR.w.put (fun b q9 => by cases q9; exact (hT_b24).trans (by rw [hT_p0]; rfl)) (hR.w.noown hT_p0 (by decide) (by decide)) (by rw [hT_p0]; decide) (fun b q9 _ => by cases q9; rw [hT_p0]; exact hv25) (fun _ => Option.some_ne_none _)
  have hTk9 : qT S23 p0 = 49 := hT_p0
  have hR : RepC g am22 A s (wR S23 p0 7 (some (qn S19))) H locs := hR.pR49 hT_p0 FX10_s7 hw9 hP hD hS
  obtain ⟨S26, eS26⟩ : ∃ z, z = wR S23 p0 7 (some (qn S19)) := ⟨_, rfl⟩
  rw [← eS26] at hR
  replace h := h S26 eS26 hTk9 hR.w
  have hT_p0 : qT S26 p0 = 49 := (congrArg (fun z => qT z p0) eS26).trans hT_p0
  have hT_p1 : qT S26 p1 = 105 := (congrArg (fun z => qT z p1) eS26).trans hT_p1
  have hsh : shx S S26 := by rw [eS26]; exact hsh
  have hlg : lgC S S26 (0 + 1 + 1 + 1) (0 + x2.toInt.toNat + x2.toInt.toNat + x2.toInt.toNat) := by rw [eS26]; exact hlg
  refine lv_aload_n hx hb dX10_init_45 rfl (lv_at hl 0 rfl) ?_
  refine lv_iload_n hx hb dX10_init_46 rfl (lv_at hl 3 rfl) ?_
  refine va_put (D := rD g) (ci := 9) (v := .int x3) (ty := .int) (C := RX10) (T := TX10) (N := 18) hx hb hts inX10 tyX10 tyX10_ok nmX10 hown hR.K hR.P hR.D hR.sS p0 (hR.at49 hT_p0) rfl 8 (by decide) (hts _ kw_55) (fun _ h9 => h9) rfl (by decide +kernel) rfl rfl (Nat.le_of_ble_eq_true rfl) dX10_init_47 (fun H locs hP hD hS => ?_)
  have hTk9 : qT S26 p0 = 49 := hT_p0
  have hR : RepC g am22 A s (wI S26 p0 8 x3) H locs := hR.pI49 hT_p0 FX10_s8 (fun q9 => absurd q9 (by decide)) hP hD hS
  obtain ⟨S27, eS27⟩ : ∃ z, z = wI S26 p0 8 x3 := ⟨_, rfl⟩
  rw [← eS27] at hR
  replace h := h S27 eS27 hTk9 hR.w
  have hT_p0 : qT S27 p0 = 49 := (congrArg (fun z => qT z p0) eS27).trans hT_p0
  have hT_p1 : qT S27 p1 = 105 := (congrArg (fun z => qT z p1) eS27).trans hT_p1
  have hsh : shx S S27 := by rw [eS27]; exact hsh
  have hlg : lgC S S27 (0 + 1 + 1 + 1) (0 + x2.toInt.toNat + x2.toInt.toNat + x2.toInt.toNat) := by rw [eS27]; exact hlg
  refine lv_aload_n hx hb dX10_init_50 rfl (lv_at hl 0 rfl) ?_
  refine lv_iload_n hx hb dX10_init_51 rfl (lv_at hl 3 rfl) ?_
  obtain ⟨hv28, h⟩ := h
  have e9 : KCC = 300000 := rfl
  have e8 : KSC = 3553400 := rfl
  have e7 : TXB = 10000000 := rfl
  have hTX : qn S27 < TXB := by have := hv28.2.1; omega
  refine va_newa (atype := .int) (ty := .int) (a0 := (x3.toInt.toNat, .inl (fun _ => 0))) (N' := x3.toInt.toNat) hx hb (hts (.arrayClass .int) kw_51) rfl hR.K hR.P hR.D hR.sS hA (fun _ => rfl) (fun q9 => absurd (k_lt (b := 0) rfl (by decide) q9) (Int.not_lt.mpr hv28.1)) rfl (by show x3.toInt.toNat * 4 ≤ 536870912; have := hv28.2.2; omega) (show 0 + 1 + 1 + 1 + 1 ≤ KCC - qn S from hlg.c1 hv28.2.1) (show 0 + x2.toInt.toNat + x2.toInt.toNat + x2.toInt.toNat + x3.toInt.toNat ≤ KSC - qu S from hlg.s1 hv28.2.2) dX10_init_52 (fun q29 cA9 H hK9 hP hD hS => ?_)
  obtain rfl := cls_new3 hR.K hK9 (k := 1) rfl (fun _ h => by cases h)
  have hw8 := hR.w
  have hR := hR.new (t := 234) (n := x3.toInt.toNat) (k := x3.toInt.toNat) hTX (by decide) (by have := hv28.2.2; omega) (wN_CI (by decide)) hP hD hS
  have hk8 : adk am22 (adx am22 (qn S27) q29) S27 := adk.rf.new (Nat.le_refl _) hTX
  have hak := hak.new (q := q29) hlg.2.2.1 hTX
  have hE := hE.ad hk8
  have hlg : lgC S (wN S27 234 x3.toInt.toNat x3.toInt.toNat) (0 + 1 + 1 + 1 + 1) (0 + x2.toInt.toNat + x2.toInt.toNat + x2.toInt.toNat + x3.toInt.toNat) := hlg.new (t := 234) (n := x3.toInt.toNat) ⟨hv28.2.1, hv28.2.2⟩
  have hs8 : shx S27 (wN S27 234 x3.toInt.toNat x3.toInt.toNat) := shx.newC (t := 234) (n := x3.toInt.toNat) (k := x3.toInt.toNat) shx.rf hw8 hTX
  obtain ⟨am30, eam30⟩ : ∃ z, z = adx am22 (qn S27) q29 := ⟨_, rfl⟩
  have eq_q29 : am30 (qn S27) = q29 := by rw [eam30]; exact if_pos rfl
  rw [← eam30] at hR hk8 hak hE
  obtain ⟨S31, eS31⟩ : ∃ z, z = wN S27 234 x3.toInt.toNat x3.toInt.toNat := ⟨_, rfl⟩
  rw [← eS31] at hR hlg hs8
  replace h := h S31 eS31 hR.w
  have hsh := hsh.tr hs8
  have hT_b32 : qT S31 (qn S27) = 234 := by rw [eS31]; exact if_pos rfl
  have ea_0 : am30 p0 = am22 p0 := hk8 _ (hw8.hd hT_p0 (by decide) (by decide))
  have ea_1 : am30 p1 = am22 p1 := hk8 _ (hw8.hd hT_p1 (by decide) (by decide))
  have hT_p0 := hs8.T hT_p0 (by decide)
  have hT_p1 := hs8.T hT_p1 (by decide)
  have hl : lv_has ls 4 [(0, .ref (am30 p0)), (1, .ref (am30 p1)), (2, .int x2), (3, .int x3)] := by simp only [ea_0, ea_1]; exact hl
  refine W.eq (g2 := F0 m 54 ls [.ref (am30 (qn S27)), .ref (am30 p0)]) (by simp only [ea_0, ea_1, eq_q29]) ?_
  clear hw8 hk8 hs8 hP hD hS e9 e8 e7 hTX
  refine va_putF (D := rD g) (ci := 9) (v := .ref (am30 (qn S27))) (ty := (.array .int)) (C := RX10) (T := TX10) (N := 18) hx hb hts inX10 tyX10 tyX10_ok nmX10 hown hR.K hR.P hR.D hR.sS p0 (hR.at49 hT_p0) rfl 9 (by decide) (hts _ kw_56) (fun _ h9 => h9) rfl hin9 rfl (by decide +kernel) rfl rfl (Nat.le_of_ble_eq_true rfl) dX10_init_54 (fun H locs hP hD hS => ?_)
  obtain ⟨hv33, h⟩ := h
  have hw9 : wfC (wR S31 p0 9 (some (qn S27))) := hR.w.put (fun b q9 => by cases q9; exact (hT_b32).trans (by rw [hT_p0]; rfl)) (hR.w.noown hT_p0 (by decide) (by decide)) (by rw [hT_p0]; decide) (fun b q9 _ => by cases q9; rw [hT_p0]; exact hv33) (fun _ => Option.some_ne_none _)
  have hTk9 : qT S31 p0 = 49 := hT_p0
  have hR : RepC g am30 A s (wR S31 p0 9 (some (qn S27))) H locs := hR.pR49 hT_p0 FX10_s9 hw9 hP hD hS
  obtain ⟨S34, eS34⟩ : ∃ z, z = wR S31 p0 9 (some (qn S27)) := ⟨_, rfl⟩
  rw [← eS34] at hR
  replace h := h S34 eS34 hTk9 hR.w
  have hT_p0 : qT S34 p0 = 49 := (congrArg (fun z => qT z p0) eS34).trans hT_p0
  have hT_p1 : qT S34 p1 = 105 := (congrArg (fun z => qT z p1) eS34).trans hT_p1
  have hsh : shx S S34 := by rw [eS34]; exact hsh
  have hlg : lgC S S34 (0 + 1 + 1 + 1 + 1) (0 + x2.toInt.toNat + x2.toInt.toNat + x2.toInt.toNat + x3.toInt.toNat) := by rw [eS34]; exact hlg
  refine lv_aload_n hx hb dX10_init_57 rfl (lv_at hl 0 rfl) ?_
  refine lv_iload_n hx hb dX10_init_58 rfl (lv_at hl 3 rfl) ?_
  obtain ⟨hv35, h⟩ := h
  have e9 : KCC = 300000 := rfl
  have e8 : KSC = 3553400 := rfl
  have e7 : TXB = 10000000 := rfl
  have hTX : qn S34 < TXB := by have := hv35.2.1; omega
  refine va_newa (atype := .int) (ty := .int) (a0 := (x3.toInt.toNat, .inl (fun _ => 0))) (N' := x3.toInt.toNat) hx hb (hts (.arrayClass .int) kw_51) rfl hR.K hR.P hR.D hR.sS hA (fun _ => rfl) (fun q9 => absurd (k_lt (b := 0) rfl (by decide) q9) (Int.not_lt.mpr hv35.1)) rfl (by show x3.toInt.toNat * 4 ≤ 536870912; have := hv35.2.2; omega) (show 0 + 1 + 1 + 1 + 1 + 1 ≤ KCC - qn S from hlg.c1 hv35.2.1) (show 0 + x2.toInt.toNat + x2.toInt.toNat + x2.toInt.toNat + x3.toInt.toNat + x3.toInt.toNat ≤ KSC - qu S from hlg.s1 hv35.2.2) dX10_init_59 (fun q36 cA9 H hK9 hP hD hS => ?_)
  obtain rfl := cls_new3 hR.K hK9 (k := 1) rfl (fun _ h => by cases h)
  have hw8 := hR.w
  have hR := hR.new (t := 235) (n := x3.toInt.toNat) (k := x3.toInt.toNat) hTX (by decide) (by have := hv35.2.2; omega) (wN_CI (by decide)) hP hD hS
  have hk8 : adk am30 (adx am30 (qn S34) q36) S34 := adk.rf.new (Nat.le_refl _) hTX
  have hak := hak.new (q := q36) hlg.2.2.1 hTX
  have hE := hE.ad hk8
  have hlg : lgC S (wN S34 235 x3.toInt.toNat x3.toInt.toNat) (0 + 1 + 1 + 1 + 1 + 1) (0 + x2.toInt.toNat + x2.toInt.toNat + x2.toInt.toNat + x3.toInt.toNat + x3.toInt.toNat) := hlg.new (t := 235) (n := x3.toInt.toNat) ⟨hv35.2.1, hv35.2.2⟩
  have hs8 : shx S34 (wN S34 235 x3.toInt.toNat x3.toInt.toNat) := shx.newC (t := 235) (n := x3.toInt.toNat) (k := x3.toInt.toNat) shx.rf hw8 hTX
  obtain ⟨am37, eam37⟩ : ∃ z, z = adx am30 (qn S34) q36 := ⟨_, rfl⟩
  have eq_q36 : am37 (qn S34) = q36 := by rw [eam37]; exact if_pos rfl
  rw [← eam37] at hR hk8 hak hE
  obtain ⟨S38, eS38⟩ : ∃ z, z = wN S34 235 x3.toInt.toNat x3.toInt.toNat := ⟨_, rfl⟩
  rw [← eS38] at hR hlg hs8
  replace h := h S38 eS38 hR.w
  have hsh := hsh.tr hs8
  have hT_b39 : qT S38 (qn S34) = 235 := by rw [eS38]; exact if_pos rfl
  have ea_0 : am37 p0 = am30 p0 := hk8 _ (hw8.hd hT_p0 (by decide) (by decide))
  have ea_1 : am37 p1 = am30 p1 := hk8 _ (hw8.hd hT_p1 (by decide) (by decide))
  have hT_p0 := hs8.T hT_p0 (by decide)
  have hT_p1 := hs8.T hT_p1 (by decide)
  have hl : lv_has ls 4 [(0, .ref (am37 p0)), (1, .ref (am37 p1)), (2, .int x2), (3, .int x3)] := by simp only [ea_0, ea_1]; exact hl
  refine W.eq (g2 := F0 m 61 ls [.ref (am37 (qn S34)), .ref (am37 p0)]) (by simp only [ea_0, ea_1, eq_q36]) ?_
  clear hw8 hk8 hs8 hP hD hS e9 e8 e7 hTX
  refine va_putF (D := rD g) (ci := 9) (v := .ref (am37 (qn S34))) (ty := (.array .int)) (C := RX10) (T := TX10) (N := 18) hx hb hts inX10 tyX10 tyX10_ok nmX10 hown hR.K hR.P hR.D hR.sS p0 (hR.at49 hT_p0) rfl 10 (by decide) (hts _ kw_57) (fun _ h9 => h9) rfl hin9 rfl (by decide +kernel) rfl rfl (Nat.le_of_ble_eq_true rfl) dX10_init_61 (fun H locs hP hD hS => ?_)
  obtain ⟨hv40, h⟩ := h
  have hw9 : wfC (wR S38 p0 10 (some (qn S34))) := hR.w.put (fun b q9 => by cases q9; exact (hT_b39).trans (by rw [hT_p0]; rfl)) (hR.w.noown hT_p0 (by decide) (by decide)) (by rw [hT_p0]; decide) (fun b q9 _ => by cases q9; rw [hT_p0]; exact hv40) (fun _ => Option.some_ne_none _)
  have hTk9 : qT S38 p0 = 49 := hT_p0
  have hR : RepC g am37 A s (wR S38 p0 10 (some (qn S34))) H locs := hR.pR49 hT_p0 FX10_s10 hw9 hP hD hS
  obtain ⟨S41, eS41⟩ : ∃ z, z = wR S38 p0 10 (some (qn S34)) := ⟨_, rfl⟩
  rw [← eS41] at hR
  replace h := h S41 eS41 hTk9 hR.w
  have hT_p0 : qT S41 p0 = 49 := (congrArg (fun z => qT z p0) eS41).trans hT_p0
  have hT_p1 : qT S41 p1 = 105 := (congrArg (fun z => qT z p1) eS41).trans hT_p1
  have hsh : shx S S41 := by rw [eS41]; exact hsh
  have hlg : lgC S S41 (0 + 1 + 1 + 1 + 1 + 1) (0 + x2.toInt.toNat + x2.toInt.toNat + x2.toInt.toNat + x3.toInt.toNat + x3.toInt.toNat) := by rw [eS41]; exact hlg
  refine lv_aload_n hx hb dX10_init_64 rfl (lv_at hl 0 rfl) ?_
  refine lv_iload_n hx hb dX10_init_65 rfl (lv_at hl 3 rfl) ?_
  obtain ⟨hv42, h⟩ := h
  have e9 : KCC = 300000 := rfl
  have e8 : KSC = 3553400 := rfl
  have e7 : TXB = 10000000 := rfl
  have hTX : qn S41 < TXB := by have := hv42.2.1; omega
  refine va_newa (atype := .int) (ty := .int) (a0 := (x3.toInt.toNat, .inl (fun _ => 0))) (N' := x3.toInt.toNat) hx hb (hts (.arrayClass .int) kw_51) rfl hR.K hR.P hR.D hR.sS hA (fun _ => rfl) (fun q9 => absurd (k_lt (b := 0) rfl (by decide) q9) (Int.not_lt.mpr hv42.1)) rfl (by show x3.toInt.toNat * 4 ≤ 536870912; have := hv42.2.2; omega) (show 0 + 1 + 1 + 1 + 1 + 1 + 1 ≤ KCC - qn S from hlg.c1 hv42.2.1) (show 0 + x2.toInt.toNat + x2.toInt.toNat + x2.toInt.toNat + x3.toInt.toNat + x3.toInt.toNat + x3.toInt.toNat ≤ KSC - qu S from hlg.s1 hv42.2.2) dX10_init_66 (fun q43 cA9 H hK9 hP hD hS => ?_)
  obtain rfl := cls_new3 hR.K hK9 (k := 1) rfl (fun _ h => by cases h)
  have hw8 := hR.w
  have hR := hR.new (t := 236) (n := x3.toInt.toNat) (k := x3.toInt.toNat) hTX (by decide) (by have := hv42.2.2; omega) (wN_CI (by decide)) hP hD hS
  have hk8 : adk am37 (adx am37 (qn S41) q43) S41 := adk.rf.new (Nat.le_refl _) hTX
  have hak := hak.new (q := q43) hlg.2.2.1 hTX
  have hE := hE.ad hk8
  have hlg : lgC S (wN S41 236 x3.toInt.toNat x3.toInt.toNat) (0 + 1 + 1 + 1 + 1 + 1 + 1) (0 + x2.toInt.toNat + x2.toInt.toNat + x2.toInt.toNat + x3.toInt.toNat + x3.toInt.toNat + x3.toInt.toNat) := hlg.new (t := 236) (n := x3.toInt.toNat) ⟨hv42.2.1, hv42.2.2⟩
  have hs8 : shx S41 (wN S41 236 x3.toInt.toNat x3.toInt.toNat) := shx.newC (t := 236) (n := x3.toInt.toNat) (k := x3.toInt.toNat) shx.rf hw8 hTX
  obtain ⟨am44, eam44⟩ : ∃ z, z = adx am37 (qn S41) q43 := ⟨_, rfl⟩
  have eq_q43 : am44 (qn S41) = q43 := by rw [eam44]; exact if_pos rfl
  rw [← eam44] at hR hk8 hak hE
  obtain ⟨S45, eS45⟩ : ∃ z, z = wN S41 236 x3.toInt.toNat x3.toInt.toNat := ⟨_, rfl⟩
  rw [← eS45] at hR hlg hs8
  replace h := h S45 eS45 hR.w
  have hsh := hsh.tr hs8
  have hT_b46 : qT S45 (qn S41) = 236 := by rw [eS45]; exact if_pos rfl
  have ea_0 : am44 p0 = am37 p0 := hk8 _ (hw8.hd hT_p0 (by decide) (by decide))
  have ea_1 : am44 p1 = am37 p1 := hk8 _ (hw8.hd hT_p1 (by decide) (by decide))
  have hT_p0 := hs8.T hT_p0 (by decide)
  have hT_p1 := hs8.T hT_p1 (by decide)
  have hl : lv_has ls 4 [(0, .ref (am44 p0)), (1, .ref (am44 p1)), (2, .int x2), (3, .int x3)] := by simp only [ea_0, ea_1]; exact hl
  refine W.eq (g2 := F0 m 68 ls [.ref (am44 (qn S41)), .ref (am44 p0)]) (by simp only [ea_0, ea_1, eq_q43]) ?_
  clear hw8 hk8 hs8 hP hD hS e9 e8 e7 hTX
  refine va_putF (D := rD g) (ci := 9) (v := .ref (am44 (qn S41))) (ty := (.array .int)) (C := RX10) (T := TX10) (N := 18) hx hb hts inX10 tyX10 tyX10_ok nmX10 hown hR.K hR.P hR.D hR.sS p0 (hR.at49 hT_p0) rfl 11 (by decide) (hts _ kw_58) (fun _ h9 => h9) rfl hin9 rfl (by decide +kernel) rfl rfl (Nat.le_of_ble_eq_true rfl) dX10_init_68 (fun H locs hP hD hS => ?_)
  obtain ⟨hv47, h⟩ := h
  have hw9 : wfC (wR S45 p0 11 (some (qn S41))) := hR.w.put (fun b q9 => by cases q9; exact (hT_b46).trans (by rw [hT_p0]; rfl)) (hR.w.noown hT_p0 (by decide) (by decide)) (by rw [hT_p0]; decide) (fun b q9 _ => by cases q9; rw [hT_p0]; exact hv47) (fun _ => Option.some_ne_none _)
  have hTk9 : qT S45 p0 = 49 := hT_p0
  have hR : RepC g am44 A s (wR S45 p0 11 (some (qn S41))) H locs := hR.pR49 hT_p0 FX10_s11 hw9 hP hD hS
  obtain ⟨S48, eS48⟩ : ∃ z, z = wR S45 p0 11 (some (qn S41)) := ⟨_, rfl⟩
  rw [← eS48] at hR
  replace h := h S48 eS48 hTk9 hR.w
  have hT_p0 : qT S48 p0 = 49 := (congrArg (fun z => qT z p0) eS48).trans hT_p0
  have hT_p1 : qT S48 p1 = 105 := (congrArg (fun z => qT z p1) eS48).trans hT_p1
  have hsh : shx S S48 := by rw [eS48]; exact hsh
  have hlg : lgC S S48 (0 + 1 + 1 + 1 + 1 + 1 + 1) (0 + x2.toInt.toNat + x2.toInt.toNat + x2.toInt.toNat + x3.toInt.toNat + x3.toInt.toNat + x3.toInt.toNat) := by rw [eS48]; exact hlg
  refine lv_aload_n hx hb dX10_init_71 rfl (lv_at hl 0 rfl) ?_
  refine lv_iload_n hx hb dX10_init_72 rfl (lv_at hl 3 rfl) ?_
  obtain ⟨hv49, h⟩ := h
  have e9 : KCC = 300000 := rfl
  have e8 : KSC = 3553400 := rfl
  have e7 : TXB = 10000000 := rfl
  have hTX : qn S48 < TXB := by have := hv49.2.1; omega
  refine va_newa (atype := .int) (ty := .int) (a0 := (x3.toInt.toNat, .inl (fun _ => 0))) (N' := x3.toInt.toNat) hx hb (hts (.arrayClass .int) kw_51) rfl hR.K hR.P hR.D hR.sS hA (fun _ => rfl) (fun q9 => absurd (k_lt (b := 0) rfl (by decide) q9) (Int.not_lt.mpr hv49.1)) rfl (by show x3.toInt.toNat * 4 ≤ 536870912; have := hv49.2.2; omega) (show 0 + 1 + 1 + 1 + 1 + 1 + 1 + 1 ≤ KCC - qn S from hlg.c1 hv49.2.1) (show 0 + x2.toInt.toNat + x2.toInt.toNat + x2.toInt.toNat + x3.toInt.toNat + x3.toInt.toNat + x3.toInt.toNat + x3.toInt.toNat ≤ KSC - qu S from hlg.s1 hv49.2.2) dX10_init_73 (fun q50 cA9 H hK9 hP hD hS => ?_)
  obtain rfl := cls_new3 hR.K hK9 (k := 1) rfl (fun _ h => by cases h)
  have hw8 := hR.w
  have hR := hR.new (t := 237) (n := x3.toInt.toNat) (k := x3.toInt.toNat) hTX (by decide) (by have := hv49.2.2; omega) (wN_CI (by decide)) hP hD hS
  have hk8 : adk am44 (adx am44 (qn S48) q50) S48 := adk.rf.new (Nat.le_refl _) hTX
  have hak := hak.new (q := q50) hlg.2.2.1 hTX
  have hE := hE.ad hk8
  have hlg : lgC S (wN S48 237 x3.toInt.toNat x3.toInt.toNat) (0 + 1 + 1 + 1 + 1 + 1 + 1 + 1) (0 + x2.toInt.toNat + x2.toInt.toNat + x2.toInt.toNat + x3.toInt.toNat + x3.toInt.toNat + x3.toInt.toNat + x3.toInt.toNat) := hlg.new (t := 237) (n := x3.toInt.toNat) ⟨hv49.2.1, hv49.2.2⟩
  have hs8 : shx S48 (wN S48 237 x3.toInt.toNat x3.toInt.toNat) := shx.newC (t := 237) (n := x3.toInt.toNat) (k := x3.toInt.toNat) shx.rf hw8 hTX
  obtain ⟨am51, eam51⟩ : ∃ z, z = adx am44 (qn S48) q50 := ⟨_, rfl⟩
  have eq_q50 : am51 (qn S48) = q50 := by rw [eam51]; exact if_pos rfl
  rw [← eam51] at hR hk8 hak hE
  obtain ⟨S52, eS52⟩ : ∃ z, z = wN S48 237 x3.toInt.toNat x3.toInt.toNat := ⟨_, rfl⟩
  rw [← eS52] at hR hlg hs8
  replace h := h S52 eS52 hR.w
  have hsh := hsh.tr hs8
  have hT_b53 : qT S52 (qn S48) = 237 := by rw [eS52]; exact if_pos rfl
  have ea_0 : am51 p0 = am44 p0 := hk8 _ (hw8.hd hT_p0 (by decide) (by decide))
  have ea_1 : am51 p1 = am44 p1 := hk8 _ (hw8.hd hT_p1 (by decide) (by decide))
  have hT_p0 := hs8.T hT_p0 (by decide)
  have hT_p1 := hs8.T hT_p1 (by decide)
  have hl : lv_has ls 4 [(0, .ref (am51 p0)), (1, .ref (am51 p1)), (2, .int x2), (3, .int x3)] := by simp only [ea_0, ea_1]; exact hl
  refine W.eq (g2 := F0 m 75 ls [.ref (am51 (qn S48)), .ref (am51 p0)]) (by simp only [ea_0, ea_1, eq_q50]) ?_
  clear hw8 hk8 hs8 hP hD hS e9 e8 e7 hTX
  refine va_putF (D := rD g) (ci := 9) (v := .ref (am51 (qn S48))) (ty := (.array .int)) (C := RX10) (T := TX10) (N := 18) hx hb hts inX10 tyX10 tyX10_ok nmX10 hown hR.K hR.P hR.D hR.sS p0 (hR.at49 hT_p0) rfl 12 (by decide) (hts _ kw_43) (fun _ h9 => h9) rfl hin9 rfl (by decide +kernel) rfl rfl (Nat.le_of_ble_eq_true rfl) dX10_init_75 (fun H locs hP hD hS => ?_)
  obtain ⟨hv54, h⟩ := h
  have hw9 : wfC (wR S52 p0 12 (some (qn S48))) := hR.w.put (fun b q9 => by cases q9; exact (hT_b53).trans (by rw [hT_p0]; rfl)) (hR.w.noown hT_p0 (by decide) (by decide)) (by rw [hT_p0]; decide) (fun b q9 _ => by cases q9; rw [hT_p0]; exact hv54) (fun _ => Option.some_ne_none _)
  have hTk9 : qT S52 p0 = 49 := hT_p0
  have hR : RepC g am51 A s (wR S52 p0 12 (some (qn S48))) H locs := hR.pR49 hT_p0 FX10_s12 hw9 hP hD hS
  obtain ⟨S55, eS55⟩ : ∃ z, z = wR S52 p0 12 (some (qn S48)) := ⟨_, rfl⟩
  rw [← eS55] at hR
  replace h := h S55 eS55 hTk9 hR.w
  have hT_p0 : qT S55 p0 = 49 := (congrArg (fun z => qT z p0) eS55).trans hT_p0
  have hT_p1 : qT S55 p1 = 105 := (congrArg (fun z => qT z p1) eS55).trans hT_p1
  have hsh : shx S S55 := by rw [eS55]; exact hsh
  have hlg : lgC S S55 (0 + 1 + 1 + 1 + 1 + 1 + 1 + 1) (0 + x2.toInt.toNat + x2.toInt.toNat + x2.toInt.toNat + x3.toInt.toNat + x3.toInt.toNat + x3.toInt.toNat + x3.toInt.toNat) := by rw [eS55]; exact hlg
  refine lv_aload_n hx hb dX10_init_78 rfl (lv_at hl 0 rfl) ?_
  refine lv_iload_n hx hb dX10_init_79 rfl (lv_at hl 3 rfl) ?_
  obtain ⟨hv56, h⟩ := h
  have e9 : KCC = 300000 := rfl
  have e8 : KSC = 3553400 := rfl
  have e7 : TXB = 10000000 := rfl
  have hTX : qn S55 < TXB := by have := hv56.2.1; omega
  refine va_newq (C := "CodeFoundry$Row") (N' := x3.toInt.toNat) hx hb hown (hts _ kw_59) (ao_of (by exact ao_CodeFoundry_Row) hex) hR.K hR.P hR.D hR.sS hA (fun q9 => absurd (k_lt (b := 0) rfl (by decide) q9) (Int.not_lt.mpr hv56.1)) rfl (by have := hv56.2.2; omega) (show 0 + 1 + 1 + 1 + 1 + 1 + 1 + 1 + 1 ≤ KCC - qn S from hlg.c1 hv56.2.1) (show 0 + x2.toInt.toNat + x2.toInt.toNat + x2.toInt.toNat + x3.toInt.toNat + x3.toInt.toNat + x3.toInt.toNat + x3.toInt.toNat + x3.toInt.toNat ≤ KSC - qu S from hlg.s1 hv56.2.2) dX10_init_80 (fun q57 cA9 H hK9 hP hD hS => ?_)
  obtain rfl := cls_newR3 hR.K hK9 (k := 5) rfl
  have hw8 := hR.w
  have hR := hR.new (t := 6) (n := x3.toInt.toNat) (k := x3.toInt.toNat) hTX (by decide) (by have := hv56.2.2; omega) wN_C6 hP hD hS
  have hk8 : adk am51 (adx am51 (qn S55) q57) S55 := adk.rf.new (Nat.le_refl _) hTX
  have hak := hak.new (q := q57) hlg.2.2.1 hTX
  have hE := hE.ad hk8
  have hlg : lgC S (wN S55 6 x3.toInt.toNat x3.toInt.toNat) (0 + 1 + 1 + 1 + 1 + 1 + 1 + 1 + 1) (0 + x2.toInt.toNat + x2.toInt.toNat + x2.toInt.toNat + x3.toInt.toNat + x3.toInt.toNat + x3.toInt.toNat + x3.toInt.toNat + x3.toInt.toNat) := hlg.new (t := 6) (n := x3.toInt.toNat) ⟨hv56.2.1, hv56.2.2⟩
  have hs8 : shx S55 (wN S55 6 x3.toInt.toNat x3.toInt.toNat) := shx.newC (t := 6) (n := x3.toInt.toNat) (k := x3.toInt.toNat) shx.rf hw8 hTX
  obtain ⟨am58, eam58⟩ : ∃ z, z = adx am51 (qn S55) q57 := ⟨_, rfl⟩
  have eq_q57 : am58 (qn S55) = q57 := by rw [eam58]; exact if_pos rfl
  rw [← eam58] at hR hk8 hak hE
  obtain ⟨S59, eS59⟩ : ∃ z, z = wN S55 6 x3.toInt.toNat x3.toInt.toNat := ⟨_, rfl⟩
  rw [← eS59] at hR hlg hs8
  replace h := h S59 eS59 hR.w
  have hsh := hsh.tr hs8
  have hT_b60 : qT S59 (qn S55) = 6 := by rw [eS59]; exact if_pos rfl
  have ea_0 : am58 p0 = am51 p0 := hk8 _ (hw8.hd hT_p0 (by decide) (by decide))
  have ea_1 : am58 p1 = am51 p1 := hk8 _ (hw8.hd hT_p1 (by decide) (by decide))
  have hT_p0 := hs8.T hT_p0 (by decide)
  have hT_p1 := hs8.T hT_p1 (by decide)
  have hl : lv_has ls 4 [(0, .ref (am58 p0)), (1, .ref (am58 p1)), (2, .int x2), (3, .int x3)] := by simp only [ea_0, ea_1]; exact hl
  refine W.eq (g2 := F0 m 83 ls [.ref (am58 (qn S55)), .ref (am58 p0)]) (by simp only [ea_0, ea_1, eq_q57]) ?_
  clear hw8 hk8 hs8 hP hD hS e9 e8 e7 hTX
  refine va_putF (D := rD g) (ci := 9) (v := .ref (am58 (qn S55))) (ty := (.array (.object "CodeFoundry$Row"))) (C := RX10) (T := TX10) (N := 18) hx hb hts inX10 tyX10 tyX10_ok nmX10 hown hR.K hR.P hR.D hR.sS p0 (hR.at49 hT_p0) rfl 13 (by decide) (hts _ kw_60) (fun _ h9 => h9) rfl hin9 rfl (by decide +kernel) rfl rfl (Nat.le_of_ble_eq_true rfl) dX10_init_83 (fun H locs hP hD hS => ?_)
  obtain ⟨hv61, h⟩ := h
  have hw9 : wfC (wR S59 p0 13 (some (qn S55))) := hR.w.put (fun b q9 => by cases q9; exact (hT_b60).trans (by rw [hT_p0]; rfl)) (hR.w.noown hT_p0 (by decide) (by decide)) (by rw [hT_p0]; decide) (fun b q9 _ => by cases q9; rw [hT_p0]; exact hv61) (fun _ => Option.some_ne_none _)
  have hTk9 : qT S59 p0 = 49 := hT_p0
  have hR : RepC g am58 A s (wR S59 p0 13 (some (qn S55))) H locs := hR.pR49 hT_p0 FX10_s13 hw9 hP hD hS
  obtain ⟨S62, eS62⟩ : ∃ z, z = wR S59 p0 13 (some (qn S55)) := ⟨_, rfl⟩
  rw [← eS62] at hR
  replace h := h S62 eS62 hTk9 hR.w
  have hT_p0 : qT S62 p0 = 49 := (congrArg (fun z => qT z p0) eS62).trans hT_p0
  have hT_p1 : qT S62 p1 = 105 := (congrArg (fun z => qT z p1) eS62).trans hT_p1
  have hsh : shx S S62 := by rw [eS62]; exact hsh
  have hlg : lgC S S62 (0 + 1 + 1 + 1 + 1 + 1 + 1 + 1 + 1) (0 + x2.toInt.toNat + x2.toInt.toNat + x2.toInt.toNat + x3.toInt.toNat + x3.toInt.toNat + x3.toInt.toNat + x3.toInt.toNat + x3.toInt.toNat) := by rw [eS62]; exact hlg
  refine W_led2 (fun hLd => ?_)
  refine W.widen (k := KCC - qn S) (n := KSC - qu S) hlg.c hlg.s ?_
  exact W.vret hx hb hr (fun t9 ht9 hW9 => ⟨⟨(S62, am58), rfl, ⟨h, hR.w, hsh, hak⟩, ⟨⟨by rw [ht9]; exact hR.P, hR.D⟩, _, _, by rw [ht9]; exact hLd, hlg⟩⟩, hR.sS.F ht9⟩) hR.sS.2.2 dX10_init_86
def w_X10_rowAt_J13 (Q : Option Nat → MS → Prop) (U13 : MS) : Prop := (wfC U13 → Q none U13)
def wX10_rowAt (S : MS) (p0 : Nat) (x1 : Int32) (Q : Option Nat → MS → Prop) : Prop := ((x1.toInt < 0 → w_X10_rowAt_J13 Q S) ∧ (¬ x1.toInt < 0 → ((qR S p0 13 = some (qO S p0 13)) ∧ ((x1.toInt < (qN S (qO S p0 13) : Int) → ((qR S p0 13 = some (qO S p0 13)) ∧ (((0 : Int) ≤ x1.toInt ∧ x1.toInt < (qN S (qO S p0 13) : Int)) ∧ (((qR S (qO S p0 13) x1.toInt.toNat) = none → Q none S) ∧ (¬ (qR S (qO S p0 13) x1.toInt.toNat) = none → Q (some (((qR S (qO S p0 13) x1.toInt.toNat)).getD 0)) S))))) ∧ (¬ x1.toInt < (qN S (qO S p0 13) : Int) → w_X10_rowAt_J13 Q S)))))
set_option maxHeartbeats 2000000 in
set_option maxRecDepth 100000 in
theorem rX10_rowAt (l : Launch) (g : Gr) (ad : Nat → Nat) (sz : Nat) (S : MS) (p0 : Nat) (x1 : Int32) (hw : wfC S) (hT_p0 : qT S p0 = 49) (Q : Option Nat → MS → Prop) (h : wX10_rowAt S p0 x1 Q) : Met l yX10_rowAt (wt yX10_rowAt cX10_rowAt 2 (some (.object "CodeFoundry$Row"))) ({ frames := 0, cells := 0, slots := 0, locals := 0 }) (va_Pc [.ref (ad p0), .int x1] (st_C g ad sz S)) (va_Qq (fun (r : Option Nat) (u : MS) => ∃ b : Option Nat, r = b.map ad ∧ Q b u ∧ wfC u ∧ shy S u ∧ ∀ z, b = some z → qT u z = 47) (fun (u : MS) (t : State) => qEC g ad (va_A (WdC g ad S) sz) u t) (va_A (WdC g ad S) sz)) 0 0 (va_A (WdC g ad S) sz) := by
  refine Met.ofW (cc := cX10_rowAt) (maxL := 2) (ret := (some (.object "CodeFoundry$Row"))) (by decide) rfl ?_
  intro p e s m args below meth c s₁ B hml hv
  obtain ⟨rfl, hsz, hP, hK, hD0, hex, hE⟩ := hv
  have hx := B.exec
  have hb := B.bytes
  have hr := B.returns
  have hts0 := atoms_spec (ws := wt yX10_rowAt cX10_rowAt 2 (some (.object "CodeFoundry$Row"))) B.pre
  have hts : ∀ w ∈ tb, w.before _ s = true := fun w h => hts0 w (List.mem_cons_of_mem _ h)
  have hown : s.vm.findClass RX10 = some m.cls := findClass_of_methodNamed B.named
  subst hsz
  have hD := hD0.self (sz := s.heap.size)
  generalize hAe : va_A (WdC g ad S) s.heap.size = A at hD hE ⊢
  have hA : ∀ q : Nat, s.heap.size ≤ q → A q := fun q h => by rw [← hAe]; exact Or.inr h
  have hR : RepC g ad A s S s.heap [] := ⟨hK, hP, hD, va_S.rf, hw⟩
  clear hK hP hD hD0
  have hl := lv_entry ([.ref (ad p0), .int x1]) (n := 2) (Nat.le_of_ble_eq_true rfl)
  rw [lg_entry_eq]
  generalize (lg_sl ([.ref (ad p0), .int x1]) ++ List.replicate (2 - (lg_sl ([.ref (ad p0), .int x1])).length) Slot.unset).toArray = ls at hl ⊢
  have hl : lv_has ls 2 [(0, .ref (ad p0)), (1, .int x1)] := hl
  have hsh : shy S S := shy.rf
  unfold wX10_rowAt at h
  refine lv_iload_n hx hb dX10_rowAt_0 rfl (lv_at hl 1 rfl) ?_
  have J_13 : ∀ (U13 : MS) (H : Heap) (locs : List Loc) (ls : Array Slot), w_X10_rowAt_J13 Q U13 → shy S U13 → RepC g ad A s U13 H locs → lv_has ls 2 [] → W p l e (headSpec (wt yX10_rowAt cX10_rowAt 2 (some (.object "CodeFoundry$Row"))) ({ frames := 0, cells := 0, slots := 0, locals := 0 })).room s m ([.ref (ad p0), .int x1] : List Value).toArray below meth c H locs 0 0 (MQ below (va_Qq (fun (r : Option Nat) (u : MS) => ∃ b : Option Nat, r = b.map ad ∧ Q b u ∧ wfC u ∧ shy S u ∧ ∀ z, b = some z → qT u z = 47) (fun (u : MS) (t : State) => qEC g ad A u t) A) ([.ref (ad p0), .int x1] : List Value).toArray s 0 0 A) (F0 m 13 ls []) := by
    intro U13 H locs ls h hsh hR hl
    unfold w_X10_rowAt_J13 at h
    replace h := h hR.w
    refine lv_null hx hb dX10_rowAt_13 ?_
    refine lv_goto (tgt := 23) hx hb dX10_rowAt_14 (by decide) ?_
    exact W.aret (v := .null) hx hb hr (Or.inl ⟨_, rfl⟩) (Or.inl rfl) (fun t9 ht9 hW9 => ⟨⟨none, U13, rfl, ⟨none, rfl, h, hR.w, hsh, fun z q9 => by cases q9⟩, ⟨by rw [ht9]; exact hR.P, hR.D⟩⟩, hR.sS.F ht9⟩) hR.sS.2.2 dX10_rowAt_23
  refine lv_if_lt (tgt := 13) hx hb dX10_rowAt_1 (by decide) (fun c1 => ?_) (fun c1 => ?_)
  · replace h := h.1 (k_lt rfl (by decide) c1)
    exact J_13 S _ _ ls h  hsh hR (lv_sub hl [] rfl)
  · replace h := h.2 (k_nlt rfl (by decide) c1)
    refine lv_iload_n hx hb dX10_rowAt_4 rfl (lv_at hl 1 rfl) ?_
    refine lv_aload_n hx hb dX10_rowAt_5 rfl (lv_at hl 0 rfl) ?_
    obtain ⟨hv3, h⟩ := h
    have hT_b2 : qT S (qO S p0 13) = 6 := hR.w.ref hv3 hT_p0
    refine va_get (D := rD g) (ci := 9) (v := .ref (ad (qO S p0 13))) (C := RX10) (T := TX10) (N := 18) hx hb hts inX10 hown hR.K hR.P p0 (hR.at49 hT_p0) rfl 13 (by decide) (hts _ kw_60) (fun _ h9 => h9) (congrArg (fun z => some (vf ad z)) hv3) dX10_rowAt_6 ?_
    refine va_alen (v := (Int32.ofNat (qN S (qO S p0 13)))) hx hb hR.K hR.P (qO S p0 13) 5 (hR.at6 hT_b2) rfl rfl dX10_rowAt_9 ?_
    have hln4 : (Int32.ofNat (qN S (qO S p0 13))).toInt = (qN S (qO S p0 13) : Int) := toI_len (hR.w.len9 (hT_b2) (by decide))
    refine lv_icmp_lt (tgt := 17) hx hb dX10_rowAt_10 (by decide) (fun c5 => ?_) (fun c5 => ?_)
    · replace h := h.1 (k_lt rfl hln4 c5)
      refine lv_aload_n hx hb dX10_rowAt_17 rfl (lv_at hl 0 rfl) ?_
      obtain ⟨hv7, h⟩ := h
      have hT_b6 : qT S (qO S p0 13) = 6 := hR.w.ref hv7 hT_p0
      refine va_get (D := rD g) (ci := 9) (v := .ref (ad (qO S p0 13))) (C := RX10) (T := TX10) (N := 18) hx hb hts inX10 hown hR.K hR.P p0 (hR.at49 hT_p0) rfl 13 (by decide) (hts _ kw_60) (fun _ h9 => h9) (congrArg (fun z => some (vf ad z)) hv7) dX10_rowAt_18 ?_
      refine lv_iload_n hx hb dX10_rowAt_21 rfl (lv_at hl 1 rfl) ?_
      obtain ⟨hv8, h⟩ := h
      refine va_aldq hx hb hR.K hR.P (qO S p0 13) 5 (hR.at6 hT_b6) rfl (k_ix (x := x1) (a := x1.toInt) rfl hv8) dX10_rowAt_22 ?_
      have hO_o9 : ∀ z, (qR S (qO S p0 13) x1.toInt.toNat) = some z → qT S z = 47 := fun z q => hR.w.ref q hT_b6
      rw [show va_rf (Option.map ad (qR S (qO S p0 13) (x1 : Int32).toNatClampNeg)) = vf ad (qR S (qO S p0 13) x1.toInt.toNat) from rfl]
      rcases hq_b10 : (qR S (qO S p0 13) x1.toInt.toNat) with _ | b10
      · skip
        replace h := h.1 (hq_b10)
        exact W.aret (v := .null) hx hb hr (Or.inl ⟨_, rfl⟩) (Or.inl rfl) (fun t9 ht9 hW9 => ⟨⟨none, S, rfl, ⟨none, rfl, h, hR.w, hsh, fun z q9 => by cases q9⟩, ⟨by rw [ht9]; exact hR.P, hR.D⟩⟩, hR.sS.F ht9⟩) hR.sS.2.2 dX10_rowAt_23
      · have hg_b10 : b10 = ((qR S (qO S p0 13) x1.toInt.toNat)).getD 0 := by rw [hq_b10]; rfl
        have hT_b10 : qT S (((qR S (qO S p0 13) x1.toInt.toNat)).getD 0) = 47 := hg_b10 ▸ hO_o9 _ hq_b10
        subst hg_b10
        replace h := h.2 (fun q9 => Option.some_ne_none _ (hq_b10.symm.trans q9))
        exact W.aret (v := .ref (ad (((qR S (qO S p0 13) x1.toInt.toNat)).getD 0))) hx hb hr (Or.inl ⟨_, rfl⟩) (Or.inr ⟨_, rfl⟩) (fun t9 ht9 hW9 => ⟨⟨some (ad (((qR S (qO S p0 13) x1.toInt.toNat)).getD 0)), S, rfl, ⟨some (((qR S (qO S p0 13) x1.toInt.toNat)).getD 0), rfl, h, hR.w, hsh, fun z q9 => by cases q9; exact hT_b10⟩, ⟨by rw [ht9]; exact hR.P, hR.D⟩⟩, hR.sS.F ht9⟩) hR.sS.2.2 dX10_rowAt_23
    · replace h := h.2 (k_nlt rfl hln4 c5)
      exact J_13 S _ _ ls h  hsh hR (lv_sub hl [] rfl)
def f_X10_kindOfField_J13 (S : MS) : Int32 := (2 : Int32)
def d_X10_kindOfField_J13 (S : MS) : Prop := True
def fX10_kindOfField (S : MS) (p0 : Nat) (x1 : Int32) : Int32 := (if x1.toInt < 0 then f_X10_kindOfField_J13 S else (if x1.toInt < (qN S (qO S p0 7) : Int) then (qI S (qO S p0 7) x1.toInt.toNat) else f_X10_kindOfField_J13 S))
def d_X10_kindOfField (S : MS) (p0 : Nat) (x1 : Int32) : Prop := (if x1.toInt < 0 then d_X10_kindOfField_J13 S else ((qR S p0 7 = some (qO S p0 7)) ∧ (if x1.toInt < (qN S (qO S p0 7) : Int) then ((qR S p0 7 = some (qO S p0 7)) ∧ (((0 : Int) ≤ x1.toInt ∧ x1.toInt < (qN S (qO S p0 7) : Int)) ∧ True)) else d_X10_kindOfField_J13 S)))
set_option maxHeartbeats 2000000 in
set_option maxRecDepth 100000 in
theorem rX10_kindOfField (l : Launch) (g : Gr) (ad : Nat → Nat) (sz : Nat) (S : MS) (p0 : Nat) (x1 : Int32) (hw : wfC S) (hT_p0 : qT S p0 = 49) (hd : d_X10_kindOfField S p0 x1) : Met l yX10_kindOfField (wt yX10_kindOfField cX10_kindOfField 2 (some .int)) ({ frames := 0, cells := 0, slots := 0, locals := 0 }) (va_Pc [.ref (ad p0), .int x1] (st_C g ad sz S)) (va_Qi (fun (r : Int32) (_ : Unit) => r = fX10_kindOfField S p0 x1) (fun (_ : Unit) (t : State) => qEC g ad (va_A (WdC g ad S) sz) S t) (va_A (WdC g ad S) sz)) 0 0 (va_A (WdC g ad S) sz) := by
  refine Met.ofW (cc := cX10_kindOfField) (maxL := 2) (ret := (some .int)) (by decide) rfl ?_
  intro p e s m args below meth c s₁ B hml hv
  obtain ⟨rfl, hsz, hP, hK, hD0, hex, hE⟩ := hv
  have hx := B.exec
  have hb := B.bytes
  have hr := B.returns
  have hts0 := atoms_spec (ws := wt yX10_kindOfField cX10_kindOfField 2 (some .int)) B.pre
  have hts : ∀ w ∈ tb, w.before _ s = true := fun w h => hts0 w (List.mem_cons_of_mem _ h)
  have hown : s.vm.findClass RX10 = some m.cls := findClass_of_methodNamed B.named
  subst hsz
  have hD := hD0.self (sz := s.heap.size)
  generalize hAe : va_A (WdC g ad S) s.heap.size = A at hD hE ⊢
  have hA : ∀ q : Nat, s.heap.size ≤ q → A q := fun q h => by rw [← hAe]; exact Or.inr h
  have hR : RepC g ad A s S s.heap [] := ⟨hK, hP, hD, va_S.rf, hw⟩
  clear hK hP hD hD0
  have hl := lv_entry ([.ref (ad p0), .int x1]) (n := 2) (Nat.le_of_ble_eq_true rfl)
  rw [lg_entry_eq]
  generalize (lg_sl ([.ref (ad p0), .int x1]) ++ List.replicate (2 - (lg_sl ([.ref (ad p0), .int x1])).length) Slot.unset).toArray = ls at hl ⊢
  have hl : lv_has ls 2 [(0, .ref (ad p0)), (1, .int x1)] := hl
  obtain ⟨r0, hf⟩ : ∃ r0, fX10_kindOfField S p0 x1 = r0 := ⟨_, rfl⟩
  have hf0 := hf
  unfold fX10_kindOfField at hf
  unfold d_X10_kindOfField at hd
  refine lv_iload_n hx hb dX10_kindOfField_0 rfl (lv_at hl 1 rfl) ?_
  have J_13 : ∀ (H : Heap) (locs : List Loc) (ls : Array Slot), d_X10_kindOfField_J13 S → f_X10_kindOfField_J13 S = r0 → RepC g ad A s S H locs → lv_has ls 2 [] → W p l e (headSpec (wt yX10_kindOfField cX10_kindOfField 2 (some .int)) ({ frames := 0, cells := 0, slots := 0, locals := 0 })).room s m ([.ref (ad p0), .int x1] : List Value).toArray below meth c H locs 0 0 (MQ below (va_Qi (fun (r : Int32) (_ : Unit) => r = fX10_kindOfField S p0 x1) (fun (_ : Unit) (t : State) => qEC g ad A S t) A) ([.ref (ad p0), .int x1] : List Value).toArray s 0 0 A) (F0 m 13 ls []) := by
    intro H locs ls hd hf hR hl
    unfold d_X10_kindOfField_J13 at hd
    unfold f_X10_kindOfField_J13 at hf
    refine lv_iconst (v := 2) hx hb dX10_kindOfField_13 (by decide) ?_
    refine lv_goto (tgt := 23) hx hb dX10_kindOfField_14 (by decide) ?_
    exact W.iret (v := 2) hx hb hr (fun t9 ht9 hW9 => ⟨⟨_, (), rfl, hf.trans hf0.symm, ⟨by rw [ht9]; exact hR.P, hR.D⟩⟩, hR.sS.F ht9⟩) hR.sS.2.2 dX10_kindOfField_23
  refine lv_if_lt (tgt := 13) hx hb dX10_kindOfField_1 (by decide) (fun c1 => ?_) (fun c1 => ?_)
  · rw [if_pos (k_lt rfl (by decide) c1)] at hf
    (try rw [if_pos (k_lt rfl (by decide) c1)] at hd)
    exact J_13 _ _ ls hd hf  hR (lv_sub hl [] rfl)
  · rw [if_neg (k_nlt rfl (by decide) c1)] at hf
    (try rw [if_neg (k_nlt rfl (by decide) c1)] at hd)
    refine lv_iload_n hx hb dX10_kindOfField_4 rfl (lv_at hl 1 rfl) ?_
    refine lv_aload_n hx hb dX10_kindOfField_5 rfl (lv_at hl 0 rfl) ?_
    obtain ⟨hv3, hd⟩ := hd
    have hT_b2 : qT S (qO S p0 7) = 233 := hR.w.ref hv3 hT_p0
    refine va_get (D := rD g) (ci := 9) (v := .ref (ad (qO S p0 7))) (C := RX10) (T := TX10) (N := 18) hx hb hts inX10 hown hR.K hR.P p0 (hR.at49 hT_p0) rfl 7 (by decide) (hts _ kw_54) (fun _ h9 => h9) (congrArg (fun z => some (vf ad z)) hv3) dX10_kindOfField_6 ?_
    refine va_alen (v := (Int32.ofNat (qN S (qO S p0 7)))) hx hb hR.K hR.P (qO S p0 7) 1 (hR.atI hT_b2 (by decide)) rfl rfl dX10_kindOfField_9 ?_
    have hln4 : (Int32.ofNat (qN S (qO S p0 7))).toInt = (qN S (qO S p0 7) : Int) := toI_len (hR.w.len9 (hT_b2) (by decide))
    refine lv_icmp_lt (tgt := 17) hx hb dX10_kindOfField_10 (by decide) (fun c5 => ?_) (fun c5 => ?_)
    · rw [if_pos (k_lt rfl hln4 c5)] at hf
      (try rw [if_pos (k_lt rfl hln4 c5)] at hd)
      refine lv_aload_n hx hb dX10_kindOfField_17 rfl (lv_at hl 0 rfl) ?_
      obtain ⟨hv7, hd⟩ := hd
      have hT_b6 : qT S (qO S p0 7) = 233 := hR.w.ref hv7 hT_p0
      refine va_get (D := rD g) (ci := 9) (v := .ref (ad (qO S p0 7))) (C := RX10) (T := TX10) (N := 18) hx hb hts inX10 hown hR.K hR.P p0 (hR.at49 hT_p0) rfl 7 (by decide) (hts _ kw_54) (fun _ h9 => h9) (congrArg (fun z => some (vf ad z)) hv7) dX10_kindOfField_18 ?_
      refine lv_iload_n hx hb dX10_kindOfField_21 rfl (lv_at hl 1 rfl) ?_
      obtain ⟨hv8, hd⟩ := hd
      refine va_iald hx hb hR.K hR.P (qO S p0 7) 1 (hR.atI hT_b6 (by decide)) rfl (k_ix (x := x1) (a := x1.toInt) rfl hv8) dX10_kindOfField_22 ?_
      refine lv_topi (fun z9 ez9 => ?_)
      obtain rfl : z9 = (qI S (qO S p0 7) x1.toInt.toNat) := ez9
      exact W.iret (v := (qI S (qO S p0 7) x1.toInt.toNat)) hx hb hr (fun t9 ht9 hW9 => ⟨⟨_, (), rfl, hf.trans hf0.symm, ⟨by rw [ht9]; exact hR.P, hR.D⟩⟩, hR.sS.F ht9⟩) hR.sS.2.2 dX10_kindOfField_23
    · rw [if_neg (k_nlt rfl hln4 c5)] at hf
      (try rw [if_neg (k_nlt rfl hln4 c5)] at hd)
      exact J_13 _ _ ls hd hf  hR (lv_sub hl [] rfl)
