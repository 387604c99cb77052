def f_X1_placeAt_J10 (S : MS) : Int32 := (0 : Int32)
def d_X1_placeAt_J10 (S : MS) : Prop := True
def fX1_placeAt (S : MS) (x1 : Int32) : Int32 := (if x1.toInt < 0 then f_X1_placeAt_J10 S else (if x1.toInt < 48 then (qI S 24 x1.toInt.toNat) else f_X1_placeAt_J10 S))
def d_X1_placeAt (S : MS) (x1 : Int32) : Prop := (if x1.toInt < 0 then d_X1_placeAt_J10 S else (if x1.toInt < 48 then (((0 : Int) ≤ x1.toInt ∧ x1.toInt < 48) ∧ True) else d_X1_placeAt_J10 S))
set_option maxHeartbeats 2000000 in
set_option maxRecDepth 100000 in
theorem rX1_placeAt (l : Launch) (g : Gr) (ad : Nat → Nat) (sz : Nat) (S : MS) (x1 : Int32) (hw : wfC S) (hd : d_X1_placeAt S x1) : Met l yX1_placeAt (wt yX1_placeAt cX1_placeAt 2 (some .int)) ({ frames := 0, cells := 0, slots := 0, locals := 0 }) (va_Pc [.ref (ad 16), .int x1] (st_C g ad sz S)) (va_Qi (fun (r : Int32) (_ : Unit) => r = fX1_placeAt S x1) (fun (_ : Unit) (t : State) => qEC g ad (va_A (WdC g ad S) sz) S t) (va_A (WdC g ad S) sz)) 0 0 (va_A (WdC g ad S) sz) := by
  refine Met.ofW (cc := cX1_placeAt) (maxL := 2) (ret := (some .int)) (by decide) rfl ?_
  intro p e s m args below meth c s₁ B hml hv
  obtain ⟨rfl, hsz, hP, hK, hD0, hex, hE⟩ := hv
  have hx := B.exec
  have hb := B.bytes
  have hr := B.returns
  have hts0 := atoms_spec (ws := wt yX1_placeAt cX1_placeAt 2 (some .int)) B.pre
  have hts : ∀ w ∈ tb, w.before _ s = true := fun w h => hts0 w (List.mem_cons_of_mem _ h)
  have hown : s.vm.findClass RX1 = some m.cls := findClass_of_methodNamed B.named
  subst hsz
  have hD := hD0.self (sz := s.heap.size)
  generalize hAe : va_A (WdC g ad S) s.heap.size = A at hD hE ⊢
  have hA : ∀ q : Nat, s.heap.size ≤ q → A q := fun q h => by rw [← hAe]; exact Or.inr h
  have hR : RepC g ad A s S s.heap [] := ⟨hK, hP, hD, va_S.rf, hw⟩
  clear hK hP hD hD0
  have hl := lv_entry ([.ref (ad 16), .int x1]) (n := 2) (Nat.le_of_ble_eq_true rfl)
  rw [lg_entry_eq]
  generalize (lg_sl ([.ref (ad 16), .int x1]) ++ List.replicate (2 - (lg_sl ([.ref (ad 16), .int x1])).length) Slot.unset).toArray = ls at hl ⊢
  have hl : lv_has ls 2 [(0, .ref (ad 16)), (1, .int x1)] := hl
  obtain ⟨r0, hf⟩ : ∃ r0, fX1_placeAt S x1 = r0 := ⟨_, rfl⟩
  have hf0 := hf
  unfold fX1_placeAt at hf
  unfold d_X1_placeAt at hd
  refine lv_iload_n hx hb dX1_placeAt_0 rfl (lv_at hl 1 rfl) ?_
  have J_10 : ∀ (H : Heap) (locs : List Loc) (ls : Array Slot), d_X1_placeAt_J10 S → f_X1_placeAt_J10 S = r0 → RepC g ad A s S H locs → lv_has ls 2 [] → W p l e (headSpec (wt yX1_placeAt cX1_placeAt 2 (some .int)) ({ frames := 0, cells := 0, slots := 0, locals := 0 })).room s m ([.ref (ad 16), .int x1] : List Value).toArray below meth c H locs 0 0 (MQ below (va_Qi (fun (r : Int32) (_ : Unit) => r = fX1_placeAt S x1) (fun (_ : Unit) (t : State) => qEC g ad A S t) A) ([.ref (ad 16), .int x1] : List Value).toArray s 0 0 A) (F0 m 10 ls []) := by
    intro H locs ls hd hf hR hl
    unfold d_X1_placeAt_J10 at hd
    unfold f_X1_placeAt_J10 at hf
    refine lv_iconst (v := 0) hx hb dX1_placeAt_10 (by decide) ?_
    refine lv_goto (tgt := 20) hx hb dX1_placeAt_11 (by decide) ?_
    exact W.iret (v := 0) hx hb hr (fun t9 ht9 hW9 => ⟨⟨_, (), rfl, hf.trans hf0.symm, ⟨by rw [ht9]; exact hR.P, hR.D⟩⟩, hR.sS.F ht9⟩) hR.sS.2.2 dX1_placeAt_20
  refine lv_if_lt (tgt := 10) hx hb dX1_placeAt_1 (by decide) (fun c1 => ?_) (fun c1 => ?_)
  · rw [if_pos (k_lt rfl (by decide) c1)] at hf
    (try rw [if_pos (k_lt rfl (by decide) c1)] at hd)
    exact J_10 _ _ ls hd hf  hR (lv_sub hl [] rfl)
  · rw [if_neg (k_nlt rfl (by decide) c1)] at hf
    (try rw [if_neg (k_nlt rfl (by decide) c1)] at hd)
    refine lv_iload_n hx hb dX1_placeAt_4 rfl (lv_at hl 1 rfl) ?_
    refine lv_bipush (v := 48) hx hb dX1_placeAt_5 (by decide) ?_
    refine lv_icmp_lt (tgt := 14) hx hb dX1_placeAt_7 (by decide) (fun c2 => ?_) (fun c2 => ?_)
    · rw [if_pos (k_lt rfl (by decide) c2)] at hf
      (try rw [if_pos (k_lt rfl (by decide) c2)] at hd)
      refine lv_aload_n hx hb dX1_placeAt_14 rfl (lv_at hl 0 rfl) ?_
      refine va_get (D := rD g) (ci := 1) (v := .ref (ad 24)) (C := RX1) (T := TX1) (N := 10) hx hb hts inX1 hown hR.K hR.P 16 (hR.at41 (hR.w.2.1 _ finC_27).2.1) rfl 4 (by decide) (hts _ kw_477) (fun _ h9 => h9) (congrArg (fun z => some (vf ad z)) (hR.w.2.1 _ finC_1).1) dX1_placeAt_15 ?_
      refine lv_iload_n hx hb dX1_placeAt_18 rfl (lv_at hl 1 rfl) ?_
      obtain ⟨hv3, hd⟩ := hd
      refine va_bald hx hb hR.K hR.P 24 0 (hR.atB (hR.w.2.1 _ finC_1).2.1 (by decide)) rfl (k_ixN (k_ix (n := 48) (x := x1) (a := x1.toInt) rfl hv3) (hR.w.2.1 _ finC_1).2.2) dX1_placeAt_19 ?_
      refine lv_topi (fun z4 ez4 => ?_)
      obtain rfl : z4 = (qI S 24 x1.toInt.toNat) := ez4
      exact W.iret (v := (qI S 24 x1.toInt.toNat)) hx hb hr (fun t9 ht9 hW9 => ⟨⟨_, (), rfl, hf.trans hf0.symm, ⟨by rw [ht9]; exact hR.P, hR.D⟩⟩, hR.sS.F ht9⟩) hR.sS.2.2 dX1_placeAt_20
    · rw [if_neg (k_nlt rfl (by decide) c2)] at hf
      (try rw [if_neg (k_nlt rfl (by decide) c2)] at hd)
      exact J_10 _ _ ls hd hf  hR (lv_sub hl [] rfl)
def fX1_lowerType (S : MS) (x0 : Int32) : Int32 := (if x0.toInt = 1 then (1 : Int32) else (if x0.toInt = 2 then (2 : Int32) else (if x0.toInt = 3 then (4 : Int32) else (if x0.toInt = 4 then (0 : Int32) else (if x0.toInt = 5 then (0 : Int32) else (if x0.toInt = 6 then (0 : Int32) else (if x0.toInt = 7 then (6 : Int32) else (0 : Int32))))))))
def d_X1_lowerType (S : MS) (x0 : Int32) : Prop := True
set_option maxHeartbeats 2000000 in
set_option maxRecDepth 100000 in
theorem rX1_lowerType (l : Launch) (g : Gr) (ad : Nat → Nat) (sz : Nat) (S : MS) (x0 : Int32) (hw : wfC S) (hd : d_X1_lowerType S x0) : Met l yX1_lowerType (wt yX1_lowerType cX1_lowerType 1 (some .int)) ({ frames := 0, cells := 0, slots := 0, locals := 0 }) (va_Pc [.int x0] (st_C g ad sz S)) (va_Qi (fun (r : Int32) (_ : Unit) => r = fX1_lowerType S x0) (fun (_ : Unit) (t : State) => qEC g ad (va_A (WdC g ad S) sz) S t) (va_A (WdC g ad S) sz)) 0 0 (va_A (WdC g ad S) sz) := by
  refine Met.ofW (cc := cX1_lowerType) (maxL := 1) (ret := (some .int)) (by decide) rfl ?_
  intro p e s m args below meth c s₁ B hml hv
  obtain ⟨rfl, hsz, hP, hK, hD0, hex, hE⟩ := hv
  have hx := B.exec
  have hb := B.bytes
  have hr := B.returns
  have hts0 := atoms_spec (ws := wt yX1_lowerType cX1_lowerType 1 (some .int)) B.pre
  have hts : ∀ w ∈ tb, w.before _ s = true := fun w h => hts0 w (List.mem_cons_of_mem _ h)
  have hown : s.vm.findClass RX1 = some m.cls := findClass_of_methodNamed B.named
  subst hsz
  have hD := hD0.self (sz := s.heap.size)
  generalize hAe : va_A (WdC g ad S) s.heap.size = A at hD hE ⊢
  have hA : ∀ q : Nat, s.heap.size ≤ q → A q := fun q h => by rw [← hAe]; exact Or.inr h
  have hR : RepC g ad A s S s.heap [] := ⟨hK, hP, hD, va_S.rf, hw⟩
  clear hK hP hD hD0
  have hl := lv_entry ([.int x0]) (n := 1) (Nat.le_of_ble_eq_true rfl)
  rw [lg_entry_eq]
  generalize (lg_sl ([.int x0]) ++ List.replicate (1 - (lg_sl ([.int x0])).length) Slot.unset).toArray = ls at hl ⊢
  have hl : lv_has ls 1 [(0, .int x0)] := hl
  obtain ⟨r0, hf⟩ : ∃ r0, fX1_lowerType S x0 = r0 := ⟨_, rfl⟩
  have hf0 := hf
  unfold fX1_lowerType at hf
  unfold d_X1_lowerType at hd
  refine lv_iload_n hx hb dX1_lowerType_0 rfl (lv_at hl 0 rfl) ?_
  by_cases c9_1 : x0.toInt = 1
  · refine lv_tableIn (off := 43) (tgt := 44) hx hb dX1_lowerType_1 (by rw [c9_1]; decide) (by rw [c9_1]; decide) (by rw [c9_1]; rfl) (by decide) ?_
    rw [if_pos (c9_1)] at hf
    (try rw [if_pos (c9_1)] at hd)
    refine lv_iconst (v := 1) hx hb dX1_lowerType_44 (by decide) ?_
    exact W.iret (v := 1) hx hb hr (fun t9 ht9 hW9 => ⟨⟨_, (), rfl, hf.trans hf0.symm, ⟨by rw [ht9]; exact hR.P, hR.D⟩⟩, hR.sS.F ht9⟩) hR.sS.2.2 dX1_lowerType_45
  rw [if_neg c9_1] at hf
  (try rw [if_neg c9_1] at hd)
  by_cases c9_2 : x0.toInt = 2
  · refine lv_tableIn (off := 45) (tgt := 46) hx hb dX1_lowerType_1 (by rw [c9_2]; decide) (by rw [c9_2]; decide) (by rw [c9_2]; rfl) (by decide) ?_
    rw [if_pos (c9_2)] at hf
    (try rw [if_pos (c9_2)] at hd)
    refine lv_iconst (v := 2) hx hb dX1_lowerType_46 (by decide) ?_
    exact W.iret (v := 2) hx hb hr (fun t9 ht9 hW9 => ⟨⟨_, (), rfl, hf.trans hf0.symm, ⟨by rw [ht9]; exact hR.P, hR.D⟩⟩, hR.sS.F ht9⟩) hR.sS.2.2 dX1_lowerType_47
  rw [if_neg c9_2] at hf
  (try rw [if_neg c9_2] at hd)
  by_cases c9_3 : x0.toInt = 3
  · refine lv_tableIn (off := 47) (tgt := 48) hx hb dX1_lowerType_1 (by rw [c9_3]; decide) (by rw [c9_3]; decide) (by rw [c9_3]; rfl) (by decide) ?_
    rw [if_pos (c9_3)] at hf
    (try rw [if_pos (c9_3)] at hd)
    refine lv_iconst (v := 4) hx hb dX1_lowerType_48 (by decide) ?_
    exact W.iret (v := 4) hx hb hr (fun t9 ht9 hW9 => ⟨⟨_, (), rfl, hf.trans hf0.symm, ⟨by rw [ht9]; exact hR.P, hR.D⟩⟩, hR.sS.F ht9⟩) hR.sS.2.2 dX1_lowerType_49
  rw [if_neg c9_3] at hf
  (try rw [if_neg c9_3] at hd)
  by_cases c9_4 : x0.toInt = 4
  · refine lv_tableIn (off := 52) (tgt := 53) hx hb dX1_lowerType_1 (by rw [c9_4]; decide) (by rw [c9_4]; decide) (by rw [c9_4]; rfl) (by decide) ?_
    rw [if_pos (c9_4)] at hf
    (try rw [if_pos (c9_4)] at hd)
    refine lv_iconst (v := 0) hx hb dX1_lowerType_53 (by decide) ?_
    exact W.iret (v := 0) hx hb hr (fun t9 ht9 hW9 => ⟨⟨_, (), rfl, hf.trans hf0.symm, ⟨by rw [ht9]; exact hR.P, hR.D⟩⟩, hR.sS.F ht9⟩) hR.sS.2.2 dX1_lowerType_54
  rw [if_neg c9_4] at hf
  (try rw [if_neg c9_4] at hd)
  by_cases c9_5 : x0.toInt = 5
  · refine lv_tableIn (off := 52) (tgt := 53) hx hb dX1_lowerType_1 (by rw [c9_5]; decide) (by rw [c9_5]; decide) (by rw [c9_5]; rfl) (by decide) ?_
    rw [if_pos (c9_5)] at hf
    (try rw [if_pos (c9_5)] at hd)
    refine lv_iconst (v := 0) hx hb dX1_lowerType_53 (by decide) ?_
    exact W.iret (v := 0) hx hb hr (fun t9 ht9 hW9 => ⟨⟨_, (), rfl, hf.trans hf0.symm, ⟨by rw [ht9]; exact hR.P, hR.D⟩⟩, hR.sS.F ht9⟩) hR.sS.2.2 dX1_lowerType_54
  rw [if_neg c9_5] at hf
  (try rw [if_neg c9_5] at hd)
  by_cases c9_6 : x0.toInt = 6
  · refine lv_tableIn (off := 52) (tgt := 53) hx hb dX1_lowerType_1 (by rw [c9_6]; decide) (by rw [c9_6]; decide) (by rw [c9_6]; rfl) (by decide) ?_
    rw [if_pos (c9_6)] at hf
    (try rw [if_pos (c9_6)] at hd)
    refine lv_iconst (v := 0) hx hb dX1_lowerType_53 (by decide) ?_
    exact W.iret (v := 0) hx hb hr (fun t9 ht9 hW9 => ⟨⟨_, (), rfl, hf.trans hf0.symm, ⟨by rw [ht9]; exact hR.P, hR.D⟩⟩, hR.sS.F ht9⟩) hR.sS.2.2 dX1_lowerType_54
  rw [if_neg c9_6] at hf
  (try rw [if_neg c9_6] at hd)
  by_cases c9_7 : x0.toInt = 7
  · refine lv_tableIn (off := 49) (tgt := 50) hx hb dX1_lowerType_1 (by rw [c9_7]; decide) (by rw [c9_7]; decide) (by rw [c9_7]; rfl) (by decide) ?_
    rw [if_pos (c9_7)] at hf
    (try rw [if_pos (c9_7)] at hd)
    refine lv_bipush (v := 6) hx hb dX1_lowerType_50 (by decide) ?_
    exact W.iret (v := 6) hx hb hr (fun t9 ht9 hW9 => ⟨⟨_, (), rfl, hf.trans hf0.symm, ⟨by rw [ht9]; exact hR.P, hR.D⟩⟩, hR.sS.F ht9⟩) hR.sS.2.2 dX1_lowerType_52
  rw [if_neg c9_7] at hf
  (try rw [if_neg c9_7] at hd)
  refine lv_tableOut (tgt := 53) hx hb dX1_lowerType_1 (by omega) (by decide) ?_
  refine lv_iconst (v := 0) hx hb dX1_lowerType_53 (by decide) ?_
  exact W.iret (v := 0) hx hb hr (fun t9 ht9 hW9 => ⟨⟨_, (), rfl, hf.trans hf0.symm, ⟨by rw [ht9]; exact hR.P, hR.D⟩⟩, hR.sS.F ht9⟩) hR.sS.2.2 dX1_lowerType_54
def f_X1_join_J43 (S : MS) : Int32 := (0 : Int32)
def d_X1_join_J43 (S : MS) : Prop := True
def f_X1_join_J39 (S : MS) (v39_1 : Int32) : Int32 := v39_1
def d_X1_join_J39 (S : MS) (v39_1 : Int32) : Prop := True
def f_X1_join_J23 (S : MS) (v23_0 : Int32) (v23_1 : Int32) : Int32 := (if v23_0.toInt = 6 then (if v23_1.toInt = 4 then f_X1_join_J39 S v23_1 else (if v23_1.toInt = 5 then f_X1_join_J39 S v23_1 else f_X1_join_J43 S)) else f_X1_join_J43 S)
def d_X1_join_J23 (S : MS) (v23_0 : Int32) (v23_1 : Int32) : Prop := (if v23_0.toInt = 6 then (if v23_1.toInt = 4 then d_X1_join_J39 S v23_1 else (if v23_1.toInt = 5 then d_X1_join_J39 S v23_1 else d_X1_join_J43 S)) else d_X1_join_J43 S)
def fX1_join (S : MS) (x0 : Int32) (x1 : Int32) : Int32 := (if x0.toInt = x1.toInt then x0 else (if x1.toInt = 6 then (if x0.toInt = 4 then x0 else (if x0.toInt = 5 then x0 else f_X1_join_J23 S x0 x1)) else f_X1_join_J23 S x0 x1))
def d_X1_join (S : MS) (x0 : Int32) (x1 : Int32) : Prop := (if x0.toInt = x1.toInt then True else (if x1.toInt = 6 then (if x0.toInt = 4 then True else (if x0.toInt = 5 then True else d_X1_join_J23 S x0 x1)) else d_X1_join_J23 S x0 x1))
set_option maxHeartbeats 2000000 in
set_option maxRecDepth 100000 in
theorem rX1_join (l : Launch) (g : Gr) (ad : Nat → Nat) (sz : Nat) (S : MS) (x0 : Int32) (x1 : Int32) (hw : wfC S) (hd : d_X1_join S x0 x1) : Met l yX1_join (wt yX1_join cX1_join 2 (some .int)) ({ frames := 0, cells := 0, slots := 0, locals := 0 }) (va_Pc [.int x0, .int x1] (st_C g ad sz S)) (va_Qi (fun (r : Int32) (_ : Unit) => r = fX1_join S x0 x1) (fun (_ : Unit) (t : State) => qEC g ad (va_A (WdC g ad S) sz) S t) (va_A (WdC g ad S) sz)) 0 0 (va_A (WdC g ad S) sz) := by
  refine Met.ofW (cc := cX1_join) (maxL := 2) (ret := (some .int)) (by decide) rfl ?_
  intro p e s m args below meth c s₁ B hml hv
  obtain ⟨rfl, hsz, hP, hK, hD0, hex, hE⟩ := hv
  have hx := B.exec
  have hb := B.bytes
  have hr := B.returns
  have hts0 := atoms_spec (ws := wt yX1_join cX1_join 2 (some .int)) B.pre
  have hts : ∀ w ∈ tb, w.before _ s = true := fun w h => hts0 w (List.mem_cons_of_mem _ h)
  have hown : s.vm.findClass RX1 = some m.cls := findClass_of_methodNamed B.named
  subst hsz
  have hD := hD0.self (sz := s.heap.size)
  generalize hAe : va_A (WdC g ad S) s.heap.size = A at hD hE ⊢
  have hA : ∀ q : Nat, s.heap.size ≤ q → A q := fun q h => by rw [← hAe]; exact Or.inr h
  have hR : RepC g ad A s S s.heap [] := ⟨hK, hP, hD, va_S.rf, hw⟩
  clear hK hP hD hD0
  have hl := lv_entry ([.int x0, .int x1]) (n := 2) (Nat.le_of_ble_eq_true rfl)
  rw [lg_entry_eq]
  generalize (lg_sl ([.int x0, .int x1]) ++ List.replicate (2 - (lg_sl ([.int x0, .int x1])).length) Slot.unset).toArray = ls at hl ⊢
  have hl : lv_has ls 2 [(0, .int x0), (1, .int x1)] := hl
  obtain ⟨r0, hf⟩ : ∃ r0, fX1_join S x0 x1 = r0 := ⟨_, rfl⟩
  have hf0 := hf
  unfold fX1_join at hf
  unfold d_X1_join at hd
  refine lv_iload_n hx hb dX1_join_0 rfl (lv_at hl 0 rfl) ?_
  refine lv_iload_n hx hb dX1_join_1 rfl (lv_at hl 1 rfl) ?_
  refine lv_icmp_eq (tgt := 21) hx hb dX1_join_2 (by decide) (fun c1 => ?_) (fun c1 => ?_)
  · rw [if_pos (k_eq rfl rfl c1)] at hf
    (try rw [if_pos (k_eq rfl rfl c1)] at hd)
    refine lv_iload_n hx hb dX1_join_21 rfl (lv_at hl 0 rfl) ?_
    exact W.iret (v := x0) hx hb hr (fun t9 ht9 hW9 => ⟨⟨_, (), rfl, hf.trans hf0.symm, ⟨by rw [ht9]; exact hR.P, hR.D⟩⟩, hR.sS.F ht9⟩) hR.sS.2.2 dX1_join_22
  · rw [if_neg (k_ne rfl rfl c1)] at hf
    (try rw [if_neg (k_ne rfl rfl c1)] at hd)
    refine lv_iload_n hx hb dX1_join_5 rfl (lv_at hl 1 rfl) ?_
    refine lv_bipush (v := 6) hx hb dX1_join_6 (by decide) ?_
    have J_23 : ∀ (v23_0 : Int32) (v23_1 : Int32) (H : Heap) (locs : List Loc) (ls : Array Slot), d_X1_join_J23 S v23_0 v23_1 → f_X1_join_J23 S v23_0 v23_1 = r0 → RepC g ad A s S H locs → lv_has ls 2 [(0, .int v23_0), (1, .int v23_1)] → W p l e (headSpec (wt yX1_join cX1_join 2 (some .int)) ({ frames := 0, cells := 0, slots := 0, locals := 0 })).room s m ([.int x0, .int x1] : List Value).toArray below meth c H locs 0 0 (MQ below (va_Qi (fun (r : Int32) (_ : Unit) => r = fX1_join S x0 x1) (fun (_ : Unit) (t : State) => qEC g ad A S t) A) ([.int x0, .int x1] : List Value).toArray s 0 0 A) (F0 m 23 ls []) := by
      intro v23_0 v23_1 H locs ls hd hf hR hl
      unfold d_X1_join_J23 at hd
      unfold f_X1_join_J23 at hf
      refine lv_iload_n hx hb dX1_join_23 rfl (lv_at hl 0 rfl) ?_
      refine lv_bipush (v := 6) hx hb dX1_join_24 (by decide) ?_
      have J_43 : ∀ (H : Heap) (locs : List Loc) (ls : Array Slot), d_X1_join_J43 S → f_X1_join_J43 S = r0 → RepC g ad A s S H locs → lv_has ls 2 [] → W p l e (headSpec (wt yX1_join cX1_join 2 (some .int)) ({ frames := 0, cells := 0, slots := 0, locals := 0 })).room s m ([.int x0, .int x1] : List Value).toArray below meth c H locs 0 0 (MQ below (va_Qi (fun (r : Int32) (_ : Unit) => r = fX1_join S x0 x1) (fun (_ : Unit) (t : State) => qEC g ad A S t) A) ([.int x0, .int x1] : List Value).toArray s 0 0 A) (F0 m 43 ls []) := by
        intro H locs ls hd hf hR hl
        unfold d_X1_join_J43 at hd
        unfold f_X1_join_J43 at hf
        refine lv_iconst (v := 0) hx hb dX1_join_43 (by decide) ?_
        exact W.iret (v := 0) hx hb hr (fun t9 ht9 hW9 => ⟨⟨_, (), rfl, hf.trans hf0.symm, ⟨by rw [ht9]; exact hR.P, hR.D⟩⟩, hR.sS.F ht9⟩) hR.sS.2.2 dX1_join_44
      refine lv_icmp_ne (tgt := 43) hx hb dX1_join_26 (by decide) (fun c2 => ?_) (fun c2 => ?_)
      · rw [if_neg (k_ne rfl (by decide) c2)] at hf
        (try rw [if_neg (k_ne rfl (by decide) c2)] at hd)
        exact J_43 _ _ ls hd hf  hR (lv_sub hl [] rfl)
      · rw [if_pos (k_eq rfl (by decide) c2)] at hf
        (try rw [if_pos (k_eq rfl (by decide) c2)] at hd)
        refine lv_iload_n hx hb dX1_join_29 rfl (lv_at hl 1 rfl) ?_
        refine lv_iconst (v := 4) hx hb dX1_join_30 (by decide) ?_
        have J_39 : ∀ (v39_1 : Int32) (H : Heap) (locs : List Loc) (ls : Array Slot), d_X1_join_J39 S v39_1 → f_X1_join_J39 S v39_1 = r0 → RepC g ad A s S H locs → lv_has ls 2 [(1, .int v39_1)] → W p l e (headSpec (wt yX1_join cX1_join 2 (some .int)) ({ frames := 0, cells := 0, slots := 0, locals := 0 })).room s m ([.int x0, .int x1] : List Value).toArray below meth c H locs 0 0 (MQ below (va_Qi (fun (r : Int32) (_ : Unit) => r = fX1_join S x0 x1) (fun (_ : Unit) (t : State) => qEC g ad A S t) A) ([.int x0, .int x1] : List Value).toArray s 0 0 A) (F0 m 39 ls []) := by
          intro v39_1 H locs ls hd hf hR hl
          unfold d_X1_join_J39 at hd
          unfold f_X1_join_J39 at hf
          refine lv_iload_n hx hb dX1_join_39 rfl (lv_at hl 0 rfl) ?_
          refine lv_goto (tgt := 44) hx hb dX1_join_40 (by decide) ?_
          exact W.iret (v := v39_1) hx hb hr (fun t9 ht9 hW9 => ⟨⟨_, (), rfl, hf.trans hf0.symm, ⟨by rw [ht9]; exact hR.P, hR.D⟩⟩, hR.sS.F ht9⟩) hR.sS.2.2 dX1_join_44
        refine lv_icmp_eq (tgt := 39) hx hb dX1_join_31 (by decide) (fun c3 => ?_) (fun c3 => ?_)
        · rw [if_pos (k_eq rfl (by decide) c3)] at hf
          (try rw [if_pos (k_eq rfl (by decide) c3)] at hd)
          exact J_39 v23_1 _ _ ls hd hf  hR (lv_sub hl [1] rfl)
        · rw [if_neg (k_ne rfl (by decide) c3)] at hf
          (try rw [if_neg (k_ne rfl (by decide) c3)] at hd)
          refine lv_iload_n hx hb dX1_join_34 rfl (lv_at hl 1 rfl) ?_
          refine lv_iconst (v := 5) hx hb dX1_join_35 (by decide) ?_
          refine lv_icmp_ne (tgt := 43) hx hb dX1_join_36 (by decide) (fun c4 => ?_) (fun c4 => ?_)
          · rw [if_neg (k_ne rfl (by decide) c4)] at hf
            (try rw [if_neg (k_ne rfl (by decide) c4)] at hd)
            exact J_43 _ _ ls hd hf  hR (lv_sub hl [] rfl)
          · rw [if_pos (k_eq rfl (by decide) c4)] at hf
            (try rw [if_pos (k_eq rfl (by decide) c4)] at hd)
            exact J_39 v23_1 _ _ ls hd hf  hR (lv_sub hl [1] rfl)
    refine lv_icmp_ne (tgt := 23) hx hb dX1_join_8 (by decide) (fun c5 => ?_) (fun c5 => ?_)
    · rw [if_neg (k_ne rfl (by decide) c5)] at hf
      (try rw [if_neg (k_ne rfl (by decide) c5)] at hd)
      exact J_23 x0 x1 _ _ ls hd hf  hR (lv_sub hl [0, 1] rfl)
    · rw [if_pos (k_eq rfl (by decide) c5)] at hf
      (try rw [if_pos (k_eq rfl (by decide) c5)] at hd)
      refine lv_iload_n hx hb dX1_join_11 rfl (lv_at hl 0 rfl) ?_
      refine lv_iconst (v := 4) hx hb dX1_join_12 (by decide) ?_
      refine lv_icmp_eq (tgt := 21) hx hb dX1_join_13 (by decide) (fun c6 => ?_) (fun c6 => ?_)
      · rw [if_pos (k_eq rfl (by decide) c6)] at hf
        (try rw [if_pos (k_eq rfl (by decide) c6)] at hd)
        refine lv_iload_n hx hb dX1_join_21 rfl (lv_at hl 0 rfl) ?_
        exact W.iret (v := x0) hx hb hr (fun t9 ht9 hW9 => ⟨⟨_, (), rfl, hf.trans hf0.symm, ⟨by rw [ht9]; exact hR.P, hR.D⟩⟩, hR.sS.F ht9⟩) hR.sS.2.2 dX1_join_22
      · rw [if_neg (k_ne rfl (by decide) c6)] at hf
        (try rw [if_neg (k_ne rfl (by decide) c6)] at hd)
        refine lv_iload_n hx hb dX1_join_16 rfl (lv_at hl 0 rfl) ?_
        refine lv_iconst (v := 5) hx hb dX1_join_17 (by decide) ?_
        refine lv_icmp_ne (tgt := 23) hx hb dX1_join_18 (by decide) (fun c7 => ?_) (fun c7 => ?_)
        · rw [if_neg (k_ne rfl (by decide) c7)] at hf
          (try rw [if_neg (k_ne rfl (by decide) c7)] at hd)
          exact J_23 x0 x1 _ _ ls hd hf  hR (lv_sub hl [0, 1] rfl)
        · rw [if_pos (k_eq rfl (by decide) c7)] at hf
          (try rw [if_pos (k_eq rfl (by decide) c7)] at hd)
          refine lv_iload_n hx hb dX1_join_21 rfl (lv_at hl 0 rfl) ?_
          exact W.iret (v := x0) hx hb hr (fun t9 ht9 hW9 => ⟨⟨_, (), rfl, hf.trans hf0.symm, ⟨by rw [ht9]; exact hR.P, hR.D⟩⟩, hR.sS.F ht9⟩) hR.sS.2.2 dX1_join_22
def wX1_pop (S : MS) (Q : Int32 → MS → Prop) : Prop := (((qI S 16 5).toInt < 1 → Q (0 : Int32) S) ∧ (¬ (qI S 16 5).toInt < 1 → (((qI S 16 5).toInt ≤ 24 → (∀ S4, S4 = wI S 16 5 ((qI S 16 5) - (1 : Int32)) → qT S 16 = 41 → wfC S4 → (((0 : Int) ≤ ((24 : Int32) + (qI S4 16 5)).toInt ∧ ((24 : Int32) + (qI S4 16 5)).toInt < 48) ∧ Q (qI S4 24 ((((24 : Int32) + (qI S4 16 5)).toInt).toNat)) S4))) ∧ (¬ (qI S 16 5).toInt ≤ 24 → Q (0 : Int32) S))))
set_option maxHeartbeats 2000000 in
set_option maxRecDepth 100000 in
theorem rX1_pop (l : Launch) (g : Gr) (ad : Nat → Nat) (sz : Nat) (S : MS) (hw : wfC S) (Q : Int32 → MS → Prop) (h : wX1_pop S Q) : Met l yX1_pop (wt yX1_pop cX1_pop 1 (some .int)) ({ frames := 0, cells := 0, slots := 0, locals := 0 }) (va_Pc [.ref (ad 16)] (st_C g ad sz S)) (va_Qi (fun (r : Int32) (u : MS) => Q r u ∧ wfC u ∧ shy S u) (fun (u : MS) (t : State) => qEC g ad (va_A (WdC g ad S) sz) u t) (va_A (WdC g ad S) sz)) 0 0 (va_A (WdC g ad S) sz) := by
  refine Met.ofW (cc := cX1_pop) (maxL := 1) (ret := (some .int)) (by decide) rfl ?_
  intro p e s m args below meth c s₁ B hml hv
  obtain ⟨rfl, hsz, hP, hK, hD0, hex, hE⟩ := hv
  have hx := B.exec
  have hb := B.bytes
  have hr := B.returns
  have hts0 := atoms_spec (ws := wt yX1_pop cX1_pop 1 (some .int)) B.pre
  have hts : ∀ w ∈ tb, w.before _ s = true := fun w h => hts0 w (List.mem_cons_of_mem _ h)
  have hown : s.vm.findClass RX1 = some m.cls := findClass_of_methodNamed B.named
  subst hsz
  have hD := hD0.self (sz := s.heap.size)
  generalize hAe : va_A (WdC g ad S) s.heap.size = A at hD hE ⊢
  have hA : ∀ q : Nat, s.heap.size ≤ q → A q := fun q h => by rw [← hAe]; exact Or.inr h
  have hR : RepC g ad A s S s.heap [] := ⟨hK, hP, hD, va_S.rf, hw⟩
  clear hK hP hD hD0
  have hl := lv_entry ([.ref (ad 16)]) (n := 1) (Nat.le_of_ble_eq_true rfl)
  rw [lg_entry_eq]
  generalize (lg_sl ([.ref (ad 16)]) ++ List.replicate (1 - (lg_sl ([.ref (ad 16)])).length) Slot.unset).toArray = ls at hl ⊢
  have hl : lv_has ls 1 [(0, .ref (ad 16))] := hl
  have hsh : shy S S := shy.rf
  unfold wX1_pop at h
  refine lv_aload_n hx hb dX1_pop_0 rfl (lv_at hl 0 rfl) ?_
  refine va_get (D := rD g) (ci := 1) (v := .int (qI S 16 5)) (C := RX1) (T := TX1) (N := 10) hx hb hts inX1 hown hR.K hR.P 16 (hR.at41 (hR.w.2.1 _ finC_27).2.1) rfl 5 (by decide) (hts _ kw_486) (fun _ h9 => h9) rfl dX1_pop_1 ?_
  refine lv_iconst (v := 1) hx hb dX1_pop_4 (by decide) ?_
  refine lv_icmp_lt (tgt := 17) hx hb dX1_pop_5 (by decide) (fun c1 => ?_) (fun c1 => ?_)
  · replace h := h.1 (k_lt rfl (by decide) c1)
    refine lv_iconst (v := 0) hx hb dX1_pop_17 (by decide) ?_
    exact W.iret (v := 0) hx hb hr (fun t9 ht9 hW9 => ⟨⟨_, S, rfl, ⟨h, hR.w, hsh⟩, ⟨by rw [ht9]; exact hR.P, hR.D⟩⟩, hR.sS.F ht9⟩) hR.sS.2.2 dX1_pop_18
  · replace h := h.2 (k_nlt rfl (by decide) c1)
    refine lv_aload_n hx hb dX1_pop_8 rfl (lv_at hl 0 rfl) ?_
    refine va_get (D := rD g) (ci := 1) (v := .int (qI S 16 5)) (C := RX1) (T := TX1) (N := 10) hx hb hts inX1 hown hR.K hR.P 16 (hR.at41 (hR.w.2.1 _ finC_27).2.1) rfl 5 (by decide) (hts _ kw_486) (fun _ h9 => h9) rfl dX1_pop_9 ?_
    refine lv_bipush (v := 24) hx hb dX1_pop_12 (by decide) ?_
    refine lv_icmp_le (tgt := 19) hx hb dX1_pop_14 (by decide) (fun c2 => ?_) (fun c2 => ?_)
    · replace h := h.1 (k_le rfl (by decide) c2)
      refine lv_aload_n hx hb dX1_pop_19 rfl (lv_at hl 0 rfl) ?_
      refine lv_dup hx hb dX1_pop_20 rfl ?_
      refine va_get (D := rD g) (ci := 1) (v := .int (qI S 16 5)) (C := RX1) (T := TX1) (N := 10) hx hb hts inX1 hown hR.K hR.P 16 (hR.at41 (hR.w.2.1 _ finC_27).2.1) rfl 5 (by decide) (hts _ kw_486) (fun _ h9 => h9) rfl dX1_pop_21 ?_
      refine lv_iconst (v := 1) hx hb dX1_pop_24 (by decide) ?_
      refine lv_isub hx hb dX1_pop_25 ?_
      refine lv_topi (fun z3 ez3 => ?_)
      obtain rfl : z3 = ((qI S 16 5) - (1 : Int32)) := ez3
      refine va_put (D := rD g) (ci := 1) (v := .int ((qI S 16 5) - (1 : Int32))) (ty := .int) (C := RX1) (T := TX1) (N := 10) hx hb hts inX1 tyX1 tyX1_ok nmX1 hown hR.K hR.P hR.D hR.sS 16 (hR.at41 (hR.w.2.1 _ finC_27).2.1) rfl 5 (by decide) (hts _ kw_486) (fun _ h9 => h9) rfl (by decide +kernel) rfl rfl (Nat.le_of_ble_eq_true rfl) dX1_pop_26 (fun H locs hP hD hS => ?_)
      have hTk9 : qT S 16 = 41 := (hR.w.2.1 _ finC_27).2.1
      have hR : RepC g ad A s (wI S 16 5 ((qI S 16 5) - (1 : Int32))) H locs := hR.pI41 (hR.w.2.1 _ finC_27).2.1 FX1_s5 (fun q9 => absurd q9 (by decide)) hP hD hS
      obtain ⟨S4, eS4⟩ : ∃ z, z = wI S 16 5 ((qI S 16 5) - (1 : Int32)) := ⟨_, rfl⟩
      rw [← eS4] at hR
      replace h := h S4 eS4 hTk9 hR.w
      have hsh : shy S S4 := by rw [eS4]; exact hsh
      refine lv_aload_n hx hb dX1_pop_29 rfl (lv_at hl 0 rfl) ?_
      refine va_get (D := rD g) (ci := 1) (v := .ref (ad 24)) (C := RX1) (T := TX1) (N := 10) hx hb hts inX1 hown hR.K hR.P 16 (hR.at41 (hR.w.2.1 _ finC_27).2.1) rfl 4 (by decide) (hts _ kw_477) (fun _ h9 => h9) (congrArg (fun z => some (vf ad z)) (hR.w.2.1 _ finC_1).1) dX1_pop_30 ?_
      refine lv_bipush (v := 24) hx hb dX1_pop_33 (by decide) ?_
      refine lv_aload_n hx hb dX1_pop_35 rfl (lv_at hl 0 rfl) ?_
      refine va_get (D := rD g) (ci := 1) (v := .int (qI S4 16 5)) (C := RX1) (T := TX1) (N := 10) hx hb hts inX1 hown hR.K hR.P 16 (hR.at41 (hR.w.2.1 _ finC_27).2.1) rfl 5 (by decide) (hts _ kw_486) (fun _ h9 => h9) rfl dX1_pop_36 ?_
      refine lv_iadd hx hb dX1_pop_39 ?_
      refine lv_topi (fun z5 ez5 => ?_)
      obtain rfl : z5 = ((24 : Int32) + (qI S4 16 5)) := ez5
      obtain ⟨hv6, h⟩ := h
      refine va_bald hx hb hR.K hR.P 24 0 (hR.atB (hR.w.2.1 _ finC_1).2.1 (by decide)) rfl (k_ixN (k_ix (n := 48) (x := ((24 : Int32) + (qI S4 16 5))) (a := ((24 : Int32) + (qI S4 16 5)).toInt) rfl hv6) (hR.w.2.1 _ finC_1).2.2) dX1_pop_40 ?_
      refine lv_topi (fun z7 ez7 => ?_)
      obtain rfl : z7 = (qI S4 24 ((((24 : Int32) + (qI S4 16 5)).toInt).toNat)) := ez7
      exact W.iret (v := (qI S4 24 ((((24 : Int32) + (qI S4 16 5)).toInt).toNat))) hx hb hr (fun t9 ht9 hW9 => ⟨⟨_, S4, rfl, ⟨h, hR.w, hsh⟩, ⟨by rw [ht9]; exact hR.P, hR.D⟩⟩, hR.sS.F ht9⟩) hR.sS.2.2 dX1_pop_41
    · replace h := h.2 (k_nle rfl (by decide) c2)
      refine lv_iconst (v := 0) hx hb dX1_pop_17 (by decide) ?_
      exact W.iret (v := 0) hx hb hr (fun t9 ht9 hW9 => ⟨⟨_, S, rfl, ⟨h, hR.w, hsh⟩, ⟨by rw [ht9]; exact hR.P, hR.D⟩⟩, hR.sS.F ht9⟩) hR.sS.2.2 dX1_pop_18
def wX1_push (S : MS) (x1 : Int32) (Q : MS → Prop) : Prop := (((qI S 16 5).toInt < 0 → Q S) ∧ (¬ (qI S 16 5).toInt < 0 → ((24 ≤ (qI S 16 5).toInt → Q S) ∧ (¬ 24 ≤ (qI S 16 5).toInt → (((0 : Int) ≤ ((24 : Int32) + (qI S 16 5)).toInt ∧ ((24 : Int32) + (qI S 16 5)).toInt < 48) ∧ (∀ S5, S5 = wI S 24 ((((24 : Int32) + (qI S 16 5)).toInt).toNat) (vp_nar .byte (x1.toInt8.toInt32)) → qT S 24 = 103 → wfC S5 → (∀ S7, S7 = wI S5 16 5 ((qI S5 16 5) + (1 : Int32)) → qT S5 16 = 41 → wfC S7 → Q S7)))))))
set_option maxHeartbeats 2000000 in
set_option maxRecDepth 100000 in
theorem rX1_push (l : Launch) (g : Gr) (ad : Nat → Nat) (sz : Nat) (S : MS) (x1 : Int32) (hw : wfC S) (Q : MS → Prop) (h : wX1_push S x1 Q) : Met l yX1_push (wt yX1_push cX1_push 2 none) ({ frames := 0, cells := 0, slots := 0, locals := 0 }) (va_Pc [.ref (ad 16), .int x1] (st_C g ad sz S)) (va_Qv (fun (u : MS) => Q u ∧ wfC u ∧ shy S u) (fun (u : MS) (t : State) => qEC g ad (va_A (WdC g ad S) sz) u t) (va_A (WdC g ad S) sz)) 0 0 (va_A (WdC g ad S) sz) := by
  refine Met.ofW (cc := cX1_push) (maxL := 2) (ret := none) (by decide) rfl ?_
  intro p e s m args below meth c s₁ B hml hv
  obtain ⟨rfl, hsz, hP, hK, hD0, hex, hE⟩ := hv
  have hx := B.exec
  have hb := B.bytes
  have hr := B.returns
  have hts0 := atoms_spec (ws := wt yX1_push cX1_push 2 none) B.pre
  have hts : ∀ w ∈ tb, w.before _ s = true := fun w h => hts0 w (List.mem_cons_of_mem _ h)
  have hown : s.vm.findClass RX1 = some m.cls := findClass_of_methodNamed B.named
  subst hsz
  have hD := hD0.self (sz := s.heap.size)
  generalize hAe : va_A (WdC g ad S) s.heap.size = A at hD hE ⊢
  have hA : ∀ q : Nat, s.heap.size ≤ q → A q := fun q h => by rw [← hAe]; exact Or.inr h
  have hR : RepC g ad A s S s.heap [] := ⟨hK, hP, hD, va_S.rf, hw⟩
  clear hK hP hD hD0
  have hl := lv_entry ([.ref (ad 16), .int x1]) (n := 2) (Nat.le_of_ble_eq_true rfl)
  rw [lg_entry_eq]
  generalize (lg_sl ([.ref (ad 16), .int x1]) ++ List.replicate (2 - (lg_sl ([.ref (ad 16), .int x1])).length) Slot.unset).toArray = ls at hl ⊢
  have hl : lv_has ls 2 [(0, .ref (ad 16)), (1, .int x1)] := hl
  have hsh : shy S S := shy.rf
  unfold wX1_push at h
  refine lv_aload_n hx hb dX1_push_0 rfl (lv_at hl 0 rfl) ?_
  refine va_get (D := rD g) (ci := 1) (v := .int (qI S 16 5)) (C := RX1) (T := TX1) (N := 10) hx hb hts inX1 hown hR.K hR.P 16 (hR.at41 (hR.w.2.1 _ finC_27).2.1) rfl 5 (by decide) (hts _ kw_486) (fun _ h9 => h9) rfl dX1_push_1 ?_
  refine lv_if_lt (tgt := 40) hx hb dX1_push_4 (by decide) (fun c1 => ?_) (fun c1 => ?_)
  · replace h := h.1 (k_lt rfl (by decide) c1)
    exact W.vret hx hb hr (fun t9 ht9 hW9 => ⟨⟨S, rfl, ⟨h, hR.w, hsh⟩, ⟨by rw [ht9]; exact hR.P, hR.D⟩⟩, hR.sS.F ht9⟩) hR.sS.2.2 dX1_push_40
  · replace h := h.2 (k_nlt rfl (by decide) c1)
    refine lv_aload_n hx hb dX1_push_7 rfl (lv_at hl 0 rfl) ?_
    refine va_get (D := rD g) (ci := 1) (v := .int (qI S 16 5)) (C := RX1) (T := TX1) (N := 10) hx hb hts inX1 hown hR.K hR.P 16 (hR.at41 (hR.w.2.1 _ finC_27).2.1) rfl 5 (by decide) (hts _ kw_486) (fun _ h9 => h9) rfl dX1_push_8 ?_
    refine lv_bipush (v := 24) hx hb dX1_push_11 (by decide) ?_
    refine lv_icmp_ge (tgt := 40) hx hb dX1_push_13 (by decide) (fun c2 => ?_) (fun c2 => ?_)
    · replace h := h.1 (k_le (by decide) rfl c2)
      exact W.vret hx hb hr (fun t9 ht9 hW9 => ⟨⟨S, rfl, ⟨h, hR.w, hsh⟩, ⟨by rw [ht9]; exact hR.P, hR.D⟩⟩, hR.sS.F ht9⟩) hR.sS.2.2 dX1_push_40
    · replace h := h.2 (k_nle (by decide) rfl c2)
      refine lv_aload_n hx hb dX1_push_16 rfl (lv_at hl 0 rfl) ?_
      refine va_get (D := rD g) (ci := 1) (v := .ref (ad 24)) (C := RX1) (T := TX1) (N := 10) hx hb hts inX1 hown hR.K hR.P 16 (hR.at41 (hR.w.2.1 _ finC_27).2.1) rfl 4 (by decide) (hts _ kw_477) (fun _ h9 => h9) (congrArg (fun z => some (vf ad z)) (hR.w.2.1 _ finC_1).1) dX1_push_17 ?_
      refine lv_bipush (v := 24) hx hb dX1_push_20 (by decide) ?_
      refine lv_aload_n hx hb dX1_push_22 rfl (lv_at hl 0 rfl) ?_
      refine va_get (D := rD g) (ci := 1) (v := .int (qI S 16 5)) (C := RX1) (T := TX1) (N := 10) hx hb hts inX1 hown hR.K hR.P 16 (hR.at41 (hR.w.2.1 _ finC_27).2.1) rfl 5 (by decide) (hts _ kw_486) (fun _ h9 => h9) rfl dX1_push_23 ?_
      refine lv_iadd hx hb dX1_push_26 ?_
      refine lv_topi (fun z3 ez3 => ?_)
      obtain rfl : z3 = ((24 : Int32) + (qI S 16 5)) := ez3
      refine lv_iload_n hx hb dX1_push_27 rfl (lv_at hl 1 rfl) ?_
      refine lv_i2b (v := (x1.toInt8.toInt32)) hx hb dX1_push_28 rfl ?_
      obtain ⟨hv4, h⟩ := h
      refine va_bast hx hb hR.K hR.P hR.D hR.sS 24 0 (hR.atB (hR.w.2.1 _ finC_1).2.1 (by decide)) rfl (k_ixN (k_ix (n := 48) (x := ((24 : Int32) + (qI S 16 5))) (a := ((24 : Int32) + (qI S 16 5)).toInt) rfl hv4) (hR.w.2.1 _ finC_1).2.2) dX1_push_29 (fun H locs hP hD hS => ?_)
      have hTk9 : qT S 24 = 103 := (hR.w.2.1 _ finC_1).2.1
      have hR : RepC g ad A s (wI S 24 ((((24 : Int32) + (qI S 16 5)).toInt).toNat) (vp_nar .byte (x1.toInt8.toInt32))) H locs := hR.aB (hR.w.2.1 _ finC_1).2.1 (by decide) (fit_nb _) hP hD hS
      obtain ⟨S5, eS5⟩ : ∃ z, z = wI S 24 ((((24 : Int32) + (qI S 16 5)).toInt).toNat) (vp_nar .byte (x1.toInt8.toInt32)) := ⟨_, rfl⟩
      rw [← eS5] at hR
      replace h := h S5 eS5 hTk9 hR.w
      have hsh : shy S S5 := by rw [eS5]; exact hsh
      refine lv_aload_n hx hb dX1_push_30 rfl (lv_at hl 0 rfl) ?_
      refine lv_dup hx hb dX1_push_31 rfl ?_
      refine va_get (D := rD g) (ci := 1) (v := .int (qI S5 16 5)) (C := RX1) (T := TX1) (N := 10) hx hb hts inX1 hown hR.K hR.P 16 (hR.at41 (hR.w.2.1 _ finC_27).2.1) rfl 5 (by decide) (hts _ kw_486) (fun _ h9 => h9) rfl dX1_push_32 ?_
      refine lv_iconst (v := 1) hx hb dX1_push_35 (by decide) ?_
      refine lv_iadd hx hb dX1_push_36 ?_
      refine lv_topi (fun z6 ez6 => ?_)
      obtain rfl : z6 = ((qI S5 16 5) + (1 : Int32)) := ez6
      refine va_put (D := rD g) (ci := 1) (v := .int ((qI S5 16 5) + (1 : Int32))) (ty := .int) (C := RX1) (T := TX1) (N := 10) hx hb hts inX1 tyX1 tyX1_ok nmX1 hown hR.K hR.P hR.D hR.sS 16 (hR.at41 (hR.w.2.1 _ finC_27).2.1) rfl 5 (by decide) (hts _ kw_486) (fun _ h9 => h9) rfl (by decide +kernel) rfl rfl (Nat.le_of_ble_eq_true rfl) dX1_push_37 (fun H locs hP hD hS => ?_)
      have hTk9 : qT S5 16 = 41 := (hR.w.2.1 _ finC_27).2.1
      have hR : RepC g ad A s (wI S5 16 5 ((qI S5 16 5) + (1 : Int32))) H locs := hR.pI41 (hR.w.2.1 _ finC_27).2.1 FX1_s5 (fun q9 => absurd q9 (by decide)) hP hD hS
      obtain ⟨S7, eS7⟩ : ∃ z, z = wI S5 16 5 ((qI S5 16 5) + (1 : Int32)) := ⟨_, rfl⟩
      rw [← eS7] at hR
      replace h := h S7 eS7 hTk9 hR.w
      have hsh : shy S S7 := by rw [eS7]; exact hsh
      exact W.vret hx hb hr (fun t9 ht9 hW9 => ⟨⟨S7, rfl, ⟨h, hR.w, hsh⟩, ⟨by rw [ht9]; exact hR.P, hR.D⟩⟩, hR.sS.F ht9⟩) hR.sS.2.2 dX1_push_40
def f_X1_isReference_J16 (S : MS) : Int32 := (1 : Int32)
def d_X1_isReference_J16 (S : MS) : Prop := True
def fX1_isReference (S : MS) (x0 : Int32) : Int32 := (if x0.toInt = 4 then f_X1_isReference_J16 S else (if x0.toInt = 5 then f_X1_isReference_J16 S else (if x0.toInt = 6 then f_X1_isReference_J16 S else (0 : Int32))))
def d_X1_isReference (S : MS) (x0 : Int32) : Prop := (if x0.toInt = 4 then d_X1_isReference_J16 S else (if x0.toInt = 5 then d_X1_isReference_J16 S else (if x0.toInt = 6 then d_X1_isReference_J16 S else True)))
set_option maxHeartbeats 2000000 in
set_option maxRecDepth 100000 in
theorem rX1_isReference (l : Launch) (g : Gr) (ad : Nat → Nat) (sz : Nat) (S : MS) (x0 : Int32) (hw : wfC S) (hd : d_X1_isReference S x0) : Met l yX1_isReference (wt yX1_isReference cX1_isReference 1 (some .boolean)) ({ frames := 0, cells := 0, slots := 0, locals := 0 }) (va_Pc [.int x0] (st_C g ad sz S)) (va_Qi (fun (r : Int32) (_ : Unit) => r = fX1_isReference S x0 ∧ (r = 0 ∨ r = 1)) (fun (_ : Unit) (t : State) => qEC g ad (va_A (WdC g ad S) sz) S t) (va_A (WdC g ad S) sz)) 0 0 (va_A (WdC g ad S) sz) := by
  refine Met.ofW (cc := cX1_isReference) (maxL := 1) (ret := (some .boolean)) (by decide) rfl ?_
  intro p e s m args below meth c s₁ B hml hv
  obtain ⟨rfl, hsz, hP, hK, hD0, hex, hE⟩ := hv
  have hx := B.exec
  have hb := B.bytes
  have hr := B.returns
  have hts0 := atoms_spec (ws := wt yX1_isReference cX1_isReference 1 (some .boolean)) B.pre
  have hts : ∀ w ∈ tb, w.before _ s = true := fun w h => hts0 w (List.mem_cons_of_mem _ h)
  have hown : s.vm.findClass RX1 = some m.cls := findClass_of_methodNamed B.named
  subst hsz
  have hD := hD0.self (sz := s.heap.size)
  generalize hAe : va_A (WdC g ad S) s.heap.size = A at hD hE ⊢
  have hA : ∀ q : Nat, s.heap.size ≤ q → A q := fun q h => by rw [← hAe]; exact Or.inr h
  have hR : RepC g ad A s S s.heap [] := ⟨hK, hP, hD, va_S.rf, hw⟩
  clear hK hP hD hD0
  have hl := lv_entry ([.int x0]) (n := 1) (Nat.le_of_ble_eq_true rfl)
  rw [lg_entry_eq]
  generalize (lg_sl ([.int x0]) ++ List.replicate (1 - (lg_sl ([.int x0])).length) Slot.unset).toArray = ls at hl ⊢
  have hl : lv_has ls 1 [(0, .int x0)] := hl
  obtain ⟨r0, hf⟩ : ∃ r0, fX1_isReference S x0 = r0 := ⟨_, rfl⟩
  have hf0 := hf
  unfold fX1_isReference at hf
  unfold d_X1_isReference at hd
  refine lv_iload_n hx hb dX1_isReference_0 rfl (lv_at hl 0 rfl) ?_
  refine lv_iconst (v := 4) hx hb dX1_isReference_1 (by decide) ?_
  have J_16 : ∀ (H : Heap) (locs : List Loc) (ls : Array Slot), d_X1_isReference_J16 S → f_X1_isReference_J16 S = r0 → RepC g ad A s S H locs → lv_has ls 1 [] → W p l e (headSpec (wt yX1_isReference cX1_isReference 1 (some .boolean)) ({ frames := 0, cells := 0, slots := 0, locals := 0 })).room s m ([.int x0] : List Value).toArray below meth c H locs 0 0 (MQ below (va_Qi (fun (r : Int32) (_ : Unit) => r = fX1_isReference S x0 ∧ (r = 0 ∨ r = 1)) (fun (_ : Unit) (t : State) => qEC g ad A S t) A) ([.int x0] : List Value).toArray s 0 0 A) (F0 m 16 ls []) := by
    intro H locs ls hd hf hR hl
    unfold d_X1_isReference_J16 at hd
    unfold f_X1_isReference_J16 at hf
    refine lv_iconst (v := 1) hx hb dX1_isReference_16 (by decide) ?_
    refine lv_goto (tgt := 21) hx hb dX1_isReference_17 (by decide) ?_
    exact W.zret (v := 1) hx hb hr (nz (Or.inr rfl)) (fun t9 ht9 hW9 => ⟨⟨_, (), rfl, ⟨hf.trans hf0.symm, (Or.inr rfl)⟩, ⟨by rw [ht9]; exact hR.P, hR.D⟩⟩, hR.sS.F ht9⟩) hR.sS.2.2 dX1_isReference_21
  refine lv_icmp_eq (tgt := 16) hx hb dX1_isReference_2 (by decide) (fun c1 => ?_) (fun c1 => ?_)
  · rw [if_pos (k_eq rfl (by decide) c1)] at hf
    (try rw [if_pos (k_eq rfl (by decide) c1)] at hd)
    exact J_16 _ _ ls hd hf  hR (lv_sub hl [] rfl)
  · rw [if_neg (k_ne rfl (by decide) c1)] at hf
    (try rw [if_neg (k_ne rfl (by decide) c1)] at hd)
    refine lv_iload_n hx hb dX1_isReference_5 rfl (lv_at hl 0 rfl) ?_
    refine lv_iconst (v := 5) hx hb dX1_isReference_6 (by decide) ?_
    refine lv_icmp_eq (tgt := 16) hx hb dX1_isReference_7 (by decide) (fun c2 => ?_) (fun c2 => ?_)
    · rw [if_pos (k_eq rfl (by decide) c2)] at hf
      (try rw [if_pos (k_eq rfl (by decide) c2)] at hd)
      exact J_16 _ _ ls hd hf  hR (lv_sub hl [] rfl)
    · rw [if_neg (k_ne rfl (by decide) c2)] at hf
      (try rw [if_neg (k_ne rfl (by decide) c2)] at hd)
      refine lv_iload_n hx hb dX1_isReference_10 rfl (lv_at hl 0 rfl) ?_
      refine lv_bipush (v := 6) hx hb dX1_isReference_11 (by decide) ?_
      refine lv_icmp_ne (tgt := 20) hx hb dX1_isReference_13 (by decide) (fun c3 => ?_) (fun c3 => ?_)
      · rw [if_neg (k_ne rfl (by decide) c3)] at hf
        (try rw [if_neg (k_ne rfl (by decide) c3)] at hd)
        refine lv_iconst (v := 0) hx hb dX1_isReference_20 (by decide) ?_
        exact W.zret (v := 0) hx hb hr (nz (Or.inl rfl)) (fun t9 ht9 hW9 => ⟨⟨_, (), rfl, ⟨hf.trans hf0.symm, (Or.inl rfl)⟩, ⟨by rw [ht9]; exact hR.P, hR.D⟩⟩, hR.sS.F ht9⟩) hR.sS.2.2 dX1_isReference_21
      · rw [if_pos (k_eq rfl (by decide) c3)] at hf
        (try rw [if_pos (k_eq rfl (by decide) c3)] at hd)
        exact J_16 _ _ ls hd hf  hR (lv_sub hl [] rfl)
def f_X1_isOnePlace_J21 (S : MS) : Int32 := (1 : Int32)
def d_X1_isOnePlace_J21 (S : MS) : Prop := True
def fX1_isOnePlace (S : MS) (x0 : Int32) : Int32 := (if x0.toInt = 1 then f_X1_isOnePlace_J21 S else (if x0.toInt = 4 then f_X1_isOnePlace_J21 S else (if x0.toInt = 5 then f_X1_isOnePlace_J21 S else (if x0.toInt = 6 then f_X1_isOnePlace_J21 S else (0 : Int32)))))
def d_X1_isOnePlace (S : MS) (x0 : Int32) : Prop := (if x0.toInt = 1 then d_X1_isOnePlace_J21 S else (if x0.toInt = 4 then d_X1_isOnePlace_J21 S else (if x0.toInt = 5 then d_X1_isOnePlace_J21 S else (if x0.toInt = 6 then d_X1_isOnePlace_J21 S else True))))
set_option maxHeartbeats 2000000 in
set_option maxRecDepth 100000 in
theorem rX1_isOnePlace (l : Launch) (g : Gr) (ad : Nat → Nat) (sz : Nat) (S : MS) (x0 : Int32) (hw : wfC S) (hd : d_X1_isOnePlace S x0) : Met l yX1_isOnePlace (wt yX1_isOnePlace cX1_isOnePlace 1 (some .boolean)) ({ frames := 0, cells := 0, slots := 0, locals := 0 }) (va_Pc [.int x0] (st_C g ad sz S)) (va_Qi (fun (r : Int32) (_ : Unit) => r = fX1_isOnePlace S x0 ∧ (r = 0 ∨ r = 1)) (fun (_ : Unit) (t : State) => qEC g ad (va_A (WdC g ad S) sz) S t) (va_A (WdC g ad S) sz)) 0 0 (va_A (WdC g ad S) sz) := by
  refine Met.ofW (cc := cX1_isOnePlace) (maxL := 1) (ret := (some .boolean)) (by decide) rfl ?_
  intro p e s m args below meth c s₁ B hml hv
  obtain ⟨rfl, hsz, hP, hK, hD0, hex, hE⟩ := hv
  have hx := B.exec
  have hb := B.bytes
  have hr := B.returns
  have hts0 := atoms_spec (ws := wt yX1_isOnePlace cX1_isOnePlace 1 (some .boolean)) B.pre
  have hts : ∀ w ∈ tb, w.before _ s = true := fun w h => hts0 w (List.mem_cons_of_mem _ h)
  have hown : s.vm.findClass RX1 = some m.cls := findClass_of_methodNamed B.named
  subst hsz
  have hD := hD0.self (sz := s.heap.size)
  generalize hAe : va_A (WdC g ad S) s.heap.size = A at hD hE ⊢
  have hA : ∀ q : Nat, s.heap.size ≤ q → A q := fun q h => by rw [← hAe]; exact Or.inr h
  have hR : RepC g ad A s S s.heap [] := ⟨hK, hP, hD, va_S.rf, hw⟩
  clear hK hP hD hD0
  have hl := lv_entry ([.int x0]) (n := 1) (Nat.le_of_ble_eq_true rfl)
  rw [lg_entry_eq]
  generalize (lg_sl ([.int x0]) ++ List.replicate (1 - (lg_sl ([.int x0])).length) Slot.unset).toArray = ls at hl ⊢
  have hl : lv_has ls 1 [(0, .int x0)] := hl
  obtain ⟨r0, hf⟩ : ∃ r0, fX1_isOnePlace S x0 = r0 := ⟨_, rfl⟩
  have hf0 := hf
  unfold fX1_isOnePlace at hf
  unfold d_X1_isOnePlace at hd
  refine lv_iload_n hx hb dX1_isOnePlace_0 rfl (lv_at hl 0 rfl) ?_
  refine lv_iconst (v := 1) hx hb dX1_isOnePlace_1 (by decide) ?_
  have J_21 : ∀ (H : Heap) (locs : List Loc) (ls : Array Slot), d_X1_isOnePlace_J21 S → f_X1_isOnePlace_J21 S = r0 → RepC g ad A s S H locs → lv_has ls 1 [] → W p l e (headSpec (wt yX1_isOnePlace cX1_isOnePlace 1 (some .boolean)) ({ frames := 0, cells := 0, slots := 0, locals := 0 })).room s m ([.int x0] : List Value).toArray below meth c H locs 0 0 (MQ below (va_Qi (fun (r : Int32) (_ : Unit) => r = fX1_isOnePlace S x0 ∧ (r = 0 ∨ r = 1)) (fun (_ : Unit) (t : State) => qEC g ad A S t) A) ([.int x0] : List Value).toArray s 0 0 A) (F0 m 21 ls []) := by
    intro H locs ls hd hf hR hl
    unfold d_X1_isOnePlace_J21 at hd
    unfold f_X1_isOnePlace_J21 at hf
    refine lv_iconst (v := 1) hx hb dX1_isOnePlace_21 (by decide) ?_
    refine lv_goto (tgt := 26) hx hb dX1_isOnePlace_22 (by decide) ?_
    exact W.zret (v := 1) hx hb hr (nz (Or.inr rfl)) (fun t9 ht9 hW9 => ⟨⟨_, (), rfl, ⟨hf.trans hf0.symm, (Or.inr rfl)⟩, ⟨by rw [ht9]; exact hR.P, hR.D⟩⟩, hR.sS.F ht9⟩) hR.sS.2.2 dX1_isOnePlace_26
  refine lv_icmp_eq (tgt := 21) hx hb dX1_isOnePlace_2 (by decide) (fun c1 => ?_) (fun c1 => ?_)
  · rw [if_pos (k_eq rfl (by decide) c1)] at hf
    (try rw [if_pos (k_eq rfl (by decide) c1)] at hd)
    exact J_21 _ _ ls hd hf  hR (lv_sub hl [] rfl)
  · rw [if_neg (k_ne rfl (by decide) c1)] at hf
    (try rw [if_neg (k_ne rfl (by decide) c1)] at hd)
    refine lv_iload_n hx hb dX1_isOnePlace_5 rfl (lv_at hl 0 rfl) ?_
    refine lv_iconst (v := 4) hx hb dX1_isOnePlace_6 (by decide) ?_
    refine lv_icmp_eq (tgt := 21) hx hb dX1_isOnePlace_7 (by decide) (fun c2 => ?_) (fun c2 => ?_)
    · rw [if_pos (k_eq rfl (by decide) c2)] at hf
      (try rw [if_pos (k_eq rfl (by decide) c2)] at hd)
      exact J_21 _ _ ls hd hf  hR (lv_sub hl [] rfl)
    · rw [if_neg (k_ne rfl (by decide) c2)] at hf
      (try rw [if_neg (k_ne rfl (by decide) c2)] at hd)
      refine lv_iload_n hx hb dX1_isOnePlace_10 rfl (lv_at hl 0 rfl) ?_
      refine lv_iconst (v := 5) hx hb dX1_isOnePlace_11 (by decide) ?_
      refine lv_icmp_eq (tgt := 21) hx hb dX1_isOnePlace_12 (by decide) (fun c3 => ?_) (fun c3 => ?_)
      · rw [if_pos (k_eq rfl (by decide) c3)] at hf
        (try rw [if_pos (k_eq rfl (by decide) c3)] at hd)
        exact J_21 _ _ ls hd hf  hR (lv_sub hl [] rfl)
      · rw [if_neg (k_ne rfl (by decide) c3)] at hf
        (try rw [if_neg (k_ne rfl (by decide) c3)] at hd)
        refine lv_iload_n hx hb dX1_isOnePlace_15 rfl (lv_at hl 0 rfl) ?_
        refine lv_bipush (v := 6) hx hb dX1_isOnePlace_16 (by decide) ?_
        refine lv_icmp_ne (tgt := 25) hx hb dX1_isOnePlace_18 (by decide) (fun c4 => ?_) (fun c4 => ?_)
        · rw [if_neg (k_ne rfl (by decide) c4)] at hf
          (try rw [if_neg (k_ne rfl (by decide) c4)] at hd)
          refine lv_iconst (v := 0) hx hb dX1_isOnePlace_25 (by decide) ?_
          exact W.zret (v := 0) hx hb hr (nz (Or.inl rfl)) (fun t9 ht9 hW9 => ⟨⟨_, (), rfl, ⟨hf.trans hf0.symm, (Or.inl rfl)⟩, ⟨by rw [ht9]; exact hR.P, hR.D⟩⟩, hR.sS.F ht9⟩) hR.sS.2.2 dX1_isOnePlace_26
        · rw [if_pos (k_eq rfl (by decide) c4)] at hf
          (try rw [if_pos (k_eq rfl (by decide) c4)] at hd)
          exact J_21 _ _ ls hd hf  hR (lv_sub hl [] rfl)
def w_X1_take_J55 (Q : Int32 → MS → Prop) (U55 : MS) (t55_0 : Int32) (t55_1 : Int32) (v55_2 : Int32) : Prop := (wfC U55 → (t55_0 = 0 ∨ t55_0 = 1) → (((t55_1 ||| t55_0) = 0 ∨ (t55_1 ||| t55_0) = 1) ∧ (∀ S8, S8 = wI U55 16 6 (t55_1 ||| t55_0) → qT U55 16 = 41 → wfC S8 → Q v55_2 S8)))
def w_X1_take_J90 (Q : Int32 → MS → Prop) (U90 : MS) (t90_0 : Int32) (t90_1 : Int32) (t90_2 : Int32) (v90_2 : Int32) : Prop := (wfC U90 → (t90_0 = 0 ∨ t90_0 = 1) → (((t90_2 ||| (t90_1 ||| t90_0)) = 0 ∨ (t90_2 ||| (t90_1 ||| t90_0)) = 1) ∧ (∀ S18, S18 = wI U90 16 6 (t90_2 ||| (t90_1 ||| t90_0)) → qT U90 16 = 41 → wfC S18 → Q v90_2 S18)))
def w_X1_take_J77 (Q : Int32 → MS → Prop) (U77 : MS) (t77_0 : Int32) (t77_1 : Int32) (v77_2 : Int32) : Prop := (wfC U77 → (t77_0 = 0 ∨ t77_0 = 1) → (∃ Q11, wX1_pop U77 Q11 ∧ ∀ r12 S13, Q11 r12 S13 → wfC S13 → shy U77 S13 → ((r12.toInt = 2 → w_X1_take_J90 Q S13 0 t77_0 t77_1 v77_2) ∧ (¬ r12.toInt = 2 → w_X1_take_J90 Q S13 1 t77_0 t77_1 v77_2))))
def w_X1_take_J119 (Q : Int32 → MS → Prop) (U119 : MS) (t119_0 : Int32) (t119_1 : Int32) (v119_2 : Int32) : Prop := (wfC U119 → (t119_0 = 0 ∨ t119_0 = 1) → (((t119_1 ||| t119_0) = 0 ∨ (t119_1 ||| t119_0) = 1) ∧ (∀ S24, S24 = wI U119 16 6 (t119_1 ||| t119_0) → qT U119 16 = 41 → wfC S24 → Q v119_2 S24)))
def w_X1_take_J118 (Q : Int32 → MS → Prop) (U118 : MS) (t118_0 : Int32) (v118_2 : Int32) : Prop := (wfC U118 → w_X1_take_J119 Q U118 0 t118_0 v118_2)
def w_X1_take_J171 (Q : Int32 → MS → Prop) (U171 : MS) (t171_0 : Int32) (t171_1 : Int32) (v171_2 : Int32) : Prop := (wfC U171 → (t171_0 = 0 ∨ t171_0 = 1) → (((t171_1 ||| t171_0) = 0 ∨ (t171_1 ||| t171_0) = 1) ∧ (∀ S33, S33 = wI U171 16 6 (t171_1 ||| t171_0) → qT U171 16 = 41 → wfC S33 → Q v171_2 S33)))
def w_X1_take_J147 (Q : Int32 → MS → Prop) (U147 : MS) (t147_0 : Int32) (t147_1 : Int32) (v147_2 : Int32) : Prop := (wfC U147 → (t147_0 = 0 ∨ t147_0 = 1) → (((t147_1 ||| t147_0) = 0 ∨ (t147_1 ||| t147_0) = 1) ∧ (∀ S38, S38 = wI U147 16 6 (t147_1 ||| t147_0) → qT U147 16 = 41 → wfC S38 → Q v147_2 S38)))
def w_X1_take_J146 (Q : Int32 → MS → Prop) (U146 : MS) (t146_0 : Int32) (v146_2 : Int32) : Prop := (wfC U146 → w_X1_take_J147 Q U146 0 t146_0 v146_2)
def w_X1_take_J195 (Q : Int32 → MS → Prop) (U195 : MS) (t195_0 : Int32) (t195_1 : Int32) (v195_2 : Int32) : Prop := (wfC U195 → (t195_0 = 0 ∨ t195_0 = 1) → (((t195_1 ||| t195_0) = 0 ∨ (t195_1 ||| t195_0) = 1) ∧ (∀ S47, S47 = wI U195 16 6 (t195_1 ||| t195_0) → qT U195 16 = 41 → wfC S47 → Q v195_2 S47)))
def wX1_take (S : MS) (x1 : Int32) (Q : Int32 → MS → Prop) : Prop := (∃ Q1, wX1_pop S Q1 ∧ ∀ r2 S3, Q1 r2 S3 → wfC S3 → shy S S3 → ((x1.toInt = 1 → ((r2.toInt = 1 → w_X1_take_J55 Q S3 0 (qI S3 16 6) r2) ∧ (¬ r2.toInt = 1 → w_X1_take_J55 Q S3 1 (qI S3 16 6) r2))) ∧ (¬ x1.toInt = 1 → ((x1.toInt = 2 → ((r2.toInt = 3 → w_X1_take_J77 Q S3 0 (qI S3 16 6) r2) ∧ (¬ r2.toInt = 3 → w_X1_take_J77 Q S3 1 (qI S3 16 6) r2))) ∧ (¬ x1.toInt = 2 → ((x1.toInt = 3 → ((r2.toInt = 4 → w_X1_take_J118 Q S3 (qI S3 16 6) r2) ∧ (¬ r2.toInt = 4 → ((r2.toInt = 6 → w_X1_take_J118 Q S3 (qI S3 16 6) r2) ∧ (¬ r2.toInt = 6 → w_X1_take_J119 Q S3 1 (qI S3 16 6) r2))))) ∧ (¬ x1.toInt = 3 → ((x1.toInt = 4 → (d_X1_isReference S3 r2 ∧ (((fX1_isReference S3 r2).toInt = 0 → w_X1_take_J171 Q S3 1 (qI S3 16 6) r2) ∧ (¬ (fX1_isReference S3 r2).toInt = 0 → w_X1_take_J171 Q S3 0 (qI S3 16 6) r2)))) ∧ (¬ x1.toInt = 4 → ((x1.toInt = 5 → ((r2.toInt = 5 → w_X1_take_J146 Q S3 (qI S3 16 6) r2) ∧ (¬ r2.toInt = 5 → ((r2.toInt = 6 → w_X1_take_J146 Q S3 (qI S3 16 6) r2) ∧ (¬ r2.toInt = 6 → w_X1_take_J147 Q S3 1 (qI S3 16 6) r2))))) ∧ (¬ x1.toInt = 5 → (d_X1_isOnePlace S3 r2 ∧ (((fX1_isOnePlace S3 r2).toInt = 0 → w_X1_take_J195 Q S3 1 (qI S3 16 6) r2) ∧ (¬ (fX1_isOnePlace S3 r2).toInt = 0 → w_X1_take_J195 Q S3 0 (qI S3 16 6) r2))))))))))))))
set_option maxHeartbeats 2000000 in
set_option maxRecDepth 100000 in
theorem rX1_take (l : Launch) (g : Gr) (ad : Nat → Nat) (sz : Nat) (S : MS) (x1 : Int32) (hw : wfC S) (Q : Int32 → MS → Prop) (h : wX1_take S x1 Q) : Met l yX1_take (wt yX1_take cX1_take 3 (some .int)) ({ frames := 1, cells := 0, slots := 0, locals := 20 }) (va_Pc [.ref (ad 16), .int x1] (st_C g ad sz S)) (va_Qi (fun (r : Int32) (u : MS) => Q r u ∧ wfC u ∧ shy S u) (fun (u : MS) (t : State) => qEC g ad (va_A (WdC g ad S) sz) u t) (va_A (WdC g ad S) sz)) 0 0 (va_A (WdC g ad S) sz) := by
  refine Met.ofW (cc := cX1_take) (maxL := 3) (ret := (some .int)) (by decide) rfl ?_
  intro p e s m args below meth c s₁ B hml hv
  obtain ⟨rfl, hsz, hP, hK, hD0, hex, hE⟩ := hv
  have hx := B.exec
  have hb := B.bytes
  have hr := B.returns
  have hts0 := atoms_spec (ws := wt yX1_take cX1_take 3 (some .int)) B.pre
  have hts : ∀ w ∈ tb, w.before _ s = true := fun w h => hts0 w (List.mem_cons_of_mem _ h)
  have hown : s.vm.findClass RX1 = some m.cls := findClass_of_methodNamed B.named
  subst hsz
  have hD := hD0.self (sz := s.heap.size)
  generalize hAe : va_A (WdC g ad S) s.heap.size = A at hD hE ⊢
  have hA : ∀ q : Nat, s.heap.size ≤ q → A q := fun q h => by rw [← hAe]; exact Or.inr h
  have hR : RepC g ad A s S s.heap [] := ⟨hK, hP, hD, va_S.rf, hw⟩
  clear hK hP hD hD0
  have hl := lv_entry ([.ref (ad 16), .int x1]) (n := 3) (Nat.le_of_ble_eq_true rfl)
  rw [lg_entry_eq]
  generalize (lg_sl ([.ref (ad 16), .int x1]) ++ List.replicate (3 - (lg_sl ([.ref (ad 16), .int x1])).length) Slot.unset).toArray = ls at hl ⊢
  have hl : lv_has ls 3 [(0, .ref (ad 16)), (1, .int x1)] := hl
  have hsh : shy S S := shy.rf
  unfold wX1_take at h
  refine lv_aload_n hx hb dX1_take_0 rfl (lv_at hl 0 rfl) ?_
  obtain ⟨Q1, h0, h⟩ := h
  have hFc := cfree hR hA
  refine va_calli (va_runV (As := []) (rest := []) ⟨hx, hb, hml, hown, hts⟩ (rX1_pop l g ad s.heap.size S hR.w  Q1 h0) (cwV 0 hts (gd_V kw_603 kw_582 kw_583 kw_392 kw_581) rfl rfl rfl (by decide +kernel) ⟨Nat.le_of_ble_eq_true rfl, Nat.le_of_ble_eq_true rfl⟩) ⟨cblind, va_recv hR.K hR.P (ci := 1) (q0 := 16) rfl (hR.at41 (hR.w.2.1 _ finC_27).2.1), fun U hU hW9 => cmk hU hW9 hR hex hE hFc⟩ rfl rfl hl.1 rfl (lv_room (Nat.le_of_ble_eq_true rfl)) dX1_take_1 ⟨Nat.le_of_ble_eq_true rfl, Nat.le_of_ble_eq_true rfl⟩) hR.sS (fun q _ h => hFc q h) hFc (fun r2 S3 t9 H1 locs ht9 hvm9 hw9 hB9 hz9 hk9 hS => ?_)
  obtain ⟨hq4, hw9, hs9⟩ := hw9
  have hR : RepC g ad A s S3 H1 locs := hR.call ht9 hB9 hw9 hS hFc
  have hsh := hsh.tr hs9
  replace h := h r2 S3 hq4 hw9 hs9
  clear hB9 hz9 hk9 hvm9 ht9 hw9 hs9 hS
  generalize H1 = H at hR ⊢
  refine lv_istore_n (lv' := [(2, .int r2), (0, .ref (ad 16)), (1, .int x1)]) hx hb dX1_take_4 rfl hl (by decide) rfl (fun ls hl => ?_)
  refine lv_iload_n hx hb dX1_take_5 rfl (lv_at hl 2 rfl) ?_
  by_cases c9_1 : x1.toInt = 1
  · refine lv_tableIn (off := 34) (tgt := 40) hx hb dX1_take_6 (by rw [c9_1]; decide) (by rw [c9_1]; decide) (by rw [c9_1]; rfl) (by decide) ?_
    replace h := h.1 (c9_1)
    refine lv_aload_n hx hb dX1_take_40 rfl (lv_at hl 1 rfl) ?_
    refine lv_dup hx hb dX1_take_41 rfl ?_
    refine va_get (D := rD g) (ci := 1) (v := .int (qI S3 16 6)) (C := RX1) (T := TX1) (N := 10) hx hb hts inX1 hown hR.K hR.P 16 (hR.at41 (hR.w.2.1 _ finC_27).2.1) rfl 6 (by decide) (hts _ kw_536) (fun _ h9 => h9) rfl dX1_take_42 ?_
    have hz5 := hR.w.bit (b := 16) (j := 6) ((hR.w.2.1 _ finC_27).2.1) (by decide)
    refine lv_iload_n hx hb dX1_take_45 rfl (lv_at hl 0 rfl) ?_
    refine lv_iconst (v := 1) hx hb dX1_take_46 (by decide) ?_
    have J_55 : ∀ (U55 : MS) (t55_0 : Int32) (t55_1 : Int32) (v55_2 : Int32) (H : Heap) (locs : List Loc) (ls : Array Slot), w_X1_take_J55 Q U55 t55_0 t55_1 v55_2 → (t55_0 = 0 ∨ t55_0 = 1) → shy S U55 → RepC g ad A s U55 H locs → lv_has ls 3 [(2, .int v55_2)] → W p l e (headSpec (wt yX1_take cX1_take 3 (some .int)) ({ frames := 1, cells := 0, slots := 0, locals := 20 })).room s m ([.ref (ad 16), .int x1] : List Value).toArray below meth c H locs 0 0 (MQ below (va_Qi (fun (r : Int32) (u : MS) => Q r u ∧ wfC u ∧ shy S u) (fun (u : MS) (t : State) => qEC g ad A u t) A) ([.ref (ad 16), .int x1] : List Value).toArray s 0 0 A) (F0 m 55 ls [.int t55_0, .int t55_1, .ref (ad 16)]) := by
      intro U55 t55_0 t55_1 v55_2 H locs ls h hz_t55_0 hsh hR hl
      unfold w_X1_take_J55 at h
      replace h := h hR.w hz_t55_0
      refine lv_ior hx hb dX1_take_55 ?_
      refine lv_topi (fun z6 ez6 => ?_)
      obtain rfl : z6 = (t55_1 ||| t55_0) := ez6
      obtain ⟨hv7, h⟩ := h
      refine va_put (D := rD g) (ci := 1) (v := .int (t55_1 ||| t55_0)) (ty := .boolean) (C := RX1) (T := TX1) (N := 10) hx hb hts inX1 tyX1 tyX1_ok nmX1 hown hR.K hR.P hR.D hR.sS 16 (hR.at41 (hR.w.2.1 _ finC_27).2.1) rfl 6 (by decide) (hts _ kw_536) (fun _ h9 => h9) rfl (by decide +kernel) (nz hv7) (fz2 hv7) (Nat.le_of_ble_eq_true rfl) dX1_take_56 (fun H locs hP hD hS => ?_)
      have hTk9 : qT U55 16 = 41 := (hR.w.2.1 _ finC_27).2.1
      have hR : RepC g ad A s (wI U55 16 6 (t55_1 ||| t55_0)) H locs := hR.pI41 (hR.w.2.1 _ finC_27).2.1 FX1_s6 (fun _ => hv7) hP hD hS
      obtain ⟨S8, eS8⟩ : ∃ z, z = wI U55 16 6 (t55_1 ||| t55_0) := ⟨_, rfl⟩
      rw [← eS8] at hR
      replace h := h S8 eS8 hTk9 hR.w
      have hsh : shy S S8 := by rw [eS8]; exact hsh
      refine lv_goto (tgt := 199) hx hb dX1_take_59 (by decide) ?_
      refine lv_iload_n hx hb dX1_take_199 rfl (lv_at hl 0 rfl) ?_
      exact W.iret (v := v55_2) hx hb hr (fun t9 ht9 hW9 => ⟨⟨_, S8, rfl, ⟨h, hR.w, hsh⟩, ⟨by rw [ht9]; exact hR.P, hR.D⟩⟩, hR.sS.F ht9⟩) hR.sS.2.2 dX1_take_200
    refine lv_icmp_eq (tgt := 54) hx hb dX1_take_47 (by decide) (fun c9 => ?_) (fun c9 => ?_)
    · replace h := h.1 (k_eq rfl (by decide) c9)
      refine lv_iconst (v := 0) hx hb dX1_take_54 (by decide) ?_
      exact J_55 S3 0 (qI S3 16 6) r2 _ _ ls h (Or.inl rfl) hsh hR (lv_sub hl [0] rfl)
    · replace h := h.2 (k_ne rfl (by decide) c9)
      refine lv_iconst (v := 1) hx hb dX1_take_50 (by decide) ?_
      refine lv_goto (tgt := 55) hx hb dX1_take_51 (by decide) ?_
      exact J_55 S3 1 (qI S3 16 6) r2 _ _ ls h (Or.inr rfl) hsh hR (lv_sub hl [0] rfl)
  replace h := h.2 c9_1
  by_cases c9_2 : x1.toInt = 2
  · refine lv_tableIn (off := 56) (tgt := 62) hx hb dX1_take_6 (by rw [c9_2]; decide) (by rw [c9_2]; decide) (by rw [c9_2]; rfl) (by decide) ?_
    replace h := h.1 (c9_2)
    refine lv_aload_n hx hb dX1_take_62 rfl (lv_at hl 1 rfl) ?_
    refine lv_dup hx hb dX1_take_63 rfl ?_
    refine va_get (D := rD g) (ci := 1) (v := .int (qI S3 16 6)) (C := RX1) (T := TX1) (N := 10) hx hb hts inX1 hown hR.K hR.P 16 (hR.at41 (hR.w.2.1 _ finC_27).2.1) rfl 6 (by decide) (hts _ kw_536) (fun _ h9 => h9) rfl dX1_take_64 ?_
    have hz10 := hR.w.bit (b := 16) (j := 6) ((hR.w.2.1 _ finC_27).2.1) (by decide)
    refine lv_iload_n hx hb dX1_take_67 rfl (lv_at hl 0 rfl) ?_
    refine lv_iconst (v := 3) hx hb dX1_take_68 (by decide) ?_
    have J_77 : ∀ (U77 : MS) (t77_0 : Int32) (t77_1 : Int32) (v77_2 : Int32) (H : Heap) (locs : List Loc) (ls : Array Slot), w_X1_take_J77 Q U77 t77_0 t77_1 v77_2 → (t77_0 = 0 ∨ t77_0 = 1) → shy S U77 → RepC g ad A s U77 H locs → lv_has ls 3 [(0, .ref (ad 16)), (2, .int v77_2)] → W p l e (headSpec (wt yX1_take cX1_take 3 (some .int)) ({ frames := 1, cells := 0, slots := 0, locals := 20 })).room s m ([.ref (ad 16), .int x1] : List Value).toArray below meth c H locs 0 0 (MQ below (va_Qi (fun (r : Int32) (u : MS) => Q r u ∧ wfC u ∧ shy S u) (fun (u : MS) (t : State) => qEC g ad A u t) A) ([.ref (ad 16), .int x1] : List Value).toArray s 0 0 A) (F0 m 77 ls [.int t77_0, .int t77_1, .ref (ad 16)]) := by
      intro U77 t77_0 t77_1 v77_2 H locs ls h hz_t77_0 hsh hR hl
      unfold w_X1_take_J77 at h
      replace h := h hR.w hz_t77_0
      refine lv_aload_n hx hb dX1_take_77 rfl (lv_at hl 0 rfl) ?_
      obtain ⟨Q11, h0, h⟩ := h
      have hFc := cfree hR hA
      refine va_calli (va_runV (As := []) (rest := [.int t77_0, .int t77_1, .ref (ad 16)]) ⟨hx, hb, hml, hown, hts⟩ (rX1_pop l g ad H.size U77 hR.w  Q11 h0) (cwV 0 hts (gd_V kw_603 kw_582 kw_583 kw_392 kw_581) rfl rfl rfl (by decide +kernel) ⟨Nat.le_of_ble_eq_true rfl, Nat.le_of_ble_eq_true rfl⟩) ⟨cblind, va_recv hR.K hR.P (ci := 1) (q0 := 16) rfl (hR.at41 (hR.w.2.1 _ finC_27).2.1), fun U hU hW9 => cmk hU hW9 hR hex hE hFc⟩ rfl rfl hl.1 rfl (lv_room (Nat.le_of_ble_eq_true rfl)) dX1_take_78 ⟨Nat.le_of_ble_eq_true rfl, Nat.le_of_ble_eq_true rfl⟩) hR.sS (fun q _ h => hFc q h) hFc (fun r12 S13 t9 H1 locs ht9 hvm9 hw9 hB9 hz9 hk9 hS => ?_)
      obtain ⟨hq14, hw9, hs9⟩ := hw9
      have hR : RepC g ad A s S13 H1 locs := hR.call ht9 hB9 hw9 hS hFc
      have hsh := hsh.tr hs9
      replace h := h r12 S13 hq14 hw9 hs9
      clear hB9 hz9 hk9 hvm9 ht9 hw9 hs9 hS
      generalize H1 = H at hR ⊢
      refine lv_iconst (v := 2) hx hb dX1_take_81 (by decide) ?_
      have J_90 : ∀ (U90 : MS) (t90_0 : Int32) (t90_1 : Int32) (t90_2 : Int32) (v90_2 : Int32) (H : Heap) (locs : List Loc) (ls : Array Slot), w_X1_take_J90 Q U90 t90_0 t90_1 t90_2 v90_2 → (t90_0 = 0 ∨ t90_0 = 1) → shy S U90 → RepC g ad A s U90 H locs → lv_has ls 3 [(2, .int v90_2)] → W p l e (headSpec (wt yX1_take cX1_take 3 (some .int)) ({ frames := 1, cells := 0, slots := 0, locals := 20 })).room s m ([.ref (ad 16), .int x1] : List Value).toArray below meth c H locs 0 0 (MQ below (va_Qi (fun (r : Int32) (u : MS) => Q r u ∧ wfC u ∧ shy S u) (fun (u : MS) (t : State) => qEC g ad A u t) A) ([.ref (ad 16), .int x1] : List Value).toArray s 0 0 A) (F0 m 90 ls [.int t90_0, .int t90_1, .int t90_2, .ref (ad 16)]) := by
        intro U90 t90_0 t90_1 t90_2 v90_2 H locs ls h hz_t90_0 hsh hR hl
        unfold w_X1_take_J90 at h
        replace h := h hR.w hz_t90_0
        refine lv_ior hx hb dX1_take_90 ?_
        refine lv_topi (fun z15 ez15 => ?_)
        obtain rfl : z15 = (t90_1 ||| t90_0) := ez15
        refine lv_ior hx hb dX1_take_91 ?_
        refine lv_topi (fun z16 ez16 => ?_)
        obtain rfl : z16 = (t90_2 ||| (t90_1 ||| t90_0)) := ez16
        obtain ⟨hv17, h⟩ := h
        refine va_put (D := rD g) (ci := 1) (v := .int (t90_2 ||| (t90_1 ||| t90_0))) (ty := .boolean) (C := RX1) (T := TX1) (N := 10) hx hb hts inX1 tyX1 tyX1_ok nmX1 hown hR.K hR.P hR.D hR.sS 16 (hR.at41 (hR.w.2.1 _ finC_27).2.1) rfl 6 (by decide) (hts _ kw_536) (fun _ h9 => h9) rfl (by decide +kernel) (nz hv17) (fz2 hv17) (Nat.le_of_ble_eq_true rfl) dX1_take_92 (fun H locs hP hD hS => ?_)
        have hTk9 : qT U90 16 = 41 := (hR.w.2.1 _ finC_27).2.1
        have hR : RepC g ad A s (wI U90 16 6 (t90_2 ||| (t90_1 ||| t90_0))) H locs := hR.pI41 (hR.w.2.1 _ finC_27).2.1 FX1_s6 (fun _ => hv17) hP hD hS
        obtain ⟨S18, eS18⟩ : ∃ z, z = wI U90 16 6 (t90_2 ||| (t90_1 ||| t90_0)) := ⟨_, rfl⟩
        rw [← eS18] at hR
        replace h := h S18 eS18 hTk9 hR.w
        have hsh : shy S S18 := by rw [eS18]; exact hsh
        refine lv_goto (tgt := 199) hx hb dX1_take_95 (by decide) ?_
        refine lv_iload_n hx hb dX1_take_199 rfl (lv_at hl 0 rfl) ?_
        exact W.iret (v := v90_2) hx hb hr (fun t9 ht9 hW9 => ⟨⟨_, S18, rfl, ⟨h, hR.w, hsh⟩, ⟨by rw [ht9]; exact hR.P, hR.D⟩⟩, hR.sS.F ht9⟩) hR.sS.2.2 dX1_take_200
      refine lv_icmp_eq (tgt := 89) hx hb dX1_take_82 (by decide) (fun c19 => ?_) (fun c19 => ?_)
      · replace h := h.1 (k_eq rfl (by decide) c19)
        refine lv_iconst (v := 0) hx hb dX1_take_89 (by decide) ?_
        exact J_90 S13 0 t77_0 t77_1 v77_2 _ _ ls h (Or.inl rfl) hsh hR (lv_sub hl [1] rfl)
      · replace h := h.2 (k_ne rfl (by decide) c19)
        refine lv_iconst (v := 1) hx hb dX1_take_85 (by decide) ?_
        refine lv_goto (tgt := 90) hx hb dX1_take_86 (by decide) ?_
        exact J_90 S13 1 t77_0 t77_1 v77_2 _ _ ls h (Or.inr rfl) hsh hR (lv_sub hl [1] rfl)
    refine lv_icmp_eq (tgt := 76) hx hb dX1_take_69 (by decide) (fun c20 => ?_) (fun c20 => ?_)
    · replace h := h.1 (k_eq rfl (by decide) c20)
      refine lv_iconst (v := 0) hx hb dX1_take_76 (by decide) ?_
      exact J_77 S3 0 (qI S3 16 6) r2 _ _ ls h (Or.inl rfl) hsh hR (lv_sub hl [1, 0] rfl)
    · replace h := h.2 (k_ne rfl (by decide) c20)
      refine lv_iconst (v := 1) hx hb dX1_take_72 (by decide) ?_
      refine lv_goto (tgt := 77) hx hb dX1_take_73 (by decide) ?_
      exact J_77 S3 1 (qI S3 16 6) r2 _ _ ls h (Or.inr rfl) hsh hR (lv_sub hl [1, 0] rfl)
  replace h := h.2 c9_2
  by_cases c9_3 : x1.toInt = 3
  · refine lv_tableIn (off := 92) (tgt := 98) hx hb dX1_take_6 (by rw [c9_3]; decide) (by rw [c9_3]; decide) (by rw [c9_3]; rfl) (by decide) ?_
    replace h := h.1 (c9_3)
    refine lv_aload_n hx hb dX1_take_98 rfl (lv_at hl 1 rfl) ?_
    refine lv_dup hx hb dX1_take_99 rfl ?_
    refine va_get (D := rD g) (ci := 1) (v := .int (qI S3 16 6)) (C := RX1) (T := TX1) (N := 10) hx hb hts inX1 hown hR.K hR.P 16 (hR.at41 (hR.w.2.1 _ finC_27).2.1) rfl 6 (by decide) (hts _ kw_536) (fun _ h9 => h9) rfl dX1_take_100 ?_
    have hz21 := hR.w.bit (b := 16) (j := 6) ((hR.w.2.1 _ finC_27).2.1) (by decide)
    refine lv_iload_n hx hb dX1_take_103 rfl (lv_at hl 0 rfl) ?_
    refine lv_iconst (v := 4) hx hb dX1_take_104 (by decide) ?_
    have J_119 : ∀ (U119 : MS) (t119_0 : Int32) (t119_1 : Int32) (v119_2 : Int32) (H : Heap) (locs : List Loc) (ls : Array Slot), w_X1_take_J119 Q U119 t119_0 t119_1 v119_2 → (t119_0 = 0 ∨ t119_0 = 1) → shy S U119 → RepC g ad A s U119 H locs → lv_has ls 3 [(2, .int v119_2)] → W p l e (headSpec (wt yX1_take cX1_take 3 (some .int)) ({ frames := 1, cells := 0, slots := 0, locals := 20 })).room s m ([.ref (ad 16), .int x1] : List Value).toArray below meth c H locs 0 0 (MQ below (va_Qi (fun (r : Int32) (u : MS) => Q r u ∧ wfC u ∧ shy S u) (fun (u : MS) (t : State) => qEC g ad A u t) A) ([.ref (ad 16), .int x1] : List Value).toArray s 0 0 A) (F0 m 119 ls [.int t119_0, .int t119_1, .ref (ad 16)]) := by
      intro U119 t119_0 t119_1 v119_2 H locs ls h hz_t119_0 hsh hR hl
      unfold w_X1_take_J119 at h
      replace h := h hR.w hz_t119_0
      refine lv_ior hx hb dX1_take_119 ?_
      refine lv_topi (fun z22 ez22 => ?_)
      obtain rfl : z22 = (t119_1 ||| t119_0) := ez22
      obtain ⟨hv23, h⟩ := h
      refine va_put (D := rD g) (ci := 1) (v := .int (t119_1 ||| t119_0)) (ty := .boolean) (C := RX1) (T := TX1) (N := 10) hx hb hts inX1 tyX1 tyX1_ok nmX1 hown hR.K hR.P hR.D hR.sS 16 (hR.at41 (hR.w.2.1 _ finC_27).2.1) rfl 6 (by decide) (hts _ kw_536) (fun _ h9 => h9) rfl (by decide +kernel) (nz hv23) (fz2 hv23) (Nat.le_of_ble_eq_true rfl) dX1_take_120 (fun H locs hP hD hS => ?_)
      have hTk9 : qT U119 16 = 41 := (hR.w.2.1 _ finC_27).2.1
      have hR : RepC g ad A s (wI U119 16 6 (t119_1 ||| t119_0)) H locs := hR.pI41 (hR.w.2.1 _ finC_27).2.1 FX1_s6 (fun _ => hv23) hP hD hS
      obtain ⟨S24, eS24⟩ : ∃ z, z = wI U119 16 6 (t119_1 ||| t119_0) := ⟨_, rfl⟩
      rw [← eS24] at hR
      replace h := h S24 eS24 hTk9 hR.w
      have hsh : shy S S24 := by rw [eS24]; exact hsh
      refine lv_goto (tgt := 199) hx hb dX1_take_123 (by decide) ?_
      refine lv_iload_n hx hb dX1_take_199 rfl (lv_at hl 0 rfl) ?_
      exact W.iret (v := v119_2) hx hb hr (fun t9 ht9 hW9 => ⟨⟨_, S24, rfl, ⟨h, hR.w, hsh⟩, ⟨by rw [ht9]; exact hR.P, hR.D⟩⟩, hR.sS.F ht9⟩) hR.sS.2.2 dX1_take_200
    have J_118 : ∀ (U118 : MS) (t118_0 : Int32) (v118_2 : Int32) (H : Heap) (locs : List Loc) (ls : Array Slot), w_X1_take_J118 Q U118 t118_0 v118_2 → shy S U118 → RepC g ad A s U118 H locs → lv_has ls 3 [(2, .int v118_2)] → W p l e (headSpec (wt yX1_take cX1_take 3 (some .int)) ({ frames := 1, cells := 0, slots := 0, locals := 20 })).room s m ([.ref (ad 16), .int x1] : List Value).toArray below meth c H locs 0 0 (MQ below (va_Qi (fun (r : Int32) (u : MS) => Q r u ∧ wfC u ∧ shy S u) (fun (u : MS) (t : State) => qEC g ad A u t) A) ([.ref (ad 16), .int x1] : List Value).toArray s 0 0 A) (F0 m 118 ls [.int t118_0, .ref (ad 16)]) := by
      intro U118 t118_0 v118_2 H locs ls h hsh hR hl
      unfold w_X1_take_J118 at h
      replace h := h hR.w
      refine lv_iconst (v := 0) hx hb dX1_take_118 (by decide) ?_
      exact J_119 U118 0 t118_0 v118_2 _ _ ls h (Or.inl rfl) hsh hR (lv_sub hl [0] rfl)
    refine lv_icmp_eq (tgt := 118) hx hb dX1_take_105 (by decide) (fun c25 => ?_) (fun c25 => ?_)
    · replace h := h.1 (k_eq rfl (by decide) c25)
      exact J_118 S3 (qI S3 16 6) r2 _ _ ls h  hsh hR (lv_sub hl [0] rfl)
    · replace h := h.2 (k_ne rfl (by decide) c25)
      refine lv_iload_n hx hb dX1_take_108 rfl (lv_at hl 0 rfl) ?_
      refine lv_bipush (v := 6) hx hb dX1_take_109 (by decide) ?_
      refine lv_icmp_eq (tgt := 118) hx hb dX1_take_111 (by decide) (fun c26 => ?_) (fun c26 => ?_)
      · replace h := h.1 (k_eq rfl (by decide) c26)
        exact J_118 S3 (qI S3 16 6) r2 _ _ ls h  hsh hR (lv_sub hl [0] rfl)
      · replace h := h.2 (k_ne rfl (by decide) c26)
        refine lv_iconst (v := 1) hx hb dX1_take_114 (by decide) ?_
        refine lv_goto (tgt := 119) hx hb dX1_take_115 (by decide) ?_
        exact J_119 S3 1 (qI S3 16 6) r2 _ _ ls h (Or.inr rfl) hsh hR (lv_sub hl [0] rfl)
  replace h := h.2 c9_3
  by_cases c9_4 : x1.toInt = 4
  · refine lv_tableIn (off := 148) (tgt := 154) hx hb dX1_take_6 (by rw [c9_4]; decide) (by rw [c9_4]; decide) (by rw [c9_4]; rfl) (by decide) ?_
    replace h := h.1 (c9_4)
    refine lv_aload_n hx hb dX1_take_154 rfl (lv_at hl 1 rfl) ?_
    refine lv_dup hx hb dX1_take_155 rfl ?_
    refine va_get (D := rD g) (ci := 1) (v := .int (qI S3 16 6)) (C := RX1) (T := TX1) (N := 10) hx hb hts inX1 hown hR.K hR.P 16 (hR.at41 (hR.w.2.1 _ finC_27).2.1) rfl 6 (by decide) (hts _ kw_536) (fun _ h9 => h9) rfl dX1_take_156 ?_
    have hz27 := hR.w.bit (b := 16) (j := 6) ((hR.w.2.1 _ finC_27).2.1) (by decide)
    refine lv_iload_n hx hb dX1_take_159 rfl (lv_at hl 0 rfl) ?_
    obtain ⟨hv28, h⟩ := h
    have hFc := cfree hR hA
    refine va_calli (va_runS (As := [.int r2]) (rest := [.int (qI S3 16 6), .ref (ad 16)]) ⟨hx, hb, hml, hown, hts⟩ (rX1_isReference l g ad H.size S3 r2 hR.w  hv28) (va_cwS 1 hts (gd_S kw_571 kw_557 kw_392 kw_556) rfl rfl rfl (by decide +kernel) ⟨Nat.le_of_ble_eq_true rfl, Nat.le_of_ble_eq_true rfl⟩) ⟨cblind, fun U hU hW9 => cmk hU hW9 hR hex hE hFc⟩ rfl rfl hl.1 rfl (lv_room (Nat.le_of_ble_eq_true rfl)) dX1_take_160 ⟨Nat.le_of_ble_eq_true rfl, Nat.le_of_ble_eq_true rfl⟩) hR.sS (fun q _ h => hFc q h) hFc (fun r29 u9 t9 H1 locs ht9 hvm9 hw9 hB9 hz9 hk9 hS => ?_)
    have hR : RepC g ad A s S3 H1 locs := hR.call ht9 hB9 hR.w hS hFc
    obtain ⟨rfl, hz_r29⟩ := hw9
    clear hB9 hz9 hk9 hvm9 ht9 hS
    generalize H1 = H at hR ⊢
    have J_171 : ∀ (U171 : MS) (t171_0 : Int32) (t171_1 : Int32) (v171_2 : Int32) (H : Heap) (locs : List Loc) (ls : Array Slot), w_X1_take_J171 Q U171 t171_0 t171_1 v171_2 → (t171_0 = 0 ∨ t171_0 = 1) → shy S U171 → RepC g ad A s U171 H locs → lv_has ls 3 [(2, .int v171_2)] → W p l e (headSpec (wt yX1_take cX1_take 3 (some .int)) ({ frames := 1, cells := 0, slots := 0, locals := 20 })).room s m ([.ref (ad 16), .int x1] : List Value).toArray below meth c H locs 0 0 (MQ below (va_Qi (fun (r : Int32) (u : MS) => Q r u ∧ wfC u ∧ shy S u) (fun (u : MS) (t : State) => qEC g ad A u t) A) ([.ref (ad 16), .int x1] : List Value).toArray s 0 0 A) (F0 m 171 ls [.int t171_0, .int t171_1, .ref (ad 16)]) := by
      intro U171 t171_0 t171_1 v171_2 H locs ls h hz_t171_0 hsh hR hl
      unfold w_X1_take_J171 at h
      replace h := h hR.w hz_t171_0
      refine lv_ior hx hb dX1_take_171 ?_
      refine lv_topi (fun z31 ez31 => ?_)
      obtain rfl : z31 = (t171_1 ||| t171_0) := ez31
      obtain ⟨hv32, h⟩ := h
      refine va_put (D := rD g) (ci := 1) (v := .int (t171_1 ||| t171_0)) (ty := .boolean) (C := RX1) (T := TX1) (N := 10) hx hb hts inX1 tyX1 tyX1_ok nmX1 hown hR.K hR.P hR.D hR.sS 16 (hR.at41 (hR.w.2.1 _ finC_27).2.1) rfl 6 (by decide) (hts _ kw_536) (fun _ h9 => h9) rfl (by decide +kernel) (nz hv32) (fz2 hv32) (Nat.le_of_ble_eq_true rfl) dX1_take_172 (fun H locs hP hD hS => ?_)
      have hTk9 : qT U171 16 = 41 := (hR.w.2.1 _ finC_27).2.1
      have hR : RepC g ad A s (wI U171 16 6 (t171_1 ||| t171_0)) H locs := hR.pI41 (hR.w.2.1 _ finC_27).2.1 FX1_s6 (fun _ => hv32) hP hD hS
      obtain ⟨S33, eS33⟩ : ∃ z, z = wI U171 16 6 (t171_1 ||| t171_0) := ⟨_, rfl⟩
      rw [← eS33] at hR
      replace h := h S33 eS33 hTk9 hR.w
      have hsh : shy S S33 := by rw [eS33]; exact hsh
      refine lv_goto (tgt := 199) hx hb dX1_take_175 (by decide) ?_
      refine lv_iload_n hx hb dX1_take_199 rfl (lv_at hl 0 rfl) ?_
      exact W.iret (v := v171_2) hx hb hr (fun t9 ht9 hW9 => ⟨⟨_, S33, rfl, ⟨h, hR.w, hsh⟩, ⟨by rw [ht9]; exact hR.P, hR.D⟩⟩, hR.sS.F ht9⟩) hR.sS.2.2 dX1_take_200
    refine lv_if_ne (tgt := 170) hx hb dX1_take_163 (by decide) (fun c34 => ?_) (fun c34 => ?_)
    · replace h := h.2 (k_ne rfl (by decide) c34)
      refine lv_iconst (v := 0) hx hb dX1_take_170 (by decide) ?_
      exact J_171 S3 0 (qI S3 16 6) r2 _ _ ls h (Or.inl rfl) hsh hR (lv_sub hl [0] rfl)
    · replace h := h.1 (k_eq rfl (by decide) c34)
      refine lv_iconst (v := 1) hx hb dX1_take_166 (by decide) ?_
      refine lv_goto (tgt := 171) hx hb dX1_take_167 (by decide) ?_
      exact J_171 S3 1 (qI S3 16 6) r2 _ _ ls h (Or.inr rfl) hsh hR (lv_sub hl [0] rfl)
  replace h := h.2 c9_4
  by_cases c9_5 : x1.toInt = 5
  · refine lv_tableIn (off := 120) (tgt := 126) hx hb dX1_take_6 (by rw [c9_5]; decide) (by rw [c9_5]; decide) (by rw [c9_5]; rfl) (by decide) ?_
    replace h := h.1 (c9_5)
    refine lv_aload_n hx hb dX1_take_126 rfl (lv_at hl 1 rfl) ?_
    refine lv_dup hx hb dX1_take_127 rfl ?_
    refine va_get (D := rD g) (ci := 1) (v := .int (qI S3 16 6)) (C := RX1) (T := TX1) (N := 10) hx hb hts inX1 hown hR.K hR.P 16 (hR.at41 (hR.w.2.1 _ finC_27).2.1) rfl 6 (by decide) (hts _ kw_536) (fun _ h9 => h9) rfl dX1_take_128 ?_
    have hz35 := hR.w.bit (b := 16) (j := 6) ((hR.w.2.1 _ finC_27).2.1) (by decide)
    refine lv_iload_n hx hb dX1_take_131 rfl (lv_at hl 0 rfl) ?_
    refine lv_iconst (v := 5) hx hb dX1_take_132 (by decide) ?_
    have J_147 : ∀ (U147 : MS) (t147_0 : Int32) (t147_1 : Int32) (v147_2 : Int32) (H : Heap) (locs : List Loc) (ls : Array Slot), w_X1_take_J147 Q U147 t147_0 t147_1 v147_2 → (t147_0 = 0 ∨ t147_0 = 1) → shy S U147 → RepC g ad A s U147 H locs → lv_has ls 3 [(2, .int v147_2)] → W p l e (headSpec (wt yX1_take cX1_take 3 (some .int)) ({ frames := 1, cells := 0, slots := 0, locals := 20 })).room s m ([.ref (ad 16), .int x1] : List Value).toArray below meth c H locs 0 0 (MQ below (va_Qi (fun (r : Int32) (u : MS) => Q r u ∧ wfC u ∧ shy S u) (fun (u : MS) (t : State) => qEC g ad A u t) A) ([.ref (ad 16), .int x1] : List Value).toArray s 0 0 A) (F0 m 147 ls [.int t147_0, .int t147_1, .ref (ad 16)]) := by
      intro U147 t147_0 t147_1 v147_2 H locs ls h hz_t147_0 hsh hR hl
      unfold w_X1_take_J147 at h
      replace h := h hR.w hz_t147_0
      refine lv_ior hx hb dX1_take_147 ?_
      refine lv_topi (fun z36 ez36 => ?_)
      obtain rfl : z36 = (t147_1 ||| t147_0) := ez36
      obtain ⟨hv37, h⟩ := h
      refine va_put (D := rD g) (ci := 1) (v := .int (t147_1 ||| t147_0)) (ty := .boolean) (C := RX1) (T := TX1) (N := 10) hx hb hts inX1 tyX1 tyX1_ok nmX1 hown hR.K hR.P hR.D hR.sS 16 (hR.at41 (hR.w.2.1 _ finC_27).2.1) rfl 6 (by decide) (hts _ kw_536) (fun _ h9 => h9) rfl (by decide +kernel) (nz hv37) (fz2 hv37) (Nat.le_of_ble_eq_true rfl) dX1_take_148 (fun H locs hP hD hS => ?_)
      have hTk9 : qT U147 16 = 41 := (hR.w.2.1 _ finC_27).2.1
      have hR : RepC g ad A s (wI U147 16 6 (t147_1 ||| t147_0)) H locs := hR.pI41 (hR.w.2.1 _ finC_27).2.1 FX1_s6 (fun _ => hv37) hP hD hS
      obtain ⟨S38, eS38⟩ : ∃ z, z = wI U147 16 6 (t147_1 ||| t147_0) := ⟨_, rfl⟩
      rw [← eS38] at hR
      replace h := h S38 eS38 hTk9 hR.w
      have hsh : shy S S38 := by rw [eS38]; exact hsh
      refine lv_goto (tgt := 199) hx hb dX1_take_151 (by decide) ?_
      refine lv_iload_n hx hb dX1_take_199 rfl (lv_at hl 0 rfl) ?_
      exact W.iret (v := v147_2) hx hb hr (fun t9 ht9 hW9 => ⟨⟨_, S38, rfl, ⟨h, hR.w, hsh⟩, ⟨by rw [ht9]; exact hR.P, hR.D⟩⟩, hR.sS.F ht9⟩) hR.sS.2.2 dX1_take_200
    have J_146 : ∀ (U146 : MS) (t146_0 : Int32) (v146_2 : Int32) (H : Heap) (locs : List Loc) (ls : Array Slot), w_X1_take_J146 Q U146 t146_0 v146_2 → shy S U146 → RepC g ad A s U146 H locs → lv_has ls 3 [(2, .int v146_2)] → W p l e (headSpec (wt yX1_take cX1_take 3 (some .int)) ({ frames := 1, cells := 0, slots := 0, locals := 20 })).room s m ([.ref (ad 16), .int x1] : List Value).toArray below meth c H locs 0 0 (MQ below (va_Qi (fun (r : Int32) (u : MS) => Q r u ∧ wfC u ∧ shy S u) (fun (u : MS) (t : State) => qEC g ad A u t) A) ([.ref (ad 16), .int x1] : List Value).toArray s 0 0 A) (F0 m 146 ls [.int t146_0, .ref (ad 16)]) := by
      intro U146 t146_0 v146_2 H locs ls h hsh hR hl
      unfold w_X1_take_J146 at h
      replace h := h hR.w
      refine lv_iconst (v := 0) hx hb dX1_take_146 (by decide) ?_
      exact J_147 U146 0 t146_0 v146_2 _ _ ls h (Or.inl rfl) hsh hR (lv_sub hl [0] rfl)
    refine lv_icmp_eq (tgt := 146) hx hb dX1_take_133 (by decide) (fun c39 => ?_) (fun c39 => ?_)
    · replace h := h.1 (k_eq rfl (by decide) c39)
      exact J_146 S3 (qI S3 16 6) r2 _ _ ls h  hsh hR (lv_sub hl [0] rfl)
    · replace h := h.2 (k_ne rfl (by decide) c39)
      refine lv_iload_n hx hb dX1_take_136 rfl (lv_at hl 0 rfl) ?_
      refine lv_bipush (v := 6) hx hb dX1_take_137 (by decide) ?_
      refine lv_icmp_eq (tgt := 146) hx hb dX1_take_139 (by decide) (fun c40 => ?_) (fun c40 => ?_)
      · replace h := h.1 (k_eq rfl (by decide) c40)
        exact J_146 S3 (qI S3 16 6) r2 _ _ ls h  hsh hR (lv_sub hl [0] rfl)
      · replace h := h.2 (k_ne rfl (by decide) c40)
        refine lv_iconst (v := 1) hx hb dX1_take_142 (by decide) ?_
        refine lv_goto (tgt := 147) hx hb dX1_take_143 (by decide) ?_
        exact J_147 S3 1 (qI S3 16 6) r2 _ _ ls h (Or.inr rfl) hsh hR (lv_sub hl [0] rfl)
  replace h := h.2 c9_5
  refine lv_tableOut (tgt := 178) hx hb dX1_take_6 (by omega) (by decide) ?_
  refine lv_aload_n hx hb dX1_take_178 rfl (lv_at hl 1 rfl) ?_
  refine lv_dup hx hb dX1_take_179 rfl ?_
  refine va_get (D := rD g) (ci := 1) (v := .int (qI S3 16 6)) (C := RX1) (T := TX1) (N := 10) hx hb hts inX1 hown hR.K hR.P 16 (hR.at41 (hR.w.2.1 _ finC_27).2.1) rfl 6 (by decide) (hts _ kw_536) (fun _ h9 => h9) rfl dX1_take_180 ?_
  have hz41 := hR.w.bit (b := 16) (j := 6) ((hR.w.2.1 _ finC_27).2.1) (by decide)
  refine lv_iload_n hx hb dX1_take_183 rfl (lv_at hl 0 rfl) ?_
  obtain ⟨hv42, h⟩ := h
  have hFc := cfree hR hA
  refine va_calli (va_runS (As := [.int r2]) (rest := [.int (qI S3 16 6), .ref (ad 16)]) ⟨hx, hb, hml, hown, hts⟩ (rX1_isOnePlace l g ad H.size S3 r2 hR.w  hv42) (va_cwS 1 hts (gd_S kw_604 kw_555 kw_392 kw_554) rfl rfl rfl (by decide +kernel) ⟨Nat.le_of_ble_eq_true rfl, Nat.le_of_ble_eq_true rfl⟩) ⟨cblind, fun U hU hW9 => cmk hU hW9 hR hex hE hFc⟩ rfl rfl hl.1 rfl (lv_room (Nat.le_of_ble_eq_true rfl)) dX1_take_184 ⟨Nat.le_of_ble_eq_true rfl, Nat.le_of_ble_eq_true rfl⟩) hR.sS (fun q _ h => hFc q h) hFc (fun r43 u9 t9 H1 locs ht9 hvm9 hw9 hB9 hz9 hk9 hS => ?_)
  have hR : RepC g ad A s S3 H1 locs := hR.call ht9 hB9 hR.w hS hFc
  obtain ⟨rfl, hz_r43⟩ := hw9
  clear hB9 hz9 hk9 hvm9 ht9 hS
  generalize H1 = H at hR ⊢
  have J_195 : ∀ (U195 : MS) (t195_0 : Int32) (t195_1 : Int32) (v195_2 : Int32) (H : Heap) (locs : List Loc) (ls : Array Slot), w_X1_take_J195 Q U195 t195_0 t195_1 v195_2 → (t195_0 = 0 ∨ t195_0 = 1) → shy S U195 → RepC g ad A s U195 H locs → lv_has ls 3 [(2, .int v195_2)] → W p l e (headSpec (wt yX1_take cX1_take 3 (some .int)) ({ frames := 1, cells := 0, slots := 0, locals := 20 })).room s m ([.ref (ad 16), .int x1] : List Value).toArray below meth c H locs 0 0 (MQ below (va_Qi (fun (r : Int32) (u : MS) => Q r u ∧ wfC u ∧ shy S u) (fun (u : MS) (t : State) => qEC g ad A u t) A) ([.ref (ad 16), .int x1] : List Value).toArray s 0 0 A) (F0 m 195 ls [.int t195_0, .int t195_1, .ref (ad 16)]) := by
    intro U195 t195_0 t195_1 v195_2 H locs ls h hz_t195_0 hsh hR hl
    unfold w_X1_take_J195 at h
    replace h := h hR.w hz_t195_0
    refine lv_ior hx hb dX1_take_195 ?_
    refine lv_topi (fun z45 ez45 => ?_)
    obtain rfl : z45 = (t195_1 ||| t195_0) := ez45
    obtain ⟨hv46, h⟩ := h
    refine va_put (D := rD g) (ci := 1) (v := .int (t195_1 ||| t195_0)) (ty := .boolean) (C := RX1) (T := TX1) (N := 10) hx hb hts inX1 tyX1 tyX1_ok nmX1 hown hR.K hR.P hR.D hR.sS 16 (hR.at41 (hR.w.2.1 _ finC_27).2.1) rfl 6 (by decide) (hts _ kw_536) (fun _ h9 => h9) rfl (by decide +kernel) (nz hv46) (fz2 hv46) (Nat.le_of_ble_eq_true rfl) dX1_take_196 (fun H locs hP hD hS => ?_)
    have hTk9 : qT U195 16 = 41 := (hR.w.2.1 _ finC_27).2.1
    have hR : RepC g ad A s (wI U195 16 6 (t195_1 ||| t195_0)) H locs := hR.pI41 (hR.w.2.1 _ finC_27).2.1 FX1_s6 (fun _ => hv46) hP hD hS
    obtain ⟨S47, eS47⟩ : ∃ z, z = wI U195 16 6 (t195_1 ||| t195_0) := ⟨_, rfl⟩
    rw [← eS47] at hR
    replace h := h S47 eS47 hTk9 hR.w
    have hsh : shy S S47 := by rw [eS47]; exact hsh
    refine lv_iload_n hx hb dX1_take_199 rfl (lv_at hl 0 rfl) ?_
    exact W.iret (v := v195_2) hx hb hr (fun t9 ht9 hW9 => ⟨⟨_, S47, rfl, ⟨h, hR.w, hsh⟩, ⟨by rw [ht9]; exact hR.P, hR.D⟩⟩, hR.sS.F ht9⟩) hR.sS.2.2 dX1_take_200
  refine lv_if_ne (tgt := 194) hx hb dX1_take_187 (by decide) (fun c48 => ?_) (fun c48 => ?_)
  · replace h := h.2 (k_ne rfl (by decide) c48)
    refine lv_iconst (v := 0) hx hb dX1_take_194 (by decide) ?_
    exact J_195 S3 0 (qI S3 16 6) r2 _ _ ls h (Or.inl rfl) hsh hR (lv_sub hl [0] rfl)
  · replace h := h.1 (k_eq rfl (by decide) c48)
    refine lv_iconst (v := 1) hx hb dX1_take_190 (by decide) ?_
    refine lv_goto (tgt := 195) hx hb dX1_take_191 (by decide) ?_
    exact J_195 S3 1 (qI S3 16 6) r2 _ _ ls h (Or.inr rfl) hsh hR (lv_sub hl [0] rfl)
def w_X1_give_J12 (Q : MS → Prop) (U12 : MS) (v12_1 : Int32) : Prop := (wfC U12 → ((v12_1.toInt = 2 → (∃ Q2, wX1_push U12 (3 : Int32) Q2 ∧ ∀ S3, Q2 S3 → wfC S3 → shy U12 S3 → Q S3)) ∧ (¬ v12_1.toInt = 2 → Q U12)))
def wX1_give (S : MS) (x1 : Int32) (Q : MS → Prop) : Prop := ((x1.toInt = 0 → w_X1_give_J12 Q S x1) ∧ (¬ x1.toInt = 0 → (d_X1_lowerType S x1 ∧ (∀ a9 : Int32, a9 = (fX1_lowerType S x1) → (∃ Q10, wX1_push S a9 Q10 ∧ ∀ S11, Q10 S11 → wfC S11 → shy S S11 → w_X1_give_J12 Q S11 x1)))))
set_option maxHeartbeats 2000000 in
set_option maxRecDepth 100000 in
theorem rX1_give (l : Launch) (g : Gr) (ad : Nat → Nat) (sz : Nat) (S : MS) (x1 : Int32) (hw : wfC S) (Q : MS → Prop) (h : wX1_give S x1 Q) : Met l yX1_give (wt yX1_give cX1_give 2 none) ({ frames := 1, cells := 0, slots := 0, locals := 21 }) (va_Pc [.ref (ad 16), .int x1] (st_C g ad sz S)) (va_Qv (fun (u : MS) => Q u ∧ wfC u ∧ shy S u) (fun (u : MS) (t : State) => qEC g ad (va_A (WdC g ad S) sz) u t) (va_A (WdC g ad S) sz)) 0 0 (va_A (WdC g ad S) sz) := by
  refine Met.ofW (cc := cX1_give) (maxL := 2) (ret := none) (by decide) rfl ?_
  intro p e s m args below meth c s₁ B hml hv
  obtain ⟨rfl, hsz, hP, hK, hD0, hex, hE⟩ := hv
  have hx := B.exec
  have hb := B.bytes
  have hr := B.returns
  have hts0 := atoms_spec (ws := wt yX1_give cX1_give 2 none) B.pre
  have hts : ∀ w ∈ tb, w.before _ s = true := fun w h => hts0 w (List.mem_cons_of_mem _ h)
  have hown : s.vm.findClass RX1 = some m.cls := findClass_of_methodNamed B.named
  subst hsz
  have hD := hD0.self (sz := s.heap.size)
  generalize hAe : va_A (WdC g ad S) s.heap.size = A at hD hE ⊢
  have hA : ∀ q : Nat, s.heap.size ≤ q → A q := fun q h => by rw [← hAe]; exact Or.inr h
  have hR : RepC g ad A s S s.heap [] := ⟨hK, hP, hD, va_S.rf, hw⟩
  clear hK hP hD hD0
  have hl := lv_entry ([.ref (ad 16), .int x1]) (n := 2) (Nat.le_of_ble_eq_true rfl)
  rw [lg_entry_eq]
  generalize (lg_sl ([.ref (ad 16), .int x1]) ++ List.replicate (2 - (lg_sl ([.ref (ad 16), .int x1])).length) Slot.unset).toArray = ls at hl ⊢
  have hl : lv_has ls 2 [(0, .ref (ad 16)), (1, .int x1)] := hl
  have hsh : shy S S := shy.rf
  unfold wX1_give at h
  refine lv_iload_n hx hb dX1_give_0 rfl (lv_at hl 1 rfl) ?_
  have J_12 : ∀ (U12 : MS) (v12_1 : Int32) (H : Heap) (locs : List Loc) (ls : Array Slot), w_X1_give_J12 Q U12 v12_1 → shy S U12 → RepC g ad A s U12 H locs → lv_has ls 2 [(0, .ref (ad 16)), (1, .int v12_1)] → W p l e (headSpec (wt yX1_give cX1_give 2 none) ({ frames := 1, cells := 0, slots := 0, locals := 21 })).room s m ([.ref (ad 16), .int x1] : List Value).toArray below meth c H locs 0 0 (MQ below (va_Qv (fun (u : MS) => Q u ∧ wfC u ∧ shy S u) (fun (u : MS) (t : State) => qEC g ad A u t) A) ([.ref (ad 16), .int x1] : List Value).toArray s 0 0 A) (F0 m 12 ls []) := by
    intro U12 v12_1 H locs ls h hsh hR hl
    unfold w_X1_give_J12 at h
    replace h := h hR.w
    refine lv_iload_n hx hb dX1_give_12 rfl (lv_at hl 1 rfl) ?_
    refine lv_iconst (v := 2) hx hb dX1_give_13 (by decide) ?_
    refine lv_icmp_ne (tgt := 22) hx hb dX1_give_14 (by decide) (fun c1 => ?_) (fun c1 => ?_)
    · replace h := h.2 (k_ne rfl (by decide) c1)
      exact W.vret hx hb hr (fun t9 ht9 hW9 => ⟨⟨U12, rfl, ⟨h, hR.w, hsh⟩, ⟨by rw [ht9]; exact hR.P, hR.D⟩⟩, hR.sS.F ht9⟩) hR.sS.2.2 dX1_give_22
    · replace h := h.1 (k_eq rfl (by decide) c1)
      refine lv_aload_n hx hb dX1_give_17 rfl (lv_at hl 0 rfl) ?_
      refine lv_iconst (v := 3) hx hb dX1_give_18 (by decide) ?_
      obtain ⟨Q2, h0, h⟩ := h
      have hFc := cfree hR hA
      refine va_callv (va_runV (As := [.int 3]) (rest := []) ⟨hx, hb, hml, hown, hts⟩ (rX1_push l g ad H.size U12 (3 : Int32) hR.w  Q2 h0) (cwV 1 hts (gd_V kw_526 kw_585 kw_586 kw_392 kw_584) rfl rfl rfl (by decide +kernel) ⟨Nat.le_of_ble_eq_true rfl, Nat.le_of_ble_eq_true rfl⟩) ⟨cblind, va_recv hR.K hR.P (ci := 1) (q0 := 16) rfl (hR.at41 (hR.w.2.1 _ finC_27).2.1), fun U hU hW9 => cmk hU hW9 hR hex hE hFc⟩ rfl rfl hl.1 rfl (lv_room (Nat.le_of_ble_eq_true rfl)) dX1_give_19 ⟨Nat.le_of_ble_eq_true rfl, Nat.le_of_ble_eq_true rfl⟩) hR.sS (fun q _ h => hFc q h) hFc (fun  S3 t9 H1 locs ht9 hvm9 hw9 hB9 hz9 hk9 hS => ?_)
      obtain ⟨hq4, hw9, hs9⟩ := hw9
      have hR : RepC g ad A s S3 H1 locs := hR.call ht9 hB9 hw9 hS hFc
      have hsh := hsh.tr hs9
      replace h := h  S3 hq4 hw9 hs9
      clear hB9 hz9 hk9 hvm9 ht9 hw9 hs9 hS
      generalize H1 = H at hR ⊢
      exact W.vret hx hb hr (fun t9 ht9 hW9 => ⟨⟨S3, rfl, ⟨h, hR.w, hsh⟩, ⟨by rw [ht9]; exact hR.P, hR.D⟩⟩, hR.sS.F ht9⟩) hR.sS.2.2 dX1_give_22
  refine lv_if_eq (tgt := 12) hx hb dX1_give_1 (by decide) (fun c5 => ?_) (fun c5 => ?_)
  · replace h := h.1 (k_eq rfl (by decide) c5)
    exact J_12 S x1 _ _ ls h  hsh hR (lv_sub hl [0, 1] rfl)
  · replace h := h.2 (k_ne rfl (by decide) c5)
    refine lv_aload_n hx hb dX1_give_4 rfl (lv_at hl 0 rfl) ?_
    refine lv_iload_n hx hb dX1_give_5 rfl (lv_at hl 1 rfl) ?_
    obtain ⟨hv6, h⟩ := h
    have hFc := cfree hR hA
    refine va_calli (va_runS (As := [.int x1]) (rest := [.ref (ad 16)]) ⟨hx, hb, hml, hown, hts⟩ (rX1_lowerType l g ad s.heap.size S x1 hR.w  hv6) (va_cwS 1 hts (gd_S kw_484 kw_574 kw_392 kw_573) rfl rfl rfl (by decide +kernel) ⟨Nat.le_of_ble_eq_true rfl, Nat.le_of_ble_eq_true rfl⟩) ⟨cblind, fun U hU hW9 => cmk hU hW9 hR hex hE hFc⟩ rfl rfl hl.1 rfl (lv_room (Nat.le_of_ble_eq_true rfl)) dX1_give_6 ⟨Nat.le_of_ble_eq_true rfl, Nat.le_of_ble_eq_true rfl⟩) hR.sS (fun q _ h => hFc q h) hFc (fun r7 u9 t9 H1 locs ht9 hvm9 hw9 hB9 hz9 hk9 hS => ?_)
    have hR : RepC g ad A s S H1 locs := hR.call ht9 hB9 hR.w hS hFc
    obtain rfl : r7 = (fX1_lowerType S x1) := hw9
    clear hB9 hz9 hk9 hvm9 ht9 hS
    generalize H1 = H at hR ⊢
    obtain ⟨a9, ea9⟩ : ∃ z, z = (fX1_lowerType S x1) := ⟨_, rfl⟩
    rw [← ea9]
    replace h := h a9 ea9
    obtain ⟨Q10, h0, h⟩ := h
    have hFc := cfree hR hA
    refine va_callv (va_runV (As := [.int a9]) (rest := []) ⟨hx, hb, hml, hown, hts⟩ (rX1_push l g ad H.size S a9 hR.w  Q10 h0) (cwV 1 hts (gd_V kw_526 kw_585 kw_586 kw_392 kw_584) rfl rfl rfl (by decide +kernel) ⟨Nat.le_of_ble_eq_true rfl, Nat.le_of_ble_eq_true rfl⟩) ⟨cblind, va_recv hR.K hR.P (ci := 1) (q0 := 16) rfl (hR.at41 (hR.w.2.1 _ finC_27).2.1), fun U hU hW9 => cmk hU hW9 hR hex hE hFc⟩ rfl rfl hl.1 rfl (lv_room (Nat.le_of_ble_eq_true rfl)) dX1_give_9 ⟨Nat.le_of_ble_eq_true rfl, Nat.le_of_ble_eq_true rfl⟩) hR.sS (fun q _ h => hFc q h) hFc (fun  S11 t9 H1 locs ht9 hvm9 hw9 hB9 hz9 hk9 hS => ?_)
    obtain ⟨hq12, hw9, hs9⟩ := hw9
    have hR : RepC g ad A s S11 H1 locs := hR.call ht9 hB9 hw9 hS hFc
    have hsh := hsh.tr hs9
    replace h := h  S11 hq12 hw9 hs9
    clear hB9 hz9 hk9 hvm9 ht9 hw9 hs9 hS
    generalize H1 = H at hR ⊢
    exact J_12 S11 x1 _ _ ls h  hsh hR (lv_sub hl [0, 1] rfl)
def wX1_takeCopy (S : MS) (Q : Int32 → MS → Prop) : Prop := (∃ Q1, wX1_take S (6 : Int32) Q1 ∧ ∀ r2 S3, Q1 r2 S3 → wfC S3 → shy S S3 → (d_X1_isOnePlace S3 r2 ∧ (((fX1_isOnePlace S3 r2).toInt = 0 → Q (0 : Int32) S3) ∧ (¬ (fX1_isOnePlace S3 r2).toInt = 0 → Q r2 S3))))
set_option maxHeartbeats 2000000 in
set_option maxRecDepth 100000 in
theorem rX1_takeCopy (l : Launch) (g : Gr) (ad : Nat → Nat) (sz : Nat) (S : MS) (hw : wfC S) (Q : Int32 → MS → Prop) (h : wX1_takeCopy S Q) : Met l yX1_takeCopy (wt yX1_takeCopy cX1_takeCopy 2 (some .int)) ({ frames := 2, cells := 0, slots := 0, locals := 42 }) (va_Pc [.ref (ad 16)] (st_C g ad sz S)) (va_Qi (fun (r : Int32) (u : MS) => Q r u ∧ wfC u ∧ shy S u) (fun (u : MS) (t : State) => qEC g ad (va_A (WdC g ad S) sz) u t) (va_A (WdC g ad S) sz)) 0 0 (va_A (WdC g ad S) sz) := by
  refine Met.ofW (cc := cX1_takeCopy) (maxL := 2) (ret := (some .int)) (by decide) rfl ?_
  intro p e s m args below meth c s₁ B hml hv
  obtain ⟨rfl, hsz, hP, hK, hD0, hex, hE⟩ := hv
  have hx := B.exec
  have hb := B.bytes
  have hr := B.returns
  have hts0 := atoms_spec (ws := wt yX1_takeCopy cX1_takeCopy 2 (some .int)) B.pre
  have hts : ∀ w ∈ tb, w.before _ s = true := fun w h => hts0 w (List.mem_cons_of_mem _ h)
  have hown : s.vm.findClass RX1 = some m.cls := findClass_of_methodNamed B.named
  subst hsz
  have hD := hD0.self (sz := s.heap.size)
  generalize hAe : va_A (WdC g ad S) s.heap.size = A at hD hE ⊢
  have hA : ∀ q : Nat, s.heap.size ≤ q → A q := fun q h => by rw [← hAe]; exact Or.inr h
  have hR : RepC g ad A s S s.heap [] := ⟨hK, hP, hD, va_S.rf, hw⟩
  clear hK hP hD hD0
  have hl := lv_entry ([.ref (ad 16)]) (n := 2) (Nat.le_of_ble_eq_true rfl)
  rw [lg_entry_eq]
  generalize (lg_sl ([.ref (ad 16)]) ++ List.replicate (2 - (lg_sl ([.ref (ad 16)])).length) Slot.unset).toArray = ls at hl ⊢
  have hl : lv_has ls 2 [(0, .ref (ad 16))] := hl
  have hsh : shy S S := shy.rf
  unfold wX1_takeCopy at h
  refine lv_aload_n hx hb dX1_takeCopy_0 rfl (lv_at hl 0 rfl) ?_
  refine lv_bipush (v := 6) hx hb dX1_takeCopy_1 (by decide) ?_
  obtain ⟨Q1, h0, h⟩ := h
  have hFc := cfree hR hA
  refine va_calli (va_runV (As := [.int 6]) (rest := []) ⟨hx, hb, hml, hown, hts⟩ (rX1_take l g ad s.heap.size S (6 : Int32) hR.w  Q1 h0) (cwV 1 hts (gd_V kw_539 kw_601 kw_602 kw_392 kw_600) rfl rfl rfl (by decide +kernel) ⟨Nat.le_of_ble_eq_true rfl, Nat.le_of_ble_eq_true rfl⟩) ⟨cblind, va_recv hR.K hR.P (ci := 1) (q0 := 16) rfl (hR.at41 (hR.w.2.1 _ finC_27).2.1), fun U hU hW9 => cmk hU hW9 hR hex hE hFc⟩ rfl rfl hl.1 rfl (lv_room (Nat.le_of_ble_eq_true rfl)) dX1_takeCopy_3 ⟨Nat.le_of_ble_eq_true rfl, Nat.le_of_ble_eq_true rfl⟩) hR.sS (fun q _ h => hFc q h) hFc (fun r2 S3 t9 H1 locs ht9 hvm9 hw9 hB9 hz9 hk9 hS => ?_)
  obtain ⟨hq4, hw9, hs9⟩ := hw9
  have hR : RepC g ad A s S3 H1 locs := hR.call ht9 hB9 hw9 hS hFc
  have hsh := hsh.tr hs9
  replace h := h r2 S3 hq4 hw9 hs9
  clear hB9 hz9 hk9 hvm9 ht9 hw9 hs9 hS
  generalize H1 = H at hR ⊢
  refine lv_istore_n (lv' := [(1, .int r2), (0, .ref (ad 16))]) hx hb dX1_takeCopy_6 rfl hl (by decide) rfl (fun ls hl => ?_)
  refine lv_iload_n hx hb dX1_takeCopy_7 rfl (lv_at hl 0 rfl) ?_
  obtain ⟨hv5, h⟩ := h
  have hFc := cfree hR hA
  refine va_calli (va_runS (As := [.int r2]) (rest := []) ⟨hx, hb, hml, hown, hts⟩ (rX1_isOnePlace l g ad H.size S3 r2 hR.w  hv5) (va_cwS 1 hts (gd_S kw_604 kw_555 kw_392 kw_554) rfl rfl rfl (by decide +kernel) ⟨Nat.le_of_ble_eq_true rfl, Nat.le_of_ble_eq_true rfl⟩) ⟨cblind, fun U hU hW9 => cmk hU hW9 hR hex hE hFc⟩ rfl rfl hl.1 rfl (lv_room (Nat.le_of_ble_eq_true rfl)) dX1_takeCopy_8 ⟨Nat.le_of_ble_eq_true rfl, Nat.le_of_ble_eq_true rfl⟩) hR.sS (fun q _ h => hFc q h) hFc (fun r6 u9 t9 H1 locs ht9 hvm9 hw9 hB9 hz9 hk9 hS => ?_)
  have hR : RepC g ad A s S3 H1 locs := hR.call ht9 hB9 hR.w hS hFc
  obtain ⟨rfl, hz_r6⟩ := hw9
  clear hB9 hz9 hk9 hvm9 ht9 hS
  generalize H1 = H at hR ⊢
  refine lv_if_eq (tgt := 18) hx hb dX1_takeCopy_11 (by decide) (fun c8 => ?_) (fun c8 => ?_)
  · replace h := h.1 (k_eq rfl (by decide) c8)
    refine lv_iconst (v := 0) hx hb dX1_takeCopy_18 (by decide) ?_
    exact W.iret (v := 0) hx hb hr (fun t9 ht9 hW9 => ⟨⟨_, S3, rfl, ⟨h, hR.w, hsh⟩, ⟨by rw [ht9]; exact hR.P, hR.D⟩⟩, hR.sS.F ht9⟩) hR.sS.2.2 dX1_takeCopy_19
  · replace h := h.2 (k_ne rfl (by decide) c8)
    refine lv_iload_n hx hb dX1_takeCopy_14 rfl (lv_at hl 0 rfl) ?_
    refine lv_goto (tgt := 19) hx hb dX1_takeCopy_15 (by decide) ?_
    exact W.iret (v := r2) hx hb hr (fun t9 ht9 hW9 => ⟨⟨_, S3, rfl, ⟨h, hR.w, hsh⟩, ⟨by rw [ht9]; exact hR.P, hR.D⟩⟩, hR.sS.F ht9⟩) hR.sS.2.2 dX1_takeCopy_19
def f_X1_hasLong_J46 (S : MS) : Int32 := (0 : Int32)
def d_X1_hasLong_J46 (S : MS) : Prop := True
def fX1_hasLong (S : MS) : Int32 := (if (qI S 16 5).toInt < 2 then f_X1_hasLong_J46 S else (if (fX1_placeAt S (((24 : Int32) + (qI S 16 5)) - (1 : Int32))).toInt = 3 then (if (fX1_placeAt S (((24 : Int32) + (qI S 16 5)) - (2 : Int32))).toInt = 2 then (1 : Int32) else f_X1_hasLong_J46 S) else f_X1_hasLong_J46 S))
def d_X1_hasLong (S : MS) : Prop := (if (qI S 16 5).toInt < 2 then d_X1_hasLong_J46 S else (d_X1_placeAt S (((24 : Int32) + (qI S 16 5)) - (1 : Int32)) ∧ (if (fX1_placeAt S (((24 : Int32) + (qI S 16 5)) - (1 : Int32))).toInt = 3 then (d_X1_placeAt S (((24 : Int32) + (qI S 16 5)) - (2 : Int32)) ∧ (if (fX1_placeAt S (((24 : Int32) + (qI S 16 5)) - (2 : Int32))).toInt = 2 then True else d_X1_hasLong_J46 S)) else d_X1_hasLong_J46 S)))
set_option maxHeartbeats 2000000 in
set_option maxRecDepth 100000 in
theorem rX1_hasLong (l : Launch) (g : Gr) (ad : Nat → Nat) (sz : Nat) (S : MS) (hw : wfC S) (hd : d_X1_hasLong S) : Met l yX1_hasLong (wt yX1_hasLong cX1_hasLong 1 (some .boolean)) ({ frames := 1, cells := 0, slots := 0, locals := 21 }) (va_Pc [.ref (ad 16)] (st_C g ad sz S)) (va_Qi (fun (r : Int32) (_ : Unit) => r = fX1_hasLong S ∧ (r = 0 ∨ r = 1)) (fun (_ : Unit) (t : State) => qEC g ad (va_A (WdC g ad S) sz) S t) (va_A (WdC g ad S) sz)) 0 0 (va_A (WdC g ad S) sz) := by
  refine Met.ofW (cc := cX1_hasLong) (maxL := 1) (ret := (some .boolean)) (by decide) rfl ?_
  intro p e s m args below meth c s₁ B hml hv
  obtain ⟨rfl, hsz, hP, hK, hD0, hex, hE⟩ := hv
  have hx := B.exec
  have hb := B.bytes
  have hr := B.returns
  have hts0 := atoms_spec (ws := wt yX1_hasLong cX1_hasLong 1 (some .boolean)) B.pre
  have hts : ∀ w ∈ tb, w.before _ s = true := fun w h => hts0 w (List.mem_cons_of_mem _ h)
  have hown : s.vm.findClass RX1 = some m.cls := findClass_of_methodNamed B.named
  subst hsz
  have hD := hD0.self (sz := s.heap.size)
  generalize hAe : va_A (WdC g ad S) s.heap.size = A at hD hE ⊢
  have hA : ∀ q : Nat, s.heap.size ≤ q → A q := fun q h => by rw [← hAe]; exact Or.inr h
  have hR : RepC g ad A s S s.heap [] := ⟨hK, hP, hD, va_S.rf, hw⟩
  clear hK hP hD hD0
  have hl := lv_entry ([.ref (ad 16)]) (n := 1) (Nat.le_of_ble_eq_true rfl)
  rw [lg_entry_eq]
  generalize (lg_sl ([.ref (ad 16)]) ++ List.replicate (1 - (lg_sl ([.ref (ad 16)])).length) Slot.unset).toArray = ls at hl ⊢
  have hl : lv_has ls 1 [(0, .ref (ad 16))] := hl
  obtain ⟨r0, hf⟩ : ∃ r0, fX1_hasLong S = r0 := ⟨_, rfl⟩
  have hf0 := hf
  unfold fX1_hasLong at hf
  unfold d_X1_hasLong at hd
  refine lv_aload_n hx hb dX1_hasLong_0 rfl (lv_at hl 0 rfl) ?_
  refine va_get (D := rD g) (ci := 1) (v := .int (qI S 16 5)) (C := RX1) (T := TX1) (N := 10) hx hb hts inX1 hown hR.K hR.P 16 (hR.at41 (hR.w.2.1 _ finC_27).2.1) rfl 5 (by decide) (hts _ kw_486) (fun _ h9 => h9) rfl dX1_hasLong_1 ?_
  refine lv_iconst (v := 2) hx hb dX1_hasLong_4 (by decide) ?_
  have J_46 : ∀ (H : Heap) (locs : List Loc) (ls : Array Slot), d_X1_hasLong_J46 S → f_X1_hasLong_J46 S = r0 → RepC g ad A s S H locs → lv_has ls 1 [] → W p l e (headSpec (wt yX1_hasLong cX1_hasLong 1 (some .boolean)) ({ frames := 1, cells := 0, slots := 0, locals := 21 })).room s m ([.ref (ad 16)] : List Value).toArray below meth c H locs 0 0 (MQ below (va_Qi (fun (r : Int32) (_ : Unit) => r = fX1_hasLong S ∧ (r = 0 ∨ r = 1)) (fun (_ : Unit) (t : State) => qEC g ad A S t) A) ([.ref (ad 16)] : List Value).toArray s 0 0 A) (F0 m 46 ls []) := by
    intro H locs ls hd hf hR hl
    unfold d_X1_hasLong_J46 at hd
    unfold f_X1_hasLong_J46 at hf
    refine lv_iconst (v := 0) hx hb dX1_hasLong_46 (by decide) ?_
    exact W.zret (v := 0) hx hb hr (nz (Or.inl rfl)) (fun t9 ht9 hW9 => ⟨⟨_, (), rfl, ⟨hf.trans hf0.symm, (Or.inl rfl)⟩, ⟨by rw [ht9]; exact hR.P, hR.D⟩⟩, hR.sS.F ht9⟩) hR.sS.2.2 dX1_hasLong_47
  refine lv_icmp_lt (tgt := 46) hx hb dX1_hasLong_5 (by decide) (fun c1 => ?_) (fun c1 => ?_)
  · rw [if_pos (k_lt rfl (by decide) c1)] at hf
    (try rw [if_pos (k_lt rfl (by decide) c1)] at hd)
    exact J_46 _ _ ls hd hf  hR (lv_sub hl [] rfl)
  · rw [if_neg (k_nlt rfl (by decide) c1)] at hf
    (try rw [if_neg (k_nlt rfl (by decide) c1)] at hd)
    refine lv_aload_n hx hb dX1_hasLong_8 rfl (lv_at hl 0 rfl) ?_
    refine lv_bipush (v := 24) hx hb dX1_hasLong_9 (by decide) ?_
    refine lv_aload_n hx hb dX1_hasLong_11 rfl (lv_at hl 0 rfl) ?_
    refine va_get (D := rD g) (ci := 1) (v := .int (qI S 16 5)) (C := RX1) (T := TX1) (N := 10) hx hb hts inX1 hown hR.K hR.P 16 (hR.at41 (hR.w.2.1 _ finC_27).2.1) rfl 5 (by decide) (hts _ kw_486) (fun _ h9 => h9) rfl dX1_hasLong_12 ?_
    refine lv_iadd hx hb dX1_hasLong_15 ?_
    refine lv_topi (fun z2 ez2 => ?_)
    obtain rfl : z2 = ((24 : Int32) + (qI S 16 5)) := ez2
    refine lv_iconst (v := 1) hx hb dX1_hasLong_16 (by decide) ?_
    refine lv_isub hx hb dX1_hasLong_17 ?_
    refine lv_topi (fun z3 ez3 => ?_)
    obtain rfl : z3 = (((24 : Int32) + (qI S 16 5)) - (1 : Int32)) := ez3
    obtain ⟨hv4, hd⟩ := hd
    have hFc := cfree hR hA
    refine va_calli (va_runV (As := [.int (((24 : Int32) + (qI S 16 5)) - (1 : Int32))]) (rest := []) ⟨hx, hb, hml, hown, hts⟩ (rX1_placeAt l g ad s.heap.size S (((24 : Int32) + (qI S 16 5)) - (1 : Int32)) hR.w  hv4) (cwV 1 hts (gd_V kw_537 kw_579 kw_580 kw_392 kw_578) rfl rfl rfl (by decide +kernel) ⟨Nat.le_of_ble_eq_true rfl, Nat.le_of_ble_eq_true rfl⟩) ⟨cblind, va_recv hR.K hR.P (ci := 1) (q0 := 16) rfl (hR.at41 (hR.w.2.1 _ finC_27).2.1), fun U hU hW9 => cmk hU hW9 hR hex hE hFc⟩ rfl rfl hl.1 rfl (lv_room (Nat.le_of_ble_eq_true rfl)) dX1_hasLong_18 ⟨Nat.le_of_ble_eq_true rfl, Nat.le_of_ble_eq_true rfl⟩) hR.sS (fun q _ h => hFc q h) hFc (fun r5 u9 t9 H1 locs ht9 hvm9 hw9 hB9 hz9 hk9 hS => ?_)
    have hR : RepC g ad A s S H1 locs := hR.call ht9 hB9 hR.w hS hFc
    obtain rfl : r5 = (fX1_placeAt S (((24 : Int32) + (qI S 16 5)) - (1 : Int32))) := hw9
    clear hB9 hz9 hk9 hvm9 ht9 hS
    generalize H1 = H at hR ⊢
    refine lv_iconst (v := 3) hx hb dX1_hasLong_21 (by decide) ?_
    refine lv_icmp_ne (tgt := 46) hx hb dX1_hasLong_22 (by decide) (fun c7 => ?_) (fun c7 => ?_)
    · rw [if_neg (k_ne rfl (by decide) c7)] at hf
      (try rw [if_neg (k_ne rfl (by decide) c7)] at hd)
      exact J_46 _ _ ls hd hf  hR (lv_sub hl [] rfl)
    · rw [if_pos (k_eq rfl (by decide) c7)] at hf
      (try rw [if_pos (k_eq rfl (by decide) c7)] at hd)
      refine lv_aload_n hx hb dX1_hasLong_25 rfl (lv_at hl 0 rfl) ?_
      refine lv_bipush (v := 24) hx hb dX1_hasLong_26 (by decide) ?_
      refine lv_aload_n hx hb dX1_hasLong_28 rfl (lv_at hl 0 rfl) ?_
      refine va_get (D := rD g) (ci := 1) (v := .int (qI S 16 5)) (C := RX1) (T := TX1) (N := 10) hx hb hts inX1 hown hR.K hR.P 16 (hR.at41 (hR.w.2.1 _ finC_27).2.1) rfl 5 (by decide) (hts _ kw_486) (fun _ h9 => h9) rfl dX1_hasLong_29 ?_
      refine lv_iadd hx hb dX1_hasLong_32 ?_
      refine lv_topi (fun z8 ez8 => ?_)
      obtain rfl : z8 = ((24 : Int32) + (qI S 16 5)) := ez8
      refine lv_iconst (v := 2) hx hb dX1_hasLong_33 (by decide) ?_
      refine lv_isub hx hb dX1_hasLong_34 ?_
      refine lv_topi (fun z9 ez9 => ?_)
      obtain rfl : z9 = (((24 : Int32) + (qI S 16 5)) - (2 : Int32)) := ez9
      obtain ⟨hv10, hd⟩ := hd
      have hFc := cfree hR hA
      refine va_calli (va_runV (As := [.int (((24 : Int32) + (qI S 16 5)) - (2 : Int32))]) (rest := []) ⟨hx, hb, hml, hown, hts⟩ (rX1_placeAt l g ad H.size S (((24 : Int32) + (qI S 16 5)) - (2 : Int32)) hR.w  hv10) (cwV 1 hts (gd_V kw_537 kw_579 kw_580 kw_392 kw_578) rfl rfl rfl (by decide +kernel) ⟨Nat.le_of_ble_eq_true rfl, Nat.le_of_ble_eq_true rfl⟩) ⟨cblind, va_recv hR.K hR.P (ci := 1) (q0 := 16) rfl (hR.at41 (hR.w.2.1 _ finC_27).2.1), fun U hU hW9 => cmk hU hW9 hR hex hE hFc⟩ rfl rfl hl.1 rfl (lv_room (Nat.le_of_ble_eq_true rfl)) dX1_hasLong_35 ⟨Nat.le_of_ble_eq_true rfl, Nat.le_of_ble_eq_true rfl⟩) hR.sS (fun q _ h => hFc q h) hFc (fun r11 u9 t9 H1 locs ht9 hvm9 hw9 hB9 hz9 hk9 hS => ?_)
      have hR : RepC g ad A s S H1 locs := hR.call ht9 hB9 hR.w hS hFc
      obtain rfl : r11 = (fX1_placeAt S (((24 : Int32) + (qI S 16 5)) - (2 : Int32))) := hw9
      clear hB9 hz9 hk9 hvm9 ht9 hS
      generalize H1 = H at hR ⊢
      refine lv_iconst (v := 2) hx hb dX1_hasLong_38 (by decide) ?_
      refine lv_icmp_ne (tgt := 46) hx hb dX1_hasLong_39 (by decide) (fun c13 => ?_) (fun c13 => ?_)
      · rw [if_neg (k_ne rfl (by decide) c13)] at hf
        (try rw [if_neg (k_ne rfl (by decide) c13)] at hd)
        exact J_46 _ _ ls hd hf  hR (lv_sub hl [] rfl)
      · rw [if_pos (k_eq rfl (by decide) c13)] at hf
        (try rw [if_pos (k_eq rfl (by decide) c13)] at hd)
        refine lv_iconst (v := 1) hx hb dX1_hasLong_42 (by decide) ?_
        refine lv_goto (tgt := 47) hx hb dX1_hasLong_43 (by decide) ?_
        exact W.zret (v := 1) hx hb hr (nz (Or.inr rfl)) (fun t9 ht9 hW9 => ⟨⟨_, (), rfl, ⟨hf.trans hf0.symm, (Or.inr rfl)⟩, ⟨by rw [ht9]; exact hR.P, hR.D⟩⟩, hR.sS.F ht9⟩) hR.sS.2.2 dX1_hasLong_47
def w_X1_shuffle_J65 (Q : MS → Prop) (U65 : MS) (t65_0 : Int32) (v65_1 : Int32) (v65_2 : Int32) : Prop := (wfC U65 → ((v65_1.toInt = 89 → (∃ Q5, wX1_push U65 v65_2 Q5 ∧ ∀ S6, Q5 S6 → wfC S6 → shy U65 S6 → (∃ Q8, wX1_push S6 v65_2 Q8 ∧ ∀ S9, Q8 S9 → wfC S9 → shy S6 S9 → Q S9))) ∧ (¬ v65_1.toInt = 89 → ((v65_1.toInt = 90 → (∃ Q11, wX1_push U65 v65_2 Q11 ∧ ∀ S12, Q11 S12 → wfC S12 → shy U65 S12 → (∃ Q14, wX1_push S12 t65_0 Q14 ∧ ∀ S15, Q14 S15 → wfC S15 → shy S12 S15 → (∃ Q17, wX1_push S15 v65_2 Q17 ∧ ∀ S18, Q17 S18 → wfC S18 → shy S15 S18 → Q S18)))) ∧ (¬ v65_1.toInt = 90 → ((v65_1.toInt = 91 → Q U65) ∧ (¬ v65_1.toInt = 91 → ((v65_1.toInt = 92 → (∃ Q20, wX1_push U65 t65_0 Q20 ∧ ∀ S21, Q20 S21 → wfC S21 → shy U65 S21 → (∃ Q23, wX1_push S21 v65_2 Q23 ∧ ∀ S24, Q23 S24 → wfC S24 → shy S21 S24 → (∃ Q26, wX1_push S24 t65_0 Q26 ∧ ∀ S27, Q26 S27 → wfC S27 → shy S24 S27 → (∃ Q29, wX1_push S27 v65_2 Q29 ∧ ∀ S30, Q29 S30 → wfC S30 → shy S27 S30 → Q S30))))) ∧ (¬ v65_1.toInt = 92 → ((v65_1.toInt = 93 → Q U65) ∧ (¬ v65_1.toInt = 93 → ((v65_1.toInt = 94 → Q U65) ∧ (¬ v65_1.toInt = 94 → ((v65_1.toInt = 95 → (∃ Q32, wX1_push U65 v65_2 Q32 ∧ ∀ S33, Q32 S33 → wfC S33 → shy U65 S33 → (∃ Q35, wX1_push S33 t65_0 Q35 ∧ ∀ S36, Q35 S36 → wfC S36 → shy S33 S36 → Q S36))) ∧ (¬ v65_1.toInt = 95 → Q U65)))))))))))))))
def w_X1_shuffle_J57 (Q : MS → Prop) (U57 : MS) (v57_1 : Int32) (v57_2 : Int32) : Prop := (wfC U57 → w_X1_shuffle_J65 Q U57 0 v57_1 v57_2)
def w_X1_shuffle_J40 (Q : MS → Prop) (U40 : MS) (v40_1 : Int32) : Prop := (wfC U40 → (∃ Q1, wX1_takeCopy U40 Q1 ∧ ∀ r2 S3, Q1 r2 S3 → wfC S3 → shy U40 S3 → ((v40_1.toInt = 87 → w_X1_shuffle_J57 Q S3 v40_1 r2) ∧ (¬ v40_1.toInt = 87 → ((v40_1.toInt = 89 → w_X1_shuffle_J57 Q S3 v40_1 r2) ∧ (¬ v40_1.toInt = 89 → (∃ Q40, wX1_takeCopy S3 Q40 ∧ ∀ r41 S42, Q40 r41 S42 → wfC S42 → shy S3 S42 → w_X1_shuffle_J65 Q S42 r41 v40_1 r2)))))))
def w_X1_shuffle_J12 (Q : MS → Prop) (U12 : MS) (v12_1 : Int32) : Prop := (wfC U12 → (d_X1_hasLong U12 ∧ (((fX1_hasLong U12).toInt = 0 → w_X1_shuffle_J40 Q U12 v12_1) ∧ (¬ (fX1_hasLong U12).toInt = 0 → ((v12_1.toInt = 88 → (∃ Q52, wX1_take U12 (2 : Int32) Q52 ∧ ∀ r53 S54, Q52 r53 S54 → wfC S54 → shy U12 S54 → Q S54)) ∧ (¬ v12_1.toInt = 88 → (∃ Q49, wX1_give U12 (2 : Int32) Q49 ∧ ∀ S50, Q49 S50 → wfC S50 → shy U12 S50 → Q S50)))))))
def wX1_shuffle (S : MS) (x1 : Int32) (Q : MS → Prop) : Prop := ((x1.toInt = 88 → w_X1_shuffle_J12 Q S x1) ∧ (¬ x1.toInt = 88 → ((x1.toInt = 92 → w_X1_shuffle_J12 Q S x1) ∧ (¬ x1.toInt = 92 → w_X1_shuffle_J40 Q S x1))))
set_option maxHeartbeats 2000000 in
set_option maxRecDepth 100000 in
theorem rX1_shuffle (l : Launch) (g : Gr) (ad : Nat → Nat) (sz : Nat) (S : MS) (x1 : Int32) (hw : wfC S) (Q : MS → Prop) (h : wX1_shuffle S x1 Q) : Met l yX1_shuffle (wt yX1_shuffle cX1_shuffle 4 none) ({ frames := 3, cells := 0, slots := 0, locals := 63 }) (va_Pc [.ref (ad 16), .int x1] (st_C g ad sz S)) (va_Qv (fun (u : MS) => Q u ∧ wfC u ∧ shy S u) (fun (u : MS) (t : State) => qEC g ad (va_A (WdC g ad S) sz) u t) (va_A (WdC g ad S) sz)) 0 0 (va_A (WdC g ad S) sz) := by
  refine Met.ofW (cc := cX1_shuffle) (maxL := 4) (ret := none) (by decide) rfl ?_
  intro p e s m args below meth c s₁ B hml hv
  obtain ⟨rfl, hsz, hP, hK, hD0, hex, hE⟩ := hv
  have hx := B.exec
  have hb := B.bytes
  have hr := B.returns
  have hts0 := atoms_spec (ws := wt yX1_shuffle cX1_shuffle 4 none) B.pre
  have hts : ∀ w ∈ tb, w.before _ s = true := fun w h => hts0 w (List.mem_cons_of_mem _ h)
  have hown : s.vm.findClass RX1 = some m.cls := findClass_of_methodNamed B.named
  subst hsz
  have hD := hD0.self (sz := s.heap.size)
  generalize hAe : va_A (WdC g ad S) s.heap.size = A at hD hE ⊢
  have hA : ∀ q : Nat, s.heap.size ≤ q → A q := fun q h => by rw [← hAe]; exact Or.inr h
  have hR : RepC g ad A s S s.heap [] := ⟨hK, hP, hD, va_S.rf, hw⟩
  clear hK hP hD hD0
  have hl := lv_entry ([.ref (ad 16), .int x1]) (n := 4) (Nat.le_of_ble_eq_true rfl)
  rw [lg_entry_eq]
  generalize (lg_sl ([.ref (ad 16), .int x1]) ++ List.replicate (4 - (lg_sl ([.ref (ad 16), .int x1])).length) Slot.unset).toArray = ls at hl ⊢
  have hl : lv_has ls 4 [(0, .ref (ad 16)), (1, .int x1)] := hl
  have hsh : shy S S := shy.rf
  unfold wX1_shuffle at h
  refine lv_iload_n hx hb dX1_shuffle_0 rfl (lv_at hl 1 rfl) ?_
  refine lv_bipush (v := 88) hx hb dX1_shuffle_1 (by decide) ?_
  have J_40 : ∀ (U40 : MS) (v40_1 : Int32) (H : Heap) (locs : List Loc) (ls : Array Slot), w_X1_shuffle_J40 Q U40 v40_1 → shy S U40 → RepC g ad A s U40 H locs → lv_has ls 4 [(0, .ref (ad 16)), (1, .int v40_1)] → W p l e (headSpec (wt yX1_shuffle cX1_shuffle 4 none) ({ frames := 3, cells := 0, slots := 0, locals := 63 })).room s m ([.ref (ad 16), .int x1] : List Value).toArray below meth c H locs 0 0 (MQ below (va_Qv (fun (u : MS) => Q u ∧ wfC u ∧ shy S u) (fun (u : MS) (t : State) => qEC g ad A u t) A) ([.ref (ad 16), .int x1] : List Value).toArray s 0 0 A) (F0 m 40 ls []) := by
    intro U40 v40_1 H locs ls h hsh hR hl
    unfold w_X1_shuffle_J40 at h
    replace h := h hR.w
    refine lv_aload_n hx hb dX1_shuffle_40 rfl (lv_at hl 0 rfl) ?_
    obtain ⟨Q1, h0, h⟩ := h
    have hFc := cfree hR hA
    refine va_calli (va_runV (As := []) (rest := []) ⟨hx, hb, hml, hown, hts⟩ (rX1_takeCopy l g ad H.size U40 hR.w  Q1 h0) (cwV 0 hts (gd_V kw_594 kw_606 kw_607 kw_392 kw_605) rfl rfl rfl (by decide +kernel) ⟨Nat.le_of_ble_eq_true rfl, Nat.le_of_ble_eq_true rfl⟩) ⟨cblind, va_recv hR.K hR.P (ci := 1) (q0 := 16) rfl (hR.at41 (hR.w.2.1 _ finC_27).2.1), fun U hU hW9 => cmk hU hW9 hR hex hE hFc⟩ rfl rfl hl.1 rfl (lv_room (Nat.le_of_ble_eq_true rfl)) dX1_shuffle_41 ⟨Nat.le_of_ble_eq_true rfl, Nat.le_of_ble_eq_true rfl⟩) hR.sS (fun q _ h => hFc q h) hFc (fun r2 S3 t9 H1 locs ht9 hvm9 hw9 hB9 hz9 hk9 hS => ?_)
    obtain ⟨hq4, hw9, hs9⟩ := hw9
    have hR : RepC g ad A s S3 H1 locs := hR.call ht9 hB9 hw9 hS hFc
    have hsh := hsh.tr hs9
    replace h := h r2 S3 hq4 hw9 hs9
    clear hB9 hz9 hk9 hvm9 ht9 hw9 hs9 hS
    generalize H1 = H at hR ⊢
    refine lv_istore_n (lv' := [(2, .int r2), (0, .ref (ad 16)), (1, .int v40_1)]) hx hb dX1_shuffle_44 rfl hl (by decide) rfl (fun ls hl => ?_)
    refine lv_iload_n hx hb dX1_shuffle_45 rfl (lv_at hl 2 rfl) ?_
    refine lv_bipush (v := 87) hx hb dX1_shuffle_46 (by decide) ?_
    have J_65 : ∀ (U65 : MS) (t65_0 : Int32) (v65_1 : Int32) (v65_2 : Int32) (H : Heap) (locs : List Loc) (ls : Array Slot), w_X1_shuffle_J65 Q U65 t65_0 v65_1 v65_2 → shy S U65 → RepC g ad A s U65 H locs → lv_has ls 4 [(0, .ref (ad 16)), (1, .int v65_1), (2, .int v65_2)] → W p l e (headSpec (wt yX1_shuffle cX1_shuffle 4 none) ({ frames := 3, cells := 0, slots := 0, locals := 63 })).room s m ([.ref (ad 16), .int x1] : List Value).toArray below meth c H locs 0 0 (MQ below (va_Qv (fun (u : MS) => Q u ∧ wfC u ∧ shy S u) (fun (u : MS) (t : State) => qEC g ad A u t) A) ([.ref (ad 16), .int x1] : List Value).toArray s 0 0 A) (F0 m 65 ls [.int t65_0]) := by
      intro U65 t65_0 v65_1 v65_2 H locs ls h hsh hR hl
      unfold w_X1_shuffle_J65 at h
      replace h := h hR.w
      refine lv_istore_n (lv' := [(3, .int t65_0), (0, .ref (ad 16)), (1, .int v65_1), (2, .int v65_2)]) hx hb dX1_shuffle_65 rfl hl (by decide) rfl (fun ls hl => ?_)
      refine lv_iload_n hx hb dX1_shuffle_66 rfl (lv_at hl 2 rfl) ?_
      by_cases c9_89 : v65_1.toInt = 89
      · refine lv_tableIn (off := 41) (tgt := 108) hx hb dX1_shuffle_67 (by rw [c9_89]; decide) (by rw [c9_89]; decide) (by rw [c9_89]; rfl) (by decide) ?_
        replace h := h.1 (c9_89)
        refine lv_aload_n hx hb dX1_shuffle_108 rfl (lv_at hl 1 rfl) ?_
        refine lv_iload_n hx hb dX1_shuffle_109 rfl (lv_at hl 3 rfl) ?_
        obtain ⟨Q5, h0, h⟩ := h
        have hFc := cfree hR hA
        refine va_callv (va_runV (As := [.int v65_2]) (rest := []) ⟨hx, hb, hml, hown, hts⟩ (rX1_push l g ad H.size U65 v65_2 hR.w  Q5 h0) (cwV 1 hts (gd_V kw_526 kw_585 kw_586 kw_392 kw_584) rfl rfl rfl (by decide +kernel) ⟨Nat.le_of_ble_eq_true rfl, Nat.le_of_ble_eq_true rfl⟩) ⟨cblind, va_recv hR.K hR.P (ci := 1) (q0 := 16) rfl (hR.at41 (hR.w.2.1 _ finC_27).2.1), fun U hU hW9 => cmk hU hW9 hR hex hE hFc⟩ rfl rfl hl.1 rfl (lv_room (Nat.le_of_ble_eq_true rfl)) dX1_shuffle_110 ⟨Nat.le_of_ble_eq_true rfl, Nat.le_of_ble_eq_true rfl⟩) hR.sS (fun q _ h => hFc q h) hFc (fun  S6 t9 H1 locs ht9 hvm9 hw9 hB9 hz9 hk9 hS => ?_)
        obtain ⟨hq7, hw9, hs9⟩ := hw9
        have hR : RepC g ad A s S6 H1 locs := hR.call ht9 hB9 hw9 hS hFc
        have hsh := hsh.tr hs9
        replace h := h  S6 hq7 hw9 hs9
        clear hB9 hz9 hk9 hvm9 ht9 hw9 hs9 hS
        generalize H1 = H at hR ⊢
        refine lv_aload_n hx hb dX1_shuffle_113 rfl (lv_at hl 1 rfl) ?_
        refine lv_iload_n hx hb dX1_shuffle_114 rfl (lv_at hl 3 rfl) ?_
        obtain ⟨Q8, h0, h⟩ := h
        have hFc := cfree hR hA
        refine va_callv (va_runV (As := [.int v65_2]) (rest := []) ⟨hx, hb, hml, hown, hts⟩ (rX1_push l g ad H.size S6 v65_2 hR.w  Q8 h0) (cwV 1 hts (gd_V kw_526 kw_585 kw_586 kw_392 kw_584) rfl rfl rfl (by decide +kernel) ⟨Nat.le_of_ble_eq_true rfl, Nat.le_of_ble_eq_true rfl⟩) ⟨cblind, va_recv hR.K hR.P (ci := 1) (q0 := 16) rfl (hR.at41 (hR.w.2.1 _ finC_27).2.1), fun U hU hW9 => cmk hU hW9 hR hex hE hFc⟩ rfl rfl hl.1 rfl (lv_room (Nat.le_of_ble_eq_true rfl)) dX1_shuffle_115 ⟨Nat.le_of_ble_eq_true rfl, Nat.le_of_ble_eq_true rfl⟩) hR.sS (fun q _ h => hFc q h) hFc (fun  S9 t9 H1 locs ht9 hvm9 hw9 hB9 hz9 hk9 hS => ?_)
        obtain ⟨hq10, hw9, hs9⟩ := hw9
        have hR : RepC g ad A s S9 H1 locs := hR.call ht9 hB9 hw9 hS hFc
        have hsh := hsh.tr hs9
        replace h := h  S9 hq10 hw9 hs9
        clear hB9 hz9 hk9 hvm9 ht9 hw9 hs9 hS
        generalize H1 = H at hR ⊢
        refine lv_goto (tgt := 175) hx hb dX1_shuffle_118 (by decide) ?_
        exact W.vret hx hb hr (fun t9 ht9 hW9 => ⟨⟨S9, rfl, ⟨h, hR.w, hsh⟩, ⟨by rw [ht9]; exact hR.P, hR.D⟩⟩, hR.sS.F ht9⟩) hR.sS.2.2 dX1_shuffle_175
      replace h := h.2 c9_89
      by_cases c9_90 : v65_1.toInt = 90
      · refine lv_tableIn (off := 54) (tgt := 121) hx hb dX1_shuffle_67 (by rw [c9_90]; decide) (by rw [c9_90]; decide) (by rw [c9_90]; rfl) (by decide) ?_
        replace h := h.1 (c9_90)
        refine lv_aload_n hx hb dX1_shuffle_121 rfl (lv_at hl 1 rfl) ?_
        refine lv_iload_n hx hb dX1_shuffle_122 rfl (lv_at hl 3 rfl) ?_
        obtain ⟨Q11, h0, h⟩ := h
        have hFc := cfree hR hA
        refine va_callv (va_runV (As := [.int v65_2]) (rest := []) ⟨hx, hb, hml, hown, hts⟩ (rX1_push l g ad H.size U65 v65_2 hR.w  Q11 h0) (cwV 1 hts (gd_V kw_526 kw_585 kw_586 kw_392 kw_584) rfl rfl rfl (by decide +kernel) ⟨Nat.le_of_ble_eq_true rfl, Nat.le_of_ble_eq_true rfl⟩) ⟨cblind, va_recv hR.K hR.P (ci := 1) (q0 := 16) rfl (hR.at41 (hR.w.2.1 _ finC_27).2.1), fun U hU hW9 => cmk hU hW9 hR hex hE hFc⟩ rfl rfl hl.1 rfl (lv_room (Nat.le_of_ble_eq_true rfl)) dX1_shuffle_123 ⟨Nat.le_of_ble_eq_true rfl, Nat.le_of_ble_eq_true rfl⟩) hR.sS (fun q _ h => hFc q h) hFc (fun  S12 t9 H1 locs ht9 hvm9 hw9 hB9 hz9 hk9 hS => ?_)
        obtain ⟨hq13, hw9, hs9⟩ := hw9
        have hR : RepC g ad A s S12 H1 locs := hR.call ht9 hB9 hw9 hS hFc
        have hsh := hsh.tr hs9
        replace h := h  S12 hq13 hw9 hs9
        clear hB9 hz9 hk9 hvm9 ht9 hw9 hs9 hS
        generalize H1 = H at hR ⊢
        refine lv_aload_n hx hb dX1_shuffle_126 rfl (lv_at hl 1 rfl) ?_
        refine lv_iload_n hx hb dX1_shuffle_127 rfl (lv_at hl 0 rfl) ?_
        obtain ⟨Q14, h0, h⟩ := h
        have hFc := cfree hR hA
        refine va_callv (va_runV (As := [.int t65_0]) (rest := []) ⟨hx, hb, hml, hown, hts⟩ (rX1_push l g ad H.size S12 t65_0 hR.w  Q14 h0) (cwV 1 hts (gd_V kw_526 kw_585 kw_586 kw_392 kw_584) rfl rfl rfl (by decide +kernel) ⟨Nat.le_of_ble_eq_true rfl, Nat.le_of_ble_eq_true rfl⟩) ⟨cblind, va_recv hR.K hR.P (ci := 1) (q0 := 16) rfl (hR.at41 (hR.w.2.1 _ finC_27).2.1), fun U hU hW9 => cmk hU hW9 hR hex hE hFc⟩ rfl rfl hl.1 rfl (lv_room (Nat.le_of_ble_eq_true rfl)) dX1_shuffle_128 ⟨Nat.le_of_ble_eq_true rfl, Nat.le_of_ble_eq_true rfl⟩) hR.sS (fun q _ h => hFc q h) hFc (fun  S15 t9 H1 locs ht9 hvm9 hw9 hB9 hz9 hk9 hS => ?_)
        obtain ⟨hq16, hw9, hs9⟩ := hw9
        have hR : RepC g ad A s S15 H1 locs := hR.call ht9 hB9 hw9 hS hFc
        have hsh := hsh.tr hs9
        replace h := h  S15 hq16 hw9 hs9
        clear hB9 hz9 hk9 hvm9 ht9 hw9 hs9 hS
        generalize H1 = H at hR ⊢
        refine lv_aload_n hx hb dX1_shuffle_131 rfl (lv_at hl 1 rfl) ?_
        refine lv_iload_n hx hb dX1_shuffle_132 rfl (lv_at hl 3 rfl) ?_
        obtain ⟨Q17, h0, h⟩ := h
        have hFc := cfree hR hA
        refine va_callv (va_runV (As := [.int v65_2]) (rest := []) ⟨hx, hb, hml, hown, hts⟩ (rX1_push l g ad H.size S15 v65_2 hR.w  Q17 h0) (cwV 1 hts (gd_V kw_526 kw_585 kw_586 kw_392 kw_584) rfl rfl rfl (by decide +kernel) ⟨Nat.le_of_ble_eq_true rfl, Nat.le_of_ble_eq_true rfl⟩) ⟨cblind, va_recv hR.K hR.P (ci := 1) (q0 := 16) rfl (hR.at41 (hR.w.2.1 _ finC_27).2.1), fun U hU hW9 => cmk hU hW9 hR hex hE hFc⟩ rfl rfl hl.1 rfl (lv_room (Nat.le_of_ble_eq_true rfl)) dX1_shuffle_133 ⟨Nat.le_of_ble_eq_true rfl, Nat.le_of_ble_eq_true rfl⟩) hR.sS (fun q _ h => hFc q h) hFc (fun  S18 t9 H1 locs ht9 hvm9 hw9 hB9 hz9 hk9 hS => ?_)
        obtain ⟨hq19, hw9, hs9⟩ := hw9
        have hR : RepC g ad A s S18 H1 locs := hR.call ht9 hB9 hw9 hS hFc
        have hsh := hsh.tr hs9
        replace h := h  S18 hq19 hw9 hs9
        clear hB9 hz9 hk9 hvm9 ht9 hw9 hs9 hS
        generalize H1 = H at hR ⊢
        refine lv_goto (tgt := 175) hx hb dX1_shuffle_136 (by decide) ?_
        exact W.vret hx hb hr (fun t9 ht9 hW9 => ⟨⟨S18, rfl, ⟨h, hR.w, hsh⟩, ⟨by rw [ht9]; exact hR.P, hR.D⟩⟩, hR.sS.F ht9⟩) hR.sS.2.2 dX1_shuffle_175
      replace h := h.2 c9_90
      by_cases c9_91 : v65_1.toInt = 91
      · refine lv_tableIn (off := 108) (tgt := 175) hx hb dX1_shuffle_67 (by rw [c9_91]; decide) (by rw [c9_91]; decide) (by rw [c9_91]; rfl) (by decide) ?_
        replace h := h.1 (c9_91)
        exact W.vret hx hb hr (fun t9 ht9 hW9 => ⟨⟨U65, rfl, ⟨h, hR.w, hsh⟩, ⟨by rw [ht9]; exact hR.P, hR.D⟩⟩, hR.sS.F ht9⟩) hR.sS.2.2 dX1_shuffle_175
      replace h := h.2 c9_91
      by_cases c9_92 : v65_1.toInt = 92
      · refine lv_tableIn (off := 72) (tgt := 139) hx hb dX1_shuffle_67 (by rw [c9_92]; decide) (by rw [c9_92]; decide) (by rw [c9_92]; rfl) (by decide) ?_
        replace h := h.1 (c9_92)
        refine lv_aload_n hx hb dX1_shuffle_139 rfl (lv_at hl 1 rfl) ?_
        refine lv_iload_n hx hb dX1_shuffle_140 rfl (lv_at hl 0 rfl) ?_
        obtain ⟨Q20, h0, h⟩ := h
        have hFc := cfree hR hA
        refine va_callv (va_runV (As := [.int t65_0]) (rest := []) ⟨hx, hb, hml, hown, hts⟩ (rX1_push l g ad H.size U65 t65_0 hR.w  Q20 h0) (cwV 1 hts (gd_V kw_526 kw_585 kw_586 kw_392 kw_584) rfl rfl rfl (by decide +kernel) ⟨Nat.le_of_ble_eq_true rfl, Nat.le_of_ble_eq_true rfl⟩) ⟨cblind, va_recv hR.K hR.P (ci := 1) (q0 := 16) rfl (hR.at41 (hR.w.2.1 _ finC_27).2.1), fun U hU hW9 => cmk hU hW9 hR hex hE hFc⟩ rfl rfl hl.1 rfl (lv_room (Nat.le_of_ble_eq_true rfl)) dX1_shuffle_141 ⟨Nat.le_of_ble_eq_true rfl, Nat.le_of_ble_eq_true rfl⟩) hR.sS (fun q _ h => hFc q h) hFc (fun  S21 t9 H1 locs ht9 hvm9 hw9 hB9 hz9 hk9 hS => ?_)
        obtain ⟨hq22, hw9, hs9⟩ := hw9
        have hR : RepC g ad A s S21 H1 locs := hR.call ht9 hB9 hw9 hS hFc
        have hsh := hsh.tr hs9
        replace h := h  S21 hq22 hw9 hs9
        clear hB9 hz9 hk9 hvm9 ht9 hw9 hs9 hS
        generalize H1 = H at hR ⊢
        refine lv_aload_n hx hb dX1_shuffle_144 rfl (lv_at hl 1 rfl) ?_
        refine lv_iload_n hx hb dX1_shuffle_145 rfl (lv_at hl 3 rfl) ?_
        obtain ⟨Q23, h0, h⟩ := h
        have hFc := cfree hR hA
        refine va_callv (va_runV (As := [.int v65_2]) (rest := []) ⟨hx, hb, hml, hown, hts⟩ (rX1_push l g ad H.size S21 v65_2 hR.w  Q23 h0) (cwV 1 hts (gd_V kw_526 kw_585 kw_586 kw_392 kw_584) rfl rfl rfl (by decide +kernel) ⟨Nat.le_of_ble_eq_true rfl, Nat.le_of_ble_eq_true rfl⟩) ⟨cblind, va_recv hR.K hR.P (ci := 1) (q0 := 16) rfl (hR.at41 (hR.w.2.1 _ finC_27).2.1), fun U hU hW9 => cmk hU hW9 hR hex hE hFc⟩ rfl rfl hl.1 rfl (lv_room (Nat.le_of_ble_eq_true rfl)) dX1_shuffle_146 ⟨Nat.le_of_ble_eq_true rfl, Nat.le_of_ble_eq_true rfl⟩) hR.sS (fun q _ h => hFc q h) hFc (fun  S24 t9 H1 locs ht9 hvm9 hw9 hB9 hz9 hk9 hS => ?_)
        obtain ⟨hq25, hw9, hs9⟩ := hw9
        have hR : RepC g ad A s S24 H1 locs := hR.call ht9 hB9 hw9 hS hFc
        have hsh := hsh.tr hs9
        replace h := h  S24 hq25 hw9 hs9
        clear hB9 hz9 hk9 hvm9 ht9 hw9 hs9 hS
        generalize H1 = H at hR ⊢
        refine lv_aload_n hx hb dX1_shuffle_149 rfl (lv_at hl 1 rfl) ?_
        refine lv_iload_n hx hb dX1_shuffle_150 rfl (lv_at hl 0 rfl) ?_
        obtain ⟨Q26, h0, h⟩ := h
        have hFc := cfree hR hA
        refine va_callv (va_runV (As := [.int t65_0]) (rest := []) ⟨hx, hb, hml, hown, hts⟩ (rX1_push l g ad H.size S24 t65_0 hR.w  Q26 h0) (cwV 1 hts (gd_V kw_526 kw_585 kw_586 kw_392 kw_584) rfl rfl rfl (by decide +kernel) ⟨Nat.le_of_ble_eq_true rfl, Nat.le_of_ble_eq_true rfl⟩) ⟨cblind, va_recv hR.K hR.P (ci := 1) (q0 := 16) rfl (hR.at41 (hR.w.2.1 _ finC_27).2.1), fun U hU hW9 => cmk hU hW9 hR hex hE hFc⟩ rfl rfl hl.1 rfl (lv_room (Nat.le_of_ble_eq_true rfl)) dX1_shuffle_151 ⟨Nat.le_of_ble_eq_true rfl, Nat.le_of_ble_eq_true rfl⟩) hR.sS (fun q _ h => hFc q h) hFc (fun  S27 t9 H1 locs ht9 hvm9 hw9 hB9 hz9 hk9 hS => ?_)
        obtain ⟨hq28, hw9, hs9⟩ := hw9
        have hR : RepC g ad A s S27 H1 locs := hR.call ht9 hB9 hw9 hS hFc
        have hsh := hsh.tr hs9
        replace h := h  S27 hq28 hw9 hs9
        clear hB9 hz9 hk9 hvm9 ht9 hw9 hs9 hS
        generalize H1 = H at hR ⊢
        refine lv_aload_n hx hb dX1_shuffle_154 rfl (lv_at hl 1 rfl) ?_
        refine lv_iload_n hx hb dX1_shuffle_155 rfl (lv_at hl 3 rfl) ?_
        obtain ⟨Q29, h0, h⟩ := h
        have hFc := cfree hR hA
        refine va_callv (va_runV (As := [.int v65_2]) (rest := []) ⟨hx, hb, hml, hown, hts⟩ (rX1_push l g ad H.size S27 v65_2 hR.w  Q29 h0) (cwV 1 hts (gd_V kw_526 kw_585 kw_586 kw_392 kw_584) rfl rfl rfl (by decide +kernel) ⟨Nat.le_of_ble_eq_true rfl, Nat.le_of_ble_eq_true rfl⟩) ⟨cblind, va_recv hR.K hR.P (ci := 1) (q0 := 16) rfl (hR.at41 (hR.w.2.1 _ finC_27).2.1), fun U hU hW9 => cmk hU hW9 hR hex hE hFc⟩ rfl rfl hl.1 rfl (lv_room (Nat.le_of_ble_eq_true rfl)) dX1_shuffle_156 ⟨Nat.le_of_ble_eq_true rfl, Nat.le_of_ble_eq_true rfl⟩) hR.sS (fun q _ h => hFc q h) hFc (fun  S30 t9 H1 locs ht9 hvm9 hw9 hB9 hz9 hk9 hS => ?_)
        obtain ⟨hq31, hw9, hs9⟩ := hw9
        have hR : RepC g ad A s S30 H1 locs := hR.call ht9 hB9 hw9 hS hFc
        have hsh := hsh.tr hs9
        replace h := h  S30 hq31 hw9 hs9
        clear hB9 hz9 hk9 hvm9 ht9 hw9 hs9 hS
        generalize H1 = H at hR ⊢
        refine lv_goto (tgt := 175) hx hb dX1_shuffle_159 (by decide) ?_
        exact W.vret hx hb hr (fun t9 ht9 hW9 => ⟨⟨S30, rfl, ⟨h, hR.w, hsh⟩, ⟨by rw [ht9]; exact hR.P, hR.D⟩⟩, hR.sS.F ht9⟩) hR.sS.2.2 dX1_shuffle_175
      replace h := h.2 c9_92
      by_cases c9_93 : v65_1.toInt = 93
      · refine lv_tableIn (off := 108) (tgt := 175) hx hb dX1_shuffle_67 (by rw [c9_93]; decide) (by rw [c9_93]; decide) (by rw [c9_93]; rfl) (by decide) ?_
        replace h := h.1 (c9_93)
        exact W.vret hx hb hr (fun t9 ht9 hW9 => ⟨⟨U65, rfl, ⟨h, hR.w, hsh⟩, ⟨by rw [ht9]; exact hR.P, hR.D⟩⟩, hR.sS.F ht9⟩) hR.sS.2.2 dX1_shuffle_175
      replace h := h.2 c9_93
      by_cases c9_94 : v65_1.toInt = 94
      · refine lv_tableIn (off := 108) (tgt := 175) hx hb dX1_shuffle_67 (by rw [c9_94]; decide) (by rw [c9_94]; decide) (by rw [c9_94]; rfl) (by decide) ?_
        replace h := h.1 (c9_94)
        exact W.vret hx hb hr (fun t9 ht9 hW9 => ⟨⟨U65, rfl, ⟨h, hR.w, hsh⟩, ⟨by rw [ht9]; exact hR.P, hR.D⟩⟩, hR.sS.F ht9⟩) hR.sS.2.2 dX1_shuffle_175
      replace h := h.2 c9_94
      by_cases c9_95 : v65_1.toInt = 95
      · refine lv_tableIn (off := 95) (tgt := 162) hx hb dX1_shuffle_67 (by rw [c9_95]; decide) (by rw [c9_95]; decide) (by rw [c9_95]; rfl) (by decide) ?_
        replace h := h.1 (c9_95)
        refine lv_aload_n hx hb dX1_shuffle_162 rfl (lv_at hl 1 rfl) ?_
        refine lv_iload_n hx hb dX1_shuffle_163 rfl (lv_at hl 3 rfl) ?_
        obtain ⟨Q32, h0, h⟩ := h
        have hFc := cfree hR hA
        refine va_callv (va_runV (As := [.int v65_2]) (rest := []) ⟨hx, hb, hml, hown, hts⟩ (rX1_push l g ad H.size U65 v65_2 hR.w  Q32 h0) (cwV 1 hts (gd_V kw_526 kw_585 kw_586 kw_392 kw_584) rfl rfl rfl (by decide +kernel) ⟨Nat.le_of_ble_eq_true rfl, Nat.le_of_ble_eq_true rfl⟩) ⟨cblind, va_recv hR.K hR.P (ci := 1) (q0 := 16) rfl (hR.at41 (hR.w.2.1 _ finC_27).2.1), fun U hU hW9 => cmk hU hW9 hR hex hE hFc⟩ rfl rfl hl.1 rfl (lv_room (Nat.le_of_ble_eq_true rfl)) dX1_shuffle_164 ⟨Nat.le_of_ble_eq_true rfl, Nat.le_of_ble_eq_true rfl⟩) hR.sS (fun q _ h => hFc q h) hFc (fun  S33 t9 H1 locs ht9 hvm9 hw9 hB9 hz9 hk9 hS => ?_)
        obtain ⟨hq34, hw9, hs9⟩ := hw9
        have hR : RepC g ad A s S33 H1 locs := hR.call ht9 hB9 hw9 hS hFc
        have hsh := hsh.tr hs9
        replace h := h  S33 hq34 hw9 hs9
        clear hB9 hz9 hk9 hvm9 ht9 hw9 hs9 hS
        generalize H1 = H at hR ⊢
        refine lv_aload_n hx hb dX1_shuffle_167 rfl (lv_at hl 1 rfl) ?_
        refine lv_iload_n hx hb dX1_shuffle_168 rfl (lv_at hl 0 rfl) ?_
        obtain ⟨Q35, h0, h⟩ := h
        have hFc := cfree hR hA
        refine va_callv (va_runV (As := [.int t65_0]) (rest := []) ⟨hx, hb, hml, hown, hts⟩ (rX1_push l g ad H.size S33 t65_0 hR.w  Q35 h0) (cwV 1 hts (gd_V kw_526 kw_585 kw_586 kw_392 kw_584) rfl rfl rfl (by decide +kernel) ⟨Nat.le_of_ble_eq_true rfl, Nat.le_of_ble_eq_true rfl⟩) ⟨cblind, va_recv hR.K hR.P (ci := 1) (q0 := 16) rfl (hR.at41 (hR.w.2.1 _ finC_27).2.1), fun U hU hW9 => cmk hU hW9 hR hex hE hFc⟩ rfl rfl hl.1 rfl (lv_room (Nat.le_of_ble_eq_true rfl)) dX1_shuffle_169 ⟨Nat.le_of_ble_eq_true rfl, Nat.le_of_ble_eq_true rfl⟩) hR.sS (fun q _ h => hFc q h) hFc (fun  S36 t9 H1 locs ht9 hvm9 hw9 hB9 hz9 hk9 hS => ?_)
        obtain ⟨hq37, hw9, hs9⟩ := hw9
        have hR : RepC g ad A s S36 H1 locs := hR.call ht9 hB9 hw9 hS hFc
        have hsh := hsh.tr hs9
        replace h := h  S36 hq37 hw9 hs9
        clear hB9 hz9 hk9 hvm9 ht9 hw9 hs9 hS
        generalize H1 = H at hR ⊢
        refine lv_goto (tgt := 175) hx hb dX1_shuffle_172 (by decide) ?_
        exact W.vret hx hb hr (fun t9 ht9 hW9 => ⟨⟨S36, rfl, ⟨h, hR.w, hsh⟩, ⟨by rw [ht9]; exact hR.P, hR.D⟩⟩, hR.sS.F ht9⟩) hR.sS.2.2 dX1_shuffle_175
      replace h := h.2 c9_95
      refine lv_tableOut (tgt := 175) hx hb dX1_shuffle_67 (by omega) (by decide) ?_
      exact W.vret hx hb hr (fun t9 ht9 hW9 => ⟨⟨U65, rfl, ⟨h, hR.w, hsh⟩, ⟨by rw [ht9]; exact hR.P, hR.D⟩⟩, hR.sS.F ht9⟩) hR.sS.2.2 dX1_shuffle_175
    have J_57 : ∀ (U57 : MS) (v57_1 : Int32) (v57_2 : Int32) (H : Heap) (locs : List Loc) (ls : Array Slot), w_X1_shuffle_J57 Q U57 v57_1 v57_2 → shy S U57 → RepC g ad A s U57 H locs → lv_has ls 4 [(0, .ref (ad 16)), (1, .int v57_1), (2, .int v57_2)] → W p l e (headSpec (wt yX1_shuffle cX1_shuffle 4 none) ({ frames := 3, cells := 0, slots := 0, locals := 63 })).room s m ([.ref (ad 16), .int x1] : List Value).toArray below meth c H locs 0 0 (MQ below (va_Qv (fun (u : MS) => Q u ∧ wfC u ∧ shy S u) (fun (u : MS) (t : State) => qEC g ad A u t) A) ([.ref (ad 16), .int x1] : List Value).toArray s 0 0 A) (F0 m 57 ls []) := by
      intro U57 v57_1 v57_2 H locs ls h hsh hR hl
      unfold w_X1_shuffle_J57 at h
      replace h := h hR.w
      refine lv_iconst (v := 0) hx hb dX1_shuffle_57 (by decide) ?_
      refine lv_goto (tgt := 65) hx hb dX1_shuffle_58 (by decide) ?_
      exact J_65 U57 0 v57_1 v57_2 _ _ ls h  hsh hR (lv_sub hl [0, 1, 2] rfl)
    refine lv_icmp_eq (tgt := 57) hx hb dX1_shuffle_48 (by decide) (fun c38 => ?_) (fun c38 => ?_)
    · replace h := h.1 (k_eq rfl (by decide) c38)
      exact J_57 S3 v40_1 r2 _ _ ls h  hsh hR (lv_sub hl [1, 2, 0] rfl)
    · replace h := h.2 (k_ne rfl (by decide) c38)
      refine lv_iload_n hx hb dX1_shuffle_51 rfl (lv_at hl 2 rfl) ?_
      refine lv_bipush (v := 89) hx hb dX1_shuffle_52 (by decide) ?_
      refine lv_icmp_ne (tgt := 61) hx hb dX1_shuffle_54 (by decide) (fun c39 => ?_) (fun c39 => ?_)
      · replace h := h.2 (k_ne rfl (by decide) c39)
        refine lv_aload_n hx hb dX1_shuffle_61 rfl (lv_at hl 1 rfl) ?_
        obtain ⟨Q40, h0, h⟩ := h
        have hFc := cfree hR hA
        refine va_calli (va_runV (As := []) (rest := []) ⟨hx, hb, hml, hown, hts⟩ (rX1_takeCopy l g ad H.size S3 hR.w  Q40 h0) (cwV 0 hts (gd_V kw_594 kw_606 kw_607 kw_392 kw_605) rfl rfl rfl (by decide +kernel) ⟨Nat.le_of_ble_eq_true rfl, Nat.le_of_ble_eq_true rfl⟩) ⟨cblind, va_recv hR.K hR.P (ci := 1) (q0 := 16) rfl (hR.at41 (hR.w.2.1 _ finC_27).2.1), fun U hU hW9 => cmk hU hW9 hR hex hE hFc⟩ rfl rfl hl.1 rfl (lv_room (Nat.le_of_ble_eq_true rfl)) dX1_shuffle_62 ⟨Nat.le_of_ble_eq_true rfl, Nat.le_of_ble_eq_true rfl⟩) hR.sS (fun q _ h => hFc q h) hFc (fun r41 S42 t9 H1 locs ht9 hvm9 hw9 hB9 hz9 hk9 hS => ?_)
        obtain ⟨hq43, hw9, hs9⟩ := hw9
        have hR : RepC g ad A s S42 H1 locs := hR.call ht9 hB9 hw9 hS hFc
        have hsh := hsh.tr hs9
        replace h := h r41 S42 hq43 hw9 hs9
        clear hB9 hz9 hk9 hvm9 ht9 hw9 hs9 hS
        generalize H1 = H at hR ⊢
        exact J_65 S42 r41 v40_1 r2 _ _ ls h  hsh hR (lv_sub hl [1, 2, 0] rfl)
      · replace h := h.1 (k_eq rfl (by decide) c39)
        exact J_57 S3 v40_1 r2 _ _ ls h  hsh hR (lv_sub hl [1, 2, 0] rfl)
  have J_12 : ∀ (U12 : MS) (v12_1 : Int32) (H : Heap) (locs : List Loc) (ls : Array Slot), w_X1_shuffle_J12 Q U12 v12_1 → shy S U12 → RepC g ad A s U12 H locs → lv_has ls 4 [(0, .ref (ad 16)), (1, .int v12_1)] → W p l e (headSpec (wt yX1_shuffle cX1_shuffle 4 none) ({ frames := 3, cells := 0, slots := 0, locals := 63 })).room s m ([.ref (ad 16), .int x1] : List Value).toArray below meth c H locs 0 0 (MQ below (va_Qv (fun (u : MS) => Q u ∧ wfC u ∧ shy S u) (fun (u : MS) (t : State) => qEC g ad A u t) A) ([.ref (ad 16), .int x1] : List Value).toArray s 0 0 A) (F0 m 12 ls []) := by
    intro U12 v12_1 H locs ls h hsh hR hl
    unfold w_X1_shuffle_J12 at h
    replace h := h hR.w
    refine lv_aload_n hx hb dX1_shuffle_12 rfl (lv_at hl 0 rfl) ?_
    obtain ⟨hv44, h⟩ := h
    have hFc := cfree hR hA
    refine va_calli (va_runV (As := []) (rest := []) ⟨hx, hb, hml, hown, hts⟩ (rX1_hasLong l g ad H.size U12 hR.w  hv44) (cwV 0 hts (gd_V kw_593 kw_547 kw_548 kw_392 kw_546) rfl rfl rfl (by decide +kernel) ⟨Nat.le_of_ble_eq_true rfl, Nat.le_of_ble_eq_true rfl⟩) ⟨cblind, va_recv hR.K hR.P (ci := 1) (q0 := 16) rfl (hR.at41 (hR.w.2.1 _ finC_27).2.1), fun U hU hW9 => cmk hU hW9 hR hex hE hFc⟩ rfl rfl hl.1 rfl (lv_room (Nat.le_of_ble_eq_true rfl)) dX1_shuffle_13 ⟨Nat.le_of_ble_eq_true rfl, Nat.le_of_ble_eq_true rfl⟩) hR.sS (fun q _ h => hFc q h) hFc (fun r45 u9 t9 H1 locs ht9 hvm9 hw9 hB9 hz9 hk9 hS => ?_)
    have hR : RepC g ad A s U12 H1 locs := hR.call ht9 hB9 hR.w hS hFc
    obtain ⟨rfl, hz_r45⟩ := hw9
    clear hB9 hz9 hk9 hvm9 ht9 hS
    generalize H1 = H at hR ⊢
    refine lv_if_eq (tgt := 40) hx hb dX1_shuffle_16 (by decide) (fun c47 => ?_) (fun c47 => ?_)
    · replace h := h.1 (k_eq rfl (by decide) c47)
      exact J_40 U12 v12_1 _ _ ls h  hsh hR (lv_sub hl [0, 1] rfl)
    · replace h := h.2 (k_ne rfl (by decide) c47)
      refine lv_iload_n hx hb dX1_shuffle_19 rfl (lv_at hl 1 rfl) ?_
      refine lv_bipush (v := 88) hx hb dX1_shuffle_20 (by decide) ?_
      refine lv_icmp_ne (tgt := 34) hx hb dX1_shuffle_22 (by decide) (fun c48 => ?_) (fun c48 => ?_)
      · replace h := h.2 (k_ne rfl (by decide) c48)
        refine lv_aload_n hx hb dX1_shuffle_34 rfl (lv_at hl 0 rfl) ?_
        refine lv_iconst (v := 2) hx hb dX1_shuffle_35 (by decide) ?_
        obtain ⟨Q49, h0, h⟩ := h
        have hFc := cfree hR hA
        refine va_callv (va_runV (As := [.int 2]) (rest := []) ⟨hx, hb, hml, hown, hts⟩ (rX1_give l g ad H.size U12 (2 : Int32) hR.w  Q49 h0) (cwV 1 hts (gd_V kw_541 kw_524 kw_525 kw_392 kw_523) rfl rfl rfl (by decide +kernel) ⟨Nat.le_of_ble_eq_true rfl, Nat.le_of_ble_eq_true rfl⟩) ⟨cblind, va_recv hR.K hR.P (ci := 1) (q0 := 16) rfl (hR.at41 (hR.w.2.1 _ finC_27).2.1), fun U hU hW9 => cmk hU hW9 hR hex hE hFc⟩ rfl rfl hl.1 rfl (lv_room (Nat.le_of_ble_eq_true rfl)) dX1_shuffle_36 ⟨Nat.le_of_ble_eq_true rfl, Nat.le_of_ble_eq_true rfl⟩) hR.sS (fun q _ h => hFc q h) hFc (fun  S50 t9 H1 locs ht9 hvm9 hw9 hB9 hz9 hk9 hS => ?_)
        obtain ⟨hq51, hw9, hs9⟩ := hw9
        have hR : RepC g ad A s S50 H1 locs := hR.call ht9 hB9 hw9 hS hFc
        have hsh := hsh.tr hs9
        replace h := h  S50 hq51 hw9 hs9
        clear hB9 hz9 hk9 hvm9 ht9 hw9 hs9 hS
        generalize H1 = H at hR ⊢
        exact W.vret hx hb hr (fun t9 ht9 hW9 => ⟨⟨S50, rfl, ⟨h, hR.w, hsh⟩, ⟨by rw [ht9]; exact hR.P, hR.D⟩⟩, hR.sS.F ht9⟩) hR.sS.2.2 dX1_shuffle_39
      · replace h := h.1 (k_eq rfl (by decide) c48)
        refine lv_aload_n hx hb dX1_shuffle_25 rfl (lv_at hl 0 rfl) ?_
        refine lv_iconst (v := 2) hx hb dX1_shuffle_26 (by decide) ?_
        obtain ⟨Q52, h0, h⟩ := h
        have hFc := cfree hR hA
        refine va_calli (va_runV (As := [.int 2]) (rest := []) ⟨hx, hb, hml, hown, hts⟩ (rX1_take l g ad H.size U12 (2 : Int32) hR.w  Q52 h0) (cwV 1 hts (gd_V kw_539 kw_601 kw_602 kw_392 kw_600) rfl rfl rfl (by decide +kernel) ⟨Nat.le_of_ble_eq_true rfl, Nat.le_of_ble_eq_true rfl⟩) ⟨cblind, va_recv hR.K hR.P (ci := 1) (q0 := 16) rfl (hR.at41 (hR.w.2.1 _ finC_27).2.1), fun U hU hW9 => cmk hU hW9 hR hex hE hFc⟩ rfl rfl hl.1 rfl (lv_room (Nat.le_of_ble_eq_true rfl)) dX1_shuffle_27 ⟨Nat.le_of_ble_eq_true rfl, Nat.le_of_ble_eq_true rfl⟩) hR.sS (fun q _ h => hFc q h) hFc (fun r53 S54 t9 H1 locs ht9 hvm9 hw9 hB9 hz9 hk9 hS => ?_)
        obtain ⟨hq55, hw9, hs9⟩ := hw9
        have hR : RepC g ad A s S54 H1 locs := hR.call ht9 hB9 hw9 hS hFc
        have hsh := hsh.tr hs9
        replace h := h r53 S54 hq55 hw9 hs9
        clear hB9 hz9 hk9 hvm9 ht9 hw9 hs9 hS
        generalize H1 = H at hR ⊢
        refine lv_pop hx hb dX1_shuffle_30 rfl ?_
        refine lv_goto (tgt := 39) hx hb dX1_shuffle_31 (by decide) ?_
        exact W.vret hx hb hr (fun t9 ht9 hW9 => ⟨⟨S54, rfl, ⟨h, hR.w, hsh⟩, ⟨by rw [ht9]; exact hR.P, hR.D⟩⟩, hR.sS.F ht9⟩) hR.sS.2.2 dX1_shuffle_39
  refine lv_icmp_eq (tgt := 12) hx hb dX1_shuffle_3 (by decide) (fun c56 => ?_) (fun c56 => ?_)
  · replace h := h.1 (k_eq rfl (by decide) c56)
    exact J_12 S x1 _ _ ls h  hsh hR (lv_sub hl [0, 1] rfl)
  · replace h := h.2 (k_ne rfl (by decide) c56)
    refine lv_iload_n hx hb dX1_shuffle_6 rfl (lv_at hl 1 rfl) ?_
    refine lv_bipush (v := 92) hx hb dX1_shuffle_7 (by decide) ?_
    refine lv_icmp_ne (tgt := 40) hx hb dX1_shuffle_9 (by decide) (fun c57 => ?_) (fun c57 => ?_)
    · replace h := h.2 (k_ne rfl (by decide) c57)
      exact J_40 S x1 _ _ ls h  hsh hR (lv_sub hl [0, 1] rfl)
    · replace h := h.1 (k_eq rfl (by decide) c57)
      exact J_12 S x1 _ _ ls h  hsh hR (lv_sub hl [0, 1] rfl)
def fX2_numbersOf (S : MS) (x0 : Int32) : Int32 := ((x0 + (4 : Int32)) &&& (-4 : Int32))
def d_X2_numbersOf (S : MS) (x0 : Int32) : Prop := True
set_option maxHeartbeats 2000000 in
set_option maxRecDepth 100000 in
theorem rX2_numbersOf (l : Launch) (g : Gr) (ad : Nat → Nat) (sz : Nat) (S : MS) (x0 : Int32) (hw : wfC S) (hd : d_X2_numbersOf S x0) : Met l yX2_numbersOf (wt yX2_numbersOf cX2_numbersOf 1 (some .int)) ({ frames := 0, cells := 0, slots := 0, locals := 0 }) (va_Pc [.int x0] (st_C g ad sz S)) (va_Qi (fun (r : Int32) (_ : Unit) => r = fX2_numbersOf S x0) (fun (_ : Unit) (t : State) => qEC g ad (va_A (WdC g ad S) sz) S t) (va_A (WdC g ad S) sz)) 0 0 (va_A (WdC g ad S) sz) := by
  refine Met.ofW (cc := cX2_numbersOf) (maxL := 1) (ret := (some .int)) (by decide) rfl ?_
  intro p e s m args below meth c s₁ B hml hv
  obtain ⟨rfl, hsz, hP, hK, hD0, hex, hE⟩ := hv
  have hx := B.exec
  have hb := B.bytes
  have hr := B.returns
  have hts0 := atoms_spec (ws := wt yX2_numbersOf cX2_numbersOf 1 (some .int)) B.pre
  have hts : ∀ w ∈ tb, w.before _ s = true := fun w h => hts0 w (List.mem_cons_of_mem _ h)
  have hown : s.vm.findClass RX2 = some m.cls := findClass_of_methodNamed B.named
  subst hsz
  have hD := hD0.self (sz := s.heap.size)
  generalize hAe : va_A (WdC g ad S) s.heap.size = A at hD hE ⊢
  have hA : ∀ q : Nat, s.heap.size ≤ q → A q := fun q h => by rw [← hAe]; exact Or.inr h
  have hR : RepC g ad A s S s.heap [] := ⟨hK, hP, hD, va_S.rf, hw⟩
  clear hK hP hD hD0
  have hl := lv_entry ([.int x0]) (n := 1) (Nat.le_of_ble_eq_true rfl)
  rw [lg_entry_eq]
  generalize (lg_sl ([.int x0]) ++ List.replicate (1 - (lg_sl ([.int x0])).length) Slot.unset).toArray = ls at hl ⊢
  have hl : lv_has ls 1 [(0, .int x0)] := hl
  obtain ⟨r0, hf⟩ : ∃ r0, fX2_numbersOf S x0 = r0 := ⟨_, rfl⟩
  have hf0 := hf
  unfold fX2_numbersOf at hf
  unfold d_X2_numbersOf at hd
  refine lv_iload_n hx hb dX2_numbersOf_0 rfl (lv_at hl 0 rfl) ?_
  refine lv_iconst (v := 4) hx hb dX2_numbersOf_1 (by decide) ?_
  refine lv_iadd hx hb dX2_numbersOf_2 ?_
  refine lv_topi (fun z1 ez1 => ?_)
  obtain rfl : z1 = (x0 + (4 : Int32)) := ez1
  refine lv_bipush (v := (-4)) hx hb dX2_numbersOf_3 (by decide) ?_
  refine lv_iand hx hb dX2_numbersOf_5 ?_
  refine lv_topi (fun z2 ez2 => ?_)
  obtain rfl : z2 = ((x0 + (4 : Int32)) &&& (-4 : Int32)) := ez2
  exact W.iret (v := ((x0 + (4 : Int32)) &&& (-4 : Int32))) hx hb hr (fun t9 ht9 hW9 => ⟨⟨_, (), rfl, hf.trans hf0.symm, ⟨by rw [ht9]; exact hR.P, hR.D⟩⟩, hR.sS.F ht9⟩) hR.sS.2.2 dX2_numbersOf_6
def wX2_set (S : MS) (x1 : Int32) (y2 : Int64) (Q : MS → Prop) : Prop := (∀ S1, S1 = wI S 8 9 x1 → qT S 8 = 42 → wfC S1 → (∀ S2, S2 = wJ S1 8 10 y2 → qT S1 8 = 42 → wfC S2 → Q S2))
set_option maxHeartbeats 2000000 in
set_option maxRecDepth 100000 in
theorem rX2_set (l : Launch) (g : Gr) (ad : Nat → Nat) (sz : Nat) (S : MS) (x1 : Int32) (y2 : Int64) (hw : wfC S) (Q : MS → Prop) (h : wX2_set S x1 y2 Q) : Met l yX2_set (wt yX2_set cX2_set 4 none) ({ frames := 0, cells := 0, slots := 0, locals := 0 }) (va_Pc [.ref (ad 8), .int x1, .long y2] (st_C g ad sz S)) (va_Qv (fun (u : MS) => Q u ∧ wfC u ∧ shy S u) (fun (u : MS) (t : State) => qEC g ad (va_A (WdC g ad S) sz) u t) (va_A (WdC g ad S) sz)) 0 0 (va_A (WdC g ad S) sz) := by
  refine Met.ofW (cc := cX2_set) (maxL := 4) (ret := none) (by decide) rfl ?_
  intro p e s m args below meth c s₁ B hml hv
  obtain ⟨rfl, hsz, hP, hK, hD0, hex, hE⟩ := hv
  have hx := B.exec
  have hb := B.bytes
  have hr := B.returns
  have hts0 := atoms_spec (ws := wt yX2_set cX2_set 4 none) B.pre
  have hts : ∀ w ∈ tb, w.before _ s = true := fun w h => hts0 w (List.mem_cons_of_mem _ h)
  have hown : s.vm.findClass RX2 = some m.cls := findClass_of_methodNamed B.named
  subst hsz
  have hD := hD0.self (sz := s.heap.size)
  generalize hAe : va_A (WdC g ad S) s.heap.size = A at hD hE ⊢
  have hA : ∀ q : Nat, s.heap.size ≤ q → A q := fun q h => by rw [← hAe]; exact Or.inr h
  have hR : RepC g ad A s S s.heap [] := ⟨hK, hP, hD, va_S.rf, hw⟩
  clear hK hP hD hD0
  have hl := lv_entry ([.ref (ad 8), .int x1, .long y2]) (n := 4) (Nat.le_of_ble_eq_true rfl)
  rw [lg_entry_eq]
  generalize (lg_sl ([.ref (ad 8), .int x1, .long y2]) ++ List.replicate (4 - (lg_sl ([.ref (ad 8), .int x1, .long y2])).length) Slot.unset).toArray = ls at hl ⊢
  have hl : lv_has ls 4 [(0, .ref (ad 8)), (1, .int x1), (2, .long y2)] := hl
  have hsh : shy S S := shy.rf
  unfold wX2_set at h
  refine lv_aload_n hx hb dX2_set_0 rfl (lv_at hl 0 rfl) ?_
  refine lv_iload_n hx hb dX2_set_1 rfl (lv_at hl 1 rfl) ?_
  refine va_put (D := rD g) (ci := 2) (v := .int x1) (ty := .int) (C := RX2) (T := TX2) (N := 12) hx hb hts inX2 tyX2 tyX2_ok nmX2 hown hR.K hR.P hR.D hR.sS 8 (hR.at42 (hR.w.2.1 _ finC_26).2.1) rfl 9 (by decide) (hts _ kw_619) (fun _ h9 => h9) rfl (by decide +kernel) rfl rfl (Nat.le_of_ble_eq_true rfl) dX2_set_2 (fun H locs hP hD hS => ?_)
  have hTk9 : qT S 8 = 42 := (hR.w.2.1 _ finC_26).2.1
  have hR : RepC g ad A s (wI S 8 9 x1) H locs := hR.pI42 (hR.w.2.1 _ finC_26).2.1 FX2_s9 (fun q9 => absurd q9 (by decide)) hP hD hS
  obtain ⟨S1, eS1⟩ : ∃ z, z = wI S 8 9 x1 := ⟨_, rfl⟩
  rw [← eS1] at hR
  replace h := h S1 eS1 hTk9 hR.w
  have hsh : shy S S1 := by rw [eS1]; exact hsh
  refine lv_aload_n hx hb dX2_set_5 rfl (lv_at hl 0 rfl) ?_
  refine lv_lload_n hx hb dX2_set_6 rfl (lv_at hl 2 rfl) ?_
  refine va_put (D := rD g) (ci := 2) (v := .long y2) (ty := .long) (C := RX2) (T := TX2) (N := 12) hx hb hts inX2 tyX2 tyX2_ok nmX2 hown hR.K hR.P hR.D hR.sS 8 (hR.at42 (hR.w.2.1 _ finC_26).2.1) rfl 10 (by decide) (hts _ kw_617) (fun _ h9 => h9) rfl (by decide +kernel) rfl rfl (Nat.le_of_ble_eq_true rfl) dX2_set_7 (fun H locs hP hD hS => ?_)
  have hTk9 : qT S1 8 = 42 := (hR.w.2.1 _ finC_26).2.1
  have hR : RepC g ad A s (wJ S1 8 10 y2) H locs := hR.pJ42 (hR.w.2.1 _ finC_26).2.1 FX2_s10 hP hD hS
  obtain ⟨S2, eS2⟩ : ∃ z, z = wJ S1 8 10 y2 := ⟨_, rfl⟩
  rw [← eS2] at hR
  replace h := h S2 eS2 hTk9 hR.w
  have hsh : shy S S2 := by rw [eS2]; exact hsh
  exact W.vret hx hb hr (fun t9 ht9 hW9 => ⟨⟨S2, rfl, ⟨h, hR.w, hsh⟩, ⟨by rw [ht9]; exact hR.P, hR.D⟩⟩, hR.sS.F ht9⟩) hR.sS.2.2 dX2_set_10
def f_X2_numberOf_J27 (S : MS) : Int32 := (-1 : Int32)
def d_X2_numberOf_J27 (S : MS) : Prop := True
def fX2_numberOf (S : MS) (y1 : Int64) : Int32 := (if (lg_cmp y1 0).toInt < 0 then f_X2_numberOf_J27 S else (if 0 < (lg_cmp y1 ((qI S 8 2).toInt64)).toInt then f_X2_numberOf_J27 S else (if (lg_cmp y1 ((1201 : Int32).toInt64)).toInt < 0 then (qI S 15 (((y1.toInt32).toInt).toNat)) else f_X2_numberOf_J27 S)))
def d_X2_numberOf (S : MS) (y1 : Int64) : Prop := (if (lg_cmp y1 0).toInt < 0 then d_X2_numberOf_J27 S else (if 0 < (lg_cmp y1 ((qI S 8 2).toInt64)).toInt then d_X2_numberOf_J27 S else (if (lg_cmp y1 ((1201 : Int32).toInt64)).toInt < 0 then (((0 : Int) ≤ (y1.toInt32).toInt ∧ (y1.toInt32).toInt < 1201) ∧ True) else d_X2_numberOf_J27 S)))
set_option maxHeartbeats 2000000 in
set_option maxRecDepth 100000 in
theorem rX2_numberOf (l : Launch) (g : Gr) (ad : Nat → Nat) (sz : Nat) (S : MS) (y1 : Int64) (hw : wfC S) (hd : d_X2_numberOf S y1) : Met l yX2_numberOf (wt yX2_numberOf cX2_numberOf 3 (some .int)) ({ frames := 0, cells := 0, slots := 0, locals := 0 }) (va_Pc [.ref (ad 8), .long y1] (st_C g ad sz S)) (va_Qi (fun (r : Int32) (_ : Unit) => r = fX2_numberOf S y1) (fun (_ : Unit) (t : State) => qEC g ad (va_A (WdC g ad S) sz) S t) (va_A (WdC g ad S) sz)) 0 0 (va_A (WdC g ad S) sz) := by
  refine Met.ofW (cc := cX2_numberOf) (maxL := 3) (ret := (some .int)) (by decide) rfl ?_
  intro p e s m args below meth c s₁ B hml hv
  obtain ⟨rfl, hsz, hP, hK, hD0, hex, hE⟩ := hv
  have hx := B.exec
  have hb := B.bytes
  have hr := B.returns
  have hts0 := atoms_spec (ws := wt yX2_numberOf cX2_numberOf 3 (some .int)) B.pre
  have hts : ∀ w ∈ tb, w.before _ s = true := fun w h => hts0 w (List.mem_cons_of_mem _ h)
  have hown : s.vm.findClass RX2 = some m.cls := findClass_of_methodNamed B.named
  subst hsz
  have hD := hD0.self (sz := s.heap.size)
  generalize hAe : va_A (WdC g ad S) s.heap.size = A at hD hE ⊢
  have hA : ∀ q : Nat, s.heap.size ≤ q → A q := fun q h => by rw [← hAe]; exact Or.inr h
  have hR : RepC g ad A s S s.heap [] := ⟨hK, hP, hD, va_S.rf, hw⟩
  clear hK hP hD hD0
  have hl := lv_entry ([.ref (ad 8), .long y1]) (n := 3) (Nat.le_of_ble_eq_true rfl)
  rw [lg_entry_eq]
  generalize (lg_sl ([.ref (ad 8), .long y1]) ++ List.replicate (3 - (lg_sl ([.ref (ad 8), .long y1])).length) Slot.unset).toArray = ls at hl ⊢
  have hl : lv_has ls 3 [(0, .ref (ad 8)), (1, .long y1)] := hl
  obtain ⟨r0, hf⟩ : ∃ r0, fX2_numberOf S y1 = r0 := ⟨_, rfl⟩
  have hf0 := hf
  unfold fX2_numberOf at hf
  unfold d_X2_numberOf at hd
  refine lv_lload_n hx hb dX2_numberOf_0 rfl (lv_at hl 1 rfl) ?_
  refine lv_lconst (v := 0) hx hb dX2_numberOf_1 (by decide) ?_
  refine W.lcmp hx hb dX2_numberOf_2 ?_
  refine lv_topi (fun z1 ez1 => ?_)
  obtain rfl : z1 = (lg_cmp y1 0) := ez1
  have J_27 : ∀ (H : Heap) (locs : List Loc) (ls : Array Slot), d_X2_numberOf_J27 S → f_X2_numberOf_J27 S = r0 → RepC g ad A s S H locs → lv_has ls 3 [] → W p l e (headSpec (wt yX2_numberOf cX2_numberOf 3 (some .int)) ({ frames := 0, cells := 0, slots := 0, locals := 0 })).room s m ([.ref (ad 8), .long y1] : List Value).toArray below meth c H locs 0 0 (MQ below (va_Qi (fun (r : Int32) (_ : Unit) => r = fX2_numberOf S y1) (fun (_ : Unit) (t : State) => qEC g ad A S t) A) ([.ref (ad 8), .long y1] : List Value).toArray s 0 0 A) (F0 m 27 ls []) := by
    intro H locs ls hd hf hR hl
    unfold d_X2_numberOf_J27 at hd
    unfold f_X2_numberOf_J27 at hf
    refine lv_iconst (v := (-1)) hx hb dX2_numberOf_27 (by decide) ?_
    refine lv_goto (tgt := 38) hx hb dX2_numberOf_28 (by decide) ?_
    exact W.iret (v := (-1)) hx hb hr (fun t9 ht9 hW9 => ⟨⟨_, (), rfl, hf.trans hf0.symm, ⟨by rw [ht9]; exact hR.P, hR.D⟩⟩, hR.sS.F ht9⟩) hR.sS.2.2 dX2_numberOf_38
  refine lv_if_lt (tgt := 27) hx hb dX2_numberOf_3 (by decide) (fun c2 => ?_) (fun c2 => ?_)
  · rw [if_pos (k_lt rfl (by decide) c2)] at hf
    (try rw [if_pos (k_lt rfl (by decide) c2)] at hd)
    exact J_27 _ _ ls hd hf  hR (lv_sub hl [] rfl)
  · rw [if_neg (k_nlt rfl (by decide) c2)] at hf
    (try rw [if_neg (k_nlt rfl (by decide) c2)] at hd)
    refine lv_lload_n hx hb dX2_numberOf_6 rfl (lv_at hl 1 rfl) ?_
    refine lv_aload_n hx hb dX2_numberOf_7 rfl (lv_at hl 0 rfl) ?_
    refine va_get (D := rD g) (ci := 2) (v := .int (qI S 8 2)) (C := RX2) (T := TX2) (N := 12) hx hb hts inX2 hown hR.K hR.P 8 (hR.at42 (hR.w.2.1 _ finC_26).2.1) rfl 2 (by decide) (hts _ kw_716) (fun _ h9 => h9) rfl dX2_numberOf_8 ?_
    refine lv_i2l (v := ((qI S 8 2).toInt64)) hx hb dX2_numberOf_11 rfl ?_
    refine W.lcmp hx hb dX2_numberOf_12 ?_
    refine lv_topi (fun z3 ez3 => ?_)
    obtain rfl : z3 = (lg_cmp y1 ((qI S 8 2).toInt64)) := ez3
    refine lv_if_gt (tgt := 27) hx hb dX2_numberOf_13 (by decide) (fun c4 => ?_) (fun c4 => ?_)
    · rw [if_pos (k_lt (by decide) rfl c4)] at hf
      (try rw [if_pos (k_lt (by decide) rfl c4)] at hd)
      exact J_27 _ _ ls hd hf  hR (lv_sub hl [] rfl)
    · rw [if_neg (k_nlt (by decide) rfl c4)] at hf
      (try rw [if_neg (k_nlt (by decide) rfl c4)] at hd)
      refine lv_lload_n hx hb dX2_numberOf_16 rfl (lv_at hl 1 rfl) ?_
      refine lv_aload_n hx hb dX2_numberOf_17 rfl (lv_at hl 0 rfl) ?_
      refine va_get (D := rD g) (ci := 2) (v := .ref (ad 15)) (C := RX2) (T := TX2) (N := 12) hx hb hts inX2 hown hR.K hR.P 8 (hR.at42 (hR.w.2.1 _ finC_26).2.1) rfl 7 (by decide) (hts _ kw_711) (fun _ h9 => h9) (congrArg (fun z => some (vf ad z)) (hR.w.2.1 _ finC_3).1) dX2_numberOf_18 ?_
      refine va_alen (v := 1201) hx hb hR.K hR.P 15 1 (hR.atI (hR.w.2.1 _ finC_3).2.1 (by decide)) rfl (by rw [(hR.w.2.1 _ finC_3).2.2]; rfl) dX2_numberOf_21 ?_
      refine lv_i2l (v := ((1201 : Int32).toInt64)) hx hb dX2_numberOf_22 rfl ?_
      refine W.lcmp hx hb dX2_numberOf_23 ?_
      refine lv_topi (fun z5 ez5 => ?_)
      obtain rfl : z5 = (lg_cmp y1 ((1201 : Int32).toInt64)) := ez5
      refine lv_if_lt (tgt := 31) hx hb dX2_numberOf_24 (by decide) (fun c6 => ?_) (fun c6 => ?_)
      · rw [if_pos (k_lt rfl (by decide) c6)] at hf
        (try rw [if_pos (k_lt rfl (by decide) c6)] at hd)
        refine lv_aload_n hx hb dX2_numberOf_31 rfl (lv_at hl 0 rfl) ?_
        refine va_get (D := rD g) (ci := 2) (v := .ref (ad 15)) (C := RX2) (T := TX2) (N := 12) hx hb hts inX2 hown hR.K hR.P 8 (hR.at42 (hR.w.2.1 _ finC_26).2.1) rfl 7 (by decide) (hts _ kw_711) (fun _ h9 => h9) (congrArg (fun z => some (vf ad z)) (hR.w.2.1 _ finC_3).1) dX2_numberOf_32 ?_
        refine lv_lload_n hx hb dX2_numberOf_35 rfl (lv_at hl 1 rfl) ?_
        refine lv_l2i (v := (y1.toInt32)) hx hb dX2_numberOf_36 rfl ?_
        obtain ⟨hv7, hd⟩ := hd
        refine va_iald hx hb hR.K hR.P 15 1 (hR.atI (hR.w.2.1 _ finC_3).2.1 (by decide)) rfl (k_ixN (k_ix (n := 1201) (x := (y1.toInt32)) (a := (y1.toInt32).toInt) rfl hv7) (hR.w.2.1 _ finC_3).2.2) dX2_numberOf_37 ?_
        refine lv_topi (fun z8 ez8 => ?_)
        obtain rfl : z8 = (qI S 15 (((y1.toInt32).toInt).toNat)) := ez8
        exact W.iret (v := (qI S 15 (((y1.toInt32).toInt).toNat))) hx hb hr (fun t9 ht9 hW9 => ⟨⟨_, (), rfl, hf.trans hf0.symm, ⟨by rw [ht9]; exact hR.P, hR.D⟩⟩, hR.sS.F ht9⟩) hR.sS.2.2 dX2_numberOf_38
      · rw [if_neg (k_nlt rfl (by decide) c6)] at hf
        (try rw [if_neg (k_nlt rfl (by decide) c6)] at hd)
        exact J_27 _ _ ls hd hf  hR (lv_sub hl [] rfl)
def f_X2_isInstruction_J22 (S : MS) : Int32 := (0 : Int32)
def d_X2_isInstruction_J22 (S : MS) : Prop := True
def fX2_isInstruction (S : MS) (y1 : Int64) : Int32 := (if 0 ≤ (lg_cmp y1 ((qI S 8 2).toInt64)).toInt then f_X2_isInstruction_J22 S else (if (fX2_numberOf S y1).toInt < 0 then f_X2_isInstruction_J22 S else (1 : Int32)))
def d_X2_isInstruction (S : MS) (y1 : Int64) : Prop := (if 0 ≤ (lg_cmp y1 ((qI S 8 2).toInt64)).toInt then d_X2_isInstruction_J22 S else (d_X2_numberOf S y1 ∧ (if (fX2_numberOf S y1).toInt < 0 then d_X2_isInstruction_J22 S else True)))
set_option maxHeartbeats 2000000 in
set_option maxRecDepth 100000 in
theorem rX2_isInstruction (l : Launch) (g : Gr) (ad : Nat → Nat) (sz : Nat) (S : MS) (y1 : Int64) (hw : wfC S) (hd : d_X2_isInstruction S y1) : Met l yX2_isInstruction (wt yX2_isInstruction cX2_isInstruction 3 (some .boolean)) ({ frames := 1, cells := 0, slots := 0, locals := 22 }) (va_Pc [.ref (ad 8), .long y1] (st_C g ad sz S)) (va_Qi (fun (r : Int32) (_ : Unit) => r = fX2_isInstruction S y1 ∧ (r = 0 ∨ r = 1)) (fun (_ : Unit) (t : State) => qEC g ad (va_A (WdC g ad S) sz) S t) (va_A (WdC g ad S) sz)) 0 0 (va_A (WdC g ad S) sz) := by
  refine Met.ofW (cc := cX2_isInstruction) (maxL := 3) (ret := (some .boolean)) (by decide) rfl ?_
  intro p e s m args below meth c s₁ B hml hv
  obtain ⟨rfl, hsz, hP, hK, hD0, hex, hE⟩ := hv
  have hx := B.exec
  have hb := B.bytes
  have hr := B.returns
  have hts0 := atoms_spec (ws := wt yX2_isInstruction cX2_isInstruction 3 (some .boolean)) B.pre
  have hts : ∀ w ∈ tb, w.before _ s = true := fun w h => hts0 w (List.mem_cons_of_mem _ h)
  have hown : s.vm.findClass RX2 = some m.cls := findClass_of_methodNamed B.named
  subst hsz
  have hD := hD0.self (sz := s.heap.size)
  generalize hAe : va_A (WdC g ad S) s.heap.size = A at hD hE ⊢
  have hA : ∀ q : Nat, s.heap.size ≤ q → A q := fun q h => by rw [← hAe]; exact Or.inr h
  have hR : RepC g ad A s S s.heap [] := ⟨hK, hP, hD, va_S.rf, hw⟩
  clear hK hP hD hD0
  have hl := lv_entry ([.ref (ad 8), .long y1]) (n := 3) (Nat.le_of_ble_eq_true rfl)
  rw [lg_entry_eq]
  generalize (lg_sl ([.ref (ad 8), .long y1]) ++ List.replicate (3 - (lg_sl ([.ref (ad 8), .long y1])).length) Slot.unset).toArray = ls at hl ⊢
  have hl : lv_has ls 3 [(0, .ref (ad 8)), (1, .long y1)] := hl
  obtain ⟨r0, hf⟩ : ∃ r0, fX2_isInstruction S y1 = r0 := ⟨_, rfl⟩
  have hf0 := hf
  unfold fX2_isInstruction at hf
  unfold d_X2_isInstruction at hd
  refine lv_lload_n hx hb dX2_isInstruction_0 rfl (lv_at hl 1 rfl) ?_
  refine lv_aload_n hx hb dX2_isInstruction_1 rfl (lv_at hl 0 rfl) ?_
  refine va_get (D := rD g) (ci := 2) (v := .int (qI S 8 2)) (C := RX2) (T := TX2) (N := 12) hx hb hts inX2 hown hR.K hR.P 8 (hR.at42 (hR.w.2.1 _ finC_26).2.1) rfl 2 (by decide) (hts _ kw_716) (fun _ h9 => h9) rfl dX2_isInstruction_2 ?_
  refine lv_i2l (v := ((qI S 8 2).toInt64)) hx hb dX2_isInstruction_5 rfl ?_
  refine W.lcmp hx hb dX2_isInstruction_6 ?_
  refine lv_topi (fun z1 ez1 => ?_)
  obtain rfl : z1 = (lg_cmp y1 ((qI S 8 2).toInt64)) := ez1
  have J_22 : ∀ (H : Heap) (locs : List Loc) (ls : Array Slot), d_X2_isInstruction_J22 S → f_X2_isInstruction_J22 S = r0 → RepC g ad A s S H locs → lv_has ls 3 [] → W p l e (headSpec (wt yX2_isInstruction cX2_isInstruction 3 (some .boolean)) ({ frames := 1, cells := 0, slots := 0, locals := 22 })).room s m ([.ref (ad 8), .long y1] : List Value).toArray below meth c H locs 0 0 (MQ below (va_Qi (fun (r : Int32) (_ : Unit) => r = fX2_isInstruction S y1 ∧ (r = 0 ∨ r = 1)) (fun (_ : Unit) (t : State) => qEC g ad A S t) A) ([.ref (ad 8), .long y1] : List Value).toArray s 0 0 A) (F0 m 22 ls []) := by
    intro H locs ls hd hf hR hl
    unfold d_X2_isInstruction_J22 at hd
    unfold f_X2_isInstruction_J22 at hf
    refine lv_iconst (v := 0) hx hb dX2_isInstruction_22 (by decide) ?_
    exact W.zret (v := 0) hx hb hr (nz (Or.inl rfl)) (fun t9 ht9 hW9 => ⟨⟨_, (), rfl, ⟨hf.trans hf0.symm, (Or.inl rfl)⟩, ⟨by rw [ht9]; exact hR.P, hR.D⟩⟩, hR.sS.F ht9⟩) hR.sS.2.2 dX2_isInstruction_23
  refine lv_if_ge (tgt := 22) hx hb dX2_isInstruction_7 (by decide) (fun c2 => ?_) (fun c2 => ?_)
  · rw [if_pos (k_le (by decide) rfl c2)] at hf
    (try rw [if_pos (k_le (by decide) rfl c2)] at hd)
    exact J_22 _ _ ls hd hf  hR (lv_sub hl [] rfl)
  · rw [if_neg (k_nle (by decide) rfl c2)] at hf
    (try rw [if_neg (k_nle (by decide) rfl c2)] at hd)
    refine lv_aload_n hx hb dX2_isInstruction_10 rfl (lv_at hl 0 rfl) ?_
    refine lv_lload_n hx hb dX2_isInstruction_11 rfl (lv_at hl 1 rfl) ?_
    obtain ⟨hv3, hd⟩ := hd
    have hFc := cfree hR hA
    refine va_calli (va_runV (As := [.long y1]) (rest := []) ⟨hx, hb, hml, hown, hts⟩ (rX2_numberOf l g ad s.heap.size S y1 hR.w  hv3) (cwV 1 hts (gd_V kw_625 kw_761 kw_762 kw_389 kw_760) rfl rfl rfl (by decide +kernel) ⟨Nat.le_of_ble_eq_true rfl, Nat.le_of_ble_eq_true rfl⟩) ⟨cblind, va_recv hR.K hR.P (ci := 2) (q0 := 8) rfl (hR.at42 (hR.w.2.1 _ finC_26).2.1), fun U hU hW9 => cmk hU hW9 hR hex hE hFc⟩ rfl rfl hl.1 rfl (lv_room (Nat.le_of_ble_eq_true rfl)) dX2_isInstruction_12 ⟨Nat.le_of_ble_eq_true rfl, Nat.le_of_ble_eq_true rfl⟩) hR.sS (fun q _ h => hFc q h) hFc (fun r4 u9 t9 H1 locs ht9 hvm9 hw9 hB9 hz9 hk9 hS => ?_)
    have hR : RepC g ad A s S H1 locs := hR.call ht9 hB9 hR.w hS hFc
    obtain rfl : r4 = (fX2_numberOf S y1) := hw9
    clear hB9 hz9 hk9 hvm9 ht9 hS
    generalize H1 = H at hR ⊢
    refine lv_if_lt (tgt := 22) hx hb dX2_isInstruction_15 (by decide) (fun c6 => ?_) (fun c6 => ?_)
    · rw [if_pos (k_lt rfl (by decide) c6)] at hf
      (try rw [if_pos (k_lt rfl (by decide) c6)] at hd)
      exact J_22 _ _ ls hd hf  hR (lv_sub hl [] rfl)
    · rw [if_neg (k_nlt rfl (by decide) c6)] at hf
      (try rw [if_neg (k_nlt rfl (by decide) c6)] at hd)
      refine lv_iconst (v := 1) hx hb dX2_isInstruction_18 (by decide) ?_
      refine lv_goto (tgt := 23) hx hb dX2_isInstruction_19 (by decide) ?_
      exact W.zret (v := 1) hx hb hr (nz (Or.inr rfl)) (fun t9 ht9 hW9 => ⟨⟨_, (), rfl, ⟨hf.trans hf0.symm, (Or.inr rfl)⟩, ⟨by rw [ht9]; exact hR.P, hR.D⟩⟩, hR.sS.F ht9⟩) hR.sS.2.2 dX2_isInstruction_23
