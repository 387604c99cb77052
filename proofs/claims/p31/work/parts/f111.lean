def f_X10_takesOfMethod_J13 (S : MS) : Int32 := (0 : Int32)
def d_X10_takesOfMethod_J13 (S : MS) : Prop := True
def fX10_takesOfMethod (S : MS) (p0 : Nat) (x1 : Int32) : Int32 := (if x1.toInt < 0 then f_X10_takesOfMethod_J13 S else (if x1.toInt < (qN S (qO S p0 11) : Int) then (qI S (qO S p0 11) x1.toInt.toNat) else f_X10_takesOfMethod_J13 S))
def d_X10_takesOfMethod (S : MS) (p0 : Nat) (x1 : Int32) : Prop := (if x1.toInt < 0 then d_X10_takesOfMethod_J13 S else ((qR S p0 11 = some (qO S p0 11)) ∧ (if x1.toInt < (qN S (qO S p0 11) : Int) then ((qR S p0 11 = some (qO S p0 11)) ∧ (((0 : Int) ≤ x1.toInt ∧ x1.toInt < (qN S (qO S p0 11) : Int)) ∧ True)) else d_X10_takesOfMethod_J13 S)))
set_option maxHeartbeats 2000000 in
set_option maxRecDepth 100000 in
theorem rX10_takesOfMethod (l : Launch) (g : Gr) (ad : Nat → Nat) (sz : Nat) (S : MS) (p0 : Nat) (x1 : Int32) (hw : wfC S) (hT_p0 : qT S p0 = 49) (hd : d_X10_takesOfMethod S p0 x1) : Met l yX10_takesOfMethod (wt yX10_takesOfMethod cX10_takesOfMethod 2 (some .int)) ({ frames := 0, cells := 0, slots := 0, locals := 0 }) (va_Pc [.ref (ad p0), .int x1] (st_C g ad sz S)) (va_Qi (fun (r : Int32) (_ : Unit) => r = fX10_takesOfMethod S p0 x1) (fun (_ : Unit) (t : State) => qEC g ad (va_A (WdC g ad S) sz) S t) (va_A (WdC g ad S) sz)) 0 0 (va_A (WdC g ad S) sz) := by
  refine Met.ofW (cc := cX10_takesOfMethod) (maxL := 2) (ret := (some .int)) (by decide) rfl ?_
  intro p e s m args below meth c s₁ B hml hv
  obtain ⟨rfl, hsz, hP, hK, hD0, hex, hE⟩ := hv
  have hx := B.exec
  have hb := B.bytes
  have hr := B.returns
  have hts0 := atoms_spec (ws := wt yX10_takesOfMethod cX10_takesOfMethod 2 (some .int)) B.pre
  have hts : ∀ w ∈ tb, w.before _ s = true := fun w h => hts0 w (List.mem_cons_of_mem _ h)
  have hown : s.vm.findClass RX10 = some m.cls := findClass_of_methodNamed B.named
  subst hsz
  have hD := hD0.self (sz := s.heap.size)
  generalize hAe : va_A (WdC g ad S) s.heap.size = A at hD hE ⊢
  have hA : ∀ q : Nat, s.heap.size ≤ q → A q := fun q h => by rw [← hAe]; exact Or.inr h
  have hR : RepC g ad A s S s.heap [] := ⟨hK, hP, hD, va_S.rf, hw⟩
  clear hK hP hD hD0
  have hl := lv_entry ([.ref (ad p0), .int x1]) (n := 2) (Nat.le_of_ble_eq_true rfl)
  rw [lg_entry_eq]
  generalize (lg_sl ([.ref (ad p0), .int x1]) ++ List.replicate (2 - (lg_sl ([.ref (ad p0), .int x1])).length) Slot.unset).toArray = ls at hl ⊢
  have hl : lv_has ls 2 [(0, .ref (ad p0)), (1, .int x1)] := hl
  obtain ⟨r0, hf⟩ : ∃ r0, fX10_takesOfMethod S p0 x1 = r0 := ⟨_, rfl⟩
  have hf0 := hf
  unfold fX10_takesOfMethod at hf
  unfold d_X10_takesOfMethod at hd
  refine lv_iload_n hx hb dX10_takesOfMethod_0 rfl (lv_at hl 1 rfl) ?_
  have J_13 : ∀ (H : Heap) (locs : List Loc) (ls : Array Slot), d_X10_takesOfMethod_J13 S → f_X10_takesOfMethod_J13 S = r0 → RepC g ad A s S H locs → lv_has ls 2 [] → W p l e (headSpec (wt yX10_takesOfMethod cX10_takesOfMethod 2 (some .int)) ({ frames := 0, cells := 0, slots := 0, locals := 0 })).room s m ([.ref (ad p0), .int x1] : List Value).toArray below meth c H locs 0 0 (MQ below (va_Qi (fun (r : Int32) (_ : Unit) => r = fX10_takesOfMethod S p0 x1) (fun (_ : Unit) (t : State) => qEC g ad A S t) A) ([.ref (ad p0), .int x1] : List Value).toArray s 0 0 A) (F0 m 13 ls []) := by
    intro H locs ls hd hf hR hl
    unfold d_X10_takesOfMethod_J13 at hd
    unfold f_X10_takesOfMethod_J13 at hf
    refine lv_iconst (v := 0) hx hb dX10_takesOfMethod_13 (by decide) ?_
    refine lv_goto (tgt := 23) hx hb dX10_takesOfMethod_14 (by decide) ?_
    exact W.iret (v := 0) hx hb hr (fun t9 ht9 hW9 => ⟨⟨_, (), rfl, hf.trans hf0.symm, ⟨by rw [ht9]; exact hR.P, hR.D⟩⟩, hR.sS.F ht9⟩) hR.sS.2.2 dX10_takesOfMethod_23
  refine lv_if_lt (tgt := 13) hx hb dX10_takesOfMethod_1 (by decide) (fun c1 => ?_) (fun c1 => ?_)
  · rw [if_pos (k_lt rfl (by decide) c1)] at hf
    (try rw [if_pos (k_lt rfl (by decide) c1)] at hd)
    exact J_13 _ _ ls hd hf  hR (lv_sub hl [] rfl)
  · rw [if_neg (k_nlt rfl (by decide) c1)] at hf
    (try rw [if_neg (k_nlt rfl (by decide) c1)] at hd)
    refine lv_iload_n hx hb dX10_takesOfMethod_4 rfl (lv_at hl 1 rfl) ?_
    refine lv_aload_n hx hb dX10_takesOfMethod_5 rfl (lv_at hl 0 rfl) ?_
    obtain ⟨hv3, hd⟩ := hd
    have hT_b2 : qT S (qO S p0 11) = 236 := hR.w.ref hv3 hT_p0
    refine va_get (D := rD g) (ci := 9) (v := .ref (ad (qO S p0 11))) (C := RX10) (T := TX10) (N := 18) hx hb hts inX10 hown hR.K hR.P p0 (hR.at49 hT_p0) rfl 11 (by decide) (hts _ kw_58) (fun _ h9 => h9) (congrArg (fun z => some (vf ad z)) hv3) dX10_takesOfMethod_6 ?_
    refine va_alen (v := (Int32.ofNat (qN S (qO S p0 11)))) hx hb hR.K hR.P (qO S p0 11) 1 (hR.atI hT_b2 (by decide)) rfl rfl dX10_takesOfMethod_9 ?_
    have hln4 : (Int32.ofNat (qN S (qO S p0 11))).toInt = (qN S (qO S p0 11) : Int) := toI_len (hR.w.len9 (hT_b2) (by decide))
    refine lv_icmp_lt (tgt := 17) hx hb dX10_takesOfMethod_10 (by decide) (fun c5 => ?_) (fun c5 => ?_)
    · rw [if_pos (k_lt rfl hln4 c5)] at hf
      (try rw [if_pos (k_lt rfl hln4 c5)] at hd)
      refine lv_aload_n hx hb dX10_takesOfMethod_17 rfl (lv_at hl 0 rfl) ?_
      obtain ⟨hv7, hd⟩ := hd
      have hT_b6 : qT S (qO S p0 11) = 236 := hR.w.ref hv7 hT_p0
      refine va_get (D := rD g) (ci := 9) (v := .ref (ad (qO S p0 11))) (C := RX10) (T := TX10) (N := 18) hx hb hts inX10 hown hR.K hR.P p0 (hR.at49 hT_p0) rfl 11 (by decide) (hts _ kw_58) (fun _ h9 => h9) (congrArg (fun z => some (vf ad z)) hv7) dX10_takesOfMethod_18 ?_
      refine lv_iload_n hx hb dX10_takesOfMethod_21 rfl (lv_at hl 1 rfl) ?_
      obtain ⟨hv8, hd⟩ := hd
      refine va_iald hx hb hR.K hR.P (qO S p0 11) 1 (hR.atI hT_b6 (by decide)) rfl (k_ix (x := x1) (a := x1.toInt) rfl hv8) dX10_takesOfMethod_22 ?_
      refine lv_topi (fun z9 ez9 => ?_)
      obtain rfl : z9 = (qI S (qO S p0 11) x1.toInt.toNat) := ez9
      exact W.iret (v := (qI S (qO S p0 11) x1.toInt.toNat)) hx hb hr (fun t9 ht9 hW9 => ⟨⟨_, (), rfl, hf.trans hf0.symm, ⟨by rw [ht9]; exact hR.P, hR.D⟩⟩, hR.sS.F ht9⟩) hR.sS.2.2 dX10_takesOfMethod_23
    · rw [if_neg (k_nlt rfl hln4 c5)] at hf
      (try rw [if_neg (k_nlt rfl hln4 c5)] at hd)
      exact J_13 _ _ ls hd hf  hR (lv_sub hl [] rfl)
def f_X10_givesOfMethod_J13 (S : MS) : Int32 := (0 : Int32)
def d_X10_givesOfMethod_J13 (S : MS) : Prop := True
def fX10_givesOfMethod (S : MS) (p0 : Nat) (x1 : Int32) : Int32 := (if x1.toInt < 0 then f_X10_givesOfMethod_J13 S else (if x1.toInt < (qN S (qO S p0 12) : Int) then (qI S (qO S p0 12) x1.toInt.toNat) else f_X10_givesOfMethod_J13 S))
def d_X10_givesOfMethod (S : MS) (p0 : Nat) (x1 : Int32) : Prop := (if x1.toInt < 0 then d_X10_givesOfMethod_J13 S else ((qR S p0 12 = some (qO S p0 12)) ∧ (if x1.toInt < (qN S (qO S p0 12) : Int) then ((qR S p0 12 = some (qO S p0 12)) ∧ (((0 : Int) ≤ x1.toInt ∧ x1.toInt < (qN S (qO S p0 12) : Int)) ∧ True)) else d_X10_givesOfMethod_J13 S)))
set_option maxHeartbeats 2000000 in
set_option maxRecDepth 100000 in
theorem rX10_givesOfMethod (l : Launch) (g : Gr) (ad : Nat → Nat) (sz : Nat) (S : MS) (p0 : Nat) (x1 : Int32) (hw : wfC S) (hT_p0 : qT S p0 = 49) (hd : d_X10_givesOfMethod S p0 x1) : Met l yX10_givesOfMethod (wt yX10_givesOfMethod cX10_givesOfMethod 2 (some .int)) ({ frames := 0, cells := 0, slots := 0, locals := 0 }) (va_Pc [.ref (ad p0), .int x1] (st_C g ad sz S)) (va_Qi (fun (r : Int32) (_ : Unit) => r = fX10_givesOfMethod S p0 x1) (fun (_ : Unit) (t : State) => qEC g ad (va_A (WdC g ad S) sz) S t) (va_A (WdC g ad S) sz)) 0 0 (va_A (WdC g ad S) sz) := by
  refine Met.ofW (cc := cX10_givesOfMethod) (maxL := 2) (ret := (some .int)) (by decide) rfl ?_
  intro p e s m args below meth c s₁ B hml hv
  obtain ⟨rfl, hsz, hP, hK, hD0, hex, hE⟩ := hv
  have hx := B.exec
  have hb := B.bytes
  have hr := B.returns
  have hts0 := atoms_spec (ws := wt yX10_givesOfMethod cX10_givesOfMethod 2 (some .int)) B.pre
  have hts : ∀ w ∈ tb, w.before _ s = true := fun w h => hts0 w (List.mem_cons_of_mem _ h)
  have hown : s.vm.findClass RX10 = some m.cls := findClass_of_methodNamed B.named
  subst hsz
  have hD := hD0.self (sz := s.heap.size)
  generalize hAe : va_A (WdC g ad S) s.heap.size = A at hD hE ⊢
  have hA : ∀ q : Nat, s.heap.size ≤ q → A q := fun q h => by rw [← hAe]; exact Or.inr h
  have hR : RepC g ad A s S s.heap [] := ⟨hK, hP, hD, va_S.rf, hw⟩
  clear hK hP hD hD0
  have hl := lv_entry ([.ref (ad p0), .int x1]) (n := 2) (Nat.le_of_ble_eq_true rfl)
  rw [lg_entry_eq]
  generalize (lg_sl ([.ref (ad p0), .int x1]) ++ List.replicate (2 - (lg_sl ([.ref (ad p0), .int x1])).length) Slot.unset).toArray = ls at hl ⊢
  have hl : lv_has ls 2 [(0, .ref (ad p0)), (1, .int x1)] := hl
  obtain ⟨r0, hf⟩ : ∃ r0, fX10_givesOfMethod S p0 x1 = r0 := ⟨_, rfl⟩
  have hf0 := hf
  unfold fX10_givesOfMethod at hf
  unfold d_X10_givesOfMethod at hd
  refine lv_iload_n hx hb dX10_givesOfMethod_0 rfl (lv_at hl 1 rfl) ?_
  have J_13 : ∀ (H : Heap) (locs : List Loc) (ls : Array Slot), d_X10_givesOfMethod_J13 S → f_X10_givesOfMethod_J13 S = r0 → RepC g ad A s S H locs → lv_has ls 2 [] → W p l e (headSpec (wt yX10_givesOfMethod cX10_givesOfMethod 2 (some .int)) ({ frames := 0, cells := 0, slots := 0, locals := 0 })).room s m ([.ref (ad p0), .int x1] : List Value).toArray below meth c H locs 0 0 (MQ below (va_Qi (fun (r : Int32) (_ : Unit) => r = fX10_givesOfMethod S p0 x1) (fun (_ : Unit) (t : State) => qEC g ad A S t) A) ([.ref (ad p0), .int x1] : List Value).toArray s 0 0 A) (F0 m 13 ls []) := by
    intro H locs ls hd hf hR hl
    unfold d_X10_givesOfMethod_J13 at hd
    unfold f_X10_givesOfMethod_J13 at hf
    refine lv_iconst (v := 0) hx hb dX10_givesOfMethod_13 (by decide) ?_
    refine lv_goto (tgt := 23) hx hb dX10_givesOfMethod_14 (by decide) ?_
    exact W.iret (v := 0) hx hb hr (fun t9 ht9 hW9 => ⟨⟨_, (), rfl, hf.trans hf0.symm, ⟨by rw [ht9]; exact hR.P, hR.D⟩⟩, hR.sS.F ht9⟩) hR.sS.2.2 dX10_givesOfMethod_23
  refine lv_if_lt (tgt := 13) hx hb dX10_givesOfMethod_1 (by decide) (fun c1 => ?_) (fun c1 => ?_)
  · rw [if_pos (k_lt rfl (by decide) c1)] at hf
    (try rw [if_pos (k_lt rfl (by decide) c1)] at hd)
    exact J_13 _ _ ls hd hf  hR (lv_sub hl [] rfl)
  · rw [if_neg (k_nlt rfl (by decide) c1)] at hf
    (try rw [if_neg (k_nlt rfl (by decide) c1)] at hd)
    refine lv_iload_n hx hb dX10_givesOfMethod_4 rfl (lv_at hl 1 rfl) ?_
    refine lv_aload_n hx hb dX10_givesOfMethod_5 rfl (lv_at hl 0 rfl) ?_
    obtain ⟨hv3, hd⟩ := hd
    have hT_b2 : qT S (qO S p0 12) = 237 := hR.w.ref hv3 hT_p0
    refine va_get (D := rD g) (ci := 9) (v := .ref (ad (qO S p0 12))) (C := RX10) (T := TX10) (N := 18) hx hb hts inX10 hown hR.K hR.P p0 (hR.at49 hT_p0) rfl 12 (by decide) (hts _ kw_43) (fun _ h9 => h9) (congrArg (fun z => some (vf ad z)) hv3) dX10_givesOfMethod_6 ?_
    refine va_alen (v := (Int32.ofNat (qN S (qO S p0 12)))) hx hb hR.K hR.P (qO S p0 12) 1 (hR.atI hT_b2 (by decide)) rfl rfl dX10_givesOfMethod_9 ?_
    have hln4 : (Int32.ofNat (qN S (qO S p0 12))).toInt = (qN S (qO S p0 12) : Int) := toI_len (hR.w.len9 (hT_b2) (by decide))
    refine lv_icmp_lt (tgt := 17) hx hb dX10_givesOfMethod_10 (by decide) (fun c5 => ?_) (fun c5 => ?_)
    · rw [if_pos (k_lt rfl hln4 c5)] at hf
      (try rw [if_pos (k_lt rfl hln4 c5)] at hd)
      refine lv_aload_n hx hb dX10_givesOfMethod_17 rfl (lv_at hl 0 rfl) ?_
      obtain ⟨hv7, hd⟩ := hd
      have hT_b6 : qT S (qO S p0 12) = 237 := hR.w.ref hv7 hT_p0
      refine va_get (D := rD g) (ci := 9) (v := .ref (ad (qO S p0 12))) (C := RX10) (T := TX10) (N := 18) hx hb hts inX10 hown hR.K hR.P p0 (hR.at49 hT_p0) rfl 12 (by decide) (hts _ kw_43) (fun _ h9 => h9) (congrArg (fun z => some (vf ad z)) hv7) dX10_givesOfMethod_18 ?_
      refine lv_iload_n hx hb dX10_givesOfMethod_21 rfl (lv_at hl 1 rfl) ?_
      obtain ⟨hv8, hd⟩ := hd
      refine va_iald hx hb hR.K hR.P (qO S p0 12) 1 (hR.atI hT_b6 (by decide)) rfl (k_ix (x := x1) (a := x1.toInt) rfl hv8) dX10_givesOfMethod_22 ?_
      refine lv_topi (fun z9 ez9 => ?_)
      obtain rfl : z9 = (qI S (qO S p0 12) x1.toInt.toNat) := ez9
      exact W.iret (v := (qI S (qO S p0 12) x1.toInt.toNat)) hx hb hr (fun t9 ht9 hW9 => ⟨⟨_, (), rfl, hf.trans hf0.symm, ⟨by rw [ht9]; exact hR.P, hR.D⟩⟩, hR.sS.F ht9⟩) hR.sS.2.2 dX10_givesOfMethod_23
    · rw [if_neg (k_nlt rfl hln4 c5)] at hf
      (try rw [if_neg (k_nlt rfl hln4 c5)] at hd)
      exact J_13 _ _ ls hd hf  hR (lv_sub hl [] rfl)
def fX10_takes (S : MS) (p0 : Nat) (p1 : Nat) (x2 : Int32) : Int32 := (if (fX8_opAt S p1 x2).toInt = 179 then (fX10_kindOfField S p0 ((fX8_argAt S p1 x2).toInt32)) else (if (fX8_opAt S p1 x2).toInt = 184 then (fX10_takesOfMethod S p0 ((fX8_argAt S p1 x2).toInt32)) else (fX6_takes S (fX8_opAt S p1 x2))))
def d_X10_takes (S : MS) (p0 : Nat) (p1 : Nat) (x2 : Int32) : Prop := (d_X8_opAt S p1 x2 ∧ (if (fX8_opAt S p1 x2).toInt = 179 then (d_X8_argAt S p1 x2 ∧ (d_X10_kindOfField S p0 ((fX8_argAt S p1 x2).toInt32) ∧ True)) else (if (fX8_opAt S p1 x2).toInt = 184 then (d_X8_argAt S p1 x2 ∧ (d_X10_takesOfMethod S p0 ((fX8_argAt S p1 x2).toInt32) ∧ True)) else (d_X6_takes S (fX8_opAt S p1 x2) ∧ True))))
set_option maxHeartbeats 2000000 in
set_option maxRecDepth 100000 in
theorem rX10_takes (l : Launch) (g : Gr) (ad : Nat → Nat) (sz : Nat) (S : MS) (p0 : Nat) (p1 : Nat) (x2 : Int32) (hw : wfC S) (hT_p0 : qT S p0 = 49) (hT_p1 : qT S p1 = 47) (hd : d_X10_takes S p0 p1 x2) : Met l yX10_takes (wt yX10_takes cX10_takes 4 (some .int)) ({ frames := 1, cells := 0, slots := 0, locals := 21 }) (va_Pc [.ref (ad p0), .ref (ad p1), .int x2] (st_C g ad sz S)) (va_Qi (fun (r : Int32) (_ : Unit) => r = fX10_takes S p0 p1 x2) (fun (_ : Unit) (t : State) => qEC g ad (va_A (WdC g ad S) sz) S t) (va_A (WdC g ad S) sz)) 0 0 (va_A (WdC g ad S) sz) := by
  refine Met.ofW (cc := cX10_takes) (maxL := 4) (ret := (some .int)) (by decide) rfl ?_
  intro p e s m args below meth c s₁ B hml hv
  obtain ⟨rfl, hsz, hP, hK, hD0, hex, hE⟩ := hv
  have hx := B.exec
  have hb := B.bytes
  have hr := B.returns
  have hts0 := atoms_spec (ws := wt yX10_takes cX10_takes 4 (some .int)) B.pre
  have hts : ∀ w ∈ tb, w.before _ s = true := fun w h => hts0 w (List.mem_cons_of_mem _ h)
  have hown : s.vm.findClass RX10 = some m.cls := findClass_of_methodNamed B.named
  subst hsz
  have hD := hD0.self (sz := s.heap.size)
  generalize hAe : va_A (WdC g ad S) s.heap.size = A at hD hE ⊢
  have hA : ∀ q : Nat, s.heap.size ≤ q → A q := fun q h => by rw [← hAe]; exact Or.inr h
  have hR : RepC g ad A s S s.heap [] := ⟨hK, hP, hD, va_S.rf, hw⟩
  clear hK hP hD hD0
  have hl := lv_entry ([.ref (ad p0), .ref (ad p1), .int x2]) (n := 4) (Nat.le_of_ble_eq_true rfl)
  rw [lg_entry_eq]
  generalize (lg_sl ([.ref (ad p0), .ref (ad p1), .int x2]) ++ List.replicate (4 - (lg_sl ([.ref (ad p0), .ref (ad p1), .int x2])).length) Slot.unset).toArray = ls at hl ⊢
  have hl : lv_has ls 4 [(0, .ref (ad p0)), (1, .ref (ad p1)), (2, .int x2)] := hl
  obtain ⟨r0, hf⟩ : ∃ r0, fX10_takes S p0 p1 x2 = r0 := ⟨_, rfl⟩
  have hf0 := hf
  unfold fX10_takes at hf
  unfold d_X10_takes at hd
  refine lv_aload_n hx hb dX10_takes_0 rfl (lv_at hl 1 rfl) ?_
  refine lv_iload_n hx hb dX10_takes_1 rfl (lv_at hl 2 rfl) ?_
  obtain ⟨hv1, hd⟩ := hd
  have hFc := cfree hR hA
  refine va_calli (va_runV (As := [.int x2]) (rest := []) ⟨hx, hb, hml, hown, hts⟩ (rX8_opAt l g ad s.heap.size S p1 x2 hR.w hT_p1 hv1) (cwV 1 hts (gd_V kw_35 kw_1513 kw_1514 kw_782 kw_1512) rfl rfl rfl (by decide +kernel) ⟨Nat.le_of_ble_eq_true rfl, Nat.le_of_ble_eq_true rfl⟩) ⟨cblind, va_recv hR.K hR.P (ci := 7) (q0 := p1) rfl (hR.at47 hT_p1), fun U hU hW9 => cmk hU hW9 hR hex hE hFc⟩ rfl rfl hl.1 rfl (lv_room (Nat.le_of_ble_eq_true rfl)) dX10_takes_2 ⟨Nat.le_of_ble_eq_true rfl, Nat.le_of_ble_eq_true rfl⟩) hR.sS (fun q _ h => hFc q h) hFc (fun r2 u9 t9 H1 locs ht9 hvm9 hw9 hB9 hz9 hk9 hS => ?_)
  have hR : RepC g ad A s S H1 locs := hR.call ht9 hB9 hR.w hS hFc
  obtain rfl : r2 = (fX8_opAt S p1 x2) := hw9
  clear hB9 hz9 hk9 hvm9 ht9 hS
  generalize H1 = H at hR ⊢
  refine lv_istore_n (lv' := [(3, .int (fX8_opAt S p1 x2)), (0, .ref (ad p0)), (1, .ref (ad p1)), (2, .int x2)]) hx hb dX10_takes_5 rfl hl (by decide) rfl (fun ls hl => ?_)
  refine lv_iload_n hx hb dX10_takes_6 rfl (lv_at hl 0 rfl) ?_
  refine lv_sipush (v := 179) hx hb dX10_takes_7 (by decide) ?_
  refine lv_icmp_ne (tgt := 24) hx hb dX10_takes_10 (by decide) (fun c4 => ?_) (fun c4 => ?_)
  · rw [if_neg (k_ne rfl (by decide) c4)] at hf
    (try rw [if_neg (k_ne rfl (by decide) c4)] at hd)
    refine lv_iload_n hx hb dX10_takes_24 rfl (lv_at hl 0 rfl) ?_
    refine lv_sipush (v := 184) hx hb dX10_takes_25 (by decide) ?_
    refine lv_icmp_ne (tgt := 44) hx hb dX10_takes_28 (by decide) (fun c5 => ?_) (fun c5 => ?_)
    · rw [if_neg (k_ne rfl (by decide) c5)] at hf
      (try rw [if_neg (k_ne rfl (by decide) c5)] at hd)
      refine lv_iload_n hx hb dX10_takes_44 rfl (lv_at hl 0 rfl) ?_
      obtain ⟨hv6, hd⟩ := hd
      have hFc := cfree hR hA
      refine va_calli (va_runS (As := [.int (fX8_opAt S p1 x2)]) (rest := []) ⟨hx, hb, hml, hown, hts⟩ (rX6_takes l g ad H.size S (fX8_opAt S p1 x2) hR.w  hv6) (va_cwS 1 hts (gd_S kw_76 kw_1255 kw_1207 kw_1254) rfl rfl rfl (by decide +kernel) ⟨Nat.le_of_ble_eq_true rfl, Nat.le_of_ble_eq_true rfl⟩) ⟨cblind, fun U hU hW9 => cmk hU hW9 hR hex hE hFc⟩ rfl rfl hl.1 rfl (lv_room (Nat.le_of_ble_eq_true rfl)) dX10_takes_45 ⟨Nat.le_of_ble_eq_true rfl, Nat.le_of_ble_eq_true rfl⟩) hR.sS (fun q _ h => hFc q h) hFc (fun r7 u9 t9 H1 locs ht9 hvm9 hw9 hB9 hz9 hk9 hS => ?_)
      have hR : RepC g ad A s S H1 locs := hR.call ht9 hB9 hR.w hS hFc
      obtain rfl : r7 = (fX6_takes S (fX8_opAt S p1 x2)) := hw9
      clear hB9 hz9 hk9 hvm9 ht9 hS
      generalize H1 = H at hR ⊢
      exact W.iret (v := (fX6_takes S (fX8_opAt S p1 x2))) hx hb hr (fun t9 ht9 hW9 => ⟨⟨_, (), rfl, hf.trans hf0.symm, ⟨by rw [ht9]; exact hR.P, hR.D⟩⟩, hR.sS.F ht9⟩) hR.sS.2.2 dX10_takes_48
    · rw [if_pos (k_eq rfl (by decide) c5)] at hf
      (try rw [if_pos (k_eq rfl (by decide) c5)] at hd)
      refine lv_aload_n hx hb dX10_takes_31 rfl (lv_at hl 1 rfl) ?_
      refine lv_aload_n hx hb dX10_takes_32 rfl (lv_at hl 2 rfl) ?_
      refine lv_iload_n hx hb dX10_takes_33 rfl (lv_at hl 3 rfl) ?_
      obtain ⟨hv9, hd⟩ := hd
      have hFc := cfree hR hA
      refine va_calll (va_runV (As := [.int x2]) (rest := [.ref (ad p0)]) ⟨hx, hb, hml, hown, hts⟩ (rX8_argAt l g ad H.size S p1 x2 hR.w hT_p1 hv9) (cwV 1 hts (gd_V kw_36 kw_1476 kw_1477 kw_782 kw_1475) rfl rfl rfl (by decide +kernel) ⟨Nat.le_of_ble_eq_true rfl, Nat.le_of_ble_eq_true rfl⟩) ⟨cblind, va_recv hR.K hR.P (ci := 7) (q0 := p1) rfl (hR.at47 hT_p1), fun U hU hW9 => cmk hU hW9 hR hex hE hFc⟩ rfl rfl hl.1 rfl (lv_room (Nat.le_of_ble_eq_true rfl)) dX10_takes_34 ⟨Nat.le_of_ble_eq_true rfl, Nat.le_of_ble_eq_true rfl⟩) hR.sS (fun q _ h => hFc q h) hFc (fun r10 u9 t9 H1 locs ht9 hvm9 hw9 hB9 hz9 hk9 hS => ?_)
      have hR : RepC g ad A s S H1 locs := hR.call ht9 hB9 hR.w hS hFc
      obtain rfl : r10 = (fX8_argAt S p1 x2) := hw9
      clear hB9 hz9 hk9 hvm9 ht9 hS
      generalize H1 = H at hR ⊢
      refine lv_l2i (v := ((fX8_argAt S p1 x2).toInt32)) hx hb dX10_takes_37 rfl ?_
      obtain ⟨hv12, hd⟩ := hd
      have hFc := cfree hR hA
      refine va_calli (va_runV (As := [.int ((fX8_argAt S p1 x2).toInt32)]) (rest := []) ⟨hx, hb, hml, hown, hts⟩ (rX10_takesOfMethod l g ad H.size S p0 ((fX8_argAt S p1 x2).toInt32) hR.w hT_p0 hv12) (cwV 1 hts (gd_V kw_75 kw_78 kw_79 kw_34 kw_77) rfl rfl rfl (by decide +kernel) ⟨Nat.le_of_ble_eq_true rfl, Nat.le_of_ble_eq_true rfl⟩) ⟨cblind, va_recv hR.K hR.P (ci := 9) (q0 := p0) rfl (hR.at49 hT_p0), fun U hU hW9 => cmk hU hW9 hR hex hE hFc⟩ rfl rfl hl.1 rfl (lv_room (Nat.le_of_ble_eq_true rfl)) dX10_takes_38 ⟨Nat.le_of_ble_eq_true rfl, Nat.le_of_ble_eq_true rfl⟩) hR.sS (fun q _ h => hFc q h) hFc (fun r13 u9 t9 H1 locs ht9 hvm9 hw9 hB9 hz9 hk9 hS => ?_)
      have hR : RepC g ad A s S H1 locs := hR.call ht9 hB9 hR.w hS hFc
      obtain rfl : r13 = (fX10_takesOfMethod S p0 ((fX8_argAt S p1 x2).toInt32)) := hw9
      clear hB9 hz9 hk9 hvm9 ht9 hS
      generalize H1 = H at hR ⊢
      refine lv_goto (tgt := 48) hx hb dX10_takes_41 (by decide) ?_
      exact W.iret (v := (fX10_takesOfMethod S p0 ((fX8_argAt S p1 x2).toInt32))) hx hb hr (fun t9 ht9 hW9 => ⟨⟨_, (), rfl, hf.trans hf0.symm, ⟨by rw [ht9]; exact hR.P, hR.D⟩⟩, hR.sS.F ht9⟩) hR.sS.2.2 dX10_takes_48
  · rw [if_pos (k_eq rfl (by decide) c4)] at hf
    (try rw [if_pos (k_eq rfl (by decide) c4)] at hd)
    refine lv_aload_n hx hb dX10_takes_13 rfl (lv_at hl 1 rfl) ?_
    refine lv_aload_n hx hb dX10_takes_14 rfl (lv_at hl 2 rfl) ?_
    refine lv_iload_n hx hb dX10_takes_15 rfl (lv_at hl 3 rfl) ?_
    obtain ⟨hv15, hd⟩ := hd
    have hFc := cfree hR hA
    refine va_calll (va_runV (As := [.int x2]) (rest := [.ref (ad p0)]) ⟨hx, hb, hml, hown, hts⟩ (rX8_argAt l g ad H.size S p1 x2 hR.w hT_p1 hv15) (cwV 1 hts (gd_V kw_36 kw_1476 kw_1477 kw_782 kw_1475) rfl rfl rfl (by decide +kernel) ⟨Nat.le_of_ble_eq_true rfl, Nat.le_of_ble_eq_true rfl⟩) ⟨cblind, va_recv hR.K hR.P (ci := 7) (q0 := p1) rfl (hR.at47 hT_p1), fun U hU hW9 => cmk hU hW9 hR hex hE hFc⟩ rfl rfl hl.1 rfl (lv_room (Nat.le_of_ble_eq_true rfl)) dX10_takes_16 ⟨Nat.le_of_ble_eq_true rfl, Nat.le_of_ble_eq_true rfl⟩) hR.sS (fun q _ h => hFc q h) hFc (fun r16 u9 t9 H1 locs ht9 hvm9 hw9 hB9 hz9 hk9 hS => ?_)
    have hR : RepC g ad A s S H1 locs := hR.call ht9 hB9 hR.w hS hFc
    obtain rfl : r16 = (fX8_argAt S p1 x2) := hw9
    clear hB9 hz9 hk9 hvm9 ht9 hS
    generalize H1 = H at hR ⊢
    refine lv_l2i (v := ((fX8_argAt S p1 x2).toInt32)) hx hb dX10_takes_19 rfl ?_
    obtain ⟨hv18, hd⟩ := hd
    have hFc := cfree hR hA
    refine va_calli (va_runV (As := [.int ((fX8_argAt S p1 x2).toInt32)]) (rest := []) ⟨hx, hb, hml, hown, hts⟩ (rX10_kindOfField l g ad H.size S p0 ((fX8_argAt S p1 x2).toInt32) hR.w hT_p0 hv18) (cwV 1 hts (gd_V kw_37 kw_62 kw_63 kw_34 kw_61) rfl rfl rfl (by decide +kernel) ⟨Nat.le_of_ble_eq_true rfl, Nat.le_of_ble_eq_true rfl⟩) ⟨cblind, va_recv hR.K hR.P (ci := 9) (q0 := p0) rfl (hR.at49 hT_p0), fun U hU hW9 => cmk hU hW9 hR hex hE hFc⟩ rfl rfl hl.1 rfl (lv_room (Nat.le_of_ble_eq_true rfl)) dX10_takes_20 ⟨Nat.le_of_ble_eq_true rfl, Nat.le_of_ble_eq_true rfl⟩) hR.sS (fun q _ h => hFc q h) hFc (fun r19 u9 t9 H1 locs ht9 hvm9 hw9 hB9 hz9 hk9 hS => ?_)
    have hR : RepC g ad A s S H1 locs := hR.call ht9 hB9 hR.w hS hFc
    obtain rfl : r19 = (fX10_kindOfField S p0 ((fX8_argAt S p1 x2).toInt32)) := hw9
    clear hB9 hz9 hk9 hvm9 ht9 hS
    generalize H1 = H at hR ⊢
    exact W.iret (v := (fX10_kindOfField S p0 ((fX8_argAt S p1 x2).toInt32))) hx hb hr (fun t9 ht9 hW9 => ⟨⟨_, (), rfl, hf.trans hf0.symm, ⟨by rw [ht9]; exact hR.P, hR.D⟩⟩, hR.sS.F ht9⟩) hR.sS.2.2 dX10_takes_23
def fX10_gives (S : MS) (p0 : Nat) (p1 : Nat) (x2 : Int32) : Int32 := (if (fX8_opAt S p1 x2).toInt = 178 then (fX10_kindOfField S p0 ((fX8_argAt S p1 x2).toInt32)) else (if (fX8_opAt S p1 x2).toInt = 184 then (fX10_givesOfMethod S p0 ((fX8_argAt S p1 x2).toInt32)) else (fX6_gives S (fX8_opAt S p1 x2))))
def d_X10_gives (S : MS) (p0 : Nat) (p1 : Nat) (x2 : Int32) : Prop := (d_X8_opAt S p1 x2 ∧ (if (fX8_opAt S p1 x2).toInt = 178 then (d_X8_argAt S p1 x2 ∧ (d_X10_kindOfField S p0 ((fX8_argAt S p1 x2).toInt32) ∧ True)) else (if (fX8_opAt S p1 x2).toInt = 184 then (d_X8_argAt S p1 x2 ∧ (d_X10_givesOfMethod S p0 ((fX8_argAt S p1 x2).toInt32) ∧ True)) else (d_X6_gives S (fX8_opAt S p1 x2) ∧ True))))
set_option maxHeartbeats 2000000 in
set_option maxRecDepth 100000 in
theorem rX10_gives (l : Launch) (g : Gr) (ad : Nat → Nat) (sz : Nat) (S : MS) (p0 : Nat) (p1 : Nat) (x2 : Int32) (hw : wfC S) (hT_p0 : qT S p0 = 49) (hT_p1 : qT S p1 = 47) (hd : d_X10_gives S p0 p1 x2) : Met l yX10_gives (wt yX10_gives cX10_gives 4 (some .int)) ({ frames := 1, cells := 0, slots := 0, locals := 21 }) (va_Pc [.ref (ad p0), .ref (ad p1), .int x2] (st_C g ad sz S)) (va_Qi (fun (r : Int32) (_ : Unit) => r = fX10_gives S p0 p1 x2) (fun (_ : Unit) (t : State) => qEC g ad (va_A (WdC g ad S) sz) S t) (va_A (WdC g ad S) sz)) 0 0 (va_A (WdC g ad S) sz) := by
  refine Met.ofW (cc := cX10_gives) (maxL := 4) (ret := (some .int)) (by decide) rfl ?_
  intro p e s m args below meth c s₁ B hml hv
  obtain ⟨rfl, hsz, hP, hK, hD0, hex, hE⟩ := hv
  have hx := B.exec
  have hb := B.bytes
  have hr := B.returns
  have hts0 := atoms_spec (ws := wt yX10_gives cX10_gives 4 (some .int)) B.pre
  have hts : ∀ w ∈ tb, w.before _ s = true := fun w h => hts0 w (List.mem_cons_of_mem _ h)
  have hown : s.vm.findClass RX10 = some m.cls := findClass_of_methodNamed B.named
  subst hsz
  have hD := hD0.self (sz := s.heap.size)
  generalize hAe : va_A (WdC g ad S) s.heap.size = A at hD hE ⊢
  have hA : ∀ q : Nat, s.heap.size ≤ q → A q := fun q h => by rw [← hAe]; exact Or.inr h
  have hR : RepC g ad A s S s.heap [] := ⟨hK, hP, hD, va_S.rf, hw⟩
  clear hK hP hD hD0
  have hl := lv_entry ([.ref (ad p0), .ref (ad p1), .int x2]) (n := 4) (Nat.le_of_ble_eq_true rfl)
  rw [lg_entry_eq]
  generalize (lg_sl ([.ref (ad p0), .ref (ad p1), .int x2]) ++ List.replicate (4 - (lg_sl ([.ref (ad p0), .ref (ad p1), .int x2])).length) Slot.unset).toArray = ls at hl ⊢
  have hl : lv_has ls 4 [(0, .ref (ad p0)), (1, .ref (ad p1)), (2, .int x2)] := hl
  obtain ⟨r0, hf⟩ : ∃ r0, fX10_gives S p0 p1 x2 = r0 := ⟨_, rfl⟩
  have hf0 := hf
  unfold fX10_gives at hf
  unfold d_X10_gives at hd
  refine lv_aload_n hx hb dX10_gives_0 rfl (lv_at hl 1 rfl) ?_
  refine lv_iload_n hx hb dX10_gives_1 rfl (lv_at hl 2 rfl) ?_
  obtain ⟨hv1, hd⟩ := hd
  have hFc := cfree hR hA
  refine va_calli (va_runV (As := [.int x2]) (rest := []) ⟨hx, hb, hml, hown, hts⟩ (rX8_opAt l g ad s.heap.size S p1 x2 hR.w hT_p1 hv1) (cwV 1 hts (gd_V kw_35 kw_1513 kw_1514 kw_782 kw_1512) rfl rfl rfl (by decide +kernel) ⟨Nat.le_of_ble_eq_true rfl, Nat.le_of_ble_eq_true rfl⟩) ⟨cblind, va_recv hR.K hR.P (ci := 7) (q0 := p1) rfl (hR.at47 hT_p1), fun U hU hW9 => cmk hU hW9 hR hex hE hFc⟩ rfl rfl hl.1 rfl (lv_room (Nat.le_of_ble_eq_true rfl)) dX10_gives_2 ⟨Nat.le_of_ble_eq_true rfl, Nat.le_of_ble_eq_true rfl⟩) hR.sS (fun q _ h => hFc q h) hFc (fun r2 u9 t9 H1 locs ht9 hvm9 hw9 hB9 hz9 hk9 hS => ?_)
  have hR : RepC g ad A s S H1 locs := hR.call ht9 hB9 hR.w hS hFc
  obtain rfl : r2 = (fX8_opAt S p1 x2) := hw9
  clear hB9 hz9 hk9 hvm9 ht9 hS
  generalize H1 = H at hR ⊢
  refine lv_istore_n (lv' := [(3, .int (fX8_opAt S p1 x2)), (0, .ref (ad p0)), (1, .ref (ad p1)), (2, .int x2)]) hx hb dX10_gives_5 rfl hl (by decide) rfl (fun ls hl => ?_)
  refine lv_iload_n hx hb dX10_gives_6 rfl (lv_at hl 0 rfl) ?_
  refine lv_sipush (v := 178) hx hb dX10_gives_7 (by decide) ?_
  refine lv_icmp_ne (tgt := 24) hx hb dX10_gives_10 (by decide) (fun c4 => ?_) (fun c4 => ?_)
  · rw [if_neg (k_ne rfl (by decide) c4)] at hf
    (try rw [if_neg (k_ne rfl (by decide) c4)] at hd)
    refine lv_iload_n hx hb dX10_gives_24 rfl (lv_at hl 0 rfl) ?_
    refine lv_sipush (v := 184) hx hb dX10_gives_25 (by decide) ?_
    refine lv_icmp_ne (tgt := 44) hx hb dX10_gives_28 (by decide) (fun c5 => ?_) (fun c5 => ?_)
    · rw [if_neg (k_ne rfl (by decide) c5)] at hf
      (try rw [if_neg (k_ne rfl (by decide) c5)] at hd)
      refine lv_iload_n hx hb dX10_gives_44 rfl (lv_at hl 0 rfl) ?_
      obtain ⟨hv6, hd⟩ := hd
      have hFc := cfree hR hA
      refine va_calli (va_runS (As := [.int (fX8_opAt S p1 x2)]) (rest := []) ⟨hx, hb, hml, hown, hts⟩ (rX6_gives l g ad H.size S (fX8_opAt S p1 x2) hR.w  hv6) (va_cwS 1 hts (gd_S kw_39 kw_1216 kw_1207 kw_1215) rfl rfl rfl (by decide +kernel) ⟨Nat.le_of_ble_eq_true rfl, Nat.le_of_ble_eq_true rfl⟩) ⟨cblind, fun U hU hW9 => cmk hU hW9 hR hex hE hFc⟩ rfl rfl hl.1 rfl (lv_room (Nat.le_of_ble_eq_true rfl)) dX10_gives_45 ⟨Nat.le_of_ble_eq_true rfl, Nat.le_of_ble_eq_true rfl⟩) hR.sS (fun q _ h => hFc q h) hFc (fun r7 u9 t9 H1 locs ht9 hvm9 hw9 hB9 hz9 hk9 hS => ?_)
      have hR : RepC g ad A s S H1 locs := hR.call ht9 hB9 hR.w hS hFc
      obtain rfl : r7 = (fX6_gives S (fX8_opAt S p1 x2)) := hw9
      clear hB9 hz9 hk9 hvm9 ht9 hS
      generalize H1 = H at hR ⊢
      exact W.iret (v := (fX6_gives S (fX8_opAt S p1 x2))) hx hb hr (fun t9 ht9 hW9 => ⟨⟨_, (), rfl, hf.trans hf0.symm, ⟨by rw [ht9]; exact hR.P, hR.D⟩⟩, hR.sS.F ht9⟩) hR.sS.2.2 dX10_gives_48
    · rw [if_pos (k_eq rfl (by decide) c5)] at hf
      (try rw [if_pos (k_eq rfl (by decide) c5)] at hd)
      refine lv_aload_n hx hb dX10_gives_31 rfl (lv_at hl 1 rfl) ?_
      refine lv_aload_n hx hb dX10_gives_32 rfl (lv_at hl 2 rfl) ?_
      refine lv_iload_n hx hb dX10_gives_33 rfl (lv_at hl 3 rfl) ?_
      obtain ⟨hv9, hd⟩ := hd
      have hFc := cfree hR hA
      refine va_calll (va_runV (As := [.int x2]) (rest := [.ref (ad p0)]) ⟨hx, hb, hml, hown, hts⟩ (rX8_argAt l g ad H.size S p1 x2 hR.w hT_p1 hv9) (cwV 1 hts (gd_V kw_36 kw_1476 kw_1477 kw_782 kw_1475) rfl rfl rfl (by decide +kernel) ⟨Nat.le_of_ble_eq_true rfl, Nat.le_of_ble_eq_true rfl⟩) ⟨cblind, va_recv hR.K hR.P (ci := 7) (q0 := p1) rfl (hR.at47 hT_p1), fun U hU hW9 => cmk hU hW9 hR hex hE hFc⟩ rfl rfl hl.1 rfl (lv_room (Nat.le_of_ble_eq_true rfl)) dX10_gives_34 ⟨Nat.le_of_ble_eq_true rfl, Nat.le_of_ble_eq_true rfl⟩) hR.sS (fun q _ h => hFc q h) hFc (fun r10 u9 t9 H1 locs ht9 hvm9 hw9 hB9 hz9 hk9 hS => ?_)
      have hR : RepC g ad A s S H1 locs := hR.call ht9 hB9 hR.w hS hFc
      obtain rfl : r10 = (fX8_argAt S p1 x2) := hw9
      clear hB9 hz9 hk9 hvm9 ht9 hS
      generalize H1 = H at hR ⊢
      refine lv_l2i (v := ((fX8_argAt S p1 x2).toInt32)) hx hb dX10_gives_37 rfl ?_
      obtain ⟨hv12, hd⟩ := hd
      have hFc := cfree hR hA
      refine va_calli (va_runV (As := [.int ((fX8_argAt S p1 x2).toInt32)]) (rest := []) ⟨hx, hb, hml, hown, hts⟩ (rX10_givesOfMethod l g ad H.size S p0 ((fX8_argAt S p1 x2).toInt32) hR.w hT_p0 hv12) (cwV 1 hts (gd_V kw_38 kw_41 kw_42 kw_34 kw_40) rfl rfl rfl (by decide +kernel) ⟨Nat.le_of_ble_eq_true rfl, Nat.le_of_ble_eq_true rfl⟩) ⟨cblind, va_recv hR.K hR.P (ci := 9) (q0 := p0) rfl (hR.at49 hT_p0), fun U hU hW9 => cmk hU hW9 hR hex hE hFc⟩ rfl rfl hl.1 rfl (lv_room (Nat.le_of_ble_eq_true rfl)) dX10_gives_38 ⟨Nat.le_of_ble_eq_true rfl, Nat.le_of_ble_eq_true rfl⟩) hR.sS (fun q _ h => hFc q h) hFc (fun r13 u9 t9 H1 locs ht9 hvm9 hw9 hB9 hz9 hk9 hS => ?_)
      have hR : RepC g ad A s S H1 locs := hR.call ht9 hB9 hR.w hS hFc
      obtain rfl : r13 = (fX10_givesOfMethod S p0 ((fX8_argAt S p1 x2).toInt32)) := hw9
      clear hB9 hz9 hk9 hvm9 ht9 hS
      generalize H1 = H at hR ⊢
      refine lv_goto (tgt := 48) hx hb dX10_gives_41 (by decide) ?_
      exact W.iret (v := (fX10_givesOfMethod S p0 ((fX8_argAt S p1 x2).toInt32))) hx hb hr (fun t9 ht9 hW9 => ⟨⟨_, (), rfl, hf.trans hf0.symm, ⟨by rw [ht9]; exact hR.P, hR.D⟩⟩, hR.sS.F ht9⟩) hR.sS.2.2 dX10_gives_48
  · rw [if_pos (k_eq rfl (by decide) c4)] at hf
    (try rw [if_pos (k_eq rfl (by decide) c4)] at hd)
    refine lv_aload_n hx hb dX10_gives_13 rfl (lv_at hl 1 rfl) ?_
    refine lv_aload_n hx hb dX10_gives_14 rfl (lv_at hl 2 rfl) ?_
    refine lv_iload_n hx hb dX10_gives_15 rfl (lv_at hl 3 rfl) ?_
    obtain ⟨hv15, hd⟩ := hd
    have hFc := cfree hR hA
    refine va_calll (va_runV (As := [.int x2]) (rest := [.ref (ad p0)]) ⟨hx, hb, hml, hown, hts⟩ (rX8_argAt l g ad H.size S p1 x2 hR.w hT_p1 hv15) (cwV 1 hts (gd_V kw_36 kw_1476 kw_1477 kw_782 kw_1475) rfl rfl rfl (by decide +kernel) ⟨Nat.le_of_ble_eq_true rfl, Nat.le_of_ble_eq_true rfl⟩) ⟨cblind, va_recv hR.K hR.P (ci := 7) (q0 := p1) rfl (hR.at47 hT_p1), fun U hU hW9 => cmk hU hW9 hR hex hE hFc⟩ rfl rfl hl.1 rfl (lv_room (Nat.le_of_ble_eq_true rfl)) dX10_gives_16 ⟨Nat.le_of_ble_eq_true rfl, Nat.le_of_ble_eq_true rfl⟩) hR.sS (fun q _ h => hFc q h) hFc (fun r16 u9 t9 H1 locs ht9 hvm9 hw9 hB9 hz9 hk9 hS => ?_)
    have hR : RepC g ad A s S H1 locs := hR.call ht9 hB9 hR.w hS hFc
    obtain rfl : r16 = (fX8_argAt S p1 x2) := hw9
    clear hB9 hz9 hk9 hvm9 ht9 hS
    generalize H1 = H at hR ⊢
    refine lv_l2i (v := ((fX8_argAt S p1 x2).toInt32)) hx hb dX10_gives_19 rfl ?_
    obtain ⟨hv18, hd⟩ := hd
    have hFc := cfree hR hA
    refine va_calli (va_runV (As := [.int ((fX8_argAt S p1 x2).toInt32)]) (rest := []) ⟨hx, hb, hml, hown, hts⟩ (rX10_kindOfField l g ad H.size S p0 ((fX8_argAt S p1 x2).toInt32) hR.w hT_p0 hv18) (cwV 1 hts (gd_V kw_37 kw_62 kw_63 kw_34 kw_61) rfl rfl rfl (by decide +kernel) ⟨Nat.le_of_ble_eq_true rfl, Nat.le_of_ble_eq_true rfl⟩) ⟨cblind, va_recv hR.K hR.P (ci := 9) (q0 := p0) rfl (hR.at49 hT_p0), fun U hU hW9 => cmk hU hW9 hR hex hE hFc⟩ rfl rfl hl.1 rfl (lv_room (Nat.le_of_ble_eq_true rfl)) dX10_gives_20 ⟨Nat.le_of_ble_eq_true rfl, Nat.le_of_ble_eq_true rfl⟩) hR.sS (fun q _ h => hFc q h) hFc (fun r19 u9 t9 H1 locs ht9 hvm9 hw9 hB9 hz9 hk9 hS => ?_)
    have hR : RepC g ad A s S H1 locs := hR.call ht9 hB9 hR.w hS hFc
    obtain rfl : r19 = (fX10_kindOfField S p0 ((fX8_argAt S p1 x2).toInt32)) := hw9
    clear hB9 hz9 hk9 hvm9 ht9 hS
    generalize H1 = H at hR ⊢
    exact W.iret (v := (fX10_kindOfField S p0 ((fX8_argAt S p1 x2).toInt32))) hx hb hr (fun t9 ht9 hW9 => ⟨⟨_, (), rfl, hf.trans hf0.symm, ⟨by rw [ht9]; exact hR.P, hR.D⟩⟩, hR.sS.F ht9⟩) hR.sS.2.2 dX10_gives_23
def w_X10_placesGiven_J54 (Q : Int32 → MS → Prop) (U54 : MS) (v54_0 : Nat) (v54_1 : Nat) (v54_2 : Int32) : Prop := (wfC U54 → qT U54 v54_0 = 49 → qT U54 v54_1 = 47 → (d_X10_gives U54 v54_0 v54_1 v54_2 ∧ (∀ a8 : Int32, a8 = (fX10_gives U54 v54_0 v54_1 v54_2) → (∃ Q9, wX6_placesOf U54 a8 Q9 ∧ ∀ r10 S11, Q9 r10 S11 → wfC S11 → shy U54 S11 → Q r10 S11))))
def wX10_placesGiven (S : MS) (p0 : Nat) (p1 : Nat) (x2 : Int32) (Q : Int32 → MS → Prop) : Prop := (d_X8_opAt S p1 x2 ∧ (∀ a4 : Int32, a4 = (fX8_opAt S p1 x2) → ((a4.toInt = 89 → Q (2 : Int32) S) ∧ (¬ a4.toInt = 89 → ((a4.toInt = 90 → Q (3 : Int32) S) ∧ (¬ a4.toInt = 90 → ((a4.toInt = 91 → w_X10_placesGiven_J54 Q S p0 p1 x2) ∧ (¬ a4.toInt = 91 → ((a4.toInt = 92 → Q (4 : Int32) S) ∧ (¬ a4.toInt = 92 → ((a4.toInt = 93 → w_X10_placesGiven_J54 Q S p0 p1 x2) ∧ (¬ a4.toInt = 93 → ((a4.toInt = 94 → w_X10_placesGiven_J54 Q S p0 p1 x2) ∧ (¬ a4.toInt = 94 → ((a4.toInt = 95 → Q (2 : Int32) S) ∧ (¬ a4.toInt = 95 → w_X10_placesGiven_J54 Q S p0 p1 x2))))))))))))))))
set_option maxHeartbeats 2000000 in
set_option maxRecDepth 100000 in
theorem rX10_placesGiven (l : Launch) (g : Gr) (ad : Nat → Nat) (sz : Nat) (S : MS) (p0 : Nat) (p1 : Nat) (x2 : Int32) (hw : wfC S) (hT_p0 : qT S p0 = 49) (hT_p1 : qT S p1 = 47) (Q : Int32 → MS → Prop) (h : wX10_placesGiven S p0 p1 x2 Q) : Met l yX10_placesGiven (wt yX10_placesGiven cX10_placesGiven 3 (some .int)) ({ frames := 2, cells := 0, slots := 0, locals := 44 }) (va_Pc [.ref (ad p0), .ref (ad p1), .int x2] (st_C g ad sz S)) (va_Qi (fun (r : Int32) (u : MS) => Q r u ∧ wfC u ∧ shy S u) (fun (u : MS) (t : State) => qEC g ad (va_A (WdC g ad S) sz) u t) (va_A (WdC g ad S) sz)) 0 0 (va_A (WdC g ad S) sz) := by
  refine Met.ofW (cc := cX10_placesGiven) (maxL := 3) (ret := (some .int)) (by decide) rfl ?_
  intro p e s m args below meth c s₁ B hml hv
  obtain ⟨rfl, hsz, hP, hK, hD0, hex, hE⟩ := hv
  have hx := B.exec
  have hb := B.bytes
  have hr := B.returns
  have hts0 := atoms_spec (ws := wt yX10_placesGiven cX10_placesGiven 3 (some .int)) B.pre
  have hts : ∀ w ∈ tb, w.before _ s = true := fun w h => hts0 w (List.mem_cons_of_mem _ h)
  have hown : s.vm.findClass RX10 = some m.cls := findClass_of_methodNamed B.named
  subst hsz
  have hD := hD0.self (sz := s.heap.size)
  generalize hAe : va_A (WdC g ad S) s.heap.size = A at hD hE ⊢
  have hA : ∀ q : Nat, s.heap.size ≤ q → A q := fun q h => by rw [← hAe]; exact Or.inr h
  have hR : RepC g ad A s S s.heap [] := ⟨hK, hP, hD, va_S.rf, hw⟩
  clear hK hP hD hD0
  have hl := lv_entry ([.ref (ad p0), .ref (ad p1), .int x2]) (n := 3) (Nat.le_of_ble_eq_true rfl)
  rw [lg_entry_eq]
  generalize (lg_sl ([.ref (ad p0), .ref (ad p1), .int x2]) ++ List.replicate (3 - (lg_sl ([.ref (ad p0), .ref (ad p1), .int x2])).length) Slot.unset).toArray = ls at hl ⊢
  have hl : lv_has ls 3 [(0, .ref (ad p0)), (1, .ref (ad p1)), (2, .int x2)] := hl
  have hsh : shy S S := shy.rf
  unfold wX10_placesGiven at h
  refine lv_aload_n hx hb dX10_placesGiven_0 rfl (lv_at hl 1 rfl) ?_
  refine lv_iload_n hx hb dX10_placesGiven_1 rfl (lv_at hl 2 rfl) ?_
  obtain ⟨hv1, h⟩ := h
  have hFc := cfree hR hA
  refine va_calli (va_runV (As := [.int x2]) (rest := []) ⟨hx, hb, hml, hown, hts⟩ (rX8_opAt l g ad s.heap.size S p1 x2 hR.w hT_p1 hv1) (cwV 1 hts (gd_V kw_35 kw_1513 kw_1514 kw_782 kw_1512) rfl rfl rfl (by decide +kernel) ⟨Nat.le_of_ble_eq_true rfl, Nat.le_of_ble_eq_true rfl⟩) ⟨cblind, va_recv hR.K hR.P (ci := 7) (q0 := p1) rfl (hR.at47 hT_p1), fun U hU hW9 => cmk hU hW9 hR hex hE hFc⟩ rfl rfl hl.1 rfl (lv_room (Nat.le_of_ble_eq_true rfl)) dX10_placesGiven_2 ⟨Nat.le_of_ble_eq_true rfl, Nat.le_of_ble_eq_true rfl⟩) hR.sS (fun q _ h => hFc q h) hFc (fun r2 u9 t9 H1 locs ht9 hvm9 hw9 hB9 hz9 hk9 hS => ?_)
  have hR : RepC g ad A s S H1 locs := hR.call ht9 hB9 hR.w hS hFc
  obtain rfl : r2 = (fX8_opAt S p1 x2) := hw9
  clear hB9 hz9 hk9 hvm9 ht9 hS
  generalize H1 = H at hR ⊢
  obtain ⟨a4, ea4⟩ : ∃ z, z = (fX8_opAt S p1 x2) := ⟨_, rfl⟩
  rw [← ea4]
  replace h := h a4 ea4
  have J_54 : ∀ (U54 : MS) (v54_0 : Nat) (v54_1 : Nat) (v54_2 : Int32) (H : Heap) (locs : List Loc) (ls : Array Slot), w_X10_placesGiven_J54 Q U54 v54_0 v54_1 v54_2 → qT U54 v54_0 = 49 → qT U54 v54_1 = 47 → shy S U54 → RepC g ad A s U54 H locs → lv_has ls 3 [(0, .ref (ad v54_0)), (1, .ref (ad v54_1)), (2, .int v54_2)] → W p l e (headSpec (wt yX10_placesGiven cX10_placesGiven 3 (some .int)) ({ frames := 2, cells := 0, slots := 0, locals := 44 })).room s m ([.ref (ad p0), .ref (ad p1), .int x2] : List Value).toArray below meth c H locs 0 0 (MQ below (va_Qi (fun (r : Int32) (u : MS) => Q r u ∧ wfC u ∧ shy S u) (fun (u : MS) (t : State) => qEC g ad A u t) A) ([.ref (ad p0), .ref (ad p1), .int x2] : List Value).toArray s 0 0 A) (F0 m 54 ls []) := by
    intro U54 v54_0 v54_1 v54_2 H locs ls h hT_v54_0 hT_v54_1 hsh hR hl
    unfold w_X10_placesGiven_J54 at h
    replace h := h hR.w hT_v54_0 hT_v54_1
    refine lv_aload_n hx hb dX10_placesGiven_54 rfl (lv_at hl 0 rfl) ?_
    refine lv_aload_n hx hb dX10_placesGiven_55 rfl (lv_at hl 1 rfl) ?_
    refine lv_iload_n hx hb dX10_placesGiven_56 rfl (lv_at hl 2 rfl) ?_
    obtain ⟨hv5, h⟩ := h
    have hFc := cfree hR hA
    refine va_calli (va_runV (As := [.ref (ad v54_1), .int v54_2]) (rest := []) ⟨hx, hb, hml, hown, hts⟩ (rX10_gives l g ad H.size U54 v54_0 v54_1 v54_2 hR.w hT_v54_0 hT_v54_1 hv5) (cwV 2 hts (gd_V kw_67 kw_32 kw_33 kw_34 kw_31) rfl rfl rfl (by decide +kernel) ⟨Nat.le_of_ble_eq_true rfl, Nat.le_of_ble_eq_true rfl⟩) ⟨cblind, va_recv hR.K hR.P (ci := 9) (q0 := v54_0) rfl (hR.at49 hT_v54_0), fun U hU hW9 => cmk hU hW9 hR hex hE hFc⟩ rfl rfl hl.1 rfl (lv_room (Nat.le_of_ble_eq_true rfl)) dX10_placesGiven_57 ⟨Nat.le_of_ble_eq_true rfl, Nat.le_of_ble_eq_true rfl⟩) hR.sS (fun q _ h => hFc q h) hFc (fun r6 u9 t9 H1 locs ht9 hvm9 hw9 hB9 hz9 hk9 hS => ?_)
    have hR : RepC g ad A s U54 H1 locs := hR.call ht9 hB9 hR.w hS hFc
    obtain rfl : r6 = (fX10_gives U54 v54_0 v54_1 v54_2) := hw9
    clear hB9 hz9 hk9 hvm9 ht9 hS
    generalize H1 = H at hR ⊢
    obtain ⟨a8, ea8⟩ : ∃ z, z = (fX10_gives U54 v54_0 v54_1 v54_2) := ⟨_, rfl⟩
    rw [← ea8]
    replace h := h a8 ea8
    obtain ⟨Q9, h0, h⟩ := h
    have hFc := cfree hR hA
    refine va_calli (va_runS (As := [.int a8]) (rest := []) ⟨hx, hb, hml, hown, hts⟩ (rX6_placesOf l g ad H.size U54 a8 hR.w  Q9 h0) (va_cwS 1 hts (gd_S kw_68 kw_1253 kw_1207 kw_1252) rfl rfl rfl (by decide +kernel) ⟨Nat.le_of_ble_eq_true rfl, Nat.le_of_ble_eq_true rfl⟩) ⟨cblind, fun U hU hW9 => cmk hU hW9 hR hex hE hFc⟩ rfl rfl hl.1 rfl (lv_room (Nat.le_of_ble_eq_true rfl)) dX10_placesGiven_60 ⟨Nat.le_of_ble_eq_true rfl, Nat.le_of_ble_eq_true rfl⟩) hR.sS (fun q _ h => hFc q h) hFc (fun r10 S11 t9 H1 locs ht9 hvm9 hw9 hB9 hz9 hk9 hS => ?_)
    obtain ⟨hq12, hw9, hs9⟩ := hw9
    have hR : RepC g ad A s S11 H1 locs := hR.call ht9 hB9 hw9 hS hFc
    have hsh := hsh.tr hs9
    replace h := h r10 S11 hq12 hw9 hs9
    have hT_v54_0 := hs9.T hT_v54_0 (by decide)
    have hT_v54_1 := hs9.T hT_v54_1 (by decide)
    clear hB9 hz9 hk9 hvm9 ht9 hw9 hs9 hS
    generalize H1 = H at hR ⊢
    exact W.iret (v := r10) hx hb hr (fun t9 ht9 hW9 => ⟨⟨_, S11, rfl, ⟨h, hR.w, hsh⟩, ⟨by rw [ht9]; exact hR.P, hR.D⟩⟩, hR.sS.F ht9⟩) hR.sS.2.2 dX10_placesGiven_63
  by_cases c9_89 : a4.toInt = 89
  · refine lv_tableIn (off := 43) (tgt := 48) hx hb dX10_placesGiven_5 (by rw [c9_89]; decide) (by rw [c9_89]; decide) (by rw [c9_89]; rfl) (by decide) ?_
    replace h := h.1 (c9_89)
    refine lv_iconst (v := 2) hx hb dX10_placesGiven_48 (by decide) ?_
    exact W.iret (v := 2) hx hb hr (fun t9 ht9 hW9 => ⟨⟨_, S, rfl, ⟨h, hR.w, hsh⟩, ⟨by rw [ht9]; exact hR.P, hR.D⟩⟩, hR.sS.F ht9⟩) hR.sS.2.2 dX10_placesGiven_49
  replace h := h.2 c9_89
  by_cases c9_90 : a4.toInt = 90
  · refine lv_tableIn (off := 45) (tgt := 50) hx hb dX10_placesGiven_5 (by rw [c9_90]; decide) (by rw [c9_90]; decide) (by rw [c9_90]; rfl) (by decide) ?_
    replace h := h.1 (c9_90)
    refine lv_iconst (v := 3) hx hb dX10_placesGiven_50 (by decide) ?_
    exact W.iret (v := 3) hx hb hr (fun t9 ht9 hW9 => ⟨⟨_, S, rfl, ⟨h, hR.w, hsh⟩, ⟨by rw [ht9]; exact hR.P, hR.D⟩⟩, hR.sS.F ht9⟩) hR.sS.2.2 dX10_placesGiven_51
  replace h := h.2 c9_90
  by_cases c9_91 : a4.toInt = 91
  · refine lv_tableIn (off := 49) (tgt := 54) hx hb dX10_placesGiven_5 (by rw [c9_91]; decide) (by rw [c9_91]; decide) (by rw [c9_91]; rfl) (by decide) ?_
    replace h := h.1 (c9_91)
    exact J_54 S p0 p1 x2 _ _ ls h hT_p0 hT_p1 hsh hR (lv_sub hl [0, 1, 2] rfl)
  replace h := h.2 c9_91
  by_cases c9_92 : a4.toInt = 92
  · refine lv_tableIn (off := 47) (tgt := 52) hx hb dX10_placesGiven_5 (by rw [c9_92]; decide) (by rw [c9_92]; decide) (by rw [c9_92]; rfl) (by decide) ?_
    replace h := h.1 (c9_92)
    refine lv_iconst (v := 4) hx hb dX10_placesGiven_52 (by decide) ?_
    exact W.iret (v := 4) hx hb hr (fun t9 ht9 hW9 => ⟨⟨_, S, rfl, ⟨h, hR.w, hsh⟩, ⟨by rw [ht9]; exact hR.P, hR.D⟩⟩, hR.sS.F ht9⟩) hR.sS.2.2 dX10_placesGiven_53
  replace h := h.2 c9_92
  by_cases c9_93 : a4.toInt = 93
  · refine lv_tableIn (off := 49) (tgt := 54) hx hb dX10_placesGiven_5 (by rw [c9_93]; decide) (by rw [c9_93]; decide) (by rw [c9_93]; rfl) (by decide) ?_
    replace h := h.1 (c9_93)
    exact J_54 S p0 p1 x2 _ _ ls h hT_p0 hT_p1 hsh hR (lv_sub hl [0, 1, 2] rfl)
  replace h := h.2 c9_93
  by_cases c9_94 : a4.toInt = 94
  · refine lv_tableIn (off := 49) (tgt := 54) hx hb dX10_placesGiven_5 (by rw [c9_94]; decide) (by rw [c9_94]; decide) (by rw [c9_94]; rfl) (by decide) ?_
    replace h := h.1 (c9_94)
    exact J_54 S p0 p1 x2 _ _ ls h hT_p0 hT_p1 hsh hR (lv_sub hl [0, 1, 2] rfl)
  replace h := h.2 c9_94
  by_cases c9_95 : a4.toInt = 95
  · refine lv_tableIn (off := 43) (tgt := 48) hx hb dX10_placesGiven_5 (by rw [c9_95]; decide) (by rw [c9_95]; decide) (by rw [c9_95]; rfl) (by decide) ?_
    replace h := h.1 (c9_95)
    refine lv_iconst (v := 2) hx hb dX10_placesGiven_48 (by decide) ?_
    exact W.iret (v := 2) hx hb hr (fun t9 ht9 hW9 => ⟨⟨_, S, rfl, ⟨h, hR.w, hsh⟩, ⟨by rw [ht9]; exact hR.P, hR.D⟩⟩, hR.sS.F ht9⟩) hR.sS.2.2 dX10_placesGiven_49
  replace h := h.2 c9_95
  refine lv_tableOut (tgt := 54) hx hb dX10_placesGiven_5 (by omega) (by decide) ?_
  exact J_54 S p0 p1 x2 _ _ ls h hT_p0 hT_p1 hsh hR (lv_sub hl [0, 1, 2] rfl)
def wX11_putMember (S : MS) (x1 : Int32) (x2 : Int32) (x3 : Int32) (Q : MS → Prop) : Prop := (qT S 28 = 40 → (∃ Q1, wX0_put2 S 28 (9 : Int32) Q1 ∧ ∀ S2, Q1 S2 → wfC S2 → shx S S2 → (qT S2 28 = 40 → (∃ Q5, wX0_put2 S2 28 x1 Q5 ∧ ∀ S6, Q5 S6 → wfC S6 → shx S2 S6 → (qT S6 28 = 40 → (∃ Q9, wX0_put2 S6 28 x2 Q9 ∧ ∀ S10, Q9 S10 → wfC S10 → shx S6 S10 → (qT S10 28 = 40 → (∃ Q13, wX0_put2 S10 28 x3 Q13 ∧ ∀ S14, Q13 S14 → wfC S14 → shx S10 S14 → Q S14))))))))
set_option maxHeartbeats 2000000 in
set_option maxRecDepth 100000 in
theorem rX11_putMember (l : Launch) (g : Gr) (ad : Nat → Nat) (H0 : Heap) (S : MS) (x1 : Int32) (x2 : Int32) (x3 : Int32) (hw : wfC S) (Q : MS → Prop) (h : wX11_putMember S x1 x2 x3 Q) : Met l yX11_putMember (wt yX11_putMember cX11_putMember 4 none) ({ frames := 4, cells := KCC - qn S, slots := KSC - qu S, locals := 104 }) (va_Pc [.ref (ad 25), .int x1, .int x2, .int x3] (st_CH g ad H0 S)) (va_Qv (fun (u : MS × (Nat → Nat)) => Q u.1 ∧ wfC u.1 ∧ shx S u.1 ∧ adk ad u.2 S) (fun (u : MS × (Nat → Nat)) (t : State) => qEHC g (va_A (WdC g ad S) H0.size) S H0 u t) (va_A (WdC g ad S) H0.size)) (KCC - qn S) (KSC - qu S) (va_A (WdC g ad S) H0.size) := by
  refine Met.ofW (cc := cX11_putMember) (maxL := 4) (ret := none) (by decide) rfl ?_
  intro p e s m args below meth c s₁ B hml hv
  obtain ⟨rfl, hH0, hsz, hP, hK, hD0, hex, hE⟩ := hv
  have hx := B.exec
  have hb := B.bytes
  have hr := B.returns
  have hts0 := atoms_spec (ws := wt yX11_putMember cX11_putMember 4 none) B.pre
  have hts : ∀ w ∈ tb, w.before _ s = true := fun w h => hts0 w (List.mem_cons_of_mem _ h)
  have hown : s.vm.findClass RX11 = some m.cls := findClass_of_methodNamed B.named
  subst hH0
  have hD := hD0.self (sz := s.heap.size)
  generalize hAe : va_A (WdC g ad S) s.heap.size = A at hD hE ⊢
  have hA : ∀ q : Nat, s.heap.size ≤ q → A q := fun q h => by rw [← hAe]; exact Or.inr h
  have hR : RepC g ad A s S s.heap [] := ⟨hK, hP, hD, va_S.rf, hw⟩
  clear hK hP hD hD0
  have hl := lv_entry ([.ref (ad 25), .int x1, .int x2, .int x3]) (n := 4) (Nat.le_of_ble_eq_true rfl)
  rw [lg_entry_eq]
  generalize (lg_sl ([.ref (ad 25), .int x1, .int x2, .int x3]) ++ List.replicate (4 - (lg_sl ([.ref (ad 25), .int x1, .int x2, .int x3])).length) Slot.unset).toArray = ls at hl ⊢
  have hlg : lgC S S 0 0 := lgC.rf
  have hak : adk ad ad S := adk.rf
  have hl : lv_has ls 4 [(0, .ref (ad 25)), (1, .int x1), (2, .int x2), (3, .int x3)] := hl
  have hsh : shx S S := shx.rf
  unfold wX11_putMember at h
  refine lv_aload_n hx hb dX11_putMember_0 rfl (lv_at hl 0 rfl) ?_
  refine va_get (D := rD g) (ci := 10) (v := .ref (ad 28)) (C := RX11) (T := TX11) (N := 18) hx hb hts inX11 hown hR.K hR.P 25 (hR.at50 (hR.w.2.1 _ finC_28).2.1) rfl 1 (by decide) (hts _ kw_94) (fun _ h9 => h9) (congrArg (fun z => some (vf ad z)) (hR.w.2.1 _ finC_13).1) dX11_putMember_1 ?_
  refine lv_bipush (v := 9) hx hb dX11_putMember_4 (by decide) ?_
  replace h := h ((hR.w.2.1 _ finC_13).2.1)
  obtain ⟨Q1, h0, h⟩ := h
  have hFc := cfree hR hA
  refine W_led2 (fun hL0 => ?_)
  refine va_callv (va_runV (As := [.int 9]) (rest := []) ⟨hx, hb, hml, hown, hts⟩ (rX0_put2 l g ad s.heap S 28 (9 : Int32) hR.w (hR.w.2.1 _ finC_13).2.1 Q1 h0) (cwV 1 hts (gd_V kw_96 kw_17 kw_18 kw_3 kw_16) rfl rfl rfl (by decide +kernel) ⟨Nat.le_of_ble_eq_true rfl, Nat.le_of_ble_eq_true rfl⟩) ⟨cblindH, va_recv hR.K hR.P (ci := 0) (q0 := 28) rfl (hR.at40 (hR.w.2.1 _ finC_13).2.1), fun U hU hW9 => cmkH hU hW9 hR hex hE hFc⟩ rfl rfl hl.1 rfl (lv_room (Nat.le_of_ble_eq_true rfl)) dX11_putMember_6 ⟨(show 0 + (KCC - qn S) ≤ KCC - qn S from hlg.cm), (show 0 + (KSC - qu S) ≤ KSC - qu S from hlg.sm)⟩) hR.sS (fun q _ h => hFc q h) hFc (fun  S2 t9 H1 locs ht9 hvm9 hw9 hB9 hz9 hk9 hS => ?_)
  rcases S2 with ⟨S2, ak4⟩
  obtain ⟨hB9, dc9, ds9, hL9, hl9⟩ := hB9
  dsimp only at hw9 hB9 hl9
  rw [ht9] at hL9
  obtain ⟨hq3, hw9, hs9, hk8⟩ := hw9
  have hw8 := hR.w
  have hak := hak.tr hk8 hlg.2.2.1
  have hE := hE.ad hk8
  have hR : RepC g ak4 A s S2 H1 locs := hR.callH ht9 hB9 hw9 hS hFc
  have hsh := hsh.tr hs9
  refine W_tight2 (hL0.tr hL9).1 (hL0.tr hL9).2.1 ?_
  have hlg := hlg.call hl9
  replace h := h  S2 hq3 hw9 hs9
  have ea_0 : ak4 25 = ad 25 := hk8 _ (hw8.hd (hw8.2.1 _ finC_28).2.1 (by decide) (by decide))
  have hl : lv_has ls 4 [(0, .ref (ak4 25)), (1, .int x1), (2, .int x2), (3, .int x3)] := by simp only [ea_0]; exact hl
  clear hB9 hz9 hk9 hvm9 ht9 hw9 hs9 hS hL0 hL9
  generalize H1 = H at hR ⊢
  generalize dc9 = dc_ak4, ds9 = ds_ak4 at hlg ⊢
  refine lv_aload_n hx hb dX11_putMember_9 rfl (lv_at hl 0 rfl) ?_
  refine va_get (D := rD g) (ci := 10) (v := .ref (ak4 28)) (C := RX11) (T := TX11) (N := 18) hx hb hts inX11 hown hR.K hR.P 25 (hR.at50 (hR.w.2.1 _ finC_28).2.1) rfl 1 (by decide) (hts _ kw_94) (fun _ h9 => h9) (congrArg (fun z => some (vf ak4 z)) (hR.w.2.1 _ finC_13).1) dX11_putMember_10 ?_
  refine lv_iload_n hx hb dX11_putMember_13 rfl (lv_at hl 1 rfl) ?_
  replace h := h ((hR.w.2.1 _ finC_13).2.1)
  obtain ⟨Q5, h0, h⟩ := h
  have hFc := cfree hR hA
  refine W_led2 (fun hL0 => ?_)
  refine va_callv (va_runV (As := [.int x1]) (rest := []) ⟨hx, hb, hml, hown, hts⟩ (rX0_put2 l g ak4 H S2 28 x1 hR.w (hR.w.2.1 _ finC_13).2.1 Q5 h0) (cwV 1 hts (gd_V kw_96 kw_17 kw_18 kw_3 kw_16) rfl rfl rfl (by decide +kernel) ⟨Nat.le_of_ble_eq_true rfl, Nat.le_of_ble_eq_true rfl⟩) ⟨cblindH, va_recv hR.K hR.P (ci := 0) (q0 := 28) rfl (hR.at40 (hR.w.2.1 _ finC_13).2.1), fun U hU hW9 => cmkH hU hW9 hR hex hE hFc⟩ rfl rfl hl.1 rfl (lv_room (Nat.le_of_ble_eq_true rfl)) dX11_putMember_14 ⟨(show 0 + dc_ak4 + (KCC - qn S2) ≤ KCC - qn S from hlg.cm), (show 0 + ds_ak4 + (KSC - qu S2) ≤ KSC - qu S from hlg.sm)⟩) hR.sS (fun q _ h => hFc q h) hFc (fun  S6 t9 H1 locs ht9 hvm9 hw9 hB9 hz9 hk9 hS => ?_)
  rcases S6 with ⟨S6, ak8⟩
  obtain ⟨hB9, dc9, ds9, hL9, hl9⟩ := hB9
  dsimp only at hw9 hB9 hl9
  rw [ht9] at hL9
  obtain ⟨hq7, hw9, hs9, hk8⟩ := hw9
  have hw8 := hR.w
  have hak := hak.tr hk8 hlg.2.2.1
  have hE := hE.ad hk8
  have hR : RepC g ak8 A s S6 H1 locs := hR.callH ht9 hB9 hw9 hS hFc
  have hsh := hsh.tr hs9
  refine W_tight2 (hL0.tr hL9).1 (hL0.tr hL9).2.1 ?_
  have hlg := hlg.call hl9
  replace h := h  S6 hq7 hw9 hs9
  have ea_0 : ak8 25 = ak4 25 := hk8 _ (hw8.hd (hw8.2.1 _ finC_28).2.1 (by decide) (by decide))
  have hl : lv_has ls 4 [(0, .ref (ak8 25)), (1, .int x1), (2, .int x2), (3, .int x3)] := by simp only [ea_0]; exact hl
  clear hB9 hz9 hk9 hvm9 ht9 hw9 hs9 hS hL0 hL9
  generalize H1 = H at hR ⊢
  generalize dc9 = dc_ak8, ds9 = ds_ak8 at hlg ⊢
  refine lv_aload_n hx hb dX11_putMember_17 rfl (lv_at hl 0 rfl) ?_
  refine va_get (D := rD g) (ci := 10) (v := .ref (ak8 28)) (C := RX11) (T := TX11) (N := 18) hx hb hts inX11 hown hR.K hR.P 25 (hR.at50 (hR.w.2.1 _ finC_28).2.1) rfl 1 (by decide) (hts _ kw_94) (fun _ h9 => h9) (congrArg (fun z => some (vf ak8 z)) (hR.w.2.1 _ finC_13).1) dX11_putMember_18 ?_
  refine lv_iload_n hx hb dX11_putMember_21 rfl (lv_at hl 2 rfl) ?_
  replace h := h ((hR.w.2.1 _ finC_13).2.1)
  obtain ⟨Q9, h0, h⟩ := h
  have hFc := cfree hR hA
  refine W_led2 (fun hL0 => ?_)
  refine va_callv (va_runV (As := [.int x2]) (rest := []) ⟨hx, hb, hml, hown, hts⟩ (rX0_put2 l g ak8 H S6 28 x2 hR.w (hR.w.2.1 _ finC_13).2.1 Q9 h0) (cwV 1 hts (gd_V kw_96 kw_17 kw_18 kw_3 kw_16) rfl rfl rfl (by decide +kernel) ⟨Nat.le_of_ble_eq_true rfl, Nat.le_of_ble_eq_true rfl⟩) ⟨cblindH, va_recv hR.K hR.P (ci := 0) (q0 := 28) rfl (hR.at40 (hR.w.2.1 _ finC_13).2.1), fun U hU hW9 => cmkH hU hW9 hR hex hE hFc⟩ rfl rfl hl.1 rfl (lv_room (Nat.le_of_ble_eq_true rfl)) dX11_putMember_22 ⟨(show 0 + dc_ak4 + dc_ak8 + (KCC - qn S6) ≤ KCC - qn S from hlg.cm), (show 0 + ds_ak4 + ds_ak8 + (KSC - qu S6) ≤ KSC - qu S from hlg.sm)⟩) hR.sS (fun q _ h => hFc q h) hFc (fun  S10 t9 H1 locs ht9 hvm9 hw9 hB9 hz9 hk9 hS => ?_)
  rcases S10 with ⟨S10, ak12⟩
  obtain ⟨hB9, dc9, ds9, hL9, hl9⟩ := hB9
  dsimp only at hw9 hB9 hl9
  rw [ht9] at hL9
  obtain ⟨hq11, hw9, hs9, hk8⟩ := hw9
  have hw8 := hR.w
  have hak := hak.tr hk8 hlg.2.2.1
  have hE := hE.ad hk8
  have hR : RepC g ak12 A s S10 H1 locs := hR.callH ht9 hB9 hw9 hS hFc
  have hsh := hsh.tr hs9
  refine W_tight2 (hL0.tr hL9).1 (hL0.tr hL9).2.1 ?_
  have hlg := hlg.call hl9
  replace h := h  S10 hq11 hw9 hs9
  have ea_0 : ak12 25 = ak8 25 := hk8 _ (hw8.hd (hw8.2.1 _ finC_28).2.1 (by decide) (by decide))
  have hl : lv_has ls 4 [(0, .ref (ak12 25)), (1, .int x1), (2, .int x2), (3, .int x3)] := by simp only [ea_0]; exact hl
  clear hB9 hz9 hk9 hvm9 ht9 hw9 hs9 hS hL0 hL9
  generalize H1 = H at hR ⊢
  generalize dc9 = dc_ak12, ds9 = ds_ak12 at hlg ⊢
  refine lv_aload_n hx hb dX11_putMember_25 rfl (lv_at hl 0 rfl) ?_
  refine va_get (D := rD g) (ci := 10) (v := .ref (ak12 28)) (C := RX11) (T := TX11) (N := 18) hx hb hts inX11 hown hR.K hR.P 25 (hR.at50 (hR.w.2.1 _ finC_28).2.1) rfl 1 (by decide) (hts _ kw_94) (fun _ h9 => h9) (congrArg (fun z => some (vf ak12 z)) (hR.w.2.1 _ finC_13).1) dX11_putMember_26 ?_
  refine lv_iload_n hx hb dX11_putMember_29 rfl (lv_at hl 3 rfl) ?_
  replace h := h ((hR.w.2.1 _ finC_13).2.1)
  obtain ⟨Q13, h0, h⟩ := h
  have hFc := cfree hR hA
  refine W_led2 (fun hL0 => ?_)
  refine va_callv (va_runV (As := [.int x3]) (rest := []) ⟨hx, hb, hml, hown, hts⟩ (rX0_put2 l g ak12 H S10 28 x3 hR.w (hR.w.2.1 _ finC_13).2.1 Q13 h0) (cwV 1 hts (gd_V kw_96 kw_17 kw_18 kw_3 kw_16) rfl rfl rfl (by decide +kernel) ⟨Nat.le_of_ble_eq_true rfl, Nat.le_of_ble_eq_true rfl⟩) ⟨cblindH, va_recv hR.K hR.P (ci := 0) (q0 := 28) rfl (hR.at40 (hR.w.2.1 _ finC_13).2.1), fun U hU hW9 => cmkH hU hW9 hR hex hE hFc⟩ rfl rfl hl.1 rfl (lv_room (Nat.le_of_ble_eq_true rfl)) dX11_putMember_30 ⟨(show 0 + dc_ak4 + dc_ak8 + dc_ak12 + (KCC - qn S10) ≤ KCC - qn S from hlg.cm), (show 0 + ds_ak4 + ds_ak8 + ds_ak12 + (KSC - qu S10) ≤ KSC - qu S from hlg.sm)⟩) hR.sS (fun q _ h => hFc q h) hFc (fun  S14 t9 H1 locs ht9 hvm9 hw9 hB9 hz9 hk9 hS => ?_)
  rcases S14 with ⟨S14, ak16⟩
  obtain ⟨hB9, dc9, ds9, hL9, hl9⟩ := hB9
  dsimp only at hw9 hB9 hl9
  rw [ht9] at hL9
  obtain ⟨hq15, hw9, hs9, hk8⟩ := hw9
  have hw8 := hR.w
  have hak := hak.tr hk8 hlg.2.2.1
  have hE := hE.ad hk8
  have hR : RepC g ak16 A s S14 H1 locs := hR.callH ht9 hB9 hw9 hS hFc
  have hsh := hsh.tr hs9
  refine W_tight2 (hL0.tr hL9).1 (hL0.tr hL9).2.1 ?_
  have hlg := hlg.call hl9
  replace h := h  S14 hq15 hw9 hs9
  have ea_0 : ak16 25 = ak12 25 := hk8 _ (hw8.hd (hw8.2.1 _ finC_28).2.1 (by decide) (by decide))
  have hl : lv_has ls 4 [(0, .ref (ak16 25)), (1, .int x1), (2, .int x2), (3, .int x3)] := by simp only [ea_0]; exact hl
  clear hB9 hz9 hk9 hvm9 ht9 hw9 hs9 hS hL0 hL9
  generalize H1 = H at hR ⊢
  generalize dc9 = dc_ak16, ds9 = ds_ak16 at hlg ⊢
  refine W_led2 (fun hLd => ?_)
  refine W.widen (k := KCC - qn S) (n := KSC - qu S) hlg.c hlg.s ?_
  exact W.vret hx hb hr (fun t9 ht9 hW9 => ⟨⟨(S14, ak16), rfl, ⟨h, hR.w, hsh, hak⟩, ⟨⟨by rw [ht9]; exact hR.P, hR.D⟩, _, _, by rw [ht9]; exact hLd, hlg⟩⟩, hR.sS.F ht9⟩) hR.sS.2.2 dX11_putMember_33
def fX11_fits (S : MS) : Int32 := (if (qI S 25 6).toInt = 0 then (1 : Int32) else (0 : Int32))
def d_X11_fits (S : MS) : Prop := True
set_option maxHeartbeats 2000000 in
set_option maxRecDepth 100000 in
theorem rX11_fits (l : Launch) (g : Gr) (ad : Nat → Nat) (sz : Nat) (S : MS) (hw : wfC S) (hd : d_X11_fits S) : Met l yX11_fits (wt yX11_fits cX11_fits 1 (some .boolean)) ({ frames := 0, cells := 0, slots := 0, locals := 0 }) (va_Pc [.ref (ad 25)] (st_C g ad sz S)) (va_Qi (fun (r : Int32) (_ : Unit) => r = fX11_fits S ∧ (r = 0 ∨ r = 1)) (fun (_ : Unit) (t : State) => qEC g ad (va_A (WdC g ad S) sz) S t) (va_A (WdC g ad S) sz)) 0 0 (va_A (WdC g ad S) sz) := by
  refine Met.ofW (cc := cX11_fits) (maxL := 1) (ret := (some .boolean)) (by decide) rfl ?_
  intro p e s m args below meth c s₁ B hml hv
  obtain ⟨rfl, hsz, hP, hK, hD0, hex, hE⟩ := hv
  have hx := B.exec
  have hb := B.bytes
  have hr := B.returns
  have hts0 := atoms_spec (ws := wt yX11_fits cX11_fits 1 (some .boolean)) B.pre
  have hts : ∀ w ∈ tb, w.before _ s = true := fun w h => hts0 w (List.mem_cons_of_mem _ h)
  have hown : s.vm.findClass RX11 = some m.cls := findClass_of_methodNamed B.named
  subst hsz
  have hD := hD0.self (sz := s.heap.size)
  generalize hAe : va_A (WdC g ad S) s.heap.size = A at hD hE ⊢
  have hA : ∀ q : Nat, s.heap.size ≤ q → A q := fun q h => by rw [← hAe]; exact Or.inr h
  have hR : RepC g ad A s S s.heap [] := ⟨hK, hP, hD, va_S.rf, hw⟩
  clear hK hP hD hD0
  have hl := lv_entry ([.ref (ad 25)]) (n := 1) (Nat.le_of_ble_eq_true rfl)
  rw [lg_entry_eq]
  generalize (lg_sl ([.ref (ad 25)]) ++ List.replicate (1 - (lg_sl ([.ref (ad 25)])).length) Slot.unset).toArray = ls at hl ⊢
  have hl : lv_has ls 1 [(0, .ref (ad 25))] := hl
  obtain ⟨r0, hf⟩ : ∃ r0, fX11_fits S = r0 := ⟨_, rfl⟩
  have hf0 := hf
  unfold fX11_fits at hf
  unfold d_X11_fits at hd
  refine lv_aload_n hx hb dX11_fits_0 rfl (lv_at hl 0 rfl) ?_
  refine va_get (D := rD g) (ci := 10) (v := .int (qI S 25 6)) (C := RX11) (T := TX11) (N := 18) hx hb hts inX11 hown hR.K hR.P 25 (hR.at50 (hR.w.2.1 _ finC_28).2.1) rfl 6 (by decide) (hts _ kw_115) (fun _ h9 => h9) rfl dX11_fits_1 ?_
  have hz1 := hR.w.bit (b := 25) (j := 6) ((hR.w.2.1 _ finC_28).2.1) (by decide)
  refine lv_if_ne (tgt := 11) hx hb dX11_fits_4 (by decide) (fun c2 => ?_) (fun c2 => ?_)
  · rw [if_neg (k_ne rfl (by decide) c2)] at hf
    (try rw [if_neg (k_ne rfl (by decide) c2)] at hd)
    refine lv_iconst (v := 0) hx hb dX11_fits_11 (by decide) ?_
    exact W.zret (v := 0) hx hb hr (nz (Or.inl rfl)) (fun t9 ht9 hW9 => ⟨⟨_, (), rfl, ⟨hf.trans hf0.symm, (Or.inl rfl)⟩, ⟨by rw [ht9]; exact hR.P, hR.D⟩⟩, hR.sS.F ht9⟩) hR.sS.2.2 dX11_fits_12
  · rw [if_pos (k_eq rfl (by decide) c2)] at hf
    (try rw [if_pos (k_eq rfl (by decide) c2)] at hd)
    refine lv_iconst (v := 1) hx hb dX11_fits_7 (by decide) ?_
    refine lv_goto (tgt := 12) hx hb dX11_fits_8 (by decide) ?_
    exact W.zret (v := 1) hx hb hr (nz (Or.inr rfl)) (fun t9 ht9 hW9 => ⟨⟨_, (), rfl, ⟨hf.trans hf0.symm, (Or.inr rfl)⟩, ⟨by rw [ht9]; exact hR.P, hR.D⟩⟩, hR.sS.F ht9⟩) hR.sS.2.2 dX11_fits_12
def w_X11_finish_L15 (Q : MS → Prop) : Nat → MS → Nat → Int32 → Prop
  | 0, _, _, _ => False
  | n15 + 1, U15, v15_1, v15_2 => (wfC U15 → qT U15 v15_1 = 40 → ((8 ≤ v15_2.toInt → (qT U15 v15_1 = 40 → (∃ Q8, wX0_put2 U15 v15_1 (qI U15 25 5) Q8 ∧ ∀ S9, Q8 S9 → wfC S9 → shx U15 S9 → (qT S9 v15_1 = 40 → qT S9 26 = 40 → (∃ Q12, wX0_putAll S9 v15_1 26 Q12 ∧ ∀ S13, Q12 S13 → wfC S13 → shx S9 S13 → (qT S13 v15_1 = 40 → qT S13 28 = 40 → (∃ Q16, wX0_putAll S13 v15_1 28 Q16 ∧ ∀ S17, Q16 S17 → wfC S17 → shx S13 S17 → Q S17))))))) ∧ (¬ 8 ≤ v15_2.toInt → (((0 : Int) ≤ v15_2.toInt ∧ v15_2.toInt < ((8 : Nat) : Int)) ∧ (qT U15 v15_1 = 40 → (∃ Q22, wX0_put U15 v15_1 (stMG.getD v15_2.toInt.toNat 0) Q22 ∧ ∀ S23, Q22 S23 → wfC S23 → shx U15 S23 → (∀ a26 : Int32, a26 = (v15_2 + Int32.ofInt 1) → (w_X11_finish_L15 Q n15) S23 v15_1 a26)))))))
def wX11_finish (S : MS) (p1 : Nat) (Q : MS → Prop) : Prop := (qT S 28 = 40 → (∃ Q1, wX0_put2 S 28 (0 : Int32) Q1 ∧ ∀ S2, Q1 S2 → wfC S2 → shx S S2 → (∀ S5, S5 = wI S2 p1 1 (0 : Int32) → qT S2 p1 = 40 → wfC S5 → (∃ n, w_X11_finish_L15 Q n S5 p1 0))))
set_option maxHeartbeats 2000000 in
set_option maxRecDepth 100000 in
theorem rX11_finish (l : Launch) (g : Gr) (ad : Nat → Nat) (H0 : Heap) (S : MS) (p1 : Nat) (hw : wfC S) (hT_p1 : qT S p1 = 40) (Q : MS → Prop) (h : wX11_finish S p1 Q) : Met l yX11_finish (wt yX11_finish cX11_finish 3 none) ({ frames := 4, cells := KCC - qn S, slots := KSC - qu S, locals := 104 }) (va_Pc [.ref (ad 25), .ref (ad p1)] (st_CH g ad H0 S)) (va_Qv (fun (u : MS × (Nat → Nat)) => Q u.1 ∧ wfC u.1 ∧ shx S u.1 ∧ adk ad u.2 S) (fun (u : MS × (Nat → Nat)) (t : State) => qEHC g (va_A (WdC g ad S) H0.size) S H0 u t) (va_A (WdC g ad S) H0.size)) (KCC - qn S) (KSC - qu S) (va_A (WdC g ad S) H0.size) := by
  refine Met.ofW (cc := cX11_finish) (maxL := 3) (ret := none) (by decide) rfl ?_
  intro p e s m args below meth c s₁ B hml hv
  obtain ⟨rfl, hH0, hsz, hP, hK, hD0, hex, hE⟩ := hv
  have hx := B.exec
  have hb := B.bytes
  have hr := B.returns
  have hts0 := atoms_spec (ws := wt yX11_finish cX11_finish 3 none) B.pre
  have hts : ∀ w ∈ tb, w.before _ s = true := fun w h => hts0 w (List.mem_cons_of_mem _ h)
  have hown : s.vm.findClass RX11 = some m.cls := findClass_of_methodNamed B.named
  subst hH0
  have hD := hD0.self (sz := s.heap.size)
  generalize hAe : va_A (WdC g ad S) s.heap.size = A at hD hE ⊢
  have hA : ∀ q : Nat, s.heap.size ≤ q → A q := fun q h => by rw [← hAe]; exact Or.inr h
  have hR : RepC g ad A s S s.heap [] := ⟨hK, hP, hD, va_S.rf, hw⟩
  clear hK hP hD hD0
  have hl := lv_entry ([.ref (ad 25), .ref (ad p1)]) (n := 3) (Nat.le_of_ble_eq_true rfl)
  rw [lg_entry_eq]
  generalize (lg_sl ([.ref (ad 25), .ref (ad p1)]) ++ List.replicate (3 - (lg_sl ([.ref (ad 25), .ref (ad p1)])).length) Slot.unset).toArray = ls at hl ⊢
  have hlg : lgC S S 0 0 := lgC.rf
  have hak : adk ad ad S := adk.rf
  have hl : lv_has ls 3 [(0, .ref (ad 25)), (1, .ref (ad p1))] := hl
  have hsh : shx S S := shx.rf
  unfold wX11_finish at h
  refine lv_aload_n hx hb dX11_finish_0 rfl (lv_at hl 0 rfl) ?_
  refine va_get (D := rD g) (ci := 10) (v := .ref (ad 28)) (C := RX11) (T := TX11) (N := 18) hx hb hts inX11 hown hR.K hR.P 25 (hR.at50 (hR.w.2.1 _ finC_28).2.1) rfl 1 (by decide) (hts _ kw_94) (fun _ h9 => h9) (congrArg (fun z => some (vf ad z)) (hR.w.2.1 _ finC_13).1) dX11_finish_1 ?_
  refine lv_iconst (v := 0) hx hb dX11_finish_4 (by decide) ?_
  replace h := h ((hR.w.2.1 _ finC_13).2.1)
  obtain ⟨Q1, h0, h⟩ := h
  have hFc := cfree hR hA
  refine W_led2 (fun hL0 => ?_)
  refine va_callv (va_runV (As := [.int 0]) (rest := []) ⟨hx, hb, hml, hown, hts⟩ (rX0_put2 l g ad s.heap S 28 (0 : Int32) hR.w (hR.w.2.1 _ finC_13).2.1 Q1 h0) (cwV 1 hts (gd_V kw_96 kw_17 kw_18 kw_3 kw_16) rfl rfl rfl (by decide +kernel) ⟨Nat.le_of_ble_eq_true rfl, Nat.le_of_ble_eq_true rfl⟩) ⟨cblindH, va_recv hR.K hR.P (ci := 0) (q0 := 28) rfl (hR.at40 (hR.w.2.1 _ finC_13).2.1), fun U hU hW9 => cmkH hU hW9 hR hex hE hFc⟩ rfl rfl hl.1 rfl (lv_room (Nat.le_of_ble_eq_true rfl)) dX11_finish_5 ⟨(show 0 + (KCC - qn S) ≤ KCC - qn S from hlg.cm), (show 0 + (KSC - qu S) ≤ KSC - qu S from hlg.sm)⟩) hR.sS (fun q _ h => hFc q h) hFc (fun  S2 t9 H1 locs ht9 hvm9 hw9 hB9 hz9 hk9 hS => ?_)
  rcases S2 with ⟨S2, ak4⟩
  obtain ⟨hB9, dc9, ds9, hL9, hl9⟩ := hB9
  dsimp only at hw9 hB9 hl9
  rw [ht9] at hL9
  obtain ⟨hq3, hw9, hs9, hk8⟩ := hw9
  have hw8 := hR.w
  have hak := hak.tr hk8 hlg.2.2.1
  have hE := hE.ad hk8
  have hR : RepC g ak4 A s S2 H1 locs := hR.callH ht9 hB9 hw9 hS hFc
  have hsh := hsh.tr hs9
  refine W_tight2 (hL0.tr hL9).1 (hL0.tr hL9).2.1 ?_
  have hlg := hlg.call hl9
  replace h := h  S2 hq3 hw9 hs9
  have ea_0 : ak4 25 = ad 25 := hk8 _ (hw8.hd (hw8.2.1 _ finC_28).2.1 (by decide) (by decide))
  have ea_1 : ak4 p1 = ad p1 := hk8 _ (hw8.hd hT_p1 (by decide) (by decide))
  have hl : lv_has ls 3 [(0, .ref (ak4 25)), (1, .ref (ak4 p1))] := by simp only [ea_0, ea_1]; exact hl
  have hT_p1 := hs9.T hT_p1 (by decide)
  clear hB9 hz9 hk9 hvm9 ht9 hw9 hs9 hS hL0 hL9
  generalize H1 = H at hR ⊢
  generalize dc9 = dc_ak4, ds9 = ds_ak4 at hlg ⊢
  refine lv_aload_n hx hb dX11_finish_8 rfl (lv_at hl 1 rfl) ?_
  refine lv_iconst (v := 0) hx hb dX11_finish_9 (by decide) ?_
  refine va_put (D := rD g) (ci := 0) (v := .int 0) (ty := .int) (C := RX0) (T := TX0) (N := 2) hx hb hts inX0 tyX0 tyX0_ok nmX0 hown hR.K hR.P hR.D hR.sS p1 (hR.at40 hT_p1) rfl 1 (by decide) (hts _ kw_101) (fun _ h9 => h9) rfl (by decide +kernel) rfl rfl (Nat.le_of_ble_eq_true rfl) dX11_finish_10 (fun H locs hP hD hS => ?_)
  have hTk9 : qT S2 p1 = 40 := hT_p1
  have hR : RepC g ak4 A s (wI S2 p1 1 (0 : Int32)) H locs := hR.pI40 hT_p1 FX0_s1 (fun q9 => absurd q9 (by decide)) hP hD hS
  obtain ⟨S5, eS5⟩ : ∃ z, z = wI S2 p1 1 (0 : Int32) := ⟨_, rfl⟩
  rw [← eS5] at hR
  replace h := h S5 eS5 hTk9 hR.w
  have hT_p1 : qT S5 p1 = 40 := (congrArg (fun z => qT z p1) eS5).trans hT_p1
  have hsh : shx S S5 := by rw [eS5]; exact hsh
  have hlg : lgC S S5 (0 + dc_ak4) (0 + ds_ak4) := by rw [eS5]; exact hlg
  refine lv_iconst (v := 0) hx hb dX11_finish_13 (by decide) ?_
  refine lv_istore_n (lv' := [(2, .int 0), (0, .ref (ak4 25)), (1, .ref (ak4 p1))]) hx hb dX11_finish_14 rfl hl (by decide) rfl (fun ls hl => ?_)
  have J_15 : ∀ (n15 : Nat) (ad15 : Nat → Nat) (dc15 ds15 : Nat) (U15 : MS) (v15_1 : Nat) (v15_2 : Int32) (H : Heap) (locs : List Loc) (ls : Array Slot), w_X11_finish_L15 Q n15 U15 v15_1 v15_2 → qT U15 v15_1 = 40 → shx S U15 → lgC S U15 dc15 ds15 → adk ad ad15 S → ogC ad15 A s s.heap → RepC g ad15 A s U15 H locs → lv_has ls 3 [(0, .ref (ad15 25)), (1, .ref (ad15 v15_1)), (2, .int v15_2)] → W p l e (headSpec (wt yX11_finish cX11_finish 3 none) ({ frames := 4, cells := KCC - qn S, slots := KSC - qu S, locals := 104 })).room s m ([.ref (ad 25), .ref (ad p1)] : List Value).toArray below meth c H locs dc15 ds15 (MQ below (va_Qv (fun (u : MS × (Nat → Nat)) => Q u.1 ∧ wfC u.1 ∧ shx S u.1 ∧ adk ad u.2 S) (fun (u : MS × (Nat → Nat)) (t : State) => qEHC g A S s.heap u t) A) ([.ref (ad 25), .ref (ad p1)] : List Value).toArray s (KCC - qn S) (KSC - qu S) A) (F0 m 15 ls []) := by
    intro n15
    induction n15 with
    | zero => intro ad15 dc15 ds15 U15 v15_1 v15_2 H locs ls h hT_v15_1 hsh hlg hak hE hR hl; unfold w_X11_finish_L15 at h; exact h.elim
    | succ n15 ih_15 =>
      intro ad15 dc15 ds15 U15 v15_1 v15_2 H locs ls h hT_v15_1 hsh hlg hak hE hR hl
      unfold w_X11_finish_L15 at h
      replace h := h hR.w hT_v15_1
      refine lv_iload_n hx hb dX11_finish_15 rfl (lv_at hl 2 rfl) ?_
      obtain ⟨q6, hZ_q6, hG_q6⟩ := id hE.1.2.1
      refine va_getsN (C := "CodeFoundry") (n := "MAGIC") (d := "[I") (v := .ref q6) hx hb hZ_q6 hR.sS hown (va_Nw.use rfl (nw_of nn_X11_126 hex)) (fun _ h9 => h9) dX11_finish_16 ?_
      refine va_tlen (v := 8) hx hb hG_q6 hR.sS rfl dX11_finish_19 ?_
      refine lv_icmp_ge (tgt := 38) hx hb dX11_finish_20 (by decide) (fun c7 => ?_) (fun c7 => ?_)
      · replace h := h.1 (k_le (by decide) rfl c7)
        refine lv_aload_n hx hb dX11_finish_38 rfl (lv_at hl 1 rfl) ?_
        refine lv_aload_n hx hb dX11_finish_39 rfl (lv_at hl 0 rfl) ?_
        refine va_get (D := rD g) (ci := 10) (v := .int (qI U15 25 5)) (C := RX11) (T := TX11) (N := 18) hx hb hts inX11 hown hR.K hR.P 25 (hR.at50 (hR.w.2.1 _ finC_28).2.1) rfl 5 (by decide) (hts _ kw_114) (fun _ h9 => h9) rfl dX11_finish_40 ?_
        replace h := h (hT_v15_1)
        obtain ⟨Q8, h0, h⟩ := h
        have hFc := cfree hR hA
        refine W_led2 (fun hL0 => ?_)
        refine va_callv (va_runV (As := [.int (qI U15 25 5)]) (rest := []) ⟨hx, hb, hml, hown, hts⟩ (rX0_put2 l g ad15 H U15 v15_1 (qI U15 25 5) hR.w hT_v15_1 Q8 h0) (cwV 1 hts (gd_V kw_96 kw_17 kw_18 kw_3 kw_16) rfl rfl rfl (by decide +kernel) ⟨Nat.le_of_ble_eq_true rfl, Nat.le_of_ble_eq_true rfl⟩) ⟨cblindH, va_recv hR.K hR.P (ci := 0) (q0 := v15_1) rfl (hR.at40 hT_v15_1), fun U hU hW9 => cmkH hU hW9 hR hex hE hFc⟩ rfl rfl hl.1 rfl (lv_room (Nat.le_of_ble_eq_true rfl)) dX11_finish_43 ⟨(show dc15 + (KCC - qn U15) ≤ KCC - qn S from hlg.cm), (show ds15 + (KSC - qu U15) ≤ KSC - qu S from hlg.sm)⟩) hR.sS (fun q _ h => hFc q h) hFc (fun  S9 t9 H1 locs ht9 hvm9 hw9 hB9 hz9 hk9 hS => ?_)
        rcases S9 with ⟨S9, ak11⟩
        obtain ⟨hB9, dc9, ds9, hL9, hl9⟩ := hB9
        dsimp only at hw9 hB9 hl9
        rw [ht9] at hL9
        obtain ⟨hq10, hw9, hs9, hk8⟩ := hw9
        have hw8 := hR.w
        have hak := hak.tr hk8 hlg.2.2.1
        have hE := hE.ad hk8
        have hR : RepC g ak11 A s S9 H1 locs := hR.callH ht9 hB9 hw9 hS hFc
        have hsh := hsh.tr hs9
        refine W_tight2 (hL0.tr hL9).1 (hL0.tr hL9).2.1 ?_
        have hlg := hlg.call hl9
        replace h := h  S9 hq10 hw9 hs9
        have ea_0 : ak11 25 = ad15 25 := hk8 _ (hw8.hd (hw8.2.1 _ finC_28).2.1 (by decide) (by decide))
        have ea_1 : ak11 v15_1 = ad15 v15_1 := hk8 _ (hw8.hd hT_v15_1 (by decide) (by decide))
        have hl : lv_has ls 3 [(0, .ref (ak11 25)), (1, .ref (ak11 v15_1)), (2, .int v15_2)] := by simp only [ea_0, ea_1]; exact hl
        have hT_v15_1 := hs9.T hT_v15_1 (by decide)
        clear hB9 hz9 hk9 hvm9 ht9 hw9 hs9 hS hL0 hL9
        generalize H1 = H at hR ⊢
        generalize dc9 = dc_ak11, ds9 = ds_ak11 at hlg ⊢
        refine lv_aload_n hx hb dX11_finish_46 rfl (lv_at hl 1 rfl) ?_
        refine lv_aload_n hx hb dX11_finish_47 rfl (lv_at hl 0 rfl) ?_
        refine va_get (D := rD g) (ci := 10) (v := .ref (ak11 26)) (C := RX11) (T := TX11) (N := 18) hx hb hts inX11 hown hR.K hR.P 25 (hR.at50 (hR.w.2.1 _ finC_28).2.1) rfl 0 (by decide) (hts _ kw_113) (fun _ h9 => h9) (congrArg (fun z => some (vf ak11 z)) (hR.w.2.1 _ finC_12).1) dX11_finish_48 ?_
        replace h := h (hT_v15_1) ((hR.w.2.1 _ finC_12).2.1)
        obtain ⟨Q12, h0, h⟩ := h
        have hFc := cfree hR hA
        refine W_led2 (fun hL0 => ?_)
        refine va_callv (va_runV (As := [.ref (ak11 26)]) (rest := []) ⟨hx, hb, hml, hown, hts⟩ (rX0_putAll l g ak11 H S9 v15_1 26 hR.w hT_v15_1 (hR.w.2.1 _ finC_12).2.1 Q12 h0) (cwV 1 hts (gd_V kw_148 kw_25 kw_26 kw_3 kw_24) rfl rfl rfl (by decide +kernel) ⟨Nat.le_of_ble_eq_true rfl, Nat.le_of_ble_eq_true rfl⟩) ⟨cblindH, va_recv hR.K hR.P (ci := 0) (q0 := v15_1) rfl (hR.at40 hT_v15_1), fun U hU hW9 => cmkH hU hW9 hR hex hE hFc⟩ rfl rfl hl.1 rfl (lv_room (Nat.le_of_ble_eq_true rfl)) dX11_finish_51 ⟨(show dc15 + dc_ak11 + (KCC - qn S9) ≤ KCC - qn S from hlg.cm), (show ds15 + ds_ak11 + (KSC - qu S9) ≤ KSC - qu S from hlg.sm)⟩) hR.sS (fun q _ h => hFc q h) hFc (fun  S13 t9 H1 locs ht9 hvm9 hw9 hB9 hz9 hk9 hS => ?_)
        rcases S13 with ⟨S13, ak15⟩
        obtain ⟨hB9, dc9, ds9, hL9, hl9⟩ := hB9
        dsimp only at hw9 hB9 hl9
        rw [ht9] at hL9
        obtain ⟨hq14, hw9, hs9, hk8⟩ := hw9
        have hw8 := hR.w
        have hak := hak.tr hk8 hlg.2.2.1
        have hE := hE.ad hk8
        have hR : RepC g ak15 A s S13 H1 locs := hR.callH ht9 hB9 hw9 hS hFc
        have hsh := hsh.tr hs9
        refine W_tight2 (hL0.tr hL9).1 (hL0.tr hL9).2.1 ?_
        have hlg := hlg.call hl9
        replace h := h  S13 hq14 hw9 hs9
        have ea_0 : ak15 25 = ak11 25 := hk8 _ (hw8.hd (hw8.2.1 _ finC_28).2.1 (by decide) (by decide))
        have ea_1 : ak15 v15_1 = ak11 v15_1 := hk8 _ (hw8.hd hT_v15_1 (by decide) (by decide))
        have hl : lv_has ls 3 [(0, .ref (ak15 25)), (1, .ref (ak15 v15_1)), (2, .int v15_2)] := by simp only [ea_0, ea_1]; exact hl
        have hT_v15_1 := hs9.T hT_v15_1 (by decide)
        clear hB9 hz9 hk9 hvm9 ht9 hw9 hs9 hS hL0 hL9
        generalize H1 = H at hR ⊢
        generalize dc9 = dc_ak15, ds9 = ds_ak15 at hlg ⊢
        refine lv_aload_n hx hb dX11_finish_54 rfl (lv_at hl 1 rfl) ?_
        refine lv_aload_n hx hb dX11_finish_55 rfl (lv_at hl 0 rfl) ?_
        refine va_get (D := rD g) (ci := 10) (v := .ref (ak15 28)) (C := RX11) (T := TX11) (N := 18) hx hb hts inX11 hown hR.K hR.P 25 (hR.at50 (hR.w.2.1 _ finC_28).2.1) rfl 1 (by decide) (hts _ kw_94) (fun _ h9 => h9) (congrArg (fun z => some (vf ak15 z)) (hR.w.2.1 _ finC_13).1) dX11_finish_56 ?_
        replace h := h (hT_v15_1) ((hR.w.2.1 _ finC_13).2.1)
        obtain ⟨Q16, h0, h⟩ := h
        have hFc := cfree hR hA
        refine W_led2 (fun hL0 => ?_)
        refine va_callv (va_runV (As := [.ref (ak15 28)]) (rest := []) ⟨hx, hb, hml, hown, hts⟩ (rX0_putAll l g ak15 H S13 v15_1 28 hR.w hT_v15_1 (hR.w.2.1 _ finC_13).2.1 Q16 h0) (cwV 1 hts (gd_V kw_148 kw_25 kw_26 kw_3 kw_24) rfl rfl rfl (by decide +kernel) ⟨Nat.le_of_ble_eq_true rfl, Nat.le_of_ble_eq_true rfl⟩) ⟨cblindH, va_recv hR.K hR.P (ci := 0) (q0 := v15_1) rfl (hR.at40 hT_v15_1), fun U hU hW9 => cmkH hU hW9 hR hex hE hFc⟩ rfl rfl hl.1 rfl (lv_room (Nat.le_of_ble_eq_true rfl)) dX11_finish_59 ⟨(show dc15 + dc_ak11 + dc_ak15 + (KCC - qn S13) ≤ KCC - qn S from hlg.cm), (show ds15 + ds_ak11 + ds_ak15 + (KSC - qu S13) ≤ KSC - qu S from hlg.sm)⟩) hR.sS (fun q _ h => hFc q h) hFc (fun  S17 t9 H1 locs ht9 hvm9 hw9 hB9 hz9 hk9 hS => ?_)
        rcases S17 with ⟨S17, ak19⟩
        obtain ⟨hB9, dc9, ds9, hL9, hl9⟩ := hB9
        dsimp only at hw9 hB9 hl9
        rw [ht9] at hL9
        obtain ⟨hq18, hw9, hs9, hk8⟩ := hw9
        have hw8 := hR.w
        have hak := hak.tr hk8 hlg.2.2.1
        have hE := hE.ad hk8
        have hR : RepC g ak19 A s S17 H1 locs := hR.callH ht9 hB9 hw9 hS hFc
        have hsh := hsh.tr hs9
        refine W_tight2 (hL0.tr hL9).1 (hL0.tr hL9).2.1 ?_
        have hlg := hlg.call hl9
        replace h := h  S17 hq18 hw9 hs9
        have ea_0 : ak19 25 = ak15 25 := hk8 _ (hw8.hd (hw8.2.1 _ finC_28).2.1 (by decide) (by decide))
        have ea_1 : ak19 v15_1 = ak15 v15_1 := hk8 _ (hw8.hd hT_v15_1 (by decide) (by decide))
        have hl : lv_has ls 3 [(0, .ref (ak19 25)), (1, .ref (ak19 v15_1)), (2, .int v15_2)] := by simp only [ea_0, ea_1]; exact hl
        have hT_v15_1 := hs9.T hT_v15_1 (by decide)
        clear hB9 hz9 hk9 hvm9 ht9 hw9 hs9 hS hL0 hL9
        generalize H1 = H at hR ⊢
        generalize dc9 = dc_ak19, ds9 = ds_ak19 at hlg ⊢
        refine W_led2 (fun hLd => ?_)
        refine W.widen (k := KCC - qn S) (n := KSC - qu S) hlg.c hlg.s ?_
        exact W.vret hx hb hr (fun t9 ht9 hW9 => ⟨⟨(S17, ak19), rfl, ⟨h, hR.w, hsh, hak⟩, ⟨⟨by rw [ht9]; exact hR.P, hR.D⟩, _, _, by rw [ht9]; exact hLd, hlg⟩⟩, hR.sS.F ht9⟩) hR.sS.2.2 dX11_finish_62
      · replace h := h.2 (k_nle (by decide) rfl c7)
        refine lv_aload_n hx hb dX11_finish_23 rfl (lv_at hl 1 rfl) ?_
        obtain ⟨q20, hZ_q20, hG_q20⟩ := id hE.1.2.1
        refine va_getsN (C := "CodeFoundry") (n := "MAGIC") (d := "[I") (v := .ref q20) hx hb hZ_q20 hR.sS hown (va_Nw.use rfl (nw_of nn_X11_126 hex)) (fun _ h9 => h9) dX11_finish_24 ?_
        refine lv_iload_n hx hb dX11_finish_27 rfl (lv_at hl 2 rfl) ?_
        obtain ⟨hv21, h⟩ := h
        refine va_ti (v := .int (stMG.getD v15_2.toInt.toNat 0)) hx hb hG_q20 hR.sS (n_in hv21) rfl dX11_finish_28 ?_
        replace h := h (hT_v15_1)
        obtain ⟨Q22, h0, h⟩ := h
        have hFc := cfree hR hA
        refine W_led2 (fun hL0 => ?_)
        refine va_callv (va_runV (As := [.int (stMG.getD v15_2.toInt.toNat 0)]) (rest := []) ⟨hx, hb, hml, hown, hts⟩ (rX0_put l g ad15 H U15 v15_1 (stMG.getD v15_2.toInt.toNat 0) hR.w hT_v15_1 Q22 h0) (cwV 1 hts (gd_V kw_140 kw_13 kw_14 kw_3 kw_12) rfl rfl rfl (by decide +kernel) ⟨Nat.le_of_ble_eq_true rfl, Nat.le_of_ble_eq_true rfl⟩) ⟨cblindH, va_recv hR.K hR.P (ci := 0) (q0 := v15_1) rfl (hR.at40 hT_v15_1), fun U hU hW9 => cmkH hU hW9 hR hex hE hFc⟩ rfl rfl hl.1 rfl (lv_room (Nat.le_of_ble_eq_true rfl)) dX11_finish_29 ⟨(show dc15 + (KCC - qn U15) ≤ KCC - qn S from hlg.cm), (show ds15 + (KSC - qu U15) ≤ KSC - qu S from hlg.sm)⟩) hR.sS (fun q _ h => hFc q h) hFc (fun  S23 t9 H1 locs ht9 hvm9 hw9 hB9 hz9 hk9 hS => ?_)
        rcases S23 with ⟨S23, ak25⟩
        obtain ⟨hB9, dc9, ds9, hL9, hl9⟩ := hB9
        dsimp only at hw9 hB9 hl9
        rw [ht9] at hL9
        obtain ⟨hq24, hw9, hs9, hk8⟩ := hw9
        have hw8 := hR.w
        have hak := hak.tr hk8 hlg.2.2.1
        have hE := hE.ad hk8
        have hR : RepC g ak25 A s S23 H1 locs := hR.callH ht9 hB9 hw9 hS hFc
        have hsh := hsh.tr hs9
        refine W_tight2 (hL0.tr hL9).1 (hL0.tr hL9).2.1 ?_
        have hlg := hlg.call hl9
        replace h := h  S23 hq24 hw9 hs9
        have ea_0 : ak25 25 = ad15 25 := hk8 _ (hw8.hd (hw8.2.1 _ finC_28).2.1 (by decide) (by decide))
        have ea_1 : ak25 v15_1 = ad15 v15_1 := hk8 _ (hw8.hd hT_v15_1 (by decide) (by decide))
        have hl : lv_has ls 3 [(0, .ref (ak25 25)), (1, .ref (ak25 v15_1)), (2, .int v15_2)] := by simp only [ea_0, ea_1]; exact hl
        have hT_v15_1 := hs9.T hT_v15_1 (by decide)
        clear hB9 hz9 hk9 hvm9 ht9 hw9 hs9 hS hL0 hL9
        generalize H1 = H at hR ⊢
        generalize dc9 = dc_ak25, ds9 = ds_ak25 at hlg ⊢
        obtain ⟨a26, ea26⟩ : ∃ z, z = (v15_2 + Int32.ofInt 1) := ⟨_, rfl⟩
        replace h := h a26 ea26
        refine lv_iinc (v := a26) (lv' := [(2, .int a26), (0, .ref (ak25 25)), (1, .ref (ak25 v15_1))]) hx hb dX11_finish_32 hl (k := 2) rfl ea26.symm (by decide) rfl (fun ls hl => ?_)
        refine lv_goto (tgt := 15) hx hb dX11_finish_35 (by decide) ?_
        exact ih_15 ak25 (dc15 + dc_ak25) (ds15 + ds_ak25) S23 v15_1 a26 _ _ ls h hT_v15_1 hsh hlg hak hE hR (lv_sub hl [1, 2, 0] rfl)
  obtain ⟨n9, h⟩ := h
  exact J_15 n9 ak4 (0 + dc_ak4) (0 + ds_ak4) S5 p1 0 _ _ ls h hT_p1 hsh hlg hak hE hR (lv_sub hl [1, 2, 0] rfl)
def w_X11_isWanted_L53 (Q : Int32 → MS → Prop) : Nat → MS → Int32 → Int32 → Int32 → Prop
  | 0, _, _, _, _ => False
  | n53 + 1, U53, v53_2, v53_3, v53_4 => (wfC U53 → ((v53_3.toInt ≤ v53_4.toInt → Q (1 : Int32) U53) ∧ (¬ v53_3.toInt ≤ v53_4.toInt → (((qN U53 (qO U53 30 0) : Int) ≤ v53_4.toInt → Q (1 : Int32) U53) ∧ (¬ (qN U53 (qO U53 30 0) : Int) ≤ v53_4.toInt → (((0 : Int) ≤ (v53_2 + v53_4).toInt ∧ (v53_2 + v53_4).toInt < (qN U53 (qO U53 26 0) : Int)) ∧ (((0 : Int) ≤ v53_4.toInt ∧ v53_4.toInt < (qN U53 (qO U53 30 0) : Int)) ∧ (((qI U53 (qO U53 26 0) (((v53_2 + v53_4).toInt).toNat)).toInt = (qI U53 (qO U53 30 0) v53_4.toInt.toNat).toInt → (∀ a27 : Int32, a27 = (v53_4 + Int32.ofInt 1) → (w_X11_isWanted_L53 Q n53) U53 v53_2 v53_3 a27)) ∧ (¬ (qI U53 (qO U53 26 0) (((v53_2 + v53_4).toInt).toNat)).toInt = (qI U53 (qO U53 30 0) v53_4.toInt.toNat).toInt → Q (0 : Int32) U53)))))))))
def wX11_isWanted (S : MS) (x1 : Int32) (Q : Int32 → MS → Prop) : Prop := (((0 : Int) ≤ x1.toInt ∧ x1.toInt < 500) ∧ (∀ a3 : Int32, a3 = (qI S 32 x1.toInt.toNat) → (((0 : Int) ≤ x1.toInt ∧ x1.toInt < 500) ∧ (∀ a7 : Int32, a7 = ((qI S 33 x1.toInt.toNat) - a3) → ((a7.toInt = (qI S 30 1).toInt → ((a3.toInt < 0 → Q (0 : Int32) S) ∧ (¬ a3.toInt < 0 → (((0 : Int) ≤ x1.toInt ∧ x1.toInt < 500) ∧ (((qI S 33 x1.toInt.toNat).toInt ≤ (qN S (qO S 26 0) : Int) → (∃ n, w_X11_isWanted_L53 Q n S a3 a7 0)) ∧ (¬ (qI S 33 x1.toInt.toNat).toInt ≤ (qN S (qO S 26 0) : Int) → Q (0 : Int32) S)))))) ∧ (¬ a7.toInt = (qI S 30 1).toInt → Q (0 : Int32) S))))))
set_option maxHeartbeats 2000000 in
set_option maxRecDepth 100000 in
theorem rX11_isWanted (l : Launch) (g : Gr) (ad : Nat → Nat) (sz : Nat) (S : MS) (x1 : Int32) (hw : wfC S) (Q : Int32 → MS → Prop) (h : wX11_isWanted S x1 Q) : Met l yX11_isWanted (wt yX11_isWanted cX11_isWanted 5 (some .boolean)) ({ frames := 0, cells := 0, slots := 0, locals := 0 }) (va_Pc [.ref (ad 25), .int x1] (st_C g ad sz S)) (va_Qi (fun (r : Int32) (u : MS) => Q r u ∧ wfC u ∧ shy S u ∧ (r = 0 ∨ r = 1)) (fun (u : MS) (t : State) => qEC g ad (va_A (WdC g ad S) sz) u t) (va_A (WdC g ad S) sz)) 0 0 (va_A (WdC g ad S) sz) := by
  refine Met.ofW (cc := cX11_isWanted) (maxL := 5) (ret := (some .boolean)) (by decide) rfl ?_
  intro p e s m args below meth c s₁ B hml hv
  obtain ⟨rfl, hsz, hP, hK, hD0, hex, hE⟩ := hv
  have hx := B.exec
  have hb := B.bytes
  have hr := B.returns
  have hts0 := atoms_spec (ws := wt yX11_isWanted cX11_isWanted 5 (some .boolean)) B.pre
  have hts : ∀ w ∈ tb, w.before _ s = true := fun w h => hts0 w (List.mem_cons_of_mem _ h)
  have hown : s.vm.findClass RX11 = some m.cls := findClass_of_methodNamed B.named
  subst hsz
  have hD := hD0.self (sz := s.heap.size)
  generalize hAe : va_A (WdC g ad S) s.heap.size = A at hD hE ⊢
  have hA : ∀ q : Nat, s.heap.size ≤ q → A q := fun q h => by rw [← hAe]; exact Or.inr h
  have hR : RepC g ad A s S s.heap [] := ⟨hK, hP, hD, va_S.rf, hw⟩
  clear hK hP hD hD0
  have hl := lv_entry ([.ref (ad 25), .int x1]) (n := 5) (Nat.le_of_ble_eq_true rfl)
  rw [lg_entry_eq]
  generalize (lg_sl ([.ref (ad 25), .int x1]) ++ List.replicate (5 - (lg_sl ([.ref (ad 25), .int x1])).length) Slot.unset).toArray = ls at hl ⊢
  have hl : lv_has ls 5 [(0, .ref (ad 25)), (1, .int x1)] := hl
  have hsh : shy S S := shy.rf
  unfold wX11_isWanted at h
  refine lv_aload_n hx hb dX11_isWanted_0 rfl (lv_at hl 0 rfl) ?_
  refine va_get (D := rD g) (ci := 10) (v := .ref (ad 32)) (C := RX11) (T := TX11) (N := 18) hx hb hts inX11 hown hR.K hR.P 25 (hR.at50 (hR.w.2.1 _ finC_28).2.1) rfl 3 (by decide) (hts _ kw_145) (fun _ h9 => h9) (congrArg (fun z => some (vf ad z)) (hR.w.2.1 _ finC_15).1) dX11_isWanted_1 ?_
  refine lv_iload_n hx hb dX11_isWanted_4 rfl (lv_at hl 1 rfl) ?_
  obtain ⟨hv1, h⟩ := h
  refine va_iald hx hb hR.K hR.P 32 1 (hR.atI (hR.w.2.1 _ finC_15).2.1 (by decide)) rfl (k_ixN (k_ix (n := 500) (x := x1) (a := x1.toInt) rfl hv1) (hR.w.2.1 _ finC_15).2.2) dX11_isWanted_5 ?_
  refine lv_topi (fun z2 ez2 => ?_)
  obtain rfl : z2 = (qI S 32 x1.toInt.toNat) := ez2
  obtain ⟨a3, ea3⟩ : ∃ z, z = (qI S 32 x1.toInt.toNat) := ⟨_, rfl⟩
  rw [← ea3]
  replace h := h a3 ea3
  refine lv_istore_n (lv' := [(2, .int a3), (0, .ref (ad 25)), (1, .int x1)]) hx hb dX11_isWanted_6 rfl hl (by decide) rfl (fun ls hl => ?_)
  refine lv_aload_n hx hb dX11_isWanted_7 rfl (lv_at hl 1 rfl) ?_
  refine va_get (D := rD g) (ci := 10) (v := .ref (ad 33)) (C := RX11) (T := TX11) (N := 18) hx hb hts inX11 hown hR.K hR.P 25 (hR.at50 (hR.w.2.1 _ finC_28).2.1) rfl 4 (by decide) (hts _ kw_149) (fun _ h9 => h9) (congrArg (fun z => some (vf ad z)) (hR.w.2.1 _ finC_16).1) dX11_isWanted_8 ?_
  refine lv_iload_n hx hb dX11_isWanted_11 rfl (lv_at hl 2 rfl) ?_
  obtain ⟨hv4, h⟩ := h
  refine va_iald hx hb hR.K hR.P 33 1 (hR.atI (hR.w.2.1 _ finC_16).2.1 (by decide)) rfl (k_ixN (k_ix (n := 500) (x := x1) (a := x1.toInt) rfl hv4) (hR.w.2.1 _ finC_16).2.2) dX11_isWanted_12 ?_
  refine lv_topi (fun z5 ez5 => ?_)
  obtain rfl : z5 = (qI S 33 x1.toInt.toNat) := ez5
  refine lv_iload_n hx hb dX11_isWanted_13 rfl (lv_at hl 0 rfl) ?_
  refine lv_isub hx hb dX11_isWanted_14 ?_
  refine lv_topi (fun z6 ez6 => ?_)
  obtain rfl : z6 = ((qI S 33 x1.toInt.toNat) - a3) := ez6
  obtain ⟨a7, ea7⟩ : ∃ z, z = ((qI S 33 x1.toInt.toNat) - a3) := ⟨_, rfl⟩
  rw [← ea7]
  replace h := h a7 ea7
  refine lv_istore_n (lv' := [(3, .int a7), (2, .int a3), (0, .ref (ad 25)), (1, .int x1)]) hx hb dX11_isWanted_15 rfl hl (by decide) rfl (fun ls hl => ?_)
  refine lv_iload_n hx hb dX11_isWanted_16 rfl (lv_at hl 0 rfl) ?_
  refine lv_aload_n hx hb dX11_isWanted_17 rfl (lv_at hl 2 rfl) ?_
  refine va_get (D := rD g) (ci := 10) (v := .ref (ad 30)) (C := RX11) (T := TX11) (N := 18) hx hb hts inX11 hown hR.K hR.P 25 (hR.at50 (hR.w.2.1 _ finC_28).2.1) rfl 2 (by decide) (hts _ kw_139) (fun _ h9 => h9) (congrArg (fun z => some (vf ad z)) (hR.w.2.1 _ finC_14).1) dX11_isWanted_18 ?_
  refine va_get (D := rD g) (ci := 0) (v := .int (qI S 30 1)) (C := RX0) (T := TX0) (N := 2) hx hb hts inX0 hown hR.K hR.P 30 (hR.at40 (hR.w.2.1 _ finC_14).2.1) rfl 1 (by decide) (hts _ kw_101) (fun _ h9 => h9) rfl dX11_isWanted_21 ?_
  refine lv_icmp_ne (tgt := 48) hx hb dX11_isWanted_24 (by decide) (fun c8 => ?_) (fun c8 => ?_)
  · replace h := h.2 (k_ne rfl rfl c8)
    refine lv_iconst (v := 0) hx hb dX11_isWanted_48 (by decide) ?_
    exact W.zret (v := 0) hx hb hr (nz (Or.inl rfl)) (fun t9 ht9 hW9 => ⟨⟨_, S, rfl, ⟨h, hR.w, hsh, (Or.inl rfl)⟩, ⟨by rw [ht9]; exact hR.P, hR.D⟩⟩, hR.sS.F ht9⟩) hR.sS.2.2 dX11_isWanted_49
  · replace h := h.1 (k_eq rfl rfl c8)
    refine lv_iload_n hx hb dX11_isWanted_27 rfl (lv_at hl 1 rfl) ?_
    refine lv_if_lt (tgt := 48) hx hb dX11_isWanted_28 (by decide) (fun c9 => ?_) (fun c9 => ?_)
    · replace h := h.1 (k_lt rfl (by decide) c9)
      refine lv_iconst (v := 0) hx hb dX11_isWanted_48 (by decide) ?_
      exact W.zret (v := 0) hx hb hr (nz (Or.inl rfl)) (fun t9 ht9 hW9 => ⟨⟨_, S, rfl, ⟨h, hR.w, hsh, (Or.inl rfl)⟩, ⟨by rw [ht9]; exact hR.P, hR.D⟩⟩, hR.sS.F ht9⟩) hR.sS.2.2 dX11_isWanted_49
    · replace h := h.2 (k_nlt rfl (by decide) c9)
      refine lv_aload_n hx hb dX11_isWanted_31 rfl (lv_at hl 2 rfl) ?_
      refine va_get (D := rD g) (ci := 10) (v := .ref (ad 33)) (C := RX11) (T := TX11) (N := 18) hx hb hts inX11 hown hR.K hR.P 25 (hR.at50 (hR.w.2.1 _ finC_28).2.1) rfl 4 (by decide) (hts _ kw_149) (fun _ h9 => h9) (congrArg (fun z => some (vf ad z)) (hR.w.2.1 _ finC_16).1) dX11_isWanted_32 ?_
      refine lv_iload_n hx hb dX11_isWanted_35 rfl (lv_at hl 3 rfl) ?_
      obtain ⟨hv10, h⟩ := h
      refine va_iald hx hb hR.K hR.P 33 1 (hR.atI (hR.w.2.1 _ finC_16).2.1 (by decide)) rfl (k_ixN (k_ix (n := 500) (x := x1) (a := x1.toInt) rfl hv10) (hR.w.2.1 _ finC_16).2.2) dX11_isWanted_36 ?_
      refine lv_topi (fun z11 ez11 => ?_)
      obtain rfl : z11 = (qI S 33 x1.toInt.toNat) := ez11
      refine lv_aload_n hx hb dX11_isWanted_37 rfl (lv_at hl 2 rfl) ?_
      refine va_get (D := rD g) (ci := 10) (v := .ref (ad 26)) (C := RX11) (T := TX11) (N := 18) hx hb hts inX11 hown hR.K hR.P 25 (hR.at50 (hR.w.2.1 _ finC_28).2.1) rfl 0 (by decide) (hts _ kw_113) (fun _ h9 => h9) (congrArg (fun z => some (vf ad z)) (hR.w.2.1 _ finC_12).1) dX11_isWanted_38 ?_
      have hT_b12 : qT S (qO S 26 0) = 101 := hR.w.ref (hR.w.ptr ptrC_12) (hR.w.2.1 _ finC_12).2.1
      refine va_get (D := rD g) (ci := 0) (v := .ref (ad (qO S 26 0))) (C := RX0) (T := TX0) (N := 2) hx hb hts inX0 hown hR.K hR.P 26 (hR.at40 (hR.w.2.1 _ finC_12).2.1) rfl 0 (by decide) (hts _ kw_178) (fun _ h9 => h9) (congrArg (fun z => some (vf ad z)) (hR.w.ptr ptrC_12)) dX11_isWanted_41 ?_
      refine va_alen (v := (Int32.ofNat (qN S (qO S 26 0)))) hx hb hR.K hR.P (qO S 26 0) 0 (hR.atB hT_b12 (by decide)) rfl rfl dX11_isWanted_44 ?_
      have hln13 : (Int32.ofNat (qN S (qO S 26 0))).toInt = (qN S (qO S 26 0) : Int) := toI_len (hR.w.len9 (hT_b12) (by decide))
      refine lv_icmp_le (tgt := 50) hx hb dX11_isWanted_45 (by decide) (fun c14 => ?_) (fun c14 => ?_)
      · replace h := h.1 (k_le rfl hln13 c14)
        refine lv_iconst (v := 0) hx hb dX11_isWanted_50 (by decide) ?_
        refine lv_istore (lv' := [(4, .int 0), (3, .int a7), (2, .int a3), (0, .ref (ad 25)), (1, .int x1)]) hx hb dX11_isWanted_51 hl (by decide) rfl (fun ls hl => ?_)
        have J_53 : ∀ (n53 : Nat) (U53 : MS) (v53_2 : Int32) (v53_3 : Int32) (v53_4 : Int32) (H : Heap) (locs : List Loc) (ls : Array Slot), w_X11_isWanted_L53 Q n53 U53 v53_2 v53_3 v53_4 → shy S U53 → RepC g ad A s U53 H locs → lv_has ls 5 [(0, .ref (ad 25)), (2, .int v53_2), (3, .int v53_3), (4, .int v53_4)] → W p l e (headSpec (wt yX11_isWanted cX11_isWanted 5 (some .boolean)) ({ frames := 0, cells := 0, slots := 0, locals := 0 })).room s m ([.ref (ad 25), .int x1] : List Value).toArray below meth c H locs 0 0 (MQ below (va_Qi (fun (r : Int32) (u : MS) => Q r u ∧ wfC u ∧ shy S u ∧ (r = 0 ∨ r = 1)) (fun (u : MS) (t : State) => qEC g ad A u t) A) ([.ref (ad 25), .int x1] : List Value).toArray s 0 0 A) (F0 m 53 ls []) := by
          intro n53
          induction n53 with
          | zero => intro U53 v53_2 v53_3 v53_4 H locs ls h hsh hR hl; unfold w_X11_isWanted_L53 at h; exact h.elim
          | succ n53 ih_53 =>
            intro U53 v53_2 v53_3 v53_4 H locs ls h hsh hR hl
            unfold w_X11_isWanted_L53 at h
            replace h := h hR.w
            refine lv_iload hx hb dX11_isWanted_53 (lv_at hl 3 rfl) ?_
            refine lv_iload_n hx hb dX11_isWanted_55 rfl (lv_at hl 2 rfl) ?_
            refine lv_icmp_ge (tgt := 105) hx hb dX11_isWanted_56 (by decide) (fun c15 => ?_) (fun c15 => ?_)
            · replace h := h.1 (k_le rfl rfl c15)
              refine lv_iconst (v := 1) hx hb dX11_isWanted_105 (by decide) ?_
              exact W.zret (v := 1) hx hb hr (nz (Or.inr rfl)) (fun t9 ht9 hW9 => ⟨⟨_, U53, rfl, ⟨h, hR.w, hsh, (Or.inr rfl)⟩, ⟨by rw [ht9]; exact hR.P, hR.D⟩⟩, hR.sS.F ht9⟩) hR.sS.2.2 dX11_isWanted_106
            · replace h := h.2 (k_nle rfl rfl c15)
              refine lv_iload hx hb dX11_isWanted_59 (lv_at hl 3 rfl) ?_
              refine lv_aload_n hx hb dX11_isWanted_61 rfl (lv_at hl 0 rfl) ?_
              refine va_get (D := rD g) (ci := 10) (v := .ref (ad 30)) (C := RX11) (T := TX11) (N := 18) hx hb hts inX11 hown hR.K hR.P 25 (hR.at50 (hR.w.2.1 _ finC_28).2.1) rfl 2 (by decide) (hts _ kw_139) (fun _ h9 => h9) (congrArg (fun z => some (vf ad z)) (hR.w.2.1 _ finC_14).1) dX11_isWanted_62 ?_
              have hT_b16 : qT U53 (qO U53 30 0) = 101 := hR.w.ref (hR.w.ptr ptrC_14) (hR.w.2.1 _ finC_14).2.1
              refine va_get (D := rD g) (ci := 0) (v := .ref (ad (qO U53 30 0))) (C := RX0) (T := TX0) (N := 2) hx hb hts inX0 hown hR.K hR.P 30 (hR.at40 (hR.w.2.1 _ finC_14).2.1) rfl 0 (by decide) (hts _ kw_178) (fun _ h9 => h9) (congrArg (fun z => some (vf ad z)) (hR.w.ptr ptrC_14)) dX11_isWanted_65 ?_
              refine va_alen (v := (Int32.ofNat (qN U53 (qO U53 30 0)))) hx hb hR.K hR.P (qO U53 30 0) 0 (hR.atB hT_b16 (by decide)) rfl rfl dX11_isWanted_68 ?_
              have hln17 : (Int32.ofNat (qN U53 (qO U53 30 0))).toInt = (qN U53 (qO U53 30 0) : Int) := toI_len (hR.w.len9 (hT_b16) (by decide))
              refine lv_icmp_ge (tgt := 105) hx hb dX11_isWanted_69 (by decide) (fun c18 => ?_) (fun c18 => ?_)
              · replace h := h.1 (k_le hln17 rfl c18)
                refine lv_iconst (v := 1) hx hb dX11_isWanted_105 (by decide) ?_
                exact W.zret (v := 1) hx hb hr (nz (Or.inr rfl)) (fun t9 ht9 hW9 => ⟨⟨_, U53, rfl, ⟨h, hR.w, hsh, (Or.inr rfl)⟩, ⟨by rw [ht9]; exact hR.P, hR.D⟩⟩, hR.sS.F ht9⟩) hR.sS.2.2 dX11_isWanted_106
              · replace h := h.2 (k_nle hln17 rfl c18)
                refine lv_aload_n hx hb dX11_isWanted_72 rfl (lv_at hl 0 rfl) ?_
                refine va_get (D := rD g) (ci := 10) (v := .ref (ad 26)) (C := RX11) (T := TX11) (N := 18) hx hb hts inX11 hown hR.K hR.P 25 (hR.at50 (hR.w.2.1 _ finC_28).2.1) rfl 0 (by decide) (hts _ kw_113) (fun _ h9 => h9) (congrArg (fun z => some (vf ad z)) (hR.w.2.1 _ finC_12).1) dX11_isWanted_73 ?_
                have hT_b19 : qT U53 (qO U53 26 0) = 101 := hR.w.ref (hR.w.ptr ptrC_12) (hR.w.2.1 _ finC_12).2.1
                refine va_get (D := rD g) (ci := 0) (v := .ref (ad (qO U53 26 0))) (C := RX0) (T := TX0) (N := 2) hx hb hts inX0 hown hR.K hR.P 26 (hR.at40 (hR.w.2.1 _ finC_12).2.1) rfl 0 (by decide) (hts _ kw_178) (fun _ h9 => h9) (congrArg (fun z => some (vf ad z)) (hR.w.ptr ptrC_12)) dX11_isWanted_76 ?_
                refine lv_iload_n hx hb dX11_isWanted_79 rfl (lv_at hl 1 rfl) ?_
                refine lv_iload hx hb dX11_isWanted_80 (lv_at hl 3 rfl) ?_
                refine lv_iadd hx hb dX11_isWanted_82 ?_
                refine lv_topi (fun z20 ez20 => ?_)
                obtain rfl : z20 = (v53_2 + v53_4) := ez20
                obtain ⟨hv21, h⟩ := h
                refine va_bald hx hb hR.K hR.P (qO U53 26 0) 0 (hR.atB hT_b19 (by decide)) rfl (k_ix (x := (v53_2 + v53_4)) (a := (v53_2 + v53_4).toInt) rfl hv21) dX11_isWanted_83 ?_
                refine lv_topi (fun z22 ez22 => ?_)
                obtain rfl : z22 = (qI U53 (qO U53 26 0) (((v53_2 + v53_4).toInt).toNat)) := ez22
                refine lv_aload_n hx hb dX11_isWanted_84 rfl (lv_at hl 0 rfl) ?_
                refine va_get (D := rD g) (ci := 10) (v := .ref (ad 30)) (C := RX11) (T := TX11) (N := 18) hx hb hts inX11 hown hR.K hR.P 25 (hR.at50 (hR.w.2.1 _ finC_28).2.1) rfl 2 (by decide) (hts _ kw_139) (fun _ h9 => h9) (congrArg (fun z => some (vf ad z)) (hR.w.2.1 _ finC_14).1) dX11_isWanted_85 ?_
                have hT_b23 : qT U53 (qO U53 30 0) = 101 := hR.w.ref (hR.w.ptr ptrC_14) (hR.w.2.1 _ finC_14).2.1
                refine va_get (D := rD g) (ci := 0) (v := .ref (ad (qO U53 30 0))) (C := RX0) (T := TX0) (N := 2) hx hb hts inX0 hown hR.K hR.P 30 (hR.at40 (hR.w.2.1 _ finC_14).2.1) rfl 0 (by decide) (hts _ kw_178) (fun _ h9 => h9) (congrArg (fun z => some (vf ad z)) (hR.w.ptr ptrC_14)) dX11_isWanted_88 ?_
                refine lv_iload hx hb dX11_isWanted_91 (lv_at hl 3 rfl) ?_
                obtain ⟨hv24, h⟩ := h
                refine va_bald hx hb hR.K hR.P (qO U53 30 0) 0 (hR.atB hT_b23 (by decide)) rfl (k_ix (x := v53_4) (a := v53_4.toInt) rfl hv24) dX11_isWanted_93 ?_
                refine lv_topi (fun z25 ez25 => ?_)
                obtain rfl : z25 = (qI U53 (qO U53 30 0) v53_4.toInt.toNat) := ez25
                refine lv_icmp_eq (tgt := 99) hx hb dX11_isWanted_94 (by decide) (fun c26 => ?_) (fun c26 => ?_)
                · replace h := h.1 (k_eq rfl rfl c26)
                  obtain ⟨a27, ea27⟩ : ∃ z, z = (v53_4 + Int32.ofInt 1) := ⟨_, rfl⟩
                  replace h := h a27 ea27
                  refine lv_iinc (v := a27) (lv' := [(4, .int a27), (0, .ref (ad 25)), (2, .int v53_2), (3, .int v53_3)]) hx hb dX11_isWanted_99 hl (k := 3) rfl ea27.symm (by decide) rfl (fun ls hl => ?_)
                  refine lv_goto (tgt := 53) hx hb dX11_isWanted_102 (by decide) ?_
                  exact ih_53 U53 v53_2 v53_3 a27 _ _ ls h  hsh hR (lv_sub hl [1, 2, 3, 0] rfl)
                · replace h := h.2 (k_ne rfl rfl c26)
                  refine lv_iconst (v := 0) hx hb dX11_isWanted_97 (by decide) ?_
                  exact W.zret (v := 0) hx hb hr (nz (Or.inl rfl)) (fun t9 ht9 hW9 => ⟨⟨_, U53, rfl, ⟨h, hR.w, hsh, (Or.inl rfl)⟩, ⟨by rw [ht9]; exact hR.P, hR.D⟩⟩, hR.sS.F ht9⟩) hR.sS.2.2 dX11_isWanted_98
        obtain ⟨n9, h⟩ := h
        exact J_53 n9 S a3 a7 0 _ _ ls h  hsh hR (lv_sub hl [3, 2, 1, 0] rfl)
      · replace h := h.2 (k_nle rfl hln13 c14)
        refine lv_iconst (v := 0) hx hb dX11_isWanted_48 (by decide) ?_
        exact W.zret (v := 0) hx hb hr (nz (Or.inl rfl)) (fun t9 ht9 hW9 => ⟨⟨_, S, rfl, ⟨h, hR.w, hsh, (Or.inl rfl)⟩, ⟨by rw [ht9]; exact hR.P, hR.D⟩⟩, hR.sS.F ht9⟩) hR.sS.2.2 dX11_isWanted_49
def wX11_want (S : MS) (x1 : Int32) (Q : MS → Prop) : Prop := (∀ S1, S1 = wI S 30 1 (0 : Int32) → qT S 30 = 40 → wfC S1 → (qT S1 30 = 40 → (∃ Q2, wX0_put S1 30 x1 Q2 ∧ ∀ S3, Q2 S3 → wfC S3 → shx S1 S3 → Q S3)))
set_option maxHeartbeats 2000000 in
set_option maxRecDepth 100000 in
theorem rX11_want (l : Launch) (g : Gr) (ad : Nat → Nat) (H0 : Heap) (S : MS) (x1 : Int32) (hw : wfC S) (Q : MS → Prop) (h : wX11_want S x1 Q) : Met l yX11_want (wt yX11_want cX11_want 2 none) ({ frames := 3, cells := KCC - qn S, slots := KSC - qu S, locals := 83 }) (va_Pc [.ref (ad 25), .int x1] (st_CH g ad H0 S)) (va_Qv (fun (u : MS × (Nat → Nat)) => Q u.1 ∧ wfC u.1 ∧ shx S u.1 ∧ adk ad u.2 S) (fun (u : MS × (Nat → Nat)) (t : State) => qEHC g (va_A (WdC g ad S) H0.size) S H0 u t) (va_A (WdC g ad S) H0.size)) (KCC - qn S) (KSC - qu S) (va_A (WdC g ad S) H0.size) := by
  refine Met.ofW (cc := cX11_want) (maxL := 2) (ret := none) (by decide) rfl ?_
  intro p e s m args below meth c s₁ B hml hv
  obtain ⟨rfl, hH0, hsz, hP, hK, hD0, hex, hE⟩ := hv
  have hx := B.exec
  have hb := B.bytes
  have hr := B.returns
  have hts0 := atoms_spec (ws := wt yX11_want cX11_want 2 none) B.pre
  have hts : ∀ w ∈ tb, w.before _ s = true := fun w h => hts0 w (List.mem_cons_of_mem _ h)
  have hown : s.vm.findClass RX11 = some m.cls := findClass_of_methodNamed B.named
  subst hH0
  have hD := hD0.self (sz := s.heap.size)
  generalize hAe : va_A (WdC g ad S) s.heap.size = A at hD hE ⊢
  have hA : ∀ q : Nat, s.heap.size ≤ q → A q := fun q h => by rw [← hAe]; exact Or.inr h
  have hR : RepC g ad A s S s.heap [] := ⟨hK, hP, hD, va_S.rf, hw⟩
  clear hK hP hD hD0
  have hl := lv_entry ([.ref (ad 25), .int x1]) (n := 2) (Nat.le_of_ble_eq_true rfl)
  rw [lg_entry_eq]
  generalize (lg_sl ([.ref (ad 25), .int x1]) ++ List.replicate (2 - (lg_sl ([.ref (ad 25), .int x1])).length) Slot.unset).toArray = ls at hl ⊢
  have hlg : lgC S S 0 0 := lgC.rf
  have hak : adk ad ad S := adk.rf
  have hl : lv_has ls 2 [(0, .ref (ad 25)), (1, .int x1)] := hl
  have hsh : shx S S := shx.rf
  unfold wX11_want at h
  refine lv_aload_n hx hb dX11_want_0 rfl (lv_at hl 0 rfl) ?_
  refine va_get (D := rD g) (ci := 10) (v := .ref (ad 30)) (C := RX11) (T := TX11) (N := 18) hx hb hts inX11 hown hR.K hR.P 25 (hR.at50 (hR.w.2.1 _ finC_28).2.1) rfl 2 (by decide) (hts _ kw_139) (fun _ h9 => h9) (congrArg (fun z => some (vf ad z)) (hR.w.2.1 _ finC_14).1) dX11_want_1 ?_
  refine lv_iconst (v := 0) hx hb dX11_want_4 (by decide) ?_
  refine va_put (D := rD g) (ci := 0) (v := .int 0) (ty := .int) (C := RX0) (T := TX0) (N := 2) hx hb hts inX0 tyX0 tyX0_ok nmX0 hown hR.K hR.P hR.D hR.sS 30 (hR.at40 (hR.w.2.1 _ finC_14).2.1) rfl 1 (by decide) (hts _ kw_101) (fun _ h9 => h9) rfl (by decide +kernel) rfl rfl (Nat.le_of_ble_eq_true rfl) dX11_want_5 (fun H locs hP hD hS => ?_)
  have hTk9 : qT S 30 = 40 := (hR.w.2.1 _ finC_14).2.1
  have hR : RepC g ad A s (wI S 30 1 (0 : Int32)) H locs := hR.pI40 (hR.w.2.1 _ finC_14).2.1 FX0_s1 (fun q9 => absurd q9 (by decide)) hP hD hS
  obtain ⟨S1, eS1⟩ : ∃ z, z = wI S 30 1 (0 : Int32) := ⟨_, rfl⟩
  rw [← eS1] at hR
  replace h := h S1 eS1 hTk9 hR.w
  have hsh : shx S S1 := by rw [eS1]; exact hsh
  have hlg : lgC S S1 (0) (0) := by rw [eS1]; exact hlg
  refine lv_aload_n hx hb dX11_want_8 rfl (lv_at hl 0 rfl) ?_
  refine va_get (D := rD g) (ci := 10) (v := .ref (ad 30)) (C := RX11) (T := TX11) (N := 18) hx hb hts inX11 hown hR.K hR.P 25 (hR.at50 (hR.w.2.1 _ finC_28).2.1) rfl 2 (by decide) (hts _ kw_139) (fun _ h9 => h9) (congrArg (fun z => some (vf ad z)) (hR.w.2.1 _ finC_14).1) dX11_want_9 ?_
  refine lv_iload_n hx hb dX11_want_12 rfl (lv_at hl 1 rfl) ?_
  replace h := h ((hR.w.2.1 _ finC_14).2.1)
  obtain ⟨Q2, h0, h⟩ := h
  have hFc := cfree hR hA
  refine W_led2 (fun hL0 => ?_)
  refine va_callv (va_runV (As := [.int x1]) (rest := []) ⟨hx, hb, hml, hown, hts⟩ (rX0_put l g ad H S1 30 x1 hR.w (hR.w.2.1 _ finC_14).2.1 Q2 h0) (cwV 1 hts (gd_V kw_140 kw_13 kw_14 kw_3 kw_12) rfl rfl rfl (by decide +kernel) ⟨Nat.le_of_ble_eq_true rfl, Nat.le_of_ble_eq_true rfl⟩) ⟨cblindH, va_recv hR.K hR.P (ci := 0) (q0 := 30) rfl (hR.at40 (hR.w.2.1 _ finC_14).2.1), fun U hU hW9 => cmkH hU hW9 hR hex hE hFc⟩ rfl rfl hl.1 rfl (lv_room (Nat.le_of_ble_eq_true rfl)) dX11_want_13 ⟨(show 0 + (KCC - qn S1) ≤ KCC - qn S from hlg.cm), (show 0 + (KSC - qu S1) ≤ KSC - qu S from hlg.sm)⟩) hR.sS (fun q _ h => hFc q h) hFc (fun  S3 t9 H1 locs ht9 hvm9 hw9 hB9 hz9 hk9 hS => ?_)
  rcases S3 with ⟨S3, ak5⟩
  obtain ⟨hB9, dc9, ds9, hL9, hl9⟩ := hB9
  dsimp only at hw9 hB9 hl9
  rw [ht9] at hL9
  obtain ⟨hq4, hw9, hs9, hk8⟩ := hw9
  have hw8 := hR.w
  have hak := hak.tr hk8 hlg.2.2.1
  have hE := hE.ad hk8
  have hR : RepC g ak5 A s S3 H1 locs := hR.callH ht9 hB9 hw9 hS hFc
  have hsh := hsh.tr hs9
  refine W_tight2 (hL0.tr hL9).1 (hL0.tr hL9).2.1 ?_
  have hlg := hlg.call hl9
  replace h := h  S3 hq4 hw9 hs9
  have ea_0 : ak5 25 = ad 25 := hk8 _ (hw8.hd (hw8.2.1 _ finC_28).2.1 (by decide) (by decide))
  have hl : lv_has ls 2 [(0, .ref (ak5 25)), (1, .int x1)] := by simp only [ea_0]; exact hl
  clear hB9 hz9 hk9 hvm9 ht9 hw9 hs9 hS hL0 hL9
  generalize H1 = H at hR ⊢
  generalize dc9 = dc_ak5, ds9 = ds_ak5 at hlg ⊢
  refine W_led2 (fun hLd => ?_)
  refine W.widen (k := KCC - qn S) (n := KSC - qu S) hlg.c hlg.s ?_
  exact W.vret hx hb hr (fun t9 ht9 hW9 => ⟨⟨(S3, ak5), rfl, ⟨h, hR.w, hsh, hak⟩, ⟨⟨by rw [ht9]; exact hR.P, hR.D⟩, _, _, by rw [ht9]; exact hLd, hlg⟩⟩, hR.sS.F ht9⟩) hR.sS.2.2 dX11_want_16
def f_X11_unitByte_J16 (S : MS) : Int32 := (0 : Int32)
def d_X11_unitByte_J16 (S : MS) : Prop := True
def fX11_unitByte (S : MS) (x1 : Int32) : Int32 := (if x1.toInt < 0 then f_X11_unitByte_J16 S else (if x1.toInt < (qN S (qO S (qO S 25 7) 0) : Int) then ((qI S (qO S (qO S 25 7) 0) x1.toInt.toNat) &&& (255 : Int32)) else f_X11_unitByte_J16 S))
def d_X11_unitByte (S : MS) (x1 : Int32) : Prop := (if x1.toInt < 0 then d_X11_unitByte_J16 S else ((qR S 25 7 = some (qO S 25 7)) ∧ ((qR S (qO S 25 7) 0 = some (qO S (qO S 25 7) 0)) ∧ (if x1.toInt < (qN S (qO S (qO S 25 7) 0) : Int) then ((qR S 25 7 = some (qO S 25 7)) ∧ ((qR S (qO S 25 7) 0 = some (qO S (qO S 25 7) 0)) ∧ (((0 : Int) ≤ x1.toInt ∧ x1.toInt < (qN S (qO S (qO S 25 7) 0) : Int)) ∧ True))) else d_X11_unitByte_J16 S))))
set_option maxHeartbeats 2000000 in
set_option maxRecDepth 100000 in
theorem rX11_unitByte (l : Launch) (g : Gr) (ad : Nat → Nat) (sz : Nat) (S : MS) (x1 : Int32) (hw : wfC S) (hd : d_X11_unitByte S x1) : Met l yX11_unitByte (wt yX11_unitByte cX11_unitByte 2 (some .int)) ({ frames := 0, cells := 0, slots := 0, locals := 0 }) (va_Pc [.ref (ad 25), .int x1] (st_C g ad sz S)) (va_Qi (fun (r : Int32) (_ : Unit) => r = fX11_unitByte S x1) (fun (_ : Unit) (t : State) => qEC g ad (va_A (WdC g ad S) sz) S t) (va_A (WdC g ad S) sz)) 0 0 (va_A (WdC g ad S) sz) := by
  refine Met.ofW (cc := cX11_unitByte) (maxL := 2) (ret := (some .int)) (by decide) rfl ?_
  intro p e s m args below meth c s₁ B hml hv
  obtain ⟨rfl, hsz, hP, hK, hD0, hex, hE⟩ := hv
  have hx := B.exec
  have hb := B.bytes
  have hr := B.returns
  have hts0 := atoms_spec (ws := wt yX11_unitByte cX11_unitByte 2 (some .int)) B.pre
  have hts : ∀ w ∈ tb, w.before _ s = true := fun w h => hts0 w (List.mem_cons_of_mem _ h)
  have hown : s.vm.findClass RX11 = some m.cls := findClass_of_methodNamed B.named
  subst hsz
  have hD := hD0.self (sz := s.heap.size)
  generalize hAe : va_A (WdC g ad S) s.heap.size = A at hD hE ⊢
  have hA : ∀ q : Nat, s.heap.size ≤ q → A q := fun q h => by rw [← hAe]; exact Or.inr h
  have hR : RepC g ad A s S s.heap [] := ⟨hK, hP, hD, va_S.rf, hw⟩
  clear hK hP hD hD0
  have hl := lv_entry ([.ref (ad 25), .int x1]) (n := 2) (Nat.le_of_ble_eq_true rfl)
  rw [lg_entry_eq]
  generalize (lg_sl ([.ref (ad 25), .int x1]) ++ List.replicate (2 - (lg_sl ([.ref (ad 25), .int x1])).length) Slot.unset).toArray = ls at hl ⊢
  have hl : lv_has ls 2 [(0, .ref (ad 25)), (1, .int x1)] := hl
  obtain ⟨r0, hf⟩ : ∃ r0, fX11_unitByte S x1 = r0 := ⟨_, rfl⟩
  have hf0 := hf
  unfold fX11_unitByte at hf
  unfold d_X11_unitByte at hd
  refine lv_iload_n hx hb dX11_unitByte_0 rfl (lv_at hl 1 rfl) ?_
  have J_16 : ∀ (H : Heap) (locs : List Loc) (ls : Array Slot), d_X11_unitByte_J16 S → f_X11_unitByte_J16 S = r0 → RepC g ad A s S H locs → lv_has ls 2 [] → W p l e (headSpec (wt yX11_unitByte cX11_unitByte 2 (some .int)) ({ frames := 0, cells := 0, slots := 0, locals := 0 })).room s m ([.ref (ad 25), .int x1] : List Value).toArray below meth c H locs 0 0 (MQ below (va_Qi (fun (r : Int32) (_ : Unit) => r = fX11_unitByte S x1) (fun (_ : Unit) (t : State) => qEC g ad A S t) A) ([.ref (ad 25), .int x1] : List Value).toArray s 0 0 A) (F0 m 16 ls []) := by
    intro H locs ls hd hf hR hl
    unfold d_X11_unitByte_J16 at hd
    unfold f_X11_unitByte_J16 at hf
    refine lv_iconst (v := 0) hx hb dX11_unitByte_16 (by decide) ?_
    refine lv_goto (tgt := 33) hx hb dX11_unitByte_17 (by decide) ?_
    exact W.iret (v := 0) hx hb hr (fun t9 ht9 hW9 => ⟨⟨_, (), rfl, hf.trans hf0.symm, ⟨by rw [ht9]; exact hR.P, hR.D⟩⟩, hR.sS.F ht9⟩) hR.sS.2.2 dX11_unitByte_33
  refine lv_if_lt (tgt := 16) hx hb dX11_unitByte_1 (by decide) (fun c1 => ?_) (fun c1 => ?_)
  · rw [if_pos (k_lt rfl (by decide) c1)] at hf
    (try rw [if_pos (k_lt rfl (by decide) c1)] at hd)
    exact J_16 _ _ ls hd hf  hR (lv_sub hl [] rfl)
  · rw [if_neg (k_nlt rfl (by decide) c1)] at hf
    (try rw [if_neg (k_nlt rfl (by decide) c1)] at hd)
    refine lv_iload_n hx hb dX11_unitByte_4 rfl (lv_at hl 1 rfl) ?_
    refine lv_aload_n hx hb dX11_unitByte_5 rfl (lv_at hl 0 rfl) ?_
    obtain ⟨hv3, hd⟩ := hd
    have hT_b2 : qT S (qO S 25 7) = 49 := hR.w.ref hv3 (hR.w.2.1 _ finC_28).2.1
    refine va_get (D := rD g) (ci := 10) (v := .ref (ad (qO S 25 7))) (C := RX11) (T := TX11) (N := 18) hx hb hts inX11 hown hR.K hR.P 25 (hR.at50 (hR.w.2.1 _ finC_28).2.1) rfl 7 (by decide) (hts _ kw_86) (fun _ h9 => h9) (congrArg (fun z => some (vf ad z)) hv3) dX11_unitByte_6 ?_
    obtain ⟨hv5, hd⟩ := hd
    have hT_b4 : qT S (qO S (qO S 25 7) 0) = 105 := hR.w.ref hv5 hT_b2
    refine va_get (D := rD g) (ci := 9) (v := .ref (ad (qO S (qO S 25 7) 0))) (C := RX10) (T := TX10) (N := 18) hx hb hts inX10 hown hR.K hR.P (qO S 25 7) (hR.at49 hT_b2) rfl 0 (by decide) (hts _ kw_273) (fun _ h9 => h9) (congrArg (fun z => some (vf ad z)) hv5) dX11_unitByte_9 ?_
    refine va_alen (v := (Int32.ofNat (qN S (qO S (qO S 25 7) 0)))) hx hb hR.K hR.P (qO S (qO S 25 7) 0) 0 (hR.atB hT_b4 (by decide)) rfl rfl dX11_unitByte_12 ?_
    have hln6 : (Int32.ofNat (qN S (qO S (qO S 25 7) 0))).toInt = (qN S (qO S (qO S 25 7) 0) : Int) := toI_len (hR.w.len9 (hT_b4) (by decide))
    refine lv_icmp_lt (tgt := 20) hx hb dX11_unitByte_13 (by decide) (fun c7 => ?_) (fun c7 => ?_)
    · rw [if_pos (k_lt rfl hln6 c7)] at hf
      (try rw [if_pos (k_lt rfl hln6 c7)] at hd)
      refine lv_aload_n hx hb dX11_unitByte_20 rfl (lv_at hl 0 rfl) ?_
      obtain ⟨hv9, hd⟩ := hd
      have hT_b8 : qT S (qO S 25 7) = 49 := hR.w.ref hv9 (hR.w.2.1 _ finC_28).2.1
      refine va_get (D := rD g) (ci := 10) (v := .ref (ad (qO S 25 7))) (C := RX11) (T := TX11) (N := 18) hx hb hts inX11 hown hR.K hR.P 25 (hR.at50 (hR.w.2.1 _ finC_28).2.1) rfl 7 (by decide) (hts _ kw_86) (fun _ h9 => h9) (congrArg (fun z => some (vf ad z)) hv9) dX11_unitByte_21 ?_
      obtain ⟨hv11, hd⟩ := hd
      have hT_b10 : qT S (qO S (qO S 25 7) 0) = 105 := hR.w.ref hv11 hT_b8
      refine va_get (D := rD g) (ci := 9) (v := .ref (ad (qO S (qO S 25 7) 0))) (C := RX10) (T := TX10) (N := 18) hx hb hts inX10 hown hR.K hR.P (qO S 25 7) (hR.at49 hT_b8) rfl 0 (by decide) (hts _ kw_273) (fun _ h9 => h9) (congrArg (fun z => some (vf ad z)) hv11) dX11_unitByte_24 ?_
      refine lv_iload_n hx hb dX11_unitByte_27 rfl (lv_at hl 1 rfl) ?_
      obtain ⟨hv12, hd⟩ := hd
      refine va_bald hx hb hR.K hR.P (qO S (qO S 25 7) 0) 0 (hR.atB hT_b10 (by decide)) rfl (k_ix (x := x1) (a := x1.toInt) rfl hv12) dX11_unitByte_28 ?_
      refine lv_topi (fun z13 ez13 => ?_)
      obtain rfl : z13 = (qI S (qO S (qO S 25 7) 0) x1.toInt.toNat) := ez13
      refine lv_sipush (v := 255) hx hb dX11_unitByte_29 (by decide) ?_
      refine lv_iand hx hb dX11_unitByte_32 ?_
      refine lv_topi (fun z14 ez14 => ?_)
      obtain rfl : z14 = ((qI S (qO S (qO S 25 7) 0) x1.toInt.toNat) &&& (255 : Int32)) := ez14
      exact W.iret (v := ((qI S (qO S (qO S 25 7) 0) x1.toInt.toNat) &&& (255 : Int32))) hx hb hr (fun t9 ht9 hW9 => ⟨⟨_, (), rfl, hf.trans hf0.symm, ⟨by rw [ht9]; exact hR.P, hR.D⟩⟩, hR.sS.F ht9⟩) hR.sS.2.2 dX11_unitByte_33
    · rw [if_neg (k_nlt rfl hln6 c7)] at hf
      (try rw [if_neg (k_nlt rfl hln6 c7)] at hd)
      exact J_16 _ _ ls hd hf  hR (lv_sub hl [] rfl)
def w_X11_leastLocals_J70 (Q : Int32 → MS → Prop) (k20 : MS → Int32 → Int32 → Prop) (U70 : MS) (v70_1 : Int32) (v70_2 : Int32) : Prop := (wfC U70 → (∀ a26 : Int32, a26 = (v70_2 + Int32.ofInt 1) → k20 U70 v70_1 a26))
def w_X11_leastLocals_L20 (Q : Int32 → MS → Prop) : Nat → MS → Int32 → Int32 → Prop
  | 0, _, _, _ => False
  | n20 + 1, U20, v20_1, v20_2 => (wfC U20 → ((qR U20 25 15 = some (qO U20 25 15)) ∧ (((qI U20 (qO U20 25 15) 2).toInt ≤ v20_2.toInt → Q v20_1 U20) ∧ (¬ (qI U20 (qO U20 25 15) 2).toInt ≤ v20_2.toInt → ((qR U20 25 15 = some (qO U20 25 15)) ∧ (d_X8_opAt U20 (qO U20 25 15) v20_2 ∧ (∀ a21 : Int32, a21 = (fX8_opAt U20 (qO U20 25 15) v20_2) → (d_X6_usesLocal U20 a21 ∧ (∀ a25 : Int32, a25 = (fX6_usesLocal U20 a21) → ((a25.toInt = 0 → w_X11_leastLocals_J70 Q (w_X11_leastLocals_L20 Q n20) U20 v20_1 v20_2) ∧ (¬ a25.toInt = 0 → ((qR U20 25 15 = some (qO U20 25 15)) ∧ (d_X8_localOf U20 (qO U20 25 15) v20_2 ∧ (∀ a33 : Int32, a33 = (fX8_localOf U20 (qO U20 25 15) v20_2) → ((qR U20 25 15 = some (qO U20 25 15)) ∧ (d_X8_opAt U20 (qO U20 25 15) v20_2 ∧ (∀ a39 : Int32, a39 = (fX8_opAt U20 (qO U20 25 15) v20_2) → (d_X6_localWidth U20 a39 ∧ (∀ a43 : Int32, a43 = (fX6_localWidth U20 a39) → (∀ a46 : Int32, a46 = (if v20_1 < (a33 + a43) then (a33 + a43) else v20_1) → w_X11_leastLocals_J70 Q (w_X11_leastLocals_L20 Q n20) U20 a46 v20_2))))))))))))))))))))
def wX11_leastLocals (S : MS) (Q : Int32 → MS → Prop) : Prop := ((qR S 25 7 = some (qO S 25 7)) ∧ ((qR S 25 15 = some (qO S 25 15)) ∧ (d_X10_takesOfMethod S (qO S 25 7) (qI S (qO S 25 15) 11) ∧ (∀ a8 : Int32, a8 = (fX10_takesOfMethod S (qO S 25 7) (qI S (qO S 25 15) 11)) → (∃ Q9, wX6_placesOf S a8 Q9 ∧ ∀ r10 S11, Q9 r10 S11 → wfC S11 → shy S S11 → (∃ n, w_X11_leastLocals_L20 Q n S11 r10 0))))))
set_option maxHeartbeats 2000000 in
set_option maxRecDepth 100000 in
theorem rX11_leastLocals (l : Launch) (g : Gr) (ad : Nat → Nat) (sz : Nat) (S : MS) (hw : wfC S) (Q : Int32 → MS → Prop) (h : wX11_leastLocals S Q) : Met l yX11_leastLocals (wt yX11_leastLocals cX11_leastLocals 3 (some .int)) ({ frames := 2, cells := 0, slots := 0, locals := 42 }) (va_Pc [.ref (ad 25)] (st_C g ad sz S)) (va_Qi (fun (r : Int32) (u : MS) => Q r u ∧ wfC u ∧ shy S u) (fun (u : MS) (t : State) => qEC g ad (va_A (WdC g ad S) sz) u t) (va_A (WdC g ad S) sz)) 0 0 (va_A (WdC g ad S) sz) := by
  refine Met.ofW (cc := cX11_leastLocals) (maxL := 3) (ret := (some .int)) (by decide) rfl ?_
  intro p e s m args below meth c s₁ B hml hv
  obtain ⟨rfl, hsz, hP, hK, hD0, hex, hE⟩ := hv
  have hx := B.exec
  have hb := B.bytes
  have hr := B.returns
  have hts0 := atoms_spec (ws := wt yX11_leastLocals cX11_leastLocals 3 (some .int)) B.pre
  have hts : ∀ w ∈ tb, w.before _ s = true := fun w h => hts0 w (List.mem_cons_of_mem _ h)
  have hown : s.vm.findClass RX11 = some m.cls := findClass_of_methodNamed B.named
  subst hsz
  have hD := hD0.self (sz := s.heap.size)
  generalize hAe : va_A (WdC g ad S) s.heap.size = A at hD hE ⊢
  have hA : ∀ q : Nat, s.heap.size ≤ q → A q := fun q h => by rw [← hAe]; exact Or.inr h
  have hR : RepC g ad A s S s.heap [] := ⟨hK, hP, hD, va_S.rf, hw⟩
  clear hK hP hD hD0
  have hl := lv_entry ([.ref (ad 25)]) (n := 3) (Nat.le_of_ble_eq_true rfl)
  rw [lg_entry_eq]
  generalize (lg_sl ([.ref (ad 25)]) ++ List.replicate (3 - (lg_sl ([.ref (ad 25)])).length) Slot.unset).toArray = ls at hl ⊢
  have hl : lv_has ls 3 [(0, .ref (ad 25))] := hl
  have hsh : shy S S := shy.rf
  unfold wX11_leastLocals at h
  refine lv_aload_n hx hb dX11_leastLocals_0 rfl (lv_at hl 0 rfl) ?_
  obtain ⟨hv2, h⟩ := h
  have hT_b1 : qT S (qO S 25 7) = 49 := hR.w.ref hv2 (hR.w.2.1 _ finC_28).2.1
  refine va_get (D := rD g) (ci := 10) (v := .ref (ad (qO S 25 7))) (C := RX11) (T := TX11) (N := 18) hx hb hts inX11 hown hR.K hR.P 25 (hR.at50 (hR.w.2.1 _ finC_28).2.1) rfl 7 (by decide) (hts _ kw_86) (fun _ h9 => h9) (congrArg (fun z => some (vf ad z)) hv2) dX11_leastLocals_1 ?_
  refine lv_aload_n hx hb dX11_leastLocals_4 rfl (lv_at hl 0 rfl) ?_
  obtain ⟨hv4, h⟩ := h
  have hT_b3 : qT S (qO S 25 15) = 47 := hR.w.ref hv4 (hR.w.2.1 _ finC_28).2.1
  refine va_get (D := rD g) (ci := 10) (v := .ref (ad (qO S 25 15))) (C := RX11) (T := TX11) (N := 18) hx hb hts inX11 hown hR.K hR.P 25 (hR.at50 (hR.w.2.1 _ finC_28).2.1) rfl 15 (by decide) (hts _ kw_84) (fun _ h9 => h9) (congrArg (fun z => some (vf ad z)) hv4) dX11_leastLocals_5 ?_
  refine va_get (D := rD g) (ci := 7) (v := .int (qI S (qO S 25 15) 11)) (C := RX8) (T := TX8) (N := 15) hx hb hts inX8 hown hR.K hR.P (qO S 25 15) (hR.at47 hT_b3) rfl 11 (by decide) (hts _ kw_85) (fun _ h9 => h9) rfl dX11_leastLocals_8 ?_
  obtain ⟨hv5, h⟩ := h
  have hFc := cfree hR hA
  refine va_calli (va_runV (As := [.int (qI S (qO S 25 15) 11)]) (rest := []) ⟨hx, hb, hml, hown, hts⟩ (rX10_takesOfMethod l g ad s.heap.size S (qO S 25 7) (qI S (qO S 25 15) 11) hR.w hT_b1 hv5) (cwV 1 hts (gd_V kw_187 kw_78 kw_79 kw_34 kw_77) rfl rfl rfl (by decide +kernel) ⟨Nat.le_of_ble_eq_true rfl, Nat.le_of_ble_eq_true rfl⟩) ⟨cblind, va_recv hR.K hR.P (ci := 9) (q0 := (qO S 25 7)) rfl (hR.at49 hT_b1), fun U hU hW9 => cmk hU hW9 hR hex hE hFc⟩ rfl rfl hl.1 rfl (lv_room (Nat.le_of_ble_eq_true rfl)) dX11_leastLocals_11 ⟨Nat.le_of_ble_eq_true rfl, Nat.le_of_ble_eq_true rfl⟩) hR.sS (fun q _ h => hFc q h) hFc (fun r6 u9 t9 H1 locs ht9 hvm9 hw9 hB9 hz9 hk9 hS => ?_)
  have hR : RepC g ad A s S H1 locs := hR.call ht9 hB9 hR.w hS hFc
  obtain rfl : r6 = (fX10_takesOfMethod S (qO S 25 7) (qI S (qO S 25 15) 11)) := hw9
  clear hB9 hz9 hk9 hvm9 ht9 hS
  generalize H1 = H at hR ⊢
  obtain ⟨a8, ea8⟩ : ∃ z, z = (fX10_takesOfMethod S (qO S 25 7) (qI S (qO S 25 15) 11)) := ⟨_, rfl⟩
  rw [← ea8]
  replace h := h a8 ea8
  obtain ⟨Q9, h0, h⟩ := h
  have hFc := cfree hR hA
  refine va_calli (va_runS (As := [.int a8]) (rest := []) ⟨hx, hb, hml, hown, hts⟩ (rX6_placesOf l g ad H.size S a8 hR.w  Q9 h0) (va_cwS 1 hts (gd_S kw_188 kw_1253 kw_1207 kw_1252) rfl rfl rfl (by decide +kernel) ⟨Nat.le_of_ble_eq_true rfl, Nat.le_of_ble_eq_true rfl⟩) ⟨cblind, fun U hU hW9 => cmk hU hW9 hR hex hE hFc⟩ rfl rfl hl.1 rfl (lv_room (Nat.le_of_ble_eq_true rfl)) dX11_leastLocals_14 ⟨Nat.le_of_ble_eq_true rfl, Nat.le_of_ble_eq_true rfl⟩) hR.sS (fun q _ h => hFc q h) hFc (fun r10 S11 t9 H1 locs ht9 hvm9 hw9 hB9 hz9 hk9 hS => ?_)
  obtain ⟨hq12, hw9, hs9⟩ := hw9
  have hR : RepC g ad A s S11 H1 locs := hR.call ht9 hB9 hw9 hS hFc
  have hsh := hsh.tr hs9
  replace h := h r10 S11 hq12 hw9 hs9
  clear hB9 hz9 hk9 hvm9 ht9 hw9 hs9 hS
  generalize H1 = H at hR ⊢
  refine lv_istore_n (lv' := [(1, .int r10), (0, .ref (ad 25))]) hx hb dX11_leastLocals_17 rfl hl (by decide) rfl (fun ls hl => ?_)
  refine lv_iconst (v := 0) hx hb dX11_leastLocals_18 (by decide) ?_
  refine lv_istore_n (lv' := [(2, .int 0), (1, .int r10), (0, .ref (ad 25))]) hx hb dX11_leastLocals_19 rfl hl (by decide) rfl (fun ls hl => ?_)
  have J_20 : ∀ (n20 : Nat) (U20 : MS) (v20_1 : Int32) (v20_2 : Int32) (H : Heap) (locs : List Loc) (ls : Array Slot), w_X11_leastLocals_L20 Q n20 U20 v20_1 v20_2 → shy S U20 → RepC g ad A s U20 H locs → lv_has ls 3 [(0, .ref (ad 25)), (1, .int v20_1), (2, .int v20_2)] → W p l e (headSpec (wt yX11_leastLocals cX11_leastLocals 3 (some .int)) ({ frames := 2, cells := 0, slots := 0, locals := 42 })).room s m ([.ref (ad 25)] : List Value).toArray below meth c H locs 0 0 (MQ below (va_Qi (fun (r : Int32) (u : MS) => Q r u ∧ wfC u ∧ shy S u) (fun (u : MS) (t : State) => qEC g ad A u t) A) ([.ref (ad 25)] : List Value).toArray s 0 0 A) (F0 m 20 ls []) := by
    intro n20
    induction n20 with
    | zero => intro U20 v20_1 v20_2 H locs ls h hsh hR hl; unfold w_X11_leastLocals_L20 at h; exact h.elim
    | succ n20 ih_20 =>
      intro U20 v20_1 v20_2 H locs ls h hsh hR hl
      unfold w_X11_leastLocals_L20 at h
      replace h := h hR.w
      refine lv_iload_n hx hb dX11_leastLocals_20 rfl (lv_at hl 2 rfl) ?_
      refine lv_aload_n hx hb dX11_leastLocals_21 rfl (lv_at hl 0 rfl) ?_
      obtain ⟨hv14, h⟩ := h
      have hT_b13 : qT U20 (qO U20 25 15) = 47 := hR.w.ref hv14 (hR.w.2.1 _ finC_28).2.1
      refine va_get (D := rD g) (ci := 10) (v := .ref (ad (qO U20 25 15))) (C := RX11) (T := TX11) (N := 18) hx hb hts inX11 hown hR.K hR.P 25 (hR.at50 (hR.w.2.1 _ finC_28).2.1) rfl 15 (by decide) (hts _ kw_84) (fun _ h9 => h9) (congrArg (fun z => some (vf ad z)) hv14) dX11_leastLocals_22 ?_
      refine va_get (D := rD g) (ci := 7) (v := .int (qI U20 (qO U20 25 15) 2)) (C := RX8) (T := TX8) (N := 15) hx hb hts inX8 hown hR.K hR.P (qO U20 25 15) (hR.at47 hT_b13) rfl 2 (by decide) (hts _ kw_102) (fun _ h9 => h9) rfl dX11_leastLocals_25 ?_
      refine lv_icmp_ge (tgt := 76) hx hb dX11_leastLocals_28 (by decide) (fun c15 => ?_) (fun c15 => ?_)
      · replace h := h.1 (k_le rfl rfl c15)
        refine lv_iload_n hx hb dX11_leastLocals_76 rfl (lv_at hl 1 rfl) ?_
        exact W.iret (v := v20_1) hx hb hr (fun t9 ht9 hW9 => ⟨⟨_, U20, rfl, ⟨h, hR.w, hsh⟩, ⟨by rw [ht9]; exact hR.P, hR.D⟩⟩, hR.sS.F ht9⟩) hR.sS.2.2 dX11_leastLocals_77
      · replace h := h.2 (k_nle rfl rfl c15)
        refine lv_aload_n hx hb dX11_leastLocals_31 rfl (lv_at hl 0 rfl) ?_
        obtain ⟨hv17, h⟩ := h
        have hT_b16 : qT U20 (qO U20 25 15) = 47 := hR.w.ref hv17 (hR.w.2.1 _ finC_28).2.1
        refine va_get (D := rD g) (ci := 10) (v := .ref (ad (qO U20 25 15))) (C := RX11) (T := TX11) (N := 18) hx hb hts inX11 hown hR.K hR.P 25 (hR.at50 (hR.w.2.1 _ finC_28).2.1) rfl 15 (by decide) (hts _ kw_84) (fun _ h9 => h9) (congrArg (fun z => some (vf ad z)) hv17) dX11_leastLocals_32 ?_
        refine lv_iload_n hx hb dX11_leastLocals_35 rfl (lv_at hl 2 rfl) ?_
        obtain ⟨hv18, h⟩ := h
        have hFc := cfree hR hA
        refine va_calli (va_runV (As := [.int v20_2]) (rest := []) ⟨hx, hb, hml, hown, hts⟩ (rX8_opAt l g ad H.size U20 (qO U20 25 15) v20_2 hR.w hT_b16 hv18) (cwV 1 hts (gd_V kw_189 kw_1513 kw_1514 kw_782 kw_1512) rfl rfl rfl (by decide +kernel) ⟨Nat.le_of_ble_eq_true rfl, Nat.le_of_ble_eq_true rfl⟩) ⟨cblind, va_recv hR.K hR.P (ci := 7) (q0 := (qO U20 25 15)) rfl (hR.at47 hT_b16), fun U hU hW9 => cmk hU hW9 hR hex hE hFc⟩ rfl rfl hl.1 rfl (lv_room (Nat.le_of_ble_eq_true rfl)) dX11_leastLocals_36 ⟨Nat.le_of_ble_eq_true rfl, Nat.le_of_ble_eq_true rfl⟩) hR.sS (fun q _ h => hFc q h) hFc (fun r19 u9 t9 H1 locs ht9 hvm9 hw9 hB9 hz9 hk9 hS => ?_)
        have hR : RepC g ad A s U20 H1 locs := hR.call ht9 hB9 hR.w hS hFc
        obtain rfl : r19 = (fX8_opAt U20 (qO U20 25 15) v20_2) := hw9
        clear hB9 hz9 hk9 hvm9 ht9 hS
        generalize H1 = H at hR ⊢
        obtain ⟨a21, ea21⟩ : ∃ z, z = (fX8_opAt U20 (qO U20 25 15) v20_2) := ⟨_, rfl⟩
        rw [← ea21]
        replace h := h a21 ea21
        obtain ⟨hv22, h⟩ := h
        have hFc := cfree hR hA
        refine va_calli (va_runS (As := [.int a21]) (rest := []) ⟨hx, hb, hml, hown, hts⟩ (rX6_usesLocal l g ad H.size U20 a21 hR.w  hv22) (va_cwS 1 hts (gd_S kw_190 kw_1260 kw_1207 kw_1259) rfl rfl rfl (by decide +kernel) ⟨Nat.le_of_ble_eq_true rfl, Nat.le_of_ble_eq_true rfl⟩) ⟨cblind, fun U hU hW9 => cmk hU hW9 hR hex hE hFc⟩ rfl rfl hl.1 rfl (lv_room (Nat.le_of_ble_eq_true rfl)) dX11_leastLocals_39 ⟨Nat.le_of_ble_eq_true rfl, Nat.le_of_ble_eq_true rfl⟩) hR.sS (fun q _ h => hFc q h) hFc (fun r23 u9 t9 H1 locs ht9 hvm9 hw9 hB9 hz9 hk9 hS => ?_)
        have hR : RepC g ad A s U20 H1 locs := hR.call ht9 hB9 hR.w hS hFc
        obtain ⟨rfl, hz_r23⟩ := hw9
        clear hB9 hz9 hk9 hvm9 ht9 hS
        generalize H1 = H at hR ⊢
        obtain ⟨a25, ea25⟩ : ∃ z, z = (fX6_usesLocal U20 a21) := ⟨_, rfl⟩
        rw [← ea25]
        replace h := h a25 ea25
        rw [← ea25] at hz_r23
        have J_70 : ∀ (U70 : MS) (v70_1 : Int32) (v70_2 : Int32) (H : Heap) (locs : List Loc) (ls : Array Slot), w_X11_leastLocals_J70 Q (w_X11_leastLocals_L20 Q n20) U70 v70_1 v70_2 → shy S U70 → RepC g ad A s U70 H locs → lv_has ls 3 [(0, .ref (ad 25)), (1, .int v70_1), (2, .int v70_2)] → W p l e (headSpec (wt yX11_leastLocals cX11_leastLocals 3 (some .int)) ({ frames := 2, cells := 0, slots := 0, locals := 42 })).room s m ([.ref (ad 25)] : List Value).toArray below meth c H locs 0 0 (MQ below (va_Qi (fun (r : Int32) (u : MS) => Q r u ∧ wfC u ∧ shy S u) (fun (u : MS) (t : State) => qEC g ad A u t) A) ([.ref (ad 25)] : List Value).toArray s 0 0 A) (F0 m 70 ls []) := by
          intro U70 v70_1 v70_2 H locs ls h hsh hR hl
          unfold w_X11_leastLocals_J70 at h
          replace h := h hR.w
          obtain ⟨a26, ea26⟩ : ∃ z, z = (v70_2 + Int32.ofInt 1) := ⟨_, rfl⟩
          replace h := h a26 ea26
          refine lv_iinc (v := a26) (lv' := [(2, .int a26), (0, .ref (ad 25)), (1, .int v70_1)]) hx hb dX11_leastLocals_70 hl (k := 2) rfl ea26.symm (by decide) rfl (fun ls hl => ?_)
          refine lv_goto (tgt := 20) hx hb dX11_leastLocals_73 (by decide) ?_
          exact ih_20 U70 v70_1 a26 _ _ ls h  hsh hR (lv_sub hl [1, 2, 0] rfl)
        refine lv_if_eq (tgt := 70) hx hb dX11_leastLocals_42 (by decide) (fun c27 => ?_) (fun c27 => ?_)
        · replace h := h.1 (k_eq rfl (by decide) c27)
          exact J_70 U20 v20_1 v20_2 _ _ ls h  hsh hR (lv_sub hl [0, 1, 2] rfl)
        · replace h := h.2 (k_ne rfl (by decide) c27)
          refine lv_iload_n hx hb dX11_leastLocals_45 rfl (lv_at hl 1 rfl) ?_
          refine lv_aload_n hx hb dX11_leastLocals_46 rfl (lv_at hl 0 rfl) ?_
          obtain ⟨hv29, h⟩ := h
          have hT_b28 : qT U20 (qO U20 25 15) = 47 := hR.w.ref hv29 (hR.w.2.1 _ finC_28).2.1
          refine va_get (D := rD g) (ci := 10) (v := .ref (ad (qO U20 25 15))) (C := RX11) (T := TX11) (N := 18) hx hb hts inX11 hown hR.K hR.P 25 (hR.at50 (hR.w.2.1 _ finC_28).2.1) rfl 15 (by decide) (hts _ kw_84) (fun _ h9 => h9) (congrArg (fun z => some (vf ad z)) hv29) dX11_leastLocals_47 ?_
          refine lv_iload_n hx hb dX11_leastLocals_50 rfl (lv_at hl 2 rfl) ?_
          obtain ⟨hv30, h⟩ := h
          have hFc := cfree hR hA
          refine va_calli (va_runV (As := [.int v20_2]) (rest := [.int v20_1]) ⟨hx, hb, hml, hown, hts⟩ (rX8_localOf l g ad H.size U20 (qO U20 25 15) v20_2 hR.w hT_b28 hv30) (cwV 1 hts (gd_V kw_191 kw_1509 kw_1510 kw_782 kw_1508) rfl rfl rfl (by decide +kernel) ⟨Nat.le_of_ble_eq_true rfl, Nat.le_of_ble_eq_true rfl⟩) ⟨cblind, va_recv hR.K hR.P (ci := 7) (q0 := (qO U20 25 15)) rfl (hR.at47 hT_b28), fun U hU hW9 => cmk hU hW9 hR hex hE hFc⟩ rfl rfl hl.1 rfl (lv_room (Nat.le_of_ble_eq_true rfl)) dX11_leastLocals_51 ⟨Nat.le_of_ble_eq_true rfl, Nat.le_of_ble_eq_true rfl⟩) hR.sS (fun q _ h => hFc q h) hFc (fun r31 u9 t9 H1 locs ht9 hvm9 hw9 hB9 hz9 hk9 hS => ?_)
          have hR : RepC g ad A s U20 H1 locs := hR.call ht9 hB9 hR.w hS hFc
          obtain rfl : r31 = (fX8_localOf U20 (qO U20 25 15) v20_2) := hw9
          clear hB9 hz9 hk9 hvm9 ht9 hS
          generalize H1 = H at hR ⊢
          obtain ⟨a33, ea33⟩ : ∃ z, z = (fX8_localOf U20 (qO U20 25 15) v20_2) := ⟨_, rfl⟩
          rw [← ea33]
          replace h := h a33 ea33
          refine lv_aload_n hx hb dX11_leastLocals_54 rfl (lv_at hl 0 rfl) ?_
          obtain ⟨hv35, h⟩ := h
          have hT_b34 : qT U20 (qO U20 25 15) = 47 := hR.w.ref hv35 (hR.w.2.1 _ finC_28).2.1
          refine va_get (D := rD g) (ci := 10) (v := .ref (ad (qO U20 25 15))) (C := RX11) (T := TX11) (N := 18) hx hb hts inX11 hown hR.K hR.P 25 (hR.at50 (hR.w.2.1 _ finC_28).2.1) rfl 15 (by decide) (hts _ kw_84) (fun _ h9 => h9) (congrArg (fun z => some (vf ad z)) hv35) dX11_leastLocals_55 ?_
          refine lv_iload_n hx hb dX11_leastLocals_58 rfl (lv_at hl 2 rfl) ?_
          obtain ⟨hv36, h⟩ := h
          have hFc := cfree hR hA
          refine va_calli (va_runV (As := [.int v20_2]) (rest := [.int a33, .int v20_1]) ⟨hx, hb, hml, hown, hts⟩ (rX8_opAt l g ad H.size U20 (qO U20 25 15) v20_2 hR.w hT_b34 hv36) (cwV 1 hts (gd_V kw_189 kw_1513 kw_1514 kw_782 kw_1512) rfl rfl rfl (by decide +kernel) ⟨Nat.le_of_ble_eq_true rfl, Nat.le_of_ble_eq_true rfl⟩) ⟨cblind, va_recv hR.K hR.P (ci := 7) (q0 := (qO U20 25 15)) rfl (hR.at47 hT_b34), fun U hU hW9 => cmk hU hW9 hR hex hE hFc⟩ rfl rfl hl.1 rfl (lv_room (Nat.le_of_ble_eq_true rfl)) dX11_leastLocals_59 ⟨Nat.le_of_ble_eq_true rfl, Nat.le_of_ble_eq_true rfl⟩) hR.sS (fun q _ h => hFc q h) hFc (fun r37 u9 t9 H1 locs ht9 hvm9 hw9 hB9 hz9 hk9 hS => ?_)
          have hR : RepC g ad A s U20 H1 locs := hR.call ht9 hB9 hR.w hS hFc
          obtain rfl : r37 = (fX8_opAt U20 (qO U20 25 15) v20_2) := hw9
          clear hB9 hz9 hk9 hvm9 ht9 hS
          generalize H1 = H at hR ⊢
          obtain ⟨a39, ea39⟩ : ∃ z, z = (fX8_opAt U20 (qO U20 25 15) v20_2) := ⟨_, rfl⟩
          rw [← ea39]
          replace h := h a39 ea39
          obtain ⟨hv40, h⟩ := h
          have hFc := cfree hR hA
          refine va_calli (va_runS (As := [.int a39]) (rest := [.int a33, .int v20_1]) ⟨hx, hb, hml, hown, hts⟩ (rX6_localWidth l g ad H.size U20 a39 hR.w  hv40) (va_cwS 1 hts (gd_S kw_192 kw_1247 kw_1207 kw_1246) rfl rfl rfl (by decide +kernel) ⟨Nat.le_of_ble_eq_true rfl, Nat.le_of_ble_eq_true rfl⟩) ⟨cblind, fun U hU hW9 => cmk hU hW9 hR hex hE hFc⟩ rfl rfl hl.1 rfl (lv_room (Nat.le_of_ble_eq_true rfl)) dX11_leastLocals_62 ⟨Nat.le_of_ble_eq_true rfl, Nat.le_of_ble_eq_true rfl⟩) hR.sS (fun q _ h => hFc q h) hFc (fun r41 u9 t9 H1 locs ht9 hvm9 hw9 hB9 hz9 hk9 hS => ?_)
          have hR : RepC g ad A s U20 H1 locs := hR.call ht9 hB9 hR.w hS hFc
          obtain rfl : r41 = (fX6_localWidth U20 a39) := hw9
          clear hB9 hz9 hk9 hvm9 ht9 hS
          generalize H1 = H at hR ⊢
          obtain ⟨a43, ea43⟩ : ∃ z, z = (fX6_localWidth U20 a39) := ⟨_, rfl⟩
          rw [← ea43]
          replace h := h a43 ea43
          refine lv_iadd hx hb dX11_leastLocals_65 ?_
          refine lv_topi (fun z44 ez44 => ?_)
          obtain rfl : z44 = (a33 + a43) := ez44
          refine va_mmax hx hb (by rw [hml]; exact hl.1.symm) hown (hts _ kw_193) (hts _ kw_1747) (hts _ kw_1748) (hts _ kw_1746) (Nat.le_of_ble_eq_true rfl) (Nat.le_of_ble_eq_true rfl) (Nat.le_of_ble_eq_true rfl) (Nat.le_of_ble_eq_true rfl) dX11_leastLocals_66 ?_
          refine lv_topi (fun z45 ez45 => ?_)
          obtain rfl : z45 = (if v20_1 < (a33 + a43) then (a33 + a43) else v20_1) := ez45
          obtain ⟨a46, ea46⟩ : ∃ z, z = (if v20_1 < (a33 + a43) then (a33 + a43) else v20_1) := ⟨_, rfl⟩
          rw [← ea46]
          replace h := h a46 ea46
          refine lv_istore_n (lv' := [(1, .int a46), (0, .ref (ad 25)), (2, .int v20_2)]) hx hb dX11_leastLocals_69 rfl hl (by decide) rfl (fun ls hl => ?_)
          exact J_70 U20 a46 v20_2 _ _ ls h  hsh hR (lv_sub hl [1, 0, 2] rfl)
  obtain ⟨n9, h⟩ := h
  exact J_20 n9 S11 r10 0 _ _ ls h  hsh hR (lv_sub hl [2, 1, 0] rfl)
def f_X11_offsetOf_J15 (S : MS) : Int32 := (0 : Int32)
def d_X11_offsetOf_J15 (S : MS) : Prop := True
def fX11_offsetOf (S : MS) (x1 : Int32) : Int32 := (if x1.toInt < 0 then f_X11_offsetOf_J15 S else (if x1.toInt ≤ (qI S (qO S 25 15) 2).toInt then (qI S (qO S 25 17) x1.toInt.toNat) else f_X11_offsetOf_J15 S))
def d_X11_offsetOf (S : MS) (x1 : Int32) : Prop := (if x1.toInt < 0 then d_X11_offsetOf_J15 S else ((qR S 25 15 = some (qO S 25 15)) ∧ (if x1.toInt ≤ (qI S (qO S 25 15) 2).toInt then (((0 : Int) ≤ x1.toInt ∧ x1.toInt < (qN S (qO S 25 17) : Int)) ∧ True) else d_X11_offsetOf_J15 S)))
set_option maxHeartbeats 2000000 in
set_option maxRecDepth 100000 in
theorem rX11_offsetOf (l : Launch) (g : Gr) (ad : Nat → Nat) (sz : Nat) (S : MS) (x1 : Int32) (hw : wfC S) (hd : d_X11_offsetOf S x1) : Met l yX11_offsetOf (wt yX11_offsetOf cX11_offsetOf 2 (some .int)) ({ frames := 0, cells := 0, slots := 0, locals := 0 }) (va_Pc [.ref (ad 25), .int x1] (st_C g ad sz S)) (va_Qi (fun (r : Int32) (_ : Unit) => r = fX11_offsetOf S x1) (fun (_ : Unit) (t : State) => qEC g ad (va_A (WdC g ad S) sz) S t) (va_A (WdC g ad S) sz)) 0 0 (va_A (WdC g ad S) sz) := by
  refine Met.ofW (cc := cX11_offsetOf) (maxL := 2) (ret := (some .int)) (by decide) rfl ?_
  intro p e s m args below meth c s₁ B hml hv
  obtain ⟨rfl, hsz, hP, hK, hD0, hex, hE⟩ := hv
  have hx := B.exec
  have hb := B.bytes
  have hr := B.returns
  have hts0 := atoms_spec (ws := wt yX11_offsetOf cX11_offsetOf 2 (some .int)) B.pre
  have hts : ∀ w ∈ tb, w.before _ s = true := fun w h => hts0 w (List.mem_cons_of_mem _ h)
  have hown : s.vm.findClass RX11 = some m.cls := findClass_of_methodNamed B.named
  subst hsz
  have hD := hD0.self (sz := s.heap.size)
  generalize hAe : va_A (WdC g ad S) s.heap.size = A at hD hE ⊢
  have hA : ∀ q : Nat, s.heap.size ≤ q → A q := fun q h => by rw [← hAe]; exact Or.inr h
  have hR : RepC g ad A s S s.heap [] := ⟨hK, hP, hD, va_S.rf, hw⟩
  clear hK hP hD hD0
  have hl := lv_entry ([.ref (ad 25), .int x1]) (n := 2) (Nat.le_of_ble_eq_true rfl)
  rw [lg_entry_eq]
  generalize (lg_sl ([.ref (ad 25), .int x1]) ++ List.replicate (2 - (lg_sl ([.ref (ad 25), .int x1])).length) Slot.unset).toArray = ls at hl ⊢
  have hl : lv_has ls 2 [(0, .ref (ad 25)), (1, .int x1)] := hl
  obtain ⟨r0, hf⟩ : ∃ r0, fX11_offsetOf S x1 = r0 := ⟨_, rfl⟩
  have hf0 := hf
  unfold fX11_offsetOf at hf
  unfold d_X11_offsetOf at hd
  refine lv_iload_n hx hb dX11_offsetOf_0 rfl (lv_at hl 1 rfl) ?_
  have J_15 : ∀ (H : Heap) (locs : List Loc) (ls : Array Slot), d_X11_offsetOf_J15 S → f_X11_offsetOf_J15 S = r0 → RepC g ad A s S H locs → lv_has ls 2 [] → W p l e (headSpec (wt yX11_offsetOf cX11_offsetOf 2 (some .int)) ({ frames := 0, cells := 0, slots := 0, locals := 0 })).room s m ([.ref (ad 25), .int x1] : List Value).toArray below meth c H locs 0 0 (MQ below (va_Qi (fun (r : Int32) (_ : Unit) => r = fX11_offsetOf S x1) (fun (_ : Unit) (t : State) => qEC g ad A S t) A) ([.ref (ad 25), .int x1] : List Value).toArray s 0 0 A) (F0 m 15 ls []) := by
    intro H locs ls hd hf hR hl
    unfold d_X11_offsetOf_J15 at hd
    unfold f_X11_offsetOf_J15 at hf
    refine lv_iconst (v := 0) hx hb dX11_offsetOf_15 (by decide) ?_
    refine lv_goto (tgt := 25) hx hb dX11_offsetOf_16 (by decide) ?_
    exact W.iret (v := 0) hx hb hr (fun t9 ht9 hW9 => ⟨⟨_, (), rfl, hf.trans hf0.symm, ⟨by rw [ht9]; exact hR.P, hR.D⟩⟩, hR.sS.F ht9⟩) hR.sS.2.2 dX11_offsetOf_25
  refine lv_if_lt (tgt := 15) hx hb dX11_offsetOf_1 (by decide) (fun c1 => ?_) (fun c1 => ?_)
  · rw [if_pos (k_lt rfl (by decide) c1)] at hf
    (try rw [if_pos (k_lt rfl (by decide) c1)] at hd)
    exact J_15 _ _ ls hd hf  hR (lv_sub hl [] rfl)
  · rw [if_neg (k_nlt rfl (by decide) c1)] at hf
    (try rw [if_neg (k_nlt rfl (by decide) c1)] at hd)
    refine lv_iload_n hx hb dX11_offsetOf_4 rfl (lv_at hl 1 rfl) ?_
    refine lv_aload_n hx hb dX11_offsetOf_5 rfl (lv_at hl 0 rfl) ?_
    obtain ⟨hv3, hd⟩ := hd
    have hT_b2 : qT S (qO S 25 15) = 47 := hR.w.ref hv3 (hR.w.2.1 _ finC_28).2.1
    refine va_get (D := rD g) (ci := 10) (v := .ref (ad (qO S 25 15))) (C := RX11) (T := TX11) (N := 18) hx hb hts inX11 hown hR.K hR.P 25 (hR.at50 (hR.w.2.1 _ finC_28).2.1) rfl 15 (by decide) (hts _ kw_84) (fun _ h9 => h9) (congrArg (fun z => some (vf ad z)) hv3) dX11_offsetOf_6 ?_
    refine va_get (D := rD g) (ci := 7) (v := .int (qI S (qO S 25 15) 2)) (C := RX8) (T := TX8) (N := 15) hx hb hts inX8 hown hR.K hR.P (qO S 25 15) (hR.at47 hT_b2) rfl 2 (by decide) (hts _ kw_102) (fun _ h9 => h9) rfl dX11_offsetOf_9 ?_
    refine lv_icmp_le (tgt := 19) hx hb dX11_offsetOf_12 (by decide) (fun c4 => ?_) (fun c4 => ?_)
    · rw [if_pos (k_le rfl rfl c4)] at hf
      (try rw [if_pos (k_le rfl rfl c4)] at hd)
      refine lv_aload_n hx hb dX11_offsetOf_19 rfl (lv_at hl 0 rfl) ?_
      have hT_b5 : qT S (qO S 25 17) = 245 := hR.w.ref (hR.w.ptr ptrC_11) (hR.w.2.1 _ finC_28).2.1
      refine va_get (D := rD g) (ci := 10) (v := .ref (ad (qO S 25 17))) (C := RX11) (T := TX11) (N := 18) hx hb hts inX11 hown hR.K hR.P 25 (hR.at50 (hR.w.2.1 _ finC_28).2.1) rfl 17 (by decide) (hts _ kw_169) (fun _ h9 => h9) (congrArg (fun z => some (vf ad z)) (hR.w.ptr ptrC_11)) dX11_offsetOf_20 ?_
      refine lv_iload_n hx hb dX11_offsetOf_23 rfl (lv_at hl 1 rfl) ?_
      obtain ⟨hv6, hd⟩ := hd
      refine va_iald hx hb hR.K hR.P (qO S 25 17) 1 (hR.atI hT_b5 (by decide)) rfl (k_ix (x := x1) (a := x1.toInt) rfl hv6) dX11_offsetOf_24 ?_
      refine lv_topi (fun z7 ez7 => ?_)
      obtain rfl : z7 = (qI S (qO S 25 17) x1.toInt.toNat) := ez7
      exact W.iret (v := (qI S (qO S 25 17) x1.toInt.toNat)) hx hb hr (fun t9 ht9 hW9 => ⟨⟨_, (), rfl, hf.trans hf0.symm, ⟨by rw [ht9]; exact hR.P, hR.D⟩⟩, hR.sS.F ht9⟩) hR.sS.2.2 dX11_offsetOf_25
    · rw [if_neg (k_nle rfl rfl c4)] at hf
      (try rw [if_neg (k_nle rfl rfl c4)] at hd)
      exact J_15 _ _ ls hd hf  hR (lv_sub hl [] rfl)
def fX11_isByte (S : MS) (y0 : Int64) : Int32 := (if (lg_cmp y0 (((y0.toInt32).toInt8.toInt32).toInt64)).toInt = 0 then (1 : Int32) else (0 : Int32))
def d_X11_isByte (S : MS) (y0 : Int64) : Prop := True
set_option maxHeartbeats 2000000 in
set_option maxRecDepth 100000 in
theorem rX11_isByte (l : Launch) (g : Gr) (ad : Nat → Nat) (sz : Nat) (S : MS) (y0 : Int64) (hw : wfC S) (hd : d_X11_isByte S y0) : Met l yX11_isByte (wt yX11_isByte cX11_isByte 2 (some .boolean)) ({ frames := 0, cells := 0, slots := 0, locals := 0 }) (va_Pc [.long y0] (st_C g ad sz S)) (va_Qi (fun (r : Int32) (_ : Unit) => r = fX11_isByte S y0 ∧ (r = 0 ∨ r = 1)) (fun (_ : Unit) (t : State) => qEC g ad (va_A (WdC g ad S) sz) S t) (va_A (WdC g ad S) sz)) 0 0 (va_A (WdC g ad S) sz) := by
  refine Met.ofW (cc := cX11_isByte) (maxL := 2) (ret := (some .boolean)) (by decide) rfl ?_
  intro p e s m args below meth c s₁ B hml hv
  obtain ⟨rfl, hsz, hP, hK, hD0, hex, hE⟩ := hv
  have hx := B.exec
  have hb := B.bytes
  have hr := B.returns
  have hts0 := atoms_spec (ws := wt yX11_isByte cX11_isByte 2 (some .boolean)) B.pre
  have hts : ∀ w ∈ tb, w.before _ s = true := fun w h => hts0 w (List.mem_cons_of_mem _ h)
  have hown : s.vm.findClass RX11 = some m.cls := findClass_of_methodNamed B.named
  subst hsz
  have hD := hD0.self (sz := s.heap.size)
  generalize hAe : va_A (WdC g ad S) s.heap.size = A at hD hE ⊢
  have hA : ∀ q : Nat, s.heap.size ≤ q → A q := fun q h => by rw [← hAe]; exact Or.inr h
  have hR : RepC g ad A s S s.heap [] := ⟨hK, hP, hD, va_S.rf, hw⟩
  clear hK hP hD hD0
  have hl := lv_entry ([.long y0]) (n := 2) (Nat.le_of_ble_eq_true rfl)
  rw [lg_entry_eq]
  generalize (lg_sl ([.long y0]) ++ List.replicate (2 - (lg_sl ([.long y0])).length) Slot.unset).toArray = ls at hl ⊢
  have hl : lv_has ls 2 [(0, .long y0)] := hl
  obtain ⟨r0, hf⟩ : ∃ r0, fX11_isByte S y0 = r0 := ⟨_, rfl⟩
  have hf0 := hf
  unfold fX11_isByte at hf
  unfold d_X11_isByte at hd
  refine lv_lload_n hx hb dX11_isByte_0 rfl (lv_at hl 0 rfl) ?_
  refine lv_lload_n hx hb dX11_isByte_1 rfl (lv_at hl 0 rfl) ?_
  refine lv_l2i (v := (y0.toInt32)) hx hb dX11_isByte_2 rfl ?_
  refine lv_i2b (v := ((y0.toInt32).toInt8.toInt32)) hx hb dX11_isByte_3 rfl ?_
  refine lv_i2l (v := (((y0.toInt32).toInt8.toInt32).toInt64)) hx hb dX11_isByte_4 rfl ?_
  refine W.lcmp hx hb dX11_isByte_5 ?_
  refine lv_topi (fun z1 ez1 => ?_)
  obtain rfl : z1 = (lg_cmp y0 (((y0.toInt32).toInt8.toInt32).toInt64)) := ez1
  refine lv_if_ne (tgt := 13) hx hb dX11_isByte_6 (by decide) (fun c2 => ?_) (fun c2 => ?_)
  · rw [if_neg (k_ne rfl (by decide) c2)] at hf
    (try rw [if_neg (k_ne rfl (by decide) c2)] at hd)
    refine lv_iconst (v := 0) hx hb dX11_isByte_13 (by decide) ?_
    exact W.zret (v := 0) hx hb hr (nz (Or.inl rfl)) (fun t9 ht9 hW9 => ⟨⟨_, (), rfl, ⟨hf.trans hf0.symm, (Or.inl rfl)⟩, ⟨by rw [ht9]; exact hR.P, hR.D⟩⟩, hR.sS.F ht9⟩) hR.sS.2.2 dX11_isByte_14
  · rw [if_pos (k_eq rfl (by decide) c2)] at hf
    (try rw [if_pos (k_eq rfl (by decide) c2)] at hd)
    refine lv_iconst (v := 1) hx hb dX11_isByte_9 (by decide) ?_
    refine lv_goto (tgt := 14) hx hb dX11_isByte_10 (by decide) ?_
    exact W.zret (v := 1) hx hb hr (nz (Or.inr rfl)) (fun t9 ht9 hW9 => ⟨⟨_, (), rfl, ⟨hf.trans hf0.symm, (Or.inr rfl)⟩, ⟨by rw [ht9]; exact hR.P, hR.D⟩⟩, hR.sS.F ht9⟩) hR.sS.2.2 dX11_isByte_14
def f_X11_lengthOfPush_J43 (S : MS) : Int32 := (3 : Int32)
def d_X11_lengthOfPush_J43 (S : MS) : Prop := True
def f_X11_lengthOfPush_J18 (S : MS) (v18_0 : Int64) (v18_2 : Int32) : Int32 := (if (fX11_isByte S v18_0).toInt = 0 then (if (lg_cmp v18_0 (((v18_0.toInt32).toInt16.toInt32).toInt64)).toInt = 0 then f_X11_lengthOfPush_J43 S else (if v18_2.toInt ≤ 255 then (2 : Int32) else f_X11_lengthOfPush_J43 S)) else (2 : Int32))
def d_X11_lengthOfPush_J18 (S : MS) (v18_0 : Int64) (v18_2 : Int32) : Prop := (d_X11_isByte S v18_0 ∧ (if (fX11_isByte S v18_0).toInt = 0 then (if (lg_cmp v18_0 (((v18_0.toInt32).toInt16.toInt32).toInt64)).toInt = 0 then d_X11_lengthOfPush_J43 S else (if v18_2.toInt ≤ 255 then True else d_X11_lengthOfPush_J43 S)) else True))
def fX11_lengthOfPush (S : MS) (y0 : Int64) (x2 : Int32) : Int32 := (if (lg_cmp y0 (-1 : Int64)).toInt < 0 then f_X11_lengthOfPush_J18 S y0 x2 else (if 0 < (lg_cmp y0 (5 : Int64)).toInt then f_X11_lengthOfPush_J18 S y0 x2 else (1 : Int32)))
def d_X11_lengthOfPush (S : MS) (y0 : Int64) (x2 : Int32) : Prop := (if (lg_cmp y0 (-1 : Int64)).toInt < 0 then d_X11_lengthOfPush_J18 S y0 x2 else (if 0 < (lg_cmp y0 (5 : Int64)).toInt then d_X11_lengthOfPush_J18 S y0 x2 else True))
set_option maxHeartbeats 2000000 in
set_option maxRecDepth 100000 in
theorem rX11_lengthOfPush (l : Launch) (g : Gr) (ad : Nat → Nat) (sz : Nat) (S : MS) (y0 : Int64) (x2 : Int32) (hw : wfC S) (hd : d_X11_lengthOfPush S y0 x2) : Met l yX11_lengthOfPush (wt yX11_lengthOfPush cX11_lengthOfPush 3 (some .int)) ({ frames := 1, cells := 0, slots := 0, locals := 21 }) (va_Pc [.long y0, .int x2] (st_C g ad sz S)) (va_Qi (fun (r : Int32) (_ : Unit) => r = fX11_lengthOfPush S y0 x2) (fun (_ : Unit) (t : State) => qEC g ad (va_A (WdC g ad S) sz) S t) (va_A (WdC g ad S) sz)) 0 0 (va_A (WdC g ad S) sz) := by
  refine Met.ofW (cc := cX11_lengthOfPush) (maxL := 3) (ret := (some .int)) (by decide) rfl ?_
  intro p e s m args below meth c s₁ B hml hv
  obtain ⟨rfl, hsz, hP, hK, hD0, hex, hE⟩ := hv
  have hx := B.exec
  have hb := B.bytes
  have hr := B.returns
  have hts0 := atoms_spec (ws := wt yX11_lengthOfPush cX11_lengthOfPush 3 (some .int)) B.pre
  have hts : ∀ w ∈ tb, w.before _ s = true := fun w h => hts0 w (List.mem_cons_of_mem _ h)
  have hown : s.vm.findClass RX11 = some m.cls := findClass_of_methodNamed B.named
  subst hsz
  have hD := hD0.self (sz := s.heap.size)
  generalize hAe : va_A (WdC g ad S) s.heap.size = A at hD hE ⊢
  have hA : ∀ q : Nat, s.heap.size ≤ q → A q := fun q h => by rw [← hAe]; exact Or.inr h
  have hR : RepC g ad A s S s.heap [] := ⟨hK, hP, hD, va_S.rf, hw⟩
  clear hK hP hD hD0
  have hl := lv_entry ([.long y0, .int x2]) (n := 3) (Nat.le_of_ble_eq_true rfl)
  rw [lg_entry_eq]
  generalize (lg_sl ([.long y0, .int x2]) ++ List.replicate (3 - (lg_sl ([.long y0, .int x2])).length) Slot.unset).toArray = ls at hl ⊢
  have hl : lv_has ls 3 [(0, .long y0), (2, .int x2)] := hl
  obtain ⟨r0, hf⟩ : ∃ r0, fX11_lengthOfPush S y0 x2 = r0 := ⟨_, rfl⟩
  have hf0 := hf
  unfold fX11_lengthOfPush at hf
  unfold d_X11_lengthOfPush at hd
  refine lv_lload_n hx hb dX11_lengthOfPush_0 rfl (lv_at hl 0 rfl) ?_
  refine lv_ldc2 hx hb hown (hts _ kw_208) dX11_lengthOfPush_1 ?_
  refine W.lcmp hx hb dX11_lengthOfPush_4 ?_
  refine lv_topi (fun z1 ez1 => ?_)
  obtain rfl : z1 = (lg_cmp y0 (-1 : Int64)) := ez1
  have J_18 : ∀ (v18_0 : Int64) (v18_2 : Int32) (H : Heap) (locs : List Loc) (ls : Array Slot), d_X11_lengthOfPush_J18 S v18_0 v18_2 → f_X11_lengthOfPush_J18 S v18_0 v18_2 = r0 → RepC g ad A s S H locs → lv_has ls 3 [(0, .long v18_0), (2, .int v18_2)] → W p l e (headSpec (wt yX11_lengthOfPush cX11_lengthOfPush 3 (some .int)) ({ frames := 1, cells := 0, slots := 0, locals := 21 })).room s m ([.long y0, .int x2] : List Value).toArray below meth c H locs 0 0 (MQ below (va_Qi (fun (r : Int32) (_ : Unit) => r = fX11_lengthOfPush S y0 x2) (fun (_ : Unit) (t : State) => qEC g ad A S t) A) ([.long y0, .int x2] : List Value).toArray s 0 0 A) (F0 m 18 ls []) := by
    intro v18_0 v18_2 H locs ls hd hf hR hl
    unfold d_X11_lengthOfPush_J18 at hd
    unfold f_X11_lengthOfPush_J18 at hf
    refine lv_lload_n hx hb dX11_lengthOfPush_18 rfl (lv_at hl 0 rfl) ?_
    obtain ⟨hv2, hd⟩ := hd
    have hFc := cfree hR hA
    refine va_calli (va_runS (As := [.long v18_0]) (rest := []) ⟨hx, hb, hml, hown, hts⟩ (rX11_isByte l g ad H.size S v18_0 hR.w  hv2) (va_cwS 1 hts (gd_S kw_204 kw_174 kw_83 kw_173) rfl rfl rfl (by decide +kernel) ⟨Nat.le_of_ble_eq_true rfl, Nat.le_of_ble_eq_true rfl⟩) ⟨cblind, fun U hU hW9 => cmk hU hW9 hR hex hE hFc⟩ rfl rfl hl.1 rfl (lv_room (Nat.le_of_ble_eq_true rfl)) dX11_lengthOfPush_19 ⟨Nat.le_of_ble_eq_true rfl, Nat.le_of_ble_eq_true rfl⟩) hR.sS (fun q _ h => hFc q h) hFc (fun r3 u9 t9 H1 locs ht9 hvm9 hw9 hB9 hz9 hk9 hS => ?_)
    have hR : RepC g ad A s S H1 locs := hR.call ht9 hB9 hR.w hS hFc
    obtain ⟨rfl, hz_r3⟩ := hw9
    clear hB9 hz9 hk9 hvm9 ht9 hS
    generalize H1 = H at hR ⊢
    refine lv_if_eq (tgt := 27) hx hb dX11_lengthOfPush_22 (by decide) (fun c5 => ?_) (fun c5 => ?_)
    · rw [if_pos (k_eq rfl (by decide) c5)] at hf
      (try rw [if_pos (k_eq rfl (by decide) c5)] at hd)
      refine lv_lload_n hx hb dX11_lengthOfPush_27 rfl (lv_at hl 0 rfl) ?_
      refine lv_lload_n hx hb dX11_lengthOfPush_28 rfl (lv_at hl 0 rfl) ?_
      refine lv_l2i (v := (v18_0.toInt32)) hx hb dX11_lengthOfPush_29 rfl ?_
      refine lv_i2s (v := ((v18_0.toInt32).toInt16.toInt32)) hx hb dX11_lengthOfPush_30 rfl ?_
      refine lv_i2l (v := (((v18_0.toInt32).toInt16.toInt32).toInt64)) hx hb dX11_lengthOfPush_31 rfl ?_
      refine W.lcmp hx hb dX11_lengthOfPush_32 ?_
      refine lv_topi (fun z6 ez6 => ?_)
      obtain rfl : z6 = (lg_cmp v18_0 (((v18_0.toInt32).toInt16.toInt32).toInt64)) := ez6
      have J_43 : ∀ (H : Heap) (locs : List Loc) (ls : Array Slot), d_X11_lengthOfPush_J43 S → f_X11_lengthOfPush_J43 S = r0 → RepC g ad A s S H locs → lv_has ls 3 [] → W p l e (headSpec (wt yX11_lengthOfPush cX11_lengthOfPush 3 (some .int)) ({ frames := 1, cells := 0, slots := 0, locals := 21 })).room s m ([.long y0, .int x2] : List Value).toArray below meth c H locs 0 0 (MQ below (va_Qi (fun (r : Int32) (_ : Unit) => r = fX11_lengthOfPush S y0 x2) (fun (_ : Unit) (t : State) => qEC g ad A S t) A) ([.long y0, .int x2] : List Value).toArray s 0 0 A) (F0 m 43 ls []) := by
        intro H locs ls hd hf hR hl
        unfold d_X11_lengthOfPush_J43 at hd
        unfold f_X11_lengthOfPush_J43 at hf
        refine lv_iconst (v := 3) hx hb dX11_lengthOfPush_43 (by decide) ?_
        refine lv_goto (tgt := 48) hx hb dX11_lengthOfPush_44 (by decide) ?_
        exact W.iret (v := 3) hx hb hr (fun t9 ht9 hW9 => ⟨⟨_, (), rfl, hf.trans hf0.symm, ⟨by rw [ht9]; exact hR.P, hR.D⟩⟩, hR.sS.F ht9⟩) hR.sS.2.2 dX11_lengthOfPush_48
      refine lv_if_eq (tgt := 43) hx hb dX11_lengthOfPush_33 (by decide) (fun c7 => ?_) (fun c7 => ?_)
      · rw [if_pos (k_eq rfl (by decide) c7)] at hf
        (try rw [if_pos (k_eq rfl (by decide) c7)] at hd)
        exact J_43 _ _ ls hd hf  hR (lv_sub hl [] rfl)
      · rw [if_neg (k_ne rfl (by decide) c7)] at hf
        (try rw [if_neg (k_ne rfl (by decide) c7)] at hd)
        refine lv_iload_n hx hb dX11_lengthOfPush_36 rfl (lv_at hl 1 rfl) ?_
        refine lv_sipush (v := 255) hx hb dX11_lengthOfPush_37 (by decide) ?_
        refine lv_icmp_le (tgt := 47) hx hb dX11_lengthOfPush_40 (by decide) (fun c8 => ?_) (fun c8 => ?_)
        · rw [if_pos (k_le rfl (by decide) c8)] at hf
          (try rw [if_pos (k_le rfl (by decide) c8)] at hd)
          refine lv_iconst (v := 2) hx hb dX11_lengthOfPush_47 (by decide) ?_
          exact W.iret (v := 2) hx hb hr (fun t9 ht9 hW9 => ⟨⟨_, (), rfl, hf.trans hf0.symm, ⟨by rw [ht9]; exact hR.P, hR.D⟩⟩, hR.sS.F ht9⟩) hR.sS.2.2 dX11_lengthOfPush_48
        · rw [if_neg (k_nle rfl (by decide) c8)] at hf
          (try rw [if_neg (k_nle rfl (by decide) c8)] at hd)
          exact J_43 _ _ ls hd hf  hR (lv_sub hl [] rfl)
    · rw [if_neg (k_ne rfl (by decide) c5)] at hf
      (try rw [if_neg (k_ne rfl (by decide) c5)] at hd)
      refine lv_iconst (v := 2) hx hb dX11_lengthOfPush_25 (by decide) ?_
      exact W.iret (v := 2) hx hb hr (fun t9 ht9 hW9 => ⟨⟨_, (), rfl, hf.trans hf0.symm, ⟨by rw [ht9]; exact hR.P, hR.D⟩⟩, hR.sS.F ht9⟩) hR.sS.2.2 dX11_lengthOfPush_26
  refine lv_if_lt (tgt := 18) hx hb dX11_lengthOfPush_5 (by decide) (fun c9 => ?_) (fun c9 => ?_)
  · rw [if_pos (k_lt rfl (by decide) c9)] at hf
    (try rw [if_pos (k_lt rfl (by decide) c9)] at hd)
    exact J_18 y0 x2 _ _ ls hd hf  hR (lv_sub hl [0, 1] rfl)
  · rw [if_neg (k_nlt rfl (by decide) c9)] at hf
    (try rw [if_neg (k_nlt rfl (by decide) c9)] at hd)
    refine lv_lload_n hx hb dX11_lengthOfPush_8 rfl (lv_at hl 0 rfl) ?_
    refine lv_ldc2 hx hb hown (hts _ kw_209) dX11_lengthOfPush_9 ?_
    refine W.lcmp hx hb dX11_lengthOfPush_12 ?_
    refine lv_topi (fun z10 ez10 => ?_)
    obtain rfl : z10 = (lg_cmp y0 (5 : Int64)) := ez10
    refine lv_if_gt (tgt := 18) hx hb dX11_lengthOfPush_13 (by decide) (fun c11 => ?_) (fun c11 => ?_)
    · rw [if_pos (k_lt (by decide) rfl c11)] at hf
      (try rw [if_pos (k_lt (by decide) rfl c11)] at hd)
      exact J_18 y0 x2 _ _ ls hd hf  hR (lv_sub hl [0, 1] rfl)
    · rw [if_neg (k_nlt (by decide) rfl c11)] at hf
      (try rw [if_neg (k_nlt (by decide) rfl c11)] at hd)
      refine lv_iconst (v := 1) hx hb dX11_lengthOfPush_16 (by decide) ?_
      exact W.iret (v := 1) hx hb hr (fun t9 ht9 hW9 => ⟨⟨_, (), rfl, hf.trans hf0.symm, ⟨by rw [ht9]; exact hR.P, hR.D⟩⟩, hR.sS.F ht9⟩) hR.sS.2.2 dX11_lengthOfPush_17
def wX11_putLocal (S : MS) (x1 : Int32) (x2 : Int32) (Q : MS → Prop) : Prop := ((x2.toInt ≤ 3 → ((x1.toInt = 21 → (qT S 28 = 40 → (∃ Q3, wX0_put S 28 ((26 : Int32) + x2) Q3 ∧ ∀ S4, Q3 S4 → wfC S4 → shx S S4 → Q S4))) ∧ (¬ x1.toInt = 21 → ((x1.toInt = 22 → (qT S 28 = 40 → (∃ Q8, wX0_put S 28 ((30 : Int32) + x2) Q8 ∧ ∀ S9, Q8 S9 → wfC S9 → shx S S9 → Q S9))) ∧ (¬ x1.toInt = 22 → ((x1.toInt = 25 → (qT S 28 = 40 → (∃ Q13, wX0_put S 28 ((42 : Int32) + x2) Q13 ∧ ∀ S14, Q13 S14 → wfC S14 → shx S S14 → Q S14))) ∧ (¬ x1.toInt = 25 → ((x1.toInt = 54 → (qT S 28 = 40 → (∃ Q18, wX0_put S 28 ((59 : Int32) + x2) Q18 ∧ ∀ S19, Q18 S19 → wfC S19 → shx S S19 → Q S19))) ∧ (¬ x1.toInt = 54 → ((x1.toInt = 55 → (qT S 28 = 40 → (∃ Q23, wX0_put S 28 ((63 : Int32) + x2) Q23 ∧ ∀ S24, Q23 S24 → wfC S24 → shx S S24 → Q S24))) ∧ (¬ x1.toInt = 55 → (qT S 28 = 40 → (∃ Q28, wX0_put S 28 ((75 : Int32) + x2) Q28 ∧ ∀ S29, Q28 S29 → wfC S29 → shx S S29 → Q S29))))))))))))) ∧ (¬ x2.toInt ≤ 3 → (qT S 28 = 40 → (∃ Q32, wX0_put S 28 x1 Q32 ∧ ∀ S33, Q32 S33 → wfC S33 → shx S S33 → (qT S33 28 = 40 → (∃ Q36, wX0_put S33 28 x2 Q36 ∧ ∀ S37, Q36 S37 → wfC S37 → shx S33 S37 → Q S37))))))
set_option maxHeartbeats 2000000 in
set_option maxRecDepth 100000 in
theorem rX11_putLocal (l : Launch) (g : Gr) (ad : Nat → Nat) (H0 : Heap) (S : MS) (x1 : Int32) (x2 : Int32) (hw : wfC S) (Q : MS → Prop) (h : wX11_putLocal S x1 x2 Q) : Met l yX11_putLocal (wt yX11_putLocal cX11_putLocal 3 none) ({ frames := 3, cells := KCC - qn S, slots := KSC - qu S, locals := 83 }) (va_Pc [.ref (ad 25), .int x1, .int x2] (st_CH g ad H0 S)) (va_Qv (fun (u : MS × (Nat → Nat)) => Q u.1 ∧ wfC u.1 ∧ shx S u.1 ∧ adk ad u.2 S) (fun (u : MS × (Nat → Nat)) (t : State) => qEHC g (va_A (WdC g ad S) H0.size) S H0 u t) (va_A (WdC g ad S) H0.size)) (KCC - qn S) (KSC - qu S) (va_A (WdC g ad S) H0.size) := by
  refine Met.ofW (cc := cX11_putLocal) (maxL := 3) (ret := none) (by decide) rfl ?_
  intro p e s m args below meth c s₁ B hml hv
  obtain ⟨rfl, hH0, hsz, hP, hK, hD0, hex, hE⟩ := hv
  have hx := B.exec
  have hb := B.bytes
  have hr := B.returns
  have hts0 := atoms_spec (ws := wt yX11_putLocal cX11_putLocal 3 none) B.pre
  have hts : ∀ w ∈ tb, w.before _ s = true := fun w h => hts0 w (List.mem_cons_of_mem _ h)
  have hown : s.vm.findClass RX11 = some m.cls := findClass_of_methodNamed B.named
  subst hH0
  have hD := hD0.self (sz := s.heap.size)
  generalize hAe : va_A (WdC g ad S) s.heap.size = A at hD hE ⊢
  have hA : ∀ q : Nat, s.heap.size ≤ q → A q := fun q h => by rw [← hAe]; exact Or.inr h
  have hR : RepC g ad A s S s.heap [] := ⟨hK, hP, hD, va_S.rf, hw⟩
  clear hK hP hD hD0
  have hl := lv_entry ([.ref (ad 25), .int x1, .int x2]) (n := 3) (Nat.le_of_ble_eq_true rfl)
  rw [lg_entry_eq]
  generalize (lg_sl ([.ref (ad 25), .int x1, .int x2]) ++ List.replicate (3 - (lg_sl ([.ref (ad 25), .int x1, .int x2])).length) Slot.unset).toArray = ls at hl ⊢
  have hlg : lgC S S 0 0 := lgC.rf
  have hak : adk ad ad S := adk.rf
  have hl : lv_has ls 3 [(0, .ref (ad 25)), (1, .int x1), (2, .int x2)] := hl
  have hsh : shx S S := shx.rf
  unfold wX11_putLocal at h
  refine lv_iload_n hx hb dX11_putLocal_0 rfl (lv_at hl 2 rfl) ?_
  refine lv_iconst (v := 3) hx hb dX11_putLocal_1 (by decide) ?_
  refine lv_icmp_le (tgt := 22) hx hb dX11_putLocal_2 (by decide) (fun c1 => ?_) (fun c1 => ?_)
  · replace h := h.1 (k_le rfl (by decide) c1)
    refine lv_iload_n hx hb dX11_putLocal_22 rfl (lv_at hl 1 rfl) ?_
    by_cases c9_21 : x1.toInt = 21
    · refine lv_lookup (off := 49) (tgt := 72) hx hb dX11_putLocal_23 (by decide) (by rw [c9_21]; decide) (by decide) ?_
      replace h := h.1 (c9_21)
      refine lv_aload_n hx hb dX11_putLocal_72 rfl (lv_at hl 0 rfl) ?_
      refine va_get (D := rD g) (ci := 10) (v := .ref (ad 28)) (C := RX11) (T := TX11) (N := 18) hx hb hts inX11 hown hR.K hR.P 25 (hR.at50 (hR.w.2.1 _ finC_28).2.1) rfl 1 (by decide) (hts _ kw_94) (fun _ h9 => h9) (congrArg (fun z => some (vf ad z)) (hR.w.2.1 _ finC_13).1) dX11_putLocal_73 ?_
      refine lv_bipush (v := 26) hx hb dX11_putLocal_76 (by decide) ?_
      refine lv_iload_n hx hb dX11_putLocal_78 rfl (lv_at hl 2 rfl) ?_
      refine lv_iadd hx hb dX11_putLocal_79 ?_
      refine lv_topi (fun z2 ez2 => ?_)
      obtain rfl : z2 = ((26 : Int32) + x2) := ez2
      replace h := h ((hR.w.2.1 _ finC_13).2.1)
      obtain ⟨Q3, h0, h⟩ := h
      have hFc := cfree hR hA
      refine W_led2 (fun hL0 => ?_)
      refine va_callv (va_runV (As := [.int ((26 : Int32) + x2)]) (rest := []) ⟨hx, hb, hml, hown, hts⟩ (rX0_put l g ad s.heap S 28 ((26 : Int32) + x2) hR.w (hR.w.2.1 _ finC_13).2.1 Q3 h0) (cwV 1 hts (gd_V kw_140 kw_13 kw_14 kw_3 kw_12) rfl rfl rfl (by decide +kernel) ⟨Nat.le_of_ble_eq_true rfl, Nat.le_of_ble_eq_true rfl⟩) ⟨cblindH, va_recv hR.K hR.P (ci := 0) (q0 := 28) rfl (hR.at40 (hR.w.2.1 _ finC_13).2.1), fun U hU hW9 => cmkH hU hW9 hR hex hE hFc⟩ rfl rfl hl.1 rfl (lv_room (Nat.le_of_ble_eq_true rfl)) dX11_putLocal_80 ⟨(show 0 + (KCC - qn S) ≤ KCC - qn S from hlg.cm), (show 0 + (KSC - qu S) ≤ KSC - qu S from hlg.sm)⟩) hR.sS (fun q _ h => hFc q h) hFc (fun  S4 t9 H1 locs ht9 hvm9 hw9 hB9 hz9 hk9 hS => ?_)
      rcases S4 with ⟨S4, ak6⟩
      obtain ⟨hB9, dc9, ds9, hL9, hl9⟩ := hB9
      dsimp only at hw9 hB9 hl9
      rw [ht9] at hL9
      obtain ⟨hq5, hw9, hs9, hk8⟩ := hw9
      have hw8 := hR.w
      have hak := hak.tr hk8 hlg.2.2.1
      have hE := hE.ad hk8
      have hR : RepC g ak6 A s S4 H1 locs := hR.callH ht9 hB9 hw9 hS hFc
      have hsh := hsh.tr hs9
      refine W_tight2 (hL0.tr hL9).1 (hL0.tr hL9).2.1 ?_
      have hlg := hlg.call hl9
      replace h := h  S4 hq5 hw9 hs9
      have ea_0 : ak6 25 = ad 25 := hk8 _ (hw8.hd (hw8.2.1 _ finC_28).2.1 (by decide) (by decide))
      have hl : lv_has ls 3 [(0, .ref (ak6 25)), (1, .int x1), (2, .int x2)] := by simp only [ea_0]; exact hl
      clear hB9 hz9 hk9 hvm9 ht9 hw9 hs9 hS hL0 hL9
      generalize H1 = H at hR ⊢
      generalize dc9 = dc_ak6, ds9 = ds_ak6 at hlg ⊢
      refine lv_goto (tgt := 153) hx hb dX11_putLocal_83 (by decide) ?_
      refine W_led2 (fun hLd => ?_)
      refine W.widen (k := KCC - qn S) (n := KSC - qu S) hlg.c hlg.s ?_
      exact W.vret hx hb hr (fun t9 ht9 hW9 => ⟨⟨(S4, ak6), rfl, ⟨h, hR.w, hsh, hak⟩, ⟨⟨by rw [ht9]; exact hR.P, hR.D⟩, _, _, by rw [ht9]; exact hLd, hlg⟩⟩, hR.sS.F ht9⟩) hR.sS.2.2 dX11_putLocal_153
    replace h := h.2 c9_21
    by_cases c9_22 : x1.toInt = 22
    · refine lv_lookup (off := 63) (tgt := 86) hx hb dX11_putLocal_23 (by decide) (by rw [c9_22]; decide) (by decide) ?_
      replace h := h.1 (c9_22)
      refine lv_aload_n hx hb dX11_putLocal_86 rfl (lv_at hl 0 rfl) ?_
      refine va_get (D := rD g) (ci := 10) (v := .ref (ad 28)) (C := RX11) (T := TX11) (N := 18) hx hb hts inX11 hown hR.K hR.P 25 (hR.at50 (hR.w.2.1 _ finC_28).2.1) rfl 1 (by decide) (hts _ kw_94) (fun _ h9 => h9) (congrArg (fun z => some (vf ad z)) (hR.w.2.1 _ finC_13).1) dX11_putLocal_87 ?_
      refine lv_bipush (v := 30) hx hb dX11_putLocal_90 (by decide) ?_
      refine lv_iload_n hx hb dX11_putLocal_92 rfl (lv_at hl 2 rfl) ?_
      refine lv_iadd hx hb dX11_putLocal_93 ?_
      refine lv_topi (fun z7 ez7 => ?_)
      obtain rfl : z7 = ((30 : Int32) + x2) := ez7
      replace h := h ((hR.w.2.1 _ finC_13).2.1)
      obtain ⟨Q8, h0, h⟩ := h
      have hFc := cfree hR hA
      refine W_led2 (fun hL0 => ?_)
      refine va_callv (va_runV (As := [.int ((30 : Int32) + x2)]) (rest := []) ⟨hx, hb, hml, hown, hts⟩ (rX0_put l g ad s.heap S 28 ((30 : Int32) + x2) hR.w (hR.w.2.1 _ finC_13).2.1 Q8 h0) (cwV 1 hts (gd_V kw_140 kw_13 kw_14 kw_3 kw_12) rfl rfl rfl (by decide +kernel) ⟨Nat.le_of_ble_eq_true rfl, Nat.le_of_ble_eq_true rfl⟩) ⟨cblindH, va_recv hR.K hR.P (ci := 0) (q0 := 28) rfl (hR.at40 (hR.w.2.1 _ finC_13).2.1), fun U hU hW9 => cmkH hU hW9 hR hex hE hFc⟩ rfl rfl hl.1 rfl (lv_room (Nat.le_of_ble_eq_true rfl)) dX11_putLocal_94 ⟨(show 0 + (KCC - qn S) ≤ KCC - qn S from hlg.cm), (show 0 + (KSC - qu S) ≤ KSC - qu S from hlg.sm)⟩) hR.sS (fun q _ h => hFc q h) hFc (fun  S9 t9 H1 locs ht9 hvm9 hw9 hB9 hz9 hk9 hS => ?_)
      rcases S9 with ⟨S9, ak11⟩
      obtain ⟨hB9, dc9, ds9, hL9, hl9⟩ := hB9
      dsimp only at hw9 hB9 hl9
      rw [ht9] at hL9
      obtain ⟨hq10, hw9, hs9, hk8⟩ := hw9
      have hw8 := hR.w
      have hak := hak.tr hk8 hlg.2.2.1
      have hE := hE.ad hk8
      have hR : RepC g ak11 A s S9 H1 locs := hR.callH ht9 hB9 hw9 hS hFc
      have hsh := hsh.tr hs9
      refine W_tight2 (hL0.tr hL9).1 (hL0.tr hL9).2.1 ?_
      have hlg := hlg.call hl9
      replace h := h  S9 hq10 hw9 hs9
      have ea_0 : ak11 25 = ad 25 := hk8 _ (hw8.hd (hw8.2.1 _ finC_28).2.1 (by decide) (by decide))
      have hl : lv_has ls 3 [(0, .ref (ak11 25)), (1, .int x1), (2, .int x2)] := by simp only [ea_0]; exact hl
      clear hB9 hz9 hk9 hvm9 ht9 hw9 hs9 hS hL0 hL9
      generalize H1 = H at hR ⊢
      generalize dc9 = dc_ak11, ds9 = ds_ak11 at hlg ⊢
      refine lv_goto (tgt := 153) hx hb dX11_putLocal_97 (by decide) ?_
      refine W_led2 (fun hLd => ?_)
      refine W.widen (k := KCC - qn S) (n := KSC - qu S) hlg.c hlg.s ?_
      exact W.vret hx hb hr (fun t9 ht9 hW9 => ⟨⟨(S9, ak11), rfl, ⟨h, hR.w, hsh, hak⟩, ⟨⟨by rw [ht9]; exact hR.P, hR.D⟩, _, _, by rw [ht9]; exact hLd, hlg⟩⟩, hR.sS.F ht9⟩) hR.sS.2.2 dX11_putLocal_153
    replace h := h.2 c9_22
    by_cases c9_25 : x1.toInt = 25
    · refine lv_lookup (off := 77) (tgt := 100) hx hb dX11_putLocal_23 (by decide) (by rw [c9_25]; decide) (by decide) ?_
      replace h := h.1 (c9_25)
      refine lv_aload_n hx hb dX11_putLocal_100 rfl (lv_at hl 0 rfl) ?_
      refine va_get (D := rD g) (ci := 10) (v := .ref (ad 28)) (C := RX11) (T := TX11) (N := 18) hx hb hts inX11 hown hR.K hR.P 25 (hR.at50 (hR.w.2.1 _ finC_28).2.1) rfl 1 (by decide) (hts _ kw_94) (fun _ h9 => h9) (congrArg (fun z => some (vf ad z)) (hR.w.2.1 _ finC_13).1) dX11_putLocal_101 ?_
      refine lv_bipush (v := 42) hx hb dX11_putLocal_104 (by decide) ?_
      refine lv_iload_n hx hb dX11_putLocal_106 rfl (lv_at hl 2 rfl) ?_
      refine lv_iadd hx hb dX11_putLocal_107 ?_
      refine lv_topi (fun z12 ez12 => ?_)
      obtain rfl : z12 = ((42 : Int32) + x2) := ez12
      replace h := h ((hR.w.2.1 _ finC_13).2.1)
      obtain ⟨Q13, h0, h⟩ := h
      have hFc := cfree hR hA
      refine W_led2 (fun hL0 => ?_)
      refine va_callv (va_runV (As := [.int ((42 : Int32) + x2)]) (rest := []) ⟨hx, hb, hml, hown, hts⟩ (rX0_put l g ad s.heap S 28 ((42 : Int32) + x2) hR.w (hR.w.2.1 _ finC_13).2.1 Q13 h0) (cwV 1 hts (gd_V kw_140 kw_13 kw_14 kw_3 kw_12) rfl rfl rfl (by decide +kernel) ⟨Nat.le_of_ble_eq_true rfl, Nat.le_of_ble_eq_true rfl⟩) ⟨cblindH, va_recv hR.K hR.P (ci := 0) (q0 := 28) rfl (hR.at40 (hR.w.2.1 _ finC_13).2.1), fun U hU hW9 => cmkH hU hW9 hR hex hE hFc⟩ rfl rfl hl.1 rfl (lv_room (Nat.le_of_ble_eq_true rfl)) dX11_putLocal_108 ⟨(show 0 + (KCC - qn S) ≤ KCC - qn S from hlg.cm), (show 0 + (KSC - qu S) ≤ KSC - qu S from hlg.sm)⟩) hR.sS (fun q _ h => hFc q h) hFc (fun  S14 t9 H1 locs ht9 hvm9 hw9 hB9 hz9 hk9 hS => ?_)
      rcases S14 with ⟨S14, ak16⟩
      obtain ⟨hB9, dc9, ds9, hL9, hl9⟩ := hB9
      dsimp only at hw9 hB9 hl9
      rw [ht9] at hL9
      obtain ⟨hq15, hw9, hs9, hk8⟩ := hw9
      have hw8 := hR.w
      have hak := hak.tr hk8 hlg.2.2.1
      have hE := hE.ad hk8
      have hR : RepC g ak16 A s S14 H1 locs := hR.callH ht9 hB9 hw9 hS hFc
      have hsh := hsh.tr hs9
      refine W_tight2 (hL0.tr hL9).1 (hL0.tr hL9).2.1 ?_
      have hlg := hlg.call hl9
      replace h := h  S14 hq15 hw9 hs9
      have ea_0 : ak16 25 = ad 25 := hk8 _ (hw8.hd (hw8.2.1 _ finC_28).2.1 (by decide) (by decide))
      have hl : lv_has ls 3 [(0, .ref (ak16 25)), (1, .int x1), (2, .int x2)] := by simp only [ea_0]; exact hl
      clear hB9 hz9 hk9 hvm9 ht9 hw9 hs9 hS hL0 hL9
      generalize H1 = H at hR ⊢
      generalize dc9 = dc_ak16, ds9 = ds_ak16 at hlg ⊢
      refine lv_goto (tgt := 153) hx hb dX11_putLocal_111 (by decide) ?_
      refine W_led2 (fun hLd => ?_)
      refine W.widen (k := KCC - qn S) (n := KSC - qu S) hlg.c hlg.s ?_
      exact W.vret hx hb hr (fun t9 ht9 hW9 => ⟨⟨(S14, ak16), rfl, ⟨h, hR.w, hsh, hak⟩, ⟨⟨by rw [ht9]; exact hR.P, hR.D⟩, _, _, by rw [ht9]; exact hLd, hlg⟩⟩, hR.sS.F ht9⟩) hR.sS.2.2 dX11_putLocal_153
    replace h := h.2 c9_25
    by_cases c9_54 : x1.toInt = 54
    · refine lv_lookup (off := 91) (tgt := 114) hx hb dX11_putLocal_23 (by decide) (by rw [c9_54]; decide) (by decide) ?_
      replace h := h.1 (c9_54)
      refine lv_aload_n hx hb dX11_putLocal_114 rfl (lv_at hl 0 rfl) ?_
      refine va_get (D := rD g) (ci := 10) (v := .ref (ad 28)) (C := RX11) (T := TX11) (N := 18) hx hb hts inX11 hown hR.K hR.P 25 (hR.at50 (hR.w.2.1 _ finC_28).2.1) rfl 1 (by decide) (hts _ kw_94) (fun _ h9 => h9) (congrArg (fun z => some (vf ad z)) (hR.w.2.1 _ finC_13).1) dX11_putLocal_115 ?_
      refine lv_bipush (v := 59) hx hb dX11_putLocal_118 (by decide) ?_
      refine lv_iload_n hx hb dX11_putLocal_120 rfl (lv_at hl 2 rfl) ?_
      refine lv_iadd hx hb dX11_putLocal_121 ?_
      refine lv_topi (fun z17 ez17 => ?_)
      obtain rfl : z17 = ((59 : Int32) + x2) := ez17
      replace h := h ((hR.w.2.1 _ finC_13).2.1)
      obtain ⟨Q18, h0, h⟩ := h
      have hFc := cfree hR hA
      refine W_led2 (fun hL0 => ?_)
      refine va_callv (va_runV (As := [.int ((59 : Int32) + x2)]) (rest := []) ⟨hx, hb, hml, hown, hts⟩ (rX0_put l g ad s.heap S 28 ((59 : Int32) + x2) hR.w (hR.w.2.1 _ finC_13).2.1 Q18 h0) (cwV 1 hts (gd_V kw_140 kw_13 kw_14 kw_3 kw_12) rfl rfl rfl (by decide +kernel) ⟨Nat.le_of_ble_eq_true rfl, Nat.le_of_ble_eq_true rfl⟩) ⟨cblindH, va_recv hR.K hR.P (ci := 0) (q0 := 28) rfl (hR.at40 (hR.w.2.1 _ finC_13).2.1), fun U hU hW9 => cmkH hU hW9 hR hex hE hFc⟩ rfl rfl hl.1 rfl (lv_room (Nat.le_of_ble_eq_true rfl)) dX11_putLocal_122 ⟨(show 0 + (KCC - qn S) ≤ KCC - qn S from hlg.cm), (show 0 + (KSC - qu S) ≤ KSC - qu S from hlg.sm)⟩) hR.sS (fun q _ h => hFc q h) hFc (fun  S19 t9 H1 locs ht9 hvm9 hw9 hB9 hz9 hk9 hS => ?_)
      rcases S19 with ⟨S19, ak21⟩
      obtain ⟨hB9, dc9, ds9, hL9, hl9⟩ := hB9
      dsimp only at hw9 hB9 hl9
      rw [ht9] at hL9
      obtain ⟨hq20, hw9, hs9, hk8⟩ := hw9
      have hw8 := hR.w
      have hak := hak.tr hk8 hlg.2.2.1
      have hE := hE.ad hk8
      have hR : RepC g ak21 A s S19 H1 locs := hR.callH ht9 hB9 hw9 hS hFc
      have hsh := hsh.tr hs9
      refine W_tight2 (hL0.tr hL9).1 (hL0.tr hL9).2.1 ?_
      have hlg := hlg.call hl9
      replace h := h  S19 hq20 hw9 hs9
      have ea_0 : ak21 25 = ad 25 := hk8 _ (hw8.hd (hw8.2.1 _ finC_28).2.1 (by decide) (by decide))
      have hl : lv_has ls 3 [(0, .ref (ak21 25)), (1, .int x1), (2, .int x2)] := by simp only [ea_0]; exact hl
      clear hB9 hz9 hk9 hvm9 ht9 hw9 hs9 hS hL0 hL9
      generalize H1 = H at hR ⊢
      generalize dc9 = dc_ak21, ds9 = ds_ak21 at hlg ⊢
      refine lv_goto (tgt := 153) hx hb dX11_putLocal_125 (by decide) ?_
      refine W_led2 (fun hLd => ?_)
      refine W.widen (k := KCC - qn S) (n := KSC - qu S) hlg.c hlg.s ?_
      exact W.vret hx hb hr (fun t9 ht9 hW9 => ⟨⟨(S19, ak21), rfl, ⟨h, hR.w, hsh, hak⟩, ⟨⟨by rw [ht9]; exact hR.P, hR.D⟩, _, _, by rw [ht9]; exact hLd, hlg⟩⟩, hR.sS.F ht9⟩) hR.sS.2.2 dX11_putLocal_153
    replace h := h.2 c9_54
    by_cases c9_55 : x1.toInt = 55
    · refine lv_lookup (off := 105) (tgt := 128) hx hb dX11_putLocal_23 (by decide) (by rw [c9_55]; decide) (by decide) ?_
      replace h := h.1 (c9_55)
      refine lv_aload_n hx hb dX11_putLocal_128 rfl (lv_at hl 0 rfl) ?_
      refine va_get (D := rD g) (ci := 10) (v := .ref (ad 28)) (C := RX11) (T := TX11) (N := 18) hx hb hts inX11 hown hR.K hR.P 25 (hR.at50 (hR.w.2.1 _ finC_28).2.1) rfl 1 (by decide) (hts _ kw_94) (fun _ h9 => h9) (congrArg (fun z => some (vf ad z)) (hR.w.2.1 _ finC_13).1) dX11_putLocal_129 ?_
      refine lv_bipush (v := 63) hx hb dX11_putLocal_132 (by decide) ?_
      refine lv_iload_n hx hb dX11_putLocal_134 rfl (lv_at hl 2 rfl) ?_
      refine lv_iadd hx hb dX11_putLocal_135 ?_
      refine lv_topi (fun z22 ez22 => ?_)
      obtain rfl : z22 = ((63 : Int32) + x2) := ez22
      replace h := h ((hR.w.2.1 _ finC_13).2.1)
      obtain ⟨Q23, h0, h⟩ := h
      have hFc := cfree hR hA
      refine W_led2 (fun hL0 => ?_)
      refine va_callv (va_runV (As := [.int ((63 : Int32) + x2)]) (rest := []) ⟨hx, hb, hml, hown, hts⟩ (rX0_put l g ad s.heap S 28 ((63 : Int32) + x2) hR.w (hR.w.2.1 _ finC_13).2.1 Q23 h0) (cwV 1 hts (gd_V kw_140 kw_13 kw_14 kw_3 kw_12) rfl rfl rfl (by decide +kernel) ⟨Nat.le_of_ble_eq_true rfl, Nat.le_of_ble_eq_true rfl⟩) ⟨cblindH, va_recv hR.K hR.P (ci := 0) (q0 := 28) rfl (hR.at40 (hR.w.2.1 _ finC_13).2.1), fun U hU hW9 => cmkH hU hW9 hR hex hE hFc⟩ rfl rfl hl.1 rfl (lv_room (Nat.le_of_ble_eq_true rfl)) dX11_putLocal_136 ⟨(show 0 + (KCC - qn S) ≤ KCC - qn S from hlg.cm), (show 0 + (KSC - qu S) ≤ KSC - qu S from hlg.sm)⟩) hR.sS (fun q _ h => hFc q h) hFc (fun  S24 t9 H1 locs ht9 hvm9 hw9 hB9 hz9 hk9 hS => ?_)
      rcases S24 with ⟨S24, ak26⟩
      obtain ⟨hB9, dc9, ds9, hL9, hl9⟩ := hB9
      dsimp only at hw9 hB9 hl9
      rw [ht9] at hL9
      obtain ⟨hq25, hw9, hs9, hk8⟩ := hw9
      have hw8 := hR.w
      have hak := hak.tr hk8 hlg.2.2.1
      have hE := hE.ad hk8
      have hR : RepC g ak26 A s S24 H1 locs := hR.callH ht9 hB9 hw9 hS hFc
      have hsh := hsh.tr hs9
      refine W_tight2 (hL0.tr hL9).1 (hL0.tr hL9).2.1 ?_
      have hlg := hlg.call hl9
      replace h := h  S24 hq25 hw9 hs9
      have ea_0 : ak26 25 = ad 25 := hk8 _ (hw8.hd (hw8.2.1 _ finC_28).2.1 (by decide) (by decide))
      have hl : lv_has ls 3 [(0, .ref (ak26 25)), (1, .int x1), (2, .int x2)] := by simp only [ea_0]; exact hl
      clear hB9 hz9 hk9 hvm9 ht9 hw9 hs9 hS hL0 hL9
      generalize H1 = H at hR ⊢
      generalize dc9 = dc_ak26, ds9 = ds_ak26 at hlg ⊢
      refine lv_goto (tgt := 153) hx hb dX11_putLocal_139 (by decide) ?_
      refine W_led2 (fun hLd => ?_)
      refine W.widen (k := KCC - qn S) (n := KSC - qu S) hlg.c hlg.s ?_
      exact W.vret hx hb hr (fun t9 ht9 hW9 => ⟨⟨(S24, ak26), rfl, ⟨h, hR.w, hsh, hak⟩, ⟨⟨by rw [ht9]; exact hR.P, hR.D⟩, _, _, by rw [ht9]; exact hLd, hlg⟩⟩, hR.sS.F ht9⟩) hR.sS.2.2 dX11_putLocal_153
    replace h := h.2 c9_55
    refine lv_lookup (off := 119) (tgt := 142) hx hb dX11_putLocal_23 (by decide) (lx_cons c9_21 (lx_cons c9_22 (lx_cons c9_25 (lx_cons c9_54 (lx_cons c9_55 lx_nil))))) (by decide) ?_
    refine lv_aload_n hx hb dX11_putLocal_142 rfl (lv_at hl 0 rfl) ?_
    refine va_get (D := rD g) (ci := 10) (v := .ref (ad 28)) (C := RX11) (T := TX11) (N := 18) hx hb hts inX11 hown hR.K hR.P 25 (hR.at50 (hR.w.2.1 _ finC_28).2.1) rfl 1 (by decide) (hts _ kw_94) (fun _ h9 => h9) (congrArg (fun z => some (vf ad z)) (hR.w.2.1 _ finC_13).1) dX11_putLocal_143 ?_
    refine lv_bipush (v := 75) hx hb dX11_putLocal_146 (by decide) ?_
    refine lv_iload_n hx hb dX11_putLocal_148 rfl (lv_at hl 2 rfl) ?_
    refine lv_iadd hx hb dX11_putLocal_149 ?_
    refine lv_topi (fun z27 ez27 => ?_)
    obtain rfl : z27 = ((75 : Int32) + x2) := ez27
    replace h := h ((hR.w.2.1 _ finC_13).2.1)
    obtain ⟨Q28, h0, h⟩ := h
    have hFc := cfree hR hA
    refine W_led2 (fun hL0 => ?_)
    refine va_callv (va_runV (As := [.int ((75 : Int32) + x2)]) (rest := []) ⟨hx, hb, hml, hown, hts⟩ (rX0_put l g ad s.heap S 28 ((75 : Int32) + x2) hR.w (hR.w.2.1 _ finC_13).2.1 Q28 h0) (cwV 1 hts (gd_V kw_140 kw_13 kw_14 kw_3 kw_12) rfl rfl rfl (by decide +kernel) ⟨Nat.le_of_ble_eq_true rfl, Nat.le_of_ble_eq_true rfl⟩) ⟨cblindH, va_recv hR.K hR.P (ci := 0) (q0 := 28) rfl (hR.at40 (hR.w.2.1 _ finC_13).2.1), fun U hU hW9 => cmkH hU hW9 hR hex hE hFc⟩ rfl rfl hl.1 rfl (lv_room (Nat.le_of_ble_eq_true rfl)) dX11_putLocal_150 ⟨(show 0 + (KCC - qn S) ≤ KCC - qn S from hlg.cm), (show 0 + (KSC - qu S) ≤ KSC - qu S from hlg.sm)⟩) hR.sS (fun q _ h => hFc q h) hFc (fun  S29 t9 H1 locs ht9 hvm9 hw9 hB9 hz9 hk9 hS => ?_)
    rcases S29 with ⟨S29, ak31⟩
    obtain ⟨hB9, dc9, ds9, hL9, hl9⟩ := hB9
    dsimp only at hw9 hB9 hl9
    rw [ht9] at hL9
    obtain ⟨hq30, hw9, hs9, hk8⟩ := hw9
    have hw8 := hR.w
    have hak := hak.tr hk8 hlg.2.2.1
    have hE := hE.ad hk8
    have hR : RepC g ak31 A s S29 H1 locs := hR.callH ht9 hB9 hw9 hS hFc
    have hsh := hsh.tr hs9
    refine W_tight2 (hL0.tr hL9).1 (hL0.tr hL9).2.1 ?_
    have hlg := hlg.call hl9
    replace h := h  S29 hq30 hw9 hs9
    have ea_0 : ak31 25 = ad 25 := hk8 _ (hw8.hd (hw8.2.1 _ finC_28).2.1 (by decide) (by decide))
    have hl : lv_has ls 3 [(0, .ref (ak31 25)), (1, .int x1), (2, .int x2)] := by simp only [ea_0]; exact hl
    clear hB9 hz9 hk9 hvm9 ht9 hw9 hs9 hS hL0 hL9
    generalize H1 = H at hR ⊢
    generalize dc9 = dc_ak31, ds9 = ds_ak31 at hlg ⊢
    refine W_led2 (fun hLd => ?_)
    refine W.widen (k := KCC - qn S) (n := KSC - qu S) hlg.c hlg.s ?_
    exact W.vret hx hb hr (fun t9 ht9 hW9 => ⟨⟨(S29, ak31), rfl, ⟨h, hR.w, hsh, hak⟩, ⟨⟨by rw [ht9]; exact hR.P, hR.D⟩, _, _, by rw [ht9]; exact hLd, hlg⟩⟩, hR.sS.F ht9⟩) hR.sS.2.2 dX11_putLocal_153
  · replace h := h.2 (k_nle rfl (by decide) c1)
    refine lv_aload_n hx hb dX11_putLocal_5 rfl (lv_at hl 0 rfl) ?_
    refine va_get (D := rD g) (ci := 10) (v := .ref (ad 28)) (C := RX11) (T := TX11) (N := 18) hx hb hts inX11 hown hR.K hR.P 25 (hR.at50 (hR.w.2.1 _ finC_28).2.1) rfl 1 (by decide) (hts _ kw_94) (fun _ h9 => h9) (congrArg (fun z => some (vf ad z)) (hR.w.2.1 _ finC_13).1) dX11_putLocal_6 ?_
    refine lv_iload_n hx hb dX11_putLocal_9 rfl (lv_at hl 1 rfl) ?_
    replace h := h ((hR.w.2.1 _ finC_13).2.1)
    obtain ⟨Q32, h0, h⟩ := h
    have hFc := cfree hR hA
    refine W_led2 (fun hL0 => ?_)
    refine va_callv (va_runV (As := [.int x1]) (rest := []) ⟨hx, hb, hml, hown, hts⟩ (rX0_put l g ad s.heap S 28 x1 hR.w (hR.w.2.1 _ finC_13).2.1 Q32 h0) (cwV 1 hts (gd_V kw_140 kw_13 kw_14 kw_3 kw_12) rfl rfl rfl (by decide +kernel) ⟨Nat.le_of_ble_eq_true rfl, Nat.le_of_ble_eq_true rfl⟩) ⟨cblindH, va_recv hR.K hR.P (ci := 0) (q0 := 28) rfl (hR.at40 (hR.w.2.1 _ finC_13).2.1), fun U hU hW9 => cmkH hU hW9 hR hex hE hFc⟩ rfl rfl hl.1 rfl (lv_room (Nat.le_of_ble_eq_true rfl)) dX11_putLocal_10 ⟨(show 0 + (KCC - qn S) ≤ KCC - qn S from hlg.cm), (show 0 + (KSC - qu S) ≤ KSC - qu S from hlg.sm)⟩) hR.sS (fun q _ h => hFc q h) hFc (fun  S33 t9 H1 locs ht9 hvm9 hw9 hB9 hz9 hk9 hS => ?_)
    rcases S33 with ⟨S33, ak35⟩
    obtain ⟨hB9, dc9, ds9, hL9, hl9⟩ := hB9
    dsimp only at hw9 hB9 hl9
    rw [ht9] at hL9
    obtain ⟨hq34, hw9, hs9, hk8⟩ := hw9
    have hw8 := hR.w
    have hak := hak.tr hk8 hlg.2.2.1
    have hE := hE.ad hk8
    have hR : RepC g ak35 A s S33 H1 locs := hR.callH ht9 hB9 hw9 hS hFc
    have hsh := hsh.tr hs9
    refine W_tight2 (hL0.tr hL9).1 (hL0.tr hL9).2.1 ?_
    have hlg := hlg.call hl9
    replace h := h  S33 hq34 hw9 hs9
    have ea_0 : ak35 25 = ad 25 := hk8 _ (hw8.hd (hw8.2.1 _ finC_28).2.1 (by decide) (by decide))
    have hl : lv_has ls 3 [(0, .ref (ak35 25)), (1, .int x1), (2, .int x2)] := by simp only [ea_0]; exact hl
    clear hB9 hz9 hk9 hvm9 ht9 hw9 hs9 hS hL0 hL9
    generalize H1 = H at hR ⊢
    generalize dc9 = dc_ak35, ds9 = ds_ak35 at hlg ⊢
    refine lv_aload_n hx hb dX11_putLocal_13 rfl (lv_at hl 0 rfl) ?_
    refine va_get (D := rD g) (ci := 10) (v := .ref (ak35 28)) (C := RX11) (T := TX11) (N := 18) hx hb hts inX11 hown hR.K hR.P 25 (hR.at50 (hR.w.2.1 _ finC_28).2.1) rfl 1 (by decide) (hts _ kw_94) (fun _ h9 => h9) (congrArg (fun z => some (vf ak35 z)) (hR.w.2.1 _ finC_13).1) dX11_putLocal_14 ?_
    refine lv_iload_n hx hb dX11_putLocal_17 rfl (lv_at hl 2 rfl) ?_
    replace h := h ((hR.w.2.1 _ finC_13).2.1)
    obtain ⟨Q36, h0, h⟩ := h
    have hFc := cfree hR hA
    refine W_led2 (fun hL0 => ?_)
    refine va_callv (va_runV (As := [.int x2]) (rest := []) ⟨hx, hb, hml, hown, hts⟩ (rX0_put l g ak35 H S33 28 x2 hR.w (hR.w.2.1 _ finC_13).2.1 Q36 h0) (cwV 1 hts (gd_V kw_140 kw_13 kw_14 kw_3 kw_12) rfl rfl rfl (by decide +kernel) ⟨Nat.le_of_ble_eq_true rfl, Nat.le_of_ble_eq_true rfl⟩) ⟨cblindH, va_recv hR.K hR.P (ci := 0) (q0 := 28) rfl (hR.at40 (hR.w.2.1 _ finC_13).2.1), fun U hU hW9 => cmkH hU hW9 hR hex hE hFc⟩ rfl rfl hl.1 rfl (lv_room (Nat.le_of_ble_eq_true rfl)) dX11_putLocal_18 ⟨(show 0 + dc_ak35 + (KCC - qn S33) ≤ KCC - qn S from hlg.cm), (show 0 + ds_ak35 + (KSC - qu S33) ≤ KSC - qu S from hlg.sm)⟩) hR.sS (fun q _ h => hFc q h) hFc (fun  S37 t9 H1 locs ht9 hvm9 hw9 hB9 hz9 hk9 hS => ?_)
    rcases S37 with ⟨S37, ak39⟩
    obtain ⟨hB9, dc9, ds9, hL9, hl9⟩ := hB9
    dsimp only at hw9 hB9 hl9
    rw [ht9] at hL9
    obtain ⟨hq38, hw9, hs9, hk8⟩ := hw9
    have hw8 := hR.w
    have hak := hak.tr hk8 hlg.2.2.1
    have hE := hE.ad hk8
    have hR : RepC g ak39 A s S37 H1 locs := hR.callH ht9 hB9 hw9 hS hFc
    have hsh := hsh.tr hs9
    refine W_tight2 (hL0.tr hL9).1 (hL0.tr hL9).2.1 ?_
    have hlg := hlg.call hl9
    replace h := h  S37 hq38 hw9 hs9
    have ea_0 : ak39 25 = ak35 25 := hk8 _ (hw8.hd (hw8.2.1 _ finC_28).2.1 (by decide) (by decide))
    have hl : lv_has ls 3 [(0, .ref (ak39 25)), (1, .int x1), (2, .int x2)] := by simp only [ea_0]; exact hl
    clear hB9 hz9 hk9 hvm9 ht9 hw9 hs9 hS hL0 hL9
    generalize H1 = H at hR ⊢
    generalize dc9 = dc_ak39, ds9 = ds_ak39 at hlg ⊢
    refine W_led2 (fun hLd => ?_)
    refine W.widen (k := KCC - qn S) (n := KSC - qu S) hlg.c hlg.s ?_
    exact W.vret hx hb hr (fun t9 ht9 hW9 => ⟨⟨(S37, ak39), rfl, ⟨h, hR.w, hsh, hak⟩, ⟨⟨by rw [ht9]; exact hR.P, hR.D⟩, _, _, by rw [ht9]; exact hLd, hlg⟩⟩, hR.sS.F ht9⟩) hR.sS.2.2 dX11_putLocal_21
