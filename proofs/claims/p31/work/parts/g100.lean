def f_J5_isLatin1_aae02_J17 (S : MS) : Int32 := (0 : Int32)
def d_J5_isLatin1_aae02_J17 (S : MS) : Prop := True
def f_J5_isLatin1_aae02 (S : MS) (p0 : Nat) : Int32 := (if (qI S p0 1).toInt = 0 then (1 : Int32) else f_J5_isLatin1_aae02_J17 S)
def d_J5_isLatin1_aae02 (S : MS) (p0 : Nat) : Prop := (if (qI S p0 1).toInt = 0 then True else d_J5_isLatin1_aae02_J17 S)
set_option maxHeartbeats 2000000 in
set_option maxRecDepth 100000 in
theorem r_J5_isLatin1_aae02 (l : Launch) (g : Gr) (ad : Nat → Nat) (sz : Nat) (S : MS) (p0 : Nat) (hw : wfM S) (hT_p0 : qT S p0 = 13) (hd : d_J5_isLatin1_aae02 S p0) : Met l yJ5_isLatin1_aae02 (wt2 yJ5_isLatin1_aae02 cJ5_isLatin1_aae02 1 (some .boolean)) ({ frames := 0, cells := 0, slots := 0, locals := 0 }) (va_Pc [.ref (ad p0)] (st_R g ad sz S)) (va_Qi (fun (r : Int32) (_ : Unit) => r = f_J5_isLatin1_aae02 S p0 ∧ (r = 0 ∨ r = 1)) (fun (_ : Unit) (t : State) => qE g ad (va_A (Wd g ad S) sz) S t) (va_A (Wd g ad S) sz)) 0 0 (va_A (Wd g ad S) sz) := by
  refine Met.ofW (cc := cJ5_isLatin1_aae02) (maxL := 1) (ret := (some .boolean)) (by decide) rfl ?_
  intro p e s m args below meth c s₁ B hml hv
  obtain ⟨rfl, hsz, hP, hK, hD0, hex, hE⟩ := hv
  have hx := B.exec
  have hb := B.bytes
  have hr := B.returns
  have hts0 := atoms_spec (ws := wt2 yJ5_isLatin1_aae02 cJ5_isLatin1_aae02 1 (some .boolean)) B.pre
  have hts : ∀ w ∈ tb2, w.before _ s = true := fun w h => hts0 w (List.mem_cons_of_mem _ h)
  have hown : s.vm.findClass RJ5 = some m.cls := findClass_of_methodNamed B.named
  subst hsz
  have hD := hD0.self (sz := s.heap.size)
  generalize hAe : va_A (Wd g ad S) s.heap.size = A at hD hE ⊢
  have hA : ∀ q : Nat, s.heap.size ≤ q → A q := fun q h => by rw [← hAe]; exact Or.inr h
  have hR : Rep g ad A s S s.heap [] := ⟨hK, hP, hD, va_S.rf, hw⟩
  clear hK hP hD hD0
  have hl := lv_entry ([.ref (ad p0)]) (n := 1) (Nat.le_of_ble_eq_true rfl)
  rw [lg_entry_eq]
  generalize (lg_sl ([.ref (ad p0)]) ++ List.replicate (1 - (lg_sl ([.ref (ad p0)])).length) Slot.unset).toArray = ls at hl ⊢
  have hl : lv_has ls 1 [(0, .ref (ad p0))] := hl
  obtain ⟨r0, hf⟩ : ∃ r0, f_J5_isLatin1_aae02 S p0 = r0 := ⟨_, rfl⟩
  have hf0 := hf
  unfold f_J5_isLatin1_aae02 at hf
  unfold d_J5_isLatin1_aae02 at hd
  refine va_gets (C := "java/lang/String") (n := "COMPACT_STRINGS") (d := "Z") (v := .int 1) hx hb hE.1.1 hR.sS hown (hts _ kx_28) (fun _ h9 => h9) dJ5_isLatin1_aae02_0 ?_
  have J_17 : ∀ (H : Heap) (locs : List Loc) (ls : Array Slot), d_J5_isLatin1_aae02_J17 S → f_J5_isLatin1_aae02_J17 S = r0 → Rep g ad A s S H locs → lv_has ls 1 [] → W p l e (headSpec (wt2 yJ5_isLatin1_aae02 cJ5_isLatin1_aae02 1 (some .boolean)) ({ frames := 0, cells := 0, slots := 0, locals := 0 })).room s m ([.ref (ad p0)] : List Value).toArray below meth c H locs 0 0 (MQ below (va_Qi (fun (r : Int32) (_ : Unit) => r = f_J5_isLatin1_aae02 S p0 ∧ (r = 0 ∨ r = 1)) (fun (_ : Unit) (t : State) => qE g ad A S t) A) ([.ref (ad p0)] : List Value).toArray s 0 0 A) (F0 m 17 ls []) := by
    intro H locs ls hd hf hR hl
    unfold d_J5_isLatin1_aae02_J17 at hd
    unfold f_J5_isLatin1_aae02_J17 at hf
    refine lv_iconst (v := 0) hx hb dJ5_isLatin1_aae02_17 (by decide) ?_
    exact W.zret (v := 0) hx hb hr (nz (Or.inl rfl)) (fun t9 ht9 hW9 => ⟨⟨_, (), rfl, ⟨hf.trans hf0.symm, (Or.inl rfl)⟩, ⟨by rw [ht9]; exact hR.P, hR.D⟩⟩, hR.sS.F ht9⟩) hR.sS.2.2 dJ5_isLatin1_aae02_18
  refine lv_if_eq (tgt := 17) hx hb dJ5_isLatin1_aae02_3 (by decide) (fun c9 => absurd c9 (by decide)) (fun _ => ?_)
  refine lv_aload_n hx hb dJ5_isLatin1_aae02_6 rfl (lv_at hl 0 rfl) ?_
  refine va_get (D := rD g) (ci := 16) (v := .int (qI S p0 1)) (C := RJ4) (T := TJ4) (N := 4) hx hb hts in2J4 hown hR.K hR.P p0 (hR.atU hT_p0) rfl 1 (by decide) (hts _ kx_29) (fun _ h9 => h9) rfl dJ5_isLatin1_aae02_7 ?_
  refine lv_if_ne (tgt := 17) hx hb dJ5_isLatin1_aae02_10 (by decide) (fun c1 => ?_) (fun c1 => ?_)
  · rw [if_neg (k_ne rfl (by decide) c1)] at hf
    (try rw [if_neg (k_ne rfl (by decide) c1)] at hd)
    exact J_17 _ _ ls hd hf  hR (lv_sub hl [] rfl)
  · rw [if_pos (k_eq rfl (by decide) c1)] at hf
    (try rw [if_pos (k_eq rfl (by decide) c1)] at hd)
    refine lv_iconst (v := 1) hx hb dJ5_isLatin1_aae02_13 (by decide) ?_
    refine lv_goto (tgt := 18) hx hb dJ5_isLatin1_aae02_14 (by decide) ?_
    exact W.zret (v := 1) hx hb hr (nz (Or.inr rfl)) (fun t9 ht9 hW9 => ⟨⟨_, (), rfl, ⟨hf.trans hf0.symm, (Or.inr rfl)⟩, ⟨by rw [ht9]; exact hR.P, hR.D⟩⟩, hR.sS.F ht9⟩) hR.sS.2.2 dJ5_isLatin1_aae02_18
def f_J5_getValue_6d5f1 (S : MS) (p0 : Nat) : Nat := (qO S p0 0)
def d_J5_getValue_6d5f1 (S : MS) (p0 : Nat) : Prop := ((qR S p0 0 = some (qO S p0 0)) ∧ True)
set_option maxHeartbeats 2000000 in
set_option maxRecDepth 100000 in
theorem r_J5_getValue_6d5f1 (l : Launch) (g : Gr) (ad : Nat → Nat) (sz : Nat) (S : MS) (p0 : Nat) (hw : wfM S) (hT_p0 : qT S p0 = 13) (hd : d_J5_getValue_6d5f1 S p0) : Met l yJ5_getValue_6d5f1 (wt2 yJ5_getValue_6d5f1 cJ5_getValue_6d5f1 1 (some (.array .byte))) ({ frames := 0, cells := 0, slots := 0, locals := 0 }) (va_Pc [.ref (ad p0)] (st_R g ad sz S)) (va_Qq (fun (r : Option Nat) (_ : Unit) => r = some (ad (f_J5_getValue_6d5f1 S p0)) ∧ qT S (f_J5_getValue_6d5f1 S p0) = 21) (fun (_ : Unit) (t : State) => qE g ad (va_A (Wd g ad S) sz) S t) (va_A (Wd g ad S) sz)) 0 0 (va_A (Wd g ad S) sz) := by
  refine Met.ofW (cc := cJ5_getValue_6d5f1) (maxL := 1) (ret := (some (.array .byte))) (by decide) rfl ?_
  intro p e s m args below meth c s₁ B hml hv
  obtain ⟨rfl, hsz, hP, hK, hD0, hex, hE⟩ := hv
  have hx := B.exec
  have hb := B.bytes
  have hr := B.returns
  have hts0 := atoms_spec (ws := wt2 yJ5_getValue_6d5f1 cJ5_getValue_6d5f1 1 (some (.array .byte))) B.pre
  have hts : ∀ w ∈ tb2, w.before _ s = true := fun w h => hts0 w (List.mem_cons_of_mem _ h)
  have hown : s.vm.findClass RJ5 = some m.cls := findClass_of_methodNamed B.named
  subst hsz
  have hD := hD0.self (sz := s.heap.size)
  generalize hAe : va_A (Wd g ad S) s.heap.size = A at hD hE ⊢
  have hA : ∀ q : Nat, s.heap.size ≤ q → A q := fun q h => by rw [← hAe]; exact Or.inr h
  have hR : Rep g ad A s S s.heap [] := ⟨hK, hP, hD, va_S.rf, hw⟩
  clear hK hP hD hD0
  have hl := lv_entry ([.ref (ad p0)]) (n := 1) (Nat.le_of_ble_eq_true rfl)
  rw [lg_entry_eq]
  generalize (lg_sl ([.ref (ad p0)]) ++ List.replicate (1 - (lg_sl ([.ref (ad p0)])).length) Slot.unset).toArray = ls at hl ⊢
  have hl : lv_has ls 1 [(0, .ref (ad p0))] := hl
  obtain ⟨r0, hf⟩ : ∃ r0, f_J5_getValue_6d5f1 S p0 = r0 := ⟨_, rfl⟩
  have hf0 := hf
  unfold f_J5_getValue_6d5f1 at hf
  unfold d_J5_getValue_6d5f1 at hd
  refine lv_aload_n hx hb dJ5_getValue_6d5f1_0 rfl (lv_at hl 0 rfl) ?_
  obtain ⟨hv1, hd⟩ := hd
  have hT_b2 : qT S (qO S p0 0) = 21 := hR.w.ref hv1 hT_p0
  refine va_get (D := rD g) (ci := 16) (v := .ref (ad (qO S p0 0))) (C := RJ4) (T := TJ4) (N := 4) hx hb hts in2J4 hown hR.K hR.P p0 (hR.atU hT_p0) rfl 0 (by decide) (hts _ kx_30) (fun _ h9 => h9) (congrArg (fun z => some (vf ad z)) hv1) dJ5_getValue_6d5f1_1 ?_
  exact W.aret (v := .ref (ad (qO S p0 0))) hx hb hr (Or.inr ⟨_, rfl⟩) (Or.inr ⟨_, rfl⟩) (fun t9 ht9 hW9 => ⟨⟨some (ad (qO S p0 0)), (), rfl, ⟨by rw [hf0, ← hf], by rw [hf0, ← hf]; exact hT_b2⟩, ⟨by rw [ht9]; exact hR.P, hR.D⟩⟩, hR.sS.F ht9⟩) hR.sS.2.2 dJ5_getValue_6d5f1_4
def f_J5_length_8abf5 (S : MS) (p0 : Nat) : Int32 := (qI S p0 3)
def d_J5_length_8abf5 (S : MS) (p0 : Nat) : Prop := True
set_option maxHeartbeats 2000000 in
set_option maxRecDepth 100000 in
theorem r_J5_length_8abf5 (l : Launch) (g : Gr) (ad : Nat → Nat) (sz : Nat) (S : MS) (p0 : Nat) (hw : wfM S) (hT_p0 : qT S p0 = 13) (hd : d_J5_length_8abf5 S p0) : Met l yJ5_length_8abf5 (wt2 yJ5_length_8abf5 cJ5_length_8abf5 1 (some .int)) ({ frames := 0, cells := 0, slots := 0, locals := 0 }) (va_Pc [.ref (ad p0)] (st_R g ad sz S)) (va_Qi (fun (r : Int32) (_ : Unit) => r = f_J5_length_8abf5 S p0) (fun (_ : Unit) (t : State) => qE g ad (va_A (Wd g ad S) sz) S t) (va_A (Wd g ad S) sz)) 0 0 (va_A (Wd g ad S) sz) := by
  refine Met.ofW (cc := cJ5_length_8abf5) (maxL := 1) (ret := (some .int)) (by decide) rfl ?_
  intro p e s m args below meth c s₁ B hml hv
  obtain ⟨rfl, hsz, hP, hK, hD0, hex, hE⟩ := hv
  have hx := B.exec
  have hb := B.bytes
  have hr := B.returns
  have hts0 := atoms_spec (ws := wt2 yJ5_length_8abf5 cJ5_length_8abf5 1 (some .int)) B.pre
  have hts : ∀ w ∈ tb2, w.before _ s = true := fun w h => hts0 w (List.mem_cons_of_mem _ h)
  have hown : s.vm.findClass RJ5 = some m.cls := findClass_of_methodNamed B.named
  subst hsz
  have hD := hD0.self (sz := s.heap.size)
  generalize hAe : va_A (Wd g ad S) s.heap.size = A at hD hE ⊢
  have hA : ∀ q : Nat, s.heap.size ≤ q → A q := fun q h => by rw [← hAe]; exact Or.inr h
  have hR : Rep g ad A s S s.heap [] := ⟨hK, hP, hD, va_S.rf, hw⟩
  clear hK hP hD hD0
  have hl := lv_entry ([.ref (ad p0)]) (n := 1) (Nat.le_of_ble_eq_true rfl)
  rw [lg_entry_eq]
  generalize (lg_sl ([.ref (ad p0)]) ++ List.replicate (1 - (lg_sl ([.ref (ad p0)])).length) Slot.unset).toArray = ls at hl ⊢
  have hl : lv_has ls 1 [(0, .ref (ad p0))] := hl
  obtain ⟨r0, hf⟩ : ∃ r0, f_J5_length_8abf5 S p0 = r0 := ⟨_, rfl⟩
  have hf0 := hf
  unfold f_J5_length_8abf5 at hf
  unfold d_J5_length_8abf5 at hd
  refine lv_aload_n hx hb dJ5_length_8abf5_0 rfl (lv_at hl 0 rfl) ?_
  refine va_get (D := rD g) (ci := 16) (v := .int (qI S p0 3)) (C := RJ4) (T := TJ4) (N := 4) hx hb hts in2J4 hown hR.K hR.P p0 (hR.atU hT_p0) rfl 3 (by decide) (hts _ kx_31) (fun _ h9 => h9) rfl dJ5_length_8abf5_1 ?_
  exact W.iret (v := (qI S p0 3)) hx hb hr (fun t9 ht9 hW9 => ⟨⟨_, (), rfl, hf.trans hf0.symm, ⟨by rw [ht9]; exact hR.P, hR.D⟩⟩, hR.sS.F ht9⟩) hR.sS.2.2 dJ5_length_8abf5_4
def f_J4_length_8abf5 (S : MS) (p0 : Nat) : Int32 := (f_J5_length_8abf5 S p0)
def d_J4_length_8abf5 (S : MS) (p0 : Nat) : Prop := (d_J5_length_8abf5 S p0 ∧ True)
set_option maxHeartbeats 2000000 in
set_option maxRecDepth 100000 in
theorem r_J4_length_8abf5 (l : Launch) (g : Gr) (ad : Nat → Nat) (sz : Nat) (S : MS) (p0 : Nat) (hw : wfM S) (hT_p0 : qT S p0 = 13) (hd : d_J4_length_8abf5 S p0) : Met l yJ4_length_8abf5 (wt2 yJ4_length_8abf5 cJ4_length_8abf5 1 (some .int)) ({ frames := 1, cells := 0, slots := 0, locals := 20 }) (va_Pc [.ref (ad p0)] (st_R g ad sz S)) (va_Qi (fun (r : Int32) (_ : Unit) => r = f_J4_length_8abf5 S p0) (fun (_ : Unit) (t : State) => qE g ad (va_A (Wd g ad S) sz) S t) (va_A (Wd g ad S) sz)) 0 0 (va_A (Wd g ad S) sz) := by
  refine Met.ofW (cc := cJ4_length_8abf5) (maxL := 1) (ret := (some .int)) (by decide) rfl ?_
  intro p e s m args below meth c s₁ B hml hv
  obtain ⟨rfl, hsz, hP, hK, hD0, hex, hE⟩ := hv
  have hx := B.exec
  have hb := B.bytes
  have hr := B.returns
  have hts0 := atoms_spec (ws := wt2 yJ4_length_8abf5 cJ4_length_8abf5 1 (some .int)) B.pre
  have hts : ∀ w ∈ tb2, w.before _ s = true := fun w h => hts0 w (List.mem_cons_of_mem _ h)
  have hown : s.vm.findClass RJ4 = some m.cls := findClass_of_methodNamed B.named
  subst hsz
  have hD := hD0.self (sz := s.heap.size)
  generalize hAe : va_A (Wd g ad S) s.heap.size = A at hD hE ⊢
  have hA : ∀ q : Nat, s.heap.size ≤ q → A q := fun q h => by rw [← hAe]; exact Or.inr h
  have hR : Rep g ad A s S s.heap [] := ⟨hK, hP, hD, va_S.rf, hw⟩
  clear hK hP hD hD0
  have hl := lv_entry ([.ref (ad p0)]) (n := 1) (Nat.le_of_ble_eq_true rfl)
  rw [lg_entry_eq]
  generalize (lg_sl ([.ref (ad p0)]) ++ List.replicate (1 - (lg_sl ([.ref (ad p0)])).length) Slot.unset).toArray = ls at hl ⊢
  have hl : lv_has ls 1 [(0, .ref (ad p0))] := hl
  obtain ⟨r0, hf⟩ : ∃ r0, f_J4_length_8abf5 S p0 = r0 := ⟨_, rfl⟩
  have hf0 := hf
  unfold f_J4_length_8abf5 at hf
  unfold d_J4_length_8abf5 at hd
  refine lv_aload_n hx hb dJ4_length_8abf5_0 rfl (lv_at hl 0 rfl) ?_
  obtain ⟨hv1, hd⟩ := hd
  have hFc := rfree hR hA
  refine va_calli (va_runSU (hR.K.1 16 _ rfl).2 (As := []) (rest := []) ⟨hx, hb, hml, hown, hts⟩ (r_J5_length_8abf5 l g ad s.heap.size S p0 hR.w hT_p0 hv1) (va_cwSU 0 hts (gd2_SU kx_32 kx_33 kx_34 kx_35 kx_36 kx_37) rfl rfl rfl (by decide +kernel) ⟨Nat.le_of_ble_eq_true rfl, Nat.le_of_ble_eq_true rfl⟩) ⟨rblind, va_recv hR.K hR.P (ci := 16) (q0 := p0) rfl (hR.atU hT_p0), fun U hU hW9 => rmk hU hW9 hR hex hE hFc⟩ rfl rfl hl.1 rfl (lv_room (Nat.le_of_ble_eq_true rfl)) dJ4_length_8abf5_1 ⟨Nat.le_of_ble_eq_true rfl, Nat.le_of_ble_eq_true rfl⟩) hR.sS (fun q _ h => hFc q h) hFc (fun r2 u9 t9 H1 locs ht9 hvm9 hw9 hB9 hz9 hk9 hS => ?_)
  have hR : Rep g ad A s S H1 locs := hR.call ht9 hB9 hR.w hS hFc
  obtain rfl : r2 = (f_J5_length_8abf5 S p0) := hw9
  clear hB9 hz9 hk9 hvm9 ht9 hS
  generalize H1 = H at hR ⊢
  exact W.iret (v := (f_J5_length_8abf5 S p0)) hx hb hr (fun t9 ht9 hW9 => ⟨⟨_, (), rfl, hf.trans hf0.symm, ⟨by rw [ht9]; exact hR.P, hR.D⟩⟩, hR.sS.F ht9⟩) hR.sS.2.2 dJ4_length_8abf5_4
def f_J1_canEncode_fc78d (S : MS) (x0 : Int32) : Int32 := (if 255 < x0.toInt then (0 : Int32) else (1 : Int32))
def d_J1_canEncode_fc78d (S : MS) (x0 : Int32) : Prop := True
set_option maxHeartbeats 2000000 in
set_option maxRecDepth 100000 in
theorem r_J1_canEncode_fc78d (l : Launch) (g : Gr) (ad : Nat → Nat) (sz : Nat) (S : MS) (x0 : Int32) (hw : wfM S) (hd : d_J1_canEncode_fc78d S x0) : Met l yJ1_canEncode_fc78d (wt2 yJ1_canEncode_fc78d cJ1_canEncode_fc78d 1 (some .boolean)) ({ frames := 0, cells := 0, slots := 0, locals := 0 }) (va_Pc [.int x0] (st_R g ad sz S)) (va_Qi (fun (r : Int32) (_ : Unit) => r = f_J1_canEncode_fc78d S x0 ∧ (r = 0 ∨ r = 1)) (fun (_ : Unit) (t : State) => qE g ad (va_A (Wd g ad S) sz) S t) (va_A (Wd g ad S) sz)) 0 0 (va_A (Wd g ad S) sz) := by
  refine Met.ofW (cc := cJ1_canEncode_fc78d) (maxL := 1) (ret := (some .boolean)) (by decide) rfl ?_
  intro p e s m args below meth c s₁ B hml hv
  obtain ⟨rfl, hsz, hP, hK, hD0, hex, hE⟩ := hv
  have hx := B.exec
  have hb := B.bytes
  have hr := B.returns
  have hts0 := atoms_spec (ws := wt2 yJ1_canEncode_fc78d cJ1_canEncode_fc78d 1 (some .boolean)) B.pre
  have hts : ∀ w ∈ tb2, w.before _ s = true := fun w h => hts0 w (List.mem_cons_of_mem _ h)
  have hown : s.vm.findClass RJ1 = some m.cls := findClass_of_methodNamed B.named
  subst hsz
  have hD := hD0.self (sz := s.heap.size)
  generalize hAe : va_A (Wd g ad S) s.heap.size = A at hD hE ⊢
  have hA : ∀ q : Nat, s.heap.size ≤ q → A q := fun q h => by rw [← hAe]; exact Or.inr h
  have hR : Rep g ad A s S s.heap [] := ⟨hK, hP, hD, va_S.rf, hw⟩
  clear hK hP hD hD0
  have hl := lv_entry ([.int x0]) (n := 1) (Nat.le_of_ble_eq_true rfl)
  rw [lg_entry_eq]
  generalize (lg_sl ([.int x0]) ++ List.replicate (1 - (lg_sl ([.int x0])).length) Slot.unset).toArray = ls at hl ⊢
  have hl : lv_has ls 1 [(0, .int x0)] := hl
  obtain ⟨r0, hf⟩ : ∃ r0, f_J1_canEncode_fc78d S x0 = r0 := ⟨_, rfl⟩
  have hf0 := hf
  unfold f_J1_canEncode_fc78d at hf
  unfold d_J1_canEncode_fc78d at hd
  refine lv_iload_n hx hb dJ1_canEncode_fc78d_0 rfl (lv_at hl 0 rfl) ?_
  refine lv_sipush (v := 255) hx hb dJ1_canEncode_fc78d_1 (by decide) ?_
  refine lv_icmp_gt (tgt := 11) hx hb dJ1_canEncode_fc78d_4 (by decide) (fun c1 => ?_) (fun c1 => ?_)
  · rw [if_pos (k_lt (by decide) rfl c1)] at hf
    (try rw [if_pos (k_lt (by decide) rfl c1)] at hd)
    refine lv_iconst (v := 0) hx hb dJ1_canEncode_fc78d_11 (by decide) ?_
    exact W.zret (v := 0) hx hb hr (nz (Or.inl rfl)) (fun t9 ht9 hW9 => ⟨⟨_, (), rfl, ⟨hf.trans hf0.symm, (Or.inl rfl)⟩, ⟨by rw [ht9]; exact hR.P, hR.D⟩⟩, hR.sS.F ht9⟩) hR.sS.2.2 dJ1_canEncode_fc78d_12
  · rw [if_neg (k_nlt (by decide) rfl c1)] at hf
    (try rw [if_neg (k_nlt (by decide) rfl c1)] at hd)
    refine lv_iconst (v := 1) hx hb dJ1_canEncode_fc78d_7 (by decide) ?_
    refine lv_goto (tgt := 12) hx hb dJ1_canEncode_fc78d_8 (by decide) ?_
    exact W.zret (v := 1) hx hb hr (nz (Or.inr rfl)) (fun t9 ht9 hW9 => ⟨⟨_, (), rfl, ⟨hf.trans hf0.symm, (Or.inr rfl)⟩, ⟨by rw [ht9]; exact hR.P, hR.D⟩⟩, hR.sS.F ht9⟩) hR.sS.2.2 dJ1_canEncode_fc78d_12
def f_J8_newLength_cabcc (S : MS) (x0 : Int32) (x1 : Int32) (x2 : Int32) : Int32 := (if (x0 + (if x1 < x2 then x2 else x1)).toInt ≤ 0 then 0 else (if 2147483639 < (x0 + (if x1 < x2 then x2 else x1)).toInt then 0 else (x0 + (if x1 < x2 then x2 else x1))))
def d_J8_newLength_cabcc (S : MS) (x0 : Int32) (x1 : Int32) (x2 : Int32) : Prop := (if (x0 + (if x1 < x2 then x2 else x1)).toInt ≤ 0 then False else (if 2147483639 < (x0 + (if x1 < x2 then x2 else x1)).toInt then False else True))
set_option maxHeartbeats 2000000 in
set_option maxRecDepth 100000 in
theorem r_J8_newLength_cabcc (l : Launch) (g : Gr) (ad : Nat → Nat) (sz : Nat) (S : MS) (x0 : Int32) (x1 : Int32) (x2 : Int32) (hw : wfM S) (hd : d_J8_newLength_cabcc S x0 x1 x2) : Met l yJ8_newLength_cabcc (wt2 yJ8_newLength_cabcc cJ8_newLength_cabcc 4 (some .int)) ({ frames := 1, cells := 0, slots := 0, locals := 14 }) (va_Pc [.int x0, .int x1, .int x2] (st_R g ad sz S)) (va_Qi (fun (r : Int32) (_ : Unit) => r = f_J8_newLength_cabcc S x0 x1 x2) (fun (_ : Unit) (t : State) => qE g ad (va_A (Wd g ad S) sz) S t) (va_A (Wd g ad S) sz)) 0 0 (va_A (Wd g ad S) sz) := by
  refine Met.ofW (cc := cJ8_newLength_cabcc) (maxL := 4) (ret := (some .int)) (by decide) rfl ?_
  intro p e s m args below meth c s₁ B hml hv
  obtain ⟨rfl, hsz, hP, hK, hD0, hex, hE⟩ := hv
  have hx := B.exec
  have hb := B.bytes
  have hr := B.returns
  have hts0 := atoms_spec (ws := wt2 yJ8_newLength_cabcc cJ8_newLength_cabcc 4 (some .int)) B.pre
  have hts : ∀ w ∈ tb2, w.before _ s = true := fun w h => hts0 w (List.mem_cons_of_mem _ h)
  have hown : s.vm.findClass RJ8 = some m.cls := findClass_of_methodNamed B.named
  subst hsz
  have hD := hD0.self (sz := s.heap.size)
  generalize hAe : va_A (Wd g ad S) s.heap.size = A at hD hE ⊢
  have hA : ∀ q : Nat, s.heap.size ≤ q → A q := fun q h => by rw [← hAe]; exact Or.inr h
  have hR : Rep g ad A s S s.heap [] := ⟨hK, hP, hD, va_S.rf, hw⟩
  clear hK hP hD hD0
  have hl := lv_entry ([.int x0, .int x1, .int x2]) (n := 4) (Nat.le_of_ble_eq_true rfl)
  rw [lg_entry_eq]
  generalize (lg_sl ([.int x0, .int x1, .int x2]) ++ List.replicate (4 - (lg_sl ([.int x0, .int x1, .int x2])).length) Slot.unset).toArray = ls at hl ⊢
  have hl : lv_has ls 4 [(0, .int x0), (1, .int x1), (2, .int x2)] := hl
  obtain ⟨r0, hf⟩ : ∃ r0, f_J8_newLength_cabcc S x0 x1 x2 = r0 := ⟨_, rfl⟩
  have hf0 := hf
  unfold f_J8_newLength_cabcc at hf
  unfold d_J8_newLength_cabcc at hd
  refine lv_iload_n hx hb dJ8_newLength_cabcc_0 rfl (lv_at hl 0 rfl) ?_
  refine lv_iload_n hx hb dJ8_newLength_cabcc_1 rfl (lv_at hl 1 rfl) ?_
  refine lv_iload_n hx hb dJ8_newLength_cabcc_2 rfl (lv_at hl 2 rfl) ?_
  refine va_mmax hx hb (by rw [hml]; exact hl.1.symm) hown (hts _ kx_38) (hts _ kx_39) (hts _ kx_40) (hts _ kx_41) (Nat.le_of_ble_eq_true rfl) (Nat.le_of_ble_eq_true rfl) (Nat.le_of_ble_eq_true rfl) (Nat.le_of_ble_eq_true rfl) dJ8_newLength_cabcc_3 ?_
  refine lv_topi (fun z1 ez1 => ?_)
  obtain rfl : z1 = (if x1 < x2 then x2 else x1) := ez1
  refine lv_iadd hx hb dJ8_newLength_cabcc_6 ?_
  refine lv_topi (fun z2 ez2 => ?_)
  obtain rfl : z2 = (x0 + (if x1 < x2 then x2 else x1)) := ez2
  refine lv_istore_n (lv' := [(3, .int (x0 + (if x1 < x2 then x2 else x1))), (0, .int x0), (1, .int x1), (2, .int x2)]) hx hb dJ8_newLength_cabcc_7 rfl hl (by decide) rfl (fun ls hl => ?_)
  refine lv_iconst (v := 0) hx hb dJ8_newLength_cabcc_8 (by decide) ?_
  refine lv_iload_n hx hb dJ8_newLength_cabcc_9 rfl (lv_at hl 0 rfl) ?_
  refine lv_icmp_ge (tgt := 21) hx hb dJ8_newLength_cabcc_10 (by decide) (fun c3 => ?_) (fun c3 => ?_)
  · rw [if_pos (k_le rfl (by decide) c3)] at hf
    (try rw [if_pos (k_le rfl (by decide) c3)] at hd)
    exact hd.elim
  · rw [if_neg (k_nle rfl (by decide) c3)] at hf
    (try rw [if_neg (k_nle rfl (by decide) c3)] at hd)
    refine lv_iload_n hx hb dJ8_newLength_cabcc_13 rfl (lv_at hl 0 rfl) ?_
    refine lv_ldc hx hb hown (hts _ kx_42) dJ8_newLength_cabcc_14 ?_
    refine lv_icmp_gt (tgt := 21) hx hb dJ8_newLength_cabcc_16 (by decide) (fun c4 => ?_) (fun c4 => ?_)
    · rw [if_pos (k_lt (by decide) rfl c4)] at hf
      (try rw [if_pos (k_lt (by decide) rfl c4)] at hd)
      exact hd.elim
    · rw [if_neg (k_nlt (by decide) rfl c4)] at hf
      (try rw [if_neg (k_nlt (by decide) rfl c4)] at hd)
      refine lv_iload_n hx hb dJ8_newLength_cabcc_19 rfl (lv_at hl 0 rfl) ?_
      exact W.iret (v := (x0 + (if x1 < x2 then x2 else x1))) hx hb hr (fun t9 ht9 hW9 => ⟨⟨_, (), rfl, hf.trans hf0.symm, ⟨by rw [ht9]; exact hR.P, hR.D⟩⟩, hR.sS.F ht9⟩) hR.sS.2.2 dJ8_newLength_cabcc_20
def f_J5_newCapacity_0f7a4 (S : MS) (p0 : Nat) (x1 : Int32) : Int32 := (if (f_J8_newLength_cabcc S (Int32.ofNat (qN S (qO S p0 0))) ((x1 <<< ((qI S p0 1) &&& 31)) - (Int32.ofNat (qN S (qO S p0 0)))) ((Int32.ofNat (qN S (qO S p0 0))) + ((2 : Int32) <<< ((qI S p0 1) &&& 31)))).toInt = 2147483647 then 0 else ((f_J8_newLength_cabcc S (Int32.ofNat (qN S (qO S p0 0))) ((x1 <<< ((qI S p0 1) &&& 31)) - (Int32.ofNat (qN S (qO S p0 0)))) ((Int32.ofNat (qN S (qO S p0 0))) + ((2 : Int32) <<< ((qI S p0 1) &&& 31)))) >>> ((qI S p0 1) &&& 31)))
def d_J5_newCapacity_0f7a4 (S : MS) (p0 : Nat) (x1 : Int32) : Prop := ((qR S p0 0 = some (qO S p0 0)) ∧ (d_J8_newLength_cabcc S (Int32.ofNat (qN S (qO S p0 0))) ((x1 <<< ((qI S p0 1) &&& 31)) - (Int32.ofNat (qN S (qO S p0 0)))) ((Int32.ofNat (qN S (qO S p0 0))) + ((2 : Int32) <<< ((qI S p0 1) &&& 31))) ∧ (if (f_J8_newLength_cabcc S (Int32.ofNat (qN S (qO S p0 0))) ((x1 <<< ((qI S p0 1) &&& 31)) - (Int32.ofNat (qN S (qO S p0 0)))) ((Int32.ofNat (qN S (qO S p0 0))) + ((2 : Int32) <<< ((qI S p0 1) &&& 31)))).toInt = 2147483647 then False else True)))
set_option maxHeartbeats 2000000 in
set_option maxRecDepth 100000 in
theorem r_J5_newCapacity_0f7a4 (l : Launch) (g : Gr) (ad : Nat → Nat) (sz : Nat) (S : MS) (p0 : Nat) (x1 : Int32) (hw : wfM S) (hT_p0 : qT S p0 = 13) (hd : d_J5_newCapacity_0f7a4 S p0 x1) : Met l yJ5_newCapacity_0f7a4 (wt2 yJ5_newCapacity_0f7a4 cJ5_newCapacity_0f7a4 6 (some .int)) ({ frames := 2, cells := 0, slots := 0, locals := 37 }) (va_Pc [.ref (ad p0), .int x1] (st_R g ad sz S)) (va_Qi (fun (r : Int32) (_ : Unit) => r = f_J5_newCapacity_0f7a4 S p0 x1) (fun (_ : Unit) (t : State) => qE g ad (va_A (Wd g ad S) sz) S t) (va_A (Wd g ad S) sz)) 0 0 (va_A (Wd g ad S) sz) := by
  refine Met.ofW (cc := cJ5_newCapacity_0f7a4) (maxL := 6) (ret := (some .int)) (by decide) rfl ?_
  intro p e s m args below meth c s₁ B hml hv
  obtain ⟨rfl, hsz, hP, hK, hD0, hex, hE⟩ := hv
  have hx := B.exec
  have hb := B.bytes
  have hr := B.returns
  have hts0 := atoms_spec (ws := wt2 yJ5_newCapacity_0f7a4 cJ5_newCapacity_0f7a4 6 (some .int)) B.pre
  have hts : ∀ w ∈ tb2, w.before _ s = true := fun w h => hts0 w (List.mem_cons_of_mem _ h)
  have hown : s.vm.findClass RJ5 = some m.cls := findClass_of_methodNamed B.named
  subst hsz
  have hD := hD0.self (sz := s.heap.size)
  generalize hAe : va_A (Wd g ad S) s.heap.size = A at hD hE ⊢
  have hA : ∀ q : Nat, s.heap.size ≤ q → A q := fun q h => by rw [← hAe]; exact Or.inr h
  have hR : Rep g ad A s S s.heap [] := ⟨hK, hP, hD, va_S.rf, hw⟩
  clear hK hP hD hD0
  have hl := lv_entry ([.ref (ad p0), .int x1]) (n := 6) (Nat.le_of_ble_eq_true rfl)
  rw [lg_entry_eq]
  generalize (lg_sl ([.ref (ad p0), .int x1]) ++ List.replicate (6 - (lg_sl ([.ref (ad p0), .int x1])).length) Slot.unset).toArray = ls at hl ⊢
  have hl : lv_has ls 6 [(0, .ref (ad p0)), (1, .int x1)] := hl
  obtain ⟨r0, hf⟩ : ∃ r0, f_J5_newCapacity_0f7a4 S p0 x1 = r0 := ⟨_, rfl⟩
  have hf0 := hf
  unfold f_J5_newCapacity_0f7a4 at hf
  unfold d_J5_newCapacity_0f7a4 at hd
  refine lv_aload_n hx hb dJ5_newCapacity_0f7a4_0 rfl (lv_at hl 0 rfl) ?_
  obtain ⟨hv1, hd⟩ := hd
  have hT_b2 : qT S (qO S p0 0) = 21 := hR.w.ref hv1 hT_p0
  refine va_get (D := rD g) (ci := 16) (v := .ref (ad (qO S p0 0))) (C := RJ4) (T := TJ4) (N := 4) hx hb hts in2J4 hown hR.K hR.P p0 (hR.atU hT_p0) rfl 0 (by decide) (hts _ kx_30) (fun _ h9 => h9) (congrArg (fun z => some (vf ad z)) hv1) dJ5_newCapacity_0f7a4_1 ?_
  refine va_alen (v := (Int32.ofNat (qN S (qO S p0 0)))) hx hb hR.K hR.P (qO S p0 0) 0 (hR.atV hT_b2) rfl rfl dJ5_newCapacity_0f7a4_4 ?_
  refine lv_istore_n (lv' := [(2, .int (Int32.ofNat (qN S (qO S p0 0)))), (0, .ref (ad p0)), (1, .int x1)]) hx hb dJ5_newCapacity_0f7a4_5 rfl hl (by decide) rfl (fun ls hl => ?_)
  refine lv_iload_n hx hb dJ5_newCapacity_0f7a4_6 rfl (lv_at hl 2 rfl) ?_
  refine lv_aload_n hx hb dJ5_newCapacity_0f7a4_7 rfl (lv_at hl 1 rfl) ?_
  refine va_get (D := rD g) (ci := 16) (v := .int (qI S p0 1)) (C := RJ4) (T := TJ4) (N := 4) hx hb hts in2J4 hown hR.K hR.P p0 (hR.atU hT_p0) rfl 1 (by decide) (hts _ kx_29) (fun _ h9 => h9) rfl dJ5_newCapacity_0f7a4_8 ?_
  refine lv_ishl hx hb dJ5_newCapacity_0f7a4_11 ?_
  refine lv_topi (fun z3 ez3 => ?_)
  obtain rfl : z3 = (x1 <<< ((qI S p0 1) &&& 31)) := ez3
  refine lv_istore_n (lv' := [(3, .int (x1 <<< ((qI S p0 1) &&& 31))), (2, .int (Int32.ofNat (qN S (qO S p0 0)))), (0, .ref (ad p0)), (1, .int x1)]) hx hb dJ5_newCapacity_0f7a4_12 rfl hl (by decide) rfl (fun ls hl => ?_)
  refine lv_iload_n hx hb dJ5_newCapacity_0f7a4_13 rfl (lv_at hl 0 rfl) ?_
  refine lv_iload_n hx hb dJ5_newCapacity_0f7a4_14 rfl (lv_at hl 1 rfl) ?_
  refine lv_isub hx hb dJ5_newCapacity_0f7a4_15 ?_
  refine lv_topi (fun z4 ez4 => ?_)
  obtain rfl : z4 = ((x1 <<< ((qI S p0 1) &&& 31)) - (Int32.ofNat (qN S (qO S p0 0)))) := ez4
  refine lv_istore (lv' := [(4, .int ((x1 <<< ((qI S p0 1) &&& 31)) - (Int32.ofNat (qN S (qO S p0 0))))), (3, .int (x1 <<< ((qI S p0 1) &&& 31))), (2, .int (Int32.ofNat (qN S (qO S p0 0)))), (0, .ref (ad p0)), (1, .int x1)]) hx hb dJ5_newCapacity_0f7a4_16 hl (by decide) rfl (fun ls hl => ?_)
  refine lv_iload_n hx hb dJ5_newCapacity_0f7a4_18 rfl (lv_at hl 2 rfl) ?_
  refine lv_iload hx hb dJ5_newCapacity_0f7a4_19 (lv_at hl 0 rfl) ?_
  refine lv_iload_n hx hb dJ5_newCapacity_0f7a4_21 rfl (lv_at hl 2 rfl) ?_
  refine lv_iconst (v := 2) hx hb dJ5_newCapacity_0f7a4_22 (by decide) ?_
  refine lv_aload_n hx hb dJ5_newCapacity_0f7a4_23 rfl (lv_at hl 3 rfl) ?_
  refine va_get (D := rD g) (ci := 16) (v := .int (qI S p0 1)) (C := RJ4) (T := TJ4) (N := 4) hx hb hts in2J4 hown hR.K hR.P p0 (hR.atU hT_p0) rfl 1 (by decide) (hts _ kx_29) (fun _ h9 => h9) rfl dJ5_newCapacity_0f7a4_24 ?_
  refine lv_ishl hx hb dJ5_newCapacity_0f7a4_27 ?_
  refine lv_topi (fun z5 ez5 => ?_)
  obtain rfl : z5 = ((2 : Int32) <<< ((qI S p0 1) &&& 31)) := ez5
  refine lv_iadd hx hb dJ5_newCapacity_0f7a4_28 ?_
  refine lv_topi (fun z6 ez6 => ?_)
  obtain rfl : z6 = ((Int32.ofNat (qN S (qO S p0 0))) + ((2 : Int32) <<< ((qI S p0 1) &&& 31))) := ez6
  obtain ⟨hv7, hd⟩ := hd
  have hFc := rfree hR hA
  refine va_calli (va_runS (As := [.int (Int32.ofNat (qN S (qO S p0 0))), .int ((x1 <<< ((qI S p0 1) &&& 31)) - (Int32.ofNat (qN S (qO S p0 0)))), .int ((Int32.ofNat (qN S (qO S p0 0))) + ((2 : Int32) <<< ((qI S p0 1) &&& 31)))]) (rest := []) ⟨hx, hb, hml, hown, hts⟩ (r_J8_newLength_cabcc l g ad s.heap.size S (Int32.ofNat (qN S (qO S p0 0))) ((x1 <<< ((qI S p0 1) &&& 31)) - (Int32.ofNat (qN S (qO S p0 0)))) ((Int32.ofNat (qN S (qO S p0 0))) + ((2 : Int32) <<< ((qI S p0 1) &&& 31))) hR.w  hv7) (va_cwS 3 hts (gd2_S kx_43 kx_44 kx_45 kx_46) rfl rfl rfl (by decide +kernel) ⟨Nat.le_of_ble_eq_true rfl, Nat.le_of_ble_eq_true rfl⟩) ⟨rblind, fun U hU hW9 => rmk hU hW9 hR hex hE hFc⟩ rfl rfl hl.1 rfl (lv_room (Nat.le_of_ble_eq_true rfl)) dJ5_newCapacity_0f7a4_29 ⟨Nat.le_of_ble_eq_true rfl, Nat.le_of_ble_eq_true rfl⟩) hR.sS (fun q _ h => hFc q h) hFc (fun r8 u9 t9 H1 locs ht9 hvm9 hw9 hB9 hz9 hk9 hS => ?_)
  have hR : Rep g ad A s S H1 locs := hR.call ht9 hB9 hR.w hS hFc
  obtain rfl : r8 = (f_J8_newLength_cabcc S (Int32.ofNat (qN S (qO S p0 0))) ((x1 <<< ((qI S p0 1) &&& 31)) - (Int32.ofNat (qN S (qO S p0 0)))) ((Int32.ofNat (qN S (qO S p0 0))) + ((2 : Int32) <<< ((qI S p0 1) &&& 31)))) := hw9
  clear hB9 hz9 hk9 hvm9 ht9 hS
  generalize H1 = H at hR ⊢
  refine lv_istore (lv' := [(5, .int (f_J8_newLength_cabcc S (Int32.ofNat (qN S (qO S p0 0))) ((x1 <<< ((qI S p0 1) &&& 31)) - (Int32.ofNat (qN S (qO S p0 0)))) ((Int32.ofNat (qN S (qO S p0 0))) + ((2 : Int32) <<< ((qI S p0 1) &&& 31))))), (4, .int ((x1 <<< ((qI S p0 1) &&& 31)) - (Int32.ofNat (qN S (qO S p0 0))))), (3, .int (x1 <<< ((qI S p0 1) &&& 31))), (2, .int (Int32.ofNat (qN S (qO S p0 0)))), (0, .ref (ad p0)), (1, .int x1)]) hx hb dJ5_newCapacity_0f7a4_32 hl (by decide) rfl (fun ls hl => ?_)
  refine lv_iload hx hb dJ5_newCapacity_0f7a4_34 (lv_at hl 0 rfl) ?_
  refine lv_ldc hx hb hown (hts _ kx_47) dJ5_newCapacity_0f7a4_36 ?_
  refine lv_icmp_ne (tgt := 51) hx hb dJ5_newCapacity_0f7a4_38 (by decide) (fun c10 => ?_) (fun c10 => ?_)
  · rw [if_neg (k_ne rfl (by decide) c10)] at hf
    (try rw [if_neg (k_ne rfl (by decide) c10)] at hd)
    refine lv_iload hx hb dJ5_newCapacity_0f7a4_51 (lv_at hl 0 rfl) ?_
    refine lv_aload_n hx hb dJ5_newCapacity_0f7a4_53 rfl (lv_at hl 4 rfl) ?_
    refine va_get (D := rD g) (ci := 16) (v := .int (qI S p0 1)) (C := RJ4) (T := TJ4) (N := 4) hx hb hts in2J4 hown hR.K hR.P p0 (hR.atU hT_p0) rfl 1 (by decide) (hts _ kx_29) (fun _ h9 => h9) rfl dJ5_newCapacity_0f7a4_54 ?_
    refine lv_ishr hx hb dJ5_newCapacity_0f7a4_57 ?_
    refine lv_topi (fun z11 ez11 => ?_)
    obtain rfl : z11 = ((f_J8_newLength_cabcc S (Int32.ofNat (qN S (qO S p0 0))) ((x1 <<< ((qI S p0 1) &&& 31)) - (Int32.ofNat (qN S (qO S p0 0)))) ((Int32.ofNat (qN S (qO S p0 0))) + ((2 : Int32) <<< ((qI S p0 1) &&& 31)))) >>> ((qI S p0 1) &&& 31)) := ez11
    exact W.iret (v := ((f_J8_newLength_cabcc S (Int32.ofNat (qN S (qO S p0 0))) ((x1 <<< ((qI S p0 1) &&& 31)) - (Int32.ofNat (qN S (qO S p0 0)))) ((Int32.ofNat (qN S (qO S p0 0))) + ((2 : Int32) <<< ((qI S p0 1) &&& 31)))) >>> ((qI S p0 1) &&& 31))) hx hb hr (fun t9 ht9 hW9 => ⟨⟨_, (), rfl, hf.trans hf0.symm, ⟨by rw [ht9]; exact hR.P, hR.D⟩⟩, hR.sS.F ht9⟩) hR.sS.2.2 dJ5_newCapacity_0f7a4_58
  · rw [if_pos (k_eq rfl (by decide) c10)] at hf
    (try rw [if_pos (k_eq rfl (by decide) c10)] at hd)
    exact hd.elim
def w_J7_copyOf_9075b (S : MS) (p0 : Nat) (x1 : Int32) (Q : Nat → MS → Prop) : Prop := ((x1.toInt = (Int32.ofNat (qN S p0)).toInt → (((qn S + 1 ≤ KC ∧ qu S + qN S p0 ≤ KS) ∧ byt S p0) ∧ (∀ S13, S13 = wK S p0 (qN S p0) → Q (qn S) S13))) ∧ (¬ x1.toInt = (Int32.ofNat (qN S p0)).toInt → (((0 : Int) ≤ x1.toInt ∧ (qn S + 1 ≤ KC ∧ qu S + x1.toInt.toNat ≤ KS)) ∧ (∀ S5, S5 = wN S 21 x1.toInt.toNat x1.toInt.toNat → ((¬ (0 : Int32) < 0 ∧ ¬ (0 : Int32) < 0 ∧ ¬ (if x1 < (Int32.ofNat (qN S5 p0)) then x1 else (Int32.ofNat (qN S5 p0))) < 0 ∧ (0 : Int32).toNatClampNeg + (if x1 < (Int32.ofNat (qN S5 p0)) then x1 else (Int32.ofNat (qN S5 p0))).toNatClampNeg ≤ qN S5 p0 ∧ (0 : Int32).toNatClampNeg + (if x1 < (Int32.ofNat (qN S5 p0)) then x1 else (Int32.ofNat (qN S5 p0))).toNatClampNeg ≤ qN S5 (qn S) ∧ byt S5 p0) ∧ (∀ S9, S9 = wC S5 (qn S) (va_cpy (qI S5 p0) (qI S5 (qn S)) (0 : Int32).toNatClampNeg (0 : Int32).toNatClampNeg (if x1 < (Int32.ofNat (qN S5 p0)) then x1 else (Int32.ofNat (qN S5 p0))).toNatClampNeg) → Q (qn S) S9))))))
set_option maxHeartbeats 2000000 in
set_option maxRecDepth 100000 in
theorem r_J7_copyOf_9075b (l : Launch) (g : Gr) (ad : Nat → Nat) (H0 : Heap) (S : MS) (p0 : Nat) (x1 : Int32) (hw : wfM S) (hT_p0 : qT S p0 = 21) (Q : Nat → MS → Prop) (h : w_J7_copyOf_9075b S p0 x1 Q) : Met l yJ7_copyOf_9075b (wt2 yJ7_copyOf_9075b cJ7_copyOf_9075b 3 (some (.array .byte))) ({ frames := 1, cells := KC - qn S, slots := KS - qu S, locals := 40 }) (va_Pc [.ref (ad p0), .int x1] (st_RH g ad H0 S)) (va_Qq (fun (r : Option Nat) (u : MS × (Nat → Nat)) => ∃ b : Nat, r = some (u.2 b) ∧ Q b u.1 ∧ wfM u.1 ∧ shx S u.1 ∧ adk ad u.2 S ∧ qT u.1 b = 21) (fun (u : MS × (Nat → Nat)) (t : State) => qEH g (va_A (Wd g ad S) H0.size) S H0 u t) (va_A (Wd g ad S) H0.size)) (KC - qn S) (KS - qu S) (va_A (Wd g ad S) H0.size) := by
  refine Met.ofW (cc := cJ7_copyOf_9075b) (maxL := 3) (ret := (some (.array .byte))) (by decide) rfl ?_
  intro p e s m args below meth c s₁ B hml hv
  obtain ⟨rfl, hH0, hsz, hP, hK, hD0, hex, hE⟩ := hv
  have hx := B.exec
  have hb := B.bytes
  have hr := B.returns
  have hts0 := atoms_spec (ws := wt2 yJ7_copyOf_9075b cJ7_copyOf_9075b 3 (some (.array .byte))) B.pre
  have hts : ∀ w ∈ tb2, w.before _ s = true := fun w h => hts0 w (List.mem_cons_of_mem _ h)
  have hown : s.vm.findClass RJ7 = some m.cls := findClass_of_methodNamed B.named
  subst hH0
  have hD := hD0.self (sz := s.heap.size)
  generalize hAe : va_A (Wd g ad S) s.heap.size = A at hD hE ⊢
  have hA : ∀ q : Nat, s.heap.size ≤ q → A q := fun q h => by rw [← hAe]; exact Or.inr h
  have hR : Rep g ad A s S s.heap [] := ⟨hK, hP, hD, va_S.rf, hw⟩
  clear hK hP hD hD0
  have hl := lv_entry ([.ref (ad p0), .int x1]) (n := 3) (Nat.le_of_ble_eq_true rfl)
  rw [lg_entry_eq]
  generalize (lg_sl ([.ref (ad p0), .int x1]) ++ List.replicate (3 - (lg_sl ([.ref (ad p0), .int x1])).length) Slot.unset).toArray = ls at hl ⊢
  have hlg : lg S S 0 0 := lg.rf
  have hak : adk ad ad S := adk.rf
  have hl : lv_has ls 3 [(0, .ref (ad p0)), (1, .int x1)] := hl
  have hsh : shx S S := shx.rf
  unfold w_J7_copyOf_9075b at h
  refine lv_iload_n hx hb dJ7_copyOf_9075b_0 rfl (lv_at hl 1 rfl) ?_
  refine lv_aload_n hx hb dJ7_copyOf_9075b_1 rfl (lv_at hl 0 rfl) ?_
  refine va_alen (v := (Int32.ofNat (qN S p0))) hx hb hR.K hR.P p0 0 (hR.atV hT_p0) rfl rfl dJ7_copyOf_9075b_2 ?_
  refine lv_icmp_ne (tgt := 14) hx hb dJ7_copyOf_9075b_3 (by decide) (fun c1 => ?_) (fun c1 => ?_)
  · replace h := h.2 (k_ne rfl rfl c1)
    refine lv_iload_n hx hb dJ7_copyOf_9075b_14 rfl (lv_at hl 1 rfl) ?_
    obtain ⟨hv2, h⟩ := h
    have e9 : KC = 300000 := rfl
    have e8 : KS = 3720000 := rfl
    have e7 : TXB = 10000000 := rfl
    have hTX : qn S < TXB := by have := hv2.2.1; omega
    refine va_newa (atype := .byte) (ty := .byte) (a0 := (x1.toInt.toNat, .inl (fun _ => 0))) (N' := x1.toInt.toNat) hx hb (hts (.arrayClass .byte) kx_48) rfl hR.K hR.P hR.D hR.sS hA (fun _ => rfl) (fun q9 => absurd (k_lt (b := 0) rfl (by decide) q9) (Int.not_lt.mpr hv2.1)) rfl (by show x1.toInt.toNat * 1 ≤ 536870912; have := hv2.2.2; omega) (show 0 + 1 ≤ KC - qn S from hlg.c1 hv2.2.1) (show 0 + x1.toInt.toNat ≤ KS - qu S from hlg.s1 hv2.2.2) dJ7_copyOf_9075b_15 (fun q3 cA9 H hK9 hP hD hS => ?_)
    obtain rfl := cls_new2 hR.K hK9 (k := 0) rfl (fun _ h => by cases h)
    have hw8 := hR.w
    have hR := hR.new (t := 21) (n := x1.toInt.toNat) (k := x1.toInt.toNat) hTX (by decide) (fun _ => by have := hv2.2.2; omega) wN_cV hP hD hS
    have hk8 : adk ad (adx ad (qn S) q3) S := adk.rf.new (Nat.le_refl _) hTX
    have hak := hak.new (q := q3) hlg.2.2.1 hTX
    have hE := hE.ad hk8
    have hlg : lg S (wN S 21 x1.toInt.toNat x1.toInt.toNat) (0 + 1) (0 + x1.toInt.toNat) := hlg.new (t := 21) (n := x1.toInt.toNat) ⟨hv2.2.1, hv2.2.2⟩
    have hs8 : shx S (wN S 21 x1.toInt.toNat x1.toInt.toNat) := shx.new (t := 21) (n := x1.toInt.toNat) (k := x1.toInt.toNat) shx.rf hw8 hTX
    obtain ⟨am4, eam4⟩ : ∃ z, z = adx ad (qn S) q3 := ⟨_, rfl⟩
    have eq_q3 : am4 (qn S) = q3 := by rw [eam4]; exact if_pos rfl
    rw [← eam4] at hR hk8 hak hE
    obtain ⟨S5, eS5⟩ : ∃ z, z = wN S 21 x1.toInt.toNat x1.toInt.toNat := ⟨_, rfl⟩
    rw [← eS5] at hR hlg hs8
    replace h := h S5 eS5
    have hsh := hsh.tr hs8
    have hT_b6 : qT S5 (qn S) = 21 := by rw [eS5]; exact if_pos rfl
    have ea_0 : am4 p0 = ad p0 := hk8 _ (hw8.hd hT_p0 (by decide) (by decide))
    have hT_p0 := hs8.T hT_p0 (by decide)
    have hl : lv_has ls 3 [(0, .ref (am4 p0)), (1, .int x1)] := by simp only [ea_0]; exact hl
    refine W.eq (g2 := F0 m 17 ls [.ref (am4 (qn S))]) (by simp only [ea_0, eq_q3]) ?_
    clear hw8 hk8 hs8 hP hD hS e9 e8 e7 hTX
    refine lv_astore_n (lv' := [(2, .ref (am4 (qn S))), (0, .ref (am4 p0)), (1, .int x1)]) hx hb dJ7_copyOf_9075b_17 rfl hl (by decide) rfl (fun ls hl => ?_)
    refine lv_aload_n hx hb dJ7_copyOf_9075b_18 rfl (lv_at hl 1 rfl) ?_
    refine lv_iconst (v := 0) hx hb dJ7_copyOf_9075b_19 (by decide) ?_
    refine lv_aload_n hx hb dJ7_copyOf_9075b_20 rfl (lv_at hl 0 rfl) ?_
    refine lv_iconst (v := 0) hx hb dJ7_copyOf_9075b_21 (by decide) ?_
    refine lv_aload_n hx hb dJ7_copyOf_9075b_22 rfl (lv_at hl 1 rfl) ?_
    refine va_alen (v := (Int32.ofNat (qN S5 p0))) hx hb hR.K hR.P p0 0 (hR.atV hT_p0) rfl rfl dJ7_copyOf_9075b_23 ?_
    refine lv_iload_n hx hb dJ7_copyOf_9075b_24 rfl (lv_at hl 2 rfl) ?_
    refine va_mmin hx hb (by rw [hml]; exact hl.1.symm) hown (hts _ kx_49) (hts _ kx_50) (hts _ kx_40) (hts _ kx_51) (Nat.le_of_ble_eq_true rfl) (Nat.le_of_ble_eq_true rfl) (show 0 + 1 ≤ KC - qn S from hlg.c) (show 0 + x1.toInt.toNat ≤ KS - qu S from hlg.s) dJ7_copyOf_9075b_25 ?_
    refine lv_topi (fun z7 ez7 => ?_)
    obtain rfl : z7 = (if x1 < (Int32.ofNat (qN S5 p0)) then x1 else (Int32.ofNat (qN S5 p0))) := ez7
    obtain ⟨hv8, h⟩ := h
    refine va_copyi hx hb (by rw [hml]; exact hl.1.symm) hown (hts _ kx_52) (hts _ kx_53) (hts _ kx_54) (hts _ kx_55) hR.K hR.P hR.D hR.sS p0 (qn S) 0 0 (hR.atV hT_p0) (hR.atV hT_b6) rfl rfl rfl hv8.1 hv8.2.1 hv8.2.2.1 hv8.2.2.2.1 hv8.2.2.2.2.1 (fun i _ => hv8.2.2.2.2.2 _) (Nat.le_of_ble_eq_true rfl) (Nat.le_of_ble_eq_true rfl) dJ7_copyOf_9075b_28 (fun H locs hP hD hS => ?_)
    have hR : Rep g am4 A s (wC S5 (qn S) (va_cpy (qI S5 p0) (qI S5 (qn S)) (0 : Int32).toNatClampNeg (0 : Int32).toNatClampNeg (if x1 < (Int32.ofNat (qN S5 p0)) then x1 else (Int32.ofNat (qN S5 p0))).toNatClampNeg)) H locs := hR.cV hT_b6 hP hD hS
    obtain ⟨S9, eS9⟩ : ∃ z, z = wC S5 (qn S) (va_cpy (qI S5 p0) (qI S5 (qn S)) (0 : Int32).toNatClampNeg (0 : Int32).toNatClampNeg (if x1 < (Int32.ofNat (qN S5 p0)) then x1 else (Int32.ofNat (qN S5 p0))).toNatClampNeg) := ⟨_, rfl⟩
    rw [← eS9] at hR
    replace h := h S9 eS9
    have hT_b6 : qT S9 (qn S) = 21 := (congrArg (fun z => qT z (qn S)) eS9).trans hT_b6
    have hT_p0 : qT S9 p0 = 21 := (congrArg (fun z => qT z p0) eS9).trans hT_p0
    have hsh : shx S S9 := by rw [eS9]; exact hsh
    have hlg : lg S S9 (0 + 1) (0 + x1.toInt.toNat) := by rw [eS9]; exact hlg
    refine lv_aload_n hx hb dJ7_copyOf_9075b_31 rfl (lv_at hl 0 rfl) ?_
    refine W_led2 (fun hLd => ?_)
    refine W.widen (k := KC - qn S) (n := KS - qu S) hlg.c hlg.s ?_
    exact W.aret (v := .ref (am4 (qn S))) hx hb hr (Or.inr ⟨_, rfl⟩) (Or.inr ⟨_, rfl⟩) (fun t9 ht9 hW9 => ⟨⟨some (am4 (qn S)), (S9, am4), rfl, ⟨(qn S), rfl, h, hR.w, hsh, hak, hT_b6⟩, ⟨⟨by rw [ht9]; exact hR.P, hR.D⟩, _, _, by rw [ht9]; exact hLd, hlg⟩⟩, hR.sS.F ht9⟩) hR.sS.2.2 dJ7_copyOf_9075b_32
  · replace h := h.1 (k_eq rfl rfl c1)
    refine lv_aload_n hx hb dJ7_copyOf_9075b_6 rfl (lv_at hl 0 rfl) ?_
    obtain ⟨hv11, h⟩ := h
    have e9 : KC = 300000 := rfl
    have e8 : KS = 3720000 := rfl
    have e7 : TXB = 10000000 := rfl
    have hTX : qn S < TXB := by have := hv11.1.1; omega
    refine va_clone hx hb (by rw [hml]; exact hl.1.symm) hown (hts _ kx_56) (hts _ kx_57) (hts _ kx_58) (hts _ kx_59) (hts _ kx_60) (nw_of nn_castB hex) hR.K hR.P hR.D hR.sS hA p0 0 (hR.atV hT_p0) rfl (va_nm_byte (hR.K.2 0 _ rfl).2) (va_fit (fun i _ => hv11.2 i)) (Nat.le_of_ble_eq_true rfl) (Nat.le_of_ble_eq_true rfl) (show 0 + 1 ≤ KC - qn S from hlg.c1 hv11.1.1) (show 0 + qN S p0 ≤ KS - qu S from hlg.s1 hv11.1.2) dJ7_copyOf_9075b_7 (fun q10 H hK9 hP hD hS => ?_)
    have hw8 := hR.w
    have hR := hR.clone (k := qN S p0) hTX hT_p0 hP hD hS
    have hk8 : adk ad (adx ad (qn S) q10) S := adk.rf.new (Nat.le_refl _) hTX
    have hak := hak.new (q := q10) hlg.2.2.1 hTX
    have hE := hE.ad hk8
    have hlg : lg S (wK S p0 (qN S p0)) (0 + 1) (0 + (qN S p0)) := hlg.new (t := 21) (n := qN S p0) ⟨hv11.1.1, hv11.1.2⟩
    have hs8 : shx S (wK S p0 (qN S p0)) := shx.new (t := 21) (n := qN S p0) (k := qN S p0) shx.rf hw8 hTX
    obtain ⟨am12, eam12⟩ : ∃ z, z = adx ad (qn S) q10 := ⟨_, rfl⟩
    have eq_q10 : am12 (qn S) = q10 := by rw [eam12]; exact if_pos rfl
    rw [← eam12] at hR hk8 hak hE
    obtain ⟨S13, eS13⟩ : ∃ z, z = wK S p0 (qN S p0) := ⟨_, rfl⟩
    rw [← eS13] at hR hlg hs8
    replace h := h S13 eS13
    have hsh := hsh.tr hs8
    have hT_b14 : qT S13 (qn S) = 21 := by rw [eS13]; exact if_pos rfl
    have ea_0 : am12 p0 = ad p0 := hk8 _ (hw8.hd hT_p0 (by decide) (by decide))
    have hT_p0 := hs8.T hT_p0 (by decide)
    have hl : lv_has ls 3 [(0, .ref (am12 p0)), (1, .int x1)] := by simp only [ea_0]; exact hl
    refine W.eq (g2 := F0 m 10 ls [.ref (am12 (qn S))]) (by simp only [ea_0, eq_q10]) ?_
    clear hw8 hk8 hs8 hP hD hS e9 e8 e7 hTX
    refine va_castA hx hb hown (hts _ kx_61) hR.P (qn S) (hR.atV hT_b14) (va_nm_byte (hR.K.2 0 _ rfl).2) dJ7_copyOf_9075b_10 ?_
    refine W_led2 (fun hLd => ?_)
    refine W.widen (k := KC - qn S) (n := KS - qu S) hlg.c hlg.s ?_
    exact W.aret (v := .ref (am12 (qn S))) hx hb hr (Or.inr ⟨_, rfl⟩) (Or.inr ⟨_, rfl⟩) (fun t9 ht9 hW9 => ⟨⟨some (am12 (qn S)), (S13, am12), rfl, ⟨(qn S), rfl, h, hR.w, hsh, hak, hT_b14⟩, ⟨⟨by rw [ht9]; exact hR.P, hR.D⟩, _, _, by rw [ht9]; exact hLd, hlg⟩⟩, hR.sS.F ht9⟩) hR.sS.2.2 dJ7_copyOf_9075b_13
def w_J5_ensureCapacityInternal_d00df (S : MS) (p0 : Nat) (x1 : Int32) (Q : MS → Prop) : Prop := ((qR S p0 0 = some (qO S p0 0)) ∧ (∀ a4 : Int32, a4 = ((Int32.ofNat (qN S (qO S p0 0))) >>> ((qI S p0 1) &&& 31)) → (((x1 - a4).toInt ≤ 0 → Q S) ∧ (¬ (x1 - a4).toInt ≤ 0 → ((qR S p0 0 = some (qO S p0 0)) ∧ (d_J5_newCapacity_0f7a4 S p0 x1 ∧ (∃ Q13, w_J7_copyOf_9075b S (qO S p0 0) ((f_J5_newCapacity_0f7a4 S p0 x1) <<< ((qI S p0 1) &&& 31)) Q13 ∧ ∀ b18 S15, Q13 b18 S15 → (∀ S19, S19 = wR S15 p0 0 (some b18) → Q S19))))))))
set_option maxHeartbeats 2000000 in
set_option maxRecDepth 100000 in
theorem r_J5_ensureCapacityInternal_d00df (l : Launch) (g : Gr) (ad : Nat → Nat) (H0 : Heap) (S : MS) (p0 : Nat) (x1 : Int32) (hw : wfM S) (hT_p0 : qT S p0 = 13) (Q : MS → Prop) (h : w_J5_ensureCapacityInternal_d00df S p0 x1 Q) : Met l yJ5_ensureCapacityInternal_d00df (wt2 yJ5_ensureCapacityInternal_d00df cJ5_ensureCapacityInternal_d00df 3 none) ({ frames := 3, cells := KC - qn S, slots := KS - qu S, locals := 62 }) (va_Pc [.ref (ad p0), .int x1] (st_RH g ad H0 S)) (va_Qv (fun (u : MS × (Nat → Nat)) => Q u.1 ∧ wfM u.1 ∧ shx S u.1 ∧ adk ad u.2 S) (fun (u : MS × (Nat → Nat)) (t : State) => qEH g (va_A (Wd g ad S) H0.size) S H0 u t) (va_A (Wd g ad S) H0.size)) (KC - qn S) (KS - qu S) (va_A (Wd g ad S) H0.size) := by
  refine Met.ofW (cc := cJ5_ensureCapacityInternal_d00df) (maxL := 3) (ret := none) (by decide) rfl ?_
  intro p e s m args below meth c s₁ B hml hv
  obtain ⟨rfl, hH0, hsz, hP, hK, hD0, hex, hE⟩ := hv
  have hx := B.exec
  have hb := B.bytes
  have hr := B.returns
  have hts0 := atoms_spec (ws := wt2 yJ5_ensureCapacityInternal_d00df cJ5_ensureCapacityInternal_d00df 3 none) B.pre
  have hts : ∀ w ∈ tb2, w.before _ s = true := fun w h => hts0 w (List.mem_cons_of_mem _ h)
  have hown : s.vm.findClass RJ5 = some m.cls := findClass_of_methodNamed B.named
  subst hH0
  have hD := hD0.self (sz := s.heap.size)
  generalize hAe : va_A (Wd g ad S) s.heap.size = A at hD hE ⊢
  have hA : ∀ q : Nat, s.heap.size ≤ q → A q := fun q h => by rw [← hAe]; exact Or.inr h
  have hR : Rep g ad A s S s.heap [] := ⟨hK, hP, hD, va_S.rf, hw⟩
  clear hK hP hD hD0
  have hl := lv_entry ([.ref (ad p0), .int x1]) (n := 3) (Nat.le_of_ble_eq_true rfl)
  rw [lg_entry_eq]
  generalize (lg_sl ([.ref (ad p0), .int x1]) ++ List.replicate (3 - (lg_sl ([.ref (ad p0), .int x1])).length) Slot.unset).toArray = ls at hl ⊢
  have hlg : lg S S 0 0 := lg.rf
  have hak : adk ad ad S := adk.rf
  have hl : lv_has ls 3 [(0, .ref (ad p0)), (1, .int x1)] := hl
  have hsh : shx S S := shx.rf
  unfold w_J5_ensureCapacityInternal_d00df at h
  refine lv_aload_n hx hb dJ5_ensureCapacityInternal_d00df_0 rfl (lv_at hl 0 rfl) ?_
  obtain ⟨hv1, h⟩ := h
  have hT_b2 : qT S (qO S p0 0) = 21 := hR.w.ref hv1 hT_p0
  refine va_get (D := rD g) (ci := 16) (v := .ref (ad (qO S p0 0))) (C := RJ4) (T := TJ4) (N := 4) hx hb hts in2J4 hown hR.K hR.P p0 (hR.atU hT_p0) rfl 0 (by decide) (hts _ kx_30) (fun _ h9 => h9) (congrArg (fun z => some (vf ad z)) hv1) dJ5_ensureCapacityInternal_d00df_1 ?_
  refine va_alen (v := (Int32.ofNat (qN S (qO S p0 0)))) hx hb hR.K hR.P (qO S p0 0) 0 (hR.atV hT_b2) rfl rfl dJ5_ensureCapacityInternal_d00df_4 ?_
  refine lv_aload_n hx hb dJ5_ensureCapacityInternal_d00df_5 rfl (lv_at hl 0 rfl) ?_
  refine va_get (D := rD g) (ci := 16) (v := .int (qI S p0 1)) (C := RJ4) (T := TJ4) (N := 4) hx hb hts in2J4 hown hR.K hR.P p0 (hR.atU hT_p0) rfl 1 (by decide) (hts _ kx_29) (fun _ h9 => h9) rfl dJ5_ensureCapacityInternal_d00df_6 ?_
  refine lv_ishr hx hb dJ5_ensureCapacityInternal_d00df_9 ?_
  refine lv_topi (fun z3 ez3 => ?_)
  obtain rfl : z3 = ((Int32.ofNat (qN S (qO S p0 0))) >>> ((qI S p0 1) &&& 31)) := ez3
  obtain ⟨a4, ea4⟩ : ∃ z, z = ((Int32.ofNat (qN S (qO S p0 0))) >>> ((qI S p0 1) &&& 31)) := ⟨_, rfl⟩
  rw [← ea4]
  replace h := h a4 ea4
  refine lv_istore_n (lv' := [(2, .int a4), (0, .ref (ad p0)), (1, .int x1)]) hx hb dJ5_ensureCapacityInternal_d00df_10 rfl hl (by decide) rfl (fun ls hl => ?_)
  refine lv_iload_n hx hb dJ5_ensureCapacityInternal_d00df_11 rfl (lv_at hl 2 rfl) ?_
  refine lv_iload_n hx hb dJ5_ensureCapacityInternal_d00df_12 rfl (lv_at hl 0 rfl) ?_
  refine lv_isub hx hb dJ5_ensureCapacityInternal_d00df_13 ?_
  refine lv_topi (fun z5 ez5 => ?_)
  obtain rfl : z5 = (x1 - a4) := ez5
  refine lv_if_le (tgt := 38) hx hb dJ5_ensureCapacityInternal_d00df_14 (by decide) (fun c6 => ?_) (fun c6 => ?_)
  · replace h := h.1 (k_le rfl (by decide) c6)
    refine W_led2 (fun hLd => ?_)
    refine W.widen (k := KC - qn S) (n := KS - qu S) hlg.c hlg.s ?_
    exact W.vret hx hb hr (fun t9 ht9 hW9 => ⟨⟨(S, ad), rfl, ⟨h, hR.w, hsh, hak⟩, ⟨⟨by rw [ht9]; exact hR.P, hR.D⟩, _, _, by rw [ht9]; exact hLd, hlg⟩⟩, hR.sS.F ht9⟩) hR.sS.2.2 dJ5_ensureCapacityInternal_d00df_38
  · replace h := h.2 (k_nle rfl (by decide) c6)
    refine lv_aload_n hx hb dJ5_ensureCapacityInternal_d00df_17 rfl (lv_at hl 1 rfl) ?_
    refine lv_aload_n hx hb dJ5_ensureCapacityInternal_d00df_18 rfl (lv_at hl 1 rfl) ?_
    obtain ⟨hv7, h⟩ := h
    have hT_b8 : qT S (qO S p0 0) = 21 := hR.w.ref hv7 hT_p0
    refine va_get (D := rD g) (ci := 16) (v := .ref (ad (qO S p0 0))) (C := RJ4) (T := TJ4) (N := 4) hx hb hts in2J4 hown hR.K hR.P p0 (hR.atU hT_p0) rfl 0 (by decide) (hts _ kx_30) (fun _ h9 => h9) (congrArg (fun z => some (vf ad z)) hv7) dJ5_ensureCapacityInternal_d00df_19 ?_
    refine lv_aload_n hx hb dJ5_ensureCapacityInternal_d00df_22 rfl (lv_at hl 1 rfl) ?_
    refine lv_iload_n hx hb dJ5_ensureCapacityInternal_d00df_23 rfl (lv_at hl 2 rfl) ?_
    obtain ⟨hv9, h⟩ := h
    have hFc := rfree hR hA
    refine va_calli (va_runU (As := [.int x1]) (rest := [.ref (ad (qO S p0 0)), .ref (ad p0)]) ⟨hx, hb, hml, hown, hts⟩ (r_J5_newCapacity_0f7a4 l g ad s.heap.size S p0 x1 hR.w hT_p0 hv9) (va_cwU (C := RJ4) (owner := RJ5) 1 hts (gd2_U kx_62 kx_66 kx_67 kx_63 kx_36 kx_65) rfl rfl rfl rfl (by decide +kernel) ⟨Nat.le_of_ble_eq_true rfl, Nat.le_of_ble_eq_true rfl⟩) ⟨rblind, va_recv hR.K hR.P (ci := 16) (q0 := p0) rfl (hR.atU hT_p0), fun U hU hW9 => rmk hU hW9 hR hex hE hFc⟩ rfl rfl hl.1 rfl (lv_room (Nat.le_of_ble_eq_true rfl)) dJ5_ensureCapacityInternal_d00df_24 ⟨(show 0 + 0 ≤ KC - qn S from hlg.c), (show 0 + 0 ≤ KS - qu S from hlg.s)⟩) hR.sS (fun q _ h => hFc q h) hFc (fun r10 u9 t9 H1 locs ht9 hvm9 hw9 hB9 hz9 hk9 hS => ?_)
    have hR : Rep g ad A s S H1 locs := hR.call ht9 hB9 hR.w hS hFc
    obtain rfl : r10 = (f_J5_newCapacity_0f7a4 S p0 x1) := hw9
    clear hB9 hz9 hk9 hvm9 ht9 hS
    generalize H1 = H at hR ⊢
    refine lv_aload_n hx hb dJ5_ensureCapacityInternal_d00df_27 rfl (lv_at hl 1 rfl) ?_
    refine va_get (D := rD g) (ci := 16) (v := .int (qI S p0 1)) (C := RJ4) (T := TJ4) (N := 4) hx hb hts in2J4 hown hR.K hR.P p0 (hR.atU hT_p0) rfl 1 (by decide) (hts _ kx_29) (fun _ h9 => h9) rfl dJ5_ensureCapacityInternal_d00df_28 ?_
    refine lv_ishl hx hb dJ5_ensureCapacityInternal_d00df_31 ?_
    refine lv_topi (fun z12 ez12 => ?_)
    obtain rfl : z12 = ((f_J5_newCapacity_0f7a4 S p0 x1) <<< ((qI S p0 1) &&& 31)) := ez12
    obtain ⟨Q13, h0, h⟩ := h
    have hFc := rfree hR hA
    refine W_led2 (fun hL0 => ?_)
    refine va_callq (va_runS (As := [.ref (ad (qO S p0 0)), .int ((f_J5_newCapacity_0f7a4 S p0 x1) <<< ((qI S p0 1) &&& 31))]) (rest := [.ref (ad p0)]) ⟨hx, hb, hml, hown, hts⟩ (r_J7_copyOf_9075b l g ad H S (qO S p0 0) ((f_J5_newCapacity_0f7a4 S p0 x1) <<< ((qI S p0 1) &&& 31)) hR.w hT_b8 Q13 h0) (va_cwS 2 hts (gd2_S kx_68 kx_69 kx_70 kx_71) rfl rfl rfl (by decide +kernel) ⟨Nat.le_of_ble_eq_true rfl, Nat.le_of_ble_eq_true rfl⟩) ⟨rblindH, fun U hU hW9 => rmkH hU hW9 hR hex hE hFc⟩ rfl rfl hl.1 rfl (lv_room (Nat.le_of_ble_eq_true rfl)) dJ5_ensureCapacityInternal_d00df_32 ⟨(show 0 + (KC - qn S) ≤ KC - qn S from hlg.cm), (show 0 + (KS - qu S) ≤ KS - qu S from hlg.sm)⟩) hR.sS (fun q _ h => hFc q h) hFc (fun r14 S15 t9 H1 locs ht9 hvm9 hw9 hB9 hz9 hk9 hS => ?_)
    rcases S15 with ⟨S15, ak17⟩
    obtain ⟨hB9, dc9, ds9, hL9, hl9⟩ := hB9
    dsimp only at hw9 hB9 hl9
    rw [ht9] at hL9
    obtain ⟨b18, rfl, hq16, hw9, hs9, hk8, hT_b18⟩ := hw9
    have hw8 := hR.w
    have hak := hak.tr hk8 hlg.2.2.1
    have hE := hE.ad hk8
    have hR : Rep g ak17 A s S15 H1 locs := hR.callH ht9 hB9 hw9 hS hFc
    have hsh := hsh.tr hs9
    refine W_tight2 (hL0.tr hL9).1 (hL0.tr hL9).2.1 ?_
    have hlg := hlg.call hl9
    replace h := h b18 S15 hq16
    have ea_0 : ak17 p0 = ad p0 := hk8 _ (hw8.hd hT_p0 (by decide) (by decide))
    have hl : lv_has ls 3 [(2, .int a4), (0, .ref (ak17 p0)), (1, .int x1)] := by simp only [ea_0]; exact hl
    refine W.eq (g2 := F0 m 35 ls (.ref (ak17 b18) :: [.ref (ak17 p0)])) (by first | (simp only [ea_0]; rfl) | simp only [ea_0]) ?_
    have hT_p0 := hs9.T hT_p0 (by decide)
    clear hB9 hz9 hk9 hvm9 ht9 hw9 hs9 hS hL0 hL9
    generalize H1 = H at hR ⊢
    generalize dc9 = dc_ak17, ds9 = ds_ak17 at hlg ⊢
    refine va_put (D := rD g) (ci := 16) (v := .ref (ak17 b18)) (ty := (.array .byte)) (C := RJ4) (T := TJ4) (N := 4) hx hb hts in2J4 tyJ4 tyJ4_ok nmJ4 hown hR.K hR.P hR.D hR.sS p0 (hR.atU hT_p0) rfl 0 (by decide) (hts _ kx_30) (fun _ h9 => h9) rfl (by decide +kernel) rfl rfl (Nat.le_of_ble_eq_true rfl) dJ5_ensureCapacityInternal_d00df_35 (fun H locs hP hD hS => ?_)
    have hw9 : wfM (wR S15 p0 0 (some b18)) := hR.w.put (fun b q9 => by cases q9; exact (hT_b18).trans (by rw [hT_p0]; rfl)) (fun q9 => absurd ((congrArg (qT S15) q9).symm.trans hT_p0) (by rw [hR.w.1]; decide)) (by rw [hT_p0]; decide)
    have hR : Rep g ak17 A s (wR S15 p0 0 (some b18)) H locs := hR.pRU hT_p0 F16_s0 hw9 hP hD hS
    obtain ⟨S19, eS19⟩ : ∃ z, z = wR S15 p0 0 (some b18) := ⟨_, rfl⟩
    rw [← eS19] at hR
    replace h := h S19 eS19
    have hT_p0 : qT S19 p0 = 13 := (congrArg (fun z => qT z p0) eS19).trans hT_p0
    have hsh : shx S S19 := by rw [eS19]; exact hsh
    have hlg : lg S S19 (0 + dc_ak17) (0 + ds_ak17) := by rw [eS19]; exact hlg
    refine W_led2 (fun hLd => ?_)
    refine W.widen (k := KC - qn S) (n := KS - qu S) hlg.c hlg.s ?_
    exact W.vret hx hb hr (fun t9 ht9 hW9 => ⟨⟨(S19, ak17), rfl, ⟨h, hR.w, hsh, hak⟩, ⟨⟨by rw [ht9]; exact hR.P, hR.D⟩, _, _, by rw [ht9]; exact hLd, hlg⟩⟩, hR.sS.F ht9⟩) hR.sS.2.2 dJ5_ensureCapacityInternal_d00df_38
def w_J5_append_3fe6f (S : MS) (p0 : Nat) (x1 : Int32) (Q : Nat → MS → Prop) : Prop := (∃ Q2, w_J5_ensureCapacityInternal_d00df S p0 ((qI S p0 3) + (1 : Int32)) Q2 ∧ ∀ S3, Q2 S3 → (d_J5_isLatin1_aae02 S3 p0 ∧ (((f_J5_isLatin1_aae02 S3 p0).toInt = 0 → False) ∧ (¬ (f_J5_isLatin1_aae02 S3 p0).toInt = 0 → (d_J1_canEncode_fc78d S3 x1 ∧ (((f_J1_canEncode_fc78d S3 x1).toInt = 0 → False) ∧ (¬ (f_J1_canEncode_fc78d S3 x1).toInt = 0 → ((qR S3 p0 0 = some (qO S3 p0 0)) ∧ (∀ S17, S17 = wI S3 p0 3 ((qI S3 p0 3) + (1 : Int32)) → (((0 : Int) ≤ (qI S3 p0 3).toInt ∧ (qI S3 p0 3).toInt < (qN S17 (qO S3 p0 0) : Int)) ∧ (∀ S19, S19 = wI S17 (qO S3 p0 0) (((qI S3 p0 3).toInt).toNat) (vp_nar .byte (x1.toInt8.toInt32)) → Q p0 S19)))))))))))
set_option maxHeartbeats 2000000 in
set_option maxRecDepth 100000 in
theorem r_J5_append_3fe6f (l : Launch) (g : Gr) (ad : Nat → Nat) (H0 : Heap) (S : MS) (p0 : Nat) (x1 : Int32) (hw : wfM S) (hT_p0 : qT S p0 = 13) (Q : Nat → MS → Prop) (h : w_J5_append_3fe6f S p0 x1 Q) : Met l yJ5_append_3fe6f (wt2 yJ5_append_3fe6f cJ5_append_3fe6f 2 (some (.object "java/lang/AbstractStringBuilder"))) ({ frames := 4, cells := KC - qn S, slots := KS - qu S, locals := 84 }) (va_Pc [.ref (ad p0), .int x1] (st_RH g ad H0 S)) (va_Qq (fun (r : Option Nat) (u : MS × (Nat → Nat)) => ∃ b : Nat, r = some (u.2 b) ∧ Q b u.1 ∧ wfM u.1 ∧ shx S u.1 ∧ adk ad u.2 S ∧ qT u.1 b = 13) (fun (u : MS × (Nat → Nat)) (t : State) => qEH g (va_A (Wd g ad S) H0.size) S H0 u t) (va_A (Wd g ad S) H0.size)) (KC - qn S) (KS - qu S) (va_A (Wd g ad S) H0.size) := by
  refine Met.ofW (cc := cJ5_append_3fe6f) (maxL := 2) (ret := (some (.object "java/lang/AbstractStringBuilder"))) (by decide) rfl ?_
  intro p e s m args below meth c s₁ B hml hv
  obtain ⟨rfl, hH0, hsz, hP, hK, hD0, hex, hE⟩ := hv
  have hx := B.exec
  have hb := B.bytes
  have hr := B.returns
  have hts0 := atoms_spec (ws := wt2 yJ5_append_3fe6f cJ5_append_3fe6f 2 (some (.object "java/lang/AbstractStringBuilder"))) B.pre
  have hts : ∀ w ∈ tb2, w.before _ s = true := fun w h => hts0 w (List.mem_cons_of_mem _ h)
  have hown : s.vm.findClass RJ5 = some m.cls := findClass_of_methodNamed B.named
  subst hH0
  have hD := hD0.self (sz := s.heap.size)
  generalize hAe : va_A (Wd g ad S) s.heap.size = A at hD hE ⊢
  have hA : ∀ q : Nat, s.heap.size ≤ q → A q := fun q h => by rw [← hAe]; exact Or.inr h
  have hR : Rep g ad A s S s.heap [] := ⟨hK, hP, hD, va_S.rf, hw⟩
  clear hK hP hD hD0
  have hl := lv_entry ([.ref (ad p0), .int x1]) (n := 2) (Nat.le_of_ble_eq_true rfl)
  rw [lg_entry_eq]
  generalize (lg_sl ([.ref (ad p0), .int x1]) ++ List.replicate (2 - (lg_sl ([.ref (ad p0), .int x1])).length) Slot.unset).toArray = ls at hl ⊢
  have hlg : lg S S 0 0 := lg.rf
  have hak : adk ad ad S := adk.rf
  have hl : lv_has ls 2 [(0, .ref (ad p0)), (1, .int x1)] := hl
  have hsh : shx S S := shx.rf
  unfold w_J5_append_3fe6f at h
  refine lv_aload_n hx hb dJ5_append_3fe6f_0 rfl (lv_at hl 0 rfl) ?_
  refine lv_aload_n hx hb dJ5_append_3fe6f_1 rfl (lv_at hl 0 rfl) ?_
  refine va_get (D := rD g) (ci := 16) (v := .int (qI S p0 3)) (C := RJ4) (T := TJ4) (N := 4) hx hb hts in2J4 hown hR.K hR.P p0 (hR.atU hT_p0) rfl 3 (by decide) (hts _ kx_31) (fun _ h9 => h9) rfl dJ5_append_3fe6f_2 ?_
  refine lv_iconst (v := 1) hx hb dJ5_append_3fe6f_5 (by decide) ?_
  refine lv_iadd hx hb dJ5_append_3fe6f_6 ?_
  refine lv_topi (fun z1 ez1 => ?_)
  obtain rfl : z1 = ((qI S p0 3) + (1 : Int32)) := ez1
  obtain ⟨Q2, h0, h⟩ := h
  have hFc := rfree hR hA
  refine W_led2 (fun hL0 => ?_)
  refine va_callv (va_runU (As := [.int ((qI S p0 3) + (1 : Int32))]) (rest := []) ⟨hx, hb, hml, hown, hts⟩ (r_J5_ensureCapacityInternal_d00df l g ad s.heap S p0 ((qI S p0 3) + (1 : Int32)) hR.w hT_p0 Q2 h0) (va_cwU (C := RJ4) (owner := RJ5) 1 hts (gd2_U kx_72 kx_76 kx_77 kx_73 kx_36 kx_75) rfl rfl rfl rfl (by decide +kernel) ⟨Nat.le_of_ble_eq_true rfl, Nat.le_of_ble_eq_true rfl⟩) ⟨rblindH, va_recv hR.K hR.P (ci := 16) (q0 := p0) rfl (hR.atU hT_p0), fun U hU hW9 => rmkH hU hW9 hR hex hE hFc⟩ rfl rfl hl.1 rfl (lv_room (Nat.le_of_ble_eq_true rfl)) dJ5_append_3fe6f_7 ⟨(show 0 + (KC - qn S) ≤ KC - qn S from hlg.cm), (show 0 + (KS - qu S) ≤ KS - qu S from hlg.sm)⟩) hR.sS (fun q _ h => hFc q h) hFc (fun  S3 t9 H1 locs ht9 hvm9 hw9 hB9 hz9 hk9 hS => ?_)
  rcases S3 with ⟨S3, ak5⟩
  obtain ⟨hB9, dc9, ds9, hL9, hl9⟩ := hB9
  dsimp only at hw9 hB9 hl9
  rw [ht9] at hL9
  obtain ⟨hq4, hw9, hs9, hk8⟩ := hw9
  have hw8 := hR.w
  have hak := hak.tr hk8 hlg.2.2.1
  have hE := hE.ad hk8
  have hR : Rep g ak5 A s S3 H1 locs := hR.callH ht9 hB9 hw9 hS hFc
  have hsh := hsh.tr hs9
  refine W_tight2 (hL0.tr hL9).1 (hL0.tr hL9).2.1 ?_
  have hlg := hlg.call hl9
  replace h := h  S3 hq4
  have ea_0 : ak5 p0 = ad p0 := hk8 _ (hw8.hd hT_p0 (by decide) (by decide))
  have hl : lv_has ls 2 [(0, .ref (ak5 p0)), (1, .int x1)] := by simp only [ea_0]; exact hl
  have hT_p0 := hs9.T hT_p0 (by decide)
  clear hB9 hz9 hk9 hvm9 ht9 hw9 hs9 hS hL0 hL9
  generalize H1 = H at hR ⊢
  generalize dc9 = dc_ak5, ds9 = ds_ak5 at hlg ⊢
  refine lv_aload_n hx hb dJ5_append_3fe6f_10 rfl (lv_at hl 0 rfl) ?_
  obtain ⟨hv6, h⟩ := h
  have hFc := rfree hR hA
  refine va_calli (va_runU (As := []) (rest := []) ⟨hx, hb, hml, hown, hts⟩ (r_J5_isLatin1_aae02 l g ak5 H.size S3 p0 hR.w hT_p0 hv6) (va_cwU (C := RJ4) (owner := RJ5) 0 hts (gd2_U kx_78 kx_82 kx_83 kx_79 kx_36 kx_81) rfl rfl rfl rfl (by decide +kernel) ⟨Nat.le_of_ble_eq_true rfl, Nat.le_of_ble_eq_true rfl⟩) ⟨rblind, va_recv hR.K hR.P (ci := 16) (q0 := p0) rfl (hR.atU hT_p0), fun U hU hW9 => rmk hU hW9 hR hex hE hFc⟩ rfl rfl hl.1 rfl (lv_room (Nat.le_of_ble_eq_true rfl)) dJ5_append_3fe6f_11 ⟨(show 0 + dc_ak5 + 0 ≤ KC - qn S from hlg.c), (show 0 + ds_ak5 + 0 ≤ KS - qu S from hlg.s)⟩) hR.sS (fun q _ h => hFc q h) hFc (fun r7 u9 t9 H1 locs ht9 hvm9 hw9 hB9 hz9 hk9 hS => ?_)
  have hR : Rep g ak5 A s S3 H1 locs := hR.call ht9 hB9 hR.w hS hFc
  obtain ⟨rfl, hz_r7⟩ := hw9
  clear hB9 hz9 hk9 hvm9 ht9 hS
  generalize H1 = H at hR ⊢
  refine lv_if_eq (tgt := 45) hx hb dJ5_append_3fe6f_14 (by decide) (fun c9 => ?_) (fun c9 => ?_)
  · replace h := h.1 (k_eq rfl (by decide) c9)
    exact h.elim
  · replace h := h.2 (k_ne rfl (by decide) c9)
    refine lv_iload_n hx hb dJ5_append_3fe6f_17 rfl (lv_at hl 1 rfl) ?_
    obtain ⟨hv10, h⟩ := h
    have hFc := rfree hR hA
    refine va_calli (va_runS (As := [.int x1]) (rest := []) ⟨hx, hb, hml, hown, hts⟩ (r_J1_canEncode_fc78d l g ak5 H.size S3 x1 hR.w  hv10) (va_cwS 1 hts (gd2_S kx_84 kx_85 kx_22 kx_86) rfl rfl rfl (by decide +kernel) ⟨Nat.le_of_ble_eq_true rfl, Nat.le_of_ble_eq_true rfl⟩) ⟨rblind, fun U hU hW9 => rmk hU hW9 hR hex hE hFc⟩ rfl rfl hl.1 rfl (lv_room (Nat.le_of_ble_eq_true rfl)) dJ5_append_3fe6f_18 ⟨(show 0 + dc_ak5 + 0 ≤ KC - qn S from hlg.c), (show 0 + ds_ak5 + 0 ≤ KS - qu S from hlg.s)⟩) hR.sS (fun q _ h => hFc q h) hFc (fun r11 u9 t9 H1 locs ht9 hvm9 hw9 hB9 hz9 hk9 hS => ?_)
    have hR : Rep g ak5 A s S3 H1 locs := hR.call ht9 hB9 hR.w hS hFc
    obtain ⟨rfl, hz_r11⟩ := hw9
    clear hB9 hz9 hk9 hvm9 ht9 hS
    generalize H1 = H at hR ⊢
    refine lv_if_eq (tgt := 45) hx hb dJ5_append_3fe6f_21 (by decide) (fun c13 => ?_) (fun c13 => ?_)
    · replace h := h.1 (k_eq rfl (by decide) c13)
      exact h.elim
    · replace h := h.2 (k_ne rfl (by decide) c13)
      refine lv_aload_n hx hb dJ5_append_3fe6f_24 rfl (lv_at hl 0 rfl) ?_
      obtain ⟨hv14, h⟩ := h
      have hT_b15 : qT S3 (qO S3 p0 0) = 21 := hR.w.ref hv14 hT_p0
      refine va_get (D := rD g) (ci := 16) (v := .ref (ak5 (qO S3 p0 0))) (C := RJ4) (T := TJ4) (N := 4) hx hb hts in2J4 hown hR.K hR.P p0 (hR.atU hT_p0) rfl 0 (by decide) (hts _ kx_30) (fun _ h9 => h9) (congrArg (fun z => some (vf ak5 z)) hv14) dJ5_append_3fe6f_25 ?_
      refine lv_aload_n hx hb dJ5_append_3fe6f_28 rfl (lv_at hl 0 rfl) ?_
      refine lv_dup hx hb dJ5_append_3fe6f_29 rfl ?_
      refine va_get (D := rD g) (ci := 16) (v := .int (qI S3 p0 3)) (C := RJ4) (T := TJ4) (N := 4) hx hb hts in2J4 hown hR.K hR.P p0 (hR.atU hT_p0) rfl 3 (by decide) (hts _ kx_31) (fun _ h9 => h9) rfl dJ5_append_3fe6f_30 ?_
      refine lv_dup_x1 hx hb dJ5_append_3fe6f_33 rfl rfl ?_
      refine lv_iconst (v := 1) hx hb dJ5_append_3fe6f_34 (by decide) ?_
      refine lv_iadd hx hb dJ5_append_3fe6f_35 ?_
      refine lv_topi (fun z16 ez16 => ?_)
      obtain rfl : z16 = ((qI S3 p0 3) + (1 : Int32)) := ez16
      refine va_put (D := rD g) (ci := 16) (v := .int ((qI S3 p0 3) + (1 : Int32))) (ty := .int) (C := RJ4) (T := TJ4) (N := 4) hx hb hts in2J4 tyJ4 tyJ4_ok nmJ4 hown hR.K hR.P hR.D hR.sS p0 (hR.atU hT_p0) rfl 3 (by decide) (hts _ kx_31) (fun _ h9 => h9) rfl (by decide +kernel) rfl rfl (Nat.le_of_ble_eq_true rfl) dJ5_append_3fe6f_36 (fun H locs hP hD hS => ?_)
      have hR : Rep g ak5 A s (wI S3 p0 3 ((qI S3 p0 3) + (1 : Int32))) H locs := hR.pIU hT_p0 F16_s3 hP hD hS
      obtain ⟨S17, eS17⟩ : ∃ z, z = wI S3 p0 3 ((qI S3 p0 3) + (1 : Int32)) := ⟨_, rfl⟩
      rw [← eS17] at hR
      replace h := h S17 eS17
      have hT_p0 : qT S17 p0 = 13 := (congrArg (fun z => qT z p0) eS17).trans hT_p0
      have hT_b15 : qT S17 (qO S3 p0 0) = 21 := (congrArg (fun z => qT z (qO S3 p0 0)) eS17).trans hT_b15
      have hsh : shx S S17 := by rw [eS17]; exact hsh
      have hlg : lg S S17 (0 + dc_ak5) (0 + ds_ak5) := by rw [eS17]; exact hlg
      refine lv_iload_n hx hb dJ5_append_3fe6f_39 rfl (lv_at hl 1 rfl) ?_
      refine lv_i2b (v := (x1.toInt8.toInt32)) hx hb dJ5_append_3fe6f_40 rfl ?_
      obtain ⟨hv18, h⟩ := h
      refine va_bast hx hb hR.K hR.P hR.D hR.sS (qO S3 p0 0) 0 (hR.atV hT_b15) rfl (k_ix (x := (qI S3 p0 3)) (a := (qI S3 p0 3).toInt) rfl hv18) dJ5_append_3fe6f_41 (fun H locs hP hD hS => ?_)
      have hR : Rep g ak5 A s (wI S17 (qO S3 p0 0) (((qI S3 p0 3).toInt).toNat) (vp_nar .byte (x1.toInt8.toInt32))) H locs := hR.aV hT_b15 hP hD hS
      obtain ⟨S19, eS19⟩ : ∃ z, z = wI S17 (qO S3 p0 0) (((qI S3 p0 3).toInt).toNat) (vp_nar .byte (x1.toInt8.toInt32)) := ⟨_, rfl⟩
      rw [← eS19] at hR
      replace h := h S19 eS19
      have hT_p0 : qT S19 p0 = 13 := (congrArg (fun z => qT z p0) eS19).trans hT_p0
      have hsh : shx S S19 := by rw [eS19]; exact hsh
      have hlg : lg S S19 (0 + dc_ak5) (0 + ds_ak5) := by rw [eS19]; exact hlg
      refine lv_goto (tgt := 75) hx hb dJ5_append_3fe6f_42 (by decide) ?_
      refine lv_aload_n hx hb dJ5_append_3fe6f_75 rfl (lv_at hl 0 rfl) ?_
      refine W_led2 (fun hLd => ?_)
      refine W.widen (k := KC - qn S) (n := KS - qu S) hlg.c hlg.s ?_
      exact W.aret (v := .ref (ak5 p0)) hx hb hr (Or.inl ⟨_, rfl⟩) (Or.inr ⟨_, rfl⟩) (fun t9 ht9 hW9 => ⟨⟨some (ak5 p0), (S19, ak5), rfl, ⟨p0, rfl, h, hR.w, hsh, hak, hT_p0⟩, ⟨⟨by rw [ht9]; exact hR.P, hR.D⟩, _, _, by rw [ht9]; exact hLd, hlg⟩⟩, hR.sS.F ht9⟩) hR.sS.2.2 dJ5_append_3fe6f_76
def w_J4_append_cf468 (S : MS) (p0 : Nat) (x1 : Int32) (Q : Nat → MS → Prop) : Prop := (∃ Q1, w_J5_append_3fe6f S p0 x1 Q1 ∧ ∀ b6 S3, Q1 b6 S3 → Q p0 S3)
set_option maxHeartbeats 2000000 in
set_option maxRecDepth 100000 in
theorem r_J4_append_cf468 (l : Launch) (g : Gr) (ad : Nat → Nat) (H0 : Heap) (S : MS) (p0 : Nat) (x1 : Int32) (hw : wfM S) (hT_p0 : qT S p0 = 13) (Q : Nat → MS → Prop) (h : w_J4_append_cf468 S p0 x1 Q) : Met l yJ4_append_cf468 (wt2 yJ4_append_cf468 cJ4_append_cf468 2 (some (.object "java/lang/StringBuilder"))) ({ frames := 5, cells := KC - qn S, slots := KS - qu S, locals := 105 }) (va_Pc [.ref (ad p0), .int x1] (st_RH g ad H0 S)) (va_Qq (fun (r : Option Nat) (u : MS × (Nat → Nat)) => ∃ b : Nat, r = some (u.2 b) ∧ Q b u.1 ∧ wfM u.1 ∧ shx S u.1 ∧ adk ad u.2 S ∧ qT u.1 b = 13) (fun (u : MS × (Nat → Nat)) (t : State) => qEH g (va_A (Wd g ad S) H0.size) S H0 u t) (va_A (Wd g ad S) H0.size)) (KC - qn S) (KS - qu S) (va_A (Wd g ad S) H0.size) := by
  refine Met.ofW (cc := cJ4_append_cf468) (maxL := 2) (ret := (some (.object "java/lang/StringBuilder"))) (by decide) rfl ?_
  intro p e s m args below meth c s₁ B hml hv
  obtain ⟨rfl, hH0, hsz, hP, hK, hD0, hex, hE⟩ := hv
  have hx := B.exec
  have hb := B.bytes
  have hr := B.returns
  have hts0 := atoms_spec (ws := wt2 yJ4_append_cf468 cJ4_append_cf468 2 (some (.object "java/lang/StringBuilder"))) B.pre
  have hts : ∀ w ∈ tb2, w.before _ s = true := fun w h => hts0 w (List.mem_cons_of_mem _ h)
  have hown : s.vm.findClass RJ4 = some m.cls := findClass_of_methodNamed B.named
  subst hH0
  have hD := hD0.self (sz := s.heap.size)
  generalize hAe : va_A (Wd g ad S) s.heap.size = A at hD hE ⊢
  have hA : ∀ q : Nat, s.heap.size ≤ q → A q := fun q h => by rw [← hAe]; exact Or.inr h
  have hR : Rep g ad A s S s.heap [] := ⟨hK, hP, hD, va_S.rf, hw⟩
  clear hK hP hD hD0
  have hl := lv_entry ([.ref (ad p0), .int x1]) (n := 2) (Nat.le_of_ble_eq_true rfl)
  rw [lg_entry_eq]
  generalize (lg_sl ([.ref (ad p0), .int x1]) ++ List.replicate (2 - (lg_sl ([.ref (ad p0), .int x1])).length) Slot.unset).toArray = ls at hl ⊢
  have hlg : lg S S 0 0 := lg.rf
  have hak : adk ad ad S := adk.rf
  have hl : lv_has ls 2 [(0, .ref (ad p0)), (1, .int x1)] := hl
  have hsh : shx S S := shx.rf
  unfold w_J4_append_cf468 at h
  refine lv_aload_n hx hb dJ4_append_cf468_0 rfl (lv_at hl 0 rfl) ?_
  refine lv_iload_n hx hb dJ4_append_cf468_1 rfl (lv_at hl 1 rfl) ?_
  obtain ⟨Q1, h0, h⟩ := h
  have hFc := rfree hR hA
  refine W_led2 (fun hL0 => ?_)
  refine va_callq (va_runSU (hR.K.1 16 _ rfl).2 (As := [.int x1]) (rest := []) ⟨hx, hb, hml, hown, hts⟩ (r_J5_append_3fe6f l g ad s.heap S p0 x1 hR.w hT_p0 Q1 h0) (va_cwSU 1 hts (gd2_SU kx_87 kx_88 kx_34 kx_89 kx_36 kx_90) rfl rfl rfl (by decide +kernel) ⟨Nat.le_of_ble_eq_true rfl, Nat.le_of_ble_eq_true rfl⟩) ⟨rblindH, va_recv hR.K hR.P (ci := 16) (q0 := p0) rfl (hR.atU hT_p0), fun U hU hW9 => rmkH hU hW9 hR hex hE hFc⟩ rfl rfl hl.1 rfl (lv_room (Nat.le_of_ble_eq_true rfl)) dJ4_append_cf468_2 ⟨(show 0 + (KC - qn S) ≤ KC - qn S from hlg.cm), (show 0 + (KS - qu S) ≤ KS - qu S from hlg.sm)⟩) hR.sS (fun q _ h => hFc q h) hFc (fun r2 S3 t9 H1 locs ht9 hvm9 hw9 hB9 hz9 hk9 hS => ?_)
  rcases S3 with ⟨S3, ak5⟩
  obtain ⟨hB9, dc9, ds9, hL9, hl9⟩ := hB9
  dsimp only at hw9 hB9 hl9
  rw [ht9] at hL9
  obtain ⟨b6, rfl, hq4, hw9, hs9, hk8, hT_b6⟩ := hw9
  have hw8 := hR.w
  have hak := hak.tr hk8 hlg.2.2.1
  have hE := hE.ad hk8
  have hR : Rep g ak5 A s S3 H1 locs := hR.callH ht9 hB9 hw9 hS hFc
  have hsh := hsh.tr hs9
  refine W_tight2 (hL0.tr hL9).1 (hL0.tr hL9).2.1 ?_
  have hlg := hlg.call hl9
  replace h := h b6 S3 hq4
  have ea_0 : ak5 p0 = ad p0 := hk8 _ (hw8.hd hT_p0 (by decide) (by decide))
  have hl : lv_has ls 2 [(0, .ref (ak5 p0)), (1, .int x1)] := by simp only [ea_0]; exact hl
  have hT_p0 := hs9.T hT_p0 (by decide)
  clear hB9 hz9 hk9 hvm9 ht9 hw9 hs9 hS hL0 hL9
  generalize H1 = H at hR ⊢
  generalize dc9 = dc_ak5, ds9 = ds_ak5 at hlg ⊢
  refine lv_pop hx hb dJ4_append_cf468_5 rfl ?_
  refine lv_aload_n hx hb dJ4_append_cf468_6 rfl (lv_at hl 0 rfl) ?_
  refine W_led2 (fun hLd => ?_)
  refine W.widen (k := KC - qn S) (n := KS - qu S) hlg.c hlg.s ?_
  exact W.aret (v := .ref (ak5 p0)) hx hb hr (Or.inl ⟨_, rfl⟩) (Or.inr ⟨_, rfl⟩) (fun t9 ht9 hW9 => ⟨⟨some (ak5 p0), (S3, ak5), rfl, ⟨p0, rfl, h, hR.w, hsh, hak, hT_p0⟩, ⟨⟨by rw [ht9]; exact hR.P, hR.D⟩, _, _, by rw [ht9]; exact hLd, hlg⟩⟩, hR.sS.F ht9⟩) hR.sS.2.2 dJ4_append_cf468_7
def w_J5_init_d00df (S : MS) (p0 : Nat) (x1 : Int32) (Q : MS → Prop) : Prop := (((0 : Int) ≤ x1.toInt ∧ (qn S + 1 ≤ KC ∧ qu S + x1.toInt.toNat ≤ KS)) ∧ (∀ S4, S4 = wN S 21 x1.toInt.toNat x1.toInt.toNat → (∀ S6, S6 = wR S4 p0 0 (some (qn S)) → (∀ S7, S7 = wI S6 p0 1 0 → Q S7))))
set_option maxHeartbeats 2000000 in
set_option maxRecDepth 100000 in
theorem r_J5_init_d00df (l : Launch) (g : Gr) (ad : Nat → Nat) (H0 : Heap) (S : MS) (p0 : Nat) (x1 : Int32) (hw : wfM S) (hT_p0 : qT S p0 = 13) (Q : MS → Prop) (h : w_J5_init_d00df S p0 x1 Q) : Met l yJ5_init_d00df (wt2 yJ5_init_d00df cJ5_init_d00df 2 none) ({ frames := 1, cells := KC - qn S, slots := KS - qu S, locals := 12 }) (va_Pc [.ref (ad p0), .int x1] (st_RH g ad H0 S)) (va_Qv (fun (u : MS × (Nat → Nat)) => Q u.1 ∧ wfM u.1 ∧ shx S u.1 ∧ adk ad u.2 S) (fun (u : MS × (Nat → Nat)) (t : State) => qEH g (va_A (Wd g ad S) H0.size) S H0 u t) (va_A (Wd g ad S) H0.size)) (KC - qn S) (KS - qu S) (va_A (Wd g ad S) H0.size) := by
  refine Met.ofW (cc := cJ5_init_d00df) (maxL := 2) (ret := none) (by decide) rfl ?_
  intro p e s m args below meth c s₁ B hml hv
  obtain ⟨rfl, hH0, hsz, hP, hK, hD0, hex, hE⟩ := hv
  have hx := B.exec
  have hb := B.bytes
  have hr := B.returns
  have hts0 := atoms_spec (ws := wt2 yJ5_init_d00df cJ5_init_d00df 2 none) B.pre
  have hts : ∀ w ∈ tb2, w.before _ s = true := fun w h => hts0 w (List.mem_cons_of_mem _ h)
  have hown : s.vm.findClass RJ5 = some m.cls := findClass_of_methodNamed B.named
  subst hH0
  have hD := hD0.self (sz := s.heap.size)
  generalize hAe : va_A (Wd g ad S) s.heap.size = A at hD hE ⊢
  have hA : ∀ q : Nat, s.heap.size ≤ q → A q := fun q h => by rw [← hAe]; exact Or.inr h
  have hR : Rep g ad A s S s.heap [] := ⟨hK, hP, hD, va_S.rf, hw⟩
  clear hK hP hD hD0
  have hl := lv_entry ([.ref (ad p0), .int x1]) (n := 2) (Nat.le_of_ble_eq_true rfl)
  rw [lg_entry_eq]
  generalize (lg_sl ([.ref (ad p0), .int x1]) ++ List.replicate (2 - (lg_sl ([.ref (ad p0), .int x1])).length) Slot.unset).toArray = ls at hl ⊢
  have hlg : lg S S 0 0 := lg.rf
  have hak : adk ad ad S := adk.rf
  have hin9 : meth.name = "<init>" := (name_of_methodNamed B.named B.method).1
  have hl : lv_has ls 2 [(0, .ref (ad p0)), (1, .int x1)] := hl
  have hsh : shx S S := shx.rf
  unfold w_J5_init_d00df at h
  refine lv_aload_n hx hb dJ5_init_d00df_0 rfl (lv_at hl 0 rfl) ?_
  refine W.objInit hx hb hown (hts _ kx_91) (hts _ kx_92) (hts _ kx_93) rfl (by rw [hml]; exact hl.1) rfl dJ5_init_d00df_1 (Nat.le_of_ble_eq_true rfl) (Nat.le_of_ble_eq_true rfl) ?_
  refine W.eq (g2 := F0 m 4 ls []) rfl ?_
  refine va_gets (C := "java/lang/String") (n := "COMPACT_STRINGS") (d := "Z") (v := .int 1) hx hb hE.1.1 hR.sS hown (hts _ kx_28) (fun _ h9 => h9) dJ5_init_d00df_4 ?_
  refine lv_if_eq (tgt := 25) hx hb dJ5_init_d00df_7 (by decide) (fun c9 => absurd c9 (by decide)) (fun _ => ?_)
  refine lv_aload_n hx hb dJ5_init_d00df_10 rfl (lv_at hl 0 rfl) ?_
  refine lv_iload_n hx hb dJ5_init_d00df_11 rfl (lv_at hl 1 rfl) ?_
  obtain ⟨hv1, h⟩ := h
  have e9 : KC = 300000 := rfl
  have e8 : KS = 3720000 := rfl
  have e7 : TXB = 10000000 := rfl
  have hTX : qn S < TXB := by have := hv1.2.1; omega
  refine va_newa (atype := .byte) (ty := .byte) (a0 := (x1.toInt.toNat, .inl (fun _ => 0))) (N' := x1.toInt.toNat) hx hb (hts (.arrayClass .byte) kx_48) rfl hR.K hR.P hR.D hR.sS hA (fun _ => rfl) (fun q9 => absurd (k_lt (b := 0) rfl (by decide) q9) (Int.not_lt.mpr hv1.1)) rfl (by show x1.toInt.toNat * 1 ≤ 536870912; have := hv1.2.2; omega) (show 0 + 1 ≤ KC - qn S from hlg.c1 hv1.2.1) (show 0 + x1.toInt.toNat ≤ KS - qu S from hlg.s1 hv1.2.2) dJ5_init_d00df_12 (fun q2 cA9 H hK9 hP hD hS => ?_)
  obtain rfl := cls_new2 hR.K hK9 (k := 0) rfl (fun _ h => by cases h)
  have hw8 := hR.w
  have hR := hR.new (t := 21) (n := x1.toInt.toNat) (k := x1.toInt.toNat) hTX (by decide) (fun _ => by have := hv1.2.2; omega) wN_cV hP hD hS
  have hk8 : adk ad (adx ad (qn S) q2) S := adk.rf.new (Nat.le_refl _) hTX
  have hak := hak.new (q := q2) hlg.2.2.1 hTX
  have hE := hE.ad hk8
  have hlg : lg S (wN S 21 x1.toInt.toNat x1.toInt.toNat) (0 + 1) (0 + x1.toInt.toNat) := hlg.new (t := 21) (n := x1.toInt.toNat) ⟨hv1.2.1, hv1.2.2⟩
  have hs8 : shx S (wN S 21 x1.toInt.toNat x1.toInt.toNat) := shx.new (t := 21) (n := x1.toInt.toNat) (k := x1.toInt.toNat) shx.rf hw8 hTX
  obtain ⟨am3, eam3⟩ : ∃ z, z = adx ad (qn S) q2 := ⟨_, rfl⟩
  have eq_q2 : am3 (qn S) = q2 := by rw [eam3]; exact if_pos rfl
  rw [← eam3] at hR hk8 hak hE
  obtain ⟨S4, eS4⟩ : ∃ z, z = wN S 21 x1.toInt.toNat x1.toInt.toNat := ⟨_, rfl⟩
  rw [← eS4] at hR hlg hs8
  replace h := h S4 eS4
  have hsh := hsh.tr hs8
  have hT_b5 : qT S4 (qn S) = 21 := by rw [eS4]; exact if_pos rfl
  have ea_0 : am3 p0 = ad p0 := hk8 _ (hw8.hd hT_p0 (by decide) (by decide))
  have hT_p0 := hs8.T hT_p0 (by decide)
  have hl : lv_has ls 2 [(0, .ref (am3 p0)), (1, .int x1)] := by simp only [ea_0]; exact hl
  refine W.eq (g2 := F0 m 14 ls [.ref (am3 (qn S)), .ref (am3 p0)]) (by simp only [ea_0, eq_q2]) ?_
  clear hw8 hk8 hs8 hP hD hS e9 e8 e7 hTX
  refine va_put (D := rD g) (ci := 16) (v := .ref (am3 (qn S))) (ty := (.array .byte)) (C := RJ4) (T := TJ4) (N := 4) hx hb hts in2J4 tyJ4 tyJ4_ok nmJ4 hown hR.K hR.P hR.D hR.sS p0 (hR.atU hT_p0) rfl 0 (by decide) (hts _ kx_30) (fun _ h9 => h9) rfl (by decide +kernel) rfl rfl (Nat.le_of_ble_eq_true rfl) dJ5_init_d00df_14 (fun H locs hP hD hS => ?_)
  have hw9 : wfM (wR S4 p0 0 (some (qn S))) := hR.w.put (fun b q9 => by cases q9; exact (hT_b5).trans (by rw [hT_p0]; rfl)) (fun q9 => absurd ((congrArg (qT S4) q9).symm.trans hT_p0) (by rw [hR.w.1]; decide)) (by rw [hT_p0]; decide)
  have hR : Rep g am3 A s (wR S4 p0 0 (some (qn S))) H locs := hR.pRU hT_p0 F16_s0 hw9 hP hD hS
  obtain ⟨S6, eS6⟩ : ∃ z, z = wR S4 p0 0 (some (qn S)) := ⟨_, rfl⟩
  rw [← eS6] at hR
  replace h := h S6 eS6
  have hT_p0 : qT S6 p0 = 13 := (congrArg (fun z => qT z p0) eS6).trans hT_p0
  have hsh : shx S S6 := by rw [eS6]; exact hsh
  have hlg : lg S S6 (0 + 1) (0 + x1.toInt.toNat) := by rw [eS6]; exact hlg
  refine lv_aload_n hx hb dJ5_init_d00df_17 rfl (lv_at hl 0 rfl) ?_
  refine lv_iconst (v := 0) hx hb dJ5_init_d00df_18 (by decide) ?_
  refine va_put (D := rD g) (ci := 16) (v := .int 0) (ty := .byte) (C := RJ4) (T := TJ4) (N := 4) hx hb hts in2J4 tyJ4 tyJ4_ok nmJ4 hown hR.K hR.P hR.D hR.sS p0 (hR.atU hT_p0) rfl 1 (by decide) (hts _ kx_29) (fun _ h9 => h9) rfl (by decide +kernel) rfl rfl (Nat.le_of_ble_eq_true rfl) dJ5_init_d00df_19 (fun H locs hP hD hS => ?_)
  have hR : Rep g am3 A s (wI S6 p0 1 0) H locs := hR.pIU hT_p0 F16_s1 hP hD hS
  obtain ⟨S7, eS7⟩ : ∃ z, z = wI S6 p0 1 0 := ⟨_, rfl⟩
  rw [← eS7] at hR
  replace h := h S7 eS7
  have hT_p0 : qT S7 p0 = 13 := (congrArg (fun z => qT z p0) eS7).trans hT_p0
  have hsh : shx S S7 := by rw [eS7]; exact hsh
  have hlg : lg S S7 (0 + 1) (0 + x1.toInt.toNat) := by rw [eS7]; exact hlg
  refine lv_goto (tgt := 38) hx hb dJ5_init_d00df_22 (by decide) ?_
  refine W_led2 (fun hLd => ?_)
  refine W.widen (k := KC - qn S) (n := KS - qu S) hlg.c hlg.s ?_
  exact W.vret hx hb hr (fun t9 ht9 hW9 => ⟨⟨(S7, am3), rfl, ⟨h, hR.w, hsh, hak⟩, ⟨⟨by rw [ht9]; exact hR.P, hR.D⟩, _, _, by rw [ht9]; exact hLd, hlg⟩⟩, hR.sS.F ht9⟩) hR.sS.2.2 dJ5_init_d00df_38
def w_J4_init_d00df (S : MS) (p0 : Nat) (x1 : Int32) (Q : MS → Prop) : Prop := (∃ Q1, w_J5_init_d00df S p0 x1 Q1 ∧ ∀ S2, Q1 S2 → Q S2)
set_option maxHeartbeats 2000000 in
set_option maxRecDepth 100000 in
theorem r_J4_init_d00df (l : Launch) (g : Gr) (ad : Nat → Nat) (H0 : Heap) (S : MS) (p0 : Nat) (x1 : Int32) (hw : wfM S) (hT_p0 : qT S p0 = 13) (Q : MS → Prop) (h : w_J4_init_d00df S p0 x1 Q) : Met l yJ4_init_d00df (wt2 yJ4_init_d00df cJ4_init_d00df 2 none) ({ frames := 2, cells := KC - qn S, slots := KS - qu S, locals := 33 }) (va_Pc [.ref (ad p0), .int x1] (st_RH g ad H0 S)) (va_Qv (fun (u : MS × (Nat → Nat)) => Q u.1 ∧ wfM u.1 ∧ shx S u.1 ∧ adk ad u.2 S) (fun (u : MS × (Nat → Nat)) (t : State) => qEH g (va_A (Wd g ad S) H0.size) S H0 u t) (va_A (Wd g ad S) H0.size)) (KC - qn S) (KS - qu S) (va_A (Wd g ad S) H0.size) := by
  refine Met.ofW (cc := cJ4_init_d00df) (maxL := 2) (ret := none) (by decide) rfl ?_
  intro p e s m args below meth c s₁ B hml hv
  obtain ⟨rfl, hH0, hsz, hP, hK, hD0, hex, hE⟩ := hv
  have hx := B.exec
  have hb := B.bytes
  have hr := B.returns
  have hts0 := atoms_spec (ws := wt2 yJ4_init_d00df cJ4_init_d00df 2 none) B.pre
  have hts : ∀ w ∈ tb2, w.before _ s = true := fun w h => hts0 w (List.mem_cons_of_mem _ h)
  have hown : s.vm.findClass RJ4 = some m.cls := findClass_of_methodNamed B.named
  subst hH0
  have hD := hD0.self (sz := s.heap.size)
  generalize hAe : va_A (Wd g ad S) s.heap.size = A at hD hE ⊢
  have hA : ∀ q : Nat, s.heap.size ≤ q → A q := fun q h => by rw [← hAe]; exact Or.inr h
  have hR : Rep g ad A s S s.heap [] := ⟨hK, hP, hD, va_S.rf, hw⟩
  clear hK hP hD hD0
  have hl := lv_entry ([.ref (ad p0), .int x1]) (n := 2) (Nat.le_of_ble_eq_true rfl)
  rw [lg_entry_eq]
  generalize (lg_sl ([.ref (ad p0), .int x1]) ++ List.replicate (2 - (lg_sl ([.ref (ad p0), .int x1])).length) Slot.unset).toArray = ls at hl ⊢
  have hlg : lg S S 0 0 := lg.rf
  have hak : adk ad ad S := adk.rf
  have hin9 : meth.name = "<init>" := (name_of_methodNamed B.named B.method).1
  have hl : lv_has ls 2 [(0, .ref (ad p0)), (1, .int x1)] := hl
  have hsh : shx S S := shx.rf
  unfold w_J4_init_d00df at h
  refine lv_aload_n hx hb dJ4_init_d00df_0 rfl (lv_at hl 0 rfl) ?_
  refine lv_iload_n hx hb dJ4_init_d00df_1 rfl (lv_at hl 1 rfl) ?_
  obtain ⟨Q1, h0, h⟩ := h
  have hFc := rfree hR hA
  refine W_led2 (fun hL0 => ?_)
  refine va_callv (va_runI (As := [.int x1]) (rest := []) ⟨hx, hb, hml, hown, hts⟩ (r_J5_init_d00df l g ad s.heap S p0 x1 hR.w hT_p0 Q1 h0) (cwI 1 hts (gd2_I kx_95) rfl rfl rfl (hts _ kx_36) (hts _ kx_94) (hts _ kx_96) rfl (by decide +kernel) ⟨Nat.le_of_ble_eq_true rfl, Nat.le_of_ble_eq_true rfl⟩) ⟨rblindH, fun U hU hW9 => rmkH hU hW9 hR hex hE hFc⟩ rfl rfl hl.1 rfl (lv_room (Nat.le_of_ble_eq_true rfl)) dJ4_init_d00df_2 ⟨(show 0 + (KC - qn S) ≤ KC - qn S from hlg.cm), (show 0 + (KS - qu S) ≤ KS - qu S from hlg.sm)⟩) hR.sS (fun q _ h => hFc q h) hFc (fun  S2 t9 H1 locs ht9 hvm9 hw9 hB9 hz9 hk9 hS => ?_)
  rcases S2 with ⟨S2, ak4⟩
  obtain ⟨hB9, dc9, ds9, hL9, hl9⟩ := hB9
  dsimp only at hw9 hB9 hl9
  rw [ht9] at hL9
  obtain ⟨hq3, hw9, hs9, hk8⟩ := hw9
  have hw8 := hR.w
  have hak := hak.tr hk8 hlg.2.2.1
  have hE := hE.ad hk8
  have hR : Rep g ak4 A s S2 H1 locs := hR.callH ht9 hB9 hw9 hS hFc
  have hsh := hsh.tr hs9
  refine W_tight2 (hL0.tr hL9).1 (hL0.tr hL9).2.1 ?_
  have hlg := hlg.call hl9
  replace h := h  S2 hq3
  have ea_0 : ak4 p0 = ad p0 := hk8 _ (hw8.hd hT_p0 (by decide) (by decide))
  have hl : lv_has ls 2 [(0, .ref (ak4 p0)), (1, .int x1)] := by simp only [ea_0]; exact hl
  have hT_p0 := hs9.T hT_p0 (by decide)
  clear hB9 hz9 hk9 hvm9 ht9 hw9 hs9 hS hL0 hL9
  generalize H1 = H at hR ⊢
  generalize dc9 = dc_ak4, ds9 = ds_ak4 at hlg ⊢
  refine W_led2 (fun hLd => ?_)
  refine W.widen (k := KC - qn S) (n := KS - qu S) hlg.c hlg.s ?_
  exact W.vret hx hb hr (fun t9 ht9 hW9 => ⟨⟨(S2, ak4), rfl, ⟨h, hR.w, hsh, hak⟩, ⟨⟨by rw [ht9]; exact hR.P, hR.D⟩, _, _, by rw [ht9]; exact hLd, hlg⟩⟩, hR.sS.F ht9⟩) hR.sS.2.2 dJ4_init_d00df_5
def w_J7_checkLength_df160 (S : MS) (x0 : Int32) (x1 : Int32) (Q : MS → Prop) : Prop := ((x0.toInt ≤ x1.toInt → Q S) ∧ (¬ x0.toInt ≤ x1.toInt → False))
set_option maxHeartbeats 2000000 in
set_option maxRecDepth 100000 in
theorem r_J7_checkLength_df160 (l : Launch) (g : Gr) (ad : Nat → Nat) (sz : Nat) (S : MS) (x0 : Int32) (x1 : Int32) (hw : wfM S) (Q : MS → Prop) (h : w_J7_checkLength_df160 S x0 x1 Q) : Met l yJ7_checkLength_df160 (wt2 yJ7_checkLength_df160 cJ7_checkLength_df160 2 none) ({ frames := 0, cells := 0, slots := 0, locals := 0 }) (va_Pc [.int x0, .int x1] (st_R g ad sz S)) (va_Qv (fun (u : MS) => Q u ∧ wfM u ∧ shy S u) (fun (u : MS) (t : State) => qE g ad (va_A (Wd g ad S) sz) u t) (va_A (Wd g ad S) sz)) 0 0 (va_A (Wd g ad S) sz) := by
  refine Met.ofW (cc := cJ7_checkLength_df160) (maxL := 2) (ret := none) (by decide) rfl ?_
  intro p e s m args below meth c s₁ B hml hv
  obtain ⟨rfl, hsz, hP, hK, hD0, hex, hE⟩ := hv
  have hx := B.exec
  have hb := B.bytes
  have hr := B.returns
  have hts0 := atoms_spec (ws := wt2 yJ7_checkLength_df160 cJ7_checkLength_df160 2 none) B.pre
  have hts : ∀ w ∈ tb2, w.before _ s = true := fun w h => hts0 w (List.mem_cons_of_mem _ h)
  have hown : s.vm.findClass RJ7 = some m.cls := findClass_of_methodNamed B.named
  subst hsz
  have hD := hD0.self (sz := s.heap.size)
  generalize hAe : va_A (Wd g ad S) s.heap.size = A at hD hE ⊢
  have hA : ∀ q : Nat, s.heap.size ≤ q → A q := fun q h => by rw [← hAe]; exact Or.inr h
  have hR : Rep g ad A s S s.heap [] := ⟨hK, hP, hD, va_S.rf, hw⟩
  clear hK hP hD hD0
  have hl := lv_entry ([.int x0, .int x1]) (n := 2) (Nat.le_of_ble_eq_true rfl)
  rw [lg_entry_eq]
  generalize (lg_sl ([.int x0, .int x1]) ++ List.replicate (2 - (lg_sl ([.int x0, .int x1])).length) Slot.unset).toArray = ls at hl ⊢
  have hl : lv_has ls 2 [(0, .int x0), (1, .int x1)] := hl
  have hsh : shy S S := shy.rf
  unfold w_J7_checkLength_df160 at h
  refine lv_iload_n hx hb dJ7_checkLength_df160_0 rfl (lv_at hl 1 rfl) ?_
  refine lv_iload_n hx hb dJ7_checkLength_df160_1 rfl (lv_at hl 0 rfl) ?_
  refine lv_icmp_ge (tgt := 37) hx hb dJ7_checkLength_df160_2 (by decide) (fun c1 => ?_) (fun c1 => ?_)
  · replace h := h.1 (k_le rfl rfl c1)
    exact W.vret hx hb hr (fun t9 ht9 hW9 => ⟨⟨S, rfl, ⟨h, hR.w, hsh⟩, ⟨by rw [ht9]; exact hR.P, hR.D⟩⟩, hR.sS.F ht9⟩) hR.sS.2.2 dJ7_checkLength_df160_37
  · replace h := h.2 (k_nle rfl rfl c1)
    exact h.elim
def w_J7_copyOfRangeByte_39247 (S : MS) (p0 : Nat) (x1 : Int32) (x2 : Int32) (Q : Nat → MS → Prop) : Prop := (∃ Q1, w_J7_checkLength_df160 S x1 x2 Q1 ∧ ∀ S2, Q1 S2 → (∀ a5 : Int32, a5 = (x2 - x1) → (((0 : Int) ≤ a5.toInt ∧ (qn S2 + 1 ≤ KC ∧ qu S2 + a5.toInt.toNat ≤ KS)) ∧ (∀ S9, S9 = wN S2 21 a5.toInt.toNat a5.toInt.toNat → ((¬ x1 < 0 ∧ ¬ (0 : Int32) < 0 ∧ ¬ (if a5 < ((Int32.ofNat (qN S9 p0)) - x1) then a5 else ((Int32.ofNat (qN S9 p0)) - x1)) < 0 ∧ x1.toNatClampNeg + (if a5 < ((Int32.ofNat (qN S9 p0)) - x1) then a5 else ((Int32.ofNat (qN S9 p0)) - x1)).toNatClampNeg ≤ qN S9 p0 ∧ (0 : Int32).toNatClampNeg + (if a5 < ((Int32.ofNat (qN S9 p0)) - x1) then a5 else ((Int32.ofNat (qN S9 p0)) - x1)).toNatClampNeg ≤ qN S9 (qn S2) ∧ byt S9 p0) ∧ (∀ S14, S14 = wC S9 (qn S2) (va_cpy (qI S9 p0) (qI S9 (qn S2)) x1.toNatClampNeg (0 : Int32).toNatClampNeg (if a5 < ((Int32.ofNat (qN S9 p0)) - x1) then a5 else ((Int32.ofNat (qN S9 p0)) - x1)).toNatClampNeg) → Q (qn S2) S14))))))
set_option maxHeartbeats 2000000 in
set_option maxRecDepth 100000 in
theorem r_J7_copyOfRangeByte_39247 (l : Launch) (g : Gr) (ad : Nat → Nat) (H0 : Heap) (S : MS) (p0 : Nat) (x1 : Int32) (x2 : Int32) (hw : wfM S) (hT_p0 : qT S p0 = 21) (Q : Nat → MS → Prop) (h : w_J7_copyOfRangeByte_39247 S p0 x1 x2 Q) : Met l yJ7_copyOfRangeByte_39247 (wt2 yJ7_copyOfRangeByte_39247 cJ7_copyOfRangeByte_39247 5 (some (.array .byte))) ({ frames := 1, cells := KC - qn S, slots := KS - qu S, locals := 40 }) (va_Pc [.ref (ad p0), .int x1, .int x2] (st_RH g ad H0 S)) (va_Qq (fun (r : Option Nat) (u : MS × (Nat → Nat)) => ∃ b : Nat, r = some (u.2 b) ∧ Q b u.1 ∧ wfM u.1 ∧ shx S u.1 ∧ adk ad u.2 S ∧ qT u.1 b = 21) (fun (u : MS × (Nat → Nat)) (t : State) => qEH g (va_A (Wd g ad S) H0.size) S H0 u t) (va_A (Wd g ad S) H0.size)) (KC - qn S) (KS - qu S) (va_A (Wd g ad S) H0.size) := by
  refine Met.ofW (cc := cJ7_copyOfRangeByte_39247) (maxL := 5) (ret := (some (.array .byte))) (by decide) rfl ?_
  intro p e s m args below meth c s₁ B hml hv
  obtain ⟨rfl, hH0, hsz, hP, hK, hD0, hex, hE⟩ := hv
  have hx := B.exec
  have hb := B.bytes
  have hr := B.returns
  have hts0 := atoms_spec (ws := wt2 yJ7_copyOfRangeByte_39247 cJ7_copyOfRangeByte_39247 5 (some (.array .byte))) B.pre
  have hts : ∀ w ∈ tb2, w.before _ s = true := fun w h => hts0 w (List.mem_cons_of_mem _ h)
  have hown : s.vm.findClass RJ7 = some m.cls := findClass_of_methodNamed B.named
  subst hH0
  have hD := hD0.self (sz := s.heap.size)
  generalize hAe : va_A (Wd g ad S) s.heap.size = A at hD hE ⊢
  have hA : ∀ q : Nat, s.heap.size ≤ q → A q := fun q h => by rw [← hAe]; exact Or.inr h
  have hR : Rep g ad A s S s.heap [] := ⟨hK, hP, hD, va_S.rf, hw⟩
  clear hK hP hD hD0
  have hl := lv_entry ([.ref (ad p0), .int x1, .int x2]) (n := 5) (Nat.le_of_ble_eq_true rfl)
  rw [lg_entry_eq]
  generalize (lg_sl ([.ref (ad p0), .int x1, .int x2]) ++ List.replicate (5 - (lg_sl ([.ref (ad p0), .int x1, .int x2])).length) Slot.unset).toArray = ls at hl ⊢
  have hlg : lg S S 0 0 := lg.rf
  have hak : adk ad ad S := adk.rf
  have hl : lv_has ls 5 [(0, .ref (ad p0)), (1, .int x1), (2, .int x2)] := hl
  have hsh : shx S S := shx.rf
  unfold w_J7_copyOfRangeByte_39247 at h
  refine lv_iload_n hx hb dJ7_copyOfRangeByte_39247_0 rfl (lv_at hl 1 rfl) ?_
  refine lv_iload_n hx hb dJ7_copyOfRangeByte_39247_1 rfl (lv_at hl 2 rfl) ?_
  obtain ⟨Q1, h0, h⟩ := h
  have hFc := rfree hR hA
  refine va_callv (va_runS (As := [.int x1, .int x2]) (rest := []) ⟨hx, hb, hml, hown, hts⟩ (r_J7_checkLength_df160 l g ad s.heap.size S x1 x2 hR.w  Q1 h0) (va_cwS 2 hts (gd2_S kx_97 kx_98 kx_70 kx_99) rfl rfl rfl (by decide +kernel) ⟨Nat.le_of_ble_eq_true rfl, Nat.le_of_ble_eq_true rfl⟩) ⟨rblind, fun U hU hW9 => rmk hU hW9 hR hex hE hFc⟩ rfl rfl hl.1 rfl (lv_room (Nat.le_of_ble_eq_true rfl)) dJ7_copyOfRangeByte_39247_2 ⟨(show 0 + 0 ≤ KC - qn S from hlg.c), (show 0 + 0 ≤ KS - qu S from hlg.s)⟩) hR.sS (fun q _ h => hFc q h) hFc (fun  S2 t9 H1 locs ht9 hvm9 hw9 hB9 hz9 hk9 hS => ?_)
  obtain ⟨hq3, hw9, hs9⟩ := hw9
  have hR : Rep g ad A s S2 H1 locs := hR.call ht9 hB9 hw9 hS hFc
  have hsh := hsh.tr hs9.1
  have hlg : lg S S2 (0) (0) := hlg.same hs9
  replace h := h  S2 hq3
  have hT_p0 := hs9.T hT_p0 (by decide)
  clear hB9 hz9 hk9 hvm9 ht9 hw9 hs9 hS
  generalize H1 = H at hR ⊢
  refine lv_iload_n hx hb dJ7_copyOfRangeByte_39247_5 rfl (lv_at hl 2 rfl) ?_
  refine lv_iload_n hx hb dJ7_copyOfRangeByte_39247_6 rfl (lv_at hl 1 rfl) ?_
  refine lv_isub hx hb dJ7_copyOfRangeByte_39247_7 ?_
  refine lv_topi (fun z4 ez4 => ?_)
  obtain rfl : z4 = (x2 - x1) := ez4
  obtain ⟨a5, ea5⟩ : ∃ z, z = (x2 - x1) := ⟨_, rfl⟩
  rw [← ea5]
  replace h := h a5 ea5
  refine lv_istore_n (lv' := [(3, .int a5), (0, .ref (ad p0)), (1, .int x1), (2, .int x2)]) hx hb dJ7_copyOfRangeByte_39247_8 rfl hl (by decide) rfl (fun ls hl => ?_)
  refine lv_iload_n hx hb dJ7_copyOfRangeByte_39247_9 rfl (lv_at hl 0 rfl) ?_
  obtain ⟨hv6, h⟩ := h
  have e9 : KC = 300000 := rfl
  have e8 : KS = 3720000 := rfl
  have e7 : TXB = 10000000 := rfl
  have hTX : qn S2 < TXB := by have := hv6.2.1; omega
  refine va_newa (atype := .byte) (ty := .byte) (a0 := (a5.toInt.toNat, .inl (fun _ => 0))) (N' := a5.toInt.toNat) hx hb (hts (.arrayClass .byte) kx_48) rfl hR.K hR.P hR.D hR.sS hA (fun _ => rfl) (fun q9 => absurd (k_lt (b := 0) rfl (by decide) q9) (Int.not_lt.mpr hv6.1)) rfl (by show a5.toInt.toNat * 1 ≤ 536870912; have := hv6.2.2; omega) (show 0 + 1 ≤ KC - qn S from hlg.c1 hv6.2.1) (show 0 + a5.toInt.toNat ≤ KS - qu S from hlg.s1 hv6.2.2) dJ7_copyOfRangeByte_39247_10 (fun q7 cA9 H hK9 hP hD hS => ?_)
  obtain rfl := cls_new2 hR.K hK9 (k := 0) rfl (fun _ h => by cases h)
  have hw8 := hR.w
  have hR := hR.new (t := 21) (n := a5.toInt.toNat) (k := a5.toInt.toNat) hTX (by decide) (fun _ => by have := hv6.2.2; omega) wN_cV hP hD hS
  have hk8 : adk ad (adx ad (qn S2) q7) S2 := adk.rf.new (Nat.le_refl _) hTX
  have hak := hak.new (q := q7) hlg.2.2.1 hTX
  have hE := hE.ad hk8
  have hlg : lg S (wN S2 21 a5.toInt.toNat a5.toInt.toNat) (0 + 1) (0 + a5.toInt.toNat) := hlg.new (t := 21) (n := a5.toInt.toNat) ⟨hv6.2.1, hv6.2.2⟩
  have hs8 : shx S2 (wN S2 21 a5.toInt.toNat a5.toInt.toNat) := shx.new (t := 21) (n := a5.toInt.toNat) (k := a5.toInt.toNat) shx.rf hw8 hTX
  obtain ⟨am8, eam8⟩ : ∃ z, z = adx ad (qn S2) q7 := ⟨_, rfl⟩
  have eq_q7 : am8 (qn S2) = q7 := by rw [eam8]; exact if_pos rfl
  rw [← eam8] at hR hk8 hak hE
  obtain ⟨S9, eS9⟩ : ∃ z, z = wN S2 21 a5.toInt.toNat a5.toInt.toNat := ⟨_, rfl⟩
  rw [← eS9] at hR hlg hs8
  replace h := h S9 eS9
  have hsh := hsh.tr hs8
  have hT_b10 : qT S9 (qn S2) = 21 := by rw [eS9]; exact if_pos rfl
  have ea_0 : am8 p0 = ad p0 := hk8 _ (hw8.hd hT_p0 (by decide) (by decide))
  have hT_p0 := hs8.T hT_p0 (by decide)
  have hl : lv_has ls 5 [(3, .int a5), (0, .ref (am8 p0)), (1, .int x1), (2, .int x2)] := by simp only [ea_0]; exact hl
  refine W.eq (g2 := F0 m 12 ls [.ref (am8 (qn S2))]) (by simp only [ea_0, eq_q7]) ?_
  clear hw8 hk8 hs8 hP hD hS e9 e8 e7 hTX
  refine lv_astore (lv' := [(4, .ref (am8 (qn S2))), (3, .int a5), (0, .ref (am8 p0)), (1, .int x1), (2, .int x2)]) hx hb dJ7_copyOfRangeByte_39247_12 hl (by decide) rfl (fun ls hl => ?_)
  refine lv_aload_n hx hb dJ7_copyOfRangeByte_39247_14 rfl (lv_at hl 2 rfl) ?_
  refine lv_iload_n hx hb dJ7_copyOfRangeByte_39247_15 rfl (lv_at hl 3 rfl) ?_
  refine lv_aload hx hb dJ7_copyOfRangeByte_39247_16 (lv_at hl 0 rfl) ?_
  refine lv_iconst (v := 0) hx hb dJ7_copyOfRangeByte_39247_18 (by decide) ?_
  refine lv_aload_n hx hb dJ7_copyOfRangeByte_39247_19 rfl (lv_at hl 2 rfl) ?_
  refine va_alen (v := (Int32.ofNat (qN S9 p0))) hx hb hR.K hR.P p0 0 (hR.atV hT_p0) rfl rfl dJ7_copyOfRangeByte_39247_20 ?_
  refine lv_iload_n hx hb dJ7_copyOfRangeByte_39247_21 rfl (lv_at hl 3 rfl) ?_
  refine lv_isub hx hb dJ7_copyOfRangeByte_39247_22 ?_
  refine lv_topi (fun z11 ez11 => ?_)
  obtain rfl : z11 = ((Int32.ofNat (qN S9 p0)) - x1) := ez11
  refine lv_iload_n hx hb dJ7_copyOfRangeByte_39247_23 rfl (lv_at hl 1 rfl) ?_
  refine va_mmin hx hb (by rw [hml]; exact hl.1.symm) hown (hts _ kx_49) (hts _ kx_50) (hts _ kx_40) (hts _ kx_51) (Nat.le_of_ble_eq_true rfl) (Nat.le_of_ble_eq_true rfl) (show 0 + 1 ≤ KC - qn S from hlg.c) (show 0 + a5.toInt.toNat ≤ KS - qu S from hlg.s) dJ7_copyOfRangeByte_39247_24 ?_
  refine lv_topi (fun z12 ez12 => ?_)
  obtain rfl : z12 = (if a5 < ((Int32.ofNat (qN S9 p0)) - x1) then a5 else ((Int32.ofNat (qN S9 p0)) - x1)) := ez12
  obtain ⟨hv13, h⟩ := h
  refine va_copyi hx hb (by rw [hml]; exact hl.1.symm) hown (hts _ kx_52) (hts _ kx_53) (hts _ kx_54) (hts _ kx_55) hR.K hR.P hR.D hR.sS p0 (qn S2) 0 0 (hR.atV hT_p0) (hR.atV hT_b10) rfl rfl rfl hv13.1 hv13.2.1 hv13.2.2.1 hv13.2.2.2.1 hv13.2.2.2.2.1 (fun i _ => hv13.2.2.2.2.2 _) (Nat.le_of_ble_eq_true rfl) (Nat.le_of_ble_eq_true rfl) dJ7_copyOfRangeByte_39247_27 (fun H locs hP hD hS => ?_)
  have hR : Rep g am8 A s (wC S9 (qn S2) (va_cpy (qI S9 p0) (qI S9 (qn S2)) x1.toNatClampNeg (0 : Int32).toNatClampNeg (if a5 < ((Int32.ofNat (qN S9 p0)) - x1) then a5 else ((Int32.ofNat (qN S9 p0)) - x1)).toNatClampNeg)) H locs := hR.cV hT_b10 hP hD hS
  obtain ⟨S14, eS14⟩ : ∃ z, z = wC S9 (qn S2) (va_cpy (qI S9 p0) (qI S9 (qn S2)) x1.toNatClampNeg (0 : Int32).toNatClampNeg (if a5 < ((Int32.ofNat (qN S9 p0)) - x1) then a5 else ((Int32.ofNat (qN S9 p0)) - x1)).toNatClampNeg) := ⟨_, rfl⟩
  rw [← eS14] at hR
  replace h := h S14 eS14
  have hT_b10 : qT S14 (qn S2) = 21 := (congrArg (fun z => qT z (qn S2)) eS14).trans hT_b10
  have hT_p0 : qT S14 p0 = 21 := (congrArg (fun z => qT z p0) eS14).trans hT_p0
  have hsh : shx S S14 := by rw [eS14]; exact hsh
  have hlg : lg S S14 (0 + 1) (0 + a5.toInt.toNat) := by rw [eS14]; exact hlg
  refine lv_aload hx hb dJ7_copyOfRangeByte_39247_30 (lv_at hl 0 rfl) ?_
  refine W_led2 (fun hLd => ?_)
  refine W.widen (k := KC - qn S) (n := KS - qu S) hlg.c hlg.s ?_
  exact W.aret (v := .ref (am8 (qn S2))) hx hb hr (Or.inr ⟨_, rfl⟩) (Or.inr ⟨_, rfl⟩) (fun t9 ht9 hW9 => ⟨⟨some (am8 (qn S2)), (S14, am8), rfl, ⟨(qn S2), rfl, h, hR.w, hsh, hak, hT_b10⟩, ⟨⟨by rw [ht9]; exact hR.P, hR.D⟩, _, _, by rw [ht9]; exact hLd, hlg⟩⟩, hR.sS.F ht9⟩) hR.sS.2.2 dJ7_copyOfRangeByte_39247_32
def w_J7_copyOfRange_39247_J10 (Q : Nat → MS → Prop) (U10 : MS) (v10_0 : Nat) (v10_1 : Int32) (v10_2 : Int32) : Prop := (∃ Q1, w_J7_copyOfRangeByte_39247 U10 v10_0 v10_1 v10_2 Q1 ∧ ∀ b6 S3, Q1 b6 S3 → Q b6 S3)
def w_J7_copyOfRange_39247 (S : MS) (p0 : Nat) (x1 : Int32) (x2 : Int32) (Q : Nat → MS → Prop) : Prop := ((x1.toInt = 0 → ((x2.toInt = (Int32.ofNat (qN S p0)).toInt → (((qn S + 1 ≤ KC ∧ qu S + qN S p0 ≤ KS) ∧ byt S p0) ∧ (∀ S12, S12 = wK S p0 (qN S p0) → Q (qn S) S12))) ∧ (¬ x2.toInt = (Int32.ofNat (qN S p0)).toInt → w_J7_copyOfRange_39247_J10 Q S p0 x1 x2))) ∧ (¬ x1.toInt = 0 → w_J7_copyOfRange_39247_J10 Q S p0 x1 x2))
set_option maxHeartbeats 2000000 in
set_option maxRecDepth 100000 in
theorem r_J7_copyOfRange_39247 (l : Launch) (g : Gr) (ad : Nat → Nat) (H0 : Heap) (S : MS) (p0 : Nat) (x1 : Int32) (x2 : Int32) (hw : wfM S) (hT_p0 : qT S p0 = 21) (Q : Nat → MS → Prop) (h : w_J7_copyOfRange_39247 S p0 x1 x2 Q) : Met l yJ7_copyOfRange_39247 (wt2 yJ7_copyOfRange_39247 cJ7_copyOfRange_39247 3 (some (.array .byte))) ({ frames := 2, cells := KC - qn S, slots := KS - qu S, locals := 64 }) (va_Pc [.ref (ad p0), .int x1, .int x2] (st_RH g ad H0 S)) (va_Qq (fun (r : Option Nat) (u : MS × (Nat → Nat)) => ∃ b : Nat, r = some (u.2 b) ∧ Q b u.1 ∧ wfM u.1 ∧ shx S u.1 ∧ adk ad u.2 S ∧ qT u.1 b = 21) (fun (u : MS × (Nat → Nat)) (t : State) => qEH g (va_A (Wd g ad S) H0.size) S H0 u t) (va_A (Wd g ad S) H0.size)) (KC - qn S) (KS - qu S) (va_A (Wd g ad S) H0.size) := by
  refine Met.ofW (cc := cJ7_copyOfRange_39247) (maxL := 3) (ret := (some (.array .byte))) (by decide) rfl ?_
  intro p e s m args below meth c s₁ B hml hv
  obtain ⟨rfl, hH0, hsz, hP, hK, hD0, hex, hE⟩ := hv
  have hx := B.exec
  have hb := B.bytes
  have hr := B.returns
  have hts0 := atoms_spec (ws := wt2 yJ7_copyOfRange_39247 cJ7_copyOfRange_39247 3 (some (.array .byte))) B.pre
  have hts : ∀ w ∈ tb2, w.before _ s = true := fun w h => hts0 w (List.mem_cons_of_mem _ h)
  have hown : s.vm.findClass RJ7 = some m.cls := findClass_of_methodNamed B.named
  subst hH0
  have hD := hD0.self (sz := s.heap.size)
  generalize hAe : va_A (Wd g ad S) s.heap.size = A at hD hE ⊢
  have hA : ∀ q : Nat, s.heap.size ≤ q → A q := fun q h => by rw [← hAe]; exact Or.inr h
  have hR : Rep g ad A s S s.heap [] := ⟨hK, hP, hD, va_S.rf, hw⟩
  clear hK hP hD hD0
  have hl := lv_entry ([.ref (ad p0), .int x1, .int x2]) (n := 3) (Nat.le_of_ble_eq_true rfl)
  rw [lg_entry_eq]
  generalize (lg_sl ([.ref (ad p0), .int x1, .int x2]) ++ List.replicate (3 - (lg_sl ([.ref (ad p0), .int x1, .int x2])).length) Slot.unset).toArray = ls at hl ⊢
  have hlg : lg S S 0 0 := lg.rf
  have hak : adk ad ad S := adk.rf
  have hl : lv_has ls 3 [(0, .ref (ad p0)), (1, .int x1), (2, .int x2)] := hl
  have hsh : shx S S := shx.rf
  unfold w_J7_copyOfRange_39247 at h
  refine lv_iload_n hx hb dJ7_copyOfRange_39247_0 rfl (lv_at hl 1 rfl) ?_
  have J_10 : ∀ (ad10 : Nat → Nat) (dc10 ds10 : Nat) (U10 : MS) (v10_0 : Nat) (v10_1 : Int32) (v10_2 : Int32) (H : Heap) (locs : List Loc) (ls : Array Slot), w_J7_copyOfRange_39247_J10 Q U10 v10_0 v10_1 v10_2 → qT U10 v10_0 = 21 → shx S U10 → lg S U10 dc10 ds10 → adk ad ad10 S → ogR ad10 A s s.heap → Rep g ad10 A s U10 H locs → lv_has ls 3 [(0, .ref (ad10 v10_0)), (1, .int v10_1), (2, .int v10_2)] → W p l e (headSpec (wt2 yJ7_copyOfRange_39247 cJ7_copyOfRange_39247 3 (some (.array .byte))) ({ frames := 2, cells := KC - qn S, slots := KS - qu S, locals := 64 })).room s m ([.ref (ad p0), .int x1, .int x2] : List Value).toArray below meth c H locs dc10 ds10 (MQ below (va_Qq (fun (r : Option Nat) (u : MS × (Nat → Nat)) => ∃ b : Nat, r = some (u.2 b) ∧ Q b u.1 ∧ wfM u.1 ∧ shx S u.1 ∧ adk ad u.2 S ∧ qT u.1 b = 21) (fun (u : MS × (Nat → Nat)) (t : State) => qEH g A S s.heap u t) A) ([.ref (ad p0), .int x1, .int x2] : List Value).toArray s (KC - qn S) (KS - qu S) A) (F0 m 10 ls []) := by
    intro ad10 dc10 ds10 U10 v10_0 v10_1 v10_2 H locs ls h hT_v10_0 hsh hlg hak hE hR hl
    unfold w_J7_copyOfRange_39247_J10 at h
    refine lv_aload_n hx hb dJ7_copyOfRange_39247_10 rfl (lv_at hl 0 rfl) ?_
    refine lv_iload_n hx hb dJ7_copyOfRange_39247_11 rfl (lv_at hl 1 rfl) ?_
    refine lv_iload_n hx hb dJ7_copyOfRange_39247_12 rfl (lv_at hl 2 rfl) ?_
    obtain ⟨Q1, h0, h⟩ := h
    have hFc := rfree hR hA
    refine W_led2 (fun hL0 => ?_)
    refine va_callq (va_runS (As := [.ref (ad10 v10_0), .int v10_1, .int v10_2]) (rest := []) ⟨hx, hb, hml, hown, hts⟩ (r_J7_copyOfRangeByte_39247 l g ad10 H U10 v10_0 v10_1 v10_2 hR.w hT_v10_0 Q1 h0) (va_cwS 3 hts (gd2_S kx_100 kx_101 kx_70 kx_102) rfl rfl rfl (by decide +kernel) ⟨Nat.le_of_ble_eq_true rfl, Nat.le_of_ble_eq_true rfl⟩) ⟨rblindH, fun U hU hW9 => rmkH hU hW9 hR hex hE hFc⟩ rfl rfl hl.1 rfl (lv_room (Nat.le_of_ble_eq_true rfl)) dJ7_copyOfRange_39247_13 ⟨(show dc10 + (KC - qn U10) ≤ KC - qn S from hlg.cm), (show ds10 + (KS - qu U10) ≤ KS - qu S from hlg.sm)⟩) hR.sS (fun q _ h => hFc q h) hFc (fun r2 S3 t9 H1 locs ht9 hvm9 hw9 hB9 hz9 hk9 hS => ?_)
    rcases S3 with ⟨S3, ak5⟩
    obtain ⟨hB9, dc9, ds9, hL9, hl9⟩ := hB9
    dsimp only at hw9 hB9 hl9
    rw [ht9] at hL9
    obtain ⟨b6, rfl, hq4, hw9, hs9, hk8, hT_b6⟩ := hw9
    have hw8 := hR.w
    have hak := hak.tr hk8 hlg.2.2.1
    have hE := hE.ad hk8
    have hR : Rep g ak5 A s S3 H1 locs := hR.callH ht9 hB9 hw9 hS hFc
    have hsh := hsh.tr hs9
    refine W_tight2 (hL0.tr hL9).1 (hL0.tr hL9).2.1 ?_
    have hlg := hlg.call hl9
    replace h := h b6 S3 hq4
    have ea_0 : ak5 v10_0 = ad10 v10_0 := hk8 _ (hw8.hd hT_v10_0 (by decide) (by decide))
    have hl : lv_has ls 3 [(0, .ref (ak5 v10_0)), (1, .int v10_1), (2, .int v10_2)] := by simp only [ea_0]; exact hl
    have hT_v10_0 := hs9.T hT_v10_0 (by decide)
    clear hB9 hz9 hk9 hvm9 ht9 hw9 hs9 hS hL0 hL9
    generalize H1 = H at hR ⊢
    generalize dc9 = dc_ak5, ds9 = ds_ak5 at hlg ⊢
    refine W_led2 (fun hLd => ?_)
    refine W.widen (k := KC - qn S) (n := KS - qu S) hlg.c hlg.s ?_
    exact W.aret (v := .ref (ak5 b6)) hx hb hr (Or.inr ⟨_, rfl⟩) (Or.inr ⟨_, rfl⟩) (fun t9 ht9 hW9 => ⟨⟨some (ak5 b6), (S3, ak5), rfl, ⟨b6, rfl, h, hR.w, hsh, hak, hT_b6⟩, ⟨⟨by rw [ht9]; exact hR.P, hR.D⟩, _, _, by rw [ht9]; exact hLd, hlg⟩⟩, hR.sS.F ht9⟩) hR.sS.2.2 dJ7_copyOfRange_39247_16
  refine lv_if_ne (tgt := 10) hx hb dJ7_copyOfRange_39247_1 (by decide) (fun c7 => ?_) (fun c7 => ?_)
  · replace h := h.2 (k_ne rfl (by decide) c7)
    exact J_10 ad (0) (0) S p0 x1 x2 _ _ ls h hT_p0 hsh hlg hak hE hR (lv_sub hl [0, 1, 2] rfl)
  · replace h := h.1 (k_eq rfl (by decide) c7)
    refine lv_iload_n hx hb dJ7_copyOfRange_39247_4 rfl (lv_at hl 2 rfl) ?_
    refine lv_aload_n hx hb dJ7_copyOfRange_39247_5 rfl (lv_at hl 0 rfl) ?_
    refine va_alen (v := (Int32.ofNat (qN S p0))) hx hb hR.K hR.P p0 0 (hR.atV hT_p0) rfl rfl dJ7_copyOfRange_39247_6 ?_
    refine lv_icmp_eq (tgt := 17) hx hb dJ7_copyOfRange_39247_7 (by decide) (fun c8 => ?_) (fun c8 => ?_)
    · replace h := h.1 (k_eq rfl rfl c8)
      refine lv_aload_n hx hb dJ7_copyOfRange_39247_17 rfl (lv_at hl 0 rfl) ?_
      obtain ⟨hv10, h⟩ := h
      have e9 : KC = 300000 := rfl
      have e8 : KS = 3720000 := rfl
      have e7 : TXB = 10000000 := rfl
      have hTX : qn S < TXB := by have := hv10.1.1; omega
      refine va_clone hx hb (by rw [hml]; exact hl.1.symm) hown (hts _ kx_56) (hts _ kx_57) (hts _ kx_58) (hts _ kx_59) (hts _ kx_60) (nw_of nn_castB hex) hR.K hR.P hR.D hR.sS hA p0 0 (hR.atV hT_p0) rfl (va_nm_byte (hR.K.2 0 _ rfl).2) (va_fit (fun i _ => hv10.2 i)) (Nat.le_of_ble_eq_true rfl) (Nat.le_of_ble_eq_true rfl) (show 0 + 1 ≤ KC - qn S from hlg.c1 hv10.1.1) (show 0 + qN S p0 ≤ KS - qu S from hlg.s1 hv10.1.2) dJ7_copyOfRange_39247_18 (fun q9 H hK9 hP hD hS => ?_)
      have hw8 := hR.w
      have hR := hR.clone (k := qN S p0) hTX hT_p0 hP hD hS
      have hk8 : adk ad (adx ad (qn S) q9) S := adk.rf.new (Nat.le_refl _) hTX
      have hak := hak.new (q := q9) hlg.2.2.1 hTX
      have hE := hE.ad hk8
      have hlg : lg S (wK S p0 (qN S p0)) (0 + 1) (0 + (qN S p0)) := hlg.new (t := 21) (n := qN S p0) ⟨hv10.1.1, hv10.1.2⟩
      have hs8 : shx S (wK S p0 (qN S p0)) := shx.new (t := 21) (n := qN S p0) (k := qN S p0) shx.rf hw8 hTX
      obtain ⟨am11, eam11⟩ : ∃ z, z = adx ad (qn S) q9 := ⟨_, rfl⟩
      have eq_q9 : am11 (qn S) = q9 := by rw [eam11]; exact if_pos rfl
      rw [← eam11] at hR hk8 hak hE
      obtain ⟨S12, eS12⟩ : ∃ z, z = wK S p0 (qN S p0) := ⟨_, rfl⟩
      rw [← eS12] at hR hlg hs8
      replace h := h S12 eS12
      have hsh := hsh.tr hs8
      have hT_b13 : qT S12 (qn S) = 21 := by rw [eS12]; exact if_pos rfl
      have ea_0 : am11 p0 = ad p0 := hk8 _ (hw8.hd hT_p0 (by decide) (by decide))
      have hT_p0 := hs8.T hT_p0 (by decide)
      have hl : lv_has ls 3 [(0, .ref (am11 p0)), (1, .int x1), (2, .int x2)] := by simp only [ea_0]; exact hl
      refine W.eq (g2 := F0 m 21 ls [.ref (am11 (qn S))]) (by simp only [ea_0, eq_q9]) ?_
      clear hw8 hk8 hs8 hP hD hS e9 e8 e7 hTX
      refine va_castA hx hb hown (hts _ kx_61) hR.P (qn S) (hR.atV hT_b13) (va_nm_byte (hR.K.2 0 _ rfl).2) dJ7_copyOfRange_39247_21 ?_
      refine W_led2 (fun hLd => ?_)
      refine W.widen (k := KC - qn S) (n := KS - qu S) hlg.c hlg.s ?_
      exact W.aret (v := .ref (am11 (qn S))) hx hb hr (Or.inr ⟨_, rfl⟩) (Or.inr ⟨_, rfl⟩) (fun t9 ht9 hW9 => ⟨⟨some (am11 (qn S)), (S12, am11), rfl, ⟨(qn S), rfl, h, hR.w, hsh, hak, hT_b13⟩, ⟨⟨by rw [ht9]; exact hR.P, hR.D⟩, _, _, by rw [ht9]; exact hLd, hlg⟩⟩, hR.sS.F ht9⟩) hR.sS.2.2 dJ7_copyOfRange_39247_24
    · replace h := h.2 (k_ne rfl rfl c8)
      exact J_10 ad (0) (0) S p0 x1 x2 _ _ ls h hT_p0 hsh hlg hak hE hR (lv_sub hl [0, 1, 2] rfl)
def w_J0_init_db425 (S : MS) (p0 : Nat) (p1 : Nat) (Q : MS → Prop) : Prop := (d_J5_getValue_6d5f1 S p1 ∧ (d_J4_length_8abf5 S p1 ∧ (∀ a7 : Int32, a7 = (f_J4_length_8abf5 S p1) → (d_J5_isLatin1_aae02 S p1 ∧ (((f_J5_isLatin1_aae02 S p1).toInt = 0 → False) ∧ (¬ (f_J5_isLatin1_aae02 S p1).toInt = 0 → (∀ S12, S12 = wI S p0 1 0 → (∃ Q13, w_J7_copyOfRange_39247 S12 (f_J5_getValue_6d5f1 S p1) (0 : Int32) a7 Q13 ∧ ∀ b18 S15, Q13 b18 S15 → (∀ S19, S19 = wR S15 p0 0 (some b18) → Q S19)))))))))
set_option maxHeartbeats 2000000 in
set_option maxRecDepth 100000 in
theorem r_J0_init_db425 (l : Launch) (g : Gr) (ad : Nat → Nat) (H0 : Heap) (S : MS) (p0 : Nat) (p1 : Nat) (hw : wfM S) (hT_p0 : qT S p0 = 24) (hT_p1 : qT S p1 = 13) (Q : MS → Prop) (h : w_J0_init_db425 S p0 p1 Q) : Met l yJ0_init_db425 (wt2 yJ0_init_db425 cJ0_init_db425 5 none) ({ frames := 3, cells := KC - qn S, slots := KS - qu S, locals := 86 }) (va_Pc [.ref (ad p0), .ref (ad p1), .null] (st_RH g ad H0 S)) (va_Qv (fun (u : MS × (Nat → Nat)) => Q u.1 ∧ wfM u.1 ∧ shx S u.1 ∧ adk ad u.2 S) (fun (u : MS × (Nat → Nat)) (t : State) => qEH g (va_A (Wd g ad S) H0.size) S H0 u t) (va_A (Wd g ad S) H0.size)) (KC - qn S) (KS - qu S) (va_A (Wd g ad S) H0.size) := by
  refine Met.ofW (cc := cJ0_init_db425) (maxL := 5) (ret := none) (by decide) rfl ?_
  intro p e s m args below meth c s₁ B hml hv
  obtain ⟨rfl, hH0, hsz, hP, hK, hD0, hex, hE⟩ := hv
  have hx := B.exec
  have hb := B.bytes
  have hr := B.returns
  have hts0 := atoms_spec (ws := wt2 yJ0_init_db425 cJ0_init_db425 5 none) B.pre
  have hts : ∀ w ∈ tb2, w.before _ s = true := fun w h => hts0 w (List.mem_cons_of_mem _ h)
  have hown : s.vm.findClass RJ0 = some m.cls := findClass_of_methodNamed B.named
  subst hH0
  have hD := hD0.self (sz := s.heap.size)
  generalize hAe : va_A (Wd g ad S) s.heap.size = A at hD hE ⊢
  have hA : ∀ q : Nat, s.heap.size ≤ q → A q := fun q h => by rw [← hAe]; exact Or.inr h
  have hR : Rep g ad A s S s.heap [] := ⟨hK, hP, hD, va_S.rf, hw⟩
  clear hK hP hD hD0
  have hl := lv_entry ([.ref (ad p0), .ref (ad p1), .null]) (n := 5) (Nat.le_of_ble_eq_true rfl)
  rw [lg_entry_eq]
  generalize (lg_sl ([.ref (ad p0), .ref (ad p1), .null]) ++ List.replicate (5 - (lg_sl ([.ref (ad p0), .ref (ad p1), .null])).length) Slot.unset).toArray = ls at hl ⊢
  have hlg : lg S S 0 0 := lg.rf
  have hak : adk ad ad S := adk.rf
  have hin9 : meth.name = "<init>" := (name_of_methodNamed B.named B.method).1
  have hl : lv_has ls 5 [(0, .ref (ad p0)), (1, .ref (ad p1)), (2, .null)] := hl
  have hsh : shx S S := shx.rf
  unfold w_J0_init_db425 at h
  refine lv_aload_n hx hb dJ0_init_db425_0 rfl (lv_at hl 0 rfl) ?_
  refine W.objInit hx hb hown (hts _ kx_103) (hts _ kx_92) (hts _ kx_93) rfl (by rw [hml]; exact hl.1) rfl dJ0_init_db425_1 (Nat.le_of_ble_eq_true rfl) (Nat.le_of_ble_eq_true rfl) ?_
  refine W.eq (g2 := F0 m 4 ls []) rfl ?_
  refine lv_aload_n hx hb dJ0_init_db425_4 rfl (lv_at hl 1 rfl) ?_
  obtain ⟨hv1, h⟩ := h
  have hFc := rfree hR hA
  refine va_callq (va_runU (As := []) (rest := []) ⟨hx, hb, hml, hown, hts⟩ (r_J5_getValue_6d5f1 l g ad s.heap.size S p1 hR.w hT_p1 hv1) (va_cwU (C := RJ4) (owner := RJ5) 0 hts (gd2_U kx_104 kx_108 kx_109 kx_105 kx_36 kx_107) rfl rfl rfl rfl (by decide +kernel) ⟨Nat.le_of_ble_eq_true rfl, Nat.le_of_ble_eq_true rfl⟩) ⟨rblind, va_recv hR.K hR.P (ci := 16) (q0 := p1) rfl (hR.atU hT_p1), fun U hU hW9 => rmk hU hW9 hR hex hE hFc⟩ rfl rfl hl.1 rfl (lv_room (Nat.le_of_ble_eq_true rfl)) dJ0_init_db425_5 ⟨(show 0 + 0 ≤ KC - qn S from hlg.c), (show 0 + 0 ≤ KS - qu S from hlg.s)⟩) hR.sS (fun q _ h => hFc q h) hFc (fun r2 u9 t9 H1 locs ht9 hvm9 hw9 hB9 hz9 hk9 hS => ?_)
  have hR : Rep g ad A s S H1 locs := hR.call ht9 hB9 hR.w hS hFc
  obtain ⟨rfl, hT_r2⟩ := hw9
  clear hB9 hz9 hk9 hvm9 ht9 hS
  generalize H1 = H at hR ⊢
  refine lv_astore_n (lv' := [(3, .ref (ad (f_J5_getValue_6d5f1 S p1))), (0, .ref (ad p0)), (1, .ref (ad p1)), (2, .null)]) hx hb dJ0_init_db425_8 rfl hl (by decide) rfl (fun ls hl => ?_)
  refine lv_aload_n hx hb dJ0_init_db425_9 rfl (lv_at hl 2 rfl) ?_
  obtain ⟨hv4, h⟩ := h
  have hFc := rfree hR hA
  refine va_calli (va_runU (As := []) (rest := []) ⟨hx, hb, hml, hown, hts⟩ (r_J4_length_8abf5 l g ad H.size S p1 hR.w hT_p1 hv4) (va_cwO (C := RJ4) (owner := RJ5) 0 hts (gd2_O kx_110 kx_33 kx_35 kx_115 kx_111 kx_113 kx_114) rfl rfl rfl kx_37 (by decide +kernel) ⟨Nat.le_of_ble_eq_true rfl, Nat.le_of_ble_eq_true rfl⟩) ⟨rblind, va_recv hR.K hR.P (ci := 16) (q0 := p1) rfl (hR.atU hT_p1), fun U hU hW9 => rmk hU hW9 hR hex hE hFc⟩ rfl rfl hl.1 rfl (lv_room (Nat.le_of_ble_eq_true rfl)) dJ0_init_db425_10 ⟨(show 0 + 0 ≤ KC - qn S from hlg.c), (show 0 + 0 ≤ KS - qu S from hlg.s)⟩) hR.sS (fun q _ h => hFc q h) hFc (fun r5 u9 t9 H1 locs ht9 hvm9 hw9 hB9 hz9 hk9 hS => ?_)
  have hR : Rep g ad A s S H1 locs := hR.call ht9 hB9 hR.w hS hFc
  obtain rfl : r5 = (f_J4_length_8abf5 S p1) := hw9
  clear hB9 hz9 hk9 hvm9 ht9 hS
  generalize H1 = H at hR ⊢
  obtain ⟨a7, ea7⟩ : ∃ z, z = (f_J4_length_8abf5 S p1) := ⟨_, rfl⟩
  rw [← ea7]
  replace h := h a7 ea7
  refine lv_istore (lv' := [(4, .int a7), (3, .ref (ad (f_J5_getValue_6d5f1 S p1))), (0, .ref (ad p0)), (1, .ref (ad p1)), (2, .null)]) hx hb dJ0_init_db425_13 hl (by decide) rfl (fun ls hl => ?_)
  refine lv_aload_n hx hb dJ0_init_db425_15 rfl (lv_at hl 3 rfl) ?_
  obtain ⟨hv8, h⟩ := h
  have hFc := rfree hR hA
  refine va_calli (va_runU (As := []) (rest := []) ⟨hx, hb, hml, hown, hts⟩ (r_J5_isLatin1_aae02 l g ad H.size S p1 hR.w hT_p1 hv8) (va_cwU (C := RJ4) (owner := RJ5) 0 hts (gd2_U kx_116 kx_82 kx_83 kx_79 kx_36 kx_81) rfl rfl rfl rfl (by decide +kernel) ⟨Nat.le_of_ble_eq_true rfl, Nat.le_of_ble_eq_true rfl⟩) ⟨rblind, va_recv hR.K hR.P (ci := 16) (q0 := p1) rfl (hR.atU hT_p1), fun U hU hW9 => rmk hU hW9 hR hex hE hFc⟩ rfl rfl hl.1 rfl (lv_room (Nat.le_of_ble_eq_true rfl)) dJ0_init_db425_16 ⟨(show 0 + 0 ≤ KC - qn S from hlg.c), (show 0 + 0 ≤ KS - qu S from hlg.s)⟩) hR.sS (fun q _ h => hFc q h) hFc (fun r9 u9 t9 H1 locs ht9 hvm9 hw9 hB9 hz9 hk9 hS => ?_)
  have hR : Rep g ad A s S H1 locs := hR.call ht9 hB9 hR.w hS hFc
  obtain ⟨rfl, hz_r9⟩ := hw9
  clear hB9 hz9 hk9 hvm9 ht9 hS
  generalize H1 = H at hR ⊢
  refine lv_if_eq (tgt := 41) hx hb dJ0_init_db425_19 (by decide) (fun c11 => ?_) (fun c11 => ?_)
  · replace h := h.1 (k_eq rfl (by decide) c11)
    exact h.elim
  · replace h := h.2 (k_ne rfl (by decide) c11)
    refine lv_aload_n hx hb dJ0_init_db425_22 rfl (lv_at hl 2 rfl) ?_
    refine lv_iconst (v := 0) hx hb dJ0_init_db425_23 (by decide) ?_
    refine va_putF (D := rD g) (ci := 15) (v := .int 0) (ty := .byte) (C := RJ0) (T := TJ0) (N := 4) hx hb hts in2J0 tyJ0 tyJ0_ok nmJ0 hown hR.K hR.P hR.D hR.sS p0 (hR.atT hT_p0) rfl 1 (by decide) (hts _ kx_1) (fun _ h9 => h9) rfl hin9 rfl (by decide +kernel) rfl rfl (Nat.le_of_ble_eq_true rfl) dJ0_init_db425_24 (fun H locs hP hD hS => ?_)
    have hR : Rep g ad A s (wI S p0 1 0) H locs := hR.pIT hT_p0 F16_s1 hP hD hS
    obtain ⟨S12, eS12⟩ : ∃ z, z = wI S p0 1 0 := ⟨_, rfl⟩
    rw [← eS12] at hR
    replace h := h S12 eS12
    have hT_r2 : qT S12 (f_J5_getValue_6d5f1 S p1) = 21 := (congrArg (fun z => qT z (f_J5_getValue_6d5f1 S p1)) eS12).trans hT_r2
    have hT_p0 : qT S12 p0 = 24 := (congrArg (fun z => qT z p0) eS12).trans hT_p0
    have hT_p1 : qT S12 p1 = 13 := (congrArg (fun z => qT z p1) eS12).trans hT_p1
    have hsh : shx S S12 := by rw [eS12]; exact hsh
    have hlg : lg S S12 (0) (0) := by rw [eS12]; exact hlg
    refine lv_aload_n hx hb dJ0_init_db425_27 rfl (lv_at hl 2 rfl) ?_
    refine lv_aload_n hx hb dJ0_init_db425_28 rfl (lv_at hl 1 rfl) ?_
    refine lv_iconst (v := 0) hx hb dJ0_init_db425_29 (by decide) ?_
    refine lv_iload hx hb dJ0_init_db425_30 (lv_at hl 0 rfl) ?_
    obtain ⟨Q13, h0, h⟩ := h
    have hFc := rfree hR hA
    refine W_led2 (fun hL0 => ?_)
    refine va_callq (va_runS (As := [.ref (ad (f_J5_getValue_6d5f1 S p1)), .int 0, .int a7]) (rest := [.ref (ad p0)]) ⟨hx, hb, hml, hown, hts⟩ (r_J7_copyOfRange_39247 l g ad H S12 (f_J5_getValue_6d5f1 S p1) (0 : Int32) a7 hR.w hT_r2 Q13 h0) (va_cwS 3 hts (gd2_S kx_117 kx_118 kx_70 kx_119) rfl rfl rfl (by decide +kernel) ⟨Nat.le_of_ble_eq_true rfl, Nat.le_of_ble_eq_true rfl⟩) ⟨rblindH, fun U hU hW9 => rmkH hU hW9 hR hex hE hFc⟩ rfl rfl hl.1 rfl (lv_room (Nat.le_of_ble_eq_true rfl)) dJ0_init_db425_32 ⟨(show 0 + (KC - qn S12) ≤ KC - qn S from hlg.cm), (show 0 + (KS - qu S12) ≤ KS - qu S from hlg.sm)⟩) hR.sS (fun q _ h => hFc q h) hFc (fun r14 S15 t9 H1 locs ht9 hvm9 hw9 hB9 hz9 hk9 hS => ?_)
    rcases S15 with ⟨S15, ak17⟩
    obtain ⟨hB9, dc9, ds9, hL9, hl9⟩ := hB9
    dsimp only at hw9 hB9 hl9
    rw [ht9] at hL9
    obtain ⟨b18, rfl, hq16, hw9, hs9, hk8, hT_b18⟩ := hw9
    have hw8 := hR.w
    have hak := hak.tr hk8 hlg.2.2.1
    have hE := hE.ad hk8
    have hR : Rep g ak17 A s S15 H1 locs := hR.callH ht9 hB9 hw9 hS hFc
    have hsh := hsh.tr hs9
    refine W_tight2 (hL0.tr hL9).1 (hL0.tr hL9).2.1 ?_
    have hlg := hlg.call hl9
    replace h := h b18 S15 hq16
    have ea_0 : ak17 (f_J5_getValue_6d5f1 S p1) = ad (f_J5_getValue_6d5f1 S p1) := hk8 _ (hw8.hd hT_r2 (by decide) (by decide))
    have ea_1 : ak17 p0 = ad p0 := hk8 _ (hw8.hd hT_p0 (by decide) (by decide))
    have ea_2 : ak17 p1 = ad p1 := hk8 _ (hw8.hd hT_p1 (by decide) (by decide))
    have hl : lv_has ls 5 [(4, .int a7), (3, .ref (ak17 (f_J5_getValue_6d5f1 S p1))), (0, .ref (ak17 p0)), (1, .ref (ak17 p1)), (2, .null)] := by simp only [ea_0, ea_1, ea_2]; exact hl
    refine W.eq (g2 := F0 m 35 ls (.ref (ak17 b18) :: [.ref (ak17 p0)])) (by first | (simp only [ea_0, ea_1, ea_2]; rfl) | simp only [ea_0, ea_1, ea_2]) ?_
    have hT_r2 := hs9.T hT_r2 (by decide)
    have hT_p0 := hs9.T hT_p0 (by decide)
    have hT_p1 := hs9.T hT_p1 (by decide)
    clear hB9 hz9 hk9 hvm9 ht9 hw9 hs9 hS hL0 hL9
    generalize H1 = H at hR ⊢
    generalize dc9 = dc_ak17, ds9 = ds_ak17 at hlg ⊢
    refine va_putF (D := rD g) (ci := 15) (v := .ref (ak17 b18)) (ty := (.array .byte)) (C := RJ0) (T := TJ0) (N := 4) hx hb hts in2J0 tyJ0 tyJ0_ok nmJ0 hown hR.K hR.P hR.D hR.sS p0 (hR.atT hT_p0) rfl 0 (by decide) (hts _ kx_2) (fun _ h9 => h9) rfl hin9 rfl (by decide +kernel) rfl rfl (Nat.le_of_ble_eq_true rfl) dJ0_init_db425_35 (fun H locs hP hD hS => ?_)
    have hw9 : wfM (wR S15 p0 0 (some b18)) := hR.w.put (fun b q9 => by cases q9; exact (hT_b18).trans (by rw [hT_p0]; rfl)) (fun q9 => absurd ((congrArg (qT S15) q9).symm.trans hT_p0) (by rw [hR.w.1]; decide)) (by rw [hT_p0]; decide)
    have hR : Rep g ak17 A s (wR S15 p0 0 (some b18)) H locs := hR.pRT hT_p0 F16_s0 hw9 hP hD hS
    obtain ⟨S19, eS19⟩ : ∃ z, z = wR S15 p0 0 (some b18) := ⟨_, rfl⟩
    rw [← eS19] at hR
    replace h := h S19 eS19
    have hT_r2 : qT S19 (f_J5_getValue_6d5f1 S p1) = 21 := (congrArg (fun z => qT z (f_J5_getValue_6d5f1 S p1)) eS19).trans hT_r2
    have hT_p0 : qT S19 p0 = 24 := (congrArg (fun z => qT z p0) eS19).trans hT_p0
    have hT_p1 : qT S19 p1 = 13 := (congrArg (fun z => qT z p1) eS19).trans hT_p1
    have hsh : shx S S19 := by rw [eS19]; exact hsh
    have hlg : lg S S19 (0 + dc_ak17) (0 + ds_ak17) := by rw [eS19]; exact hlg
    refine lv_goto (tgt := 97) hx hb dJ0_init_db425_38 (by decide) ?_
    refine W_led2 (fun hLd => ?_)
    refine W.widen (k := KC - qn S) (n := KS - qu S) hlg.c hlg.s ?_
    exact W.vret hx hb hr (fun t9 ht9 hW9 => ⟨⟨(S19, ak17), rfl, ⟨h, hR.w, hsh, hak⟩, ⟨⟨by rw [ht9]; exact hR.P, hR.D⟩, _, _, by rw [ht9]; exact hLd, hlg⟩⟩, hR.sS.F ht9⟩) hR.sS.2.2 dJ0_init_db425_97
def w_J0_init_81219 (S : MS) (p0 : Nat) (p1 : Nat) (Q : MS → Prop) : Prop := (∃ Q1, w_J0_init_db425 S p0 p1 Q1 ∧ ∀ S2, Q1 S2 → Q S2)
set_option maxHeartbeats 2000000 in
set_option maxRecDepth 100000 in
theorem r_J0_init_81219 (l : Launch) (g : Gr) (ad : Nat → Nat) (H0 : Heap) (S : MS) (p0 : Nat) (p1 : Nat) (hw : wfM S) (hT_p0 : qT S p0 = 24) (hT_p1 : qT S p1 = 13) (Q : MS → Prop) (h : w_J0_init_81219 S p0 p1 Q) : Met l yJ0_init_81219 (wt2 yJ0_init_81219 cJ0_init_81219 2 none) ({ frames := 4, cells := KC - qn S, slots := KS - qu S, locals := 110 }) (va_Pc [.ref (ad p0), .ref (ad p1)] (st_RH g ad H0 S)) (va_Qv (fun (u : MS × (Nat → Nat)) => Q u.1 ∧ wfM u.1 ∧ shx S u.1 ∧ adk ad u.2 S) (fun (u : MS × (Nat → Nat)) (t : State) => qEH g (va_A (Wd g ad S) H0.size) S H0 u t) (va_A (Wd g ad S) H0.size)) (KC - qn S) (KS - qu S) (va_A (Wd g ad S) H0.size) := by
  refine Met.ofW (cc := cJ0_init_81219) (maxL := 2) (ret := none) (by decide) rfl ?_
  intro p e s m args below meth c s₁ B hml hv
  obtain ⟨rfl, hH0, hsz, hP, hK, hD0, hex, hE⟩ := hv
  have hx := B.exec
  have hb := B.bytes
  have hr := B.returns
  have hts0 := atoms_spec (ws := wt2 yJ0_init_81219 cJ0_init_81219 2 none) B.pre
  have hts : ∀ w ∈ tb2, w.before _ s = true := fun w h => hts0 w (List.mem_cons_of_mem _ h)
  have hown : s.vm.findClass RJ0 = some m.cls := findClass_of_methodNamed B.named
  subst hH0
  have hD := hD0.self (sz := s.heap.size)
  generalize hAe : va_A (Wd g ad S) s.heap.size = A at hD hE ⊢
  have hA : ∀ q : Nat, s.heap.size ≤ q → A q := fun q h => by rw [← hAe]; exact Or.inr h
  have hR : Rep g ad A s S s.heap [] := ⟨hK, hP, hD, va_S.rf, hw⟩
  clear hK hP hD hD0
  have hl := lv_entry ([.ref (ad p0), .ref (ad p1)]) (n := 2) (Nat.le_of_ble_eq_true rfl)
  rw [lg_entry_eq]
  generalize (lg_sl ([.ref (ad p0), .ref (ad p1)]) ++ List.replicate (2 - (lg_sl ([.ref (ad p0), .ref (ad p1)])).length) Slot.unset).toArray = ls at hl ⊢
  have hlg : lg S S 0 0 := lg.rf
  have hak : adk ad ad S := adk.rf
  have hin9 : meth.name = "<init>" := (name_of_methodNamed B.named B.method).1
  have hl : lv_has ls 2 [(0, .ref (ad p0)), (1, .ref (ad p1))] := hl
  have hsh : shx S S := shx.rf
  unfold w_J0_init_81219 at h
  refine lv_aload_n hx hb dJ0_init_81219_0 rfl (lv_at hl 0 rfl) ?_
  refine lv_aload_n hx hb dJ0_init_81219_1 rfl (lv_at hl 1 rfl) ?_
  refine lv_null hx hb dJ0_init_81219_2 ?_
  obtain ⟨Q1, h0, h⟩ := h
  have hFc := rfree hR hA
  refine W_led2 (fun hL0 => ?_)
  refine va_callv (va_runI (As := [.ref (ad p1), .null]) (rest := []) ⟨hx, hb, hml, hown, hts⟩ (r_J0_init_db425 l g ad s.heap S p0 p1 hR.w hT_p0 hT_p1 Q1 h0) (cwI 2 hts (gd2_I kx_121) rfl rfl rfl (hts _ kx_6) (hts _ kx_120) (hts _ kx_122) rfl (by decide +kernel) ⟨Nat.le_of_ble_eq_true rfl, Nat.le_of_ble_eq_true rfl⟩) ⟨rblindH, fun U hU hW9 => rmkH hU hW9 hR hex hE hFc⟩ rfl rfl hl.1 rfl (lv_room (Nat.le_of_ble_eq_true rfl)) dJ0_init_81219_3 ⟨(show 0 + (KC - qn S) ≤ KC - qn S from hlg.cm), (show 0 + (KS - qu S) ≤ KS - qu S from hlg.sm)⟩) hR.sS (fun q _ h => hFc q h) hFc (fun  S2 t9 H1 locs ht9 hvm9 hw9 hB9 hz9 hk9 hS => ?_)
  rcases S2 with ⟨S2, ak4⟩
  obtain ⟨hB9, dc9, ds9, hL9, hl9⟩ := hB9
  dsimp only at hw9 hB9 hl9
  rw [ht9] at hL9
  obtain ⟨hq3, hw9, hs9, hk8⟩ := hw9
  have hw8 := hR.w
  have hak := hak.tr hk8 hlg.2.2.1
  have hE := hE.ad hk8
  have hR : Rep g ak4 A s S2 H1 locs := hR.callH ht9 hB9 hw9 hS hFc
  have hsh := hsh.tr hs9
  refine W_tight2 (hL0.tr hL9).1 (hL0.tr hL9).2.1 ?_
  have hlg := hlg.call hl9
  replace h := h  S2 hq3
  have ea_0 : ak4 p0 = ad p0 := hk8 _ (hw8.hd hT_p0 (by decide) (by decide))
  have ea_1 : ak4 p1 = ad p1 := hk8 _ (hw8.hd hT_p1 (by decide) (by decide))
  have hl : lv_has ls 2 [(0, .ref (ak4 p0)), (1, .ref (ak4 p1))] := by simp only [ea_0, ea_1]; exact hl
  have hT_p0 := hs9.T hT_p0 (by decide)
  have hT_p1 := hs9.T hT_p1 (by decide)
  clear hB9 hz9 hk9 hvm9 ht9 hw9 hs9 hS hL0 hL9
  generalize H1 = H at hR ⊢
  generalize dc9 = dc_ak4, ds9 = ds_ak4 at hlg ⊢
  refine W_led2 (fun hLd => ?_)
  refine W.widen (k := KC - qn S) (n := KS - qu S) hlg.c hlg.s ?_
  exact W.vret hx hb hr (fun t9 ht9 hW9 => ⟨⟨(S2, ak4), rfl, ⟨h, hR.w, hsh, hak⟩, ⟨⟨by rw [ht9]; exact hR.P, hR.D⟩, _, _, by rw [ht9]; exact hLd, hlg⟩⟩, hR.sS.F ht9⟩) hR.sS.2.2 dJ0_init_81219_6
def w_J4_toString_0e30d (S : MS) (p0 : Nat) (Q : Nat → MS → Prop) : Prop := ((qn S + 1 ≤ KC ∧ qu S + 4 ≤ KS) ∧ (∀ S4, S4 = wN S 24 0 4 → (∃ Q6, w_J0_init_81219 S4 (qn S) p0 Q6 ∧ ∀ S7, Q6 S7 → ((qR S7 (qn S) 0 = some ((qn S) + 1) ∧ qI S7 (qn S) 1 = 0 ∧ qI S7 (qn S) 2 = 0 ∧ qI S7 (qn S) 3 = 0) ∧ (∀ S11, S11 = wT S7 (qn S) 12 → Q (qn S) S11)))))
set_option maxHeartbeats 2000000 in
set_option maxRecDepth 100000 in
theorem r_J4_toString_0e30d (l : Launch) (g : Gr) (ad : Nat → Nat) (H0 : Heap) (S : MS) (p0 : Nat) (hw : wfM S) (hT_p0 : qT S p0 = 13) (Q : Nat → MS → Prop) (h : w_J4_toString_0e30d S p0 Q) : Met l yJ4_toString_0e30d (wt2 yJ4_toString_0e30d cJ4_toString_0e30d 1 (some (.object "java/lang/String"))) ({ frames := 5, cells := KC - qn S, slots := KS - qu S, locals := 131 }) (va_Pc [.ref (ad p0)] (st_RH g ad H0 S)) (va_Qq (fun (r : Option Nat) (u : MS × (Nat → Nat)) => ∃ b : Nat, r = some (u.2 b) ∧ Q b u.1 ∧ wfM u.1 ∧ shx S u.1 ∧ adk ad u.2 S ∧ qT u.1 b = 12) (fun (u : MS × (Nat → Nat)) (t : State) => qEH g (va_A (Wd g ad S) H0.size) S H0 u t) (va_A (Wd g ad S) H0.size)) (KC - qn S) (KS - qu S) (va_A (Wd g ad S) H0.size) := by
  refine Met.ofW (cc := cJ4_toString_0e30d) (maxL := 1) (ret := (some (.object "java/lang/String"))) (by decide) rfl ?_
  intro p e s m args below meth c s₁ B hml hv
  obtain ⟨rfl, hH0, hsz, hP, hK, hD0, hex, hE⟩ := hv
  have hx := B.exec
  have hb := B.bytes
  have hr := B.returns
  have hts0 := atoms_spec (ws := wt2 yJ4_toString_0e30d cJ4_toString_0e30d 1 (some (.object "java/lang/String"))) B.pre
  have hts : ∀ w ∈ tb2, w.before _ s = true := fun w h => hts0 w (List.mem_cons_of_mem _ h)
  have hown : s.vm.findClass RJ4 = some m.cls := findClass_of_methodNamed B.named
  subst hH0
  have hD := hD0.self (sz := s.heap.size)
  generalize hAe : va_A (Wd g ad S) s.heap.size = A at hD hE ⊢
  have hA : ∀ q : Nat, s.heap.size ≤ q → A q := fun q h => by rw [← hAe]; exact Or.inr h
  have hR : Rep g ad A s S s.heap [] := ⟨hK, hP, hD, va_S.rf, hw⟩
  clear hK hP hD hD0
  have hl := lv_entry ([.ref (ad p0)]) (n := 1) (Nat.le_of_ble_eq_true rfl)
  rw [lg_entry_eq]
  generalize (lg_sl ([.ref (ad p0)]) ++ List.replicate (1 - (lg_sl ([.ref (ad p0)])).length) Slot.unset).toArray = ls at hl ⊢
  have hlg : lg S S 0 0 := lg.rf
  have hak : adk ad ad S := adk.rf
  have hl : lv_has ls 1 [(0, .ref (ad p0))] := hl
  have hsh : shx S S := shx.rf
  unfold w_J4_toString_0e30d at h
  obtain ⟨hv1, h⟩ := h
  have e9 : KC = 300000 := rfl
  have e8 : KS = 3720000 := rfl
  have e7 : TXB = 10000000 := rfl
  have hTX : qn S < TXB := by have := hv1.1; omega
  refine va_new (ci := 15) (fs := dfJ0) (C := RJ0) (T := TJ0) (N := 4) hx hb hts in2J0 tyJ0 tyJ0_ok hown (hts _ kx_123) (hts _ kx_124) (hts _ kx_6) hR.K hR.P hR.D hR.sS hA rfl dfJ0_ok (show 0 + 1 ≤ KC - qn S from hlg.c1 hv1.1) (show 0 + 4 ≤ KS - qu S from hlg.s1 hv1.2) dJ4_toString_0e30d_0 (fun q2 H hP hD hS => ?_)
  have hw8 := hR.w
  have hR := hR.new (t := 24) (n := 0) (k := 4) hTX (by decide) (fun q9 => absurd q9 (by decide)) wN_cT hP hD hS
  have hk8 : adk ad (adx ad (qn S) q2) S := adk.rf.new (Nat.le_refl _) hTX
  have hak := hak.new (q := q2) hlg.2.2.1 hTX
  have hE := hE.ad hk8
  have hlg : lg S (wN S 24 0 4) (0 + 1) (0 + 4) := hlg.new (t := 24) (n := 0) ⟨hv1.1, hv1.2⟩
  have hs8 : shx S (wN S 24 0 4) := shx.new (t := 24) (n := 0) (k := 4) shx.rf hw8 hTX
  have hTX0 := hTX
  obtain ⟨am3, eam3⟩ : ∃ z, z = adx ad (qn S) q2 := ⟨_, rfl⟩
  have eq_q2 : am3 (qn S) = q2 := by rw [eam3]; exact if_pos rfl
  rw [← eam3] at hR hk8 hak hE
  obtain ⟨S4, eS4⟩ : ∃ z, z = wN S 24 0 4 := ⟨_, rfl⟩
  rw [← eS4] at hR hlg hs8
  replace h := h S4 eS4
  have hsh := hsh.tr hs8
  have hT_b5 : qT S4 (qn S) = 24 := by rw [eS4]; exact if_pos rfl
  have ea_0 : am3 p0 = ad p0 := hk8 _ (hw8.hd hT_p0 (by decide) (by decide))
  have hT_p0 := hs8.T hT_p0 (by decide)
  have hl : lv_has ls 1 [(0, .ref (am3 p0))] := by simp only [ea_0]; exact hl
  refine W.eq (g2 := F0 m 3 ls [.ref (am3 (qn S))]) (by simp only [ea_0, eq_q2]) ?_
  clear hw8 hk8 hs8 hP hD hS e9 e8 e7 hTX
  refine lv_dup hx hb dJ4_toString_0e30d_3 rfl ?_
  refine lv_aload_n hx hb dJ4_toString_0e30d_4 rfl (lv_at hl 0 rfl) ?_
  obtain ⟨Q6, h0, h⟩ := h
  have hFc := rfree hR hA
  refine W_led2 (fun hL0 => ?_)
  refine va_callv (va_runI (As := [.ref (am3 p0)]) (rest := [.ref (am3 (qn S))]) ⟨hx, hb, hml, hown, hts⟩ (r_J0_init_81219 l g am3 H S4 (qn S) p0 hR.w hT_b5 hT_p0 Q6 h0) (cwI 1 hts (gd2_I kx_126) rfl rfl rfl (hts _ kx_6) (hts _ kx_125) (hts _ kx_127) rfl (by decide +kernel) ⟨Nat.le_of_ble_eq_true rfl, Nat.le_of_ble_eq_true rfl⟩) ⟨rblindH, fun U hU hW9 => rmkH hU hW9 hR hex hE hFc⟩ rfl rfl hl.1 rfl (lv_room (Nat.le_of_ble_eq_true rfl)) dJ4_toString_0e30d_5 ⟨(show 0 + 1 + (KC - qn S4) ≤ KC - qn S from hlg.cm), (show 0 + 4 + (KS - qu S4) ≤ KS - qu S from hlg.sm)⟩) hR.sS (fun q _ h => hFc q h) hFc (fun  S7 t9 H1 locs ht9 hvm9 hw9 hB9 hz9 hk9 hS => ?_)
  rcases S7 with ⟨S7, ak9⟩
  obtain ⟨hB9, dc9, ds9, hL9, hl9⟩ := hB9
  dsimp only at hw9 hB9 hl9
  rw [ht9] at hL9
  obtain ⟨hq8, hw9, hs9, hk8⟩ := hw9
  have hw8 := hR.w
  have hak := hak.tr hk8 hlg.2.2.1
  have hE := hE.ad hk8
  have hR : Rep g ak9 A s S7 H1 locs := hR.callH ht9 hB9 hw9 hS hFc
  have hsh := hsh.tr hs9
  refine W_tight2 (hL0.tr hL9).1 (hL0.tr hL9).2.1 ?_
  have hlg := hlg.call hl9
  replace h := h  S7 hq8
  have ea_0 : ak9 p0 = am3 p0 := hk8 _ (hw8.hd hT_p0 (by decide) (by decide))
  have ea_1 : ak9 (qn S) = am3 (qn S) := hk8 _ (hw8.hd hT_b5 (by decide) (by decide))
  have hl : lv_has ls 1 [(0, .ref (ak9 p0))] := by simp only [ea_0, ea_1]; exact hl
  refine W.eq (g2 := F0 m 8 ls ([.ref (ak9 (qn S))])) (by first | (simp only [ea_0, ea_1]; rfl) | simp only [ea_0, ea_1]) ?_
  have hT_p0 := hs9.T hT_p0 (by decide)
  have hT_b5 := hs9.T hT_b5 (by decide)
  clear hB9 hz9 hk9 hvm9 ht9 hw9 hs9 hS hL0 hL9
  generalize H1 = H at hR ⊢
  generalize dc9 = dc_ak9, ds9 = ds_ak9 at hlg ⊢
  obtain ⟨hv10, h⟩ := h
  have hR : Rep g ak9 A s (wT S7 (qn S) 12) H locs := hR.str hT_b5 hv10
  have hsh : shx S (wT S7 (qn S) 12) := hsh.str (hw.nx hTX0)
  have hlg : lg S (wT S7 (qn S) 12) (0 + 1 + dc_ak9) (0 + 4 + ds_ak9) := hlg
  have hT_S11 : qT (wT S7 (qn S) 12) (qn S) = 12 := if_pos rfl
  obtain ⟨S11, eS11⟩ : ∃ z, z = wT S7 (qn S) 12 := ⟨_, rfl⟩
  rw [← eS11] at hR hsh hlg hT_S11
  replace h := h S11 eS11
  refine W_led2 (fun hLd => ?_)
  refine W.widen (k := KC - qn S) (n := KS - qu S) hlg.c hlg.s ?_
  exact W.aret (v := .ref (ak9 (qn S))) hx hb hr (Or.inl ⟨_, rfl⟩) (Or.inr ⟨_, rfl⟩) (fun t9 ht9 hW9 => ⟨⟨some (ak9 (qn S)), (S11, ak9), rfl, ⟨(qn S), rfl, h, hR.w, hsh, hak, hT_S11⟩, ⟨⟨by rw [ht9]; exact hR.P, hR.D⟩, _, _, by rw [ht9]; exact hLd, hlg⟩⟩, hR.sS.F ht9⟩) hR.sS.2.2 dJ4_toString_0e30d_8
def w_J4_init_da8c8 (S : MS) (p0 : Nat) (Q : MS → Prop) : Prop := (∃ Q1, w_J5_init_d00df S p0 (16 : Int32) Q1 ∧ ∀ S2, Q1 S2 → Q S2)
set_option maxHeartbeats 2000000 in
set_option maxRecDepth 100000 in
theorem r_J4_init_da8c8 (l : Launch) (g : Gr) (ad : Nat → Nat) (H0 : Heap) (S : MS) (p0 : Nat) (hw : wfM S) (hT_p0 : qT S p0 = 13) (Q : MS → Prop) (h : w_J4_init_da8c8 S p0 Q) : Met l yJ4_init_da8c8 (wt2 yJ4_init_da8c8 cJ4_init_da8c8 1 none) ({ frames := 2, cells := KC - qn S, slots := KS - qu S, locals := 33 }) (va_Pc [.ref (ad p0)] (st_RH g ad H0 S)) (va_Qv (fun (u : MS × (Nat → Nat)) => Q u.1 ∧ wfM u.1 ∧ shx S u.1 ∧ adk ad u.2 S) (fun (u : MS × (Nat → Nat)) (t : State) => qEH g (va_A (Wd g ad S) H0.size) S H0 u t) (va_A (Wd g ad S) H0.size)) (KC - qn S) (KS - qu S) (va_A (Wd g ad S) H0.size) := by
  refine Met.ofW (cc := cJ4_init_da8c8) (maxL := 1) (ret := none) (by decide) rfl ?_
  intro p e s m args below meth c s₁ B hml hv
  obtain ⟨rfl, hH0, hsz, hP, hK, hD0, hex, hE⟩ := hv
  have hx := B.exec
  have hb := B.bytes
  have hr := B.returns
  have hts0 := atoms_spec (ws := wt2 yJ4_init_da8c8 cJ4_init_da8c8 1 none) B.pre
  have hts : ∀ w ∈ tb2, w.before _ s = true := fun w h => hts0 w (List.mem_cons_of_mem _ h)
  have hown : s.vm.findClass RJ4 = some m.cls := findClass_of_methodNamed B.named
  subst hH0
  have hD := hD0.self (sz := s.heap.size)
  generalize hAe : va_A (Wd g ad S) s.heap.size = A at hD hE ⊢
  have hA : ∀ q : Nat, s.heap.size ≤ q → A q := fun q h => by rw [← hAe]; exact Or.inr h
  have hR : Rep g ad A s S s.heap [] := ⟨hK, hP, hD, va_S.rf, hw⟩
  clear hK hP hD hD0
  have hl := lv_entry ([.ref (ad p0)]) (n := 1) (Nat.le_of_ble_eq_true rfl)
  rw [lg_entry_eq]
  generalize (lg_sl ([.ref (ad p0)]) ++ List.replicate (1 - (lg_sl ([.ref (ad p0)])).length) Slot.unset).toArray = ls at hl ⊢
  have hlg : lg S S 0 0 := lg.rf
  have hak : adk ad ad S := adk.rf
  have hin9 : meth.name = "<init>" := (name_of_methodNamed B.named B.method).1
  have hl : lv_has ls 1 [(0, .ref (ad p0))] := hl
  have hsh : shx S S := shx.rf
  unfold w_J4_init_da8c8 at h
  refine lv_aload_n hx hb dJ4_init_da8c8_0 rfl (lv_at hl 0 rfl) ?_
  refine lv_bipush (v := 16) hx hb dJ4_init_da8c8_1 (by decide) ?_
  obtain ⟨Q1, h0, h⟩ := h
  have hFc := rfree hR hA
  refine W_led2 (fun hL0 => ?_)
  refine va_callv (va_runI (As := [.int 16]) (rest := []) ⟨hx, hb, hml, hown, hts⟩ (r_J5_init_d00df l g ad s.heap S p0 (16 : Int32) hR.w hT_p0 Q1 h0) (cwI 1 hts (gd2_I kx_95) rfl rfl rfl (hts _ kx_36) (hts _ kx_94) (hts _ kx_96) rfl (by decide +kernel) ⟨Nat.le_of_ble_eq_true rfl, Nat.le_of_ble_eq_true rfl⟩) ⟨rblindH, fun U hU hW9 => rmkH hU hW9 hR hex hE hFc⟩ rfl rfl hl.1 rfl (lv_room (Nat.le_of_ble_eq_true rfl)) dJ4_init_da8c8_3 ⟨(show 0 + (KC - qn S) ≤ KC - qn S from hlg.cm), (show 0 + (KS - qu S) ≤ KS - qu S from hlg.sm)⟩) hR.sS (fun q _ h => hFc q h) hFc (fun  S2 t9 H1 locs ht9 hvm9 hw9 hB9 hz9 hk9 hS => ?_)
  rcases S2 with ⟨S2, ak4⟩
  obtain ⟨hB9, dc9, ds9, hL9, hl9⟩ := hB9
  dsimp only at hw9 hB9 hl9
  rw [ht9] at hL9
  obtain ⟨hq3, hw9, hs9, hk8⟩ := hw9
  have hw8 := hR.w
  have hak := hak.tr hk8 hlg.2.2.1
  have hE := hE.ad hk8
  have hR : Rep g ak4 A s S2 H1 locs := hR.callH ht9 hB9 hw9 hS hFc
  have hsh := hsh.tr hs9
  refine W_tight2 (hL0.tr hL9).1 (hL0.tr hL9).2.1 ?_
  have hlg := hlg.call hl9
  replace h := h  S2 hq3
  have ea_0 : ak4 p0 = ad p0 := hk8 _ (hw8.hd hT_p0 (by decide) (by decide))
  have hl : lv_has ls 1 [(0, .ref (ak4 p0))] := by simp only [ea_0]; exact hl
  have hT_p0 := hs9.T hT_p0 (by decide)
  clear hB9 hz9 hk9 hvm9 ht9 hw9 hs9 hS hL0 hL9
  generalize H1 = H at hR ⊢
  generalize dc9 = dc_ak4, ds9 = ds_ak4 at hlg ⊢
  refine W_led2 (fun hLd => ?_)
  refine W.widen (k := KC - qn S) (n := KS - qu S) hlg.c hlg.s ?_
  exact W.vret hx hb hr (fun t9 ht9 hW9 => ⟨⟨(S2, ak4), rfl, ⟨h, hR.w, hsh, hak⟩, ⟨⟨by rw [ht9]; exact hR.P, hR.D⟩, _, _, by rw [ht9]; exact hLd, hlg⟩⟩, hR.sS.F ht9⟩) hR.sS.2.2 dJ4_init_da8c8_6
def w_J6_stringSize_0f7a4_L16 (Q : Int32 → MS → Prop) : Nat → MS → Int32 → Int32 → Int32 → Int32 → Prop
  | 0, _, _, _, _, _ => False
  | n16 + 1, U16, v16_0, v16_1, v16_2, v16_3 => ((10 ≤ v16_3.toInt → Q ((10 : Int32) + v16_1) U16) ∧ (¬ 10 ≤ v16_3.toInt → ((v16_0.toInt ≤ v16_2.toInt → (∀ a5 : Int32, a5 = ((10 : Int32) * v16_2) → (∀ a6 : Int32, a6 = (v16_3 + Int32.ofInt 1) → (w_J6_stringSize_0f7a4_L16 Q n16) U16 v16_0 v16_1 a5 a6))) ∧ (¬ v16_0.toInt ≤ v16_2.toInt → Q (v16_3 + v16_1) U16))))
def w_J6_stringSize_0f7a4_J11 (Q : Int32 → MS → Prop) (U11 : MS) (v11_0 : Int32) (v11_1 : Int32) : Prop := (∃ n, w_J6_stringSize_0f7a4_L16 Q n U11 v11_0 v11_1 (-10) 1)
def w_J6_stringSize_0f7a4 (S : MS) (x0 : Int32) (Q : Int32 → MS → Prop) : Prop := ((x0.toInt < 0 → w_J6_stringSize_0f7a4_J11 Q S x0 1) ∧ (¬ x0.toInt < 0 → (∀ a10 : Int32, a10 = (-x0) → w_J6_stringSize_0f7a4_J11 Q S a10 0)))
set_option maxHeartbeats 2000000 in
set_option maxRecDepth 100000 in
theorem r_J6_stringSize_0f7a4 (l : Launch) (g : Gr) (ad : Nat → Nat) (sz : Nat) (S : MS) (x0 : Int32) (hw : wfM S) (Q : Int32 → MS → Prop) (h : w_J6_stringSize_0f7a4 S x0 Q) : Met l yJ6_stringSize_0f7a4 (wt2 yJ6_stringSize_0f7a4 cJ6_stringSize_0f7a4 4 (some .int)) ({ frames := 0, cells := 0, slots := 0, locals := 0 }) (va_Pc [.int x0] (st_R g ad sz S)) (va_Qi (fun (r : Int32) (u : MS) => Q r u ∧ wfM u ∧ shy S u) (fun (u : MS) (t : State) => qE g ad (va_A (Wd g ad S) sz) u t) (va_A (Wd g ad S) sz)) 0 0 (va_A (Wd g ad S) sz) := by
  refine Met.ofW (cc := cJ6_stringSize_0f7a4) (maxL := 4) (ret := (some .int)) (by decide) rfl ?_
  intro p e s m args below meth c s₁ B hml hv
  obtain ⟨rfl, hsz, hP, hK, hD0, hex, hE⟩ := hv
  have hx := B.exec
  have hb := B.bytes
  have hr := B.returns
  have hts0 := atoms_spec (ws := wt2 yJ6_stringSize_0f7a4 cJ6_stringSize_0f7a4 4 (some .int)) B.pre
  have hts : ∀ w ∈ tb2, w.before _ s = true := fun w h => hts0 w (List.mem_cons_of_mem _ h)
  have hown : s.vm.findClass RJ6 = some m.cls := findClass_of_methodNamed B.named
  subst hsz
  have hD := hD0.self (sz := s.heap.size)
  generalize hAe : va_A (Wd g ad S) s.heap.size = A at hD hE ⊢
  have hA : ∀ q : Nat, s.heap.size ≤ q → A q := fun q h => by rw [← hAe]; exact Or.inr h
  have hR : Rep g ad A s S s.heap [] := ⟨hK, hP, hD, va_S.rf, hw⟩
  clear hK hP hD hD0
  have hl := lv_entry ([.int x0]) (n := 4) (Nat.le_of_ble_eq_true rfl)
  rw [lg_entry_eq]
  generalize (lg_sl ([.int x0]) ++ List.replicate (4 - (lg_sl ([.int x0])).length) Slot.unset).toArray = ls at hl ⊢
  have hl : lv_has ls 4 [(0, .int x0)] := hl
  have hsh : shy S S := shy.rf
  unfold w_J6_stringSize_0f7a4 at h
  refine lv_iconst (v := 1) hx hb dJ6_stringSize_0f7a4_0 (by decide) ?_
  refine lv_istore_n (lv' := [(1, .int 1), (0, .int x0)]) hx hb dJ6_stringSize_0f7a4_1 rfl hl (by decide) rfl (fun ls hl => ?_)
  refine lv_iload_n hx hb dJ6_stringSize_0f7a4_2 rfl (lv_at hl 1 rfl) ?_
  have J_11 : ∀ (U11 : MS) (v11_0 : Int32) (v11_1 : Int32) (H : Heap) (locs : List Loc) (ls : Array Slot), w_J6_stringSize_0f7a4_J11 Q U11 v11_0 v11_1 → (v11_1 = 0 ∨ v11_1 = 1) → shy S U11 → Rep g ad A s U11 H locs → lv_has ls 4 [(0, .int v11_0), (1, .int v11_1)] → W p l e (headSpec (wt2 yJ6_stringSize_0f7a4 cJ6_stringSize_0f7a4 4 (some .int)) ({ frames := 0, cells := 0, slots := 0, locals := 0 })).room s m ([.int x0] : List Value).toArray below meth c H locs 0 0 (MQ below (va_Qi (fun (r : Int32) (u : MS) => Q r u ∧ wfM u ∧ shy S u) (fun (u : MS) (t : State) => qE g ad A u t) A) ([.int x0] : List Value).toArray s 0 0 A) (F0 m 11 ls []) := by
    intro U11 v11_0 v11_1 H locs ls h hz_v11_1 hsh hR hl
    unfold w_J6_stringSize_0f7a4_J11 at h
    refine lv_bipush (v := (-10)) hx hb dJ6_stringSize_0f7a4_11 (by decide) ?_
    refine lv_istore_n (lv' := [(2, .int (-10)), (0, .int v11_0), (1, .int v11_1)]) hx hb dJ6_stringSize_0f7a4_13 rfl hl (by decide) rfl (fun ls hl => ?_)
    refine lv_iconst (v := 1) hx hb dJ6_stringSize_0f7a4_14 (by decide) ?_
    refine lv_istore_n (lv' := [(3, .int 1), (2, .int (-10)), (0, .int v11_0), (1, .int v11_1)]) hx hb dJ6_stringSize_0f7a4_15 rfl hl (by decide) rfl (fun ls hl => ?_)
    have J_16 : ∀ (n16 : Nat) (U16 : MS) (v16_0 : Int32) (v16_1 : Int32) (v16_2 : Int32) (v16_3 : Int32) (H : Heap) (locs : List Loc) (ls : Array Slot), w_J6_stringSize_0f7a4_L16 Q n16 U16 v16_0 v16_1 v16_2 v16_3 → (v16_1 = 0 ∨ v16_1 = 1) → shy S U16 → Rep g ad A s U16 H locs → lv_has ls 4 [(0, .int v16_0), (1, .int v16_1), (2, .int v16_2), (3, .int v16_3)] → W p l e (headSpec (wt2 yJ6_stringSize_0f7a4 cJ6_stringSize_0f7a4 4 (some .int)) ({ frames := 0, cells := 0, slots := 0, locals := 0 })).room s m ([.int x0] : List Value).toArray below meth c H locs 0 0 (MQ below (va_Qi (fun (r : Int32) (u : MS) => Q r u ∧ wfM u ∧ shy S u) (fun (u : MS) (t : State) => qE g ad A u t) A) ([.int x0] : List Value).toArray s 0 0 A) (F0 m 16 ls []) := by
      intro n16
      induction n16 with
      | zero => intro U16 v16_0 v16_1 v16_2 v16_3 H locs ls h hz_v16_1 hsh hR hl; unfold w_J6_stringSize_0f7a4_L16 at h; exact h.elim
      | succ n16 ih_16 =>
        intro U16 v16_0 v16_1 v16_2 v16_3 H locs ls h hz_v16_1 hsh hR hl
        unfold w_J6_stringSize_0f7a4_L16 at h
        refine lv_iload_n hx hb dJ6_stringSize_0f7a4_16 rfl (lv_at hl 3 rfl) ?_
        refine lv_bipush (v := 10) hx hb dJ6_stringSize_0f7a4_17 (by decide) ?_
        refine lv_icmp_ge (tgt := 42) hx hb dJ6_stringSize_0f7a4_19 (by decide) (fun c1 => ?_) (fun c1 => ?_)
        · replace h := h.1 (k_le (by decide) rfl c1)
          refine lv_bipush (v := 10) hx hb dJ6_stringSize_0f7a4_42 (by decide) ?_
          refine lv_iload_n hx hb dJ6_stringSize_0f7a4_44 rfl (lv_at hl 1 rfl) ?_
          refine lv_iadd hx hb dJ6_stringSize_0f7a4_45 ?_
          refine lv_topi (fun z2 ez2 => ?_)
          obtain rfl : z2 = ((10 : Int32) + v16_1) := ez2
          exact W.iret (v := ((10 : Int32) + v16_1)) hx hb hr (fun t9 ht9 hW9 => ⟨⟨_, U16, rfl, ⟨h, hR.w, hsh⟩, ⟨by rw [ht9]; exact hR.P, hR.D⟩⟩, hR.sS.F ht9⟩) hR.sS.2.2 dJ6_stringSize_0f7a4_46
        · replace h := h.2 (k_nle (by decide) rfl c1)
          refine lv_iload_n hx hb dJ6_stringSize_0f7a4_22 rfl (lv_at hl 0 rfl) ?_
          refine lv_iload_n hx hb dJ6_stringSize_0f7a4_23 rfl (lv_at hl 2 rfl) ?_
          refine lv_icmp_le (tgt := 31) hx hb dJ6_stringSize_0f7a4_24 (by decide) (fun c3 => ?_) (fun c3 => ?_)
          · replace h := h.1 (k_le rfl rfl c3)
            refine lv_bipush (v := 10) hx hb dJ6_stringSize_0f7a4_31 (by decide) ?_
            refine lv_iload_n hx hb dJ6_stringSize_0f7a4_33 rfl (lv_at hl 2 rfl) ?_
            refine lv_imul hx hb dJ6_stringSize_0f7a4_34 ?_
            refine lv_topi (fun z4 ez4 => ?_)
            obtain rfl : z4 = ((10 : Int32) * v16_2) := ez4
            obtain ⟨a5, ea5⟩ : ∃ z, z = ((10 : Int32) * v16_2) := ⟨_, rfl⟩
            rw [← ea5]
            replace h := h a5 ea5
            refine lv_istore_n (lv' := [(2, .int a5), (0, .int v16_0), (1, .int v16_1), (3, .int v16_3)]) hx hb dJ6_stringSize_0f7a4_35 rfl hl (by decide) rfl (fun ls hl => ?_)
            obtain ⟨a6, ea6⟩ : ∃ z, z = (v16_3 + Int32.ofInt 1) := ⟨_, rfl⟩
            replace h := h a6 ea6
            refine lv_iinc (v := a6) (lv' := [(3, .int a6), (2, .int a5), (0, .int v16_0), (1, .int v16_1)]) hx hb dJ6_stringSize_0f7a4_36 hl (k := 3) rfl ea6.symm (by decide) rfl (fun ls hl => ?_)
            refine lv_goto (tgt := 16) hx hb dJ6_stringSize_0f7a4_39 (by decide) ?_
            exact ih_16 U16 v16_0 v16_1 a5 a6 _ _ ls h hz_v16_1 hsh hR (lv_sub hl [2, 3, 1, 0] rfl)
          · replace h := h.2 (k_nle rfl rfl c3)
            refine lv_iload_n hx hb dJ6_stringSize_0f7a4_27 rfl (lv_at hl 3 rfl) ?_
            refine lv_iload_n hx hb dJ6_stringSize_0f7a4_28 rfl (lv_at hl 1 rfl) ?_
            refine lv_iadd hx hb dJ6_stringSize_0f7a4_29 ?_
            refine lv_topi (fun z7 ez7 => ?_)
            obtain rfl : z7 = (v16_3 + v16_1) := ez7
            exact W.iret (v := (v16_3 + v16_1)) hx hb hr (fun t9 ht9 hW9 => ⟨⟨_, U16, rfl, ⟨h, hR.w, hsh⟩, ⟨by rw [ht9]; exact hR.P, hR.D⟩⟩, hR.sS.F ht9⟩) hR.sS.2.2 dJ6_stringSize_0f7a4_30
    obtain ⟨n9, h⟩ := h
    exact J_16 n9 U11 v11_0 v11_1 (-10) 1 _ _ ls h hz_v11_1 hsh hR (lv_sub hl [2, 3, 1, 0] rfl)
  refine lv_if_lt (tgt := 11) hx hb dJ6_stringSize_0f7a4_3 (by decide) (fun c8 => ?_) (fun c8 => ?_)
  · replace h := h.1 (k_lt rfl (by decide) c8)
    exact J_11 S x0 1 _ _ ls h (Or.inr rfl) hsh hR (lv_sub hl [1, 0] rfl)
  · replace h := h.2 (k_nlt rfl (by decide) c8)
    refine lv_iconst (v := 0) hx hb dJ6_stringSize_0f7a4_6 (by decide) ?_
    refine lv_istore_n (lv' := [(1, .int 0), (0, .int x0)]) hx hb dJ6_stringSize_0f7a4_7 rfl hl (by decide) rfl (fun ls hl => ?_)
    refine lv_iload_n hx hb dJ6_stringSize_0f7a4_8 rfl (lv_at hl 1 rfl) ?_
    refine lv_ineg hx hb dJ6_stringSize_0f7a4_9 ?_
    refine lv_topi (fun z9 ez9 => ?_)
    obtain rfl : z9 = (-x0) := ez9
    obtain ⟨a10, ea10⟩ : ∃ z, z = (-x0) := ⟨_, rfl⟩
    rw [← ea10]
    replace h := h a10 ea10
    refine lv_istore_n (lv' := [(0, .int a10), (1, .int 0)]) hx hb dJ6_stringSize_0f7a4_10 rfl hl (by decide) rfl (fun ls hl => ?_)
    exact J_11 S a10 0 _ _ ls h (Or.inl rfl) hsh hR (lv_sub hl [0, 1] rfl)
def w_J6_getChars_ba4f3_J104 (Q : Int32 → MS → Prop) (U104 : MS) (v104_2 : Nat) (v104_5 : Int32) (v104_6 : Int32) : Prop := ((v104_6.toInt = 0 → Q v104_5 U104) ∧ (¬ v104_6.toInt = 0 → (∀ a9 : Int32, a9 = (v104_5 + Int32.ofInt (-1)) → (((0 : Int) ≤ a9.toInt ∧ a9.toInt < (qN U104 v104_2 : Int)) ∧ (∀ S11, S11 = wI U104 v104_2 a9.toInt.toNat (vp_nar .byte (45 : Int32)) → Q a9 S11)))))
def w_J6_getChars_ba4f3_L22 (Q : Int32 → MS → Prop) : Nat → MS → Int32 → Nat → Int32 → Int32 → Prop
  | 0, _, _, _, _, _ => False
  | n22 + 1, U22, v22_0, v22_2, v22_5, v22_6 => (((-100) < v22_0.toInt → (∀ a2 : Int32, a2 = (v22_5 + Int32.ofInt (-1)) → (((0 : Int) ≤ (-v22_0).toInt ∧ (-v22_0).toInt < ((100 : Nat) : Int)) ∧ (((0 : Int) ≤ a2.toInt ∧ a2.toInt < (qN U22 v22_2 : Int)) ∧ (∀ S7, S7 = wI U22 v22_2 a2.toInt.toNat (vp_nar .byte (dgO ((-v22_0).toInt).toNat)) → (((-9) ≤ v22_0.toInt → w_J6_getChars_ba4f3_J104 Q S7 v22_2 a2 v22_6) ∧ (¬ (-9) ≤ v22_0.toInt → (∀ a13 : Int32, a13 = (a2 + Int32.ofInt (-1)) → (((0 : Int) ≤ (-v22_0).toInt ∧ (-v22_0).toInt < ((100 : Nat) : Int)) ∧ (((0 : Int) ≤ a13.toInt ∧ a13.toInt < (qN S7 v22_2 : Int)) ∧ (∀ S18, S18 = wI S7 v22_2 a13.toInt.toNat (vp_nar .byte (dgT ((-v22_0).toInt).toNat)) → w_J6_getChars_ba4f3_J104 Q S18 v22_2 a13 v22_6))))))))))) ∧ (¬ (-100) < v22_0.toInt → (∀ a20 : Int32, a20 = (v22_0 / (100 : Int32)) → (∀ a23 : Int32, a23 = ((a20 * (100 : Int32)) - v22_0) → (∀ a24 : Int32, a24 = (v22_5 + Int32.ofInt (-1)) → (((0 : Int) ≤ a23.toInt ∧ a23.toInt < ((100 : Nat) : Int)) ∧ (((0 : Int) ≤ a24.toInt ∧ a24.toInt < (qN U22 v22_2 : Int)) ∧ (∀ S28, S28 = wI U22 v22_2 a24.toInt.toNat (vp_nar .byte (dgO a23.toInt.toNat)) → (∀ a29 : Int32, a29 = (a24 + Int32.ofInt (-1)) → (((0 : Int) ≤ a23.toInt ∧ a23.toInt < ((100 : Nat) : Int)) ∧ (((0 : Int) ≤ a29.toInt ∧ a29.toInt < (qN S28 v22_2 : Int)) ∧ (∀ S33, S33 = wI S28 v22_2 a29.toInt.toNat (vp_nar .byte (dgT a23.toInt.toNat)) → (w_J6_getChars_ba4f3_L22 Q n22) S33 a20 v22_2 a29 v22_6))))))))))))
def w_J6_getChars_ba4f3_J12 (Q : Int32 → MS → Prop) (U12 : MS) (t12_0 : Int32) (v12_0 : Int32) (v12_2 : Nat) (v12_5 : Int32) : Prop := ((t12_0.toInt = 0 → (∀ a36 : Int32, a36 = (-v12_0) → (∃ n, w_J6_getChars_ba4f3_L22 Q n U12 a36 v12_2 v12_5 t12_0))) ∧ (¬ t12_0.toInt = 0 → (∃ n, w_J6_getChars_ba4f3_L22 Q n U12 v12_0 v12_2 v12_5 t12_0)))
def w_J6_getChars_ba4f3 (S : MS) (x0 : Int32) (x1 : Int32) (p2 : Nat) (Q : Int32 → MS → Prop) : Prop := ((0 ≤ x0.toInt → w_J6_getChars_ba4f3_J12 Q S 0 x0 p2 x1) ∧ (¬ 0 ≤ x0.toInt → w_J6_getChars_ba4f3_J12 Q S 1 x0 p2 x1))
set_option maxHeartbeats 2000000 in
set_option maxRecDepth 100000 in
theorem r_J6_getChars_ba4f3 (l : Launch) (g : Gr) (ad : Nat → Nat) (sz : Nat) (S : MS) (x0 : Int32) (x1 : Int32) (p2 : Nat) (hw : wfM S) (hT_p2 : qT S p2 = 21) (Q : Int32 → MS → Prop) (h : w_J6_getChars_ba4f3 S x0 x1 p2 Q) : Met l yJ6_getChars_ba4f3 (wt2 yJ6_getChars_ba4f3 cJ6_getChars_ba4f3 7 (some .int)) ({ frames := 0, cells := 0, slots := 0, locals := 0 }) (va_Pc [.int x0, .int x1, .ref (ad p2)] (st_R g ad sz S)) (va_Qi (fun (r : Int32) (u : MS) => Q r u ∧ wfM u ∧ shy S u) (fun (u : MS) (t : State) => qE g ad (va_A (Wd g ad S) sz) u t) (va_A (Wd g ad S) sz)) 0 0 (va_A (Wd g ad S) sz) := by
  refine Met.ofW (cc := cJ6_getChars_ba4f3) (maxL := 7) (ret := (some .int)) (by decide) rfl ?_
  intro p e s m args below meth c s₁ B hml hv
  obtain ⟨rfl, hsz, hP, hK, hD0, hex, hE⟩ := hv
  have hx := B.exec
  have hb := B.bytes
  have hr := B.returns
  have hts0 := atoms_spec (ws := wt2 yJ6_getChars_ba4f3 cJ6_getChars_ba4f3 7 (some .int)) B.pre
  have hts : ∀ w ∈ tb2, w.before _ s = true := fun w h => hts0 w (List.mem_cons_of_mem _ h)
  have hown : s.vm.findClass RJ6 = some m.cls := findClass_of_methodNamed B.named
  subst hsz
  have hD := hD0.self (sz := s.heap.size)
  generalize hAe : va_A (Wd g ad S) s.heap.size = A at hD hE ⊢
  have hA : ∀ q : Nat, s.heap.size ≤ q → A q := fun q h => by rw [← hAe]; exact Or.inr h
  have hR : Rep g ad A s S s.heap [] := ⟨hK, hP, hD, va_S.rf, hw⟩
  clear hK hP hD hD0
  have hl := lv_entry ([.int x0, .int x1, .ref (ad p2)]) (n := 7) (Nat.le_of_ble_eq_true rfl)
  rw [lg_entry_eq]
  generalize (lg_sl ([.int x0, .int x1, .ref (ad p2)]) ++ List.replicate (7 - (lg_sl ([.int x0, .int x1, .ref (ad p2)])).length) Slot.unset).toArray = ls at hl ⊢
  have hl : lv_has ls 7 [(0, .int x0), (1, .int x1), (2, .ref (ad p2))] := hl
  have hsh : shy S S := shy.rf
  unfold w_J6_getChars_ba4f3 at h
  refine lv_iload_n hx hb dJ6_getChars_ba4f3_0 rfl (lv_at hl 1 rfl) ?_
  refine lv_istore (lv' := [(5, .int x1), (0, .int x0), (1, .int x1), (2, .ref (ad p2))]) hx hb dJ6_getChars_ba4f3_1 hl (by decide) rfl (fun ls hl => ?_)
  refine lv_iload_n hx hb dJ6_getChars_ba4f3_3 rfl (lv_at hl 1 rfl) ?_
  have J_12 : ∀ (U12 : MS) (t12_0 : Int32) (v12_0 : Int32) (v12_2 : Nat) (v12_5 : Int32) (H : Heap) (locs : List Loc) (ls : Array Slot), w_J6_getChars_ba4f3_J12 Q U12 t12_0 v12_0 v12_2 v12_5 → qT U12 v12_2 = 21 → (t12_0 = 0 ∨ t12_0 = 1) → shy S U12 → Rep g ad A s U12 H locs → lv_has ls 7 [(0, .int v12_0), (2, .ref (ad v12_2)), (5, .int v12_5)] → W p l e (headSpec (wt2 yJ6_getChars_ba4f3 cJ6_getChars_ba4f3 7 (some .int)) ({ frames := 0, cells := 0, slots := 0, locals := 0 })).room s m ([.int x0, .int x1, .ref (ad p2)] : List Value).toArray below meth c H locs 0 0 (MQ below (va_Qi (fun (r : Int32) (u : MS) => Q r u ∧ wfM u ∧ shy S u) (fun (u : MS) (t : State) => qE g ad A u t) A) ([.int x0, .int x1, .ref (ad p2)] : List Value).toArray s 0 0 A) (F0 m 12 ls [.int t12_0]) := by
    intro U12 t12_0 v12_0 v12_2 v12_5 H locs ls h hT_v12_2 hz_t12_0 hsh hR hl
    unfold w_J6_getChars_ba4f3_J12 at h
    refine lv_istore (lv' := [(6, .int t12_0), (0, .int v12_0), (2, .ref (ad v12_2)), (5, .int v12_5)]) hx hb dJ6_getChars_ba4f3_12 hl (by decide) rfl (fun ls hl => ?_)
    refine lv_iload hx hb dJ6_getChars_ba4f3_14 (lv_at hl 0 rfl) ?_
    have J_22 : ∀ (n22 : Nat) (U22 : MS) (v22_0 : Int32) (v22_2 : Nat) (v22_5 : Int32) (v22_6 : Int32) (H : Heap) (locs : List Loc) (ls : Array Slot), w_J6_getChars_ba4f3_L22 Q n22 U22 v22_0 v22_2 v22_5 v22_6 → qT U22 v22_2 = 21 → (v22_6 = 0 ∨ v22_6 = 1) → shy S U22 → Rep g ad A s U22 H locs → lv_has ls 7 [(0, .int v22_0), (2, .ref (ad v22_2)), (5, .int v22_5), (6, .int v22_6)] → W p l e (headSpec (wt2 yJ6_getChars_ba4f3 cJ6_getChars_ba4f3 7 (some .int)) ({ frames := 0, cells := 0, slots := 0, locals := 0 })).room s m ([.int x0, .int x1, .ref (ad p2)] : List Value).toArray below meth c H locs 0 0 (MQ below (va_Qi (fun (r : Int32) (u : MS) => Q r u ∧ wfM u ∧ shy S u) (fun (u : MS) (t : State) => qE g ad A u t) A) ([.int x0, .int x1, .ref (ad p2)] : List Value).toArray s 0 0 A) (F0 m 22 ls []) := by
      intro n22
      induction n22 with
      | zero => intro U22 v22_0 v22_2 v22_5 v22_6 H locs ls h hT_v22_2 hz_v22_6 hsh hR hl; unfold w_J6_getChars_ba4f3_L22 at h; exact h.elim
      | succ n22 ih_22 =>
        intro U22 v22_0 v22_2 v22_5 v22_6 H locs ls h hT_v22_2 hz_v22_6 hsh hR hl
        unfold w_J6_getChars_ba4f3_L22 at h
        refine lv_iload_n hx hb dJ6_getChars_ba4f3_22 rfl (lv_at hl 0 rfl) ?_
        refine lv_bipush (v := (-100)) hx hb dJ6_getChars_ba4f3_23 (by decide) ?_
        refine lv_icmp_gt (tgt := 72) hx hb dJ6_getChars_ba4f3_25 (by decide) (fun c1 => ?_) (fun c1 => ?_)
        · replace h := h.1 (k_lt (by decide) rfl c1)
          refine lv_aload_n hx hb dJ6_getChars_ba4f3_72 rfl (lv_at hl 1 rfl) ?_
          obtain ⟨a2, ea2⟩ : ∃ z, z = (v22_5 + Int32.ofInt (-1)) := ⟨_, rfl⟩
          replace h := h a2 ea2
          refine lv_iinc (v := a2) (lv' := [(5, .int a2), (0, .int v22_0), (2, .ref (ad v22_2)), (6, .int v22_6)]) hx hb dJ6_getChars_ba4f3_73 hl (k := 2) rfl ea2.symm (by decide) rfl (fun ls hl => ?_)
          refine lv_iload hx hb dJ6_getChars_ba4f3_76 (lv_at hl 0 rfl) ?_
          obtain ⟨q3, hZ_q3, hG_q3⟩ := id hE.1.2.2.1
          refine va_gets (C := "java/lang/Integer") (n := "DigitOnes") (d := "[B") (v := .ref q3) hx hb hZ_q3 hR.sS hown (hts _ kx_128) (fun _ h9 => h9) dJ6_getChars_ba4f3_78 ?_
          refine lv_iload_n hx hb dJ6_getChars_ba4f3_81 rfl (lv_at hl 1 rfl) ?_
          refine lv_ineg hx hb dJ6_getChars_ba4f3_82 ?_
          refine lv_topi (fun z4 ez4 => ?_)
          obtain rfl : z4 = (-v22_0) := ez4
          obtain ⟨hv5, h⟩ := h
          refine va_tb (v := .int (dgO ((-v22_0).toInt).toNat)) hx hb hG_q3 hR.sS (n_in hv5) rfl dJ6_getChars_ba4f3_83 ?_
          obtain ⟨hv6, h⟩ := h
          refine va_bast hx hb hR.K hR.P hR.D hR.sS v22_2 0 (hR.atV hT_v22_2) rfl (k_ix (x := a2) (a := a2.toInt) rfl hv6) dJ6_getChars_ba4f3_84 (fun H locs hP hD hS => ?_)
          have hR : Rep g ad A s (wI U22 v22_2 a2.toInt.toNat (vp_nar .byte (dgO ((-v22_0).toInt).toNat))) H locs := hR.aV hT_v22_2 hP hD hS
          obtain ⟨S7, eS7⟩ : ∃ z, z = wI U22 v22_2 a2.toInt.toNat (vp_nar .byte (dgO ((-v22_0).toInt).toNat)) := ⟨_, rfl⟩
          rw [← eS7] at hR
          replace h := h S7 eS7
          have hT_v22_2 : qT S7 v22_2 = 21 := (congrArg (fun z => qT z v22_2) eS7).trans hT_v22_2
          have hsh : shy S S7 := by rw [eS7]; exact hsh
          refine lv_iload_n hx hb dJ6_getChars_ba4f3_85 rfl (lv_at hl 1 rfl) ?_
          refine lv_bipush (v := (-9)) hx hb dJ6_getChars_ba4f3_86 (by decide) ?_
          have J_104 : ∀ (U104 : MS) (v104_2 : Nat) (v104_5 : Int32) (v104_6 : Int32) (H : Heap) (locs : List Loc) (ls : Array Slot), w_J6_getChars_ba4f3_J104 Q U104 v104_2 v104_5 v104_6 → qT U104 v104_2 = 21 → (v104_6 = 0 ∨ v104_6 = 1) → shy S U104 → Rep g ad A s U104 H locs → lv_has ls 7 [(2, .ref (ad v104_2)), (5, .int v104_5), (6, .int v104_6)] → W p l e (headSpec (wt2 yJ6_getChars_ba4f3 cJ6_getChars_ba4f3 7 (some .int)) ({ frames := 0, cells := 0, slots := 0, locals := 0 })).room s m ([.int x0, .int x1, .ref (ad p2)] : List Value).toArray below meth c H locs 0 0 (MQ below (va_Qi (fun (r : Int32) (u : MS) => Q r u ∧ wfM u ∧ shy S u) (fun (u : MS) (t : State) => qE g ad A u t) A) ([.int x0, .int x1, .ref (ad p2)] : List Value).toArray s 0 0 A) (F0 m 104 ls []) := by
            intro U104 v104_2 v104_5 v104_6 H locs ls h hT_v104_2 hz_v104_6 hsh hR hl
            unfold w_J6_getChars_ba4f3_J104 at h
            refine lv_iload hx hb dJ6_getChars_ba4f3_104 (lv_at hl 2 rfl) ?_
            refine lv_if_eq (tgt := 118) hx hb dJ6_getChars_ba4f3_106 (by decide) (fun c8 => ?_) (fun c8 => ?_)
            · replace h := h.1 (k_eq rfl (by decide) c8)
              refine lv_iload hx hb dJ6_getChars_ba4f3_118 (lv_at hl 1 rfl) ?_
              exact W.iret (v := v104_5) hx hb hr (fun t9 ht9 hW9 => ⟨⟨_, U104, rfl, ⟨h, hR.w, hsh⟩, ⟨by rw [ht9]; exact hR.P, hR.D⟩⟩, hR.sS.F ht9⟩) hR.sS.2.2 dJ6_getChars_ba4f3_120
            · replace h := h.2 (k_ne rfl (by decide) c8)
              refine lv_aload_n hx hb dJ6_getChars_ba4f3_109 rfl (lv_at hl 0 rfl) ?_
              obtain ⟨a9, ea9⟩ : ∃ z, z = (v104_5 + Int32.ofInt (-1)) := ⟨_, rfl⟩
              replace h := h a9 ea9
              refine lv_iinc (v := a9) (lv' := [(5, .int a9), (2, .ref (ad v104_2)), (6, .int v104_6)]) hx hb dJ6_getChars_ba4f3_110 hl (k := 1) rfl ea9.symm (by decide) rfl (fun ls hl => ?_)
              refine lv_iload hx hb dJ6_getChars_ba4f3_113 (lv_at hl 0 rfl) ?_
              refine lv_bipush (v := 45) hx hb dJ6_getChars_ba4f3_115 (by decide) ?_
              obtain ⟨hv10, h⟩ := h
              refine va_bast hx hb hR.K hR.P hR.D hR.sS v104_2 0 (hR.atV hT_v104_2) rfl (k_ix (x := a9) (a := a9.toInt) rfl hv10) dJ6_getChars_ba4f3_117 (fun H locs hP hD hS => ?_)
              have hR : Rep g ad A s (wI U104 v104_2 a9.toInt.toNat (vp_nar .byte (45 : Int32))) H locs := hR.aV hT_v104_2 hP hD hS
              obtain ⟨S11, eS11⟩ : ∃ z, z = wI U104 v104_2 a9.toInt.toNat (vp_nar .byte (45 : Int32)) := ⟨_, rfl⟩
              rw [← eS11] at hR
              replace h := h S11 eS11
              have hT_v104_2 : qT S11 v104_2 = 21 := (congrArg (fun z => qT z v104_2) eS11).trans hT_v104_2
              have hsh : shy S S11 := by rw [eS11]; exact hsh
              refine lv_iload hx hb dJ6_getChars_ba4f3_118 (lv_at hl 0 rfl) ?_
              exact W.iret (v := a9) hx hb hr (fun t9 ht9 hW9 => ⟨⟨_, S11, rfl, ⟨h, hR.w, hsh⟩, ⟨by rw [ht9]; exact hR.P, hR.D⟩⟩, hR.sS.F ht9⟩) hR.sS.2.2 dJ6_getChars_ba4f3_120
          refine lv_icmp_ge (tgt := 104) hx hb dJ6_getChars_ba4f3_88 (by decide) (fun c12 => ?_) (fun c12 => ?_)
          · replace h := h.1 (k_le (by decide) rfl c12)
            exact J_104 S7 v22_2 a2 v22_6 _ _ ls h hT_v22_2 hz_v22_6 hsh hR (lv_sub hl [2, 0, 3] rfl)
          · replace h := h.2 (k_nle (by decide) rfl c12)
            refine lv_aload_n hx hb dJ6_getChars_ba4f3_91 rfl (lv_at hl 2 rfl) ?_
            obtain ⟨a13, ea13⟩ : ∃ z, z = (a2 + Int32.ofInt (-1)) := ⟨_, rfl⟩
            replace h := h a13 ea13
            refine lv_iinc (v := a13) (lv' := [(5, .int a13), (0, .int v22_0), (2, .ref (ad v22_2)), (6, .int v22_6)]) hx hb dJ6_getChars_ba4f3_92 hl (k := 0) rfl ea13.symm (by decide) rfl (fun ls hl => ?_)
            refine lv_iload hx hb dJ6_getChars_ba4f3_95 (lv_at hl 0 rfl) ?_
            obtain ⟨q14, hZ_q14, hG_q14⟩ := id hE.1.2.2.2
            refine va_gets (C := "java/lang/Integer") (n := "DigitTens") (d := "[B") (v := .ref q14) hx hb hZ_q14 hR.sS hown (hts _ kx_129) (fun _ h9 => h9) dJ6_getChars_ba4f3_97 ?_
            refine lv_iload_n hx hb dJ6_getChars_ba4f3_100 rfl (lv_at hl 1 rfl) ?_
            refine lv_ineg hx hb dJ6_getChars_ba4f3_101 ?_
            refine lv_topi (fun z15 ez15 => ?_)
            obtain rfl : z15 = (-v22_0) := ez15
            obtain ⟨hv16, h⟩ := h
            refine va_tb (v := .int (dgT ((-v22_0).toInt).toNat)) hx hb hG_q14 hR.sS (n_in hv16) rfl dJ6_getChars_ba4f3_102 ?_
            obtain ⟨hv17, h⟩ := h
            refine va_bast hx hb hR.K hR.P hR.D hR.sS v22_2 0 (hR.atV hT_v22_2) rfl (k_ix (x := a13) (a := a13.toInt) rfl hv17) dJ6_getChars_ba4f3_103 (fun H locs hP hD hS => ?_)
            have hR : Rep g ad A s (wI S7 v22_2 a13.toInt.toNat (vp_nar .byte (dgT ((-v22_0).toInt).toNat))) H locs := hR.aV hT_v22_2 hP hD hS
            obtain ⟨S18, eS18⟩ : ∃ z, z = wI S7 v22_2 a13.toInt.toNat (vp_nar .byte (dgT ((-v22_0).toInt).toNat)) := ⟨_, rfl⟩
            rw [← eS18] at hR
            replace h := h S18 eS18
            have hT_v22_2 : qT S18 v22_2 = 21 := (congrArg (fun z => qT z v22_2) eS18).trans hT_v22_2
            have hsh : shy S S18 := by rw [eS18]; exact hsh
            exact J_104 S18 v22_2 a13 v22_6 _ _ ls h hT_v22_2 hz_v22_6 hsh hR (lv_sub hl [2, 0, 3] rfl)
        · replace h := h.2 (k_nlt (by decide) rfl c1)
          refine lv_iload_n hx hb dJ6_getChars_ba4f3_28 rfl (lv_at hl 0 rfl) ?_
          refine lv_bipush (v := 100) hx hb dJ6_getChars_ba4f3_29 (by decide) ?_
          refine lv_idiv hx hb dJ6_getChars_ba4f3_31 (by decide) ?_
          refine lv_topi (fun z19 ez19 => ?_)
          obtain rfl : z19 = (v22_0 / (100 : Int32)) := ez19
          obtain ⟨a20, ea20⟩ : ∃ z, z = (v22_0 / (100 : Int32)) := ⟨_, rfl⟩
          rw [← ea20]
          replace h := h a20 ea20
          refine lv_istore_n (lv' := [(3, .int a20), (0, .int v22_0), (2, .ref (ad v22_2)), (5, .int v22_5), (6, .int v22_6)]) hx hb dJ6_getChars_ba4f3_32 rfl hl (by decide) rfl (fun ls hl => ?_)
          refine lv_iload_n hx hb dJ6_getChars_ba4f3_33 rfl (lv_at hl 0 rfl) ?_
          refine lv_bipush (v := 100) hx hb dJ6_getChars_ba4f3_34 (by decide) ?_
          refine lv_imul hx hb dJ6_getChars_ba4f3_36 ?_
          refine lv_topi (fun z21 ez21 => ?_)
          obtain rfl : z21 = (a20 * (100 : Int32)) := ez21
          refine lv_iload_n hx hb dJ6_getChars_ba4f3_37 rfl (lv_at hl 1 rfl) ?_
          refine lv_isub hx hb dJ6_getChars_ba4f3_38 ?_
          refine lv_topi (fun z22 ez22 => ?_)
          obtain rfl : z22 = ((a20 * (100 : Int32)) - v22_0) := ez22
          obtain ⟨a23, ea23⟩ : ∃ z, z = ((a20 * (100 : Int32)) - v22_0) := ⟨_, rfl⟩
          rw [← ea23]
          replace h := h a23 ea23
          refine lv_istore (lv' := [(4, .int a23), (3, .int a20), (0, .int v22_0), (2, .ref (ad v22_2)), (5, .int v22_5), (6, .int v22_6)]) hx hb dJ6_getChars_ba4f3_39 hl (by decide) rfl (fun ls hl => ?_)
          refine lv_iload_n hx hb dJ6_getChars_ba4f3_41 rfl (lv_at hl 1 rfl) ?_
          refine lv_istore_n (lv' := [(0, .int a20), (4, .int a23), (3, .int a20), (2, .ref (ad v22_2)), (5, .int v22_5), (6, .int v22_6)]) hx hb dJ6_getChars_ba4f3_42 rfl hl (by decide) rfl (fun ls hl => ?_)
          refine lv_aload_n hx hb dJ6_getChars_ba4f3_43 rfl (lv_at hl 3 rfl) ?_
          obtain ⟨a24, ea24⟩ : ∃ z, z = (v22_5 + Int32.ofInt (-1)) := ⟨_, rfl⟩
          replace h := h a24 ea24
          refine lv_iinc (v := a24) (lv' := [(5, .int a24), (0, .int a20), (4, .int a23), (3, .int a20), (2, .ref (ad v22_2)), (6, .int v22_6)]) hx hb dJ6_getChars_ba4f3_44 hl (k := 4) rfl ea24.symm (by decide) rfl (fun ls hl => ?_)
          refine lv_iload hx hb dJ6_getChars_ba4f3_47 (lv_at hl 0 rfl) ?_
          obtain ⟨q25, hZ_q25, hG_q25⟩ := id hE.1.2.2.1
          refine va_gets (C := "java/lang/Integer") (n := "DigitOnes") (d := "[B") (v := .ref q25) hx hb hZ_q25 hR.sS hown (hts _ kx_128) (fun _ h9 => h9) dJ6_getChars_ba4f3_49 ?_
          refine lv_iload hx hb dJ6_getChars_ba4f3_52 (lv_at hl 2 rfl) ?_
          obtain ⟨hv26, h⟩ := h
          refine va_tb (v := .int (dgO a23.toInt.toNat)) hx hb hG_q25 hR.sS (n_in hv26) rfl dJ6_getChars_ba4f3_54 ?_
          obtain ⟨hv27, h⟩ := h
          refine va_bast hx hb hR.K hR.P hR.D hR.sS v22_2 0 (hR.atV hT_v22_2) rfl (k_ix (x := a24) (a := a24.toInt) rfl hv27) dJ6_getChars_ba4f3_55 (fun H locs hP hD hS => ?_)
          have hR : Rep g ad A s (wI U22 v22_2 a24.toInt.toNat (vp_nar .byte (dgO a23.toInt.toNat))) H locs := hR.aV hT_v22_2 hP hD hS
          obtain ⟨S28, eS28⟩ : ∃ z, z = wI U22 v22_2 a24.toInt.toNat (vp_nar .byte (dgO a23.toInt.toNat)) := ⟨_, rfl⟩
          rw [← eS28] at hR
          replace h := h S28 eS28
          have hT_v22_2 : qT S28 v22_2 = 21 := (congrArg (fun z => qT z v22_2) eS28).trans hT_v22_2
          have hsh : shy S S28 := by rw [eS28]; exact hsh
          refine lv_aload_n hx hb dJ6_getChars_ba4f3_56 rfl (lv_at hl 4 rfl) ?_
          obtain ⟨a29, ea29⟩ : ∃ z, z = (a24 + Int32.ofInt (-1)) := ⟨_, rfl⟩
          replace h := h a29 ea29
          refine lv_iinc (v := a29) (lv' := [(5, .int a29), (0, .int a20), (4, .int a23), (3, .int a20), (2, .ref (ad v22_2)), (6, .int v22_6)]) hx hb dJ6_getChars_ba4f3_57 hl (k := 0) rfl ea29.symm (by decide) rfl (fun ls hl => ?_)
          refine lv_iload hx hb dJ6_getChars_ba4f3_60 (lv_at hl 0 rfl) ?_
          obtain ⟨q30, hZ_q30, hG_q30⟩ := id hE.1.2.2.2
          refine va_gets (C := "java/lang/Integer") (n := "DigitTens") (d := "[B") (v := .ref q30) hx hb hZ_q30 hR.sS hown (hts _ kx_129) (fun _ h9 => h9) dJ6_getChars_ba4f3_62 ?_
          refine lv_iload hx hb dJ6_getChars_ba4f3_65 (lv_at hl 2 rfl) ?_
          obtain ⟨hv31, h⟩ := h
          refine va_tb (v := .int (dgT a23.toInt.toNat)) hx hb hG_q30 hR.sS (n_in hv31) rfl dJ6_getChars_ba4f3_67 ?_
          obtain ⟨hv32, h⟩ := h
          refine va_bast hx hb hR.K hR.P hR.D hR.sS v22_2 0 (hR.atV hT_v22_2) rfl (k_ix (x := a29) (a := a29.toInt) rfl hv32) dJ6_getChars_ba4f3_68 (fun H locs hP hD hS => ?_)
          have hR : Rep g ad A s (wI S28 v22_2 a29.toInt.toNat (vp_nar .byte (dgT a23.toInt.toNat))) H locs := hR.aV hT_v22_2 hP hD hS
          obtain ⟨S33, eS33⟩ : ∃ z, z = wI S28 v22_2 a29.toInt.toNat (vp_nar .byte (dgT a23.toInt.toNat)) := ⟨_, rfl⟩
          rw [← eS33] at hR
          replace h := h S33 eS33
          have hT_v22_2 : qT S33 v22_2 = 21 := (congrArg (fun z => qT z v22_2) eS33).trans hT_v22_2
          have hsh : shy S S33 := by rw [eS33]; exact hsh
          refine lv_goto (tgt := 22) hx hb dJ6_getChars_ba4f3_69 (by decide) ?_
          exact ih_22 S33 a20 v22_2 a29 v22_6 _ _ ls h hT_v22_2 hz_v22_6 hsh hR (lv_sub hl [1, 4, 0, 5] rfl)
    refine lv_if_ne (tgt := 22) hx hb dJ6_getChars_ba4f3_16 (by decide) (fun c34 => ?_) (fun c34 => ?_)
    · replace h := h.2 (k_ne rfl (by decide) c34)
      obtain ⟨n9, h⟩ := h
      exact J_22 n9 U12 v12_0 v12_2 v12_5 t12_0 _ _ ls h hT_v12_2 hz_t12_0 hsh hR (lv_sub hl [1, 2, 3, 0] rfl)
    · replace h := h.1 (k_eq rfl (by decide) c34)
      refine lv_iload_n hx hb dJ6_getChars_ba4f3_19 rfl (lv_at hl 1 rfl) ?_
      refine lv_ineg hx hb dJ6_getChars_ba4f3_20 ?_
      refine lv_topi (fun z35 ez35 => ?_)
      obtain rfl : z35 = (-v12_0) := ez35
      obtain ⟨a36, ea36⟩ : ∃ z, z = (-v12_0) := ⟨_, rfl⟩
      rw [← ea36]
      replace h := h a36 ea36
      refine lv_istore_n (lv' := [(0, .int a36), (6, .int t12_0), (2, .ref (ad v12_2)), (5, .int v12_5)]) hx hb dJ6_getChars_ba4f3_21 rfl hl (by decide) rfl (fun ls hl => ?_)
      obtain ⟨n9, h⟩ := h
      exact J_22 n9 U12 a36 v12_2 v12_5 t12_0 _ _ ls h hT_v12_2 hz_t12_0 hsh hR (lv_sub hl [0, 2, 3, 1] rfl)
  refine lv_if_ge (tgt := 11) hx hb dJ6_getChars_ba4f3_4 (by decide) (fun c37 => ?_) (fun c37 => ?_)
  · replace h := h.1 (k_le (by decide) rfl c37)
    refine lv_iconst (v := 0) hx hb dJ6_getChars_ba4f3_11 (by decide) ?_
    exact J_12 S 0 x0 p2 x1 _ _ ls h hT_p2 (Or.inl rfl) hsh hR (lv_sub hl [1, 3, 0] rfl)
  · replace h := h.2 (k_nle (by decide) rfl c37)
    refine lv_iconst (v := 1) hx hb dJ6_getChars_ba4f3_7 (by decide) ?_
    refine lv_goto (tgt := 12) hx hb dJ6_getChars_ba4f3_8 (by decide) ?_
    exact J_12 S 1 x0 p2 x1 _ _ ls h hT_p2 (Or.inr rfl) hsh hR (lv_sub hl [1, 3, 0] rfl)
