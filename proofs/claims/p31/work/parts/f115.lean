def f_X2_switchTarget_J53 (S : MS) (t53_0 : Int32) (t53_2 : Int64) : Int64 := (t53_2 + ((fX2_s4 S t53_0).toInt64))
def d_X2_switchTarget_J53 (S : MS) (t53_0 : Int32) (t53_2 : Int64) : Prop := (d_X2_s4 S t53_0 ∧ True)
def fX2_switchTarget (S : MS) (x1 : Int32) (x2 : Int32) : Int64 := (if 0 ≤ x2.toInt then (if (qI S 8 9).toInt = 170 then f_X2_switchTarget_J53 S ((x1 + (12 : Int32)) + ((4 : Int32) * x2)) ((qI S 8 11).toInt64) else f_X2_switchTarget_J53 S ((x1 + (12 : Int32)) + ((8 : Int32) * x2)) ((qI S 8 11).toInt64)) else (((qI S 8 11).toInt64) + ((fX2_s4 S x1).toInt64)))
def d_X2_switchTarget (S : MS) (x1 : Int32) (x2 : Int32) : Prop := (if 0 ≤ x2.toInt then (if (qI S 8 9).toInt = 170 then d_X2_switchTarget_J53 S ((x1 + (12 : Int32)) + ((4 : Int32) * x2)) ((qI S 8 11).toInt64) else d_X2_switchTarget_J53 S ((x1 + (12 : Int32)) + ((8 : Int32) * x2)) ((qI S 8 11).toInt64)) else (d_X2_s4 S x1 ∧ True))
set_option maxHeartbeats 2000000 in
set_option maxRecDepth 100000 in
theorem rX2_switchTarget (l : Launch) (g : Gr) (ad : Nat → Nat) (sz : Nat) (S : MS) (x1 : Int32) (x2 : Int32) (hw : wfC S) (hd : d_X2_switchTarget S x1 x2) : Met l yX2_switchTarget (wt yX2_switchTarget cX2_switchTarget 3 (some .long)) ({ frames := 2, cells := 0, slots := 0, locals := 42 }) (va_Pc [.ref (ad 8), .int x1, .int x2] (st_C g ad sz S)) (va_Ql (fun (r : Int64) (_ : Unit) => r = fX2_switchTarget S x1 x2) (fun (_ : Unit) (t : State) => qEC g ad (va_A (WdC g ad S) sz) S t) (va_A (WdC g ad S) sz)) 0 0 (va_A (WdC g ad S) sz) := by
  refine Met.ofW (cc := cX2_switchTarget) (maxL := 3) (ret := (some .long)) (by decide) rfl ?_
  intro p e s m args below meth c s₁ B hml hv
  obtain ⟨rfl, hsz, hP, hK, hD0, hex, hE⟩ := hv
  have hx := B.exec
  have hb := B.bytes
  have hr := B.returns
  have hts0 := atoms_spec (ws := wt yX2_switchTarget cX2_switchTarget 3 (some .long)) B.pre
  have hts : ∀ w ∈ tb, w.before _ s = true := fun w h => hts0 w (List.mem_cons_of_mem _ h)
  have hown : s.vm.findClass RX2 = some m.cls := findClass_of_methodNamed B.named
  subst hsz
  have hD := hD0.self (sz := s.heap.size)
  generalize hAe : va_A (WdC g ad S) s.heap.size = A at hD hE ⊢
  have hA : ∀ q : Nat, s.heap.size ≤ q → A q := fun q h => by rw [← hAe]; exact Or.inr h
  have hR : RepC g ad A s S s.heap [] := ⟨hK, hP, hD, va_S.rf, hw⟩
  clear hK hP hD hD0
  have hl := lv_entry ([.ref (ad 8), .int x1, .int x2]) (n := 3) (Nat.le_of_ble_eq_true rfl)
  rw [lg_entry_eq]
  generalize (lg_sl ([.ref (ad 8), .int x1, .int x2]) ++ List.replicate (3 - (lg_sl ([.ref (ad 8), .int x1, .int x2])).length) Slot.unset).toArray = ls at hl ⊢
  have hl : lv_has ls 3 [(0, .ref (ad 8)), (1, .int x1), (2, .int x2)] := hl
  obtain ⟨r0, hf⟩ : ∃ r0, fX2_switchTarget S x1 x2 = r0 := ⟨_, rfl⟩
  have hf0 := hf
  unfold fX2_switchTarget at hf
  unfold d_X2_switchTarget at hd
  refine lv_iload_n hx hb dX2_switchTarget_0 rfl (lv_at hl 2 rfl) ?_
  refine lv_if_ge (tgt := 17) hx hb dX2_switchTarget_1 (by decide) (fun c1 => ?_) (fun c1 => ?_)
  · rw [if_pos (k_le (by decide) rfl c1)] at hf
    (try rw [if_pos (k_le (by decide) rfl c1)] at hd)
    refine lv_aload_n hx hb dX2_switchTarget_17 rfl (lv_at hl 0 rfl) ?_
    refine va_get (D := rD g) (ci := 2) (v := .int (qI S 8 11)) (C := RX2) (T := TX2) (N := 12) hx hb hts inX2 hown hR.K hR.P 8 (hR.at42 (hR.w.2.1 _ finC_26).2.1) rfl 11 (by decide) (hts _ kw_683) (fun _ h9 => h9) rfl dX2_switchTarget_18 ?_
    refine lv_i2l (v := ((qI S 8 11).toInt64)) hx hb dX2_switchTarget_21 rfl ?_
    refine lv_aload_n hx hb dX2_switchTarget_22 rfl (lv_at hl 0 rfl) ?_
    refine lv_aload_n hx hb dX2_switchTarget_23 rfl (lv_at hl 0 rfl) ?_
    refine va_get (D := rD g) (ci := 2) (v := .int (qI S 8 9)) (C := RX2) (T := TX2) (N := 12) hx hb hts inX2 hown hR.K hR.P 8 (hR.at42 (hR.w.2.1 _ finC_26).2.1) rfl 9 (by decide) (hts _ kw_619) (fun _ h9 => h9) rfl dX2_switchTarget_24 ?_
    refine lv_sipush (v := 170) hx hb dX2_switchTarget_27 (by decide) ?_
    have J_53 : ∀ (t53_0 : Int32) (t53_2 : Int64) (H : Heap) (locs : List Loc) (ls : Array Slot), d_X2_switchTarget_J53 S t53_0 t53_2 → f_X2_switchTarget_J53 S t53_0 t53_2 = r0 → RepC g ad A s S H locs → lv_has ls 3 [] → W p l e (headSpec (wt yX2_switchTarget cX2_switchTarget 3 (some .long)) ({ frames := 2, cells := 0, slots := 0, locals := 42 })).room s m ([.ref (ad 8), .int x1, .int x2] : List Value).toArray below meth c H locs 0 0 (MQ below (va_Ql (fun (r : Int64) (_ : Unit) => r = fX2_switchTarget S x1 x2) (fun (_ : Unit) (t : State) => qEC g ad A S t) A) ([.ref (ad 8), .int x1, .int x2] : List Value).toArray s 0 0 A) (F0 m 53 ls [.int t53_0, .ref (ad 8), .long t53_2]) := by
      intro t53_0 t53_2 H locs ls hd hf hR hl
      unfold d_X2_switchTarget_J53 at hd
      unfold f_X2_switchTarget_J53 at hf
      obtain ⟨hv2, hd⟩ := hd
      have hFc := cfree hR hA
      refine va_calli (va_runV (As := [.int t53_0]) (rest := [.long t53_2]) ⟨hx, hb, hml, hown, hts⟩ (rX2_s4 l g ad H.size S t53_0 hR.w  hv2) (cwV 1 hts (gd_V kw_623 kw_790 kw_791 kw_389 kw_789) rfl rfl rfl (by decide +kernel) ⟨Nat.le_of_ble_eq_true rfl, Nat.le_of_ble_eq_true rfl⟩) ⟨cblind, va_recv hR.K hR.P (ci := 2) (q0 := 8) rfl (hR.at42 (hR.w.2.1 _ finC_26).2.1), fun U hU hW9 => cmk hU hW9 hR hex hE hFc⟩ rfl rfl hl.1 rfl (lv_room (Nat.le_of_ble_eq_true rfl)) dX2_switchTarget_53 ⟨Nat.le_of_ble_eq_true rfl, Nat.le_of_ble_eq_true rfl⟩) hR.sS (fun q _ h => hFc q h) hFc (fun r3 u9 t9 H1 locs ht9 hvm9 hw9 hB9 hz9 hk9 hS => ?_)
      have hR : RepC g ad A s S H1 locs := hR.call ht9 hB9 hR.w hS hFc
      obtain rfl : r3 = (fX2_s4 S t53_0) := hw9
      clear hB9 hz9 hk9 hvm9 ht9 hS
      generalize H1 = H at hR ⊢
      refine lv_i2l (v := ((fX2_s4 S t53_0).toInt64)) hx hb dX2_switchTarget_56 rfl ?_
      refine lv_ladd hx hb dX2_switchTarget_57 ?_
      refine lv_topl (fun z5 ez5 => ?_)
      obtain rfl : z5 = (t53_2 + ((fX2_s4 S t53_0).toInt64)) := ez5
      exact W.lret (v := (t53_2 + ((fX2_s4 S t53_0).toInt64))) hx hb hr (fun t9 ht9 hW9 => ⟨⟨_, (), rfl, hf.trans hf0.symm, ⟨by rw [ht9]; exact hR.P, hR.D⟩⟩, hR.sS.F ht9⟩) hR.sS.2.2 dX2_switchTarget_58
    refine lv_icmp_ne (tgt := 44) hx hb dX2_switchTarget_30 (by decide) (fun c6 => ?_) (fun c6 => ?_)
    · rw [if_neg (k_ne rfl (by decide) c6)] at hf
      (try rw [if_neg (k_ne rfl (by decide) c6)] at hd)
      refine lv_iload_n hx hb dX2_switchTarget_44 rfl (lv_at hl 1 rfl) ?_
      refine lv_bipush (v := 12) hx hb dX2_switchTarget_45 (by decide) ?_
      refine lv_iadd hx hb dX2_switchTarget_47 ?_
      refine lv_topi (fun z7 ez7 => ?_)
      obtain rfl : z7 = (x1 + (12 : Int32)) := ez7
      refine lv_bipush (v := 8) hx hb dX2_switchTarget_48 (by decide) ?_
      refine lv_iload_n hx hb dX2_switchTarget_50 rfl (lv_at hl 2 rfl) ?_
      refine lv_imul hx hb dX2_switchTarget_51 ?_
      refine lv_topi (fun z8 ez8 => ?_)
      obtain rfl : z8 = ((8 : Int32) * x2) := ez8
      refine lv_iadd hx hb dX2_switchTarget_52 ?_
      refine lv_topi (fun z9 ez9 => ?_)
      obtain rfl : z9 = ((x1 + (12 : Int32)) + ((8 : Int32) * x2)) := ez9
      exact J_53 ((x1 + (12 : Int32)) + ((8 : Int32) * x2)) ((qI S 8 11).toInt64) _ _ ls hd hf  hR (lv_sub hl [] rfl)
    · rw [if_pos (k_eq rfl (by decide) c6)] at hf
      (try rw [if_pos (k_eq rfl (by decide) c6)] at hd)
      refine lv_iload_n hx hb dX2_switchTarget_33 rfl (lv_at hl 1 rfl) ?_
      refine lv_bipush (v := 12) hx hb dX2_switchTarget_34 (by decide) ?_
      refine lv_iadd hx hb dX2_switchTarget_36 ?_
      refine lv_topi (fun z10 ez10 => ?_)
      obtain rfl : z10 = (x1 + (12 : Int32)) := ez10
      refine lv_iconst (v := 4) hx hb dX2_switchTarget_37 (by decide) ?_
      refine lv_iload_n hx hb dX2_switchTarget_38 rfl (lv_at hl 2 rfl) ?_
      refine lv_imul hx hb dX2_switchTarget_39 ?_
      refine lv_topi (fun z11 ez11 => ?_)
      obtain rfl : z11 = ((4 : Int32) * x2) := ez11
      refine lv_iadd hx hb dX2_switchTarget_40 ?_
      refine lv_topi (fun z12 ez12 => ?_)
      obtain rfl : z12 = ((x1 + (12 : Int32)) + ((4 : Int32) * x2)) := ez12
      refine lv_goto (tgt := 53) hx hb dX2_switchTarget_41 (by decide) ?_
      exact J_53 ((x1 + (12 : Int32)) + ((4 : Int32) * x2)) ((qI S 8 11).toInt64) _ _ ls hd hf  hR (lv_sub hl [] rfl)
  · rw [if_neg (k_nle (by decide) rfl c1)] at hf
    (try rw [if_neg (k_nle (by decide) rfl c1)] at hd)
    refine lv_aload_n hx hb dX2_switchTarget_4 rfl (lv_at hl 0 rfl) ?_
    refine va_get (D := rD g) (ci := 2) (v := .int (qI S 8 11)) (C := RX2) (T := TX2) (N := 12) hx hb hts inX2 hown hR.K hR.P 8 (hR.at42 (hR.w.2.1 _ finC_26).2.1) rfl 11 (by decide) (hts _ kw_683) (fun _ h9 => h9) rfl dX2_switchTarget_5 ?_
    refine lv_i2l (v := ((qI S 8 11).toInt64)) hx hb dX2_switchTarget_8 rfl ?_
    refine lv_aload_n hx hb dX2_switchTarget_9 rfl (lv_at hl 0 rfl) ?_
    refine lv_iload_n hx hb dX2_switchTarget_10 rfl (lv_at hl 1 rfl) ?_
    obtain ⟨hv13, hd⟩ := hd
    have hFc := cfree hR hA
    refine va_calli (va_runV (As := [.int x1]) (rest := [.long ((qI S 8 11).toInt64)]) ⟨hx, hb, hml, hown, hts⟩ (rX2_s4 l g ad s.heap.size S x1 hR.w  hv13) (cwV 1 hts (gd_V kw_623 kw_790 kw_791 kw_389 kw_789) rfl rfl rfl (by decide +kernel) ⟨Nat.le_of_ble_eq_true rfl, Nat.le_of_ble_eq_true rfl⟩) ⟨cblind, va_recv hR.K hR.P (ci := 2) (q0 := 8) rfl (hR.at42 (hR.w.2.1 _ finC_26).2.1), fun U hU hW9 => cmk hU hW9 hR hex hE hFc⟩ rfl rfl hl.1 rfl (lv_room (Nat.le_of_ble_eq_true rfl)) dX2_switchTarget_11 ⟨Nat.le_of_ble_eq_true rfl, Nat.le_of_ble_eq_true rfl⟩) hR.sS (fun q _ h => hFc q h) hFc (fun r14 u9 t9 H1 locs ht9 hvm9 hw9 hB9 hz9 hk9 hS => ?_)
    have hR : RepC g ad A s S H1 locs := hR.call ht9 hB9 hR.w hS hFc
    obtain rfl : r14 = (fX2_s4 S x1) := hw9
    clear hB9 hz9 hk9 hvm9 ht9 hS
    generalize H1 = H at hR ⊢
    refine lv_i2l (v := ((fX2_s4 S x1).toInt64)) hx hb dX2_switchTarget_14 rfl ?_
    refine lv_ladd hx hb dX2_switchTarget_15 ?_
    refine lv_topl (fun z16 ez16 => ?_)
    obtain rfl : z16 = (((qI S 8 11).toInt64) + ((fX2_s4 S x1).toInt64)) := ez16
    exact W.lret (v := (((qI S 8 11).toInt64) + ((fX2_s4 S x1).toInt64))) hx hb hr (fun t9 ht9 hW9 => ⟨⟨_, (), rfl, hf.trans hf0.symm, ⟨by rw [ht9]; exact hR.P, hR.D⟩⟩, hR.sS.F ht9⟩) hR.sS.2.2 dX2_switchTarget_16
def w_X2_targetsHold_L14 (Q : Int32 → MS → Prop) : Nat → MS → Int32 → Int32 → Int32 → Prop
  | 0, _, _, _, _ => False
  | n14 + 1, U14, v14_1, v14_2, v14_3 => (wfC U14 → ((v14_2.toInt ≤ v14_3.toInt → Q (1 : Int32) U14) ∧ (¬ v14_2.toInt ≤ v14_3.toInt → (d_X2_switchTarget U14 v14_1 v14_3 ∧ (∀ a10 : Int64, a10 = (fX2_switchTarget U14 v14_1 v14_3) → (d_X2_isInstruction U14 a10 ∧ (∀ a14 : Int32, a14 = (fX2_isInstruction U14 a10) → ((a14.toInt = 0 → Q (0 : Int32) U14) ∧ (¬ a14.toInt = 0 → (∀ a16 : Int32, a16 = (v14_3 + Int32.ofInt 1) → (w_X2_targetsHold_L14 Q n14) U14 v14_1 v14_2 a16))))))))))
def wX2_targetsHold (S : MS) (Q : Int32 → MS → Prop) : Prop := (∀ a1 : Int32, a1 = ((qJ S 8 10).toInt32) → (d_X2_switchCount S a1 ∧ (∀ a5 : Int32, a5 = (fX2_switchCount S a1) → (∃ n, w_X2_targetsHold_L14 Q n S a1 a5 (-1)))))
set_option maxHeartbeats 2000000 in
set_option maxRecDepth 100000 in
theorem rX2_targetsHold (l : Launch) (g : Gr) (ad : Nat → Nat) (sz : Nat) (S : MS) (hw : wfC S) (Q : Int32 → MS → Prop) (h : wX2_targetsHold S Q) : Met l yX2_targetsHold (wt yX2_targetsHold cX2_targetsHold 4 (some .boolean)) ({ frames := 3, cells := 0, slots := 0, locals := 64 }) (va_Pc [.ref (ad 8)] (st_C g ad sz S)) (va_Qi (fun (r : Int32) (u : MS) => Q r u ∧ wfC u ∧ shy S u ∧ (r = 0 ∨ r = 1)) (fun (u : MS) (t : State) => qEC g ad (va_A (WdC g ad S) sz) u t) (va_A (WdC g ad S) sz)) 0 0 (va_A (WdC g ad S) sz) := by
  refine Met.ofW (cc := cX2_targetsHold) (maxL := 4) (ret := (some .boolean)) (by decide) rfl ?_
  intro p e s m args below meth c s₁ B hml hv
  obtain ⟨rfl, hsz, hP, hK, hD0, hex, hE⟩ := hv
  have hx := B.exec
  have hb := B.bytes
  have hr := B.returns
  have hts0 := atoms_spec (ws := wt yX2_targetsHold cX2_targetsHold 4 (some .boolean)) B.pre
  have hts : ∀ w ∈ tb, w.before _ s = true := fun w h => hts0 w (List.mem_cons_of_mem _ h)
  have hown : s.vm.findClass RX2 = some m.cls := findClass_of_methodNamed B.named
  subst hsz
  have hD := hD0.self (sz := s.heap.size)
  generalize hAe : va_A (WdC g ad S) s.heap.size = A at hD hE ⊢
  have hA : ∀ q : Nat, s.heap.size ≤ q → A q := fun q h => by rw [← hAe]; exact Or.inr h
  have hR : RepC g ad A s S s.heap [] := ⟨hK, hP, hD, va_S.rf, hw⟩
  clear hK hP hD hD0
  have hl := lv_entry ([.ref (ad 8)]) (n := 4) (Nat.le_of_ble_eq_true rfl)
  rw [lg_entry_eq]
  generalize (lg_sl ([.ref (ad 8)]) ++ List.replicate (4 - (lg_sl ([.ref (ad 8)])).length) Slot.unset).toArray = ls at hl ⊢
  have hl : lv_has ls 4 [(0, .ref (ad 8))] := hl
  have hsh : shy S S := shy.rf
  unfold wX2_targetsHold at h
  refine lv_aload_n hx hb dX2_targetsHold_0 rfl (lv_at hl 0 rfl) ?_
  refine va_get (D := rD g) (ci := 2) (v := .long (qJ S 8 10)) (C := RX2) (T := TX2) (N := 12) hx hb hts inX2 hown hR.K hR.P 8 (hR.at42 (hR.w.2.1 _ finC_26).2.1) rfl 10 (by decide) (hts _ kw_617) (fun _ h9 => h9) rfl dX2_targetsHold_1 ?_
  refine lv_l2i (v := ((qJ S 8 10).toInt32)) hx hb dX2_targetsHold_4 rfl ?_
  obtain ⟨a1, ea1⟩ : ∃ z, z = ((qJ S 8 10).toInt32) := ⟨_, rfl⟩
  rw [← ea1]
  replace h := h a1 ea1
  refine lv_istore_n (lv' := [(1, .int a1), (0, .ref (ad 8))]) hx hb dX2_targetsHold_5 rfl hl (by decide) rfl (fun ls hl => ?_)
  refine lv_aload_n hx hb dX2_targetsHold_6 rfl (lv_at hl 1 rfl) ?_
  refine lv_iload_n hx hb dX2_targetsHold_7 rfl (lv_at hl 0 rfl) ?_
  obtain ⟨hv2, h⟩ := h
  have hFc := cfree hR hA
  refine va_calli (va_runV (As := [.int a1]) (rest := []) ⟨hx, hb, hml, hown, hts⟩ (rX2_switchCount l g ad s.heap.size S a1 hR.w  hv2) (cwV 1 hts (gd_V kw_618 kw_796 kw_797 kw_389 kw_795) rfl rfl rfl (by decide +kernel) ⟨Nat.le_of_ble_eq_true rfl, Nat.le_of_ble_eq_true rfl⟩) ⟨cblind, va_recv hR.K hR.P (ci := 2) (q0 := 8) rfl (hR.at42 (hR.w.2.1 _ finC_26).2.1), fun U hU hW9 => cmk hU hW9 hR hex hE hFc⟩ rfl rfl hl.1 rfl (lv_room (Nat.le_of_ble_eq_true rfl)) dX2_targetsHold_8 ⟨Nat.le_of_ble_eq_true rfl, Nat.le_of_ble_eq_true rfl⟩) hR.sS (fun q _ h => hFc q h) hFc (fun r3 u9 t9 H1 locs ht9 hvm9 hw9 hB9 hz9 hk9 hS => ?_)
  have hR : RepC g ad A s S H1 locs := hR.call ht9 hB9 hR.w hS hFc
  obtain rfl : r3 = (fX2_switchCount S a1) := hw9
  clear hB9 hz9 hk9 hvm9 ht9 hS
  generalize H1 = H at hR ⊢
  obtain ⟨a5, ea5⟩ : ∃ z, z = (fX2_switchCount S a1) := ⟨_, rfl⟩
  rw [← ea5]
  replace h := h a5 ea5
  refine lv_istore_n (lv' := [(2, .int a5), (1, .int a1), (0, .ref (ad 8))]) hx hb dX2_targetsHold_11 rfl hl (by decide) rfl (fun ls hl => ?_)
  refine lv_iconst (v := (-1)) hx hb dX2_targetsHold_12 (by decide) ?_
  refine lv_istore_n (lv' := [(3, .int (-1)), (2, .int a5), (1, .int a1), (0, .ref (ad 8))]) hx hb dX2_targetsHold_13 rfl hl (by decide) rfl (fun ls hl => ?_)
  have J_14 : ∀ (n14 : Nat) (U14 : MS) (v14_1 : Int32) (v14_2 : Int32) (v14_3 : Int32) (H : Heap) (locs : List Loc) (ls : Array Slot), w_X2_targetsHold_L14 Q n14 U14 v14_1 v14_2 v14_3 → shy S U14 → RepC g ad A s U14 H locs → lv_has ls 4 [(0, .ref (ad 8)), (1, .int v14_1), (2, .int v14_2), (3, .int v14_3)] → W p l e (headSpec (wt yX2_targetsHold cX2_targetsHold 4 (some .boolean)) ({ frames := 3, cells := 0, slots := 0, locals := 64 })).room s m ([.ref (ad 8)] : List Value).toArray below meth c H locs 0 0 (MQ below (va_Qi (fun (r : Int32) (u : MS) => Q r u ∧ wfC u ∧ shy S u ∧ (r = 0 ∨ r = 1)) (fun (u : MS) (t : State) => qEC g ad A u t) A) ([.ref (ad 8)] : List Value).toArray s 0 0 A) (F0 m 14 ls []) := by
    intro n14
    induction n14 with
    | zero => intro U14 v14_1 v14_2 v14_3 H locs ls h hsh hR hl; unfold w_X2_targetsHold_L14 at h; exact h.elim
    | succ n14 ih_14 =>
      intro U14 v14_1 v14_2 v14_3 H locs ls h hsh hR hl
      unfold w_X2_targetsHold_L14 at h
      replace h := h hR.w
      refine lv_iload_n hx hb dX2_targetsHold_14 rfl (lv_at hl 3 rfl) ?_
      refine lv_iload_n hx hb dX2_targetsHold_15 rfl (lv_at hl 2 rfl) ?_
      refine lv_icmp_ge (tgt := 40) hx hb dX2_targetsHold_16 (by decide) (fun c6 => ?_) (fun c6 => ?_)
      · replace h := h.1 (k_le rfl rfl c6)
        refine lv_iconst (v := 1) hx hb dX2_targetsHold_40 (by decide) ?_
        exact W.zret (v := 1) hx hb hr (nz (Or.inr rfl)) (fun t9 ht9 hW9 => ⟨⟨_, U14, rfl, ⟨h, hR.w, hsh, (Or.inr rfl)⟩, ⟨by rw [ht9]; exact hR.P, hR.D⟩⟩, hR.sS.F ht9⟩) hR.sS.2.2 dX2_targetsHold_41
      · replace h := h.2 (k_nle rfl rfl c6)
        refine lv_aload_n hx hb dX2_targetsHold_19 rfl (lv_at hl 0 rfl) ?_
        refine lv_aload_n hx hb dX2_targetsHold_20 rfl (lv_at hl 0 rfl) ?_
        refine lv_iload_n hx hb dX2_targetsHold_21 rfl (lv_at hl 1 rfl) ?_
        refine lv_iload_n hx hb dX2_targetsHold_22 rfl (lv_at hl 3 rfl) ?_
        obtain ⟨hv7, h⟩ := h
        have hFc := cfree hR hA
        refine va_calll (va_runV (As := [.int v14_1, .int v14_3]) (rest := [.ref (ad 8)]) ⟨hx, hb, hml, hown, hts⟩ (rX2_switchTarget l g ad H.size U14 v14_1 v14_3 hR.w  hv7) (cwV 2 hts (gd_V kw_624 kw_799 kw_800 kw_389 kw_798) rfl rfl rfl (by decide +kernel) ⟨Nat.le_of_ble_eq_true rfl, Nat.le_of_ble_eq_true rfl⟩) ⟨cblind, va_recv hR.K hR.P (ci := 2) (q0 := 8) rfl (hR.at42 (hR.w.2.1 _ finC_26).2.1), fun U hU hW9 => cmk hU hW9 hR hex hE hFc⟩ rfl rfl hl.1 rfl (lv_room (Nat.le_of_ble_eq_true rfl)) dX2_targetsHold_23 ⟨Nat.le_of_ble_eq_true rfl, Nat.le_of_ble_eq_true rfl⟩) hR.sS (fun q _ h => hFc q h) hFc (fun r8 u9 t9 H1 locs ht9 hvm9 hw9 hB9 hz9 hk9 hS => ?_)
        have hR : RepC g ad A s U14 H1 locs := hR.call ht9 hB9 hR.w hS hFc
        obtain rfl : r8 = (fX2_switchTarget U14 v14_1 v14_3) := hw9
        clear hB9 hz9 hk9 hvm9 ht9 hS
        generalize H1 = H at hR ⊢
        obtain ⟨a10, ea10⟩ : ∃ z, z = (fX2_switchTarget U14 v14_1 v14_3) := ⟨_, rfl⟩
        rw [← ea10]
        replace h := h a10 ea10
        obtain ⟨hv11, h⟩ := h
        have hFc := cfree hR hA
        refine va_calli (va_runV (As := [.long a10]) (rest := []) ⟨hx, hb, hml, hown, hts⟩ (rX2_isInstruction l g ad H.size U14 a10 hR.w  hv11) (cwV 1 hts (gd_V kw_672 kw_720 kw_721 kw_389 kw_719) rfl rfl rfl (by decide +kernel) ⟨Nat.le_of_ble_eq_true rfl, Nat.le_of_ble_eq_true rfl⟩) ⟨cblind, va_recv hR.K hR.P (ci := 2) (q0 := 8) rfl (hR.at42 (hR.w.2.1 _ finC_26).2.1), fun U hU hW9 => cmk hU hW9 hR hex hE hFc⟩ rfl rfl hl.1 rfl (lv_room (Nat.le_of_ble_eq_true rfl)) dX2_targetsHold_26 ⟨Nat.le_of_ble_eq_true rfl, Nat.le_of_ble_eq_true rfl⟩) hR.sS (fun q _ h => hFc q h) hFc (fun r12 u9 t9 H1 locs ht9 hvm9 hw9 hB9 hz9 hk9 hS => ?_)
        have hR : RepC g ad A s U14 H1 locs := hR.call ht9 hB9 hR.w hS hFc
        obtain ⟨rfl, hz_r12⟩ := hw9
        clear hB9 hz9 hk9 hvm9 ht9 hS
        generalize H1 = H at hR ⊢
        obtain ⟨a14, ea14⟩ : ∃ z, z = (fX2_isInstruction U14 a10) := ⟨_, rfl⟩
        rw [← ea14]
        replace h := h a14 ea14
        rw [← ea14] at hz_r12
        refine lv_if_ne (tgt := 34) hx hb dX2_targetsHold_29 (by decide) (fun c15 => ?_) (fun c15 => ?_)
        · replace h := h.2 (k_ne rfl (by decide) c15)
          obtain ⟨a16, ea16⟩ : ∃ z, z = (v14_3 + Int32.ofInt 1) := ⟨_, rfl⟩
          replace h := h a16 ea16
          refine lv_iinc (v := a16) (lv' := [(3, .int a16), (0, .ref (ad 8)), (1, .int v14_1), (2, .int v14_2)]) hx hb dX2_targetsHold_34 hl (k := 3) rfl ea16.symm (by decide) rfl (fun ls hl => ?_)
          refine lv_goto (tgt := 14) hx hb dX2_targetsHold_37 (by decide) ?_
          exact ih_14 U14 v14_1 v14_2 a16 _ _ ls h  hsh hR (lv_sub hl [1, 2, 3, 0] rfl)
        · replace h := h.1 (k_eq rfl (by decide) c15)
          refine lv_iconst (v := 0) hx hb dX2_targetsHold_32 (by decide) ?_
          exact W.zret (v := 0) hx hb hr (nz (Or.inl rfl)) (fun t9 ht9 hW9 => ⟨⟨_, U14, rfl, ⟨h, hR.w, hsh, (Or.inl rfl)⟩, ⟨by rw [ht9]; exact hR.P, hR.D⟩⟩, hR.sS.F ht9⟩) hR.sS.2.2 dX2_targetsHold_33
  obtain ⟨n9, h⟩ := h
  exact J_14 n9 S a1 a5 (-1) _ _ ls h  hsh hR (lv_sub hl [3, 2, 1, 0] rfl)
def w_X2_errorOf_J50 (Q : Int32 → MS → Prop) (k8 : MS → Int32 → Int32 → Prop) (U50 : MS) (v50_1 : Int32) (v50_2 : Int32) : Prop := (wfC U50 → (∀ a7 : Int32, a7 = (v50_2 + Int32.ofInt 1) → k8 U50 v50_1 a7))
def w_X2_errorOf_L8 (Q : Int32 → MS → Prop) : Nat → MS → Int32 → Int32 → Prop
  | 0, _, _, _ => False
  | n8 + 1, U8, v8_1, v8_2 => (wfC U8 → ((3 < v8_2.toInt → Q (-2 : Int32) U8) ∧ (¬ 3 < v8_2.toInt → (d_X7_tagOf U8 v8_1 ∧ (∀ a6 : Int32, a6 = (fX7_tagOf U8 v8_1) → ((a6.toInt = 7 → (d_X7_firstOf U8 v8_1 ∧ (∀ a12 : Int32, a12 = (fX7_firstOf U8 v8_1) → (d_X6_errorName U8 v8_2 ∧ (qT U8 (fX6_errorName U8 v8_2) = 12 → (∃ Q16, wX7_isText U8 a12 (fX6_errorName U8 v8_2) Q16 ∧ ∀ r17 S18, Q16 r17 S18 → wfC S18 → shy U8 S18 → ((r17.toInt = 0 → w_X2_errorOf_J50 Q (w_X2_errorOf_L8 Q n8) S18 v8_1 v8_2) ∧ (¬ r17.toInt = 0 → Q v8_2 S18)))))))) ∧ (¬ a6.toInt = 7 → w_X2_errorOf_J50 Q (w_X2_errorOf_L8 Q n8) U8 v8_1 v8_2)))))))
def wX2_errorOf (S : MS) (x1 : Int32) (Q : Int32 → MS → Prop) : Prop := ((x1.toInt = 0 → Q (-1 : Int32) S) ∧ (¬ x1.toInt = 0 → (∃ n, w_X2_errorOf_L8 Q n S x1 0)))
set_option maxHeartbeats 2000000 in
set_option maxRecDepth 100000 in
theorem rX2_errorOf (l : Launch) (g : Gr) (ad : Nat → Nat) (sz : Nat) (S : MS) (x1 : Int32) (hw : wfC S) (Q : Int32 → MS → Prop) (h : wX2_errorOf S x1 Q) : Met l yX2_errorOf (wt yX2_errorOf cX2_errorOf 3 (some .int)) ({ frames := 5, cells := 0, slots := 0, locals := 108 }) (va_Pc [.ref (ad 8), .int x1] (st_C g ad sz S)) (va_Qi (fun (r : Int32) (u : MS) => Q r u ∧ wfC u ∧ shy S u) (fun (u : MS) (t : State) => qEC g ad (va_A (WdC g ad S) sz) u t) (va_A (WdC g ad S) sz)) 0 0 (va_A (WdC g ad S) sz) := by
  refine Met.ofW (cc := cX2_errorOf) (maxL := 3) (ret := (some .int)) (by decide) rfl ?_
  intro p e s m args below meth c s₁ B hml hv
  obtain ⟨rfl, hsz, hP, hK, hD0, hex, hE⟩ := hv
  have hx := B.exec
  have hb := B.bytes
  have hr := B.returns
  have hts0 := atoms_spec (ws := wt yX2_errorOf cX2_errorOf 3 (some .int)) B.pre
  have hts : ∀ w ∈ tb, w.before _ s = true := fun w h => hts0 w (List.mem_cons_of_mem _ h)
  have hown : s.vm.findClass RX2 = some m.cls := findClass_of_methodNamed B.named
  subst hsz
  have hD := hD0.self (sz := s.heap.size)
  generalize hAe : va_A (WdC g ad S) s.heap.size = A at hD hE ⊢
  have hA : ∀ q : Nat, s.heap.size ≤ q → A q := fun q h => by rw [← hAe]; exact Or.inr h
  have hR : RepC g ad A s S s.heap [] := ⟨hK, hP, hD, va_S.rf, hw⟩
  clear hK hP hD hD0
  have hl := lv_entry ([.ref (ad 8), .int x1]) (n := 3) (Nat.le_of_ble_eq_true rfl)
  rw [lg_entry_eq]
  generalize (lg_sl ([.ref (ad 8), .int x1]) ++ List.replicate (3 - (lg_sl ([.ref (ad 8), .int x1])).length) Slot.unset).toArray = ls at hl ⊢
  have hl : lv_has ls 3 [(0, .ref (ad 8)), (1, .int x1)] := hl
  have hsh : shy S S := shy.rf
  unfold wX2_errorOf at h
  refine lv_iload_n hx hb dX2_errorOf_0 rfl (lv_at hl 1 rfl) ?_
  refine lv_if_ne (tgt := 6) hx hb dX2_errorOf_1 (by decide) (fun c1 => ?_) (fun c1 => ?_)
  · replace h := h.2 (k_ne rfl (by decide) c1)
    refine lv_iconst (v := 0) hx hb dX2_errorOf_6 (by decide) ?_
    refine lv_istore_n (lv' := [(2, .int 0), (0, .ref (ad 8)), (1, .int x1)]) hx hb dX2_errorOf_7 rfl hl (by decide) rfl (fun ls hl => ?_)
    have J_8 : ∀ (n8 : Nat) (U8 : MS) (v8_1 : Int32) (v8_2 : Int32) (H : Heap) (locs : List Loc) (ls : Array Slot), w_X2_errorOf_L8 Q n8 U8 v8_1 v8_2 → shy S U8 → RepC g ad A s U8 H locs → lv_has ls 3 [(0, .ref (ad 8)), (1, .int v8_1), (2, .int v8_2)] → W p l e (headSpec (wt yX2_errorOf cX2_errorOf 3 (some .int)) ({ frames := 5, cells := 0, slots := 0, locals := 108 })).room s m ([.ref (ad 8), .int x1] : List Value).toArray below meth c H locs 0 0 (MQ below (va_Qi (fun (r : Int32) (u : MS) => Q r u ∧ wfC u ∧ shy S u) (fun (u : MS) (t : State) => qEC g ad A u t) A) ([.ref (ad 8), .int x1] : List Value).toArray s 0 0 A) (F0 m 8 ls []) := by
      intro n8
      induction n8 with
      | zero => intro U8 v8_1 v8_2 H locs ls h hsh hR hl; unfold w_X2_errorOf_L8 at h; exact h.elim
      | succ n8 ih_8 =>
        intro U8 v8_1 v8_2 H locs ls h hsh hR hl
        unfold w_X2_errorOf_L8 at h
        replace h := h hR.w
        refine lv_iload_n hx hb dX2_errorOf_8 rfl (lv_at hl 2 rfl) ?_
        refine lv_iconst (v := 3) hx hb dX2_errorOf_9 (by decide) ?_
        refine lv_icmp_gt (tgt := 56) hx hb dX2_errorOf_10 (by decide) (fun c2 => ?_) (fun c2 => ?_)
        · replace h := h.1 (k_lt (by decide) rfl c2)
          refine lv_bipush (v := (-2)) hx hb dX2_errorOf_56 (by decide) ?_
          exact W.iret (v := (-2)) hx hb hr (fun t9 ht9 hW9 => ⟨⟨_, U8, rfl, ⟨h, hR.w, hsh⟩, ⟨by rw [ht9]; exact hR.P, hR.D⟩⟩, hR.sS.F ht9⟩) hR.sS.2.2 dX2_errorOf_58
        · replace h := h.2 (k_nlt (by decide) rfl c2)
          refine lv_aload_n hx hb dX2_errorOf_13 rfl (lv_at hl 0 rfl) ?_
          refine va_get (D := rD g) (ci := 2) (v := .ref (ad 9)) (C := RX2) (T := TX2) (N := 12) hx hb hts inX2 hown hR.K hR.P 8 (hR.at42 (hR.w.2.1 _ finC_26).2.1) rfl 0 (by decide) (hts _ kw_632) (fun _ h9 => h9) (congrArg (fun z => some (vf ad z)) (hR.w.2.1 _ finC_2).1) dX2_errorOf_14 ?_
          refine lv_iload_n hx hb dX2_errorOf_17 rfl (lv_at hl 1 rfl) ?_
          obtain ⟨hv3, h⟩ := h
          have hFc := cfree hR hA
          refine va_calli (va_runV (As := [.int v8_1]) (rest := []) ⟨hx, hb, hml, hown, hts⟩ (rX7_tagOf l g ad H.size U8 v8_1 hR.w  hv3) (cwV 1 hts (gd_V kw_697 kw_1435 kw_1436 kw_710 kw_1434) rfl rfl rfl (by decide +kernel) ⟨Nat.le_of_ble_eq_true rfl, Nat.le_of_ble_eq_true rfl⟩) ⟨cblind, va_recv hR.K hR.P (ci := 6) (q0 := 9) rfl (hR.at46 (hR.w.2.1 _ finC_2).2.1), fun U hU hW9 => cmk hU hW9 hR hex hE hFc⟩ rfl rfl hl.1 rfl (lv_room (Nat.le_of_ble_eq_true rfl)) dX2_errorOf_18 ⟨Nat.le_of_ble_eq_true rfl, Nat.le_of_ble_eq_true rfl⟩) hR.sS (fun q _ h => hFc q h) hFc (fun r4 u9 t9 H1 locs ht9 hvm9 hw9 hB9 hz9 hk9 hS => ?_)
          have hR : RepC g ad A s U8 H1 locs := hR.call ht9 hB9 hR.w hS hFc
          obtain rfl : r4 = (fX7_tagOf U8 v8_1) := hw9
          clear hB9 hz9 hk9 hvm9 ht9 hS
          generalize H1 = H at hR ⊢
          obtain ⟨a6, ea6⟩ : ∃ z, z = (fX7_tagOf U8 v8_1) := ⟨_, rfl⟩
          rw [← ea6]
          replace h := h a6 ea6
          refine lv_bipush (v := 7) hx hb dX2_errorOf_21 (by decide) ?_
          have J_50 : ∀ (U50 : MS) (v50_1 : Int32) (v50_2 : Int32) (H : Heap) (locs : List Loc) (ls : Array Slot), w_X2_errorOf_J50 Q (w_X2_errorOf_L8 Q n8) U50 v50_1 v50_2 → shy S U50 → RepC g ad A s U50 H locs → lv_has ls 3 [(0, .ref (ad 8)), (1, .int v50_1), (2, .int v50_2)] → W p l e (headSpec (wt yX2_errorOf cX2_errorOf 3 (some .int)) ({ frames := 5, cells := 0, slots := 0, locals := 108 })).room s m ([.ref (ad 8), .int x1] : List Value).toArray below meth c H locs 0 0 (MQ below (va_Qi (fun (r : Int32) (u : MS) => Q r u ∧ wfC u ∧ shy S u) (fun (u : MS) (t : State) => qEC g ad A u t) A) ([.ref (ad 8), .int x1] : List Value).toArray s 0 0 A) (F0 m 50 ls []) := by
            intro U50 v50_1 v50_2 H locs ls h hsh hR hl
            unfold w_X2_errorOf_J50 at h
            replace h := h hR.w
            obtain ⟨a7, ea7⟩ : ∃ z, z = (v50_2 + Int32.ofInt 1) := ⟨_, rfl⟩
            replace h := h a7 ea7
            refine lv_iinc (v := a7) (lv' := [(2, .int a7), (0, .ref (ad 8)), (1, .int v50_1)]) hx hb dX2_errorOf_50 hl (k := 2) rfl ea7.symm (by decide) rfl (fun ls hl => ?_)
            refine lv_goto (tgt := 8) hx hb dX2_errorOf_53 (by decide) ?_
            exact ih_8 U50 v50_1 a7 _ _ ls h  hsh hR (lv_sub hl [1, 2, 0] rfl)
          refine lv_icmp_ne (tgt := 50) hx hb dX2_errorOf_23 (by decide) (fun c8 => ?_) (fun c8 => ?_)
          · replace h := h.2 (k_ne rfl (by decide) c8)
            exact J_50 U8 v8_1 v8_2 _ _ ls h  hsh hR (lv_sub hl [0, 1, 2] rfl)
          · replace h := h.1 (k_eq rfl (by decide) c8)
            refine lv_aload_n hx hb dX2_errorOf_26 rfl (lv_at hl 0 rfl) ?_
            refine va_get (D := rD g) (ci := 2) (v := .ref (ad 9)) (C := RX2) (T := TX2) (N := 12) hx hb hts inX2 hown hR.K hR.P 8 (hR.at42 (hR.w.2.1 _ finC_26).2.1) rfl 0 (by decide) (hts _ kw_632) (fun _ h9 => h9) (congrArg (fun z => some (vf ad z)) (hR.w.2.1 _ finC_2).1) dX2_errorOf_27 ?_
            refine lv_aload_n hx hb dX2_errorOf_30 rfl (lv_at hl 0 rfl) ?_
            refine va_get (D := rD g) (ci := 2) (v := .ref (ad 9)) (C := RX2) (T := TX2) (N := 12) hx hb hts inX2 hown hR.K hR.P 8 (hR.at42 (hR.w.2.1 _ finC_26).2.1) rfl 0 (by decide) (hts _ kw_632) (fun _ h9 => h9) (congrArg (fun z => some (vf ad z)) (hR.w.2.1 _ finC_2).1) dX2_errorOf_31 ?_
            refine lv_iload_n hx hb dX2_errorOf_34 rfl (lv_at hl 1 rfl) ?_
            obtain ⟨hv9, h⟩ := h
            have hFc := cfree hR hA
            refine va_calli (va_runV (As := [.int v8_1]) (rest := [.ref (ad 9)]) ⟨hx, hb, hml, hown, hts⟩ (rX7_firstOf l g ad H.size U8 v8_1 hR.w  hv9) (cwV 1 hts (gd_V kw_652 kw_1326 kw_1327 kw_710 kw_1325) rfl rfl rfl (by decide +kernel) ⟨Nat.le_of_ble_eq_true rfl, Nat.le_of_ble_eq_true rfl⟩) ⟨cblind, va_recv hR.K hR.P (ci := 6) (q0 := 9) rfl (hR.at46 (hR.w.2.1 _ finC_2).2.1), fun U hU hW9 => cmk hU hW9 hR hex hE hFc⟩ rfl rfl hl.1 rfl (lv_room (Nat.le_of_ble_eq_true rfl)) dX2_errorOf_35 ⟨Nat.le_of_ble_eq_true rfl, Nat.le_of_ble_eq_true rfl⟩) hR.sS (fun q _ h => hFc q h) hFc (fun r10 u9 t9 H1 locs ht9 hvm9 hw9 hB9 hz9 hk9 hS => ?_)
            have hR : RepC g ad A s U8 H1 locs := hR.call ht9 hB9 hR.w hS hFc
            obtain rfl : r10 = (fX7_firstOf U8 v8_1) := hw9
            clear hB9 hz9 hk9 hvm9 ht9 hS
            generalize H1 = H at hR ⊢
            obtain ⟨a12, ea12⟩ : ∃ z, z = (fX7_firstOf U8 v8_1) := ⟨_, rfl⟩
            rw [← ea12]
            replace h := h a12 ea12
            refine lv_iload_n hx hb dX2_errorOf_38 rfl (lv_at hl 2 rfl) ?_
            obtain ⟨hv13, h⟩ := h
            have hFc := cfree hR hA
            refine va_callq (va_runS (As := [.int v8_2]) (rest := [.int a12, .ref (ad 9)]) ⟨hx, hb, hml, hown, hts⟩ (rX6_errorName l g ad H.size U8 v8_2 hR.w  hv13) (va_cwS 1 hts (gd_S kw_698 kw_1214 kw_1207 kw_1213) rfl rfl rfl (by decide +kernel) ⟨Nat.le_of_ble_eq_true rfl, Nat.le_of_ble_eq_true rfl⟩) ⟨cblind, fun U hU hW9 => cmk hU hW9 hR hex hE hFc⟩ rfl rfl hl.1 rfl (lv_room (Nat.le_of_ble_eq_true rfl)) dX2_errorOf_39 ⟨Nat.le_of_ble_eq_true rfl, Nat.le_of_ble_eq_true rfl⟩) hR.sS (fun q _ h => hFc q h) hFc (fun r14 u9 t9 H1 locs ht9 hvm9 hw9 hB9 hz9 hk9 hS => ?_)
            have hR : RepC g ad A s U8 H1 locs := hR.call ht9 hB9 hR.w hS hFc
            obtain ⟨rfl, hT_r14⟩ := hw9
            clear hB9 hz9 hk9 hvm9 ht9 hS
            generalize H1 = H at hR ⊢
            replace h := h (hT_r14)
            obtain ⟨Q16, h0, h⟩ := h
            have hFc := cfree hR hA
            refine va_calli (va_runV (As := [.int a12, .ref (ad (fX6_errorName U8 v8_2))]) (rest := []) ⟨hx, hb, hml, hown, hts⟩ (rX7_isText l g ad H.size U8 a12 (fX6_errorName U8 v8_2) hR.w hT_r14 Q16 h0) (cwV 2 hts (gd_V kw_699 kw_1377 kw_1378 kw_710 kw_1376) rfl rfl rfl (by decide +kernel) ⟨Nat.le_of_ble_eq_true rfl, Nat.le_of_ble_eq_true rfl⟩) ⟨cblind, va_recv hR.K hR.P (ci := 6) (q0 := 9) rfl (hR.at46 (hR.w.2.1 _ finC_2).2.1), fun U hU hW9 => cmk hU hW9 hR hex hE hFc⟩ rfl rfl hl.1 rfl (lv_room (Nat.le_of_ble_eq_true rfl)) dX2_errorOf_42 ⟨Nat.le_of_ble_eq_true rfl, Nat.le_of_ble_eq_true rfl⟩) hR.sS (fun q _ h => hFc q h) hFc (fun r17 S18 t9 H1 locs ht9 hvm9 hw9 hB9 hz9 hk9 hS => ?_)
            obtain ⟨hq19, hw9, hs9, hz_r17⟩ := hw9
            have hR : RepC g ad A s S18 H1 locs := hR.call ht9 hB9 hw9 hS hFc
            have hsh := hsh.tr hs9
            replace h := h r17 S18 hq19 hw9 hs9
            clear hB9 hz9 hk9 hvm9 ht9 hw9 hs9 hS
            generalize H1 = H at hR ⊢
            refine lv_if_eq (tgt := 50) hx hb dX2_errorOf_45 (by decide) (fun c20 => ?_) (fun c20 => ?_)
            · replace h := h.1 (k_eq rfl (by decide) c20)
              exact J_50 S18 v8_1 v8_2 _ _ ls h  hsh hR (lv_sub hl [0, 1, 2] rfl)
            · replace h := h.2 (k_ne rfl (by decide) c20)
              refine lv_iload_n hx hb dX2_errorOf_48 rfl (lv_at hl 2 rfl) ?_
              exact W.iret (v := v8_2) hx hb hr (fun t9 ht9 hW9 => ⟨⟨_, S18, rfl, ⟨h, hR.w, hsh⟩, ⟨by rw [ht9]; exact hR.P, hR.D⟩⟩, hR.sS.F ht9⟩) hR.sS.2.2 dX2_errorOf_49
    obtain ⟨n9, h⟩ := h
    exact J_8 n9 S x1 0 _ _ ls h  hsh hR (lv_sub hl [1, 2, 0] rfl)
  · replace h := h.1 (k_eq rfl (by decide) c1)
    refine lv_iconst (v := (-1)) hx hb dX2_errorOf_4 (by decide) ?_
    exact W.iret (v := (-1)) hx hb hr (fun t9 ht9 hW9 => ⟨⟨_, S, rfl, ⟨h, hR.w, hsh⟩, ⟨by rw [ht9]; exact hR.P, hR.D⟩⟩, hR.sS.F ht9⟩) hR.sS.2.2 dX2_errorOf_5
def w_X2_memberOf_J195 (Q : Int32 → MS → Prop) (k123 : MS → Int32 → Int32 → Int32 → Int32 → Prop) (U195 : MS) (v195_4 : Int32) (v195_5 : Int32) (v195_6 : Int32) (v195_7 : Int32) : Prop := (wfC U195 → (∀ a46 : Int32, a46 = (v195_7 + Int32.ofInt 1) → k123 U195 v195_4 v195_5 v195_6 a46))
def w_X2_memberOf_L123 (Q : Int32 → MS → Prop) : Nat → MS → Int32 → Int32 → Int32 → Int32 → Prop
  | 0, _, _, _, _, _ => False
  | n123 + 1, U123, v123_4, v123_5, v123_6, v123_7 => (wfC U123 → ((v123_6.toInt ≤ v123_7.toInt → Q (-1 : Int32) U123) ∧ (¬ v123_6.toInt ≤ v123_7.toInt → (d_X7_nameOf U123 (v123_5 + v123_7) ∧ (∀ a37 : Int32, a37 = (fX7_nameOf U123 (v123_5 + v123_7)) → (d_X7_firstOf U123 v123_4 ∧ (∀ a41 : Int32, a41 = (fX7_firstOf U123 v123_4) → (∃ Q42, wX7_isSameName U123 a37 a41 Q42 ∧ ∀ r43 S44, Q42 r43 S44 → wfC S44 → shy U123 S44 → ((r43.toInt = 0 → w_X2_memberOf_J195 Q (w_X2_memberOf_L123 Q n123) S44 v123_4 v123_5 v123_6 v123_7) ∧ (¬ r43.toInt = 0 → (d_X7_typeOf S44 (v123_5 + v123_7) ∧ (∀ a52 : Int32, a52 = (fX7_typeOf S44 (v123_5 + v123_7)) → (d_X7_secondOf S44 v123_4 ∧ (∀ a56 : Int32, a56 = (fX7_secondOf S44 v123_4) → (∃ Q57, wX7_isSameName S44 a52 a56 Q57 ∧ ∀ r58 S59, Q57 r58 S59 → wfC S59 → shy S44 S59 → ((r58.toInt = 0 → w_X2_memberOf_J195 Q (w_X2_memberOf_L123 Q n123) S59 v123_4 v123_5 v123_6 v123_7) ∧ (¬ r58.toInt = 0 → Q v123_7 S59)))))))))))))))))
def w_X2_memberOf_J118 (Q : Int32 → MS → Prop) (U118 : MS) (t118_0 : Int32) (v118_4 : Int32) (v118_5 : Int32) : Prop := (wfC U118 → (∃ n, w_X2_memberOf_L123 Q n U118 v118_4 v118_5 t118_0 0))
def w_X2_memberOf_J93 (Q : Int32 → MS → Prop) (U93 : MS) (t93_0 : Int32) (v93_2 : Int32) (v93_4 : Int32) : Prop := (wfC U93 → ((v93_2.toInt = 9 → w_X2_memberOf_J118 Q U93 (qI U93 9 7) v93_4 t93_0) ∧ (¬ v93_2.toInt = 9 → w_X2_memberOf_J118 Q U93 (qI U93 9 8) v93_4 t93_0)))
def wX2_memberOf (S : MS) (x1 : Int32) (x2 : Int32) (Q : Int32 → MS → Prop) : Prop := (d_X7_tagOf S x1 ∧ (∀ a4 : Int32, a4 = (fX7_tagOf S x1) → ((a4.toInt = x2.toInt → (d_X7_u2 S ((qI S 9 6) + (2 : Int32)) ∧ (∀ a10 : Int32, a10 = (fX7_u2 S ((qI S 9 6) + (2 : Int32))) → (d_X7_firstOf S x1 ∧ (∀ a14 : Int32, a14 = (fX7_firstOf S x1) → (d_X7_firstOf S a14 ∧ (∀ a18 : Int32, a18 = (fX7_firstOf S a14) → (d_X7_firstOf S a10 ∧ (∀ a22 : Int32, a22 = (fX7_firstOf S a10) → (∃ Q23, wX7_isSameName S a18 a22 Q23 ∧ ∀ r24 S25, Q23 r24 S25 → wfC S25 → shy S S25 → ((r24.toInt = 0 → Q (-1 : Int32) S25) ∧ (¬ r24.toInt = 0 → (d_X7_secondOf S25 x1 ∧ (∀ a31 : Int32, a31 = (fX7_secondOf S25 x1) → ((x2.toInt = 9 → w_X2_memberOf_J93 Q S25 0 x2 a31) ∧ (¬ x2.toInt = 9 → w_X2_memberOf_J93 Q S25 (qI S25 9 7) x2 a31)))))))))))))))) ∧ (¬ a4.toInt = x2.toInt → Q (-1 : Int32) S))))
set_option maxHeartbeats 2000000 in
set_option maxRecDepth 100000 in
theorem rX2_memberOf (l : Launch) (g : Gr) (ad : Nat → Nat) (sz : Nat) (S : MS) (x1 : Int32) (x2 : Int32) (hw : wfC S) (Q : Int32 → MS → Prop) (h : wX2_memberOf S x1 x2 Q) : Met l yX2_memberOf (wt yX2_memberOf cX2_memberOf 8 (some .int)) ({ frames := 2, cells := 0, slots := 0, locals := 47 }) (va_Pc [.ref (ad 8), .int x1, .int x2] (st_C g ad sz S)) (va_Qi (fun (r : Int32) (u : MS) => Q r u ∧ wfC u ∧ shy S u) (fun (u : MS) (t : State) => qEC g ad (va_A (WdC g ad S) sz) u t) (va_A (WdC g ad S) sz)) 0 0 (va_A (WdC g ad S) sz) := by
  refine Met.ofW (cc := cX2_memberOf) (maxL := 8) (ret := (some .int)) (by decide) rfl ?_
  intro p e s m args below meth c s₁ B hml hv
  obtain ⟨rfl, hsz, hP, hK, hD0, hex, hE⟩ := hv
  have hx := B.exec
  have hb := B.bytes
  have hr := B.returns
  have hts0 := atoms_spec (ws := wt yX2_memberOf cX2_memberOf 8 (some .int)) B.pre
  have hts : ∀ w ∈ tb, w.before _ s = true := fun w h => hts0 w (List.mem_cons_of_mem _ h)
  have hown : s.vm.findClass RX2 = some m.cls := findClass_of_methodNamed B.named
  subst hsz
  have hD := hD0.self (sz := s.heap.size)
  generalize hAe : va_A (WdC g ad S) s.heap.size = A at hD hE ⊢
  have hA : ∀ q : Nat, s.heap.size ≤ q → A q := fun q h => by rw [← hAe]; exact Or.inr h
  have hR : RepC g ad A s S s.heap [] := ⟨hK, hP, hD, va_S.rf, hw⟩
  clear hK hP hD hD0
  have hl := lv_entry ([.ref (ad 8), .int x1, .int x2]) (n := 8) (Nat.le_of_ble_eq_true rfl)
  rw [lg_entry_eq]
  generalize (lg_sl ([.ref (ad 8), .int x1, .int x2]) ++ List.replicate (8 - (lg_sl ([.ref (ad 8), .int x1, .int x2])).length) Slot.unset).toArray = ls at hl ⊢
  have hl : lv_has ls 8 [(0, .ref (ad 8)), (1, .int x1), (2, .int x2)] := hl
  have hsh : shy S S := shy.rf
  unfold wX2_memberOf at h
  refine lv_aload_n hx hb dX2_memberOf_0 rfl (lv_at hl 0 rfl) ?_
  refine va_get (D := rD g) (ci := 2) (v := .ref (ad 9)) (C := RX2) (T := TX2) (N := 12) hx hb hts inX2 hown hR.K hR.P 8 (hR.at42 (hR.w.2.1 _ finC_26).2.1) rfl 0 (by decide) (hts _ kw_632) (fun _ h9 => h9) (congrArg (fun z => some (vf ad z)) (hR.w.2.1 _ finC_2).1) dX2_memberOf_1 ?_
  refine lv_iload_n hx hb dX2_memberOf_4 rfl (lv_at hl 1 rfl) ?_
  obtain ⟨hv1, h⟩ := h
  have hFc := cfree hR hA
  refine va_calli (va_runV (As := [.int x1]) (rest := []) ⟨hx, hb, hml, hown, hts⟩ (rX7_tagOf l g ad s.heap.size S x1 hR.w  hv1) (cwV 1 hts (gd_V kw_697 kw_1435 kw_1436 kw_710 kw_1434) rfl rfl rfl (by decide +kernel) ⟨Nat.le_of_ble_eq_true rfl, Nat.le_of_ble_eq_true rfl⟩) ⟨cblind, va_recv hR.K hR.P (ci := 6) (q0 := 9) rfl (hR.at46 (hR.w.2.1 _ finC_2).2.1), fun U hU hW9 => cmk hU hW9 hR hex hE hFc⟩ rfl rfl hl.1 rfl (lv_room (Nat.le_of_ble_eq_true rfl)) dX2_memberOf_5 ⟨Nat.le_of_ble_eq_true rfl, Nat.le_of_ble_eq_true rfl⟩) hR.sS (fun q _ h => hFc q h) hFc (fun r2 u9 t9 H1 locs ht9 hvm9 hw9 hB9 hz9 hk9 hS => ?_)
  have hR : RepC g ad A s S H1 locs := hR.call ht9 hB9 hR.w hS hFc
  obtain rfl : r2 = (fX7_tagOf S x1) := hw9
  clear hB9 hz9 hk9 hvm9 ht9 hS
  generalize H1 = H at hR ⊢
  obtain ⟨a4, ea4⟩ : ∃ z, z = (fX7_tagOf S x1) := ⟨_, rfl⟩
  rw [← ea4]
  replace h := h a4 ea4
  refine lv_iload_n hx hb dX2_memberOf_8 rfl (lv_at hl 2 rfl) ?_
  refine lv_icmp_eq (tgt := 14) hx hb dX2_memberOf_9 (by decide) (fun c5 => ?_) (fun c5 => ?_)
  · replace h := h.1 (k_eq rfl rfl c5)
    refine lv_aload_n hx hb dX2_memberOf_14 rfl (lv_at hl 0 rfl) ?_
    refine va_get (D := rD g) (ci := 2) (v := .ref (ad 9)) (C := RX2) (T := TX2) (N := 12) hx hb hts inX2 hown hR.K hR.P 8 (hR.at42 (hR.w.2.1 _ finC_26).2.1) rfl 0 (by decide) (hts _ kw_632) (fun _ h9 => h9) (congrArg (fun z => some (vf ad z)) (hR.w.2.1 _ finC_2).1) dX2_memberOf_15 ?_
    refine lv_aload_n hx hb dX2_memberOf_18 rfl (lv_at hl 0 rfl) ?_
    refine va_get (D := rD g) (ci := 2) (v := .ref (ad 9)) (C := RX2) (T := TX2) (N := 12) hx hb hts inX2 hown hR.K hR.P 8 (hR.at42 (hR.w.2.1 _ finC_26).2.1) rfl 0 (by decide) (hts _ kw_632) (fun _ h9 => h9) (congrArg (fun z => some (vf ad z)) (hR.w.2.1 _ finC_2).1) dX2_memberOf_19 ?_
    refine va_get (D := rD g) (ci := 6) (v := .int (qI S 9 6)) (C := RX7) (T := TX7) (N := 17) hx hb hts inX7 hown hR.K hR.P 9 (hR.at46 (hR.w.2.1 _ finC_2).2.1) rfl 6 (by decide) (hts _ kw_650) (fun _ h9 => h9) rfl dX2_memberOf_22 ?_
    refine lv_iconst (v := 2) hx hb dX2_memberOf_25 (by decide) ?_
    refine lv_iadd hx hb dX2_memberOf_26 ?_
    refine lv_topi (fun z6 ez6 => ?_)
    obtain rfl : z6 = ((qI S 9 6) + (2 : Int32)) := ez6
    obtain ⟨hv7, h⟩ := h
    have hFc := cfree hR hA
    refine va_calli (va_runV (As := [.int ((qI S 9 6) + (2 : Int32))]) (rest := []) ⟨hx, hb, hml, hown, hts⟩ (rX7_u2 l g ad H.size S ((qI S 9 6) + (2 : Int32)) hR.w  hv7) (cwV 1 hts (gd_V kw_651 kw_1450 kw_1451 kw_710 kw_1449) rfl rfl rfl (by decide +kernel) ⟨Nat.le_of_ble_eq_true rfl, Nat.le_of_ble_eq_true rfl⟩) ⟨cblind, va_recv hR.K hR.P (ci := 6) (q0 := 9) rfl (hR.at46 (hR.w.2.1 _ finC_2).2.1), fun U hU hW9 => cmk hU hW9 hR hex hE hFc⟩ rfl rfl hl.1 rfl (lv_room (Nat.le_of_ble_eq_true rfl)) dX2_memberOf_27 ⟨Nat.le_of_ble_eq_true rfl, Nat.le_of_ble_eq_true rfl⟩) hR.sS (fun q _ h => hFc q h) hFc (fun r8 u9 t9 H1 locs ht9 hvm9 hw9 hB9 hz9 hk9 hS => ?_)
    have hR : RepC g ad A s S H1 locs := hR.call ht9 hB9 hR.w hS hFc
    obtain rfl : r8 = (fX7_u2 S ((qI S 9 6) + (2 : Int32))) := hw9
    clear hB9 hz9 hk9 hvm9 ht9 hS
    generalize H1 = H at hR ⊢
    obtain ⟨a10, ea10⟩ : ∃ z, z = (fX7_u2 S ((qI S 9 6) + (2 : Int32))) := ⟨_, rfl⟩
    rw [← ea10]
    replace h := h a10 ea10
    refine lv_istore_n (lv' := [(3, .int a10), (0, .ref (ad 8)), (1, .int x1), (2, .int x2)]) hx hb dX2_memberOf_30 rfl hl (by decide) rfl (fun ls hl => ?_)
    refine lv_aload_n hx hb dX2_memberOf_31 rfl (lv_at hl 1 rfl) ?_
    refine va_get (D := rD g) (ci := 2) (v := .ref (ad 9)) (C := RX2) (T := TX2) (N := 12) hx hb hts inX2 hown hR.K hR.P 8 (hR.at42 (hR.w.2.1 _ finC_26).2.1) rfl 0 (by decide) (hts _ kw_632) (fun _ h9 => h9) (congrArg (fun z => some (vf ad z)) (hR.w.2.1 _ finC_2).1) dX2_memberOf_32 ?_
    refine lv_aload_n hx hb dX2_memberOf_35 rfl (lv_at hl 1 rfl) ?_
    refine va_get (D := rD g) (ci := 2) (v := .ref (ad 9)) (C := RX2) (T := TX2) (N := 12) hx hb hts inX2 hown hR.K hR.P 8 (hR.at42 (hR.w.2.1 _ finC_26).2.1) rfl 0 (by decide) (hts _ kw_632) (fun _ h9 => h9) (congrArg (fun z => some (vf ad z)) (hR.w.2.1 _ finC_2).1) dX2_memberOf_36 ?_
    refine lv_aload_n hx hb dX2_memberOf_39 rfl (lv_at hl 1 rfl) ?_
    refine va_get (D := rD g) (ci := 2) (v := .ref (ad 9)) (C := RX2) (T := TX2) (N := 12) hx hb hts inX2 hown hR.K hR.P 8 (hR.at42 (hR.w.2.1 _ finC_26).2.1) rfl 0 (by decide) (hts _ kw_632) (fun _ h9 => h9) (congrArg (fun z => some (vf ad z)) (hR.w.2.1 _ finC_2).1) dX2_memberOf_40 ?_
    refine lv_iload_n hx hb dX2_memberOf_43 rfl (lv_at hl 2 rfl) ?_
    obtain ⟨hv11, h⟩ := h
    have hFc := cfree hR hA
    refine va_calli (va_runV (As := [.int x1]) (rest := [.ref (ad 9), .ref (ad 9)]) ⟨hx, hb, hml, hown, hts⟩ (rX7_firstOf l g ad H.size S x1 hR.w  hv11) (cwV 1 hts (gd_V kw_652 kw_1326 kw_1327 kw_710 kw_1325) rfl rfl rfl (by decide +kernel) ⟨Nat.le_of_ble_eq_true rfl, Nat.le_of_ble_eq_true rfl⟩) ⟨cblind, va_recv hR.K hR.P (ci := 6) (q0 := 9) rfl (hR.at46 (hR.w.2.1 _ finC_2).2.1), fun U hU hW9 => cmk hU hW9 hR hex hE hFc⟩ rfl rfl hl.1 rfl (lv_room (Nat.le_of_ble_eq_true rfl)) dX2_memberOf_44 ⟨Nat.le_of_ble_eq_true rfl, Nat.le_of_ble_eq_true rfl⟩) hR.sS (fun q _ h => hFc q h) hFc (fun r12 u9 t9 H1 locs ht9 hvm9 hw9 hB9 hz9 hk9 hS => ?_)
    have hR : RepC g ad A s S H1 locs := hR.call ht9 hB9 hR.w hS hFc
    obtain rfl : r12 = (fX7_firstOf S x1) := hw9
    clear hB9 hz9 hk9 hvm9 ht9 hS
    generalize H1 = H at hR ⊢
    obtain ⟨a14, ea14⟩ : ∃ z, z = (fX7_firstOf S x1) := ⟨_, rfl⟩
    rw [← ea14]
    replace h := h a14 ea14
    obtain ⟨hv15, h⟩ := h
    have hFc := cfree hR hA
    refine va_calli (va_runV (As := [.int a14]) (rest := [.ref (ad 9)]) ⟨hx, hb, hml, hown, hts⟩ (rX7_firstOf l g ad H.size S a14 hR.w  hv15) (cwV 1 hts (gd_V kw_652 kw_1326 kw_1327 kw_710 kw_1325) rfl rfl rfl (by decide +kernel) ⟨Nat.le_of_ble_eq_true rfl, Nat.le_of_ble_eq_true rfl⟩) ⟨cblind, va_recv hR.K hR.P (ci := 6) (q0 := 9) rfl (hR.at46 (hR.w.2.1 _ finC_2).2.1), fun U hU hW9 => cmk hU hW9 hR hex hE hFc⟩ rfl rfl hl.1 rfl (lv_room (Nat.le_of_ble_eq_true rfl)) dX2_memberOf_47 ⟨Nat.le_of_ble_eq_true rfl, Nat.le_of_ble_eq_true rfl⟩) hR.sS (fun q _ h => hFc q h) hFc (fun r16 u9 t9 H1 locs ht9 hvm9 hw9 hB9 hz9 hk9 hS => ?_)
    have hR : RepC g ad A s S H1 locs := hR.call ht9 hB9 hR.w hS hFc
    obtain rfl : r16 = (fX7_firstOf S a14) := hw9
    clear hB9 hz9 hk9 hvm9 ht9 hS
    generalize H1 = H at hR ⊢
    obtain ⟨a18, ea18⟩ : ∃ z, z = (fX7_firstOf S a14) := ⟨_, rfl⟩
    rw [← ea18]
    replace h := h a18 ea18
    refine lv_aload_n hx hb dX2_memberOf_50 rfl (lv_at hl 1 rfl) ?_
    refine va_get (D := rD g) (ci := 2) (v := .ref (ad 9)) (C := RX2) (T := TX2) (N := 12) hx hb hts inX2 hown hR.K hR.P 8 (hR.at42 (hR.w.2.1 _ finC_26).2.1) rfl 0 (by decide) (hts _ kw_632) (fun _ h9 => h9) (congrArg (fun z => some (vf ad z)) (hR.w.2.1 _ finC_2).1) dX2_memberOf_51 ?_
    refine lv_iload_n hx hb dX2_memberOf_54 rfl (lv_at hl 0 rfl) ?_
    obtain ⟨hv19, h⟩ := h
    have hFc := cfree hR hA
    refine va_calli (va_runV (As := [.int a10]) (rest := [.int a18, .ref (ad 9)]) ⟨hx, hb, hml, hown, hts⟩ (rX7_firstOf l g ad H.size S a10 hR.w  hv19) (cwV 1 hts (gd_V kw_652 kw_1326 kw_1327 kw_710 kw_1325) rfl rfl rfl (by decide +kernel) ⟨Nat.le_of_ble_eq_true rfl, Nat.le_of_ble_eq_true rfl⟩) ⟨cblind, va_recv hR.K hR.P (ci := 6) (q0 := 9) rfl (hR.at46 (hR.w.2.1 _ finC_2).2.1), fun U hU hW9 => cmk hU hW9 hR hex hE hFc⟩ rfl rfl hl.1 rfl (lv_room (Nat.le_of_ble_eq_true rfl)) dX2_memberOf_55 ⟨Nat.le_of_ble_eq_true rfl, Nat.le_of_ble_eq_true rfl⟩) hR.sS (fun q _ h => hFc q h) hFc (fun r20 u9 t9 H1 locs ht9 hvm9 hw9 hB9 hz9 hk9 hS => ?_)
    have hR : RepC g ad A s S H1 locs := hR.call ht9 hB9 hR.w hS hFc
    obtain rfl : r20 = (fX7_firstOf S a10) := hw9
    clear hB9 hz9 hk9 hvm9 ht9 hS
    generalize H1 = H at hR ⊢
    obtain ⟨a22, ea22⟩ : ∃ z, z = (fX7_firstOf S a10) := ⟨_, rfl⟩
    rw [← ea22]
    replace h := h a22 ea22
    obtain ⟨Q23, h0, h⟩ := h
    have hFc := cfree hR hA
    refine va_calli (va_runV (As := [.int a18, .int a22]) (rest := []) ⟨hx, hb, hml, hown, hts⟩ (rX7_isSameName l g ad H.size S a18 a22 hR.w  Q23 h0) (cwV 2 hts (gd_V kw_752 kw_1356 kw_1357 kw_710 kw_1355) rfl rfl rfl (by decide +kernel) ⟨Nat.le_of_ble_eq_true rfl, Nat.le_of_ble_eq_true rfl⟩) ⟨cblind, va_recv hR.K hR.P (ci := 6) (q0 := 9) rfl (hR.at46 (hR.w.2.1 _ finC_2).2.1), fun U hU hW9 => cmk hU hW9 hR hex hE hFc⟩ rfl rfl hl.1 rfl (lv_room (Nat.le_of_ble_eq_true rfl)) dX2_memberOf_58 ⟨Nat.le_of_ble_eq_true rfl, Nat.le_of_ble_eq_true rfl⟩) hR.sS (fun q _ h => hFc q h) hFc (fun r24 S25 t9 H1 locs ht9 hvm9 hw9 hB9 hz9 hk9 hS => ?_)
    obtain ⟨hq26, hw9, hs9, hz_r24⟩ := hw9
    have hR : RepC g ad A s S25 H1 locs := hR.call ht9 hB9 hw9 hS hFc
    have hsh := hsh.tr hs9
    replace h := h r24 S25 hq26 hw9 hs9
    clear hB9 hz9 hk9 hvm9 ht9 hw9 hs9 hS
    generalize H1 = H at hR ⊢
    refine lv_if_ne (tgt := 66) hx hb dX2_memberOf_61 (by decide) (fun c27 => ?_) (fun c27 => ?_)
    · replace h := h.2 (k_ne rfl (by decide) c27)
      refine lv_aload_n hx hb dX2_memberOf_66 rfl (lv_at hl 1 rfl) ?_
      refine va_get (D := rD g) (ci := 2) (v := .ref (ad 9)) (C := RX2) (T := TX2) (N := 12) hx hb hts inX2 hown hR.K hR.P 8 (hR.at42 (hR.w.2.1 _ finC_26).2.1) rfl 0 (by decide) (hts _ kw_632) (fun _ h9 => h9) (congrArg (fun z => some (vf ad z)) (hR.w.2.1 _ finC_2).1) dX2_memberOf_67 ?_
      refine lv_iload_n hx hb dX2_memberOf_70 rfl (lv_at hl 2 rfl) ?_
      obtain ⟨hv28, h⟩ := h
      have hFc := cfree hR hA
      refine va_calli (va_runV (As := [.int x1]) (rest := []) ⟨hx, hb, hml, hown, hts⟩ (rX7_secondOf l g ad H.size S25 x1 hR.w  hv28) (cwV 1 hts (gd_V kw_753 kw_1432 kw_1433 kw_710 kw_1431) rfl rfl rfl (by decide +kernel) ⟨Nat.le_of_ble_eq_true rfl, Nat.le_of_ble_eq_true rfl⟩) ⟨cblind, va_recv hR.K hR.P (ci := 6) (q0 := 9) rfl (hR.at46 (hR.w.2.1 _ finC_2).2.1), fun U hU hW9 => cmk hU hW9 hR hex hE hFc⟩ rfl rfl hl.1 rfl (lv_room (Nat.le_of_ble_eq_true rfl)) dX2_memberOf_71 ⟨Nat.le_of_ble_eq_true rfl, Nat.le_of_ble_eq_true rfl⟩) hR.sS (fun q _ h => hFc q h) hFc (fun r29 u9 t9 H1 locs ht9 hvm9 hw9 hB9 hz9 hk9 hS => ?_)
      have hR : RepC g ad A s S25 H1 locs := hR.call ht9 hB9 hR.w hS hFc
      obtain rfl : r29 = (fX7_secondOf S25 x1) := hw9
      clear hB9 hz9 hk9 hvm9 ht9 hS
      generalize H1 = H at hR ⊢
      obtain ⟨a31, ea31⟩ : ∃ z, z = (fX7_secondOf S25 x1) := ⟨_, rfl⟩
      rw [← ea31]
      replace h := h a31 ea31
      refine lv_istore (lv' := [(4, .int a31), (3, .int a10), (0, .ref (ad 8)), (1, .int x1), (2, .int x2)]) hx hb dX2_memberOf_74 hl (by decide) rfl (fun ls hl => ?_)
      refine lv_iload_n hx hb dX2_memberOf_76 rfl (lv_at hl 4 rfl) ?_
      refine lv_bipush (v := 9) hx hb dX2_memberOf_77 (by decide) ?_
      have J_93 : ∀ (U93 : MS) (t93_0 : Int32) (v93_2 : Int32) (v93_4 : Int32) (H : Heap) (locs : List Loc) (ls : Array Slot), w_X2_memberOf_J93 Q U93 t93_0 v93_2 v93_4 → shy S U93 → RepC g ad A s U93 H locs → lv_has ls 8 [(0, .ref (ad 8)), (2, .int v93_2), (4, .int v93_4)] → W p l e (headSpec (wt yX2_memberOf cX2_memberOf 8 (some .int)) ({ frames := 2, cells := 0, slots := 0, locals := 47 })).room s m ([.ref (ad 8), .int x1, .int x2] : List Value).toArray below meth c H locs 0 0 (MQ below (va_Qi (fun (r : Int32) (u : MS) => Q r u ∧ wfC u ∧ shy S u) (fun (u : MS) (t : State) => qEC g ad A u t) A) ([.ref (ad 8), .int x1, .int x2] : List Value).toArray s 0 0 A) (F0 m 93 ls [.int t93_0]) := by
        intro U93 t93_0 v93_2 v93_4 H locs ls h hsh hR hl
        unfold w_X2_memberOf_J93 at h
        replace h := h hR.w
        refine lv_istore (lv' := [(5, .int t93_0), (0, .ref (ad 8)), (2, .int v93_2), (4, .int v93_4)]) hx hb dX2_memberOf_93 hl (by decide) rfl (fun ls hl => ?_)
        refine lv_iload_n hx hb dX2_memberOf_95 rfl (lv_at hl 2 rfl) ?_
        refine lv_bipush (v := 9) hx hb dX2_memberOf_96 (by decide) ?_
        have J_118 : ∀ (U118 : MS) (t118_0 : Int32) (v118_4 : Int32) (v118_5 : Int32) (H : Heap) (locs : List Loc) (ls : Array Slot), w_X2_memberOf_J118 Q U118 t118_0 v118_4 v118_5 → shy S U118 → RepC g ad A s U118 H locs → lv_has ls 8 [(0, .ref (ad 8)), (4, .int v118_4), (5, .int v118_5)] → W p l e (headSpec (wt yX2_memberOf cX2_memberOf 8 (some .int)) ({ frames := 2, cells := 0, slots := 0, locals := 47 })).room s m ([.ref (ad 8), .int x1, .int x2] : List Value).toArray below meth c H locs 0 0 (MQ below (va_Qi (fun (r : Int32) (u : MS) => Q r u ∧ wfC u ∧ shy S u) (fun (u : MS) (t : State) => qEC g ad A u t) A) ([.ref (ad 8), .int x1, .int x2] : List Value).toArray s 0 0 A) (F0 m 118 ls [.int t118_0]) := by
          intro U118 t118_0 v118_4 v118_5 H locs ls h hsh hR hl
          unfold w_X2_memberOf_J118 at h
          replace h := h hR.w
          refine lv_istore (lv' := [(6, .int t118_0), (0, .ref (ad 8)), (4, .int v118_4), (5, .int v118_5)]) hx hb dX2_memberOf_118 hl (by decide) rfl (fun ls hl => ?_)
          refine lv_iconst (v := 0) hx hb dX2_memberOf_120 (by decide) ?_
          refine lv_istore (lv' := [(7, .int 0), (6, .int t118_0), (0, .ref (ad 8)), (4, .int v118_4), (5, .int v118_5)]) hx hb dX2_memberOf_121 hl (by decide) rfl (fun ls hl => ?_)
          have J_123 : ∀ (n123 : Nat) (U123 : MS) (v123_4 : Int32) (v123_5 : Int32) (v123_6 : Int32) (v123_7 : Int32) (H : Heap) (locs : List Loc) (ls : Array Slot), w_X2_memberOf_L123 Q n123 U123 v123_4 v123_5 v123_6 v123_7 → shy S U123 → RepC g ad A s U123 H locs → lv_has ls 8 [(0, .ref (ad 8)), (4, .int v123_4), (5, .int v123_5), (6, .int v123_6), (7, .int v123_7)] → W p l e (headSpec (wt yX2_memberOf cX2_memberOf 8 (some .int)) ({ frames := 2, cells := 0, slots := 0, locals := 47 })).room s m ([.ref (ad 8), .int x1, .int x2] : List Value).toArray below meth c H locs 0 0 (MQ below (va_Qi (fun (r : Int32) (u : MS) => Q r u ∧ wfC u ∧ shy S u) (fun (u : MS) (t : State) => qEC g ad A u t) A) ([.ref (ad 8), .int x1, .int x2] : List Value).toArray s 0 0 A) (F0 m 123 ls []) := by
            intro n123
            induction n123 with
            | zero => intro U123 v123_4 v123_5 v123_6 v123_7 H locs ls h hsh hR hl; unfold w_X2_memberOf_L123 at h; exact h.elim
            | succ n123 ih_123 =>
              intro U123 v123_4 v123_5 v123_6 v123_7 H locs ls h hsh hR hl
              unfold w_X2_memberOf_L123 at h
              replace h := h hR.w
              refine lv_iload hx hb dX2_memberOf_123 (lv_at hl 4 rfl) ?_
              refine lv_iload hx hb dX2_memberOf_125 (lv_at hl 3 rfl) ?_
              refine lv_icmp_ge (tgt := 201) hx hb dX2_memberOf_127 (by decide) (fun c32 => ?_) (fun c32 => ?_)
              · replace h := h.1 (k_le rfl rfl c32)
                refine lv_iconst (v := (-1)) hx hb dX2_memberOf_201 (by decide) ?_
                exact W.iret (v := (-1)) hx hb hr (fun t9 ht9 hW9 => ⟨⟨_, U123, rfl, ⟨h, hR.w, hsh⟩, ⟨by rw [ht9]; exact hR.P, hR.D⟩⟩, hR.sS.F ht9⟩) hR.sS.2.2 dX2_memberOf_202
              · replace h := h.2 (k_nle rfl rfl c32)
                refine lv_aload_n hx hb dX2_memberOf_130 rfl (lv_at hl 0 rfl) ?_
                refine va_get (D := rD g) (ci := 2) (v := .ref (ad 9)) (C := RX2) (T := TX2) (N := 12) hx hb hts inX2 hown hR.K hR.P 8 (hR.at42 (hR.w.2.1 _ finC_26).2.1) rfl 0 (by decide) (hts _ kw_632) (fun _ h9 => h9) (congrArg (fun z => some (vf ad z)) (hR.w.2.1 _ finC_2).1) dX2_memberOf_131 ?_
                refine lv_aload_n hx hb dX2_memberOf_134 rfl (lv_at hl 0 rfl) ?_
                refine va_get (D := rD g) (ci := 2) (v := .ref (ad 9)) (C := RX2) (T := TX2) (N := 12) hx hb hts inX2 hown hR.K hR.P 8 (hR.at42 (hR.w.2.1 _ finC_26).2.1) rfl 0 (by decide) (hts _ kw_632) (fun _ h9 => h9) (congrArg (fun z => some (vf ad z)) (hR.w.2.1 _ finC_2).1) dX2_memberOf_135 ?_
                refine lv_iload hx hb dX2_memberOf_138 (lv_at hl 2 rfl) ?_
                refine lv_iload hx hb dX2_memberOf_140 (lv_at hl 4 rfl) ?_
                refine lv_iadd hx hb dX2_memberOf_142 ?_
                refine lv_topi (fun z33 ez33 => ?_)
                obtain rfl : z33 = (v123_5 + v123_7) := ez33
                obtain ⟨hv34, h⟩ := h
                have hFc := cfree hR hA
                refine va_calli (va_runV (As := [.int (v123_5 + v123_7)]) (rest := [.ref (ad 9)]) ⟨hx, hb, hml, hown, hts⟩ (rX7_nameOf l g ad H.size U123 (v123_5 + v123_7) hR.w  hv34) (cwV 1 hts (gd_V kw_656 kw_1409 kw_1410 kw_710 kw_1408) rfl rfl rfl (by decide +kernel) ⟨Nat.le_of_ble_eq_true rfl, Nat.le_of_ble_eq_true rfl⟩) ⟨cblind, va_recv hR.K hR.P (ci := 6) (q0 := 9) rfl (hR.at46 (hR.w.2.1 _ finC_2).2.1), fun U hU hW9 => cmk hU hW9 hR hex hE hFc⟩ rfl rfl hl.1 rfl (lv_room (Nat.le_of_ble_eq_true rfl)) dX2_memberOf_143 ⟨Nat.le_of_ble_eq_true rfl, Nat.le_of_ble_eq_true rfl⟩) hR.sS (fun q _ h => hFc q h) hFc (fun r35 u9 t9 H1 locs ht9 hvm9 hw9 hB9 hz9 hk9 hS => ?_)
                have hR : RepC g ad A s U123 H1 locs := hR.call ht9 hB9 hR.w hS hFc
                obtain rfl : r35 = (fX7_nameOf U123 (v123_5 + v123_7)) := hw9
                clear hB9 hz9 hk9 hvm9 ht9 hS
                generalize H1 = H at hR ⊢
                obtain ⟨a37, ea37⟩ : ∃ z, z = (fX7_nameOf U123 (v123_5 + v123_7)) := ⟨_, rfl⟩
                rw [← ea37]
                replace h := h a37 ea37
                refine lv_aload_n hx hb dX2_memberOf_146 rfl (lv_at hl 0 rfl) ?_
                refine va_get (D := rD g) (ci := 2) (v := .ref (ad 9)) (C := RX2) (T := TX2) (N := 12) hx hb hts inX2 hown hR.K hR.P 8 (hR.at42 (hR.w.2.1 _ finC_26).2.1) rfl 0 (by decide) (hts _ kw_632) (fun _ h9 => h9) (congrArg (fun z => some (vf ad z)) (hR.w.2.1 _ finC_2).1) dX2_memberOf_147 ?_
                refine lv_iload hx hb dX2_memberOf_150 (lv_at hl 1 rfl) ?_
                obtain ⟨hv38, h⟩ := h
                have hFc := cfree hR hA
                refine va_calli (va_runV (As := [.int v123_4]) (rest := [.int a37, .ref (ad 9)]) ⟨hx, hb, hml, hown, hts⟩ (rX7_firstOf l g ad H.size U123 v123_4 hR.w  hv38) (cwV 1 hts (gd_V kw_652 kw_1326 kw_1327 kw_710 kw_1325) rfl rfl rfl (by decide +kernel) ⟨Nat.le_of_ble_eq_true rfl, Nat.le_of_ble_eq_true rfl⟩) ⟨cblind, va_recv hR.K hR.P (ci := 6) (q0 := 9) rfl (hR.at46 (hR.w.2.1 _ finC_2).2.1), fun U hU hW9 => cmk hU hW9 hR hex hE hFc⟩ rfl rfl hl.1 rfl (lv_room (Nat.le_of_ble_eq_true rfl)) dX2_memberOf_152 ⟨Nat.le_of_ble_eq_true rfl, Nat.le_of_ble_eq_true rfl⟩) hR.sS (fun q _ h => hFc q h) hFc (fun r39 u9 t9 H1 locs ht9 hvm9 hw9 hB9 hz9 hk9 hS => ?_)
                have hR : RepC g ad A s U123 H1 locs := hR.call ht9 hB9 hR.w hS hFc
                obtain rfl : r39 = (fX7_firstOf U123 v123_4) := hw9
                clear hB9 hz9 hk9 hvm9 ht9 hS
                generalize H1 = H at hR ⊢
                obtain ⟨a41, ea41⟩ : ∃ z, z = (fX7_firstOf U123 v123_4) := ⟨_, rfl⟩
                rw [← ea41]
                replace h := h a41 ea41
                obtain ⟨Q42, h0, h⟩ := h
                have hFc := cfree hR hA
                refine va_calli (va_runV (As := [.int a37, .int a41]) (rest := []) ⟨hx, hb, hml, hown, hts⟩ (rX7_isSameName l g ad H.size U123 a37 a41 hR.w  Q42 h0) (cwV 2 hts (gd_V kw_752 kw_1356 kw_1357 kw_710 kw_1355) rfl rfl rfl (by decide +kernel) ⟨Nat.le_of_ble_eq_true rfl, Nat.le_of_ble_eq_true rfl⟩) ⟨cblind, va_recv hR.K hR.P (ci := 6) (q0 := 9) rfl (hR.at46 (hR.w.2.1 _ finC_2).2.1), fun U hU hW9 => cmk hU hW9 hR hex hE hFc⟩ rfl rfl hl.1 rfl (lv_room (Nat.le_of_ble_eq_true rfl)) dX2_memberOf_155 ⟨Nat.le_of_ble_eq_true rfl, Nat.le_of_ble_eq_true rfl⟩) hR.sS (fun q _ h => hFc q h) hFc (fun r43 S44 t9 H1 locs ht9 hvm9 hw9 hB9 hz9 hk9 hS => ?_)
                obtain ⟨hq45, hw9, hs9, hz_r43⟩ := hw9
                have hR : RepC g ad A s S44 H1 locs := hR.call ht9 hB9 hw9 hS hFc
                have hsh := hsh.tr hs9
                replace h := h r43 S44 hq45 hw9 hs9
                clear hB9 hz9 hk9 hvm9 ht9 hw9 hs9 hS
                generalize H1 = H at hR ⊢
                have J_195 : ∀ (U195 : MS) (v195_4 : Int32) (v195_5 : Int32) (v195_6 : Int32) (v195_7 : Int32) (H : Heap) (locs : List Loc) (ls : Array Slot), w_X2_memberOf_J195 Q (w_X2_memberOf_L123 Q n123) U195 v195_4 v195_5 v195_6 v195_7 → shy S U195 → RepC g ad A s U195 H locs → lv_has ls 8 [(0, .ref (ad 8)), (4, .int v195_4), (5, .int v195_5), (6, .int v195_6), (7, .int v195_7)] → W p l e (headSpec (wt yX2_memberOf cX2_memberOf 8 (some .int)) ({ frames := 2, cells := 0, slots := 0, locals := 47 })).room s m ([.ref (ad 8), .int x1, .int x2] : List Value).toArray below meth c H locs 0 0 (MQ below (va_Qi (fun (r : Int32) (u : MS) => Q r u ∧ wfC u ∧ shy S u) (fun (u : MS) (t : State) => qEC g ad A u t) A) ([.ref (ad 8), .int x1, .int x2] : List Value).toArray s 0 0 A) (F0 m 195 ls []) := by
                  intro U195 v195_4 v195_5 v195_6 v195_7 H locs ls h hsh hR hl
                  unfold w_X2_memberOf_J195 at h
                  replace h := h hR.w
                  obtain ⟨a46, ea46⟩ : ∃ z, z = (v195_7 + Int32.ofInt 1) := ⟨_, rfl⟩
                  replace h := h a46 ea46
                  refine lv_iinc (v := a46) (lv' := [(7, .int a46), (0, .ref (ad 8)), (4, .int v195_4), (5, .int v195_5), (6, .int v195_6)]) hx hb dX2_memberOf_195 hl (k := 4) rfl ea46.symm (by decide) rfl (fun ls hl => ?_)
                  refine lv_goto (tgt := 123) hx hb dX2_memberOf_198 (by decide) ?_
                  exact ih_123 U195 v195_4 v195_5 v195_6 a46 _ _ ls h  hsh hR (lv_sub hl [1, 2, 3, 4, 0] rfl)
                refine lv_if_eq (tgt := 195) hx hb dX2_memberOf_158 (by decide) (fun c47 => ?_) (fun c47 => ?_)
                · replace h := h.1 (k_eq rfl (by decide) c47)
                  exact J_195 S44 v123_4 v123_5 v123_6 v123_7 _ _ ls h  hsh hR (lv_sub hl [0, 1, 2, 3, 4] rfl)
                · replace h := h.2 (k_ne rfl (by decide) c47)
                  refine lv_aload_n hx hb dX2_memberOf_161 rfl (lv_at hl 0 rfl) ?_
                  refine va_get (D := rD g) (ci := 2) (v := .ref (ad 9)) (C := RX2) (T := TX2) (N := 12) hx hb hts inX2 hown hR.K hR.P 8 (hR.at42 (hR.w.2.1 _ finC_26).2.1) rfl 0 (by decide) (hts _ kw_632) (fun _ h9 => h9) (congrArg (fun z => some (vf ad z)) (hR.w.2.1 _ finC_2).1) dX2_memberOf_162 ?_
                  refine lv_aload_n hx hb dX2_memberOf_165 rfl (lv_at hl 0 rfl) ?_
                  refine va_get (D := rD g) (ci := 2) (v := .ref (ad 9)) (C := RX2) (T := TX2) (N := 12) hx hb hts inX2 hown hR.K hR.P 8 (hR.at42 (hR.w.2.1 _ finC_26).2.1) rfl 0 (by decide) (hts _ kw_632) (fun _ h9 => h9) (congrArg (fun z => some (vf ad z)) (hR.w.2.1 _ finC_2).1) dX2_memberOf_166 ?_
                  refine lv_iload hx hb dX2_memberOf_169 (lv_at hl 2 rfl) ?_
                  refine lv_iload hx hb dX2_memberOf_171 (lv_at hl 4 rfl) ?_
                  refine lv_iadd hx hb dX2_memberOf_173 ?_
                  refine lv_topi (fun z48 ez48 => ?_)
                  obtain rfl : z48 = (v123_5 + v123_7) := ez48
                  obtain ⟨hv49, h⟩ := h
                  have hFc := cfree hR hA
                  refine va_calli (va_runV (As := [.int (v123_5 + v123_7)]) (rest := [.ref (ad 9)]) ⟨hx, hb, hml, hown, hts⟩ (rX7_typeOf l g ad H.size S44 (v123_5 + v123_7) hR.w  hv49) (cwV 1 hts (gd_V kw_658 kw_1438 kw_1439 kw_710 kw_1437) rfl rfl rfl (by decide +kernel) ⟨Nat.le_of_ble_eq_true rfl, Nat.le_of_ble_eq_true rfl⟩) ⟨cblind, va_recv hR.K hR.P (ci := 6) (q0 := 9) rfl (hR.at46 (hR.w.2.1 _ finC_2).2.1), fun U hU hW9 => cmk hU hW9 hR hex hE hFc⟩ rfl rfl hl.1 rfl (lv_room (Nat.le_of_ble_eq_true rfl)) dX2_memberOf_174 ⟨Nat.le_of_ble_eq_true rfl, Nat.le_of_ble_eq_true rfl⟩) hR.sS (fun q _ h => hFc q h) hFc (fun r50 u9 t9 H1 locs ht9 hvm9 hw9 hB9 hz9 hk9 hS => ?_)
                  have hR : RepC g ad A s S44 H1 locs := hR.call ht9 hB9 hR.w hS hFc
                  obtain rfl : r50 = (fX7_typeOf S44 (v123_5 + v123_7)) := hw9
                  clear hB9 hz9 hk9 hvm9 ht9 hS
                  generalize H1 = H at hR ⊢
                  obtain ⟨a52, ea52⟩ : ∃ z, z = (fX7_typeOf S44 (v123_5 + v123_7)) := ⟨_, rfl⟩
                  rw [← ea52]
                  replace h := h a52 ea52
                  refine lv_aload_n hx hb dX2_memberOf_177 rfl (lv_at hl 0 rfl) ?_
                  refine va_get (D := rD g) (ci := 2) (v := .ref (ad 9)) (C := RX2) (T := TX2) (N := 12) hx hb hts inX2 hown hR.K hR.P 8 (hR.at42 (hR.w.2.1 _ finC_26).2.1) rfl 0 (by decide) (hts _ kw_632) (fun _ h9 => h9) (congrArg (fun z => some (vf ad z)) (hR.w.2.1 _ finC_2).1) dX2_memberOf_178 ?_
                  refine lv_iload hx hb dX2_memberOf_181 (lv_at hl 1 rfl) ?_
                  obtain ⟨hv53, h⟩ := h
                  have hFc := cfree hR hA
                  refine va_calli (va_runV (As := [.int v123_4]) (rest := [.int a52, .ref (ad 9)]) ⟨hx, hb, hml, hown, hts⟩ (rX7_secondOf l g ad H.size S44 v123_4 hR.w  hv53) (cwV 1 hts (gd_V kw_753 kw_1432 kw_1433 kw_710 kw_1431) rfl rfl rfl (by decide +kernel) ⟨Nat.le_of_ble_eq_true rfl, Nat.le_of_ble_eq_true rfl⟩) ⟨cblind, va_recv hR.K hR.P (ci := 6) (q0 := 9) rfl (hR.at46 (hR.w.2.1 _ finC_2).2.1), fun U hU hW9 => cmk hU hW9 hR hex hE hFc⟩ rfl rfl hl.1 rfl (lv_room (Nat.le_of_ble_eq_true rfl)) dX2_memberOf_183 ⟨Nat.le_of_ble_eq_true rfl, Nat.le_of_ble_eq_true rfl⟩) hR.sS (fun q _ h => hFc q h) hFc (fun r54 u9 t9 H1 locs ht9 hvm9 hw9 hB9 hz9 hk9 hS => ?_)
                  have hR : RepC g ad A s S44 H1 locs := hR.call ht9 hB9 hR.w hS hFc
                  obtain rfl : r54 = (fX7_secondOf S44 v123_4) := hw9
                  clear hB9 hz9 hk9 hvm9 ht9 hS
                  generalize H1 = H at hR ⊢
                  obtain ⟨a56, ea56⟩ : ∃ z, z = (fX7_secondOf S44 v123_4) := ⟨_, rfl⟩
                  rw [← ea56]
                  replace h := h a56 ea56
                  obtain ⟨Q57, h0, h⟩ := h
                  have hFc := cfree hR hA
                  refine va_calli (va_runV (As := [.int a52, .int a56]) (rest := []) ⟨hx, hb, hml, hown, hts⟩ (rX7_isSameName l g ad H.size S44 a52 a56 hR.w  Q57 h0) (cwV 2 hts (gd_V kw_752 kw_1356 kw_1357 kw_710 kw_1355) rfl rfl rfl (by decide +kernel) ⟨Nat.le_of_ble_eq_true rfl, Nat.le_of_ble_eq_true rfl⟩) ⟨cblind, va_recv hR.K hR.P (ci := 6) (q0 := 9) rfl (hR.at46 (hR.w.2.1 _ finC_2).2.1), fun U hU hW9 => cmk hU hW9 hR hex hE hFc⟩ rfl rfl hl.1 rfl (lv_room (Nat.le_of_ble_eq_true rfl)) dX2_memberOf_186 ⟨Nat.le_of_ble_eq_true rfl, Nat.le_of_ble_eq_true rfl⟩) hR.sS (fun q _ h => hFc q h) hFc (fun r58 S59 t9 H1 locs ht9 hvm9 hw9 hB9 hz9 hk9 hS => ?_)
                  obtain ⟨hq60, hw9, hs9, hz_r58⟩ := hw9
                  have hR : RepC g ad A s S59 H1 locs := hR.call ht9 hB9 hw9 hS hFc
                  have hsh := hsh.tr hs9
                  replace h := h r58 S59 hq60 hw9 hs9
                  clear hB9 hz9 hk9 hvm9 ht9 hw9 hs9 hS
                  generalize H1 = H at hR ⊢
                  refine lv_if_eq (tgt := 195) hx hb dX2_memberOf_189 (by decide) (fun c61 => ?_) (fun c61 => ?_)
                  · replace h := h.1 (k_eq rfl (by decide) c61)
                    exact J_195 S59 v123_4 v123_5 v123_6 v123_7 _ _ ls h  hsh hR (lv_sub hl [0, 1, 2, 3, 4] rfl)
                  · replace h := h.2 (k_ne rfl (by decide) c61)
                    refine lv_iload hx hb dX2_memberOf_192 (lv_at hl 4 rfl) ?_
                    exact W.iret (v := v123_7) hx hb hr (fun t9 ht9 hW9 => ⟨⟨_, S59, rfl, ⟨h, hR.w, hsh⟩, ⟨by rw [ht9]; exact hR.P, hR.D⟩⟩, hR.sS.F ht9⟩) hR.sS.2.2 dX2_memberOf_194
          obtain ⟨n9, h⟩ := h
          exact J_123 n9 U118 v118_4 v118_5 t118_0 0 _ _ ls h  hsh hR (lv_sub hl [2, 3, 4, 1, 0] rfl)
        refine lv_icmp_ne (tgt := 111) hx hb dX2_memberOf_98 (by decide) (fun c62 => ?_) (fun c62 => ?_)
        · replace h := h.2 (k_ne rfl (by decide) c62)
          refine lv_aload_n hx hb dX2_memberOf_111 rfl (lv_at hl 1 rfl) ?_
          refine va_get (D := rD g) (ci := 2) (v := .ref (ad 9)) (C := RX2) (T := TX2) (N := 12) hx hb hts inX2 hown hR.K hR.P 8 (hR.at42 (hR.w.2.1 _ finC_26).2.1) rfl 0 (by decide) (hts _ kw_632) (fun _ h9 => h9) (congrArg (fun z => some (vf ad z)) (hR.w.2.1 _ finC_2).1) dX2_memberOf_112 ?_
          refine va_get (D := rD g) (ci := 6) (v := .int (qI U93 9 8)) (C := RX7) (T := TX7) (N := 17) hx hb hts inX7 hown hR.K hR.P 9 (hR.at46 (hR.w.2.1 _ finC_2).2.1) rfl 8 (by decide) (hts _ kw_646) (fun _ h9 => h9) rfl dX2_memberOf_115 ?_
          exact J_118 U93 (qI U93 9 8) v93_4 t93_0 _ _ ls h  hsh hR (lv_sub hl [1, 3, 0] rfl)
        · replace h := h.1 (k_eq rfl (by decide) c62)
          refine lv_aload_n hx hb dX2_memberOf_101 rfl (lv_at hl 1 rfl) ?_
          refine va_get (D := rD g) (ci := 2) (v := .ref (ad 9)) (C := RX2) (T := TX2) (N := 12) hx hb hts inX2 hown hR.K hR.P 8 (hR.at42 (hR.w.2.1 _ finC_26).2.1) rfl 0 (by decide) (hts _ kw_632) (fun _ h9 => h9) (congrArg (fun z => some (vf ad z)) (hR.w.2.1 _ finC_2).1) dX2_memberOf_102 ?_
          refine va_get (D := rD g) (ci := 6) (v := .int (qI U93 9 7)) (C := RX7) (T := TX7) (N := 17) hx hb hts inX7 hown hR.K hR.P 9 (hR.at46 (hR.w.2.1 _ finC_2).2.1) rfl 7 (by decide) (hts _ kw_645) (fun _ h9 => h9) rfl dX2_memberOf_105 ?_
          refine lv_goto (tgt := 118) hx hb dX2_memberOf_108 (by decide) ?_
          exact J_118 U93 (qI U93 9 7) v93_4 t93_0 _ _ ls h  hsh hR (lv_sub hl [1, 3, 0] rfl)
      refine lv_icmp_ne (tgt := 86) hx hb dX2_memberOf_79 (by decide) (fun c63 => ?_) (fun c63 => ?_)
      · replace h := h.2 (k_ne rfl (by decide) c63)
        refine lv_aload_n hx hb dX2_memberOf_86 rfl (lv_at hl 2 rfl) ?_
        refine va_get (D := rD g) (ci := 2) (v := .ref (ad 9)) (C := RX2) (T := TX2) (N := 12) hx hb hts inX2 hown hR.K hR.P 8 (hR.at42 (hR.w.2.1 _ finC_26).2.1) rfl 0 (by decide) (hts _ kw_632) (fun _ h9 => h9) (congrArg (fun z => some (vf ad z)) (hR.w.2.1 _ finC_2).1) dX2_memberOf_87 ?_
        refine va_get (D := rD g) (ci := 6) (v := .int (qI S25 9 7)) (C := RX7) (T := TX7) (N := 17) hx hb hts inX7 hown hR.K hR.P 9 (hR.at46 (hR.w.2.1 _ finC_2).2.1) rfl 7 (by decide) (hts _ kw_645) (fun _ h9 => h9) rfl dX2_memberOf_90 ?_
        exact J_93 S25 (qI S25 9 7) x2 a31 _ _ ls h  hsh hR (lv_sub hl [2, 4, 0] rfl)
      · replace h := h.1 (k_eq rfl (by decide) c63)
        refine lv_iconst (v := 0) hx hb dX2_memberOf_82 (by decide) ?_
        refine lv_goto (tgt := 93) hx hb dX2_memberOf_83 (by decide) ?_
        exact J_93 S25 0 x2 a31 _ _ ls h  hsh hR (lv_sub hl [2, 4, 0] rfl)
    · replace h := h.1 (k_eq rfl (by decide) c27)
      refine lv_iconst (v := (-1)) hx hb dX2_memberOf_64 (by decide) ?_
      exact W.iret (v := (-1)) hx hb hr (fun t9 ht9 hW9 => ⟨⟨_, S25, rfl, ⟨h, hR.w, hsh⟩, ⟨by rw [ht9]; exact hR.P, hR.D⟩⟩, hR.sS.F ht9⟩) hR.sS.2.2 dX2_memberOf_65
  · replace h := h.2 (k_ne rfl rfl c5)
    refine lv_iconst (v := (-1)) hx hb dX2_memberOf_12 (by decide) ?_
    exact W.iret (v := (-1)) hx hb hr (fun t9 ht9 hW9 => ⟨⟨_, S, rfl, ⟨h, hR.w, hsh⟩, ⟨by rw [ht9]; exact hR.P, hR.D⟩⟩, hR.sS.F ht9⟩) hR.sS.2.2 dX2_memberOf_13
def fX2_longAt (S : MS) (x1 : Int32) : Int64 := (((fX7_u4 S x1) <<< ((32 : Int32).toInt64 &&& 63)) ||| (fX7_u4 S (x1 + (4 : Int32))))
def d_X2_longAt (S : MS) (x1 : Int32) : Prop := (d_X7_u4 S x1 ∧ (d_X7_u4 S (x1 + (4 : Int32)) ∧ True))
set_option maxHeartbeats 2000000 in
set_option maxRecDepth 100000 in
theorem rX2_longAt (l : Launch) (g : Gr) (ad : Nat → Nat) (sz : Nat) (S : MS) (x1 : Int32) (hw : wfC S) (hd : d_X2_longAt S x1) : Met l yX2_longAt (wt yX2_longAt cX2_longAt 2 (some .long)) ({ frames := 2, cells := 0, slots := 0, locals := 42 }) (va_Pc [.ref (ad 8), .int x1] (st_C g ad sz S)) (va_Ql (fun (r : Int64) (_ : Unit) => r = fX2_longAt S x1) (fun (_ : Unit) (t : State) => qEC g ad (va_A (WdC g ad S) sz) S t) (va_A (WdC g ad S) sz)) 0 0 (va_A (WdC g ad S) sz) := by
  refine Met.ofW (cc := cX2_longAt) (maxL := 2) (ret := (some .long)) (by decide) rfl ?_
  intro p e s m args below meth c s₁ B hml hv
  obtain ⟨rfl, hsz, hP, hK, hD0, hex, hE⟩ := hv
  have hx := B.exec
  have hb := B.bytes
  have hr := B.returns
  have hts0 := atoms_spec (ws := wt yX2_longAt cX2_longAt 2 (some .long)) B.pre
  have hts : ∀ w ∈ tb, w.before _ s = true := fun w h => hts0 w (List.mem_cons_of_mem _ h)
  have hown : s.vm.findClass RX2 = some m.cls := findClass_of_methodNamed B.named
  subst hsz
  have hD := hD0.self (sz := s.heap.size)
  generalize hAe : va_A (WdC g ad S) s.heap.size = A at hD hE ⊢
  have hA : ∀ q : Nat, s.heap.size ≤ q → A q := fun q h => by rw [← hAe]; exact Or.inr h
  have hR : RepC g ad A s S s.heap [] := ⟨hK, hP, hD, va_S.rf, hw⟩
  clear hK hP hD hD0
  have hl := lv_entry ([.ref (ad 8), .int x1]) (n := 2) (Nat.le_of_ble_eq_true rfl)
  rw [lg_entry_eq]
  generalize (lg_sl ([.ref (ad 8), .int x1]) ++ List.replicate (2 - (lg_sl ([.ref (ad 8), .int x1])).length) Slot.unset).toArray = ls at hl ⊢
  have hl : lv_has ls 2 [(0, .ref (ad 8)), (1, .int x1)] := hl
  obtain ⟨r0, hf⟩ : ∃ r0, fX2_longAt S x1 = r0 := ⟨_, rfl⟩
  have hf0 := hf
  unfold fX2_longAt at hf
  unfold d_X2_longAt at hd
  refine lv_aload_n hx hb dX2_longAt_0 rfl (lv_at hl 0 rfl) ?_
  refine va_get (D := rD g) (ci := 2) (v := .ref (ad 9)) (C := RX2) (T := TX2) (N := 12) hx hb hts inX2 hown hR.K hR.P 8 (hR.at42 (hR.w.2.1 _ finC_26).2.1) rfl 0 (by decide) (hts _ kw_632) (fun _ h9 => h9) (congrArg (fun z => some (vf ad z)) (hR.w.2.1 _ finC_2).1) dX2_longAt_1 ?_
  refine lv_iload_n hx hb dX2_longAt_4 rfl (lv_at hl 1 rfl) ?_
  obtain ⟨hv1, hd⟩ := hd
  have hFc := cfree hR hA
  refine va_calll (va_runV (As := [.int x1]) (rest := []) ⟨hx, hb, hml, hown, hts⟩ (rX7_u4 l g ad s.heap.size S x1 hR.w  hv1) (cwV 1 hts (gd_V kw_678 kw_1453 kw_1454 kw_710 kw_1452) rfl rfl rfl (by decide +kernel) ⟨Nat.le_of_ble_eq_true rfl, Nat.le_of_ble_eq_true rfl⟩) ⟨cblind, va_recv hR.K hR.P (ci := 6) (q0 := 9) rfl (hR.at46 (hR.w.2.1 _ finC_2).2.1), fun U hU hW9 => cmk hU hW9 hR hex hE hFc⟩ rfl rfl hl.1 rfl (lv_room (Nat.le_of_ble_eq_true rfl)) dX2_longAt_5 ⟨Nat.le_of_ble_eq_true rfl, Nat.le_of_ble_eq_true rfl⟩) hR.sS (fun q _ h => hFc q h) hFc (fun r2 u9 t9 H1 locs ht9 hvm9 hw9 hB9 hz9 hk9 hS => ?_)
  have hR : RepC g ad A s S H1 locs := hR.call ht9 hB9 hR.w hS hFc
  obtain rfl : r2 = (fX7_u4 S x1) := hw9
  clear hB9 hz9 hk9 hvm9 ht9 hS
  generalize H1 = H at hR ⊢
  refine lv_bipush (v := 32) hx hb dX2_longAt_8 (by decide) ?_
  refine lv_lshl (v := ((fX7_u4 S x1) <<< ((32 : Int32).toInt64 &&& 63))) hx hb dX2_longAt_10 rfl ?_
  refine lv_aload_n hx hb dX2_longAt_11 rfl (lv_at hl 0 rfl) ?_
  refine va_get (D := rD g) (ci := 2) (v := .ref (ad 9)) (C := RX2) (T := TX2) (N := 12) hx hb hts inX2 hown hR.K hR.P 8 (hR.at42 (hR.w.2.1 _ finC_26).2.1) rfl 0 (by decide) (hts _ kw_632) (fun _ h9 => h9) (congrArg (fun z => some (vf ad z)) (hR.w.2.1 _ finC_2).1) dX2_longAt_12 ?_
  refine lv_iload_n hx hb dX2_longAt_15 rfl (lv_at hl 1 rfl) ?_
  refine lv_iconst (v := 4) hx hb dX2_longAt_16 (by decide) ?_
  refine lv_iadd hx hb dX2_longAt_17 ?_
  refine lv_topi (fun z4 ez4 => ?_)
  obtain rfl : z4 = (x1 + (4 : Int32)) := ez4
  obtain ⟨hv5, hd⟩ := hd
  have hFc := cfree hR hA
  refine va_calll (va_runV (As := [.int (x1 + (4 : Int32))]) (rest := [.long ((fX7_u4 S x1) <<< ((32 : Int32).toInt64 &&& 63))]) ⟨hx, hb, hml, hown, hts⟩ (rX7_u4 l g ad H.size S (x1 + (4 : Int32)) hR.w  hv5) (cwV 1 hts (gd_V kw_678 kw_1453 kw_1454 kw_710 kw_1452) rfl rfl rfl (by decide +kernel) ⟨Nat.le_of_ble_eq_true rfl, Nat.le_of_ble_eq_true rfl⟩) ⟨cblind, va_recv hR.K hR.P (ci := 6) (q0 := 9) rfl (hR.at46 (hR.w.2.1 _ finC_2).2.1), fun U hU hW9 => cmk hU hW9 hR hex hE hFc⟩ rfl rfl hl.1 rfl (lv_room (Nat.le_of_ble_eq_true rfl)) dX2_longAt_18 ⟨Nat.le_of_ble_eq_true rfl, Nat.le_of_ble_eq_true rfl⟩) hR.sS (fun q _ h => hFc q h) hFc (fun r6 u9 t9 H1 locs ht9 hvm9 hw9 hB9 hz9 hk9 hS => ?_)
  have hR : RepC g ad A s S H1 locs := hR.call ht9 hB9 hR.w hS hFc
  obtain rfl : r6 = (fX7_u4 S (x1 + (4 : Int32))) := hw9
  clear hB9 hz9 hk9 hvm9 ht9 hS
  generalize H1 = H at hR ⊢
  refine lv_lor hx hb dX2_longAt_21 ?_
  refine lv_topl (fun z8 ez8 => ?_)
  obtain rfl : z8 = (((fX7_u4 S x1) <<< ((32 : Int32).toInt64 &&& 63)) ||| (fX7_u4 S (x1 + (4 : Int32)))) := ez8
  exact W.lret (v := (((fX7_u4 S x1) <<< ((32 : Int32).toInt64 &&& 63)) ||| (fX7_u4 S (x1 + (4 : Int32))))) hx hb hr (fun t9 ht9 hW9 => ⟨⟨_, (), rfl, hf.trans hf0.symm, ⟨by rw [ht9]; exact hR.P, hR.D⟩⟩, hR.sS.F ht9⟩) hR.sS.2.2 dX2_longAt_22
def w_X2_addSwitch_L90 (Q : MS → Prop) : Nat → MS → Nat → Int32 → Int32 → Int32 → Prop
  | 0, _, _, _, _, _ => False
  | n90 + 1, U90, v90_1, v90_2, v90_3, v90_4 => (wfC U90 → qT U90 v90_1 = 47 → (((qI U90 8 9).toInt = 171 → ((v90_3.toInt ≤ v90_4.toInt → Q U90) ∧ (¬ v90_3.toInt ≤ v90_4.toInt → (d_X2_s4 U90 ((v90_2 + (8 : Int32)) + ((8 : Int32) * v90_4)) ∧ (∀ a25 : Int32, a25 = (fX2_s4 U90 ((v90_2 + (8 : Int32)) + ((8 : Int32) * v90_4))) → (qT U90 v90_1 = 47 → (∃ Q26, wX8_addToTable U90 v90_1 a25 Q26 ∧ ∀ S27, Q26 S27 → wfC S27 → shy U90 S27 → (∀ a29 : Int32, a29 = (v90_4 + Int32.ofInt 1) → (w_X2_addSwitch_L90 Q n90) S27 v90_1 v90_2 v90_3 a29)))))))) ∧ (¬ (qI U90 8 9).toInt = 171 → Q U90)))
def w_X2_addSwitch_L60 (Q : MS → Prop) : Nat → MS → Nat → Int32 → Int32 → Int32 → Prop
  | 0, _, _, _, _, _ => False
  | n60 + 1, U60, v60_1, v60_2, v60_3, v60_4 => (wfC U60 → qT U60 v60_1 = 47 → ((v60_3.toInt ≤ v60_4.toInt → (∃ n, w_X2_addSwitch_L90 Q n U60 v60_1 v60_2 v60_3 0)) ∧ (¬ v60_3.toInt ≤ v60_4.toInt → (d_X2_switchTarget U60 v60_2 v60_4 ∧ (∀ a33 : Int64, a33 = (fX2_switchTarget U60 v60_2 v60_4) → (d_X2_numberOf U60 a33 ∧ (∀ a37 : Int32, a37 = (fX2_numberOf U60 a33) → (qT U60 v60_1 = 47 → (∃ Q38, wX8_addToTable U60 v60_1 a37 Q38 ∧ ∀ S39, Q38 S39 → wfC S39 → shy U60 S39 → (∀ a41 : Int32, a41 = (v60_4 + Int32.ofInt 1) → (w_X2_addSwitch_L60 Q n60) S39 v60_1 v60_2 v60_3 a41))))))))))
def w_X2_addSwitch_J54 (Q : MS → Prop) (U54 : MS) (t54_0 : Int32) (t54_1 : Nat) (v54_1 : Nat) (v54_2 : Int32) (v54_3 : Int32) : Prop := (wfC U54 → qT U54 t54_1 = 47 → qT U54 v54_1 = 47 → (qT U54 t54_1 = 47 → (∃ Q13, wX8_addToTable U54 t54_1 t54_0 Q13 ∧ ∀ S14, Q13 S14 → wfC S14 → shy U54 S14 → (∃ n, w_X2_addSwitch_L60 Q n S14 v54_1 v54_2 v54_3 (-1)))))
def wX2_addSwitch (S : MS) (p1 : Nat) (Q : MS → Prop) : Prop := (∀ a1 : Int32, a1 = ((qJ S 8 10).toInt32) → (d_X2_switchCount S a1 ∧ (∀ a5 : Int32, a5 = (fX2_switchCount S a1) → (qT S p1 = 47 → (∃ Q6, wX8_add S p1 (qI S 8 9) ((qI S p1 4).toInt64) Q6 ∧ ∀ S7, Q6 S7 → wfC S7 → shy S S7 → (qT S7 p1 = 47 → (∃ Q10, wX8_addToTable S7 p1 (a5 + (1 : Int32)) Q10 ∧ ∀ S11, Q10 S11 → wfC S11 → shy S7 S11 → (((qI S11 8 9).toInt = 170 → (d_X2_s4 S11 (a1 + (4 : Int32)) ∧ (∀ a47 : Int32, a47 = (fX2_s4 S11 (a1 + (4 : Int32))) → w_X2_addSwitch_J54 Q S11 a47 p1 p1 a1 a5))) ∧ (¬ (qI S11 8 9).toInt = 170 → w_X2_addSwitch_J54 Q S11 0 p1 p1 a1 a5)))))))))
set_option maxHeartbeats 2000000 in
set_option maxRecDepth 100000 in
theorem rX2_addSwitch (l : Launch) (g : Gr) (ad : Nat → Nat) (sz : Nat) (S : MS) (p1 : Nat) (hw : wfC S) (hT_p1 : qT S p1 = 47) (Q : MS → Prop) (h : wX2_addSwitch S p1 Q) : Met l yX2_addSwitch (wt yX2_addSwitch cX2_addSwitch 5 none) ({ frames := 3, cells := 0, slots := 0, locals := 64 }) (va_Pc [.ref (ad 8), .ref (ad p1)] (st_C g ad sz S)) (va_Qv (fun (u : MS) => Q u ∧ wfC u ∧ shy S u) (fun (u : MS) (t : State) => qEC g ad (va_A (WdC g ad S) sz) u t) (va_A (WdC g ad S) sz)) 0 0 (va_A (WdC g ad S) sz) := by
  refine Met.ofW (cc := cX2_addSwitch) (maxL := 5) (ret := none) (by decide) rfl ?_
  intro p e s m args below meth c s₁ B hml hv
  obtain ⟨rfl, hsz, hP, hK, hD0, hex, hE⟩ := hv
  have hx := B.exec
  have hb := B.bytes
  have hr := B.returns
  have hts0 := atoms_spec (ws := wt yX2_addSwitch cX2_addSwitch 5 none) B.pre
  have hts : ∀ w ∈ tb, w.before _ s = true := fun w h => hts0 w (List.mem_cons_of_mem _ h)
  have hown : s.vm.findClass RX2 = some m.cls := findClass_of_methodNamed B.named
  subst hsz
  have hD := hD0.self (sz := s.heap.size)
  generalize hAe : va_A (WdC g ad S) s.heap.size = A at hD hE ⊢
  have hA : ∀ q : Nat, s.heap.size ≤ q → A q := fun q h => by rw [← hAe]; exact Or.inr h
  have hR : RepC g ad A s S s.heap [] := ⟨hK, hP, hD, va_S.rf, hw⟩
  clear hK hP hD hD0
  have hl := lv_entry ([.ref (ad 8), .ref (ad p1)]) (n := 5) (Nat.le_of_ble_eq_true rfl)
  rw [lg_entry_eq]
  generalize (lg_sl ([.ref (ad 8), .ref (ad p1)]) ++ List.replicate (5 - (lg_sl ([.ref (ad 8), .ref (ad p1)])).length) Slot.unset).toArray = ls at hl ⊢
  have hl : lv_has ls 5 [(0, .ref (ad 8)), (1, .ref (ad p1))] := hl
  have hsh : shy S S := shy.rf
  unfold wX2_addSwitch at h
  refine lv_aload_n hx hb dX2_addSwitch_0 rfl (lv_at hl 0 rfl) ?_
  refine va_get (D := rD g) (ci := 2) (v := .long (qJ S 8 10)) (C := RX2) (T := TX2) (N := 12) hx hb hts inX2 hown hR.K hR.P 8 (hR.at42 (hR.w.2.1 _ finC_26).2.1) rfl 10 (by decide) (hts _ kw_617) (fun _ h9 => h9) rfl dX2_addSwitch_1 ?_
  refine lv_l2i (v := ((qJ S 8 10).toInt32)) hx hb dX2_addSwitch_4 rfl ?_
  obtain ⟨a1, ea1⟩ : ∃ z, z = ((qJ S 8 10).toInt32) := ⟨_, rfl⟩
  rw [← ea1]
  replace h := h a1 ea1
  refine lv_istore_n (lv' := [(2, .int a1), (0, .ref (ad 8)), (1, .ref (ad p1))]) hx hb dX2_addSwitch_5 rfl hl (by decide) rfl (fun ls hl => ?_)
  refine lv_aload_n hx hb dX2_addSwitch_6 rfl (lv_at hl 1 rfl) ?_
  refine lv_iload_n hx hb dX2_addSwitch_7 rfl (lv_at hl 0 rfl) ?_
  obtain ⟨hv2, h⟩ := h
  have hFc := cfree hR hA
  refine va_calli (va_runV (As := [.int a1]) (rest := []) ⟨hx, hb, hml, hown, hts⟩ (rX2_switchCount l g ad s.heap.size S a1 hR.w  hv2) (cwV 1 hts (gd_V kw_618 kw_796 kw_797 kw_389 kw_795) rfl rfl rfl (by decide +kernel) ⟨Nat.le_of_ble_eq_true rfl, Nat.le_of_ble_eq_true rfl⟩) ⟨cblind, va_recv hR.K hR.P (ci := 2) (q0 := 8) rfl (hR.at42 (hR.w.2.1 _ finC_26).2.1), fun U hU hW9 => cmk hU hW9 hR hex hE hFc⟩ rfl rfl hl.1 rfl (lv_room (Nat.le_of_ble_eq_true rfl)) dX2_addSwitch_8 ⟨Nat.le_of_ble_eq_true rfl, Nat.le_of_ble_eq_true rfl⟩) hR.sS (fun q _ h => hFc q h) hFc (fun r3 u9 t9 H1 locs ht9 hvm9 hw9 hB9 hz9 hk9 hS => ?_)
  have hR : RepC g ad A s S H1 locs := hR.call ht9 hB9 hR.w hS hFc
  obtain rfl : r3 = (fX2_switchCount S a1) := hw9
  clear hB9 hz9 hk9 hvm9 ht9 hS
  generalize H1 = H at hR ⊢
  obtain ⟨a5, ea5⟩ : ∃ z, z = (fX2_switchCount S a1) := ⟨_, rfl⟩
  rw [← ea5]
  replace h := h a5 ea5
  refine lv_istore_n (lv' := [(3, .int a5), (2, .int a1), (0, .ref (ad 8)), (1, .ref (ad p1))]) hx hb dX2_addSwitch_11 rfl hl (by decide) rfl (fun ls hl => ?_)
  refine lv_aload_n hx hb dX2_addSwitch_12 rfl (lv_at hl 3 rfl) ?_
  refine lv_aload_n hx hb dX2_addSwitch_13 rfl (lv_at hl 2 rfl) ?_
  refine va_get (D := rD g) (ci := 2) (v := .int (qI S 8 9)) (C := RX2) (T := TX2) (N := 12) hx hb hts inX2 hown hR.K hR.P 8 (hR.at42 (hR.w.2.1 _ finC_26).2.1) rfl 9 (by decide) (hts _ kw_619) (fun _ h9 => h9) rfl dX2_addSwitch_14 ?_
  refine lv_aload_n hx hb dX2_addSwitch_17 rfl (lv_at hl 3 rfl) ?_
  refine va_get (D := rD g) (ci := 7) (v := .int (qI S p1 4)) (C := RX8) (T := TX8) (N := 15) hx hb hts inX8 hown hR.K hR.P p1 (hR.at47 hT_p1) rfl 4 (by decide) (hts _ kw_620) (fun _ h9 => h9) rfl dX2_addSwitch_18 ?_
  refine lv_i2l (v := ((qI S p1 4).toInt64)) hx hb dX2_addSwitch_21 rfl ?_
  replace h := h (hT_p1)
  obtain ⟨Q6, h0, h⟩ := h
  have hFc := cfree hR hA
  refine va_callv (va_runV (As := [.int (qI S 8 9), .long ((qI S p1 4).toInt64)]) (rest := []) ⟨hx, hb, hml, hown, hts⟩ (rX8_add l g ad H.size S p1 (qI S 8 9) ((qI S p1 4).toInt64) hR.w hT_p1 Q6 h0) (cwV 2 hts (gd_V kw_621 kw_1457 kw_1458 kw_782 kw_1456) rfl rfl rfl (by decide +kernel) ⟨Nat.le_of_ble_eq_true rfl, Nat.le_of_ble_eq_true rfl⟩) ⟨cblind, va_recv hR.K hR.P (ci := 7) (q0 := p1) rfl (hR.at47 hT_p1), fun U hU hW9 => cmk hU hW9 hR hex hE hFc⟩ rfl rfl hl.1 rfl (lv_room (Nat.le_of_ble_eq_true rfl)) dX2_addSwitch_22 ⟨Nat.le_of_ble_eq_true rfl, Nat.le_of_ble_eq_true rfl⟩) hR.sS (fun q _ h => hFc q h) hFc (fun  S7 t9 H1 locs ht9 hvm9 hw9 hB9 hz9 hk9 hS => ?_)
  obtain ⟨hq8, hw9, hs9⟩ := hw9
  have hR : RepC g ad A s S7 H1 locs := hR.call ht9 hB9 hw9 hS hFc
  have hsh := hsh.tr hs9
  replace h := h  S7 hq8 hw9 hs9
  have hT_p1 := hs9.T hT_p1 (by decide)
  clear hB9 hz9 hk9 hvm9 ht9 hw9 hs9 hS
  generalize H1 = H at hR ⊢
  refine lv_aload_n hx hb dX2_addSwitch_25 rfl (lv_at hl 3 rfl) ?_
  refine lv_iload_n hx hb dX2_addSwitch_26 rfl (lv_at hl 0 rfl) ?_
  refine lv_iconst (v := 1) hx hb dX2_addSwitch_27 (by decide) ?_
  refine lv_iadd hx hb dX2_addSwitch_28 ?_
  refine lv_topi (fun z9 ez9 => ?_)
  obtain rfl : z9 = (a5 + (1 : Int32)) := ez9
  replace h := h (hT_p1)
  obtain ⟨Q10, h0, h⟩ := h
  have hFc := cfree hR hA
  refine va_callv (va_runV (As := [.int (a5 + (1 : Int32))]) (rest := []) ⟨hx, hb, hml, hown, hts⟩ (rX8_addToTable l g ad H.size S7 p1 (a5 + (1 : Int32)) hR.w hT_p1 Q10 h0) (cwV 1 hts (gd_V kw_622 kw_1471 kw_1472 kw_782 kw_1470) rfl rfl rfl (by decide +kernel) ⟨Nat.le_of_ble_eq_true rfl, Nat.le_of_ble_eq_true rfl⟩) ⟨cblind, va_recv hR.K hR.P (ci := 7) (q0 := p1) rfl (hR.at47 hT_p1), fun U hU hW9 => cmk hU hW9 hR hex hE hFc⟩ rfl rfl hl.1 rfl (lv_room (Nat.le_of_ble_eq_true rfl)) dX2_addSwitch_29 ⟨Nat.le_of_ble_eq_true rfl, Nat.le_of_ble_eq_true rfl⟩) hR.sS (fun q _ h => hFc q h) hFc (fun  S11 t9 H1 locs ht9 hvm9 hw9 hB9 hz9 hk9 hS => ?_)
  obtain ⟨hq12, hw9, hs9⟩ := hw9
  have hR : RepC g ad A s S11 H1 locs := hR.call ht9 hB9 hw9 hS hFc
  have hsh := hsh.tr hs9
  replace h := h  S11 hq12 hw9 hs9
  have hT_p1 := hs9.T hT_p1 (by decide)
  clear hB9 hz9 hk9 hvm9 ht9 hw9 hs9 hS
  generalize H1 = H at hR ⊢
  refine lv_aload_n hx hb dX2_addSwitch_32 rfl (lv_at hl 3 rfl) ?_
  refine lv_aload_n hx hb dX2_addSwitch_33 rfl (lv_at hl 2 rfl) ?_
  refine va_get (D := rD g) (ci := 2) (v := .int (qI S11 8 9)) (C := RX2) (T := TX2) (N := 12) hx hb hts inX2 hown hR.K hR.P 8 (hR.at42 (hR.w.2.1 _ finC_26).2.1) rfl 9 (by decide) (hts _ kw_619) (fun _ h9 => h9) rfl dX2_addSwitch_34 ?_
  refine lv_sipush (v := 170) hx hb dX2_addSwitch_37 (by decide) ?_
  have J_54 : ∀ (U54 : MS) (t54_0 : Int32) (t54_1 : Nat) (v54_1 : Nat) (v54_2 : Int32) (v54_3 : Int32) (H : Heap) (locs : List Loc) (ls : Array Slot), w_X2_addSwitch_J54 Q U54 t54_0 t54_1 v54_1 v54_2 v54_3 → qT U54 t54_1 = 47 → qT U54 v54_1 = 47 → shy S U54 → RepC g ad A s U54 H locs → lv_has ls 5 [(0, .ref (ad 8)), (1, .ref (ad v54_1)), (2, .int v54_2), (3, .int v54_3)] → W p l e (headSpec (wt yX2_addSwitch cX2_addSwitch 5 none) ({ frames := 3, cells := 0, slots := 0, locals := 64 })).room s m ([.ref (ad 8), .ref (ad p1)] : List Value).toArray below meth c H locs 0 0 (MQ below (va_Qv (fun (u : MS) => Q u ∧ wfC u ∧ shy S u) (fun (u : MS) (t : State) => qEC g ad A u t) A) ([.ref (ad 8), .ref (ad p1)] : List Value).toArray s 0 0 A) (F0 m 54 ls [.int t54_0, .ref (ad t54_1)]) := by
    intro U54 t54_0 t54_1 v54_1 v54_2 v54_3 H locs ls h hT_t54_1 hT_v54_1 hsh hR hl
    unfold w_X2_addSwitch_J54 at h
    replace h := h hR.w hT_t54_1 hT_v54_1
    replace h := h (hT_t54_1)
    obtain ⟨Q13, h0, h⟩ := h
    have hFc := cfree hR hA
    refine va_callv (va_runV (As := [.int t54_0]) (rest := []) ⟨hx, hb, hml, hown, hts⟩ (rX8_addToTable l g ad H.size U54 t54_1 t54_0 hR.w hT_t54_1 Q13 h0) (cwV 1 hts (gd_V kw_622 kw_1471 kw_1472 kw_782 kw_1470) rfl rfl rfl (by decide +kernel) ⟨Nat.le_of_ble_eq_true rfl, Nat.le_of_ble_eq_true rfl⟩) ⟨cblind, va_recv hR.K hR.P (ci := 7) (q0 := t54_1) rfl (hR.at47 hT_t54_1), fun U hU hW9 => cmk hU hW9 hR hex hE hFc⟩ rfl rfl hl.1 rfl (lv_room (Nat.le_of_ble_eq_true rfl)) dX2_addSwitch_54 ⟨Nat.le_of_ble_eq_true rfl, Nat.le_of_ble_eq_true rfl⟩) hR.sS (fun q _ h => hFc q h) hFc (fun  S14 t9 H1 locs ht9 hvm9 hw9 hB9 hz9 hk9 hS => ?_)
    obtain ⟨hq15, hw9, hs9⟩ := hw9
    have hR : RepC g ad A s S14 H1 locs := hR.call ht9 hB9 hw9 hS hFc
    have hsh := hsh.tr hs9
    replace h := h  S14 hq15 hw9 hs9
    have hT_v54_1 := hs9.T hT_v54_1 (by decide)
    clear hB9 hz9 hk9 hvm9 ht9 hw9 hs9 hS
    generalize H1 = H at hR ⊢
    refine lv_iconst (v := (-1)) hx hb dX2_addSwitch_57 (by decide) ?_
    refine lv_istore (lv' := [(4, .int (-1)), (0, .ref (ad 8)), (1, .ref (ad v54_1)), (2, .int v54_2), (3, .int v54_3)]) hx hb dX2_addSwitch_58 hl (by decide) rfl (fun ls hl => ?_)
    have J_60 : ∀ (n60 : Nat) (U60 : MS) (v60_1 : Nat) (v60_2 : Int32) (v60_3 : Int32) (v60_4 : Int32) (H : Heap) (locs : List Loc) (ls : Array Slot), w_X2_addSwitch_L60 Q n60 U60 v60_1 v60_2 v60_3 v60_4 → qT U60 v60_1 = 47 → shy S U60 → RepC g ad A s U60 H locs → lv_has ls 5 [(0, .ref (ad 8)), (1, .ref (ad v60_1)), (2, .int v60_2), (3, .int v60_3), (4, .int v60_4)] → W p l e (headSpec (wt yX2_addSwitch cX2_addSwitch 5 none) ({ frames := 3, cells := 0, slots := 0, locals := 64 })).room s m ([.ref (ad 8), .ref (ad p1)] : List Value).toArray below meth c H locs 0 0 (MQ below (va_Qv (fun (u : MS) => Q u ∧ wfC u ∧ shy S u) (fun (u : MS) (t : State) => qEC g ad A u t) A) ([.ref (ad 8), .ref (ad p1)] : List Value).toArray s 0 0 A) (F0 m 60 ls []) := by
      intro n60
      induction n60 with
      | zero => intro U60 v60_1 v60_2 v60_3 v60_4 H locs ls h hT_v60_1 hsh hR hl; unfold w_X2_addSwitch_L60 at h; exact h.elim
      | succ n60 ih_60 =>
        intro U60 v60_1 v60_2 v60_3 v60_4 H locs ls h hT_v60_1 hsh hR hl
        unfold w_X2_addSwitch_L60 at h
        replace h := h hR.w hT_v60_1
        refine lv_iload hx hb dX2_addSwitch_60 (lv_at hl 4 rfl) ?_
        refine lv_iload_n hx hb dX2_addSwitch_62 rfl (lv_at hl 3 rfl) ?_
        refine lv_icmp_ge (tgt := 87) hx hb dX2_addSwitch_63 (by decide) (fun c16 => ?_) (fun c16 => ?_)
        · replace h := h.1 (k_le rfl rfl c16)
          refine lv_iconst (v := 0) hx hb dX2_addSwitch_87 (by decide) ?_
          refine lv_istore (lv' := [(4, .int 0), (0, .ref (ad 8)), (1, .ref (ad v60_1)), (2, .int v60_2), (3, .int v60_3)]) hx hb dX2_addSwitch_88 hl (by decide) rfl (fun ls hl => ?_)
          have J_90 : ∀ (n90 : Nat) (U90 : MS) (v90_1 : Nat) (v90_2 : Int32) (v90_3 : Int32) (v90_4 : Int32) (H : Heap) (locs : List Loc) (ls : Array Slot), w_X2_addSwitch_L90 Q n90 U90 v90_1 v90_2 v90_3 v90_4 → qT U90 v90_1 = 47 → shy S U90 → RepC g ad A s U90 H locs → lv_has ls 5 [(0, .ref (ad 8)), (1, .ref (ad v90_1)), (2, .int v90_2), (3, .int v90_3), (4, .int v90_4)] → W p l e (headSpec (wt yX2_addSwitch cX2_addSwitch 5 none) ({ frames := 3, cells := 0, slots := 0, locals := 64 })).room s m ([.ref (ad 8), .ref (ad p1)] : List Value).toArray below meth c H locs 0 0 (MQ below (va_Qv (fun (u : MS) => Q u ∧ wfC u ∧ shy S u) (fun (u : MS) (t : State) => qEC g ad A u t) A) ([.ref (ad 8), .ref (ad p1)] : List Value).toArray s 0 0 A) (F0 m 90 ls []) := by
            intro n90
            induction n90 with
            | zero => intro U90 v90_1 v90_2 v90_3 v90_4 H locs ls h hT_v90_1 hsh hR hl; unfold w_X2_addSwitch_L90 at h; exact h.elim
            | succ n90 ih_90 =>
              intro U90 v90_1 v90_2 v90_3 v90_4 H locs ls h hT_v90_1 hsh hR hl
              unfold w_X2_addSwitch_L90 at h
              replace h := h hR.w hT_v90_1
              refine lv_aload_n hx hb dX2_addSwitch_90 rfl (lv_at hl 0 rfl) ?_
              refine va_get (D := rD g) (ci := 2) (v := .int (qI U90 8 9)) (C := RX2) (T := TX2) (N := 12) hx hb hts inX2 hown hR.K hR.P 8 (hR.at42 (hR.w.2.1 _ finC_26).2.1) rfl 9 (by decide) (hts _ kw_619) (fun _ h9 => h9) rfl dX2_addSwitch_91 ?_
              refine lv_sipush (v := 171) hx hb dX2_addSwitch_94 (by decide) ?_
              refine lv_icmp_ne (tgt := 130) hx hb dX2_addSwitch_97 (by decide) (fun c17 => ?_) (fun c17 => ?_)
              · replace h := h.2 (k_ne rfl (by decide) c17)
                exact W.vret hx hb hr (fun t9 ht9 hW9 => ⟨⟨U90, rfl, ⟨h, hR.w, hsh⟩, ⟨by rw [ht9]; exact hR.P, hR.D⟩⟩, hR.sS.F ht9⟩) hR.sS.2.2 dX2_addSwitch_130
              · replace h := h.1 (k_eq rfl (by decide) c17)
                refine lv_iload hx hb dX2_addSwitch_100 (lv_at hl 4 rfl) ?_
                refine lv_iload_n hx hb dX2_addSwitch_102 rfl (lv_at hl 3 rfl) ?_
                refine lv_icmp_ge (tgt := 130) hx hb dX2_addSwitch_103 (by decide) (fun c18 => ?_) (fun c18 => ?_)
                · replace h := h.1 (k_le rfl rfl c18)
                  exact W.vret hx hb hr (fun t9 ht9 hW9 => ⟨⟨U90, rfl, ⟨h, hR.w, hsh⟩, ⟨by rw [ht9]; exact hR.P, hR.D⟩⟩, hR.sS.F ht9⟩) hR.sS.2.2 dX2_addSwitch_130
                · replace h := h.2 (k_nle rfl rfl c18)
                  refine lv_aload_n hx hb dX2_addSwitch_106 rfl (lv_at hl 1 rfl) ?_
                  refine lv_aload_n hx hb dX2_addSwitch_107 rfl (lv_at hl 0 rfl) ?_
                  refine lv_iload_n hx hb dX2_addSwitch_108 rfl (lv_at hl 2 rfl) ?_
                  refine lv_bipush (v := 8) hx hb dX2_addSwitch_109 (by decide) ?_
                  refine lv_iadd hx hb dX2_addSwitch_111 ?_
                  refine lv_topi (fun z19 ez19 => ?_)
                  obtain rfl : z19 = (v90_2 + (8 : Int32)) := ez19
                  refine lv_bipush (v := 8) hx hb dX2_addSwitch_112 (by decide) ?_
                  refine lv_iload hx hb dX2_addSwitch_114 (lv_at hl 4 rfl) ?_
                  refine lv_imul hx hb dX2_addSwitch_116 ?_
                  refine lv_topi (fun z20 ez20 => ?_)
                  obtain rfl : z20 = ((8 : Int32) * v90_4) := ez20
                  refine lv_iadd hx hb dX2_addSwitch_117 ?_
                  refine lv_topi (fun z21 ez21 => ?_)
                  obtain rfl : z21 = ((v90_2 + (8 : Int32)) + ((8 : Int32) * v90_4)) := ez21
                  obtain ⟨hv22, h⟩ := h
                  have hFc := cfree hR hA
                  refine va_calli (va_runV (As := [.int ((v90_2 + (8 : Int32)) + ((8 : Int32) * v90_4))]) (rest := [.ref (ad v90_1)]) ⟨hx, hb, hml, hown, hts⟩ (rX2_s4 l g ad H.size U90 ((v90_2 + (8 : Int32)) + ((8 : Int32) * v90_4)) hR.w  hv22) (cwV 1 hts (gd_V kw_623 kw_790 kw_791 kw_389 kw_789) rfl rfl rfl (by decide +kernel) ⟨Nat.le_of_ble_eq_true rfl, Nat.le_of_ble_eq_true rfl⟩) ⟨cblind, va_recv hR.K hR.P (ci := 2) (q0 := 8) rfl (hR.at42 (hR.w.2.1 _ finC_26).2.1), fun U hU hW9 => cmk hU hW9 hR hex hE hFc⟩ rfl rfl hl.1 rfl (lv_room (Nat.le_of_ble_eq_true rfl)) dX2_addSwitch_118 ⟨Nat.le_of_ble_eq_true rfl, Nat.le_of_ble_eq_true rfl⟩) hR.sS (fun q _ h => hFc q h) hFc (fun r23 u9 t9 H1 locs ht9 hvm9 hw9 hB9 hz9 hk9 hS => ?_)
                  have hR : RepC g ad A s U90 H1 locs := hR.call ht9 hB9 hR.w hS hFc
                  obtain rfl : r23 = (fX2_s4 U90 ((v90_2 + (8 : Int32)) + ((8 : Int32) * v90_4))) := hw9
                  clear hB9 hz9 hk9 hvm9 ht9 hS
                  generalize H1 = H at hR ⊢
                  obtain ⟨a25, ea25⟩ : ∃ z, z = (fX2_s4 U90 ((v90_2 + (8 : Int32)) + ((8 : Int32) * v90_4))) := ⟨_, rfl⟩
                  rw [← ea25]
                  replace h := h a25 ea25
                  replace h := h (hT_v90_1)
                  obtain ⟨Q26, h0, h⟩ := h
                  have hFc := cfree hR hA
                  refine va_callv (va_runV (As := [.int a25]) (rest := []) ⟨hx, hb, hml, hown, hts⟩ (rX8_addToTable l g ad H.size U90 v90_1 a25 hR.w hT_v90_1 Q26 h0) (cwV 1 hts (gd_V kw_622 kw_1471 kw_1472 kw_782 kw_1470) rfl rfl rfl (by decide +kernel) ⟨Nat.le_of_ble_eq_true rfl, Nat.le_of_ble_eq_true rfl⟩) ⟨cblind, va_recv hR.K hR.P (ci := 7) (q0 := v90_1) rfl (hR.at47 hT_v90_1), fun U hU hW9 => cmk hU hW9 hR hex hE hFc⟩ rfl rfl hl.1 rfl (lv_room (Nat.le_of_ble_eq_true rfl)) dX2_addSwitch_121 ⟨Nat.le_of_ble_eq_true rfl, Nat.le_of_ble_eq_true rfl⟩) hR.sS (fun q _ h => hFc q h) hFc (fun  S27 t9 H1 locs ht9 hvm9 hw9 hB9 hz9 hk9 hS => ?_)
                  obtain ⟨hq28, hw9, hs9⟩ := hw9
                  have hR : RepC g ad A s S27 H1 locs := hR.call ht9 hB9 hw9 hS hFc
                  have hsh := hsh.tr hs9
                  replace h := h  S27 hq28 hw9 hs9
                  have hT_v90_1 := hs9.T hT_v90_1 (by decide)
                  clear hB9 hz9 hk9 hvm9 ht9 hw9 hs9 hS
                  generalize H1 = H at hR ⊢
                  obtain ⟨a29, ea29⟩ : ∃ z, z = (v90_4 + Int32.ofInt 1) := ⟨_, rfl⟩
                  replace h := h a29 ea29
                  refine lv_iinc (v := a29) (lv' := [(4, .int a29), (0, .ref (ad 8)), (1, .ref (ad v90_1)), (2, .int v90_2), (3, .int v90_3)]) hx hb dX2_addSwitch_124 hl (k := 4) rfl ea29.symm (by decide) rfl (fun ls hl => ?_)
                  refine lv_goto (tgt := 90) hx hb dX2_addSwitch_127 (by decide) ?_
                  exact ih_90 S27 v90_1 v90_2 v90_3 a29 _ _ ls h hT_v90_1 hsh hR (lv_sub hl [1, 2, 3, 4, 0] rfl)
          obtain ⟨n9, h⟩ := h
          exact J_90 n9 U60 v60_1 v60_2 v60_3 0 _ _ ls h hT_v60_1 hsh hR (lv_sub hl [1, 2, 3, 4, 0] rfl)
        · replace h := h.2 (k_nle rfl rfl c16)
          refine lv_aload_n hx hb dX2_addSwitch_66 rfl (lv_at hl 1 rfl) ?_
          refine lv_aload_n hx hb dX2_addSwitch_67 rfl (lv_at hl 0 rfl) ?_
          refine lv_aload_n hx hb dX2_addSwitch_68 rfl (lv_at hl 0 rfl) ?_
          refine lv_iload_n hx hb dX2_addSwitch_69 rfl (lv_at hl 2 rfl) ?_
          refine lv_iload hx hb dX2_addSwitch_70 (lv_at hl 4 rfl) ?_
          obtain ⟨hv30, h⟩ := h
          have hFc := cfree hR hA
          refine va_calll (va_runV (As := [.int v60_2, .int v60_4]) (rest := [.ref (ad 8), .ref (ad v60_1)]) ⟨hx, hb, hml, hown, hts⟩ (rX2_switchTarget l g ad H.size U60 v60_2 v60_4 hR.w  hv30) (cwV 2 hts (gd_V kw_624 kw_799 kw_800 kw_389 kw_798) rfl rfl rfl (by decide +kernel) ⟨Nat.le_of_ble_eq_true rfl, Nat.le_of_ble_eq_true rfl⟩) ⟨cblind, va_recv hR.K hR.P (ci := 2) (q0 := 8) rfl (hR.at42 (hR.w.2.1 _ finC_26).2.1), fun U hU hW9 => cmk hU hW9 hR hex hE hFc⟩ rfl rfl hl.1 rfl (lv_room (Nat.le_of_ble_eq_true rfl)) dX2_addSwitch_72 ⟨Nat.le_of_ble_eq_true rfl, Nat.le_of_ble_eq_true rfl⟩) hR.sS (fun q _ h => hFc q h) hFc (fun r31 u9 t9 H1 locs ht9 hvm9 hw9 hB9 hz9 hk9 hS => ?_)
          have hR : RepC g ad A s U60 H1 locs := hR.call ht9 hB9 hR.w hS hFc
          obtain rfl : r31 = (fX2_switchTarget U60 v60_2 v60_4) := hw9
          clear hB9 hz9 hk9 hvm9 ht9 hS
          generalize H1 = H at hR ⊢
          obtain ⟨a33, ea33⟩ : ∃ z, z = (fX2_switchTarget U60 v60_2 v60_4) := ⟨_, rfl⟩
          rw [← ea33]
          replace h := h a33 ea33
          obtain ⟨hv34, h⟩ := h
          have hFc := cfree hR hA
          refine va_calli (va_runV (As := [.long a33]) (rest := [.ref (ad v60_1)]) ⟨hx, hb, hml, hown, hts⟩ (rX2_numberOf l g ad H.size U60 a33 hR.w  hv34) (cwV 1 hts (gd_V kw_625 kw_761 kw_762 kw_389 kw_760) rfl rfl rfl (by decide +kernel) ⟨Nat.le_of_ble_eq_true rfl, Nat.le_of_ble_eq_true rfl⟩) ⟨cblind, va_recv hR.K hR.P (ci := 2) (q0 := 8) rfl (hR.at42 (hR.w.2.1 _ finC_26).2.1), fun U hU hW9 => cmk hU hW9 hR hex hE hFc⟩ rfl rfl hl.1 rfl (lv_room (Nat.le_of_ble_eq_true rfl)) dX2_addSwitch_75 ⟨Nat.le_of_ble_eq_true rfl, Nat.le_of_ble_eq_true rfl⟩) hR.sS (fun q _ h => hFc q h) hFc (fun r35 u9 t9 H1 locs ht9 hvm9 hw9 hB9 hz9 hk9 hS => ?_)
          have hR : RepC g ad A s U60 H1 locs := hR.call ht9 hB9 hR.w hS hFc
          obtain rfl : r35 = (fX2_numberOf U60 a33) := hw9
          clear hB9 hz9 hk9 hvm9 ht9 hS
          generalize H1 = H at hR ⊢
          obtain ⟨a37, ea37⟩ : ∃ z, z = (fX2_numberOf U60 a33) := ⟨_, rfl⟩
          rw [← ea37]
          replace h := h a37 ea37
          replace h := h (hT_v60_1)
          obtain ⟨Q38, h0, h⟩ := h
          have hFc := cfree hR hA
          refine va_callv (va_runV (As := [.int a37]) (rest := []) ⟨hx, hb, hml, hown, hts⟩ (rX8_addToTable l g ad H.size U60 v60_1 a37 hR.w hT_v60_1 Q38 h0) (cwV 1 hts (gd_V kw_622 kw_1471 kw_1472 kw_782 kw_1470) rfl rfl rfl (by decide +kernel) ⟨Nat.le_of_ble_eq_true rfl, Nat.le_of_ble_eq_true rfl⟩) ⟨cblind, va_recv hR.K hR.P (ci := 7) (q0 := v60_1) rfl (hR.at47 hT_v60_1), fun U hU hW9 => cmk hU hW9 hR hex hE hFc⟩ rfl rfl hl.1 rfl (lv_room (Nat.le_of_ble_eq_true rfl)) dX2_addSwitch_78 ⟨Nat.le_of_ble_eq_true rfl, Nat.le_of_ble_eq_true rfl⟩) hR.sS (fun q _ h => hFc q h) hFc (fun  S39 t9 H1 locs ht9 hvm9 hw9 hB9 hz9 hk9 hS => ?_)
          obtain ⟨hq40, hw9, hs9⟩ := hw9
          have hR : RepC g ad A s S39 H1 locs := hR.call ht9 hB9 hw9 hS hFc
          have hsh := hsh.tr hs9
          replace h := h  S39 hq40 hw9 hs9
          have hT_v60_1 := hs9.T hT_v60_1 (by decide)
          clear hB9 hz9 hk9 hvm9 ht9 hw9 hs9 hS
          generalize H1 = H at hR ⊢
          obtain ⟨a41, ea41⟩ : ∃ z, z = (v60_4 + Int32.ofInt 1) := ⟨_, rfl⟩
          replace h := h a41 ea41
          refine lv_iinc (v := a41) (lv' := [(4, .int a41), (0, .ref (ad 8)), (1, .ref (ad v60_1)), (2, .int v60_2), (3, .int v60_3)]) hx hb dX2_addSwitch_81 hl (k := 4) rfl ea41.symm (by decide) rfl (fun ls hl => ?_)
          refine lv_goto (tgt := 60) hx hb dX2_addSwitch_84 (by decide) ?_
          exact ih_60 S39 v60_1 v60_2 v60_3 a41 _ _ ls h hT_v60_1 hsh hR (lv_sub hl [1, 2, 3, 4, 0] rfl)
    obtain ⟨n9, h⟩ := h
    exact J_60 n9 S14 v54_1 v54_2 v54_3 (-1) _ _ ls h hT_v54_1 hsh hR (lv_sub hl [1, 2, 3, 4, 0] rfl)
  refine lv_icmp_ne (tgt := 53) hx hb dX2_addSwitch_40 (by decide) (fun c42 => ?_) (fun c42 => ?_)
  · replace h := h.2 (k_ne rfl (by decide) c42)
    refine lv_iconst (v := 0) hx hb dX2_addSwitch_53 (by decide) ?_
    exact J_54 S11 0 p1 p1 a1 a5 _ _ ls h hT_p1 hT_p1 hsh hR (lv_sub hl [2, 3, 1, 0] rfl)
  · replace h := h.1 (k_eq rfl (by decide) c42)
    refine lv_aload_n hx hb dX2_addSwitch_43 rfl (lv_at hl 2 rfl) ?_
    refine lv_iload_n hx hb dX2_addSwitch_44 rfl (lv_at hl 1 rfl) ?_
    refine lv_iconst (v := 4) hx hb dX2_addSwitch_45 (by decide) ?_
    refine lv_iadd hx hb dX2_addSwitch_46 ?_
    refine lv_topi (fun z43 ez43 => ?_)
    obtain rfl : z43 = (a1 + (4 : Int32)) := ez43
    obtain ⟨hv44, h⟩ := h
    have hFc := cfree hR hA
    refine va_calli (va_runV (As := [.int (a1 + (4 : Int32))]) (rest := [.ref (ad p1)]) ⟨hx, hb, hml, hown, hts⟩ (rX2_s4 l g ad H.size S11 (a1 + (4 : Int32)) hR.w  hv44) (cwV 1 hts (gd_V kw_623 kw_790 kw_791 kw_389 kw_789) rfl rfl rfl (by decide +kernel) ⟨Nat.le_of_ble_eq_true rfl, Nat.le_of_ble_eq_true rfl⟩) ⟨cblind, va_recv hR.K hR.P (ci := 2) (q0 := 8) rfl (hR.at42 (hR.w.2.1 _ finC_26).2.1), fun U hU hW9 => cmk hU hW9 hR hex hE hFc⟩ rfl rfl hl.1 rfl (lv_room (Nat.le_of_ble_eq_true rfl)) dX2_addSwitch_47 ⟨Nat.le_of_ble_eq_true rfl, Nat.le_of_ble_eq_true rfl⟩) hR.sS (fun q _ h => hFc q h) hFc (fun r45 u9 t9 H1 locs ht9 hvm9 hw9 hB9 hz9 hk9 hS => ?_)
    have hR : RepC g ad A s S11 H1 locs := hR.call ht9 hB9 hR.w hS hFc
    obtain rfl : r45 = (fX2_s4 S11 (a1 + (4 : Int32))) := hw9
    clear hB9 hz9 hk9 hvm9 ht9 hS
    generalize H1 = H at hR ⊢
    obtain ⟨a47, ea47⟩ : ∃ z, z = (fX2_s4 S11 (a1 + (4 : Int32))) := ⟨_, rfl⟩
    rw [← ea47]
    replace h := h a47 ea47
    refine lv_goto (tgt := 54) hx hb dX2_addSwitch_50 (by decide) ?_
    exact J_54 S11 a47 p1 p1 a1 a5 _ _ ls h hT_p1 hT_p1 hsh hR (lv_sub hl [2, 3, 1, 0] rfl)
def w_X3_findBlocks_J242 (Q : MS → Prop) (k202 : MS → Int32 → Prop) (U242 : MS) (v242_1 : Int32) : Prop := (wfC U242 → (((0 : Int) ≤ v242_1.toInt ∧ v242_1.toInt < (qN U242 (qO U242 52 3) : Int)) ∧ (∀ S28, S28 = wI U242 (qO U242 52 3) v242_1.toInt.toNat ((qI U242 52 1) - (1 : Int32)) → qT U242 (qO U242 52 3) = 203 → wfC S28 → (∀ a29 : Int32, a29 = (v242_1 + Int32.ofInt 1) → k202 S28 a29))))
def w_X3_findBlocks_L202 (Q : MS → Prop) : Nat → MS → Int32 → Prop
  | 0, _, _ => False
  | n202 + 1, U202, v202_1 => (wfC U202 → ((qR U202 52 0 = some (qO U202 52 0)) ∧ (((qI U202 (qO U202 52 0) 2).toInt ≤ v202_1.toInt → Q U202) ∧ (¬ (qI U202 (qO U202 52 0) 2).toInt ≤ v202_1.toInt → (((0 : Int) ≤ v202_1.toInt ∧ v202_1.toInt < (qN U202 (qO U202 52 3) : Int)) ∧ (((qI U202 (qO U202 52 3) v202_1.toInt.toNat).toInt = 0 → w_X3_findBlocks_J242 Q (w_X3_findBlocks_L202 Q n202) U202 v202_1) ∧ (¬ (qI U202 (qO U202 52 3) v202_1.toInt.toNat).toInt = 0 → (((0 : Int) ≤ (qI U202 52 1).toInt ∧ (qI U202 52 1).toInt < (qN U202 (qO U202 52 2) : Int)) ∧ (∀ S33, S33 = wI U202 (qO U202 52 2) (((qI U202 52 1).toInt).toNat) v202_1 → qT U202 (qO U202 52 2) = 202 → wfC S33 → (∀ S35, S35 = wI S33 52 1 ((qI S33 52 1) + (1 : Int32)) → qT S33 52 = 43 → wfC S35 → w_X3_findBlocks_J242 Q (w_X3_findBlocks_L202 Q n202) S35 v202_1))))))))))
def w_X3_findBlocks_L139 (Q : MS → Prop) : Nat → MS → Int32 → Prop
  | 0, _, _ => False
  | n139 + 1, U139, v139_1 => (wfC U139 → ((qR U139 52 0 = some (qO U139 52 0)) ∧ (((qI U139 (qO U139 52 0) 9).toInt ≤ v139_1.toInt → (∀ S18, S18 = wI U139 52 1 (0 : Int32) → qT U139 52 = 43 → wfC S18 → (∃ n, w_X3_findBlocks_L202 Q n S18 0))) ∧ (¬ (qI U139 (qO U139 52 0) 9).toInt ≤ v139_1.toInt → ((qR U139 52 0 = some (qO U139 52 0)) ∧ ((qR U139 (qO U139 52 0) 5 = some (qO U139 (qO U139 52 0) 5)) ∧ (((0 : Int) ≤ v139_1.toInt ∧ v139_1.toInt < (qN U139 (qO U139 (qO U139 52 0) 5) : Int)) ∧ (∃ Q42, wX3_begin U139 (qI U139 (qO U139 (qO U139 52 0) 5) v139_1.toInt.toNat) Q42 ∧ ∀ S43, Q42 S43 → wfC S43 → shy U139 S43 → ((qR S43 52 0 = some (qO S43 52 0)) ∧ ((qR S43 (qO S43 52 0) 6 = some (qO S43 (qO S43 52 0) 6)) ∧ (((0 : Int) ≤ v139_1.toInt ∧ v139_1.toInt < (qN S43 (qO S43 (qO S43 52 0) 6) : Int)) ∧ (∃ Q51, wX3_begin S43 (qI S43 (qO S43 (qO S43 52 0) 6) v139_1.toInt.toNat) Q51 ∧ ∀ S52, Q51 S52 → wfC S52 → shy S43 S52 → ((qR S52 52 0 = some (qO S52 52 0)) ∧ ((qR S52 (qO S52 52 0) 7 = some (qO S52 (qO S52 52 0) 7)) ∧ (((0 : Int) ≤ v139_1.toInt ∧ v139_1.toInt < (qN S52 (qO S52 (qO S52 52 0) 7) : Int)) ∧ (∃ Q60, wX3_begin S52 (qI S52 (qO S52 (qO S52 52 0) 7) v139_1.toInt.toNat) Q60 ∧ ∀ S61, Q60 S61 → wfC S61 → shy S52 S61 → (∀ a63 : Int32, a63 = (v139_1 + Int32.ofInt 1) → (w_X3_findBlocks_L139 Q n139) S61 a63)))))))))))))))))
def w_X3_findBlocks_J131 (Q : MS → Prop) (k60 : MS → Int32 → Prop) (U131 : MS) (v131_1 : Int32) : Prop := (wfC U131 → (∀ a71 : Int32, a71 = (v131_1 + Int32.ofInt 1) → k60 U131 a71))
def w_X3_findBlocks_J124 (Q : MS → Prop) (k60 : MS → Int32 → Prop) (U124 : MS) (v124_1 : Int32) : Prop := (wfC U124 → (∃ Q73, wX3_begin U124 (v124_1 + (1 : Int32)) Q73 ∧ ∀ S74, Q73 S74 → wfC S74 → shy U124 S74 → w_X3_findBlocks_J131 Q k60 S74 v124_1))
def w_X3_findBlocks_L82 (Q : MS → Prop) (k60 : MS → Int32 → Prop) : Nat → MS → Int32 → Int32 → Int32 → Prop
  | 0, _, _, _, _ => False
  | n82 + 1, U82, v82_1, v82_2, v82_3 => (wfC U82 → ((v82_2.toInt ≤ v82_3.toInt → ((0 < v82_2.toInt → w_X3_findBlocks_J124 Q k60 U82 v82_1) ∧ (¬ 0 < v82_2.toInt → ((qR U82 52 0 = some (qO U82 52 0)) ∧ (d_X8_opAt U82 (qO U82 52 0) v82_1 ∧ (∀ a82 : Int32, a82 = (fX8_opAt U82 (qO U82 52 0) v82_1) → (d_X6_goesOn U82 a82 ∧ (∀ a86 : Int32, a86 = (fX6_goesOn U82 a82) → ((a86.toInt = 0 → w_X3_findBlocks_J124 Q k60 U82 v82_1) ∧ (¬ a86.toInt = 0 → w_X3_findBlocks_J131 Q k60 U82 v82_1)))))))))) ∧ (¬ v82_2.toInt ≤ v82_3.toInt → ((qR U82 52 0 = some (qO U82 52 0)) ∧ (d_X8_targetAt U82 (qO U82 52 0) v82_1 v82_3 ∧ (∀ a93 : Int32, a93 = (fX8_targetAt U82 (qO U82 52 0) v82_1 v82_3) → (∃ Q94, wX3_begin U82 a93 Q94 ∧ ∀ S95, Q94 S95 → wfC S95 → shy U82 S95 → (∀ a97 : Int32, a97 = (v82_3 + Int32.ofInt 1) → (w_X3_findBlocks_L82 Q k60 n82) S95 v82_1 v82_2 a97))))))))
def w_X3_findBlocks_L60 (Q : MS → Prop) : Nat → MS → Int32 → Prop
  | 0, _, _ => False
  | n60 + 1, U60, v60_1 => (wfC U60 → ((qR U60 52 0 = some (qO U60 52 0)) ∧ (((qI U60 (qO U60 52 0) 2).toInt ≤ v60_1.toInt → (∃ n, w_X3_findBlocks_L139 Q n U60 0)) ∧ (¬ (qI U60 (qO U60 52 0) 2).toInt ≤ v60_1.toInt → ((qR U60 52 0 = some (qO U60 52 0)) ∧ (d_X8_targetCount U60 (qO U60 52 0) v60_1 ∧ (∀ a69 : Int32, a69 = (fX8_targetCount U60 (qO U60 52 0) v60_1) → (∃ n, w_X3_findBlocks_L82 Q (w_X3_findBlocks_L60 Q n60) n U60 v60_1 a69 0))))))))
def w_X3_findBlocks_J45 (Q : MS → Prop) (U45 : MS) : Prop := (wfC U45 → (qT U45 (qO U45 52 3) = 203 → (∃ Q6, wJ7_fill_53178 U45 (qO U45 52 3) (0 : Int32) Q6 ∧ ∀ S7, Q6 S7 → wfC S7 → shy U45 S7 → (∃ Q9, wX3_begin S7 (0 : Int32) Q9 ∧ ∀ S10, Q9 S10 → wfC S10 → shy S7 S10 → (∃ n, w_X3_findBlocks_L60 Q n S10 0)))))
def wX3_findBlocks (S : MS) (Q : MS → Prop) : Prop := ((qR S 52 0 = some (qO S 52 0)) ∧ (((qI S (qO S 52 0) 2).toInt ≤ (qN S (qO S 52 3) : Int) → w_X3_findBlocks_J45 Q S) ∧ (¬ (qI S (qO S 52 0) 2).toInt ≤ (qN S (qO S 52 3) : Int) → ((qR S 52 0 = some (qO S 52 0)) ∧ (((0 : Int) ≤ ((2 : Int32) * (qI S (qO S 52 0) 2)).toInt ∧ (qn S + 1 ≤ KCC ∧ qu S + ((2 : Int32) * (qI S (qO S 52 0) 2)).toInt.toNat ≤ KSC)) ∧ (∀ S105, S105 = wN S 203 (((2 : Int32) * (qI S (qO S 52 0) 2)).toInt.toNat) (((2 : Int32) * (qI S (qO S 52 0) 2)).toInt.toNat) → wfC S105 → (∀ S107, S107 = wR S105 52 3 (some (qn S)) → qT S105 52 = 43 → wfC S107 → ((qR S107 52 0 = some (qO S107 52 0)) ∧ (((0 : Int) ≤ ((2 : Int32) * (qI S107 (qO S107 52 0) 2)).toInt ∧ (qn S107 + 1 ≤ KCC ∧ qu S107 + ((2 : Int32) * (qI S107 (qO S107 52 0) 2)).toInt.toNat ≤ KSC)) ∧ (∀ S114, S114 = wN S107 202 (((2 : Int32) * (qI S107 (qO S107 52 0) 2)).toInt.toNat) (((2 : Int32) * (qI S107 (qO S107 52 0) 2)).toInt.toNat) → wfC S114 → (∀ S116, S116 = wR S114 52 2 (some (qn S107)) → qT S114 52 = 43 → wfC S116 → w_X3_findBlocks_J45 Q S116)))))))))))
set_option maxHeartbeats 2000000 in
set_option maxRecDepth 100000 in
theorem rX3_findBlocks (l : Launch) (g : Gr) (ad : Nat → Nat) (H0 : Heap) (S : MS) (hw : wfC S) (Q : MS → Prop) (h : wX3_findBlocks S Q) : Met l yX3_findBlocks (wt yX3_findBlocks cX3_findBlocks 4 none) ({ frames := 2, cells := KCC - qn S, slots := KSC - qu S, locals := 43 }) (va_Pc [.ref (ad 52)] (st_CH g ad H0 S)) (va_Qv (fun (u : MS × (Nat → Nat)) => Q u.1 ∧ wfC u.1 ∧ shx S u.1 ∧ adk ad u.2 S) (fun (u : MS × (Nat → Nat)) (t : State) => qEHC g (va_A (WdC g ad S) H0.size) S H0 u t) (va_A (WdC g ad S) H0.size)) (KCC - qn S) (KSC - qu S) (va_A (WdC g ad S) H0.size) := by
  refine Met.ofW (cc := cX3_findBlocks) (maxL := 4) (ret := none) (by decide) rfl ?_
  intro p e s m args below meth c s₁ B hml hv
  obtain ⟨rfl, hH0, hsz, hP, hK, hD0, hex, hE⟩ := hv
  have hx := B.exec
  have hb := B.bytes
  have hr := B.returns
  have hts0 := atoms_spec (ws := wt yX3_findBlocks cX3_findBlocks 4 none) B.pre
  have hts : ∀ w ∈ tb, w.before _ s = true := fun w h => hts0 w (List.mem_cons_of_mem _ h)
  have hown : s.vm.findClass RX3 = some m.cls := findClass_of_methodNamed B.named
  subst hH0
  have hD := hD0.self (sz := s.heap.size)
  generalize hAe : va_A (WdC g ad S) s.heap.size = A at hD hE ⊢
  have hA : ∀ q : Nat, s.heap.size ≤ q → A q := fun q h => by rw [← hAe]; exact Or.inr h
  have hR : RepC g ad A s S s.heap [] := ⟨hK, hP, hD, va_S.rf, hw⟩
  clear hK hP hD hD0
  have hl := lv_entry ([.ref (ad 52)]) (n := 4) (Nat.le_of_ble_eq_true rfl)
  rw [lg_entry_eq]
  generalize (lg_sl ([.ref (ad 52)]) ++ List.replicate (4 - (lg_sl ([.ref (ad 52)])).length) Slot.unset).toArray = ls at hl ⊢
  have hlg : lgC S S 0 0 := lgC.rf
  have hak : adk ad ad S := adk.rf
  have hl : lv_has ls 4 [(0, .ref (ad 52))] := hl
  have hsh : shx S S := shx.rf
  unfold wX3_findBlocks at h
  refine lv_aload_n hx hb dX3_findBlocks_0 rfl (lv_at hl 0 rfl) ?_
  have hT_b1 : qT S (qO S 52 3) = 203 := hR.w.ref (hR.w.ptr ptrC_23) (hR.w.2.1 _ finC_30).2.1
  refine va_get (D := rD g) (ci := 3) (v := .ref (ad (qO S 52 3))) (C := RX3) (T := TX3) (N := 16) hx hb hts inX3 hown hR.K hR.P 52 (hR.at43 (hR.w.2.1 _ finC_30).2.1) rfl 3 (by decide) (hts _ kw_839) (fun _ h9 => h9) (congrArg (fun z => some (vf ad z)) (hR.w.ptr ptrC_23)) dX3_findBlocks_1 ?_
  refine va_alen (v := (Int32.ofNat (qN S (qO S 52 3)))) hx hb hR.K hR.P (qO S 52 3) 1 (hR.atI hT_b1 (by decide)) rfl rfl dX3_findBlocks_4 ?_
  have hln2 : (Int32.ofNat (qN S (qO S 52 3))).toInt = (qN S (qO S 52 3) : Int) := toI_len (hR.w.len9 (hT_b1) (by decide))
  refine lv_aload_n hx hb dX3_findBlocks_5 rfl (lv_at hl 0 rfl) ?_
  obtain ⟨hv4, h⟩ := h
  have hT_b3 : qT S (qO S 52 0) = 47 := hR.w.ref hv4 (hR.w.2.1 _ finC_30).2.1
  refine va_get (D := rD g) (ci := 3) (v := .ref (ad (qO S 52 0))) (C := RX3) (T := TX3) (N := 16) hx hb hts inX3 hown hR.K hR.P 52 (hR.at43 (hR.w.2.1 _ finC_30).2.1) rfl 0 (by decide) (hts _ kw_836) (fun _ h9 => h9) (congrArg (fun z => some (vf ad z)) hv4) dX3_findBlocks_6 ?_
  refine va_get (D := rD g) (ci := 7) (v := .int (qI S (qO S 52 0) 2)) (C := RX8) (T := TX8) (N := 15) hx hb hts inX8 hown hR.K hR.P (qO S 52 0) (hR.at47 hT_b3) rfl 2 (by decide) (hts _ kw_837) (fun _ h9 => h9) rfl dX3_findBlocks_9 ?_
  have J_45 : ∀ (ad45 : Nat → Nat) (dc45 ds45 : Nat) (U45 : MS) (H : Heap) (locs : List Loc) (ls : Array Slot), w_X3_findBlocks_J45 Q U45 → shx S U45 → lgC S U45 dc45 ds45 → adk ad ad45 S → ogC ad45 A s s.heap → RepC g ad45 A s U45 H locs → lv_has ls 4 [(0, .ref (ad45 52))] → W p l e (headSpec (wt yX3_findBlocks cX3_findBlocks 4 none) ({ frames := 2, cells := KCC - qn S, slots := KSC - qu S, locals := 43 })).room s m ([.ref (ad 52)] : List Value).toArray below meth c H locs dc45 ds45 (MQ below (va_Qv (fun (u : MS × (Nat → Nat)) => Q u.1 ∧ wfC u.1 ∧ shx S u.1 ∧ adk ad u.2 S) (fun (u : MS × (Nat → Nat)) (t : State) => qEHC g A S s.heap u t) A) ([.ref (ad 52)] : List Value).toArray s (KCC - qn S) (KSC - qu S) A) (F0 m 45 ls []) := by
    intro ad45 dc45 ds45 U45 H locs ls h hsh hlg hak hE hR hl
    unfold w_X3_findBlocks_J45 at h
    replace h := h hR.w
    refine lv_aload_n hx hb dX3_findBlocks_45 rfl (lv_at hl 0 rfl) ?_
    have hT_b5 : qT U45 (qO U45 52 3) = 203 := hR.w.ref (hR.w.ptr ptrC_23) (hR.w.2.1 _ finC_30).2.1
    refine va_get (D := rD g) (ci := 3) (v := .ref (ad45 (qO U45 52 3))) (C := RX3) (T := TX3) (N := 16) hx hb hts inX3 hown hR.K hR.P 52 (hR.at43 (hR.w.2.1 _ finC_30).2.1) rfl 3 (by decide) (hts _ kw_839) (fun _ h9 => h9) (congrArg (fun z => some (vf ad45 z)) (hR.w.ptr ptrC_23)) dX3_findBlocks_46 ?_
    refine lv_iconst (v := 0) hx hb dX3_findBlocks_49 (by decide) ?_
    replace h := h (hT_b5)
    obtain ⟨Q6, h0, h⟩ := h
    have hFc := cfree hR hA
    refine va_callv (va_runS (As := [.ref (ad45 (qO U45 52 3)), .int 0]) (rest := []) ⟨hx, hb, hml, hown, hts⟩ (rJ7_fill_53178 l g ad45 H.size U45 (qO U45 52 3) (0 : Int32) hR.w (by decide) hT_b5 Q6 h0) (va_cwS 2 hts (gd_S kw_886 kw_1722 kw_1723 kw_1721) rfl rfl rfl (by decide +kernel) ⟨Nat.le_of_ble_eq_true rfl, Nat.le_of_ble_eq_true rfl⟩) ⟨cblind, fun U hU hW9 => cmk hU hW9 hR hex hE hFc⟩ rfl rfl hl.1 rfl (lv_room (Nat.le_of_ble_eq_true rfl)) dX3_findBlocks_50 ⟨(show dc45 + 0 ≤ KCC - qn S from hlg.c), (show ds45 + 0 ≤ KSC - qu S from hlg.s)⟩) hR.sS (fun q _ h => hFc q h) hFc (fun  S7 t9 H1 locs ht9 hvm9 hw9 hB9 hz9 hk9 hS => ?_)
    obtain ⟨hq8, hw9, hs9⟩ := hw9
    have hR : RepC g ad45 A s S7 H1 locs := hR.call ht9 hB9 hw9 hS hFc
    have hsh := hsh.tr hs9.1
    have hlg : lgC S S7 (dc45) (ds45) := hlg.same hs9
    replace h := h  S7 hq8 hw9 hs9
    clear hB9 hz9 hk9 hvm9 ht9 hw9 hs9 hS
    generalize H1 = H at hR ⊢
    refine lv_aload_n hx hb dX3_findBlocks_53 rfl (lv_at hl 0 rfl) ?_
    refine lv_iconst (v := 0) hx hb dX3_findBlocks_54 (by decide) ?_
    obtain ⟨Q9, h0, h⟩ := h
    have hFc := cfree hR hA
    refine va_callv (va_runV (As := [.int 0]) (rest := []) ⟨hx, hb, hml, hown, hts⟩ (rX3_begin l g ad45 H.size S7 (0 : Int32) hR.w  Q9 h0) (cwV 1 hts (gd_V kw_891 kw_857 kw_858 kw_401 kw_856) rfl rfl rfl (by decide +kernel) ⟨Nat.le_of_ble_eq_true rfl, Nat.le_of_ble_eq_true rfl⟩) ⟨cblind, va_recv hR.K hR.P (ci := 3) (q0 := 52) rfl (hR.at43 (hR.w.2.1 _ finC_30).2.1), fun U hU hW9 => cmk hU hW9 hR hex hE hFc⟩ rfl rfl hl.1 rfl (lv_room (Nat.le_of_ble_eq_true rfl)) dX3_findBlocks_55 ⟨(show dc45 + 0 ≤ KCC - qn S from hlg.c), (show ds45 + 0 ≤ KSC - qu S from hlg.s)⟩) hR.sS (fun q _ h => hFc q h) hFc (fun  S10 t9 H1 locs ht9 hvm9 hw9 hB9 hz9 hk9 hS => ?_)
    obtain ⟨hq11, hw9, hs9⟩ := hw9
    have hR : RepC g ad45 A s S10 H1 locs := hR.call ht9 hB9 hw9 hS hFc
    have hsh := hsh.tr hs9.1
    have hlg : lgC S S10 (dc45) (ds45) := hlg.same hs9
    replace h := h  S10 hq11 hw9 hs9
    clear hB9 hz9 hk9 hvm9 ht9 hw9 hs9 hS
    generalize H1 = H at hR ⊢
    refine lv_iconst (v := 0) hx hb dX3_findBlocks_58 (by decide) ?_
    refine lv_istore_n (lv' := [(1, .int 0), (0, .ref (ad45 52))]) hx hb dX3_findBlocks_59 rfl hl (by decide) rfl (fun ls hl => ?_)
    have J_60 : ∀ (n60 : Nat) (ad60 : Nat → Nat) (dc60 ds60 : Nat) (U60 : MS) (v60_1 : Int32) (H : Heap) (locs : List Loc) (ls : Array Slot), w_X3_findBlocks_L60 Q n60 U60 v60_1 → shx S U60 → lgC S U60 dc60 ds60 → adk ad ad60 S → ogC ad60 A s s.heap → RepC g ad60 A s U60 H locs → lv_has ls 4 [(0, .ref (ad60 52)), (1, .int v60_1)] → W p l e (headSpec (wt yX3_findBlocks cX3_findBlocks 4 none) ({ frames := 2, cells := KCC - qn S, slots := KSC - qu S, locals := 43 })).room s m ([.ref (ad 52)] : List Value).toArray below meth c H locs dc60 ds60 (MQ below (va_Qv (fun (u : MS × (Nat → Nat)) => Q u.1 ∧ wfC u.1 ∧ shx S u.1 ∧ adk ad u.2 S) (fun (u : MS × (Nat → Nat)) (t : State) => qEHC g A S s.heap u t) A) ([.ref (ad 52)] : List Value).toArray s (KCC - qn S) (KSC - qu S) A) (F0 m 60 ls []) := by
      intro n60
      induction n60 with
      | zero => intro ad60 dc60 ds60 U60 v60_1 H locs ls h hsh hlg hak hE hR hl; unfold w_X3_findBlocks_L60 at h; exact h.elim
      | succ n60 ih_60 =>
        intro ad60 dc60 ds60 U60 v60_1 H locs ls h hsh hlg hak hE hR hl
        unfold w_X3_findBlocks_L60 at h
        replace h := h hR.w
        refine lv_iload_n hx hb dX3_findBlocks_60 rfl (lv_at hl 1 rfl) ?_
        refine lv_aload_n hx hb dX3_findBlocks_61 rfl (lv_at hl 0 rfl) ?_
        obtain ⟨hv13, h⟩ := h
        have hT_b12 : qT U60 (qO U60 52 0) = 47 := hR.w.ref hv13 (hR.w.2.1 _ finC_30).2.1
        refine va_get (D := rD g) (ci := 3) (v := .ref (ad60 (qO U60 52 0))) (C := RX3) (T := TX3) (N := 16) hx hb hts inX3 hown hR.K hR.P 52 (hR.at43 (hR.w.2.1 _ finC_30).2.1) rfl 0 (by decide) (hts _ kw_836) (fun _ h9 => h9) (congrArg (fun z => some (vf ad60 z)) hv13) dX3_findBlocks_62 ?_
        refine va_get (D := rD g) (ci := 7) (v := .int (qI U60 (qO U60 52 0) 2)) (C := RX8) (T := TX8) (N := 15) hx hb hts inX8 hown hR.K hR.P (qO U60 52 0) (hR.at47 hT_b12) rfl 2 (by decide) (hts _ kw_837) (fun _ h9 => h9) rfl dX3_findBlocks_65 ?_
        refine lv_icmp_ge (tgt := 137) hx hb dX3_findBlocks_68 (by decide) (fun c14 => ?_) (fun c14 => ?_)
        · replace h := h.1 (k_le rfl rfl c14)
          refine lv_iconst (v := 0) hx hb dX3_findBlocks_137 (by decide) ?_
          refine lv_istore_n (lv' := [(1, .int 0), (0, .ref (ad60 52))]) hx hb dX3_findBlocks_138 rfl hl (by decide) rfl (fun ls hl => ?_)
          have J_139 : ∀ (n139 : Nat) (ad139 : Nat → Nat) (dc139 ds139 : Nat) (U139 : MS) (v139_1 : Int32) (H : Heap) (locs : List Loc) (ls : Array Slot), w_X3_findBlocks_L139 Q n139 U139 v139_1 → shx S U139 → lgC S U139 dc139 ds139 → adk ad ad139 S → ogC ad139 A s s.heap → RepC g ad139 A s U139 H locs → lv_has ls 4 [(0, .ref (ad139 52)), (1, .int v139_1)] → W p l e (headSpec (wt yX3_findBlocks cX3_findBlocks 4 none) ({ frames := 2, cells := KCC - qn S, slots := KSC - qu S, locals := 43 })).room s m ([.ref (ad 52)] : List Value).toArray below meth c H locs dc139 ds139 (MQ below (va_Qv (fun (u : MS × (Nat → Nat)) => Q u.1 ∧ wfC u.1 ∧ shx S u.1 ∧ adk ad u.2 S) (fun (u : MS × (Nat → Nat)) (t : State) => qEHC g A S s.heap u t) A) ([.ref (ad 52)] : List Value).toArray s (KCC - qn S) (KSC - qu S) A) (F0 m 139 ls []) := by
            intro n139
            induction n139 with
            | zero => intro ad139 dc139 ds139 U139 v139_1 H locs ls h hsh hlg hak hE hR hl; unfold w_X3_findBlocks_L139 at h; exact h.elim
            | succ n139 ih_139 =>
              intro ad139 dc139 ds139 U139 v139_1 H locs ls h hsh hlg hak hE hR hl
              unfold w_X3_findBlocks_L139 at h
              replace h := h hR.w
              refine lv_iload_n hx hb dX3_findBlocks_139 rfl (lv_at hl 1 rfl) ?_
              refine lv_aload_n hx hb dX3_findBlocks_140 rfl (lv_at hl 0 rfl) ?_
              obtain ⟨hv16, h⟩ := h
              have hT_b15 : qT U139 (qO U139 52 0) = 47 := hR.w.ref hv16 (hR.w.2.1 _ finC_30).2.1
              refine va_get (D := rD g) (ci := 3) (v := .ref (ad139 (qO U139 52 0))) (C := RX3) (T := TX3) (N := 16) hx hb hts inX3 hown hR.K hR.P 52 (hR.at43 (hR.w.2.1 _ finC_30).2.1) rfl 0 (by decide) (hts _ kw_836) (fun _ h9 => h9) (congrArg (fun z => some (vf ad139 z)) hv16) dX3_findBlocks_141 ?_
              refine va_get (D := rD g) (ci := 7) (v := .int (qI U139 (qO U139 52 0) 9)) (C := RX8) (T := TX8) (N := 15) hx hb hts inX8 hown hR.K hR.P (qO U139 52 0) (hR.at47 hT_b15) rfl 9 (by decide) (hts _ kw_896) (fun _ h9 => h9) rfl dX3_findBlocks_144 ?_
              refine lv_icmp_ge (tgt := 195) hx hb dX3_findBlocks_147 (by decide) (fun c17 => ?_) (fun c17 => ?_)
              · replace h := h.1 (k_le rfl rfl c17)
                refine lv_aload_n hx hb dX3_findBlocks_195 rfl (lv_at hl 0 rfl) ?_
                refine lv_iconst (v := 0) hx hb dX3_findBlocks_196 (by decide) ?_
                refine va_put (D := rD g) (ci := 3) (v := .int 0) (ty := .int) (C := RX3) (T := TX3) (N := 16) hx hb hts inX3 tyX3 tyX3_ok nmX3 hown hR.K hR.P hR.D hR.sS 52 (hR.at43 (hR.w.2.1 _ finC_30).2.1) rfl 1 (by decide) (hts _ kw_851) (fun _ h9 => h9) rfl (by decide +kernel) rfl rfl (Nat.le_of_ble_eq_true rfl) dX3_findBlocks_197 (fun H locs hP hD hS => ?_)
                have hTk9 : qT U139 52 = 43 := (hR.w.2.1 _ finC_30).2.1
                have hR : RepC g ad139 A s (wI U139 52 1 (0 : Int32)) H locs := hR.pI43 (hR.w.2.1 _ finC_30).2.1 FX3_s1 (fun q9 => absurd q9 (by decide)) hP hD hS
                obtain ⟨S18, eS18⟩ : ∃ z, z = wI U139 52 1 (0 : Int32) := ⟨_, rfl⟩
                rw [← eS18] at hR
                replace h := h S18 eS18 hTk9 hR.w
                have hsh : shx S S18 := by rw [eS18]; exact hsh
                have hlg : lgC S S18 (dc139) (ds139) := by rw [eS18]; exact hlg
                refine lv_iconst (v := 0) hx hb dX3_findBlocks_200 (by decide) ?_
                refine lv_istore_n (lv' := [(1, .int 0), (0, .ref (ad139 52))]) hx hb dX3_findBlocks_201 rfl hl (by decide) rfl (fun ls hl => ?_)
                have J_202 : ∀ (n202 : Nat) (ad202 : Nat → Nat) (dc202 ds202 : Nat) (U202 : MS) (v202_1 : Int32) (H : Heap) (locs : List Loc) (ls : Array Slot), w_X3_findBlocks_L202 Q n202 U202 v202_1 → shx S U202 → lgC S U202 dc202 ds202 → adk ad ad202 S → ogC ad202 A s s.heap → RepC g ad202 A s U202 H locs → lv_has ls 4 [(0, .ref (ad202 52)), (1, .int v202_1)] → W p l e (headSpec (wt yX3_findBlocks cX3_findBlocks 4 none) ({ frames := 2, cells := KCC - qn S, slots := KSC - qu S, locals := 43 })).room s m ([.ref (ad 52)] : List Value).toArray below meth c H locs dc202 ds202 (MQ below (va_Qv (fun (u : MS × (Nat → Nat)) => Q u.1 ∧ wfC u.1 ∧ shx S u.1 ∧ adk ad u.2 S) (fun (u : MS × (Nat → Nat)) (t : State) => qEHC g A S s.heap u t) A) ([.ref (ad 52)] : List Value).toArray s (KCC - qn S) (KSC - qu S) A) (F0 m 202 ls []) := by
                  intro n202
                  induction n202 with
                  | zero => intro ad202 dc202 ds202 U202 v202_1 H locs ls h hsh hlg hak hE hR hl; unfold w_X3_findBlocks_L202 at h; exact h.elim
                  | succ n202 ih_202 =>
                    intro ad202 dc202 ds202 U202 v202_1 H locs ls h hsh hlg hak hE hR hl
                    unfold w_X3_findBlocks_L202 at h
                    replace h := h hR.w
                    refine lv_iload_n hx hb dX3_findBlocks_202 rfl (lv_at hl 1 rfl) ?_
                    refine lv_aload_n hx hb dX3_findBlocks_203 rfl (lv_at hl 0 rfl) ?_
                    obtain ⟨hv20, h⟩ := h
                    have hT_b19 : qT U202 (qO U202 52 0) = 47 := hR.w.ref hv20 (hR.w.2.1 _ finC_30).2.1
                    refine va_get (D := rD g) (ci := 3) (v := .ref (ad202 (qO U202 52 0))) (C := RX3) (T := TX3) (N := 16) hx hb hts inX3 hown hR.K hR.P 52 (hR.at43 (hR.w.2.1 _ finC_30).2.1) rfl 0 (by decide) (hts _ kw_836) (fun _ h9 => h9) (congrArg (fun z => some (vf ad202 z)) hv20) dX3_findBlocks_204 ?_
                    refine va_get (D := rD g) (ci := 7) (v := .int (qI U202 (qO U202 52 0) 2)) (C := RX8) (T := TX8) (N := 15) hx hb hts inX8 hown hR.K hR.P (qO U202 52 0) (hR.at47 hT_b19) rfl 2 (by decide) (hts _ kw_837) (fun _ h9 => h9) rfl dX3_findBlocks_207 ?_
                    refine lv_icmp_ge (tgt := 260) hx hb dX3_findBlocks_210 (by decide) (fun c21 => ?_) (fun c21 => ?_)
                    · replace h := h.1 (k_le rfl rfl c21)
                      refine W_led2 (fun hLd => ?_)
                      refine W.widen (k := KCC - qn S) (n := KSC - qu S) hlg.c hlg.s ?_
                      exact W.vret hx hb hr (fun t9 ht9 hW9 => ⟨⟨(U202, ad202), rfl, ⟨h, hR.w, hsh, hak⟩, ⟨⟨by rw [ht9]; exact hR.P, hR.D⟩, _, _, by rw [ht9]; exact hLd, hlg⟩⟩, hR.sS.F ht9⟩) hR.sS.2.2 dX3_findBlocks_260
                    · replace h := h.2 (k_nle rfl rfl c21)
                      refine lv_aload_n hx hb dX3_findBlocks_213 rfl (lv_at hl 0 rfl) ?_
                      have hT_b22 : qT U202 (qO U202 52 3) = 203 := hR.w.ref (hR.w.ptr ptrC_23) (hR.w.2.1 _ finC_30).2.1
                      refine va_get (D := rD g) (ci := 3) (v := .ref (ad202 (qO U202 52 3))) (C := RX3) (T := TX3) (N := 16) hx hb hts inX3 hown hR.K hR.P 52 (hR.at43 (hR.w.2.1 _ finC_30).2.1) rfl 3 (by decide) (hts _ kw_839) (fun _ h9 => h9) (congrArg (fun z => some (vf ad202 z)) (hR.w.ptr ptrC_23)) dX3_findBlocks_214 ?_
                      refine lv_iload_n hx hb dX3_findBlocks_217 rfl (lv_at hl 1 rfl) ?_
                      obtain ⟨hv23, h⟩ := h
                      refine va_iald hx hb hR.K hR.P (qO U202 52 3) 1 (hR.atI hT_b22 (by decide)) rfl (k_ix (x := v202_1) (a := v202_1.toInt) rfl hv23) dX3_findBlocks_218 ?_
                      refine lv_topi (fun z24 ez24 => ?_)
                      obtain rfl : z24 = (qI U202 (qO U202 52 3) v202_1.toInt.toNat) := ez24
                      have J_242 : ∀ (ad242 : Nat → Nat) (dc242 ds242 : Nat) (U242 : MS) (v242_1 : Int32) (H : Heap) (locs : List Loc) (ls : Array Slot), w_X3_findBlocks_J242 Q (w_X3_findBlocks_L202 Q n202) U242 v242_1 → shx S U242 → lgC S U242 dc242 ds242 → adk ad ad242 S → ogC ad242 A s s.heap → RepC g ad242 A s U242 H locs → lv_has ls 4 [(0, .ref (ad242 52)), (1, .int v242_1)] → W p l e (headSpec (wt yX3_findBlocks cX3_findBlocks 4 none) ({ frames := 2, cells := KCC - qn S, slots := KSC - qu S, locals := 43 })).room s m ([.ref (ad 52)] : List Value).toArray below meth c H locs dc242 ds242 (MQ below (va_Qv (fun (u : MS × (Nat → Nat)) => Q u.1 ∧ wfC u.1 ∧ shx S u.1 ∧ adk ad u.2 S) (fun (u : MS × (Nat → Nat)) (t : State) => qEHC g A S s.heap u t) A) ([.ref (ad 52)] : List Value).toArray s (KCC - qn S) (KSC - qu S) A) (F0 m 242 ls []) := by
                        intro ad242 dc242 ds242 U242 v242_1 H locs ls h hsh hlg hak hE hR hl
                        unfold w_X3_findBlocks_J242 at h
                        replace h := h hR.w
                        refine lv_aload_n hx hb dX3_findBlocks_242 rfl (lv_at hl 0 rfl) ?_
                        have hT_b25 : qT U242 (qO U242 52 3) = 203 := hR.w.ref (hR.w.ptr ptrC_23) (hR.w.2.1 _ finC_30).2.1
                        refine va_get (D := rD g) (ci := 3) (v := .ref (ad242 (qO U242 52 3))) (C := RX3) (T := TX3) (N := 16) hx hb hts inX3 hown hR.K hR.P 52 (hR.at43 (hR.w.2.1 _ finC_30).2.1) rfl 3 (by decide) (hts _ kw_839) (fun _ h9 => h9) (congrArg (fun z => some (vf ad242 z)) (hR.w.ptr ptrC_23)) dX3_findBlocks_243 ?_
                        refine lv_iload_n hx hb dX3_findBlocks_246 rfl (lv_at hl 1 rfl) ?_
                        refine lv_aload_n hx hb dX3_findBlocks_247 rfl (lv_at hl 0 rfl) ?_
                        refine va_get (D := rD g) (ci := 3) (v := .int (qI U242 52 1)) (C := RX3) (T := TX3) (N := 16) hx hb hts inX3 hown hR.K hR.P 52 (hR.at43 (hR.w.2.1 _ finC_30).2.1) rfl 1 (by decide) (hts _ kw_851) (fun _ h9 => h9) rfl dX3_findBlocks_248 ?_
                        refine lv_iconst (v := 1) hx hb dX3_findBlocks_251 (by decide) ?_
                        refine lv_isub hx hb dX3_findBlocks_252 ?_
                        refine lv_topi (fun z26 ez26 => ?_)
                        obtain rfl : z26 = ((qI U242 52 1) - (1 : Int32)) := ez26
                        obtain ⟨hv27, h⟩ := h
                        refine va_iast hx hb hR.K hR.P hR.D hR.sS (qO U242 52 3) 1 (hR.atI hT_b25 (by decide)) rfl (k_ix (x := v242_1) (a := v242_1.toInt) rfl hv27) dX3_findBlocks_253 (fun H locs hP hD hS => ?_)
                        have hTk9 : qT U242 (qO U242 52 3) = 203 := hT_b25
                        have hR : RepC g ad242 A s (wI U242 (qO U242 52 3) v242_1.toInt.toNat ((qI U242 52 1) - (1 : Int32))) H locs := hR.aI hT_b25 (by decide) hP hD hS
                        obtain ⟨S28, eS28⟩ : ∃ z, z = wI U242 (qO U242 52 3) v242_1.toInt.toNat ((qI U242 52 1) - (1 : Int32)) := ⟨_, rfl⟩
                        rw [← eS28] at hR
                        replace h := h S28 eS28 hTk9 hR.w
                        have hsh : shx S S28 := by rw [eS28]; exact hsh
                        have hlg : lgC S S28 (dc242) (ds242) := by rw [eS28]; exact hlg
                        obtain ⟨a29, ea29⟩ : ∃ z, z = (v242_1 + Int32.ofInt 1) := ⟨_, rfl⟩
                        replace h := h a29 ea29
                        refine lv_iinc (v := a29) (lv' := [(1, .int a29), (0, .ref (ad242 52))]) hx hb dX3_findBlocks_254 hl (k := 1) rfl ea29.symm (by decide) rfl (fun ls hl => ?_)
                        refine lv_goto (tgt := 202) hx hb dX3_findBlocks_257 (by decide) ?_
                        exact ih_202 ad242 (dc242) (ds242) S28 a29 _ _ ls h  hsh hlg hak hE hR (lv_sub hl [1, 0] rfl)
                      refine lv_if_eq (tgt := 242) hx hb dX3_findBlocks_219 (by decide) (fun c30 => ?_) (fun c30 => ?_)
                      · replace h := h.1 (k_eq rfl (by decide) c30)
                        exact J_242 ad202 (dc202) (ds202) U202 v202_1 _ _ ls h  hsh hlg hak hE hR (lv_sub hl [0, 1] rfl)
                      · replace h := h.2 (k_ne rfl (by decide) c30)
                        refine lv_aload_n hx hb dX3_findBlocks_222 rfl (lv_at hl 0 rfl) ?_
                        have hT_b31 : qT U202 (qO U202 52 2) = 202 := hR.w.ref (hR.w.ptr ptrC_22) (hR.w.2.1 _ finC_30).2.1
                        refine va_get (D := rD g) (ci := 3) (v := .ref (ad202 (qO U202 52 2))) (C := RX3) (T := TX3) (N := 16) hx hb hts inX3 hown hR.K hR.P 52 (hR.at43 (hR.w.2.1 _ finC_30).2.1) rfl 2 (by decide) (hts _ kw_862) (fun _ h9 => h9) (congrArg (fun z => some (vf ad202 z)) (hR.w.ptr ptrC_22)) dX3_findBlocks_223 ?_
                        refine lv_aload_n hx hb dX3_findBlocks_226 rfl (lv_at hl 0 rfl) ?_
                        refine va_get (D := rD g) (ci := 3) (v := .int (qI U202 52 1)) (C := RX3) (T := TX3) (N := 16) hx hb hts inX3 hown hR.K hR.P 52 (hR.at43 (hR.w.2.1 _ finC_30).2.1) rfl 1 (by decide) (hts _ kw_851) (fun _ h9 => h9) rfl dX3_findBlocks_227 ?_
                        refine lv_iload_n hx hb dX3_findBlocks_230 rfl (lv_at hl 1 rfl) ?_
                        obtain ⟨hv32, h⟩ := h
                        refine va_iast hx hb hR.K hR.P hR.D hR.sS (qO U202 52 2) 1 (hR.atI hT_b31 (by decide)) rfl (k_ix (x := (qI U202 52 1)) (a := (qI U202 52 1).toInt) rfl hv32) dX3_findBlocks_231 (fun H locs hP hD hS => ?_)
                        have hTk9 : qT U202 (qO U202 52 2) = 202 := hT_b31
                        have hR : RepC g ad202 A s (wI U202 (qO U202 52 2) (((qI U202 52 1).toInt).toNat) v202_1) H locs := hR.aI hT_b31 (by decide) hP hD hS
                        obtain ⟨S33, eS33⟩ : ∃ z, z = wI U202 (qO U202 52 2) (((qI U202 52 1).toInt).toNat) v202_1 := ⟨_, rfl⟩
                        rw [← eS33] at hR
                        replace h := h S33 eS33 hTk9 hR.w
                        have hsh : shx S S33 := by rw [eS33]; exact hsh
                        have hlg : lgC S S33 (dc202) (ds202) := by rw [eS33]; exact hlg
                        refine lv_aload_n hx hb dX3_findBlocks_232 rfl (lv_at hl 0 rfl) ?_
                        refine lv_dup hx hb dX3_findBlocks_233 rfl ?_
                        refine va_get (D := rD g) (ci := 3) (v := .int (qI S33 52 1)) (C := RX3) (T := TX3) (N := 16) hx hb hts inX3 hown hR.K hR.P 52 (hR.at43 (hR.w.2.1 _ finC_30).2.1) rfl 1 (by decide) (hts _ kw_851) (fun _ h9 => h9) rfl dX3_findBlocks_234 ?_
                        refine lv_iconst (v := 1) hx hb dX3_findBlocks_237 (by decide) ?_
                        refine lv_iadd hx hb dX3_findBlocks_238 ?_
                        refine lv_topi (fun z34 ez34 => ?_)
                        obtain rfl : z34 = ((qI S33 52 1) + (1 : Int32)) := ez34
                        refine va_put (D := rD g) (ci := 3) (v := .int ((qI S33 52 1) + (1 : Int32))) (ty := .int) (C := RX3) (T := TX3) (N := 16) hx hb hts inX3 tyX3 tyX3_ok nmX3 hown hR.K hR.P hR.D hR.sS 52 (hR.at43 (hR.w.2.1 _ finC_30).2.1) rfl 1 (by decide) (hts _ kw_851) (fun _ h9 => h9) rfl (by decide +kernel) rfl rfl (Nat.le_of_ble_eq_true rfl) dX3_findBlocks_239 (fun H locs hP hD hS => ?_)
                        have hTk9 : qT S33 52 = 43 := (hR.w.2.1 _ finC_30).2.1
                        have hR : RepC g ad202 A s (wI S33 52 1 ((qI S33 52 1) + (1 : Int32))) H locs := hR.pI43 (hR.w.2.1 _ finC_30).2.1 FX3_s1 (fun q9 => absurd q9 (by decide)) hP hD hS
                        obtain ⟨S35, eS35⟩ : ∃ z, z = wI S33 52 1 ((qI S33 52 1) + (1 : Int32)) := ⟨_, rfl⟩
                        rw [← eS35] at hR
                        replace h := h S35 eS35 hTk9 hR.w
                        have hsh : shx S S35 := by rw [eS35]; exact hsh
                        have hlg : lgC S S35 (dc202) (ds202) := by rw [eS35]; exact hlg
                        exact J_242 ad202 (dc202) (ds202) S35 v202_1 _ _ ls h  hsh hlg hak hE hR (lv_sub hl [0, 1] rfl)
                obtain ⟨n9, h⟩ := h
                exact J_202 n9 ad139 (dc139) (ds139) S18 0 _ _ ls h  hsh hlg hak hE hR (lv_sub hl [1, 0] rfl)
              · replace h := h.2 (k_nle rfl rfl c17)
                refine lv_aload_n hx hb dX3_findBlocks_150 rfl (lv_at hl 0 rfl) ?_
                refine lv_aload_n hx hb dX3_findBlocks_151 rfl (lv_at hl 0 rfl) ?_
                obtain ⟨hv37, h⟩ := h
                have hT_b36 : qT U139 (qO U139 52 0) = 47 := hR.w.ref hv37 (hR.w.2.1 _ finC_30).2.1
                refine va_get (D := rD g) (ci := 3) (v := .ref (ad139 (qO U139 52 0))) (C := RX3) (T := TX3) (N := 16) hx hb hts inX3 hown hR.K hR.P 52 (hR.at43 (hR.w.2.1 _ finC_30).2.1) rfl 0 (by decide) (hts _ kw_836) (fun _ h9 => h9) (congrArg (fun z => some (vf ad139 z)) hv37) dX3_findBlocks_152 ?_
                obtain ⟨hv39, h⟩ := h
                have hT_b38 : qT U139 (qO U139 (qO U139 52 0) 5) = 224 := hR.w.ref hv39 hT_b36
                refine va_get (D := rD g) (ci := 7) (v := .ref (ad139 (qO U139 (qO U139 52 0) 5))) (C := RX8) (T := TX8) (N := 15) hx hb hts inX8 hown hR.K hR.P (qO U139 52 0) (hR.at47 hT_b36) rfl 5 (by decide) (hts _ kw_897) (fun _ h9 => h9) (congrArg (fun z => some (vf ad139 z)) hv39) dX3_findBlocks_155 ?_
                refine lv_iload_n hx hb dX3_findBlocks_158 rfl (lv_at hl 1 rfl) ?_
                obtain ⟨hv40, h⟩ := h
                refine va_iald hx hb hR.K hR.P (qO U139 (qO U139 52 0) 5) 1 (hR.atI hT_b38 (by decide)) rfl (k_ix (x := v139_1) (a := v139_1.toInt) rfl hv40) dX3_findBlocks_159 ?_
                refine lv_topi (fun z41 ez41 => ?_)
                obtain rfl : z41 = (qI U139 (qO U139 (qO U139 52 0) 5) v139_1.toInt.toNat) := ez41
                obtain ⟨Q42, h0, h⟩ := h
                have hFc := cfree hR hA
                refine va_callv (va_runV (As := [.int (qI U139 (qO U139 (qO U139 52 0) 5) v139_1.toInt.toNat)]) (rest := []) ⟨hx, hb, hml, hown, hts⟩ (rX3_begin l g ad139 H.size U139 (qI U139 (qO U139 (qO U139 52 0) 5) v139_1.toInt.toNat) hR.w  Q42 h0) (cwV 1 hts (gd_V kw_891 kw_857 kw_858 kw_401 kw_856) rfl rfl rfl (by decide +kernel) ⟨Nat.le_of_ble_eq_true rfl, Nat.le_of_ble_eq_true rfl⟩) ⟨cblind, va_recv hR.K hR.P (ci := 3) (q0 := 52) rfl (hR.at43 (hR.w.2.1 _ finC_30).2.1), fun U hU hW9 => cmk hU hW9 hR hex hE hFc⟩ rfl rfl hl.1 rfl (lv_room (Nat.le_of_ble_eq_true rfl)) dX3_findBlocks_160 ⟨(show dc139 + 0 ≤ KCC - qn S from hlg.c), (show ds139 + 0 ≤ KSC - qu S from hlg.s)⟩) hR.sS (fun q _ h => hFc q h) hFc (fun  S43 t9 H1 locs ht9 hvm9 hw9 hB9 hz9 hk9 hS => ?_)
                obtain ⟨hq44, hw9, hs9⟩ := hw9
                have hR : RepC g ad139 A s S43 H1 locs := hR.call ht9 hB9 hw9 hS hFc
                have hsh := hsh.tr hs9.1
                have hlg : lgC S S43 (dc139) (ds139) := hlg.same hs9
                replace h := h  S43 hq44 hw9 hs9
                clear hB9 hz9 hk9 hvm9 ht9 hw9 hs9 hS
                generalize H1 = H at hR ⊢
                refine lv_aload_n hx hb dX3_findBlocks_163 rfl (lv_at hl 0 rfl) ?_
                refine lv_aload_n hx hb dX3_findBlocks_164 rfl (lv_at hl 0 rfl) ?_
                obtain ⟨hv46, h⟩ := h
                have hT_b45 : qT S43 (qO S43 52 0) = 47 := hR.w.ref hv46 (hR.w.2.1 _ finC_30).2.1
                refine va_get (D := rD g) (ci := 3) (v := .ref (ad139 (qO S43 52 0))) (C := RX3) (T := TX3) (N := 16) hx hb hts inX3 hown hR.K hR.P 52 (hR.at43 (hR.w.2.1 _ finC_30).2.1) rfl 0 (by decide) (hts _ kw_836) (fun _ h9 => h9) (congrArg (fun z => some (vf ad139 z)) hv46) dX3_findBlocks_165 ?_
                obtain ⟨hv48, h⟩ := h
                have hT_b47 : qT S43 (qO S43 (qO S43 52 0) 6) = 225 := hR.w.ref hv48 hT_b45
                refine va_get (D := rD g) (ci := 7) (v := .ref (ad139 (qO S43 (qO S43 52 0) 6))) (C := RX8) (T := TX8) (N := 15) hx hb hts inX8 hown hR.K hR.P (qO S43 52 0) (hR.at47 hT_b45) rfl 6 (by decide) (hts _ kw_898) (fun _ h9 => h9) (congrArg (fun z => some (vf ad139 z)) hv48) dX3_findBlocks_168 ?_
                refine lv_iload_n hx hb dX3_findBlocks_171 rfl (lv_at hl 1 rfl) ?_
                obtain ⟨hv49, h⟩ := h
                refine va_iald hx hb hR.K hR.P (qO S43 (qO S43 52 0) 6) 1 (hR.atI hT_b47 (by decide)) rfl (k_ix (x := v139_1) (a := v139_1.toInt) rfl hv49) dX3_findBlocks_172 ?_
                refine lv_topi (fun z50 ez50 => ?_)
                obtain rfl : z50 = (qI S43 (qO S43 (qO S43 52 0) 6) v139_1.toInt.toNat) := ez50
                obtain ⟨Q51, h0, h⟩ := h
                have hFc := cfree hR hA
                refine va_callv (va_runV (As := [.int (qI S43 (qO S43 (qO S43 52 0) 6) v139_1.toInt.toNat)]) (rest := []) ⟨hx, hb, hml, hown, hts⟩ (rX3_begin l g ad139 H.size S43 (qI S43 (qO S43 (qO S43 52 0) 6) v139_1.toInt.toNat) hR.w  Q51 h0) (cwV 1 hts (gd_V kw_891 kw_857 kw_858 kw_401 kw_856) rfl rfl rfl (by decide +kernel) ⟨Nat.le_of_ble_eq_true rfl, Nat.le_of_ble_eq_true rfl⟩) ⟨cblind, va_recv hR.K hR.P (ci := 3) (q0 := 52) rfl (hR.at43 (hR.w.2.1 _ finC_30).2.1), fun U hU hW9 => cmk hU hW9 hR hex hE hFc⟩ rfl rfl hl.1 rfl (lv_room (Nat.le_of_ble_eq_true rfl)) dX3_findBlocks_173 ⟨(show dc139 + 0 ≤ KCC - qn S from hlg.c), (show ds139 + 0 ≤ KSC - qu S from hlg.s)⟩) hR.sS (fun q _ h => hFc q h) hFc (fun  S52 t9 H1 locs ht9 hvm9 hw9 hB9 hz9 hk9 hS => ?_)
                obtain ⟨hq53, hw9, hs9⟩ := hw9
                have hR : RepC g ad139 A s S52 H1 locs := hR.call ht9 hB9 hw9 hS hFc
                have hsh := hsh.tr hs9.1
                have hlg : lgC S S52 (dc139) (ds139) := hlg.same hs9
                replace h := h  S52 hq53 hw9 hs9
                clear hB9 hz9 hk9 hvm9 ht9 hw9 hs9 hS
                generalize H1 = H at hR ⊢
                refine lv_aload_n hx hb dX3_findBlocks_176 rfl (lv_at hl 0 rfl) ?_
                refine lv_aload_n hx hb dX3_findBlocks_177 rfl (lv_at hl 0 rfl) ?_
                obtain ⟨hv55, h⟩ := h
                have hT_b54 : qT S52 (qO S52 52 0) = 47 := hR.w.ref hv55 (hR.w.2.1 _ finC_30).2.1
                refine va_get (D := rD g) (ci := 3) (v := .ref (ad139 (qO S52 52 0))) (C := RX3) (T := TX3) (N := 16) hx hb hts inX3 hown hR.K hR.P 52 (hR.at43 (hR.w.2.1 _ finC_30).2.1) rfl 0 (by decide) (hts _ kw_836) (fun _ h9 => h9) (congrArg (fun z => some (vf ad139 z)) hv55) dX3_findBlocks_178 ?_
                obtain ⟨hv57, h⟩ := h
                have hT_b56 : qT S52 (qO S52 (qO S52 52 0) 7) = 226 := hR.w.ref hv57 hT_b54
                refine va_get (D := rD g) (ci := 7) (v := .ref (ad139 (qO S52 (qO S52 52 0) 7))) (C := RX8) (T := TX8) (N := 15) hx hb hts inX8 hown hR.K hR.P (qO S52 52 0) (hR.at47 hT_b54) rfl 7 (by decide) (hts _ kw_899) (fun _ h9 => h9) (congrArg (fun z => some (vf ad139 z)) hv57) dX3_findBlocks_181 ?_
                refine lv_iload_n hx hb dX3_findBlocks_184 rfl (lv_at hl 1 rfl) ?_
                obtain ⟨hv58, h⟩ := h
                refine va_iald hx hb hR.K hR.P (qO S52 (qO S52 52 0) 7) 1 (hR.atI hT_b56 (by decide)) rfl (k_ix (x := v139_1) (a := v139_1.toInt) rfl hv58) dX3_findBlocks_185 ?_
                refine lv_topi (fun z59 ez59 => ?_)
                obtain rfl : z59 = (qI S52 (qO S52 (qO S52 52 0) 7) v139_1.toInt.toNat) := ez59
                obtain ⟨Q60, h0, h⟩ := h
                have hFc := cfree hR hA
                refine va_callv (va_runV (As := [.int (qI S52 (qO S52 (qO S52 52 0) 7) v139_1.toInt.toNat)]) (rest := []) ⟨hx, hb, hml, hown, hts⟩ (rX3_begin l g ad139 H.size S52 (qI S52 (qO S52 (qO S52 52 0) 7) v139_1.toInt.toNat) hR.w  Q60 h0) (cwV 1 hts (gd_V kw_891 kw_857 kw_858 kw_401 kw_856) rfl rfl rfl (by decide +kernel) ⟨Nat.le_of_ble_eq_true rfl, Nat.le_of_ble_eq_true rfl⟩) ⟨cblind, va_recv hR.K hR.P (ci := 3) (q0 := 52) rfl (hR.at43 (hR.w.2.1 _ finC_30).2.1), fun U hU hW9 => cmk hU hW9 hR hex hE hFc⟩ rfl rfl hl.1 rfl (lv_room (Nat.le_of_ble_eq_true rfl)) dX3_findBlocks_186 ⟨(show dc139 + 0 ≤ KCC - qn S from hlg.c), (show ds139 + 0 ≤ KSC - qu S from hlg.s)⟩) hR.sS (fun q _ h => hFc q h) hFc (fun  S61 t9 H1 locs ht9 hvm9 hw9 hB9 hz9 hk9 hS => ?_)
                obtain ⟨hq62, hw9, hs9⟩ := hw9
                have hR : RepC g ad139 A s S61 H1 locs := hR.call ht9 hB9 hw9 hS hFc
                have hsh := hsh.tr hs9.1
                have hlg : lgC S S61 (dc139) (ds139) := hlg.same hs9
                replace h := h  S61 hq62 hw9 hs9
                clear hB9 hz9 hk9 hvm9 ht9 hw9 hs9 hS
                generalize H1 = H at hR ⊢
                obtain ⟨a63, ea63⟩ : ∃ z, z = (v139_1 + Int32.ofInt 1) := ⟨_, rfl⟩
                replace h := h a63 ea63
                refine lv_iinc (v := a63) (lv' := [(1, .int a63), (0, .ref (ad139 52))]) hx hb dX3_findBlocks_189 hl (k := 1) rfl ea63.symm (by decide) rfl (fun ls hl => ?_)
                refine lv_goto (tgt := 139) hx hb dX3_findBlocks_192 (by decide) ?_
                exact ih_139 ad139 (dc139) (ds139) S61 a63 _ _ ls h  hsh hlg hak hE hR (lv_sub hl [1, 0] rfl)
          obtain ⟨n9, h⟩ := h
          exact J_139 n9 ad60 (dc60) (ds60) U60 0 _ _ ls h  hsh hlg hak hE hR (lv_sub hl [1, 0] rfl)
        · replace h := h.2 (k_nle rfl rfl c14)
          refine lv_aload_n hx hb dX3_findBlocks_71 rfl (lv_at hl 0 rfl) ?_
          obtain ⟨hv65, h⟩ := h
          have hT_b64 : qT U60 (qO U60 52 0) = 47 := hR.w.ref hv65 (hR.w.2.1 _ finC_30).2.1
          refine va_get (D := rD g) (ci := 3) (v := .ref (ad60 (qO U60 52 0))) (C := RX3) (T := TX3) (N := 16) hx hb hts inX3 hown hR.K hR.P 52 (hR.at43 (hR.w.2.1 _ finC_30).2.1) rfl 0 (by decide) (hts _ kw_836) (fun _ h9 => h9) (congrArg (fun z => some (vf ad60 z)) hv65) dX3_findBlocks_72 ?_
          refine lv_iload_n hx hb dX3_findBlocks_75 rfl (lv_at hl 1 rfl) ?_
          obtain ⟨hv66, h⟩ := h
          have hFc := cfree hR hA
          refine va_calli (va_runV (As := [.int v60_1]) (rest := []) ⟨hx, hb, hml, hown, hts⟩ (rX8_targetCount l g ad60 H.size U60 (qO U60 52 0) v60_1 hR.w hT_b64 hv66) (cwV 1 hts (gd_V kw_892 kw_1541 kw_1542 kw_782 kw_1540) rfl rfl rfl (by decide +kernel) ⟨Nat.le_of_ble_eq_true rfl, Nat.le_of_ble_eq_true rfl⟩) ⟨cblind, va_recv hR.K hR.P (ci := 7) (q0 := (qO U60 52 0)) rfl (hR.at47 hT_b64), fun U hU hW9 => cmk hU hW9 hR hex hE hFc⟩ rfl rfl hl.1 rfl (lv_room (Nat.le_of_ble_eq_true rfl)) dX3_findBlocks_76 ⟨(show dc60 + 0 ≤ KCC - qn S from hlg.c), (show ds60 + 0 ≤ KSC - qu S from hlg.s)⟩) hR.sS (fun q _ h => hFc q h) hFc (fun r67 u9 t9 H1 locs ht9 hvm9 hw9 hB9 hz9 hk9 hS => ?_)
          have hR : RepC g ad60 A s U60 H1 locs := hR.call ht9 hB9 hR.w hS hFc
          obtain rfl : r67 = (fX8_targetCount U60 (qO U60 52 0) v60_1) := hw9
          clear hB9 hz9 hk9 hvm9 ht9 hS
          generalize H1 = H at hR ⊢
          obtain ⟨a69, ea69⟩ : ∃ z, z = (fX8_targetCount U60 (qO U60 52 0) v60_1) := ⟨_, rfl⟩
          rw [← ea69]
          replace h := h a69 ea69
          refine lv_istore_n (lv' := [(2, .int a69), (0, .ref (ad60 52)), (1, .int v60_1)]) hx hb dX3_findBlocks_79 rfl hl (by decide) rfl (fun ls hl => ?_)
          refine lv_iconst (v := 0) hx hb dX3_findBlocks_80 (by decide) ?_
          refine lv_istore_n (lv' := [(3, .int 0), (2, .int a69), (0, .ref (ad60 52)), (1, .int v60_1)]) hx hb dX3_findBlocks_81 rfl hl (by decide) rfl (fun ls hl => ?_)
          have J_82 : ∀ (n82 : Nat) (ad82 : Nat → Nat) (dc82 ds82 : Nat) (U82 : MS) (v82_1 : Int32) (v82_2 : Int32) (v82_3 : Int32) (H : Heap) (locs : List Loc) (ls : Array Slot), w_X3_findBlocks_L82 Q (w_X3_findBlocks_L60 Q n60) n82 U82 v82_1 v82_2 v82_3 → shx S U82 → lgC S U82 dc82 ds82 → adk ad ad82 S → ogC ad82 A s s.heap → RepC g ad82 A s U82 H locs → lv_has ls 4 [(0, .ref (ad82 52)), (1, .int v82_1), (2, .int v82_2), (3, .int v82_3)] → W p l e (headSpec (wt yX3_findBlocks cX3_findBlocks 4 none) ({ frames := 2, cells := KCC - qn S, slots := KSC - qu S, locals := 43 })).room s m ([.ref (ad 52)] : List Value).toArray below meth c H locs dc82 ds82 (MQ below (va_Qv (fun (u : MS × (Nat → Nat)) => Q u.1 ∧ wfC u.1 ∧ shx S u.1 ∧ adk ad u.2 S) (fun (u : MS × (Nat → Nat)) (t : State) => qEHC g A S s.heap u t) A) ([.ref (ad 52)] : List Value).toArray s (KCC - qn S) (KSC - qu S) A) (F0 m 82 ls []) := by
            intro n82
            induction n82 with
            | zero => intro ad82 dc82 ds82 U82 v82_1 v82_2 v82_3 H locs ls h hsh hlg hak hE hR hl; unfold w_X3_findBlocks_L82 at h; exact h.elim
            | succ n82 ih_82 =>
              intro ad82 dc82 ds82 U82 v82_1 v82_2 v82_3 H locs ls h hsh hlg hak hE hR hl
              unfold w_X3_findBlocks_L82 at h
              replace h := h hR.w
              refine lv_iload_n hx hb dX3_findBlocks_82 rfl (lv_at hl 3 rfl) ?_
              refine lv_iload_n hx hb dX3_findBlocks_83 rfl (lv_at hl 2 rfl) ?_
              refine lv_icmp_ge (tgt := 106) hx hb dX3_findBlocks_84 (by decide) (fun c70 => ?_) (fun c70 => ?_)
              · replace h := h.1 (k_le rfl rfl c70)
                refine lv_iload_n hx hb dX3_findBlocks_106 rfl (lv_at hl 2 rfl) ?_
                have J_131 : ∀ (ad131 : Nat → Nat) (dc131 ds131 : Nat) (U131 : MS) (v131_1 : Int32) (H : Heap) (locs : List Loc) (ls : Array Slot), w_X3_findBlocks_J131 Q (w_X3_findBlocks_L60 Q n60) U131 v131_1 → shx S U131 → lgC S U131 dc131 ds131 → adk ad ad131 S → ogC ad131 A s s.heap → RepC g ad131 A s U131 H locs → lv_has ls 4 [(0, .ref (ad131 52)), (1, .int v131_1)] → W p l e (headSpec (wt yX3_findBlocks cX3_findBlocks 4 none) ({ frames := 2, cells := KCC - qn S, slots := KSC - qu S, locals := 43 })).room s m ([.ref (ad 52)] : List Value).toArray below meth c H locs dc131 ds131 (MQ below (va_Qv (fun (u : MS × (Nat → Nat)) => Q u.1 ∧ wfC u.1 ∧ shx S u.1 ∧ adk ad u.2 S) (fun (u : MS × (Nat → Nat)) (t : State) => qEHC g A S s.heap u t) A) ([.ref (ad 52)] : List Value).toArray s (KCC - qn S) (KSC - qu S) A) (F0 m 131 ls []) := by
                  intro ad131 dc131 ds131 U131 v131_1 H locs ls h hsh hlg hak hE hR hl
                  unfold w_X3_findBlocks_J131 at h
                  replace h := h hR.w
                  obtain ⟨a71, ea71⟩ : ∃ z, z = (v131_1 + Int32.ofInt 1) := ⟨_, rfl⟩
                  replace h := h a71 ea71
                  refine lv_iinc (v := a71) (lv' := [(1, .int a71), (0, .ref (ad131 52))]) hx hb dX3_findBlocks_131 hl (k := 1) rfl ea71.symm (by decide) rfl (fun ls hl => ?_)
                  refine lv_goto (tgt := 60) hx hb dX3_findBlocks_134 (by decide) ?_
                  exact ih_60 ad131 (dc131) (ds131) U131 a71 _ _ ls h  hsh hlg hak hE hR (lv_sub hl [1, 0] rfl)
                have J_124 : ∀ (ad124 : Nat → Nat) (dc124 ds124 : Nat) (U124 : MS) (v124_1 : Int32) (H : Heap) (locs : List Loc) (ls : Array Slot), w_X3_findBlocks_J124 Q (w_X3_findBlocks_L60 Q n60) U124 v124_1 → shx S U124 → lgC S U124 dc124 ds124 → adk ad ad124 S → ogC ad124 A s s.heap → RepC g ad124 A s U124 H locs → lv_has ls 4 [(0, .ref (ad124 52)), (1, .int v124_1)] → W p l e (headSpec (wt yX3_findBlocks cX3_findBlocks 4 none) ({ frames := 2, cells := KCC - qn S, slots := KSC - qu S, locals := 43 })).room s m ([.ref (ad 52)] : List Value).toArray below meth c H locs dc124 ds124 (MQ below (va_Qv (fun (u : MS × (Nat → Nat)) => Q u.1 ∧ wfC u.1 ∧ shx S u.1 ∧ adk ad u.2 S) (fun (u : MS × (Nat → Nat)) (t : State) => qEHC g A S s.heap u t) A) ([.ref (ad 52)] : List Value).toArray s (KCC - qn S) (KSC - qu S) A) (F0 m 124 ls []) := by
                  intro ad124 dc124 ds124 U124 v124_1 H locs ls h hsh hlg hak hE hR hl
                  unfold w_X3_findBlocks_J124 at h
                  replace h := h hR.w
                  refine lv_aload_n hx hb dX3_findBlocks_124 rfl (lv_at hl 0 rfl) ?_
                  refine lv_iload_n hx hb dX3_findBlocks_125 rfl (lv_at hl 1 rfl) ?_
                  refine lv_iconst (v := 1) hx hb dX3_findBlocks_126 (by decide) ?_
                  refine lv_iadd hx hb dX3_findBlocks_127 ?_
                  refine lv_topi (fun z72 ez72 => ?_)
                  obtain rfl : z72 = (v124_1 + (1 : Int32)) := ez72
                  obtain ⟨Q73, h0, h⟩ := h
                  have hFc := cfree hR hA
                  refine va_callv (va_runV (As := [.int (v124_1 + (1 : Int32))]) (rest := []) ⟨hx, hb, hml, hown, hts⟩ (rX3_begin l g ad124 H.size U124 (v124_1 + (1 : Int32)) hR.w  Q73 h0) (cwV 1 hts (gd_V kw_891 kw_857 kw_858 kw_401 kw_856) rfl rfl rfl (by decide +kernel) ⟨Nat.le_of_ble_eq_true rfl, Nat.le_of_ble_eq_true rfl⟩) ⟨cblind, va_recv hR.K hR.P (ci := 3) (q0 := 52) rfl (hR.at43 (hR.w.2.1 _ finC_30).2.1), fun U hU hW9 => cmk hU hW9 hR hex hE hFc⟩ rfl rfl hl.1 rfl (lv_room (Nat.le_of_ble_eq_true rfl)) dX3_findBlocks_128 ⟨(show dc124 + 0 ≤ KCC - qn S from hlg.c), (show ds124 + 0 ≤ KSC - qu S from hlg.s)⟩) hR.sS (fun q _ h => hFc q h) hFc (fun  S74 t9 H1 locs ht9 hvm9 hw9 hB9 hz9 hk9 hS => ?_)
                  obtain ⟨hq75, hw9, hs9⟩ := hw9
                  have hR : RepC g ad124 A s S74 H1 locs := hR.call ht9 hB9 hw9 hS hFc
                  have hsh := hsh.tr hs9.1
                  have hlg : lgC S S74 (dc124) (ds124) := hlg.same hs9
                  replace h := h  S74 hq75 hw9 hs9
                  clear hB9 hz9 hk9 hvm9 ht9 hw9 hs9 hS
                  generalize H1 = H at hR ⊢
                  exact J_131 ad124 (dc124) (ds124) S74 v124_1 _ _ ls h  hsh hlg hak hE hR (lv_sub hl [0, 1] rfl)
                refine lv_if_gt (tgt := 124) hx hb dX3_findBlocks_107 (by decide) (fun c76 => ?_) (fun c76 => ?_)
                · replace h := h.1 (k_lt (by decide) rfl c76)
                  exact J_124 ad82 (dc82) (ds82) U82 v82_1 _ _ ls h  hsh hlg hak hE hR (lv_sub hl [0, 1] rfl)
                · replace h := h.2 (k_nlt (by decide) rfl c76)
                  refine lv_aload_n hx hb dX3_findBlocks_110 rfl (lv_at hl 0 rfl) ?_
                  obtain ⟨hv78, h⟩ := h
                  have hT_b77 : qT U82 (qO U82 52 0) = 47 := hR.w.ref hv78 (hR.w.2.1 _ finC_30).2.1
                  refine va_get (D := rD g) (ci := 3) (v := .ref (ad82 (qO U82 52 0))) (C := RX3) (T := TX3) (N := 16) hx hb hts inX3 hown hR.K hR.P 52 (hR.at43 (hR.w.2.1 _ finC_30).2.1) rfl 0 (by decide) (hts _ kw_836) (fun _ h9 => h9) (congrArg (fun z => some (vf ad82 z)) hv78) dX3_findBlocks_111 ?_
                  refine lv_iload_n hx hb dX3_findBlocks_114 rfl (lv_at hl 1 rfl) ?_
                  obtain ⟨hv79, h⟩ := h
                  have hFc := cfree hR hA
                  refine va_calli (va_runV (As := [.int v82_1]) (rest := []) ⟨hx, hb, hml, hown, hts⟩ (rX8_opAt l g ad82 H.size U82 (qO U82 52 0) v82_1 hR.w hT_b77 hv79) (cwV 1 hts (gd_V kw_894 kw_1513 kw_1514 kw_782 kw_1512) rfl rfl rfl (by decide +kernel) ⟨Nat.le_of_ble_eq_true rfl, Nat.le_of_ble_eq_true rfl⟩) ⟨cblind, va_recv hR.K hR.P (ci := 7) (q0 := (qO U82 52 0)) rfl (hR.at47 hT_b77), fun U hU hW9 => cmk hU hW9 hR hex hE hFc⟩ rfl rfl hl.1 rfl (lv_room (Nat.le_of_ble_eq_true rfl)) dX3_findBlocks_115 ⟨(show dc82 + 0 ≤ KCC - qn S from hlg.c), (show ds82 + 0 ≤ KSC - qu S from hlg.s)⟩) hR.sS (fun q _ h => hFc q h) hFc (fun r80 u9 t9 H1 locs ht9 hvm9 hw9 hB9 hz9 hk9 hS => ?_)
                  have hR : RepC g ad82 A s U82 H1 locs := hR.call ht9 hB9 hR.w hS hFc
                  obtain rfl : r80 = (fX8_opAt U82 (qO U82 52 0) v82_1) := hw9
                  clear hB9 hz9 hk9 hvm9 ht9 hS
                  generalize H1 = H at hR ⊢
                  obtain ⟨a82, ea82⟩ : ∃ z, z = (fX8_opAt U82 (qO U82 52 0) v82_1) := ⟨_, rfl⟩
                  rw [← ea82]
                  replace h := h a82 ea82
                  obtain ⟨hv83, h⟩ := h
                  have hFc := cfree hR hA
                  refine va_calli (va_runS (As := [.int a82]) (rest := []) ⟨hx, hb, hml, hown, hts⟩ (rX6_goesOn l g ad82 H.size U82 a82 hR.w  hv83) (va_cwS 1 hts (gd_S kw_895 kw_1219 kw_1207 kw_1218) rfl rfl rfl (by decide +kernel) ⟨Nat.le_of_ble_eq_true rfl, Nat.le_of_ble_eq_true rfl⟩) ⟨cblind, fun U hU hW9 => cmk hU hW9 hR hex hE hFc⟩ rfl rfl hl.1 rfl (lv_room (Nat.le_of_ble_eq_true rfl)) dX3_findBlocks_118 ⟨(show dc82 + 0 ≤ KCC - qn S from hlg.c), (show ds82 + 0 ≤ KSC - qu S from hlg.s)⟩) hR.sS (fun q _ h => hFc q h) hFc (fun r84 u9 t9 H1 locs ht9 hvm9 hw9 hB9 hz9 hk9 hS => ?_)
                  have hR : RepC g ad82 A s U82 H1 locs := hR.call ht9 hB9 hR.w hS hFc
                  obtain ⟨rfl, hz_r84⟩ := hw9
                  clear hB9 hz9 hk9 hvm9 ht9 hS
                  generalize H1 = H at hR ⊢
                  obtain ⟨a86, ea86⟩ : ∃ z, z = (fX6_goesOn U82 a82) := ⟨_, rfl⟩
                  rw [← ea86]
                  replace h := h a86 ea86
                  rw [← ea86] at hz_r84
                  refine lv_if_ne (tgt := 131) hx hb dX3_findBlocks_121 (by decide) (fun c87 => ?_) (fun c87 => ?_)
                  · replace h := h.2 (k_ne rfl (by decide) c87)
                    exact J_131 ad82 (dc82) (ds82) U82 v82_1 _ _ ls h  hsh hlg hak hE hR (lv_sub hl [0, 1] rfl)
                  · replace h := h.1 (k_eq rfl (by decide) c87)
                    exact J_124 ad82 (dc82) (ds82) U82 v82_1 _ _ ls h  hsh hlg hak hE hR (lv_sub hl [0, 1] rfl)
              · replace h := h.2 (k_nle rfl rfl c70)
                refine lv_aload_n hx hb dX3_findBlocks_87 rfl (lv_at hl 0 rfl) ?_
                refine lv_aload_n hx hb dX3_findBlocks_88 rfl (lv_at hl 0 rfl) ?_
                obtain ⟨hv89, h⟩ := h
                have hT_b88 : qT U82 (qO U82 52 0) = 47 := hR.w.ref hv89 (hR.w.2.1 _ finC_30).2.1
                refine va_get (D := rD g) (ci := 3) (v := .ref (ad82 (qO U82 52 0))) (C := RX3) (T := TX3) (N := 16) hx hb hts inX3 hown hR.K hR.P 52 (hR.at43 (hR.w.2.1 _ finC_30).2.1) rfl 0 (by decide) (hts _ kw_836) (fun _ h9 => h9) (congrArg (fun z => some (vf ad82 z)) hv89) dX3_findBlocks_89 ?_
                refine lv_iload_n hx hb dX3_findBlocks_92 rfl (lv_at hl 1 rfl) ?_
                refine lv_iload_n hx hb dX3_findBlocks_93 rfl (lv_at hl 3 rfl) ?_
                obtain ⟨hv90, h⟩ := h
                have hFc := cfree hR hA
                refine va_calli (va_runV (As := [.int v82_1, .int v82_3]) (rest := [.ref (ad82 52)]) ⟨hx, hb, hml, hown, hts⟩ (rX8_targetAt l g ad82 H.size U82 (qO U82 52 0) v82_1 v82_3 hR.w hT_b88 hv90) (cwV 2 hts (gd_V kw_893 kw_1537 kw_1538 kw_782 kw_1536) rfl rfl rfl (by decide +kernel) ⟨Nat.le_of_ble_eq_true rfl, Nat.le_of_ble_eq_true rfl⟩) ⟨cblind, va_recv hR.K hR.P (ci := 7) (q0 := (qO U82 52 0)) rfl (hR.at47 hT_b88), fun U hU hW9 => cmk hU hW9 hR hex hE hFc⟩ rfl rfl hl.1 rfl (lv_room (Nat.le_of_ble_eq_true rfl)) dX3_findBlocks_94 ⟨(show dc82 + 0 ≤ KCC - qn S from hlg.c), (show ds82 + 0 ≤ KSC - qu S from hlg.s)⟩) hR.sS (fun q _ h => hFc q h) hFc (fun r91 u9 t9 H1 locs ht9 hvm9 hw9 hB9 hz9 hk9 hS => ?_)
                have hR : RepC g ad82 A s U82 H1 locs := hR.call ht9 hB9 hR.w hS hFc
                obtain rfl : r91 = (fX8_targetAt U82 (qO U82 52 0) v82_1 v82_3) := hw9
                clear hB9 hz9 hk9 hvm9 ht9 hS
                generalize H1 = H at hR ⊢
                obtain ⟨a93, ea93⟩ : ∃ z, z = (fX8_targetAt U82 (qO U82 52 0) v82_1 v82_3) := ⟨_, rfl⟩
                rw [← ea93]
                replace h := h a93 ea93
                obtain ⟨Q94, h0, h⟩ := h
                have hFc := cfree hR hA
                refine va_callv (va_runV (As := [.int a93]) (rest := []) ⟨hx, hb, hml, hown, hts⟩ (rX3_begin l g ad82 H.size U82 a93 hR.w  Q94 h0) (cwV 1 hts (gd_V kw_891 kw_857 kw_858 kw_401 kw_856) rfl rfl rfl (by decide +kernel) ⟨Nat.le_of_ble_eq_true rfl, Nat.le_of_ble_eq_true rfl⟩) ⟨cblind, va_recv hR.K hR.P (ci := 3) (q0 := 52) rfl (hR.at43 (hR.w.2.1 _ finC_30).2.1), fun U hU hW9 => cmk hU hW9 hR hex hE hFc⟩ rfl rfl hl.1 rfl (lv_room (Nat.le_of_ble_eq_true rfl)) dX3_findBlocks_97 ⟨(show dc82 + 0 ≤ KCC - qn S from hlg.c), (show ds82 + 0 ≤ KSC - qu S from hlg.s)⟩) hR.sS (fun q _ h => hFc q h) hFc (fun  S95 t9 H1 locs ht9 hvm9 hw9 hB9 hz9 hk9 hS => ?_)
                obtain ⟨hq96, hw9, hs9⟩ := hw9
                have hR : RepC g ad82 A s S95 H1 locs := hR.call ht9 hB9 hw9 hS hFc
                have hsh := hsh.tr hs9.1
                have hlg : lgC S S95 (dc82) (ds82) := hlg.same hs9
                replace h := h  S95 hq96 hw9 hs9
                clear hB9 hz9 hk9 hvm9 ht9 hw9 hs9 hS
                generalize H1 = H at hR ⊢
                obtain ⟨a97, ea97⟩ : ∃ z, z = (v82_3 + Int32.ofInt 1) := ⟨_, rfl⟩
                replace h := h a97 ea97
                refine lv_iinc (v := a97) (lv' := [(3, .int a97), (0, .ref (ad82 52)), (1, .int v82_1), (2, .int v82_2)]) hx hb dX3_findBlocks_100 hl (k := 3) rfl ea97.symm (by decide) rfl (fun ls hl => ?_)
                refine lv_goto (tgt := 82) hx hb dX3_findBlocks_103 (by decide) ?_
                exact ih_82 ad82 (dc82) (ds82) S95 v82_1 v82_2 a97 _ _ ls h  hsh hlg hak hE hR (lv_sub hl [1, 2, 3, 0] rfl)
          obtain ⟨n9, h⟩ := h
          exact J_82 n9 ad60 (dc60) (ds60) U60 v60_1 a69 0 _ _ ls h  hsh hlg hak hE hR (lv_sub hl [2, 3, 1, 0] rfl)
    obtain ⟨n9, h⟩ := h
    exact J_60 n9 ad45 (dc45) (ds45) S10 0 _ _ ls h  hsh hlg hak hE hR (lv_sub hl [1, 0] rfl)
  refine lv_icmp_ge (tgt := 45) hx hb dX3_findBlocks_12 (by decide) (fun c98 => ?_) (fun c98 => ?_)
  · replace h := h.1 (k_le rfl hln2 c98)
    exact J_45 ad (0) (0) S _ _ ls h  hsh hlg hak hE hR (lv_sub hl [0] rfl)
  · replace h := h.2 (k_nle rfl hln2 c98)
    refine lv_aload_n hx hb dX3_findBlocks_15 rfl (lv_at hl 0 rfl) ?_
    refine lv_iconst (v := 2) hx hb dX3_findBlocks_16 (by decide) ?_
    refine lv_aload_n hx hb dX3_findBlocks_17 rfl (lv_at hl 0 rfl) ?_
    obtain ⟨hv100, h⟩ := h
    have hT_b99 : qT S (qO S 52 0) = 47 := hR.w.ref hv100 (hR.w.2.1 _ finC_30).2.1
    refine va_get (D := rD g) (ci := 3) (v := .ref (ad (qO S 52 0))) (C := RX3) (T := TX3) (N := 16) hx hb hts inX3 hown hR.K hR.P 52 (hR.at43 (hR.w.2.1 _ finC_30).2.1) rfl 0 (by decide) (hts _ kw_836) (fun _ h9 => h9) (congrArg (fun z => some (vf ad z)) hv100) dX3_findBlocks_18 ?_
    refine va_get (D := rD g) (ci := 7) (v := .int (qI S (qO S 52 0) 2)) (C := RX8) (T := TX8) (N := 15) hx hb hts inX8 hown hR.K hR.P (qO S 52 0) (hR.at47 hT_b99) rfl 2 (by decide) (hts _ kw_837) (fun _ h9 => h9) rfl dX3_findBlocks_21 ?_
    refine lv_imul hx hb dX3_findBlocks_24 ?_
    refine lv_topi (fun z101 ez101 => ?_)
    obtain rfl : z101 = ((2 : Int32) * (qI S (qO S 52 0) 2)) := ez101
    obtain ⟨hv102, h⟩ := h
    have e9 : KCC = 300000 := rfl
    have e8 : KSC = 3553400 := rfl
    have e7 : TXB = 10000000 := rfl
    have hTX : qn S < TXB := by have := hv102.2.1; omega
    refine va_newa (atype := .int) (ty := .int) (a0 := (((2 : Int32) * (qI S (qO S 52 0) 2)).toInt.toNat, .inl (fun _ => 0))) (N' := ((2 : Int32) * (qI S (qO S 52 0) 2)).toInt.toNat) hx hb (hts (.arrayClass .int) kw_51) rfl hR.K hR.P hR.D hR.sS hA (fun _ => rfl) (fun q9 => absurd (k_lt (b := 0) rfl (by decide) q9) (Int.not_lt.mpr hv102.1)) rfl (by show (((2 : Int32) * (qI S (qO S 52 0) 2)).toInt.toNat) * 4 ≤ 536870912; have := hv102.2.2; omega) (show 0 + 1 ≤ KCC - qn S from hlg.c1 hv102.2.1) (show 0 + (((2 : Int32) * (qI S (qO S 52 0) 2)).toInt.toNat) ≤ KSC - qu S from hlg.s1 hv102.2.2) dX3_findBlocks_25 (fun q103 cA9 H hK9 hP hD hS => ?_)
    obtain rfl := cls_new3 hR.K hK9 (k := 1) rfl (fun _ h => by cases h)
    have hw8 := hR.w
    have hR := hR.new (t := 203) (n := ((2 : Int32) * (qI S (qO S 52 0) 2)).toInt.toNat) (k := ((2 : Int32) * (qI S (qO S 52 0) 2)).toInt.toNat) hTX (by decide) (by have := hv102.2.2; omega) (wN_CI (by decide)) hP hD hS
    have hk8 : adk ad (adx ad (qn S) q103) S := adk.rf.new (Nat.le_refl _) hTX
    have hak := hak.new (q := q103) hlg.2.2.1 hTX
    have hE := hE.ad hk8
    have hlg : lgC S (wN S 203 (((2 : Int32) * (qI S (qO S 52 0) 2)).toInt.toNat) (((2 : Int32) * (qI S (qO S 52 0) 2)).toInt.toNat)) (0 + 1) (0 + (((2 : Int32) * (qI S (qO S 52 0) 2)).toInt.toNat)) := hlg.new (t := 203) (n := ((2 : Int32) * (qI S (qO S 52 0) 2)).toInt.toNat) ⟨hv102.2.1, hv102.2.2⟩
    have hs8 : shx S (wN S 203 (((2 : Int32) * (qI S (qO S 52 0) 2)).toInt.toNat) (((2 : Int32) * (qI S (qO S 52 0) 2)).toInt.toNat)) := shx.newC (t := 203) (n := ((2 : Int32) * (qI S (qO S 52 0) 2)).toInt.toNat) (k := ((2 : Int32) * (qI S (qO S 52 0) 2)).toInt.toNat) shx.rf hw8 hTX
    obtain ⟨am104, eam104⟩ : ∃ z, z = adx ad (qn S) q103 := ⟨_, rfl⟩
    have eq_q103 : am104 (qn S) = q103 := by rw [eam104]; exact if_pos rfl
    rw [← eam104] at hR hk8 hak hE
    obtain ⟨S105, eS105⟩ : ∃ z, z = wN S 203 (((2 : Int32) * (qI S (qO S 52 0) 2)).toInt.toNat) (((2 : Int32) * (qI S (qO S 52 0) 2)).toInt.toNat) := ⟨_, rfl⟩
    rw [← eS105] at hR hlg hs8
    replace h := h S105 eS105 hR.w
    have hsh := hsh.tr hs8
    have hT_b106 : qT S105 (qn S) = 203 := by rw [eS105]; exact if_pos rfl
    have ea_0 : am104 52 = ad 52 := hk8 _ (hw8.hd (hw8.2.1 _ finC_30).2.1 (by decide) (by decide))
    have hl : lv_has ls 4 [(0, .ref (am104 52))] := by simp only [ea_0]; exact hl
    refine W.eq (g2 := F0 m 27 ls [.ref (am104 (qn S)), .ref (am104 52)]) (by simp only [ea_0, eq_q103]) ?_
    clear hw8 hk8 hs8 hP hD hS e9 e8 e7 hTX
    refine va_put (D := rD g) (ci := 3) (v := .ref (am104 (qn S))) (ty := (.array .int)) (C := RX3) (T := TX3) (N := 16) hx hb hts inX3 tyX3 tyX3_ok nmX3 hown hR.K hR.P hR.D hR.sS 52 (hR.at43 (hR.w.2.1 _ finC_30).2.1) rfl 3 (by decide) (hts _ kw_839) (fun _ h9 => h9) rfl (by decide +kernel) rfl rfl (Nat.le_of_ble_eq_true rfl) dX3_findBlocks_27 (fun H locs hP hD hS => ?_)
    have hw9 : wfC (wR S105 52 3 (some (qn S))) := hR.w.put (fun b q9 => by cases q9; exact (hT_b106).trans (by rw [(hR.w.2.1 _ finC_30).2.1]; rfl)) (nofC_52_3) (by rw [(hR.w.2.1 _ finC_30).2.1]; decide) (fun b _ q9 => absurd (show otgC (qT S105 52) 3 = 0 by rw [(hR.w.2.1 _ finC_30).2.1]; decide) q9) (fun _ => Option.some_ne_none _)
    have hTk9 : qT S105 52 = 43 := (hR.w.2.1 _ finC_30).2.1
    have hR : RepC g am104 A s (wR S105 52 3 (some (qn S))) H locs := hR.pR43 (hR.w.2.1 _ finC_30).2.1 FX3_s3 hw9 hP hD hS
    obtain ⟨S107, eS107⟩ : ∃ z, z = wR S105 52 3 (some (qn S)) := ⟨_, rfl⟩
    rw [← eS107] at hR
    replace h := h S107 eS107 hTk9 hR.w
    have hsh : shx S S107 := by rw [eS107]; exact hsh
    have hlg : lgC S S107 (0 + 1) (0 + (((2 : Int32) * (qI S (qO S 52 0) 2)).toInt.toNat)) := by rw [eS107]; exact hlg
    refine lv_aload_n hx hb dX3_findBlocks_30 rfl (lv_at hl 0 rfl) ?_
    refine lv_iconst (v := 2) hx hb dX3_findBlocks_31 (by decide) ?_
    refine lv_aload_n hx hb dX3_findBlocks_32 rfl (lv_at hl 0 rfl) ?_
    obtain ⟨hv109, h⟩ := h
    have hT_b108 : qT S107 (qO S107 52 0) = 47 := hR.w.ref hv109 (hR.w.2.1 _ finC_30).2.1
    refine va_get (D := rD g) (ci := 3) (v := .ref (am104 (qO S107 52 0))) (C := RX3) (T := TX3) (N := 16) hx hb hts inX3 hown hR.K hR.P 52 (hR.at43 (hR.w.2.1 _ finC_30).2.1) rfl 0 (by decide) (hts _ kw_836) (fun _ h9 => h9) (congrArg (fun z => some (vf am104 z)) hv109) dX3_findBlocks_33 ?_
    refine va_get (D := rD g) (ci := 7) (v := .int (qI S107 (qO S107 52 0) 2)) (C := RX8) (T := TX8) (N := 15) hx hb hts inX8 hown hR.K hR.P (qO S107 52 0) (hR.at47 hT_b108) rfl 2 (by decide) (hts _ kw_837) (fun _ h9 => h9) rfl dX3_findBlocks_36 ?_
    refine lv_imul hx hb dX3_findBlocks_39 ?_
    refine lv_topi (fun z110 ez110 => ?_)
    obtain rfl : z110 = ((2 : Int32) * (qI S107 (qO S107 52 0) 2)) := ez110
    obtain ⟨hv111, h⟩ := h
    have e9 : KCC = 300000 := rfl
    have e8 : KSC = 3553400 := rfl
    have e7 : TXB = 10000000 := rfl
    have hTX : qn S107 < TXB := by have := hv111.2.1; omega
    refine va_newa (atype := .int) (ty := .int) (a0 := (((2 : Int32) * (qI S107 (qO S107 52 0) 2)).toInt.toNat, .inl (fun _ => 0))) (N' := ((2 : Int32) * (qI S107 (qO S107 52 0) 2)).toInt.toNat) hx hb (hts (.arrayClass .int) kw_51) rfl hR.K hR.P hR.D hR.sS hA (fun _ => rfl) (fun q9 => absurd (k_lt (b := 0) rfl (by decide) q9) (Int.not_lt.mpr hv111.1)) rfl (by show (((2 : Int32) * (qI S107 (qO S107 52 0) 2)).toInt.toNat) * 4 ≤ 536870912; have := hv111.2.2; omega) (show 0 + 1 + 1 ≤ KCC - qn S from hlg.c1 hv111.2.1) (show 0 + (((2 : Int32) * (qI S (qO S 52 0) 2)).toInt.toNat) + (((2 : Int32) * (qI S107 (qO S107 52 0) 2)).toInt.toNat) ≤ KSC - qu S from hlg.s1 hv111.2.2) dX3_findBlocks_40 (fun q112 cA9 H hK9 hP hD hS => ?_)
    obtain rfl := cls_new3 hR.K hK9 (k := 1) rfl (fun _ h => by cases h)
    have hw8 := hR.w
    have hR := hR.new (t := 202) (n := ((2 : Int32) * (qI S107 (qO S107 52 0) 2)).toInt.toNat) (k := ((2 : Int32) * (qI S107 (qO S107 52 0) 2)).toInt.toNat) hTX (by decide) (by have := hv111.2.2; omega) (wN_CI (by decide)) hP hD hS
    have hk8 : adk am104 (adx am104 (qn S107) q112) S107 := adk.rf.new (Nat.le_refl _) hTX
    have hak := hak.new (q := q112) hlg.2.2.1 hTX
    have hE := hE.ad hk8
    have hlg : lgC S (wN S107 202 (((2 : Int32) * (qI S107 (qO S107 52 0) 2)).toInt.toNat) (((2 : Int32) * (qI S107 (qO S107 52 0) 2)).toInt.toNat)) (0 + 1 + 1) (0 + (((2 : Int32) * (qI S (qO S 52 0) 2)).toInt.toNat) + (((2 : Int32) * (qI S107 (qO S107 52 0) 2)).toInt.toNat)) := hlg.new (t := 202) (n := ((2 : Int32) * (qI S107 (qO S107 52 0) 2)).toInt.toNat) ⟨hv111.2.1, hv111.2.2⟩
    have hs8 : shx S107 (wN S107 202 (((2 : Int32) * (qI S107 (qO S107 52 0) 2)).toInt.toNat) (((2 : Int32) * (qI S107 (qO S107 52 0) 2)).toInt.toNat)) := shx.newC (t := 202) (n := ((2 : Int32) * (qI S107 (qO S107 52 0) 2)).toInt.toNat) (k := ((2 : Int32) * (qI S107 (qO S107 52 0) 2)).toInt.toNat) shx.rf hw8 hTX
    obtain ⟨am113, eam113⟩ : ∃ z, z = adx am104 (qn S107) q112 := ⟨_, rfl⟩
    have eq_q112 : am113 (qn S107) = q112 := by rw [eam113]; exact if_pos rfl
    rw [← eam113] at hR hk8 hak hE
    obtain ⟨S114, eS114⟩ : ∃ z, z = wN S107 202 (((2 : Int32) * (qI S107 (qO S107 52 0) 2)).toInt.toNat) (((2 : Int32) * (qI S107 (qO S107 52 0) 2)).toInt.toNat) := ⟨_, rfl⟩
    rw [← eS114] at hR hlg hs8
    replace h := h S114 eS114 hR.w
    have hsh := hsh.tr hs8
    have hT_b115 : qT S114 (qn S107) = 202 := by rw [eS114]; exact if_pos rfl
    have ea_0 : am113 52 = am104 52 := hk8 _ (hw8.hd (hw8.2.1 _ finC_30).2.1 (by decide) (by decide))
    have hl : lv_has ls 4 [(0, .ref (am113 52))] := by simp only [ea_0]; exact hl
    refine W.eq (g2 := F0 m 42 ls [.ref (am113 (qn S107)), .ref (am113 52)]) (by simp only [ea_0, eq_q112]) ?_
    clear hw8 hk8 hs8 hP hD hS e9 e8 e7 hTX
    refine va_put (D := rD g) (ci := 3) (v := .ref (am113 (qn S107))) (ty := (.array .int)) (C := RX3) (T := TX3) (N := 16) hx hb hts inX3 tyX3 tyX3_ok nmX3 hown hR.K hR.P hR.D hR.sS 52 (hR.at43 (hR.w.2.1 _ finC_30).2.1) rfl 2 (by decide) (hts _ kw_862) (fun _ h9 => h9) rfl (by decide +kernel) rfl rfl (Nat.le_of_ble_eq_true rfl) dX3_findBlocks_42 (fun H locs hP hD hS => ?_)
    have hw9 : wfC (wR S114 52 2 (some (qn S107))) := hR.w.put (fun b q9 => by cases q9; exact (hT_b115).trans (by rw [(hR.w.2.1 _ finC_30).2.1]; rfl)) (nofC_52_2) (by rw [(hR.w.2.1 _ finC_30).2.1]; decide) (fun b _ q9 => absurd (show otgC (qT S114 52) 2 = 0 by rw [(hR.w.2.1 _ finC_30).2.1]; decide) q9) (fun _ => Option.some_ne_none _)
    have hTk9 : qT S114 52 = 43 := (hR.w.2.1 _ finC_30).2.1
    have hR : RepC g am113 A s (wR S114 52 2 (some (qn S107))) H locs := hR.pR43 (hR.w.2.1 _ finC_30).2.1 FX3_s2 hw9 hP hD hS
    obtain ⟨S116, eS116⟩ : ∃ z, z = wR S114 52 2 (some (qn S107)) := ⟨_, rfl⟩
    rw [← eS116] at hR
    replace h := h S116 eS116 hTk9 hR.w
    have hsh : shx S S116 := by rw [eS116]; exact hsh
    have hlg : lgC S S116 (0 + 1 + 1) (0 + (((2 : Int32) * (qI S (qO S 52 0) 2)).toInt.toNat) + (((2 : Int32) * (qI S107 (qO S107 52 0) 2)).toInt.toNat)) := by rw [eS116]; exact hlg
    exact J_45 am113 (0 + 1 + 1) (0 + (((2 : Int32) * (qI S (qO S 52 0) 2)).toInt.toNat) + (((2 : Int32) * (qI S107 (qO S107 52 0) 2)).toInt.toNat)) S116 _ _ ls h  hsh hlg hak hE hR (lv_sub hl [0] rfl)
def w_X3_findEdges_J145 (Q : MS → Prop) (k103 : MS → Int32 → Int32 → Int32 → Int32 → Prop) (U145 : MS) (v145_1 : Int32) (v145_2 : Int32) (v145_3 : Int32) (v145_5 : Int32) : Prop := (wfC U145 → (∀ a43 : Int32, a43 = (v145_5 + Int32.ofInt 1) → k103 U145 v145_1 v145_2 v145_3 a43))
def w_X3_findEdges_L103 (Q : MS → Prop) (k12 : MS → Int32 → Int32 → Prop) : Nat → MS → Int32 → Int32 → Int32 → Int32 → Prop
  | 0, _, _, _, _, _ => False
  | n103 + 1, U103, v103_1, v103_2, v103_3, v103_5 => (wfC U103 → ((qR U103 52 0 = some (qO U103 52 0)) ∧ (((qI U103 (qO U103 52 0) 9).toInt ≤ v103_5.toInt → (∀ a36 : Int32, a36 = (v103_2 + Int32.ofInt 1) → k12 U103 v103_1 a36)) ∧ (¬ (qI U103 (qO U103 52 0) 9).toInt ≤ v103_5.toInt → ((qR U103 52 0 = some (qO U103 52 0)) ∧ (d_X8_catchHas U103 (qO U103 52 0) v103_5 v103_3 ∧ (∀ a42 : Int32, a42 = (fX8_catchHas U103 (qO U103 52 0) v103_5 v103_3) → ((a42.toInt = 0 → w_X3_findEdges_J145 Q (w_X3_findEdges_L103 Q k12 n103) U103 v103_1 v103_2 v103_3 v103_5) ∧ (¬ a42.toInt = 0 → ((qR U103 52 0 = some (qO U103 52 0)) ∧ ((qR U103 (qO U103 52 0) 7 = some (qO U103 (qO U103 52 0) 7)) ∧ (((0 : Int) ≤ v103_5.toInt ∧ v103_5.toInt < (qN U103 (qO U103 (qO U103 52 0) 7) : Int)) ∧ (∃ Q51, wX3_addEdge U103 v103_2 (qI U103 (qO U103 (qO U103 52 0) 7) v103_5.toInt.toNat) v103_1 Q51 ∧ ∀ r52 S53, Q51 r52 S53 → wfC S53 → shx U103 S53 → w_X3_findEdges_J145 Q (w_X3_findEdges_L103 Q k12 n103) S53 r52 v103_2 v103_3 v103_5)))))))))))))
def w_X3_findEdges_L70 (Q : MS → Prop) (k12 : MS → Int32 → Int32 → Prop) : Nat → MS → Int32 → Int32 → Int32 → Int32 → Int32 → Prop
  | 0, _, _, _, _, _, _ => False
  | n70 + 1, U70, v70_1, v70_2, v70_3, v70_4, v70_5 => (wfC U70 → ((v70_4.toInt ≤ v70_5.toInt → (∃ n, w_X3_findEdges_L103 Q k12 n U70 v70_1 v70_2 v70_3 0)) ∧ (¬ v70_4.toInt ≤ v70_5.toInt → ((qR U70 52 0 = some (qO U70 52 0)) ∧ (d_X8_targetAt U70 (qO U70 52 0) v70_3 v70_5 ∧ (∀ a61 : Int32, a61 = (fX8_targetAt U70 (qO U70 52 0) v70_3 v70_5) → (∃ Q62, wX3_addEdge U70 v70_2 a61 v70_1 Q62 ∧ ∀ r63 S64, Q62 r63 S64 → wfC S64 → shx U70 S64 → (∀ a67 : Int32, a67 = (v70_5 + Int32.ofInt 1) → (w_X3_findEdges_L70 Q k12 n70) S64 r63 v70_2 v70_3 v70_4 a67))))))))
def w_X3_findEdges_J57 (Q : MS → Prop) (k12 : MS → Int32 → Int32 → Prop) (U57 : MS) (v57_1 : Int32) (v57_2 : Int32) (v57_3 : Int32) : Prop := (wfC U57 → ((qR U57 52 0 = some (qO U57 52 0)) ∧ (d_X8_targetCount U57 (qO U57 52 0) v57_3 ∧ (∀ a31 : Int32, a31 = (fX8_targetCount U57 (qO U57 52 0) v57_3) → (∃ n, w_X3_findEdges_L70 Q k12 n U57 v57_1 v57_2 v57_3 a31 0)))))
def w_X3_findEdges_L12 (Q : MS → Prop) : Nat → MS → Int32 → Int32 → Prop
  | 0, _, _, _ => False
  | n12 + 1, U12, v12_1, v12_2 => (wfC U12 → (((qI U12 52 1).toInt ≤ v12_2.toInt → (((0 : Int) ≤ (qI U12 52 1).toInt ∧ (qI U12 52 1).toInt < (qN U12 (qO U12 52 4) : Int)) ∧ (∀ S8, S8 = wI U12 (qO U12 52 4) (((qI U12 52 1).toInt).toNat) v12_1 → qT U12 (qO U12 52 4) = 204 → wfC S8 → Q S8))) ∧ (¬ (qI U12 52 1).toInt ≤ v12_2.toInt → (((0 : Int) ≤ v12_2.toInt ∧ v12_2.toInt < (qN U12 (qO U12 52 4) : Int)) ∧ (∀ S11, S11 = wI U12 (qO U12 52 4) v12_2.toInt.toNat v12_1 → qT U12 (qO U12 52 4) = 204 → wfC S11 → (d_X3_lastOf S11 v12_2 ∧ (∀ a15 : Int32, a15 = (fX3_lastOf S11 v12_2) → ((qR S11 52 0 = some (qO S11 52 0)) ∧ (d_X8_opAt S11 (qO S11 52 0) a15 ∧ (∀ a21 : Int32, a21 = (fX8_opAt S11 (qO S11 52 0) a15) → (d_X6_goesOn S11 a21 ∧ (∀ a25 : Int32, a25 = (fX6_goesOn S11 a21) → ((a25.toInt = 0 → w_X3_findEdges_J57 Q (w_X3_findEdges_L12 Q n12) S11 v12_1 v12_2 a15) ∧ (¬ a25.toInt = 0 → (∃ Q70, wX3_addEdge S11 v12_2 (a15 + (1 : Int32)) v12_1 Q70 ∧ ∀ r71 S72, Q70 r71 S72 → wfC S72 → shx S11 S72 → w_X3_findEdges_J57 Q (w_X3_findEdges_L12 Q n12) S72 r71 v12_2 a15)))))))))))))))
def wX3_findEdges (S : MS) (Q : MS → Prop) : Prop := (qT S (qO S 52 14) = 211 → (∃ Q2, wJ7_fill_53178 S (qO S 52 14) (-1 : Int32) Q2 ∧ ∀ S3, Q2 S3 → wfC S3 → shy S S3 → (∃ n, w_X3_findEdges_L12 Q n S3 0 0)))
set_option maxHeartbeats 2000000 in
set_option maxRecDepth 100000 in
theorem rX3_findEdges (l : Launch) (g : Gr) (ad : Nat → Nat) (H0 : Heap) (S : MS) (hw : wfC S) (Q : MS → Prop) (h : wX3_findEdges S Q) : Met l yX3_findEdges (wt yX3_findEdges cX3_findEdges 6 none) ({ frames := 3, cells := KCC - qn S, slots := KSC - qu S, locals := 85 }) (va_Pc [.ref (ad 52)] (st_CH g ad H0 S)) (va_Qv (fun (u : MS × (Nat → Nat)) => Q u.1 ∧ wfC u.1 ∧ shx S u.1 ∧ adk ad u.2 S) (fun (u : MS × (Nat → Nat)) (t : State) => qEHC g (va_A (WdC g ad S) H0.size) S H0 u t) (va_A (WdC g ad S) H0.size)) (KCC - qn S) (KSC - qu S) (va_A (WdC g ad S) H0.size) := by
  refine Met.ofW (cc := cX3_findEdges) (maxL := 6) (ret := none) (by decide) rfl ?_
  intro p e s m args below meth c s₁ B hml hv
  obtain ⟨rfl, hH0, hsz, hP, hK, hD0, hex, hE⟩ := hv
  have hx := B.exec
  have hb := B.bytes
  have hr := B.returns
  have hts0 := atoms_spec (ws := wt yX3_findEdges cX3_findEdges 6 none) B.pre
  have hts : ∀ w ∈ tb, w.before _ s = true := fun w h => hts0 w (List.mem_cons_of_mem _ h)
  have hown : s.vm.findClass RX3 = some m.cls := findClass_of_methodNamed B.named
  subst hH0
  have hD := hD0.self (sz := s.heap.size)
  generalize hAe : va_A (WdC g ad S) s.heap.size = A at hD hE ⊢
  have hA : ∀ q : Nat, s.heap.size ≤ q → A q := fun q h => by rw [← hAe]; exact Or.inr h
  have hR : RepC g ad A s S s.heap [] := ⟨hK, hP, hD, va_S.rf, hw⟩
  clear hK hP hD hD0
  have hl := lv_entry ([.ref (ad 52)]) (n := 6) (Nat.le_of_ble_eq_true rfl)
  rw [lg_entry_eq]
  generalize (lg_sl ([.ref (ad 52)]) ++ List.replicate (6 - (lg_sl ([.ref (ad 52)])).length) Slot.unset).toArray = ls at hl ⊢
  have hlg : lgC S S 0 0 := lgC.rf
  have hak : adk ad ad S := adk.rf
  have hl : lv_has ls 6 [(0, .ref (ad 52))] := hl
  have hsh : shx S S := shx.rf
  unfold wX3_findEdges at h
  refine lv_aload_n hx hb dX3_findEdges_0 rfl (lv_at hl 0 rfl) ?_
  have hT_b1 : qT S (qO S 52 14) = 211 := hR.w.ref (hR.w.ptr ptrC_33) (hR.w.2.1 _ finC_30).2.1
  refine va_get (D := rD g) (ci := 3) (v := .ref (ad (qO S 52 14))) (C := RX3) (T := TX3) (N := 16) hx hb hts inX3 hown hR.K hR.P 52 (hR.at43 (hR.w.2.1 _ finC_30).2.1) rfl 14 (by decide) (hts _ kw_838) (fun _ h9 => h9) (congrArg (fun z => some (vf ad z)) (hR.w.ptr ptrC_33)) dX3_findEdges_1 ?_
  refine lv_iconst (v := (-1)) hx hb dX3_findEdges_4 (by decide) ?_
  replace h := h (hT_b1)
  obtain ⟨Q2, h0, h⟩ := h
  have hFc := cfree hR hA
  refine va_callv (va_runS (As := [.ref (ad (qO S 52 14)), .int (-1)]) (rest := []) ⟨hx, hb, hml, hown, hts⟩ (rJ7_fill_53178 l g ad s.heap.size S (qO S 52 14) (-1 : Int32) hR.w (by decide) hT_b1 Q2 h0) (va_cwS 2 hts (gd_S kw_886 kw_1722 kw_1723 kw_1721) rfl rfl rfl (by decide +kernel) ⟨Nat.le_of_ble_eq_true rfl, Nat.le_of_ble_eq_true rfl⟩) ⟨cblind, fun U hU hW9 => cmk hU hW9 hR hex hE hFc⟩ rfl rfl hl.1 rfl (lv_room (Nat.le_of_ble_eq_true rfl)) dX3_findEdges_5 ⟨(show 0 + 0 ≤ KCC - qn S from hlg.c), (show 0 + 0 ≤ KSC - qu S from hlg.s)⟩) hR.sS (fun q _ h => hFc q h) hFc (fun  S3 t9 H1 locs ht9 hvm9 hw9 hB9 hz9 hk9 hS => ?_)
  obtain ⟨hq4, hw9, hs9⟩ := hw9
  have hR : RepC g ad A s S3 H1 locs := hR.call ht9 hB9 hw9 hS hFc
  have hsh := hsh.tr hs9.1
  have hlg : lgC S S3 (0) (0) := hlg.same hs9
  replace h := h  S3 hq4 hw9 hs9
  clear hB9 hz9 hk9 hvm9 ht9 hw9 hs9 hS
  generalize H1 = H at hR ⊢
  refine lv_iconst (v := 0) hx hb dX3_findEdges_8 (by decide) ?_
  refine lv_istore_n (lv' := [(1, .int 0), (0, .ref (ad 52))]) hx hb dX3_findEdges_9 rfl hl (by decide) rfl (fun ls hl => ?_)
  refine lv_iconst (v := 0) hx hb dX3_findEdges_10 (by decide) ?_
  refine lv_istore_n (lv' := [(2, .int 0), (1, .int 0), (0, .ref (ad 52))]) hx hb dX3_findEdges_11 rfl hl (by decide) rfl (fun ls hl => ?_)
  have J_12 : ∀ (n12 : Nat) (ad12 : Nat → Nat) (dc12 ds12 : Nat) (U12 : MS) (v12_1 : Int32) (v12_2 : Int32) (H : Heap) (locs : List Loc) (ls : Array Slot), w_X3_findEdges_L12 Q n12 U12 v12_1 v12_2 → shx S U12 → lgC S U12 dc12 ds12 → adk ad ad12 S → ogC ad12 A s s.heap → RepC g ad12 A s U12 H locs → lv_has ls 6 [(0, .ref (ad12 52)), (1, .int v12_1), (2, .int v12_2)] → W p l e (headSpec (wt yX3_findEdges cX3_findEdges 6 none) ({ frames := 3, cells := KCC - qn S, slots := KSC - qu S, locals := 85 })).room s m ([.ref (ad 52)] : List Value).toArray below meth c H locs dc12 ds12 (MQ below (va_Qv (fun (u : MS × (Nat → Nat)) => Q u.1 ∧ wfC u.1 ∧ shx S u.1 ∧ adk ad u.2 S) (fun (u : MS × (Nat → Nat)) (t : State) => qEHC g A S s.heap u t) A) ([.ref (ad 52)] : List Value).toArray s (KCC - qn S) (KSC - qu S) A) (F0 m 12 ls []) := by
    intro n12
    induction n12 with
    | zero => intro ad12 dc12 ds12 U12 v12_1 v12_2 H locs ls h hsh hlg hak hE hR hl; unfold w_X3_findEdges_L12 at h; exact h.elim
    | succ n12 ih_12 =>
      intro ad12 dc12 ds12 U12 v12_1 v12_2 H locs ls h hsh hlg hak hE hR hl
      unfold w_X3_findEdges_L12 at h
      replace h := h hR.w
      refine lv_iload_n hx hb dX3_findEdges_12 rfl (lv_at hl 2 rfl) ?_
      refine lv_aload_n hx hb dX3_findEdges_13 rfl (lv_at hl 0 rfl) ?_
      refine va_get (D := rD g) (ci := 3) (v := .int (qI U12 52 1)) (C := RX3) (T := TX3) (N := 16) hx hb hts inX3 hown hR.K hR.P 52 (hR.at43 (hR.w.2.1 _ finC_30).2.1) rfl 1 (by decide) (hts _ kw_851) (fun _ h9 => h9) rfl dX3_findEdges_14 ?_
      refine lv_icmp_ge (tgt := 157) hx hb dX3_findEdges_17 (by decide) (fun c5 => ?_) (fun c5 => ?_)
      · replace h := h.1 (k_le rfl rfl c5)
        refine lv_aload_n hx hb dX3_findEdges_157 rfl (lv_at hl 0 rfl) ?_
        have hT_b6 : qT U12 (qO U12 52 4) = 204 := hR.w.ref (hR.w.ptr ptrC_24) (hR.w.2.1 _ finC_30).2.1
        refine va_get (D := rD g) (ci := 3) (v := .ref (ad12 (qO U12 52 4))) (C := RX3) (T := TX3) (N := 16) hx hb hts inX3 hown hR.K hR.P 52 (hR.at43 (hR.w.2.1 _ finC_30).2.1) rfl 4 (by decide) (hts _ kw_885) (fun _ h9 => h9) (congrArg (fun z => some (vf ad12 z)) (hR.w.ptr ptrC_24)) dX3_findEdges_158 ?_
        refine lv_aload_n hx hb dX3_findEdges_161 rfl (lv_at hl 0 rfl) ?_
        refine va_get (D := rD g) (ci := 3) (v := .int (qI U12 52 1)) (C := RX3) (T := TX3) (N := 16) hx hb hts inX3 hown hR.K hR.P 52 (hR.at43 (hR.w.2.1 _ finC_30).2.1) rfl 1 (by decide) (hts _ kw_851) (fun _ h9 => h9) rfl dX3_findEdges_162 ?_
        refine lv_iload_n hx hb dX3_findEdges_165 rfl (lv_at hl 1 rfl) ?_
        obtain ⟨hv7, h⟩ := h
        refine va_iast hx hb hR.K hR.P hR.D hR.sS (qO U12 52 4) 1 (hR.atI hT_b6 (by decide)) rfl (k_ix (x := (qI U12 52 1)) (a := (qI U12 52 1).toInt) rfl hv7) dX3_findEdges_166 (fun H locs hP hD hS => ?_)
        have hTk9 : qT U12 (qO U12 52 4) = 204 := hT_b6
        have hR : RepC g ad12 A s (wI U12 (qO U12 52 4) (((qI U12 52 1).toInt).toNat) v12_1) H locs := hR.aI hT_b6 (by decide) hP hD hS
        obtain ⟨S8, eS8⟩ : ∃ z, z = wI U12 (qO U12 52 4) (((qI U12 52 1).toInt).toNat) v12_1 := ⟨_, rfl⟩
        rw [← eS8] at hR
        replace h := h S8 eS8 hTk9 hR.w
        have hsh : shx S S8 := by rw [eS8]; exact hsh
        have hlg : lgC S S8 (dc12) (ds12) := by rw [eS8]; exact hlg
        refine W_led2 (fun hLd => ?_)
        refine W.widen (k := KCC - qn S) (n := KSC - qu S) hlg.c hlg.s ?_
        exact W.vret hx hb hr (fun t9 ht9 hW9 => ⟨⟨(S8, ad12), rfl, ⟨h, hR.w, hsh, hak⟩, ⟨⟨by rw [ht9]; exact hR.P, hR.D⟩, _, _, by rw [ht9]; exact hLd, hlg⟩⟩, hR.sS.F ht9⟩) hR.sS.2.2 dX3_findEdges_167
      · replace h := h.2 (k_nle rfl rfl c5)
        refine lv_aload_n hx hb dX3_findEdges_20 rfl (lv_at hl 0 rfl) ?_
        have hT_b9 : qT U12 (qO U12 52 4) = 204 := hR.w.ref (hR.w.ptr ptrC_24) (hR.w.2.1 _ finC_30).2.1
        refine va_get (D := rD g) (ci := 3) (v := .ref (ad12 (qO U12 52 4))) (C := RX3) (T := TX3) (N := 16) hx hb hts inX3 hown hR.K hR.P 52 (hR.at43 (hR.w.2.1 _ finC_30).2.1) rfl 4 (by decide) (hts _ kw_885) (fun _ h9 => h9) (congrArg (fun z => some (vf ad12 z)) (hR.w.ptr ptrC_24)) dX3_findEdges_21 ?_
        refine lv_iload_n hx hb dX3_findEdges_24 rfl (lv_at hl 2 rfl) ?_
        refine lv_iload_n hx hb dX3_findEdges_25 rfl (lv_at hl 1 rfl) ?_
        obtain ⟨hv10, h⟩ := h
        refine va_iast hx hb hR.K hR.P hR.D hR.sS (qO U12 52 4) 1 (hR.atI hT_b9 (by decide)) rfl (k_ix (x := v12_2) (a := v12_2.toInt) rfl hv10) dX3_findEdges_26 (fun H locs hP hD hS => ?_)
        have hTk9 : qT U12 (qO U12 52 4) = 204 := hT_b9
        have hR : RepC g ad12 A s (wI U12 (qO U12 52 4) v12_2.toInt.toNat v12_1) H locs := hR.aI hT_b9 (by decide) hP hD hS
        obtain ⟨S11, eS11⟩ : ∃ z, z = wI U12 (qO U12 52 4) v12_2.toInt.toNat v12_1 := ⟨_, rfl⟩
        rw [← eS11] at hR
        replace h := h S11 eS11 hTk9 hR.w
        have hsh : shx S S11 := by rw [eS11]; exact hsh
        have hlg : lgC S S11 (dc12) (ds12) := by rw [eS11]; exact hlg
        refine lv_aload_n hx hb dX3_findEdges_27 rfl (lv_at hl 0 rfl) ?_
        refine lv_iload_n hx hb dX3_findEdges_28 rfl (lv_at hl 2 rfl) ?_
        obtain ⟨hv12, h⟩ := h
        have hFc := cfree hR hA
        refine va_calli (va_runV (As := [.int v12_2]) (rest := []) ⟨hx, hb, hml, hown, hts⟩ (rX3_lastOf l g ad12 H.size S11 v12_2 hR.w  hv12) (cwV 1 hts (gd_V kw_912 kw_933 kw_934 kw_401 kw_932) rfl rfl rfl (by decide +kernel) ⟨Nat.le_of_ble_eq_true rfl, Nat.le_of_ble_eq_true rfl⟩) ⟨cblind, va_recv hR.K hR.P (ci := 3) (q0 := 52) rfl (hR.at43 (hR.w.2.1 _ finC_30).2.1), fun U hU hW9 => cmk hU hW9 hR hex hE hFc⟩ rfl rfl hl.1 rfl (lv_room (Nat.le_of_ble_eq_true rfl)) dX3_findEdges_29 ⟨(show dc12 + 0 ≤ KCC - qn S from hlg.c), (show ds12 + 0 ≤ KSC - qu S from hlg.s)⟩) hR.sS (fun q _ h => hFc q h) hFc (fun r13 u9 t9 H1 locs ht9 hvm9 hw9 hB9 hz9 hk9 hS => ?_)
        have hR : RepC g ad12 A s S11 H1 locs := hR.call ht9 hB9 hR.w hS hFc
        obtain rfl : r13 = (fX3_lastOf S11 v12_2) := hw9
        clear hB9 hz9 hk9 hvm9 ht9 hS
        generalize H1 = H at hR ⊢
        obtain ⟨a15, ea15⟩ : ∃ z, z = (fX3_lastOf S11 v12_2) := ⟨_, rfl⟩
        rw [← ea15]
        replace h := h a15 ea15
        refine lv_istore_n (lv' := [(3, .int a15), (0, .ref (ad12 52)), (1, .int v12_1), (2, .int v12_2)]) hx hb dX3_findEdges_32 rfl hl (by decide) rfl (fun ls hl => ?_)
        refine lv_aload_n hx hb dX3_findEdges_33 rfl (lv_at hl 1 rfl) ?_
        obtain ⟨hv17, h⟩ := h
        have hT_b16 : qT S11 (qO S11 52 0) = 47 := hR.w.ref hv17 (hR.w.2.1 _ finC_30).2.1
        refine va_get (D := rD g) (ci := 3) (v := .ref (ad12 (qO S11 52 0))) (C := RX3) (T := TX3) (N := 16) hx hb hts inX3 hown hR.K hR.P 52 (hR.at43 (hR.w.2.1 _ finC_30).2.1) rfl 0 (by decide) (hts _ kw_836) (fun _ h9 => h9) (congrArg (fun z => some (vf ad12 z)) hv17) dX3_findEdges_34 ?_
        refine lv_iload_n hx hb dX3_findEdges_37 rfl (lv_at hl 0 rfl) ?_
        obtain ⟨hv18, h⟩ := h
        have hFc := cfree hR hA
        refine va_calli (va_runV (As := [.int a15]) (rest := []) ⟨hx, hb, hml, hown, hts⟩ (rX8_opAt l g ad12 H.size S11 (qO S11 52 0) a15 hR.w hT_b16 hv18) (cwV 1 hts (gd_V kw_894 kw_1513 kw_1514 kw_782 kw_1512) rfl rfl rfl (by decide +kernel) ⟨Nat.le_of_ble_eq_true rfl, Nat.le_of_ble_eq_true rfl⟩) ⟨cblind, va_recv hR.K hR.P (ci := 7) (q0 := (qO S11 52 0)) rfl (hR.at47 hT_b16), fun U hU hW9 => cmk hU hW9 hR hex hE hFc⟩ rfl rfl hl.1 rfl (lv_room (Nat.le_of_ble_eq_true rfl)) dX3_findEdges_38 ⟨(show dc12 + 0 ≤ KCC - qn S from hlg.c), (show ds12 + 0 ≤ KSC - qu S from hlg.s)⟩) hR.sS (fun q _ h => hFc q h) hFc (fun r19 u9 t9 H1 locs ht9 hvm9 hw9 hB9 hz9 hk9 hS => ?_)
        have hR : RepC g ad12 A s S11 H1 locs := hR.call ht9 hB9 hR.w hS hFc
        obtain rfl : r19 = (fX8_opAt S11 (qO S11 52 0) a15) := hw9
        clear hB9 hz9 hk9 hvm9 ht9 hS
        generalize H1 = H at hR ⊢
        obtain ⟨a21, ea21⟩ : ∃ z, z = (fX8_opAt S11 (qO S11 52 0) a15) := ⟨_, rfl⟩
        rw [← ea21]
        replace h := h a21 ea21
        obtain ⟨hv22, h⟩ := h
        have hFc := cfree hR hA
        refine va_calli (va_runS (As := [.int a21]) (rest := []) ⟨hx, hb, hml, hown, hts⟩ (rX6_goesOn l g ad12 H.size S11 a21 hR.w  hv22) (va_cwS 1 hts (gd_S kw_895 kw_1219 kw_1207 kw_1218) rfl rfl rfl (by decide +kernel) ⟨Nat.le_of_ble_eq_true rfl, Nat.le_of_ble_eq_true rfl⟩) ⟨cblind, fun U hU hW9 => cmk hU hW9 hR hex hE hFc⟩ rfl rfl hl.1 rfl (lv_room (Nat.le_of_ble_eq_true rfl)) dX3_findEdges_41 ⟨(show dc12 + 0 ≤ KCC - qn S from hlg.c), (show ds12 + 0 ≤ KSC - qu S from hlg.s)⟩) hR.sS (fun q _ h => hFc q h) hFc (fun r23 u9 t9 H1 locs ht9 hvm9 hw9 hB9 hz9 hk9 hS => ?_)
        have hR : RepC g ad12 A s S11 H1 locs := hR.call ht9 hB9 hR.w hS hFc
        obtain ⟨rfl, hz_r23⟩ := hw9
        clear hB9 hz9 hk9 hvm9 ht9 hS
        generalize H1 = H at hR ⊢
        obtain ⟨a25, ea25⟩ : ∃ z, z = (fX6_goesOn S11 a21) := ⟨_, rfl⟩
        rw [← ea25]
        replace h := h a25 ea25
        rw [← ea25] at hz_r23
        have J_57 : ∀ (ad57 : Nat → Nat) (dc57 ds57 : Nat) (U57 : MS) (v57_1 : Int32) (v57_2 : Int32) (v57_3 : Int32) (H : Heap) (locs : List Loc) (ls : Array Slot), w_X3_findEdges_J57 Q (w_X3_findEdges_L12 Q n12) U57 v57_1 v57_2 v57_3 → shx S U57 → lgC S U57 dc57 ds57 → adk ad ad57 S → ogC ad57 A s s.heap → RepC g ad57 A s U57 H locs → lv_has ls 6 [(0, .ref (ad57 52)), (1, .int v57_1), (2, .int v57_2), (3, .int v57_3)] → W p l e (headSpec (wt yX3_findEdges cX3_findEdges 6 none) ({ frames := 3, cells := KCC - qn S, slots := KSC - qu S, locals := 85 })).room s m ([.ref (ad 52)] : List Value).toArray below meth c H locs dc57 ds57 (MQ below (va_Qv (fun (u : MS × (Nat → Nat)) => Q u.1 ∧ wfC u.1 ∧ shx S u.1 ∧ adk ad u.2 S) (fun (u : MS × (Nat → Nat)) (t : State) => qEHC g A S s.heap u t) A) ([.ref (ad 52)] : List Value).toArray s (KCC - qn S) (KSC - qu S) A) (F0 m 57 ls []) := by
          intro ad57 dc57 ds57 U57 v57_1 v57_2 v57_3 H locs ls h hsh hlg hak hE hR hl
          unfold w_X3_findEdges_J57 at h
          replace h := h hR.w
          refine lv_aload_n hx hb dX3_findEdges_57 rfl (lv_at hl 0 rfl) ?_
          obtain ⟨hv27, h⟩ := h
          have hT_b26 : qT U57 (qO U57 52 0) = 47 := hR.w.ref hv27 (hR.w.2.1 _ finC_30).2.1
          refine va_get (D := rD g) (ci := 3) (v := .ref (ad57 (qO U57 52 0))) (C := RX3) (T := TX3) (N := 16) hx hb hts inX3 hown hR.K hR.P 52 (hR.at43 (hR.w.2.1 _ finC_30).2.1) rfl 0 (by decide) (hts _ kw_836) (fun _ h9 => h9) (congrArg (fun z => some (vf ad57 z)) hv27) dX3_findEdges_58 ?_
          refine lv_iload_n hx hb dX3_findEdges_61 rfl (lv_at hl 3 rfl) ?_
          obtain ⟨hv28, h⟩ := h
          have hFc := cfree hR hA
          refine va_calli (va_runV (As := [.int v57_3]) (rest := []) ⟨hx, hb, hml, hown, hts⟩ (rX8_targetCount l g ad57 H.size U57 (qO U57 52 0) v57_3 hR.w hT_b26 hv28) (cwV 1 hts (gd_V kw_892 kw_1541 kw_1542 kw_782 kw_1540) rfl rfl rfl (by decide +kernel) ⟨Nat.le_of_ble_eq_true rfl, Nat.le_of_ble_eq_true rfl⟩) ⟨cblind, va_recv hR.K hR.P (ci := 7) (q0 := (qO U57 52 0)) rfl (hR.at47 hT_b26), fun U hU hW9 => cmk hU hW9 hR hex hE hFc⟩ rfl rfl hl.1 rfl (lv_room (Nat.le_of_ble_eq_true rfl)) dX3_findEdges_62 ⟨(show dc57 + 0 ≤ KCC - qn S from hlg.c), (show ds57 + 0 ≤ KSC - qu S from hlg.s)⟩) hR.sS (fun q _ h => hFc q h) hFc (fun r29 u9 t9 H1 locs ht9 hvm9 hw9 hB9 hz9 hk9 hS => ?_)
          have hR : RepC g ad57 A s U57 H1 locs := hR.call ht9 hB9 hR.w hS hFc
          obtain rfl : r29 = (fX8_targetCount U57 (qO U57 52 0) v57_3) := hw9
          clear hB9 hz9 hk9 hvm9 ht9 hS
          generalize H1 = H at hR ⊢
          obtain ⟨a31, ea31⟩ : ∃ z, z = (fX8_targetCount U57 (qO U57 52 0) v57_3) := ⟨_, rfl⟩
          rw [← ea31]
          replace h := h a31 ea31
          refine lv_istore (lv' := [(4, .int a31), (0, .ref (ad57 52)), (1, .int v57_1), (2, .int v57_2), (3, .int v57_3)]) hx hb dX3_findEdges_65 hl (by decide) rfl (fun ls hl => ?_)
          refine lv_iconst (v := 0) hx hb dX3_findEdges_67 (by decide) ?_
          refine lv_istore (lv' := [(5, .int 0), (4, .int a31), (0, .ref (ad57 52)), (1, .int v57_1), (2, .int v57_2), (3, .int v57_3)]) hx hb dX3_findEdges_68 hl (by decide) rfl (fun ls hl => ?_)
          have J_70 : ∀ (n70 : Nat) (ad70 : Nat → Nat) (dc70 ds70 : Nat) (U70 : MS) (v70_1 : Int32) (v70_2 : Int32) (v70_3 : Int32) (v70_4 : Int32) (v70_5 : Int32) (H : Heap) (locs : List Loc) (ls : Array Slot), w_X3_findEdges_L70 Q (w_X3_findEdges_L12 Q n12) n70 U70 v70_1 v70_2 v70_3 v70_4 v70_5 → shx S U70 → lgC S U70 dc70 ds70 → adk ad ad70 S → ogC ad70 A s s.heap → RepC g ad70 A s U70 H locs → lv_has ls 6 [(0, .ref (ad70 52)), (1, .int v70_1), (2, .int v70_2), (3, .int v70_3), (4, .int v70_4), (5, .int v70_5)] → W p l e (headSpec (wt yX3_findEdges cX3_findEdges 6 none) ({ frames := 3, cells := KCC - qn S, slots := KSC - qu S, locals := 85 })).room s m ([.ref (ad 52)] : List Value).toArray below meth c H locs dc70 ds70 (MQ below (va_Qv (fun (u : MS × (Nat → Nat)) => Q u.1 ∧ wfC u.1 ∧ shx S u.1 ∧ adk ad u.2 S) (fun (u : MS × (Nat → Nat)) (t : State) => qEHC g A S s.heap u t) A) ([.ref (ad 52)] : List Value).toArray s (KCC - qn S) (KSC - qu S) A) (F0 m 70 ls []) := by
            intro n70
            induction n70 with
            | zero => intro ad70 dc70 ds70 U70 v70_1 v70_2 v70_3 v70_4 v70_5 H locs ls h hsh hlg hak hE hR hl; unfold w_X3_findEdges_L70 at h; exact h.elim
            | succ n70 ih_70 =>
              intro ad70 dc70 ds70 U70 v70_1 v70_2 v70_3 v70_4 v70_5 H locs ls h hsh hlg hak hE hR hl
              unfold w_X3_findEdges_L70 at h
              replace h := h hR.w
              refine lv_iload hx hb dX3_findEdges_70 (lv_at hl 5 rfl) ?_
              refine lv_iload hx hb dX3_findEdges_72 (lv_at hl 4 rfl) ?_
              refine lv_icmp_ge (tgt := 100) hx hb dX3_findEdges_74 (by decide) (fun c32 => ?_) (fun c32 => ?_)
              · replace h := h.1 (k_le rfl rfl c32)
                refine lv_iconst (v := 0) hx hb dX3_findEdges_100 (by decide) ?_
                refine lv_istore (lv' := [(5, .int 0), (0, .ref (ad70 52)), (1, .int v70_1), (2, .int v70_2), (3, .int v70_3), (4, .int v70_4)]) hx hb dX3_findEdges_101 hl (by decide) rfl (fun ls hl => ?_)
                have J_103 : ∀ (n103 : Nat) (ad103 : Nat → Nat) (dc103 ds103 : Nat) (U103 : MS) (v103_1 : Int32) (v103_2 : Int32) (v103_3 : Int32) (v103_5 : Int32) (H : Heap) (locs : List Loc) (ls : Array Slot), w_X3_findEdges_L103 Q (w_X3_findEdges_L12 Q n12) n103 U103 v103_1 v103_2 v103_3 v103_5 → shx S U103 → lgC S U103 dc103 ds103 → adk ad ad103 S → ogC ad103 A s s.heap → RepC g ad103 A s U103 H locs → lv_has ls 6 [(0, .ref (ad103 52)), (1, .int v103_1), (2, .int v103_2), (3, .int v103_3), (5, .int v103_5)] → W p l e (headSpec (wt yX3_findEdges cX3_findEdges 6 none) ({ frames := 3, cells := KCC - qn S, slots := KSC - qu S, locals := 85 })).room s m ([.ref (ad 52)] : List Value).toArray below meth c H locs dc103 ds103 (MQ below (va_Qv (fun (u : MS × (Nat → Nat)) => Q u.1 ∧ wfC u.1 ∧ shx S u.1 ∧ adk ad u.2 S) (fun (u : MS × (Nat → Nat)) (t : State) => qEHC g A S s.heap u t) A) ([.ref (ad 52)] : List Value).toArray s (KCC - qn S) (KSC - qu S) A) (F0 m 103 ls []) := by
                  intro n103
                  induction n103 with
                  | zero => intro ad103 dc103 ds103 U103 v103_1 v103_2 v103_3 v103_5 H locs ls h hsh hlg hak hE hR hl; unfold w_X3_findEdges_L103 at h; exact h.elim
                  | succ n103 ih_103 =>
                    intro ad103 dc103 ds103 U103 v103_1 v103_2 v103_3 v103_5 H locs ls h hsh hlg hak hE hR hl
                    unfold w_X3_findEdges_L103 at h
                    replace h := h hR.w
                    refine lv_iload hx hb dX3_findEdges_103 (lv_at hl 4 rfl) ?_
                    refine lv_aload_n hx hb dX3_findEdges_105 rfl (lv_at hl 0 rfl) ?_
                    obtain ⟨hv34, h⟩ := h
                    have hT_b33 : qT U103 (qO U103 52 0) = 47 := hR.w.ref hv34 (hR.w.2.1 _ finC_30).2.1
                    refine va_get (D := rD g) (ci := 3) (v := .ref (ad103 (qO U103 52 0))) (C := RX3) (T := TX3) (N := 16) hx hb hts inX3 hown hR.K hR.P 52 (hR.at43 (hR.w.2.1 _ finC_30).2.1) rfl 0 (by decide) (hts _ kw_836) (fun _ h9 => h9) (congrArg (fun z => some (vf ad103 z)) hv34) dX3_findEdges_106 ?_
                    refine va_get (D := rD g) (ci := 7) (v := .int (qI U103 (qO U103 52 0) 9)) (C := RX8) (T := TX8) (N := 15) hx hb hts inX8 hown hR.K hR.P (qO U103 52 0) (hR.at47 hT_b33) rfl 9 (by decide) (hts _ kw_896) (fun _ h9 => h9) rfl dX3_findEdges_109 ?_
                    refine lv_icmp_ge (tgt := 151) hx hb dX3_findEdges_112 (by decide) (fun c35 => ?_) (fun c35 => ?_)
                    · replace h := h.1 (k_le rfl rfl c35)
                      obtain ⟨a36, ea36⟩ : ∃ z, z = (v103_2 + Int32.ofInt 1) := ⟨_, rfl⟩
                      replace h := h a36 ea36
                      refine lv_iinc (v := a36) (lv' := [(2, .int a36), (0, .ref (ad103 52)), (1, .int v103_1), (3, .int v103_3), (5, .int v103_5)]) hx hb dX3_findEdges_151 hl (k := 2) rfl ea36.symm (by decide) rfl (fun ls hl => ?_)
                      refine lv_goto (tgt := 12) hx hb dX3_findEdges_154 (by decide) ?_
                      exact ih_12 ad103 (dc103) (ds103) U103 v103_1 a36 _ _ ls h  hsh hlg hak hE hR (lv_sub hl [1, 2, 0] rfl)
                    · replace h := h.2 (k_nle rfl rfl c35)
                      refine lv_aload_n hx hb dX3_findEdges_115 rfl (lv_at hl 0 rfl) ?_
                      obtain ⟨hv38, h⟩ := h
                      have hT_b37 : qT U103 (qO U103 52 0) = 47 := hR.w.ref hv38 (hR.w.2.1 _ finC_30).2.1
                      refine va_get (D := rD g) (ci := 3) (v := .ref (ad103 (qO U103 52 0))) (C := RX3) (T := TX3) (N := 16) hx hb hts inX3 hown hR.K hR.P 52 (hR.at43 (hR.w.2.1 _ finC_30).2.1) rfl 0 (by decide) (hts _ kw_836) (fun _ h9 => h9) (congrArg (fun z => some (vf ad103 z)) hv38) dX3_findEdges_116 ?_
                      refine lv_iload hx hb dX3_findEdges_119 (lv_at hl 4 rfl) ?_
                      refine lv_iload_n hx hb dX3_findEdges_121 rfl (lv_at hl 3 rfl) ?_
                      obtain ⟨hv39, h⟩ := h
                      have hFc := cfree hR hA
                      refine va_calli (va_runV (As := [.int v103_5, .int v103_3]) (rest := []) ⟨hx, hb, hml, hown, hts⟩ (rX8_catchHas l g ad103 H.size U103 (qO U103 52 0) v103_5 v103_3 hR.w hT_b37 hv39) (cwV 2 hts (gd_V kw_914 kw_1483 kw_1484 kw_782 kw_1482) rfl rfl rfl (by decide +kernel) ⟨Nat.le_of_ble_eq_true rfl, Nat.le_of_ble_eq_true rfl⟩) ⟨cblind, va_recv hR.K hR.P (ci := 7) (q0 := (qO U103 52 0)) rfl (hR.at47 hT_b37), fun U hU hW9 => cmk hU hW9 hR hex hE hFc⟩ rfl rfl hl.1 rfl (lv_room (Nat.le_of_ble_eq_true rfl)) dX3_findEdges_122 ⟨(show dc103 + 0 ≤ KCC - qn S from hlg.c), (show ds103 + 0 ≤ KSC - qu S from hlg.s)⟩) hR.sS (fun q _ h => hFc q h) hFc (fun r40 u9 t9 H1 locs ht9 hvm9 hw9 hB9 hz9 hk9 hS => ?_)
                      have hR : RepC g ad103 A s U103 H1 locs := hR.call ht9 hB9 hR.w hS hFc
                      obtain ⟨rfl, hz_r40⟩ := hw9
                      clear hB9 hz9 hk9 hvm9 ht9 hS
                      generalize H1 = H at hR ⊢
                      obtain ⟨a42, ea42⟩ : ∃ z, z = (fX8_catchHas U103 (qO U103 52 0) v103_5 v103_3) := ⟨_, rfl⟩
                      rw [← ea42]
                      replace h := h a42 ea42
                      rw [← ea42] at hz_r40
                      have J_145 : ∀ (ad145 : Nat → Nat) (dc145 ds145 : Nat) (U145 : MS) (v145_1 : Int32) (v145_2 : Int32) (v145_3 : Int32) (v145_5 : Int32) (H : Heap) (locs : List Loc) (ls : Array Slot), w_X3_findEdges_J145 Q (w_X3_findEdges_L103 Q (w_X3_findEdges_L12 Q n12) n103) U145 v145_1 v145_2 v145_3 v145_5 → shx S U145 → lgC S U145 dc145 ds145 → adk ad ad145 S → ogC ad145 A s s.heap → RepC g ad145 A s U145 H locs → lv_has ls 6 [(0, .ref (ad145 52)), (1, .int v145_1), (2, .int v145_2), (3, .int v145_3), (5, .int v145_5)] → W p l e (headSpec (wt yX3_findEdges cX3_findEdges 6 none) ({ frames := 3, cells := KCC - qn S, slots := KSC - qu S, locals := 85 })).room s m ([.ref (ad 52)] : List Value).toArray below meth c H locs dc145 ds145 (MQ below (va_Qv (fun (u : MS × (Nat → Nat)) => Q u.1 ∧ wfC u.1 ∧ shx S u.1 ∧ adk ad u.2 S) (fun (u : MS × (Nat → Nat)) (t : State) => qEHC g A S s.heap u t) A) ([.ref (ad 52)] : List Value).toArray s (KCC - qn S) (KSC - qu S) A) (F0 m 145 ls []) := by
                        intro ad145 dc145 ds145 U145 v145_1 v145_2 v145_3 v145_5 H locs ls h hsh hlg hak hE hR hl
                        unfold w_X3_findEdges_J145 at h
                        replace h := h hR.w
                        obtain ⟨a43, ea43⟩ : ∃ z, z = (v145_5 + Int32.ofInt 1) := ⟨_, rfl⟩
                        replace h := h a43 ea43
                        refine lv_iinc (v := a43) (lv' := [(5, .int a43), (0, .ref (ad145 52)), (1, .int v145_1), (2, .int v145_2), (3, .int v145_3)]) hx hb dX3_findEdges_145 hl (k := 4) rfl ea43.symm (by decide) rfl (fun ls hl => ?_)
                        refine lv_goto (tgt := 103) hx hb dX3_findEdges_148 (by decide) ?_
                        exact ih_103 ad145 (dc145) (ds145) U145 v145_1 v145_2 v145_3 a43 _ _ ls h  hsh hlg hak hE hR (lv_sub hl [1, 2, 3, 4, 0] rfl)
                      refine lv_if_eq (tgt := 145) hx hb dX3_findEdges_125 (by decide) (fun c44 => ?_) (fun c44 => ?_)
                      · replace h := h.1 (k_eq rfl (by decide) c44)
                        exact J_145 ad103 (dc103) (ds103) U103 v103_1 v103_2 v103_3 v103_5 _ _ ls h  hsh hlg hak hE hR (lv_sub hl [0, 1, 2, 3, 4] rfl)
                      · replace h := h.2 (k_ne rfl (by decide) c44)
                        refine lv_aload_n hx hb dX3_findEdges_128 rfl (lv_at hl 0 rfl) ?_
                        refine lv_iload_n hx hb dX3_findEdges_129 rfl (lv_at hl 2 rfl) ?_
                        refine lv_aload_n hx hb dX3_findEdges_130 rfl (lv_at hl 0 rfl) ?_
                        obtain ⟨hv46, h⟩ := h
                        have hT_b45 : qT U103 (qO U103 52 0) = 47 := hR.w.ref hv46 (hR.w.2.1 _ finC_30).2.1
                        refine va_get (D := rD g) (ci := 3) (v := .ref (ad103 (qO U103 52 0))) (C := RX3) (T := TX3) (N := 16) hx hb hts inX3 hown hR.K hR.P 52 (hR.at43 (hR.w.2.1 _ finC_30).2.1) rfl 0 (by decide) (hts _ kw_836) (fun _ h9 => h9) (congrArg (fun z => some (vf ad103 z)) hv46) dX3_findEdges_131 ?_
                        obtain ⟨hv48, h⟩ := h
                        have hT_b47 : qT U103 (qO U103 (qO U103 52 0) 7) = 226 := hR.w.ref hv48 hT_b45
                        refine va_get (D := rD g) (ci := 7) (v := .ref (ad103 (qO U103 (qO U103 52 0) 7))) (C := RX8) (T := TX8) (N := 15) hx hb hts inX8 hown hR.K hR.P (qO U103 52 0) (hR.at47 hT_b45) rfl 7 (by decide) (hts _ kw_899) (fun _ h9 => h9) (congrArg (fun z => some (vf ad103 z)) hv48) dX3_findEdges_134 ?_
                        refine lv_iload hx hb dX3_findEdges_137 (lv_at hl 4 rfl) ?_
                        obtain ⟨hv49, h⟩ := h
                        refine va_iald hx hb hR.K hR.P (qO U103 (qO U103 52 0) 7) 1 (hR.atI hT_b47 (by decide)) rfl (k_ix (x := v103_5) (a := v103_5.toInt) rfl hv49) dX3_findEdges_139 ?_
                        refine lv_topi (fun z50 ez50 => ?_)
                        obtain rfl : z50 = (qI U103 (qO U103 (qO U103 52 0) 7) v103_5.toInt.toNat) := ez50
                        refine lv_iload_n hx hb dX3_findEdges_140 rfl (lv_at hl 1 rfl) ?_
                        obtain ⟨Q51, h0, h⟩ := h
                        have hFc := cfree hR hA
                        refine W_led2 (fun hL0 => ?_)
                        refine va_calli (va_runV (As := [.int v103_2, .int (qI U103 (qO U103 (qO U103 52 0) 7) v103_5.toInt.toNat), .int v103_1]) (rest := []) ⟨hx, hb, hml, hown, hts⟩ (rX3_addEdge l g ad103 H U103 v103_2 (qI U103 (qO U103 (qO U103 52 0) 7) v103_5.toInt.toNat) v103_1 hR.w  Q51 h0) (cwV 3 hts (gd_V kw_913 kw_834 kw_835 kw_401 kw_833) rfl rfl rfl (by decide +kernel) ⟨Nat.le_of_ble_eq_true rfl, Nat.le_of_ble_eq_true rfl⟩) ⟨cblindH, va_recv hR.K hR.P (ci := 3) (q0 := 52) rfl (hR.at43 (hR.w.2.1 _ finC_30).2.1), fun U hU hW9 => cmkH hU hW9 hR hex hE hFc⟩ rfl rfl hl.1 rfl (lv_room (Nat.le_of_ble_eq_true rfl)) dX3_findEdges_141 ⟨(show dc103 + (KCC - qn U103) ≤ KCC - qn S from hlg.cm), (show ds103 + (KSC - qu U103) ≤ KSC - qu S from hlg.sm)⟩) hR.sS (fun q _ h => hFc q h) hFc (fun r52 S53 t9 H1 locs ht9 hvm9 hw9 hB9 hz9 hk9 hS => ?_)
                        rcases S53 with ⟨S53, ak55⟩
                        obtain ⟨hB9, dc9, ds9, hL9, hl9⟩ := hB9
                        dsimp only at hw9 hB9 hl9
                        rw [ht9] at hL9
                        obtain ⟨hq54, hw9, hs9, hk8⟩ := hw9
                        have hw8 := hR.w
                        have hak := hak.tr hk8 hlg.2.2.1
                        have hE := hE.ad hk8
                        have hR : RepC g ak55 A s S53 H1 locs := hR.callH ht9 hB9 hw9 hS hFc
                        have hsh := hsh.tr hs9
                        refine W_tight2 (hL0.tr hL9).1 (hL0.tr hL9).2.1 ?_
                        have hlg := hlg.call hl9
                        replace h := h r52 S53 hq54 hw9 hs9
                        have ea_0 : ak55 52 = ad103 52 := hk8 _ (hw8.hd (hw8.2.1 _ finC_30).2.1 (by decide) (by decide))
                        have hl : lv_has ls 6 [(0, .ref (ak55 52)), (1, .int v103_1), (2, .int v103_2), (3, .int v103_3), (5, .int v103_5)] := by simp only [ea_0]; exact hl
                        clear hB9 hz9 hk9 hvm9 ht9 hw9 hs9 hS hL0 hL9
                        generalize H1 = H at hR ⊢
                        generalize dc9 = dc_ak55, ds9 = ds_ak55 at hlg ⊢
                        refine lv_istore_n (lv' := [(1, .int r52), (0, .ref (ak55 52)), (2, .int v103_2), (3, .int v103_3), (5, .int v103_5)]) hx hb dX3_findEdges_144 rfl hl (by decide) rfl (fun ls hl => ?_)
                        exact J_145 ak55 (dc103 + dc_ak55) (ds103 + ds_ak55) S53 r52 v103_2 v103_3 v103_5 _ _ ls h  hsh hlg hak hE hR (lv_sub hl [1, 0, 2, 3, 4] rfl)
                obtain ⟨n9, h⟩ := h
                exact J_103 n9 ad70 (dc70) (ds70) U70 v70_1 v70_2 v70_3 0 _ _ ls h  hsh hlg hak hE hR (lv_sub hl [1, 2, 3, 4, 0] rfl)
              · replace h := h.2 (k_nle rfl rfl c32)
                refine lv_aload_n hx hb dX3_findEdges_77 rfl (lv_at hl 0 rfl) ?_
                refine lv_iload_n hx hb dX3_findEdges_78 rfl (lv_at hl 2 rfl) ?_
                refine lv_aload_n hx hb dX3_findEdges_79 rfl (lv_at hl 0 rfl) ?_
                obtain ⟨hv57, h⟩ := h
                have hT_b56 : qT U70 (qO U70 52 0) = 47 := hR.w.ref hv57 (hR.w.2.1 _ finC_30).2.1
                refine va_get (D := rD g) (ci := 3) (v := .ref (ad70 (qO U70 52 0))) (C := RX3) (T := TX3) (N := 16) hx hb hts inX3 hown hR.K hR.P 52 (hR.at43 (hR.w.2.1 _ finC_30).2.1) rfl 0 (by decide) (hts _ kw_836) (fun _ h9 => h9) (congrArg (fun z => some (vf ad70 z)) hv57) dX3_findEdges_80 ?_
                refine lv_iload_n hx hb dX3_findEdges_83 rfl (lv_at hl 3 rfl) ?_
                refine lv_iload hx hb dX3_findEdges_84 (lv_at hl 5 rfl) ?_
                obtain ⟨hv58, h⟩ := h
                have hFc := cfree hR hA
                refine va_calli (va_runV (As := [.int v70_3, .int v70_5]) (rest := [.int v70_2, .ref (ad70 52)]) ⟨hx, hb, hml, hown, hts⟩ (rX8_targetAt l g ad70 H.size U70 (qO U70 52 0) v70_3 v70_5 hR.w hT_b56 hv58) (cwV 2 hts (gd_V kw_893 kw_1537 kw_1538 kw_782 kw_1536) rfl rfl rfl (by decide +kernel) ⟨Nat.le_of_ble_eq_true rfl, Nat.le_of_ble_eq_true rfl⟩) ⟨cblind, va_recv hR.K hR.P (ci := 7) (q0 := (qO U70 52 0)) rfl (hR.at47 hT_b56), fun U hU hW9 => cmk hU hW9 hR hex hE hFc⟩ rfl rfl hl.1 rfl (lv_room (Nat.le_of_ble_eq_true rfl)) dX3_findEdges_86 ⟨(show dc70 + 0 ≤ KCC - qn S from hlg.c), (show ds70 + 0 ≤ KSC - qu S from hlg.s)⟩) hR.sS (fun q _ h => hFc q h) hFc (fun r59 u9 t9 H1 locs ht9 hvm9 hw9 hB9 hz9 hk9 hS => ?_)
                have hR : RepC g ad70 A s U70 H1 locs := hR.call ht9 hB9 hR.w hS hFc
                obtain rfl : r59 = (fX8_targetAt U70 (qO U70 52 0) v70_3 v70_5) := hw9
                clear hB9 hz9 hk9 hvm9 ht9 hS
                generalize H1 = H at hR ⊢
                obtain ⟨a61, ea61⟩ : ∃ z, z = (fX8_targetAt U70 (qO U70 52 0) v70_3 v70_5) := ⟨_, rfl⟩
                rw [← ea61]
                replace h := h a61 ea61
                refine lv_iload_n hx hb dX3_findEdges_89 rfl (lv_at hl 1 rfl) ?_
                obtain ⟨Q62, h0, h⟩ := h
                have hFc := cfree hR hA
                refine W_led2 (fun hL0 => ?_)
                refine va_calli (va_runV (As := [.int v70_2, .int a61, .int v70_1]) (rest := []) ⟨hx, hb, hml, hown, hts⟩ (rX3_addEdge l g ad70 H U70 v70_2 a61 v70_1 hR.w  Q62 h0) (cwV 3 hts (gd_V kw_913 kw_834 kw_835 kw_401 kw_833) rfl rfl rfl (by decide +kernel) ⟨Nat.le_of_ble_eq_true rfl, Nat.le_of_ble_eq_true rfl⟩) ⟨cblindH, va_recv hR.K hR.P (ci := 3) (q0 := 52) rfl (hR.at43 (hR.w.2.1 _ finC_30).2.1), fun U hU hW9 => cmkH hU hW9 hR hex hE hFc⟩ rfl rfl hl.1 rfl (lv_room (Nat.le_of_ble_eq_true rfl)) dX3_findEdges_90 ⟨(show dc70 + (KCC - qn U70) ≤ KCC - qn S from hlg.cm), (show ds70 + (KSC - qu U70) ≤ KSC - qu S from hlg.sm)⟩) hR.sS (fun q _ h => hFc q h) hFc (fun r63 S64 t9 H1 locs ht9 hvm9 hw9 hB9 hz9 hk9 hS => ?_)
                rcases S64 with ⟨S64, ak66⟩
                obtain ⟨hB9, dc9, ds9, hL9, hl9⟩ := hB9
                dsimp only at hw9 hB9 hl9
                rw [ht9] at hL9
                obtain ⟨hq65, hw9, hs9, hk8⟩ := hw9
                have hw8 := hR.w
                have hak := hak.tr hk8 hlg.2.2.1
                have hE := hE.ad hk8
                have hR : RepC g ak66 A s S64 H1 locs := hR.callH ht9 hB9 hw9 hS hFc
                have hsh := hsh.tr hs9
                refine W_tight2 (hL0.tr hL9).1 (hL0.tr hL9).2.1 ?_
                have hlg := hlg.call hl9
                replace h := h r63 S64 hq65 hw9 hs9
                have ea_0 : ak66 52 = ad70 52 := hk8 _ (hw8.hd (hw8.2.1 _ finC_30).2.1 (by decide) (by decide))
                have hl : lv_has ls 6 [(0, .ref (ak66 52)), (1, .int v70_1), (2, .int v70_2), (3, .int v70_3), (4, .int v70_4), (5, .int v70_5)] := by simp only [ea_0]; exact hl
                clear hB9 hz9 hk9 hvm9 ht9 hw9 hs9 hS hL0 hL9
                generalize H1 = H at hR ⊢
                generalize dc9 = dc_ak66, ds9 = ds_ak66 at hlg ⊢
                refine lv_istore_n (lv' := [(1, .int r63), (0, .ref (ak66 52)), (2, .int v70_2), (3, .int v70_3), (4, .int v70_4), (5, .int v70_5)]) hx hb dX3_findEdges_93 rfl hl (by decide) rfl (fun ls hl => ?_)
                obtain ⟨a67, ea67⟩ : ∃ z, z = (v70_5 + Int32.ofInt 1) := ⟨_, rfl⟩
                replace h := h a67 ea67
                refine lv_iinc (v := a67) (lv' := [(5, .int a67), (1, .int r63), (0, .ref (ak66 52)), (2, .int v70_2), (3, .int v70_3), (4, .int v70_4)]) hx hb dX3_findEdges_94 hl (k := 5) rfl ea67.symm (by decide) rfl (fun ls hl => ?_)
                refine lv_goto (tgt := 70) hx hb dX3_findEdges_97 (by decide) ?_
                exact ih_70 ak66 (dc70 + dc_ak66) (ds70 + ds_ak66) S64 r63 v70_2 v70_3 v70_4 a67 _ _ ls h  hsh hlg hak hE hR (lv_sub hl [2, 1, 3, 4, 5, 0] rfl)
          obtain ⟨n9, h⟩ := h
          exact J_70 n9 ad57 (dc57) (ds57) U57 v57_1 v57_2 v57_3 a31 0 _ _ ls h  hsh hlg hak hE hR (lv_sub hl [2, 3, 4, 5, 1, 0] rfl)
        refine lv_if_eq (tgt := 57) hx hb dX3_findEdges_44 (by decide) (fun c68 => ?_) (fun c68 => ?_)
        · replace h := h.1 (k_eq rfl (by decide) c68)
          exact J_57 ad12 (dc12) (ds12) S11 v12_1 v12_2 a15 _ _ ls h  hsh hlg hak hE hR (lv_sub hl [1, 2, 3, 0] rfl)
        · replace h := h.2 (k_ne rfl (by decide) c68)
          refine lv_aload_n hx hb dX3_findEdges_47 rfl (lv_at hl 1 rfl) ?_
          refine lv_iload_n hx hb dX3_findEdges_48 rfl (lv_at hl 3 rfl) ?_
          refine lv_iload_n hx hb dX3_findEdges_49 rfl (lv_at hl 0 rfl) ?_
          refine lv_iconst (v := 1) hx hb dX3_findEdges_50 (by decide) ?_
          refine lv_iadd hx hb dX3_findEdges_51 ?_
          refine lv_topi (fun z69 ez69 => ?_)
          obtain rfl : z69 = (a15 + (1 : Int32)) := ez69
          refine lv_iload_n hx hb dX3_findEdges_52 rfl (lv_at hl 2 rfl) ?_
          obtain ⟨Q70, h0, h⟩ := h
          have hFc := cfree hR hA
          refine W_led2 (fun hL0 => ?_)
          refine va_calli (va_runV (As := [.int v12_2, .int (a15 + (1 : Int32)), .int v12_1]) (rest := []) ⟨hx, hb, hml, hown, hts⟩ (rX3_addEdge l g ad12 H S11 v12_2 (a15 + (1 : Int32)) v12_1 hR.w  Q70 h0) (cwV 3 hts (gd_V kw_913 kw_834 kw_835 kw_401 kw_833) rfl rfl rfl (by decide +kernel) ⟨Nat.le_of_ble_eq_true rfl, Nat.le_of_ble_eq_true rfl⟩) ⟨cblindH, va_recv hR.K hR.P (ci := 3) (q0 := 52) rfl (hR.at43 (hR.w.2.1 _ finC_30).2.1), fun U hU hW9 => cmkH hU hW9 hR hex hE hFc⟩ rfl rfl hl.1 rfl (lv_room (Nat.le_of_ble_eq_true rfl)) dX3_findEdges_53 ⟨(show dc12 + (KCC - qn S11) ≤ KCC - qn S from hlg.cm), (show ds12 + (KSC - qu S11) ≤ KSC - qu S from hlg.sm)⟩) hR.sS (fun q _ h => hFc q h) hFc (fun r71 S72 t9 H1 locs ht9 hvm9 hw9 hB9 hz9 hk9 hS => ?_)
          rcases S72 with ⟨S72, ak74⟩
          obtain ⟨hB9, dc9, ds9, hL9, hl9⟩ := hB9
          dsimp only at hw9 hB9 hl9
          rw [ht9] at hL9
          obtain ⟨hq73, hw9, hs9, hk8⟩ := hw9
          have hw8 := hR.w
          have hak := hak.tr hk8 hlg.2.2.1
          have hE := hE.ad hk8
          have hR : RepC g ak74 A s S72 H1 locs := hR.callH ht9 hB9 hw9 hS hFc
          have hsh := hsh.tr hs9
          refine W_tight2 (hL0.tr hL9).1 (hL0.tr hL9).2.1 ?_
          have hlg := hlg.call hl9
          replace h := h r71 S72 hq73 hw9 hs9
          have ea_0 : ak74 52 = ad12 52 := hk8 _ (hw8.hd (hw8.2.1 _ finC_30).2.1 (by decide) (by decide))
          have hl : lv_has ls 6 [(3, .int a15), (0, .ref (ak74 52)), (1, .int v12_1), (2, .int v12_2)] := by simp only [ea_0]; exact hl
          clear hB9 hz9 hk9 hvm9 ht9 hw9 hs9 hS hL0 hL9
          generalize H1 = H at hR ⊢
          generalize dc9 = dc_ak74, ds9 = ds_ak74 at hlg ⊢
          refine lv_istore_n (lv' := [(1, .int r71), (3, .int a15), (0, .ref (ak74 52)), (2, .int v12_2)]) hx hb dX3_findEdges_56 rfl hl (by decide) rfl (fun ls hl => ?_)
          exact J_57 ak74 (dc12 + dc_ak74) (ds12 + ds_ak74) S72 r71 v12_2 a15 _ _ ls h  hsh hlg hak hE hR (lv_sub hl [2, 0, 3, 1] rfl)
  obtain ⟨n9, h⟩ := h
  exact J_12 n9 ad (0) (0) S3 0 0 _ _ ls h  hsh hlg hak hE hR (lv_sub hl [2, 1, 0] rfl)
