def f_goesOn_J60 (S : MS) : Int32 := (0 : Int32)
def d_goesOn_J60 (S : MS) : Prop := True
def f_goesOn (S : MS) (x0 : Int32) : Int32 := (if x0.toInt = 167 then f_goesOn_J60 S else (if x0.toInt = 170 then f_goesOn_J60 S else (if x0.toInt = 171 then f_goesOn_J60 S else (if x0.toInt = 172 then f_goesOn_J60 S else (if x0.toInt = 173 then f_goesOn_J60 S else (if x0.toInt = 176 then f_goesOn_J60 S else (if x0.toInt = 177 then f_goesOn_J60 S else (if x0.toInt = 191 then f_goesOn_J60 S else (1 : Int32)))))))))
def d_goesOn (S : MS) (x0 : Int32) : Prop := (if x0.toInt = 167 then d_goesOn_J60 S else (if x0.toInt = 170 then d_goesOn_J60 S else (if x0.toInt = 171 then d_goesOn_J60 S else (if x0.toInt = 172 then d_goesOn_J60 S else (if x0.toInt = 173 then d_goesOn_J60 S else (if x0.toInt = 176 then d_goesOn_J60 S else (if x0.toInt = 177 then d_goesOn_J60 S else (if x0.toInt = 191 then d_goesOn_J60 S else True))))))))
set_option maxHeartbeats 2000000 in
set_option maxRecDepth 100000 in
theorem r_goesOn (l : Launch) (g : Gr) (ad : Nat → Nat) (sz : Nat) (S : MS) (x0 : Int32) (hw : wfM S) (hd : d_goesOn S x0) : Met l yX14_goesOn (wt2 yX14_goesOn cX14_goesOn 1 (some .boolean)) ({ frames := 0, cells := 0, slots := 0, locals := 0 }) (va_Pc [.int x0] (st_R g ad sz S)) (va_Qi (fun (r : Int32) (_ : Unit) => r = f_goesOn S x0 ∧ (r = 0 ∨ r = 1)) (fun (_ : Unit) (t : State) => qE g ad (va_A (Wd g ad S) sz) S t) (va_A (Wd g ad S) sz)) 0 0 (va_A (Wd g ad S) sz) := by
  refine Met.ofW (cc := cX14_goesOn) (maxL := 1) (ret := (some .boolean)) (by decide) rfl ?_
  intro p e s m args below meth c s₁ B hml hv
  obtain ⟨rfl, hsz, hP, hK, hD0, hex, hE⟩ := hv
  have hx := B.exec
  have hb := B.bytes
  have hr := B.returns
  have hts0 := atoms_spec (ws := wt2 yX14_goesOn cX14_goesOn 1 (some .boolean)) B.pre
  have hts : ∀ w ∈ tb2, w.before _ s = true := fun w h => hts0 w (List.mem_cons_of_mem _ h)
  have hown : s.vm.findClass RX14 = some m.cls := findClass_of_methodNamed B.named
  subst hsz
  have hD := hD0.self (sz := s.heap.size)
  generalize hAe : va_A (Wd g ad S) s.heap.size = A at hD hE ⊢
  have hA : ∀ q : Nat, s.heap.size ≤ q → A q := fun q h => by rw [← hAe]; exact Or.inr h
  have hR : Rep g ad A s S s.heap [] := ⟨hK, hP, hD, va_S.rf, hw⟩
  clear hK hP hD hD0
  have hl := lv_entry ([.int x0]) (n := 1) (Nat.le_of_ble_eq_true rfl)
  rw [lg_entry_eq]
  generalize (lg_sl ([.int x0]) ++ List.replicate (1 - (lg_sl ([.int x0])).length) Slot.unset).toArray = ls at hl ⊢
  have hl : lv_has ls 1 [(0, .int x0)] := hl
  obtain ⟨r0, hf⟩ : ∃ r0, f_goesOn S x0 = r0 := ⟨_, rfl⟩
  have hf0 := hf
  unfold f_goesOn at hf
  unfold d_goesOn at hd
  refine lv_iload_n hx hb dX14_goesOn_0 rfl (lv_at hl 0 rfl) ?_
  refine lv_sipush (v := 167) hx hb dX14_goesOn_1 (by decide) ?_
  have J_60 : ∀ (H : Heap) (locs : List Loc) (ls : Array Slot), d_goesOn_J60 S → f_goesOn_J60 S = r0 → Rep g ad A s S H locs → lv_has ls 1 [] → W p l e (headSpec (wt2 yX14_goesOn cX14_goesOn 1 (some .boolean)) ({ frames := 0, cells := 0, slots := 0, locals := 0 })).room s m ([.int x0] : List Value).toArray below meth c H locs 0 0 (MQ below (va_Qi (fun (r : Int32) (_ : Unit) => r = f_goesOn S x0 ∧ (r = 0 ∨ r = 1)) (fun (_ : Unit) (t : State) => qE g ad A S t) A) ([.int x0] : List Value).toArray s 0 0 A) (F0 m 60 ls []) := by
    intro H locs ls hd hf hR hl
    unfold d_goesOn_J60 at hd
    unfold f_goesOn_J60 at hf
    refine lv_iconst (v := 0) hx hb dX14_goesOn_60 (by decide) ?_
    exact W.zret (v := 0) hx hb hr (nz (Or.inl rfl)) (fun t9 ht9 hW9 => ⟨⟨_, (), rfl, ⟨hf.trans hf0.symm, (Or.inl rfl)⟩, ⟨by rw [ht9]; exact hR.P, hR.D⟩⟩, hR.sS.F ht9⟩) hR.sS.2.2 dX14_goesOn_61
  refine lv_icmp_eq (tgt := 60) hx hb dX14_goesOn_4 (by decide) (fun c1 => ?_) (fun c1 => ?_)
  · rw [if_pos (k_eq rfl (by decide) c1)] at hf
    (try rw [if_pos (k_eq rfl (by decide) c1)] at hd)
    exact J_60 _ _ ls hd hf  hR (lv_sub hl [] rfl)
  · rw [if_neg (k_ne rfl (by decide) c1)] at hf
    (try rw [if_neg (k_ne rfl (by decide) c1)] at hd)
    refine lv_iload_n hx hb dX14_goesOn_7 rfl (lv_at hl 0 rfl) ?_
    refine lv_sipush (v := 170) hx hb dX14_goesOn_8 (by decide) ?_
    refine lv_icmp_eq (tgt := 60) hx hb dX14_goesOn_11 (by decide) (fun c2 => ?_) (fun c2 => ?_)
    · rw [if_pos (k_eq rfl (by decide) c2)] at hf
      (try rw [if_pos (k_eq rfl (by decide) c2)] at hd)
      exact J_60 _ _ ls hd hf  hR (lv_sub hl [] rfl)
    · rw [if_neg (k_ne rfl (by decide) c2)] at hf
      (try rw [if_neg (k_ne rfl (by decide) c2)] at hd)
      refine lv_iload_n hx hb dX14_goesOn_14 rfl (lv_at hl 0 rfl) ?_
      refine lv_sipush (v := 171) hx hb dX14_goesOn_15 (by decide) ?_
      refine lv_icmp_eq (tgt := 60) hx hb dX14_goesOn_18 (by decide) (fun c3 => ?_) (fun c3 => ?_)
      · rw [if_pos (k_eq rfl (by decide) c3)] at hf
        (try rw [if_pos (k_eq rfl (by decide) c3)] at hd)
        exact J_60 _ _ ls hd hf  hR (lv_sub hl [] rfl)
      · rw [if_neg (k_ne rfl (by decide) c3)] at hf
        (try rw [if_neg (k_ne rfl (by decide) c3)] at hd)
        refine lv_iload_n hx hb dX14_goesOn_21 rfl (lv_at hl 0 rfl) ?_
        refine lv_sipush (v := 172) hx hb dX14_goesOn_22 (by decide) ?_
        refine lv_icmp_eq (tgt := 60) hx hb dX14_goesOn_25 (by decide) (fun c4 => ?_) (fun c4 => ?_)
        · rw [if_pos (k_eq rfl (by decide) c4)] at hf
          (try rw [if_pos (k_eq rfl (by decide) c4)] at hd)
          exact J_60 _ _ ls hd hf  hR (lv_sub hl [] rfl)
        · rw [if_neg (k_ne rfl (by decide) c4)] at hf
          (try rw [if_neg (k_ne rfl (by decide) c4)] at hd)
          refine lv_iload_n hx hb dX14_goesOn_28 rfl (lv_at hl 0 rfl) ?_
          refine lv_sipush (v := 173) hx hb dX14_goesOn_29 (by decide) ?_
          refine lv_icmp_eq (tgt := 60) hx hb dX14_goesOn_32 (by decide) (fun c5 => ?_) (fun c5 => ?_)
          · rw [if_pos (k_eq rfl (by decide) c5)] at hf
            (try rw [if_pos (k_eq rfl (by decide) c5)] at hd)
            exact J_60 _ _ ls hd hf  hR (lv_sub hl [] rfl)
          · rw [if_neg (k_ne rfl (by decide) c5)] at hf
            (try rw [if_neg (k_ne rfl (by decide) c5)] at hd)
            refine lv_iload_n hx hb dX14_goesOn_35 rfl (lv_at hl 0 rfl) ?_
            refine lv_sipush (v := 176) hx hb dX14_goesOn_36 (by decide) ?_
            refine lv_icmp_eq (tgt := 60) hx hb dX14_goesOn_39 (by decide) (fun c6 => ?_) (fun c6 => ?_)
            · rw [if_pos (k_eq rfl (by decide) c6)] at hf
              (try rw [if_pos (k_eq rfl (by decide) c6)] at hd)
              exact J_60 _ _ ls hd hf  hR (lv_sub hl [] rfl)
            · rw [if_neg (k_ne rfl (by decide) c6)] at hf
              (try rw [if_neg (k_ne rfl (by decide) c6)] at hd)
              refine lv_iload_n hx hb dX14_goesOn_42 rfl (lv_at hl 0 rfl) ?_
              refine lv_sipush (v := 177) hx hb dX14_goesOn_43 (by decide) ?_
              refine lv_icmp_eq (tgt := 60) hx hb dX14_goesOn_46 (by decide) (fun c7 => ?_) (fun c7 => ?_)
              · rw [if_pos (k_eq rfl (by decide) c7)] at hf
                (try rw [if_pos (k_eq rfl (by decide) c7)] at hd)
                exact J_60 _ _ ls hd hf  hR (lv_sub hl [] rfl)
              · rw [if_neg (k_ne rfl (by decide) c7)] at hf
                (try rw [if_neg (k_ne rfl (by decide) c7)] at hd)
                refine lv_iload_n hx hb dX14_goesOn_49 rfl (lv_at hl 0 rfl) ?_
                refine lv_sipush (v := 191) hx hb dX14_goesOn_50 (by decide) ?_
                refine lv_icmp_eq (tgt := 60) hx hb dX14_goesOn_53 (by decide) (fun c8 => ?_) (fun c8 => ?_)
                · rw [if_pos (k_eq rfl (by decide) c8)] at hf
                  (try rw [if_pos (k_eq rfl (by decide) c8)] at hd)
                  exact J_60 _ _ ls hd hf  hR (lv_sub hl [] rfl)
                · rw [if_neg (k_ne rfl (by decide) c8)] at hf
                  (try rw [if_neg (k_ne rfl (by decide) c8)] at hd)
                  refine lv_iconst (v := 1) hx hb dX14_goesOn_56 (by decide) ?_
                  refine lv_goto (tgt := 61) hx hb dX14_goesOn_57 (by decide) ?_
                  exact W.zret (v := 1) hx hb hr (nz (Or.inr rfl)) (fun t9 ht9 hW9 => ⟨⟨_, (), rfl, ⟨hf.trans hf0.symm, (Or.inr rfl)⟩, ⟨by rw [ht9]; exact hR.P, hR.D⟩⟩, hR.sS.F ht9⟩) hR.sS.2.2 dX14_goesOn_61
def f_ways (S : MS) (x1 : Int32) : Int32 := (if (f_isJump S (f_op S x1)).toInt = 0 then (if (f_isSwitch S (f_op S x1)).toInt = 0 then (0 : Int32) else ((f_second S x1) + (1 : Int32))) else (1 : Int32))
def d_ways (S : MS) (x1 : Int32) : Prop := (d_op S x1 ∧ (d_isJump S (f_op S x1) ∧ (if (f_isJump S (f_op S x1)).toInt = 0 then (d_op S x1 ∧ (d_isSwitch S (f_op S x1) ∧ (if (f_isSwitch S (f_op S x1)).toInt = 0 then True else (d_second S x1 ∧ True)))) else True)))
set_option maxHeartbeats 2000000 in
set_option maxRecDepth 100000 in
theorem r_ways (l : Launch) (g : Gr) (ad : Nat → Nat) (sz : Nat) (S : MS) (x1 : Int32) (hw : wfM S) (hd : d_ways S x1) : Met l yX14_ways (wt2 yX14_ways cX14_ways 2 (some .int)) ({ frames := 1, cells := 0, slots := 0, locals := 21 }) (va_Pc [.ref (ad 0), .int x1] (st_R g ad sz S)) (va_Qi (fun (r : Int32) (_ : Unit) => r = f_ways S x1) (fun (_ : Unit) (t : State) => qE g ad (va_A (Wd g ad S) sz) S t) (va_A (Wd g ad S) sz)) 0 0 (va_A (Wd g ad S) sz) := by
  refine Met.ofW (cc := cX14_ways) (maxL := 2) (ret := (some .int)) (by decide) rfl ?_
  intro p e s m args below meth c s₁ B hml hv
  obtain ⟨rfl, hsz, hP, hK, hD0, hex, hE⟩ := hv
  have hx := B.exec
  have hb := B.bytes
  have hr := B.returns
  have hts0 := atoms_spec (ws := wt2 yX14_ways cX14_ways 2 (some .int)) B.pre
  have hts : ∀ w ∈ tb2, w.before _ s = true := fun w h => hts0 w (List.mem_cons_of_mem _ h)
  have hown : s.vm.findClass RX14 = some m.cls := findClass_of_methodNamed B.named
  subst hsz
  have hD := hD0.self (sz := s.heap.size)
  generalize hAe : va_A (Wd g ad S) s.heap.size = A at hD hE ⊢
  have hA : ∀ q : Nat, s.heap.size ≤ q → A q := fun q h => by rw [← hAe]; exact Or.inr h
  have hR : Rep g ad A s S s.heap [] := ⟨hK, hP, hD, va_S.rf, hw⟩
  clear hK hP hD hD0
  have hl := lv_entry ([.ref (ad 0), .int x1]) (n := 2) (Nat.le_of_ble_eq_true rfl)
  rw [lg_entry_eq]
  generalize (lg_sl ([.ref (ad 0), .int x1]) ++ List.replicate (2 - (lg_sl ([.ref (ad 0), .int x1])).length) Slot.unset).toArray = ls at hl ⊢
  have hl : lv_has ls 2 [(0, .ref (ad 0)), (1, .int x1)] := hl
  obtain ⟨r0, hf⟩ : ∃ r0, f_ways S x1 = r0 := ⟨_, rfl⟩
  have hf0 := hf
  unfold f_ways at hf
  unfold d_ways at hd
  refine lv_aload_n hx hb dX14_ways_0 rfl (lv_at hl 0 rfl) ?_
  refine lv_iload_n hx hb dX14_ways_1 rfl (lv_at hl 1 rfl) ?_
  obtain ⟨hv1, hd⟩ := hd
  have hFc := rfree hR hA
  refine va_calli (va_runV (As := [.int x1]) (rest := []) ⟨hx, hb, hml, hown, hts⟩ (r_op l g ad s.heap.size S x1 hR.w  hv1) (cwV 1 hts (gd2_V kx_379 kx_380 kx_381 kx_177 kx_382) rfl rfl rfl (by decide +kernel) ⟨Nat.le_of_ble_eq_true rfl, Nat.le_of_ble_eq_true rfl⟩) ⟨rblind, va_recv hR.K hR.P (ci := 13) (q0 := 0) rfl (hR.at14 hR.w.1), fun U hU hW9 => rmk hU hW9 hR hex hE hFc⟩ rfl rfl hl.1 rfl (lv_room (Nat.le_of_ble_eq_true rfl)) dX14_ways_2 ⟨Nat.le_of_ble_eq_true rfl, Nat.le_of_ble_eq_true rfl⟩) hR.sS (fun q _ h => hFc q h) hFc (fun r2 u9 t9 H1 locs ht9 hvm9 hw9 hB9 hz9 hk9 hS => ?_)
  have hR : Rep g ad A s S H1 locs := hR.call ht9 hB9 hR.w hS hFc
  obtain rfl : r2 = (f_op S x1) := hw9
  clear hB9 hz9 hk9 hvm9 ht9 hS
  generalize H1 = H at hR ⊢
  obtain ⟨hv4, hd⟩ := hd
  have hFc := rfree hR hA
  refine va_calli (va_runS (As := [.int (f_op S x1)]) (rest := []) ⟨hx, hb, hml, hown, hts⟩ (r_isJump l g ad H.size S (f_op S x1) hR.w  hv4) (va_cwS 1 hts (gd2_S kx_383 kx_384 kx_177 kx_385) rfl rfl rfl (by decide +kernel) ⟨Nat.le_of_ble_eq_true rfl, Nat.le_of_ble_eq_true rfl⟩) ⟨rblind, fun U hU hW9 => rmk hU hW9 hR hex hE hFc⟩ rfl rfl hl.1 rfl (lv_room (Nat.le_of_ble_eq_true rfl)) dX14_ways_5 ⟨Nat.le_of_ble_eq_true rfl, Nat.le_of_ble_eq_true rfl⟩) hR.sS (fun q _ h => hFc q h) hFc (fun r5 u9 t9 H1 locs ht9 hvm9 hw9 hB9 hz9 hk9 hS => ?_)
  have hR : Rep g ad A s S H1 locs := hR.call ht9 hB9 hR.w hS hFc
  obtain ⟨rfl, hz_r5⟩ := hw9
  clear hB9 hz9 hk9 hvm9 ht9 hS
  generalize H1 = H at hR ⊢
  refine lv_if_eq (tgt := 15) hx hb dX14_ways_8 (by decide) (fun c7 => ?_) (fun c7 => ?_)
  · rw [if_pos (k_eq rfl (by decide) c7)] at hf
    (try rw [if_pos (k_eq rfl (by decide) c7)] at hd)
    refine lv_aload_n hx hb dX14_ways_15 rfl (lv_at hl 0 rfl) ?_
    refine lv_iload_n hx hb dX14_ways_16 rfl (lv_at hl 1 rfl) ?_
    obtain ⟨hv8, hd⟩ := hd
    have hFc := rfree hR hA
    refine va_calli (va_runV (As := [.int x1]) (rest := []) ⟨hx, hb, hml, hown, hts⟩ (r_op l g ad H.size S x1 hR.w  hv8) (cwV 1 hts (gd2_V kx_379 kx_380 kx_381 kx_177 kx_382) rfl rfl rfl (by decide +kernel) ⟨Nat.le_of_ble_eq_true rfl, Nat.le_of_ble_eq_true rfl⟩) ⟨rblind, va_recv hR.K hR.P (ci := 13) (q0 := 0) rfl (hR.at14 hR.w.1), fun U hU hW9 => rmk hU hW9 hR hex hE hFc⟩ rfl rfl hl.1 rfl (lv_room (Nat.le_of_ble_eq_true rfl)) dX14_ways_17 ⟨Nat.le_of_ble_eq_true rfl, Nat.le_of_ble_eq_true rfl⟩) hR.sS (fun q _ h => hFc q h) hFc (fun r9 u9 t9 H1 locs ht9 hvm9 hw9 hB9 hz9 hk9 hS => ?_)
    have hR : Rep g ad A s S H1 locs := hR.call ht9 hB9 hR.w hS hFc
    obtain rfl : r9 = (f_op S x1) := hw9
    clear hB9 hz9 hk9 hvm9 ht9 hS
    generalize H1 = H at hR ⊢
    obtain ⟨hv11, hd⟩ := hd
    have hFc := rfree hR hA
    refine va_calli (va_runS (As := [.int (f_op S x1)]) (rest := []) ⟨hx, hb, hml, hown, hts⟩ (r_isSwitch l g ad H.size S (f_op S x1) hR.w  hv11) (va_cwS 1 hts (gd2_S kx_386 kx_387 kx_177 kx_388) rfl rfl rfl (by decide +kernel) ⟨Nat.le_of_ble_eq_true rfl, Nat.le_of_ble_eq_true rfl⟩) ⟨rblind, fun U hU hW9 => rmk hU hW9 hR hex hE hFc⟩ rfl rfl hl.1 rfl (lv_room (Nat.le_of_ble_eq_true rfl)) dX14_ways_20 ⟨Nat.le_of_ble_eq_true rfl, Nat.le_of_ble_eq_true rfl⟩) hR.sS (fun q _ h => hFc q h) hFc (fun r12 u9 t9 H1 locs ht9 hvm9 hw9 hB9 hz9 hk9 hS => ?_)
    have hR : Rep g ad A s S H1 locs := hR.call ht9 hB9 hR.w hS hFc
    obtain ⟨rfl, hz_r12⟩ := hw9
    clear hB9 hz9 hk9 hvm9 ht9 hS
    generalize H1 = H at hR ⊢
    refine lv_if_eq (tgt := 36) hx hb dX14_ways_23 (by decide) (fun c14 => ?_) (fun c14 => ?_)
    · rw [if_pos (k_eq rfl (by decide) c14)] at hf
      (try rw [if_pos (k_eq rfl (by decide) c14)] at hd)
      refine lv_iconst (v := 0) hx hb dX14_ways_36 (by decide) ?_
      exact W.iret (v := 0) hx hb hr (fun t9 ht9 hW9 => ⟨⟨_, (), rfl, hf.trans hf0.symm, ⟨by rw [ht9]; exact hR.P, hR.D⟩⟩, hR.sS.F ht9⟩) hR.sS.2.2 dX14_ways_37
    · rw [if_neg (k_ne rfl (by decide) c14)] at hf
      (try rw [if_neg (k_ne rfl (by decide) c14)] at hd)
      refine lv_aload_n hx hb dX14_ways_26 rfl (lv_at hl 0 rfl) ?_
      refine lv_iload_n hx hb dX14_ways_27 rfl (lv_at hl 1 rfl) ?_
      obtain ⟨hv15, hd⟩ := hd
      have hFc := rfree hR hA
      refine va_calli (va_runV (As := [.int x1]) (rest := []) ⟨hx, hb, hml, hown, hts⟩ (r_second l g ad H.size S x1 hR.w  hv15) (cwV 1 hts (gd2_V kx_389 kx_390 kx_391 kx_177 kx_392) rfl rfl rfl (by decide +kernel) ⟨Nat.le_of_ble_eq_true rfl, Nat.le_of_ble_eq_true rfl⟩) ⟨rblind, va_recv hR.K hR.P (ci := 13) (q0 := 0) rfl (hR.at14 hR.w.1), fun U hU hW9 => rmk hU hW9 hR hex hE hFc⟩ rfl rfl hl.1 rfl (lv_room (Nat.le_of_ble_eq_true rfl)) dX14_ways_28 ⟨Nat.le_of_ble_eq_true rfl, Nat.le_of_ble_eq_true rfl⟩) hR.sS (fun q _ h => hFc q h) hFc (fun r16 u9 t9 H1 locs ht9 hvm9 hw9 hB9 hz9 hk9 hS => ?_)
      have hR : Rep g ad A s S H1 locs := hR.call ht9 hB9 hR.w hS hFc
      obtain rfl : r16 = (f_second S x1) := hw9
      clear hB9 hz9 hk9 hvm9 ht9 hS
      generalize H1 = H at hR ⊢
      refine lv_iconst (v := 1) hx hb dX14_ways_31 (by decide) ?_
      refine lv_iadd hx hb dX14_ways_32 ?_
      refine lv_topi (fun z18 ez18 => ?_)
      obtain rfl : z18 = ((f_second S x1) + (1 : Int32)) := ez18
      refine lv_goto (tgt := 37) hx hb dX14_ways_33 (by decide) ?_
      exact W.iret (v := ((f_second S x1) + (1 : Int32))) hx hb hr (fun t9 ht9 hW9 => ⟨⟨_, (), rfl, hf.trans hf0.symm, ⟨by rw [ht9]; exact hR.P, hR.D⟩⟩, hR.sS.F ht9⟩) hR.sS.2.2 dX14_ways_37
  · rw [if_neg (k_ne rfl (by decide) c7)] at hf
    (try rw [if_neg (k_ne rfl (by decide) c7)] at hd)
    refine lv_iconst (v := 1) hx hb dX14_ways_11 (by decide) ?_
    refine lv_goto (tgt := 37) hx hb dX14_ways_12 (by decide) ?_
    exact W.iret (v := 1) hx hb hr (fun t9 ht9 hW9 => ⟨⟨_, (), rfl, hf.trans hf0.symm, ⟨by rw [ht9]; exact hR.P, hR.D⟩⟩, hR.sS.F ht9⟩) hR.sS.2.2 dX14_ways_37
def f_way (S : MS) (x1 : Int32) (x2 : Int32) : Int32 := (if (f_isJump S (f_op S x1)).toInt = 0 then (qI S (qO S 0 49) ((((f_first S x1) + ((2 : Int32) * x2)).toInt).toNat)) else (f_first S x1))
def d_way (S : MS) (x1 : Int32) (x2 : Int32) : Prop := (d_op S x1 ∧ (d_isJump S (f_op S x1) ∧ (if (f_isJump S (f_op S x1)).toInt = 0 then ((qR S 0 49 = some (qO S 0 49)) ∧ (d_first S x1 ∧ (((0 : Int) ≤ ((f_first S x1) + ((2 : Int32) * x2)).toInt ∧ ((f_first S x1) + ((2 : Int32) * x2)).toInt < (qN S (qO S 0 49) : Int)) ∧ True))) else (d_first S x1 ∧ True))))
set_option maxHeartbeats 2000000 in
set_option maxRecDepth 100000 in
theorem r_way (l : Launch) (g : Gr) (ad : Nat → Nat) (sz : Nat) (S : MS) (x1 : Int32) (x2 : Int32) (hw : wfM S) (hd : d_way S x1 x2) : Met l yX14_way (wt2 yX14_way cX14_way 3 (some .int)) ({ frames := 1, cells := 0, slots := 0, locals := 21 }) (va_Pc [.ref (ad 0), .int x1, .int x2] (st_R g ad sz S)) (va_Qi (fun (r : Int32) (_ : Unit) => r = f_way S x1 x2) (fun (_ : Unit) (t : State) => qE g ad (va_A (Wd g ad S) sz) S t) (va_A (Wd g ad S) sz)) 0 0 (va_A (Wd g ad S) sz) := by
  refine Met.ofW (cc := cX14_way) (maxL := 3) (ret := (some .int)) (by decide) rfl ?_
  intro p e s m args below meth c s₁ B hml hv
  obtain ⟨rfl, hsz, hP, hK, hD0, hex, hE⟩ := hv
  have hx := B.exec
  have hb := B.bytes
  have hr := B.returns
  have hts0 := atoms_spec (ws := wt2 yX14_way cX14_way 3 (some .int)) B.pre
  have hts : ∀ w ∈ tb2, w.before _ s = true := fun w h => hts0 w (List.mem_cons_of_mem _ h)
  have hown : s.vm.findClass RX14 = some m.cls := findClass_of_methodNamed B.named
  subst hsz
  have hD := hD0.self (sz := s.heap.size)
  generalize hAe : va_A (Wd g ad S) s.heap.size = A at hD hE ⊢
  have hA : ∀ q : Nat, s.heap.size ≤ q → A q := fun q h => by rw [← hAe]; exact Or.inr h
  have hR : Rep g ad A s S s.heap [] := ⟨hK, hP, hD, va_S.rf, hw⟩
  clear hK hP hD hD0
  have hl := lv_entry ([.ref (ad 0), .int x1, .int x2]) (n := 3) (Nat.le_of_ble_eq_true rfl)
  rw [lg_entry_eq]
  generalize (lg_sl ([.ref (ad 0), .int x1, .int x2]) ++ List.replicate (3 - (lg_sl ([.ref (ad 0), .int x1, .int x2])).length) Slot.unset).toArray = ls at hl ⊢
  have hl : lv_has ls 3 [(0, .ref (ad 0)), (1, .int x1), (2, .int x2)] := hl
  obtain ⟨r0, hf⟩ : ∃ r0, f_way S x1 x2 = r0 := ⟨_, rfl⟩
  have hf0 := hf
  unfold f_way at hf
  unfold d_way at hd
  refine lv_aload_n hx hb dX14_way_0 rfl (lv_at hl 0 rfl) ?_
  refine lv_iload_n hx hb dX14_way_1 rfl (lv_at hl 1 rfl) ?_
  obtain ⟨hv1, hd⟩ := hd
  have hFc := rfree hR hA
  refine va_calli (va_runV (As := [.int x1]) (rest := []) ⟨hx, hb, hml, hown, hts⟩ (r_op l g ad s.heap.size S x1 hR.w  hv1) (cwV 1 hts (gd2_V kx_379 kx_380 kx_381 kx_177 kx_382) rfl rfl rfl (by decide +kernel) ⟨Nat.le_of_ble_eq_true rfl, Nat.le_of_ble_eq_true rfl⟩) ⟨rblind, va_recv hR.K hR.P (ci := 13) (q0 := 0) rfl (hR.at14 hR.w.1), fun U hU hW9 => rmk hU hW9 hR hex hE hFc⟩ rfl rfl hl.1 rfl (lv_room (Nat.le_of_ble_eq_true rfl)) dX14_way_2 ⟨Nat.le_of_ble_eq_true rfl, Nat.le_of_ble_eq_true rfl⟩) hR.sS (fun q _ h => hFc q h) hFc (fun r2 u9 t9 H1 locs ht9 hvm9 hw9 hB9 hz9 hk9 hS => ?_)
  have hR : Rep g ad A s S H1 locs := hR.call ht9 hB9 hR.w hS hFc
  obtain rfl : r2 = (f_op S x1) := hw9
  clear hB9 hz9 hk9 hvm9 ht9 hS
  generalize H1 = H at hR ⊢
  obtain ⟨hv4, hd⟩ := hd
  have hFc := rfree hR hA
  refine va_calli (va_runS (As := [.int (f_op S x1)]) (rest := []) ⟨hx, hb, hml, hown, hts⟩ (r_isJump l g ad H.size S (f_op S x1) hR.w  hv4) (va_cwS 1 hts (gd2_S kx_383 kx_384 kx_177 kx_385) rfl rfl rfl (by decide +kernel) ⟨Nat.le_of_ble_eq_true rfl, Nat.le_of_ble_eq_true rfl⟩) ⟨rblind, fun U hU hW9 => rmk hU hW9 hR hex hE hFc⟩ rfl rfl hl.1 rfl (lv_room (Nat.le_of_ble_eq_true rfl)) dX14_way_5 ⟨Nat.le_of_ble_eq_true rfl, Nat.le_of_ble_eq_true rfl⟩) hR.sS (fun q _ h => hFc q h) hFc (fun r5 u9 t9 H1 locs ht9 hvm9 hw9 hB9 hz9 hk9 hS => ?_)
  have hR : Rep g ad A s S H1 locs := hR.call ht9 hB9 hR.w hS hFc
  obtain ⟨rfl, hz_r5⟩ := hw9
  clear hB9 hz9 hk9 hvm9 ht9 hS
  generalize H1 = H at hR ⊢
  refine lv_if_eq (tgt := 19) hx hb dX14_way_8 (by decide) (fun c7 => ?_) (fun c7 => ?_)
  · rw [if_pos (k_eq rfl (by decide) c7)] at hf
    (try rw [if_pos (k_eq rfl (by decide) c7)] at hd)
    refine lv_aload_n hx hb dX14_way_19 rfl (lv_at hl 0 rfl) ?_
    obtain ⟨hv8, hd⟩ := hd
    have hT_b9 : qT S (qO S 0 49) = 2 := hR.w.ref hv8 hR.w.1
    refine va_get (D := rD g) (ci := 13) (v := .ref (ad (qO S 0 49))) (C := RX14) (T := TX14) (N := 143) hx hb hts in2X14 hown hR.K hR.P 0 (hR.at14 hR.w.1) rfl 49 (by decide) (hts _ kx_365) (fun _ h9 => h9) (congrArg (fun z => some (vf ad z)) hv8) dX14_way_20 ?_
    refine lv_aload_n hx hb dX14_way_23 rfl (lv_at hl 0 rfl) ?_
    refine lv_iload_n hx hb dX14_way_24 rfl (lv_at hl 1 rfl) ?_
    obtain ⟨hv10, hd⟩ := hd
    have hFc := rfree hR hA
    refine va_calli (va_runV (As := [.int x1]) (rest := [.ref (ad (qO S 0 49))]) ⟨hx, hb, hml, hown, hts⟩ (r_first l g ad H.size S x1 hR.w  hv10) (cwV 1 hts (gd2_V kx_393 kx_394 kx_395 kx_177 kx_396) rfl rfl rfl (by decide +kernel) ⟨Nat.le_of_ble_eq_true rfl, Nat.le_of_ble_eq_true rfl⟩) ⟨rblind, va_recv hR.K hR.P (ci := 13) (q0 := 0) rfl (hR.at14 hR.w.1), fun U hU hW9 => rmk hU hW9 hR hex hE hFc⟩ rfl rfl hl.1 rfl (lv_room (Nat.le_of_ble_eq_true rfl)) dX14_way_25 ⟨Nat.le_of_ble_eq_true rfl, Nat.le_of_ble_eq_true rfl⟩) hR.sS (fun q _ h => hFc q h) hFc (fun r11 u9 t9 H1 locs ht9 hvm9 hw9 hB9 hz9 hk9 hS => ?_)
    have hR : Rep g ad A s S H1 locs := hR.call ht9 hB9 hR.w hS hFc
    obtain rfl : r11 = (f_first S x1) := hw9
    clear hB9 hz9 hk9 hvm9 ht9 hS
    generalize H1 = H at hR ⊢
    refine lv_iconst (v := 2) hx hb dX14_way_28 (by decide) ?_
    refine lv_iload_n hx hb dX14_way_29 rfl (lv_at hl 2 rfl) ?_
    refine lv_imul hx hb dX14_way_30 ?_
    refine lv_topi (fun z13 ez13 => ?_)
    obtain rfl : z13 = ((2 : Int32) * x2) := ez13
    refine lv_iadd hx hb dX14_way_31 ?_
    refine lv_topi (fun z14 ez14 => ?_)
    obtain rfl : z14 = ((f_first S x1) + ((2 : Int32) * x2)) := ez14
    obtain ⟨hv15, hd⟩ := hd
    refine va_iald hx hb hR.K hR.P (qO S 0 49) 1 (hR.atI hT_b9) rfl (k_ix (x := ((f_first S x1) + ((2 : Int32) * x2))) (a := ((f_first S x1) + ((2 : Int32) * x2)).toInt) rfl hv15) dX14_way_32 ?_
    refine lv_topi (fun z16 ez16 => ?_)
    obtain rfl : z16 = (qI S (qO S 0 49) ((((f_first S x1) + ((2 : Int32) * x2)).toInt).toNat)) := ez16
    exact W.iret (v := (qI S (qO S 0 49) ((((f_first S x1) + ((2 : Int32) * x2)).toInt).toNat))) hx hb hr (fun t9 ht9 hW9 => ⟨⟨_, (), rfl, hf.trans hf0.symm, ⟨by rw [ht9]; exact hR.P, hR.D⟩⟩, hR.sS.F ht9⟩) hR.sS.2.2 dX14_way_33
  · rw [if_neg (k_ne rfl (by decide) c7)] at hf
    (try rw [if_neg (k_ne rfl (by decide) c7)] at hd)
    refine lv_aload_n hx hb dX14_way_11 rfl (lv_at hl 0 rfl) ?_
    refine lv_iload_n hx hb dX14_way_12 rfl (lv_at hl 1 rfl) ?_
    obtain ⟨hv17, hd⟩ := hd
    have hFc := rfree hR hA
    refine va_calli (va_runV (As := [.int x1]) (rest := []) ⟨hx, hb, hml, hown, hts⟩ (r_first l g ad H.size S x1 hR.w  hv17) (cwV 1 hts (gd2_V kx_393 kx_394 kx_395 kx_177 kx_396) rfl rfl rfl (by decide +kernel) ⟨Nat.le_of_ble_eq_true rfl, Nat.le_of_ble_eq_true rfl⟩) ⟨rblind, va_recv hR.K hR.P (ci := 13) (q0 := 0) rfl (hR.at14 hR.w.1), fun U hU hW9 => rmk hU hW9 hR hex hE hFc⟩ rfl rfl hl.1 rfl (lv_room (Nat.le_of_ble_eq_true rfl)) dX14_way_13 ⟨Nat.le_of_ble_eq_true rfl, Nat.le_of_ble_eq_true rfl⟩) hR.sS (fun q _ h => hFc q h) hFc (fun r18 u9 t9 H1 locs ht9 hvm9 hw9 hB9 hz9 hk9 hS => ?_)
    have hR : Rep g ad A s S H1 locs := hR.call ht9 hB9 hR.w hS hFc
    obtain rfl : r18 = (f_first S x1) := hw9
    clear hB9 hz9 hk9 hvm9 ht9 hS
    generalize H1 = H at hR ⊢
    refine lv_goto (tgt := 33) hx hb dX14_way_16 (by decide) ?_
    exact W.iret (v := (f_first S x1)) hx hb hr (fun t9 ht9 hW9 => ⟨⟨_, (), rfl, hf.trans hf0.symm, ⟨by rw [ht9]; exact hR.P, hR.D⟩⟩, hR.sS.F ht9⟩) hR.sS.2.2 dX14_way_33
def f_takesOf_J31 (S : MS) (v31_2 : Int32) : Nat := (if (v31_2 - v31_2 / (2 : Int32) * (2 : Int32)).toInt = 0 then 10000010 else 10000012)
def d_takesOf_J31 (S : MS) (v31_2 : Int32) : Prop := True
def f_takesOf_J111 (S : MS) (v111_1 : Int32) (v111_2 : Int32) : Nat := (if v111_2.toInt = 46 then 10000018 else (if v111_2.toInt = 54 then 10000016 else (if v111_2.toInt = 55 then 10000022 else (if v111_2.toInt = 58 then 10000024 else (if v111_2.toInt = 79 then 10000020 else (if v111_2.toInt = 116 then 10000016 else (if v111_2.toInt = 117 then 10000022 else (if v111_2.toInt = 133 then 10000016 else (if v111_2.toInt = 136 then 10000022 else (if v111_2.toInt = 145 then 10000016 else (if v111_2.toInt = 146 then 10000016 else (if v111_2.toInt = 147 then 10000016 else (if v111_2.toInt = 148 then 10000012 else (if v111_2.toInt = 165 then 10000026 else (if v111_2.toInt = 166 then 10000026 else (if v111_2.toInt = 170 then 10000016 else (if v111_2.toInt = 171 then 10000016 else (if v111_2.toInt = 172 then 10000016 else (if v111_2.toInt = 173 then 10000022 else (if v111_2.toInt = 176 then 10000028 else (if v111_2.toInt = 179 then (qO S (qO S (qO S 0 47) 7) (((f_first S v111_1).toInt).toNat)) else (if v111_2.toInt = 184 then (qO S (qO S (qO S 0 47) 10) (((f_first S v111_1).toInt).toNat)) else (if v111_2.toInt = 188 then 10000016 else (if v111_2.toInt = 190 then 10000028 else (if v111_2.toInt = 191 then 10000030 else (if v111_2.toInt = 198 then 10000024 else (if v111_2.toInt = 199 then 10000024 else 10000032)))))))))))))))))))))))))))
def d_takesOf_J111 (S : MS) (v111_1 : Int32) (v111_2 : Int32) : Prop := (if v111_2.toInt = 46 then True else (if v111_2.toInt = 54 then True else (if v111_2.toInt = 55 then True else (if v111_2.toInt = 58 then True else (if v111_2.toInt = 79 then True else (if v111_2.toInt = 116 then True else (if v111_2.toInt = 117 then True else (if v111_2.toInt = 133 then True else (if v111_2.toInt = 136 then True else (if v111_2.toInt = 145 then True else (if v111_2.toInt = 146 then True else (if v111_2.toInt = 147 then True else (if v111_2.toInt = 148 then True else (if v111_2.toInt = 165 then True else (if v111_2.toInt = 166 then True else (if v111_2.toInt = 170 then True else (if v111_2.toInt = 171 then True else (if v111_2.toInt = 172 then True else (if v111_2.toInt = 173 then True else (if v111_2.toInt = 176 then True else (if v111_2.toInt = 179 then ((qR S 0 47 = some (qO S 0 47)) ∧ ((qR S (qO S 0 47) 7 = some (qO S (qO S 0 47) 7)) ∧ (d_first S v111_1 ∧ (((0 : Int) ≤ (f_first S v111_1).toInt ∧ (f_first S v111_1).toInt < (qN S (qO S (qO S 0 47) 7) : Int)) ∧ ((qR S (qO S (qO S 0 47) 7) (((f_first S v111_1).toInt).toNat) = some (qO S (qO S (qO S 0 47) 7) (((f_first S v111_1).toInt).toNat))) ∧ True))))) else (if v111_2.toInt = 184 then ((qR S 0 47 = some (qO S 0 47)) ∧ ((qR S (qO S 0 47) 10 = some (qO S (qO S 0 47) 10)) ∧ (d_first S v111_1 ∧ (((0 : Int) ≤ (f_first S v111_1).toInt ∧ (f_first S v111_1).toInt < (qN S (qO S (qO S 0 47) 10) : Int)) ∧ ((qR S (qO S (qO S 0 47) 10) (((f_first S v111_1).toInt).toNat) = some (qO S (qO S (qO S 0 47) 10) (((f_first S v111_1).toInt).toNat))) ∧ True))))) else True))))))))))))))))))))))
def f_takesOf_J93 (S : MS) (v93_1 : Int32) (v93_2 : Int32) : Nat := (if v93_2.toInt < 159 then f_takesOf_J111 S v93_1 v93_2 else (if 164 < v93_2.toInt then f_takesOf_J111 S v93_1 v93_2 else 10000010))
def d_takesOf_J93 (S : MS) (v93_1 : Int32) (v93_2 : Int32) : Prop := (if v93_2.toInt < 159 then d_takesOf_J111 S v93_1 v93_2 else (if 164 < v93_2.toInt then d_takesOf_J111 S v93_1 v93_2 else True))
def f_takesOf_J75 (S : MS) (v75_1 : Int32) (v75_2 : Int32) : Nat := (if v75_2.toInt < 153 then f_takesOf_J93 S v75_1 v75_2 else (if 158 < v75_2.toInt then f_takesOf_J93 S v75_1 v75_2 else 10000016))
def d_takesOf_J75 (S : MS) (v75_1 : Int32) (v75_2 : Int32) : Prop := (if v75_2.toInt < 153 then d_takesOf_J93 S v75_1 v75_2 else (if 158 < v75_2.toInt then d_takesOf_J93 S v75_1 v75_2 else True))
def f_takesOf_J47 (S : MS) (v47_1 : Int32) (v47_2 : Int32) : Nat := (if v47_2.toInt < 120 then f_takesOf_J75 S v47_1 v47_2 else (if 125 < v47_2.toInt then f_takesOf_J75 S v47_1 v47_2 else (if (v47_2 - v47_2 / (2 : Int32) * (2 : Int32)).toInt = 0 then 10000010 else 10000014)))
def d_takesOf_J47 (S : MS) (v47_1 : Int32) (v47_2 : Int32) : Prop := (if v47_2.toInt < 120 then d_takesOf_J75 S v47_1 v47_2 else (if 125 < v47_2.toInt then d_takesOf_J75 S v47_1 v47_2 else True))
def f_takesOf_J18 (S : MS) (v18_1 : Int32) (v18_2 : Int32) : Nat := (if v18_2.toInt < 126 then f_takesOf_J47 S v18_1 v18_2 else (if 131 < v18_2.toInt then f_takesOf_J47 S v18_1 v18_2 else f_takesOf_J31 S v18_2))
def d_takesOf_J18 (S : MS) (v18_1 : Int32) (v18_2 : Int32) : Prop := (if v18_2.toInt < 126 then d_takesOf_J47 S v18_1 v18_2 else (if 131 < v18_2.toInt then d_takesOf_J47 S v18_1 v18_2 else d_takesOf_J31 S v18_2))
def f_takesOf (S : MS) (x1 : Int32) : Nat := (if (f_op S x1).toInt < 96 then f_takesOf_J18 S x1 (f_op S x1) else (if (f_op S x1).toInt ≤ 115 then f_takesOf_J31 S (f_op S x1) else f_takesOf_J18 S x1 (f_op S x1)))
def d_takesOf (S : MS) (x1 : Int32) : Prop := (d_op S x1 ∧ (if (f_op S x1).toInt < 96 then d_takesOf_J18 S x1 (f_op S x1) else (if (f_op S x1).toInt ≤ 115 then d_takesOf_J31 S (f_op S x1) else d_takesOf_J18 S x1 (f_op S x1))))
set_option maxHeartbeats 2000000 in
set_option maxRecDepth 100000 in
theorem r_takesOf (l : Launch) (g : Gr) (ad : Nat → Nat) (sz : Nat) (S : MS) (x1 : Int32) (hw : wfM S) (hd : d_takesOf S x1) : Met l yX14_takesOf (wt2 yX14_takesOf cX14_takesOf 3 (some (.object "java/lang/String"))) ({ frames := 1, cells := 0, slots := 0, locals := 21 }) (va_Pc [.ref (ad 0), .int x1] (st_R g ad sz S)) (va_Qq (fun (r : Option Nat) (_ : Unit) => r = some (ad (f_takesOf S x1)) ∧ qT S (f_takesOf S x1) = 12) (fun (_ : Unit) (t : State) => qE g ad (va_A (Wd g ad S) sz) S t) (va_A (Wd g ad S) sz)) 0 0 (va_A (Wd g ad S) sz) := by
  refine Met.ofW (cc := cX14_takesOf) (maxL := 3) (ret := (some (.object "java/lang/String"))) (by decide) rfl ?_
  intro p e s m args below meth c s₁ B hml hv
  obtain ⟨rfl, hsz, hP, hK, hD0, hex, hE⟩ := hv
  have hx := B.exec
  have hb := B.bytes
  have hr := B.returns
  have hts0 := atoms_spec (ws := wt2 yX14_takesOf cX14_takesOf 3 (some (.object "java/lang/String"))) B.pre
  have hts : ∀ w ∈ tb2, w.before _ s = true := fun w h => hts0 w (List.mem_cons_of_mem _ h)
  have hown : s.vm.findClass RX14 = some m.cls := findClass_of_methodNamed B.named
  subst hsz
  have hD := hD0.self (sz := s.heap.size)
  generalize hAe : va_A (Wd g ad S) s.heap.size = A at hD hE ⊢
  have hA : ∀ q : Nat, s.heap.size ≤ q → A q := fun q h => by rw [← hAe]; exact Or.inr h
  have hR : Rep g ad A s S s.heap [] := ⟨hK, hP, hD, va_S.rf, hw⟩
  clear hK hP hD hD0
  have hl := lv_entry ([.ref (ad 0), .int x1]) (n := 3) (Nat.le_of_ble_eq_true rfl)
  rw [lg_entry_eq]
  generalize (lg_sl ([.ref (ad 0), .int x1]) ++ List.replicate (3 - (lg_sl ([.ref (ad 0), .int x1])).length) Slot.unset).toArray = ls at hl ⊢
  have hl : lv_has ls 3 [(0, .ref (ad 0)), (1, .int x1)] := hl
  obtain ⟨r0, hf⟩ : ∃ r0, f_takesOf S x1 = r0 := ⟨_, rfl⟩
  have hf0 := hf
  unfold f_takesOf at hf
  unfold d_takesOf at hd
  refine lv_aload_n hx hb dX14_takesOf_0 rfl (lv_at hl 0 rfl) ?_
  refine lv_iload_n hx hb dX14_takesOf_1 rfl (lv_at hl 1 rfl) ?_
  obtain ⟨hv1, hd⟩ := hd
  have hFc := rfree hR hA
  refine va_calli (va_runV (As := [.int x1]) (rest := []) ⟨hx, hb, hml, hown, hts⟩ (r_op l g ad s.heap.size S x1 hR.w  hv1) (cwV 1 hts (gd2_V kx_379 kx_380 kx_381 kx_177 kx_382) rfl rfl rfl (by decide +kernel) ⟨Nat.le_of_ble_eq_true rfl, Nat.le_of_ble_eq_true rfl⟩) ⟨rblind, va_recv hR.K hR.P (ci := 13) (q0 := 0) rfl (hR.at14 hR.w.1), fun U hU hW9 => rmk hU hW9 hR hex hE hFc⟩ rfl rfl hl.1 rfl (lv_room (Nat.le_of_ble_eq_true rfl)) dX14_takesOf_2 ⟨Nat.le_of_ble_eq_true rfl, Nat.le_of_ble_eq_true rfl⟩) hR.sS (fun q _ h => hFc q h) hFc (fun r2 u9 t9 H1 locs ht9 hvm9 hw9 hB9 hz9 hk9 hS => ?_)
  have hR : Rep g ad A s S H1 locs := hR.call ht9 hB9 hR.w hS hFc
  obtain rfl : r2 = (f_op S x1) := hw9
  clear hB9 hz9 hk9 hvm9 ht9 hS
  generalize H1 = H at hR ⊢
  refine lv_istore_n (lv' := [(2, .int (f_op S x1)), (0, .ref (ad 0)), (1, .int x1)]) hx hb dX14_takesOf_5 rfl hl (by decide) rfl (fun ls hl => ?_)
  refine lv_iload_n hx hb dX14_takesOf_6 rfl (lv_at hl 0 rfl) ?_
  refine lv_bipush (v := 96) hx hb dX14_takesOf_7 (by decide) ?_
  have J_31 : ∀ (v31_2 : Int32) (H : Heap) (locs : List Loc) (ls : Array Slot), d_takesOf_J31 S v31_2 → f_takesOf_J31 S v31_2 = r0 → Rep g ad A s S H locs → lv_has ls 3 [(2, .int v31_2)] → W p l e (headSpec (wt2 yX14_takesOf cX14_takesOf 3 (some (.object "java/lang/String"))) ({ frames := 1, cells := 0, slots := 0, locals := 21 })).room s m ([.ref (ad 0), .int x1] : List Value).toArray below meth c H locs 0 0 (MQ below (va_Qq (fun (r : Option Nat) (_ : Unit) => r = some (ad (f_takesOf S x1)) ∧ qT S (f_takesOf S x1) = 12) (fun (_ : Unit) (t : State) => qE g ad A S t) A) ([.ref (ad 0), .int x1] : List Value).toArray s 0 0 A) (F0 m 31 ls []) := by
    intro v31_2 H locs ls hd hf hR hl
    unfold d_takesOf_J31 at hd
    unfold f_takesOf_J31 at hf
    refine lv_iload_n hx hb dX14_takesOf_31 rfl (lv_at hl 0 rfl) ?_
    refine lv_iconst (v := 2) hx hb dX14_takesOf_32 (by decide) ?_
    refine lv_irem hx hb dX14_takesOf_33 (by decide) ?_
    refine lv_topi (fun z4 ez4 => ?_)
    obtain rfl : z4 = (v31_2 - v31_2 / (2 : Int32) * (2 : Int32)) := ez4
    refine lv_if_ne (tgt := 43) hx hb dX14_takesOf_34 (by decide) (fun c5 => ?_) (fun c5 => ?_)
    · rw [if_neg (k_ne rfl (by decide) c5)] at hf
      (try rw [if_neg (k_ne rfl (by decide) c5)] at hd)
      have hT_t6 : qT S 10000012 = 12 := hR.w.txt (i := 6) (by decide)
      refine va_ldcSW (tx := "JJ") (q := ad 10000012) hx hb hown (hE.2.2 _ ldc_702) dX14_takesOf_43 ?_
      exact W.aret (v := .ref (ad 10000012)) hx hb hr (Or.inl ⟨_, rfl⟩) (Or.inr ⟨_, rfl⟩) (fun t9 ht9 hW9 => ⟨⟨some (ad 10000012), (), rfl, ⟨by rw [hf0, ← hf], by rw [hf0, ← hf]; exact hT_t6⟩, ⟨by rw [ht9]; exact hR.P, hR.D⟩⟩, hR.sS.F ht9⟩) hR.sS.2.2 dX14_takesOf_46
    · rw [if_pos (k_eq rfl (by decide) c5)] at hf
      (try rw [if_pos (k_eq rfl (by decide) c5)] at hd)
      have hT_t7 : qT S 10000010 = 12 := hR.w.txt (i := 5) (by decide)
      refine va_ldcSW (tx := "II") (q := ad 10000010) hx hb hown (hE.2.2 _ ldc_700) dX14_takesOf_37 ?_
      refine lv_goto (tgt := 46) hx hb dX14_takesOf_40 (by decide) ?_
      exact W.aret (v := .ref (ad 10000010)) hx hb hr (Or.inl ⟨_, rfl⟩) (Or.inr ⟨_, rfl⟩) (fun t9 ht9 hW9 => ⟨⟨some (ad 10000010), (), rfl, ⟨by rw [hf0, ← hf], by rw [hf0, ← hf]; exact hT_t7⟩, ⟨by rw [ht9]; exact hR.P, hR.D⟩⟩, hR.sS.F ht9⟩) hR.sS.2.2 dX14_takesOf_46
  have J_18 : ∀ (v18_1 : Int32) (v18_2 : Int32) (H : Heap) (locs : List Loc) (ls : Array Slot), d_takesOf_J18 S v18_1 v18_2 → f_takesOf_J18 S v18_1 v18_2 = r0 → Rep g ad A s S H locs → lv_has ls 3 [(0, .ref (ad 0)), (1, .int v18_1), (2, .int v18_2)] → W p l e (headSpec (wt2 yX14_takesOf cX14_takesOf 3 (some (.object "java/lang/String"))) ({ frames := 1, cells := 0, slots := 0, locals := 21 })).room s m ([.ref (ad 0), .int x1] : List Value).toArray below meth c H locs 0 0 (MQ below (va_Qq (fun (r : Option Nat) (_ : Unit) => r = some (ad (f_takesOf S x1)) ∧ qT S (f_takesOf S x1) = 12) (fun (_ : Unit) (t : State) => qE g ad A S t) A) ([.ref (ad 0), .int x1] : List Value).toArray s 0 0 A) (F0 m 18 ls []) := by
    intro v18_1 v18_2 H locs ls hd hf hR hl
    unfold d_takesOf_J18 at hd
    unfold f_takesOf_J18 at hf
    refine lv_iload_n hx hb dX14_takesOf_18 rfl (lv_at hl 2 rfl) ?_
    refine lv_bipush (v := 126) hx hb dX14_takesOf_19 (by decide) ?_
    have J_47 : ∀ (v47_1 : Int32) (v47_2 : Int32) (H : Heap) (locs : List Loc) (ls : Array Slot), d_takesOf_J47 S v47_1 v47_2 → f_takesOf_J47 S v47_1 v47_2 = r0 → Rep g ad A s S H locs → lv_has ls 3 [(0, .ref (ad 0)), (1, .int v47_1), (2, .int v47_2)] → W p l e (headSpec (wt2 yX14_takesOf cX14_takesOf 3 (some (.object "java/lang/String"))) ({ frames := 1, cells := 0, slots := 0, locals := 21 })).room s m ([.ref (ad 0), .int x1] : List Value).toArray below meth c H locs 0 0 (MQ below (va_Qq (fun (r : Option Nat) (_ : Unit) => r = some (ad (f_takesOf S x1)) ∧ qT S (f_takesOf S x1) = 12) (fun (_ : Unit) (t : State) => qE g ad A S t) A) ([.ref (ad 0), .int x1] : List Value).toArray s 0 0 A) (F0 m 47 ls []) := by
      intro v47_1 v47_2 H locs ls hd hf hR hl
      unfold d_takesOf_J47 at hd
      unfold f_takesOf_J47 at hf
      refine lv_iload_n hx hb dX14_takesOf_47 rfl (lv_at hl 2 rfl) ?_
      refine lv_bipush (v := 120) hx hb dX14_takesOf_48 (by decide) ?_
      have J_75 : ∀ (v75_1 : Int32) (v75_2 : Int32) (H : Heap) (locs : List Loc) (ls : Array Slot), d_takesOf_J75 S v75_1 v75_2 → f_takesOf_J75 S v75_1 v75_2 = r0 → Rep g ad A s S H locs → lv_has ls 3 [(0, .ref (ad 0)), (1, .int v75_1), (2, .int v75_2)] → W p l e (headSpec (wt2 yX14_takesOf cX14_takesOf 3 (some (.object "java/lang/String"))) ({ frames := 1, cells := 0, slots := 0, locals := 21 })).room s m ([.ref (ad 0), .int x1] : List Value).toArray below meth c H locs 0 0 (MQ below (va_Qq (fun (r : Option Nat) (_ : Unit) => r = some (ad (f_takesOf S x1)) ∧ qT S (f_takesOf S x1) = 12) (fun (_ : Unit) (t : State) => qE g ad A S t) A) ([.ref (ad 0), .int x1] : List Value).toArray s 0 0 A) (F0 m 75 ls []) := by
        intro v75_1 v75_2 H locs ls hd hf hR hl
        unfold d_takesOf_J75 at hd
        unfold f_takesOf_J75 at hf
        refine lv_iload_n hx hb dX14_takesOf_75 rfl (lv_at hl 2 rfl) ?_
        refine lv_sipush (v := 153) hx hb dX14_takesOf_76 (by decide) ?_
        have J_93 : ∀ (v93_1 : Int32) (v93_2 : Int32) (H : Heap) (locs : List Loc) (ls : Array Slot), d_takesOf_J93 S v93_1 v93_2 → f_takesOf_J93 S v93_1 v93_2 = r0 → Rep g ad A s S H locs → lv_has ls 3 [(0, .ref (ad 0)), (1, .int v93_1), (2, .int v93_2)] → W p l e (headSpec (wt2 yX14_takesOf cX14_takesOf 3 (some (.object "java/lang/String"))) ({ frames := 1, cells := 0, slots := 0, locals := 21 })).room s m ([.ref (ad 0), .int x1] : List Value).toArray below meth c H locs 0 0 (MQ below (va_Qq (fun (r : Option Nat) (_ : Unit) => r = some (ad (f_takesOf S x1)) ∧ qT S (f_takesOf S x1) = 12) (fun (_ : Unit) (t : State) => qE g ad A S t) A) ([.ref (ad 0), .int x1] : List Value).toArray s 0 0 A) (F0 m 93 ls []) := by
          intro v93_1 v93_2 H locs ls hd hf hR hl
          unfold d_takesOf_J93 at hd
          unfold f_takesOf_J93 at hf
          refine lv_iload_n hx hb dX14_takesOf_93 rfl (lv_at hl 2 rfl) ?_
          refine lv_sipush (v := 159) hx hb dX14_takesOf_94 (by decide) ?_
          have J_111 : ∀ (v111_1 : Int32) (v111_2 : Int32) (H : Heap) (locs : List Loc) (ls : Array Slot), d_takesOf_J111 S v111_1 v111_2 → f_takesOf_J111 S v111_1 v111_2 = r0 → Rep g ad A s S H locs → lv_has ls 3 [(0, .ref (ad 0)), (1, .int v111_1), (2, .int v111_2)] → W p l e (headSpec (wt2 yX14_takesOf cX14_takesOf 3 (some (.object "java/lang/String"))) ({ frames := 1, cells := 0, slots := 0, locals := 21 })).room s m ([.ref (ad 0), .int x1] : List Value).toArray below meth c H locs 0 0 (MQ below (va_Qq (fun (r : Option Nat) (_ : Unit) => r = some (ad (f_takesOf S x1)) ∧ qT S (f_takesOf S x1) = 12) (fun (_ : Unit) (t : State) => qE g ad A S t) A) ([.ref (ad 0), .int x1] : List Value).toArray s 0 0 A) (F0 m 111 ls []) := by
            intro v111_1 v111_2 H locs ls hd hf hR hl
            unfold d_takesOf_J111 at hd
            unfold f_takesOf_J111 at hf
            refine lv_iload_n hx hb dX14_takesOf_111 rfl (lv_at hl 2 rfl) ?_
            by_cases c9_46 : v111_2.toInt = 46
            · refine lv_lookup (off := 228) (tgt := 340) hx hb dX14_takesOf_112 (by decide) (by rw [c9_46]; decide) (by decide) ?_
              rw [if_pos (c9_46)] at hf
              (try rw [if_pos (c9_46)] at hd)
              have hT_t8 : qT S 10000018 = 12 := hR.w.txt (i := 9) (by decide)
              refine va_ldcSW (tx := "AI") (q := ad 10000018) hx hb hown (hE.2.2 _ ldc_707) dX14_takesOf_340 ?_
              exact W.aret (v := .ref (ad 10000018)) hx hb hr (Or.inl ⟨_, rfl⟩) (Or.inr ⟨_, rfl⟩) (fun t9 ht9 hW9 => ⟨⟨some (ad 10000018), (), rfl, ⟨by rw [hf0, ← hf], by rw [hf0, ← hf]; exact hT_t8⟩, ⟨by rw [ht9]; exact hR.P, hR.D⟩⟩, hR.sS.F ht9⟩) hR.sS.2.2 dX14_takesOf_343
            rw [if_neg c9_46] at hf
            (try rw [if_neg c9_46] at hd)
            by_cases c9_54 : v111_2.toInt = 54
            · refine lv_lookup (off := 236) (tgt := 348) hx hb dX14_takesOf_112 (by decide) (by rw [c9_54]; decide) (by decide) ?_
              rw [if_pos (c9_54)] at hf
              (try rw [if_pos (c9_54)] at hd)
              have hT_t9 : qT S 10000016 = 12 := hR.w.txt (i := 8) (by decide)
              refine va_ldcSW (tx := "I") (q := ad 10000016) hx hb hown (hE.2.2 _ ldc_706) dX14_takesOf_348 ?_
              exact W.aret (v := .ref (ad 10000016)) hx hb hr (Or.inl ⟨_, rfl⟩) (Or.inr ⟨_, rfl⟩) (fun t9 ht9 hW9 => ⟨⟨some (ad 10000016), (), rfl, ⟨by rw [hf0, ← hf], by rw [hf0, ← hf]; exact hT_t9⟩, ⟨by rw [ht9]; exact hR.P, hR.D⟩⟩, hR.sS.F ht9⟩) hR.sS.2.2 dX14_takesOf_351
            rw [if_neg c9_54] at hf
            (try rw [if_neg c9_54] at hd)
            by_cases c9_55 : v111_2.toInt = 55
            · refine lv_lookup (off := 240) (tgt := 352) hx hb dX14_takesOf_112 (by decide) (by rw [c9_55]; decide) (by decide) ?_
              rw [if_pos (c9_55)] at hf
              (try rw [if_pos (c9_55)] at hd)
              have hT_t10 : qT S 10000022 = 12 := hR.w.txt (i := 11) (by decide)
              refine va_ldcSW (tx := "J") (q := ad 10000022) hx hb hown (hE.2.2 _ ldc_711) dX14_takesOf_352 ?_
              exact W.aret (v := .ref (ad 10000022)) hx hb hr (Or.inl ⟨_, rfl⟩) (Or.inr ⟨_, rfl⟩) (fun t9 ht9 hW9 => ⟨⟨some (ad 10000022), (), rfl, ⟨by rw [hf0, ← hf], by rw [hf0, ← hf]; exact hT_t10⟩, ⟨by rw [ht9]; exact hR.P, hR.D⟩⟩, hR.sS.F ht9⟩) hR.sS.2.2 dX14_takesOf_355
            rw [if_neg c9_55] at hf
            (try rw [if_neg c9_55] at hd)
            by_cases c9_58 : v111_2.toInt = 58
            · refine lv_lookup (off := 244) (tgt := 356) hx hb dX14_takesOf_112 (by decide) (by rw [c9_58]; decide) (by decide) ?_
              rw [if_pos (c9_58)] at hf
              (try rw [if_pos (c9_58)] at hd)
              have hT_t11 : qT S 10000024 = 12 := hR.w.txt (i := 12) (by decide)
              refine va_ldcSW (tx := "R") (q := ad 10000024) hx hb hown (hE.2.2 _ ldc_713) dX14_takesOf_356 ?_
              exact W.aret (v := .ref (ad 10000024)) hx hb hr (Or.inl ⟨_, rfl⟩) (Or.inr ⟨_, rfl⟩) (fun t9 ht9 hW9 => ⟨⟨some (ad 10000024), (), rfl, ⟨by rw [hf0, ← hf], by rw [hf0, ← hf]; exact hT_t11⟩, ⟨by rw [ht9]; exact hR.P, hR.D⟩⟩, hR.sS.F ht9⟩) hR.sS.2.2 dX14_takesOf_359
            rw [if_neg c9_58] at hf
            (try rw [if_neg c9_58] at hd)
            by_cases c9_79 : v111_2.toInt = 79
            · refine lv_lookup (off := 232) (tgt := 344) hx hb dX14_takesOf_112 (by decide) (by rw [c9_79]; decide) (by decide) ?_
              rw [if_pos (c9_79)] at hf
              (try rw [if_pos (c9_79)] at hd)
              have hT_t12 : qT S 10000020 = 12 := hR.w.txt (i := 10) (by decide)
              refine va_ldcSW (tx := "AII") (q := ad 10000020) hx hb hown (hE.2.2 _ ldc_709) dX14_takesOf_344 ?_
              exact W.aret (v := .ref (ad 10000020)) hx hb hr (Or.inl ⟨_, rfl⟩) (Or.inr ⟨_, rfl⟩) (fun t9 ht9 hW9 => ⟨⟨some (ad 10000020), (), rfl, ⟨by rw [hf0, ← hf], by rw [hf0, ← hf]; exact hT_t12⟩, ⟨by rw [ht9]; exact hR.P, hR.D⟩⟩, hR.sS.F ht9⟩) hR.sS.2.2 dX14_takesOf_347
            rw [if_neg c9_79] at hf
            (try rw [if_neg c9_79] at hd)
            by_cases c9_116 : v111_2.toInt = 116
            · refine lv_lookup (off := 236) (tgt := 348) hx hb dX14_takesOf_112 (by decide) (by rw [c9_116]; decide) (by decide) ?_
              rw [if_pos (c9_116)] at hf
              (try rw [if_pos (c9_116)] at hd)
              have hT_t13 : qT S 10000016 = 12 := hR.w.txt (i := 8) (by decide)
              refine va_ldcSW (tx := "I") (q := ad 10000016) hx hb hown (hE.2.2 _ ldc_706) dX14_takesOf_348 ?_
              exact W.aret (v := .ref (ad 10000016)) hx hb hr (Or.inl ⟨_, rfl⟩) (Or.inr ⟨_, rfl⟩) (fun t9 ht9 hW9 => ⟨⟨some (ad 10000016), (), rfl, ⟨by rw [hf0, ← hf], by rw [hf0, ← hf]; exact hT_t13⟩, ⟨by rw [ht9]; exact hR.P, hR.D⟩⟩, hR.sS.F ht9⟩) hR.sS.2.2 dX14_takesOf_351
            rw [if_neg c9_116] at hf
            (try rw [if_neg c9_116] at hd)
            by_cases c9_117 : v111_2.toInt = 117
            · refine lv_lookup (off := 240) (tgt := 352) hx hb dX14_takesOf_112 (by decide) (by rw [c9_117]; decide) (by decide) ?_
              rw [if_pos (c9_117)] at hf
              (try rw [if_pos (c9_117)] at hd)
              have hT_t14 : qT S 10000022 = 12 := hR.w.txt (i := 11) (by decide)
              refine va_ldcSW (tx := "J") (q := ad 10000022) hx hb hown (hE.2.2 _ ldc_711) dX14_takesOf_352 ?_
              exact W.aret (v := .ref (ad 10000022)) hx hb hr (Or.inl ⟨_, rfl⟩) (Or.inr ⟨_, rfl⟩) (fun t9 ht9 hW9 => ⟨⟨some (ad 10000022), (), rfl, ⟨by rw [hf0, ← hf], by rw [hf0, ← hf]; exact hT_t14⟩, ⟨by rw [ht9]; exact hR.P, hR.D⟩⟩, hR.sS.F ht9⟩) hR.sS.2.2 dX14_takesOf_355
            rw [if_neg c9_117] at hf
            (try rw [if_neg c9_117] at hd)
            by_cases c9_133 : v111_2.toInt = 133
            · refine lv_lookup (off := 236) (tgt := 348) hx hb dX14_takesOf_112 (by decide) (by rw [c9_133]; decide) (by decide) ?_
              rw [if_pos (c9_133)] at hf
              (try rw [if_pos (c9_133)] at hd)
              have hT_t15 : qT S 10000016 = 12 := hR.w.txt (i := 8) (by decide)
              refine va_ldcSW (tx := "I") (q := ad 10000016) hx hb hown (hE.2.2 _ ldc_706) dX14_takesOf_348 ?_
              exact W.aret (v := .ref (ad 10000016)) hx hb hr (Or.inl ⟨_, rfl⟩) (Or.inr ⟨_, rfl⟩) (fun t9 ht9 hW9 => ⟨⟨some (ad 10000016), (), rfl, ⟨by rw [hf0, ← hf], by rw [hf0, ← hf]; exact hT_t15⟩, ⟨by rw [ht9]; exact hR.P, hR.D⟩⟩, hR.sS.F ht9⟩) hR.sS.2.2 dX14_takesOf_351
            rw [if_neg c9_133] at hf
            (try rw [if_neg c9_133] at hd)
            by_cases c9_136 : v111_2.toInt = 136
            · refine lv_lookup (off := 240) (tgt := 352) hx hb dX14_takesOf_112 (by decide) (by rw [c9_136]; decide) (by decide) ?_
              rw [if_pos (c9_136)] at hf
              (try rw [if_pos (c9_136)] at hd)
              have hT_t16 : qT S 10000022 = 12 := hR.w.txt (i := 11) (by decide)
              refine va_ldcSW (tx := "J") (q := ad 10000022) hx hb hown (hE.2.2 _ ldc_711) dX14_takesOf_352 ?_
              exact W.aret (v := .ref (ad 10000022)) hx hb hr (Or.inl ⟨_, rfl⟩) (Or.inr ⟨_, rfl⟩) (fun t9 ht9 hW9 => ⟨⟨some (ad 10000022), (), rfl, ⟨by rw [hf0, ← hf], by rw [hf0, ← hf]; exact hT_t16⟩, ⟨by rw [ht9]; exact hR.P, hR.D⟩⟩, hR.sS.F ht9⟩) hR.sS.2.2 dX14_takesOf_355
            rw [if_neg c9_136] at hf
            (try rw [if_neg c9_136] at hd)
            by_cases c9_145 : v111_2.toInt = 145
            · refine lv_lookup (off := 236) (tgt := 348) hx hb dX14_takesOf_112 (by decide) (by rw [c9_145]; decide) (by decide) ?_
              rw [if_pos (c9_145)] at hf
              (try rw [if_pos (c9_145)] at hd)
              have hT_t17 : qT S 10000016 = 12 := hR.w.txt (i := 8) (by decide)
              refine va_ldcSW (tx := "I") (q := ad 10000016) hx hb hown (hE.2.2 _ ldc_706) dX14_takesOf_348 ?_
              exact W.aret (v := .ref (ad 10000016)) hx hb hr (Or.inl ⟨_, rfl⟩) (Or.inr ⟨_, rfl⟩) (fun t9 ht9 hW9 => ⟨⟨some (ad 10000016), (), rfl, ⟨by rw [hf0, ← hf], by rw [hf0, ← hf]; exact hT_t17⟩, ⟨by rw [ht9]; exact hR.P, hR.D⟩⟩, hR.sS.F ht9⟩) hR.sS.2.2 dX14_takesOf_351
            rw [if_neg c9_145] at hf
            (try rw [if_neg c9_145] at hd)
            by_cases c9_146 : v111_2.toInt = 146
            · refine lv_lookup (off := 236) (tgt := 348) hx hb dX14_takesOf_112 (by decide) (by rw [c9_146]; decide) (by decide) ?_
              rw [if_pos (c9_146)] at hf
              (try rw [if_pos (c9_146)] at hd)
              have hT_t18 : qT S 10000016 = 12 := hR.w.txt (i := 8) (by decide)
              refine va_ldcSW (tx := "I") (q := ad 10000016) hx hb hown (hE.2.2 _ ldc_706) dX14_takesOf_348 ?_
              exact W.aret (v := .ref (ad 10000016)) hx hb hr (Or.inl ⟨_, rfl⟩) (Or.inr ⟨_, rfl⟩) (fun t9 ht9 hW9 => ⟨⟨some (ad 10000016), (), rfl, ⟨by rw [hf0, ← hf], by rw [hf0, ← hf]; exact hT_t18⟩, ⟨by rw [ht9]; exact hR.P, hR.D⟩⟩, hR.sS.F ht9⟩) hR.sS.2.2 dX14_takesOf_351
            rw [if_neg c9_146] at hf
            (try rw [if_neg c9_146] at hd)
            by_cases c9_147 : v111_2.toInt = 147
            · refine lv_lookup (off := 236) (tgt := 348) hx hb dX14_takesOf_112 (by decide) (by rw [c9_147]; decide) (by decide) ?_
              rw [if_pos (c9_147)] at hf
              (try rw [if_pos (c9_147)] at hd)
              have hT_t19 : qT S 10000016 = 12 := hR.w.txt (i := 8) (by decide)
              refine va_ldcSW (tx := "I") (q := ad 10000016) hx hb hown (hE.2.2 _ ldc_706) dX14_takesOf_348 ?_
              exact W.aret (v := .ref (ad 10000016)) hx hb hr (Or.inl ⟨_, rfl⟩) (Or.inr ⟨_, rfl⟩) (fun t9 ht9 hW9 => ⟨⟨some (ad 10000016), (), rfl, ⟨by rw [hf0, ← hf], by rw [hf0, ← hf]; exact hT_t19⟩, ⟨by rw [ht9]; exact hR.P, hR.D⟩⟩, hR.sS.F ht9⟩) hR.sS.2.2 dX14_takesOf_351
            rw [if_neg c9_147] at hf
            (try rw [if_neg c9_147] at hd)
            by_cases c9_148 : v111_2.toInt = 148
            · refine lv_lookup (off := 248) (tgt := 360) hx hb dX14_takesOf_112 (by decide) (by rw [c9_148]; decide) (by decide) ?_
              rw [if_pos (c9_148)] at hf
              (try rw [if_pos (c9_148)] at hd)
              have hT_t20 : qT S 10000012 = 12 := hR.w.txt (i := 6) (by decide)
              refine va_ldcSW (tx := "JJ") (q := ad 10000012) hx hb hown (hE.2.2 _ ldc_702) dX14_takesOf_360 ?_
              exact W.aret (v := .ref (ad 10000012)) hx hb hr (Or.inl ⟨_, rfl⟩) (Or.inr ⟨_, rfl⟩) (fun t9 ht9 hW9 => ⟨⟨some (ad 10000012), (), rfl, ⟨by rw [hf0, ← hf], by rw [hf0, ← hf]; exact hT_t20⟩, ⟨by rw [ht9]; exact hR.P, hR.D⟩⟩, hR.sS.F ht9⟩) hR.sS.2.2 dX14_takesOf_363
            rw [if_neg c9_148] at hf
            (try rw [if_neg c9_148] at hd)
            by_cases c9_165 : v111_2.toInt = 165
            · refine lv_lookup (off := 252) (tgt := 364) hx hb dX14_takesOf_112 (by decide) (by rw [c9_165]; decide) (by decide) ?_
              rw [if_pos (c9_165)] at hf
              (try rw [if_pos (c9_165)] at hd)
              have hT_t21 : qT S 10000026 = 12 := hR.w.txt (i := 13) (by decide)
              refine va_ldcSW (tx := "RR") (q := ad 10000026) hx hb hown (hE.2.2 _ ldc_715) dX14_takesOf_364 ?_
              exact W.aret (v := .ref (ad 10000026)) hx hb hr (Or.inl ⟨_, rfl⟩) (Or.inr ⟨_, rfl⟩) (fun t9 ht9 hW9 => ⟨⟨some (ad 10000026), (), rfl, ⟨by rw [hf0, ← hf], by rw [hf0, ← hf]; exact hT_t21⟩, ⟨by rw [ht9]; exact hR.P, hR.D⟩⟩, hR.sS.F ht9⟩) hR.sS.2.2 dX14_takesOf_367
            rw [if_neg c9_165] at hf
            (try rw [if_neg c9_165] at hd)
            by_cases c9_166 : v111_2.toInt = 166
            · refine lv_lookup (off := 252) (tgt := 364) hx hb dX14_takesOf_112 (by decide) (by rw [c9_166]; decide) (by decide) ?_
              rw [if_pos (c9_166)] at hf
              (try rw [if_pos (c9_166)] at hd)
              have hT_t22 : qT S 10000026 = 12 := hR.w.txt (i := 13) (by decide)
              refine va_ldcSW (tx := "RR") (q := ad 10000026) hx hb hown (hE.2.2 _ ldc_715) dX14_takesOf_364 ?_
              exact W.aret (v := .ref (ad 10000026)) hx hb hr (Or.inl ⟨_, rfl⟩) (Or.inr ⟨_, rfl⟩) (fun t9 ht9 hW9 => ⟨⟨some (ad 10000026), (), rfl, ⟨by rw [hf0, ← hf], by rw [hf0, ← hf]; exact hT_t22⟩, ⟨by rw [ht9]; exact hR.P, hR.D⟩⟩, hR.sS.F ht9⟩) hR.sS.2.2 dX14_takesOf_367
            rw [if_neg c9_166] at hf
            (try rw [if_neg c9_166] at hd)
            by_cases c9_170 : v111_2.toInt = 170
            · refine lv_lookup (off := 236) (tgt := 348) hx hb dX14_takesOf_112 (by decide) (by rw [c9_170]; decide) (by decide) ?_
              rw [if_pos (c9_170)] at hf
              (try rw [if_pos (c9_170)] at hd)
              have hT_t23 : qT S 10000016 = 12 := hR.w.txt (i := 8) (by decide)
              refine va_ldcSW (tx := "I") (q := ad 10000016) hx hb hown (hE.2.2 _ ldc_706) dX14_takesOf_348 ?_
              exact W.aret (v := .ref (ad 10000016)) hx hb hr (Or.inl ⟨_, rfl⟩) (Or.inr ⟨_, rfl⟩) (fun t9 ht9 hW9 => ⟨⟨some (ad 10000016), (), rfl, ⟨by rw [hf0, ← hf], by rw [hf0, ← hf]; exact hT_t23⟩, ⟨by rw [ht9]; exact hR.P, hR.D⟩⟩, hR.sS.F ht9⟩) hR.sS.2.2 dX14_takesOf_351
            rw [if_neg c9_170] at hf
            (try rw [if_neg c9_170] at hd)
            by_cases c9_171 : v111_2.toInt = 171
            · refine lv_lookup (off := 236) (tgt := 348) hx hb dX14_takesOf_112 (by decide) (by rw [c9_171]; decide) (by decide) ?_
              rw [if_pos (c9_171)] at hf
              (try rw [if_pos (c9_171)] at hd)
              have hT_t24 : qT S 10000016 = 12 := hR.w.txt (i := 8) (by decide)
              refine va_ldcSW (tx := "I") (q := ad 10000016) hx hb hown (hE.2.2 _ ldc_706) dX14_takesOf_348 ?_
              exact W.aret (v := .ref (ad 10000016)) hx hb hr (Or.inl ⟨_, rfl⟩) (Or.inr ⟨_, rfl⟩) (fun t9 ht9 hW9 => ⟨⟨some (ad 10000016), (), rfl, ⟨by rw [hf0, ← hf], by rw [hf0, ← hf]; exact hT_t24⟩, ⟨by rw [ht9]; exact hR.P, hR.D⟩⟩, hR.sS.F ht9⟩) hR.sS.2.2 dX14_takesOf_351
            rw [if_neg c9_171] at hf
            (try rw [if_neg c9_171] at hd)
            by_cases c9_172 : v111_2.toInt = 172
            · refine lv_lookup (off := 236) (tgt := 348) hx hb dX14_takesOf_112 (by decide) (by rw [c9_172]; decide) (by decide) ?_
              rw [if_pos (c9_172)] at hf
              (try rw [if_pos (c9_172)] at hd)
              have hT_t25 : qT S 10000016 = 12 := hR.w.txt (i := 8) (by decide)
              refine va_ldcSW (tx := "I") (q := ad 10000016) hx hb hown (hE.2.2 _ ldc_706) dX14_takesOf_348 ?_
              exact W.aret (v := .ref (ad 10000016)) hx hb hr (Or.inl ⟨_, rfl⟩) (Or.inr ⟨_, rfl⟩) (fun t9 ht9 hW9 => ⟨⟨some (ad 10000016), (), rfl, ⟨by rw [hf0, ← hf], by rw [hf0, ← hf]; exact hT_t25⟩, ⟨by rw [ht9]; exact hR.P, hR.D⟩⟩, hR.sS.F ht9⟩) hR.sS.2.2 dX14_takesOf_351
            rw [if_neg c9_172] at hf
            (try rw [if_neg c9_172] at hd)
            by_cases c9_173 : v111_2.toInt = 173
            · refine lv_lookup (off := 240) (tgt := 352) hx hb dX14_takesOf_112 (by decide) (by rw [c9_173]; decide) (by decide) ?_
              rw [if_pos (c9_173)] at hf
              (try rw [if_pos (c9_173)] at hd)
              have hT_t26 : qT S 10000022 = 12 := hR.w.txt (i := 11) (by decide)
              refine va_ldcSW (tx := "J") (q := ad 10000022) hx hb hown (hE.2.2 _ ldc_711) dX14_takesOf_352 ?_
              exact W.aret (v := .ref (ad 10000022)) hx hb hr (Or.inl ⟨_, rfl⟩) (Or.inr ⟨_, rfl⟩) (fun t9 ht9 hW9 => ⟨⟨some (ad 10000022), (), rfl, ⟨by rw [hf0, ← hf], by rw [hf0, ← hf]; exact hT_t26⟩, ⟨by rw [ht9]; exact hR.P, hR.D⟩⟩, hR.sS.F ht9⟩) hR.sS.2.2 dX14_takesOf_355
            rw [if_neg c9_173] at hf
            (try rw [if_neg c9_173] at hd)
            by_cases c9_176 : v111_2.toInt = 176
            · refine lv_lookup (off := 256) (tgt := 368) hx hb dX14_takesOf_112 (by decide) (by rw [c9_176]; decide) (by decide) ?_
              rw [if_pos (c9_176)] at hf
              (try rw [if_pos (c9_176)] at hd)
              have hT_t27 : qT S 10000028 = 12 := hR.w.txt (i := 14) (by decide)
              refine va_ldcSW (tx := "A") (q := ad 10000028) hx hb hown (hE.2.2 _ ldc_717) dX14_takesOf_368 ?_
              exact W.aret (v := .ref (ad 10000028)) hx hb hr (Or.inl ⟨_, rfl⟩) (Or.inr ⟨_, rfl⟩) (fun t9 ht9 hW9 => ⟨⟨some (ad 10000028), (), rfl, ⟨by rw [hf0, ← hf], by rw [hf0, ← hf]; exact hT_t27⟩, ⟨by rw [ht9]; exact hR.P, hR.D⟩⟩, hR.sS.F ht9⟩) hR.sS.2.2 dX14_takesOf_371
            rw [if_neg c9_176] at hf
            (try rw [if_neg c9_176] at hd)
            by_cases c9_179 : v111_2.toInt = 179
            · refine lv_lookup (off := 264) (tgt := 376) hx hb dX14_takesOf_112 (by decide) (by rw [c9_179]; decide) (by decide) ?_
              rw [if_pos (c9_179)] at hf
              (try rw [if_pos (c9_179)] at hd)
              refine lv_aload_n hx hb dX14_takesOf_376 rfl (lv_at hl 0 rfl) ?_
              obtain ⟨hv28, hd⟩ := hd
              have hT_b29 : qT S (qO S 0 47) = 11 := hR.w.ref hv28 hR.w.1
              refine va_get (D := rD g) (ci := 13) (v := .ref (ad (qO S 0 47))) (C := RX14) (T := TX14) (N := 143) hx hb hts in2X14 hown hR.K hR.P 0 (hR.at14 hR.w.1) rfl 47 (by decide) (hts _ kx_362) (fun _ h9 => h9) (congrArg (fun z => some (vf ad z)) hv28) dX14_takesOf_377 ?_
              obtain ⟨hv30, hd⟩ := hd
              have hT_b31 : qT S (qO S (qO S 0 47) 7) = 5 := hR.w.ref hv30 hT_b29
              refine va_get (D := rD g) (ci := 12) (v := .ref (ad (qO S (qO S 0 47) 7))) (C := RX13) (T := TX13) (N := 23) hx hb hts in2X13 hown hR.K hR.P (qO S 0 47) (hR.at13 hT_b29) rfl 7 (by decide) (hts _ kx_397) (fun _ h9 => h9) (congrArg (fun z => some (vf ad z)) hv30) dX14_takesOf_380 ?_
              refine lv_aload_n hx hb dX14_takesOf_383 rfl (lv_at hl 0 rfl) ?_
              refine lv_iload_n hx hb dX14_takesOf_384 rfl (lv_at hl 1 rfl) ?_
              obtain ⟨hv32, hd⟩ := hd
              have hFc := rfree hR hA
              refine va_calli (va_runV (As := [.int v111_1]) (rest := [.ref (ad (qO S (qO S 0 47) 7))]) ⟨hx, hb, hml, hown, hts⟩ (r_first l g ad H.size S v111_1 hR.w  hv32) (cwV 1 hts (gd2_V kx_393 kx_394 kx_395 kx_177 kx_396) rfl rfl rfl (by decide +kernel) ⟨Nat.le_of_ble_eq_true rfl, Nat.le_of_ble_eq_true rfl⟩) ⟨rblind, va_recv hR.K hR.P (ci := 13) (q0 := 0) rfl (hR.at14 hR.w.1), fun U hU hW9 => rmk hU hW9 hR hex hE hFc⟩ rfl rfl hl.1 rfl (lv_room (Nat.le_of_ble_eq_true rfl)) dX14_takesOf_385 ⟨Nat.le_of_ble_eq_true rfl, Nat.le_of_ble_eq_true rfl⟩) hR.sS (fun q _ h => hFc q h) hFc (fun r33 u9 t9 H1 locs ht9 hvm9 hw9 hB9 hz9 hk9 hS => ?_)
              have hR : Rep g ad A s S H1 locs := hR.call ht9 hB9 hR.w hS hFc
              obtain rfl : r33 = (f_first S v111_1) := hw9
              clear hB9 hz9 hk9 hvm9 ht9 hS
              generalize H1 = H at hR ⊢
              obtain ⟨hv35, hd⟩ := hd
              refine va_aldq hx hb hR.K hR.P (qO S (qO S 0 47) 7) 4 (hR.atS hT_b31) rfl (k_ix (x := (f_first S v111_1)) (a := (f_first S v111_1).toInt) rfl hv35) dX14_takesOf_388 ?_
              obtain ⟨hv36, hd⟩ := hd
              have hT_b37 : qT S (qO S (qO S (qO S 0 47) 7) (((f_first S v111_1).toInt).toNat)) = 12 := hR.w.ref hv36 hT_b31
              rw [show va_rf (Option.map ad (qR S (qO S (qO S 0 47) 7) ((f_first S v111_1) : Int32).toNatClampNeg)) = .ref (ad (qO S (qO S (qO S 0 47) 7) (((f_first S v111_1).toInt).toNat))) from congrArg (fun z => vf ad z) hv36]
              exact W.aret (v := .ref (ad (qO S (qO S (qO S 0 47) 7) (((f_first S v111_1).toInt).toNat)))) hx hb hr (Or.inl ⟨_, rfl⟩) (Or.inr ⟨_, rfl⟩) (fun t9 ht9 hW9 => ⟨⟨some (ad (qO S (qO S (qO S 0 47) 7) (((f_first S v111_1).toInt).toNat))), (), rfl, ⟨by rw [hf0, ← hf], by rw [hf0, ← hf]; exact hT_b37⟩, ⟨by rw [ht9]; exact hR.P, hR.D⟩⟩, hR.sS.F ht9⟩) hR.sS.2.2 dX14_takesOf_389
            rw [if_neg c9_179] at hf
            (try rw [if_neg c9_179] at hd)
            by_cases c9_184 : v111_2.toInt = 184
            · refine lv_lookup (off := 278) (tgt := 390) hx hb dX14_takesOf_112 (by decide) (by rw [c9_184]; decide) (by decide) ?_
              rw [if_pos (c9_184)] at hf
              (try rw [if_pos (c9_184)] at hd)
              refine lv_aload_n hx hb dX14_takesOf_390 rfl (lv_at hl 0 rfl) ?_
              obtain ⟨hv38, hd⟩ := hd
              have hT_b39 : qT S (qO S 0 47) = 11 := hR.w.ref hv38 hR.w.1
              refine va_get (D := rD g) (ci := 13) (v := .ref (ad (qO S 0 47))) (C := RX14) (T := TX14) (N := 143) hx hb hts in2X14 hown hR.K hR.P 0 (hR.at14 hR.w.1) rfl 47 (by decide) (hts _ kx_362) (fun _ h9 => h9) (congrArg (fun z => some (vf ad z)) hv38) dX14_takesOf_391 ?_
              obtain ⟨hv40, hd⟩ := hd
              have hT_b41 : qT S (qO S (qO S 0 47) 10) = 5 := hR.w.ref hv40 hT_b39
              refine va_get (D := rD g) (ci := 12) (v := .ref (ad (qO S (qO S 0 47) 10))) (C := RX13) (T := TX13) (N := 23) hx hb hts in2X13 hown hR.K hR.P (qO S 0 47) (hR.at13 hT_b39) rfl 10 (by decide) (hts _ kx_398) (fun _ h9 => h9) (congrArg (fun z => some (vf ad z)) hv40) dX14_takesOf_394 ?_
              refine lv_aload_n hx hb dX14_takesOf_397 rfl (lv_at hl 0 rfl) ?_
              refine lv_iload_n hx hb dX14_takesOf_398 rfl (lv_at hl 1 rfl) ?_
              obtain ⟨hv42, hd⟩ := hd
              have hFc := rfree hR hA
              refine va_calli (va_runV (As := [.int v111_1]) (rest := [.ref (ad (qO S (qO S 0 47) 10))]) ⟨hx, hb, hml, hown, hts⟩ (r_first l g ad H.size S v111_1 hR.w  hv42) (cwV 1 hts (gd2_V kx_393 kx_394 kx_395 kx_177 kx_396) rfl rfl rfl (by decide +kernel) ⟨Nat.le_of_ble_eq_true rfl, Nat.le_of_ble_eq_true rfl⟩) ⟨rblind, va_recv hR.K hR.P (ci := 13) (q0 := 0) rfl (hR.at14 hR.w.1), fun U hU hW9 => rmk hU hW9 hR hex hE hFc⟩ rfl rfl hl.1 rfl (lv_room (Nat.le_of_ble_eq_true rfl)) dX14_takesOf_399 ⟨Nat.le_of_ble_eq_true rfl, Nat.le_of_ble_eq_true rfl⟩) hR.sS (fun q _ h => hFc q h) hFc (fun r43 u9 t9 H1 locs ht9 hvm9 hw9 hB9 hz9 hk9 hS => ?_)
              have hR : Rep g ad A s S H1 locs := hR.call ht9 hB9 hR.w hS hFc
              obtain rfl : r43 = (f_first S v111_1) := hw9
              clear hB9 hz9 hk9 hvm9 ht9 hS
              generalize H1 = H at hR ⊢
              obtain ⟨hv45, hd⟩ := hd
              refine va_aldq hx hb hR.K hR.P (qO S (qO S 0 47) 10) 4 (hR.atS hT_b41) rfl (k_ix (x := (f_first S v111_1)) (a := (f_first S v111_1).toInt) rfl hv45) dX14_takesOf_402 ?_
              obtain ⟨hv46, hd⟩ := hd
              have hT_b47 : qT S (qO S (qO S (qO S 0 47) 10) (((f_first S v111_1).toInt).toNat)) = 12 := hR.w.ref hv46 hT_b41
              rw [show va_rf (Option.map ad (qR S (qO S (qO S 0 47) 10) ((f_first S v111_1) : Int32).toNatClampNeg)) = .ref (ad (qO S (qO S (qO S 0 47) 10) (((f_first S v111_1).toInt).toNat))) from congrArg (fun z => vf ad z) hv46]
              exact W.aret (v := .ref (ad (qO S (qO S (qO S 0 47) 10) (((f_first S v111_1).toInt).toNat)))) hx hb hr (Or.inl ⟨_, rfl⟩) (Or.inr ⟨_, rfl⟩) (fun t9 ht9 hW9 => ⟨⟨some (ad (qO S (qO S (qO S 0 47) 10) (((f_first S v111_1).toInt).toNat))), (), rfl, ⟨by rw [hf0, ← hf], by rw [hf0, ← hf]; exact hT_b47⟩, ⟨by rw [ht9]; exact hR.P, hR.D⟩⟩, hR.sS.F ht9⟩) hR.sS.2.2 dX14_takesOf_403
            rw [if_neg c9_184] at hf
            (try rw [if_neg c9_184] at hd)
            by_cases c9_188 : v111_2.toInt = 188
            · refine lv_lookup (off := 236) (tgt := 348) hx hb dX14_takesOf_112 (by decide) (by rw [c9_188]; decide) (by decide) ?_
              rw [if_pos (c9_188)] at hf
              (try rw [if_pos (c9_188)] at hd)
              have hT_t48 : qT S 10000016 = 12 := hR.w.txt (i := 8) (by decide)
              refine va_ldcSW (tx := "I") (q := ad 10000016) hx hb hown (hE.2.2 _ ldc_706) dX14_takesOf_348 ?_
              exact W.aret (v := .ref (ad 10000016)) hx hb hr (Or.inl ⟨_, rfl⟩) (Or.inr ⟨_, rfl⟩) (fun t9 ht9 hW9 => ⟨⟨some (ad 10000016), (), rfl, ⟨by rw [hf0, ← hf], by rw [hf0, ← hf]; exact hT_t48⟩, ⟨by rw [ht9]; exact hR.P, hR.D⟩⟩, hR.sS.F ht9⟩) hR.sS.2.2 dX14_takesOf_351
            rw [if_neg c9_188] at hf
            (try rw [if_neg c9_188] at hd)
            by_cases c9_190 : v111_2.toInt = 190
            · refine lv_lookup (off := 256) (tgt := 368) hx hb dX14_takesOf_112 (by decide) (by rw [c9_190]; decide) (by decide) ?_
              rw [if_pos (c9_190)] at hf
              (try rw [if_pos (c9_190)] at hd)
              have hT_t49 : qT S 10000028 = 12 := hR.w.txt (i := 14) (by decide)
              refine va_ldcSW (tx := "A") (q := ad 10000028) hx hb hown (hE.2.2 _ ldc_717) dX14_takesOf_368 ?_
              exact W.aret (v := .ref (ad 10000028)) hx hb hr (Or.inl ⟨_, rfl⟩) (Or.inr ⟨_, rfl⟩) (fun t9 ht9 hW9 => ⟨⟨some (ad 10000028), (), rfl, ⟨by rw [hf0, ← hf], by rw [hf0, ← hf]; exact hT_t49⟩, ⟨by rw [ht9]; exact hR.P, hR.D⟩⟩, hR.sS.F ht9⟩) hR.sS.2.2 dX14_takesOf_371
            rw [if_neg c9_190] at hf
            (try rw [if_neg c9_190] at hd)
            by_cases c9_191 : v111_2.toInt = 191
            · refine lv_lookup (off := 260) (tgt := 372) hx hb dX14_takesOf_112 (by decide) (by rw [c9_191]; decide) (by decide) ?_
              rw [if_pos (c9_191)] at hf
              (try rw [if_pos (c9_191)] at hd)
              have hT_t50 : qT S 10000030 = 12 := hR.w.txt (i := 15) (by decide)
              refine va_ldcSW (tx := "E") (q := ad 10000030) hx hb hown (hE.2.2 _ ldc_719) dX14_takesOf_372 ?_
              exact W.aret (v := .ref (ad 10000030)) hx hb hr (Or.inl ⟨_, rfl⟩) (Or.inr ⟨_, rfl⟩) (fun t9 ht9 hW9 => ⟨⟨some (ad 10000030), (), rfl, ⟨by rw [hf0, ← hf], by rw [hf0, ← hf]; exact hT_t50⟩, ⟨by rw [ht9]; exact hR.P, hR.D⟩⟩, hR.sS.F ht9⟩) hR.sS.2.2 dX14_takesOf_375
            rw [if_neg c9_191] at hf
            (try rw [if_neg c9_191] at hd)
            by_cases c9_198 : v111_2.toInt = 198
            · refine lv_lookup (off := 244) (tgt := 356) hx hb dX14_takesOf_112 (by decide) (by rw [c9_198]; decide) (by decide) ?_
              rw [if_pos (c9_198)] at hf
              (try rw [if_pos (c9_198)] at hd)
              have hT_t51 : qT S 10000024 = 12 := hR.w.txt (i := 12) (by decide)
              refine va_ldcSW (tx := "R") (q := ad 10000024) hx hb hown (hE.2.2 _ ldc_713) dX14_takesOf_356 ?_
              exact W.aret (v := .ref (ad 10000024)) hx hb hr (Or.inl ⟨_, rfl⟩) (Or.inr ⟨_, rfl⟩) (fun t9 ht9 hW9 => ⟨⟨some (ad 10000024), (), rfl, ⟨by rw [hf0, ← hf], by rw [hf0, ← hf]; exact hT_t51⟩, ⟨by rw [ht9]; exact hR.P, hR.D⟩⟩, hR.sS.F ht9⟩) hR.sS.2.2 dX14_takesOf_359
            rw [if_neg c9_198] at hf
            (try rw [if_neg c9_198] at hd)
            by_cases c9_199 : v111_2.toInt = 199
            · refine lv_lookup (off := 244) (tgt := 356) hx hb dX14_takesOf_112 (by decide) (by rw [c9_199]; decide) (by decide) ?_
              rw [if_pos (c9_199)] at hf
              (try rw [if_pos (c9_199)] at hd)
              have hT_t52 : qT S 10000024 = 12 := hR.w.txt (i := 12) (by decide)
              refine va_ldcSW (tx := "R") (q := ad 10000024) hx hb hown (hE.2.2 _ ldc_713) dX14_takesOf_356 ?_
              exact W.aret (v := .ref (ad 10000024)) hx hb hr (Or.inl ⟨_, rfl⟩) (Or.inr ⟨_, rfl⟩) (fun t9 ht9 hW9 => ⟨⟨some (ad 10000024), (), rfl, ⟨by rw [hf0, ← hf], by rw [hf0, ← hf]; exact hT_t52⟩, ⟨by rw [ht9]; exact hR.P, hR.D⟩⟩, hR.sS.F ht9⟩) hR.sS.2.2 dX14_takesOf_359
            rw [if_neg c9_199] at hf
            (try rw [if_neg c9_199] at hd)
            refine lv_lookup (off := 292) (tgt := 404) hx hb dX14_takesOf_112 (by decide) (lx_cons c9_46 (lx_cons c9_54 (lx_cons c9_55 (lx_cons c9_58 (lx_cons c9_79 (lx_cons c9_116 (lx_cons c9_117 (lx_cons c9_133 (lx_cons c9_136 (lx_cons c9_145 (lx_cons c9_146 (lx_cons c9_147 (lx_cons c9_148 (lx_cons c9_165 (lx_cons c9_166 (lx_cons c9_170 (lx_cons c9_171 (lx_cons c9_172 (lx_cons c9_173 (lx_cons c9_176 (lx_cons c9_179 (lx_cons c9_184 (lx_cons c9_188 (lx_cons c9_190 (lx_cons c9_191 (lx_cons c9_198 (lx_cons c9_199 lx_nil))))))))))))))))))))))))))) (by decide) ?_
            have hT_t53 : qT S 10000032 = 12 := hR.w.txt (i := 16) (by decide)
            refine va_ldcSW (tx := "") (q := ad 10000032) hx hb hown (hE.2.2 _ ldc_721) dX14_takesOf_404 ?_
            exact W.aret (v := .ref (ad 10000032)) hx hb hr (Or.inl ⟨_, rfl⟩) (Or.inr ⟨_, rfl⟩) (fun t9 ht9 hW9 => ⟨⟨some (ad 10000032), (), rfl, ⟨by rw [hf0, ← hf], by rw [hf0, ← hf]; exact hT_t53⟩, ⟨by rw [ht9]; exact hR.P, hR.D⟩⟩, hR.sS.F ht9⟩) hR.sS.2.2 dX14_takesOf_407
          refine lv_icmp_lt (tgt := 111) hx hb dX14_takesOf_97 (by decide) (fun c54 => ?_) (fun c54 => ?_)
          · rw [if_pos (k_lt rfl (by decide) c54)] at hf
            (try rw [if_pos (k_lt rfl (by decide) c54)] at hd)
            exact J_111 v93_1 v93_2 _ _ ls hd hf  hR (lv_sub hl [0, 1, 2] rfl)
          · rw [if_neg (k_nlt rfl (by decide) c54)] at hf
            (try rw [if_neg (k_nlt rfl (by decide) c54)] at hd)
            refine lv_iload_n hx hb dX14_takesOf_100 rfl (lv_at hl 2 rfl) ?_
            refine lv_sipush (v := 164) hx hb dX14_takesOf_101 (by decide) ?_
            refine lv_icmp_gt (tgt := 111) hx hb dX14_takesOf_104 (by decide) (fun c55 => ?_) (fun c55 => ?_)
            · rw [if_pos (k_lt (by decide) rfl c55)] at hf
              (try rw [if_pos (k_lt (by decide) rfl c55)] at hd)
              exact J_111 v93_1 v93_2 _ _ ls hd hf  hR (lv_sub hl [0, 1, 2] rfl)
            · rw [if_neg (k_nlt (by decide) rfl c55)] at hf
              (try rw [if_neg (k_nlt (by decide) rfl c55)] at hd)
              have hT_t56 : qT S 10000010 = 12 := hR.w.txt (i := 5) (by decide)
              refine va_ldcSW (tx := "II") (q := ad 10000010) hx hb hown (hE.2.2 _ ldc_700) dX14_takesOf_107 ?_
              exact W.aret (v := .ref (ad 10000010)) hx hb hr (Or.inl ⟨_, rfl⟩) (Or.inr ⟨_, rfl⟩) (fun t9 ht9 hW9 => ⟨⟨some (ad 10000010), (), rfl, ⟨by rw [hf0, ← hf], by rw [hf0, ← hf]; exact hT_t56⟩, ⟨by rw [ht9]; exact hR.P, hR.D⟩⟩, hR.sS.F ht9⟩) hR.sS.2.2 dX14_takesOf_110
        refine lv_icmp_lt (tgt := 93) hx hb dX14_takesOf_79 (by decide) (fun c57 => ?_) (fun c57 => ?_)
        · rw [if_pos (k_lt rfl (by decide) c57)] at hf
          (try rw [if_pos (k_lt rfl (by decide) c57)] at hd)
          exact J_93 v75_1 v75_2 _ _ ls hd hf  hR (lv_sub hl [0, 1, 2] rfl)
        · rw [if_neg (k_nlt rfl (by decide) c57)] at hf
          (try rw [if_neg (k_nlt rfl (by decide) c57)] at hd)
          refine lv_iload_n hx hb dX14_takesOf_82 rfl (lv_at hl 2 rfl) ?_
          refine lv_sipush (v := 158) hx hb dX14_takesOf_83 (by decide) ?_
          refine lv_icmp_gt (tgt := 93) hx hb dX14_takesOf_86 (by decide) (fun c58 => ?_) (fun c58 => ?_)
          · rw [if_pos (k_lt (by decide) rfl c58)] at hf
            (try rw [if_pos (k_lt (by decide) rfl c58)] at hd)
            exact J_93 v75_1 v75_2 _ _ ls hd hf  hR (lv_sub hl [0, 1, 2] rfl)
          · rw [if_neg (k_nlt (by decide) rfl c58)] at hf
            (try rw [if_neg (k_nlt (by decide) rfl c58)] at hd)
            have hT_t59 : qT S 10000016 = 12 := hR.w.txt (i := 8) (by decide)
            refine va_ldcSW (tx := "I") (q := ad 10000016) hx hb hown (hE.2.2 _ ldc_706) dX14_takesOf_89 ?_
            exact W.aret (v := .ref (ad 10000016)) hx hb hr (Or.inl ⟨_, rfl⟩) (Or.inr ⟨_, rfl⟩) (fun t9 ht9 hW9 => ⟨⟨some (ad 10000016), (), rfl, ⟨by rw [hf0, ← hf], by rw [hf0, ← hf]; exact hT_t59⟩, ⟨by rw [ht9]; exact hR.P, hR.D⟩⟩, hR.sS.F ht9⟩) hR.sS.2.2 dX14_takesOf_92
      refine lv_icmp_lt (tgt := 75) hx hb dX14_takesOf_50 (by decide) (fun c60 => ?_) (fun c60 => ?_)
      · rw [if_pos (k_lt rfl (by decide) c60)] at hf
        (try rw [if_pos (k_lt rfl (by decide) c60)] at hd)
        exact J_75 v47_1 v47_2 _ _ ls hd hf  hR (lv_sub hl [0, 1, 2] rfl)
      · rw [if_neg (k_nlt rfl (by decide) c60)] at hf
        (try rw [if_neg (k_nlt rfl (by decide) c60)] at hd)
        refine lv_iload_n hx hb dX14_takesOf_53 rfl (lv_at hl 2 rfl) ?_
        refine lv_bipush (v := 125) hx hb dX14_takesOf_54 (by decide) ?_
        refine lv_icmp_gt (tgt := 75) hx hb dX14_takesOf_56 (by decide) (fun c61 => ?_) (fun c61 => ?_)
        · rw [if_pos (k_lt (by decide) rfl c61)] at hf
          (try rw [if_pos (k_lt (by decide) rfl c61)] at hd)
          exact J_75 v47_1 v47_2 _ _ ls hd hf  hR (lv_sub hl [0, 1, 2] rfl)
        · rw [if_neg (k_nlt (by decide) rfl c61)] at hf
          (try rw [if_neg (k_nlt (by decide) rfl c61)] at hd)
          refine lv_iload_n hx hb dX14_takesOf_59 rfl (lv_at hl 2 rfl) ?_
          refine lv_iconst (v := 2) hx hb dX14_takesOf_60 (by decide) ?_
          refine lv_irem hx hb dX14_takesOf_61 (by decide) ?_
          refine lv_topi (fun z62 ez62 => ?_)
          obtain rfl : z62 = (v47_2 - v47_2 / (2 : Int32) * (2 : Int32)) := ez62
          refine lv_if_ne (tgt := 71) hx hb dX14_takesOf_62 (by decide) (fun c63 => ?_) (fun c63 => ?_)
          · rw [if_neg (k_ne rfl (by decide) c63)] at hf
            (try rw [if_neg (k_ne rfl (by decide) c63)] at hd)
            have hT_t64 : qT S 10000014 = 12 := hR.w.txt (i := 7) (by decide)
            refine va_ldcSW (tx := "JI") (q := ad 10000014) hx hb hown (hE.2.2 _ ldc_704) dX14_takesOf_71 ?_
            exact W.aret (v := .ref (ad 10000014)) hx hb hr (Or.inl ⟨_, rfl⟩) (Or.inr ⟨_, rfl⟩) (fun t9 ht9 hW9 => ⟨⟨some (ad 10000014), (), rfl, ⟨by rw [hf0, ← hf], by rw [hf0, ← hf]; exact hT_t64⟩, ⟨by rw [ht9]; exact hR.P, hR.D⟩⟩, hR.sS.F ht9⟩) hR.sS.2.2 dX14_takesOf_74
          · rw [if_pos (k_eq rfl (by decide) c63)] at hf
            (try rw [if_pos (k_eq rfl (by decide) c63)] at hd)
            have hT_t65 : qT S 10000010 = 12 := hR.w.txt (i := 5) (by decide)
            refine va_ldcSW (tx := "II") (q := ad 10000010) hx hb hown (hE.2.2 _ ldc_700) dX14_takesOf_65 ?_
            refine lv_goto (tgt := 74) hx hb dX14_takesOf_68 (by decide) ?_
            exact W.aret (v := .ref (ad 10000010)) hx hb hr (Or.inl ⟨_, rfl⟩) (Or.inr ⟨_, rfl⟩) (fun t9 ht9 hW9 => ⟨⟨some (ad 10000010), (), rfl, ⟨by rw [hf0, ← hf], by rw [hf0, ← hf]; exact hT_t65⟩, ⟨by rw [ht9]; exact hR.P, hR.D⟩⟩, hR.sS.F ht9⟩) hR.sS.2.2 dX14_takesOf_74
    refine lv_icmp_lt (tgt := 47) hx hb dX14_takesOf_21 (by decide) (fun c66 => ?_) (fun c66 => ?_)
    · rw [if_pos (k_lt rfl (by decide) c66)] at hf
      (try rw [if_pos (k_lt rfl (by decide) c66)] at hd)
      exact J_47 v18_1 v18_2 _ _ ls hd hf  hR (lv_sub hl [0, 1, 2] rfl)
    · rw [if_neg (k_nlt rfl (by decide) c66)] at hf
      (try rw [if_neg (k_nlt rfl (by decide) c66)] at hd)
      refine lv_iload_n hx hb dX14_takesOf_24 rfl (lv_at hl 2 rfl) ?_
      refine lv_sipush (v := 131) hx hb dX14_takesOf_25 (by decide) ?_
      refine lv_icmp_gt (tgt := 47) hx hb dX14_takesOf_28 (by decide) (fun c67 => ?_) (fun c67 => ?_)
      · rw [if_pos (k_lt (by decide) rfl c67)] at hf
        (try rw [if_pos (k_lt (by decide) rfl c67)] at hd)
        exact J_47 v18_1 v18_2 _ _ ls hd hf  hR (lv_sub hl [0, 1, 2] rfl)
      · rw [if_neg (k_nlt (by decide) rfl c67)] at hf
        (try rw [if_neg (k_nlt (by decide) rfl c67)] at hd)
        exact J_31 v18_2 _ _ ls hd hf  hR (lv_sub hl [2] rfl)
  refine lv_icmp_lt (tgt := 18) hx hb dX14_takesOf_9 (by decide) (fun c68 => ?_) (fun c68 => ?_)
  · rw [if_pos (k_lt rfl (by decide) c68)] at hf
    (try rw [if_pos (k_lt rfl (by decide) c68)] at hd)
    exact J_18 x1 (f_op S x1) _ _ ls hd hf  hR (lv_sub hl [1, 2, 0] rfl)
  · rw [if_neg (k_nlt rfl (by decide) c68)] at hf
    (try rw [if_neg (k_nlt rfl (by decide) c68)] at hd)
    refine lv_iload_n hx hb dX14_takesOf_12 rfl (lv_at hl 0 rfl) ?_
    refine lv_bipush (v := 115) hx hb dX14_takesOf_13 (by decide) ?_
    refine lv_icmp_le (tgt := 31) hx hb dX14_takesOf_15 (by decide) (fun c69 => ?_) (fun c69 => ?_)
    · rw [if_pos (k_le rfl (by decide) c69)] at hf
      (try rw [if_pos (k_le rfl (by decide) c69)] at hd)
      exact J_31 (f_op S x1) _ _ ls hd hf  hR (lv_sub hl [0] rfl)
    · rw [if_neg (k_nle rfl (by decide) c69)] at hf
      (try rw [if_neg (k_nle rfl (by decide) c69)] at hd)
      exact J_18 x1 (f_op S x1) _ _ ls hd hf  hR (lv_sub hl [1, 2, 0] rfl)
def f_givesOf_J31 (S : MS) (v31_2 : Int32) : Nat := (if (v31_2 - v31_2 / (2 : Int32) * (2 : Int32)).toInt = 0 then 10000016 else 10000022)
def d_givesOf_J31 (S : MS) (v31_2 : Int32) : Prop := True
def f_givesOf_J47 (S : MS) (v47_1 : Int32) (v47_2 : Int32) : Nat := (if v47_2.toInt = 1 then 10000034 else (if v47_2.toInt = 18 then 10000016 else (if v47_2.toInt = 20 then 10000022 else (if v47_2.toInt = 21 then 10000016 else (if v47_2.toInt = 22 then 10000022 else (if v47_2.toInt = 25 then 10000024 else (if v47_2.toInt = 46 then 10000016 else (if v47_2.toInt = 133 then 10000022 else (if v47_2.toInt = 136 then 10000016 else (if v47_2.toInt = 145 then 10000016 else (if v47_2.toInt = 146 then 10000016 else (if v47_2.toInt = 147 then 10000016 else (if v47_2.toInt = 148 then 10000016 else (if v47_2.toInt = 178 then (qO S (qO S (qO S 0 47) 7) (((f_first S v47_1).toInt).toNat)) else (if v47_2.toInt = 184 then (qO S (qO S (qO S 0 47) 11) (((f_first S v47_1).toInt).toNat)) else (if v47_2.toInt = 188 then 10000028 else (if v47_2.toInt = 190 then 10000016 else 10000032)))))))))))))))))
def d_givesOf_J47 (S : MS) (v47_1 : Int32) (v47_2 : Int32) : Prop := (if v47_2.toInt = 1 then True else (if v47_2.toInt = 18 then True else (if v47_2.toInt = 20 then True else (if v47_2.toInt = 21 then True else (if v47_2.toInt = 22 then True else (if v47_2.toInt = 25 then True else (if v47_2.toInt = 46 then True else (if v47_2.toInt = 133 then True else (if v47_2.toInt = 136 then True else (if v47_2.toInt = 145 then True else (if v47_2.toInt = 146 then True else (if v47_2.toInt = 147 then True else (if v47_2.toInt = 148 then True else (if v47_2.toInt = 178 then ((qR S 0 47 = some (qO S 0 47)) ∧ ((qR S (qO S 0 47) 7 = some (qO S (qO S 0 47) 7)) ∧ (d_first S v47_1 ∧ (((0 : Int) ≤ (f_first S v47_1).toInt ∧ (f_first S v47_1).toInt < (qN S (qO S (qO S 0 47) 7) : Int)) ∧ ((qR S (qO S (qO S 0 47) 7) (((f_first S v47_1).toInt).toNat) = some (qO S (qO S (qO S 0 47) 7) (((f_first S v47_1).toInt).toNat))) ∧ True))))) else (if v47_2.toInt = 184 then ((qR S 0 47 = some (qO S 0 47)) ∧ ((qR S (qO S 0 47) 11 = some (qO S (qO S 0 47) 11)) ∧ (d_first S v47_1 ∧ (((0 : Int) ≤ (f_first S v47_1).toInt ∧ (f_first S v47_1).toInt < (qN S (qO S (qO S 0 47) 11) : Int)) ∧ ((qR S (qO S (qO S 0 47) 11) (((f_first S v47_1).toInt).toNat) = some (qO S (qO S (qO S 0 47) 11) (((f_first S v47_1).toInt).toNat))) ∧ True))))) else True)))))))))))))))
def f_givesOf_J18 (S : MS) (v18_1 : Int32) (v18_2 : Int32) : Nat := (if v18_2.toInt < 120 then f_givesOf_J47 S v18_1 v18_2 else (if 131 < v18_2.toInt then f_givesOf_J47 S v18_1 v18_2 else f_givesOf_J31 S v18_2))
def d_givesOf_J18 (S : MS) (v18_1 : Int32) (v18_2 : Int32) : Prop := (if v18_2.toInt < 120 then d_givesOf_J47 S v18_1 v18_2 else (if 131 < v18_2.toInt then d_givesOf_J47 S v18_1 v18_2 else d_givesOf_J31 S v18_2))
def f_givesOf (S : MS) (x1 : Int32) : Nat := (if (f_op S x1).toInt < 96 then f_givesOf_J18 S x1 (f_op S x1) else (if (f_op S x1).toInt ≤ 117 then f_givesOf_J31 S (f_op S x1) else f_givesOf_J18 S x1 (f_op S x1)))
def d_givesOf (S : MS) (x1 : Int32) : Prop := (d_op S x1 ∧ (if (f_op S x1).toInt < 96 then d_givesOf_J18 S x1 (f_op S x1) else (if (f_op S x1).toInt ≤ 117 then d_givesOf_J31 S (f_op S x1) else d_givesOf_J18 S x1 (f_op S x1))))
set_option maxHeartbeats 2000000 in
set_option maxRecDepth 100000 in
theorem r_givesOf (l : Launch) (g : Gr) (ad : Nat → Nat) (sz : Nat) (S : MS) (x1 : Int32) (hw : wfM S) (hd : d_givesOf S x1) : Met l yX14_givesOf (wt2 yX14_givesOf cX14_givesOf 3 (some (.object "java/lang/String"))) ({ frames := 1, cells := 0, slots := 0, locals := 21 }) (va_Pc [.ref (ad 0), .int x1] (st_R g ad sz S)) (va_Qq (fun (r : Option Nat) (_ : Unit) => r = some (ad (f_givesOf S x1)) ∧ qT S (f_givesOf S x1) = 12) (fun (_ : Unit) (t : State) => qE g ad (va_A (Wd g ad S) sz) S t) (va_A (Wd g ad S) sz)) 0 0 (va_A (Wd g ad S) sz) := by
  refine Met.ofW (cc := cX14_givesOf) (maxL := 3) (ret := (some (.object "java/lang/String"))) (by decide) rfl ?_
  intro p e s m args below meth c s₁ B hml hv
  obtain ⟨rfl, hsz, hP, hK, hD0, hex, hE⟩ := hv
  have hx := B.exec
  have hb := B.bytes
  have hr := B.returns
  have hts0 := atoms_spec (ws := wt2 yX14_givesOf cX14_givesOf 3 (some (.object "java/lang/String"))) B.pre
  have hts : ∀ w ∈ tb2, w.before _ s = true := fun w h => hts0 w (List.mem_cons_of_mem _ h)
  have hown : s.vm.findClass RX14 = some m.cls := findClass_of_methodNamed B.named
  subst hsz
  have hD := hD0.self (sz := s.heap.size)
  generalize hAe : va_A (Wd g ad S) s.heap.size = A at hD hE ⊢
  have hA : ∀ q : Nat, s.heap.size ≤ q → A q := fun q h => by rw [← hAe]; exact Or.inr h
  have hR : Rep g ad A s S s.heap [] := ⟨hK, hP, hD, va_S.rf, hw⟩
  clear hK hP hD hD0
  have hl := lv_entry ([.ref (ad 0), .int x1]) (n := 3) (Nat.le_of_ble_eq_true rfl)
  rw [lg_entry_eq]
  generalize (lg_sl ([.ref (ad 0), .int x1]) ++ List.replicate (3 - (lg_sl ([.ref (ad 0), .int x1])).length) Slot.unset).toArray = ls at hl ⊢
  have hl : lv_has ls 3 [(0, .ref (ad 0)), (1, .int x1)] := hl
  obtain ⟨r0, hf⟩ : ∃ r0, f_givesOf S x1 = r0 := ⟨_, rfl⟩
  have hf0 := hf
  unfold f_givesOf at hf
  unfold d_givesOf at hd
  refine lv_aload_n hx hb dX14_givesOf_0 rfl (lv_at hl 0 rfl) ?_
  refine lv_iload_n hx hb dX14_givesOf_1 rfl (lv_at hl 1 rfl) ?_
  obtain ⟨hv1, hd⟩ := hd
  have hFc := rfree hR hA
  refine va_calli (va_runV (As := [.int x1]) (rest := []) ⟨hx, hb, hml, hown, hts⟩ (r_op l g ad s.heap.size S x1 hR.w  hv1) (cwV 1 hts (gd2_V kx_379 kx_380 kx_381 kx_177 kx_382) rfl rfl rfl (by decide +kernel) ⟨Nat.le_of_ble_eq_true rfl, Nat.le_of_ble_eq_true rfl⟩) ⟨rblind, va_recv hR.K hR.P (ci := 13) (q0 := 0) rfl (hR.at14 hR.w.1), fun U hU hW9 => rmk hU hW9 hR hex hE hFc⟩ rfl rfl hl.1 rfl (lv_room (Nat.le_of_ble_eq_true rfl)) dX14_givesOf_2 ⟨Nat.le_of_ble_eq_true rfl, Nat.le_of_ble_eq_true rfl⟩) hR.sS (fun q _ h => hFc q h) hFc (fun r2 u9 t9 H1 locs ht9 hvm9 hw9 hB9 hz9 hk9 hS => ?_)
  have hR : Rep g ad A s S H1 locs := hR.call ht9 hB9 hR.w hS hFc
  obtain rfl : r2 = (f_op S x1) := hw9
  clear hB9 hz9 hk9 hvm9 ht9 hS
  generalize H1 = H at hR ⊢
  refine lv_istore_n (lv' := [(2, .int (f_op S x1)), (0, .ref (ad 0)), (1, .int x1)]) hx hb dX14_givesOf_5 rfl hl (by decide) rfl (fun ls hl => ?_)
  refine lv_iload_n hx hb dX14_givesOf_6 rfl (lv_at hl 0 rfl) ?_
  refine lv_bipush (v := 96) hx hb dX14_givesOf_7 (by decide) ?_
  have J_31 : ∀ (v31_2 : Int32) (H : Heap) (locs : List Loc) (ls : Array Slot), d_givesOf_J31 S v31_2 → f_givesOf_J31 S v31_2 = r0 → Rep g ad A s S H locs → lv_has ls 3 [(2, .int v31_2)] → W p l e (headSpec (wt2 yX14_givesOf cX14_givesOf 3 (some (.object "java/lang/String"))) ({ frames := 1, cells := 0, slots := 0, locals := 21 })).room s m ([.ref (ad 0), .int x1] : List Value).toArray below meth c H locs 0 0 (MQ below (va_Qq (fun (r : Option Nat) (_ : Unit) => r = some (ad (f_givesOf S x1)) ∧ qT S (f_givesOf S x1) = 12) (fun (_ : Unit) (t : State) => qE g ad A S t) A) ([.ref (ad 0), .int x1] : List Value).toArray s 0 0 A) (F0 m 31 ls []) := by
    intro v31_2 H locs ls hd hf hR hl
    unfold d_givesOf_J31 at hd
    unfold f_givesOf_J31 at hf
    refine lv_iload_n hx hb dX14_givesOf_31 rfl (lv_at hl 0 rfl) ?_
    refine lv_iconst (v := 2) hx hb dX14_givesOf_32 (by decide) ?_
    refine lv_irem hx hb dX14_givesOf_33 (by decide) ?_
    refine lv_topi (fun z4 ez4 => ?_)
    obtain rfl : z4 = (v31_2 - v31_2 / (2 : Int32) * (2 : Int32)) := ez4
    refine lv_if_ne (tgt := 43) hx hb dX14_givesOf_34 (by decide) (fun c5 => ?_) (fun c5 => ?_)
    · rw [if_neg (k_ne rfl (by decide) c5)] at hf
      (try rw [if_neg (k_ne rfl (by decide) c5)] at hd)
      have hT_t6 : qT S 10000022 = 12 := hR.w.txt (i := 11) (by decide)
      refine va_ldcSW (tx := "J") (q := ad 10000022) hx hb hown (hE.2.2 _ ldc_711) dX14_givesOf_43 ?_
      exact W.aret (v := .ref (ad 10000022)) hx hb hr (Or.inl ⟨_, rfl⟩) (Or.inr ⟨_, rfl⟩) (fun t9 ht9 hW9 => ⟨⟨some (ad 10000022), (), rfl, ⟨by rw [hf0, ← hf], by rw [hf0, ← hf]; exact hT_t6⟩, ⟨by rw [ht9]; exact hR.P, hR.D⟩⟩, hR.sS.F ht9⟩) hR.sS.2.2 dX14_givesOf_46
    · rw [if_pos (k_eq rfl (by decide) c5)] at hf
      (try rw [if_pos (k_eq rfl (by decide) c5)] at hd)
      have hT_t7 : qT S 10000016 = 12 := hR.w.txt (i := 8) (by decide)
      refine va_ldcSW (tx := "I") (q := ad 10000016) hx hb hown (hE.2.2 _ ldc_706) dX14_givesOf_37 ?_
      refine lv_goto (tgt := 46) hx hb dX14_givesOf_40 (by decide) ?_
      exact W.aret (v := .ref (ad 10000016)) hx hb hr (Or.inl ⟨_, rfl⟩) (Or.inr ⟨_, rfl⟩) (fun t9 ht9 hW9 => ⟨⟨some (ad 10000016), (), rfl, ⟨by rw [hf0, ← hf], by rw [hf0, ← hf]; exact hT_t7⟩, ⟨by rw [ht9]; exact hR.P, hR.D⟩⟩, hR.sS.F ht9⟩) hR.sS.2.2 dX14_givesOf_46
  have J_18 : ∀ (v18_1 : Int32) (v18_2 : Int32) (H : Heap) (locs : List Loc) (ls : Array Slot), d_givesOf_J18 S v18_1 v18_2 → f_givesOf_J18 S v18_1 v18_2 = r0 → Rep g ad A s S H locs → lv_has ls 3 [(0, .ref (ad 0)), (1, .int v18_1), (2, .int v18_2)] → W p l e (headSpec (wt2 yX14_givesOf cX14_givesOf 3 (some (.object "java/lang/String"))) ({ frames := 1, cells := 0, slots := 0, locals := 21 })).room s m ([.ref (ad 0), .int x1] : List Value).toArray below meth c H locs 0 0 (MQ below (va_Qq (fun (r : Option Nat) (_ : Unit) => r = some (ad (f_givesOf S x1)) ∧ qT S (f_givesOf S x1) = 12) (fun (_ : Unit) (t : State) => qE g ad A S t) A) ([.ref (ad 0), .int x1] : List Value).toArray s 0 0 A) (F0 m 18 ls []) := by
    intro v18_1 v18_2 H locs ls hd hf hR hl
    unfold d_givesOf_J18 at hd
    unfold f_givesOf_J18 at hf
    refine lv_iload_n hx hb dX14_givesOf_18 rfl (lv_at hl 2 rfl) ?_
    refine lv_bipush (v := 120) hx hb dX14_givesOf_19 (by decide) ?_
    have J_47 : ∀ (v47_1 : Int32) (v47_2 : Int32) (H : Heap) (locs : List Loc) (ls : Array Slot), d_givesOf_J47 S v47_1 v47_2 → f_givesOf_J47 S v47_1 v47_2 = r0 → Rep g ad A s S H locs → lv_has ls 3 [(0, .ref (ad 0)), (1, .int v47_1), (2, .int v47_2)] → W p l e (headSpec (wt2 yX14_givesOf cX14_givesOf 3 (some (.object "java/lang/String"))) ({ frames := 1, cells := 0, slots := 0, locals := 21 })).room s m ([.ref (ad 0), .int x1] : List Value).toArray below meth c H locs 0 0 (MQ below (va_Qq (fun (r : Option Nat) (_ : Unit) => r = some (ad (f_givesOf S x1)) ∧ qT S (f_givesOf S x1) = 12) (fun (_ : Unit) (t : State) => qE g ad A S t) A) ([.ref (ad 0), .int x1] : List Value).toArray s 0 0 A) (F0 m 47 ls []) := by
      intro v47_1 v47_2 H locs ls hd hf hR hl
      unfold d_givesOf_J47 at hd
      unfold f_givesOf_J47 at hf
      refine lv_iload_n hx hb dX14_givesOf_47 rfl (lv_at hl 2 rfl) ?_
      by_cases c9_1 : v47_2.toInt = 1
      · refine lv_lookup (off := 148) (tgt := 196) hx hb dX14_givesOf_48 (by decide) (by rw [c9_1]; decide) (by decide) ?_
        rw [if_pos (c9_1)] at hf
        (try rw [if_pos (c9_1)] at hd)
        have hT_t8 : qT S 10000034 = 12 := hR.w.txt (i := 17) (by decide)
        refine va_ldcSW (tx := "N") (q := ad 10000034) hx hb hown (hE.2.2 _ ldc_723) dX14_givesOf_196 ?_
        exact W.aret (v := .ref (ad 10000034)) hx hb hr (Or.inl ⟨_, rfl⟩) (Or.inr ⟨_, rfl⟩) (fun t9 ht9 hW9 => ⟨⟨some (ad 10000034), (), rfl, ⟨by rw [hf0, ← hf], by rw [hf0, ← hf]; exact hT_t8⟩, ⟨by rw [ht9]; exact hR.P, hR.D⟩⟩, hR.sS.F ht9⟩) hR.sS.2.2 dX14_givesOf_199
      rw [if_neg c9_1] at hf
      (try rw [if_neg c9_1] at hd)
      by_cases c9_18 : v47_2.toInt = 18
      · refine lv_lookup (off := 152) (tgt := 200) hx hb dX14_givesOf_48 (by decide) (by rw [c9_18]; decide) (by decide) ?_
        rw [if_pos (c9_18)] at hf
        (try rw [if_pos (c9_18)] at hd)
        have hT_t9 : qT S 10000016 = 12 := hR.w.txt (i := 8) (by decide)
        refine va_ldcSW (tx := "I") (q := ad 10000016) hx hb hown (hE.2.2 _ ldc_706) dX14_givesOf_200 ?_
        exact W.aret (v := .ref (ad 10000016)) hx hb hr (Or.inl ⟨_, rfl⟩) (Or.inr ⟨_, rfl⟩) (fun t9 ht9 hW9 => ⟨⟨some (ad 10000016), (), rfl, ⟨by rw [hf0, ← hf], by rw [hf0, ← hf]; exact hT_t9⟩, ⟨by rw [ht9]; exact hR.P, hR.D⟩⟩, hR.sS.F ht9⟩) hR.sS.2.2 dX14_givesOf_203
      rw [if_neg c9_18] at hf
      (try rw [if_neg c9_18] at hd)
      by_cases c9_20 : v47_2.toInt = 20
      · refine lv_lookup (off := 156) (tgt := 204) hx hb dX14_givesOf_48 (by decide) (by rw [c9_20]; decide) (by decide) ?_
        rw [if_pos (c9_20)] at hf
        (try rw [if_pos (c9_20)] at hd)
        have hT_t10 : qT S 10000022 = 12 := hR.w.txt (i := 11) (by decide)
        refine va_ldcSW (tx := "J") (q := ad 10000022) hx hb hown (hE.2.2 _ ldc_711) dX14_givesOf_204 ?_
        exact W.aret (v := .ref (ad 10000022)) hx hb hr (Or.inl ⟨_, rfl⟩) (Or.inr ⟨_, rfl⟩) (fun t9 ht9 hW9 => ⟨⟨some (ad 10000022), (), rfl, ⟨by rw [hf0, ← hf], by rw [hf0, ← hf]; exact hT_t10⟩, ⟨by rw [ht9]; exact hR.P, hR.D⟩⟩, hR.sS.F ht9⟩) hR.sS.2.2 dX14_givesOf_207
      rw [if_neg c9_20] at hf
      (try rw [if_neg c9_20] at hd)
      by_cases c9_21 : v47_2.toInt = 21
      · refine lv_lookup (off := 152) (tgt := 200) hx hb dX14_givesOf_48 (by decide) (by rw [c9_21]; decide) (by decide) ?_
        rw [if_pos (c9_21)] at hf
        (try rw [if_pos (c9_21)] at hd)
        have hT_t11 : qT S 10000016 = 12 := hR.w.txt (i := 8) (by decide)
        refine va_ldcSW (tx := "I") (q := ad 10000016) hx hb hown (hE.2.2 _ ldc_706) dX14_givesOf_200 ?_
        exact W.aret (v := .ref (ad 10000016)) hx hb hr (Or.inl ⟨_, rfl⟩) (Or.inr ⟨_, rfl⟩) (fun t9 ht9 hW9 => ⟨⟨some (ad 10000016), (), rfl, ⟨by rw [hf0, ← hf], by rw [hf0, ← hf]; exact hT_t11⟩, ⟨by rw [ht9]; exact hR.P, hR.D⟩⟩, hR.sS.F ht9⟩) hR.sS.2.2 dX14_givesOf_203
      rw [if_neg c9_21] at hf
      (try rw [if_neg c9_21] at hd)
      by_cases c9_22 : v47_2.toInt = 22
      · refine lv_lookup (off := 156) (tgt := 204) hx hb dX14_givesOf_48 (by decide) (by rw [c9_22]; decide) (by decide) ?_
        rw [if_pos (c9_22)] at hf
        (try rw [if_pos (c9_22)] at hd)
        have hT_t12 : qT S 10000022 = 12 := hR.w.txt (i := 11) (by decide)
        refine va_ldcSW (tx := "J") (q := ad 10000022) hx hb hown (hE.2.2 _ ldc_711) dX14_givesOf_204 ?_
        exact W.aret (v := .ref (ad 10000022)) hx hb hr (Or.inl ⟨_, rfl⟩) (Or.inr ⟨_, rfl⟩) (fun t9 ht9 hW9 => ⟨⟨some (ad 10000022), (), rfl, ⟨by rw [hf0, ← hf], by rw [hf0, ← hf]; exact hT_t12⟩, ⟨by rw [ht9]; exact hR.P, hR.D⟩⟩, hR.sS.F ht9⟩) hR.sS.2.2 dX14_givesOf_207
      rw [if_neg c9_22] at hf
      (try rw [if_neg c9_22] at hd)
      by_cases c9_25 : v47_2.toInt = 25
      · refine lv_lookup (off := 160) (tgt := 208) hx hb dX14_givesOf_48 (by decide) (by rw [c9_25]; decide) (by decide) ?_
        rw [if_pos (c9_25)] at hf
        (try rw [if_pos (c9_25)] at hd)
        have hT_t13 : qT S 10000024 = 12 := hR.w.txt (i := 12) (by decide)
        refine va_ldcSW (tx := "R") (q := ad 10000024) hx hb hown (hE.2.2 _ ldc_713) dX14_givesOf_208 ?_
        exact W.aret (v := .ref (ad 10000024)) hx hb hr (Or.inl ⟨_, rfl⟩) (Or.inr ⟨_, rfl⟩) (fun t9 ht9 hW9 => ⟨⟨some (ad 10000024), (), rfl, ⟨by rw [hf0, ← hf], by rw [hf0, ← hf]; exact hT_t13⟩, ⟨by rw [ht9]; exact hR.P, hR.D⟩⟩, hR.sS.F ht9⟩) hR.sS.2.2 dX14_givesOf_211
      rw [if_neg c9_25] at hf
      (try rw [if_neg c9_25] at hd)
      by_cases c9_46 : v47_2.toInt = 46
      · refine lv_lookup (off := 152) (tgt := 200) hx hb dX14_givesOf_48 (by decide) (by rw [c9_46]; decide) (by decide) ?_
        rw [if_pos (c9_46)] at hf
        (try rw [if_pos (c9_46)] at hd)
        have hT_t14 : qT S 10000016 = 12 := hR.w.txt (i := 8) (by decide)
        refine va_ldcSW (tx := "I") (q := ad 10000016) hx hb hown (hE.2.2 _ ldc_706) dX14_givesOf_200 ?_
        exact W.aret (v := .ref (ad 10000016)) hx hb hr (Or.inl ⟨_, rfl⟩) (Or.inr ⟨_, rfl⟩) (fun t9 ht9 hW9 => ⟨⟨some (ad 10000016), (), rfl, ⟨by rw [hf0, ← hf], by rw [hf0, ← hf]; exact hT_t14⟩, ⟨by rw [ht9]; exact hR.P, hR.D⟩⟩, hR.sS.F ht9⟩) hR.sS.2.2 dX14_givesOf_203
      rw [if_neg c9_46] at hf
      (try rw [if_neg c9_46] at hd)
      by_cases c9_133 : v47_2.toInt = 133
      · refine lv_lookup (off := 156) (tgt := 204) hx hb dX14_givesOf_48 (by decide) (by rw [c9_133]; decide) (by decide) ?_
        rw [if_pos (c9_133)] at hf
        (try rw [if_pos (c9_133)] at hd)
        have hT_t15 : qT S 10000022 = 12 := hR.w.txt (i := 11) (by decide)
        refine va_ldcSW (tx := "J") (q := ad 10000022) hx hb hown (hE.2.2 _ ldc_711) dX14_givesOf_204 ?_
        exact W.aret (v := .ref (ad 10000022)) hx hb hr (Or.inl ⟨_, rfl⟩) (Or.inr ⟨_, rfl⟩) (fun t9 ht9 hW9 => ⟨⟨some (ad 10000022), (), rfl, ⟨by rw [hf0, ← hf], by rw [hf0, ← hf]; exact hT_t15⟩, ⟨by rw [ht9]; exact hR.P, hR.D⟩⟩, hR.sS.F ht9⟩) hR.sS.2.2 dX14_givesOf_207
      rw [if_neg c9_133] at hf
      (try rw [if_neg c9_133] at hd)
      by_cases c9_136 : v47_2.toInt = 136
      · refine lv_lookup (off := 152) (tgt := 200) hx hb dX14_givesOf_48 (by decide) (by rw [c9_136]; decide) (by decide) ?_
        rw [if_pos (c9_136)] at hf
        (try rw [if_pos (c9_136)] at hd)
        have hT_t16 : qT S 10000016 = 12 := hR.w.txt (i := 8) (by decide)
        refine va_ldcSW (tx := "I") (q := ad 10000016) hx hb hown (hE.2.2 _ ldc_706) dX14_givesOf_200 ?_
        exact W.aret (v := .ref (ad 10000016)) hx hb hr (Or.inl ⟨_, rfl⟩) (Or.inr ⟨_, rfl⟩) (fun t9 ht9 hW9 => ⟨⟨some (ad 10000016), (), rfl, ⟨by rw [hf0, ← hf], by rw [hf0, ← hf]; exact hT_t16⟩, ⟨by rw [ht9]; exact hR.P, hR.D⟩⟩, hR.sS.F ht9⟩) hR.sS.2.2 dX14_givesOf_203
      rw [if_neg c9_136] at hf
      (try rw [if_neg c9_136] at hd)
      by_cases c9_145 : v47_2.toInt = 145
      · refine lv_lookup (off := 152) (tgt := 200) hx hb dX14_givesOf_48 (by decide) (by rw [c9_145]; decide) (by decide) ?_
        rw [if_pos (c9_145)] at hf
        (try rw [if_pos (c9_145)] at hd)
        have hT_t17 : qT S 10000016 = 12 := hR.w.txt (i := 8) (by decide)
        refine va_ldcSW (tx := "I") (q := ad 10000016) hx hb hown (hE.2.2 _ ldc_706) dX14_givesOf_200 ?_
        exact W.aret (v := .ref (ad 10000016)) hx hb hr (Or.inl ⟨_, rfl⟩) (Or.inr ⟨_, rfl⟩) (fun t9 ht9 hW9 => ⟨⟨some (ad 10000016), (), rfl, ⟨by rw [hf0, ← hf], by rw [hf0, ← hf]; exact hT_t17⟩, ⟨by rw [ht9]; exact hR.P, hR.D⟩⟩, hR.sS.F ht9⟩) hR.sS.2.2 dX14_givesOf_203
      rw [if_neg c9_145] at hf
      (try rw [if_neg c9_145] at hd)
      by_cases c9_146 : v47_2.toInt = 146
      · refine lv_lookup (off := 152) (tgt := 200) hx hb dX14_givesOf_48 (by decide) (by rw [c9_146]; decide) (by decide) ?_
        rw [if_pos (c9_146)] at hf
        (try rw [if_pos (c9_146)] at hd)
        have hT_t18 : qT S 10000016 = 12 := hR.w.txt (i := 8) (by decide)
        refine va_ldcSW (tx := "I") (q := ad 10000016) hx hb hown (hE.2.2 _ ldc_706) dX14_givesOf_200 ?_
        exact W.aret (v := .ref (ad 10000016)) hx hb hr (Or.inl ⟨_, rfl⟩) (Or.inr ⟨_, rfl⟩) (fun t9 ht9 hW9 => ⟨⟨some (ad 10000016), (), rfl, ⟨by rw [hf0, ← hf], by rw [hf0, ← hf]; exact hT_t18⟩, ⟨by rw [ht9]; exact hR.P, hR.D⟩⟩, hR.sS.F ht9⟩) hR.sS.2.2 dX14_givesOf_203
      rw [if_neg c9_146] at hf
      (try rw [if_neg c9_146] at hd)
      by_cases c9_147 : v47_2.toInt = 147
      · refine lv_lookup (off := 152) (tgt := 200) hx hb dX14_givesOf_48 (by decide) (by rw [c9_147]; decide) (by decide) ?_
        rw [if_pos (c9_147)] at hf
        (try rw [if_pos (c9_147)] at hd)
        have hT_t19 : qT S 10000016 = 12 := hR.w.txt (i := 8) (by decide)
        refine va_ldcSW (tx := "I") (q := ad 10000016) hx hb hown (hE.2.2 _ ldc_706) dX14_givesOf_200 ?_
        exact W.aret (v := .ref (ad 10000016)) hx hb hr (Or.inl ⟨_, rfl⟩) (Or.inr ⟨_, rfl⟩) (fun t9 ht9 hW9 => ⟨⟨some (ad 10000016), (), rfl, ⟨by rw [hf0, ← hf], by rw [hf0, ← hf]; exact hT_t19⟩, ⟨by rw [ht9]; exact hR.P, hR.D⟩⟩, hR.sS.F ht9⟩) hR.sS.2.2 dX14_givesOf_203
      rw [if_neg c9_147] at hf
      (try rw [if_neg c9_147] at hd)
      by_cases c9_148 : v47_2.toInt = 148
      · refine lv_lookup (off := 152) (tgt := 200) hx hb dX14_givesOf_48 (by decide) (by rw [c9_148]; decide) (by decide) ?_
        rw [if_pos (c9_148)] at hf
        (try rw [if_pos (c9_148)] at hd)
        have hT_t20 : qT S 10000016 = 12 := hR.w.txt (i := 8) (by decide)
        refine va_ldcSW (tx := "I") (q := ad 10000016) hx hb hown (hE.2.2 _ ldc_706) dX14_givesOf_200 ?_
        exact W.aret (v := .ref (ad 10000016)) hx hb hr (Or.inl ⟨_, rfl⟩) (Or.inr ⟨_, rfl⟩) (fun t9 ht9 hW9 => ⟨⟨some (ad 10000016), (), rfl, ⟨by rw [hf0, ← hf], by rw [hf0, ← hf]; exact hT_t20⟩, ⟨by rw [ht9]; exact hR.P, hR.D⟩⟩, hR.sS.F ht9⟩) hR.sS.2.2 dX14_givesOf_203
      rw [if_neg c9_148] at hf
      (try rw [if_neg c9_148] at hd)
      by_cases c9_178 : v47_2.toInt = 178
      · refine lv_lookup (off := 168) (tgt := 216) hx hb dX14_givesOf_48 (by decide) (by rw [c9_178]; decide) (by decide) ?_
        rw [if_pos (c9_178)] at hf
        (try rw [if_pos (c9_178)] at hd)
        refine lv_aload_n hx hb dX14_givesOf_216 rfl (lv_at hl 0 rfl) ?_
        obtain ⟨hv21, hd⟩ := hd
        have hT_b22 : qT S (qO S 0 47) = 11 := hR.w.ref hv21 hR.w.1
        refine va_get (D := rD g) (ci := 13) (v := .ref (ad (qO S 0 47))) (C := RX14) (T := TX14) (N := 143) hx hb hts in2X14 hown hR.K hR.P 0 (hR.at14 hR.w.1) rfl 47 (by decide) (hts _ kx_362) (fun _ h9 => h9) (congrArg (fun z => some (vf ad z)) hv21) dX14_givesOf_217 ?_
        obtain ⟨hv23, hd⟩ := hd
        have hT_b24 : qT S (qO S (qO S 0 47) 7) = 5 := hR.w.ref hv23 hT_b22
        refine va_get (D := rD g) (ci := 12) (v := .ref (ad (qO S (qO S 0 47) 7))) (C := RX13) (T := TX13) (N := 23) hx hb hts in2X13 hown hR.K hR.P (qO S 0 47) (hR.at13 hT_b22) rfl 7 (by decide) (hts _ kx_397) (fun _ h9 => h9) (congrArg (fun z => some (vf ad z)) hv23) dX14_givesOf_220 ?_
        refine lv_aload_n hx hb dX14_givesOf_223 rfl (lv_at hl 0 rfl) ?_
        refine lv_iload_n hx hb dX14_givesOf_224 rfl (lv_at hl 1 rfl) ?_
        obtain ⟨hv25, hd⟩ := hd
        have hFc := rfree hR hA
        refine va_calli (va_runV (As := [.int v47_1]) (rest := [.ref (ad (qO S (qO S 0 47) 7))]) ⟨hx, hb, hml, hown, hts⟩ (r_first l g ad H.size S v47_1 hR.w  hv25) (cwV 1 hts (gd2_V kx_393 kx_394 kx_395 kx_177 kx_396) rfl rfl rfl (by decide +kernel) ⟨Nat.le_of_ble_eq_true rfl, Nat.le_of_ble_eq_true rfl⟩) ⟨rblind, va_recv hR.K hR.P (ci := 13) (q0 := 0) rfl (hR.at14 hR.w.1), fun U hU hW9 => rmk hU hW9 hR hex hE hFc⟩ rfl rfl hl.1 rfl (lv_room (Nat.le_of_ble_eq_true rfl)) dX14_givesOf_225 ⟨Nat.le_of_ble_eq_true rfl, Nat.le_of_ble_eq_true rfl⟩) hR.sS (fun q _ h => hFc q h) hFc (fun r26 u9 t9 H1 locs ht9 hvm9 hw9 hB9 hz9 hk9 hS => ?_)
        have hR : Rep g ad A s S H1 locs := hR.call ht9 hB9 hR.w hS hFc
        obtain rfl : r26 = (f_first S v47_1) := hw9
        clear hB9 hz9 hk9 hvm9 ht9 hS
        generalize H1 = H at hR ⊢
        obtain ⟨hv28, hd⟩ := hd
        refine va_aldq hx hb hR.K hR.P (qO S (qO S 0 47) 7) 4 (hR.atS hT_b24) rfl (k_ix (x := (f_first S v47_1)) (a := (f_first S v47_1).toInt) rfl hv28) dX14_givesOf_228 ?_
        obtain ⟨hv29, hd⟩ := hd
        have hT_b30 : qT S (qO S (qO S (qO S 0 47) 7) (((f_first S v47_1).toInt).toNat)) = 12 := hR.w.ref hv29 hT_b24
        rw [show va_rf (Option.map ad (qR S (qO S (qO S 0 47) 7) ((f_first S v47_1) : Int32).toNatClampNeg)) = .ref (ad (qO S (qO S (qO S 0 47) 7) (((f_first S v47_1).toInt).toNat))) from congrArg (fun z => vf ad z) hv29]
        exact W.aret (v := .ref (ad (qO S (qO S (qO S 0 47) 7) (((f_first S v47_1).toInt).toNat)))) hx hb hr (Or.inl ⟨_, rfl⟩) (Or.inr ⟨_, rfl⟩) (fun t9 ht9 hW9 => ⟨⟨some (ad (qO S (qO S (qO S 0 47) 7) (((f_first S v47_1).toInt).toNat))), (), rfl, ⟨by rw [hf0, ← hf], by rw [hf0, ← hf]; exact hT_b30⟩, ⟨by rw [ht9]; exact hR.P, hR.D⟩⟩, hR.sS.F ht9⟩) hR.sS.2.2 dX14_givesOf_229
      rw [if_neg c9_178] at hf
      (try rw [if_neg c9_178] at hd)
      by_cases c9_184 : v47_2.toInt = 184
      · refine lv_lookup (off := 182) (tgt := 230) hx hb dX14_givesOf_48 (by decide) (by rw [c9_184]; decide) (by decide) ?_
        rw [if_pos (c9_184)] at hf
        (try rw [if_pos (c9_184)] at hd)
        refine lv_aload_n hx hb dX14_givesOf_230 rfl (lv_at hl 0 rfl) ?_
        obtain ⟨hv31, hd⟩ := hd
        have hT_b32 : qT S (qO S 0 47) = 11 := hR.w.ref hv31 hR.w.1
        refine va_get (D := rD g) (ci := 13) (v := .ref (ad (qO S 0 47))) (C := RX14) (T := TX14) (N := 143) hx hb hts in2X14 hown hR.K hR.P 0 (hR.at14 hR.w.1) rfl 47 (by decide) (hts _ kx_362) (fun _ h9 => h9) (congrArg (fun z => some (vf ad z)) hv31) dX14_givesOf_231 ?_
        obtain ⟨hv33, hd⟩ := hd
        have hT_b34 : qT S (qO S (qO S 0 47) 11) = 5 := hR.w.ref hv33 hT_b32
        refine va_get (D := rD g) (ci := 12) (v := .ref (ad (qO S (qO S 0 47) 11))) (C := RX13) (T := TX13) (N := 23) hx hb hts in2X13 hown hR.K hR.P (qO S 0 47) (hR.at13 hT_b32) rfl 11 (by decide) (hts _ kx_399) (fun _ h9 => h9) (congrArg (fun z => some (vf ad z)) hv33) dX14_givesOf_234 ?_
        refine lv_aload_n hx hb dX14_givesOf_237 rfl (lv_at hl 0 rfl) ?_
        refine lv_iload_n hx hb dX14_givesOf_238 rfl (lv_at hl 1 rfl) ?_
        obtain ⟨hv35, hd⟩ := hd
        have hFc := rfree hR hA
        refine va_calli (va_runV (As := [.int v47_1]) (rest := [.ref (ad (qO S (qO S 0 47) 11))]) ⟨hx, hb, hml, hown, hts⟩ (r_first l g ad H.size S v47_1 hR.w  hv35) (cwV 1 hts (gd2_V kx_393 kx_394 kx_395 kx_177 kx_396) rfl rfl rfl (by decide +kernel) ⟨Nat.le_of_ble_eq_true rfl, Nat.le_of_ble_eq_true rfl⟩) ⟨rblind, va_recv hR.K hR.P (ci := 13) (q0 := 0) rfl (hR.at14 hR.w.1), fun U hU hW9 => rmk hU hW9 hR hex hE hFc⟩ rfl rfl hl.1 rfl (lv_room (Nat.le_of_ble_eq_true rfl)) dX14_givesOf_239 ⟨Nat.le_of_ble_eq_true rfl, Nat.le_of_ble_eq_true rfl⟩) hR.sS (fun q _ h => hFc q h) hFc (fun r36 u9 t9 H1 locs ht9 hvm9 hw9 hB9 hz9 hk9 hS => ?_)
        have hR : Rep g ad A s S H1 locs := hR.call ht9 hB9 hR.w hS hFc
        obtain rfl : r36 = (f_first S v47_1) := hw9
        clear hB9 hz9 hk9 hvm9 ht9 hS
        generalize H1 = H at hR ⊢
        obtain ⟨hv38, hd⟩ := hd
        refine va_aldq hx hb hR.K hR.P (qO S (qO S 0 47) 11) 4 (hR.atS hT_b34) rfl (k_ix (x := (f_first S v47_1)) (a := (f_first S v47_1).toInt) rfl hv38) dX14_givesOf_242 ?_
        obtain ⟨hv39, hd⟩ := hd
        have hT_b40 : qT S (qO S (qO S (qO S 0 47) 11) (((f_first S v47_1).toInt).toNat)) = 12 := hR.w.ref hv39 hT_b34
        rw [show va_rf (Option.map ad (qR S (qO S (qO S 0 47) 11) ((f_first S v47_1) : Int32).toNatClampNeg)) = .ref (ad (qO S (qO S (qO S 0 47) 11) (((f_first S v47_1).toInt).toNat))) from congrArg (fun z => vf ad z) hv39]
        exact W.aret (v := .ref (ad (qO S (qO S (qO S 0 47) 11) (((f_first S v47_1).toInt).toNat)))) hx hb hr (Or.inl ⟨_, rfl⟩) (Or.inr ⟨_, rfl⟩) (fun t9 ht9 hW9 => ⟨⟨some (ad (qO S (qO S (qO S 0 47) 11) (((f_first S v47_1).toInt).toNat))), (), rfl, ⟨by rw [hf0, ← hf], by rw [hf0, ← hf]; exact hT_b40⟩, ⟨by rw [ht9]; exact hR.P, hR.D⟩⟩, hR.sS.F ht9⟩) hR.sS.2.2 dX14_givesOf_243
      rw [if_neg c9_184] at hf
      (try rw [if_neg c9_184] at hd)
      by_cases c9_188 : v47_2.toInt = 188
      · refine lv_lookup (off := 164) (tgt := 212) hx hb dX14_givesOf_48 (by decide) (by rw [c9_188]; decide) (by decide) ?_
        rw [if_pos (c9_188)] at hf
        (try rw [if_pos (c9_188)] at hd)
        have hT_t41 : qT S 10000028 = 12 := hR.w.txt (i := 14) (by decide)
        refine va_ldcSW (tx := "A") (q := ad 10000028) hx hb hown (hE.2.2 _ ldc_717) dX14_givesOf_212 ?_
        exact W.aret (v := .ref (ad 10000028)) hx hb hr (Or.inl ⟨_, rfl⟩) (Or.inr ⟨_, rfl⟩) (fun t9 ht9 hW9 => ⟨⟨some (ad 10000028), (), rfl, ⟨by rw [hf0, ← hf], by rw [hf0, ← hf]; exact hT_t41⟩, ⟨by rw [ht9]; exact hR.P, hR.D⟩⟩, hR.sS.F ht9⟩) hR.sS.2.2 dX14_givesOf_215
      rw [if_neg c9_188] at hf
      (try rw [if_neg c9_188] at hd)
      by_cases c9_190 : v47_2.toInt = 190
      · refine lv_lookup (off := 152) (tgt := 200) hx hb dX14_givesOf_48 (by decide) (by rw [c9_190]; decide) (by decide) ?_
        rw [if_pos (c9_190)] at hf
        (try rw [if_pos (c9_190)] at hd)
        have hT_t42 : qT S 10000016 = 12 := hR.w.txt (i := 8) (by decide)
        refine va_ldcSW (tx := "I") (q := ad 10000016) hx hb hown (hE.2.2 _ ldc_706) dX14_givesOf_200 ?_
        exact W.aret (v := .ref (ad 10000016)) hx hb hr (Or.inl ⟨_, rfl⟩) (Or.inr ⟨_, rfl⟩) (fun t9 ht9 hW9 => ⟨⟨some (ad 10000016), (), rfl, ⟨by rw [hf0, ← hf], by rw [hf0, ← hf]; exact hT_t42⟩, ⟨by rw [ht9]; exact hR.P, hR.D⟩⟩, hR.sS.F ht9⟩) hR.sS.2.2 dX14_givesOf_203
      rw [if_neg c9_190] at hf
      (try rw [if_neg c9_190] at hd)
      refine lv_lookup (off := 196) (tgt := 244) hx hb dX14_givesOf_48 (by decide) (lx_cons c9_1 (lx_cons c9_18 (lx_cons c9_20 (lx_cons c9_21 (lx_cons c9_22 (lx_cons c9_25 (lx_cons c9_46 (lx_cons c9_133 (lx_cons c9_136 (lx_cons c9_145 (lx_cons c9_146 (lx_cons c9_147 (lx_cons c9_148 (lx_cons c9_178 (lx_cons c9_184 (lx_cons c9_188 (lx_cons c9_190 lx_nil))))))))))))))))) (by decide) ?_
      have hT_t43 : qT S 10000032 = 12 := hR.w.txt (i := 16) (by decide)
      refine va_ldcSW (tx := "") (q := ad 10000032) hx hb hown (hE.2.2 _ ldc_721) dX14_givesOf_244 ?_
      exact W.aret (v := .ref (ad 10000032)) hx hb hr (Or.inl ⟨_, rfl⟩) (Or.inr ⟨_, rfl⟩) (fun t9 ht9 hW9 => ⟨⟨some (ad 10000032), (), rfl, ⟨by rw [hf0, ← hf], by rw [hf0, ← hf]; exact hT_t43⟩, ⟨by rw [ht9]; exact hR.P, hR.D⟩⟩, hR.sS.F ht9⟩) hR.sS.2.2 dX14_givesOf_247
    refine lv_icmp_lt (tgt := 47) hx hb dX14_givesOf_21 (by decide) (fun c44 => ?_) (fun c44 => ?_)
    · rw [if_pos (k_lt rfl (by decide) c44)] at hf
      (try rw [if_pos (k_lt rfl (by decide) c44)] at hd)
      exact J_47 v18_1 v18_2 _ _ ls hd hf  hR (lv_sub hl [0, 1, 2] rfl)
    · rw [if_neg (k_nlt rfl (by decide) c44)] at hf
      (try rw [if_neg (k_nlt rfl (by decide) c44)] at hd)
      refine lv_iload_n hx hb dX14_givesOf_24 rfl (lv_at hl 2 rfl) ?_
      refine lv_sipush (v := 131) hx hb dX14_givesOf_25 (by decide) ?_
      refine lv_icmp_gt (tgt := 47) hx hb dX14_givesOf_28 (by decide) (fun c45 => ?_) (fun c45 => ?_)
      · rw [if_pos (k_lt (by decide) rfl c45)] at hf
        (try rw [if_pos (k_lt (by decide) rfl c45)] at hd)
        exact J_47 v18_1 v18_2 _ _ ls hd hf  hR (lv_sub hl [0, 1, 2] rfl)
      · rw [if_neg (k_nlt (by decide) rfl c45)] at hf
        (try rw [if_neg (k_nlt (by decide) rfl c45)] at hd)
        exact J_31 v18_2 _ _ ls hd hf  hR (lv_sub hl [2] rfl)
  refine lv_icmp_lt (tgt := 18) hx hb dX14_givesOf_9 (by decide) (fun c46 => ?_) (fun c46 => ?_)
  · rw [if_pos (k_lt rfl (by decide) c46)] at hf
    (try rw [if_pos (k_lt rfl (by decide) c46)] at hd)
    exact J_18 x1 (f_op S x1) _ _ ls hd hf  hR (lv_sub hl [1, 2, 0] rfl)
  · rw [if_neg (k_nlt rfl (by decide) c46)] at hf
    (try rw [if_neg (k_nlt rfl (by decide) c46)] at hd)
    refine lv_iload_n hx hb dX14_givesOf_12 rfl (lv_at hl 0 rfl) ?_
    refine lv_bipush (v := 117) hx hb dX14_givesOf_13 (by decide) ?_
    refine lv_icmp_le (tgt := 31) hx hb dX14_givesOf_15 (by decide) (fun c47 => ?_) (fun c47 => ?_)
    · rw [if_pos (k_le rfl (by decide) c47)] at hf
      (try rw [if_pos (k_le rfl (by decide) c47)] at hd)
      exact J_31 (f_op S x1) _ _ ls hd hf  hR (lv_sub hl [0] rfl)
    · rw [if_neg (k_nle rfl (by decide) c47)] at hf
      (try rw [if_neg (k_nle rfl (by decide) c47)] at hd)
      exact J_18 x1 (f_op S x1) _ _ ls hd hf  hR (lv_sub hl [1, 2, 0] rfl)
def w_placesOf_J28 (Q : Int32 → MS → Prop) (k4 : MS → Nat → Int32 → Int32 → Prop) (U28 : MS) (t28_0 : Int32) (t28_1 : Int32) (v28_0 : Nat) (v28_2 : Int32) : Prop := (∀ a6 : Int32, a6 = (t28_1 + t28_0) → (∀ a7 : Int32, a7 = (v28_2 + Int32.ofInt 1) → k4 U28 v28_0 a6 a7))
def w_placesOf_L4 (Q : Int32 → MS → Prop) : Nat → MS → Nat → Int32 → Int32 → Prop
  | 0, _, _, _, _ => False
  | n4 + 1, U4, v4_0, v4_1, v4_2 => (((Int32.ofNat (qN U4 (v4_0 + 1))).toInt ≤ v4_2.toInt → Q v4_1 U4) ∧ (¬ (Int32.ofNat (qN U4 (v4_0 + 1))).toInt ≤ v4_2.toInt → (((0 : Int) ≤ v4_2.toInt ∧ v4_2.toInt < (qN U4 (v4_0 + 1) : Int)) ∧ (((cAt U4 v4_0 v4_2).toInt = 74 → w_placesOf_J28 Q (w_placesOf_L4 Q n4) U4 2 v4_1 v4_0 v4_2) ∧ (¬ (cAt U4 v4_0 v4_2).toInt = 74 → w_placesOf_J28 Q (w_placesOf_L4 Q n4) U4 1 v4_1 v4_0 v4_2)))))
def w_placesOf (S : MS) (p0 : Nat) (Q : Int32 → MS → Prop) : Prop := (∃ n, w_placesOf_L4 Q n S p0 0 0)
set_option maxHeartbeats 2000000 in
set_option maxRecDepth 100000 in
theorem r_placesOf (l : Launch) (g : Gr) (ad : Nat → Nat) (sz : Nat) (S : MS) (p0 : Nat) (hw : wfM S) (hT_p0 : qT S p0 = 12) (Q : Int32 → MS → Prop) (h : w_placesOf S p0 Q) : Met l yX14_placesOf (wt2 yX14_placesOf cX14_placesOf 3 (some .int)) ({ frames := 4, cells := 0, slots := 0, locals := 85 }) (va_Pc [.ref (ad p0)] (st_R g ad sz S)) (va_Qi (fun (r : Int32) (u : MS) => Q r u ∧ wfM u ∧ shy S u) (fun (u : MS) (t : State) => qE g ad (va_A (Wd g ad S) sz) u t) (va_A (Wd g ad S) sz)) 0 0 (va_A (Wd g ad S) sz) := by
  refine Met.ofW (cc := cX14_placesOf) (maxL := 3) (ret := (some .int)) (by decide) rfl ?_
  intro p e s m args below meth c s₁ B hml hv
  obtain ⟨rfl, hsz, hP, hK, hD0, hex, hE⟩ := hv
  have hx := B.exec
  have hb := B.bytes
  have hr := B.returns
  have hts0 := atoms_spec (ws := wt2 yX14_placesOf cX14_placesOf 3 (some .int)) B.pre
  have hts : ∀ w ∈ tb2, w.before _ s = true := fun w h => hts0 w (List.mem_cons_of_mem _ h)
  have hown : s.vm.findClass RX14 = some m.cls := findClass_of_methodNamed B.named
  subst hsz
  have hD := hD0.self (sz := s.heap.size)
  generalize hAe : va_A (Wd g ad S) s.heap.size = A at hD hE ⊢
  have hA : ∀ q : Nat, s.heap.size ≤ q → A q := fun q h => by rw [← hAe]; exact Or.inr h
  have hR : Rep g ad A s S s.heap [] := ⟨hK, hP, hD, va_S.rf, hw⟩
  clear hK hP hD hD0
  have hl := lv_entry ([.ref (ad p0)]) (n := 3) (Nat.le_of_ble_eq_true rfl)
  rw [lg_entry_eq]
  generalize (lg_sl ([.ref (ad p0)]) ++ List.replicate (3 - (lg_sl ([.ref (ad p0)])).length) Slot.unset).toArray = ls at hl ⊢
  have hl : lv_has ls 3 [(0, .ref (ad p0))] := hl
  have hsh : shy S S := shy.rf
  unfold w_placesOf at h
  refine lv_iconst (v := 0) hx hb dX14_placesOf_0 (by decide) ?_
  refine lv_istore_n (lv' := [(1, .int 0), (0, .ref (ad p0))]) hx hb dX14_placesOf_1 rfl hl (by decide) rfl (fun ls hl => ?_)
  refine lv_iconst (v := 0) hx hb dX14_placesOf_2 (by decide) ?_
  refine lv_istore_n (lv' := [(2, .int 0), (1, .int 0), (0, .ref (ad p0))]) hx hb dX14_placesOf_3 rfl hl (by decide) rfl (fun ls hl => ?_)
  have J_4 : ∀ (n4 : Nat) (U4 : MS) (v4_0 : Nat) (v4_1 : Int32) (v4_2 : Int32) (H : Heap) (locs : List Loc) (ls : Array Slot), w_placesOf_L4 Q n4 U4 v4_0 v4_1 v4_2 → qT U4 v4_0 = 12 → shy S U4 → Rep g ad A s U4 H locs → lv_has ls 3 [(0, .ref (ad v4_0)), (1, .int v4_1), (2, .int v4_2)] → W p l e (headSpec (wt2 yX14_placesOf cX14_placesOf 3 (some .int)) ({ frames := 4, cells := 0, slots := 0, locals := 85 })).room s m ([.ref (ad p0)] : List Value).toArray below meth c H locs 0 0 (MQ below (va_Qi (fun (r : Int32) (u : MS) => Q r u ∧ wfM u ∧ shy S u) (fun (u : MS) (t : State) => qE g ad A u t) A) ([.ref (ad p0)] : List Value).toArray s 0 0 A) (F0 m 4 ls []) := by
    intro n4
    induction n4 with
    | zero => intro U4 v4_0 v4_1 v4_2 H locs ls h hT_v4_0 hsh hR hl; unfold w_placesOf_L4 at h; exact h.elim
    | succ n4 ih_4 =>
      intro U4 v4_0 v4_1 v4_2 H locs ls h hT_v4_0 hsh hR hl
      unfold w_placesOf_L4 at h
      refine lv_iload_n hx hb dX14_placesOf_4 rfl (lv_at hl 2 rfl) ?_
      refine lv_aload_n hx hb dX14_placesOf_5 rfl (lv_at hl 0 rfl) ?_
      have hF : ∀ q, Ns H.size q → A q := fun q h => hA q (Nat.le_trans hR.sS.1 h)
      refine va_calli (va_runV (As := []) (rest := [.int v4_2]) ⟨hx, hb, hml, hown, hts⟩ (s_length l H.size (ad v4_0) (ad (v4_0 + 1)) (qN U4 (v4_0 + 1)) (qI U4 (v4_0 + 1))) (cwV 0 hts (gd2_V kx_248 kx_143 kx_144 kx_6 kx_145) rfl rfl rfl (by decide +kernel) ⟨Nat.le_of_ble_eq_true rfl, Nat.le_of_ble_eq_true rfl⟩) ⟨tblind (fun A u U H hv h => by exact tx1.moved hv h), (strR hts hR hE hA hT_v4_0), fun U hU hW9 => ⟨rfl, by rw [hU], str_at hts hR hE hA hT_v4_0 hU hW9, by rw [hU]; exact ((hE.1.kept hR.sS.2.1).narrow hF).moved hW9.alike⟩⟩ rfl rfl hl.1 rfl (lv_room (Nat.le_of_ble_eq_true rfl)) dX14_placesOf_6 ⟨Nat.le_of_ble_eq_true rfl, Nat.le_of_ble_eq_true rfl⟩) hR.sS (fun q _ h => hF q h) hF (fun r1 u9 t9 H1 locs ht9 hvm9 hw9 hB9 hz9 hk9 hS => ?_)
      obtain rfl : r1 = (Int32.ofNat (qN U4 (v4_0 + 1))) := hw9
      have hR : Rep g ad A s U4 H1 locs := hR.keep hk9 hS
      clear hz9 hk9 hvm9 ht9 hB9 hF hS
      generalize H1 = H at hR ⊢
      refine lv_icmp_ge (tgt := 36) hx hb dX14_placesOf_9 (by decide) (fun c2 => ?_) (fun c2 => ?_)
      · replace h := h.1 (k_le rfl rfl c2)
        refine lv_iload_n hx hb dX14_placesOf_36 rfl (lv_at hl 1 rfl) ?_
        exact W.iret (v := v4_1) hx hb hr (fun t9 ht9 hW9 => ⟨⟨_, U4, rfl, ⟨h, hR.w, hsh⟩, ⟨by rw [ht9]; exact hR.P, hR.D⟩⟩, hR.sS.F ht9⟩) hR.sS.2.2 dX14_placesOf_37
      · replace h := h.2 (k_nle rfl rfl c2)
        refine lv_iload_n hx hb dX14_placesOf_12 rfl (lv_at hl 1 rfl) ?_
        refine lv_aload_n hx hb dX14_placesOf_13 rfl (lv_at hl 0 rfl) ?_
        refine lv_iload_n hx hb dX14_placesOf_14 rfl (lv_at hl 2 rfl) ?_
        obtain ⟨hv3, h⟩ := h
        have hF : ∀ q, Ns H.size q → A q := fun q h => hA q (Nat.le_trans hR.sS.1 h)
        refine va_calli (va_runV (As := [.int v4_2]) (rest := [.int v4_1]) ⟨hx, hb, hml, hown, hts⟩ (s_charAt l H.size (ad v4_0) (ad (v4_0 + 1)) (qN U4 (v4_0 + 1)) (qI U4 (v4_0 + 1)) v4_2 (hR.w.len hT_v4_0) hv3) (cwV 1 hts (gd2_V kx_249 kx_250 kx_251 kx_6 kx_252) rfl rfl rfl (by decide +kernel) ⟨Nat.le_of_ble_eq_true rfl, Nat.le_of_ble_eq_true rfl⟩) ⟨tblind (fun A u U H hv h => by exact tx1.moved hv h), (strR hts hR hE hA hT_v4_0), fun U hU hW9 => ⟨rfl, by rw [hU], str_at hts hR hE hA hT_v4_0 hU hW9, by rw [hU]; exact ((hE.1.kept hR.sS.2.1).narrow hF).moved hW9.alike⟩⟩ rfl rfl hl.1 rfl (lv_room (Nat.le_of_ble_eq_true rfl)) dX14_placesOf_15 ⟨Nat.le_of_ble_eq_true rfl, Nat.le_of_ble_eq_true rfl⟩) hR.sS (fun q _ h => hF q h) hF (fun r4 u9 t9 H1 locs ht9 hvm9 hw9 hB9 hz9 hk9 hS => ?_)
        obtain rfl : r4 = (cAt U4 v4_0 v4_2) := hw9
        have hR : Rep g ad A s U4 H1 locs := hR.keep hk9 hS
        clear hz9 hk9 hvm9 ht9 hB9 hF hS
        generalize H1 = H at hR ⊢
        refine lv_bipush (v := 74) hx hb dX14_placesOf_18 (by decide) ?_
        have J_28 : ∀ (U28 : MS) (t28_0 : Int32) (t28_1 : Int32) (v28_0 : Nat) (v28_2 : Int32) (H : Heap) (locs : List Loc) (ls : Array Slot), w_placesOf_J28 Q (w_placesOf_L4 Q n4) U28 t28_0 t28_1 v28_0 v28_2 → qT U28 v28_0 = 12 → shy S U28 → Rep g ad A s U28 H locs → lv_has ls 3 [(0, .ref (ad v28_0)), (2, .int v28_2)] → W p l e (headSpec (wt2 yX14_placesOf cX14_placesOf 3 (some .int)) ({ frames := 4, cells := 0, slots := 0, locals := 85 })).room s m ([.ref (ad p0)] : List Value).toArray below meth c H locs 0 0 (MQ below (va_Qi (fun (r : Int32) (u : MS) => Q r u ∧ wfM u ∧ shy S u) (fun (u : MS) (t : State) => qE g ad A u t) A) ([.ref (ad p0)] : List Value).toArray s 0 0 A) (F0 m 28 ls [.int t28_0, .int t28_1]) := by
          intro U28 t28_0 t28_1 v28_0 v28_2 H locs ls h hT_v28_0 hsh hR hl
          unfold w_placesOf_J28 at h
          refine lv_iadd hx hb dX14_placesOf_28 ?_
          refine lv_topi (fun z5 ez5 => ?_)
          obtain rfl : z5 = (t28_1 + t28_0) := ez5
          obtain ⟨a6, ea6⟩ : ∃ z, z = (t28_1 + t28_0) := ⟨_, rfl⟩
          rw [← ea6]
          replace h := h a6 ea6
          refine lv_istore_n (lv' := [(1, .int a6), (0, .ref (ad v28_0)), (2, .int v28_2)]) hx hb dX14_placesOf_29 rfl hl (by decide) rfl (fun ls hl => ?_)
          obtain ⟨a7, ea7⟩ : ∃ z, z = (v28_2 + Int32.ofInt 1) := ⟨_, rfl⟩
          replace h := h a7 ea7
          refine lv_iinc (v := a7) (lv' := [(2, .int a7), (1, .int a6), (0, .ref (ad v28_0))]) hx hb dX14_placesOf_30 hl (k := 2) rfl ea7.symm (by decide) rfl (fun ls hl => ?_)
          refine lv_goto (tgt := 4) hx hb dX14_placesOf_33 (by decide) ?_
          exact ih_4 U28 v28_0 a6 a7 _ _ ls h hT_v28_0 hsh hR (lv_sub hl [2, 1, 0] rfl)
        refine lv_icmp_ne (tgt := 27) hx hb dX14_placesOf_20 (by decide) (fun c8 => ?_) (fun c8 => ?_)
        · replace h := h.2 (k_ne rfl (by decide) c8)
          refine lv_iconst (v := 1) hx hb dX14_placesOf_27 (by decide) ?_
          exact J_28 U4 1 v4_1 v4_0 v4_2 _ _ ls h hT_v4_0 hsh hR (lv_sub hl [0, 2] rfl)
        · replace h := h.1 (k_eq rfl (by decide) c8)
          refine lv_iconst (v := 2) hx hb dX14_placesOf_23 (by decide) ?_
          refine lv_goto (tgt := 28) hx hb dX14_placesOf_24 (by decide) ?_
          exact J_28 U4 2 v4_1 v4_0 v4_2 _ _ ls h hT_v4_0 hsh hR (lv_sub hl [0, 2] rfl)
  obtain ⟨n9, h⟩ := h
  exact J_4 n9 S p0 0 0 _ _ ls h hT_p0 hsh hR (lv_sub hl [2, 1, 0] rfl)
def f_moved_J12 (S : MS) : Int32 := (1 : Int32)
def d_moved_J12 (S : MS) : Prop := True
def f_moved_J40 (S : MS) : Int32 := (2 : Int32)
def d_moved_J40 (S : MS) : Prop := True
def f_moved (S : MS) (x0 : Int32) : Int32 := (if x0.toInt = 87 then f_moved_J12 S else (if x0.toInt = 89 then f_moved_J12 S else (if x0.toInt = 88 then f_moved_J40 S else (if x0.toInt = 90 then f_moved_J40 S else (if x0.toInt = 92 then f_moved_J40 S else (if x0.toInt = 95 then f_moved_J40 S else (0 : Int32)))))))
def d_moved (S : MS) (x0 : Int32) : Prop := (if x0.toInt = 87 then d_moved_J12 S else (if x0.toInt = 89 then d_moved_J12 S else (if x0.toInt = 88 then d_moved_J40 S else (if x0.toInt = 90 then d_moved_J40 S else (if x0.toInt = 92 then d_moved_J40 S else (if x0.toInt = 95 then d_moved_J40 S else True))))))
set_option maxHeartbeats 2000000 in
set_option maxRecDepth 100000 in
theorem r_moved (l : Launch) (g : Gr) (ad : Nat → Nat) (sz : Nat) (S : MS) (x0 : Int32) (hw : wfM S) (hd : d_moved S x0) : Met l yX14_moved (wt2 yX14_moved cX14_moved 1 (some .int)) ({ frames := 0, cells := 0, slots := 0, locals := 0 }) (va_Pc [.int x0] (st_R g ad sz S)) (va_Qi (fun (r : Int32) (_ : Unit) => r = f_moved S x0) (fun (_ : Unit) (t : State) => qE g ad (va_A (Wd g ad S) sz) S t) (va_A (Wd g ad S) sz)) 0 0 (va_A (Wd g ad S) sz) := by
  refine Met.ofW (cc := cX14_moved) (maxL := 1) (ret := (some .int)) (by decide) rfl ?_
  intro p e s m args below meth c s₁ B hml hv
  obtain ⟨rfl, hsz, hP, hK, hD0, hex, hE⟩ := hv
  have hx := B.exec
  have hb := B.bytes
  have hr := B.returns
  have hts0 := atoms_spec (ws := wt2 yX14_moved cX14_moved 1 (some .int)) B.pre
  have hts : ∀ w ∈ tb2, w.before _ s = true := fun w h => hts0 w (List.mem_cons_of_mem _ h)
  have hown : s.vm.findClass RX14 = some m.cls := findClass_of_methodNamed B.named
  subst hsz
  have hD := hD0.self (sz := s.heap.size)
  generalize hAe : va_A (Wd g ad S) s.heap.size = A at hD hE ⊢
  have hA : ∀ q : Nat, s.heap.size ≤ q → A q := fun q h => by rw [← hAe]; exact Or.inr h
  have hR : Rep g ad A s S s.heap [] := ⟨hK, hP, hD, va_S.rf, hw⟩
  clear hK hP hD hD0
  have hl := lv_entry ([.int x0]) (n := 1) (Nat.le_of_ble_eq_true rfl)
  rw [lg_entry_eq]
  generalize (lg_sl ([.int x0]) ++ List.replicate (1 - (lg_sl ([.int x0])).length) Slot.unset).toArray = ls at hl ⊢
  have hl : lv_has ls 1 [(0, .int x0)] := hl
  obtain ⟨r0, hf⟩ : ∃ r0, f_moved S x0 = r0 := ⟨_, rfl⟩
  have hf0 := hf
  unfold f_moved at hf
  unfold d_moved at hd
  refine lv_iload_n hx hb dX14_moved_0 rfl (lv_at hl 0 rfl) ?_
  refine lv_bipush (v := 87) hx hb dX14_moved_1 (by decide) ?_
  have J_12 : ∀ (H : Heap) (locs : List Loc) (ls : Array Slot), d_moved_J12 S → f_moved_J12 S = r0 → Rep g ad A s S H locs → lv_has ls 1 [] → W p l e (headSpec (wt2 yX14_moved cX14_moved 1 (some .int)) ({ frames := 0, cells := 0, slots := 0, locals := 0 })).room s m ([.int x0] : List Value).toArray below meth c H locs 0 0 (MQ below (va_Qi (fun (r : Int32) (_ : Unit) => r = f_moved S x0) (fun (_ : Unit) (t : State) => qE g ad A S t) A) ([.int x0] : List Value).toArray s 0 0 A) (F0 m 12 ls []) := by
    intro H locs ls hd hf hR hl
    unfold d_moved_J12 at hd
    unfold f_moved_J12 at hf
    refine lv_iconst (v := 1) hx hb dX14_moved_12 (by decide) ?_
    refine lv_goto (tgt := 45) hx hb dX14_moved_13 (by decide) ?_
    exact W.iret (v := 1) hx hb hr (fun t9 ht9 hW9 => ⟨⟨_, (), rfl, hf.trans hf0.symm, ⟨by rw [ht9]; exact hR.P, hR.D⟩⟩, hR.sS.F ht9⟩) hR.sS.2.2 dX14_moved_45
  refine lv_icmp_eq (tgt := 12) hx hb dX14_moved_3 (by decide) (fun c1 => ?_) (fun c1 => ?_)
  · rw [if_pos (k_eq rfl (by decide) c1)] at hf
    (try rw [if_pos (k_eq rfl (by decide) c1)] at hd)
    exact J_12 _ _ ls hd hf  hR (lv_sub hl [] rfl)
  · rw [if_neg (k_ne rfl (by decide) c1)] at hf
    (try rw [if_neg (k_ne rfl (by decide) c1)] at hd)
    refine lv_iload_n hx hb dX14_moved_6 rfl (lv_at hl 0 rfl) ?_
    refine lv_bipush (v := 89) hx hb dX14_moved_7 (by decide) ?_
    refine lv_icmp_ne (tgt := 16) hx hb dX14_moved_9 (by decide) (fun c2 => ?_) (fun c2 => ?_)
    · rw [if_neg (k_ne rfl (by decide) c2)] at hf
      (try rw [if_neg (k_ne rfl (by decide) c2)] at hd)
      refine lv_iload_n hx hb dX14_moved_16 rfl (lv_at hl 0 rfl) ?_
      refine lv_bipush (v := 88) hx hb dX14_moved_17 (by decide) ?_
      have J_40 : ∀ (H : Heap) (locs : List Loc) (ls : Array Slot), d_moved_J40 S → f_moved_J40 S = r0 → Rep g ad A s S H locs → lv_has ls 1 [] → W p l e (headSpec (wt2 yX14_moved cX14_moved 1 (some .int)) ({ frames := 0, cells := 0, slots := 0, locals := 0 })).room s m ([.int x0] : List Value).toArray below meth c H locs 0 0 (MQ below (va_Qi (fun (r : Int32) (_ : Unit) => r = f_moved S x0) (fun (_ : Unit) (t : State) => qE g ad A S t) A) ([.int x0] : List Value).toArray s 0 0 A) (F0 m 40 ls []) := by
        intro H locs ls hd hf hR hl
        unfold d_moved_J40 at hd
        unfold f_moved_J40 at hf
        refine lv_iconst (v := 2) hx hb dX14_moved_40 (by decide) ?_
        refine lv_goto (tgt := 45) hx hb dX14_moved_41 (by decide) ?_
        exact W.iret (v := 2) hx hb hr (fun t9 ht9 hW9 => ⟨⟨_, (), rfl, hf.trans hf0.symm, ⟨by rw [ht9]; exact hR.P, hR.D⟩⟩, hR.sS.F ht9⟩) hR.sS.2.2 dX14_moved_45
      refine lv_icmp_eq (tgt := 40) hx hb dX14_moved_19 (by decide) (fun c3 => ?_) (fun c3 => ?_)
      · rw [if_pos (k_eq rfl (by decide) c3)] at hf
        (try rw [if_pos (k_eq rfl (by decide) c3)] at hd)
        exact J_40 _ _ ls hd hf  hR (lv_sub hl [] rfl)
      · rw [if_neg (k_ne rfl (by decide) c3)] at hf
        (try rw [if_neg (k_ne rfl (by decide) c3)] at hd)
        refine lv_iload_n hx hb dX14_moved_22 rfl (lv_at hl 0 rfl) ?_
        refine lv_bipush (v := 90) hx hb dX14_moved_23 (by decide) ?_
        refine lv_icmp_eq (tgt := 40) hx hb dX14_moved_25 (by decide) (fun c4 => ?_) (fun c4 => ?_)
        · rw [if_pos (k_eq rfl (by decide) c4)] at hf
          (try rw [if_pos (k_eq rfl (by decide) c4)] at hd)
          exact J_40 _ _ ls hd hf  hR (lv_sub hl [] rfl)
        · rw [if_neg (k_ne rfl (by decide) c4)] at hf
          (try rw [if_neg (k_ne rfl (by decide) c4)] at hd)
          refine lv_iload_n hx hb dX14_moved_28 rfl (lv_at hl 0 rfl) ?_
          refine lv_bipush (v := 92) hx hb dX14_moved_29 (by decide) ?_
          refine lv_icmp_eq (tgt := 40) hx hb dX14_moved_31 (by decide) (fun c5 => ?_) (fun c5 => ?_)
          · rw [if_pos (k_eq rfl (by decide) c5)] at hf
            (try rw [if_pos (k_eq rfl (by decide) c5)] at hd)
            exact J_40 _ _ ls hd hf  hR (lv_sub hl [] rfl)
          · rw [if_neg (k_ne rfl (by decide) c5)] at hf
            (try rw [if_neg (k_ne rfl (by decide) c5)] at hd)
            refine lv_iload_n hx hb dX14_moved_34 rfl (lv_at hl 0 rfl) ?_
            refine lv_bipush (v := 95) hx hb dX14_moved_35 (by decide) ?_
            refine lv_icmp_ne (tgt := 44) hx hb dX14_moved_37 (by decide) (fun c6 => ?_) (fun c6 => ?_)
            · rw [if_neg (k_ne rfl (by decide) c6)] at hf
              (try rw [if_neg (k_ne rfl (by decide) c6)] at hd)
              refine lv_iconst (v := 0) hx hb dX14_moved_44 (by decide) ?_
              exact W.iret (v := 0) hx hb hr (fun t9 ht9 hW9 => ⟨⟨_, (), rfl, hf.trans hf0.symm, ⟨by rw [ht9]; exact hR.P, hR.D⟩⟩, hR.sS.F ht9⟩) hR.sS.2.2 dX14_moved_45
            · rw [if_pos (k_eq rfl (by decide) c6)] at hf
              (try rw [if_pos (k_eq rfl (by decide) c6)] at hd)
              exact J_40 _ _ ls hd hf  hR (lv_sub hl [] rfl)
    · rw [if_pos (k_eq rfl (by decide) c2)] at hf
      (try rw [if_pos (k_eq rfl (by decide) c2)] at hd)
      exact J_12 _ _ ls hd hf  hR (lv_sub hl [] rfl)
def f_left_J12 (S : MS) : Int32 := (2 : Int32)
def d_left_J12 (S : MS) : Prop := True
def f_left (S : MS) (x0 : Int32) : Int32 := (if x0.toInt = 89 then f_left_J12 S else (if x0.toInt = 95 then f_left_J12 S else (if x0.toInt = 90 then (3 : Int32) else (if x0.toInt = 92 then (4 : Int32) else (0 : Int32)))))
def d_left (S : MS) (x0 : Int32) : Prop := (if x0.toInt = 89 then d_left_J12 S else (if x0.toInt = 95 then d_left_J12 S else True))
set_option maxHeartbeats 2000000 in
set_option maxRecDepth 100000 in
theorem r_left (l : Launch) (g : Gr) (ad : Nat → Nat) (sz : Nat) (S : MS) (x0 : Int32) (hw : wfM S) (hd : d_left S x0) : Met l yX14_left (wt2 yX14_left cX14_left 1 (some .int)) ({ frames := 0, cells := 0, slots := 0, locals := 0 }) (va_Pc [.int x0] (st_R g ad sz S)) (va_Qi (fun (r : Int32) (_ : Unit) => r = f_left S x0) (fun (_ : Unit) (t : State) => qE g ad (va_A (Wd g ad S) sz) S t) (va_A (Wd g ad S) sz)) 0 0 (va_A (Wd g ad S) sz) := by
  refine Met.ofW (cc := cX14_left) (maxL := 1) (ret := (some .int)) (by decide) rfl ?_
  intro p e s m args below meth c s₁ B hml hv
  obtain ⟨rfl, hsz, hP, hK, hD0, hex, hE⟩ := hv
  have hx := B.exec
  have hb := B.bytes
  have hr := B.returns
  have hts0 := atoms_spec (ws := wt2 yX14_left cX14_left 1 (some .int)) B.pre
  have hts : ∀ w ∈ tb2, w.before _ s = true := fun w h => hts0 w (List.mem_cons_of_mem _ h)
  have hown : s.vm.findClass RX14 = some m.cls := findClass_of_methodNamed B.named
  subst hsz
  have hD := hD0.self (sz := s.heap.size)
  generalize hAe : va_A (Wd g ad S) s.heap.size = A at hD hE ⊢
  have hA : ∀ q : Nat, s.heap.size ≤ q → A q := fun q h => by rw [← hAe]; exact Or.inr h
  have hR : Rep g ad A s S s.heap [] := ⟨hK, hP, hD, va_S.rf, hw⟩
  clear hK hP hD hD0
  have hl := lv_entry ([.int x0]) (n := 1) (Nat.le_of_ble_eq_true rfl)
  rw [lg_entry_eq]
  generalize (lg_sl ([.int x0]) ++ List.replicate (1 - (lg_sl ([.int x0])).length) Slot.unset).toArray = ls at hl ⊢
  have hl : lv_has ls 1 [(0, .int x0)] := hl
  obtain ⟨r0, hf⟩ : ∃ r0, f_left S x0 = r0 := ⟨_, rfl⟩
  have hf0 := hf
  unfold f_left at hf
  unfold d_left at hd
  refine lv_iload_n hx hb dX14_left_0 rfl (lv_at hl 0 rfl) ?_
  refine lv_bipush (v := 89) hx hb dX14_left_1 (by decide) ?_
  have J_12 : ∀ (H : Heap) (locs : List Loc) (ls : Array Slot), d_left_J12 S → f_left_J12 S = r0 → Rep g ad A s S H locs → lv_has ls 1 [] → W p l e (headSpec (wt2 yX14_left cX14_left 1 (some .int)) ({ frames := 0, cells := 0, slots := 0, locals := 0 })).room s m ([.int x0] : List Value).toArray below meth c H locs 0 0 (MQ below (va_Qi (fun (r : Int32) (_ : Unit) => r = f_left S x0) (fun (_ : Unit) (t : State) => qE g ad A S t) A) ([.int x0] : List Value).toArray s 0 0 A) (F0 m 12 ls []) := by
    intro H locs ls hd hf hR hl
    unfold d_left_J12 at hd
    unfold f_left_J12 at hf
    refine lv_iconst (v := 2) hx hb dX14_left_12 (by decide) ?_
    refine lv_goto (tgt := 37) hx hb dX14_left_13 (by decide) ?_
    exact W.iret (v := 2) hx hb hr (fun t9 ht9 hW9 => ⟨⟨_, (), rfl, hf.trans hf0.symm, ⟨by rw [ht9]; exact hR.P, hR.D⟩⟩, hR.sS.F ht9⟩) hR.sS.2.2 dX14_left_37
  refine lv_icmp_eq (tgt := 12) hx hb dX14_left_3 (by decide) (fun c1 => ?_) (fun c1 => ?_)
  · rw [if_pos (k_eq rfl (by decide) c1)] at hf
    (try rw [if_pos (k_eq rfl (by decide) c1)] at hd)
    exact J_12 _ _ ls hd hf  hR (lv_sub hl [] rfl)
  · rw [if_neg (k_ne rfl (by decide) c1)] at hf
    (try rw [if_neg (k_ne rfl (by decide) c1)] at hd)
    refine lv_iload_n hx hb dX14_left_6 rfl (lv_at hl 0 rfl) ?_
    refine lv_bipush (v := 95) hx hb dX14_left_7 (by decide) ?_
    refine lv_icmp_ne (tgt := 16) hx hb dX14_left_9 (by decide) (fun c2 => ?_) (fun c2 => ?_)
    · rw [if_neg (k_ne rfl (by decide) c2)] at hf
      (try rw [if_neg (k_ne rfl (by decide) c2)] at hd)
      refine lv_iload_n hx hb dX14_left_16 rfl (lv_at hl 0 rfl) ?_
      refine lv_bipush (v := 90) hx hb dX14_left_17 (by decide) ?_
      refine lv_icmp_ne (tgt := 26) hx hb dX14_left_19 (by decide) (fun c3 => ?_) (fun c3 => ?_)
      · rw [if_neg (k_ne rfl (by decide) c3)] at hf
        (try rw [if_neg (k_ne rfl (by decide) c3)] at hd)
        refine lv_iload_n hx hb dX14_left_26 rfl (lv_at hl 0 rfl) ?_
        refine lv_bipush (v := 92) hx hb dX14_left_27 (by decide) ?_
        refine lv_icmp_ne (tgt := 36) hx hb dX14_left_29 (by decide) (fun c4 => ?_) (fun c4 => ?_)
        · rw [if_neg (k_ne rfl (by decide) c4)] at hf
          (try rw [if_neg (k_ne rfl (by decide) c4)] at hd)
          refine lv_iconst (v := 0) hx hb dX14_left_36 (by decide) ?_
          exact W.iret (v := 0) hx hb hr (fun t9 ht9 hW9 => ⟨⟨_, (), rfl, hf.trans hf0.symm, ⟨by rw [ht9]; exact hR.P, hR.D⟩⟩, hR.sS.F ht9⟩) hR.sS.2.2 dX14_left_37
        · rw [if_pos (k_eq rfl (by decide) c4)] at hf
          (try rw [if_pos (k_eq rfl (by decide) c4)] at hd)
          refine lv_iconst (v := 4) hx hb dX14_left_32 (by decide) ?_
          refine lv_goto (tgt := 37) hx hb dX14_left_33 (by decide) ?_
          exact W.iret (v := 4) hx hb hr (fun t9 ht9 hW9 => ⟨⟨_, (), rfl, hf.trans hf0.symm, ⟨by rw [ht9]; exact hR.P, hR.D⟩⟩, hR.sS.F ht9⟩) hR.sS.2.2 dX14_left_37
      · rw [if_pos (k_eq rfl (by decide) c3)] at hf
        (try rw [if_pos (k_eq rfl (by decide) c3)] at hd)
        refine lv_iconst (v := 3) hx hb dX14_left_22 (by decide) ?_
        refine lv_goto (tgt := 37) hx hb dX14_left_23 (by decide) ?_
        exact W.iret (v := 3) hx hb hr (fun t9 ht9 hW9 => ⟨⟨_, (), rfl, hf.trans hf0.symm, ⟨by rw [ht9]; exact hR.P, hR.D⟩⟩, hR.sS.F ht9⟩) hR.sS.2.2 dX14_left_37
    · rw [if_pos (k_eq rfl (by decide) c2)] at hf
      (try rw [if_pos (k_eq rfl (by decide) c2)] at hd)
      exact J_12 _ _ ls hd hf  hR (lv_sub hl [] rfl)
def w_heightBehind_J28 (Q : Int32 → MS → Prop) (U28 : MS) (t28_0 : Int32) (v28_1 : Int32) (v28_2 : Int32) (v28_3 : Int32) : Prop := ((t28_0.toInt ≤ v28_2.toInt → (d_moved U28 v28_3 ∧ (((f_moved U28 v28_3).toInt ≤ 0 → (d_givesOf U28 v28_1 ∧ (∃ Q17, w_placesOf U28 (f_givesOf U28 v28_1) Q17 ∧ ∀ r18 S19, Q17 r18 S19 → Q ((v28_2 - t28_0) + r18) S19))) ∧ (¬ (f_moved U28 v28_3).toInt ≤ 0 → (d_left U28 v28_3 ∧ Q ((v28_2 - t28_0) + (f_left U28 v28_3)) U28))))) ∧ (¬ t28_0.toInt ≤ v28_2.toInt → Q (-1 : Int32) U28))
def w_heightBehind (S : MS) (x1 : Int32) (x2 : Int32) (Q : Int32 → MS → Prop) : Prop := (d_op S x1 ∧ (∀ a4 : Int32, a4 = (f_op S x1) → (d_moved S a4 ∧ (((f_moved S a4).toInt ≤ 0 → (d_takesOf S x1 ∧ (∃ Q30, w_placesOf S (f_takesOf S x1) Q30 ∧ ∀ r31 S32, Q30 r31 S32 → w_heightBehind_J28 Q S32 r31 x1 x2 a4))) ∧ (¬ (f_moved S a4).toInt ≤ 0 → (d_moved S a4 ∧ w_heightBehind_J28 Q S (f_moved S a4) x1 x2 a4))))))
set_option maxHeartbeats 2000000 in
set_option maxRecDepth 100000 in
theorem r_heightBehind (l : Launch) (g : Gr) (ad : Nat → Nat) (sz : Nat) (S : MS) (x1 : Int32) (x2 : Int32) (hw : wfM S) (Q : Int32 → MS → Prop) (h : w_heightBehind S x1 x2 Q) : Met l yX14_heightBehind (wt2 yX14_heightBehind cX14_heightBehind 5 (some .int)) ({ frames := 5, cells := 0, slots := 0, locals := 107 }) (va_Pc [.ref (ad 0), .int x1, .int x2] (st_R g ad sz S)) (va_Qi (fun (r : Int32) (u : MS) => Q r u ∧ wfM u ∧ shy S u) (fun (u : MS) (t : State) => qE g ad (va_A (Wd g ad S) sz) u t) (va_A (Wd g ad S) sz)) 0 0 (va_A (Wd g ad S) sz) := by
  refine Met.ofW (cc := cX14_heightBehind) (maxL := 5) (ret := (some .int)) (by decide) rfl ?_
  intro p e s m args below meth c s₁ B hml hv
  obtain ⟨rfl, hsz, hP, hK, hD0, hex, hE⟩ := hv
  have hx := B.exec
  have hb := B.bytes
  have hr := B.returns
  have hts0 := atoms_spec (ws := wt2 yX14_heightBehind cX14_heightBehind 5 (some .int)) B.pre
  have hts : ∀ w ∈ tb2, w.before _ s = true := fun w h => hts0 w (List.mem_cons_of_mem _ h)
  have hown : s.vm.findClass RX14 = some m.cls := findClass_of_methodNamed B.named
  subst hsz
  have hD := hD0.self (sz := s.heap.size)
  generalize hAe : va_A (Wd g ad S) s.heap.size = A at hD hE ⊢
  have hA : ∀ q : Nat, s.heap.size ≤ q → A q := fun q h => by rw [← hAe]; exact Or.inr h
  have hR : Rep g ad A s S s.heap [] := ⟨hK, hP, hD, va_S.rf, hw⟩
  clear hK hP hD hD0
  have hl := lv_entry ([.ref (ad 0), .int x1, .int x2]) (n := 5) (Nat.le_of_ble_eq_true rfl)
  rw [lg_entry_eq]
  generalize (lg_sl ([.ref (ad 0), .int x1, .int x2]) ++ List.replicate (5 - (lg_sl ([.ref (ad 0), .int x1, .int x2])).length) Slot.unset).toArray = ls at hl ⊢
  have hl : lv_has ls 5 [(0, .ref (ad 0)), (1, .int x1), (2, .int x2)] := hl
  have hsh : shy S S := shy.rf
  unfold w_heightBehind at h
  refine lv_aload_n hx hb dX14_heightBehind_0 rfl (lv_at hl 0 rfl) ?_
  refine lv_iload_n hx hb dX14_heightBehind_1 rfl (lv_at hl 1 rfl) ?_
  obtain ⟨hv1, h⟩ := h
  have hFc := rfree hR hA
  refine va_calli (va_runV (As := [.int x1]) (rest := []) ⟨hx, hb, hml, hown, hts⟩ (r_op l g ad s.heap.size S x1 hR.w  hv1) (cwV 1 hts (gd2_V kx_379 kx_380 kx_381 kx_177 kx_382) rfl rfl rfl (by decide +kernel) ⟨Nat.le_of_ble_eq_true rfl, Nat.le_of_ble_eq_true rfl⟩) ⟨rblind, va_recv hR.K hR.P (ci := 13) (q0 := 0) rfl (hR.at14 hR.w.1), fun U hU hW9 => rmk hU hW9 hR hex hE hFc⟩ rfl rfl hl.1 rfl (lv_room (Nat.le_of_ble_eq_true rfl)) dX14_heightBehind_2 ⟨Nat.le_of_ble_eq_true rfl, Nat.le_of_ble_eq_true rfl⟩) hR.sS (fun q _ h => hFc q h) hFc (fun r2 u9 t9 H1 locs ht9 hvm9 hw9 hB9 hz9 hk9 hS => ?_)
  have hR : Rep g ad A s S H1 locs := hR.call ht9 hB9 hR.w hS hFc
  obtain rfl : r2 = (f_op S x1) := hw9
  clear hB9 hz9 hk9 hvm9 ht9 hS
  generalize H1 = H at hR ⊢
  obtain ⟨a4, ea4⟩ : ∃ z, z = (f_op S x1) := ⟨_, rfl⟩
  rw [← ea4]
  replace h := h a4 ea4
  refine lv_istore_n (lv' := [(3, .int a4), (0, .ref (ad 0)), (1, .int x1), (2, .int x2)]) hx hb dX14_heightBehind_5 rfl hl (by decide) rfl (fun ls hl => ?_)
  refine lv_iload_n hx hb dX14_heightBehind_6 rfl (lv_at hl 0 rfl) ?_
  obtain ⟨hv5, h⟩ := h
  have hFc := rfree hR hA
  refine va_calli (va_runS (As := [.int a4]) (rest := []) ⟨hx, hb, hml, hown, hts⟩ (r_moved l g ad H.size S a4 hR.w  hv5) (va_cwS 1 hts (gd2_S kx_400 kx_401 kx_177 kx_402) rfl rfl rfl (by decide +kernel) ⟨Nat.le_of_ble_eq_true rfl, Nat.le_of_ble_eq_true rfl⟩) ⟨rblind, fun U hU hW9 => rmk hU hW9 hR hex hE hFc⟩ rfl rfl hl.1 rfl (lv_room (Nat.le_of_ble_eq_true rfl)) dX14_heightBehind_7 ⟨Nat.le_of_ble_eq_true rfl, Nat.le_of_ble_eq_true rfl⟩) hR.sS (fun q _ h => hFc q h) hFc (fun r6 u9 t9 H1 locs ht9 hvm9 hw9 hB9 hz9 hk9 hS => ?_)
  have hR : Rep g ad A s S H1 locs := hR.call ht9 hB9 hR.w hS hFc
  obtain rfl : r6 = (f_moved S a4) := hw9
  clear hB9 hz9 hk9 hvm9 ht9 hS
  generalize H1 = H at hR ⊢
  have J_28 : ∀ (U28 : MS) (t28_0 : Int32) (v28_1 : Int32) (v28_2 : Int32) (v28_3 : Int32) (H : Heap) (locs : List Loc) (ls : Array Slot), w_heightBehind_J28 Q U28 t28_0 v28_1 v28_2 v28_3 → shy S U28 → Rep g ad A s U28 H locs → lv_has ls 5 [(0, .ref (ad 0)), (1, .int v28_1), (2, .int v28_2), (3, .int v28_3)] → W p l e (headSpec (wt2 yX14_heightBehind cX14_heightBehind 5 (some .int)) ({ frames := 5, cells := 0, slots := 0, locals := 107 })).room s m ([.ref (ad 0), .int x1, .int x2] : List Value).toArray below meth c H locs 0 0 (MQ below (va_Qi (fun (r : Int32) (u : MS) => Q r u ∧ wfM u ∧ shy S u) (fun (u : MS) (t : State) => qE g ad A u t) A) ([.ref (ad 0), .int x1, .int x2] : List Value).toArray s 0 0 A) (F0 m 28 ls [.int t28_0]) := by
    intro U28 t28_0 v28_1 v28_2 v28_3 H locs ls h hsh hR hl
    unfold w_heightBehind_J28 at h
    refine lv_istore (lv' := [(4, .int t28_0), (0, .ref (ad 0)), (1, .int v28_1), (2, .int v28_2), (3, .int v28_3)]) hx hb dX14_heightBehind_28 hl (by decide) rfl (fun ls hl => ?_)
    refine lv_iload hx hb dX14_heightBehind_30 (lv_at hl 0 rfl) ?_
    refine lv_iload_n hx hb dX14_heightBehind_32 rfl (lv_at hl 3 rfl) ?_
    refine lv_icmp_le (tgt := 38) hx hb dX14_heightBehind_33 (by decide) (fun c8 => ?_) (fun c8 => ?_)
    · replace h := h.1 (k_le rfl rfl c8)
      refine lv_iload_n hx hb dX14_heightBehind_38 rfl (lv_at hl 3 rfl) ?_
      refine lv_iload hx hb dX14_heightBehind_39 (lv_at hl 0 rfl) ?_
      refine lv_isub hx hb dX14_heightBehind_41 ?_
      refine lv_topi (fun z9 ez9 => ?_)
      obtain rfl : z9 = (v28_2 - t28_0) := ez9
      refine lv_iload_n hx hb dX14_heightBehind_42 rfl (lv_at hl 4 rfl) ?_
      obtain ⟨hv10, h⟩ := h
      have hFc := rfree hR hA
      refine va_calli (va_runS (As := [.int v28_3]) (rest := [.int (v28_2 - t28_0)]) ⟨hx, hb, hml, hown, hts⟩ (r_moved l g ad H.size U28 v28_3 hR.w  hv10) (va_cwS 1 hts (gd2_S kx_400 kx_401 kx_177 kx_402) rfl rfl rfl (by decide +kernel) ⟨Nat.le_of_ble_eq_true rfl, Nat.le_of_ble_eq_true rfl⟩) ⟨rblind, fun U hU hW9 => rmk hU hW9 hR hex hE hFc⟩ rfl rfl hl.1 rfl (lv_room (Nat.le_of_ble_eq_true rfl)) dX14_heightBehind_43 ⟨Nat.le_of_ble_eq_true rfl, Nat.le_of_ble_eq_true rfl⟩) hR.sS (fun q _ h => hFc q h) hFc (fun r11 u9 t9 H1 locs ht9 hvm9 hw9 hB9 hz9 hk9 hS => ?_)
      have hR : Rep g ad A s U28 H1 locs := hR.call ht9 hB9 hR.w hS hFc
      obtain rfl : r11 = (f_moved U28 v28_3) := hw9
      clear hB9 hz9 hk9 hvm9 ht9 hS
      generalize H1 = H at hR ⊢
      refine lv_if_le (tgt := 56) hx hb dX14_heightBehind_46 (by decide) (fun c13 => ?_) (fun c13 => ?_)
      · replace h := h.1 (k_le rfl (by decide) c13)
        refine lv_aload_n hx hb dX14_heightBehind_56 rfl (lv_at hl 1 rfl) ?_
        refine lv_iload_n hx hb dX14_heightBehind_57 rfl (lv_at hl 2 rfl) ?_
        obtain ⟨hv14, h⟩ := h
        have hFc := rfree hR hA
        refine va_callq (va_runV (As := [.int v28_1]) (rest := [.int (v28_2 - t28_0)]) ⟨hx, hb, hml, hown, hts⟩ (r_givesOf l g ad H.size U28 v28_1 hR.w  hv14) (cwV 1 hts (gd2_V kx_403 kx_404 kx_405 kx_177 kx_406) rfl rfl rfl (by decide +kernel) ⟨Nat.le_of_ble_eq_true rfl, Nat.le_of_ble_eq_true rfl⟩) ⟨rblind, va_recv hR.K hR.P (ci := 13) (q0 := 0) rfl (hR.at14 hR.w.1), fun U hU hW9 => rmk hU hW9 hR hex hE hFc⟩ rfl rfl hl.1 rfl (lv_room (Nat.le_of_ble_eq_true rfl)) dX14_heightBehind_58 ⟨Nat.le_of_ble_eq_true rfl, Nat.le_of_ble_eq_true rfl⟩) hR.sS (fun q _ h => hFc q h) hFc (fun r15 u9 t9 H1 locs ht9 hvm9 hw9 hB9 hz9 hk9 hS => ?_)
        have hR : Rep g ad A s U28 H1 locs := hR.call ht9 hB9 hR.w hS hFc
        obtain ⟨rfl, hT_r15⟩ := hw9
        clear hB9 hz9 hk9 hvm9 ht9 hS
        generalize H1 = H at hR ⊢
        obtain ⟨Q17, h0, h⟩ := h
        have hFc := rfree hR hA
        refine va_calli (va_runS (As := [.ref (ad (f_givesOf U28 v28_1))]) (rest := [.int (v28_2 - t28_0)]) ⟨hx, hb, hml, hown, hts⟩ (r_placesOf l g ad H.size U28 (f_givesOf U28 v28_1) hR.w hT_r15 Q17 h0) (va_cwS 1 hts (gd2_S kx_407 kx_408 kx_177 kx_409) rfl rfl rfl (by decide +kernel) ⟨Nat.le_of_ble_eq_true rfl, Nat.le_of_ble_eq_true rfl⟩) ⟨rblind, fun U hU hW9 => rmk hU hW9 hR hex hE hFc⟩ rfl rfl hl.1 rfl (lv_room (Nat.le_of_ble_eq_true rfl)) dX14_heightBehind_61 ⟨Nat.le_of_ble_eq_true rfl, Nat.le_of_ble_eq_true rfl⟩) hR.sS (fun q _ h => hFc q h) hFc (fun r18 S19 t9 H1 locs ht9 hvm9 hw9 hB9 hz9 hk9 hS => ?_)
        obtain ⟨hq20, hw9, hs9⟩ := hw9
        have hR : Rep g ad A s S19 H1 locs := hR.call ht9 hB9 hw9 hS hFc
        have hsh := hsh.tr hs9
        replace h := h r18 S19 hq20
        clear hB9 hz9 hk9 hvm9 ht9 hw9 hs9 hS
        generalize H1 = H at hR ⊢
        refine lv_iadd hx hb dX14_heightBehind_64 ?_
        refine lv_topi (fun z21 ez21 => ?_)
        obtain rfl : z21 = ((v28_2 - t28_0) + r18) := ez21
        exact W.iret (v := ((v28_2 - t28_0) + r18)) hx hb hr (fun t9 ht9 hW9 => ⟨⟨_, S19, rfl, ⟨h, hR.w, hsh⟩, ⟨by rw [ht9]; exact hR.P, hR.D⟩⟩, hR.sS.F ht9⟩) hR.sS.2.2 dX14_heightBehind_65
      · replace h := h.2 (k_nle rfl (by decide) c13)
        refine lv_iload_n hx hb dX14_heightBehind_49 rfl (lv_at hl 4 rfl) ?_
        obtain ⟨hv22, h⟩ := h
        have hFc := rfree hR hA
        refine va_calli (va_runS (As := [.int v28_3]) (rest := [.int (v28_2 - t28_0)]) ⟨hx, hb, hml, hown, hts⟩ (r_left l g ad H.size U28 v28_3 hR.w  hv22) (va_cwS 1 hts (gd2_S kx_410 kx_411 kx_177 kx_412) rfl rfl rfl (by decide +kernel) ⟨Nat.le_of_ble_eq_true rfl, Nat.le_of_ble_eq_true rfl⟩) ⟨rblind, fun U hU hW9 => rmk hU hW9 hR hex hE hFc⟩ rfl rfl hl.1 rfl (lv_room (Nat.le_of_ble_eq_true rfl)) dX14_heightBehind_50 ⟨Nat.le_of_ble_eq_true rfl, Nat.le_of_ble_eq_true rfl⟩) hR.sS (fun q _ h => hFc q h) hFc (fun r23 u9 t9 H1 locs ht9 hvm9 hw9 hB9 hz9 hk9 hS => ?_)
        have hR : Rep g ad A s U28 H1 locs := hR.call ht9 hB9 hR.w hS hFc
        obtain rfl : r23 = (f_left U28 v28_3) := hw9
        clear hB9 hz9 hk9 hvm9 ht9 hS
        generalize H1 = H at hR ⊢
        refine lv_goto (tgt := 64) hx hb dX14_heightBehind_53 (by decide) ?_
        refine lv_iadd hx hb dX14_heightBehind_64 ?_
        refine lv_topi (fun z25 ez25 => ?_)
        obtain rfl : z25 = ((v28_2 - t28_0) + (f_left U28 v28_3)) := ez25
        exact W.iret (v := ((v28_2 - t28_0) + (f_left U28 v28_3))) hx hb hr (fun t9 ht9 hW9 => ⟨⟨_, U28, rfl, ⟨h, hR.w, hsh⟩, ⟨by rw [ht9]; exact hR.P, hR.D⟩⟩, hR.sS.F ht9⟩) hR.sS.2.2 dX14_heightBehind_65
    · replace h := h.2 (k_nle rfl rfl c8)
      refine lv_iconst (v := (-1)) hx hb dX14_heightBehind_36 (by decide) ?_
      exact W.iret (v := (-1)) hx hb hr (fun t9 ht9 hW9 => ⟨⟨_, U28, rfl, ⟨h, hR.w, hsh⟩, ⟨by rw [ht9]; exact hR.P, hR.D⟩⟩, hR.sS.F ht9⟩) hR.sS.2.2 dX14_heightBehind_37
  refine lv_if_le (tgt := 20) hx hb dX14_heightBehind_10 (by decide) (fun c26 => ?_) (fun c26 => ?_)
  · replace h := h.1 (k_le rfl (by decide) c26)
    refine lv_aload_n hx hb dX14_heightBehind_20 rfl (lv_at hl 1 rfl) ?_
    refine lv_iload_n hx hb dX14_heightBehind_21 rfl (lv_at hl 2 rfl) ?_
    obtain ⟨hv27, h⟩ := h
    have hFc := rfree hR hA
    refine va_callq (va_runV (As := [.int x1]) (rest := []) ⟨hx, hb, hml, hown, hts⟩ (r_takesOf l g ad H.size S x1 hR.w  hv27) (cwV 1 hts (gd2_V kx_413 kx_414 kx_415 kx_177 kx_416) rfl rfl rfl (by decide +kernel) ⟨Nat.le_of_ble_eq_true rfl, Nat.le_of_ble_eq_true rfl⟩) ⟨rblind, va_recv hR.K hR.P (ci := 13) (q0 := 0) rfl (hR.at14 hR.w.1), fun U hU hW9 => rmk hU hW9 hR hex hE hFc⟩ rfl rfl hl.1 rfl (lv_room (Nat.le_of_ble_eq_true rfl)) dX14_heightBehind_22 ⟨Nat.le_of_ble_eq_true rfl, Nat.le_of_ble_eq_true rfl⟩) hR.sS (fun q _ h => hFc q h) hFc (fun r28 u9 t9 H1 locs ht9 hvm9 hw9 hB9 hz9 hk9 hS => ?_)
    have hR : Rep g ad A s S H1 locs := hR.call ht9 hB9 hR.w hS hFc
    obtain ⟨rfl, hT_r28⟩ := hw9
    clear hB9 hz9 hk9 hvm9 ht9 hS
    generalize H1 = H at hR ⊢
    obtain ⟨Q30, h0, h⟩ := h
    have hFc := rfree hR hA
    refine va_calli (va_runS (As := [.ref (ad (f_takesOf S x1))]) (rest := []) ⟨hx, hb, hml, hown, hts⟩ (r_placesOf l g ad H.size S (f_takesOf S x1) hR.w hT_r28 Q30 h0) (va_cwS 1 hts (gd2_S kx_407 kx_408 kx_177 kx_409) rfl rfl rfl (by decide +kernel) ⟨Nat.le_of_ble_eq_true rfl, Nat.le_of_ble_eq_true rfl⟩) ⟨rblind, fun U hU hW9 => rmk hU hW9 hR hex hE hFc⟩ rfl rfl hl.1 rfl (lv_room (Nat.le_of_ble_eq_true rfl)) dX14_heightBehind_25 ⟨Nat.le_of_ble_eq_true rfl, Nat.le_of_ble_eq_true rfl⟩) hR.sS (fun q _ h => hFc q h) hFc (fun r31 S32 t9 H1 locs ht9 hvm9 hw9 hB9 hz9 hk9 hS => ?_)
    obtain ⟨hq33, hw9, hs9⟩ := hw9
    have hR : Rep g ad A s S32 H1 locs := hR.call ht9 hB9 hw9 hS hFc
    have hsh := hsh.tr hs9
    replace h := h r31 S32 hq33
    clear hB9 hz9 hk9 hvm9 ht9 hw9 hs9 hS
    generalize H1 = H at hR ⊢
    exact J_28 S32 r31 x1 x2 a4 _ _ ls h  hsh hR (lv_sub hl [1, 2, 3, 0] rfl)
  · replace h := h.2 (k_nle rfl (by decide) c26)
    refine lv_iload_n hx hb dX14_heightBehind_13 rfl (lv_at hl 0 rfl) ?_
    obtain ⟨hv34, h⟩ := h
    have hFc := rfree hR hA
    refine va_calli (va_runS (As := [.int a4]) (rest := []) ⟨hx, hb, hml, hown, hts⟩ (r_moved l g ad H.size S a4 hR.w  hv34) (va_cwS 1 hts (gd2_S kx_400 kx_401 kx_177 kx_402) rfl rfl rfl (by decide +kernel) ⟨Nat.le_of_ble_eq_true rfl, Nat.le_of_ble_eq_true rfl⟩) ⟨rblind, fun U hU hW9 => rmk hU hW9 hR hex hE hFc⟩ rfl rfl hl.1 rfl (lv_room (Nat.le_of_ble_eq_true rfl)) dX14_heightBehind_14 ⟨Nat.le_of_ble_eq_true rfl, Nat.le_of_ble_eq_true rfl⟩) hR.sS (fun q _ h => hFc q h) hFc (fun r35 u9 t9 H1 locs ht9 hvm9 hw9 hB9 hz9 hk9 hS => ?_)
    have hR : Rep g ad A s S H1 locs := hR.call ht9 hB9 hR.w hS hFc
    obtain rfl : r35 = (f_moved S a4) := hw9
    clear hB9 hz9 hk9 hvm9 ht9 hS
    generalize H1 = H at hR ⊢
    refine lv_goto (tgt := 28) hx hb dX14_heightBehind_17 (by decide) ?_
    exact J_28 S (f_moved S a4) x1 x2 a4 _ _ ls h  hsh hR (lv_sub hl [1, 2, 3, 0] rfl)
def w_come_J34 (Q : MS → Prop) (U34 : MS) (t34_0 : Int32) (v34_1 : Int32) (v34_3 : Int32) : Prop := (∀ S6, S6 = wI U34 0 57 t34_0 → (((0 : Int) ≤ v34_1.toInt ∧ v34_1.toInt < 9600) ∧ (∀ S8, S8 = wI S6 22 v34_1.toInt.toNat v34_3 → Q S8)))
def w_come_J29 (Q : MS → Prop) (U29 : MS) (v29_1 : Int32) (v29_3 : Int32) : Prop := w_come_J34 Q U29 1 v29_1 v29_3
def w_come (S : MS) (x1 : Int32) (x2 : Int32) (Q : MS → Prop) : Prop := (((0 : Int) ≤ x1.toInt ∧ x1.toInt < 9600) ∧ (∀ a5 : Int32, a5 = ((qI S 22 x1.toInt.toNat) ||| ((1 : Int32) <<< (x2 &&& 31))) → (((qI S 0 57).toInt = 0 → (((0 : Int) ≤ x1.toInt ∧ x1.toInt < 9600) ∧ ((a5.toInt = (qI S 22 x1.toInt.toNat).toInt → w_come_J34 Q S 0 x1 a5) ∧ (¬ a5.toInt = (qI S 22 x1.toInt.toNat).toInt → w_come_J29 Q S x1 a5)))) ∧ (¬ (qI S 0 57).toInt = 0 → w_come_J29 Q S x1 a5))))
set_option maxHeartbeats 2000000 in
set_option maxRecDepth 100000 in
theorem r_come (l : Launch) (g : Gr) (ad : Nat → Nat) (sz : Nat) (S : MS) (x1 : Int32) (x2 : Int32) (hw : wfM S) (Q : MS → Prop) (h : w_come S x1 x2 Q) : Met l yX14_come (wt2 yX14_come cX14_come 4 none) ({ frames := 0, cells := 0, slots := 0, locals := 0 }) (va_Pc [.ref (ad 0), .int x1, .int x2] (st_R g ad sz S)) (va_Qv (fun (u : MS) => Q u ∧ wfM u ∧ shy S u) (fun (u : MS) (t : State) => qE g ad (va_A (Wd g ad S) sz) u t) (va_A (Wd g ad S) sz)) 0 0 (va_A (Wd g ad S) sz) := by
  refine Met.ofW (cc := cX14_come) (maxL := 4) (ret := none) (by decide) rfl ?_
  intro p e s m args below meth c s₁ B hml hv
  obtain ⟨rfl, hsz, hP, hK, hD0, hex, hE⟩ := hv
  have hx := B.exec
  have hb := B.bytes
  have hr := B.returns
  have hts0 := atoms_spec (ws := wt2 yX14_come cX14_come 4 none) B.pre
  have hts : ∀ w ∈ tb2, w.before _ s = true := fun w h => hts0 w (List.mem_cons_of_mem _ h)
  have hown : s.vm.findClass RX14 = some m.cls := findClass_of_methodNamed B.named
  subst hsz
  have hD := hD0.self (sz := s.heap.size)
  generalize hAe : va_A (Wd g ad S) s.heap.size = A at hD hE ⊢
  have hA : ∀ q : Nat, s.heap.size ≤ q → A q := fun q h => by rw [← hAe]; exact Or.inr h
  have hR : Rep g ad A s S s.heap [] := ⟨hK, hP, hD, va_S.rf, hw⟩
  clear hK hP hD hD0
  have hl := lv_entry ([.ref (ad 0), .int x1, .int x2]) (n := 4) (Nat.le_of_ble_eq_true rfl)
  rw [lg_entry_eq]
  generalize (lg_sl ([.ref (ad 0), .int x1, .int x2]) ++ List.replicate (4 - (lg_sl ([.ref (ad 0), .int x1, .int x2])).length) Slot.unset).toArray = ls at hl ⊢
  have hl : lv_has ls 4 [(0, .ref (ad 0)), (1, .int x1), (2, .int x2)] := hl
  have hsh : shy S S := shy.rf
  unfold w_come at h
  refine lv_aload_n hx hb dX14_come_0 rfl (lv_at hl 0 rfl) ?_
  refine va_get (D := rD g) (ci := 13) (v := .ref (ad 22)) (C := RX14) (T := TX14) (N := 143) hx hb hts in2X14 hown hR.K hR.P 0 (hR.at14 hR.w.1) rfl 55 (by decide) (hts _ kx_417) (fun _ h9 => h9) (congrArg (fun z => some (vf ad z)) (hR.w.2.1 _ fin_55).1) dX14_come_1 ?_
  refine lv_iload_n hx hb dX14_come_4 rfl (lv_at hl 1 rfl) ?_
  obtain ⟨hv1, h⟩ := h
  refine va_iald hx hb hR.K hR.P 22 1 (hR.atI (hR.w.2.1 _ fin_55).2.1) rfl (k_ixN (k_ix (n := 9600) (x := x1) (a := x1.toInt) rfl hv1) (hR.w.2.1 _ fin_55).2.2) dX14_come_5 ?_
  refine lv_topi (fun z2 ez2 => ?_)
  obtain rfl : z2 = (qI S 22 x1.toInt.toNat) := ez2
  refine lv_iconst (v := 1) hx hb dX14_come_6 (by decide) ?_
  refine lv_iload_n hx hb dX14_come_7 rfl (lv_at hl 2 rfl) ?_
  refine lv_ishl hx hb dX14_come_8 ?_
  refine lv_topi (fun z3 ez3 => ?_)
  obtain rfl : z3 = ((1 : Int32) <<< (x2 &&& 31)) := ez3
  refine lv_ior hx hb dX14_come_9 ?_
  refine lv_topi (fun z4 ez4 => ?_)
  obtain rfl : z4 = ((qI S 22 x1.toInt.toNat) ||| ((1 : Int32) <<< (x2 &&& 31))) := ez4
  obtain ⟨a5, ea5⟩ : ∃ z, z = ((qI S 22 x1.toInt.toNat) ||| ((1 : Int32) <<< (x2 &&& 31))) := ⟨_, rfl⟩
  rw [← ea5]
  replace h := h a5 ea5
  refine lv_istore_n (lv' := [(3, .int a5), (0, .ref (ad 0)), (1, .int x1), (2, .int x2)]) hx hb dX14_come_10 rfl hl (by decide) rfl (fun ls hl => ?_)
  refine lv_aload_n hx hb dX14_come_11 rfl (lv_at hl 1 rfl) ?_
  refine lv_aload_n hx hb dX14_come_12 rfl (lv_at hl 1 rfl) ?_
  refine va_get (D := rD g) (ci := 13) (v := .int (qI S 0 57)) (C := RX14) (T := TX14) (N := 143) hx hb hts in2X14 hown hR.K hR.P 0 (hR.at14 hR.w.1) rfl 57 (by decide) (hts _ kx_418) (fun _ h9 => h9) rfl dX14_come_13 ?_
  have J_34 : ∀ (U34 : MS) (t34_0 : Int32) (v34_1 : Int32) (v34_3 : Int32) (H : Heap) (locs : List Loc) (ls : Array Slot), w_come_J34 Q U34 t34_0 v34_1 v34_3 → (t34_0 = 0 ∨ t34_0 = 1) → shy S U34 → Rep g ad A s U34 H locs → lv_has ls 4 [(0, .ref (ad 0)), (1, .int v34_1), (3, .int v34_3)] → W p l e (headSpec (wt2 yX14_come cX14_come 4 none) ({ frames := 0, cells := 0, slots := 0, locals := 0 })).room s m ([.ref (ad 0), .int x1, .int x2] : List Value).toArray below meth c H locs 0 0 (MQ below (va_Qv (fun (u : MS) => Q u ∧ wfM u ∧ shy S u) (fun (u : MS) (t : State) => qE g ad A u t) A) ([.ref (ad 0), .int x1, .int x2] : List Value).toArray s 0 0 A) (F0 m 34 ls [.int t34_0, .ref (ad 0)]) := by
    intro U34 t34_0 v34_1 v34_3 H locs ls h hz_t34_0 hsh hR hl
    unfold w_come_J34 at h
    refine va_put (D := rD g) (ci := 13) (v := .int t34_0) (ty := .boolean) (C := RX14) (T := TX14) (N := 143) hx hb hts in2X14 tyX14 tyX14_ok nmX14 hown hR.K hR.P hR.D hR.sS 0 (hR.at14 hR.w.1) rfl 57 (by decide) (hts _ kx_418) (fun _ h9 => h9) rfl (by decide +kernel) (nz hz_t34_0) (fz2 hz_t34_0) (Nat.le_of_ble_eq_true rfl) dX14_come_34 (fun H locs hP hD hS => ?_)
    have hR : Rep g ad A s (wI U34 0 57 t34_0) H locs := hR.pI hR.w.1 F14_s57 hP hD hS
    obtain ⟨S6, eS6⟩ : ∃ z, z = wI U34 0 57 t34_0 := ⟨_, rfl⟩
    rw [← eS6] at hR
    replace h := h S6 eS6
    have hsh : shy S S6 := by rw [eS6]; exact hsh
    refine lv_aload_n hx hb dX14_come_37 rfl (lv_at hl 0 rfl) ?_
    refine va_get (D := rD g) (ci := 13) (v := .ref (ad 22)) (C := RX14) (T := TX14) (N := 143) hx hb hts in2X14 hown hR.K hR.P 0 (hR.at14 hR.w.1) rfl 55 (by decide) (hts _ kx_417) (fun _ h9 => h9) (congrArg (fun z => some (vf ad z)) (hR.w.2.1 _ fin_55).1) dX14_come_38 ?_
    refine lv_iload_n hx hb dX14_come_41 rfl (lv_at hl 1 rfl) ?_
    refine lv_iload_n hx hb dX14_come_42 rfl (lv_at hl 2 rfl) ?_
    obtain ⟨hv7, h⟩ := h
    refine va_iast hx hb hR.K hR.P hR.D hR.sS 22 1 (hR.atI (hR.w.2.1 _ fin_55).2.1) rfl (k_ixN (k_ix (n := 9600) (x := v34_1) (a := v34_1.toInt) rfl hv7) (hR.w.2.1 _ fin_55).2.2) dX14_come_43 (fun H locs hP hD hS => ?_)
    have hR : Rep g ad A s (wI S6 22 v34_1.toInt.toNat v34_3) H locs := hR.aI (hR.w.2.1 _ fin_55).2.1 hP hD hS
    obtain ⟨S8, eS8⟩ : ∃ z, z = wI S6 22 v34_1.toInt.toNat v34_3 := ⟨_, rfl⟩
    rw [← eS8] at hR
    replace h := h S8 eS8
    have hsh : shy S S8 := by rw [eS8]; exact hsh
    exact W.vret hx hb hr (fun t9 ht9 hW9 => ⟨⟨S8, rfl, ⟨h, hR.w, hsh⟩, ⟨by rw [ht9]; exact hR.P, hR.D⟩⟩, hR.sS.F ht9⟩) hR.sS.2.2 dX14_come_44
  have J_29 : ∀ (U29 : MS) (v29_1 : Int32) (v29_3 : Int32) (H : Heap) (locs : List Loc) (ls : Array Slot), w_come_J29 Q U29 v29_1 v29_3 → shy S U29 → Rep g ad A s U29 H locs → lv_has ls 4 [(0, .ref (ad 0)), (1, .int v29_1), (3, .int v29_3)] → W p l e (headSpec (wt2 yX14_come cX14_come 4 none) ({ frames := 0, cells := 0, slots := 0, locals := 0 })).room s m ([.ref (ad 0), .int x1, .int x2] : List Value).toArray below meth c H locs 0 0 (MQ below (va_Qv (fun (u : MS) => Q u ∧ wfM u ∧ shy S u) (fun (u : MS) (t : State) => qE g ad A u t) A) ([.ref (ad 0), .int x1, .int x2] : List Value).toArray s 0 0 A) (F0 m 29 ls [.ref (ad 0)]) := by
    intro U29 v29_1 v29_3 H locs ls h hsh hR hl
    unfold w_come_J29 at h
    refine lv_iconst (v := 1) hx hb dX14_come_29 (by decide) ?_
    refine lv_goto (tgt := 34) hx hb dX14_come_30 (by decide) ?_
    exact J_34 U29 1 v29_1 v29_3 _ _ ls h (Or.inr rfl) hsh hR (lv_sub hl [0, 1, 2] rfl)
  refine lv_if_ne (tgt := 29) hx hb dX14_come_16 (by decide) (fun c9 => ?_) (fun c9 => ?_)
  · replace h := h.2 (k_ne rfl (by decide) c9)
    exact J_29 S x1 a5 _ _ ls h  hsh hR (lv_sub hl [1, 2, 0] rfl)
  · replace h := h.1 (k_eq rfl (by decide) c9)
    refine lv_iload_n hx hb dX14_come_19 rfl (lv_at hl 0 rfl) ?_
    refine lv_aload_n hx hb dX14_come_20 rfl (lv_at hl 1 rfl) ?_
    refine va_get (D := rD g) (ci := 13) (v := .ref (ad 22)) (C := RX14) (T := TX14) (N := 143) hx hb hts in2X14 hown hR.K hR.P 0 (hR.at14 hR.w.1) rfl 55 (by decide) (hts _ kx_417) (fun _ h9 => h9) (congrArg (fun z => some (vf ad z)) (hR.w.2.1 _ fin_55).1) dX14_come_21 ?_
    refine lv_iload_n hx hb dX14_come_24 rfl (lv_at hl 2 rfl) ?_
    obtain ⟨hv10, h⟩ := h
    refine va_iald hx hb hR.K hR.P 22 1 (hR.atI (hR.w.2.1 _ fin_55).2.1) rfl (k_ixN (k_ix (n := 9600) (x := x1) (a := x1.toInt) rfl hv10) (hR.w.2.1 _ fin_55).2.2) dX14_come_25 ?_
    refine lv_topi (fun z11 ez11 => ?_)
    obtain rfl : z11 = (qI S 22 x1.toInt.toNat) := ez11
    refine lv_icmp_eq (tgt := 33) hx hb dX14_come_26 (by decide) (fun c12 => ?_) (fun c12 => ?_)
    · replace h := h.1 (k_eq rfl rfl c12)
      refine lv_iconst (v := 0) hx hb dX14_come_33 (by decide) ?_
      exact J_34 S 0 x1 a5 _ _ ls h (Or.inl rfl) hsh hR (lv_sub hl [1, 2, 0] rfl)
    · replace h := h.2 (k_ne rfl rfl c12)
      exact J_29 S x1 a5 _ _ ls h  hsh hR (lv_sub hl [1, 2, 0] rfl)
def w_hasCatch_L2 (Q : Int32 → MS → Prop) : Nat → MS → Int32 → Int32 → Prop
  | 0, _, _, _ => False
  | n2 + 1, U2, v2_1, v2_2 => (((qI U2 0 54).toInt ≤ v2_2.toInt → Q (0 : Int32) U2) ∧ (¬ (qI U2 0 54).toInt ≤ v2_2.toInt → (d_isCaught U2 v2_1 v2_2 ∧ (((f_isCaught U2 v2_1 v2_2).toInt = 0 → (∀ a6 : Int32, a6 = (v2_2 + Int32.ofInt 1) → (w_hasCatch_L2 Q n2) U2 v2_1 a6)) ∧ (¬ (f_isCaught U2 v2_1 v2_2).toInt = 0 → Q (1 : Int32) U2)))))
def w_hasCatch (S : MS) (x1 : Int32) (Q : Int32 → MS → Prop) : Prop := (∃ n, w_hasCatch_L2 Q n S x1 0)
set_option maxHeartbeats 2000000 in
set_option maxRecDepth 100000 in
theorem r_hasCatch (l : Launch) (g : Gr) (ad : Nat → Nat) (sz : Nat) (S : MS) (x1 : Int32) (hw : wfM S) (Q : Int32 → MS → Prop) (h : w_hasCatch S x1 Q) : Met l yX14_hasCatch (wt2 yX14_hasCatch cX14_hasCatch 3 (some .boolean)) ({ frames := 2, cells := 0, slots := 0, locals := 44 }) (va_Pc [.ref (ad 0), .int x1] (st_R g ad sz S)) (va_Qi (fun (r : Int32) (u : MS) => Q r u ∧ wfM u ∧ shy S u ∧ (r = 0 ∨ r = 1)) (fun (u : MS) (t : State) => qE g ad (va_A (Wd g ad S) sz) u t) (va_A (Wd g ad S) sz)) 0 0 (va_A (Wd g ad S) sz) := by
  refine Met.ofW (cc := cX14_hasCatch) (maxL := 3) (ret := (some .boolean)) (by decide) rfl ?_
  intro p e s m args below meth c s₁ B hml hv
  obtain ⟨rfl, hsz, hP, hK, hD0, hex, hE⟩ := hv
  have hx := B.exec
  have hb := B.bytes
  have hr := B.returns
  have hts0 := atoms_spec (ws := wt2 yX14_hasCatch cX14_hasCatch 3 (some .boolean)) B.pre
  have hts : ∀ w ∈ tb2, w.before _ s = true := fun w h => hts0 w (List.mem_cons_of_mem _ h)
  have hown : s.vm.findClass RX14 = some m.cls := findClass_of_methodNamed B.named
  subst hsz
  have hD := hD0.self (sz := s.heap.size)
  generalize hAe : va_A (Wd g ad S) s.heap.size = A at hD hE ⊢
  have hA : ∀ q : Nat, s.heap.size ≤ q → A q := fun q h => by rw [← hAe]; exact Or.inr h
  have hR : Rep g ad A s S s.heap [] := ⟨hK, hP, hD, va_S.rf, hw⟩
  clear hK hP hD hD0
  have hl := lv_entry ([.ref (ad 0), .int x1]) (n := 3) (Nat.le_of_ble_eq_true rfl)
  rw [lg_entry_eq]
  generalize (lg_sl ([.ref (ad 0), .int x1]) ++ List.replicate (3 - (lg_sl ([.ref (ad 0), .int x1])).length) Slot.unset).toArray = ls at hl ⊢
  have hl : lv_has ls 3 [(0, .ref (ad 0)), (1, .int x1)] := hl
  have hsh : shy S S := shy.rf
  unfold w_hasCatch at h
  refine lv_iconst (v := 0) hx hb dX14_hasCatch_0 (by decide) ?_
  refine lv_istore_n (lv' := [(2, .int 0), (0, .ref (ad 0)), (1, .int x1)]) hx hb dX14_hasCatch_1 rfl hl (by decide) rfl (fun ls hl => ?_)
  have J_2 : ∀ (n2 : Nat) (U2 : MS) (v2_1 : Int32) (v2_2 : Int32) (H : Heap) (locs : List Loc) (ls : Array Slot), w_hasCatch_L2 Q n2 U2 v2_1 v2_2 → shy S U2 → Rep g ad A s U2 H locs → lv_has ls 3 [(0, .ref (ad 0)), (1, .int v2_1), (2, .int v2_2)] → W p l e (headSpec (wt2 yX14_hasCatch cX14_hasCatch 3 (some .boolean)) ({ frames := 2, cells := 0, slots := 0, locals := 44 })).room s m ([.ref (ad 0), .int x1] : List Value).toArray below meth c H locs 0 0 (MQ below (va_Qi (fun (r : Int32) (u : MS) => Q r u ∧ wfM u ∧ shy S u ∧ (r = 0 ∨ r = 1)) (fun (u : MS) (t : State) => qE g ad A u t) A) ([.ref (ad 0), .int x1] : List Value).toArray s 0 0 A) (F0 m 2 ls []) := by
    intro n2
    induction n2 with
    | zero => intro U2 v2_1 v2_2 H locs ls h hsh hR hl; unfold w_hasCatch_L2 at h; exact h.elim
    | succ n2 ih_2 =>
      intro U2 v2_1 v2_2 H locs ls h hsh hR hl
      unfold w_hasCatch_L2 at h
      refine lv_iload_n hx hb dX14_hasCatch_2 rfl (lv_at hl 2 rfl) ?_
      refine lv_aload_n hx hb dX14_hasCatch_3 rfl (lv_at hl 0 rfl) ?_
      refine va_get (D := rD g) (ci := 13) (v := .int (qI U2 0 54)) (C := RX14) (T := TX14) (N := 143) hx hb hts in2X14 hown hR.K hR.P 0 (hR.at14 hR.w.1) rfl 54 (by decide) (hts _ kx_374) (fun _ h9 => h9) rfl dX14_hasCatch_4 ?_
      refine lv_icmp_ge (tgt := 27) hx hb dX14_hasCatch_7 (by decide) (fun c1 => ?_) (fun c1 => ?_)
      · replace h := h.1 (k_le rfl rfl c1)
        refine lv_iconst (v := 0) hx hb dX14_hasCatch_27 (by decide) ?_
        exact W.zret (v := 0) hx hb hr (nz (Or.inl rfl)) (fun t9 ht9 hW9 => ⟨⟨_, U2, rfl, ⟨h, hR.w, hsh, (Or.inl rfl)⟩, ⟨by rw [ht9]; exact hR.P, hR.D⟩⟩, hR.sS.F ht9⟩) hR.sS.2.2 dX14_hasCatch_28
      · replace h := h.2 (k_nle rfl rfl c1)
        refine lv_aload_n hx hb dX14_hasCatch_10 rfl (lv_at hl 0 rfl) ?_
        refine lv_iload_n hx hb dX14_hasCatch_11 rfl (lv_at hl 1 rfl) ?_
        refine lv_iload_n hx hb dX14_hasCatch_12 rfl (lv_at hl 2 rfl) ?_
        obtain ⟨hv2, h⟩ := h
        have hFc := rfree hR hA
        refine va_calli (va_runV (As := [.int v2_1, .int v2_2]) (rest := []) ⟨hx, hb, hml, hown, hts⟩ (r_isCaught l g ad H.size U2 v2_1 v2_2 hR.w  hv2) (cwV 2 hts (gd2_V kx_419 kx_420 kx_421 kx_177 kx_422) rfl rfl rfl (by decide +kernel) ⟨Nat.le_of_ble_eq_true rfl, Nat.le_of_ble_eq_true rfl⟩) ⟨rblind, va_recv hR.K hR.P (ci := 13) (q0 := 0) rfl (hR.at14 hR.w.1), fun U hU hW9 => rmk hU hW9 hR hex hE hFc⟩ rfl rfl hl.1 rfl (lv_room (Nat.le_of_ble_eq_true rfl)) dX14_hasCatch_13 ⟨Nat.le_of_ble_eq_true rfl, Nat.le_of_ble_eq_true rfl⟩) hR.sS (fun q _ h => hFc q h) hFc (fun r3 u9 t9 H1 locs ht9 hvm9 hw9 hB9 hz9 hk9 hS => ?_)
        have hR : Rep g ad A s U2 H1 locs := hR.call ht9 hB9 hR.w hS hFc
        obtain ⟨rfl, hz_r3⟩ := hw9
        clear hB9 hz9 hk9 hvm9 ht9 hS
        generalize H1 = H at hR ⊢
        refine lv_if_eq (tgt := 21) hx hb dX14_hasCatch_16 (by decide) (fun c5 => ?_) (fun c5 => ?_)
        · replace h := h.1 (k_eq rfl (by decide) c5)
          obtain ⟨a6, ea6⟩ : ∃ z, z = (v2_2 + Int32.ofInt 1) := ⟨_, rfl⟩
          replace h := h a6 ea6
          refine lv_iinc (v := a6) (lv' := [(2, .int a6), (0, .ref (ad 0)), (1, .int v2_1)]) hx hb dX14_hasCatch_21 hl (k := 2) rfl ea6.symm (by decide) rfl (fun ls hl => ?_)
          refine lv_goto (tgt := 2) hx hb dX14_hasCatch_24 (by decide) ?_
          exact ih_2 U2 v2_1 a6 _ _ ls h  hsh hR (lv_sub hl [1, 2, 0] rfl)
        · replace h := h.2 (k_ne rfl (by decide) c5)
          refine lv_iconst (v := 1) hx hb dX14_hasCatch_19 (by decide) ?_
          exact W.zret (v := 1) hx hb hr (nz (Or.inr rfl)) (fun t9 ht9 hW9 => ⟨⟨_, U2, rfl, ⟨h, hR.w, hsh, (Or.inr rfl)⟩, ⟨by rw [ht9]; exact hR.P, hR.D⟩⟩, hR.sS.F ht9⟩) hR.sS.2.2 dX14_hasCatch_20
  obtain ⟨n9, h⟩ := h
  exact J_2 n9 S x1 0 _ _ ls h  hsh hR (lv_sub hl [1, 2, 0] rfl)
