def w_takeMethod_L80 (Q : MS → Prop) : Nat → MS → Int32 → Prop
  | 0, _, _ => False
  | n80 + 1, U80, v80_3 => (((qI U80 0 135).toInt ≤ v80_3.toInt → Q U80) ∧ (¬ (qI U80 0 135).toInt ≤ v80_3.toInt → (d_catchWord U80 v80_3 (0 : Int32) ∧ (((0 : Int) ≤ v80_3.toInt ∧ v80_3.toInt < 16) ∧ (∀ S12, S12 = wI U80 82 v80_3.toInt.toNat (f_catchWord U80 v80_3 (0 : Int32)) → (d_catchWord S12 v80_3 (1 : Int32) ∧ (((0 : Int) ≤ v80_3.toInt ∧ v80_3.toInt < 16) ∧ (∀ S17, S17 = wI S12 83 v80_3.toInt.toNat (f_catchWord S12 v80_3 (1 : Int32)) → (d_catchWord S17 v80_3 (2 : Int32) ∧ (((0 : Int) ≤ v80_3.toInt ∧ v80_3.toInt < 16) ∧ (∀ S22, S22 = wI S17 84 v80_3.toInt.toNat (f_catchWord S17 v80_3 (2 : Int32)) → (d_catchWord S22 v80_3 (3 : Int32) ∧ (((0 : Int) ≤ v80_3.toInt ∧ v80_3.toInt < 16) ∧ (∀ S27, S27 = wI S22 85 v80_3.toInt.toNat (f_catchWord S22 v80_3 (3 : Int32)) → (((0 : Int) ≤ v80_3.toInt ∧ v80_3.toInt < 16) ∧ (∀ S29, S29 = wI S27 86 v80_3.toInt.toNat (vp_nar .boolean (0 : Int32)) → (∀ a30 : Int32, a30 = (v80_3 + Int32.ofInt 1) → (w_takeMethod_L80 Q n80) S29 a30)))))))))))))))))
def w_takeMethod_L16 (Q : MS → Prop) : Nat → MS → Int32 → Prop
  | 0, _, _ => False
  | n16 + 1, U16, v16_3 => (((qI U16 0 129).toInt ≤ v16_3.toInt → (∀ S6, S6 = wI U16 0 135 (qI U16 0 54) → (∃ n, w_takeMethod_L80 Q n S6 0))) ∧ (¬ (qI U16 0 129).toInt ≤ v16_3.toInt → (d_op U16 v16_3 ∧ (((0 : Int) ≤ v16_3.toInt ∧ v16_3.toInt < 1200) ∧ (∀ S35, S35 = wI U16 78 v16_3.toInt.toNat (f_op U16 v16_3) → (d_first S35 v16_3 ∧ (((0 : Int) ≤ v16_3.toInt ∧ v16_3.toInt < 1200) ∧ (∀ S40, S40 = wI S35 79 v16_3.toInt.toNat (f_first S35 v16_3) → (d_second S40 v16_3 ∧ (((0 : Int) ≤ v16_3.toInt ∧ v16_3.toInt < 1200) ∧ (∀ S45, S45 = wI S40 80 v16_3.toInt.toNat (f_second S40 v16_3) → (((0 : Int) ≤ v16_3.toInt ∧ v16_3.toInt < 1200) ∧ (∀ S47, S47 = wI S45 81 v16_3.toInt.toNat (vp_nar .boolean (0 : Int32)) → (∀ a48 : Int32, a48 = (v16_3 + Int32.ofInt 1) → (w_takeMethod_L16 Q n16) S47 a48))))))))))))))
def w_takeMethod (S : MS) (p1 : Nat) (x2 : Int32) (Q : MS → Prop) : Prop := (∃ Q1, w_look S p1 x2 Q1 ∧ ∀ S2, Q1 S2 → (∀ S4, S4 = wI S2 0 129 (qI S2 0 52) → (∃ n, w_takeMethod_L16 Q n S4 0)))
set_option maxHeartbeats 2000000 in
set_option maxRecDepth 100000 in
theorem r_takeMethod (l : Launch) (g : Gr) (ad : Nat → Nat) (sz : Nat) (S : MS) (p1 : Nat) (x2 : Int32) (hw : wfM S) (hT_p1 : qT S p1 = 11) (Q : MS → Prop) (h : w_takeMethod S p1 x2 Q) : Met l yX14_takeMethod (wt2 yX14_takeMethod cX14_takeMethod 4 none) ({ frames := 1, cells := 0, slots := 0, locals := 22 }) (va_Pc [.ref (ad 0), .ref (ad p1), .int x2] (st_R g ad sz S)) (va_Qv (fun (u : MS) => Q u ∧ wfM u ∧ shy S u) (fun (u : MS) (t : State) => qE g ad (va_A (Wd g ad S) sz) u t) (va_A (Wd g ad S) sz)) 0 0 (va_A (Wd g ad S) sz) := by
  refine Met.ofW (cc := cX14_takeMethod) (maxL := 4) (ret := none) (by decide) rfl ?_
  intro p e s m args below meth c s₁ B hml hv
  obtain ⟨rfl, hsz, hP, hK, hD0, hex, hE⟩ := hv
  have hx := B.exec
  have hb := B.bytes
  have hr := B.returns
  have hts0 := atoms_spec (ws := wt2 yX14_takeMethod cX14_takeMethod 4 none) B.pre
  have hts : ∀ w ∈ tb2, w.before _ s = true := fun w h => hts0 w (List.mem_cons_of_mem _ h)
  have hown : s.vm.findClass RX14 = some m.cls := findClass_of_methodNamed B.named
  subst hsz
  have hD := hD0.self (sz := s.heap.size)
  generalize hAe : va_A (Wd g ad S) s.heap.size = A at hD hE ⊢
  have hA : ∀ q : Nat, s.heap.size ≤ q → A q := fun q h => by rw [← hAe]; exact Or.inr h
  have hR : Rep g ad A s S s.heap [] := ⟨hK, hP, hD, va_S.rf, hw⟩
  clear hK hP hD hD0
  have hl := lv_entry ([.ref (ad 0), .ref (ad p1), .int x2]) (n := 4) (Nat.le_of_ble_eq_true rfl)
  rw [lg_entry_eq]
  generalize (lg_sl ([.ref (ad 0), .ref (ad p1), .int x2]) ++ List.replicate (4 - (lg_sl ([.ref (ad 0), .ref (ad p1), .int x2])).length) Slot.unset).toArray = ls at hl ⊢
  have hl : lv_has ls 4 [(0, .ref (ad 0)), (1, .ref (ad p1)), (2, .int x2)] := hl
  have hsh : shy S S := shy.rf
  unfold w_takeMethod at h
  refine lv_aload_n hx hb dX14_takeMethod_0 rfl (lv_at hl 0 rfl) ?_
  refine lv_aload_n hx hb dX14_takeMethod_1 rfl (lv_at hl 1 rfl) ?_
  refine lv_iload_n hx hb dX14_takeMethod_2 rfl (lv_at hl 2 rfl) ?_
  obtain ⟨Q1, h0, h⟩ := h
  have hFc := rfree hR hA
  refine va_callv (va_runV (As := [.ref (ad p1), .int x2]) (rest := []) ⟨hx, hb, hml, hown, hts⟩ (r_look l g ad s.heap.size S p1 x2 hR.w hT_p1 Q1 h0) (cwV 2 hts (gd2_V kx_498 kx_499 kx_500 kx_177 kx_501) rfl rfl rfl (by decide +kernel) ⟨Nat.le_of_ble_eq_true rfl, Nat.le_of_ble_eq_true rfl⟩) ⟨rblind, va_recv hR.K hR.P (ci := 13) (q0 := 0) rfl (hR.at14 hR.w.1), fun U hU hW9 => rmk hU hW9 hR hex hE hFc⟩ rfl rfl hl.1 rfl (lv_room (Nat.le_of_ble_eq_true rfl)) dX14_takeMethod_3 ⟨Nat.le_of_ble_eq_true rfl, Nat.le_of_ble_eq_true rfl⟩) hR.sS (fun q _ h => hFc q h) hFc (fun  S2 t9 H1 locs ht9 hvm9 hw9 hB9 hz9 hk9 hS => ?_)
  obtain ⟨hq3, hw9, hs9⟩ := hw9
  have hR : Rep g ad A s S2 H1 locs := hR.call ht9 hB9 hw9 hS hFc
  have hsh := hsh.tr hs9
  replace h := h  S2 hq3
  have hT_p1 := hs9.T hT_p1 (by decide)
  clear hB9 hz9 hk9 hvm9 ht9 hw9 hs9 hS
  generalize H1 = H at hR ⊢
  refine lv_aload_n hx hb dX14_takeMethod_6 rfl (lv_at hl 0 rfl) ?_
  refine lv_aload_n hx hb dX14_takeMethod_7 rfl (lv_at hl 0 rfl) ?_
  refine va_get (D := rD g) (ci := 13) (v := .int (qI S2 0 52)) (C := RX14) (T := TX14) (N := 143) hx hb hts in2X14 hown hR.K hR.P 0 (hR.at14 hR.w.1) rfl 52 (by decide) (hts _ kx_370) (fun _ h9 => h9) rfl dX14_takeMethod_8 ?_
  refine va_put (D := rD g) (ci := 13) (v := .int (qI S2 0 52)) (ty := .int) (C := RX14) (T := TX14) (N := 143) hx hb hts in2X14 tyX14 tyX14_ok nmX14 hown hR.K hR.P hR.D hR.sS 0 (hR.at14 hR.w.1) rfl 129 (by decide) (hts _ kx_691) (fun _ h9 => h9) rfl (by decide +kernel) rfl rfl (Nat.le_of_ble_eq_true rfl) dX14_takeMethod_11 (fun H locs hP hD hS => ?_)
  have hR : Rep g ad A s (wI S2 0 129 (qI S2 0 52)) H locs := hR.pI hR.w.1 F14_s129 hP hD hS
  obtain ⟨S4, eS4⟩ : ∃ z, z = wI S2 0 129 (qI S2 0 52) := ⟨_, rfl⟩
  rw [← eS4] at hR
  replace h := h S4 eS4
  have hT_p1 : qT S4 p1 = 11 := (congrArg (fun z => qT z p1) eS4).trans hT_p1
  have hsh : shy S S4 := by rw [eS4]; exact hsh
  refine lv_iconst (v := 0) hx hb dX14_takeMethod_14 (by decide) ?_
  refine lv_istore_n (lv' := [(3, .int 0), (0, .ref (ad 0)), (1, .ref (ad p1)), (2, .int x2)]) hx hb dX14_takeMethod_15 rfl hl (by decide) rfl (fun ls hl => ?_)
  have J_16 : ∀ (n16 : Nat) (U16 : MS) (v16_3 : Int32) (H : Heap) (locs : List Loc) (ls : Array Slot), w_takeMethod_L16 Q n16 U16 v16_3 → shy S U16 → Rep g ad A s U16 H locs → lv_has ls 4 [(0, .ref (ad 0)), (3, .int v16_3)] → W p l e (headSpec (wt2 yX14_takeMethod cX14_takeMethod 4 none) ({ frames := 1, cells := 0, slots := 0, locals := 22 })).room s m ([.ref (ad 0), .ref (ad p1), .int x2] : List Value).toArray below meth c H locs 0 0 (MQ below (va_Qv (fun (u : MS) => Q u ∧ wfM u ∧ shy S u) (fun (u : MS) (t : State) => qE g ad A u t) A) ([.ref (ad 0), .ref (ad p1), .int x2] : List Value).toArray s 0 0 A) (F0 m 16 ls []) := by
    intro n16
    induction n16 with
    | zero => intro U16 v16_3 H locs ls h hsh hR hl; unfold w_takeMethod_L16 at h; exact h.elim
    | succ n16 ih_16 =>
      intro U16 v16_3 H locs ls h hsh hR hl
      unfold w_takeMethod_L16 at h
      refine lv_iload_n hx hb dX14_takeMethod_16 rfl (lv_at hl 1 rfl) ?_
      refine lv_aload_n hx hb dX14_takeMethod_17 rfl (lv_at hl 0 rfl) ?_
      refine va_get (D := rD g) (ci := 13) (v := .int (qI U16 0 129)) (C := RX14) (T := TX14) (N := 143) hx hb hts in2X14 hown hR.K hR.P 0 (hR.at14 hR.w.1) rfl 129 (by decide) (hts _ kx_691) (fun _ h9 => h9) rfl dX14_takeMethod_18 ?_
      refine lv_icmp_ge (tgt := 70) hx hb dX14_takeMethod_21 (by decide) (fun c5 => ?_) (fun c5 => ?_)
      · replace h := h.1 (k_le rfl rfl c5)
        refine lv_aload_n hx hb dX14_takeMethod_70 rfl (lv_at hl 0 rfl) ?_
        refine lv_aload_n hx hb dX14_takeMethod_71 rfl (lv_at hl 0 rfl) ?_
        refine va_get (D := rD g) (ci := 13) (v := .int (qI U16 0 54)) (C := RX14) (T := TX14) (N := 143) hx hb hts in2X14 hown hR.K hR.P 0 (hR.at14 hR.w.1) rfl 54 (by decide) (hts _ kx_374) (fun _ h9 => h9) rfl dX14_takeMethod_72 ?_
        refine va_put (D := rD g) (ci := 13) (v := .int (qI U16 0 54)) (ty := .int) (C := RX14) (T := TX14) (N := 143) hx hb hts in2X14 tyX14 tyX14_ok nmX14 hown hR.K hR.P hR.D hR.sS 0 (hR.at14 hR.w.1) rfl 135 (by decide) (hts _ kx_704) (fun _ h9 => h9) rfl (by decide +kernel) rfl rfl (Nat.le_of_ble_eq_true rfl) dX14_takeMethod_75 (fun H locs hP hD hS => ?_)
        have hR : Rep g ad A s (wI U16 0 135 (qI U16 0 54)) H locs := hR.pI hR.w.1 F14_s135 hP hD hS
        obtain ⟨S6, eS6⟩ : ∃ z, z = wI U16 0 135 (qI U16 0 54) := ⟨_, rfl⟩
        rw [← eS6] at hR
        replace h := h S6 eS6
        have hsh : shy S S6 := by rw [eS6]; exact hsh
        refine lv_iconst (v := 0) hx hb dX14_takeMethod_78 (by decide) ?_
        refine lv_istore_n (lv' := [(3, .int 0), (0, .ref (ad 0))]) hx hb dX14_takeMethod_79 rfl hl (by decide) rfl (fun ls hl => ?_)
        have J_80 : ∀ (n80 : Nat) (U80 : MS) (v80_3 : Int32) (H : Heap) (locs : List Loc) (ls : Array Slot), w_takeMethod_L80 Q n80 U80 v80_3 → shy S U80 → Rep g ad A s U80 H locs → lv_has ls 4 [(0, .ref (ad 0)), (3, .int v80_3)] → W p l e (headSpec (wt2 yX14_takeMethod cX14_takeMethod 4 none) ({ frames := 1, cells := 0, slots := 0, locals := 22 })).room s m ([.ref (ad 0), .ref (ad p1), .int x2] : List Value).toArray below meth c H locs 0 0 (MQ below (va_Qv (fun (u : MS) => Q u ∧ wfM u ∧ shy S u) (fun (u : MS) (t : State) => qE g ad A u t) A) ([.ref (ad 0), .ref (ad p1), .int x2] : List Value).toArray s 0 0 A) (F0 m 80 ls []) := by
          intro n80
          induction n80 with
          | zero => intro U80 v80_3 H locs ls h hsh hR hl; unfold w_takeMethod_L80 at h; exact h.elim
          | succ n80 ih_80 =>
            intro U80 v80_3 H locs ls h hsh hR hl
            unfold w_takeMethod_L80 at h
            refine lv_iload_n hx hb dX14_takeMethod_80 rfl (lv_at hl 1 rfl) ?_
            refine lv_aload_n hx hb dX14_takeMethod_81 rfl (lv_at hl 0 rfl) ?_
            refine va_get (D := rD g) (ci := 13) (v := .int (qI U80 0 135)) (C := RX14) (T := TX14) (N := 143) hx hb hts in2X14 hown hR.K hR.P 0 (hR.at14 hR.w.1) rfl 135 (by decide) (hts _ kx_704) (fun _ h9 => h9) rfl dX14_takeMethod_82 ?_
            refine lv_icmp_ge (tgt := 149) hx hb dX14_takeMethod_85 (by decide) (fun c7 => ?_) (fun c7 => ?_)
            · replace h := h.1 (k_le rfl rfl c7)
              exact W.vret hx hb hr (fun t9 ht9 hW9 => ⟨⟨U80, rfl, ⟨h, hR.w, hsh⟩, ⟨by rw [ht9]; exact hR.P, hR.D⟩⟩, hR.sS.F ht9⟩) hR.sS.2.2 dX14_takeMethod_149
            · replace h := h.2 (k_nle rfl rfl c7)
              refine lv_aload_n hx hb dX14_takeMethod_88 rfl (lv_at hl 0 rfl) ?_
              refine va_get (D := rD g) (ci := 13) (v := .ref (ad 82)) (C := RX14) (T := TX14) (N := 143) hx hb hts in2X14 hown hR.K hR.P 0 (hR.at14 hR.w.1) rfl 130 (by decide) (hts _ kx_702) (fun _ h9 => h9) (congrArg (fun z => some (vf ad z)) (hR.w.2.1 _ fin_130).1) dX14_takeMethod_89 ?_
              refine lv_iload_n hx hb dX14_takeMethod_92 rfl (lv_at hl 1 rfl) ?_
              refine lv_aload_n hx hb dX14_takeMethod_93 rfl (lv_at hl 0 rfl) ?_
              refine lv_iload_n hx hb dX14_takeMethod_94 rfl (lv_at hl 1 rfl) ?_
              refine lv_iconst (v := 0) hx hb dX14_takeMethod_95 (by decide) ?_
              obtain ⟨hv8, h⟩ := h
              have hFc := rfree hR hA
              refine va_calli (va_runV (As := [.int v80_3, .int 0]) (rest := [.int v80_3, .ref (ad 82)]) ⟨hx, hb, hml, hown, hts⟩ (r_catchWord l g ad H.size U80 v80_3 (0 : Int32) hR.w  hv8) (cwV 2 hts (gd2_V kx_375 kx_376 kx_377 kx_177 kx_378) rfl rfl rfl (by decide +kernel) ⟨Nat.le_of_ble_eq_true rfl, Nat.le_of_ble_eq_true rfl⟩) ⟨rblind, va_recv hR.K hR.P (ci := 13) (q0 := 0) rfl (hR.at14 hR.w.1), fun U hU hW9 => rmk hU hW9 hR hex hE hFc⟩ rfl rfl hl.1 rfl (lv_room (Nat.le_of_ble_eq_true rfl)) dX14_takeMethod_96 ⟨Nat.le_of_ble_eq_true rfl, Nat.le_of_ble_eq_true rfl⟩) hR.sS (fun q _ h => hFc q h) hFc (fun r9 u9 t9 H1 locs ht9 hvm9 hw9 hB9 hz9 hk9 hS => ?_)
              have hR : Rep g ad A s U80 H1 locs := hR.call ht9 hB9 hR.w hS hFc
              obtain rfl : r9 = (f_catchWord U80 v80_3 (0 : Int32)) := hw9
              clear hB9 hz9 hk9 hvm9 ht9 hS
              generalize H1 = H at hR ⊢
              obtain ⟨hv11, h⟩ := h
              refine va_iast hx hb hR.K hR.P hR.D hR.sS 82 1 (hR.atI (hR.w.2.1 _ fin_130).2.1) rfl (k_ixN (k_ix (n := 16) (x := v80_3) (a := v80_3.toInt) rfl hv11) (hR.w.2.1 _ fin_130).2.2) dX14_takeMethod_99 (fun H locs hP hD hS => ?_)
              have hR : Rep g ad A s (wI U80 82 v80_3.toInt.toNat (f_catchWord U80 v80_3 (0 : Int32))) H locs := hR.aI (hR.w.2.1 _ fin_130).2.1 hP hD hS
              obtain ⟨S12, eS12⟩ : ∃ z, z = wI U80 82 v80_3.toInt.toNat (f_catchWord U80 v80_3 (0 : Int32)) := ⟨_, rfl⟩
              rw [← eS12] at hR
              replace h := h S12 eS12
              have hsh : shy S S12 := by rw [eS12]; exact hsh
              refine lv_aload_n hx hb dX14_takeMethod_100 rfl (lv_at hl 0 rfl) ?_
              refine va_get (D := rD g) (ci := 13) (v := .ref (ad 83)) (C := RX14) (T := TX14) (N := 143) hx hb hts in2X14 hown hR.K hR.P 0 (hR.at14 hR.w.1) rfl 131 (by decide) (hts _ kx_703) (fun _ h9 => h9) (congrArg (fun z => some (vf ad z)) (hR.w.2.1 _ fin_131).1) dX14_takeMethod_101 ?_
              refine lv_iload_n hx hb dX14_takeMethod_104 rfl (lv_at hl 1 rfl) ?_
              refine lv_aload_n hx hb dX14_takeMethod_105 rfl (lv_at hl 0 rfl) ?_
              refine lv_iload_n hx hb dX14_takeMethod_106 rfl (lv_at hl 1 rfl) ?_
              refine lv_iconst (v := 1) hx hb dX14_takeMethod_107 (by decide) ?_
              obtain ⟨hv13, h⟩ := h
              have hFc := rfree hR hA
              refine va_calli (va_runV (As := [.int v80_3, .int 1]) (rest := [.int v80_3, .ref (ad 83)]) ⟨hx, hb, hml, hown, hts⟩ (r_catchWord l g ad H.size S12 v80_3 (1 : Int32) hR.w  hv13) (cwV 2 hts (gd2_V kx_375 kx_376 kx_377 kx_177 kx_378) rfl rfl rfl (by decide +kernel) ⟨Nat.le_of_ble_eq_true rfl, Nat.le_of_ble_eq_true rfl⟩) ⟨rblind, va_recv hR.K hR.P (ci := 13) (q0 := 0) rfl (hR.at14 hR.w.1), fun U hU hW9 => rmk hU hW9 hR hex hE hFc⟩ rfl rfl hl.1 rfl (lv_room (Nat.le_of_ble_eq_true rfl)) dX14_takeMethod_108 ⟨Nat.le_of_ble_eq_true rfl, Nat.le_of_ble_eq_true rfl⟩) hR.sS (fun q _ h => hFc q h) hFc (fun r14 u9 t9 H1 locs ht9 hvm9 hw9 hB9 hz9 hk9 hS => ?_)
              have hR : Rep g ad A s S12 H1 locs := hR.call ht9 hB9 hR.w hS hFc
              obtain rfl : r14 = (f_catchWord S12 v80_3 (1 : Int32)) := hw9
              clear hB9 hz9 hk9 hvm9 ht9 hS
              generalize H1 = H at hR ⊢
              obtain ⟨hv16, h⟩ := h
              refine va_iast hx hb hR.K hR.P hR.D hR.sS 83 1 (hR.atI (hR.w.2.1 _ fin_131).2.1) rfl (k_ixN (k_ix (n := 16) (x := v80_3) (a := v80_3.toInt) rfl hv16) (hR.w.2.1 _ fin_131).2.2) dX14_takeMethod_111 (fun H locs hP hD hS => ?_)
              have hR : Rep g ad A s (wI S12 83 v80_3.toInt.toNat (f_catchWord S12 v80_3 (1 : Int32))) H locs := hR.aI (hR.w.2.1 _ fin_131).2.1 hP hD hS
              obtain ⟨S17, eS17⟩ : ∃ z, z = wI S12 83 v80_3.toInt.toNat (f_catchWord S12 v80_3 (1 : Int32)) := ⟨_, rfl⟩
              rw [← eS17] at hR
              replace h := h S17 eS17
              have hsh : shy S S17 := by rw [eS17]; exact hsh
              refine lv_aload_n hx hb dX14_takeMethod_112 rfl (lv_at hl 0 rfl) ?_
              refine va_get (D := rD g) (ci := 13) (v := .ref (ad 84)) (C := RX14) (T := TX14) (N := 143) hx hb hts in2X14 hown hR.K hR.P 0 (hR.at14 hR.w.1) rfl 132 (by decide) (hts _ kx_706) (fun _ h9 => h9) (congrArg (fun z => some (vf ad z)) (hR.w.2.1 _ fin_132).1) dX14_takeMethod_113 ?_
              refine lv_iload_n hx hb dX14_takeMethod_116 rfl (lv_at hl 1 rfl) ?_
              refine lv_aload_n hx hb dX14_takeMethod_117 rfl (lv_at hl 0 rfl) ?_
              refine lv_iload_n hx hb dX14_takeMethod_118 rfl (lv_at hl 1 rfl) ?_
              refine lv_iconst (v := 2) hx hb dX14_takeMethod_119 (by decide) ?_
              obtain ⟨hv18, h⟩ := h
              have hFc := rfree hR hA
              refine va_calli (va_runV (As := [.int v80_3, .int 2]) (rest := [.int v80_3, .ref (ad 84)]) ⟨hx, hb, hml, hown, hts⟩ (r_catchWord l g ad H.size S17 v80_3 (2 : Int32) hR.w  hv18) (cwV 2 hts (gd2_V kx_375 kx_376 kx_377 kx_177 kx_378) rfl rfl rfl (by decide +kernel) ⟨Nat.le_of_ble_eq_true rfl, Nat.le_of_ble_eq_true rfl⟩) ⟨rblind, va_recv hR.K hR.P (ci := 13) (q0 := 0) rfl (hR.at14 hR.w.1), fun U hU hW9 => rmk hU hW9 hR hex hE hFc⟩ rfl rfl hl.1 rfl (lv_room (Nat.le_of_ble_eq_true rfl)) dX14_takeMethod_120 ⟨Nat.le_of_ble_eq_true rfl, Nat.le_of_ble_eq_true rfl⟩) hR.sS (fun q _ h => hFc q h) hFc (fun r19 u9 t9 H1 locs ht9 hvm9 hw9 hB9 hz9 hk9 hS => ?_)
              have hR : Rep g ad A s S17 H1 locs := hR.call ht9 hB9 hR.w hS hFc
              obtain rfl : r19 = (f_catchWord S17 v80_3 (2 : Int32)) := hw9
              clear hB9 hz9 hk9 hvm9 ht9 hS
              generalize H1 = H at hR ⊢
              obtain ⟨hv21, h⟩ := h
              refine va_iast hx hb hR.K hR.P hR.D hR.sS 84 1 (hR.atI (hR.w.2.1 _ fin_132).2.1) rfl (k_ixN (k_ix (n := 16) (x := v80_3) (a := v80_3.toInt) rfl hv21) (hR.w.2.1 _ fin_132).2.2) dX14_takeMethod_123 (fun H locs hP hD hS => ?_)
              have hR : Rep g ad A s (wI S17 84 v80_3.toInt.toNat (f_catchWord S17 v80_3 (2 : Int32))) H locs := hR.aI (hR.w.2.1 _ fin_132).2.1 hP hD hS
              obtain ⟨S22, eS22⟩ : ∃ z, z = wI S17 84 v80_3.toInt.toNat (f_catchWord S17 v80_3 (2 : Int32)) := ⟨_, rfl⟩
              rw [← eS22] at hR
              replace h := h S22 eS22
              have hsh : shy S S22 := by rw [eS22]; exact hsh
              refine lv_aload_n hx hb dX14_takeMethod_124 rfl (lv_at hl 0 rfl) ?_
              refine va_get (D := rD g) (ci := 13) (v := .ref (ad 85)) (C := RX14) (T := TX14) (N := 143) hx hb hts in2X14 hown hR.K hR.P 0 (hR.at14 hR.w.1) rfl 133 (by decide) (hts _ kx_715) (fun _ h9 => h9) (congrArg (fun z => some (vf ad z)) (hR.w.2.1 _ fin_133).1) dX14_takeMethod_125 ?_
              refine lv_iload_n hx hb dX14_takeMethod_128 rfl (lv_at hl 1 rfl) ?_
              refine lv_aload_n hx hb dX14_takeMethod_129 rfl (lv_at hl 0 rfl) ?_
              refine lv_iload_n hx hb dX14_takeMethod_130 rfl (lv_at hl 1 rfl) ?_
              refine lv_iconst (v := 3) hx hb dX14_takeMethod_131 (by decide) ?_
              obtain ⟨hv23, h⟩ := h
              have hFc := rfree hR hA
              refine va_calli (va_runV (As := [.int v80_3, .int 3]) (rest := [.int v80_3, .ref (ad 85)]) ⟨hx, hb, hml, hown, hts⟩ (r_catchWord l g ad H.size S22 v80_3 (3 : Int32) hR.w  hv23) (cwV 2 hts (gd2_V kx_375 kx_376 kx_377 kx_177 kx_378) rfl rfl rfl (by decide +kernel) ⟨Nat.le_of_ble_eq_true rfl, Nat.le_of_ble_eq_true rfl⟩) ⟨rblind, va_recv hR.K hR.P (ci := 13) (q0 := 0) rfl (hR.at14 hR.w.1), fun U hU hW9 => rmk hU hW9 hR hex hE hFc⟩ rfl rfl hl.1 rfl (lv_room (Nat.le_of_ble_eq_true rfl)) dX14_takeMethod_132 ⟨Nat.le_of_ble_eq_true rfl, Nat.le_of_ble_eq_true rfl⟩) hR.sS (fun q _ h => hFc q h) hFc (fun r24 u9 t9 H1 locs ht9 hvm9 hw9 hB9 hz9 hk9 hS => ?_)
              have hR : Rep g ad A s S22 H1 locs := hR.call ht9 hB9 hR.w hS hFc
              obtain rfl : r24 = (f_catchWord S22 v80_3 (3 : Int32)) := hw9
              clear hB9 hz9 hk9 hvm9 ht9 hS
              generalize H1 = H at hR ⊢
              obtain ⟨hv26, h⟩ := h
              refine va_iast hx hb hR.K hR.P hR.D hR.sS 85 1 (hR.atI (hR.w.2.1 _ fin_133).2.1) rfl (k_ixN (k_ix (n := 16) (x := v80_3) (a := v80_3.toInt) rfl hv26) (hR.w.2.1 _ fin_133).2.2) dX14_takeMethod_135 (fun H locs hP hD hS => ?_)
              have hR : Rep g ad A s (wI S22 85 v80_3.toInt.toNat (f_catchWord S22 v80_3 (3 : Int32))) H locs := hR.aI (hR.w.2.1 _ fin_133).2.1 hP hD hS
              obtain ⟨S27, eS27⟩ : ∃ z, z = wI S22 85 v80_3.toInt.toNat (f_catchWord S22 v80_3 (3 : Int32)) := ⟨_, rfl⟩
              rw [← eS27] at hR
              replace h := h S27 eS27
              have hsh : shy S S27 := by rw [eS27]; exact hsh
              refine lv_aload_n hx hb dX14_takeMethod_136 rfl (lv_at hl 0 rfl) ?_
              refine va_get (D := rD g) (ci := 13) (v := .ref (ad 86)) (C := RX14) (T := TX14) (N := 143) hx hb hts in2X14 hown hR.K hR.P 0 (hR.at14 hR.w.1) rfl 134 (by decide) (hts _ kx_701) (fun _ h9 => h9) (congrArg (fun z => some (vf ad z)) (hR.w.2.1 _ fin_134).1) dX14_takeMethod_137 ?_
              refine lv_iload_n hx hb dX14_takeMethod_140 rfl (lv_at hl 1 rfl) ?_
              refine lv_iconst (v := 0) hx hb dX14_takeMethod_141 (by decide) ?_
              obtain ⟨hv28, h⟩ := h
              refine va_zast hx hb hR.K hR.P hR.D hR.sS 86 2 (hR.atZ (hR.w.2.1 _ fin_134).2.1) rfl (k_ixN (k_ix (n := 16) (x := v80_3) (a := v80_3.toInt) rfl hv28) (hR.w.2.1 _ fin_134).2.2) dX14_takeMethod_142 (fun H locs hP hD hS => ?_)
              have hR : Rep g ad A s (wI S27 86 v80_3.toInt.toNat (vp_nar .boolean (0 : Int32))) H locs := hR.aZ (hR.w.2.1 _ fin_134).2.1 hP hD hS
              obtain ⟨S29, eS29⟩ : ∃ z, z = wI S27 86 v80_3.toInt.toNat (vp_nar .boolean (0 : Int32)) := ⟨_, rfl⟩
              rw [← eS29] at hR
              replace h := h S29 eS29
              have hsh : shy S S29 := by rw [eS29]; exact hsh
              obtain ⟨a30, ea30⟩ : ∃ z, z = (v80_3 + Int32.ofInt 1) := ⟨_, rfl⟩
              replace h := h a30 ea30
              refine lv_iinc (v := a30) (lv' := [(3, .int a30), (0, .ref (ad 0))]) hx hb dX14_takeMethod_143 hl (k := 1) rfl ea30.symm (by decide) rfl (fun ls hl => ?_)
              refine lv_goto (tgt := 80) hx hb dX14_takeMethod_146 (by decide) ?_
              exact ih_80 S29 a30 _ _ ls h  hsh hR (lv_sub hl [1, 0] rfl)
        obtain ⟨n9, h⟩ := h
        exact J_80 n9 S6 0 _ _ ls h  hsh hR (lv_sub hl [1, 0] rfl)
      · replace h := h.2 (k_nle rfl rfl c5)
        refine lv_aload_n hx hb dX14_takeMethod_24 rfl (lv_at hl 0 rfl) ?_
        refine va_get (D := rD g) (ci := 13) (v := .ref (ad 78)) (C := RX14) (T := TX14) (N := 143) hx hb hts in2X14 hown hR.K hR.P 0 (hR.at14 hR.w.1) rfl 125 (by decide) (hts _ kx_697) (fun _ h9 => h9) (congrArg (fun z => some (vf ad z)) (hR.w.2.1 _ fin_125).1) dX14_takeMethod_25 ?_
        refine lv_iload_n hx hb dX14_takeMethod_28 rfl (lv_at hl 1 rfl) ?_
        refine lv_aload_n hx hb dX14_takeMethod_29 rfl (lv_at hl 0 rfl) ?_
        refine lv_iload_n hx hb dX14_takeMethod_30 rfl (lv_at hl 1 rfl) ?_
        obtain ⟨hv31, h⟩ := h
        have hFc := rfree hR hA
        refine va_calli (va_runV (As := [.int v16_3]) (rest := [.int v16_3, .ref (ad 78)]) ⟨hx, hb, hml, hown, hts⟩ (r_op l g ad H.size U16 v16_3 hR.w  hv31) (cwV 1 hts (gd2_V kx_379 kx_380 kx_381 kx_177 kx_382) rfl rfl rfl (by decide +kernel) ⟨Nat.le_of_ble_eq_true rfl, Nat.le_of_ble_eq_true rfl⟩) ⟨rblind, va_recv hR.K hR.P (ci := 13) (q0 := 0) rfl (hR.at14 hR.w.1), fun U hU hW9 => rmk hU hW9 hR hex hE hFc⟩ rfl rfl hl.1 rfl (lv_room (Nat.le_of_ble_eq_true rfl)) dX14_takeMethod_31 ⟨Nat.le_of_ble_eq_true rfl, Nat.le_of_ble_eq_true rfl⟩) hR.sS (fun q _ h => hFc q h) hFc (fun r32 u9 t9 H1 locs ht9 hvm9 hw9 hB9 hz9 hk9 hS => ?_)
        have hR : Rep g ad A s U16 H1 locs := hR.call ht9 hB9 hR.w hS hFc
        obtain rfl : r32 = (f_op U16 v16_3) := hw9
        clear hB9 hz9 hk9 hvm9 ht9 hS
        generalize H1 = H at hR ⊢
        obtain ⟨hv34, h⟩ := h
        refine va_iast hx hb hR.K hR.P hR.D hR.sS 78 1 (hR.atI (hR.w.2.1 _ fin_125).2.1) rfl (k_ixN (k_ix (n := 1200) (x := v16_3) (a := v16_3.toInt) rfl hv34) (hR.w.2.1 _ fin_125).2.2) dX14_takeMethod_34 (fun H locs hP hD hS => ?_)
        have hR : Rep g ad A s (wI U16 78 v16_3.toInt.toNat (f_op U16 v16_3)) H locs := hR.aI (hR.w.2.1 _ fin_125).2.1 hP hD hS
        obtain ⟨S35, eS35⟩ : ∃ z, z = wI U16 78 v16_3.toInt.toNat (f_op U16 v16_3) := ⟨_, rfl⟩
        rw [← eS35] at hR
        replace h := h S35 eS35
        have hsh : shy S S35 := by rw [eS35]; exact hsh
        refine lv_aload_n hx hb dX14_takeMethod_35 rfl (lv_at hl 0 rfl) ?_
        refine va_get (D := rD g) (ci := 13) (v := .ref (ad 79)) (C := RX14) (T := TX14) (N := 143) hx hb hts in2X14 hown hR.K hR.P 0 (hR.at14 hR.w.1) rfl 126 (by decide) (hts _ kx_700) (fun _ h9 => h9) (congrArg (fun z => some (vf ad z)) (hR.w.2.1 _ fin_126).1) dX14_takeMethod_36 ?_
        refine lv_iload_n hx hb dX14_takeMethod_39 rfl (lv_at hl 1 rfl) ?_
        refine lv_aload_n hx hb dX14_takeMethod_40 rfl (lv_at hl 0 rfl) ?_
        refine lv_iload_n hx hb dX14_takeMethod_41 rfl (lv_at hl 1 rfl) ?_
        obtain ⟨hv36, h⟩ := h
        have hFc := rfree hR hA
        refine va_calli (va_runV (As := [.int v16_3]) (rest := [.int v16_3, .ref (ad 79)]) ⟨hx, hb, hml, hown, hts⟩ (r_first l g ad H.size S35 v16_3 hR.w  hv36) (cwV 1 hts (gd2_V kx_393 kx_394 kx_395 kx_177 kx_396) rfl rfl rfl (by decide +kernel) ⟨Nat.le_of_ble_eq_true rfl, Nat.le_of_ble_eq_true rfl⟩) ⟨rblind, va_recv hR.K hR.P (ci := 13) (q0 := 0) rfl (hR.at14 hR.w.1), fun U hU hW9 => rmk hU hW9 hR hex hE hFc⟩ rfl rfl hl.1 rfl (lv_room (Nat.le_of_ble_eq_true rfl)) dX14_takeMethod_42 ⟨Nat.le_of_ble_eq_true rfl, Nat.le_of_ble_eq_true rfl⟩) hR.sS (fun q _ h => hFc q h) hFc (fun r37 u9 t9 H1 locs ht9 hvm9 hw9 hB9 hz9 hk9 hS => ?_)
        have hR : Rep g ad A s S35 H1 locs := hR.call ht9 hB9 hR.w hS hFc
        obtain rfl : r37 = (f_first S35 v16_3) := hw9
        clear hB9 hz9 hk9 hvm9 ht9 hS
        generalize H1 = H at hR ⊢
        obtain ⟨hv39, h⟩ := h
        refine va_iast hx hb hR.K hR.P hR.D hR.sS 79 1 (hR.atI (hR.w.2.1 _ fin_126).2.1) rfl (k_ixN (k_ix (n := 1200) (x := v16_3) (a := v16_3.toInt) rfl hv39) (hR.w.2.1 _ fin_126).2.2) dX14_takeMethod_45 (fun H locs hP hD hS => ?_)
        have hR : Rep g ad A s (wI S35 79 v16_3.toInt.toNat (f_first S35 v16_3)) H locs := hR.aI (hR.w.2.1 _ fin_126).2.1 hP hD hS
        obtain ⟨S40, eS40⟩ : ∃ z, z = wI S35 79 v16_3.toInt.toNat (f_first S35 v16_3) := ⟨_, rfl⟩
        rw [← eS40] at hR
        replace h := h S40 eS40
        have hsh : shy S S40 := by rw [eS40]; exact hsh
        refine lv_aload_n hx hb dX14_takeMethod_46 rfl (lv_at hl 0 rfl) ?_
        refine va_get (D := rD g) (ci := 13) (v := .ref (ad 80)) (C := RX14) (T := TX14) (N := 143) hx hb hts in2X14 hown hR.K hR.P 0 (hR.at14 hR.w.1) rfl 127 (by decide) (hts _ kx_698) (fun _ h9 => h9) (congrArg (fun z => some (vf ad z)) (hR.w.2.1 _ fin_127).1) dX14_takeMethod_47 ?_
        refine lv_iload_n hx hb dX14_takeMethod_50 rfl (lv_at hl 1 rfl) ?_
        refine lv_aload_n hx hb dX14_takeMethod_51 rfl (lv_at hl 0 rfl) ?_
        refine lv_iload_n hx hb dX14_takeMethod_52 rfl (lv_at hl 1 rfl) ?_
        obtain ⟨hv41, h⟩ := h
        have hFc := rfree hR hA
        refine va_calli (va_runV (As := [.int v16_3]) (rest := [.int v16_3, .ref (ad 80)]) ⟨hx, hb, hml, hown, hts⟩ (r_second l g ad H.size S40 v16_3 hR.w  hv41) (cwV 1 hts (gd2_V kx_389 kx_390 kx_391 kx_177 kx_392) rfl rfl rfl (by decide +kernel) ⟨Nat.le_of_ble_eq_true rfl, Nat.le_of_ble_eq_true rfl⟩) ⟨rblind, va_recv hR.K hR.P (ci := 13) (q0 := 0) rfl (hR.at14 hR.w.1), fun U hU hW9 => rmk hU hW9 hR hex hE hFc⟩ rfl rfl hl.1 rfl (lv_room (Nat.le_of_ble_eq_true rfl)) dX14_takeMethod_53 ⟨Nat.le_of_ble_eq_true rfl, Nat.le_of_ble_eq_true rfl⟩) hR.sS (fun q _ h => hFc q h) hFc (fun r42 u9 t9 H1 locs ht9 hvm9 hw9 hB9 hz9 hk9 hS => ?_)
        have hR : Rep g ad A s S40 H1 locs := hR.call ht9 hB9 hR.w hS hFc
        obtain rfl : r42 = (f_second S40 v16_3) := hw9
        clear hB9 hz9 hk9 hvm9 ht9 hS
        generalize H1 = H at hR ⊢
        obtain ⟨hv44, h⟩ := h
        refine va_iast hx hb hR.K hR.P hR.D hR.sS 80 1 (hR.atI (hR.w.2.1 _ fin_127).2.1) rfl (k_ixN (k_ix (n := 1200) (x := v16_3) (a := v16_3.toInt) rfl hv44) (hR.w.2.1 _ fin_127).2.2) dX14_takeMethod_56 (fun H locs hP hD hS => ?_)
        have hR : Rep g ad A s (wI S40 80 v16_3.toInt.toNat (f_second S40 v16_3)) H locs := hR.aI (hR.w.2.1 _ fin_127).2.1 hP hD hS
        obtain ⟨S45, eS45⟩ : ∃ z, z = wI S40 80 v16_3.toInt.toNat (f_second S40 v16_3) := ⟨_, rfl⟩
        rw [← eS45] at hR
        replace h := h S45 eS45
        have hsh : shy S S45 := by rw [eS45]; exact hsh
        refine lv_aload_n hx hb dX14_takeMethod_57 rfl (lv_at hl 0 rfl) ?_
        refine va_get (D := rD g) (ci := 13) (v := .ref (ad 81)) (C := RX14) (T := TX14) (N := 143) hx hb hts in2X14 hown hR.K hR.P 0 (hR.at14 hR.w.1) rfl 128 (by decide) (hts _ kx_692) (fun _ h9 => h9) (congrArg (fun z => some (vf ad z)) (hR.w.2.1 _ fin_128).1) dX14_takeMethod_58 ?_
        refine lv_iload_n hx hb dX14_takeMethod_61 rfl (lv_at hl 1 rfl) ?_
        refine lv_iconst (v := 0) hx hb dX14_takeMethod_62 (by decide) ?_
        obtain ⟨hv46, h⟩ := h
        refine va_zast hx hb hR.K hR.P hR.D hR.sS 81 2 (hR.atZ (hR.w.2.1 _ fin_128).2.1) rfl (k_ixN (k_ix (n := 1200) (x := v16_3) (a := v16_3.toInt) rfl hv46) (hR.w.2.1 _ fin_128).2.2) dX14_takeMethod_63 (fun H locs hP hD hS => ?_)
        have hR : Rep g ad A s (wI S45 81 v16_3.toInt.toNat (vp_nar .boolean (0 : Int32))) H locs := hR.aZ (hR.w.2.1 _ fin_128).2.1 hP hD hS
        obtain ⟨S47, eS47⟩ : ∃ z, z = wI S45 81 v16_3.toInt.toNat (vp_nar .boolean (0 : Int32)) := ⟨_, rfl⟩
        rw [← eS47] at hR
        replace h := h S47 eS47
        have hsh : shy S S47 := by rw [eS47]; exact hsh
        obtain ⟨a48, ea48⟩ : ∃ z, z = (v16_3 + Int32.ofInt 1) := ⟨_, rfl⟩
        replace h := h a48 ea48
        refine lv_iinc (v := a48) (lv' := [(3, .int a48), (0, .ref (ad 0))]) hx hb dX14_takeMethod_64 hl (k := 1) rfl ea48.symm (by decide) rfl (fun ls hl => ?_)
        refine lv_goto (tgt := 16) hx hb dX14_takeMethod_67 (by decide) ?_
        exact ih_16 S47 a48 _ _ ls h  hsh hR (lv_sub hl [1, 0] rfl)
  obtain ⟨n9, h⟩ := h
  exact J_16 n9 S4 0 _ _ ls h  hsh hR (lv_sub hl [1, 0] rfl)
def w_goBoth (S : MS) (x1 : Int32) (x2 : Int32) (Q : Int32 → MS → Prop) : Prop := (((0 : Int) ≤ x1.toInt ∧ x1.toInt < 1200) ∧ (∀ S2, S2 = wI S 81 x1.toInt.toNat (vp_nar .boolean (1 : Int32)) → (((0 : Int) ≤ x2.toInt ∧ x2.toInt < 1200) ∧ (∀ S4, S4 = wI S2 81 x2.toInt.toNat (vp_nar .boolean (1 : Int32)) → Q (1 : Int32) S4))))
set_option maxHeartbeats 2000000 in
set_option maxRecDepth 100000 in
theorem r_goBoth (l : Launch) (g : Gr) (ad : Nat → Nat) (sz : Nat) (S : MS) (x1 : Int32) (x2 : Int32) (hw : wfM S) (Q : Int32 → MS → Prop) (h : w_goBoth S x1 x2 Q) : Met l yX14_goBoth (wt2 yX14_goBoth cX14_goBoth 3 (some .boolean)) ({ frames := 0, cells := 0, slots := 0, locals := 0 }) (va_Pc [.ref (ad 0), .int x1, .int x2] (st_R g ad sz S)) (va_Qi (fun (r : Int32) (u : MS) => Q r u ∧ wfM u ∧ shy S u ∧ (r = 0 ∨ r = 1)) (fun (u : MS) (t : State) => qE g ad (va_A (Wd g ad S) sz) u t) (va_A (Wd g ad S) sz)) 0 0 (va_A (Wd g ad S) sz) := by
  refine Met.ofW (cc := cX14_goBoth) (maxL := 3) (ret := (some .boolean)) (by decide) rfl ?_
  intro p e s m args below meth c s₁ B hml hv
  obtain ⟨rfl, hsz, hP, hK, hD0, hex, hE⟩ := hv
  have hx := B.exec
  have hb := B.bytes
  have hr := B.returns
  have hts0 := atoms_spec (ws := wt2 yX14_goBoth cX14_goBoth 3 (some .boolean)) B.pre
  have hts : ∀ w ∈ tb2, w.before _ s = true := fun w h => hts0 w (List.mem_cons_of_mem _ h)
  have hown : s.vm.findClass RX14 = some m.cls := findClass_of_methodNamed B.named
  subst hsz
  have hD := hD0.self (sz := s.heap.size)
  generalize hAe : va_A (Wd g ad S) s.heap.size = A at hD hE ⊢
  have hA : ∀ q : Nat, s.heap.size ≤ q → A q := fun q h => by rw [← hAe]; exact Or.inr h
  have hR : Rep g ad A s S s.heap [] := ⟨hK, hP, hD, va_S.rf, hw⟩
  clear hK hP hD hD0
  have hl := lv_entry ([.ref (ad 0), .int x1, .int x2]) (n := 3) (Nat.le_of_ble_eq_true rfl)
  rw [lg_entry_eq]
  generalize (lg_sl ([.ref (ad 0), .int x1, .int x2]) ++ List.replicate (3 - (lg_sl ([.ref (ad 0), .int x1, .int x2])).length) Slot.unset).toArray = ls at hl ⊢
  have hl : lv_has ls 3 [(0, .ref (ad 0)), (1, .int x1), (2, .int x2)] := hl
  have hsh : shy S S := shy.rf
  unfold w_goBoth at h
  refine lv_aload_n hx hb dX14_goBoth_0 rfl (lv_at hl 0 rfl) ?_
  refine va_get (D := rD g) (ci := 13) (v := .ref (ad 81)) (C := RX14) (T := TX14) (N := 143) hx hb hts in2X14 hown hR.K hR.P 0 (hR.at14 hR.w.1) rfl 128 (by decide) (hts _ kx_692) (fun _ h9 => h9) (congrArg (fun z => some (vf ad z)) (hR.w.2.1 _ fin_128).1) dX14_goBoth_1 ?_
  refine lv_iload_n hx hb dX14_goBoth_4 rfl (lv_at hl 1 rfl) ?_
  refine lv_iconst (v := 1) hx hb dX14_goBoth_5 (by decide) ?_
  obtain ⟨hv1, h⟩ := h
  refine va_zast hx hb hR.K hR.P hR.D hR.sS 81 2 (hR.atZ (hR.w.2.1 _ fin_128).2.1) rfl (k_ixN (k_ix (n := 1200) (x := x1) (a := x1.toInt) rfl hv1) (hR.w.2.1 _ fin_128).2.2) dX14_goBoth_6 (fun H locs hP hD hS => ?_)
  have hR : Rep g ad A s (wI S 81 x1.toInt.toNat (vp_nar .boolean (1 : Int32))) H locs := hR.aZ (hR.w.2.1 _ fin_128).2.1 hP hD hS
  obtain ⟨S2, eS2⟩ : ∃ z, z = wI S 81 x1.toInt.toNat (vp_nar .boolean (1 : Int32)) := ⟨_, rfl⟩
  rw [← eS2] at hR
  replace h := h S2 eS2
  have hsh : shy S S2 := by rw [eS2]; exact hsh
  refine lv_aload_n hx hb dX14_goBoth_7 rfl (lv_at hl 0 rfl) ?_
  refine va_get (D := rD g) (ci := 13) (v := .ref (ad 81)) (C := RX14) (T := TX14) (N := 143) hx hb hts in2X14 hown hR.K hR.P 0 (hR.at14 hR.w.1) rfl 128 (by decide) (hts _ kx_692) (fun _ h9 => h9) (congrArg (fun z => some (vf ad z)) (hR.w.2.1 _ fin_128).1) dX14_goBoth_8 ?_
  refine lv_iload_n hx hb dX14_goBoth_11 rfl (lv_at hl 2 rfl) ?_
  refine lv_iconst (v := 1) hx hb dX14_goBoth_12 (by decide) ?_
  obtain ⟨hv3, h⟩ := h
  refine va_zast hx hb hR.K hR.P hR.D hR.sS 81 2 (hR.atZ (hR.w.2.1 _ fin_128).2.1) rfl (k_ixN (k_ix (n := 1200) (x := x2) (a := x2.toInt) rfl hv3) (hR.w.2.1 _ fin_128).2.2) dX14_goBoth_13 (fun H locs hP hD hS => ?_)
  have hR : Rep g ad A s (wI S2 81 x2.toInt.toNat (vp_nar .boolean (1 : Int32))) H locs := hR.aZ (hR.w.2.1 _ fin_128).2.1 hP hD hS
  obtain ⟨S4, eS4⟩ : ∃ z, z = wI S2 81 x2.toInt.toNat (vp_nar .boolean (1 : Int32)) := ⟨_, rfl⟩
  rw [← eS4] at hR
  replace h := h S4 eS4
  have hsh : shy S S4 := by rw [eS4]; exact hsh
  refine lv_iconst (v := 1) hx hb dX14_goBoth_14 (by decide) ?_
  exact W.zret (v := 1) hx hb hr (nz (Or.inr rfl)) (fun t9 ht9 hW9 => ⟨⟨_, S4, rfl, ⟨h, hR.w, hsh, (Or.inr rfl)⟩, ⟨by rw [ht9]; exact hR.P, hR.D⟩⟩, hR.sS.F ht9⟩) hR.sS.2.2 dX14_goBoth_15
def w_meet (S : MS) (x1 : Int32) (Q : Int32 → MS → Prop) : Prop := (((0 : Int) ≤ x1.toInt ∧ x1.toInt < 1200) ∧ (((qI S 88 x1.toInt.toNat).toInt = 0 → (((0 : Int) ≤ x1.toInt ∧ x1.toInt < 1200) ∧ (∀ S5, S5 = wI S 88 x1.toInt.toNat (vp_nar .boolean (1 : Int32)) → Q (1 : Int32) S5))) ∧ (¬ (qI S 88 x1.toInt.toNat).toInt = 0 → Q (0 : Int32) S)))
set_option maxHeartbeats 2000000 in
set_option maxRecDepth 100000 in
theorem r_meet (l : Launch) (g : Gr) (ad : Nat → Nat) (sz : Nat) (S : MS) (x1 : Int32) (hw : wfM S) (Q : Int32 → MS → Prop) (h : w_meet S x1 Q) : Met l yX14_meet (wt2 yX14_meet cX14_meet 2 (some .boolean)) ({ frames := 0, cells := 0, slots := 0, locals := 0 }) (va_Pc [.ref (ad 0), .int x1] (st_R g ad sz S)) (va_Qi (fun (r : Int32) (u : MS) => Q r u ∧ wfM u ∧ shy S u ∧ (r = 0 ∨ r = 1)) (fun (u : MS) (t : State) => qE g ad (va_A (Wd g ad S) sz) u t) (va_A (Wd g ad S) sz)) 0 0 (va_A (Wd g ad S) sz) := by
  refine Met.ofW (cc := cX14_meet) (maxL := 2) (ret := (some .boolean)) (by decide) rfl ?_
  intro p e s m args below meth c s₁ B hml hv
  obtain ⟨rfl, hsz, hP, hK, hD0, hex, hE⟩ := hv
  have hx := B.exec
  have hb := B.bytes
  have hr := B.returns
  have hts0 := atoms_spec (ws := wt2 yX14_meet cX14_meet 2 (some .boolean)) B.pre
  have hts : ∀ w ∈ tb2, w.before _ s = true := fun w h => hts0 w (List.mem_cons_of_mem _ h)
  have hown : s.vm.findClass RX14 = some m.cls := findClass_of_methodNamed B.named
  subst hsz
  have hD := hD0.self (sz := s.heap.size)
  generalize hAe : va_A (Wd g ad S) s.heap.size = A at hD hE ⊢
  have hA : ∀ q : Nat, s.heap.size ≤ q → A q := fun q h => by rw [← hAe]; exact Or.inr h
  have hR : Rep g ad A s S s.heap [] := ⟨hK, hP, hD, va_S.rf, hw⟩
  clear hK hP hD hD0
  have hl := lv_entry ([.ref (ad 0), .int x1]) (n := 2) (Nat.le_of_ble_eq_true rfl)
  rw [lg_entry_eq]
  generalize (lg_sl ([.ref (ad 0), .int x1]) ++ List.replicate (2 - (lg_sl ([.ref (ad 0), .int x1])).length) Slot.unset).toArray = ls at hl ⊢
  have hl : lv_has ls 2 [(0, .ref (ad 0)), (1, .int x1)] := hl
  have hsh : shy S S := shy.rf
  unfold w_meet at h
  refine lv_aload_n hx hb dX14_meet_0 rfl (lv_at hl 0 rfl) ?_
  refine va_get (D := rD g) (ci := 13) (v := .ref (ad 88)) (C := RX14) (T := TX14) (N := 143) hx hb hts in2X14 hown hR.K hR.P 0 (hR.at14 hR.w.1) rfl 137 (by decide) (hts _ kx_729) (fun _ h9 => h9) (congrArg (fun z => some (vf ad z)) (hR.w.2.1 _ fin_137).1) dX14_meet_1 ?_
  refine lv_iload_n hx hb dX14_meet_4 rfl (lv_at hl 1 rfl) ?_
  obtain ⟨hv1, h⟩ := h
  refine va_zald hx hb hR.K hR.P 88 2 (hR.atZ (hR.w.2.1 _ fin_137).2.1) rfl (k_ixN (k_ix (n := 1200) (x := x1) (a := x1.toInt) rfl hv1) (hR.w.2.1 _ fin_137).2.2) dX14_meet_5 ?_
  refine lv_topi (fun z2 ez2 => ?_)
  obtain rfl : z2 = (qI S 88 x1.toInt.toNat) := ez2
  refine lv_if_eq (tgt := 11) hx hb dX14_meet_6 (by decide) (fun c3 => ?_) (fun c3 => ?_)
  · replace h := h.1 (k_eq rfl (by decide) c3)
    refine lv_aload_n hx hb dX14_meet_11 rfl (lv_at hl 0 rfl) ?_
    refine va_get (D := rD g) (ci := 13) (v := .ref (ad 88)) (C := RX14) (T := TX14) (N := 143) hx hb hts in2X14 hown hR.K hR.P 0 (hR.at14 hR.w.1) rfl 137 (by decide) (hts _ kx_729) (fun _ h9 => h9) (congrArg (fun z => some (vf ad z)) (hR.w.2.1 _ fin_137).1) dX14_meet_12 ?_
    refine lv_iload_n hx hb dX14_meet_15 rfl (lv_at hl 1 rfl) ?_
    refine lv_iconst (v := 1) hx hb dX14_meet_16 (by decide) ?_
    obtain ⟨hv4, h⟩ := h
    refine va_zast hx hb hR.K hR.P hR.D hR.sS 88 2 (hR.atZ (hR.w.2.1 _ fin_137).2.1) rfl (k_ixN (k_ix (n := 1200) (x := x1) (a := x1.toInt) rfl hv4) (hR.w.2.1 _ fin_137).2.2) dX14_meet_17 (fun H locs hP hD hS => ?_)
    have hR : Rep g ad A s (wI S 88 x1.toInt.toNat (vp_nar .boolean (1 : Int32))) H locs := hR.aZ (hR.w.2.1 _ fin_137).2.1 hP hD hS
    obtain ⟨S5, eS5⟩ : ∃ z, z = wI S 88 x1.toInt.toNat (vp_nar .boolean (1 : Int32)) := ⟨_, rfl⟩
    rw [← eS5] at hR
    replace h := h S5 eS5
    have hsh : shy S S5 := by rw [eS5]; exact hsh
    refine lv_iconst (v := 1) hx hb dX14_meet_18 (by decide) ?_
    exact W.zret (v := 1) hx hb hr (nz (Or.inr rfl)) (fun t9 ht9 hW9 => ⟨⟨_, S5, rfl, ⟨h, hR.w, hsh, (Or.inr rfl)⟩, ⟨by rw [ht9]; exact hR.P, hR.D⟩⟩, hR.sS.F ht9⟩) hR.sS.2.2 dX14_meet_19
  · replace h := h.2 (k_ne rfl (by decide) c3)
    refine lv_iconst (v := 0) hx hb dX14_meet_9 (by decide) ?_
    exact W.zret (v := 0) hx hb hr (nz (Or.inl rfl)) (fun t9 ht9 hW9 => ⟨⟨_, S, rfl, ⟨h, hR.w, hsh, (Or.inl rfl)⟩, ⟨by rw [ht9]; exact hR.P, hR.D⟩⟩, hR.sS.F ht9⟩) hR.sS.2.2 dX14_meet_10
def w_meetFrom_J128 (Q : Int32 → MS → Prop) (k84 : MS → Int32 → Int32 → Int32 → Prop) (U128 : MS) (v128_1 : Int32) (v128_2 : Int32) (v128_3 : Int32) : Prop := (∀ a14 : Int32, a14 = (v128_3 + Int32.ofInt 1) → k84 U128 v128_1 v128_2 a14)
def w_meetFrom_J127 (Q : Int32 → MS → Prop) (k84 : MS → Int32 → Int32 → Int32 → Prop) (U127 : MS) (t127_0 : Int32) (v127_1 : Int32) (v127_3 : Int32) : Prop := w_meetFrom_J128 Q k84 U127 v127_1 t127_0 v127_3
def w_meetFrom_J122 (Q : Int32 → MS → Prop) (k84 : MS → Int32 → Int32 → Int32 → Prop) (U122 : MS) (v122_1 : Int32) (v122_3 : Int32) : Prop := w_meetFrom_J127 Q k84 U122 1 v122_1 v122_3
def w_meetFrom_L84 (Q : Int32 → MS → Prop) : Nat → MS → Int32 → Int32 → Int32 → Prop
  | 0, _, _, _, _ => False
  | n84 + 1, U84, v84_1, v84_2, v84_3 => (((qI U84 0 135).toInt ≤ v84_3.toInt → Q v84_2 U84) ∧ (¬ (qI U84 0 135).toInt ≤ v84_3.toInt → (d_isIn U84 v84_1 v84_3 ∧ (((f_isIn U84 v84_1 v84_3).toInt = 0 → w_meetFrom_J128 Q (w_meetFrom_L84 Q n84) U84 v84_1 v84_2 v84_3) ∧ (¬ (f_isIn U84 v84_1 v84_3).toInt = 0 → (((0 : Int) ≤ v84_3.toInt ∧ v84_3.toInt < 16) ∧ (∃ Q18, w_here U84 (qI U84 84 v84_3.toInt.toNat) Q18 ∧ ∀ r19 S20, Q18 r19 S20 → (∃ Q22, w_meet S20 r19 Q22 ∧ ∀ r23 S24, Q22 r23 S24 → ((r23.toInt = 0 → ((v84_2.toInt = 0 → w_meetFrom_J127 Q (w_meetFrom_L84 Q n84) S24 0 v84_1 v84_3) ∧ (¬ v84_2.toInt = 0 → w_meetFrom_J122 Q (w_meetFrom_L84 Q n84) S24 v84_1 v84_3))) ∧ (¬ r23.toInt = 0 → w_meetFrom_J122 Q (w_meetFrom_L84 Q n84) S24 v84_1 v84_3))))))))))
def w_meetFrom_J75 (Q : Int32 → MS → Prop) (k44 : MS → Int32 → Int32 → Int32 → Prop) (U75 : MS) (t75_0 : Int32) (v75_1 : Int32) (v75_3 : Int32) : Prop := (∀ a36 : Int32, a36 = (v75_3 + Int32.ofInt 1) → k44 U75 v75_1 t75_0 a36)
def w_meetFrom_J70 (Q : Int32 → MS → Prop) (k44 : MS → Int32 → Int32 → Int32 → Prop) (U70 : MS) (v70_1 : Int32) (v70_3 : Int32) : Prop := w_meetFrom_J75 Q k44 U70 1 v70_1 v70_3
def w_meetFrom_L44 (Q : Int32 → MS → Prop) : Nat → MS → Int32 → Int32 → Int32 → Prop
  | 0, _, _, _, _ => False
  | n44 + 1, U44, v44_1, v44_2, v44_3 => (d_waysOf U44 v44_1 ∧ (((f_waysOf U44 v44_1).toInt ≤ v44_3.toInt → (∃ n, w_meetFrom_L84 Q n U44 v44_1 v44_2 0)) ∧ (¬ (f_waysOf U44 v44_1).toInt ≤ v44_3.toInt → (∃ Q28, w_wayOf U44 v44_1 v44_3 Q28 ∧ ∀ r29 S30, Q28 r29 S30 → (∃ Q32, w_meet S30 r29 Q32 ∧ ∀ r33 S34, Q32 r33 S34 → ((r33.toInt = 0 → ((v44_2.toInt = 0 → w_meetFrom_J75 Q (w_meetFrom_L44 Q n44) S34 0 v44_1 v44_3) ∧ (¬ v44_2.toInt = 0 → w_meetFrom_J70 Q (w_meetFrom_L44 Q n44) S34 v44_1 v44_3))) ∧ (¬ r33.toInt = 0 → w_meetFrom_J70 Q (w_meetFrom_L44 Q n44) S34 v44_1 v44_3)))))))
def w_meetFrom_J41 (Q : Int32 → MS → Prop) (U41 : MS) (t41_0 : Int32) (v41_1 : Int32) : Prop := (∃ n, w_meetFrom_L44 Q n U41 v41_1 t41_0 0)
def w_meetFrom_J40 (Q : Int32 → MS → Prop) (U40 : MS) (v40_1 : Int32) : Prop := w_meetFrom_J41 Q U40 0 v40_1
def w_meetFrom (S : MS) (x1 : Int32) (Q : Int32 → MS → Prop) : Prop := (((0 : Int) ≤ x1.toInt ∧ x1.toInt < 1200) ∧ (d_goesOn S (qI S 78 x1.toInt.toNat) ∧ (((f_goesOn S (qI S 78 x1.toInt.toNat)).toInt = 0 → w_meetFrom_J40 Q S x1) ∧ (¬ (f_goesOn S (qI S 78 x1.toInt.toNat)).toInt = 0 → (∃ Q40, w_behind S x1 Q40 ∧ ∀ r41 S42, Q40 r41 S42 → (((qI S42 0 129).toInt ≤ r41.toInt → w_meetFrom_J40 Q S42 x1) ∧ (¬ (qI S42 0 129).toInt ≤ r41.toInt → (∃ Q45, w_behind S42 x1 Q45 ∧ ∀ r46 S47, Q45 r46 S47 → (∃ Q49, w_meet S47 r46 Q49 ∧ ∀ r50 S51, Q49 r50 S51 → ((r50.toInt = 0 → w_meetFrom_J40 Q S51 x1) ∧ (¬ r50.toInt = 0 → w_meetFrom_J41 Q S51 1 x1)))))))))))
set_option maxHeartbeats 2000000 in
set_option maxRecDepth 100000 in
theorem r_meetFrom (l : Launch) (g : Gr) (ad : Nat → Nat) (sz : Nat) (S : MS) (x1 : Int32) (hw : wfM S) (Q : Int32 → MS → Prop) (h : w_meetFrom S x1 Q) : Met l yX14_meetFrom (wt2 yX14_meetFrom cX14_meetFrom 4 (some .boolean)) ({ frames := 2, cells := 0, slots := 0, locals := 44 }) (va_Pc [.ref (ad 0), .int x1] (st_R g ad sz S)) (va_Qi (fun (r : Int32) (u : MS) => Q r u ∧ wfM u ∧ shy S u ∧ (r = 0 ∨ r = 1)) (fun (u : MS) (t : State) => qE g ad (va_A (Wd g ad S) sz) u t) (va_A (Wd g ad S) sz)) 0 0 (va_A (Wd g ad S) sz) := by
  refine Met.ofW (cc := cX14_meetFrom) (maxL := 4) (ret := (some .boolean)) (by decide) rfl ?_
  intro p e s m args below meth c s₁ B hml hv
  obtain ⟨rfl, hsz, hP, hK, hD0, hex, hE⟩ := hv
  have hx := B.exec
  have hb := B.bytes
  have hr := B.returns
  have hts0 := atoms_spec (ws := wt2 yX14_meetFrom cX14_meetFrom 4 (some .boolean)) B.pre
  have hts : ∀ w ∈ tb2, w.before _ s = true := fun w h => hts0 w (List.mem_cons_of_mem _ h)
  have hown : s.vm.findClass RX14 = some m.cls := findClass_of_methodNamed B.named
  subst hsz
  have hD := hD0.self (sz := s.heap.size)
  generalize hAe : va_A (Wd g ad S) s.heap.size = A at hD hE ⊢
  have hA : ∀ q : Nat, s.heap.size ≤ q → A q := fun q h => by rw [← hAe]; exact Or.inr h
  have hR : Rep g ad A s S s.heap [] := ⟨hK, hP, hD, va_S.rf, hw⟩
  clear hK hP hD hD0
  have hl := lv_entry ([.ref (ad 0), .int x1]) (n := 4) (Nat.le_of_ble_eq_true rfl)
  rw [lg_entry_eq]
  generalize (lg_sl ([.ref (ad 0), .int x1]) ++ List.replicate (4 - (lg_sl ([.ref (ad 0), .int x1])).length) Slot.unset).toArray = ls at hl ⊢
  have hl : lv_has ls 4 [(0, .ref (ad 0)), (1, .int x1)] := hl
  have hsh : shy S S := shy.rf
  unfold w_meetFrom at h
  refine lv_aload_n hx hb dX14_meetFrom_0 rfl (lv_at hl 0 rfl) ?_
  refine va_get (D := rD g) (ci := 13) (v := .ref (ad 78)) (C := RX14) (T := TX14) (N := 143) hx hb hts in2X14 hown hR.K hR.P 0 (hR.at14 hR.w.1) rfl 125 (by decide) (hts _ kx_697) (fun _ h9 => h9) (congrArg (fun z => some (vf ad z)) (hR.w.2.1 _ fin_125).1) dX14_meetFrom_1 ?_
  refine lv_iload_n hx hb dX14_meetFrom_4 rfl (lv_at hl 1 rfl) ?_
  obtain ⟨hv1, h⟩ := h
  refine va_iald hx hb hR.K hR.P 78 1 (hR.atI (hR.w.2.1 _ fin_125).2.1) rfl (k_ixN (k_ix (n := 1200) (x := x1) (a := x1.toInt) rfl hv1) (hR.w.2.1 _ fin_125).2.2) dX14_meetFrom_5 ?_
  refine lv_topi (fun z2 ez2 => ?_)
  obtain rfl : z2 = (qI S 78 x1.toInt.toNat) := ez2
  obtain ⟨hv3, h⟩ := h
  have hFc := rfree hR hA
  refine va_calli (va_runS (As := [.int (qI S 78 x1.toInt.toNat)]) (rest := []) ⟨hx, hb, hml, hown, hts⟩ (r_goesOn l g ad s.heap.size S (qI S 78 x1.toInt.toNat) hR.w  hv3) (va_cwS 1 hts (gd2_S kx_428 kx_429 kx_177 kx_430) rfl rfl rfl (by decide +kernel) ⟨Nat.le_of_ble_eq_true rfl, Nat.le_of_ble_eq_true rfl⟩) ⟨rblind, fun U hU hW9 => rmk hU hW9 hR hex hE hFc⟩ rfl rfl hl.1 rfl (lv_room (Nat.le_of_ble_eq_true rfl)) dX14_meetFrom_6 ⟨Nat.le_of_ble_eq_true rfl, Nat.le_of_ble_eq_true rfl⟩) hR.sS (fun q _ h => hFc q h) hFc (fun r4 u9 t9 H1 locs ht9 hvm9 hw9 hB9 hz9 hk9 hS => ?_)
  have hR : Rep g ad A s S H1 locs := hR.call ht9 hB9 hR.w hS hFc
  obtain ⟨rfl, hz_r4⟩ := hw9
  clear hB9 hz9 hk9 hvm9 ht9 hS
  generalize H1 = H at hR ⊢
  have J_41 : ∀ (U41 : MS) (t41_0 : Int32) (v41_1 : Int32) (H : Heap) (locs : List Loc) (ls : Array Slot), w_meetFrom_J41 Q U41 t41_0 v41_1 → (t41_0 = 0 ∨ t41_0 = 1) → shy S U41 → Rep g ad A s U41 H locs → lv_has ls 4 [(0, .ref (ad 0)), (1, .int v41_1)] → W p l e (headSpec (wt2 yX14_meetFrom cX14_meetFrom 4 (some .boolean)) ({ frames := 2, cells := 0, slots := 0, locals := 44 })).room s m ([.ref (ad 0), .int x1] : List Value).toArray below meth c H locs 0 0 (MQ below (va_Qi (fun (r : Int32) (u : MS) => Q r u ∧ wfM u ∧ shy S u ∧ (r = 0 ∨ r = 1)) (fun (u : MS) (t : State) => qE g ad A u t) A) ([.ref (ad 0), .int x1] : List Value).toArray s 0 0 A) (F0 m 41 ls [.int t41_0]) := by
    intro U41 t41_0 v41_1 H locs ls h hz_t41_0 hsh hR hl
    unfold w_meetFrom_J41 at h
    refine lv_istore_n (lv' := [(2, .int t41_0), (0, .ref (ad 0)), (1, .int v41_1)]) hx hb dX14_meetFrom_41 rfl hl (by decide) rfl (fun ls hl => ?_)
    refine lv_iconst (v := 0) hx hb dX14_meetFrom_42 (by decide) ?_
    refine lv_istore_n (lv' := [(3, .int 0), (2, .int t41_0), (0, .ref (ad 0)), (1, .int v41_1)]) hx hb dX14_meetFrom_43 rfl hl (by decide) rfl (fun ls hl => ?_)
    have J_44 : ∀ (n44 : Nat) (U44 : MS) (v44_1 : Int32) (v44_2 : Int32) (v44_3 : Int32) (H : Heap) (locs : List Loc) (ls : Array Slot), w_meetFrom_L44 Q n44 U44 v44_1 v44_2 v44_3 → (v44_2 = 0 ∨ v44_2 = 1) → shy S U44 → Rep g ad A s U44 H locs → lv_has ls 4 [(0, .ref (ad 0)), (1, .int v44_1), (2, .int v44_2), (3, .int v44_3)] → W p l e (headSpec (wt2 yX14_meetFrom cX14_meetFrom 4 (some .boolean)) ({ frames := 2, cells := 0, slots := 0, locals := 44 })).room s m ([.ref (ad 0), .int x1] : List Value).toArray below meth c H locs 0 0 (MQ below (va_Qi (fun (r : Int32) (u : MS) => Q r u ∧ wfM u ∧ shy S u ∧ (r = 0 ∨ r = 1)) (fun (u : MS) (t : State) => qE g ad A u t) A) ([.ref (ad 0), .int x1] : List Value).toArray s 0 0 A) (F0 m 44 ls []) := by
      intro n44
      induction n44 with
      | zero => intro U44 v44_1 v44_2 v44_3 H locs ls h hz_v44_2 hsh hR hl; unfold w_meetFrom_L44 at h; exact h.elim
      | succ n44 ih_44 =>
        intro U44 v44_1 v44_2 v44_3 H locs ls h hz_v44_2 hsh hR hl
        unfold w_meetFrom_L44 at h
        refine lv_iload_n hx hb dX14_meetFrom_44 rfl (lv_at hl 3 rfl) ?_
        refine lv_aload_n hx hb dX14_meetFrom_45 rfl (lv_at hl 0 rfl) ?_
        refine lv_iload_n hx hb dX14_meetFrom_46 rfl (lv_at hl 1 rfl) ?_
        obtain ⟨hv6, h⟩ := h
        have hFc := rfree hR hA
        refine va_calli (va_runV (As := [.int v44_1]) (rest := [.int v44_3]) ⟨hx, hb, hml, hown, hts⟩ (r_waysOf l g ad H.size U44 v44_1 hR.w  hv6) (cwV 1 hts (gd2_V kx_707 kx_708 kx_709 kx_177 kx_710) rfl rfl rfl (by decide +kernel) ⟨Nat.le_of_ble_eq_true rfl, Nat.le_of_ble_eq_true rfl⟩) ⟨rblind, va_recv hR.K hR.P (ci := 13) (q0 := 0) rfl (hR.at14 hR.w.1), fun U hU hW9 => rmk hU hW9 hR hex hE hFc⟩ rfl rfl hl.1 rfl (lv_room (Nat.le_of_ble_eq_true rfl)) dX14_meetFrom_47 ⟨Nat.le_of_ble_eq_true rfl, Nat.le_of_ble_eq_true rfl⟩) hR.sS (fun q _ h => hFc q h) hFc (fun r7 u9 t9 H1 locs ht9 hvm9 hw9 hB9 hz9 hk9 hS => ?_)
        have hR : Rep g ad A s U44 H1 locs := hR.call ht9 hB9 hR.w hS hFc
        obtain rfl : r7 = (f_waysOf U44 v44_1) := hw9
        clear hB9 hz9 hk9 hvm9 ht9 hS
        generalize H1 = H at hR ⊢
        refine lv_icmp_ge (tgt := 82) hx hb dX14_meetFrom_50 (by decide) (fun c9 => ?_) (fun c9 => ?_)
        · replace h := h.1 (k_le rfl rfl c9)
          refine lv_iconst (v := 0) hx hb dX14_meetFrom_82 (by decide) ?_
          refine lv_istore_n (lv' := [(3, .int 0), (0, .ref (ad 0)), (1, .int v44_1), (2, .int v44_2)]) hx hb dX14_meetFrom_83 rfl hl (by decide) rfl (fun ls hl => ?_)
          have J_84 : ∀ (n84 : Nat) (U84 : MS) (v84_1 : Int32) (v84_2 : Int32) (v84_3 : Int32) (H : Heap) (locs : List Loc) (ls : Array Slot), w_meetFrom_L84 Q n84 U84 v84_1 v84_2 v84_3 → (v84_2 = 0 ∨ v84_2 = 1) → shy S U84 → Rep g ad A s U84 H locs → lv_has ls 4 [(0, .ref (ad 0)), (1, .int v84_1), (2, .int v84_2), (3, .int v84_3)] → W p l e (headSpec (wt2 yX14_meetFrom cX14_meetFrom 4 (some .boolean)) ({ frames := 2, cells := 0, slots := 0, locals := 44 })).room s m ([.ref (ad 0), .int x1] : List Value).toArray below meth c H locs 0 0 (MQ below (va_Qi (fun (r : Int32) (u : MS) => Q r u ∧ wfM u ∧ shy S u ∧ (r = 0 ∨ r = 1)) (fun (u : MS) (t : State) => qE g ad A u t) A) ([.ref (ad 0), .int x1] : List Value).toArray s 0 0 A) (F0 m 84 ls []) := by
            intro n84
            induction n84 with
            | zero => intro U84 v84_1 v84_2 v84_3 H locs ls h hz_v84_2 hsh hR hl; unfold w_meetFrom_L84 at h; exact h.elim
            | succ n84 ih_84 =>
              intro U84 v84_1 v84_2 v84_3 H locs ls h hz_v84_2 hsh hR hl
              unfold w_meetFrom_L84 at h
              refine lv_iload_n hx hb dX14_meetFrom_84 rfl (lv_at hl 3 rfl) ?_
              refine lv_aload_n hx hb dX14_meetFrom_85 rfl (lv_at hl 0 rfl) ?_
              refine va_get (D := rD g) (ci := 13) (v := .int (qI U84 0 135)) (C := RX14) (T := TX14) (N := 143) hx hb hts in2X14 hown hR.K hR.P 0 (hR.at14 hR.w.1) rfl 135 (by decide) (hts _ kx_704) (fun _ h9 => h9) rfl dX14_meetFrom_86 ?_
              refine lv_icmp_ge (tgt := 134) hx hb dX14_meetFrom_89 (by decide) (fun c10 => ?_) (fun c10 => ?_)
              · replace h := h.1 (k_le rfl rfl c10)
                refine lv_iload_n hx hb dX14_meetFrom_134 rfl (lv_at hl 2 rfl) ?_
                exact W.zret (v := v84_2) hx hb hr (nz hz_v84_2) (fun t9 ht9 hW9 => ⟨⟨_, U84, rfl, ⟨h, hR.w, hsh, hz_v84_2⟩, ⟨by rw [ht9]; exact hR.P, hR.D⟩⟩, hR.sS.F ht9⟩) hR.sS.2.2 dX14_meetFrom_135
              · replace h := h.2 (k_nle rfl rfl c10)
                refine lv_aload_n hx hb dX14_meetFrom_92 rfl (lv_at hl 0 rfl) ?_
                refine lv_iload_n hx hb dX14_meetFrom_93 rfl (lv_at hl 1 rfl) ?_
                refine lv_iload_n hx hb dX14_meetFrom_94 rfl (lv_at hl 3 rfl) ?_
                obtain ⟨hv11, h⟩ := h
                have hFc := rfree hR hA
                refine va_calli (va_runV (As := [.int v84_1, .int v84_3]) (rest := []) ⟨hx, hb, hml, hown, hts⟩ (r_isIn l g ad H.size U84 v84_1 v84_3 hR.w  hv11) (cwV 2 hts (gd2_V kx_730 kx_731 kx_732 kx_177 kx_733) rfl rfl rfl (by decide +kernel) ⟨Nat.le_of_ble_eq_true rfl, Nat.le_of_ble_eq_true rfl⟩) ⟨rblind, va_recv hR.K hR.P (ci := 13) (q0 := 0) rfl (hR.at14 hR.w.1), fun U hU hW9 => rmk hU hW9 hR hex hE hFc⟩ rfl rfl hl.1 rfl (lv_room (Nat.le_of_ble_eq_true rfl)) dX14_meetFrom_95 ⟨Nat.le_of_ble_eq_true rfl, Nat.le_of_ble_eq_true rfl⟩) hR.sS (fun q _ h => hFc q h) hFc (fun r12 u9 t9 H1 locs ht9 hvm9 hw9 hB9 hz9 hk9 hS => ?_)
                have hR : Rep g ad A s U84 H1 locs := hR.call ht9 hB9 hR.w hS hFc
                obtain ⟨rfl, hz_r12⟩ := hw9
                clear hB9 hz9 hk9 hvm9 ht9 hS
                generalize H1 = H at hR ⊢
                have J_128 : ∀ (U128 : MS) (v128_1 : Int32) (v128_2 : Int32) (v128_3 : Int32) (H : Heap) (locs : List Loc) (ls : Array Slot), w_meetFrom_J128 Q (w_meetFrom_L84 Q n84) U128 v128_1 v128_2 v128_3 → (v128_2 = 0 ∨ v128_2 = 1) → shy S U128 → Rep g ad A s U128 H locs → lv_has ls 4 [(0, .ref (ad 0)), (1, .int v128_1), (2, .int v128_2), (3, .int v128_3)] → W p l e (headSpec (wt2 yX14_meetFrom cX14_meetFrom 4 (some .boolean)) ({ frames := 2, cells := 0, slots := 0, locals := 44 })).room s m ([.ref (ad 0), .int x1] : List Value).toArray below meth c H locs 0 0 (MQ below (va_Qi (fun (r : Int32) (u : MS) => Q r u ∧ wfM u ∧ shy S u ∧ (r = 0 ∨ r = 1)) (fun (u : MS) (t : State) => qE g ad A u t) A) ([.ref (ad 0), .int x1] : List Value).toArray s 0 0 A) (F0 m 128 ls []) := by
                  intro U128 v128_1 v128_2 v128_3 H locs ls h hz_v128_2 hsh hR hl
                  unfold w_meetFrom_J128 at h
                  obtain ⟨a14, ea14⟩ : ∃ z, z = (v128_3 + Int32.ofInt 1) := ⟨_, rfl⟩
                  replace h := h a14 ea14
                  refine lv_iinc (v := a14) (lv' := [(3, .int a14), (0, .ref (ad 0)), (1, .int v128_1), (2, .int v128_2)]) hx hb dX14_meetFrom_128 hl (k := 3) rfl ea14.symm (by decide) rfl (fun ls hl => ?_)
                  refine lv_goto (tgt := 84) hx hb dX14_meetFrom_131 (by decide) ?_
                  exact ih_84 U128 v128_1 v128_2 a14 _ _ ls h hz_v128_2 hsh hR (lv_sub hl [1, 2, 3, 0] rfl)
                refine lv_if_eq (tgt := 128) hx hb dX14_meetFrom_98 (by decide) (fun c15 => ?_) (fun c15 => ?_)
                · replace h := h.1 (k_eq rfl (by decide) c15)
                  exact J_128 U84 v84_1 v84_2 v84_3 _ _ ls h hz_v84_2 hsh hR (lv_sub hl [0, 1, 2, 3] rfl)
                · replace h := h.2 (k_ne rfl (by decide) c15)
                  refine lv_aload_n hx hb dX14_meetFrom_101 rfl (lv_at hl 0 rfl) ?_
                  refine lv_aload_n hx hb dX14_meetFrom_102 rfl (lv_at hl 0 rfl) ?_
                  refine lv_aload_n hx hb dX14_meetFrom_103 rfl (lv_at hl 0 rfl) ?_
                  refine va_get (D := rD g) (ci := 13) (v := .ref (ad 84)) (C := RX14) (T := TX14) (N := 143) hx hb hts in2X14 hown hR.K hR.P 0 (hR.at14 hR.w.1) rfl 132 (by decide) (hts _ kx_706) (fun _ h9 => h9) (congrArg (fun z => some (vf ad z)) (hR.w.2.1 _ fin_132).1) dX14_meetFrom_104 ?_
                  refine lv_iload_n hx hb dX14_meetFrom_107 rfl (lv_at hl 3 rfl) ?_
                  obtain ⟨hv16, h⟩ := h
                  refine va_iald hx hb hR.K hR.P 84 1 (hR.atI (hR.w.2.1 _ fin_132).2.1) rfl (k_ixN (k_ix (n := 16) (x := v84_3) (a := v84_3.toInt) rfl hv16) (hR.w.2.1 _ fin_132).2.2) dX14_meetFrom_108 ?_
                  refine lv_topi (fun z17 ez17 => ?_)
                  obtain rfl : z17 = (qI U84 84 v84_3.toInt.toNat) := ez17
                  obtain ⟨Q18, h0, h⟩ := h
                  have hFc := rfree hR hA
                  refine va_calli (va_runV (As := [.int (qI U84 84 v84_3.toInt.toNat)]) (rest := [.ref (ad 0)]) ⟨hx, hb, hml, hown, hts⟩ (r_here l g ad H.size U84 (qI U84 84 v84_3.toInt.toNat) hR.w  Q18 h0) (cwV 1 hts (gd2_V kx_693 kx_694 kx_695 kx_177 kx_696) rfl rfl rfl (by decide +kernel) ⟨Nat.le_of_ble_eq_true rfl, Nat.le_of_ble_eq_true rfl⟩) ⟨rblind, va_recv hR.K hR.P (ci := 13) (q0 := 0) rfl (hR.at14 hR.w.1), fun U hU hW9 => rmk hU hW9 hR hex hE hFc⟩ rfl rfl hl.1 rfl (lv_room (Nat.le_of_ble_eq_true rfl)) dX14_meetFrom_109 ⟨Nat.le_of_ble_eq_true rfl, Nat.le_of_ble_eq_true rfl⟩) hR.sS (fun q _ h => hFc q h) hFc (fun r19 S20 t9 H1 locs ht9 hvm9 hw9 hB9 hz9 hk9 hS => ?_)
                  obtain ⟨hq21, hw9, hs9⟩ := hw9
                  have hR : Rep g ad A s S20 H1 locs := hR.call ht9 hB9 hw9 hS hFc
                  have hsh := hsh.tr hs9
                  replace h := h r19 S20 hq21
                  clear hB9 hz9 hk9 hvm9 ht9 hw9 hs9 hS
                  generalize H1 = H at hR ⊢
                  obtain ⟨Q22, h0, h⟩ := h
                  have hFc := rfree hR hA
                  refine va_calli (va_runV (As := [.int r19]) (rest := []) ⟨hx, hb, hml, hown, hts⟩ (r_meet l g ad H.size S20 r19 hR.w  Q22 h0) (cwV 1 hts (gd2_V kx_734 kx_735 kx_736 kx_177 kx_737) rfl rfl rfl (by decide +kernel) ⟨Nat.le_of_ble_eq_true rfl, Nat.le_of_ble_eq_true rfl⟩) ⟨rblind, va_recv hR.K hR.P (ci := 13) (q0 := 0) rfl (hR.at14 hR.w.1), fun U hU hW9 => rmk hU hW9 hR hex hE hFc⟩ rfl rfl hl.1 rfl (lv_room (Nat.le_of_ble_eq_true rfl)) dX14_meetFrom_112 ⟨Nat.le_of_ble_eq_true rfl, Nat.le_of_ble_eq_true rfl⟩) hR.sS (fun q _ h => hFc q h) hFc (fun r23 S24 t9 H1 locs ht9 hvm9 hw9 hB9 hz9 hk9 hS => ?_)
                  obtain ⟨hq25, hw9, hs9, hz_r23⟩ := hw9
                  have hR : Rep g ad A s S24 H1 locs := hR.call ht9 hB9 hw9 hS hFc
                  have hsh := hsh.tr hs9
                  replace h := h r23 S24 hq25
                  clear hB9 hz9 hk9 hvm9 ht9 hw9 hs9 hS
                  generalize H1 = H at hR ⊢
                  have J_127 : ∀ (U127 : MS) (t127_0 : Int32) (v127_1 : Int32) (v127_3 : Int32) (H : Heap) (locs : List Loc) (ls : Array Slot), w_meetFrom_J127 Q (w_meetFrom_L84 Q n84) U127 t127_0 v127_1 v127_3 → (t127_0 = 0 ∨ t127_0 = 1) → shy S U127 → Rep g ad A s U127 H locs → lv_has ls 4 [(0, .ref (ad 0)), (1, .int v127_1), (3, .int v127_3)] → W p l e (headSpec (wt2 yX14_meetFrom cX14_meetFrom 4 (some .boolean)) ({ frames := 2, cells := 0, slots := 0, locals := 44 })).room s m ([.ref (ad 0), .int x1] : List Value).toArray below meth c H locs 0 0 (MQ below (va_Qi (fun (r : Int32) (u : MS) => Q r u ∧ wfM u ∧ shy S u ∧ (r = 0 ∨ r = 1)) (fun (u : MS) (t : State) => qE g ad A u t) A) ([.ref (ad 0), .int x1] : List Value).toArray s 0 0 A) (F0 m 127 ls [.int t127_0]) := by
                    intro U127 t127_0 v127_1 v127_3 H locs ls h hz_t127_0 hsh hR hl
                    unfold w_meetFrom_J127 at h
                    refine lv_istore_n (lv' := [(2, .int t127_0), (0, .ref (ad 0)), (1, .int v127_1), (3, .int v127_3)]) hx hb dX14_meetFrom_127 rfl hl (by decide) rfl (fun ls hl => ?_)
                    exact J_128 U127 v127_1 t127_0 v127_3 _ _ ls h hz_t127_0 hsh hR (lv_sub hl [1, 2, 0, 3] rfl)
                  have J_122 : ∀ (U122 : MS) (v122_1 : Int32) (v122_3 : Int32) (H : Heap) (locs : List Loc) (ls : Array Slot), w_meetFrom_J122 Q (w_meetFrom_L84 Q n84) U122 v122_1 v122_3 → shy S U122 → Rep g ad A s U122 H locs → lv_has ls 4 [(0, .ref (ad 0)), (1, .int v122_1), (3, .int v122_3)] → W p l e (headSpec (wt2 yX14_meetFrom cX14_meetFrom 4 (some .boolean)) ({ frames := 2, cells := 0, slots := 0, locals := 44 })).room s m ([.ref (ad 0), .int x1] : List Value).toArray below meth c H locs 0 0 (MQ below (va_Qi (fun (r : Int32) (u : MS) => Q r u ∧ wfM u ∧ shy S u ∧ (r = 0 ∨ r = 1)) (fun (u : MS) (t : State) => qE g ad A u t) A) ([.ref (ad 0), .int x1] : List Value).toArray s 0 0 A) (F0 m 122 ls []) := by
                    intro U122 v122_1 v122_3 H locs ls h hsh hR hl
                    unfold w_meetFrom_J122 at h
                    refine lv_iconst (v := 1) hx hb dX14_meetFrom_122 (by decide) ?_
                    refine lv_goto (tgt := 127) hx hb dX14_meetFrom_123 (by decide) ?_
                    exact J_127 U122 1 v122_1 v122_3 _ _ ls h (Or.inr rfl) hsh hR (lv_sub hl [0, 1, 2] rfl)
                  refine lv_if_ne (tgt := 122) hx hb dX14_meetFrom_115 (by decide) (fun c26 => ?_) (fun c26 => ?_)
                  · replace h := h.2 (k_ne rfl (by decide) c26)
                    exact J_122 S24 v84_1 v84_3 _ _ ls h  hsh hR (lv_sub hl [0, 1, 3] rfl)
                  · replace h := h.1 (k_eq rfl (by decide) c26)
                    refine lv_iload_n hx hb dX14_meetFrom_118 rfl (lv_at hl 2 rfl) ?_
                    refine lv_if_eq (tgt := 126) hx hb dX14_meetFrom_119 (by decide) (fun c27 => ?_) (fun c27 => ?_)
                    · replace h := h.1 (k_eq rfl (by decide) c27)
                      refine lv_iconst (v := 0) hx hb dX14_meetFrom_126 (by decide) ?_
                      exact J_127 S24 0 v84_1 v84_3 _ _ ls h (Or.inl rfl) hsh hR (lv_sub hl [0, 1, 3] rfl)
                    · replace h := h.2 (k_ne rfl (by decide) c27)
                      exact J_122 S24 v84_1 v84_3 _ _ ls h  hsh hR (lv_sub hl [0, 1, 3] rfl)
          obtain ⟨n9, h⟩ := h
          exact J_84 n9 U44 v44_1 v44_2 0 _ _ ls h hz_v44_2 hsh hR (lv_sub hl [1, 2, 3, 0] rfl)
        · replace h := h.2 (k_nle rfl rfl c9)
          refine lv_aload_n hx hb dX14_meetFrom_53 rfl (lv_at hl 0 rfl) ?_
          refine lv_aload_n hx hb dX14_meetFrom_54 rfl (lv_at hl 0 rfl) ?_
          refine lv_iload_n hx hb dX14_meetFrom_55 rfl (lv_at hl 1 rfl) ?_
          refine lv_iload_n hx hb dX14_meetFrom_56 rfl (lv_at hl 3 rfl) ?_
          obtain ⟨Q28, h0, h⟩ := h
          have hFc := rfree hR hA
          refine va_calli (va_runV (As := [.int v44_1, .int v44_3]) (rest := [.ref (ad 0)]) ⟨hx, hb, hml, hown, hts⟩ (r_wayOf l g ad H.size U44 v44_1 v44_3 hR.w  Q28 h0) (cwV 2 hts (gd2_V kx_711 kx_712 kx_713 kx_177 kx_714) rfl rfl rfl (by decide +kernel) ⟨Nat.le_of_ble_eq_true rfl, Nat.le_of_ble_eq_true rfl⟩) ⟨rblind, va_recv hR.K hR.P (ci := 13) (q0 := 0) rfl (hR.at14 hR.w.1), fun U hU hW9 => rmk hU hW9 hR hex hE hFc⟩ rfl rfl hl.1 rfl (lv_room (Nat.le_of_ble_eq_true rfl)) dX14_meetFrom_57 ⟨Nat.le_of_ble_eq_true rfl, Nat.le_of_ble_eq_true rfl⟩) hR.sS (fun q _ h => hFc q h) hFc (fun r29 S30 t9 H1 locs ht9 hvm9 hw9 hB9 hz9 hk9 hS => ?_)
          obtain ⟨hq31, hw9, hs9⟩ := hw9
          have hR : Rep g ad A s S30 H1 locs := hR.call ht9 hB9 hw9 hS hFc
          have hsh := hsh.tr hs9
          replace h := h r29 S30 hq31
          clear hB9 hz9 hk9 hvm9 ht9 hw9 hs9 hS
          generalize H1 = H at hR ⊢
          obtain ⟨Q32, h0, h⟩ := h
          have hFc := rfree hR hA
          refine va_calli (va_runV (As := [.int r29]) (rest := []) ⟨hx, hb, hml, hown, hts⟩ (r_meet l g ad H.size S30 r29 hR.w  Q32 h0) (cwV 1 hts (gd2_V kx_734 kx_735 kx_736 kx_177 kx_737) rfl rfl rfl (by decide +kernel) ⟨Nat.le_of_ble_eq_true rfl, Nat.le_of_ble_eq_true rfl⟩) ⟨rblind, va_recv hR.K hR.P (ci := 13) (q0 := 0) rfl (hR.at14 hR.w.1), fun U hU hW9 => rmk hU hW9 hR hex hE hFc⟩ rfl rfl hl.1 rfl (lv_room (Nat.le_of_ble_eq_true rfl)) dX14_meetFrom_60 ⟨Nat.le_of_ble_eq_true rfl, Nat.le_of_ble_eq_true rfl⟩) hR.sS (fun q _ h => hFc q h) hFc (fun r33 S34 t9 H1 locs ht9 hvm9 hw9 hB9 hz9 hk9 hS => ?_)
          obtain ⟨hq35, hw9, hs9, hz_r33⟩ := hw9
          have hR : Rep g ad A s S34 H1 locs := hR.call ht9 hB9 hw9 hS hFc
          have hsh := hsh.tr hs9
          replace h := h r33 S34 hq35
          clear hB9 hz9 hk9 hvm9 ht9 hw9 hs9 hS
          generalize H1 = H at hR ⊢
          have J_75 : ∀ (U75 : MS) (t75_0 : Int32) (v75_1 : Int32) (v75_3 : Int32) (H : Heap) (locs : List Loc) (ls : Array Slot), w_meetFrom_J75 Q (w_meetFrom_L44 Q n44) U75 t75_0 v75_1 v75_3 → (t75_0 = 0 ∨ t75_0 = 1) → shy S U75 → Rep g ad A s U75 H locs → lv_has ls 4 [(0, .ref (ad 0)), (1, .int v75_1), (3, .int v75_3)] → W p l e (headSpec (wt2 yX14_meetFrom cX14_meetFrom 4 (some .boolean)) ({ frames := 2, cells := 0, slots := 0, locals := 44 })).room s m ([.ref (ad 0), .int x1] : List Value).toArray below meth c H locs 0 0 (MQ below (va_Qi (fun (r : Int32) (u : MS) => Q r u ∧ wfM u ∧ shy S u ∧ (r = 0 ∨ r = 1)) (fun (u : MS) (t : State) => qE g ad A u t) A) ([.ref (ad 0), .int x1] : List Value).toArray s 0 0 A) (F0 m 75 ls [.int t75_0]) := by
            intro U75 t75_0 v75_1 v75_3 H locs ls h hz_t75_0 hsh hR hl
            unfold w_meetFrom_J75 at h
            refine lv_istore_n (lv' := [(2, .int t75_0), (0, .ref (ad 0)), (1, .int v75_1), (3, .int v75_3)]) hx hb dX14_meetFrom_75 rfl hl (by decide) rfl (fun ls hl => ?_)
            obtain ⟨a36, ea36⟩ : ∃ z, z = (v75_3 + Int32.ofInt 1) := ⟨_, rfl⟩
            replace h := h a36 ea36
            refine lv_iinc (v := a36) (lv' := [(3, .int a36), (2, .int t75_0), (0, .ref (ad 0)), (1, .int v75_1)]) hx hb dX14_meetFrom_76 hl (k := 3) rfl ea36.symm (by decide) rfl (fun ls hl => ?_)
            refine lv_goto (tgt := 44) hx hb dX14_meetFrom_79 (by decide) ?_
            exact ih_44 U75 v75_1 t75_0 a36 _ _ ls h hz_t75_0 hsh hR (lv_sub hl [2, 3, 1, 0] rfl)
          have J_70 : ∀ (U70 : MS) (v70_1 : Int32) (v70_3 : Int32) (H : Heap) (locs : List Loc) (ls : Array Slot), w_meetFrom_J70 Q (w_meetFrom_L44 Q n44) U70 v70_1 v70_3 → shy S U70 → Rep g ad A s U70 H locs → lv_has ls 4 [(0, .ref (ad 0)), (1, .int v70_1), (3, .int v70_3)] → W p l e (headSpec (wt2 yX14_meetFrom cX14_meetFrom 4 (some .boolean)) ({ frames := 2, cells := 0, slots := 0, locals := 44 })).room s m ([.ref (ad 0), .int x1] : List Value).toArray below meth c H locs 0 0 (MQ below (va_Qi (fun (r : Int32) (u : MS) => Q r u ∧ wfM u ∧ shy S u ∧ (r = 0 ∨ r = 1)) (fun (u : MS) (t : State) => qE g ad A u t) A) ([.ref (ad 0), .int x1] : List Value).toArray s 0 0 A) (F0 m 70 ls []) := by
            intro U70 v70_1 v70_3 H locs ls h hsh hR hl
            unfold w_meetFrom_J70 at h
            refine lv_iconst (v := 1) hx hb dX14_meetFrom_70 (by decide) ?_
            refine lv_goto (tgt := 75) hx hb dX14_meetFrom_71 (by decide) ?_
            exact J_75 U70 1 v70_1 v70_3 _ _ ls h (Or.inr rfl) hsh hR (lv_sub hl [0, 1, 2] rfl)
          refine lv_if_ne (tgt := 70) hx hb dX14_meetFrom_63 (by decide) (fun c37 => ?_) (fun c37 => ?_)
          · replace h := h.2 (k_ne rfl (by decide) c37)
            exact J_70 S34 v44_1 v44_3 _ _ ls h  hsh hR (lv_sub hl [0, 1, 3] rfl)
          · replace h := h.1 (k_eq rfl (by decide) c37)
            refine lv_iload_n hx hb dX14_meetFrom_66 rfl (lv_at hl 2 rfl) ?_
            refine lv_if_eq (tgt := 74) hx hb dX14_meetFrom_67 (by decide) (fun c38 => ?_) (fun c38 => ?_)
            · replace h := h.1 (k_eq rfl (by decide) c38)
              refine lv_iconst (v := 0) hx hb dX14_meetFrom_74 (by decide) ?_
              exact J_75 S34 0 v44_1 v44_3 _ _ ls h (Or.inl rfl) hsh hR (lv_sub hl [0, 1, 3] rfl)
            · replace h := h.2 (k_ne rfl (by decide) c38)
              exact J_70 S34 v44_1 v44_3 _ _ ls h  hsh hR (lv_sub hl [0, 1, 3] rfl)
    obtain ⟨n9, h⟩ := h
    exact J_44 n9 U41 v41_1 t41_0 0 _ _ ls h hz_t41_0 hsh hR (lv_sub hl [2, 3, 1, 0] rfl)
  have J_40 : ∀ (U40 : MS) (v40_1 : Int32) (H : Heap) (locs : List Loc) (ls : Array Slot), w_meetFrom_J40 Q U40 v40_1 → shy S U40 → Rep g ad A s U40 H locs → lv_has ls 4 [(0, .ref (ad 0)), (1, .int v40_1)] → W p l e (headSpec (wt2 yX14_meetFrom cX14_meetFrom 4 (some .boolean)) ({ frames := 2, cells := 0, slots := 0, locals := 44 })).room s m ([.ref (ad 0), .int x1] : List Value).toArray below meth c H locs 0 0 (MQ below (va_Qi (fun (r : Int32) (u : MS) => Q r u ∧ wfM u ∧ shy S u ∧ (r = 0 ∨ r = 1)) (fun (u : MS) (t : State) => qE g ad A u t) A) ([.ref (ad 0), .int x1] : List Value).toArray s 0 0 A) (F0 m 40 ls []) := by
    intro U40 v40_1 H locs ls h hsh hR hl
    unfold w_meetFrom_J40 at h
    refine lv_iconst (v := 0) hx hb dX14_meetFrom_40 (by decide) ?_
    exact J_41 U40 0 v40_1 _ _ ls h (Or.inl rfl) hsh hR (lv_sub hl [0, 1] rfl)
  refine lv_if_eq (tgt := 40) hx hb dX14_meetFrom_9 (by decide) (fun c39 => ?_) (fun c39 => ?_)
  · replace h := h.1 (k_eq rfl (by decide) c39)
    exact J_40 S x1 _ _ ls h  hsh hR (lv_sub hl [0, 1] rfl)
  · replace h := h.2 (k_ne rfl (by decide) c39)
    refine lv_aload_n hx hb dX14_meetFrom_12 rfl (lv_at hl 0 rfl) ?_
    refine lv_iload_n hx hb dX14_meetFrom_13 rfl (lv_at hl 1 rfl) ?_
    obtain ⟨Q40, h0, h⟩ := h
    have hFc := rfree hR hA
    refine va_calli (va_runV (As := [.int x1]) (rest := []) ⟨hx, hb, hml, hown, hts⟩ (r_behind l g ad H.size S x1 hR.w  Q40 h0) (cwV 1 hts (gd2_V kx_724 kx_725 kx_726 kx_177 kx_727) rfl rfl rfl (by decide +kernel) ⟨Nat.le_of_ble_eq_true rfl, Nat.le_of_ble_eq_true rfl⟩) ⟨rblind, va_recv hR.K hR.P (ci := 13) (q0 := 0) rfl (hR.at14 hR.w.1), fun U hU hW9 => rmk hU hW9 hR hex hE hFc⟩ rfl rfl hl.1 rfl (lv_room (Nat.le_of_ble_eq_true rfl)) dX14_meetFrom_14 ⟨Nat.le_of_ble_eq_true rfl, Nat.le_of_ble_eq_true rfl⟩) hR.sS (fun q _ h => hFc q h) hFc (fun r41 S42 t9 H1 locs ht9 hvm9 hw9 hB9 hz9 hk9 hS => ?_)
    obtain ⟨hq43, hw9, hs9⟩ := hw9
    have hR : Rep g ad A s S42 H1 locs := hR.call ht9 hB9 hw9 hS hFc
    have hsh := hsh.tr hs9
    replace h := h r41 S42 hq43
    clear hB9 hz9 hk9 hvm9 ht9 hw9 hs9 hS
    generalize H1 = H at hR ⊢
    refine lv_aload_n hx hb dX14_meetFrom_17 rfl (lv_at hl 0 rfl) ?_
    refine va_get (D := rD g) (ci := 13) (v := .int (qI S42 0 129)) (C := RX14) (T := TX14) (N := 143) hx hb hts in2X14 hown hR.K hR.P 0 (hR.at14 hR.w.1) rfl 129 (by decide) (hts _ kx_691) (fun _ h9 => h9) rfl dX14_meetFrom_18 ?_
    refine lv_icmp_ge (tgt := 40) hx hb dX14_meetFrom_21 (by decide) (fun c44 => ?_) (fun c44 => ?_)
    · replace h := h.1 (k_le rfl rfl c44)
      exact J_40 S42 x1 _ _ ls h  hsh hR (lv_sub hl [0, 1] rfl)
    · replace h := h.2 (k_nle rfl rfl c44)
      refine lv_aload_n hx hb dX14_meetFrom_24 rfl (lv_at hl 0 rfl) ?_
      refine lv_aload_n hx hb dX14_meetFrom_25 rfl (lv_at hl 0 rfl) ?_
      refine lv_iload_n hx hb dX14_meetFrom_26 rfl (lv_at hl 1 rfl) ?_
      obtain ⟨Q45, h0, h⟩ := h
      have hFc := rfree hR hA
      refine va_calli (va_runV (As := [.int x1]) (rest := [.ref (ad 0)]) ⟨hx, hb, hml, hown, hts⟩ (r_behind l g ad H.size S42 x1 hR.w  Q45 h0) (cwV 1 hts (gd2_V kx_724 kx_725 kx_726 kx_177 kx_727) rfl rfl rfl (by decide +kernel) ⟨Nat.le_of_ble_eq_true rfl, Nat.le_of_ble_eq_true rfl⟩) ⟨rblind, va_recv hR.K hR.P (ci := 13) (q0 := 0) rfl (hR.at14 hR.w.1), fun U hU hW9 => rmk hU hW9 hR hex hE hFc⟩ rfl rfl hl.1 rfl (lv_room (Nat.le_of_ble_eq_true rfl)) dX14_meetFrom_27 ⟨Nat.le_of_ble_eq_true rfl, Nat.le_of_ble_eq_true rfl⟩) hR.sS (fun q _ h => hFc q h) hFc (fun r46 S47 t9 H1 locs ht9 hvm9 hw9 hB9 hz9 hk9 hS => ?_)
      obtain ⟨hq48, hw9, hs9⟩ := hw9
      have hR : Rep g ad A s S47 H1 locs := hR.call ht9 hB9 hw9 hS hFc
      have hsh := hsh.tr hs9
      replace h := h r46 S47 hq48
      clear hB9 hz9 hk9 hvm9 ht9 hw9 hs9 hS
      generalize H1 = H at hR ⊢
      obtain ⟨Q49, h0, h⟩ := h
      have hFc := rfree hR hA
      refine va_calli (va_runV (As := [.int r46]) (rest := []) ⟨hx, hb, hml, hown, hts⟩ (r_meet l g ad H.size S47 r46 hR.w  Q49 h0) (cwV 1 hts (gd2_V kx_734 kx_735 kx_736 kx_177 kx_737) rfl rfl rfl (by decide +kernel) ⟨Nat.le_of_ble_eq_true rfl, Nat.le_of_ble_eq_true rfl⟩) ⟨rblind, va_recv hR.K hR.P (ci := 13) (q0 := 0) rfl (hR.at14 hR.w.1), fun U hU hW9 => rmk hU hW9 hR hex hE hFc⟩ rfl rfl hl.1 rfl (lv_room (Nat.le_of_ble_eq_true rfl)) dX14_meetFrom_30 ⟨Nat.le_of_ble_eq_true rfl, Nat.le_of_ble_eq_true rfl⟩) hR.sS (fun q _ h => hFc q h) hFc (fun r50 S51 t9 H1 locs ht9 hvm9 hw9 hB9 hz9 hk9 hS => ?_)
      obtain ⟨hq52, hw9, hs9, hz_r50⟩ := hw9
      have hR : Rep g ad A s S51 H1 locs := hR.call ht9 hB9 hw9 hS hFc
      have hsh := hsh.tr hs9
      replace h := h r50 S51 hq52
      clear hB9 hz9 hk9 hvm9 ht9 hw9 hs9 hS
      generalize H1 = H at hR ⊢
      refine lv_if_eq (tgt := 40) hx hb dX14_meetFrom_33 (by decide) (fun c53 => ?_) (fun c53 => ?_)
      · replace h := h.1 (k_eq rfl (by decide) c53)
        exact J_40 S51 x1 _ _ ls h  hsh hR (lv_sub hl [0, 1] rfl)
      · replace h := h.2 (k_ne rfl (by decide) c53)
        refine lv_iconst (v := 1) hx hb dX14_meetFrom_36 (by decide) ?_
        refine lv_goto (tgt := 41) hx hb dX14_meetFrom_37 (by decide) ?_
        exact J_41 S51 1 x1 _ _ ls h (Or.inr rfl) hsh hR (lv_sub hl [0, 1] rfl)
def w_sweep_J146 (Q : Int32 → MS → Prop) (k98 : MS → Int32 → Int32 → Prop) (U146 : MS) (v146_2 : Int32) (v146_3 : Int32) : Prop := (∀ a18 : Int32, a18 = (v146_3 + Int32.ofInt 1) → k98 U146 v146_2 a18)
def w_sweep_L98 (Q : Int32 → MS → Prop) : Nat → MS → Int32 → Int32 → Prop
  | 0, _, _, _ => False
  | n98 + 1, U98, v98_2, v98_3 => (((qI U98 0 129).toInt ≤ v98_3.toInt → (∃ Q12, w_mark U98 Q12 ∧ ∀ S13, Q12 S13 → ((v98_2 = 0 ∨ v98_2 = 1) ∧ Q v98_2 S13))) ∧ (¬ (qI U98 0 129).toInt ≤ v98_3.toInt → (((0 : Int) ≤ v98_3.toInt ∧ v98_3.toInt < 1200) ∧ (((qI U98 81 v98_3.toInt.toNat).toInt = 0 → (((0 : Int) ≤ v98_3.toInt ∧ v98_3.toInt < 1200) ∧ (((qI U98 88 v98_3.toInt.toNat).toInt = 0 → (((0 : Int) ≤ v98_3.toInt ∧ v98_3.toInt < 1200) ∧ (∀ S24, S24 = wI U98 81 v98_3.toInt.toNat (vp_nar .boolean (1 : Int32)) → (∀ S27, S27 = wI S24 77 1 ((qI S24 77 1) + (1 : Int32)) → w_sweep_J146 Q (w_sweep_L98 Q n98) S27 1 v98_3)))) ∧ (¬ (qI U98 88 v98_3.toInt.toNat).toInt = 0 → w_sweep_J146 Q (w_sweep_L98 Q n98) U98 v98_2 v98_3)))) ∧ (¬ (qI U98 81 v98_3.toInt.toNat).toInt = 0 → w_sweep_J146 Q (w_sweep_L98 Q n98) U98 v98_2 v98_3)))))
def w_sweep_J85 (Q : Int32 → MS → Prop) (k41 : MS → Int32 → Int32 → Prop) (U85 : MS) (v85_1 : Int32) (v85_2 : Int32) : Prop := (∀ a31 : Int32, a31 = (v85_2 + Int32.ofInt 1) → k41 U85 v85_1 a31)
def w_sweep_J84 (Q : Int32 → MS → Prop) (k41 : MS → Int32 → Int32 → Prop) (U84 : MS) (t84_0 : Int32) (v84_2 : Int32) : Prop := w_sweep_J85 Q k41 U84 t84_0 v84_2
def w_sweep_J79 (Q : Int32 → MS → Prop) (k41 : MS → Int32 → Int32 → Prop) (U79 : MS) (v79_2 : Int32) : Prop := w_sweep_J84 Q k41 U79 1 v79_2
def w_sweep_L41 (Q : Int32 → MS → Prop) (k33 : MS → Int32 → Prop) : Nat → MS → Int32 → Int32 → Prop
  | 0, _, _, _ => False
  | n41 + 1, U41, v41_1, v41_2 => (((qI U41 0 129).toInt ≤ v41_2.toInt → k33 U41 v41_1) ∧ (¬ (qI U41 0 129).toInt ≤ v41_2.toInt → (((0 : Int) ≤ v41_2.toInt ∧ v41_2.toInt < 1200) ∧ (((qI U41 81 v41_2.toInt.toNat).toInt = 0 → (((0 : Int) ≤ v41_2.toInt ∧ v41_2.toInt < 1200) ∧ (((qI U41 88 v41_2.toInt.toNat).toInt = 0 → w_sweep_J85 Q (w_sweep_L41 Q k33 n41) U41 v41_1 v41_2) ∧ (¬ (qI U41 88 v41_2.toInt.toNat).toInt = 0 → (∃ Q36, w_meetFrom U41 v41_2 Q36 ∧ ∀ r37 S38, Q36 r37 S38 → ((r37.toInt = 0 → ((v41_1.toInt = 0 → w_sweep_J84 Q (w_sweep_L41 Q k33 n41) S38 0 v41_2) ∧ (¬ v41_1.toInt = 0 → w_sweep_J79 Q (w_sweep_L41 Q k33 n41) S38 v41_2))) ∧ (¬ r37.toInt = 0 → w_sweep_J79 Q (w_sweep_L41 Q k33 n41) S38 v41_2))))))) ∧ (¬ (qI U41 81 v41_2.toInt.toNat).toInt = 0 → w_sweep_J85 Q (w_sweep_L41 Q k33 n41) U41 v41_1 v41_2)))))
def w_sweep_L33 (Q : Int32 → MS → Prop) : Nat → MS → Int32 → Prop
  | 0, _, _ => False
  | n33 + 1, U33, v33_1 => ((v33_1.toInt = 0 → (∃ n, w_sweep_L98 Q n U33 0 0)) ∧ (¬ v33_1.toInt = 0 → (∃ n, w_sweep_L41 Q (w_sweep_L33 Q n33) n U33 0 0)))
def w_sweep_L2 (Q : Int32 → MS → Prop) : Nat → MS → Int32 → Prop
  | 0, _, _ => False
  | n2 + 1, U2, v2_1 => (((qI U2 0 129).toInt ≤ v2_1.toInt → (∃ Q2, w_here U2 (0 : Int32) Q2 ∧ ∀ r3 S4, Q2 r3 S4 → (∃ Q6, w_meet S4 r3 Q6 ∧ ∀ r7 S8, Q6 r7 S8 → (∃ n, w_sweep_L33 Q n S8 r7)))) ∧ (¬ (qI U2 0 129).toInt ≤ v2_1.toInt → (((0 : Int) ≤ v2_1.toInt ∧ v2_1.toInt < 1200) ∧ (∀ S43, S43 = wI U2 88 v2_1.toInt.toNat (vp_nar .boolean (0 : Int32)) → (∀ a44 : Int32, a44 = (v2_1 + Int32.ofInt 1) → (w_sweep_L2 Q n2) S43 a44)))))
def w_sweep (S : MS) (Q : Int32 → MS → Prop) : Prop := (∃ n, w_sweep_L2 Q n S 0)
set_option maxHeartbeats 2000000 in
set_option maxRecDepth 100000 in
theorem r_sweep (l : Launch) (g : Gr) (ad : Nat → Nat) (sz : Nat) (S : MS) (hw : wfM S) (Q : Int32 → MS → Prop) (h : w_sweep S Q) : Met l yX14_sweep (wt2 yX14_sweep cX14_sweep 4 (some .boolean)) ({ frames := 3, cells := 0, slots := 0, locals := 67 }) (va_Pc [.ref (ad 0)] (st_R g ad sz S)) (va_Qi (fun (r : Int32) (u : MS) => Q r u ∧ wfM u ∧ shy S u ∧ (r = 0 ∨ r = 1)) (fun (u : MS) (t : State) => qE g ad (va_A (Wd g ad S) sz) u t) (va_A (Wd g ad S) sz)) 0 0 (va_A (Wd g ad S) sz) := by
  refine Met.ofW (cc := cX14_sweep) (maxL := 4) (ret := (some .boolean)) (by decide) rfl ?_
  intro p e s m args below meth c s₁ B hml hv
  obtain ⟨rfl, hsz, hP, hK, hD0, hex, hE⟩ := hv
  have hx := B.exec
  have hb := B.bytes
  have hr := B.returns
  have hts0 := atoms_spec (ws := wt2 yX14_sweep cX14_sweep 4 (some .boolean)) B.pre
  have hts : ∀ w ∈ tb2, w.before _ s = true := fun w h => hts0 w (List.mem_cons_of_mem _ h)
  have hown : s.vm.findClass RX14 = some m.cls := findClass_of_methodNamed B.named
  subst hsz
  have hD := hD0.self (sz := s.heap.size)
  generalize hAe : va_A (Wd g ad S) s.heap.size = A at hD hE ⊢
  have hA : ∀ q : Nat, s.heap.size ≤ q → A q := fun q h => by rw [← hAe]; exact Or.inr h
  have hR : Rep g ad A s S s.heap [] := ⟨hK, hP, hD, va_S.rf, hw⟩
  clear hK hP hD hD0
  have hl := lv_entry ([.ref (ad 0)]) (n := 4) (Nat.le_of_ble_eq_true rfl)
  rw [lg_entry_eq]
  generalize (lg_sl ([.ref (ad 0)]) ++ List.replicate (4 - (lg_sl ([.ref (ad 0)])).length) Slot.unset).toArray = ls at hl ⊢
  have hl : lv_has ls 4 [(0, .ref (ad 0))] := hl
  have hsh : shy S S := shy.rf
  unfold w_sweep at h
  refine lv_iconst (v := 0) hx hb dX14_sweep_0 (by decide) ?_
  refine lv_istore_n (lv' := [(1, .int 0), (0, .ref (ad 0))]) hx hb dX14_sweep_1 rfl hl (by decide) rfl (fun ls hl => ?_)
  have J_2 : ∀ (n2 : Nat) (U2 : MS) (v2_1 : Int32) (H : Heap) (locs : List Loc) (ls : Array Slot), w_sweep_L2 Q n2 U2 v2_1 → shy S U2 → Rep g ad A s U2 H locs → lv_has ls 4 [(0, .ref (ad 0)), (1, .int v2_1)] → W p l e (headSpec (wt2 yX14_sweep cX14_sweep 4 (some .boolean)) ({ frames := 3, cells := 0, slots := 0, locals := 67 })).room s m ([.ref (ad 0)] : List Value).toArray below meth c H locs 0 0 (MQ below (va_Qi (fun (r : Int32) (u : MS) => Q r u ∧ wfM u ∧ shy S u ∧ (r = 0 ∨ r = 1)) (fun (u : MS) (t : State) => qE g ad A u t) A) ([.ref (ad 0)] : List Value).toArray s 0 0 A) (F0 m 2 ls []) := by
    intro n2
    induction n2 with
    | zero => intro U2 v2_1 H locs ls h hsh hR hl; unfold w_sweep_L2 at h; exact h.elim
    | succ n2 ih_2 =>
      intro U2 v2_1 H locs ls h hsh hR hl
      unfold w_sweep_L2 at h
      refine lv_iload_n hx hb dX14_sweep_2 rfl (lv_at hl 1 rfl) ?_
      refine lv_aload_n hx hb dX14_sweep_3 rfl (lv_at hl 0 rfl) ?_
      refine va_get (D := rD g) (ci := 13) (v := .int (qI U2 0 129)) (C := RX14) (T := TX14) (N := 143) hx hb hts in2X14 hown hR.K hR.P 0 (hR.at14 hR.w.1) rfl 129 (by decide) (hts _ kx_691) (fun _ h9 => h9) rfl dX14_sweep_4 ?_
      refine lv_icmp_ge (tgt := 23) hx hb dX14_sweep_7 (by decide) (fun c1 => ?_) (fun c1 => ?_)
      · replace h := h.1 (k_le rfl rfl c1)
        refine lv_aload_n hx hb dX14_sweep_23 rfl (lv_at hl 0 rfl) ?_
        refine lv_aload_n hx hb dX14_sweep_24 rfl (lv_at hl 0 rfl) ?_
        refine lv_iconst (v := 0) hx hb dX14_sweep_25 (by decide) ?_
        obtain ⟨Q2, h0, h⟩ := h
        have hFc := rfree hR hA
        refine va_calli (va_runV (As := [.int 0]) (rest := [.ref (ad 0)]) ⟨hx, hb, hml, hown, hts⟩ (r_here l g ad H.size U2 (0 : Int32) hR.w  Q2 h0) (cwV 1 hts (gd2_V kx_693 kx_694 kx_695 kx_177 kx_696) rfl rfl rfl (by decide +kernel) ⟨Nat.le_of_ble_eq_true rfl, Nat.le_of_ble_eq_true rfl⟩) ⟨rblind, va_recv hR.K hR.P (ci := 13) (q0 := 0) rfl (hR.at14 hR.w.1), fun U hU hW9 => rmk hU hW9 hR hex hE hFc⟩ rfl rfl hl.1 rfl (lv_room (Nat.le_of_ble_eq_true rfl)) dX14_sweep_26 ⟨Nat.le_of_ble_eq_true rfl, Nat.le_of_ble_eq_true rfl⟩) hR.sS (fun q _ h => hFc q h) hFc (fun r3 S4 t9 H1 locs ht9 hvm9 hw9 hB9 hz9 hk9 hS => ?_)
        obtain ⟨hq5, hw9, hs9⟩ := hw9
        have hR : Rep g ad A s S4 H1 locs := hR.call ht9 hB9 hw9 hS hFc
        have hsh := hsh.tr hs9
        replace h := h r3 S4 hq5
        clear hB9 hz9 hk9 hvm9 ht9 hw9 hs9 hS
        generalize H1 = H at hR ⊢
        obtain ⟨Q6, h0, h⟩ := h
        have hFc := rfree hR hA
        refine va_calli (va_runV (As := [.int r3]) (rest := []) ⟨hx, hb, hml, hown, hts⟩ (r_meet l g ad H.size S4 r3 hR.w  Q6 h0) (cwV 1 hts (gd2_V kx_734 kx_735 kx_736 kx_177 kx_737) rfl rfl rfl (by decide +kernel) ⟨Nat.le_of_ble_eq_true rfl, Nat.le_of_ble_eq_true rfl⟩) ⟨rblind, va_recv hR.K hR.P (ci := 13) (q0 := 0) rfl (hR.at14 hR.w.1), fun U hU hW9 => rmk hU hW9 hR hex hE hFc⟩ rfl rfl hl.1 rfl (lv_room (Nat.le_of_ble_eq_true rfl)) dX14_sweep_29 ⟨Nat.le_of_ble_eq_true rfl, Nat.le_of_ble_eq_true rfl⟩) hR.sS (fun q _ h => hFc q h) hFc (fun r7 S8 t9 H1 locs ht9 hvm9 hw9 hB9 hz9 hk9 hS => ?_)
        obtain ⟨hq9, hw9, hs9, hz_r7⟩ := hw9
        have hR : Rep g ad A s S8 H1 locs := hR.call ht9 hB9 hw9 hS hFc
        have hsh := hsh.tr hs9
        replace h := h r7 S8 hq9
        clear hB9 hz9 hk9 hvm9 ht9 hw9 hs9 hS
        generalize H1 = H at hR ⊢
        refine lv_istore_n (lv' := [(1, .int r7), (0, .ref (ad 0))]) hx hb dX14_sweep_32 rfl hl (by decide) rfl (fun ls hl => ?_)
        have J_33 : ∀ (n33 : Nat) (U33 : MS) (v33_1 : Int32) (H : Heap) (locs : List Loc) (ls : Array Slot), w_sweep_L33 Q n33 U33 v33_1 → shy S U33 → Rep g ad A s U33 H locs → lv_has ls 4 [(0, .ref (ad 0)), (1, .int v33_1)] → W p l e (headSpec (wt2 yX14_sweep cX14_sweep 4 (some .boolean)) ({ frames := 3, cells := 0, slots := 0, locals := 67 })).room s m ([.ref (ad 0)] : List Value).toArray below meth c H locs 0 0 (MQ below (va_Qi (fun (r : Int32) (u : MS) => Q r u ∧ wfM u ∧ shy S u ∧ (r = 0 ∨ r = 1)) (fun (u : MS) (t : State) => qE g ad A u t) A) ([.ref (ad 0)] : List Value).toArray s 0 0 A) (F0 m 33 ls []) := by
          intro n33
          induction n33 with
          | zero => intro U33 v33_1 H locs ls h hsh hR hl; unfold w_sweep_L33 at h; exact h.elim
          | succ n33 ih_33 =>
            intro U33 v33_1 H locs ls h hsh hR hl
            unfold w_sweep_L33 at h
            refine lv_iload_n hx hb dX14_sweep_33 rfl (lv_at hl 1 rfl) ?_
            refine lv_if_eq (tgt := 94) hx hb dX14_sweep_34 (by decide) (fun c10 => ?_) (fun c10 => ?_)
            · replace h := h.1 (k_eq rfl (by decide) c10)
              refine lv_iconst (v := 0) hx hb dX14_sweep_94 (by decide) ?_
              refine lv_istore_n (lv' := [(2, .int 0), (0, .ref (ad 0)), (1, .int v33_1)]) hx hb dX14_sweep_95 rfl hl (by decide) rfl (fun ls hl => ?_)
              refine lv_iconst (v := 0) hx hb dX14_sweep_96 (by decide) ?_
              refine lv_istore_n (lv' := [(3, .int 0), (2, .int 0), (0, .ref (ad 0)), (1, .int v33_1)]) hx hb dX14_sweep_97 rfl hl (by decide) rfl (fun ls hl => ?_)
              have J_98 : ∀ (n98 : Nat) (U98 : MS) (v98_2 : Int32) (v98_3 : Int32) (H : Heap) (locs : List Loc) (ls : Array Slot), w_sweep_L98 Q n98 U98 v98_2 v98_3 → shy S U98 → Rep g ad A s U98 H locs → lv_has ls 4 [(0, .ref (ad 0)), (2, .int v98_2), (3, .int v98_3)] → W p l e (headSpec (wt2 yX14_sweep cX14_sweep 4 (some .boolean)) ({ frames := 3, cells := 0, slots := 0, locals := 67 })).room s m ([.ref (ad 0)] : List Value).toArray below meth c H locs 0 0 (MQ below (va_Qi (fun (r : Int32) (u : MS) => Q r u ∧ wfM u ∧ shy S u ∧ (r = 0 ∨ r = 1)) (fun (u : MS) (t : State) => qE g ad A u t) A) ([.ref (ad 0)] : List Value).toArray s 0 0 A) (F0 m 98 ls []) := by
                intro n98
                induction n98 with
                | zero => intro U98 v98_2 v98_3 H locs ls h hsh hR hl; unfold w_sweep_L98 at h; exact h.elim
                | succ n98 ih_98 =>
                  intro U98 v98_2 v98_3 H locs ls h hsh hR hl
                  unfold w_sweep_L98 at h
                  refine lv_iload_n hx hb dX14_sweep_98 rfl (lv_at hl 2 rfl) ?_
                  refine lv_aload_n hx hb dX14_sweep_99 rfl (lv_at hl 0 rfl) ?_
                  refine va_get (D := rD g) (ci := 13) (v := .int (qI U98 0 129)) (C := RX14) (T := TX14) (N := 143) hx hb hts in2X14 hown hR.K hR.P 0 (hR.at14 hR.w.1) rfl 129 (by decide) (hts _ kx_691) (fun _ h9 => h9) rfl dX14_sweep_100 ?_
                  refine lv_icmp_ge (tgt := 152) hx hb dX14_sweep_103 (by decide) (fun c11 => ?_) (fun c11 => ?_)
                  · replace h := h.1 (k_le rfl rfl c11)
                    refine lv_aload_n hx hb dX14_sweep_152 rfl (lv_at hl 0 rfl) ?_
                    obtain ⟨Q12, h0, h⟩ := h
                    have hFc := rfree hR hA
                    refine va_callv (va_runV (As := []) (rest := []) ⟨hx, hb, hml, hown, hts⟩ (r_mark l g ad H.size U98 hR.w  Q12 h0) (cwV 0 hts (gd2_V kx_716 kx_717 kx_718 kx_177 kx_719) rfl rfl rfl (by decide +kernel) ⟨Nat.le_of_ble_eq_true rfl, Nat.le_of_ble_eq_true rfl⟩) ⟨rblind, va_recv hR.K hR.P (ci := 13) (q0 := 0) rfl (hR.at14 hR.w.1), fun U hU hW9 => rmk hU hW9 hR hex hE hFc⟩ rfl rfl hl.1 rfl (lv_room (Nat.le_of_ble_eq_true rfl)) dX14_sweep_153 ⟨Nat.le_of_ble_eq_true rfl, Nat.le_of_ble_eq_true rfl⟩) hR.sS (fun q _ h => hFc q h) hFc (fun  S13 t9 H1 locs ht9 hvm9 hw9 hB9 hz9 hk9 hS => ?_)
                    obtain ⟨hq14, hw9, hs9⟩ := hw9
                    have hR : Rep g ad A s S13 H1 locs := hR.call ht9 hB9 hw9 hS hFc
                    have hsh := hsh.tr hs9
                    replace h := h  S13 hq14
                    clear hB9 hz9 hk9 hvm9 ht9 hw9 hs9 hS
                    generalize H1 = H at hR ⊢
                    refine lv_iload_n hx hb dX14_sweep_156 rfl (lv_at hl 1 rfl) ?_
                    obtain ⟨hv15, h⟩ := h
                    exact W.zret (v := v98_2) hx hb hr (nz hv15) (fun t9 ht9 hW9 => ⟨⟨_, S13, rfl, ⟨h, hR.w, hsh, hv15⟩, ⟨by rw [ht9]; exact hR.P, hR.D⟩⟩, hR.sS.F ht9⟩) hR.sS.2.2 dX14_sweep_157
                  · replace h := h.2 (k_nle rfl rfl c11)
                    refine lv_aload_n hx hb dX14_sweep_106 rfl (lv_at hl 0 rfl) ?_
                    refine va_get (D := rD g) (ci := 13) (v := .ref (ad 81)) (C := RX14) (T := TX14) (N := 143) hx hb hts in2X14 hown hR.K hR.P 0 (hR.at14 hR.w.1) rfl 128 (by decide) (hts _ kx_692) (fun _ h9 => h9) (congrArg (fun z => some (vf ad z)) (hR.w.2.1 _ fin_128).1) dX14_sweep_107 ?_
                    refine lv_iload_n hx hb dX14_sweep_110 rfl (lv_at hl 2 rfl) ?_
                    obtain ⟨hv16, h⟩ := h
                    refine va_zald hx hb hR.K hR.P 81 2 (hR.atZ (hR.w.2.1 _ fin_128).2.1) rfl (k_ixN (k_ix (n := 1200) (x := v98_3) (a := v98_3.toInt) rfl hv16) (hR.w.2.1 _ fin_128).2.2) dX14_sweep_111 ?_
                    refine lv_topi (fun z17 ez17 => ?_)
                    obtain rfl : z17 = (qI U98 81 v98_3.toInt.toNat) := ez17
                    have J_146 : ∀ (U146 : MS) (v146_2 : Int32) (v146_3 : Int32) (H : Heap) (locs : List Loc) (ls : Array Slot), w_sweep_J146 Q (w_sweep_L98 Q n98) U146 v146_2 v146_3 → shy S U146 → Rep g ad A s U146 H locs → lv_has ls 4 [(0, .ref (ad 0)), (2, .int v146_2), (3, .int v146_3)] → W p l e (headSpec (wt2 yX14_sweep cX14_sweep 4 (some .boolean)) ({ frames := 3, cells := 0, slots := 0, locals := 67 })).room s m ([.ref (ad 0)] : List Value).toArray below meth c H locs 0 0 (MQ below (va_Qi (fun (r : Int32) (u : MS) => Q r u ∧ wfM u ∧ shy S u ∧ (r = 0 ∨ r = 1)) (fun (u : MS) (t : State) => qE g ad A u t) A) ([.ref (ad 0)] : List Value).toArray s 0 0 A) (F0 m 146 ls []) := by
                      intro U146 v146_2 v146_3 H locs ls h hsh hR hl
                      unfold w_sweep_J146 at h
                      obtain ⟨a18, ea18⟩ : ∃ z, z = (v146_3 + Int32.ofInt 1) := ⟨_, rfl⟩
                      replace h := h a18 ea18
                      refine lv_iinc (v := a18) (lv' := [(3, .int a18), (0, .ref (ad 0)), (2, .int v146_2)]) hx hb dX14_sweep_146 hl (k := 2) rfl ea18.symm (by decide) rfl (fun ls hl => ?_)
                      refine lv_goto (tgt := 98) hx hb dX14_sweep_149 (by decide) ?_
                      exact ih_98 U146 v146_2 a18 _ _ ls h  hsh hR (lv_sub hl [1, 2, 0] rfl)
                    refine lv_if_ne (tgt := 146) hx hb dX14_sweep_112 (by decide) (fun c19 => ?_) (fun c19 => ?_)
                    · replace h := h.2 (k_ne rfl (by decide) c19)
                      exact J_146 U98 v98_2 v98_3 _ _ ls h  hsh hR (lv_sub hl [0, 1, 2] rfl)
                    · replace h := h.1 (k_eq rfl (by decide) c19)
                      refine lv_aload_n hx hb dX14_sweep_115 rfl (lv_at hl 0 rfl) ?_
                      refine va_get (D := rD g) (ci := 13) (v := .ref (ad 88)) (C := RX14) (T := TX14) (N := 143) hx hb hts in2X14 hown hR.K hR.P 0 (hR.at14 hR.w.1) rfl 137 (by decide) (hts _ kx_729) (fun _ h9 => h9) (congrArg (fun z => some (vf ad z)) (hR.w.2.1 _ fin_137).1) dX14_sweep_116 ?_
                      refine lv_iload_n hx hb dX14_sweep_119 rfl (lv_at hl 2 rfl) ?_
                      obtain ⟨hv20, h⟩ := h
                      refine va_zald hx hb hR.K hR.P 88 2 (hR.atZ (hR.w.2.1 _ fin_137).2.1) rfl (k_ixN (k_ix (n := 1200) (x := v98_3) (a := v98_3.toInt) rfl hv20) (hR.w.2.1 _ fin_137).2.2) dX14_sweep_120 ?_
                      refine lv_topi (fun z21 ez21 => ?_)
                      obtain rfl : z21 = (qI U98 88 v98_3.toInt.toNat) := ez21
                      refine lv_if_eq (tgt := 127) hx hb dX14_sweep_121 (by decide) (fun c22 => ?_) (fun c22 => ?_)
                      · replace h := h.1 (k_eq rfl (by decide) c22)
                        refine lv_aload_n hx hb dX14_sweep_127 rfl (lv_at hl 0 rfl) ?_
                        refine va_get (D := rD g) (ci := 13) (v := .ref (ad 81)) (C := RX14) (T := TX14) (N := 143) hx hb hts in2X14 hown hR.K hR.P 0 (hR.at14 hR.w.1) rfl 128 (by decide) (hts _ kx_692) (fun _ h9 => h9) (congrArg (fun z => some (vf ad z)) (hR.w.2.1 _ fin_128).1) dX14_sweep_128 ?_
                        refine lv_iload_n hx hb dX14_sweep_131 rfl (lv_at hl 2 rfl) ?_
                        refine lv_iconst (v := 1) hx hb dX14_sweep_132 (by decide) ?_
                        obtain ⟨hv23, h⟩ := h
                        refine va_zast hx hb hR.K hR.P hR.D hR.sS 81 2 (hR.atZ (hR.w.2.1 _ fin_128).2.1) rfl (k_ixN (k_ix (n := 1200) (x := v98_3) (a := v98_3.toInt) rfl hv23) (hR.w.2.1 _ fin_128).2.2) dX14_sweep_133 (fun H locs hP hD hS => ?_)
                        have hR : Rep g ad A s (wI U98 81 v98_3.toInt.toNat (vp_nar .boolean (1 : Int32))) H locs := hR.aZ (hR.w.2.1 _ fin_128).2.1 hP hD hS
                        obtain ⟨S24, eS24⟩ : ∃ z, z = wI U98 81 v98_3.toInt.toNat (vp_nar .boolean (1 : Int32)) := ⟨_, rfl⟩
                        rw [← eS24] at hR
                        replace h := h S24 eS24
                        have hsh : shy S S24 := by rw [eS24]; exact hsh
                        refine lv_aload_n hx hb dX14_sweep_134 rfl (lv_at hl 0 rfl) ?_
                        refine va_get (D := rD g) (ci := 13) (v := .ref (ad 77)) (C := RX14) (T := TX14) (N := 143) hx hb hts in2X14 hown hR.K hR.P 0 (hR.at14 hR.w.1) rfl 124 (by decide) (hts _ kx_728) (fun _ h9 => h9) (congrArg (fun z => some (vf ad z)) (hR.w.2.1 _ fin_124).1) dX14_sweep_135 ?_
                        refine lv_iconst (v := 1) hx hb dX14_sweep_138 (by decide) ?_
                        refine lv_dup2_11 hx hb dX14_sweep_139 rfl rfl ?_
                        refine va_iald hx hb hR.K hR.P 77 1 (hR.atI (hR.w.2.1 _ fin_124).2.1) rfl (k_ixN (k_ix (n := 12) (x := (1 : Int32)) (a := 1) (by decide) (by decide)) (hR.w.2.1 _ fin_124).2.2) dX14_sweep_140 ?_
                        refine lv_topi (fun z25 ez25 => ?_)
                        obtain rfl : z25 = (qI S24 77 1) := ez25
                        refine lv_iconst (v := 1) hx hb dX14_sweep_141 (by decide) ?_
                        refine lv_iadd hx hb dX14_sweep_142 ?_
                        refine lv_topi (fun z26 ez26 => ?_)
                        obtain rfl : z26 = ((qI S24 77 1) + (1 : Int32)) := ez26
                        refine va_iast hx hb hR.K hR.P hR.D hR.sS 77 1 (hR.atI (hR.w.2.1 _ fin_124).2.1) rfl (k_ixN (k_ix (n := 12) (x := (1 : Int32)) (a := 1) (by decide) (by decide)) (hR.w.2.1 _ fin_124).2.2) dX14_sweep_143 (fun H locs hP hD hS => ?_)
                        have hR : Rep g ad A s (wI S24 77 1 ((qI S24 77 1) + (1 : Int32))) H locs := hR.aI (hR.w.2.1 _ fin_124).2.1 hP hD hS
                        obtain ⟨S27, eS27⟩ : ∃ z, z = wI S24 77 1 ((qI S24 77 1) + (1 : Int32)) := ⟨_, rfl⟩
                        rw [← eS27] at hR
                        replace h := h S27 eS27
                        have hsh : shy S S27 := by rw [eS27]; exact hsh
                        refine lv_iconst (v := 1) hx hb dX14_sweep_144 (by decide) ?_
                        refine lv_istore_n (lv' := [(2, .int 1), (0, .ref (ad 0)), (3, .int v98_3)]) hx hb dX14_sweep_145 rfl hl (by decide) rfl (fun ls hl => ?_)
                        exact J_146 S27 1 v98_3 _ _ ls h  hsh hR (lv_sub hl [1, 0, 2] rfl)
                      · replace h := h.2 (k_ne rfl (by decide) c22)
                        refine lv_goto (tgt := 146) hx hb dX14_sweep_124 (by decide) ?_
                        exact J_146 U98 v98_2 v98_3 _ _ ls h  hsh hR (lv_sub hl [0, 1, 2] rfl)
              obtain ⟨n9, h⟩ := h
              exact J_98 n9 U33 0 0 _ _ ls h  hsh hR (lv_sub hl [2, 1, 0] rfl)
            · replace h := h.2 (k_ne rfl (by decide) c10)
              refine lv_iconst (v := 0) hx hb dX14_sweep_37 (by decide) ?_
              refine lv_istore_n (lv' := [(1, .int 0), (0, .ref (ad 0))]) hx hb dX14_sweep_38 rfl hl (by decide) rfl (fun ls hl => ?_)
              refine lv_iconst (v := 0) hx hb dX14_sweep_39 (by decide) ?_
              refine lv_istore_n (lv' := [(2, .int 0), (1, .int 0), (0, .ref (ad 0))]) hx hb dX14_sweep_40 rfl hl (by decide) rfl (fun ls hl => ?_)
              have J_41 : ∀ (n41 : Nat) (U41 : MS) (v41_1 : Int32) (v41_2 : Int32) (H : Heap) (locs : List Loc) (ls : Array Slot), w_sweep_L41 Q (w_sweep_L33 Q n33) n41 U41 v41_1 v41_2 → shy S U41 → Rep g ad A s U41 H locs → lv_has ls 4 [(0, .ref (ad 0)), (1, .int v41_1), (2, .int v41_2)] → W p l e (headSpec (wt2 yX14_sweep cX14_sweep 4 (some .boolean)) ({ frames := 3, cells := 0, slots := 0, locals := 67 })).room s m ([.ref (ad 0)] : List Value).toArray below meth c H locs 0 0 (MQ below (va_Qi (fun (r : Int32) (u : MS) => Q r u ∧ wfM u ∧ shy S u ∧ (r = 0 ∨ r = 1)) (fun (u : MS) (t : State) => qE g ad A u t) A) ([.ref (ad 0)] : List Value).toArray s 0 0 A) (F0 m 41 ls []) := by
                intro n41
                induction n41 with
                | zero => intro U41 v41_1 v41_2 H locs ls h hsh hR hl; unfold w_sweep_L41 at h; exact h.elim
                | succ n41 ih_41 =>
                  intro U41 v41_1 v41_2 H locs ls h hsh hR hl
                  unfold w_sweep_L41 at h
                  refine lv_iload_n hx hb dX14_sweep_41 rfl (lv_at hl 2 rfl) ?_
                  refine lv_aload_n hx hb dX14_sweep_42 rfl (lv_at hl 0 rfl) ?_
                  refine va_get (D := rD g) (ci := 13) (v := .int (qI U41 0 129)) (C := RX14) (T := TX14) (N := 143) hx hb hts in2X14 hown hR.K hR.P 0 (hR.at14 hR.w.1) rfl 129 (by decide) (hts _ kx_691) (fun _ h9 => h9) rfl dX14_sweep_43 ?_
                  refine lv_icmp_ge (tgt := 91) hx hb dX14_sweep_46 (by decide) (fun c28 => ?_) (fun c28 => ?_)
                  · replace h := h.1 (k_le rfl rfl c28)
                    refine lv_goto (tgt := 33) hx hb dX14_sweep_91 (by decide) ?_
                    exact ih_33 U41 v41_1 _ _ ls h  hsh hR (lv_sub hl [0, 1] rfl)
                  · replace h := h.2 (k_nle rfl rfl c28)
                    refine lv_aload_n hx hb dX14_sweep_49 rfl (lv_at hl 0 rfl) ?_
                    refine va_get (D := rD g) (ci := 13) (v := .ref (ad 81)) (C := RX14) (T := TX14) (N := 143) hx hb hts in2X14 hown hR.K hR.P 0 (hR.at14 hR.w.1) rfl 128 (by decide) (hts _ kx_692) (fun _ h9 => h9) (congrArg (fun z => some (vf ad z)) (hR.w.2.1 _ fin_128).1) dX14_sweep_50 ?_
                    refine lv_iload_n hx hb dX14_sweep_53 rfl (lv_at hl 2 rfl) ?_
                    obtain ⟨hv29, h⟩ := h
                    refine va_zald hx hb hR.K hR.P 81 2 (hR.atZ (hR.w.2.1 _ fin_128).2.1) rfl (k_ixN (k_ix (n := 1200) (x := v41_2) (a := v41_2.toInt) rfl hv29) (hR.w.2.1 _ fin_128).2.2) dX14_sweep_54 ?_
                    refine lv_topi (fun z30 ez30 => ?_)
                    obtain rfl : z30 = (qI U41 81 v41_2.toInt.toNat) := ez30
                    have J_85 : ∀ (U85 : MS) (v85_1 : Int32) (v85_2 : Int32) (H : Heap) (locs : List Loc) (ls : Array Slot), w_sweep_J85 Q (w_sweep_L41 Q (w_sweep_L33 Q n33) n41) U85 v85_1 v85_2 → shy S U85 → Rep g ad A s U85 H locs → lv_has ls 4 [(0, .ref (ad 0)), (1, .int v85_1), (2, .int v85_2)] → W p l e (headSpec (wt2 yX14_sweep cX14_sweep 4 (some .boolean)) ({ frames := 3, cells := 0, slots := 0, locals := 67 })).room s m ([.ref (ad 0)] : List Value).toArray below meth c H locs 0 0 (MQ below (va_Qi (fun (r : Int32) (u : MS) => Q r u ∧ wfM u ∧ shy S u ∧ (r = 0 ∨ r = 1)) (fun (u : MS) (t : State) => qE g ad A u t) A) ([.ref (ad 0)] : List Value).toArray s 0 0 A) (F0 m 85 ls []) := by
                      intro U85 v85_1 v85_2 H locs ls h hsh hR hl
                      unfold w_sweep_J85 at h
                      obtain ⟨a31, ea31⟩ : ∃ z, z = (v85_2 + Int32.ofInt 1) := ⟨_, rfl⟩
                      replace h := h a31 ea31
                      refine lv_iinc (v := a31) (lv' := [(2, .int a31), (0, .ref (ad 0)), (1, .int v85_1)]) hx hb dX14_sweep_85 hl (k := 2) rfl ea31.symm (by decide) rfl (fun ls hl => ?_)
                      refine lv_goto (tgt := 41) hx hb dX14_sweep_88 (by decide) ?_
                      exact ih_41 U85 v85_1 a31 _ _ ls h  hsh hR (lv_sub hl [1, 2, 0] rfl)
                    refine lv_if_ne (tgt := 85) hx hb dX14_sweep_55 (by decide) (fun c32 => ?_) (fun c32 => ?_)
                    · replace h := h.2 (k_ne rfl (by decide) c32)
                      exact J_85 U41 v41_1 v41_2 _ _ ls h  hsh hR (lv_sub hl [0, 1, 2] rfl)
                    · replace h := h.1 (k_eq rfl (by decide) c32)
                      refine lv_aload_n hx hb dX14_sweep_58 rfl (lv_at hl 0 rfl) ?_
                      refine va_get (D := rD g) (ci := 13) (v := .ref (ad 88)) (C := RX14) (T := TX14) (N := 143) hx hb hts in2X14 hown hR.K hR.P 0 (hR.at14 hR.w.1) rfl 137 (by decide) (hts _ kx_729) (fun _ h9 => h9) (congrArg (fun z => some (vf ad z)) (hR.w.2.1 _ fin_137).1) dX14_sweep_59 ?_
                      refine lv_iload_n hx hb dX14_sweep_62 rfl (lv_at hl 2 rfl) ?_
                      obtain ⟨hv33, h⟩ := h
                      refine va_zald hx hb hR.K hR.P 88 2 (hR.atZ (hR.w.2.1 _ fin_137).2.1) rfl (k_ixN (k_ix (n := 1200) (x := v41_2) (a := v41_2.toInt) rfl hv33) (hR.w.2.1 _ fin_137).2.2) dX14_sweep_63 ?_
                      refine lv_topi (fun z34 ez34 => ?_)
                      obtain rfl : z34 = (qI U41 88 v41_2.toInt.toNat) := ez34
                      refine lv_if_eq (tgt := 85) hx hb dX14_sweep_64 (by decide) (fun c35 => ?_) (fun c35 => ?_)
                      · replace h := h.1 (k_eq rfl (by decide) c35)
                        exact J_85 U41 v41_1 v41_2 _ _ ls h  hsh hR (lv_sub hl [0, 1, 2] rfl)
                      · replace h := h.2 (k_ne rfl (by decide) c35)
                        refine lv_aload_n hx hb dX14_sweep_67 rfl (lv_at hl 0 rfl) ?_
                        refine lv_iload_n hx hb dX14_sweep_68 rfl (lv_at hl 2 rfl) ?_
                        obtain ⟨Q36, h0, h⟩ := h
                        have hFc := rfree hR hA
                        refine va_calli (va_runV (As := [.int v41_2]) (rest := []) ⟨hx, hb, hml, hown, hts⟩ (r_meetFrom l g ad H.size U41 v41_2 hR.w  Q36 h0) (cwV 1 hts (gd2_V kx_738 kx_739 kx_740 kx_177 kx_741) rfl rfl rfl (by decide +kernel) ⟨Nat.le_of_ble_eq_true rfl, Nat.le_of_ble_eq_true rfl⟩) ⟨rblind, va_recv hR.K hR.P (ci := 13) (q0 := 0) rfl (hR.at14 hR.w.1), fun U hU hW9 => rmk hU hW9 hR hex hE hFc⟩ rfl rfl hl.1 rfl (lv_room (Nat.le_of_ble_eq_true rfl)) dX14_sweep_69 ⟨Nat.le_of_ble_eq_true rfl, Nat.le_of_ble_eq_true rfl⟩) hR.sS (fun q _ h => hFc q h) hFc (fun r37 S38 t9 H1 locs ht9 hvm9 hw9 hB9 hz9 hk9 hS => ?_)
                        obtain ⟨hq39, hw9, hs9, hz_r37⟩ := hw9
                        have hR : Rep g ad A s S38 H1 locs := hR.call ht9 hB9 hw9 hS hFc
                        have hsh := hsh.tr hs9
                        replace h := h r37 S38 hq39
                        clear hB9 hz9 hk9 hvm9 ht9 hw9 hs9 hS
                        generalize H1 = H at hR ⊢
                        have J_84 : ∀ (U84 : MS) (t84_0 : Int32) (v84_2 : Int32) (H : Heap) (locs : List Loc) (ls : Array Slot), w_sweep_J84 Q (w_sweep_L41 Q (w_sweep_L33 Q n33) n41) U84 t84_0 v84_2 → (t84_0 = 0 ∨ t84_0 = 1) → shy S U84 → Rep g ad A s U84 H locs → lv_has ls 4 [(0, .ref (ad 0)), (2, .int v84_2)] → W p l e (headSpec (wt2 yX14_sweep cX14_sweep 4 (some .boolean)) ({ frames := 3, cells := 0, slots := 0, locals := 67 })).room s m ([.ref (ad 0)] : List Value).toArray below meth c H locs 0 0 (MQ below (va_Qi (fun (r : Int32) (u : MS) => Q r u ∧ wfM u ∧ shy S u ∧ (r = 0 ∨ r = 1)) (fun (u : MS) (t : State) => qE g ad A u t) A) ([.ref (ad 0)] : List Value).toArray s 0 0 A) (F0 m 84 ls [.int t84_0]) := by
                          intro U84 t84_0 v84_2 H locs ls h hz_t84_0 hsh hR hl
                          unfold w_sweep_J84 at h
                          refine lv_istore_n (lv' := [(1, .int t84_0), (0, .ref (ad 0)), (2, .int v84_2)]) hx hb dX14_sweep_84 rfl hl (by decide) rfl (fun ls hl => ?_)
                          exact J_85 U84 t84_0 v84_2 _ _ ls h  hsh hR (lv_sub hl [1, 0, 2] rfl)
                        have J_79 : ∀ (U79 : MS) (v79_2 : Int32) (H : Heap) (locs : List Loc) (ls : Array Slot), w_sweep_J79 Q (w_sweep_L41 Q (w_sweep_L33 Q n33) n41) U79 v79_2 → shy S U79 → Rep g ad A s U79 H locs → lv_has ls 4 [(0, .ref (ad 0)), (2, .int v79_2)] → W p l e (headSpec (wt2 yX14_sweep cX14_sweep 4 (some .boolean)) ({ frames := 3, cells := 0, slots := 0, locals := 67 })).room s m ([.ref (ad 0)] : List Value).toArray below meth c H locs 0 0 (MQ below (va_Qi (fun (r : Int32) (u : MS) => Q r u ∧ wfM u ∧ shy S u ∧ (r = 0 ∨ r = 1)) (fun (u : MS) (t : State) => qE g ad A u t) A) ([.ref (ad 0)] : List Value).toArray s 0 0 A) (F0 m 79 ls []) := by
                          intro U79 v79_2 H locs ls h hsh hR hl
                          unfold w_sweep_J79 at h
                          refine lv_iconst (v := 1) hx hb dX14_sweep_79 (by decide) ?_
                          refine lv_goto (tgt := 84) hx hb dX14_sweep_80 (by decide) ?_
                          exact J_84 U79 1 v79_2 _ _ ls h (Or.inr rfl) hsh hR (lv_sub hl [0, 1] rfl)
                        refine lv_if_ne (tgt := 79) hx hb dX14_sweep_72 (by decide) (fun c40 => ?_) (fun c40 => ?_)
                        · replace h := h.2 (k_ne rfl (by decide) c40)
                          exact J_79 S38 v41_2 _ _ ls h  hsh hR (lv_sub hl [0, 2] rfl)
                        · replace h := h.1 (k_eq rfl (by decide) c40)
                          refine lv_iload_n hx hb dX14_sweep_75 rfl (lv_at hl 1 rfl) ?_
                          refine lv_if_eq (tgt := 83) hx hb dX14_sweep_76 (by decide) (fun c41 => ?_) (fun c41 => ?_)
                          · replace h := h.1 (k_eq rfl (by decide) c41)
                            refine lv_iconst (v := 0) hx hb dX14_sweep_83 (by decide) ?_
                            exact J_84 S38 0 v41_2 _ _ ls h (Or.inl rfl) hsh hR (lv_sub hl [0, 2] rfl)
                          · replace h := h.2 (k_ne rfl (by decide) c41)
                            exact J_79 S38 v41_2 _ _ ls h  hsh hR (lv_sub hl [0, 2] rfl)
              obtain ⟨n9, h⟩ := h
              exact J_41 n9 U33 0 0 _ _ ls h  hsh hR (lv_sub hl [2, 1, 0] rfl)
        obtain ⟨n9, h⟩ := h
        exact J_33 n9 S8 r7 _ _ ls h  hsh hR (lv_sub hl [1, 0] rfl)
      · replace h := h.2 (k_nle rfl rfl c1)
        refine lv_aload_n hx hb dX14_sweep_10 rfl (lv_at hl 0 rfl) ?_
        refine va_get (D := rD g) (ci := 13) (v := .ref (ad 88)) (C := RX14) (T := TX14) (N := 143) hx hb hts in2X14 hown hR.K hR.P 0 (hR.at14 hR.w.1) rfl 137 (by decide) (hts _ kx_729) (fun _ h9 => h9) (congrArg (fun z => some (vf ad z)) (hR.w.2.1 _ fin_137).1) dX14_sweep_11 ?_
        refine lv_iload_n hx hb dX14_sweep_14 rfl (lv_at hl 1 rfl) ?_
        refine lv_iconst (v := 0) hx hb dX14_sweep_15 (by decide) ?_
        obtain ⟨hv42, h⟩ := h
        refine va_zast hx hb hR.K hR.P hR.D hR.sS 88 2 (hR.atZ (hR.w.2.1 _ fin_137).2.1) rfl (k_ixN (k_ix (n := 1200) (x := v2_1) (a := v2_1.toInt) rfl hv42) (hR.w.2.1 _ fin_137).2.2) dX14_sweep_16 (fun H locs hP hD hS => ?_)
        have hR : Rep g ad A s (wI U2 88 v2_1.toInt.toNat (vp_nar .boolean (0 : Int32))) H locs := hR.aZ (hR.w.2.1 _ fin_137).2.1 hP hD hS
        obtain ⟨S43, eS43⟩ : ∃ z, z = wI U2 88 v2_1.toInt.toNat (vp_nar .boolean (0 : Int32)) := ⟨_, rfl⟩
        rw [← eS43] at hR
        replace h := h S43 eS43
        have hsh : shy S S43 := by rw [eS43]; exact hsh
        obtain ⟨a44, ea44⟩ : ∃ z, z = (v2_1 + Int32.ofInt 1) := ⟨_, rfl⟩
        replace h := h a44 ea44
        refine lv_iinc (v := a44) (lv' := [(1, .int a44), (0, .ref (ad 0))]) hx hb dX14_sweep_17 hl (k := 1) rfl ea44.symm (by decide) rfl (fun ls hl => ?_)
        refine lv_goto (tgt := 2) hx hb dX14_sweep_20 (by decide) ?_
        exact ih_2 S43 a44 _ _ ls h  hsh hR (lv_sub hl [1, 0] rfl)
  obtain ⟨n9, h⟩ := h
  exact J_2 n9 S 0 _ _ ls h  hsh hR (lv_sub hl [1, 0] rfl)
def w_leads_L12 (Q : Int32 → MS → Prop) : Nat → MS → Int32 → Prop
  | 0, _, _ => False
  | n12 + 1, U12, v12_2 => (((0 : Int) ≤ v12_2.toInt ∧ v12_2.toInt < 1200) ∧ (((qI U12 78 v12_2.toInt.toNat).toInt = 167 → (((0 : Int) ≤ v12_2.toInt ∧ v12_2.toInt < 1200) ∧ (((qI U12 89 v12_2.toInt.toNat).toInt = (qI U12 0 139).toInt → Q (-1 : Int32) U12) ∧ (¬ (qI U12 89 v12_2.toInt.toNat).toInt = (qI U12 0 139).toInt → (((0 : Int) ≤ v12_2.toInt ∧ v12_2.toInt < 1200) ∧ (∀ S10, S10 = wI U12 89 v12_2.toInt.toNat (qI U12 0 139) → (∃ Q11, w_wayOf S10 v12_2 (0 : Int32) Q11 ∧ ∀ r12 S13, Q11 r12 S13 → (w_leads_L12 Q n12) S13 r12))))))) ∧ (¬ (qI U12 78 v12_2.toInt.toNat).toInt = 167 → Q v12_2 U12)))
def w_leads (S : MS) (x1 : Int32) (Q : Int32 → MS → Prop) : Prop := (∀ S2, S2 = wI S 0 139 ((qI S 0 139) + (1 : Int32)) → (∃ n, w_leads_L12 Q n S2 x1))
set_option maxHeartbeats 2000000 in
set_option maxRecDepth 100000 in
theorem r_leads (l : Launch) (g : Gr) (ad : Nat → Nat) (sz : Nat) (S : MS) (x1 : Int32) (hw : wfM S) (Q : Int32 → MS → Prop) (h : w_leads S x1 Q) : Met l yX14_leads (wt2 yX14_leads cX14_leads 3 (some .int)) ({ frames := 2, cells := 0, slots := 0, locals := 44 }) (va_Pc [.ref (ad 0), .int x1] (st_R g ad sz S)) (va_Qi (fun (r : Int32) (u : MS) => Q r u ∧ wfM u ∧ shy S u) (fun (u : MS) (t : State) => qE g ad (va_A (Wd g ad S) sz) u t) (va_A (Wd g ad S) sz)) 0 0 (va_A (Wd g ad S) sz) := by
  refine Met.ofW (cc := cX14_leads) (maxL := 3) (ret := (some .int)) (by decide) rfl ?_
  intro p e s m args below meth c s₁ B hml hv
  obtain ⟨rfl, hsz, hP, hK, hD0, hex, hE⟩ := hv
  have hx := B.exec
  have hb := B.bytes
  have hr := B.returns
  have hts0 := atoms_spec (ws := wt2 yX14_leads cX14_leads 3 (some .int)) B.pre
  have hts : ∀ w ∈ tb2, w.before _ s = true := fun w h => hts0 w (List.mem_cons_of_mem _ h)
  have hown : s.vm.findClass RX14 = some m.cls := findClass_of_methodNamed B.named
  subst hsz
  have hD := hD0.self (sz := s.heap.size)
  generalize hAe : va_A (Wd g ad S) s.heap.size = A at hD hE ⊢
  have hA : ∀ q : Nat, s.heap.size ≤ q → A q := fun q h => by rw [← hAe]; exact Or.inr h
  have hR : Rep g ad A s S s.heap [] := ⟨hK, hP, hD, va_S.rf, hw⟩
  clear hK hP hD hD0
  have hl := lv_entry ([.ref (ad 0), .int x1]) (n := 3) (Nat.le_of_ble_eq_true rfl)
  rw [lg_entry_eq]
  generalize (lg_sl ([.ref (ad 0), .int x1]) ++ List.replicate (3 - (lg_sl ([.ref (ad 0), .int x1])).length) Slot.unset).toArray = ls at hl ⊢
  have hl : lv_has ls 3 [(0, .ref (ad 0)), (1, .int x1)] := hl
  have hsh : shy S S := shy.rf
  unfold w_leads at h
  refine lv_aload_n hx hb dX14_leads_0 rfl (lv_at hl 0 rfl) ?_
  refine lv_dup hx hb dX14_leads_1 rfl ?_
  refine va_get (D := rD g) (ci := 13) (v := .int (qI S 0 139)) (C := RX14) (T := TX14) (N := 143) hx hb hts in2X14 hown hR.K hR.P 0 (hR.at14 hR.w.1) rfl 139 (by decide) (hts _ kx_742) (fun _ h9 => h9) rfl dX14_leads_2 ?_
  refine lv_iconst (v := 1) hx hb dX14_leads_5 (by decide) ?_
  refine lv_iadd hx hb dX14_leads_6 ?_
  refine lv_topi (fun z1 ez1 => ?_)
  obtain rfl : z1 = ((qI S 0 139) + (1 : Int32)) := ez1
  refine va_put (D := rD g) (ci := 13) (v := .int ((qI S 0 139) + (1 : Int32))) (ty := .int) (C := RX14) (T := TX14) (N := 143) hx hb hts in2X14 tyX14 tyX14_ok nmX14 hown hR.K hR.P hR.D hR.sS 0 (hR.at14 hR.w.1) rfl 139 (by decide) (hts _ kx_742) (fun _ h9 => h9) rfl (by decide +kernel) rfl rfl (Nat.le_of_ble_eq_true rfl) dX14_leads_7 (fun H locs hP hD hS => ?_)
  have hR : Rep g ad A s (wI S 0 139 ((qI S 0 139) + (1 : Int32))) H locs := hR.pI hR.w.1 F14_s139 hP hD hS
  obtain ⟨S2, eS2⟩ : ∃ z, z = wI S 0 139 ((qI S 0 139) + (1 : Int32)) := ⟨_, rfl⟩
  rw [← eS2] at hR
  replace h := h S2 eS2
  have hsh : shy S S2 := by rw [eS2]; exact hsh
  refine lv_iload_n hx hb dX14_leads_10 rfl (lv_at hl 1 rfl) ?_
  refine lv_istore_n (lv' := [(2, .int x1), (0, .ref (ad 0)), (1, .int x1)]) hx hb dX14_leads_11 rfl hl (by decide) rfl (fun ls hl => ?_)
  have J_12 : ∀ (n12 : Nat) (U12 : MS) (v12_2 : Int32) (H : Heap) (locs : List Loc) (ls : Array Slot), w_leads_L12 Q n12 U12 v12_2 → shy S U12 → Rep g ad A s U12 H locs → lv_has ls 3 [(0, .ref (ad 0)), (2, .int v12_2)] → W p l e (headSpec (wt2 yX14_leads cX14_leads 3 (some .int)) ({ frames := 2, cells := 0, slots := 0, locals := 44 })).room s m ([.ref (ad 0), .int x1] : List Value).toArray below meth c H locs 0 0 (MQ below (va_Qi (fun (r : Int32) (u : MS) => Q r u ∧ wfM u ∧ shy S u) (fun (u : MS) (t : State) => qE g ad A u t) A) ([.ref (ad 0), .int x1] : List Value).toArray s 0 0 A) (F0 m 12 ls []) := by
    intro n12
    induction n12 with
    | zero => intro U12 v12_2 H locs ls h hsh hR hl; unfold w_leads_L12 at h; exact h.elim
    | succ n12 ih_12 =>
      intro U12 v12_2 H locs ls h hsh hR hl
      unfold w_leads_L12 at h
      refine lv_aload_n hx hb dX14_leads_12 rfl (lv_at hl 0 rfl) ?_
      refine va_get (D := rD g) (ci := 13) (v := .ref (ad 78)) (C := RX14) (T := TX14) (N := 143) hx hb hts in2X14 hown hR.K hR.P 0 (hR.at14 hR.w.1) rfl 125 (by decide) (hts _ kx_697) (fun _ h9 => h9) (congrArg (fun z => some (vf ad z)) (hR.w.2.1 _ fin_125).1) dX14_leads_13 ?_
      refine lv_iload_n hx hb dX14_leads_16 rfl (lv_at hl 1 rfl) ?_
      obtain ⟨hv3, h⟩ := h
      refine va_iald hx hb hR.K hR.P 78 1 (hR.atI (hR.w.2.1 _ fin_125).2.1) rfl (k_ixN (k_ix (n := 1200) (x := v12_2) (a := v12_2.toInt) rfl hv3) (hR.w.2.1 _ fin_125).2.2) dX14_leads_17 ?_
      refine lv_topi (fun z4 ez4 => ?_)
      obtain rfl : z4 = (qI U12 78 v12_2.toInt.toNat) := ez4
      refine lv_sipush (v := 167) hx hb dX14_leads_18 (by decide) ?_
      refine lv_icmp_ne (tgt := 59) hx hb dX14_leads_21 (by decide) (fun c5 => ?_) (fun c5 => ?_)
      · replace h := h.2 (k_ne rfl (by decide) c5)
        refine lv_iload_n hx hb dX14_leads_59 rfl (lv_at hl 1 rfl) ?_
        exact W.iret (v := v12_2) hx hb hr (fun t9 ht9 hW9 => ⟨⟨_, U12, rfl, ⟨h, hR.w, hsh⟩, ⟨by rw [ht9]; exact hR.P, hR.D⟩⟩, hR.sS.F ht9⟩) hR.sS.2.2 dX14_leads_60
      · replace h := h.1 (k_eq rfl (by decide) c5)
        refine lv_aload_n hx hb dX14_leads_24 rfl (lv_at hl 0 rfl) ?_
        refine va_get (D := rD g) (ci := 13) (v := .ref (ad 89)) (C := RX14) (T := TX14) (N := 143) hx hb hts in2X14 hown hR.K hR.P 0 (hR.at14 hR.w.1) rfl 138 (by decide) (hts _ kx_743) (fun _ h9 => h9) (congrArg (fun z => some (vf ad z)) (hR.w.2.1 _ fin_138).1) dX14_leads_25 ?_
        refine lv_iload_n hx hb dX14_leads_28 rfl (lv_at hl 1 rfl) ?_
        obtain ⟨hv6, h⟩ := h
        refine va_iald hx hb hR.K hR.P 89 1 (hR.atI (hR.w.2.1 _ fin_138).2.1) rfl (k_ixN (k_ix (n := 1200) (x := v12_2) (a := v12_2.toInt) rfl hv6) (hR.w.2.1 _ fin_138).2.2) dX14_leads_29 ?_
        refine lv_topi (fun z7 ez7 => ?_)
        obtain rfl : z7 = (qI U12 89 v12_2.toInt.toNat) := ez7
        refine lv_aload_n hx hb dX14_leads_30 rfl (lv_at hl 0 rfl) ?_
        refine va_get (D := rD g) (ci := 13) (v := .int (qI U12 0 139)) (C := RX14) (T := TX14) (N := 143) hx hb hts in2X14 hown hR.K hR.P 0 (hR.at14 hR.w.1) rfl 139 (by decide) (hts _ kx_742) (fun _ h9 => h9) rfl dX14_leads_31 ?_
        refine lv_icmp_ne (tgt := 39) hx hb dX14_leads_34 (by decide) (fun c8 => ?_) (fun c8 => ?_)
        · replace h := h.2 (k_ne rfl rfl c8)
          refine lv_aload_n hx hb dX14_leads_39 rfl (lv_at hl 0 rfl) ?_
          refine va_get (D := rD g) (ci := 13) (v := .ref (ad 89)) (C := RX14) (T := TX14) (N := 143) hx hb hts in2X14 hown hR.K hR.P 0 (hR.at14 hR.w.1) rfl 138 (by decide) (hts _ kx_743) (fun _ h9 => h9) (congrArg (fun z => some (vf ad z)) (hR.w.2.1 _ fin_138).1) dX14_leads_40 ?_
          refine lv_iload_n hx hb dX14_leads_43 rfl (lv_at hl 1 rfl) ?_
          refine lv_aload_n hx hb dX14_leads_44 rfl (lv_at hl 0 rfl) ?_
          refine va_get (D := rD g) (ci := 13) (v := .int (qI U12 0 139)) (C := RX14) (T := TX14) (N := 143) hx hb hts in2X14 hown hR.K hR.P 0 (hR.at14 hR.w.1) rfl 139 (by decide) (hts _ kx_742) (fun _ h9 => h9) rfl dX14_leads_45 ?_
          obtain ⟨hv9, h⟩ := h
          refine va_iast hx hb hR.K hR.P hR.D hR.sS 89 1 (hR.atI (hR.w.2.1 _ fin_138).2.1) rfl (k_ixN (k_ix (n := 1200) (x := v12_2) (a := v12_2.toInt) rfl hv9) (hR.w.2.1 _ fin_138).2.2) dX14_leads_48 (fun H locs hP hD hS => ?_)
          have hR : Rep g ad A s (wI U12 89 v12_2.toInt.toNat (qI U12 0 139)) H locs := hR.aI (hR.w.2.1 _ fin_138).2.1 hP hD hS
          obtain ⟨S10, eS10⟩ : ∃ z, z = wI U12 89 v12_2.toInt.toNat (qI U12 0 139) := ⟨_, rfl⟩
          rw [← eS10] at hR
          replace h := h S10 eS10
          have hsh : shy S S10 := by rw [eS10]; exact hsh
          refine lv_aload_n hx hb dX14_leads_49 rfl (lv_at hl 0 rfl) ?_
          refine lv_iload_n hx hb dX14_leads_50 rfl (lv_at hl 1 rfl) ?_
          refine lv_iconst (v := 0) hx hb dX14_leads_51 (by decide) ?_
          obtain ⟨Q11, h0, h⟩ := h
          have hFc := rfree hR hA
          refine va_calli (va_runV (As := [.int v12_2, .int 0]) (rest := []) ⟨hx, hb, hml, hown, hts⟩ (r_wayOf l g ad H.size S10 v12_2 (0 : Int32) hR.w  Q11 h0) (cwV 2 hts (gd2_V kx_711 kx_712 kx_713 kx_177 kx_714) rfl rfl rfl (by decide +kernel) ⟨Nat.le_of_ble_eq_true rfl, Nat.le_of_ble_eq_true rfl⟩) ⟨rblind, va_recv hR.K hR.P (ci := 13) (q0 := 0) rfl (hR.at14 hR.w.1), fun U hU hW9 => rmk hU hW9 hR hex hE hFc⟩ rfl rfl hl.1 rfl (lv_room (Nat.le_of_ble_eq_true rfl)) dX14_leads_52 ⟨Nat.le_of_ble_eq_true rfl, Nat.le_of_ble_eq_true rfl⟩) hR.sS (fun q _ h => hFc q h) hFc (fun r12 S13 t9 H1 locs ht9 hvm9 hw9 hB9 hz9 hk9 hS => ?_)
          obtain ⟨hq14, hw9, hs9⟩ := hw9
          have hR : Rep g ad A s S13 H1 locs := hR.call ht9 hB9 hw9 hS hFc
          have hsh := hsh.tr hs9
          replace h := h r12 S13 hq14
          clear hB9 hz9 hk9 hvm9 ht9 hw9 hs9 hS
          generalize H1 = H at hR ⊢
          refine lv_istore_n (lv' := [(2, .int r12), (0, .ref (ad 0))]) hx hb dX14_leads_55 rfl hl (by decide) rfl (fun ls hl => ?_)
          refine lv_goto (tgt := 12) hx hb dX14_leads_56 (by decide) ?_
          exact ih_12 S13 r12 _ _ ls h  hsh hR (lv_sub hl [1, 0] rfl)
        · replace h := h.1 (k_eq rfl rfl c8)
          refine lv_iconst (v := (-1)) hx hb dX14_leads_37 (by decide) ?_
          exact W.iret (v := (-1)) hx hb hr (fun t9 ht9 hW9 => ⟨⟨_, U12, rfl, ⟨h, hR.w, hsh⟩, ⟨by rw [ht9]; exact hR.P, hR.D⟩⟩, hR.sS.F ht9⟩) hR.sS.2.2 dX14_leads_38
  obtain ⟨n9, h⟩ := h
  exact J_12 n9 S2 x1 _ _ ls h  hsh hR (lv_sub hl [1, 0] rfl)
def w_threaded_J64 (Q : Int32 → MS → Prop) (k4 : MS → Int32 → Int32 → Int32 → Prop) (U64 : MS) (v64_1 : Int32) (v64_2 : Int32) (v64_3 : Int32) : Prop := (∀ a13 : Int32, a13 = (v64_3 + Int32.ofInt 1) → k4 U64 v64_1 v64_2 a13)
def w_threaded_L4 (Q : Int32 → MS → Prop) : Nat → MS → Int32 → Int32 → Int32 → Prop
  | 0, _, _, _, _ => False
  | n4 + 1, U4, v4_1, v4_2, v4_3 => (d_waysOf U4 v4_1 ∧ (((f_waysOf U4 v4_1).toInt ≤ v4_3.toInt → Q v4_2 U4) ∧ (¬ (f_waysOf U4 v4_1).toInt ≤ v4_3.toInt → (∃ Q5, w_wayOf U4 v4_1 v4_3 Q5 ∧ ∀ r6 S7, Q5 r6 S7 → (∃ Q9, w_leads S7 r6 Q9 ∧ ∀ r10 S11, Q9 r10 S11 → ((r10.toInt < 0 → w_threaded_J64 Q (w_threaded_L4 Q n4) S11 v4_1 v4_2 v4_3) ∧ (¬ r10.toInt < 0 → ((r10.toInt = r6.toInt → w_threaded_J64 Q (w_threaded_L4 Q n4) S11 v4_1 v4_2 v4_3) ∧ (¬ r10.toInt = r6.toInt → (∃ Q16, w_setWay S11 v4_1 v4_3 r10 Q16 ∧ ∀ S17, Q16 S17 → (∀ S21, S21 = wI S17 77 2 ((qI S17 77 2) + (1 : Int32)) → w_threaded_J64 Q (w_threaded_L4 Q n4) S21 v4_1 1 v4_3)))))))))))
def w_threaded (S : MS) (x1 : Int32) (Q : Int32 → MS → Prop) : Prop := (∃ n, w_threaded_L4 Q n S x1 0 0)
set_option maxHeartbeats 2000000 in
set_option maxRecDepth 100000 in
theorem r_threaded (l : Launch) (g : Gr) (ad : Nat → Nat) (sz : Nat) (S : MS) (x1 : Int32) (hw : wfM S) (Q : Int32 → MS → Prop) (h : w_threaded S x1 Q) : Met l yX14_threaded (wt2 yX14_threaded cX14_threaded 6 (some .boolean)) ({ frames := 3, cells := 0, slots := 0, locals := 66 }) (va_Pc [.ref (ad 0), .int x1] (st_R g ad sz S)) (va_Qi (fun (r : Int32) (u : MS) => Q r u ∧ wfM u ∧ shy S u ∧ (r = 0 ∨ r = 1)) (fun (u : MS) (t : State) => qE g ad (va_A (Wd g ad S) sz) u t) (va_A (Wd g ad S) sz)) 0 0 (va_A (Wd g ad S) sz) := by
  refine Met.ofW (cc := cX14_threaded) (maxL := 6) (ret := (some .boolean)) (by decide) rfl ?_
  intro p e s m args below meth c s₁ B hml hv
  obtain ⟨rfl, hsz, hP, hK, hD0, hex, hE⟩ := hv
  have hx := B.exec
  have hb := B.bytes
  have hr := B.returns
  have hts0 := atoms_spec (ws := wt2 yX14_threaded cX14_threaded 6 (some .boolean)) B.pre
  have hts : ∀ w ∈ tb2, w.before _ s = true := fun w h => hts0 w (List.mem_cons_of_mem _ h)
  have hown : s.vm.findClass RX14 = some m.cls := findClass_of_methodNamed B.named
  subst hsz
  have hD := hD0.self (sz := s.heap.size)
  generalize hAe : va_A (Wd g ad S) s.heap.size = A at hD hE ⊢
  have hA : ∀ q : Nat, s.heap.size ≤ q → A q := fun q h => by rw [← hAe]; exact Or.inr h
  have hR : Rep g ad A s S s.heap [] := ⟨hK, hP, hD, va_S.rf, hw⟩
  clear hK hP hD hD0
  have hl := lv_entry ([.ref (ad 0), .int x1]) (n := 6) (Nat.le_of_ble_eq_true rfl)
  rw [lg_entry_eq]
  generalize (lg_sl ([.ref (ad 0), .int x1]) ++ List.replicate (6 - (lg_sl ([.ref (ad 0), .int x1])).length) Slot.unset).toArray = ls at hl ⊢
  have hl : lv_has ls 6 [(0, .ref (ad 0)), (1, .int x1)] := hl
  have hsh : shy S S := shy.rf
  unfold w_threaded at h
  refine lv_iconst (v := 0) hx hb dX14_threaded_0 (by decide) ?_
  refine lv_istore_n (lv' := [(2, .int 0), (0, .ref (ad 0)), (1, .int x1)]) hx hb dX14_threaded_1 rfl hl (by decide) rfl (fun ls hl => ?_)
  refine lv_iconst (v := 0) hx hb dX14_threaded_2 (by decide) ?_
  refine lv_istore_n (lv' := [(3, .int 0), (2, .int 0), (0, .ref (ad 0)), (1, .int x1)]) hx hb dX14_threaded_3 rfl hl (by decide) rfl (fun ls hl => ?_)
  have J_4 : ∀ (n4 : Nat) (U4 : MS) (v4_1 : Int32) (v4_2 : Int32) (v4_3 : Int32) (H : Heap) (locs : List Loc) (ls : Array Slot), w_threaded_L4 Q n4 U4 v4_1 v4_2 v4_3 → (v4_2 = 0 ∨ v4_2 = 1) → shy S U4 → Rep g ad A s U4 H locs → lv_has ls 6 [(0, .ref (ad 0)), (1, .int v4_1), (2, .int v4_2), (3, .int v4_3)] → W p l e (headSpec (wt2 yX14_threaded cX14_threaded 6 (some .boolean)) ({ frames := 3, cells := 0, slots := 0, locals := 66 })).room s m ([.ref (ad 0), .int x1] : List Value).toArray below meth c H locs 0 0 (MQ below (va_Qi (fun (r : Int32) (u : MS) => Q r u ∧ wfM u ∧ shy S u ∧ (r = 0 ∨ r = 1)) (fun (u : MS) (t : State) => qE g ad A u t) A) ([.ref (ad 0), .int x1] : List Value).toArray s 0 0 A) (F0 m 4 ls []) := by
    intro n4
    induction n4 with
    | zero => intro U4 v4_1 v4_2 v4_3 H locs ls h hz_v4_2 hsh hR hl; unfold w_threaded_L4 at h; exact h.elim
    | succ n4 ih_4 =>
      intro U4 v4_1 v4_2 v4_3 H locs ls h hz_v4_2 hsh hR hl
      unfold w_threaded_L4 at h
      refine lv_iload_n hx hb dX14_threaded_4 rfl (lv_at hl 3 rfl) ?_
      refine lv_aload_n hx hb dX14_threaded_5 rfl (lv_at hl 0 rfl) ?_
      refine lv_iload_n hx hb dX14_threaded_6 rfl (lv_at hl 1 rfl) ?_
      obtain ⟨hv1, h⟩ := h
      have hFc := rfree hR hA
      refine va_calli (va_runV (As := [.int v4_1]) (rest := [.int v4_3]) ⟨hx, hb, hml, hown, hts⟩ (r_waysOf l g ad H.size U4 v4_1 hR.w  hv1) (cwV 1 hts (gd2_V kx_707 kx_708 kx_709 kx_177 kx_710) rfl rfl rfl (by decide +kernel) ⟨Nat.le_of_ble_eq_true rfl, Nat.le_of_ble_eq_true rfl⟩) ⟨rblind, va_recv hR.K hR.P (ci := 13) (q0 := 0) rfl (hR.at14 hR.w.1), fun U hU hW9 => rmk hU hW9 hR hex hE hFc⟩ rfl rfl hl.1 rfl (lv_room (Nat.le_of_ble_eq_true rfl)) dX14_threaded_7 ⟨Nat.le_of_ble_eq_true rfl, Nat.le_of_ble_eq_true rfl⟩) hR.sS (fun q _ h => hFc q h) hFc (fun r2 u9 t9 H1 locs ht9 hvm9 hw9 hB9 hz9 hk9 hS => ?_)
      have hR : Rep g ad A s U4 H1 locs := hR.call ht9 hB9 hR.w hS hFc
      obtain rfl : r2 = (f_waysOf U4 v4_1) := hw9
      clear hB9 hz9 hk9 hvm9 ht9 hS
      generalize H1 = H at hR ⊢
      refine lv_icmp_ge (tgt := 70) hx hb dX14_threaded_10 (by decide) (fun c4 => ?_) (fun c4 => ?_)
      · replace h := h.1 (k_le rfl rfl c4)
        refine lv_iload_n hx hb dX14_threaded_70 rfl (lv_at hl 2 rfl) ?_
        exact W.zret (v := v4_2) hx hb hr (nz hz_v4_2) (fun t9 ht9 hW9 => ⟨⟨_, U4, rfl, ⟨h, hR.w, hsh, hz_v4_2⟩, ⟨by rw [ht9]; exact hR.P, hR.D⟩⟩, hR.sS.F ht9⟩) hR.sS.2.2 dX14_threaded_71
      · replace h := h.2 (k_nle rfl rfl c4)
        refine lv_aload_n hx hb dX14_threaded_13 rfl (lv_at hl 0 rfl) ?_
        refine lv_iload_n hx hb dX14_threaded_14 rfl (lv_at hl 1 rfl) ?_
        refine lv_iload_n hx hb dX14_threaded_15 rfl (lv_at hl 3 rfl) ?_
        obtain ⟨Q5, h0, h⟩ := h
        have hFc := rfree hR hA
        refine va_calli (va_runV (As := [.int v4_1, .int v4_3]) (rest := []) ⟨hx, hb, hml, hown, hts⟩ (r_wayOf l g ad H.size U4 v4_1 v4_3 hR.w  Q5 h0) (cwV 2 hts (gd2_V kx_711 kx_712 kx_713 kx_177 kx_714) rfl rfl rfl (by decide +kernel) ⟨Nat.le_of_ble_eq_true rfl, Nat.le_of_ble_eq_true rfl⟩) ⟨rblind, va_recv hR.K hR.P (ci := 13) (q0 := 0) rfl (hR.at14 hR.w.1), fun U hU hW9 => rmk hU hW9 hR hex hE hFc⟩ rfl rfl hl.1 rfl (lv_room (Nat.le_of_ble_eq_true rfl)) dX14_threaded_16 ⟨Nat.le_of_ble_eq_true rfl, Nat.le_of_ble_eq_true rfl⟩) hR.sS (fun q _ h => hFc q h) hFc (fun r6 S7 t9 H1 locs ht9 hvm9 hw9 hB9 hz9 hk9 hS => ?_)
        obtain ⟨hq8, hw9, hs9⟩ := hw9
        have hR : Rep g ad A s S7 H1 locs := hR.call ht9 hB9 hw9 hS hFc
        have hsh := hsh.tr hs9
        replace h := h r6 S7 hq8
        clear hB9 hz9 hk9 hvm9 ht9 hw9 hs9 hS
        generalize H1 = H at hR ⊢
        refine lv_istore (lv' := [(4, .int r6), (0, .ref (ad 0)), (1, .int v4_1), (2, .int v4_2), (3, .int v4_3)]) hx hb dX14_threaded_19 hl (by decide) rfl (fun ls hl => ?_)
        refine lv_aload_n hx hb dX14_threaded_21 rfl (lv_at hl 1 rfl) ?_
        refine lv_iload hx hb dX14_threaded_22 (lv_at hl 0 rfl) ?_
        obtain ⟨Q9, h0, h⟩ := h
        have hFc := rfree hR hA
        refine va_calli (va_runV (As := [.int r6]) (rest := []) ⟨hx, hb, hml, hown, hts⟩ (r_leads l g ad H.size S7 r6 hR.w  Q9 h0) (cwV 1 hts (gd2_V kx_744 kx_745 kx_746 kx_177 kx_747) rfl rfl rfl (by decide +kernel) ⟨Nat.le_of_ble_eq_true rfl, Nat.le_of_ble_eq_true rfl⟩) ⟨rblind, va_recv hR.K hR.P (ci := 13) (q0 := 0) rfl (hR.at14 hR.w.1), fun U hU hW9 => rmk hU hW9 hR hex hE hFc⟩ rfl rfl hl.1 rfl (lv_room (Nat.le_of_ble_eq_true rfl)) dX14_threaded_24 ⟨Nat.le_of_ble_eq_true rfl, Nat.le_of_ble_eq_true rfl⟩) hR.sS (fun q _ h => hFc q h) hFc (fun r10 S11 t9 H1 locs ht9 hvm9 hw9 hB9 hz9 hk9 hS => ?_)
        obtain ⟨hq12, hw9, hs9⟩ := hw9
        have hR : Rep g ad A s S11 H1 locs := hR.call ht9 hB9 hw9 hS hFc
        have hsh := hsh.tr hs9
        replace h := h r10 S11 hq12
        clear hB9 hz9 hk9 hvm9 ht9 hw9 hs9 hS
        generalize H1 = H at hR ⊢
        refine lv_istore (lv' := [(5, .int r10), (4, .int r6), (0, .ref (ad 0)), (1, .int v4_1), (2, .int v4_2), (3, .int v4_3)]) hx hb dX14_threaded_27 hl (by decide) rfl (fun ls hl => ?_)
        refine lv_iload hx hb dX14_threaded_29 (lv_at hl 0 rfl) ?_
        have J_64 : ∀ (U64 : MS) (v64_1 : Int32) (v64_2 : Int32) (v64_3 : Int32) (H : Heap) (locs : List Loc) (ls : Array Slot), w_threaded_J64 Q (w_threaded_L4 Q n4) U64 v64_1 v64_2 v64_3 → (v64_2 = 0 ∨ v64_2 = 1) → shy S U64 → Rep g ad A s U64 H locs → lv_has ls 6 [(0, .ref (ad 0)), (1, .int v64_1), (2, .int v64_2), (3, .int v64_3)] → W p l e (headSpec (wt2 yX14_threaded cX14_threaded 6 (some .boolean)) ({ frames := 3, cells := 0, slots := 0, locals := 66 })).room s m ([.ref (ad 0), .int x1] : List Value).toArray below meth c H locs 0 0 (MQ below (va_Qi (fun (r : Int32) (u : MS) => Q r u ∧ wfM u ∧ shy S u ∧ (r = 0 ∨ r = 1)) (fun (u : MS) (t : State) => qE g ad A u t) A) ([.ref (ad 0), .int x1] : List Value).toArray s 0 0 A) (F0 m 64 ls []) := by
          intro U64 v64_1 v64_2 v64_3 H locs ls h hz_v64_2 hsh hR hl
          unfold w_threaded_J64 at h
          obtain ⟨a13, ea13⟩ : ∃ z, z = (v64_3 + Int32.ofInt 1) := ⟨_, rfl⟩
          replace h := h a13 ea13
          refine lv_iinc (v := a13) (lv' := [(3, .int a13), (0, .ref (ad 0)), (1, .int v64_1), (2, .int v64_2)]) hx hb dX14_threaded_64 hl (k := 3) rfl ea13.symm (by decide) rfl (fun ls hl => ?_)
          refine lv_goto (tgt := 4) hx hb dX14_threaded_67 (by decide) ?_
          exact ih_4 U64 v64_1 v64_2 a13 _ _ ls h hz_v64_2 hsh hR (lv_sub hl [1, 2, 3, 0] rfl)
        refine lv_if_lt (tgt := 64) hx hb dX14_threaded_31 (by decide) (fun c14 => ?_) (fun c14 => ?_)
        · replace h := h.1 (k_lt rfl (by decide) c14)
          exact J_64 S11 v4_1 v4_2 v4_3 _ _ ls h hz_v4_2 hsh hR (lv_sub hl [2, 3, 4, 5] rfl)
        · replace h := h.2 (k_nlt rfl (by decide) c14)
          refine lv_iload hx hb dX14_threaded_34 (lv_at hl 0 rfl) ?_
          refine lv_iload hx hb dX14_threaded_36 (lv_at hl 1 rfl) ?_
          refine lv_icmp_ne (tgt := 44) hx hb dX14_threaded_38 (by decide) (fun c15 => ?_) (fun c15 => ?_)
          · replace h := h.2 (k_ne rfl rfl c15)
            refine lv_aload_n hx hb dX14_threaded_44 rfl (lv_at hl 2 rfl) ?_
            refine lv_iload_n hx hb dX14_threaded_45 rfl (lv_at hl 3 rfl) ?_
            refine lv_iload_n hx hb dX14_threaded_46 rfl (lv_at hl 5 rfl) ?_
            refine lv_iload hx hb dX14_threaded_47 (lv_at hl 0 rfl) ?_
            obtain ⟨Q16, h0, h⟩ := h
            have hFc := rfree hR hA
            refine va_callv (va_runV (As := [.int v4_1, .int v4_3, .int r10]) (rest := []) ⟨hx, hb, hml, hown, hts⟩ (r_setWay l g ad H.size S11 v4_1 v4_3 r10 hR.w  Q16 h0) (cwV 3 hts (gd2_V kx_748 kx_749 kx_750 kx_177 kx_751) rfl rfl rfl (by decide +kernel) ⟨Nat.le_of_ble_eq_true rfl, Nat.le_of_ble_eq_true rfl⟩) ⟨rblind, va_recv hR.K hR.P (ci := 13) (q0 := 0) rfl (hR.at14 hR.w.1), fun U hU hW9 => rmk hU hW9 hR hex hE hFc⟩ rfl rfl hl.1 rfl (lv_room (Nat.le_of_ble_eq_true rfl)) dX14_threaded_49 ⟨Nat.le_of_ble_eq_true rfl, Nat.le_of_ble_eq_true rfl⟩) hR.sS (fun q _ h => hFc q h) hFc (fun  S17 t9 H1 locs ht9 hvm9 hw9 hB9 hz9 hk9 hS => ?_)
            obtain ⟨hq18, hw9, hs9⟩ := hw9
            have hR : Rep g ad A s S17 H1 locs := hR.call ht9 hB9 hw9 hS hFc
            have hsh := hsh.tr hs9
            replace h := h  S17 hq18
            clear hB9 hz9 hk9 hvm9 ht9 hw9 hs9 hS
            generalize H1 = H at hR ⊢
            refine lv_aload_n hx hb dX14_threaded_52 rfl (lv_at hl 2 rfl) ?_
            refine va_get (D := rD g) (ci := 13) (v := .ref (ad 77)) (C := RX14) (T := TX14) (N := 143) hx hb hts in2X14 hown hR.K hR.P 0 (hR.at14 hR.w.1) rfl 124 (by decide) (hts _ kx_728) (fun _ h9 => h9) (congrArg (fun z => some (vf ad z)) (hR.w.2.1 _ fin_124).1) dX14_threaded_53 ?_
            refine lv_iconst (v := 2) hx hb dX14_threaded_56 (by decide) ?_
            refine lv_dup2_11 hx hb dX14_threaded_57 rfl rfl ?_
            refine va_iald hx hb hR.K hR.P 77 1 (hR.atI (hR.w.2.1 _ fin_124).2.1) rfl (k_ixN (k_ix (n := 12) (x := (2 : Int32)) (a := 2) (by decide) (by decide)) (hR.w.2.1 _ fin_124).2.2) dX14_threaded_58 ?_
            refine lv_topi (fun z19 ez19 => ?_)
            obtain rfl : z19 = (qI S17 77 2) := ez19
            refine lv_iconst (v := 1) hx hb dX14_threaded_59 (by decide) ?_
            refine lv_iadd hx hb dX14_threaded_60 ?_
            refine lv_topi (fun z20 ez20 => ?_)
            obtain rfl : z20 = ((qI S17 77 2) + (1 : Int32)) := ez20
            refine va_iast hx hb hR.K hR.P hR.D hR.sS 77 1 (hR.atI (hR.w.2.1 _ fin_124).2.1) rfl (k_ixN (k_ix (n := 12) (x := (2 : Int32)) (a := 2) (by decide) (by decide)) (hR.w.2.1 _ fin_124).2.2) dX14_threaded_61 (fun H locs hP hD hS => ?_)
            have hR : Rep g ad A s (wI S17 77 2 ((qI S17 77 2) + (1 : Int32))) H locs := hR.aI (hR.w.2.1 _ fin_124).2.1 hP hD hS
            obtain ⟨S21, eS21⟩ : ∃ z, z = wI S17 77 2 ((qI S17 77 2) + (1 : Int32)) := ⟨_, rfl⟩
            rw [← eS21] at hR
            replace h := h S21 eS21
            have hsh : shy S S21 := by rw [eS21]; exact hsh
            refine lv_iconst (v := 1) hx hb dX14_threaded_62 (by decide) ?_
            refine lv_istore_n (lv' := [(2, .int 1), (5, .int r10), (4, .int r6), (0, .ref (ad 0)), (1, .int v4_1), (3, .int v4_3)]) hx hb dX14_threaded_63 rfl hl (by decide) rfl (fun ls hl => ?_)
            exact J_64 S21 v4_1 1 v4_3 _ _ ls h (Or.inr rfl) hsh hR (lv_sub hl [3, 4, 0, 5] rfl)
          · replace h := h.1 (k_eq rfl rfl c15)
            refine lv_goto (tgt := 64) hx hb dX14_threaded_41 (by decide) ?_
            exact J_64 S11 v4_1 v4_2 v4_3 _ _ ls h hz_v4_2 hsh hR (lv_sub hl [2, 3, 4, 5] rfl)
  obtain ⟨n9, h⟩ := h
  exact J_4 n9 S x1 0 0 _ _ ls h (Or.inl rfl) hsh hR (lv_sub hl [2, 3, 1, 0] rfl)
def f_worthAt (S : MS) (x1 : Int32) : Int64 := (if (qI S 78 x1.toInt.toNat).toInt = 18 then ((qI S 79 x1.toInt.toNat).toInt64) else ((((qI S 79 x1.toInt.toNat).toInt64) <<< ((32 : Int32).toInt64 &&& 63)) ||| (((qI S 80 x1.toInt.toNat).toInt64) &&& (4294967295 : Int64))))
def d_worthAt (S : MS) (x1 : Int32) : Prop := (((0 : Int) ≤ x1.toInt ∧ x1.toInt < 1200) ∧ (if (qI S 78 x1.toInt.toNat).toInt = 18 then (((0 : Int) ≤ x1.toInt ∧ x1.toInt < 1200) ∧ True) else (((0 : Int) ≤ x1.toInt ∧ x1.toInt < 1200) ∧ (((0 : Int) ≤ x1.toInt ∧ x1.toInt < 1200) ∧ True))))
set_option maxHeartbeats 2000000 in
set_option maxRecDepth 100000 in
theorem r_worthAt (l : Launch) (g : Gr) (ad : Nat → Nat) (sz : Nat) (S : MS) (x1 : Int32) (hw : wfM S) (hd : d_worthAt S x1) : Met l yX14_worthAt (wt2 yX14_worthAt cX14_worthAt 2 (some .long)) ({ frames := 0, cells := 0, slots := 0, locals := 0 }) (va_Pc [.ref (ad 0), .int x1] (st_R g ad sz S)) (va_Ql (fun (r : Int64) (_ : Unit) => r = f_worthAt S x1) (fun (_ : Unit) (t : State) => qE g ad (va_A (Wd g ad S) sz) S t) (va_A (Wd g ad S) sz)) 0 0 (va_A (Wd g ad S) sz) := by
  refine Met.ofW (cc := cX14_worthAt) (maxL := 2) (ret := (some .long)) (by decide) rfl ?_
  intro p e s m args below meth c s₁ B hml hv
  obtain ⟨rfl, hsz, hP, hK, hD0, hex, hE⟩ := hv
  have hx := B.exec
  have hb := B.bytes
  have hr := B.returns
  have hts0 := atoms_spec (ws := wt2 yX14_worthAt cX14_worthAt 2 (some .long)) B.pre
  have hts : ∀ w ∈ tb2, w.before _ s = true := fun w h => hts0 w (List.mem_cons_of_mem _ h)
  have hown : s.vm.findClass RX14 = some m.cls := findClass_of_methodNamed B.named
  subst hsz
  have hD := hD0.self (sz := s.heap.size)
  generalize hAe : va_A (Wd g ad S) s.heap.size = A at hD hE ⊢
  have hA : ∀ q : Nat, s.heap.size ≤ q → A q := fun q h => by rw [← hAe]; exact Or.inr h
  have hR : Rep g ad A s S s.heap [] := ⟨hK, hP, hD, va_S.rf, hw⟩
  clear hK hP hD hD0
  have hl := lv_entry ([.ref (ad 0), .int x1]) (n := 2) (Nat.le_of_ble_eq_true rfl)
  rw [lg_entry_eq]
  generalize (lg_sl ([.ref (ad 0), .int x1]) ++ List.replicate (2 - (lg_sl ([.ref (ad 0), .int x1])).length) Slot.unset).toArray = ls at hl ⊢
  have hl : lv_has ls 2 [(0, .ref (ad 0)), (1, .int x1)] := hl
  obtain ⟨r0, hf⟩ : ∃ r0, f_worthAt S x1 = r0 := ⟨_, rfl⟩
  have hf0 := hf
  unfold f_worthAt at hf
  unfold d_worthAt at hd
  refine lv_aload_n hx hb dX14_worthAt_0 rfl (lv_at hl 0 rfl) ?_
  refine va_get (D := rD g) (ci := 13) (v := .ref (ad 78)) (C := RX14) (T := TX14) (N := 143) hx hb hts in2X14 hown hR.K hR.P 0 (hR.at14 hR.w.1) rfl 125 (by decide) (hts _ kx_697) (fun _ h9 => h9) (congrArg (fun z => some (vf ad z)) (hR.w.2.1 _ fin_125).1) dX14_worthAt_1 ?_
  refine lv_iload_n hx hb dX14_worthAt_4 rfl (lv_at hl 1 rfl) ?_
  obtain ⟨hv1, hd⟩ := hd
  refine va_iald hx hb hR.K hR.P 78 1 (hR.atI (hR.w.2.1 _ fin_125).2.1) rfl (k_ixN (k_ix (n := 1200) (x := x1) (a := x1.toInt) rfl hv1) (hR.w.2.1 _ fin_125).2.2) dX14_worthAt_5 ?_
  refine lv_topi (fun z2 ez2 => ?_)
  obtain rfl : z2 = (qI S 78 x1.toInt.toNat) := ez2
  refine lv_bipush (v := 18) hx hb dX14_worthAt_6 (by decide) ?_
  refine lv_icmp_ne (tgt := 21) hx hb dX14_worthAt_8 (by decide) (fun c3 => ?_) (fun c3 => ?_)
  · rw [if_neg (k_ne rfl (by decide) c3)] at hf
    (try rw [if_neg (k_ne rfl (by decide) c3)] at hd)
    refine lv_aload_n hx hb dX14_worthAt_21 rfl (lv_at hl 0 rfl) ?_
    refine va_get (D := rD g) (ci := 13) (v := .ref (ad 79)) (C := RX14) (T := TX14) (N := 143) hx hb hts in2X14 hown hR.K hR.P 0 (hR.at14 hR.w.1) rfl 126 (by decide) (hts _ kx_700) (fun _ h9 => h9) (congrArg (fun z => some (vf ad z)) (hR.w.2.1 _ fin_126).1) dX14_worthAt_22 ?_
    refine lv_iload_n hx hb dX14_worthAt_25 rfl (lv_at hl 1 rfl) ?_
    obtain ⟨hv4, hd⟩ := hd
    refine va_iald hx hb hR.K hR.P 79 1 (hR.atI (hR.w.2.1 _ fin_126).2.1) rfl (k_ixN (k_ix (n := 1200) (x := x1) (a := x1.toInt) rfl hv4) (hR.w.2.1 _ fin_126).2.2) dX14_worthAt_26 ?_
    refine lv_topi (fun z5 ez5 => ?_)
    obtain rfl : z5 = (qI S 79 x1.toInt.toNat) := ez5
    refine lv_i2l (v := ((qI S 79 x1.toInt.toNat).toInt64)) hx hb dX14_worthAt_27 rfl ?_
    refine lv_bipush (v := 32) hx hb dX14_worthAt_28 (by decide) ?_
    refine lv_lshl (v := (((qI S 79 x1.toInt.toNat).toInt64) <<< ((32 : Int32).toInt64 &&& 63))) hx hb dX14_worthAt_30 rfl ?_
    refine lv_aload_n hx hb dX14_worthAt_31 rfl (lv_at hl 0 rfl) ?_
    refine va_get (D := rD g) (ci := 13) (v := .ref (ad 80)) (C := RX14) (T := TX14) (N := 143) hx hb hts in2X14 hown hR.K hR.P 0 (hR.at14 hR.w.1) rfl 127 (by decide) (hts _ kx_698) (fun _ h9 => h9) (congrArg (fun z => some (vf ad z)) (hR.w.2.1 _ fin_127).1) dX14_worthAt_32 ?_
    refine lv_iload_n hx hb dX14_worthAt_35 rfl (lv_at hl 1 rfl) ?_
    obtain ⟨hv6, hd⟩ := hd
    refine va_iald hx hb hR.K hR.P 80 1 (hR.atI (hR.w.2.1 _ fin_127).2.1) rfl (k_ixN (k_ix (n := 1200) (x := x1) (a := x1.toInt) rfl hv6) (hR.w.2.1 _ fin_127).2.2) dX14_worthAt_36 ?_
    refine lv_topi (fun z7 ez7 => ?_)
    obtain rfl : z7 = (qI S 80 x1.toInt.toNat) := ez7
    refine lv_i2l (v := ((qI S 80 x1.toInt.toNat).toInt64)) hx hb dX14_worthAt_37 rfl ?_
    refine lv_ldc2 hx hb hown (hts _ kx_216) dX14_worthAt_38 ?_
    refine lv_land hx hb dX14_worthAt_41 ?_
    refine lv_topl (fun z8 ez8 => ?_)
    obtain rfl : z8 = (((qI S 80 x1.toInt.toNat).toInt64) &&& (4294967295 : Int64)) := ez8
    refine lv_lor hx hb dX14_worthAt_42 ?_
    refine lv_topl (fun z9 ez9 => ?_)
    obtain rfl : z9 = ((((qI S 79 x1.toInt.toNat).toInt64) <<< ((32 : Int32).toInt64 &&& 63)) ||| (((qI S 80 x1.toInt.toNat).toInt64) &&& (4294967295 : Int64))) := ez9
    exact W.lret (v := ((((qI S 79 x1.toInt.toNat).toInt64) <<< ((32 : Int32).toInt64 &&& 63)) ||| (((qI S 80 x1.toInt.toNat).toInt64) &&& (4294967295 : Int64)))) hx hb hr (fun t9 ht9 hW9 => ⟨⟨_, (), rfl, hf.trans hf0.symm, ⟨by rw [ht9]; exact hR.P, hR.D⟩⟩, hR.sS.F ht9⟩) hR.sS.2.2 dX14_worthAt_43
  · rw [if_pos (k_eq rfl (by decide) c3)] at hf
    (try rw [if_pos (k_eq rfl (by decide) c3)] at hd)
    refine lv_aload_n hx hb dX14_worthAt_11 rfl (lv_at hl 0 rfl) ?_
    refine va_get (D := rD g) (ci := 13) (v := .ref (ad 79)) (C := RX14) (T := TX14) (N := 143) hx hb hts in2X14 hown hR.K hR.P 0 (hR.at14 hR.w.1) rfl 126 (by decide) (hts _ kx_700) (fun _ h9 => h9) (congrArg (fun z => some (vf ad z)) (hR.w.2.1 _ fin_126).1) dX14_worthAt_12 ?_
    refine lv_iload_n hx hb dX14_worthAt_15 rfl (lv_at hl 1 rfl) ?_
    obtain ⟨hv10, hd⟩ := hd
    refine va_iald hx hb hR.K hR.P 79 1 (hR.atI (hR.w.2.1 _ fin_126).2.1) rfl (k_ixN (k_ix (n := 1200) (x := x1) (a := x1.toInt) rfl hv10) (hR.w.2.1 _ fin_126).2.2) dX14_worthAt_16 ?_
    refine lv_topi (fun z11 ez11 => ?_)
    obtain rfl : z11 = (qI S 79 x1.toInt.toNat) := ez11
    refine lv_i2l (v := ((qI S 79 x1.toInt.toNat).toInt64)) hx hb dX14_worthAt_17 rfl ?_
    refine lv_goto (tgt := 43) hx hb dX14_worthAt_18 (by decide) ?_
    exact W.lret (v := ((qI S 79 x1.toInt.toNat).toInt64)) hx hb hr (fun t9 ht9 hW9 => ⟨⟨_, (), rfl, hf.trans hf0.symm, ⟨by rw [ht9]; exact hR.P, hR.D⟩⟩, hR.sS.F ht9⟩) hR.sS.2.2 dX14_worthAt_43
def w_become_J28 (Q : MS → Prop) (U28 : MS) (t28_0 : Int32) (t28_1 : Int32) (v28_1 : Int32) (v28_2 : Int32) (v28_3 : Int64) : Prop := (((0 : Int) ≤ t28_1.toInt ∧ t28_1.toInt < 1200) ∧ (∀ S4, S4 = wI U28 79 t28_1.toInt.toNat t28_0 → ((v28_2.toInt = 18 → (((0 : Int) ≤ v28_1.toInt ∧ v28_1.toInt < 1200) ∧ (∀ S9, S9 = wI S4 80 v28_1.toInt.toNat (0 : Int32) → Q S9))) ∧ (¬ v28_2.toInt = 18 → (((0 : Int) ≤ v28_1.toInt ∧ v28_1.toInt < 1200) ∧ (∀ S7, S7 = wI S4 80 v28_1.toInt.toNat (v28_3.toInt32) → Q S7))))))
def w_become (S : MS) (x1 : Int32) (x2 : Int32) (y3 : Int64) (Q : MS → Prop) : Prop := (((0 : Int) ≤ x1.toInt ∧ x1.toInt < 1200) ∧ (∀ S2, S2 = wI S 78 x1.toInt.toNat x2 → ((x2.toInt = 18 → w_become_J28 Q S2 (y3.toInt32) x1 x1 x2 y3) ∧ (¬ x2.toInt = 18 → w_become_J28 Q S2 ((y3 >>> ((32 : Int32).toInt64 &&& 63)).toInt32) x1 x1 x2 y3))))
set_option maxHeartbeats 2000000 in
set_option maxRecDepth 100000 in
theorem r_become (l : Launch) (g : Gr) (ad : Nat → Nat) (sz : Nat) (S : MS) (x1 : Int32) (x2 : Int32) (y3 : Int64) (hw : wfM S) (Q : MS → Prop) (h : w_become S x1 x2 y3 Q) : Met l yX14_become (wt2 yX14_become cX14_become 5 none) ({ frames := 0, cells := 0, slots := 0, locals := 0 }) (va_Pc [.ref (ad 0), .int x1, .int x2, .long y3] (st_R g ad sz S)) (va_Qv (fun (u : MS) => Q u ∧ wfM u ∧ shy S u) (fun (u : MS) (t : State) => qE g ad (va_A (Wd g ad S) sz) u t) (va_A (Wd g ad S) sz)) 0 0 (va_A (Wd g ad S) sz) := by
  refine Met.ofW (cc := cX14_become) (maxL := 5) (ret := none) (by decide) rfl ?_
  intro p e s m args below meth c s₁ B hml hv
  obtain ⟨rfl, hsz, hP, hK, hD0, hex, hE⟩ := hv
  have hx := B.exec
  have hb := B.bytes
  have hr := B.returns
  have hts0 := atoms_spec (ws := wt2 yX14_become cX14_become 5 none) B.pre
  have hts : ∀ w ∈ tb2, w.before _ s = true := fun w h => hts0 w (List.mem_cons_of_mem _ h)
  have hown : s.vm.findClass RX14 = some m.cls := findClass_of_methodNamed B.named
  subst hsz
  have hD := hD0.self (sz := s.heap.size)
  generalize hAe : va_A (Wd g ad S) s.heap.size = A at hD hE ⊢
  have hA : ∀ q : Nat, s.heap.size ≤ q → A q := fun q h => by rw [← hAe]; exact Or.inr h
  have hR : Rep g ad A s S s.heap [] := ⟨hK, hP, hD, va_S.rf, hw⟩
  clear hK hP hD hD0
  have hl := lv_entry ([.ref (ad 0), .int x1, .int x2, .long y3]) (n := 5) (Nat.le_of_ble_eq_true rfl)
  rw [lg_entry_eq]
  generalize (lg_sl ([.ref (ad 0), .int x1, .int x2, .long y3]) ++ List.replicate (5 - (lg_sl ([.ref (ad 0), .int x1, .int x2, .long y3])).length) Slot.unset).toArray = ls at hl ⊢
  have hl : lv_has ls 5 [(0, .ref (ad 0)), (1, .int x1), (2, .int x2), (3, .long y3)] := hl
  have hsh : shy S S := shy.rf
  unfold w_become at h
  refine lv_aload_n hx hb dX14_become_0 rfl (lv_at hl 0 rfl) ?_
  refine va_get (D := rD g) (ci := 13) (v := .ref (ad 78)) (C := RX14) (T := TX14) (N := 143) hx hb hts in2X14 hown hR.K hR.P 0 (hR.at14 hR.w.1) rfl 125 (by decide) (hts _ kx_697) (fun _ h9 => h9) (congrArg (fun z => some (vf ad z)) (hR.w.2.1 _ fin_125).1) dX14_become_1 ?_
  refine lv_iload_n hx hb dX14_become_4 rfl (lv_at hl 1 rfl) ?_
  refine lv_iload_n hx hb dX14_become_5 rfl (lv_at hl 2 rfl) ?_
  obtain ⟨hv1, h⟩ := h
  refine va_iast hx hb hR.K hR.P hR.D hR.sS 78 1 (hR.atI (hR.w.2.1 _ fin_125).2.1) rfl (k_ixN (k_ix (n := 1200) (x := x1) (a := x1.toInt) rfl hv1) (hR.w.2.1 _ fin_125).2.2) dX14_become_6 (fun H locs hP hD hS => ?_)
  have hR : Rep g ad A s (wI S 78 x1.toInt.toNat x2) H locs := hR.aI (hR.w.2.1 _ fin_125).2.1 hP hD hS
  obtain ⟨S2, eS2⟩ : ∃ z, z = wI S 78 x1.toInt.toNat x2 := ⟨_, rfl⟩
  rw [← eS2] at hR
  replace h := h S2 eS2
  have hsh : shy S S2 := by rw [eS2]; exact hsh
  refine lv_aload_n hx hb dX14_become_7 rfl (lv_at hl 0 rfl) ?_
  refine va_get (D := rD g) (ci := 13) (v := .ref (ad 79)) (C := RX14) (T := TX14) (N := 143) hx hb hts in2X14 hown hR.K hR.P 0 (hR.at14 hR.w.1) rfl 126 (by decide) (hts _ kx_700) (fun _ h9 => h9) (congrArg (fun z => some (vf ad z)) (hR.w.2.1 _ fin_126).1) dX14_become_8 ?_
  refine lv_iload_n hx hb dX14_become_11 rfl (lv_at hl 1 rfl) ?_
  refine lv_iload_n hx hb dX14_become_12 rfl (lv_at hl 2 rfl) ?_
  refine lv_bipush (v := 18) hx hb dX14_become_13 (by decide) ?_
  have J_28 : ∀ (U28 : MS) (t28_0 : Int32) (t28_1 : Int32) (v28_1 : Int32) (v28_2 : Int32) (v28_3 : Int64) (H : Heap) (locs : List Loc) (ls : Array Slot), w_become_J28 Q U28 t28_0 t28_1 v28_1 v28_2 v28_3 → shy S U28 → Rep g ad A s U28 H locs → lv_has ls 5 [(0, .ref (ad 0)), (1, .int v28_1), (2, .int v28_2), (3, .long v28_3)] → W p l e (headSpec (wt2 yX14_become cX14_become 5 none) ({ frames := 0, cells := 0, slots := 0, locals := 0 })).room s m ([.ref (ad 0), .int x1, .int x2, .long y3] : List Value).toArray below meth c H locs 0 0 (MQ below (va_Qv (fun (u : MS) => Q u ∧ wfM u ∧ shy S u) (fun (u : MS) (t : State) => qE g ad A u t) A) ([.ref (ad 0), .int x1, .int x2, .long y3] : List Value).toArray s 0 0 A) (F0 m 28 ls [.int t28_0, .int t28_1, .ref (ad 79)]) := by
    intro U28 t28_0 t28_1 v28_1 v28_2 v28_3 H locs ls h hsh hR hl
    unfold w_become_J28 at h
    obtain ⟨hv3, h⟩ := h
    refine va_iast hx hb hR.K hR.P hR.D hR.sS 79 1 (hR.atI (hR.w.2.1 _ fin_126).2.1) rfl (k_ixN (k_ix (n := 1200) (x := t28_1) (a := t28_1.toInt) rfl hv3) (hR.w.2.1 _ fin_126).2.2) dX14_become_28 (fun H locs hP hD hS => ?_)
    have hR : Rep g ad A s (wI U28 79 t28_1.toInt.toNat t28_0) H locs := hR.aI (hR.w.2.1 _ fin_126).2.1 hP hD hS
    obtain ⟨S4, eS4⟩ : ∃ z, z = wI U28 79 t28_1.toInt.toNat t28_0 := ⟨_, rfl⟩
    rw [← eS4] at hR
    replace h := h S4 eS4
    have hsh : shy S S4 := by rw [eS4]; exact hsh
    refine lv_aload_n hx hb dX14_become_29 rfl (lv_at hl 0 rfl) ?_
    refine va_get (D := rD g) (ci := 13) (v := .ref (ad 80)) (C := RX14) (T := TX14) (N := 143) hx hb hts in2X14 hown hR.K hR.P 0 (hR.at14 hR.w.1) rfl 127 (by decide) (hts _ kx_698) (fun _ h9 => h9) (congrArg (fun z => some (vf ad z)) (hR.w.2.1 _ fin_127).1) dX14_become_30 ?_
    refine lv_iload_n hx hb dX14_become_33 rfl (lv_at hl 1 rfl) ?_
    refine lv_iload_n hx hb dX14_become_34 rfl (lv_at hl 2 rfl) ?_
    refine lv_bipush (v := 18) hx hb dX14_become_35 (by decide) ?_
    refine lv_icmp_ne (tgt := 44) hx hb dX14_become_37 (by decide) (fun c5 => ?_) (fun c5 => ?_)
    · replace h := h.2 (k_ne rfl (by decide) c5)
      refine lv_lload_n hx hb dX14_become_44 rfl (lv_at hl 3 rfl) ?_
      refine lv_l2i (v := (v28_3.toInt32)) hx hb dX14_become_45 rfl ?_
      obtain ⟨hv6, h⟩ := h
      refine va_iast hx hb hR.K hR.P hR.D hR.sS 80 1 (hR.atI (hR.w.2.1 _ fin_127).2.1) rfl (k_ixN (k_ix (n := 1200) (x := v28_1) (a := v28_1.toInt) rfl hv6) (hR.w.2.1 _ fin_127).2.2) dX14_become_46 (fun H locs hP hD hS => ?_)
      have hR : Rep g ad A s (wI S4 80 v28_1.toInt.toNat (v28_3.toInt32)) H locs := hR.aI (hR.w.2.1 _ fin_127).2.1 hP hD hS
      obtain ⟨S7, eS7⟩ : ∃ z, z = wI S4 80 v28_1.toInt.toNat (v28_3.toInt32) := ⟨_, rfl⟩
      rw [← eS7] at hR
      replace h := h S7 eS7
      have hsh : shy S S7 := by rw [eS7]; exact hsh
      exact W.vret hx hb hr (fun t9 ht9 hW9 => ⟨⟨S7, rfl, ⟨h, hR.w, hsh⟩, ⟨by rw [ht9]; exact hR.P, hR.D⟩⟩, hR.sS.F ht9⟩) hR.sS.2.2 dX14_become_47
    · replace h := h.1 (k_eq rfl (by decide) c5)
      refine lv_iconst (v := 0) hx hb dX14_become_40 (by decide) ?_
      refine lv_goto (tgt := 46) hx hb dX14_become_41 (by decide) ?_
      obtain ⟨hv8, h⟩ := h
      refine va_iast hx hb hR.K hR.P hR.D hR.sS 80 1 (hR.atI (hR.w.2.1 _ fin_127).2.1) rfl (k_ixN (k_ix (n := 1200) (x := v28_1) (a := v28_1.toInt) rfl hv8) (hR.w.2.1 _ fin_127).2.2) dX14_become_46 (fun H locs hP hD hS => ?_)
      have hR : Rep g ad A s (wI S4 80 v28_1.toInt.toNat (0 : Int32)) H locs := hR.aI (hR.w.2.1 _ fin_127).2.1 hP hD hS
      obtain ⟨S9, eS9⟩ : ∃ z, z = wI S4 80 v28_1.toInt.toNat (0 : Int32) := ⟨_, rfl⟩
      rw [← eS9] at hR
      replace h := h S9 eS9
      have hsh : shy S S9 := by rw [eS9]; exact hsh
      exact W.vret hx hb hr (fun t9 ht9 hW9 => ⟨⟨S9, rfl, ⟨h, hR.w, hsh⟩, ⟨by rw [ht9]; exact hR.P, hR.D⟩⟩, hR.sS.F ht9⟩) hR.sS.2.2 dX14_become_47
  refine lv_icmp_ne (tgt := 23) hx hb dX14_become_15 (by decide) (fun c10 => ?_) (fun c10 => ?_)
  · replace h := h.2 (k_ne rfl (by decide) c10)
    refine lv_lload_n hx hb dX14_become_23 rfl (lv_at hl 3 rfl) ?_
    refine lv_bipush (v := 32) hx hb dX14_become_24 (by decide) ?_
    refine lv_lshr (v := (y3 >>> ((32 : Int32).toInt64 &&& 63))) hx hb dX14_become_26 rfl ?_
    refine lv_l2i (v := ((y3 >>> ((32 : Int32).toInt64 &&& 63)).toInt32)) hx hb dX14_become_27 rfl ?_
    exact J_28 S2 ((y3 >>> ((32 : Int32).toInt64 &&& 63)).toInt32) x1 x1 x2 y3 _ _ ls h  hsh hR (lv_sub hl [0, 1, 2, 3] rfl)
  · replace h := h.1 (k_eq rfl (by decide) c10)
    refine lv_lload_n hx hb dX14_become_18 rfl (lv_at hl 3 rfl) ?_
    refine lv_l2i (v := (y3.toInt32)) hx hb dX14_become_19 rfl ?_
    refine lv_goto (tgt := 28) hx hb dX14_become_20 (by decide) ?_
    exact J_28 S2 (y3.toInt32) x1 x1 x2 y3 _ _ ls h  hsh hR (lv_sub hl [0, 1, 2, 3] rfl)
def f_isPush_J12 (S : MS) : Int32 := (1 : Int32)
def d_isPush_J12 (S : MS) : Prop := True
def f_isPush (S : MS) (x0 : Int32) : Int32 := (if x0.toInt = 18 then f_isPush_J12 S else (if x0.toInt = 20 then f_isPush_J12 S else (0 : Int32)))
def d_isPush (S : MS) (x0 : Int32) : Prop := (if x0.toInt = 18 then d_isPush_J12 S else (if x0.toInt = 20 then d_isPush_J12 S else True))
set_option maxHeartbeats 2000000 in
set_option maxRecDepth 100000 in
theorem r_isPush (l : Launch) (g : Gr) (ad : Nat → Nat) (sz : Nat) (S : MS) (x0 : Int32) (hw : wfM S) (hd : d_isPush S x0) : Met l yX14_isPush (wt2 yX14_isPush cX14_isPush 1 (some .boolean)) ({ frames := 0, cells := 0, slots := 0, locals := 0 }) (va_Pc [.int x0] (st_R g ad sz S)) (va_Qi (fun (r : Int32) (_ : Unit) => r = f_isPush S x0 ∧ (r = 0 ∨ r = 1)) (fun (_ : Unit) (t : State) => qE g ad (va_A (Wd g ad S) sz) S t) (va_A (Wd g ad S) sz)) 0 0 (va_A (Wd g ad S) sz) := by
  refine Met.ofW (cc := cX14_isPush) (maxL := 1) (ret := (some .boolean)) (by decide) rfl ?_
  intro p e s m args below meth c s₁ B hml hv
  obtain ⟨rfl, hsz, hP, hK, hD0, hex, hE⟩ := hv
  have hx := B.exec
  have hb := B.bytes
  have hr := B.returns
  have hts0 := atoms_spec (ws := wt2 yX14_isPush cX14_isPush 1 (some .boolean)) B.pre
  have hts : ∀ w ∈ tb2, w.before _ s = true := fun w h => hts0 w (List.mem_cons_of_mem _ h)
  have hown : s.vm.findClass RX14 = some m.cls := findClass_of_methodNamed B.named
  subst hsz
  have hD := hD0.self (sz := s.heap.size)
  generalize hAe : va_A (Wd g ad S) s.heap.size = A at hD hE ⊢
  have hA : ∀ q : Nat, s.heap.size ≤ q → A q := fun q h => by rw [← hAe]; exact Or.inr h
  have hR : Rep g ad A s S s.heap [] := ⟨hK, hP, hD, va_S.rf, hw⟩
  clear hK hP hD hD0
  have hl := lv_entry ([.int x0]) (n := 1) (Nat.le_of_ble_eq_true rfl)
  rw [lg_entry_eq]
  generalize (lg_sl ([.int x0]) ++ List.replicate (1 - (lg_sl ([.int x0])).length) Slot.unset).toArray = ls at hl ⊢
  have hl : lv_has ls 1 [(0, .int x0)] := hl
  obtain ⟨r0, hf⟩ : ∃ r0, f_isPush S x0 = r0 := ⟨_, rfl⟩
  have hf0 := hf
  unfold f_isPush at hf
  unfold d_isPush at hd
  refine lv_iload_n hx hb dX14_isPush_0 rfl (lv_at hl 0 rfl) ?_
  refine lv_bipush (v := 18) hx hb dX14_isPush_1 (by decide) ?_
  have J_12 : ∀ (H : Heap) (locs : List Loc) (ls : Array Slot), d_isPush_J12 S → f_isPush_J12 S = r0 → Rep g ad A s S H locs → lv_has ls 1 [] → W p l e (headSpec (wt2 yX14_isPush cX14_isPush 1 (some .boolean)) ({ frames := 0, cells := 0, slots := 0, locals := 0 })).room s m ([.int x0] : List Value).toArray below meth c H locs 0 0 (MQ below (va_Qi (fun (r : Int32) (_ : Unit) => r = f_isPush S x0 ∧ (r = 0 ∨ r = 1)) (fun (_ : Unit) (t : State) => qE g ad A S t) A) ([.int x0] : List Value).toArray s 0 0 A) (F0 m 12 ls []) := by
    intro H locs ls hd hf hR hl
    unfold d_isPush_J12 at hd
    unfold f_isPush_J12 at hf
    refine lv_iconst (v := 1) hx hb dX14_isPush_12 (by decide) ?_
    refine lv_goto (tgt := 17) hx hb dX14_isPush_13 (by decide) ?_
    exact W.zret (v := 1) hx hb hr (nz (Or.inr rfl)) (fun t9 ht9 hW9 => ⟨⟨_, (), rfl, ⟨hf.trans hf0.symm, (Or.inr rfl)⟩, ⟨by rw [ht9]; exact hR.P, hR.D⟩⟩, hR.sS.F ht9⟩) hR.sS.2.2 dX14_isPush_17
  refine lv_icmp_eq (tgt := 12) hx hb dX14_isPush_3 (by decide) (fun c1 => ?_) (fun c1 => ?_)
  · rw [if_pos (k_eq rfl (by decide) c1)] at hf
    (try rw [if_pos (k_eq rfl (by decide) c1)] at hd)
    exact J_12 _ _ ls hd hf  hR (lv_sub hl [] rfl)
  · rw [if_neg (k_ne rfl (by decide) c1)] at hf
    (try rw [if_neg (k_ne rfl (by decide) c1)] at hd)
    refine lv_iload_n hx hb dX14_isPush_6 rfl (lv_at hl 0 rfl) ?_
    refine lv_bipush (v := 20) hx hb dX14_isPush_7 (by decide) ?_
    refine lv_icmp_ne (tgt := 16) hx hb dX14_isPush_9 (by decide) (fun c2 => ?_) (fun c2 => ?_)
    · rw [if_neg (k_ne rfl (by decide) c2)] at hf
      (try rw [if_neg (k_ne rfl (by decide) c2)] at hd)
      refine lv_iconst (v := 0) hx hb dX14_isPush_16 (by decide) ?_
      exact W.zret (v := 0) hx hb hr (nz (Or.inl rfl)) (fun t9 ht9 hW9 => ⟨⟨_, (), rfl, ⟨hf.trans hf0.symm, (Or.inl rfl)⟩, ⟨by rw [ht9]; exact hR.P, hR.D⟩⟩, hR.sS.F ht9⟩) hR.sS.2.2 dX14_isPush_17
    · rw [if_pos (k_eq rfl (by decide) c2)] at hf
      (try rw [if_pos (k_eq rfl (by decide) c2)] at hd)
      exact J_12 _ _ ls hd hf  hR (lv_sub hl [] rfl)
def f_upper_J26 (S : MS) : Int32 := (20 : Int32)
def d_upper_J26 (S : MS) : Prop := True
def f_upper_J31 (S : MS) : Int32 := (18 : Int32)
def d_upper_J31 (S : MS) : Prop := True
def f_upper (S : MS) (x0 : Int32) : Int32 := (if x0.toInt = 148 then f_upper_J26 S else (if (x0 - x0 / (2 : Int32) * (2 : Int32)).toInt = 1 then (if x0.toInt < 120 then f_upper_J26 S else (if x0.toInt ≤ 125 then f_upper_J31 S else f_upper_J26 S)) else f_upper_J31 S))
def d_upper (S : MS) (x0 : Int32) : Prop := (if x0.toInt = 148 then d_upper_J26 S else (if (x0 - x0 / (2 : Int32) * (2 : Int32)).toInt = 1 then (if x0.toInt < 120 then d_upper_J26 S else (if x0.toInt ≤ 125 then d_upper_J31 S else d_upper_J26 S)) else d_upper_J31 S))
set_option maxHeartbeats 2000000 in
set_option maxRecDepth 100000 in
theorem r_upper (l : Launch) (g : Gr) (ad : Nat → Nat) (sz : Nat) (S : MS) (x0 : Int32) (hw : wfM S) (hd : d_upper S x0) : Met l yX14_upper (wt2 yX14_upper cX14_upper 1 (some .int)) ({ frames := 0, cells := 0, slots := 0, locals := 0 }) (va_Pc [.int x0] (st_R g ad sz S)) (va_Qi (fun (r : Int32) (_ : Unit) => r = f_upper S x0) (fun (_ : Unit) (t : State) => qE g ad (va_A (Wd g ad S) sz) S t) (va_A (Wd g ad S) sz)) 0 0 (va_A (Wd g ad S) sz) := by
  refine Met.ofW (cc := cX14_upper) (maxL := 1) (ret := (some .int)) (by decide) rfl ?_
  intro p e s m args below meth c s₁ B hml hv
  obtain ⟨rfl, hsz, hP, hK, hD0, hex, hE⟩ := hv
  have hx := B.exec
  have hb := B.bytes
  have hr := B.returns
  have hts0 := atoms_spec (ws := wt2 yX14_upper cX14_upper 1 (some .int)) B.pre
  have hts : ∀ w ∈ tb2, w.before _ s = true := fun w h => hts0 w (List.mem_cons_of_mem _ h)
  have hown : s.vm.findClass RX14 = some m.cls := findClass_of_methodNamed B.named
  subst hsz
  have hD := hD0.self (sz := s.heap.size)
  generalize hAe : va_A (Wd g ad S) s.heap.size = A at hD hE ⊢
  have hA : ∀ q : Nat, s.heap.size ≤ q → A q := fun q h => by rw [← hAe]; exact Or.inr h
  have hR : Rep g ad A s S s.heap [] := ⟨hK, hP, hD, va_S.rf, hw⟩
  clear hK hP hD hD0
  have hl := lv_entry ([.int x0]) (n := 1) (Nat.le_of_ble_eq_true rfl)
  rw [lg_entry_eq]
  generalize (lg_sl ([.int x0]) ++ List.replicate (1 - (lg_sl ([.int x0])).length) Slot.unset).toArray = ls at hl ⊢
  have hl : lv_has ls 1 [(0, .int x0)] := hl
  obtain ⟨r0, hf⟩ : ∃ r0, f_upper S x0 = r0 := ⟨_, rfl⟩
  have hf0 := hf
  unfold f_upper at hf
  unfold d_upper at hd
  refine lv_iload_n hx hb dX14_upper_0 rfl (lv_at hl 0 rfl) ?_
  refine lv_sipush (v := 148) hx hb dX14_upper_1 (by decide) ?_
  have J_26 : ∀ (H : Heap) (locs : List Loc) (ls : Array Slot), d_upper_J26 S → f_upper_J26 S = r0 → Rep g ad A s S H locs → lv_has ls 1 [] → W p l e (headSpec (wt2 yX14_upper cX14_upper 1 (some .int)) ({ frames := 0, cells := 0, slots := 0, locals := 0 })).room s m ([.int x0] : List Value).toArray below meth c H locs 0 0 (MQ below (va_Qi (fun (r : Int32) (_ : Unit) => r = f_upper S x0) (fun (_ : Unit) (t : State) => qE g ad A S t) A) ([.int x0] : List Value).toArray s 0 0 A) (F0 m 26 ls []) := by
    intro H locs ls hd hf hR hl
    unfold d_upper_J26 at hd
    unfold f_upper_J26 at hf
    refine lv_bipush (v := 20) hx hb dX14_upper_26 (by decide) ?_
    refine lv_goto (tgt := 33) hx hb dX14_upper_28 (by decide) ?_
    exact W.iret (v := 20) hx hb hr (fun t9 ht9 hW9 => ⟨⟨_, (), rfl, hf.trans hf0.symm, ⟨by rw [ht9]; exact hR.P, hR.D⟩⟩, hR.sS.F ht9⟩) hR.sS.2.2 dX14_upper_33
  refine lv_icmp_eq (tgt := 26) hx hb dX14_upper_4 (by decide) (fun c1 => ?_) (fun c1 => ?_)
  · rw [if_pos (k_eq rfl (by decide) c1)] at hf
    (try rw [if_pos (k_eq rfl (by decide) c1)] at hd)
    exact J_26 _ _ ls hd hf  hR (lv_sub hl [] rfl)
  · rw [if_neg (k_ne rfl (by decide) c1)] at hf
    (try rw [if_neg (k_ne rfl (by decide) c1)] at hd)
    refine lv_iload_n hx hb dX14_upper_7 rfl (lv_at hl 0 rfl) ?_
    refine lv_iconst (v := 2) hx hb dX14_upper_8 (by decide) ?_
    refine lv_irem hx hb dX14_upper_9 (by decide) ?_
    refine lv_topi (fun z2 ez2 => ?_)
    obtain rfl : z2 = (x0 - x0 / (2 : Int32) * (2 : Int32)) := ez2
    refine lv_iconst (v := 1) hx hb dX14_upper_10 (by decide) ?_
    have J_31 : ∀ (H : Heap) (locs : List Loc) (ls : Array Slot), d_upper_J31 S → f_upper_J31 S = r0 → Rep g ad A s S H locs → lv_has ls 1 [] → W p l e (headSpec (wt2 yX14_upper cX14_upper 1 (some .int)) ({ frames := 0, cells := 0, slots := 0, locals := 0 })).room s m ([.int x0] : List Value).toArray below meth c H locs 0 0 (MQ below (va_Qi (fun (r : Int32) (_ : Unit) => r = f_upper S x0) (fun (_ : Unit) (t : State) => qE g ad A S t) A) ([.int x0] : List Value).toArray s 0 0 A) (F0 m 31 ls []) := by
      intro H locs ls hd hf hR hl
      unfold d_upper_J31 at hd
      unfold f_upper_J31 at hf
      refine lv_bipush (v := 18) hx hb dX14_upper_31 (by decide) ?_
      exact W.iret (v := 18) hx hb hr (fun t9 ht9 hW9 => ⟨⟨_, (), rfl, hf.trans hf0.symm, ⟨by rw [ht9]; exact hR.P, hR.D⟩⟩, hR.sS.F ht9⟩) hR.sS.2.2 dX14_upper_33
    refine lv_icmp_ne (tgt := 31) hx hb dX14_upper_11 (by decide) (fun c3 => ?_) (fun c3 => ?_)
    · rw [if_neg (k_ne rfl (by decide) c3)] at hf
      (try rw [if_neg (k_ne rfl (by decide) c3)] at hd)
      exact J_31 _ _ ls hd hf  hR (lv_sub hl [] rfl)
    · rw [if_pos (k_eq rfl (by decide) c3)] at hf
      (try rw [if_pos (k_eq rfl (by decide) c3)] at hd)
      refine lv_iload_n hx hb dX14_upper_14 rfl (lv_at hl 0 rfl) ?_
      refine lv_bipush (v := 120) hx hb dX14_upper_15 (by decide) ?_
      refine lv_icmp_lt (tgt := 26) hx hb dX14_upper_17 (by decide) (fun c4 => ?_) (fun c4 => ?_)
      · rw [if_pos (k_lt rfl (by decide) c4)] at hf
        (try rw [if_pos (k_lt rfl (by decide) c4)] at hd)
        exact J_26 _ _ ls hd hf  hR (lv_sub hl [] rfl)
      · rw [if_neg (k_nlt rfl (by decide) c4)] at hf
        (try rw [if_neg (k_nlt rfl (by decide) c4)] at hd)
        refine lv_iload_n hx hb dX14_upper_20 rfl (lv_at hl 0 rfl) ?_
        refine lv_bipush (v := 125) hx hb dX14_upper_21 (by decide) ?_
        refine lv_icmp_le (tgt := 31) hx hb dX14_upper_23 (by decide) (fun c5 => ?_) (fun c5 => ?_)
        · rw [if_pos (k_le rfl (by decide) c5)] at hf
          (try rw [if_pos (k_le rfl (by decide) c5)] at hd)
          exact J_31 _ _ ls hd hf  hR (lv_sub hl [] rfl)
        · rw [if_neg (k_nle rfl (by decide) c5)] at hf
          (try rw [if_neg (k_nle rfl (by decide) c5)] at hd)
          exact J_26 _ _ ls hd hf  hR (lv_sub hl [] rfl)
def f_lower_J14 (S : MS) : Int32 := (20 : Int32)
def d_lower_J14 (S : MS) : Prop := True
def f_lower (S : MS) (x0 : Int32) : Int32 := (if x0.toInt = 148 then f_lower_J14 S else (if (x0 - x0 / (2 : Int32) * (2 : Int32)).toInt = 1 then f_lower_J14 S else (18 : Int32)))
def d_lower (S : MS) (x0 : Int32) : Prop := (if x0.toInt = 148 then d_lower_J14 S else (if (x0 - x0 / (2 : Int32) * (2 : Int32)).toInt = 1 then d_lower_J14 S else True))
set_option maxHeartbeats 2000000 in
set_option maxRecDepth 100000 in
theorem r_lower (l : Launch) (g : Gr) (ad : Nat → Nat) (sz : Nat) (S : MS) (x0 : Int32) (hw : wfM S) (hd : d_lower S x0) : Met l yX14_lower (wt2 yX14_lower cX14_lower 1 (some .int)) ({ frames := 0, cells := 0, slots := 0, locals := 0 }) (va_Pc [.int x0] (st_R g ad sz S)) (va_Qi (fun (r : Int32) (_ : Unit) => r = f_lower S x0) (fun (_ : Unit) (t : State) => qE g ad (va_A (Wd g ad S) sz) S t) (va_A (Wd g ad S) sz)) 0 0 (va_A (Wd g ad S) sz) := by
  refine Met.ofW (cc := cX14_lower) (maxL := 1) (ret := (some .int)) (by decide) rfl ?_
  intro p e s m args below meth c s₁ B hml hv
  obtain ⟨rfl, hsz, hP, hK, hD0, hex, hE⟩ := hv
  have hx := B.exec
  have hb := B.bytes
  have hr := B.returns
  have hts0 := atoms_spec (ws := wt2 yX14_lower cX14_lower 1 (some .int)) B.pre
  have hts : ∀ w ∈ tb2, w.before _ s = true := fun w h => hts0 w (List.mem_cons_of_mem _ h)
  have hown : s.vm.findClass RX14 = some m.cls := findClass_of_methodNamed B.named
  subst hsz
  have hD := hD0.self (sz := s.heap.size)
  generalize hAe : va_A (Wd g ad S) s.heap.size = A at hD hE ⊢
  have hA : ∀ q : Nat, s.heap.size ≤ q → A q := fun q h => by rw [← hAe]; exact Or.inr h
  have hR : Rep g ad A s S s.heap [] := ⟨hK, hP, hD, va_S.rf, hw⟩
  clear hK hP hD hD0
  have hl := lv_entry ([.int x0]) (n := 1) (Nat.le_of_ble_eq_true rfl)
  rw [lg_entry_eq]
  generalize (lg_sl ([.int x0]) ++ List.replicate (1 - (lg_sl ([.int x0])).length) Slot.unset).toArray = ls at hl ⊢
  have hl : lv_has ls 1 [(0, .int x0)] := hl
  obtain ⟨r0, hf⟩ : ∃ r0, f_lower S x0 = r0 := ⟨_, rfl⟩
  have hf0 := hf
  unfold f_lower at hf
  unfold d_lower at hd
  refine lv_iload_n hx hb dX14_lower_0 rfl (lv_at hl 0 rfl) ?_
  refine lv_sipush (v := 148) hx hb dX14_lower_1 (by decide) ?_
  have J_14 : ∀ (H : Heap) (locs : List Loc) (ls : Array Slot), d_lower_J14 S → f_lower_J14 S = r0 → Rep g ad A s S H locs → lv_has ls 1 [] → W p l e (headSpec (wt2 yX14_lower cX14_lower 1 (some .int)) ({ frames := 0, cells := 0, slots := 0, locals := 0 })).room s m ([.int x0] : List Value).toArray below meth c H locs 0 0 (MQ below (va_Qi (fun (r : Int32) (_ : Unit) => r = f_lower S x0) (fun (_ : Unit) (t : State) => qE g ad A S t) A) ([.int x0] : List Value).toArray s 0 0 A) (F0 m 14 ls []) := by
    intro H locs ls hd hf hR hl
    unfold d_lower_J14 at hd
    unfold f_lower_J14 at hf
    refine lv_bipush (v := 20) hx hb dX14_lower_14 (by decide) ?_
    refine lv_goto (tgt := 21) hx hb dX14_lower_16 (by decide) ?_
    exact W.iret (v := 20) hx hb hr (fun t9 ht9 hW9 => ⟨⟨_, (), rfl, hf.trans hf0.symm, ⟨by rw [ht9]; exact hR.P, hR.D⟩⟩, hR.sS.F ht9⟩) hR.sS.2.2 dX14_lower_21
  refine lv_icmp_eq (tgt := 14) hx hb dX14_lower_4 (by decide) (fun c1 => ?_) (fun c1 => ?_)
  · rw [if_pos (k_eq rfl (by decide) c1)] at hf
    (try rw [if_pos (k_eq rfl (by decide) c1)] at hd)
    exact J_14 _ _ ls hd hf  hR (lv_sub hl [] rfl)
  · rw [if_neg (k_ne rfl (by decide) c1)] at hf
    (try rw [if_neg (k_ne rfl (by decide) c1)] at hd)
    refine lv_iload_n hx hb dX14_lower_7 rfl (lv_at hl 0 rfl) ?_
    refine lv_iconst (v := 2) hx hb dX14_lower_8 (by decide) ?_
    refine lv_irem hx hb dX14_lower_9 (by decide) ?_
    refine lv_topi (fun z2 ez2 => ?_)
    obtain rfl : z2 = (x0 - x0 / (2 : Int32) * (2 : Int32)) := ez2
    refine lv_iconst (v := 1) hx hb dX14_lower_10 (by decide) ?_
    refine lv_icmp_ne (tgt := 19) hx hb dX14_lower_11 (by decide) (fun c3 => ?_) (fun c3 => ?_)
    · rw [if_neg (k_ne rfl (by decide) c3)] at hf
      (try rw [if_neg (k_ne rfl (by decide) c3)] at hd)
      refine lv_bipush (v := 18) hx hb dX14_lower_19 (by decide) ?_
      exact W.iret (v := 18) hx hb hr (fun t9 ht9 hW9 => ⟨⟨_, (), rfl, hf.trans hf0.symm, ⟨by rw [ht9]; exact hR.P, hR.D⟩⟩, hR.sS.F ht9⟩) hR.sS.2.2 dX14_lower_21
    · rw [if_pos (k_eq rfl (by decide) c3)] at hf
      (try rw [if_pos (k_eq rfl (by decide) c3)] at hd)
      exact J_14 _ _ ls hd hf  hR (lv_sub hl [] rfl)
def f_isOperator_J32 (S : MS) : Int32 := (1 : Int32)
def d_isOperator_J32 (S : MS) : Prop := True
def f_isOperator_J25 (S : MS) (v25_0 : Int32) : Int32 := (if v25_0.toInt = 148 then f_isOperator_J32 S else (0 : Int32))
def d_isOperator_J25 (S : MS) (v25_0 : Int32) : Prop := (if v25_0.toInt = 148 then d_isOperator_J32 S else True)
def f_isOperator_J12 (S : MS) (v12_0 : Int32) : Int32 := (if v12_0.toInt < 120 then f_isOperator_J25 S v12_0 else (if v12_0.toInt ≤ 131 then f_isOperator_J32 S else f_isOperator_J25 S v12_0))
def d_isOperator_J12 (S : MS) (v12_0 : Int32) : Prop := (if v12_0.toInt < 120 then d_isOperator_J25 S v12_0 else (if v12_0.toInt ≤ 131 then d_isOperator_J32 S else d_isOperator_J25 S v12_0))
def f_isOperator (S : MS) (x0 : Int32) : Int32 := (if x0.toInt < 96 then f_isOperator_J12 S x0 else (if x0.toInt ≤ 115 then f_isOperator_J32 S else f_isOperator_J12 S x0))
def d_isOperator (S : MS) (x0 : Int32) : Prop := (if x0.toInt < 96 then d_isOperator_J12 S x0 else (if x0.toInt ≤ 115 then d_isOperator_J32 S else d_isOperator_J12 S x0))
set_option maxHeartbeats 2000000 in
set_option maxRecDepth 100000 in
theorem r_isOperator (l : Launch) (g : Gr) (ad : Nat → Nat) (sz : Nat) (S : MS) (x0 : Int32) (hw : wfM S) (hd : d_isOperator S x0) : Met l yX14_isOperator (wt2 yX14_isOperator cX14_isOperator 1 (some .boolean)) ({ frames := 0, cells := 0, slots := 0, locals := 0 }) (va_Pc [.int x0] (st_R g ad sz S)) (va_Qi (fun (r : Int32) (_ : Unit) => r = f_isOperator S x0 ∧ (r = 0 ∨ r = 1)) (fun (_ : Unit) (t : State) => qE g ad (va_A (Wd g ad S) sz) S t) (va_A (Wd g ad S) sz)) 0 0 (va_A (Wd g ad S) sz) := by
  refine Met.ofW (cc := cX14_isOperator) (maxL := 1) (ret := (some .boolean)) (by decide) rfl ?_
  intro p e s m args below meth c s₁ B hml hv
  obtain ⟨rfl, hsz, hP, hK, hD0, hex, hE⟩ := hv
  have hx := B.exec
  have hb := B.bytes
  have hr := B.returns
  have hts0 := atoms_spec (ws := wt2 yX14_isOperator cX14_isOperator 1 (some .boolean)) B.pre
  have hts : ∀ w ∈ tb2, w.before _ s = true := fun w h => hts0 w (List.mem_cons_of_mem _ h)
  have hown : s.vm.findClass RX14 = some m.cls := findClass_of_methodNamed B.named
  subst hsz
  have hD := hD0.self (sz := s.heap.size)
  generalize hAe : va_A (Wd g ad S) s.heap.size = A at hD hE ⊢
  have hA : ∀ q : Nat, s.heap.size ≤ q → A q := fun q h => by rw [← hAe]; exact Or.inr h
  have hR : Rep g ad A s S s.heap [] := ⟨hK, hP, hD, va_S.rf, hw⟩
  clear hK hP hD hD0
  have hl := lv_entry ([.int x0]) (n := 1) (Nat.le_of_ble_eq_true rfl)
  rw [lg_entry_eq]
  generalize (lg_sl ([.int x0]) ++ List.replicate (1 - (lg_sl ([.int x0])).length) Slot.unset).toArray = ls at hl ⊢
  have hl : lv_has ls 1 [(0, .int x0)] := hl
  obtain ⟨r0, hf⟩ : ∃ r0, f_isOperator S x0 = r0 := ⟨_, rfl⟩
  have hf0 := hf
  unfold f_isOperator at hf
  unfold d_isOperator at hd
  refine lv_iload_n hx hb dX14_isOperator_0 rfl (lv_at hl 0 rfl) ?_
  refine lv_bipush (v := 96) hx hb dX14_isOperator_1 (by decide) ?_
  have J_32 : ∀ (H : Heap) (locs : List Loc) (ls : Array Slot), d_isOperator_J32 S → f_isOperator_J32 S = r0 → Rep g ad A s S H locs → lv_has ls 1 [] → W p l e (headSpec (wt2 yX14_isOperator cX14_isOperator 1 (some .boolean)) ({ frames := 0, cells := 0, slots := 0, locals := 0 })).room s m ([.int x0] : List Value).toArray below meth c H locs 0 0 (MQ below (va_Qi (fun (r : Int32) (_ : Unit) => r = f_isOperator S x0 ∧ (r = 0 ∨ r = 1)) (fun (_ : Unit) (t : State) => qE g ad A S t) A) ([.int x0] : List Value).toArray s 0 0 A) (F0 m 32 ls []) := by
    intro H locs ls hd hf hR hl
    unfold d_isOperator_J32 at hd
    unfold f_isOperator_J32 at hf
    refine lv_iconst (v := 1) hx hb dX14_isOperator_32 (by decide) ?_
    refine lv_goto (tgt := 37) hx hb dX14_isOperator_33 (by decide) ?_
    exact W.zret (v := 1) hx hb hr (nz (Or.inr rfl)) (fun t9 ht9 hW9 => ⟨⟨_, (), rfl, ⟨hf.trans hf0.symm, (Or.inr rfl)⟩, ⟨by rw [ht9]; exact hR.P, hR.D⟩⟩, hR.sS.F ht9⟩) hR.sS.2.2 dX14_isOperator_37
  have J_12 : ∀ (v12_0 : Int32) (H : Heap) (locs : List Loc) (ls : Array Slot), d_isOperator_J12 S v12_0 → f_isOperator_J12 S v12_0 = r0 → Rep g ad A s S H locs → lv_has ls 1 [(0, .int v12_0)] → W p l e (headSpec (wt2 yX14_isOperator cX14_isOperator 1 (some .boolean)) ({ frames := 0, cells := 0, slots := 0, locals := 0 })).room s m ([.int x0] : List Value).toArray below meth c H locs 0 0 (MQ below (va_Qi (fun (r : Int32) (_ : Unit) => r = f_isOperator S x0 ∧ (r = 0 ∨ r = 1)) (fun (_ : Unit) (t : State) => qE g ad A S t) A) ([.int x0] : List Value).toArray s 0 0 A) (F0 m 12 ls []) := by
    intro v12_0 H locs ls hd hf hR hl
    unfold d_isOperator_J12 at hd
    unfold f_isOperator_J12 at hf
    refine lv_iload_n hx hb dX14_isOperator_12 rfl (lv_at hl 0 rfl) ?_
    refine lv_bipush (v := 120) hx hb dX14_isOperator_13 (by decide) ?_
    have J_25 : ∀ (v25_0 : Int32) (H : Heap) (locs : List Loc) (ls : Array Slot), d_isOperator_J25 S v25_0 → f_isOperator_J25 S v25_0 = r0 → Rep g ad A s S H locs → lv_has ls 1 [(0, .int v25_0)] → W p l e (headSpec (wt2 yX14_isOperator cX14_isOperator 1 (some .boolean)) ({ frames := 0, cells := 0, slots := 0, locals := 0 })).room s m ([.int x0] : List Value).toArray below meth c H locs 0 0 (MQ below (va_Qi (fun (r : Int32) (_ : Unit) => r = f_isOperator S x0 ∧ (r = 0 ∨ r = 1)) (fun (_ : Unit) (t : State) => qE g ad A S t) A) ([.int x0] : List Value).toArray s 0 0 A) (F0 m 25 ls []) := by
      intro v25_0 H locs ls hd hf hR hl
      unfold d_isOperator_J25 at hd
      unfold f_isOperator_J25 at hf
      refine lv_iload_n hx hb dX14_isOperator_25 rfl (lv_at hl 0 rfl) ?_
      refine lv_sipush (v := 148) hx hb dX14_isOperator_26 (by decide) ?_
      refine lv_icmp_ne (tgt := 36) hx hb dX14_isOperator_29 (by decide) (fun c1 => ?_) (fun c1 => ?_)
      · rw [if_neg (k_ne rfl (by decide) c1)] at hf
        (try rw [if_neg (k_ne rfl (by decide) c1)] at hd)
        refine lv_iconst (v := 0) hx hb dX14_isOperator_36 (by decide) ?_
        exact W.zret (v := 0) hx hb hr (nz (Or.inl rfl)) (fun t9 ht9 hW9 => ⟨⟨_, (), rfl, ⟨hf.trans hf0.symm, (Or.inl rfl)⟩, ⟨by rw [ht9]; exact hR.P, hR.D⟩⟩, hR.sS.F ht9⟩) hR.sS.2.2 dX14_isOperator_37
      · rw [if_pos (k_eq rfl (by decide) c1)] at hf
        (try rw [if_pos (k_eq rfl (by decide) c1)] at hd)
        exact J_32 _ _ ls hd hf  hR (lv_sub hl [] rfl)
    refine lv_icmp_lt (tgt := 25) hx hb dX14_isOperator_15 (by decide) (fun c2 => ?_) (fun c2 => ?_)
    · rw [if_pos (k_lt rfl (by decide) c2)] at hf
      (try rw [if_pos (k_lt rfl (by decide) c2)] at hd)
      exact J_25 v12_0 _ _ ls hd hf  hR (lv_sub hl [0] rfl)
    · rw [if_neg (k_nlt rfl (by decide) c2)] at hf
      (try rw [if_neg (k_nlt rfl (by decide) c2)] at hd)
      refine lv_iload_n hx hb dX14_isOperator_18 rfl (lv_at hl 0 rfl) ?_
      refine lv_sipush (v := 131) hx hb dX14_isOperator_19 (by decide) ?_
      refine lv_icmp_le (tgt := 32) hx hb dX14_isOperator_22 (by decide) (fun c3 => ?_) (fun c3 => ?_)
      · rw [if_pos (k_le rfl (by decide) c3)] at hf
        (try rw [if_pos (k_le rfl (by decide) c3)] at hd)
        exact J_32 _ _ ls hd hf  hR (lv_sub hl [] rfl)
      · rw [if_neg (k_nle rfl (by decide) c3)] at hf
        (try rw [if_neg (k_nle rfl (by decide) c3)] at hd)
        exact J_25 v12_0 _ _ ls hd hf  hR (lv_sub hl [0] rfl)
  refine lv_icmp_lt (tgt := 12) hx hb dX14_isOperator_3 (by decide) (fun c4 => ?_) (fun c4 => ?_)
  · rw [if_pos (k_lt rfl (by decide) c4)] at hf
    (try rw [if_pos (k_lt rfl (by decide) c4)] at hd)
    exact J_12 x0 _ _ ls hd hf  hR (lv_sub hl [0] rfl)
  · rw [if_neg (k_nlt rfl (by decide) c4)] at hf
    (try rw [if_neg (k_nlt rfl (by decide) c4)] at hd)
    refine lv_iload_n hx hb dX14_isOperator_6 rfl (lv_at hl 0 rfl) ?_
    refine lv_bipush (v := 115) hx hb dX14_isOperator_7 (by decide) ?_
    refine lv_icmp_le (tgt := 32) hx hb dX14_isOperator_9 (by decide) (fun c5 => ?_) (fun c5 => ?_)
    · rw [if_pos (k_le rfl (by decide) c5)] at hf
      (try rw [if_pos (k_le rfl (by decide) c5)] at hd)
      exact J_32 _ _ ls hd hf  hR (lv_sub hl [] rfl)
    · rw [if_neg (k_nle rfl (by decide) c5)] at hf
      (try rw [if_neg (k_nle rfl (by decide) c5)] at hd)
      exact J_12 x0 _ _ ls hd hf  hR (lv_sub hl [0] rfl)
