def w_folded_J217 (Q : Int32 → MS → Prop) (U217 : MS) (v217_2 : Int32) (v217_4 : Int32) : Prop := (((0 : Int) ≤ v217_2.toInt ∧ v217_2.toInt < 1200) ∧ (∀ S40, S40 = wI U217 81 v217_2.toInt.toNat (vp_nar .boolean (1 : Int32)) → (((0 : Int) ≤ v217_4.toInt ∧ v217_4.toInt < 1200) ∧ (∀ S42, S42 = wI S40 81 v217_4.toInt.toNat (vp_nar .boolean (1 : Int32)) → Q (1 : Int32) S42))))
def w_folded_J162 (Q : Int32 → MS → Prop) (U162 : MS) (t162_0 : Int64) (t162_1 : Int32) (t162_2 : Int32) (v162_2 : Int32) (v162_4 : Int32) : Prop := (∃ Q60, w_become U162 t162_2 t162_1 t162_0 Q60 ∧ ∀ S61, Q60 S61 → w_folded_J217 Q S61 v162_2 v162_4)
def w_folded_J123 (Q : Int32 → MS → Prop) (U123 : MS) (v123_1 : Int32) (v123_2 : Int32) (v123_4 : Int32) (v123_5 : Int32) (v123_6 : Int64) (v123_8 : Int64) : Prop := ((v123_5.toInt = 148 → ((0 ≤ (lg_cmp v123_6 v123_8).toInt → (((lg_cmp v123_6 v123_8).toInt ≤ 0 → w_folded_J162 Q U123 0 18 v123_1 v123_2 v123_4) ∧ (¬ (lg_cmp v123_6 v123_8).toInt ≤ 0 → w_folded_J162 Q U123 1 18 v123_1 v123_2 v123_4))) ∧ (¬ 0 ≤ (lg_cmp v123_6 v123_8).toInt → w_folded_J162 Q U123 (-1 : Int64) 18 v123_1 v123_2 v123_4))) ∧ (¬ v123_5.toInt = 148 → (((0 : Int) ≤ v123_1.toInt ∧ v123_1.toInt < 1200) ∧ (((qI U123 78 v123_1.toInt.toNat).toInt = 18 → (d_intWork U123 v123_5 (v123_6.toInt32) (v123_8.toInt32) ∧ (∃ Q56, w_become U123 v123_1 (18 : Int32) ((f_intWork U123 v123_5 (v123_6.toInt32) (v123_8.toInt32)).toInt64) Q56 ∧ ∀ S57, Q56 S57 → w_folded_J217 Q S57 v123_2 v123_4))) ∧ (¬ (qI U123 78 v123_1.toInt.toNat).toInt = 18 → (d_longWork U123 v123_5 v123_6 v123_8 ∧ (∃ Q50, w_become U123 v123_1 (20 : Int32) (f_longWork U123 v123_5 v123_6 v123_8) Q50 ∧ ∀ S51, Q50 S51 → w_folded_J217 Q S51 v123_2 v123_4)))))))
def w_folded (S : MS) (x1 : Int32) (x2 : Int32) (x3 : Int32) (Q : Int32 → MS → Prop) : Prop := (∃ Q1, w_behind S x2 Q1 ∧ ∀ r2 S3, Q1 r2 S3 → (((qI S3 0 129).toInt ≤ r2.toInt → Q (0 : Int32) S3) ∧ (¬ (qI S3 0 129).toInt ≤ r2.toInt → ((r2.toInt = x3.toInt → Q (0 : Int32) S3) ∧ (¬ r2.toInt = x3.toInt → (((0 : Int) ≤ r2.toInt ∧ r2.toInt < 1201) ∧ (((qI S3 87 r2.toInt.toNat).toInt = 0 → (((0 : Int) ≤ r2.toInt ∧ r2.toInt < 1200) ∧ (d_isOperator S3 (qI S3 78 r2.toInt.toNat) ∧ (((f_isOperator S3 (qI S3 78 r2.toInt.toNat)).toInt = 0 → Q (0 : Int32) S3) ∧ (¬ (f_isOperator S3 (qI S3 78 r2.toInt.toNat)).toInt = 0 → (((0 : Int) ≤ r2.toInt ∧ r2.toInt < 1200) ∧ (∀ a18 : Int32, a18 = (qI S3 78 r2.toInt.toNat) → (((0 : Int) ≤ x1.toInt ∧ x1.toInt < 1200) ∧ (d_lower S3 a18 ∧ (((qI S3 78 x1.toInt.toNat).toInt = (f_lower S3 a18).toInt → (((0 : Int) ≤ x2.toInt ∧ x2.toInt < 1200) ∧ (d_upper S3 a18 ∧ (((qI S3 78 x2.toInt.toNat).toInt = (f_upper S3 a18).toInt → (d_worthAt S3 x1 ∧ (∀ a34 : Int64, a34 = (f_worthAt S3 x1) → (d_worthAt S3 x2 ∧ (∀ a38 : Int64, a38 = (f_worthAt S3 x2) → ((a18.toInt < 108 → w_folded_J123 Q S3 x1 x2 r2 a18 a34 a38) ∧ (¬ a18.toInt < 108 → ((113 < a18.toInt → w_folded_J123 Q S3 x1 x2 r2 a18 a34 a38) ∧ (¬ 113 < a18.toInt → (((lg_cmp a38 0).toInt = 0 → Q (0 : Int32) S3) ∧ (¬ (lg_cmp a38 0).toInt = 0 → w_folded_J123 Q S3 x1 x2 r2 a18 a34 a38))))))))))) ∧ (¬ (qI S3 78 x2.toInt.toNat).toInt = (f_upper S3 a18).toInt → Q (0 : Int32) S3))))) ∧ (¬ (qI S3 78 x1.toInt.toNat).toInt = (f_lower S3 a18).toInt → Q (0 : Int32) S3))))))))))) ∧ (¬ (qI S3 87 r2.toInt.toNat).toInt = 0 → Q (0 : Int32) S3))))))))
set_option maxHeartbeats 2000000 in
set_option maxRecDepth 100000 in
theorem r_folded (l : Launch) (g : Gr) (ad : Nat → Nat) (sz : Nat) (S : MS) (x1 : Int32) (x2 : Int32) (x3 : Int32) (hw : wfM S) (Q : Int32 → MS → Prop) (h : w_folded S x1 x2 x3 Q) : Met l yX14_folded (wt2 yX14_folded cX14_folded 10 (some .boolean)) ({ frames := 2, cells := 0, slots := 0, locals := 43 }) (va_Pc [.ref (ad 0), .int x1, .int x2, .int x3] (st_R g ad sz S)) (va_Qi (fun (r : Int32) (u : MS) => Q r u ∧ wfM u ∧ shy S u ∧ (r = 0 ∨ r = 1)) (fun (u : MS) (t : State) => qE g ad (va_A (Wd g ad S) sz) u t) (va_A (Wd g ad S) sz)) 0 0 (va_A (Wd g ad S) sz) := by
  refine Met.ofW (cc := cX14_folded) (maxL := 10) (ret := (some .boolean)) (by decide) rfl ?_
  intro p e s m args below meth c s₁ B hml hv
  obtain ⟨rfl, hsz, hP, hK, hD0, hex, hE⟩ := hv
  have hx := B.exec
  have hb := B.bytes
  have hr := B.returns
  have hts0 := atoms_spec (ws := wt2 yX14_folded cX14_folded 10 (some .boolean)) B.pre
  have hts : ∀ w ∈ tb2, w.before _ s = true := fun w h => hts0 w (List.mem_cons_of_mem _ h)
  have hown : s.vm.findClass RX14 = some m.cls := findClass_of_methodNamed B.named
  subst hsz
  have hD := hD0.self (sz := s.heap.size)
  generalize hAe : va_A (Wd g ad S) s.heap.size = A at hD hE ⊢
  have hA : ∀ q : Nat, s.heap.size ≤ q → A q := fun q h => by rw [← hAe]; exact Or.inr h
  have hR : Rep g ad A s S s.heap [] := ⟨hK, hP, hD, va_S.rf, hw⟩
  clear hK hP hD hD0
  have hl := lv_entry ([.ref (ad 0), .int x1, .int x2, .int x3]) (n := 10) (Nat.le_of_ble_eq_true rfl)
  rw [lg_entry_eq]
  generalize (lg_sl ([.ref (ad 0), .int x1, .int x2, .int x3]) ++ List.replicate (10 - (lg_sl ([.ref (ad 0), .int x1, .int x2, .int x3])).length) Slot.unset).toArray = ls at hl ⊢
  have hl : lv_has ls 10 [(0, .ref (ad 0)), (1, .int x1), (2, .int x2), (3, .int x3)] := hl
  have hsh : shy S S := shy.rf
  unfold w_folded at h
  refine lv_aload_n hx hb dX14_folded_0 rfl (lv_at hl 0 rfl) ?_
  refine lv_iload_n hx hb dX14_folded_1 rfl (lv_at hl 2 rfl) ?_
  obtain ⟨Q1, h0, h⟩ := h
  have hFc := rfree hR hA
  refine va_calli (va_runV (As := [.int x2]) (rest := []) ⟨hx, hb, hml, hown, hts⟩ (r_behind l g ad s.heap.size S x2 hR.w  Q1 h0) (cwV 1 hts (gd2_V kx_724 kx_725 kx_726 kx_177 kx_727) rfl rfl rfl (by decide +kernel) ⟨Nat.le_of_ble_eq_true rfl, Nat.le_of_ble_eq_true rfl⟩) ⟨rblind, va_recv hR.K hR.P (ci := 13) (q0 := 0) rfl (hR.at14 hR.w.1), fun U hU hW9 => rmk hU hW9 hR hex hE hFc⟩ rfl rfl hl.1 rfl (lv_room (Nat.le_of_ble_eq_true rfl)) dX14_folded_2 ⟨Nat.le_of_ble_eq_true rfl, Nat.le_of_ble_eq_true rfl⟩) hR.sS (fun q _ h => hFc q h) hFc (fun r2 S3 t9 H1 locs ht9 hvm9 hw9 hB9 hz9 hk9 hS => ?_)
  obtain ⟨hq4, hw9, hs9⟩ := hw9
  have hR : Rep g ad A s S3 H1 locs := hR.call ht9 hB9 hw9 hS hFc
  have hsh := hsh.tr hs9
  replace h := h r2 S3 hq4
  clear hB9 hz9 hk9 hvm9 ht9 hw9 hs9 hS
  generalize H1 = H at hR ⊢
  refine lv_istore (lv' := [(4, .int r2), (0, .ref (ad 0)), (1, .int x1), (2, .int x2), (3, .int x3)]) hx hb dX14_folded_5 hl (by decide) rfl (fun ls hl => ?_)
  refine lv_iload hx hb dX14_folded_7 (lv_at hl 0 rfl) ?_
  refine lv_aload_n hx hb dX14_folded_9 rfl (lv_at hl 1 rfl) ?_
  refine va_get (D := rD g) (ci := 13) (v := .int (qI S3 0 129)) (C := RX14) (T := TX14) (N := 143) hx hb hts in2X14 hown hR.K hR.P 0 (hR.at14 hR.w.1) rfl 129 (by decide) (hts _ kx_691) (fun _ h9 => h9) rfl dX14_folded_10 ?_
  refine lv_icmp_ge (tgt := 45) hx hb dX14_folded_13 (by decide) (fun c5 => ?_) (fun c5 => ?_)
  · replace h := h.1 (k_le rfl rfl c5)
    refine lv_iconst (v := 0) hx hb dX14_folded_45 (by decide) ?_
    exact W.zret (v := 0) hx hb hr (nz (Or.inl rfl)) (fun t9 ht9 hW9 => ⟨⟨_, S3, rfl, ⟨h, hR.w, hsh, (Or.inl rfl)⟩, ⟨by rw [ht9]; exact hR.P, hR.D⟩⟩, hR.sS.F ht9⟩) hR.sS.2.2 dX14_folded_46
  · replace h := h.2 (k_nle rfl rfl c5)
    refine lv_iload hx hb dX14_folded_16 (lv_at hl 0 rfl) ?_
    refine lv_iload_n hx hb dX14_folded_18 rfl (lv_at hl 4 rfl) ?_
    refine lv_icmp_eq (tgt := 45) hx hb dX14_folded_19 (by decide) (fun c6 => ?_) (fun c6 => ?_)
    · replace h := h.1 (k_eq rfl rfl c6)
      refine lv_iconst (v := 0) hx hb dX14_folded_45 (by decide) ?_
      exact W.zret (v := 0) hx hb hr (nz (Or.inl rfl)) (fun t9 ht9 hW9 => ⟨⟨_, S3, rfl, ⟨h, hR.w, hsh, (Or.inl rfl)⟩, ⟨by rw [ht9]; exact hR.P, hR.D⟩⟩, hR.sS.F ht9⟩) hR.sS.2.2 dX14_folded_46
    · replace h := h.2 (k_ne rfl rfl c6)
      refine lv_aload_n hx hb dX14_folded_22 rfl (lv_at hl 1 rfl) ?_
      refine va_get (D := rD g) (ci := 13) (v := .ref (ad 87)) (C := RX14) (T := TX14) (N := 143) hx hb hts in2X14 hown hR.K hR.P 0 (hR.at14 hR.w.1) rfl 136 (by decide) (hts _ kx_705) (fun _ h9 => h9) (congrArg (fun z => some (vf ad z)) (hR.w.2.1 _ fin_136).1) dX14_folded_23 ?_
      refine lv_iload hx hb dX14_folded_26 (lv_at hl 0 rfl) ?_
      obtain ⟨hv7, h⟩ := h
      refine va_zald hx hb hR.K hR.P 87 2 (hR.atZ (hR.w.2.1 _ fin_136).2.1) rfl (k_ixN (k_ix (n := 1201) (x := r2) (a := r2.toInt) rfl hv7) (hR.w.2.1 _ fin_136).2.2) dX14_folded_28 ?_
      refine lv_topi (fun z8 ez8 => ?_)
      obtain rfl : z8 = (qI S3 87 r2.toInt.toNat) := ez8
      refine lv_if_ne (tgt := 45) hx hb dX14_folded_29 (by decide) (fun c9 => ?_) (fun c9 => ?_)
      · replace h := h.2 (k_ne rfl (by decide) c9)
        refine lv_iconst (v := 0) hx hb dX14_folded_45 (by decide) ?_
        exact W.zret (v := 0) hx hb hr (nz (Or.inl rfl)) (fun t9 ht9 hW9 => ⟨⟨_, S3, rfl, ⟨h, hR.w, hsh, (Or.inl rfl)⟩, ⟨by rw [ht9]; exact hR.P, hR.D⟩⟩, hR.sS.F ht9⟩) hR.sS.2.2 dX14_folded_46
      · replace h := h.1 (k_eq rfl (by decide) c9)
        refine lv_aload_n hx hb dX14_folded_32 rfl (lv_at hl 1 rfl) ?_
        refine va_get (D := rD g) (ci := 13) (v := .ref (ad 78)) (C := RX14) (T := TX14) (N := 143) hx hb hts in2X14 hown hR.K hR.P 0 (hR.at14 hR.w.1) rfl 125 (by decide) (hts _ kx_697) (fun _ h9 => h9) (congrArg (fun z => some (vf ad z)) (hR.w.2.1 _ fin_125).1) dX14_folded_33 ?_
        refine lv_iload hx hb dX14_folded_36 (lv_at hl 0 rfl) ?_
        obtain ⟨hv10, h⟩ := h
        refine va_iald hx hb hR.K hR.P 78 1 (hR.atI (hR.w.2.1 _ fin_125).2.1) rfl (k_ixN (k_ix (n := 1200) (x := r2) (a := r2.toInt) rfl hv10) (hR.w.2.1 _ fin_125).2.2) dX14_folded_38 ?_
        refine lv_topi (fun z11 ez11 => ?_)
        obtain rfl : z11 = (qI S3 78 r2.toInt.toNat) := ez11
        obtain ⟨hv12, h⟩ := h
        have hFc := rfree hR hA
        refine va_calli (va_runS (As := [.int (qI S3 78 r2.toInt.toNat)]) (rest := []) ⟨hx, hb, hml, hown, hts⟩ (r_isOperator l g ad H.size S3 (qI S3 78 r2.toInt.toNat) hR.w  hv12) (va_cwS 1 hts (gd2_S kx_752 kx_753 kx_177 kx_754) rfl rfl rfl (by decide +kernel) ⟨Nat.le_of_ble_eq_true rfl, Nat.le_of_ble_eq_true rfl⟩) ⟨rblind, fun U hU hW9 => rmk hU hW9 hR hex hE hFc⟩ rfl rfl hl.1 rfl (lv_room (Nat.le_of_ble_eq_true rfl)) dX14_folded_39 ⟨Nat.le_of_ble_eq_true rfl, Nat.le_of_ble_eq_true rfl⟩) hR.sS (fun q _ h => hFc q h) hFc (fun r13 u9 t9 H1 locs ht9 hvm9 hw9 hB9 hz9 hk9 hS => ?_)
        have hR : Rep g ad A s S3 H1 locs := hR.call ht9 hB9 hR.w hS hFc
        obtain ⟨rfl, hz_r13⟩ := hw9
        clear hB9 hz9 hk9 hvm9 ht9 hS
        generalize H1 = H at hR ⊢
        refine lv_if_ne (tgt := 47) hx hb dX14_folded_42 (by decide) (fun c15 => ?_) (fun c15 => ?_)
        · replace h := h.2 (k_ne rfl (by decide) c15)
          refine lv_aload_n hx hb dX14_folded_47 rfl (lv_at hl 1 rfl) ?_
          refine va_get (D := rD g) (ci := 13) (v := .ref (ad 78)) (C := RX14) (T := TX14) (N := 143) hx hb hts in2X14 hown hR.K hR.P 0 (hR.at14 hR.w.1) rfl 125 (by decide) (hts _ kx_697) (fun _ h9 => h9) (congrArg (fun z => some (vf ad z)) (hR.w.2.1 _ fin_125).1) dX14_folded_48 ?_
          refine lv_iload hx hb dX14_folded_51 (lv_at hl 0 rfl) ?_
          obtain ⟨hv16, h⟩ := h
          refine va_iald hx hb hR.K hR.P 78 1 (hR.atI (hR.w.2.1 _ fin_125).2.1) rfl (k_ixN (k_ix (n := 1200) (x := r2) (a := r2.toInt) rfl hv16) (hR.w.2.1 _ fin_125).2.2) dX14_folded_53 ?_
          refine lv_topi (fun z17 ez17 => ?_)
          obtain rfl : z17 = (qI S3 78 r2.toInt.toNat) := ez17
          obtain ⟨a18, ea18⟩ : ∃ z, z = (qI S3 78 r2.toInt.toNat) := ⟨_, rfl⟩
          rw [← ea18]
          replace h := h a18 ea18
          refine lv_istore (lv' := [(5, .int a18), (4, .int r2), (0, .ref (ad 0)), (1, .int x1), (2, .int x2), (3, .int x3)]) hx hb dX14_folded_54 hl (by decide) rfl (fun ls hl => ?_)
          refine lv_aload_n hx hb dX14_folded_56 rfl (lv_at hl 2 rfl) ?_
          refine va_get (D := rD g) (ci := 13) (v := .ref (ad 78)) (C := RX14) (T := TX14) (N := 143) hx hb hts in2X14 hown hR.K hR.P 0 (hR.at14 hR.w.1) rfl 125 (by decide) (hts _ kx_697) (fun _ h9 => h9) (congrArg (fun z => some (vf ad z)) (hR.w.2.1 _ fin_125).1) dX14_folded_57 ?_
          refine lv_iload_n hx hb dX14_folded_60 rfl (lv_at hl 3 rfl) ?_
          obtain ⟨hv19, h⟩ := h
          refine va_iald hx hb hR.K hR.P 78 1 (hR.atI (hR.w.2.1 _ fin_125).2.1) rfl (k_ixN (k_ix (n := 1200) (x := x1) (a := x1.toInt) rfl hv19) (hR.w.2.1 _ fin_125).2.2) dX14_folded_61 ?_
          refine lv_topi (fun z20 ez20 => ?_)
          obtain rfl : z20 = (qI S3 78 x1.toInt.toNat) := ez20
          refine lv_iload hx hb dX14_folded_62 (lv_at hl 0 rfl) ?_
          obtain ⟨hv21, h⟩ := h
          have hFc := rfree hR hA
          refine va_calli (va_runS (As := [.int a18]) (rest := [.int (qI S3 78 x1.toInt.toNat)]) ⟨hx, hb, hml, hown, hts⟩ (r_lower l g ad H.size S3 a18 hR.w  hv21) (va_cwS 1 hts (gd2_S kx_755 kx_756 kx_177 kx_757) rfl rfl rfl (by decide +kernel) ⟨Nat.le_of_ble_eq_true rfl, Nat.le_of_ble_eq_true rfl⟩) ⟨rblind, fun U hU hW9 => rmk hU hW9 hR hex hE hFc⟩ rfl rfl hl.1 rfl (lv_room (Nat.le_of_ble_eq_true rfl)) dX14_folded_64 ⟨Nat.le_of_ble_eq_true rfl, Nat.le_of_ble_eq_true rfl⟩) hR.sS (fun q _ h => hFc q h) hFc (fun r22 u9 t9 H1 locs ht9 hvm9 hw9 hB9 hz9 hk9 hS => ?_)
          have hR : Rep g ad A s S3 H1 locs := hR.call ht9 hB9 hR.w hS hFc
          obtain rfl : r22 = (f_lower S3 a18) := hw9
          clear hB9 hz9 hk9 hvm9 ht9 hS
          generalize H1 = H at hR ⊢
          refine lv_icmp_ne (tgt := 84) hx hb dX14_folded_67 (by decide) (fun c24 => ?_) (fun c24 => ?_)
          · replace h := h.2 (k_ne rfl rfl c24)
            refine lv_iconst (v := 0) hx hb dX14_folded_84 (by decide) ?_
            exact W.zret (v := 0) hx hb hr (nz (Or.inl rfl)) (fun t9 ht9 hW9 => ⟨⟨_, S3, rfl, ⟨h, hR.w, hsh, (Or.inl rfl)⟩, ⟨by rw [ht9]; exact hR.P, hR.D⟩⟩, hR.sS.F ht9⟩) hR.sS.2.2 dX14_folded_85
          · replace h := h.1 (k_eq rfl rfl c24)
            refine lv_aload_n hx hb dX14_folded_70 rfl (lv_at hl 2 rfl) ?_
            refine va_get (D := rD g) (ci := 13) (v := .ref (ad 78)) (C := RX14) (T := TX14) (N := 143) hx hb hts in2X14 hown hR.K hR.P 0 (hR.at14 hR.w.1) rfl 125 (by decide) (hts _ kx_697) (fun _ h9 => h9) (congrArg (fun z => some (vf ad z)) (hR.w.2.1 _ fin_125).1) dX14_folded_71 ?_
            refine lv_iload_n hx hb dX14_folded_74 rfl (lv_at hl 4 rfl) ?_
            obtain ⟨hv25, h⟩ := h
            refine va_iald hx hb hR.K hR.P 78 1 (hR.atI (hR.w.2.1 _ fin_125).2.1) rfl (k_ixN (k_ix (n := 1200) (x := x2) (a := x2.toInt) rfl hv25) (hR.w.2.1 _ fin_125).2.2) dX14_folded_75 ?_
            refine lv_topi (fun z26 ez26 => ?_)
            obtain rfl : z26 = (qI S3 78 x2.toInt.toNat) := ez26
            refine lv_iload hx hb dX14_folded_76 (lv_at hl 0 rfl) ?_
            obtain ⟨hv27, h⟩ := h
            have hFc := rfree hR hA
            refine va_calli (va_runS (As := [.int a18]) (rest := [.int (qI S3 78 x2.toInt.toNat)]) ⟨hx, hb, hml, hown, hts⟩ (r_upper l g ad H.size S3 a18 hR.w  hv27) (va_cwS 1 hts (gd2_S kx_758 kx_759 kx_177 kx_760) rfl rfl rfl (by decide +kernel) ⟨Nat.le_of_ble_eq_true rfl, Nat.le_of_ble_eq_true rfl⟩) ⟨rblind, fun U hU hW9 => rmk hU hW9 hR hex hE hFc⟩ rfl rfl hl.1 rfl (lv_room (Nat.le_of_ble_eq_true rfl)) dX14_folded_78 ⟨Nat.le_of_ble_eq_true rfl, Nat.le_of_ble_eq_true rfl⟩) hR.sS (fun q _ h => hFc q h) hFc (fun r28 u9 t9 H1 locs ht9 hvm9 hw9 hB9 hz9 hk9 hS => ?_)
            have hR : Rep g ad A s S3 H1 locs := hR.call ht9 hB9 hR.w hS hFc
            obtain rfl : r28 = (f_upper S3 a18) := hw9
            clear hB9 hz9 hk9 hvm9 ht9 hS
            generalize H1 = H at hR ⊢
            refine lv_icmp_eq (tgt := 86) hx hb dX14_folded_81 (by decide) (fun c30 => ?_) (fun c30 => ?_)
            · replace h := h.1 (k_eq rfl rfl c30)
              refine lv_aload_n hx hb dX14_folded_86 rfl (lv_at hl 2 rfl) ?_
              refine lv_iload_n hx hb dX14_folded_87 rfl (lv_at hl 3 rfl) ?_
              obtain ⟨hv31, h⟩ := h
              have hFc := rfree hR hA
              refine va_calll (va_runV (As := [.int x1]) (rest := []) ⟨hx, hb, hml, hown, hts⟩ (r_worthAt l g ad H.size S3 x1 hR.w  hv31) (cwV 1 hts (gd2_V kx_761 kx_762 kx_763 kx_177 kx_764) rfl rfl rfl (by decide +kernel) ⟨Nat.le_of_ble_eq_true rfl, Nat.le_of_ble_eq_true rfl⟩) ⟨rblind, va_recv hR.K hR.P (ci := 13) (q0 := 0) rfl (hR.at14 hR.w.1), fun U hU hW9 => rmk hU hW9 hR hex hE hFc⟩ rfl rfl hl.1 rfl (lv_room (Nat.le_of_ble_eq_true rfl)) dX14_folded_88 ⟨Nat.le_of_ble_eq_true rfl, Nat.le_of_ble_eq_true rfl⟩) hR.sS (fun q _ h => hFc q h) hFc (fun r32 u9 t9 H1 locs ht9 hvm9 hw9 hB9 hz9 hk9 hS => ?_)
              have hR : Rep g ad A s S3 H1 locs := hR.call ht9 hB9 hR.w hS hFc
              obtain rfl : r32 = (f_worthAt S3 x1) := hw9
              clear hB9 hz9 hk9 hvm9 ht9 hS
              generalize H1 = H at hR ⊢
              obtain ⟨a34, ea34⟩ : ∃ z, z = (f_worthAt S3 x1) := ⟨_, rfl⟩
              rw [← ea34]
              replace h := h a34 ea34
              refine lv_lstore (lv' := [(6, .long a34), (5, .int a18), (4, .int r2), (0, .ref (ad 0)), (1, .int x1), (2, .int x2), (3, .int x3)]) hx hb dX14_folded_91 hl (by decide) rfl (fun ls hl => ?_)
              refine lv_aload_n hx hb dX14_folded_93 rfl (lv_at hl 3 rfl) ?_
              refine lv_iload_n hx hb dX14_folded_94 rfl (lv_at hl 5 rfl) ?_
              obtain ⟨hv35, h⟩ := h
              have hFc := rfree hR hA
              refine va_calll (va_runV (As := [.int x2]) (rest := []) ⟨hx, hb, hml, hown, hts⟩ (r_worthAt l g ad H.size S3 x2 hR.w  hv35) (cwV 1 hts (gd2_V kx_761 kx_762 kx_763 kx_177 kx_764) rfl rfl rfl (by decide +kernel) ⟨Nat.le_of_ble_eq_true rfl, Nat.le_of_ble_eq_true rfl⟩) ⟨rblind, va_recv hR.K hR.P (ci := 13) (q0 := 0) rfl (hR.at14 hR.w.1), fun U hU hW9 => rmk hU hW9 hR hex hE hFc⟩ rfl rfl hl.1 rfl (lv_room (Nat.le_of_ble_eq_true rfl)) dX14_folded_95 ⟨Nat.le_of_ble_eq_true rfl, Nat.le_of_ble_eq_true rfl⟩) hR.sS (fun q _ h => hFc q h) hFc (fun r36 u9 t9 H1 locs ht9 hvm9 hw9 hB9 hz9 hk9 hS => ?_)
              have hR : Rep g ad A s S3 H1 locs := hR.call ht9 hB9 hR.w hS hFc
              obtain rfl : r36 = (f_worthAt S3 x2) := hw9
              clear hB9 hz9 hk9 hvm9 ht9 hS
              generalize H1 = H at hR ⊢
              obtain ⟨a38, ea38⟩ : ∃ z, z = (f_worthAt S3 x2) := ⟨_, rfl⟩
              rw [← ea38]
              replace h := h a38 ea38
              refine lv_lstore (lv' := [(8, .long a38), (6, .long a34), (5, .int a18), (4, .int r2), (0, .ref (ad 0)), (1, .int x1), (2, .int x2), (3, .int x3)]) hx hb dX14_folded_98 hl (by decide) rfl (fun ls hl => ?_)
              refine lv_iload hx hb dX14_folded_100 (lv_at hl 2 rfl) ?_
              refine lv_bipush (v := 108) hx hb dX14_folded_102 (by decide) ?_
              have J_123 : ∀ (U123 : MS) (v123_1 : Int32) (v123_2 : Int32) (v123_4 : Int32) (v123_5 : Int32) (v123_6 : Int64) (v123_8 : Int64) (H : Heap) (locs : List Loc) (ls : Array Slot), w_folded_J123 Q U123 v123_1 v123_2 v123_4 v123_5 v123_6 v123_8 → shy S U123 → Rep g ad A s U123 H locs → lv_has ls 10 [(0, .ref (ad 0)), (1, .int v123_1), (2, .int v123_2), (4, .int v123_4), (5, .int v123_5), (6, .long v123_6), (8, .long v123_8)] → W p l e (headSpec (wt2 yX14_folded cX14_folded 10 (some .boolean)) ({ frames := 2, cells := 0, slots := 0, locals := 43 })).room s m ([.ref (ad 0), .int x1, .int x2, .int x3] : List Value).toArray below meth c H locs 0 0 (MQ below (va_Qi (fun (r : Int32) (u : MS) => Q r u ∧ wfM u ∧ shy S u ∧ (r = 0 ∨ r = 1)) (fun (u : MS) (t : State) => qE g ad A u t) A) ([.ref (ad 0), .int x1, .int x2, .int x3] : List Value).toArray s 0 0 A) (F0 m 123 ls []) := by
                intro U123 v123_1 v123_2 v123_4 v123_5 v123_6 v123_8 H locs ls h hsh hR hl
                unfold w_folded_J123 at h
                refine lv_iload hx hb dX14_folded_123 (lv_at hl 4 rfl) ?_
                refine lv_sipush (v := 148) hx hb dX14_folded_125 (by decide) ?_
                have J_217 : ∀ (U217 : MS) (v217_2 : Int32) (v217_4 : Int32) (H : Heap) (locs : List Loc) (ls : Array Slot), w_folded_J217 Q U217 v217_2 v217_4 → shy S U217 → Rep g ad A s U217 H locs → lv_has ls 10 [(0, .ref (ad 0)), (2, .int v217_2), (4, .int v217_4)] → W p l e (headSpec (wt2 yX14_folded cX14_folded 10 (some .boolean)) ({ frames := 2, cells := 0, slots := 0, locals := 43 })).room s m ([.ref (ad 0), .int x1, .int x2, .int x3] : List Value).toArray below meth c H locs 0 0 (MQ below (va_Qi (fun (r : Int32) (u : MS) => Q r u ∧ wfM u ∧ shy S u ∧ (r = 0 ∨ r = 1)) (fun (u : MS) (t : State) => qE g ad A u t) A) ([.ref (ad 0), .int x1, .int x2, .int x3] : List Value).toArray s 0 0 A) (F0 m 217 ls []) := by
                  intro U217 v217_2 v217_4 H locs ls h hsh hR hl
                  unfold w_folded_J217 at h
                  refine lv_aload_n hx hb dX14_folded_217 rfl (lv_at hl 0 rfl) ?_
                  refine va_get (D := rD g) (ci := 13) (v := .ref (ad 81)) (C := RX14) (T := TX14) (N := 143) hx hb hts in2X14 hown hR.K hR.P 0 (hR.at14 hR.w.1) rfl 128 (by decide) (hts _ kx_692) (fun _ h9 => h9) (congrArg (fun z => some (vf ad z)) (hR.w.2.1 _ fin_128).1) dX14_folded_218 ?_
                  refine lv_iload_n hx hb dX14_folded_221 rfl (lv_at hl 1 rfl) ?_
                  refine lv_iconst (v := 1) hx hb dX14_folded_222 (by decide) ?_
                  obtain ⟨hv39, h⟩ := h
                  refine va_zast hx hb hR.K hR.P hR.D hR.sS 81 2 (hR.atZ (hR.w.2.1 _ fin_128).2.1) rfl (k_ixN (k_ix (n := 1200) (x := v217_2) (a := v217_2.toInt) rfl hv39) (hR.w.2.1 _ fin_128).2.2) dX14_folded_223 (fun H locs hP hD hS => ?_)
                  have hR : Rep g ad A s (wI U217 81 v217_2.toInt.toNat (vp_nar .boolean (1 : Int32))) H locs := hR.aZ (hR.w.2.1 _ fin_128).2.1 hP hD hS
                  obtain ⟨S40, eS40⟩ : ∃ z, z = wI U217 81 v217_2.toInt.toNat (vp_nar .boolean (1 : Int32)) := ⟨_, rfl⟩
                  rw [← eS40] at hR
                  replace h := h S40 eS40
                  have hsh : shy S S40 := by rw [eS40]; exact hsh
                  refine lv_aload_n hx hb dX14_folded_224 rfl (lv_at hl 0 rfl) ?_
                  refine va_get (D := rD g) (ci := 13) (v := .ref (ad 81)) (C := RX14) (T := TX14) (N := 143) hx hb hts in2X14 hown hR.K hR.P 0 (hR.at14 hR.w.1) rfl 128 (by decide) (hts _ kx_692) (fun _ h9 => h9) (congrArg (fun z => some (vf ad z)) (hR.w.2.1 _ fin_128).1) dX14_folded_225 ?_
                  refine lv_iload hx hb dX14_folded_228 (lv_at hl 2 rfl) ?_
                  refine lv_iconst (v := 1) hx hb dX14_folded_230 (by decide) ?_
                  obtain ⟨hv41, h⟩ := h
                  refine va_zast hx hb hR.K hR.P hR.D hR.sS 81 2 (hR.atZ (hR.w.2.1 _ fin_128).2.1) rfl (k_ixN (k_ix (n := 1200) (x := v217_4) (a := v217_4.toInt) rfl hv41) (hR.w.2.1 _ fin_128).2.2) dX14_folded_231 (fun H locs hP hD hS => ?_)
                  have hR : Rep g ad A s (wI S40 81 v217_4.toInt.toNat (vp_nar .boolean (1 : Int32))) H locs := hR.aZ (hR.w.2.1 _ fin_128).2.1 hP hD hS
                  obtain ⟨S42, eS42⟩ : ∃ z, z = wI S40 81 v217_4.toInt.toNat (vp_nar .boolean (1 : Int32)) := ⟨_, rfl⟩
                  rw [← eS42] at hR
                  replace h := h S42 eS42
                  have hsh : shy S S42 := by rw [eS42]; exact hsh
                  refine lv_iconst (v := 1) hx hb dX14_folded_232 (by decide) ?_
                  exact W.zret (v := 1) hx hb hr (nz (Or.inr rfl)) (fun t9 ht9 hW9 => ⟨⟨_, S42, rfl, ⟨h, hR.w, hsh, (Or.inr rfl)⟩, ⟨by rw [ht9]; exact hR.P, hR.D⟩⟩, hR.sS.F ht9⟩) hR.sS.2.2 dX14_folded_233
                refine lv_icmp_ne (tgt := 168) hx hb dX14_folded_128 (by decide) (fun c43 => ?_) (fun c43 => ?_)
                · replace h := h.2 (k_ne rfl (by decide) c43)
                  refine lv_aload_n hx hb dX14_folded_168 rfl (lv_at hl 0 rfl) ?_
                  refine va_get (D := rD g) (ci := 13) (v := .ref (ad 78)) (C := RX14) (T := TX14) (N := 143) hx hb hts in2X14 hown hR.K hR.P 0 (hR.at14 hR.w.1) rfl 125 (by decide) (hts _ kx_697) (fun _ h9 => h9) (congrArg (fun z => some (vf ad z)) (hR.w.2.1 _ fin_125).1) dX14_folded_169 ?_
                  refine lv_iload_n hx hb dX14_folded_172 rfl (lv_at hl 1 rfl) ?_
                  obtain ⟨hv44, h⟩ := h
                  refine va_iald hx hb hR.K hR.P 78 1 (hR.atI (hR.w.2.1 _ fin_125).2.1) rfl (k_ixN (k_ix (n := 1200) (x := v123_1) (a := v123_1.toInt) rfl hv44) (hR.w.2.1 _ fin_125).2.2) dX14_folded_173 ?_
                  refine lv_topi (fun z45 ez45 => ?_)
                  obtain rfl : z45 = (qI U123 78 v123_1.toInt.toNat) := ez45
                  refine lv_bipush (v := 18) hx hb dX14_folded_174 (by decide) ?_
                  refine lv_icmp_ne (tgt := 201) hx hb dX14_folded_176 (by decide) (fun c46 => ?_) (fun c46 => ?_)
                  · replace h := h.2 (k_ne rfl (by decide) c46)
                    refine lv_aload_n hx hb dX14_folded_201 rfl (lv_at hl 0 rfl) ?_
                    refine lv_iload_n hx hb dX14_folded_202 rfl (lv_at hl 1 rfl) ?_
                    refine lv_bipush (v := 20) hx hb dX14_folded_203 (by decide) ?_
                    refine lv_iload hx hb dX14_folded_205 (lv_at hl 4 rfl) ?_
                    refine lv_lload hx hb dX14_folded_207 (lv_at hl 5 rfl) ?_
                    refine lv_lload hx hb dX14_folded_209 (lv_at hl 6 rfl) ?_
                    obtain ⟨hv47, h⟩ := h
                    have hFc := rfree hR hA
                    refine va_calll (va_runS (As := [.int v123_5, .long v123_6, .long v123_8]) (rest := [.int 20, .int v123_1, .ref (ad 0)]) ⟨hx, hb, hml, hown, hts⟩ (r_longWork l g ad H.size U123 v123_5 v123_6 v123_8 hR.w  hv47) (va_cwS 3 hts (gd2_S kx_765 kx_766 kx_177 kx_767) rfl rfl rfl (by decide +kernel) ⟨Nat.le_of_ble_eq_true rfl, Nat.le_of_ble_eq_true rfl⟩) ⟨rblind, fun U hU hW9 => rmk hU hW9 hR hex hE hFc⟩ rfl rfl hl.1 rfl (lv_room (Nat.le_of_ble_eq_true rfl)) dX14_folded_211 ⟨Nat.le_of_ble_eq_true rfl, Nat.le_of_ble_eq_true rfl⟩) hR.sS (fun q _ h => hFc q h) hFc (fun r48 u9 t9 H1 locs ht9 hvm9 hw9 hB9 hz9 hk9 hS => ?_)
                    have hR : Rep g ad A s U123 H1 locs := hR.call ht9 hB9 hR.w hS hFc
                    obtain rfl : r48 = (f_longWork U123 v123_5 v123_6 v123_8) := hw9
                    clear hB9 hz9 hk9 hvm9 ht9 hS
                    generalize H1 = H at hR ⊢
                    obtain ⟨Q50, h0, h⟩ := h
                    have hFc := rfree hR hA
                    refine va_callv (va_runV (As := [.int v123_1, .int 20, .long (f_longWork U123 v123_5 v123_6 v123_8)]) (rest := []) ⟨hx, hb, hml, hown, hts⟩ (r_become l g ad H.size U123 v123_1 (20 : Int32) (f_longWork U123 v123_5 v123_6 v123_8) hR.w  Q50 h0) (cwV 3 hts (gd2_V kx_768 kx_769 kx_770 kx_177 kx_771) rfl rfl rfl (by decide +kernel) ⟨Nat.le_of_ble_eq_true rfl, Nat.le_of_ble_eq_true rfl⟩) ⟨rblind, va_recv hR.K hR.P (ci := 13) (q0 := 0) rfl (hR.at14 hR.w.1), fun U hU hW9 => rmk hU hW9 hR hex hE hFc⟩ rfl rfl hl.1 rfl (lv_room (Nat.le_of_ble_eq_true rfl)) dX14_folded_214 ⟨Nat.le_of_ble_eq_true rfl, Nat.le_of_ble_eq_true rfl⟩) hR.sS (fun q _ h => hFc q h) hFc (fun  S51 t9 H1 locs ht9 hvm9 hw9 hB9 hz9 hk9 hS => ?_)
                    obtain ⟨hq52, hw9, hs9⟩ := hw9
                    have hR : Rep g ad A s S51 H1 locs := hR.call ht9 hB9 hw9 hS hFc
                    have hsh := hsh.tr hs9
                    replace h := h  S51 hq52
                    clear hB9 hz9 hk9 hvm9 ht9 hw9 hs9 hS
                    generalize H1 = H at hR ⊢
                    exact J_217 S51 v123_2 v123_4 _ _ ls h  hsh hR (lv_sub hl [0, 2, 3] rfl)
                  · replace h := h.1 (k_eq rfl (by decide) c46)
                    refine lv_aload_n hx hb dX14_folded_179 rfl (lv_at hl 0 rfl) ?_
                    refine lv_iload_n hx hb dX14_folded_180 rfl (lv_at hl 1 rfl) ?_
                    refine lv_bipush (v := 18) hx hb dX14_folded_181 (by decide) ?_
                    refine lv_iload hx hb dX14_folded_183 (lv_at hl 4 rfl) ?_
                    refine lv_lload hx hb dX14_folded_185 (lv_at hl 5 rfl) ?_
                    refine lv_l2i (v := (v123_6.toInt32)) hx hb dX14_folded_187 rfl ?_
                    refine lv_lload hx hb dX14_folded_188 (lv_at hl 6 rfl) ?_
                    refine lv_l2i (v := (v123_8.toInt32)) hx hb dX14_folded_190 rfl ?_
                    obtain ⟨hv53, h⟩ := h
                    have hFc := rfree hR hA
                    refine va_calli (va_runS (As := [.int v123_5, .int (v123_6.toInt32), .int (v123_8.toInt32)]) (rest := [.int 18, .int v123_1, .ref (ad 0)]) ⟨hx, hb, hml, hown, hts⟩ (r_intWork l g ad H.size U123 v123_5 (v123_6.toInt32) (v123_8.toInt32) hR.w  hv53) (va_cwS 3 hts (gd2_S kx_772 kx_773 kx_177 kx_774) rfl rfl rfl (by decide +kernel) ⟨Nat.le_of_ble_eq_true rfl, Nat.le_of_ble_eq_true rfl⟩) ⟨rblind, fun U hU hW9 => rmk hU hW9 hR hex hE hFc⟩ rfl rfl hl.1 rfl (lv_room (Nat.le_of_ble_eq_true rfl)) dX14_folded_191 ⟨Nat.le_of_ble_eq_true rfl, Nat.le_of_ble_eq_true rfl⟩) hR.sS (fun q _ h => hFc q h) hFc (fun r54 u9 t9 H1 locs ht9 hvm9 hw9 hB9 hz9 hk9 hS => ?_)
                    have hR : Rep g ad A s U123 H1 locs := hR.call ht9 hB9 hR.w hS hFc
                    obtain rfl : r54 = (f_intWork U123 v123_5 (v123_6.toInt32) (v123_8.toInt32)) := hw9
                    clear hB9 hz9 hk9 hvm9 ht9 hS
                    generalize H1 = H at hR ⊢
                    refine lv_i2l (v := ((f_intWork U123 v123_5 (v123_6.toInt32) (v123_8.toInt32)).toInt64)) hx hb dX14_folded_194 rfl ?_
                    obtain ⟨Q56, h0, h⟩ := h
                    have hFc := rfree hR hA
                    refine va_callv (va_runV (As := [.int v123_1, .int 18, .long ((f_intWork U123 v123_5 (v123_6.toInt32) (v123_8.toInt32)).toInt64)]) (rest := []) ⟨hx, hb, hml, hown, hts⟩ (r_become l g ad H.size U123 v123_1 (18 : Int32) ((f_intWork U123 v123_5 (v123_6.toInt32) (v123_8.toInt32)).toInt64) hR.w  Q56 h0) (cwV 3 hts (gd2_V kx_768 kx_769 kx_770 kx_177 kx_771) rfl rfl rfl (by decide +kernel) ⟨Nat.le_of_ble_eq_true rfl, Nat.le_of_ble_eq_true rfl⟩) ⟨rblind, va_recv hR.K hR.P (ci := 13) (q0 := 0) rfl (hR.at14 hR.w.1), fun U hU hW9 => rmk hU hW9 hR hex hE hFc⟩ rfl rfl hl.1 rfl (lv_room (Nat.le_of_ble_eq_true rfl)) dX14_folded_195 ⟨Nat.le_of_ble_eq_true rfl, Nat.le_of_ble_eq_true rfl⟩) hR.sS (fun q _ h => hFc q h) hFc (fun  S57 t9 H1 locs ht9 hvm9 hw9 hB9 hz9 hk9 hS => ?_)
                    obtain ⟨hq58, hw9, hs9⟩ := hw9
                    have hR : Rep g ad A s S57 H1 locs := hR.call ht9 hB9 hw9 hS hFc
                    have hsh := hsh.tr hs9
                    replace h := h  S57 hq58
                    clear hB9 hz9 hk9 hvm9 ht9 hw9 hs9 hS
                    generalize H1 = H at hR ⊢
                    refine lv_goto (tgt := 217) hx hb dX14_folded_198 (by decide) ?_
                    exact J_217 S57 v123_2 v123_4 _ _ ls h  hsh hR (lv_sub hl [0, 2, 3] rfl)
                · replace h := h.1 (k_eq rfl (by decide) c43)
                  refine lv_aload_n hx hb dX14_folded_131 rfl (lv_at hl 0 rfl) ?_
                  refine lv_iload_n hx hb dX14_folded_132 rfl (lv_at hl 1 rfl) ?_
                  refine lv_bipush (v := 18) hx hb dX14_folded_133 (by decide) ?_
                  refine lv_lload hx hb dX14_folded_135 (lv_at hl 5 rfl) ?_
                  refine lv_lload hx hb dX14_folded_137 (lv_at hl 6 rfl) ?_
                  refine W.lcmp hx hb dX14_folded_139 ?_
                  refine lv_topi (fun z59 ez59 => ?_)
                  obtain rfl : z59 = (lg_cmp v123_6 v123_8) := ez59
                  have J_162 : ∀ (U162 : MS) (t162_0 : Int64) (t162_1 : Int32) (t162_2 : Int32) (v162_2 : Int32) (v162_4 : Int32) (H : Heap) (locs : List Loc) (ls : Array Slot), w_folded_J162 Q U162 t162_0 t162_1 t162_2 v162_2 v162_4 → shy S U162 → Rep g ad A s U162 H locs → lv_has ls 10 [(0, .ref (ad 0)), (2, .int v162_2), (4, .int v162_4)] → W p l e (headSpec (wt2 yX14_folded cX14_folded 10 (some .boolean)) ({ frames := 2, cells := 0, slots := 0, locals := 43 })).room s m ([.ref (ad 0), .int x1, .int x2, .int x3] : List Value).toArray below meth c H locs 0 0 (MQ below (va_Qi (fun (r : Int32) (u : MS) => Q r u ∧ wfM u ∧ shy S u ∧ (r = 0 ∨ r = 1)) (fun (u : MS) (t : State) => qE g ad A u t) A) ([.ref (ad 0), .int x1, .int x2, .int x3] : List Value).toArray s 0 0 A) (F0 m 162 ls [.long t162_0, .int t162_1, .int t162_2, .ref (ad 0)]) := by
                    intro U162 t162_0 t162_1 t162_2 v162_2 v162_4 H locs ls h hsh hR hl
                    unfold w_folded_J162 at h
                    obtain ⟨Q60, h0, h⟩ := h
                    have hFc := rfree hR hA
                    refine va_callv (va_runV (As := [.int t162_2, .int t162_1, .long t162_0]) (rest := []) ⟨hx, hb, hml, hown, hts⟩ (r_become l g ad H.size U162 t162_2 t162_1 t162_0 hR.w  Q60 h0) (cwV 3 hts (gd2_V kx_768 kx_769 kx_770 kx_177 kx_771) rfl rfl rfl (by decide +kernel) ⟨Nat.le_of_ble_eq_true rfl, Nat.le_of_ble_eq_true rfl⟩) ⟨rblind, va_recv hR.K hR.P (ci := 13) (q0 := 0) rfl (hR.at14 hR.w.1), fun U hU hW9 => rmk hU hW9 hR hex hE hFc⟩ rfl rfl hl.1 rfl (lv_room (Nat.le_of_ble_eq_true rfl)) dX14_folded_162 ⟨Nat.le_of_ble_eq_true rfl, Nat.le_of_ble_eq_true rfl⟩) hR.sS (fun q _ h => hFc q h) hFc (fun  S61 t9 H1 locs ht9 hvm9 hw9 hB9 hz9 hk9 hS => ?_)
                    obtain ⟨hq62, hw9, hs9⟩ := hw9
                    have hR : Rep g ad A s S61 H1 locs := hR.call ht9 hB9 hw9 hS hFc
                    have hsh := hsh.tr hs9
                    replace h := h  S61 hq62
                    clear hB9 hz9 hk9 hvm9 ht9 hw9 hs9 hS
                    generalize H1 = H at hR ⊢
                    refine lv_goto (tgt := 217) hx hb dX14_folded_165 (by decide) ?_
                    exact J_217 S61 v162_2 v162_4 _ _ ls h  hsh hR (lv_sub hl [0, 1, 2] rfl)
                  refine lv_if_ge (tgt := 149) hx hb dX14_folded_140 (by decide) (fun c63 => ?_) (fun c63 => ?_)
                  · replace h := h.1 (k_le (by decide) rfl c63)
                    refine lv_lload hx hb dX14_folded_149 (lv_at hl 5 rfl) ?_
                    refine lv_lload hx hb dX14_folded_151 (lv_at hl 6 rfl) ?_
                    refine W.lcmp hx hb dX14_folded_153 ?_
                    refine lv_topi (fun z64 ez64 => ?_)
                    obtain rfl : z64 = (lg_cmp v123_6 v123_8) := ez64
                    refine lv_if_le (tgt := 161) hx hb dX14_folded_154 (by decide) (fun c65 => ?_) (fun c65 => ?_)
                    · replace h := h.1 (k_le rfl (by decide) c65)
                      refine lv_lconst (v := 0) hx hb dX14_folded_161 (by decide) ?_
                      exact J_162 U123 0 18 v123_1 v123_2 v123_4 _ _ ls h  hsh hR (lv_sub hl [0, 2, 3] rfl)
                    · replace h := h.2 (k_nle rfl (by decide) c65)
                      refine lv_lconst (v := 1) hx hb dX14_folded_157 (by decide) ?_
                      refine lv_goto (tgt := 162) hx hb dX14_folded_158 (by decide) ?_
                      exact J_162 U123 1 18 v123_1 v123_2 v123_4 _ _ ls h  hsh hR (lv_sub hl [0, 2, 3] rfl)
                  · replace h := h.2 (k_nle (by decide) rfl c63)
                    refine lv_ldc2 hx hb hown (hts _ kx_656) dX14_folded_143 ?_
                    refine lv_goto (tgt := 162) hx hb dX14_folded_146 (by decide) ?_
                    exact J_162 U123 (-1 : Int64) 18 v123_1 v123_2 v123_4 _ _ ls h  hsh hR (lv_sub hl [0, 2, 3] rfl)
              refine lv_icmp_lt (tgt := 123) hx hb dX14_folded_104 (by decide) (fun c66 => ?_) (fun c66 => ?_)
              · replace h := h.1 (k_lt rfl (by decide) c66)
                exact J_123 S3 x1 x2 r2 a18 a34 a38 _ _ ls h  hsh hR (lv_sub hl [4, 5, 6, 3, 2, 1, 0] rfl)
              · replace h := h.2 (k_nlt rfl (by decide) c66)
                refine lv_iload hx hb dX14_folded_107 (lv_at hl 2 rfl) ?_
                refine lv_bipush (v := 113) hx hb dX14_folded_109 (by decide) ?_
                refine lv_icmp_gt (tgt := 123) hx hb dX14_folded_111 (by decide) (fun c67 => ?_) (fun c67 => ?_)
                · replace h := h.1 (k_lt (by decide) rfl c67)
                  exact J_123 S3 x1 x2 r2 a18 a34 a38 _ _ ls h  hsh hR (lv_sub hl [4, 5, 6, 3, 2, 1, 0] rfl)
                · replace h := h.2 (k_nlt (by decide) rfl c67)
                  refine lv_lload hx hb dX14_folded_114 (lv_at hl 0 rfl) ?_
                  refine lv_lconst (v := 0) hx hb dX14_folded_116 (by decide) ?_
                  refine W.lcmp hx hb dX14_folded_117 ?_
                  refine lv_topi (fun z68 ez68 => ?_)
                  obtain rfl : z68 = (lg_cmp a38 0) := ez68
                  refine lv_if_ne (tgt := 123) hx hb dX14_folded_118 (by decide) (fun c69 => ?_) (fun c69 => ?_)
                  · replace h := h.2 (k_ne rfl (by decide) c69)
                    exact J_123 S3 x1 x2 r2 a18 a34 a38 _ _ ls h  hsh hR (lv_sub hl [4, 5, 6, 3, 2, 1, 0] rfl)
                  · replace h := h.1 (k_eq rfl (by decide) c69)
                    refine lv_iconst (v := 0) hx hb dX14_folded_121 (by decide) ?_
                    exact W.zret (v := 0) hx hb hr (nz (Or.inl rfl)) (fun t9 ht9 hW9 => ⟨⟨_, S3, rfl, ⟨h, hR.w, hsh, (Or.inl rfl)⟩, ⟨by rw [ht9]; exact hR.P, hR.D⟩⟩, hR.sS.F ht9⟩) hR.sS.2.2 dX14_folded_122
            · replace h := h.2 (k_ne rfl rfl c30)
              refine lv_iconst (v := 0) hx hb dX14_folded_84 (by decide) ?_
              exact W.zret (v := 0) hx hb hr (nz (Or.inl rfl)) (fun t9 ht9 hW9 => ⟨⟨_, S3, rfl, ⟨h, hR.w, hsh, (Or.inl rfl)⟩, ⟨by rw [ht9]; exact hR.P, hR.D⟩⟩, hR.sS.F ht9⟩) hR.sS.2.2 dX14_folded_85
        · replace h := h.1 (k_eq rfl (by decide) c15)
          refine lv_iconst (v := 0) hx hb dX14_folded_45 (by decide) ?_
          exact W.zret (v := 0) hx hb hr (nz (Or.inl rfl)) (fun t9 ht9 hW9 => ⟨⟨_, S3, rfl, ⟨h, hR.w, hsh, (Or.inl rfl)⟩, ⟨by rw [ht9]; exact hR.P, hR.D⟩⟩, hR.sS.F ht9⟩) hR.sS.2.2 dX14_folded_46
def w_turnedRow_J193 (Q : Int32 → MS → Prop) (U193 : MS) (v193_2 : Int32) : Prop := (((0 : Int) ≤ v193_2.toInt ∧ v193_2.toInt < 1200) ∧ (∀ S7, S7 = wI U193 81 v193_2.toInt.toNat (vp_nar .boolean (1 : Int32)) → Q (1 : Int32) S7))
def w_turnedRow_J145 (Q : Int32 → MS → Prop) (U145 : MS) (v145_1 : Int32) (v145_2 : Int32) (v145_3 : Int32) : Prop := (((0 : Int) ≤ v145_1.toInt ∧ v145_1.toInt < 1200) ∧ (((qI U145 78 v145_1.toInt.toNat).toInt = 18 → ((v145_3.toInt < 145 → Q (0 : Int32) U145) ∧ (¬ v145_3.toInt < 145 → ((147 < v145_3.toInt → Q (0 : Int32) U145) ∧ (¬ 147 < v145_3.toInt → (((0 : Int) ≤ v145_1.toInt ∧ v145_1.toInt < 1200) ∧ (d_turned U145 v145_3 ((qI U145 79 v145_1.toInt.toNat).toInt64) ∧ (∃ Q24, w_become U145 v145_1 (18 : Int32) (f_turned U145 v145_3 ((qI U145 79 v145_1.toInt.toNat).toInt64)) Q24 ∧ ∀ S25, Q24 S25 → w_turnedRow_J193 Q S25 v145_2)))))))) ∧ (¬ (qI U145 78 v145_1.toInt.toNat).toInt = 18 → Q (0 : Int32) U145)))
def w_turnedRow_J110 (Q : Int32 → MS → Prop) (U110 : MS) (v110_1 : Int32) (v110_2 : Int32) (v110_3 : Int32) : Prop := (((0 : Int) ≤ v110_1.toInt ∧ v110_1.toInt < 1200) ∧ (((qI U110 78 v110_1.toInt.toNat).toInt = 20 → ((v110_3.toInt = 136 → (d_worthAt U110 v110_1 ∧ (∃ Q32, w_become U110 v110_1 (18 : Int32) (((f_worthAt U110 v110_1).toInt32).toInt64) Q32 ∧ ∀ S33, Q32 S33 → w_turnedRow_J193 Q S33 v110_2))) ∧ (¬ v110_3.toInt = 136 → w_turnedRow_J145 Q U110 v110_1 v110_2 v110_3))) ∧ (¬ (qI U110 78 v110_1.toInt.toNat).toInt = 20 → w_turnedRow_J145 Q U110 v110_1 v110_2 v110_3)))
def w_turnedRow_J75 (Q : Int32 → MS → Prop) (U75 : MS) (v75_1 : Int32) (v75_2 : Int32) (v75_3 : Int32) : Prop := (((0 : Int) ≤ v75_1.toInt ∧ v75_1.toInt < 1200) ∧ (((qI U75 78 v75_1.toInt.toNat).toInt = 18 → ((v75_3.toInt = 133 → (((0 : Int) ≤ v75_1.toInt ∧ v75_1.toInt < 1200) ∧ (∃ Q39, w_become U75 v75_1 (20 : Int32) ((qI U75 79 v75_1.toInt.toNat).toInt64) Q39 ∧ ∀ S40, Q39 S40 → w_turnedRow_J193 Q S40 v75_2))) ∧ (¬ v75_3.toInt = 133 → w_turnedRow_J110 Q U75 v75_1 v75_2 v75_3))) ∧ (¬ (qI U75 78 v75_1.toInt.toNat).toInt = 18 → w_turnedRow_J110 Q U75 v75_1 v75_2 v75_3)))
def w_turnedRow_J42 (Q : Int32 → MS → Prop) (U42 : MS) (v42_1 : Int32) (v42_2 : Int32) (v42_3 : Int32) : Prop := (((0 : Int) ≤ v42_1.toInt ∧ v42_1.toInt < 1200) ∧ (((qI U42 78 v42_1.toInt.toNat).toInt = 20 → ((v42_3.toInt = 117 → (d_worthAt U42 v42_1 ∧ (∃ Q48, w_become U42 v42_1 (20 : Int32) (-(f_worthAt U42 v42_1)) Q48 ∧ ∀ S49, Q48 S49 → w_turnedRow_J193 Q S49 v42_2))) ∧ (¬ v42_3.toInt = 117 → w_turnedRow_J75 Q U42 v42_1 v42_2 v42_3))) ∧ (¬ (qI U42 78 v42_1.toInt.toNat).toInt = 20 → w_turnedRow_J75 Q U42 v42_1 v42_2 v42_3)))
def w_turnedRow (S : MS) (x1 : Int32) (x2 : Int32) (Q : Int32 → MS → Prop) : Prop := (((0 : Int) ≤ x2.toInt ∧ x2.toInt < 1200) ∧ (∀ a3 : Int32, a3 = (qI S 78 x2.toInt.toNat) → (((0 : Int) ≤ x1.toInt ∧ x1.toInt < 1200) ∧ (((qI S 78 x1.toInt.toNat).toInt = 18 → ((a3.toInt = 116 → (((0 : Int) ≤ x1.toInt ∧ x1.toInt < 1200) ∧ (∃ Q56, w_become S x1 (18 : Int32) ((-(qI S 79 x1.toInt.toNat)).toInt64) Q56 ∧ ∀ S57, Q56 S57 → w_turnedRow_J193 Q S57 x2))) ∧ (¬ a3.toInt = 116 → w_turnedRow_J42 Q S x1 x2 a3))) ∧ (¬ (qI S 78 x1.toInt.toNat).toInt = 18 → w_turnedRow_J42 Q S x1 x2 a3)))))
set_option maxHeartbeats 2000000 in
set_option maxRecDepth 100000 in
theorem r_turnedRow (l : Launch) (g : Gr) (ad : Nat → Nat) (sz : Nat) (S : MS) (x1 : Int32) (x2 : Int32) (hw : wfM S) (Q : Int32 → MS → Prop) (h : w_turnedRow S x1 x2 Q) : Met l yX14_turnedRow (wt2 yX14_turnedRow cX14_turnedRow 4 (some .boolean)) ({ frames := 1, cells := 0, slots := 0, locals := 24 }) (va_Pc [.ref (ad 0), .int x1, .int x2] (st_R g ad sz S)) (va_Qi (fun (r : Int32) (u : MS) => Q r u ∧ wfM u ∧ shy S u ∧ (r = 0 ∨ r = 1)) (fun (u : MS) (t : State) => qE g ad (va_A (Wd g ad S) sz) u t) (va_A (Wd g ad S) sz)) 0 0 (va_A (Wd g ad S) sz) := by
  refine Met.ofW (cc := cX14_turnedRow) (maxL := 4) (ret := (some .boolean)) (by decide) rfl ?_
  intro p e s m args below meth c s₁ B hml hv
  obtain ⟨rfl, hsz, hP, hK, hD0, hex, hE⟩ := hv
  have hx := B.exec
  have hb := B.bytes
  have hr := B.returns
  have hts0 := atoms_spec (ws := wt2 yX14_turnedRow cX14_turnedRow 4 (some .boolean)) B.pre
  have hts : ∀ w ∈ tb2, w.before _ s = true := fun w h => hts0 w (List.mem_cons_of_mem _ h)
  have hown : s.vm.findClass RX14 = some m.cls := findClass_of_methodNamed B.named
  subst hsz
  have hD := hD0.self (sz := s.heap.size)
  generalize hAe : va_A (Wd g ad S) s.heap.size = A at hD hE ⊢
  have hA : ∀ q : Nat, s.heap.size ≤ q → A q := fun q h => by rw [← hAe]; exact Or.inr h
  have hR : Rep g ad A s S s.heap [] := ⟨hK, hP, hD, va_S.rf, hw⟩
  clear hK hP hD hD0
  have hl := lv_entry ([.ref (ad 0), .int x1, .int x2]) (n := 4) (Nat.le_of_ble_eq_true rfl)
  rw [lg_entry_eq]
  generalize (lg_sl ([.ref (ad 0), .int x1, .int x2]) ++ List.replicate (4 - (lg_sl ([.ref (ad 0), .int x1, .int x2])).length) Slot.unset).toArray = ls at hl ⊢
  have hl : lv_has ls 4 [(0, .ref (ad 0)), (1, .int x1), (2, .int x2)] := hl
  have hsh : shy S S := shy.rf
  unfold w_turnedRow at h
  refine lv_aload_n hx hb dX14_turnedRow_0 rfl (lv_at hl 0 rfl) ?_
  refine va_get (D := rD g) (ci := 13) (v := .ref (ad 78)) (C := RX14) (T := TX14) (N := 143) hx hb hts in2X14 hown hR.K hR.P 0 (hR.at14 hR.w.1) rfl 125 (by decide) (hts _ kx_697) (fun _ h9 => h9) (congrArg (fun z => some (vf ad z)) (hR.w.2.1 _ fin_125).1) dX14_turnedRow_1 ?_
  refine lv_iload_n hx hb dX14_turnedRow_4 rfl (lv_at hl 2 rfl) ?_
  obtain ⟨hv1, h⟩ := h
  refine va_iald hx hb hR.K hR.P 78 1 (hR.atI (hR.w.2.1 _ fin_125).2.1) rfl (k_ixN (k_ix (n := 1200) (x := x2) (a := x2.toInt) rfl hv1) (hR.w.2.1 _ fin_125).2.2) dX14_turnedRow_5 ?_
  refine lv_topi (fun z2 ez2 => ?_)
  obtain rfl : z2 = (qI S 78 x2.toInt.toNat) := ez2
  obtain ⟨a3, ea3⟩ : ∃ z, z = (qI S 78 x2.toInt.toNat) := ⟨_, rfl⟩
  rw [← ea3]
  replace h := h a3 ea3
  refine lv_istore_n (lv' := [(3, .int a3), (0, .ref (ad 0)), (1, .int x1), (2, .int x2)]) hx hb dX14_turnedRow_6 rfl hl (by decide) rfl (fun ls hl => ?_)
  refine lv_aload_n hx hb dX14_turnedRow_7 rfl (lv_at hl 1 rfl) ?_
  refine va_get (D := rD g) (ci := 13) (v := .ref (ad 78)) (C := RX14) (T := TX14) (N := 143) hx hb hts in2X14 hown hR.K hR.P 0 (hR.at14 hR.w.1) rfl 125 (by decide) (hts _ kx_697) (fun _ h9 => h9) (congrArg (fun z => some (vf ad z)) (hR.w.2.1 _ fin_125).1) dX14_turnedRow_8 ?_
  refine lv_iload_n hx hb dX14_turnedRow_11 rfl (lv_at hl 2 rfl) ?_
  obtain ⟨hv4, h⟩ := h
  refine va_iald hx hb hR.K hR.P 78 1 (hR.atI (hR.w.2.1 _ fin_125).2.1) rfl (k_ixN (k_ix (n := 1200) (x := x1) (a := x1.toInt) rfl hv4) (hR.w.2.1 _ fin_125).2.2) dX14_turnedRow_12 ?_
  refine lv_topi (fun z5 ez5 => ?_)
  obtain rfl : z5 = (qI S 78 x1.toInt.toNat) := ez5
  refine lv_bipush (v := 18) hx hb dX14_turnedRow_13 (by decide) ?_
  have J_193 : ∀ (U193 : MS) (v193_2 : Int32) (H : Heap) (locs : List Loc) (ls : Array Slot), w_turnedRow_J193 Q U193 v193_2 → shy S U193 → Rep g ad A s U193 H locs → lv_has ls 4 [(0, .ref (ad 0)), (2, .int v193_2)] → W p l e (headSpec (wt2 yX14_turnedRow cX14_turnedRow 4 (some .boolean)) ({ frames := 1, cells := 0, slots := 0, locals := 24 })).room s m ([.ref (ad 0), .int x1, .int x2] : List Value).toArray below meth c H locs 0 0 (MQ below (va_Qi (fun (r : Int32) (u : MS) => Q r u ∧ wfM u ∧ shy S u ∧ (r = 0 ∨ r = 1)) (fun (u : MS) (t : State) => qE g ad A u t) A) ([.ref (ad 0), .int x1, .int x2] : List Value).toArray s 0 0 A) (F0 m 193 ls []) := by
    intro U193 v193_2 H locs ls h hsh hR hl
    unfold w_turnedRow_J193 at h
    refine lv_aload_n hx hb dX14_turnedRow_193 rfl (lv_at hl 0 rfl) ?_
    refine va_get (D := rD g) (ci := 13) (v := .ref (ad 81)) (C := RX14) (T := TX14) (N := 143) hx hb hts in2X14 hown hR.K hR.P 0 (hR.at14 hR.w.1) rfl 128 (by decide) (hts _ kx_692) (fun _ h9 => h9) (congrArg (fun z => some (vf ad z)) (hR.w.2.1 _ fin_128).1) dX14_turnedRow_194 ?_
    refine lv_iload_n hx hb dX14_turnedRow_197 rfl (lv_at hl 1 rfl) ?_
    refine lv_iconst (v := 1) hx hb dX14_turnedRow_198 (by decide) ?_
    obtain ⟨hv6, h⟩ := h
    refine va_zast hx hb hR.K hR.P hR.D hR.sS 81 2 (hR.atZ (hR.w.2.1 _ fin_128).2.1) rfl (k_ixN (k_ix (n := 1200) (x := v193_2) (a := v193_2.toInt) rfl hv6) (hR.w.2.1 _ fin_128).2.2) dX14_turnedRow_199 (fun H locs hP hD hS => ?_)
    have hR : Rep g ad A s (wI U193 81 v193_2.toInt.toNat (vp_nar .boolean (1 : Int32))) H locs := hR.aZ (hR.w.2.1 _ fin_128).2.1 hP hD hS
    obtain ⟨S7, eS7⟩ : ∃ z, z = wI U193 81 v193_2.toInt.toNat (vp_nar .boolean (1 : Int32)) := ⟨_, rfl⟩
    rw [← eS7] at hR
    replace h := h S7 eS7
    have hsh : shy S S7 := by rw [eS7]; exact hsh
    refine lv_iconst (v := 1) hx hb dX14_turnedRow_200 (by decide) ?_
    exact W.zret (v := 1) hx hb hr (nz (Or.inr rfl)) (fun t9 ht9 hW9 => ⟨⟨_, S7, rfl, ⟨h, hR.w, hsh, (Or.inr rfl)⟩, ⟨by rw [ht9]; exact hR.P, hR.D⟩⟩, hR.sS.F ht9⟩) hR.sS.2.2 dX14_turnedRow_201
  have J_42 : ∀ (U42 : MS) (v42_1 : Int32) (v42_2 : Int32) (v42_3 : Int32) (H : Heap) (locs : List Loc) (ls : Array Slot), w_turnedRow_J42 Q U42 v42_1 v42_2 v42_3 → shy S U42 → Rep g ad A s U42 H locs → lv_has ls 4 [(0, .ref (ad 0)), (1, .int v42_1), (2, .int v42_2), (3, .int v42_3)] → W p l e (headSpec (wt2 yX14_turnedRow cX14_turnedRow 4 (some .boolean)) ({ frames := 1, cells := 0, slots := 0, locals := 24 })).room s m ([.ref (ad 0), .int x1, .int x2] : List Value).toArray below meth c H locs 0 0 (MQ below (va_Qi (fun (r : Int32) (u : MS) => Q r u ∧ wfM u ∧ shy S u ∧ (r = 0 ∨ r = 1)) (fun (u : MS) (t : State) => qE g ad A u t) A) ([.ref (ad 0), .int x1, .int x2] : List Value).toArray s 0 0 A) (F0 m 42 ls []) := by
    intro U42 v42_1 v42_2 v42_3 H locs ls h hsh hR hl
    unfold w_turnedRow_J42 at h
    refine lv_aload_n hx hb dX14_turnedRow_42 rfl (lv_at hl 0 rfl) ?_
    refine va_get (D := rD g) (ci := 13) (v := .ref (ad 78)) (C := RX14) (T := TX14) (N := 143) hx hb hts in2X14 hown hR.K hR.P 0 (hR.at14 hR.w.1) rfl 125 (by decide) (hts _ kx_697) (fun _ h9 => h9) (congrArg (fun z => some (vf ad z)) (hR.w.2.1 _ fin_125).1) dX14_turnedRow_43 ?_
    refine lv_iload_n hx hb dX14_turnedRow_46 rfl (lv_at hl 1 rfl) ?_
    obtain ⟨hv8, h⟩ := h
    refine va_iald hx hb hR.K hR.P 78 1 (hR.atI (hR.w.2.1 _ fin_125).2.1) rfl (k_ixN (k_ix (n := 1200) (x := v42_1) (a := v42_1.toInt) rfl hv8) (hR.w.2.1 _ fin_125).2.2) dX14_turnedRow_47 ?_
    refine lv_topi (fun z9 ez9 => ?_)
    obtain rfl : z9 = (qI U42 78 v42_1.toInt.toNat) := ez9
    refine lv_bipush (v := 20) hx hb dX14_turnedRow_48 (by decide) ?_
    have J_75 : ∀ (U75 : MS) (v75_1 : Int32) (v75_2 : Int32) (v75_3 : Int32) (H : Heap) (locs : List Loc) (ls : Array Slot), w_turnedRow_J75 Q U75 v75_1 v75_2 v75_3 → shy S U75 → Rep g ad A s U75 H locs → lv_has ls 4 [(0, .ref (ad 0)), (1, .int v75_1), (2, .int v75_2), (3, .int v75_3)] → W p l e (headSpec (wt2 yX14_turnedRow cX14_turnedRow 4 (some .boolean)) ({ frames := 1, cells := 0, slots := 0, locals := 24 })).room s m ([.ref (ad 0), .int x1, .int x2] : List Value).toArray below meth c H locs 0 0 (MQ below (va_Qi (fun (r : Int32) (u : MS) => Q r u ∧ wfM u ∧ shy S u ∧ (r = 0 ∨ r = 1)) (fun (u : MS) (t : State) => qE g ad A u t) A) ([.ref (ad 0), .int x1, .int x2] : List Value).toArray s 0 0 A) (F0 m 75 ls []) := by
      intro U75 v75_1 v75_2 v75_3 H locs ls h hsh hR hl
      unfold w_turnedRow_J75 at h
      refine lv_aload_n hx hb dX14_turnedRow_75 rfl (lv_at hl 0 rfl) ?_
      refine va_get (D := rD g) (ci := 13) (v := .ref (ad 78)) (C := RX14) (T := TX14) (N := 143) hx hb hts in2X14 hown hR.K hR.P 0 (hR.at14 hR.w.1) rfl 125 (by decide) (hts _ kx_697) (fun _ h9 => h9) (congrArg (fun z => some (vf ad z)) (hR.w.2.1 _ fin_125).1) dX14_turnedRow_76 ?_
      refine lv_iload_n hx hb dX14_turnedRow_79 rfl (lv_at hl 1 rfl) ?_
      obtain ⟨hv10, h⟩ := h
      refine va_iald hx hb hR.K hR.P 78 1 (hR.atI (hR.w.2.1 _ fin_125).2.1) rfl (k_ixN (k_ix (n := 1200) (x := v75_1) (a := v75_1.toInt) rfl hv10) (hR.w.2.1 _ fin_125).2.2) dX14_turnedRow_80 ?_
      refine lv_topi (fun z11 ez11 => ?_)
      obtain rfl : z11 = (qI U75 78 v75_1.toInt.toNat) := ez11
      refine lv_bipush (v := 18) hx hb dX14_turnedRow_81 (by decide) ?_
      have J_110 : ∀ (U110 : MS) (v110_1 : Int32) (v110_2 : Int32) (v110_3 : Int32) (H : Heap) (locs : List Loc) (ls : Array Slot), w_turnedRow_J110 Q U110 v110_1 v110_2 v110_3 → shy S U110 → Rep g ad A s U110 H locs → lv_has ls 4 [(0, .ref (ad 0)), (1, .int v110_1), (2, .int v110_2), (3, .int v110_3)] → W p l e (headSpec (wt2 yX14_turnedRow cX14_turnedRow 4 (some .boolean)) ({ frames := 1, cells := 0, slots := 0, locals := 24 })).room s m ([.ref (ad 0), .int x1, .int x2] : List Value).toArray below meth c H locs 0 0 (MQ below (va_Qi (fun (r : Int32) (u : MS) => Q r u ∧ wfM u ∧ shy S u ∧ (r = 0 ∨ r = 1)) (fun (u : MS) (t : State) => qE g ad A u t) A) ([.ref (ad 0), .int x1, .int x2] : List Value).toArray s 0 0 A) (F0 m 110 ls []) := by
        intro U110 v110_1 v110_2 v110_3 H locs ls h hsh hR hl
        unfold w_turnedRow_J110 at h
        refine lv_aload_n hx hb dX14_turnedRow_110 rfl (lv_at hl 0 rfl) ?_
        refine va_get (D := rD g) (ci := 13) (v := .ref (ad 78)) (C := RX14) (T := TX14) (N := 143) hx hb hts in2X14 hown hR.K hR.P 0 (hR.at14 hR.w.1) rfl 125 (by decide) (hts _ kx_697) (fun _ h9 => h9) (congrArg (fun z => some (vf ad z)) (hR.w.2.1 _ fin_125).1) dX14_turnedRow_111 ?_
        refine lv_iload_n hx hb dX14_turnedRow_114 rfl (lv_at hl 1 rfl) ?_
        obtain ⟨hv12, h⟩ := h
        refine va_iald hx hb hR.K hR.P 78 1 (hR.atI (hR.w.2.1 _ fin_125).2.1) rfl (k_ixN (k_ix (n := 1200) (x := v110_1) (a := v110_1.toInt) rfl hv12) (hR.w.2.1 _ fin_125).2.2) dX14_turnedRow_115 ?_
        refine lv_topi (fun z13 ez13 => ?_)
        obtain rfl : z13 = (qI U110 78 v110_1.toInt.toNat) := ez13
        refine lv_bipush (v := 20) hx hb dX14_turnedRow_116 (by decide) ?_
        have J_145 : ∀ (U145 : MS) (v145_1 : Int32) (v145_2 : Int32) (v145_3 : Int32) (H : Heap) (locs : List Loc) (ls : Array Slot), w_turnedRow_J145 Q U145 v145_1 v145_2 v145_3 → shy S U145 → Rep g ad A s U145 H locs → lv_has ls 4 [(0, .ref (ad 0)), (1, .int v145_1), (2, .int v145_2), (3, .int v145_3)] → W p l e (headSpec (wt2 yX14_turnedRow cX14_turnedRow 4 (some .boolean)) ({ frames := 1, cells := 0, slots := 0, locals := 24 })).room s m ([.ref (ad 0), .int x1, .int x2] : List Value).toArray below meth c H locs 0 0 (MQ below (va_Qi (fun (r : Int32) (u : MS) => Q r u ∧ wfM u ∧ shy S u ∧ (r = 0 ∨ r = 1)) (fun (u : MS) (t : State) => qE g ad A u t) A) ([.ref (ad 0), .int x1, .int x2] : List Value).toArray s 0 0 A) (F0 m 145 ls []) := by
          intro U145 v145_1 v145_2 v145_3 H locs ls h hsh hR hl
          unfold w_turnedRow_J145 at h
          refine lv_aload_n hx hb dX14_turnedRow_145 rfl (lv_at hl 0 rfl) ?_
          refine va_get (D := rD g) (ci := 13) (v := .ref (ad 78)) (C := RX14) (T := TX14) (N := 143) hx hb hts in2X14 hown hR.K hR.P 0 (hR.at14 hR.w.1) rfl 125 (by decide) (hts _ kx_697) (fun _ h9 => h9) (congrArg (fun z => some (vf ad z)) (hR.w.2.1 _ fin_125).1) dX14_turnedRow_146 ?_
          refine lv_iload_n hx hb dX14_turnedRow_149 rfl (lv_at hl 1 rfl) ?_
          obtain ⟨hv14, h⟩ := h
          refine va_iald hx hb hR.K hR.P 78 1 (hR.atI (hR.w.2.1 _ fin_125).2.1) rfl (k_ixN (k_ix (n := 1200) (x := v145_1) (a := v145_1.toInt) rfl hv14) (hR.w.2.1 _ fin_125).2.2) dX14_turnedRow_150 ?_
          refine lv_topi (fun z15 ez15 => ?_)
          obtain rfl : z15 = (qI U145 78 v145_1.toInt.toNat) := ez15
          refine lv_bipush (v := 18) hx hb dX14_turnedRow_151 (by decide) ?_
          refine lv_icmp_ne (tgt := 191) hx hb dX14_turnedRow_153 (by decide) (fun c16 => ?_) (fun c16 => ?_)
          · replace h := h.2 (k_ne rfl (by decide) c16)
            refine lv_iconst (v := 0) hx hb dX14_turnedRow_191 (by decide) ?_
            exact W.zret (v := 0) hx hb hr (nz (Or.inl rfl)) (fun t9 ht9 hW9 => ⟨⟨_, U145, rfl, ⟨h, hR.w, hsh, (Or.inl rfl)⟩, ⟨by rw [ht9]; exact hR.P, hR.D⟩⟩, hR.sS.F ht9⟩) hR.sS.2.2 dX14_turnedRow_192
          · replace h := h.1 (k_eq rfl (by decide) c16)
            refine lv_iload_n hx hb dX14_turnedRow_156 rfl (lv_at hl 3 rfl) ?_
            refine lv_sipush (v := 145) hx hb dX14_turnedRow_157 (by decide) ?_
            refine lv_icmp_lt (tgt := 191) hx hb dX14_turnedRow_160 (by decide) (fun c17 => ?_) (fun c17 => ?_)
            · replace h := h.1 (k_lt rfl (by decide) c17)
              refine lv_iconst (v := 0) hx hb dX14_turnedRow_191 (by decide) ?_
              exact W.zret (v := 0) hx hb hr (nz (Or.inl rfl)) (fun t9 ht9 hW9 => ⟨⟨_, U145, rfl, ⟨h, hR.w, hsh, (Or.inl rfl)⟩, ⟨by rw [ht9]; exact hR.P, hR.D⟩⟩, hR.sS.F ht9⟩) hR.sS.2.2 dX14_turnedRow_192
            · replace h := h.2 (k_nlt rfl (by decide) c17)
              refine lv_iload_n hx hb dX14_turnedRow_163 rfl (lv_at hl 3 rfl) ?_
              refine lv_sipush (v := 147) hx hb dX14_turnedRow_164 (by decide) ?_
              refine lv_icmp_gt (tgt := 191) hx hb dX14_turnedRow_167 (by decide) (fun c18 => ?_) (fun c18 => ?_)
              · replace h := h.1 (k_lt (by decide) rfl c18)
                refine lv_iconst (v := 0) hx hb dX14_turnedRow_191 (by decide) ?_
                exact W.zret (v := 0) hx hb hr (nz (Or.inl rfl)) (fun t9 ht9 hW9 => ⟨⟨_, U145, rfl, ⟨h, hR.w, hsh, (Or.inl rfl)⟩, ⟨by rw [ht9]; exact hR.P, hR.D⟩⟩, hR.sS.F ht9⟩) hR.sS.2.2 dX14_turnedRow_192
              · replace h := h.2 (k_nlt (by decide) rfl c18)
                refine lv_aload_n hx hb dX14_turnedRow_170 rfl (lv_at hl 0 rfl) ?_
                refine lv_iload_n hx hb dX14_turnedRow_171 rfl (lv_at hl 1 rfl) ?_
                refine lv_bipush (v := 18) hx hb dX14_turnedRow_172 (by decide) ?_
                refine lv_iload_n hx hb dX14_turnedRow_174 rfl (lv_at hl 3 rfl) ?_
                refine lv_aload_n hx hb dX14_turnedRow_175 rfl (lv_at hl 0 rfl) ?_
                refine va_get (D := rD g) (ci := 13) (v := .ref (ad 79)) (C := RX14) (T := TX14) (N := 143) hx hb hts in2X14 hown hR.K hR.P 0 (hR.at14 hR.w.1) rfl 126 (by decide) (hts _ kx_700) (fun _ h9 => h9) (congrArg (fun z => some (vf ad z)) (hR.w.2.1 _ fin_126).1) dX14_turnedRow_176 ?_
                refine lv_iload_n hx hb dX14_turnedRow_179 rfl (lv_at hl 1 rfl) ?_
                obtain ⟨hv19, h⟩ := h
                refine va_iald hx hb hR.K hR.P 79 1 (hR.atI (hR.w.2.1 _ fin_126).2.1) rfl (k_ixN (k_ix (n := 1200) (x := v145_1) (a := v145_1.toInt) rfl hv19) (hR.w.2.1 _ fin_126).2.2) dX14_turnedRow_180 ?_
                refine lv_topi (fun z20 ez20 => ?_)
                obtain rfl : z20 = (qI U145 79 v145_1.toInt.toNat) := ez20
                refine lv_i2l (v := ((qI U145 79 v145_1.toInt.toNat).toInt64)) hx hb dX14_turnedRow_181 rfl ?_
                obtain ⟨hv21, h⟩ := h
                have hFc := rfree hR hA
                refine va_calll (va_runS (As := [.int v145_3, .long ((qI U145 79 v145_1.toInt.toNat).toInt64)]) (rest := [.int 18, .int v145_1, .ref (ad 0)]) ⟨hx, hb, hml, hown, hts⟩ (r_turned l g ad H.size U145 v145_3 ((qI U145 79 v145_1.toInt.toNat).toInt64) hR.w  hv21) (va_cwS 2 hts (gd2_S kx_775 kx_776 kx_177 kx_777) rfl rfl rfl (by decide +kernel) ⟨Nat.le_of_ble_eq_true rfl, Nat.le_of_ble_eq_true rfl⟩) ⟨rblind, fun U hU hW9 => rmk hU hW9 hR hex hE hFc⟩ rfl rfl hl.1 rfl (lv_room (Nat.le_of_ble_eq_true rfl)) dX14_turnedRow_182 ⟨Nat.le_of_ble_eq_true rfl, Nat.le_of_ble_eq_true rfl⟩) hR.sS (fun q _ h => hFc q h) hFc (fun r22 u9 t9 H1 locs ht9 hvm9 hw9 hB9 hz9 hk9 hS => ?_)
                have hR : Rep g ad A s U145 H1 locs := hR.call ht9 hB9 hR.w hS hFc
                obtain rfl : r22 = (f_turned U145 v145_3 ((qI U145 79 v145_1.toInt.toNat).toInt64)) := hw9
                clear hB9 hz9 hk9 hvm9 ht9 hS
                generalize H1 = H at hR ⊢
                obtain ⟨Q24, h0, h⟩ := h
                have hFc := rfree hR hA
                refine va_callv (va_runV (As := [.int v145_1, .int 18, .long (f_turned U145 v145_3 ((qI U145 79 v145_1.toInt.toNat).toInt64))]) (rest := []) ⟨hx, hb, hml, hown, hts⟩ (r_become l g ad H.size U145 v145_1 (18 : Int32) (f_turned U145 v145_3 ((qI U145 79 v145_1.toInt.toNat).toInt64)) hR.w  Q24 h0) (cwV 3 hts (gd2_V kx_768 kx_769 kx_770 kx_177 kx_771) rfl rfl rfl (by decide +kernel) ⟨Nat.le_of_ble_eq_true rfl, Nat.le_of_ble_eq_true rfl⟩) ⟨rblind, va_recv hR.K hR.P (ci := 13) (q0 := 0) rfl (hR.at14 hR.w.1), fun U hU hW9 => rmk hU hW9 hR hex hE hFc⟩ rfl rfl hl.1 rfl (lv_room (Nat.le_of_ble_eq_true rfl)) dX14_turnedRow_185 ⟨Nat.le_of_ble_eq_true rfl, Nat.le_of_ble_eq_true rfl⟩) hR.sS (fun q _ h => hFc q h) hFc (fun  S25 t9 H1 locs ht9 hvm9 hw9 hB9 hz9 hk9 hS => ?_)
                obtain ⟨hq26, hw9, hs9⟩ := hw9
                have hR : Rep g ad A s S25 H1 locs := hR.call ht9 hB9 hw9 hS hFc
                have hsh := hsh.tr hs9
                replace h := h  S25 hq26
                clear hB9 hz9 hk9 hvm9 ht9 hw9 hs9 hS
                generalize H1 = H at hR ⊢
                refine lv_goto (tgt := 193) hx hb dX14_turnedRow_188 (by decide) ?_
                exact J_193 S25 v145_2 _ _ ls h  hsh hR (lv_sub hl [0, 2] rfl)
        refine lv_icmp_ne (tgt := 145) hx hb dX14_turnedRow_118 (by decide) (fun c27 => ?_) (fun c27 => ?_)
        · replace h := h.2 (k_ne rfl (by decide) c27)
          exact J_145 U110 v110_1 v110_2 v110_3 _ _ ls h  hsh hR (lv_sub hl [0, 1, 2, 3] rfl)
        · replace h := h.1 (k_eq rfl (by decide) c27)
          refine lv_iload_n hx hb dX14_turnedRow_121 rfl (lv_at hl 3 rfl) ?_
          refine lv_sipush (v := 136) hx hb dX14_turnedRow_122 (by decide) ?_
          refine lv_icmp_ne (tgt := 145) hx hb dX14_turnedRow_125 (by decide) (fun c28 => ?_) (fun c28 => ?_)
          · replace h := h.2 (k_ne rfl (by decide) c28)
            exact J_145 U110 v110_1 v110_2 v110_3 _ _ ls h  hsh hR (lv_sub hl [0, 1, 2, 3] rfl)
          · replace h := h.1 (k_eq rfl (by decide) c28)
            refine lv_aload_n hx hb dX14_turnedRow_128 rfl (lv_at hl 0 rfl) ?_
            refine lv_iload_n hx hb dX14_turnedRow_129 rfl (lv_at hl 1 rfl) ?_
            refine lv_bipush (v := 18) hx hb dX14_turnedRow_130 (by decide) ?_
            refine lv_aload_n hx hb dX14_turnedRow_132 rfl (lv_at hl 0 rfl) ?_
            refine lv_iload_n hx hb dX14_turnedRow_133 rfl (lv_at hl 1 rfl) ?_
            obtain ⟨hv29, h⟩ := h
            have hFc := rfree hR hA
            refine va_calll (va_runV (As := [.int v110_1]) (rest := [.int 18, .int v110_1, .ref (ad 0)]) ⟨hx, hb, hml, hown, hts⟩ (r_worthAt l g ad H.size U110 v110_1 hR.w  hv29) (cwV 1 hts (gd2_V kx_761 kx_762 kx_763 kx_177 kx_764) rfl rfl rfl (by decide +kernel) ⟨Nat.le_of_ble_eq_true rfl, Nat.le_of_ble_eq_true rfl⟩) ⟨rblind, va_recv hR.K hR.P (ci := 13) (q0 := 0) rfl (hR.at14 hR.w.1), fun U hU hW9 => rmk hU hW9 hR hex hE hFc⟩ rfl rfl hl.1 rfl (lv_room (Nat.le_of_ble_eq_true rfl)) dX14_turnedRow_134 ⟨Nat.le_of_ble_eq_true rfl, Nat.le_of_ble_eq_true rfl⟩) hR.sS (fun q _ h => hFc q h) hFc (fun r30 u9 t9 H1 locs ht9 hvm9 hw9 hB9 hz9 hk9 hS => ?_)
            have hR : Rep g ad A s U110 H1 locs := hR.call ht9 hB9 hR.w hS hFc
            obtain rfl : r30 = (f_worthAt U110 v110_1) := hw9
            clear hB9 hz9 hk9 hvm9 ht9 hS
            generalize H1 = H at hR ⊢
            refine lv_l2i (v := ((f_worthAt U110 v110_1).toInt32)) hx hb dX14_turnedRow_137 rfl ?_
            refine lv_i2l (v := (((f_worthAt U110 v110_1).toInt32).toInt64)) hx hb dX14_turnedRow_138 rfl ?_
            obtain ⟨Q32, h0, h⟩ := h
            have hFc := rfree hR hA
            refine va_callv (va_runV (As := [.int v110_1, .int 18, .long (((f_worthAt U110 v110_1).toInt32).toInt64)]) (rest := []) ⟨hx, hb, hml, hown, hts⟩ (r_become l g ad H.size U110 v110_1 (18 : Int32) (((f_worthAt U110 v110_1).toInt32).toInt64) hR.w  Q32 h0) (cwV 3 hts (gd2_V kx_768 kx_769 kx_770 kx_177 kx_771) rfl rfl rfl (by decide +kernel) ⟨Nat.le_of_ble_eq_true rfl, Nat.le_of_ble_eq_true rfl⟩) ⟨rblind, va_recv hR.K hR.P (ci := 13) (q0 := 0) rfl (hR.at14 hR.w.1), fun U hU hW9 => rmk hU hW9 hR hex hE hFc⟩ rfl rfl hl.1 rfl (lv_room (Nat.le_of_ble_eq_true rfl)) dX14_turnedRow_139 ⟨Nat.le_of_ble_eq_true rfl, Nat.le_of_ble_eq_true rfl⟩) hR.sS (fun q _ h => hFc q h) hFc (fun  S33 t9 H1 locs ht9 hvm9 hw9 hB9 hz9 hk9 hS => ?_)
            obtain ⟨hq34, hw9, hs9⟩ := hw9
            have hR : Rep g ad A s S33 H1 locs := hR.call ht9 hB9 hw9 hS hFc
            have hsh := hsh.tr hs9
            replace h := h  S33 hq34
            clear hB9 hz9 hk9 hvm9 ht9 hw9 hs9 hS
            generalize H1 = H at hR ⊢
            refine lv_goto (tgt := 193) hx hb dX14_turnedRow_142 (by decide) ?_
            exact J_193 S33 v110_2 _ _ ls h  hsh hR (lv_sub hl [0, 2] rfl)
      refine lv_icmp_ne (tgt := 110) hx hb dX14_turnedRow_83 (by decide) (fun c35 => ?_) (fun c35 => ?_)
      · replace h := h.2 (k_ne rfl (by decide) c35)
        exact J_110 U75 v75_1 v75_2 v75_3 _ _ ls h  hsh hR (lv_sub hl [0, 1, 2, 3] rfl)
      · replace h := h.1 (k_eq rfl (by decide) c35)
        refine lv_iload_n hx hb dX14_turnedRow_86 rfl (lv_at hl 3 rfl) ?_
        refine lv_sipush (v := 133) hx hb dX14_turnedRow_87 (by decide) ?_
        refine lv_icmp_ne (tgt := 110) hx hb dX14_turnedRow_90 (by decide) (fun c36 => ?_) (fun c36 => ?_)
        · replace h := h.2 (k_ne rfl (by decide) c36)
          exact J_110 U75 v75_1 v75_2 v75_3 _ _ ls h  hsh hR (lv_sub hl [0, 1, 2, 3] rfl)
        · replace h := h.1 (k_eq rfl (by decide) c36)
          refine lv_aload_n hx hb dX14_turnedRow_93 rfl (lv_at hl 0 rfl) ?_
          refine lv_iload_n hx hb dX14_turnedRow_94 rfl (lv_at hl 1 rfl) ?_
          refine lv_bipush (v := 20) hx hb dX14_turnedRow_95 (by decide) ?_
          refine lv_aload_n hx hb dX14_turnedRow_97 rfl (lv_at hl 0 rfl) ?_
          refine va_get (D := rD g) (ci := 13) (v := .ref (ad 79)) (C := RX14) (T := TX14) (N := 143) hx hb hts in2X14 hown hR.K hR.P 0 (hR.at14 hR.w.1) rfl 126 (by decide) (hts _ kx_700) (fun _ h9 => h9) (congrArg (fun z => some (vf ad z)) (hR.w.2.1 _ fin_126).1) dX14_turnedRow_98 ?_
          refine lv_iload_n hx hb dX14_turnedRow_101 rfl (lv_at hl 1 rfl) ?_
          obtain ⟨hv37, h⟩ := h
          refine va_iald hx hb hR.K hR.P 79 1 (hR.atI (hR.w.2.1 _ fin_126).2.1) rfl (k_ixN (k_ix (n := 1200) (x := v75_1) (a := v75_1.toInt) rfl hv37) (hR.w.2.1 _ fin_126).2.2) dX14_turnedRow_102 ?_
          refine lv_topi (fun z38 ez38 => ?_)
          obtain rfl : z38 = (qI U75 79 v75_1.toInt.toNat) := ez38
          refine lv_i2l (v := ((qI U75 79 v75_1.toInt.toNat).toInt64)) hx hb dX14_turnedRow_103 rfl ?_
          obtain ⟨Q39, h0, h⟩ := h
          have hFc := rfree hR hA
          refine va_callv (va_runV (As := [.int v75_1, .int 20, .long ((qI U75 79 v75_1.toInt.toNat).toInt64)]) (rest := []) ⟨hx, hb, hml, hown, hts⟩ (r_become l g ad H.size U75 v75_1 (20 : Int32) ((qI U75 79 v75_1.toInt.toNat).toInt64) hR.w  Q39 h0) (cwV 3 hts (gd2_V kx_768 kx_769 kx_770 kx_177 kx_771) rfl rfl rfl (by decide +kernel) ⟨Nat.le_of_ble_eq_true rfl, Nat.le_of_ble_eq_true rfl⟩) ⟨rblind, va_recv hR.K hR.P (ci := 13) (q0 := 0) rfl (hR.at14 hR.w.1), fun U hU hW9 => rmk hU hW9 hR hex hE hFc⟩ rfl rfl hl.1 rfl (lv_room (Nat.le_of_ble_eq_true rfl)) dX14_turnedRow_104 ⟨Nat.le_of_ble_eq_true rfl, Nat.le_of_ble_eq_true rfl⟩) hR.sS (fun q _ h => hFc q h) hFc (fun  S40 t9 H1 locs ht9 hvm9 hw9 hB9 hz9 hk9 hS => ?_)
          obtain ⟨hq41, hw9, hs9⟩ := hw9
          have hR : Rep g ad A s S40 H1 locs := hR.call ht9 hB9 hw9 hS hFc
          have hsh := hsh.tr hs9
          replace h := h  S40 hq41
          clear hB9 hz9 hk9 hvm9 ht9 hw9 hs9 hS
          generalize H1 = H at hR ⊢
          refine lv_goto (tgt := 193) hx hb dX14_turnedRow_107 (by decide) ?_
          exact J_193 S40 v75_2 _ _ ls h  hsh hR (lv_sub hl [0, 2] rfl)
    refine lv_icmp_ne (tgt := 75) hx hb dX14_turnedRow_50 (by decide) (fun c42 => ?_) (fun c42 => ?_)
    · replace h := h.2 (k_ne rfl (by decide) c42)
      exact J_75 U42 v42_1 v42_2 v42_3 _ _ ls h  hsh hR (lv_sub hl [0, 1, 2, 3] rfl)
    · replace h := h.1 (k_eq rfl (by decide) c42)
      refine lv_iload_n hx hb dX14_turnedRow_53 rfl (lv_at hl 3 rfl) ?_
      refine lv_bipush (v := 117) hx hb dX14_turnedRow_54 (by decide) ?_
      refine lv_icmp_ne (tgt := 75) hx hb dX14_turnedRow_56 (by decide) (fun c43 => ?_) (fun c43 => ?_)
      · replace h := h.2 (k_ne rfl (by decide) c43)
        exact J_75 U42 v42_1 v42_2 v42_3 _ _ ls h  hsh hR (lv_sub hl [0, 1, 2, 3] rfl)
      · replace h := h.1 (k_eq rfl (by decide) c43)
        refine lv_aload_n hx hb dX14_turnedRow_59 rfl (lv_at hl 0 rfl) ?_
        refine lv_iload_n hx hb dX14_turnedRow_60 rfl (lv_at hl 1 rfl) ?_
        refine lv_bipush (v := 20) hx hb dX14_turnedRow_61 (by decide) ?_
        refine lv_aload_n hx hb dX14_turnedRow_63 rfl (lv_at hl 0 rfl) ?_
        refine lv_iload_n hx hb dX14_turnedRow_64 rfl (lv_at hl 1 rfl) ?_
        obtain ⟨hv44, h⟩ := h
        have hFc := rfree hR hA
        refine va_calll (va_runV (As := [.int v42_1]) (rest := [.int 20, .int v42_1, .ref (ad 0)]) ⟨hx, hb, hml, hown, hts⟩ (r_worthAt l g ad H.size U42 v42_1 hR.w  hv44) (cwV 1 hts (gd2_V kx_761 kx_762 kx_763 kx_177 kx_764) rfl rfl rfl (by decide +kernel) ⟨Nat.le_of_ble_eq_true rfl, Nat.le_of_ble_eq_true rfl⟩) ⟨rblind, va_recv hR.K hR.P (ci := 13) (q0 := 0) rfl (hR.at14 hR.w.1), fun U hU hW9 => rmk hU hW9 hR hex hE hFc⟩ rfl rfl hl.1 rfl (lv_room (Nat.le_of_ble_eq_true rfl)) dX14_turnedRow_65 ⟨Nat.le_of_ble_eq_true rfl, Nat.le_of_ble_eq_true rfl⟩) hR.sS (fun q _ h => hFc q h) hFc (fun r45 u9 t9 H1 locs ht9 hvm9 hw9 hB9 hz9 hk9 hS => ?_)
        have hR : Rep g ad A s U42 H1 locs := hR.call ht9 hB9 hR.w hS hFc
        obtain rfl : r45 = (f_worthAt U42 v42_1) := hw9
        clear hB9 hz9 hk9 hvm9 ht9 hS
        generalize H1 = H at hR ⊢
        refine lv_lneg hx hb dX14_turnedRow_68 ?_
        refine lv_topl (fun z47 ez47 => ?_)
        obtain rfl : z47 = (-(f_worthAt U42 v42_1)) := ez47
        obtain ⟨Q48, h0, h⟩ := h
        have hFc := rfree hR hA
        refine va_callv (va_runV (As := [.int v42_1, .int 20, .long (-(f_worthAt U42 v42_1))]) (rest := []) ⟨hx, hb, hml, hown, hts⟩ (r_become l g ad H.size U42 v42_1 (20 : Int32) (-(f_worthAt U42 v42_1)) hR.w  Q48 h0) (cwV 3 hts (gd2_V kx_768 kx_769 kx_770 kx_177 kx_771) rfl rfl rfl (by decide +kernel) ⟨Nat.le_of_ble_eq_true rfl, Nat.le_of_ble_eq_true rfl⟩) ⟨rblind, va_recv hR.K hR.P (ci := 13) (q0 := 0) rfl (hR.at14 hR.w.1), fun U hU hW9 => rmk hU hW9 hR hex hE hFc⟩ rfl rfl hl.1 rfl (lv_room (Nat.le_of_ble_eq_true rfl)) dX14_turnedRow_69 ⟨Nat.le_of_ble_eq_true rfl, Nat.le_of_ble_eq_true rfl⟩) hR.sS (fun q _ h => hFc q h) hFc (fun  S49 t9 H1 locs ht9 hvm9 hw9 hB9 hz9 hk9 hS => ?_)
        obtain ⟨hq50, hw9, hs9⟩ := hw9
        have hR : Rep g ad A s S49 H1 locs := hR.call ht9 hB9 hw9 hS hFc
        have hsh := hsh.tr hs9
        replace h := h  S49 hq50
        clear hB9 hz9 hk9 hvm9 ht9 hw9 hs9 hS
        generalize H1 = H at hR ⊢
        refine lv_goto (tgt := 193) hx hb dX14_turnedRow_72 (by decide) ?_
        exact J_193 S49 v42_2 _ _ ls h  hsh hR (lv_sub hl [0, 2] rfl)
  refine lv_icmp_ne (tgt := 42) hx hb dX14_turnedRow_15 (by decide) (fun c51 => ?_) (fun c51 => ?_)
  · replace h := h.2 (k_ne rfl (by decide) c51)
    exact J_42 S x1 x2 a3 _ _ ls h  hsh hR (lv_sub hl [1, 2, 3, 0] rfl)
  · replace h := h.1 (k_eq rfl (by decide) c51)
    refine lv_iload_n hx hb dX14_turnedRow_18 rfl (lv_at hl 0 rfl) ?_
    refine lv_bipush (v := 116) hx hb dX14_turnedRow_19 (by decide) ?_
    refine lv_icmp_ne (tgt := 42) hx hb dX14_turnedRow_21 (by decide) (fun c52 => ?_) (fun c52 => ?_)
    · replace h := h.2 (k_ne rfl (by decide) c52)
      exact J_42 S x1 x2 a3 _ _ ls h  hsh hR (lv_sub hl [1, 2, 3, 0] rfl)
    · replace h := h.1 (k_eq rfl (by decide) c52)
      refine lv_aload_n hx hb dX14_turnedRow_24 rfl (lv_at hl 1 rfl) ?_
      refine lv_iload_n hx hb dX14_turnedRow_25 rfl (lv_at hl 2 rfl) ?_
      refine lv_bipush (v := 18) hx hb dX14_turnedRow_26 (by decide) ?_
      refine lv_aload_n hx hb dX14_turnedRow_28 rfl (lv_at hl 1 rfl) ?_
      refine va_get (D := rD g) (ci := 13) (v := .ref (ad 79)) (C := RX14) (T := TX14) (N := 143) hx hb hts in2X14 hown hR.K hR.P 0 (hR.at14 hR.w.1) rfl 126 (by decide) (hts _ kx_700) (fun _ h9 => h9) (congrArg (fun z => some (vf ad z)) (hR.w.2.1 _ fin_126).1) dX14_turnedRow_29 ?_
      refine lv_iload_n hx hb dX14_turnedRow_32 rfl (lv_at hl 2 rfl) ?_
      obtain ⟨hv53, h⟩ := h
      refine va_iald hx hb hR.K hR.P 79 1 (hR.atI (hR.w.2.1 _ fin_126).2.1) rfl (k_ixN (k_ix (n := 1200) (x := x1) (a := x1.toInt) rfl hv53) (hR.w.2.1 _ fin_126).2.2) dX14_turnedRow_33 ?_
      refine lv_topi (fun z54 ez54 => ?_)
      obtain rfl : z54 = (qI S 79 x1.toInt.toNat) := ez54
      refine lv_ineg hx hb dX14_turnedRow_34 ?_
      refine lv_topi (fun z55 ez55 => ?_)
      obtain rfl : z55 = (-(qI S 79 x1.toInt.toNat)) := ez55
      refine lv_i2l (v := ((-(qI S 79 x1.toInt.toNat)).toInt64)) hx hb dX14_turnedRow_35 rfl ?_
      obtain ⟨Q56, h0, h⟩ := h
      have hFc := rfree hR hA
      refine va_callv (va_runV (As := [.int x1, .int 18, .long ((-(qI S 79 x1.toInt.toNat)).toInt64)]) (rest := []) ⟨hx, hb, hml, hown, hts⟩ (r_become l g ad s.heap.size S x1 (18 : Int32) ((-(qI S 79 x1.toInt.toNat)).toInt64) hR.w  Q56 h0) (cwV 3 hts (gd2_V kx_768 kx_769 kx_770 kx_177 kx_771) rfl rfl rfl (by decide +kernel) ⟨Nat.le_of_ble_eq_true rfl, Nat.le_of_ble_eq_true rfl⟩) ⟨rblind, va_recv hR.K hR.P (ci := 13) (q0 := 0) rfl (hR.at14 hR.w.1), fun U hU hW9 => rmk hU hW9 hR hex hE hFc⟩ rfl rfl hl.1 rfl (lv_room (Nat.le_of_ble_eq_true rfl)) dX14_turnedRow_36 ⟨Nat.le_of_ble_eq_true rfl, Nat.le_of_ble_eq_true rfl⟩) hR.sS (fun q _ h => hFc q h) hFc (fun  S57 t9 H1 locs ht9 hvm9 hw9 hB9 hz9 hk9 hS => ?_)
      obtain ⟨hq58, hw9, hs9⟩ := hw9
      have hR : Rep g ad A s S57 H1 locs := hR.call ht9 hB9 hw9 hS hFc
      have hsh := hsh.tr hs9
      replace h := h  S57 hq58
      clear hB9 hz9 hk9 hvm9 ht9 hw9 hs9 hS
      generalize H1 = H at hR ⊢
      refine lv_goto (tgt := 193) hx hb dX14_turnedRow_39 (by decide) ?_
      exact J_193 S57 x2 _ _ ls h  hsh hR (lv_sub hl [1, 3] rfl)
def w_settle (S : MS) (x1 : Int32) (x2 : Int32) (x3 : Int32) (Q : MS → Prop) : Prop := (((0 : Int) ≤ x2.toInt ∧ x2.toInt < 1200) ∧ (∀ a3 : Int32, a3 = (qI S 79 x2.toInt.toNat) → (((0 : Int) ≤ x2.toInt ∧ x2.toInt < 1200) ∧ (∀ S5, S5 = wI S 81 x2.toInt.toNat (vp_nar .boolean (1 : Int32)) → ((x3.toInt = 0 → (((0 : Int) ≤ x1.toInt ∧ x1.toInt < 1200) ∧ (∀ S14, S14 = wI S5 81 x1.toInt.toNat (vp_nar .boolean (1 : Int32)) → Q S14))) ∧ (¬ x3.toInt = 0 → (((0 : Int) ≤ x1.toInt ∧ x1.toInt < 1200) ∧ (∀ S8, S8 = wI S5 78 x1.toInt.toNat (167 : Int32) → (((0 : Int) ≤ x1.toInt ∧ x1.toInt < 1200) ∧ (∀ S10, S10 = wI S8 79 x1.toInt.toNat a3 → (((0 : Int) ≤ x1.toInt ∧ x1.toInt < 1200) ∧ (∀ S12, S12 = wI S10 80 x1.toInt.toNat (0 : Int32) → Q S12))))))))))))
set_option maxHeartbeats 2000000 in
set_option maxRecDepth 100000 in
theorem r_settle (l : Launch) (g : Gr) (ad : Nat → Nat) (sz : Nat) (S : MS) (x1 : Int32) (x2 : Int32) (x3 : Int32) (hw : wfM S) (hz_x3 : x3 = 0 ∨ x3 = 1) (Q : MS → Prop) (h : w_settle S x1 x2 x3 Q) : Met l yX14_settle (wt2 yX14_settle cX14_settle 5 none) ({ frames := 0, cells := 0, slots := 0, locals := 0 }) (va_Pc [.ref (ad 0), .int x1, .int x2, .int x3] (st_R g ad sz S)) (va_Qv (fun (u : MS) => Q u ∧ wfM u ∧ shy S u) (fun (u : MS) (t : State) => qE g ad (va_A (Wd g ad S) sz) u t) (va_A (Wd g ad S) sz)) 0 0 (va_A (Wd g ad S) sz) := by
  refine Met.ofW (cc := cX14_settle) (maxL := 5) (ret := none) (by decide) rfl ?_
  intro p e s m args below meth c s₁ B hml hv
  obtain ⟨rfl, hsz, hP, hK, hD0, hex, hE⟩ := hv
  have hx := B.exec
  have hb := B.bytes
  have hr := B.returns
  have hts0 := atoms_spec (ws := wt2 yX14_settle cX14_settle 5 none) B.pre
  have hts : ∀ w ∈ tb2, w.before _ s = true := fun w h => hts0 w (List.mem_cons_of_mem _ h)
  have hown : s.vm.findClass RX14 = some m.cls := findClass_of_methodNamed B.named
  subst hsz
  have hD := hD0.self (sz := s.heap.size)
  generalize hAe : va_A (Wd g ad S) s.heap.size = A at hD hE ⊢
  have hA : ∀ q : Nat, s.heap.size ≤ q → A q := fun q h => by rw [← hAe]; exact Or.inr h
  have hR : Rep g ad A s S s.heap [] := ⟨hK, hP, hD, va_S.rf, hw⟩
  clear hK hP hD hD0
  have hl := lv_entry ([.ref (ad 0), .int x1, .int x2, .int x3]) (n := 5) (Nat.le_of_ble_eq_true rfl)
  rw [lg_entry_eq]
  generalize (lg_sl ([.ref (ad 0), .int x1, .int x2, .int x3]) ++ List.replicate (5 - (lg_sl ([.ref (ad 0), .int x1, .int x2, .int x3])).length) Slot.unset).toArray = ls at hl ⊢
  have hl : lv_has ls 5 [(0, .ref (ad 0)), (1, .int x1), (2, .int x2), (3, .int x3)] := hl
  have hsh : shy S S := shy.rf
  unfold w_settle at h
  refine lv_aload_n hx hb dX14_settle_0 rfl (lv_at hl 0 rfl) ?_
  refine va_get (D := rD g) (ci := 13) (v := .ref (ad 79)) (C := RX14) (T := TX14) (N := 143) hx hb hts in2X14 hown hR.K hR.P 0 (hR.at14 hR.w.1) rfl 126 (by decide) (hts _ kx_700) (fun _ h9 => h9) (congrArg (fun z => some (vf ad z)) (hR.w.2.1 _ fin_126).1) dX14_settle_1 ?_
  refine lv_iload_n hx hb dX14_settle_4 rfl (lv_at hl 2 rfl) ?_
  obtain ⟨hv1, h⟩ := h
  refine va_iald hx hb hR.K hR.P 79 1 (hR.atI (hR.w.2.1 _ fin_126).2.1) rfl (k_ixN (k_ix (n := 1200) (x := x2) (a := x2.toInt) rfl hv1) (hR.w.2.1 _ fin_126).2.2) dX14_settle_5 ?_
  refine lv_topi (fun z2 ez2 => ?_)
  obtain rfl : z2 = (qI S 79 x2.toInt.toNat) := ez2
  obtain ⟨a3, ea3⟩ : ∃ z, z = (qI S 79 x2.toInt.toNat) := ⟨_, rfl⟩
  rw [← ea3]
  replace h := h a3 ea3
  refine lv_istore (lv' := [(4, .int a3), (0, .ref (ad 0)), (1, .int x1), (2, .int x2), (3, .int x3)]) hx hb dX14_settle_6 hl (by decide) rfl (fun ls hl => ?_)
  refine lv_aload_n hx hb dX14_settle_8 rfl (lv_at hl 1 rfl) ?_
  refine va_get (D := rD g) (ci := 13) (v := .ref (ad 81)) (C := RX14) (T := TX14) (N := 143) hx hb hts in2X14 hown hR.K hR.P 0 (hR.at14 hR.w.1) rfl 128 (by decide) (hts _ kx_692) (fun _ h9 => h9) (congrArg (fun z => some (vf ad z)) (hR.w.2.1 _ fin_128).1) dX14_settle_9 ?_
  refine lv_iload_n hx hb dX14_settle_12 rfl (lv_at hl 3 rfl) ?_
  refine lv_iconst (v := 1) hx hb dX14_settle_13 (by decide) ?_
  obtain ⟨hv4, h⟩ := h
  refine va_zast hx hb hR.K hR.P hR.D hR.sS 81 2 (hR.atZ (hR.w.2.1 _ fin_128).2.1) rfl (k_ixN (k_ix (n := 1200) (x := x2) (a := x2.toInt) rfl hv4) (hR.w.2.1 _ fin_128).2.2) dX14_settle_14 (fun H locs hP hD hS => ?_)
  have hR : Rep g ad A s (wI S 81 x2.toInt.toNat (vp_nar .boolean (1 : Int32))) H locs := hR.aZ (hR.w.2.1 _ fin_128).2.1 hP hD hS
  obtain ⟨S5, eS5⟩ : ∃ z, z = wI S 81 x2.toInt.toNat (vp_nar .boolean (1 : Int32)) := ⟨_, rfl⟩
  rw [← eS5] at hR
  replace h := h S5 eS5
  have hsh : shy S S5 := by rw [eS5]; exact hsh
  refine lv_iload_n hx hb dX14_settle_15 rfl (lv_at hl 4 rfl) ?_
  refine lv_if_ne (tgt := 27) hx hb dX14_settle_16 (by decide) (fun c6 => ?_) (fun c6 => ?_)
  · replace h := h.2 (k_ne rfl (by decide) c6)
    refine lv_aload_n hx hb dX14_settle_27 rfl (lv_at hl 1 rfl) ?_
    refine va_get (D := rD g) (ci := 13) (v := .ref (ad 78)) (C := RX14) (T := TX14) (N := 143) hx hb hts in2X14 hown hR.K hR.P 0 (hR.at14 hR.w.1) rfl 125 (by decide) (hts _ kx_697) (fun _ h9 => h9) (congrArg (fun z => some (vf ad z)) (hR.w.2.1 _ fin_125).1) dX14_settle_28 ?_
    refine lv_iload_n hx hb dX14_settle_31 rfl (lv_at hl 2 rfl) ?_
    refine lv_sipush (v := 167) hx hb dX14_settle_32 (by decide) ?_
    obtain ⟨hv7, h⟩ := h
    refine va_iast hx hb hR.K hR.P hR.D hR.sS 78 1 (hR.atI (hR.w.2.1 _ fin_125).2.1) rfl (k_ixN (k_ix (n := 1200) (x := x1) (a := x1.toInt) rfl hv7) (hR.w.2.1 _ fin_125).2.2) dX14_settle_35 (fun H locs hP hD hS => ?_)
    have hR : Rep g ad A s (wI S5 78 x1.toInt.toNat (167 : Int32)) H locs := hR.aI (hR.w.2.1 _ fin_125).2.1 hP hD hS
    obtain ⟨S8, eS8⟩ : ∃ z, z = wI S5 78 x1.toInt.toNat (167 : Int32) := ⟨_, rfl⟩
    rw [← eS8] at hR
    replace h := h S8 eS8
    have hsh : shy S S8 := by rw [eS8]; exact hsh
    refine lv_aload_n hx hb dX14_settle_36 rfl (lv_at hl 1 rfl) ?_
    refine va_get (D := rD g) (ci := 13) (v := .ref (ad 79)) (C := RX14) (T := TX14) (N := 143) hx hb hts in2X14 hown hR.K hR.P 0 (hR.at14 hR.w.1) rfl 126 (by decide) (hts _ kx_700) (fun _ h9 => h9) (congrArg (fun z => some (vf ad z)) (hR.w.2.1 _ fin_126).1) dX14_settle_37 ?_
    refine lv_iload_n hx hb dX14_settle_40 rfl (lv_at hl 2 rfl) ?_
    refine lv_iload hx hb dX14_settle_41 (lv_at hl 0 rfl) ?_
    obtain ⟨hv9, h⟩ := h
    refine va_iast hx hb hR.K hR.P hR.D hR.sS 79 1 (hR.atI (hR.w.2.1 _ fin_126).2.1) rfl (k_ixN (k_ix (n := 1200) (x := x1) (a := x1.toInt) rfl hv9) (hR.w.2.1 _ fin_126).2.2) dX14_settle_43 (fun H locs hP hD hS => ?_)
    have hR : Rep g ad A s (wI S8 79 x1.toInt.toNat a3) H locs := hR.aI (hR.w.2.1 _ fin_126).2.1 hP hD hS
    obtain ⟨S10, eS10⟩ : ∃ z, z = wI S8 79 x1.toInt.toNat a3 := ⟨_, rfl⟩
    rw [← eS10] at hR
    replace h := h S10 eS10
    have hsh : shy S S10 := by rw [eS10]; exact hsh
    refine lv_aload_n hx hb dX14_settle_44 rfl (lv_at hl 1 rfl) ?_
    refine va_get (D := rD g) (ci := 13) (v := .ref (ad 80)) (C := RX14) (T := TX14) (N := 143) hx hb hts in2X14 hown hR.K hR.P 0 (hR.at14 hR.w.1) rfl 127 (by decide) (hts _ kx_698) (fun _ h9 => h9) (congrArg (fun z => some (vf ad z)) (hR.w.2.1 _ fin_127).1) dX14_settle_45 ?_
    refine lv_iload_n hx hb dX14_settle_48 rfl (lv_at hl 2 rfl) ?_
    refine lv_iconst (v := 0) hx hb dX14_settle_49 (by decide) ?_
    obtain ⟨hv11, h⟩ := h
    refine va_iast hx hb hR.K hR.P hR.D hR.sS 80 1 (hR.atI (hR.w.2.1 _ fin_127).2.1) rfl (k_ixN (k_ix (n := 1200) (x := x1) (a := x1.toInt) rfl hv11) (hR.w.2.1 _ fin_127).2.2) dX14_settle_50 (fun H locs hP hD hS => ?_)
    have hR : Rep g ad A s (wI S10 80 x1.toInt.toNat (0 : Int32)) H locs := hR.aI (hR.w.2.1 _ fin_127).2.1 hP hD hS
    obtain ⟨S12, eS12⟩ : ∃ z, z = wI S10 80 x1.toInt.toNat (0 : Int32) := ⟨_, rfl⟩
    rw [← eS12] at hR
    replace h := h S12 eS12
    have hsh : shy S S12 := by rw [eS12]; exact hsh
    exact W.vret hx hb hr (fun t9 ht9 hW9 => ⟨⟨S12, rfl, ⟨h, hR.w, hsh⟩, ⟨by rw [ht9]; exact hR.P, hR.D⟩⟩, hR.sS.F ht9⟩) hR.sS.2.2 dX14_settle_51
  · replace h := h.1 (k_eq rfl (by decide) c6)
    refine lv_aload_n hx hb dX14_settle_19 rfl (lv_at hl 1 rfl) ?_
    refine va_get (D := rD g) (ci := 13) (v := .ref (ad 81)) (C := RX14) (T := TX14) (N := 143) hx hb hts in2X14 hown hR.K hR.P 0 (hR.at14 hR.w.1) rfl 128 (by decide) (hts _ kx_692) (fun _ h9 => h9) (congrArg (fun z => some (vf ad z)) (hR.w.2.1 _ fin_128).1) dX14_settle_20 ?_
    refine lv_iload_n hx hb dX14_settle_23 rfl (lv_at hl 2 rfl) ?_
    refine lv_iconst (v := 1) hx hb dX14_settle_24 (by decide) ?_
    obtain ⟨hv13, h⟩ := h
    refine va_zast hx hb hR.K hR.P hR.D hR.sS 81 2 (hR.atZ (hR.w.2.1 _ fin_128).2.1) rfl (k_ixN (k_ix (n := 1200) (x := x1) (a := x1.toInt) rfl hv13) (hR.w.2.1 _ fin_128).2.2) dX14_settle_25 (fun H locs hP hD hS => ?_)
    have hR : Rep g ad A s (wI S5 81 x1.toInt.toNat (vp_nar .boolean (1 : Int32))) H locs := hR.aZ (hR.w.2.1 _ fin_128).2.1 hP hD hS
    obtain ⟨S14, eS14⟩ : ∃ z, z = wI S5 81 x1.toInt.toNat (vp_nar .boolean (1 : Int32)) := ⟨_, rfl⟩
    rw [← eS14] at hR
    replace h := h S14 eS14
    have hsh : shy S S14 := by rw [eS14]; exact hsh
    exact W.vret hx hb hr (fun t9 ht9 hW9 => ⟨⟨S14, rfl, ⟨h, hR.w, hsh⟩, ⟨by rw [ht9]; exact hR.P, hR.D⟩⟩, hR.sS.F ht9⟩) hR.sS.2.2 dX14_settle_26
def f_isIdle_J156 (S : MS) : Int32 := (1 : Int32)
def d_isIdle_J156 (S : MS) : Prop := True
def f_isIdle_J160 (S : MS) : Int32 := (0 : Int32)
def d_isIdle_J160 (S : MS) : Prop := True
def f_isIdle_J140 (S : MS) (v140_4 : Int64) (v140_6 : Int32) : Int32 := (if (lg_cmp v140_4 (-1 : Int64)).toInt = 0 then (if v140_6.toInt = 126 then f_isIdle_J156 S else f_isIdle_J160 S) else f_isIdle_J160 S)
def d_isIdle_J140 (S : MS) (v140_4 : Int64) (v140_6 : Int32) : Prop := (if (lg_cmp v140_4 (-1 : Int64)).toInt = 0 then (if v140_6.toInt = 126 then d_isIdle_J156 S else d_isIdle_J160 S) else d_isIdle_J160 S)
def f_isIdle_J113 (S : MS) : Int32 := (1 : Int32)
def d_isIdle_J113 (S : MS) : Prop := True
def f_isIdle_J117 (S : MS) : Int32 := (0 : Int32)
def d_isIdle_J117 (S : MS) : Prop := True
def f_isIdle (S : MS) (x1 : Int32) (x2 : Int32) : Int32 := (if (f_isPush S (qI S 78 x1.toInt.toNat)).toInt = 0 then (0 : Int32) else (if (f_isOperator S (qI S 78 x2.toInt.toNat)).toInt = 0 then (0 : Int32) else (if (qI S 78 x2.toInt.toNat).toInt = 148 then (0 : Int32) else (if (qI S 78 x1.toInt.toNat).toInt = (f_upper S (qI S 78 x2.toInt.toNat)).toInt then (if (lg_cmp (f_worthAt S x1) 0).toInt = 0 then (if ((qI S 78 x2.toInt.toNat) - ((qI S 78 x2.toInt.toNat) - (qI S 78 x2.toInt.toNat) / (2 : Int32) * (2 : Int32))).toInt = 96 then f_isIdle_J113 S else (if ((qI S 78 x2.toInt.toNat) - ((qI S 78 x2.toInt.toNat) - (qI S 78 x2.toInt.toNat) / (2 : Int32) * (2 : Int32))).toInt = 100 then f_isIdle_J113 S else (if ((qI S 78 x2.toInt.toNat) - ((qI S 78 x2.toInt.toNat) - (qI S 78 x2.toInt.toNat) / (2 : Int32) * (2 : Int32))).toInt = 128 then f_isIdle_J113 S else (if ((qI S 78 x2.toInt.toNat) - ((qI S 78 x2.toInt.toNat) - (qI S 78 x2.toInt.toNat) / (2 : Int32) * (2 : Int32))).toInt = 130 then f_isIdle_J113 S else (if ((qI S 78 x2.toInt.toNat) - ((qI S 78 x2.toInt.toNat) - (qI S 78 x2.toInt.toNat) / (2 : Int32) * (2 : Int32))).toInt < 120 then f_isIdle_J117 S else (if 124 < ((qI S 78 x2.toInt.toNat) - ((qI S 78 x2.toInt.toNat) - (qI S 78 x2.toInt.toNat) / (2 : Int32) * (2 : Int32))).toInt then f_isIdle_J117 S else f_isIdle_J113 S)))))) else (if (lg_cmp (f_worthAt S x1) 1).toInt = 0 then (if ((qI S 78 x2.toInt.toNat) - ((qI S 78 x2.toInt.toNat) - (qI S 78 x2.toInt.toNat) / (2 : Int32) * (2 : Int32))).toInt = 104 then f_isIdle_J156 S else (if ((qI S 78 x2.toInt.toNat) - ((qI S 78 x2.toInt.toNat) - (qI S 78 x2.toInt.toNat) / (2 : Int32) * (2 : Int32))).toInt = 108 then f_isIdle_J156 S else f_isIdle_J140 S (f_worthAt S x1) ((qI S 78 x2.toInt.toNat) - ((qI S 78 x2.toInt.toNat) - (qI S 78 x2.toInt.toNat) / (2 : Int32) * (2 : Int32))))) else f_isIdle_J140 S (f_worthAt S x1) ((qI S 78 x2.toInt.toNat) - ((qI S 78 x2.toInt.toNat) - (qI S 78 x2.toInt.toNat) / (2 : Int32) * (2 : Int32))))) else (0 : Int32)))))
def d_isIdle (S : MS) (x1 : Int32) (x2 : Int32) : Prop := (((0 : Int) ≤ x2.toInt ∧ x2.toInt < 1200) ∧ (((0 : Int) ≤ x1.toInt ∧ x1.toInt < 1200) ∧ (d_isPush S (qI S 78 x1.toInt.toNat) ∧ (if (f_isPush S (qI S 78 x1.toInt.toNat)).toInt = 0 then True else (d_isOperator S (qI S 78 x2.toInt.toNat) ∧ (if (f_isOperator S (qI S 78 x2.toInt.toNat)).toInt = 0 then True else (if (qI S 78 x2.toInt.toNat).toInt = 148 then True else (((0 : Int) ≤ x1.toInt ∧ x1.toInt < 1200) ∧ (d_upper S (qI S 78 x2.toInt.toNat) ∧ (if (qI S 78 x1.toInt.toNat).toInt = (f_upper S (qI S 78 x2.toInt.toNat)).toInt then (d_worthAt S x1 ∧ (if (lg_cmp (f_worthAt S x1) 0).toInt = 0 then (if ((qI S 78 x2.toInt.toNat) - ((qI S 78 x2.toInt.toNat) - (qI S 78 x2.toInt.toNat) / (2 : Int32) * (2 : Int32))).toInt = 96 then d_isIdle_J113 S else (if ((qI S 78 x2.toInt.toNat) - ((qI S 78 x2.toInt.toNat) - (qI S 78 x2.toInt.toNat) / (2 : Int32) * (2 : Int32))).toInt = 100 then d_isIdle_J113 S else (if ((qI S 78 x2.toInt.toNat) - ((qI S 78 x2.toInt.toNat) - (qI S 78 x2.toInt.toNat) / (2 : Int32) * (2 : Int32))).toInt = 128 then d_isIdle_J113 S else (if ((qI S 78 x2.toInt.toNat) - ((qI S 78 x2.toInt.toNat) - (qI S 78 x2.toInt.toNat) / (2 : Int32) * (2 : Int32))).toInt = 130 then d_isIdle_J113 S else (if ((qI S 78 x2.toInt.toNat) - ((qI S 78 x2.toInt.toNat) - (qI S 78 x2.toInt.toNat) / (2 : Int32) * (2 : Int32))).toInt < 120 then d_isIdle_J117 S else (if 124 < ((qI S 78 x2.toInt.toNat) - ((qI S 78 x2.toInt.toNat) - (qI S 78 x2.toInt.toNat) / (2 : Int32) * (2 : Int32))).toInt then d_isIdle_J117 S else d_isIdle_J113 S)))))) else (if (lg_cmp (f_worthAt S x1) 1).toInt = 0 then (if ((qI S 78 x2.toInt.toNat) - ((qI S 78 x2.toInt.toNat) - (qI S 78 x2.toInt.toNat) / (2 : Int32) * (2 : Int32))).toInt = 104 then d_isIdle_J156 S else (if ((qI S 78 x2.toInt.toNat) - ((qI S 78 x2.toInt.toNat) - (qI S 78 x2.toInt.toNat) / (2 : Int32) * (2 : Int32))).toInt = 108 then d_isIdle_J156 S else d_isIdle_J140 S (f_worthAt S x1) ((qI S 78 x2.toInt.toNat) - ((qI S 78 x2.toInt.toNat) - (qI S 78 x2.toInt.toNat) / (2 : Int32) * (2 : Int32))))) else d_isIdle_J140 S (f_worthAt S x1) ((qI S 78 x2.toInt.toNat) - ((qI S 78 x2.toInt.toNat) - (qI S 78 x2.toInt.toNat) / (2 : Int32) * (2 : Int32)))))) else True))))))))))
set_option maxHeartbeats 2000000 in
set_option maxRecDepth 100000 in
theorem r_isIdle (l : Launch) (g : Gr) (ad : Nat → Nat) (sz : Nat) (S : MS) (x1 : Int32) (x2 : Int32) (hw : wfM S) (hd : d_isIdle S x1 x2) : Met l yX14_isIdle (wt2 yX14_isIdle cX14_isIdle 7 (some .boolean)) ({ frames := 1, cells := 0, slots := 0, locals := 21 }) (va_Pc [.ref (ad 0), .int x1, .int x2] (st_R g ad sz S)) (va_Qi (fun (r : Int32) (_ : Unit) => r = f_isIdle S x1 x2 ∧ (r = 0 ∨ r = 1)) (fun (_ : Unit) (t : State) => qE g ad (va_A (Wd g ad S) sz) S t) (va_A (Wd g ad S) sz)) 0 0 (va_A (Wd g ad S) sz) := by
  refine Met.ofW (cc := cX14_isIdle) (maxL := 7) (ret := (some .boolean)) (by decide) rfl ?_
  intro p e s m args below meth c s₁ B hml hv
  obtain ⟨rfl, hsz, hP, hK, hD0, hex, hE⟩ := hv
  have hx := B.exec
  have hb := B.bytes
  have hr := B.returns
  have hts0 := atoms_spec (ws := wt2 yX14_isIdle cX14_isIdle 7 (some .boolean)) B.pre
  have hts : ∀ w ∈ tb2, w.before _ s = true := fun w h => hts0 w (List.mem_cons_of_mem _ h)
  have hown : s.vm.findClass RX14 = some m.cls := findClass_of_methodNamed B.named
  subst hsz
  have hD := hD0.self (sz := s.heap.size)
  generalize hAe : va_A (Wd g ad S) s.heap.size = A at hD hE ⊢
  have hA : ∀ q : Nat, s.heap.size ≤ q → A q := fun q h => by rw [← hAe]; exact Or.inr h
  have hR : Rep g ad A s S s.heap [] := ⟨hK, hP, hD, va_S.rf, hw⟩
  clear hK hP hD hD0
  have hl := lv_entry ([.ref (ad 0), .int x1, .int x2]) (n := 7) (Nat.le_of_ble_eq_true rfl)
  rw [lg_entry_eq]
  generalize (lg_sl ([.ref (ad 0), .int x1, .int x2]) ++ List.replicate (7 - (lg_sl ([.ref (ad 0), .int x1, .int x2])).length) Slot.unset).toArray = ls at hl ⊢
  have hl : lv_has ls 7 [(0, .ref (ad 0)), (1, .int x1), (2, .int x2)] := hl
  obtain ⟨r0, hf⟩ : ∃ r0, f_isIdle S x1 x2 = r0 := ⟨_, rfl⟩
  have hf0 := hf
  unfold f_isIdle at hf
  unfold d_isIdle at hd
  refine lv_aload_n hx hb dX14_isIdle_0 rfl (lv_at hl 0 rfl) ?_
  refine va_get (D := rD g) (ci := 13) (v := .ref (ad 78)) (C := RX14) (T := TX14) (N := 143) hx hb hts in2X14 hown hR.K hR.P 0 (hR.at14 hR.w.1) rfl 125 (by decide) (hts _ kx_697) (fun _ h9 => h9) (congrArg (fun z => some (vf ad z)) (hR.w.2.1 _ fin_125).1) dX14_isIdle_1 ?_
  refine lv_iload_n hx hb dX14_isIdle_4 rfl (lv_at hl 2 rfl) ?_
  obtain ⟨hv1, hd⟩ := hd
  refine va_iald hx hb hR.K hR.P 78 1 (hR.atI (hR.w.2.1 _ fin_125).2.1) rfl (k_ixN (k_ix (n := 1200) (x := x2) (a := x2.toInt) rfl hv1) (hR.w.2.1 _ fin_125).2.2) dX14_isIdle_5 ?_
  refine lv_topi (fun z2 ez2 => ?_)
  obtain rfl : z2 = (qI S 78 x2.toInt.toNat) := ez2
  refine lv_istore_n (lv' := [(3, .int (qI S 78 x2.toInt.toNat)), (0, .ref (ad 0)), (1, .int x1), (2, .int x2)]) hx hb dX14_isIdle_6 rfl hl (by decide) rfl (fun ls hl => ?_)
  refine lv_aload_n hx hb dX14_isIdle_7 rfl (lv_at hl 1 rfl) ?_
  refine va_get (D := rD g) (ci := 13) (v := .ref (ad 78)) (C := RX14) (T := TX14) (N := 143) hx hb hts in2X14 hown hR.K hR.P 0 (hR.at14 hR.w.1) rfl 125 (by decide) (hts _ kx_697) (fun _ h9 => h9) (congrArg (fun z => some (vf ad z)) (hR.w.2.1 _ fin_125).1) dX14_isIdle_8 ?_
  refine lv_iload_n hx hb dX14_isIdle_11 rfl (lv_at hl 2 rfl) ?_
  obtain ⟨hv3, hd⟩ := hd
  refine va_iald hx hb hR.K hR.P 78 1 (hR.atI (hR.w.2.1 _ fin_125).2.1) rfl (k_ixN (k_ix (n := 1200) (x := x1) (a := x1.toInt) rfl hv3) (hR.w.2.1 _ fin_125).2.2) dX14_isIdle_12 ?_
  refine lv_topi (fun z4 ez4 => ?_)
  obtain rfl : z4 = (qI S 78 x1.toInt.toNat) := ez4
  obtain ⟨hv5, hd⟩ := hd
  have hFc := rfree hR hA
  refine va_calli (va_runS (As := [.int (qI S 78 x1.toInt.toNat)]) (rest := []) ⟨hx, hb, hml, hown, hts⟩ (r_isPush l g ad s.heap.size S (qI S 78 x1.toInt.toNat) hR.w  hv5) (va_cwS 1 hts (gd2_S kx_781 kx_782 kx_177 kx_783) rfl rfl rfl (by decide +kernel) ⟨Nat.le_of_ble_eq_true rfl, Nat.le_of_ble_eq_true rfl⟩) ⟨rblind, fun U hU hW9 => rmk hU hW9 hR hex hE hFc⟩ rfl rfl hl.1 rfl (lv_room (Nat.le_of_ble_eq_true rfl)) dX14_isIdle_13 ⟨Nat.le_of_ble_eq_true rfl, Nat.le_of_ble_eq_true rfl⟩) hR.sS (fun q _ h => hFc q h) hFc (fun r6 u9 t9 H1 locs ht9 hvm9 hw9 hB9 hz9 hk9 hS => ?_)
  have hR : Rep g ad A s S H1 locs := hR.call ht9 hB9 hR.w hS hFc
  obtain ⟨rfl, hz_r6⟩ := hw9
  clear hB9 hz9 hk9 hvm9 ht9 hS
  generalize H1 = H at hR ⊢
  refine lv_if_eq (tgt := 46) hx hb dX14_isIdle_16 (by decide) (fun c8 => ?_) (fun c8 => ?_)
  · rw [if_pos (k_eq rfl (by decide) c8)] at hf
    (try rw [if_pos (k_eq rfl (by decide) c8)] at hd)
    refine lv_iconst (v := 0) hx hb dX14_isIdle_46 (by decide) ?_
    exact W.zret (v := 0) hx hb hr (nz (Or.inl rfl)) (fun t9 ht9 hW9 => ⟨⟨_, (), rfl, ⟨hf.trans hf0.symm, (Or.inl rfl)⟩, ⟨by rw [ht9]; exact hR.P, hR.D⟩⟩, hR.sS.F ht9⟩) hR.sS.2.2 dX14_isIdle_47
  · rw [if_neg (k_ne rfl (by decide) c8)] at hf
    (try rw [if_neg (k_ne rfl (by decide) c8)] at hd)
    refine lv_iload_n hx hb dX14_isIdle_19 rfl (lv_at hl 0 rfl) ?_
    obtain ⟨hv9, hd⟩ := hd
    have hFc := rfree hR hA
    refine va_calli (va_runS (As := [.int (qI S 78 x2.toInt.toNat)]) (rest := []) ⟨hx, hb, hml, hown, hts⟩ (r_isOperator l g ad H.size S (qI S 78 x2.toInt.toNat) hR.w  hv9) (va_cwS 1 hts (gd2_S kx_752 kx_753 kx_177 kx_754) rfl rfl rfl (by decide +kernel) ⟨Nat.le_of_ble_eq_true rfl, Nat.le_of_ble_eq_true rfl⟩) ⟨rblind, fun U hU hW9 => rmk hU hW9 hR hex hE hFc⟩ rfl rfl hl.1 rfl (lv_room (Nat.le_of_ble_eq_true rfl)) dX14_isIdle_20 ⟨Nat.le_of_ble_eq_true rfl, Nat.le_of_ble_eq_true rfl⟩) hR.sS (fun q _ h => hFc q h) hFc (fun r10 u9 t9 H1 locs ht9 hvm9 hw9 hB9 hz9 hk9 hS => ?_)
    have hR : Rep g ad A s S H1 locs := hR.call ht9 hB9 hR.w hS hFc
    obtain ⟨rfl, hz_r10⟩ := hw9
    clear hB9 hz9 hk9 hvm9 ht9 hS
    generalize H1 = H at hR ⊢
    refine lv_if_eq (tgt := 46) hx hb dX14_isIdle_23 (by decide) (fun c12 => ?_) (fun c12 => ?_)
    · rw [if_pos (k_eq rfl (by decide) c12)] at hf
      (try rw [if_pos (k_eq rfl (by decide) c12)] at hd)
      refine lv_iconst (v := 0) hx hb dX14_isIdle_46 (by decide) ?_
      exact W.zret (v := 0) hx hb hr (nz (Or.inl rfl)) (fun t9 ht9 hW9 => ⟨⟨_, (), rfl, ⟨hf.trans hf0.symm, (Or.inl rfl)⟩, ⟨by rw [ht9]; exact hR.P, hR.D⟩⟩, hR.sS.F ht9⟩) hR.sS.2.2 dX14_isIdle_47
    · rw [if_neg (k_ne rfl (by decide) c12)] at hf
      (try rw [if_neg (k_ne rfl (by decide) c12)] at hd)
      refine lv_iload_n hx hb dX14_isIdle_26 rfl (lv_at hl 0 rfl) ?_
      refine lv_sipush (v := 148) hx hb dX14_isIdle_27 (by decide) ?_
      refine lv_icmp_eq (tgt := 46) hx hb dX14_isIdle_30 (by decide) (fun c13 => ?_) (fun c13 => ?_)
      · rw [if_pos (k_eq rfl (by decide) c13)] at hf
        (try rw [if_pos (k_eq rfl (by decide) c13)] at hd)
        refine lv_iconst (v := 0) hx hb dX14_isIdle_46 (by decide) ?_
        exact W.zret (v := 0) hx hb hr (nz (Or.inl rfl)) (fun t9 ht9 hW9 => ⟨⟨_, (), rfl, ⟨hf.trans hf0.symm, (Or.inl rfl)⟩, ⟨by rw [ht9]; exact hR.P, hR.D⟩⟩, hR.sS.F ht9⟩) hR.sS.2.2 dX14_isIdle_47
      · rw [if_neg (k_ne rfl (by decide) c13)] at hf
        (try rw [if_neg (k_ne rfl (by decide) c13)] at hd)
        refine lv_aload_n hx hb dX14_isIdle_33 rfl (lv_at hl 1 rfl) ?_
        refine va_get (D := rD g) (ci := 13) (v := .ref (ad 78)) (C := RX14) (T := TX14) (N := 143) hx hb hts in2X14 hown hR.K hR.P 0 (hR.at14 hR.w.1) rfl 125 (by decide) (hts _ kx_697) (fun _ h9 => h9) (congrArg (fun z => some (vf ad z)) (hR.w.2.1 _ fin_125).1) dX14_isIdle_34 ?_
        refine lv_iload_n hx hb dX14_isIdle_37 rfl (lv_at hl 2 rfl) ?_
        obtain ⟨hv14, hd⟩ := hd
        refine va_iald hx hb hR.K hR.P 78 1 (hR.atI (hR.w.2.1 _ fin_125).2.1) rfl (k_ixN (k_ix (n := 1200) (x := x1) (a := x1.toInt) rfl hv14) (hR.w.2.1 _ fin_125).2.2) dX14_isIdle_38 ?_
        refine lv_topi (fun z15 ez15 => ?_)
        obtain rfl : z15 = (qI S 78 x1.toInt.toNat) := ez15
        refine lv_iload_n hx hb dX14_isIdle_39 rfl (lv_at hl 0 rfl) ?_
        obtain ⟨hv16, hd⟩ := hd
        have hFc := rfree hR hA
        refine va_calli (va_runS (As := [.int (qI S 78 x2.toInt.toNat)]) (rest := [.int (qI S 78 x1.toInt.toNat)]) ⟨hx, hb, hml, hown, hts⟩ (r_upper l g ad H.size S (qI S 78 x2.toInt.toNat) hR.w  hv16) (va_cwS 1 hts (gd2_S kx_758 kx_759 kx_177 kx_760) rfl rfl rfl (by decide +kernel) ⟨Nat.le_of_ble_eq_true rfl, Nat.le_of_ble_eq_true rfl⟩) ⟨rblind, fun U hU hW9 => rmk hU hW9 hR hex hE hFc⟩ rfl rfl hl.1 rfl (lv_room (Nat.le_of_ble_eq_true rfl)) dX14_isIdle_40 ⟨Nat.le_of_ble_eq_true rfl, Nat.le_of_ble_eq_true rfl⟩) hR.sS (fun q _ h => hFc q h) hFc (fun r17 u9 t9 H1 locs ht9 hvm9 hw9 hB9 hz9 hk9 hS => ?_)
        have hR : Rep g ad A s S H1 locs := hR.call ht9 hB9 hR.w hS hFc
        obtain rfl : r17 = (f_upper S (qI S 78 x2.toInt.toNat)) := hw9
        clear hB9 hz9 hk9 hvm9 ht9 hS
        generalize H1 = H at hR ⊢
        refine lv_icmp_eq (tgt := 48) hx hb dX14_isIdle_43 (by decide) (fun c19 => ?_) (fun c19 => ?_)
        · rw [if_pos (k_eq rfl rfl c19)] at hf
          (try rw [if_pos (k_eq rfl rfl c19)] at hd)
          refine lv_aload_n hx hb dX14_isIdle_48 rfl (lv_at hl 1 rfl) ?_
          refine lv_iload_n hx hb dX14_isIdle_49 rfl (lv_at hl 2 rfl) ?_
          obtain ⟨hv20, hd⟩ := hd
          have hFc := rfree hR hA
          refine va_calll (va_runV (As := [.int x1]) (rest := []) ⟨hx, hb, hml, hown, hts⟩ (r_worthAt l g ad H.size S x1 hR.w  hv20) (cwV 1 hts (gd2_V kx_761 kx_762 kx_763 kx_177 kx_764) rfl rfl rfl (by decide +kernel) ⟨Nat.le_of_ble_eq_true rfl, Nat.le_of_ble_eq_true rfl⟩) ⟨rblind, va_recv hR.K hR.P (ci := 13) (q0 := 0) rfl (hR.at14 hR.w.1), fun U hU hW9 => rmk hU hW9 hR hex hE hFc⟩ rfl rfl hl.1 rfl (lv_room (Nat.le_of_ble_eq_true rfl)) dX14_isIdle_50 ⟨Nat.le_of_ble_eq_true rfl, Nat.le_of_ble_eq_true rfl⟩) hR.sS (fun q _ h => hFc q h) hFc (fun r21 u9 t9 H1 locs ht9 hvm9 hw9 hB9 hz9 hk9 hS => ?_)
          have hR : Rep g ad A s S H1 locs := hR.call ht9 hB9 hR.w hS hFc
          obtain rfl : r21 = (f_worthAt S x1) := hw9
          clear hB9 hz9 hk9 hvm9 ht9 hS
          generalize H1 = H at hR ⊢
          refine lv_lstore (lv' := [(4, .long (f_worthAt S x1)), (3, .int (qI S 78 x2.toInt.toNat)), (0, .ref (ad 0)), (1, .int x1), (2, .int x2)]) hx hb dX14_isIdle_53 hl (by decide) rfl (fun ls hl => ?_)
          refine lv_iload_n hx hb dX14_isIdle_55 rfl (lv_at hl 1 rfl) ?_
          refine lv_iload_n hx hb dX14_isIdle_56 rfl (lv_at hl 1 rfl) ?_
          refine lv_iconst (v := 2) hx hb dX14_isIdle_57 (by decide) ?_
          refine lv_irem hx hb dX14_isIdle_58 (by decide) ?_
          refine lv_topi (fun z23 ez23 => ?_)
          obtain rfl : z23 = ((qI S 78 x2.toInt.toNat) - (qI S 78 x2.toInt.toNat) / (2 : Int32) * (2 : Int32)) := ez23
          refine lv_isub hx hb dX14_isIdle_59 ?_
          refine lv_topi (fun z24 ez24 => ?_)
          obtain rfl : z24 = ((qI S 78 x2.toInt.toNat) - ((qI S 78 x2.toInt.toNat) - (qI S 78 x2.toInt.toNat) / (2 : Int32) * (2 : Int32))) := ez24
          refine lv_istore (lv' := [(6, .int ((qI S 78 x2.toInt.toNat) - ((qI S 78 x2.toInt.toNat) - (qI S 78 x2.toInt.toNat) / (2 : Int32) * (2 : Int32)))), (4, .long (f_worthAt S x1)), (3, .int (qI S 78 x2.toInt.toNat)), (0, .ref (ad 0)), (1, .int x1), (2, .int x2)]) hx hb dX14_isIdle_60 hl (by decide) rfl (fun ls hl => ?_)
          refine lv_lload hx hb dX14_isIdle_62 (lv_at hl 1 rfl) ?_
          refine lv_lconst (v := 0) hx hb dX14_isIdle_64 (by decide) ?_
          refine W.lcmp hx hb dX14_isIdle_65 ?_
          refine lv_topi (fun z25 ez25 => ?_)
          obtain rfl : z25 = (lg_cmp (f_worthAt S x1) 0) := ez25
          refine lv_if_ne (tgt := 119) hx hb dX14_isIdle_66 (by decide) (fun c26 => ?_) (fun c26 => ?_)
          · rw [if_neg (k_ne rfl (by decide) c26)] at hf
            (try rw [if_neg (k_ne rfl (by decide) c26)] at hd)
            refine lv_lload hx hb dX14_isIdle_119 (lv_at hl 1 rfl) ?_
            refine lv_lconst (v := 1) hx hb dX14_isIdle_121 (by decide) ?_
            refine W.lcmp hx hb dX14_isIdle_122 ?_
            refine lv_topi (fun z27 ez27 => ?_)
            obtain rfl : z27 = (lg_cmp (f_worthAt S x1) 1) := ez27
            have J_156 : ∀ (H : Heap) (locs : List Loc) (ls : Array Slot), d_isIdle_J156 S → f_isIdle_J156 S = r0 → Rep g ad A s S H locs → lv_has ls 7 [] → W p l e (headSpec (wt2 yX14_isIdle cX14_isIdle 7 (some .boolean)) ({ frames := 1, cells := 0, slots := 0, locals := 21 })).room s m ([.ref (ad 0), .int x1, .int x2] : List Value).toArray below meth c H locs 0 0 (MQ below (va_Qi (fun (r : Int32) (_ : Unit) => r = f_isIdle S x1 x2 ∧ (r = 0 ∨ r = 1)) (fun (_ : Unit) (t : State) => qE g ad A S t) A) ([.ref (ad 0), .int x1, .int x2] : List Value).toArray s 0 0 A) (F0 m 156 ls []) := by
              intro H locs ls hd hf hR hl
              unfold d_isIdle_J156 at hd
              unfold f_isIdle_J156 at hf
              refine lv_iconst (v := 1) hx hb dX14_isIdle_156 (by decide) ?_
              refine lv_goto (tgt := 161) hx hb dX14_isIdle_157 (by decide) ?_
              exact W.zret (v := 1) hx hb hr (nz (Or.inr rfl)) (fun t9 ht9 hW9 => ⟨⟨_, (), rfl, ⟨hf.trans hf0.symm, (Or.inr rfl)⟩, ⟨by rw [ht9]; exact hR.P, hR.D⟩⟩, hR.sS.F ht9⟩) hR.sS.2.2 dX14_isIdle_161
            have J_140 : ∀ (v140_4 : Int64) (v140_6 : Int32) (H : Heap) (locs : List Loc) (ls : Array Slot), d_isIdle_J140 S v140_4 v140_6 → f_isIdle_J140 S v140_4 v140_6 = r0 → Rep g ad A s S H locs → lv_has ls 7 [(4, .long v140_4), (6, .int v140_6)] → W p l e (headSpec (wt2 yX14_isIdle cX14_isIdle 7 (some .boolean)) ({ frames := 1, cells := 0, slots := 0, locals := 21 })).room s m ([.ref (ad 0), .int x1, .int x2] : List Value).toArray below meth c H locs 0 0 (MQ below (va_Qi (fun (r : Int32) (_ : Unit) => r = f_isIdle S x1 x2 ∧ (r = 0 ∨ r = 1)) (fun (_ : Unit) (t : State) => qE g ad A S t) A) ([.ref (ad 0), .int x1, .int x2] : List Value).toArray s 0 0 A) (F0 m 140 ls []) := by
              intro v140_4 v140_6 H locs ls hd hf hR hl
              unfold d_isIdle_J140 at hd
              unfold f_isIdle_J140 at hf
              refine lv_lload hx hb dX14_isIdle_140 (lv_at hl 0 rfl) ?_
              refine lv_ldc2 hx hb hown (hts _ kx_656) dX14_isIdle_142 ?_
              refine W.lcmp hx hb dX14_isIdle_145 ?_
              refine lv_topi (fun z28 ez28 => ?_)
              obtain rfl : z28 = (lg_cmp v140_4 (-1 : Int64)) := ez28
              have J_160 : ∀ (H : Heap) (locs : List Loc) (ls : Array Slot), d_isIdle_J160 S → f_isIdle_J160 S = r0 → Rep g ad A s S H locs → lv_has ls 7 [] → W p l e (headSpec (wt2 yX14_isIdle cX14_isIdle 7 (some .boolean)) ({ frames := 1, cells := 0, slots := 0, locals := 21 })).room s m ([.ref (ad 0), .int x1, .int x2] : List Value).toArray below meth c H locs 0 0 (MQ below (va_Qi (fun (r : Int32) (_ : Unit) => r = f_isIdle S x1 x2 ∧ (r = 0 ∨ r = 1)) (fun (_ : Unit) (t : State) => qE g ad A S t) A) ([.ref (ad 0), .int x1, .int x2] : List Value).toArray s 0 0 A) (F0 m 160 ls []) := by
                intro H locs ls hd hf hR hl
                unfold d_isIdle_J160 at hd
                unfold f_isIdle_J160 at hf
                refine lv_iconst (v := 0) hx hb dX14_isIdle_160 (by decide) ?_
                exact W.zret (v := 0) hx hb hr (nz (Or.inl rfl)) (fun t9 ht9 hW9 => ⟨⟨_, (), rfl, ⟨hf.trans hf0.symm, (Or.inl rfl)⟩, ⟨by rw [ht9]; exact hR.P, hR.D⟩⟩, hR.sS.F ht9⟩) hR.sS.2.2 dX14_isIdle_161
              refine lv_if_ne (tgt := 160) hx hb dX14_isIdle_146 (by decide) (fun c29 => ?_) (fun c29 => ?_)
              · rw [if_neg (k_ne rfl (by decide) c29)] at hf
                (try rw [if_neg (k_ne rfl (by decide) c29)] at hd)
                exact J_160 _ _ ls hd hf  hR (lv_sub hl [] rfl)
              · rw [if_pos (k_eq rfl (by decide) c29)] at hf
                (try rw [if_pos (k_eq rfl (by decide) c29)] at hd)
                refine lv_iload hx hb dX14_isIdle_149 (lv_at hl 1 rfl) ?_
                refine lv_bipush (v := 126) hx hb dX14_isIdle_151 (by decide) ?_
                refine lv_icmp_ne (tgt := 160) hx hb dX14_isIdle_153 (by decide) (fun c30 => ?_) (fun c30 => ?_)
                · rw [if_neg (k_ne rfl (by decide) c30)] at hf
                  (try rw [if_neg (k_ne rfl (by decide) c30)] at hd)
                  exact J_160 _ _ ls hd hf  hR (lv_sub hl [] rfl)
                · rw [if_pos (k_eq rfl (by decide) c30)] at hf
                  (try rw [if_pos (k_eq rfl (by decide) c30)] at hd)
                  exact J_156 _ _ ls hd hf  hR (lv_sub hl [] rfl)
            refine lv_if_ne (tgt := 140) hx hb dX14_isIdle_123 (by decide) (fun c31 => ?_) (fun c31 => ?_)
            · rw [if_neg (k_ne rfl (by decide) c31)] at hf
              (try rw [if_neg (k_ne rfl (by decide) c31)] at hd)
              exact J_140 (f_worthAt S x1) ((qI S 78 x2.toInt.toNat) - ((qI S 78 x2.toInt.toNat) - (qI S 78 x2.toInt.toNat) / (2 : Int32) * (2 : Int32))) _ _ ls hd hf  hR (lv_sub hl [1, 0] rfl)
            · rw [if_pos (k_eq rfl (by decide) c31)] at hf
              (try rw [if_pos (k_eq rfl (by decide) c31)] at hd)
              refine lv_iload hx hb dX14_isIdle_126 (lv_at hl 0 rfl) ?_
              refine lv_bipush (v := 104) hx hb dX14_isIdle_128 (by decide) ?_
              refine lv_icmp_eq (tgt := 156) hx hb dX14_isIdle_130 (by decide) (fun c32 => ?_) (fun c32 => ?_)
              · rw [if_pos (k_eq rfl (by decide) c32)] at hf
                (try rw [if_pos (k_eq rfl (by decide) c32)] at hd)
                exact J_156 _ _ ls hd hf  hR (lv_sub hl [] rfl)
              · rw [if_neg (k_ne rfl (by decide) c32)] at hf
                (try rw [if_neg (k_ne rfl (by decide) c32)] at hd)
                refine lv_iload hx hb dX14_isIdle_133 (lv_at hl 0 rfl) ?_
                refine lv_bipush (v := 108) hx hb dX14_isIdle_135 (by decide) ?_
                refine lv_icmp_eq (tgt := 156) hx hb dX14_isIdle_137 (by decide) (fun c33 => ?_) (fun c33 => ?_)
                · rw [if_pos (k_eq rfl (by decide) c33)] at hf
                  (try rw [if_pos (k_eq rfl (by decide) c33)] at hd)
                  exact J_156 _ _ ls hd hf  hR (lv_sub hl [] rfl)
                · rw [if_neg (k_ne rfl (by decide) c33)] at hf
                  (try rw [if_neg (k_ne rfl (by decide) c33)] at hd)
                  exact J_140 (f_worthAt S x1) ((qI S 78 x2.toInt.toNat) - ((qI S 78 x2.toInt.toNat) - (qI S 78 x2.toInt.toNat) / (2 : Int32) * (2 : Int32))) _ _ ls hd hf  hR (lv_sub hl [1, 0] rfl)
          · rw [if_pos (k_eq rfl (by decide) c26)] at hf
            (try rw [if_pos (k_eq rfl (by decide) c26)] at hd)
            refine lv_iload hx hb dX14_isIdle_69 (lv_at hl 0 rfl) ?_
            refine lv_bipush (v := 96) hx hb dX14_isIdle_71 (by decide) ?_
            have J_113 : ∀ (H : Heap) (locs : List Loc) (ls : Array Slot), d_isIdle_J113 S → f_isIdle_J113 S = r0 → Rep g ad A s S H locs → lv_has ls 7 [] → W p l e (headSpec (wt2 yX14_isIdle cX14_isIdle 7 (some .boolean)) ({ frames := 1, cells := 0, slots := 0, locals := 21 })).room s m ([.ref (ad 0), .int x1, .int x2] : List Value).toArray below meth c H locs 0 0 (MQ below (va_Qi (fun (r : Int32) (_ : Unit) => r = f_isIdle S x1 x2 ∧ (r = 0 ∨ r = 1)) (fun (_ : Unit) (t : State) => qE g ad A S t) A) ([.ref (ad 0), .int x1, .int x2] : List Value).toArray s 0 0 A) (F0 m 113 ls []) := by
              intro H locs ls hd hf hR hl
              unfold d_isIdle_J113 at hd
              unfold f_isIdle_J113 at hf
              refine lv_iconst (v := 1) hx hb dX14_isIdle_113 (by decide) ?_
              refine lv_goto (tgt := 118) hx hb dX14_isIdle_114 (by decide) ?_
              exact W.zret (v := 1) hx hb hr (nz (Or.inr rfl)) (fun t9 ht9 hW9 => ⟨⟨_, (), rfl, ⟨hf.trans hf0.symm, (Or.inr rfl)⟩, ⟨by rw [ht9]; exact hR.P, hR.D⟩⟩, hR.sS.F ht9⟩) hR.sS.2.2 dX14_isIdle_118
            refine lv_icmp_eq (tgt := 113) hx hb dX14_isIdle_73 (by decide) (fun c34 => ?_) (fun c34 => ?_)
            · rw [if_pos (k_eq rfl (by decide) c34)] at hf
              (try rw [if_pos (k_eq rfl (by decide) c34)] at hd)
              exact J_113 _ _ ls hd hf  hR (lv_sub hl [] rfl)
            · rw [if_neg (k_ne rfl (by decide) c34)] at hf
              (try rw [if_neg (k_ne rfl (by decide) c34)] at hd)
              refine lv_iload hx hb dX14_isIdle_76 (lv_at hl 0 rfl) ?_
              refine lv_bipush (v := 100) hx hb dX14_isIdle_78 (by decide) ?_
              refine lv_icmp_eq (tgt := 113) hx hb dX14_isIdle_80 (by decide) (fun c35 => ?_) (fun c35 => ?_)
              · rw [if_pos (k_eq rfl (by decide) c35)] at hf
                (try rw [if_pos (k_eq rfl (by decide) c35)] at hd)
                exact J_113 _ _ ls hd hf  hR (lv_sub hl [] rfl)
              · rw [if_neg (k_ne rfl (by decide) c35)] at hf
                (try rw [if_neg (k_ne rfl (by decide) c35)] at hd)
                refine lv_iload hx hb dX14_isIdle_83 (lv_at hl 0 rfl) ?_
                refine lv_sipush (v := 128) hx hb dX14_isIdle_85 (by decide) ?_
                refine lv_icmp_eq (tgt := 113) hx hb dX14_isIdle_88 (by decide) (fun c36 => ?_) (fun c36 => ?_)
                · rw [if_pos (k_eq rfl (by decide) c36)] at hf
                  (try rw [if_pos (k_eq rfl (by decide) c36)] at hd)
                  exact J_113 _ _ ls hd hf  hR (lv_sub hl [] rfl)
                · rw [if_neg (k_ne rfl (by decide) c36)] at hf
                  (try rw [if_neg (k_ne rfl (by decide) c36)] at hd)
                  refine lv_iload hx hb dX14_isIdle_91 (lv_at hl 0 rfl) ?_
                  refine lv_sipush (v := 130) hx hb dX14_isIdle_93 (by decide) ?_
                  refine lv_icmp_eq (tgt := 113) hx hb dX14_isIdle_96 (by decide) (fun c37 => ?_) (fun c37 => ?_)
                  · rw [if_pos (k_eq rfl (by decide) c37)] at hf
                    (try rw [if_pos (k_eq rfl (by decide) c37)] at hd)
                    exact J_113 _ _ ls hd hf  hR (lv_sub hl [] rfl)
                  · rw [if_neg (k_ne rfl (by decide) c37)] at hf
                    (try rw [if_neg (k_ne rfl (by decide) c37)] at hd)
                    refine lv_iload hx hb dX14_isIdle_99 (lv_at hl 0 rfl) ?_
                    refine lv_bipush (v := 120) hx hb dX14_isIdle_101 (by decide) ?_
                    have J_117 : ∀ (H : Heap) (locs : List Loc) (ls : Array Slot), d_isIdle_J117 S → f_isIdle_J117 S = r0 → Rep g ad A s S H locs → lv_has ls 7 [] → W p l e (headSpec (wt2 yX14_isIdle cX14_isIdle 7 (some .boolean)) ({ frames := 1, cells := 0, slots := 0, locals := 21 })).room s m ([.ref (ad 0), .int x1, .int x2] : List Value).toArray below meth c H locs 0 0 (MQ below (va_Qi (fun (r : Int32) (_ : Unit) => r = f_isIdle S x1 x2 ∧ (r = 0 ∨ r = 1)) (fun (_ : Unit) (t : State) => qE g ad A S t) A) ([.ref (ad 0), .int x1, .int x2] : List Value).toArray s 0 0 A) (F0 m 117 ls []) := by
                      intro H locs ls hd hf hR hl
                      unfold d_isIdle_J117 at hd
                      unfold f_isIdle_J117 at hf
                      refine lv_iconst (v := 0) hx hb dX14_isIdle_117 (by decide) ?_
                      exact W.zret (v := 0) hx hb hr (nz (Or.inl rfl)) (fun t9 ht9 hW9 => ⟨⟨_, (), rfl, ⟨hf.trans hf0.symm, (Or.inl rfl)⟩, ⟨by rw [ht9]; exact hR.P, hR.D⟩⟩, hR.sS.F ht9⟩) hR.sS.2.2 dX14_isIdle_118
                    refine lv_icmp_lt (tgt := 117) hx hb dX14_isIdle_103 (by decide) (fun c38 => ?_) (fun c38 => ?_)
                    · rw [if_pos (k_lt rfl (by decide) c38)] at hf
                      (try rw [if_pos (k_lt rfl (by decide) c38)] at hd)
                      exact J_117 _ _ ls hd hf  hR (lv_sub hl [] rfl)
                    · rw [if_neg (k_nlt rfl (by decide) c38)] at hf
                      (try rw [if_neg (k_nlt rfl (by decide) c38)] at hd)
                      refine lv_iload hx hb dX14_isIdle_106 (lv_at hl 0 rfl) ?_
                      refine lv_bipush (v := 124) hx hb dX14_isIdle_108 (by decide) ?_
                      refine lv_icmp_gt (tgt := 117) hx hb dX14_isIdle_110 (by decide) (fun c39 => ?_) (fun c39 => ?_)
                      · rw [if_pos (k_lt (by decide) rfl c39)] at hf
                        (try rw [if_pos (k_lt (by decide) rfl c39)] at hd)
                        exact J_117 _ _ ls hd hf  hR (lv_sub hl [] rfl)
                      · rw [if_neg (k_nlt (by decide) rfl c39)] at hf
                        (try rw [if_neg (k_nlt (by decide) rfl c39)] at hd)
                        exact J_113 _ _ ls hd hf  hR (lv_sub hl [] rfl)
        · rw [if_neg (k_ne rfl rfl c19)] at hf
          (try rw [if_neg (k_ne rfl rfl c19)] at hd)
          refine lv_iconst (v := 0) hx hb dX14_isIdle_46 (by decide) ?_
          exact W.zret (v := 0) hx hb hr (nz (Or.inl rfl)) (fun t9 ht9 hW9 => ⟨⟨_, (), rfl, ⟨hf.trans hf0.symm, (Or.inl rfl)⟩, ⟨by rw [ht9]; exact hR.P, hR.D⟩⟩, hR.sS.F ht9⟩) hR.sS.2.2 dX14_isIdle_47
def f_isDropped_J74 (S : MS) : Int32 := (0 : Int32)
def d_isDropped_J74 (S : MS) : Prop := True
def f_isDropped_J70 (S : MS) : Int32 := (1 : Int32)
def d_isDropped_J70 (S : MS) : Prop := True
def f_isDropped_J41 (S : MS) : Int32 := (1 : Int32)
def d_isDropped_J41 (S : MS) : Prop := True
def f_isDropped (S : MS) (x1 : Int32) (x2 : Int32) : Int32 := (if (qI S 78 x2.toInt.toNat).toInt = 87 then (if (qI S 78 x1.toInt.toNat).toInt = 18 then f_isDropped_J41 S else (if (qI S 78 x1.toInt.toNat).toInt = 1 then f_isDropped_J41 S else (if (qI S 78 x1.toInt.toNat).toInt = 21 then f_isDropped_J41 S else (if (qI S 78 x1.toInt.toNat).toInt = 25 then f_isDropped_J41 S else (0 : Int32))))) else (if (qI S 78 x2.toInt.toNat).toInt = 88 then (if (qI S 78 x1.toInt.toNat).toInt = 20 then f_isDropped_J70 S else (if (qI S 78 x1.toInt.toNat).toInt = 22 then f_isDropped_J70 S else f_isDropped_J74 S)) else f_isDropped_J74 S))
def d_isDropped (S : MS) (x1 : Int32) (x2 : Int32) : Prop := (((0 : Int) ≤ x1.toInt ∧ x1.toInt < 1200) ∧ (((0 : Int) ≤ x2.toInt ∧ x2.toInt < 1200) ∧ (if (qI S 78 x2.toInt.toNat).toInt = 87 then (if (qI S 78 x1.toInt.toNat).toInt = 18 then d_isDropped_J41 S else (if (qI S 78 x1.toInt.toNat).toInt = 1 then d_isDropped_J41 S else (if (qI S 78 x1.toInt.toNat).toInt = 21 then d_isDropped_J41 S else (if (qI S 78 x1.toInt.toNat).toInt = 25 then d_isDropped_J41 S else True)))) else (((0 : Int) ≤ x2.toInt ∧ x2.toInt < 1200) ∧ (if (qI S 78 x2.toInt.toNat).toInt = 88 then (if (qI S 78 x1.toInt.toNat).toInt = 20 then d_isDropped_J70 S else (if (qI S 78 x1.toInt.toNat).toInt = 22 then d_isDropped_J70 S else d_isDropped_J74 S)) else d_isDropped_J74 S)))))
set_option maxHeartbeats 2000000 in
set_option maxRecDepth 100000 in
theorem r_isDropped (l : Launch) (g : Gr) (ad : Nat → Nat) (sz : Nat) (S : MS) (x1 : Int32) (x2 : Int32) (hw : wfM S) (hd : d_isDropped S x1 x2) : Met l yX14_isDropped (wt2 yX14_isDropped cX14_isDropped 4 (some .boolean)) ({ frames := 0, cells := 0, slots := 0, locals := 0 }) (va_Pc [.ref (ad 0), .int x1, .int x2] (st_R g ad sz S)) (va_Qi (fun (r : Int32) (_ : Unit) => r = f_isDropped S x1 x2 ∧ (r = 0 ∨ r = 1)) (fun (_ : Unit) (t : State) => qE g ad (va_A (Wd g ad S) sz) S t) (va_A (Wd g ad S) sz)) 0 0 (va_A (Wd g ad S) sz) := by
  refine Met.ofW (cc := cX14_isDropped) (maxL := 4) (ret := (some .boolean)) (by decide) rfl ?_
  intro p e s m args below meth c s₁ B hml hv
  obtain ⟨rfl, hsz, hP, hK, hD0, hex, hE⟩ := hv
  have hx := B.exec
  have hb := B.bytes
  have hr := B.returns
  have hts0 := atoms_spec (ws := wt2 yX14_isDropped cX14_isDropped 4 (some .boolean)) B.pre
  have hts : ∀ w ∈ tb2, w.before _ s = true := fun w h => hts0 w (List.mem_cons_of_mem _ h)
  have hown : s.vm.findClass RX14 = some m.cls := findClass_of_methodNamed B.named
  subst hsz
  have hD := hD0.self (sz := s.heap.size)
  generalize hAe : va_A (Wd g ad S) s.heap.size = A at hD hE ⊢
  have hA : ∀ q : Nat, s.heap.size ≤ q → A q := fun q h => by rw [← hAe]; exact Or.inr h
  have hR : Rep g ad A s S s.heap [] := ⟨hK, hP, hD, va_S.rf, hw⟩
  clear hK hP hD hD0
  have hl := lv_entry ([.ref (ad 0), .int x1, .int x2]) (n := 4) (Nat.le_of_ble_eq_true rfl)
  rw [lg_entry_eq]
  generalize (lg_sl ([.ref (ad 0), .int x1, .int x2]) ++ List.replicate (4 - (lg_sl ([.ref (ad 0), .int x1, .int x2])).length) Slot.unset).toArray = ls at hl ⊢
  have hl : lv_has ls 4 [(0, .ref (ad 0)), (1, .int x1), (2, .int x2)] := hl
  obtain ⟨r0, hf⟩ : ∃ r0, f_isDropped S x1 x2 = r0 := ⟨_, rfl⟩
  have hf0 := hf
  unfold f_isDropped at hf
  unfold d_isDropped at hd
  refine lv_aload_n hx hb dX14_isDropped_0 rfl (lv_at hl 0 rfl) ?_
  refine va_get (D := rD g) (ci := 13) (v := .ref (ad 78)) (C := RX14) (T := TX14) (N := 143) hx hb hts in2X14 hown hR.K hR.P 0 (hR.at14 hR.w.1) rfl 125 (by decide) (hts _ kx_697) (fun _ h9 => h9) (congrArg (fun z => some (vf ad z)) (hR.w.2.1 _ fin_125).1) dX14_isDropped_1 ?_
  refine lv_iload_n hx hb dX14_isDropped_4 rfl (lv_at hl 1 rfl) ?_
  obtain ⟨hv1, hd⟩ := hd
  refine va_iald hx hb hR.K hR.P 78 1 (hR.atI (hR.w.2.1 _ fin_125).2.1) rfl (k_ixN (k_ix (n := 1200) (x := x1) (a := x1.toInt) rfl hv1) (hR.w.2.1 _ fin_125).2.2) dX14_isDropped_5 ?_
  refine lv_topi (fun z2 ez2 => ?_)
  obtain rfl : z2 = (qI S 78 x1.toInt.toNat) := ez2
  refine lv_istore_n (lv' := [(3, .int (qI S 78 x1.toInt.toNat)), (0, .ref (ad 0)), (1, .int x1), (2, .int x2)]) hx hb dX14_isDropped_6 rfl hl (by decide) rfl (fun ls hl => ?_)
  refine lv_aload_n hx hb dX14_isDropped_7 rfl (lv_at hl 1 rfl) ?_
  refine va_get (D := rD g) (ci := 13) (v := .ref (ad 78)) (C := RX14) (T := TX14) (N := 143) hx hb hts in2X14 hown hR.K hR.P 0 (hR.at14 hR.w.1) rfl 125 (by decide) (hts _ kx_697) (fun _ h9 => h9) (congrArg (fun z => some (vf ad z)) (hR.w.2.1 _ fin_125).1) dX14_isDropped_8 ?_
  refine lv_iload_n hx hb dX14_isDropped_11 rfl (lv_at hl 3 rfl) ?_
  obtain ⟨hv3, hd⟩ := hd
  refine va_iald hx hb hR.K hR.P 78 1 (hR.atI (hR.w.2.1 _ fin_125).2.1) rfl (k_ixN (k_ix (n := 1200) (x := x2) (a := x2.toInt) rfl hv3) (hR.w.2.1 _ fin_125).2.2) dX14_isDropped_12 ?_
  refine lv_topi (fun z4 ez4 => ?_)
  obtain rfl : z4 = (qI S 78 x2.toInt.toNat) := ez4
  refine lv_bipush (v := 87) hx hb dX14_isDropped_13 (by decide) ?_
  refine lv_icmp_ne (tgt := 47) hx hb dX14_isDropped_15 (by decide) (fun c5 => ?_) (fun c5 => ?_)
  · rw [if_neg (k_ne rfl (by decide) c5)] at hf
    (try rw [if_neg (k_ne rfl (by decide) c5)] at hd)
    refine lv_aload_n hx hb dX14_isDropped_47 rfl (lv_at hl 1 rfl) ?_
    refine va_get (D := rD g) (ci := 13) (v := .ref (ad 78)) (C := RX14) (T := TX14) (N := 143) hx hb hts in2X14 hown hR.K hR.P 0 (hR.at14 hR.w.1) rfl 125 (by decide) (hts _ kx_697) (fun _ h9 => h9) (congrArg (fun z => some (vf ad z)) (hR.w.2.1 _ fin_125).1) dX14_isDropped_48 ?_
    refine lv_iload_n hx hb dX14_isDropped_51 rfl (lv_at hl 3 rfl) ?_
    obtain ⟨hv6, hd⟩ := hd
    refine va_iald hx hb hR.K hR.P 78 1 (hR.atI (hR.w.2.1 _ fin_125).2.1) rfl (k_ixN (k_ix (n := 1200) (x := x2) (a := x2.toInt) rfl hv6) (hR.w.2.1 _ fin_125).2.2) dX14_isDropped_52 ?_
    refine lv_topi (fun z7 ez7 => ?_)
    obtain rfl : z7 = (qI S 78 x2.toInt.toNat) := ez7
    refine lv_bipush (v := 88) hx hb dX14_isDropped_53 (by decide) ?_
    have J_74 : ∀ (H : Heap) (locs : List Loc) (ls : Array Slot), d_isDropped_J74 S → f_isDropped_J74 S = r0 → Rep g ad A s S H locs → lv_has ls 4 [] → W p l e (headSpec (wt2 yX14_isDropped cX14_isDropped 4 (some .boolean)) ({ frames := 0, cells := 0, slots := 0, locals := 0 })).room s m ([.ref (ad 0), .int x1, .int x2] : List Value).toArray below meth c H locs 0 0 (MQ below (va_Qi (fun (r : Int32) (_ : Unit) => r = f_isDropped S x1 x2 ∧ (r = 0 ∨ r = 1)) (fun (_ : Unit) (t : State) => qE g ad A S t) A) ([.ref (ad 0), .int x1, .int x2] : List Value).toArray s 0 0 A) (F0 m 74 ls []) := by
      intro H locs ls hd hf hR hl
      unfold d_isDropped_J74 at hd
      unfold f_isDropped_J74 at hf
      refine lv_iconst (v := 0) hx hb dX14_isDropped_74 (by decide) ?_
      exact W.zret (v := 0) hx hb hr (nz (Or.inl rfl)) (fun t9 ht9 hW9 => ⟨⟨_, (), rfl, ⟨hf.trans hf0.symm, (Or.inl rfl)⟩, ⟨by rw [ht9]; exact hR.P, hR.D⟩⟩, hR.sS.F ht9⟩) hR.sS.2.2 dX14_isDropped_75
    refine lv_icmp_ne (tgt := 74) hx hb dX14_isDropped_55 (by decide) (fun c8 => ?_) (fun c8 => ?_)
    · rw [if_neg (k_ne rfl (by decide) c8)] at hf
      (try rw [if_neg (k_ne rfl (by decide) c8)] at hd)
      exact J_74 _ _ ls hd hf  hR (lv_sub hl [] rfl)
    · rw [if_pos (k_eq rfl (by decide) c8)] at hf
      (try rw [if_pos (k_eq rfl (by decide) c8)] at hd)
      refine lv_iload_n hx hb dX14_isDropped_58 rfl (lv_at hl 0 rfl) ?_
      refine lv_bipush (v := 20) hx hb dX14_isDropped_59 (by decide) ?_
      have J_70 : ∀ (H : Heap) (locs : List Loc) (ls : Array Slot), d_isDropped_J70 S → f_isDropped_J70 S = r0 → Rep g ad A s S H locs → lv_has ls 4 [] → W p l e (headSpec (wt2 yX14_isDropped cX14_isDropped 4 (some .boolean)) ({ frames := 0, cells := 0, slots := 0, locals := 0 })).room s m ([.ref (ad 0), .int x1, .int x2] : List Value).toArray below meth c H locs 0 0 (MQ below (va_Qi (fun (r : Int32) (_ : Unit) => r = f_isDropped S x1 x2 ∧ (r = 0 ∨ r = 1)) (fun (_ : Unit) (t : State) => qE g ad A S t) A) ([.ref (ad 0), .int x1, .int x2] : List Value).toArray s 0 0 A) (F0 m 70 ls []) := by
        intro H locs ls hd hf hR hl
        unfold d_isDropped_J70 at hd
        unfold f_isDropped_J70 at hf
        refine lv_iconst (v := 1) hx hb dX14_isDropped_70 (by decide) ?_
        refine lv_goto (tgt := 75) hx hb dX14_isDropped_71 (by decide) ?_
        exact W.zret (v := 1) hx hb hr (nz (Or.inr rfl)) (fun t9 ht9 hW9 => ⟨⟨_, (), rfl, ⟨hf.trans hf0.symm, (Or.inr rfl)⟩, ⟨by rw [ht9]; exact hR.P, hR.D⟩⟩, hR.sS.F ht9⟩) hR.sS.2.2 dX14_isDropped_75
      refine lv_icmp_eq (tgt := 70) hx hb dX14_isDropped_61 (by decide) (fun c9 => ?_) (fun c9 => ?_)
      · rw [if_pos (k_eq rfl (by decide) c9)] at hf
        (try rw [if_pos (k_eq rfl (by decide) c9)] at hd)
        exact J_70 _ _ ls hd hf  hR (lv_sub hl [] rfl)
      · rw [if_neg (k_ne rfl (by decide) c9)] at hf
        (try rw [if_neg (k_ne rfl (by decide) c9)] at hd)
        refine lv_iload_n hx hb dX14_isDropped_64 rfl (lv_at hl 0 rfl) ?_
        refine lv_bipush (v := 22) hx hb dX14_isDropped_65 (by decide) ?_
        refine lv_icmp_ne (tgt := 74) hx hb dX14_isDropped_67 (by decide) (fun c10 => ?_) (fun c10 => ?_)
        · rw [if_neg (k_ne rfl (by decide) c10)] at hf
          (try rw [if_neg (k_ne rfl (by decide) c10)] at hd)
          exact J_74 _ _ ls hd hf  hR (lv_sub hl [] rfl)
        · rw [if_pos (k_eq rfl (by decide) c10)] at hf
          (try rw [if_pos (k_eq rfl (by decide) c10)] at hd)
          exact J_70 _ _ ls hd hf  hR (lv_sub hl [] rfl)
  · rw [if_pos (k_eq rfl (by decide) c5)] at hf
    (try rw [if_pos (k_eq rfl (by decide) c5)] at hd)
    refine lv_iload_n hx hb dX14_isDropped_18 rfl (lv_at hl 0 rfl) ?_
    refine lv_bipush (v := 18) hx hb dX14_isDropped_19 (by decide) ?_
    have J_41 : ∀ (H : Heap) (locs : List Loc) (ls : Array Slot), d_isDropped_J41 S → f_isDropped_J41 S = r0 → Rep g ad A s S H locs → lv_has ls 4 [] → W p l e (headSpec (wt2 yX14_isDropped cX14_isDropped 4 (some .boolean)) ({ frames := 0, cells := 0, slots := 0, locals := 0 })).room s m ([.ref (ad 0), .int x1, .int x2] : List Value).toArray below meth c H locs 0 0 (MQ below (va_Qi (fun (r : Int32) (_ : Unit) => r = f_isDropped S x1 x2 ∧ (r = 0 ∨ r = 1)) (fun (_ : Unit) (t : State) => qE g ad A S t) A) ([.ref (ad 0), .int x1, .int x2] : List Value).toArray s 0 0 A) (F0 m 41 ls []) := by
      intro H locs ls hd hf hR hl
      unfold d_isDropped_J41 at hd
      unfold f_isDropped_J41 at hf
      refine lv_iconst (v := 1) hx hb dX14_isDropped_41 (by decide) ?_
      refine lv_goto (tgt := 46) hx hb dX14_isDropped_42 (by decide) ?_
      exact W.zret (v := 1) hx hb hr (nz (Or.inr rfl)) (fun t9 ht9 hW9 => ⟨⟨_, (), rfl, ⟨hf.trans hf0.symm, (Or.inr rfl)⟩, ⟨by rw [ht9]; exact hR.P, hR.D⟩⟩, hR.sS.F ht9⟩) hR.sS.2.2 dX14_isDropped_46
    refine lv_icmp_eq (tgt := 41) hx hb dX14_isDropped_21 (by decide) (fun c11 => ?_) (fun c11 => ?_)
    · rw [if_pos (k_eq rfl (by decide) c11)] at hf
      (try rw [if_pos (k_eq rfl (by decide) c11)] at hd)
      exact J_41 _ _ ls hd hf  hR (lv_sub hl [] rfl)
    · rw [if_neg (k_ne rfl (by decide) c11)] at hf
      (try rw [if_neg (k_ne rfl (by decide) c11)] at hd)
      refine lv_iload_n hx hb dX14_isDropped_24 rfl (lv_at hl 0 rfl) ?_
      refine lv_iconst (v := 1) hx hb dX14_isDropped_25 (by decide) ?_
      refine lv_icmp_eq (tgt := 41) hx hb dX14_isDropped_26 (by decide) (fun c12 => ?_) (fun c12 => ?_)
      · rw [if_pos (k_eq rfl (by decide) c12)] at hf
        (try rw [if_pos (k_eq rfl (by decide) c12)] at hd)
        exact J_41 _ _ ls hd hf  hR (lv_sub hl [] rfl)
      · rw [if_neg (k_ne rfl (by decide) c12)] at hf
        (try rw [if_neg (k_ne rfl (by decide) c12)] at hd)
        refine lv_iload_n hx hb dX14_isDropped_29 rfl (lv_at hl 0 rfl) ?_
        refine lv_bipush (v := 21) hx hb dX14_isDropped_30 (by decide) ?_
        refine lv_icmp_eq (tgt := 41) hx hb dX14_isDropped_32 (by decide) (fun c13 => ?_) (fun c13 => ?_)
        · rw [if_pos (k_eq rfl (by decide) c13)] at hf
          (try rw [if_pos (k_eq rfl (by decide) c13)] at hd)
          exact J_41 _ _ ls hd hf  hR (lv_sub hl [] rfl)
        · rw [if_neg (k_ne rfl (by decide) c13)] at hf
          (try rw [if_neg (k_ne rfl (by decide) c13)] at hd)
          refine lv_iload_n hx hb dX14_isDropped_35 rfl (lv_at hl 0 rfl) ?_
          refine lv_bipush (v := 25) hx hb dX14_isDropped_36 (by decide) ?_
          refine lv_icmp_ne (tgt := 45) hx hb dX14_isDropped_38 (by decide) (fun c14 => ?_) (fun c14 => ?_)
          · rw [if_neg (k_ne rfl (by decide) c14)] at hf
            (try rw [if_neg (k_ne rfl (by decide) c14)] at hd)
            refine lv_iconst (v := 0) hx hb dX14_isDropped_45 (by decide) ?_
            exact W.zret (v := 0) hx hb hr (nz (Or.inl rfl)) (fun t9 ht9 hW9 => ⟨⟨_, (), rfl, ⟨hf.trans hf0.symm, (Or.inl rfl)⟩, ⟨by rw [ht9]; exact hR.P, hR.D⟩⟩, hR.sS.F ht9⟩) hR.sS.2.2 dX14_isDropped_46
          · rw [if_pos (k_eq rfl (by decide) c14)] at hf
            (try rw [if_pos (k_eq rfl (by decide) c14)] at hd)
            exact J_41 _ _ ls hd hf  hR (lv_sub hl [] rfl)
def f_bitsOf_J12 (S : MS) (v12_1 : Int32) : Int32 := ((3 : Int32) <<< (v12_1 &&& 31))
def d_bitsOf_J12 (S : MS) (v12_1 : Int32) : Prop := True
def f_bitsOf (S : MS) (x0 : Int32) (x1 : Int32) : Int32 := (if x0.toInt = 22 then f_bitsOf_J12 S x1 else (if x0.toInt = 55 then f_bitsOf_J12 S x1 else ((1 : Int32) <<< (x1 &&& 31))))
def d_bitsOf (S : MS) (x0 : Int32) (x1 : Int32) : Prop := (if x0.toInt = 22 then d_bitsOf_J12 S x1 else (if x0.toInt = 55 then d_bitsOf_J12 S x1 else True))
set_option maxHeartbeats 2000000 in
set_option maxRecDepth 100000 in
theorem r_bitsOf (l : Launch) (g : Gr) (ad : Nat → Nat) (sz : Nat) (S : MS) (x0 : Int32) (x1 : Int32) (hw : wfM S) (hd : d_bitsOf S x0 x1) : Met l yX14_bitsOf (wt2 yX14_bitsOf cX14_bitsOf 2 (some .int)) ({ frames := 0, cells := 0, slots := 0, locals := 0 }) (va_Pc [.int x0, .int x1] (st_R g ad sz S)) (va_Qi (fun (r : Int32) (_ : Unit) => r = f_bitsOf S x0 x1) (fun (_ : Unit) (t : State) => qE g ad (va_A (Wd g ad S) sz) S t) (va_A (Wd g ad S) sz)) 0 0 (va_A (Wd g ad S) sz) := by
  refine Met.ofW (cc := cX14_bitsOf) (maxL := 2) (ret := (some .int)) (by decide) rfl ?_
  intro p e s m args below meth c s₁ B hml hv
  obtain ⟨rfl, hsz, hP, hK, hD0, hex, hE⟩ := hv
  have hx := B.exec
  have hb := B.bytes
  have hr := B.returns
  have hts0 := atoms_spec (ws := wt2 yX14_bitsOf cX14_bitsOf 2 (some .int)) B.pre
  have hts : ∀ w ∈ tb2, w.before _ s = true := fun w h => hts0 w (List.mem_cons_of_mem _ h)
  have hown : s.vm.findClass RX14 = some m.cls := findClass_of_methodNamed B.named
  subst hsz
  have hD := hD0.self (sz := s.heap.size)
  generalize hAe : va_A (Wd g ad S) s.heap.size = A at hD hE ⊢
  have hA : ∀ q : Nat, s.heap.size ≤ q → A q := fun q h => by rw [← hAe]; exact Or.inr h
  have hR : Rep g ad A s S s.heap [] := ⟨hK, hP, hD, va_S.rf, hw⟩
  clear hK hP hD hD0
  have hl := lv_entry ([.int x0, .int x1]) (n := 2) (Nat.le_of_ble_eq_true rfl)
  rw [lg_entry_eq]
  generalize (lg_sl ([.int x0, .int x1]) ++ List.replicate (2 - (lg_sl ([.int x0, .int x1])).length) Slot.unset).toArray = ls at hl ⊢
  have hl : lv_has ls 2 [(0, .int x0), (1, .int x1)] := hl
  obtain ⟨r0, hf⟩ : ∃ r0, f_bitsOf S x0 x1 = r0 := ⟨_, rfl⟩
  have hf0 := hf
  unfold f_bitsOf at hf
  unfold d_bitsOf at hd
  refine lv_iload_n hx hb dX14_bitsOf_0 rfl (lv_at hl 0 rfl) ?_
  refine lv_bipush (v := 22) hx hb dX14_bitsOf_1 (by decide) ?_
  have J_12 : ∀ (v12_1 : Int32) (H : Heap) (locs : List Loc) (ls : Array Slot), d_bitsOf_J12 S v12_1 → f_bitsOf_J12 S v12_1 = r0 → Rep g ad A s S H locs → lv_has ls 2 [(1, .int v12_1)] → W p l e (headSpec (wt2 yX14_bitsOf cX14_bitsOf 2 (some .int)) ({ frames := 0, cells := 0, slots := 0, locals := 0 })).room s m ([.int x0, .int x1] : List Value).toArray below meth c H locs 0 0 (MQ below (va_Qi (fun (r : Int32) (_ : Unit) => r = f_bitsOf S x0 x1) (fun (_ : Unit) (t : State) => qE g ad A S t) A) ([.int x0, .int x1] : List Value).toArray s 0 0 A) (F0 m 12 ls []) := by
    intro v12_1 H locs ls hd hf hR hl
    unfold d_bitsOf_J12 at hd
    unfold f_bitsOf_J12 at hf
    refine lv_iconst (v := 3) hx hb dX14_bitsOf_12 (by decide) ?_
    refine lv_iload_n hx hb dX14_bitsOf_13 rfl (lv_at hl 0 rfl) ?_
    refine lv_ishl hx hb dX14_bitsOf_14 ?_
    refine lv_topi (fun z1 ez1 => ?_)
    obtain rfl : z1 = ((3 : Int32) <<< (v12_1 &&& 31)) := ez1
    refine lv_goto (tgt := 21) hx hb dX14_bitsOf_15 (by decide) ?_
    exact W.iret (v := ((3 : Int32) <<< (v12_1 &&& 31))) hx hb hr (fun t9 ht9 hW9 => ⟨⟨_, (), rfl, hf.trans hf0.symm, ⟨by rw [ht9]; exact hR.P, hR.D⟩⟩, hR.sS.F ht9⟩) hR.sS.2.2 dX14_bitsOf_21
  refine lv_icmp_eq (tgt := 12) hx hb dX14_bitsOf_3 (by decide) (fun c2 => ?_) (fun c2 => ?_)
  · rw [if_pos (k_eq rfl (by decide) c2)] at hf
    (try rw [if_pos (k_eq rfl (by decide) c2)] at hd)
    exact J_12 x1 _ _ ls hd hf  hR (lv_sub hl [1] rfl)
  · rw [if_neg (k_ne rfl (by decide) c2)] at hf
    (try rw [if_neg (k_ne rfl (by decide) c2)] at hd)
    refine lv_iload_n hx hb dX14_bitsOf_6 rfl (lv_at hl 0 rfl) ?_
    refine lv_bipush (v := 55) hx hb dX14_bitsOf_7 (by decide) ?_
    refine lv_icmp_ne (tgt := 18) hx hb dX14_bitsOf_9 (by decide) (fun c3 => ?_) (fun c3 => ?_)
    · rw [if_neg (k_ne rfl (by decide) c3)] at hf
      (try rw [if_neg (k_ne rfl (by decide) c3)] at hd)
      refine lv_iconst (v := 1) hx hb dX14_bitsOf_18 (by decide) ?_
      refine lv_iload_n hx hb dX14_bitsOf_19 rfl (lv_at hl 1 rfl) ?_
      refine lv_ishl hx hb dX14_bitsOf_20 ?_
      refine lv_topi (fun z4 ez4 => ?_)
      obtain rfl : z4 = ((1 : Int32) <<< (x1 &&& 31)) := ez4
      exact W.iret (v := ((1 : Int32) <<< (x1 &&& 31))) hx hb hr (fun t9 ht9 hW9 => ⟨⟨_, (), rfl, hf.trans hf0.symm, ⟨by rw [ht9]; exact hR.P, hR.D⟩⟩, hR.sS.F ht9⟩) hR.sS.2.2 dX14_bitsOf_21
    · rw [if_pos (k_eq rfl (by decide) c3)] at hf
      (try rw [if_pos (k_eq rfl (by decide) c3)] at hd)
      exact J_12 x1 _ _ ls hd hf  hR (lv_sub hl [1] rfl)
def f_isLoad_J18 (S : MS) : Int32 := (1 : Int32)
def d_isLoad_J18 (S : MS) : Prop := True
def f_isLoad (S : MS) (x0 : Int32) : Int32 := (if x0.toInt = 21 then f_isLoad_J18 S else (if x0.toInt = 22 then f_isLoad_J18 S else (if x0.toInt = 25 then f_isLoad_J18 S else (0 : Int32))))
def d_isLoad (S : MS) (x0 : Int32) : Prop := (if x0.toInt = 21 then d_isLoad_J18 S else (if x0.toInt = 22 then d_isLoad_J18 S else (if x0.toInt = 25 then d_isLoad_J18 S else True)))
set_option maxHeartbeats 2000000 in
set_option maxRecDepth 100000 in
theorem r_isLoad (l : Launch) (g : Gr) (ad : Nat → Nat) (sz : Nat) (S : MS) (x0 : Int32) (hw : wfM S) (hd : d_isLoad S x0) : Met l yX14_isLoad (wt2 yX14_isLoad cX14_isLoad 1 (some .boolean)) ({ frames := 0, cells := 0, slots := 0, locals := 0 }) (va_Pc [.int x0] (st_R g ad sz S)) (va_Qi (fun (r : Int32) (_ : Unit) => r = f_isLoad S x0 ∧ (r = 0 ∨ r = 1)) (fun (_ : Unit) (t : State) => qE g ad (va_A (Wd g ad S) sz) S t) (va_A (Wd g ad S) sz)) 0 0 (va_A (Wd g ad S) sz) := by
  refine Met.ofW (cc := cX14_isLoad) (maxL := 1) (ret := (some .boolean)) (by decide) rfl ?_
  intro p e s m args below meth c s₁ B hml hv
  obtain ⟨rfl, hsz, hP, hK, hD0, hex, hE⟩ := hv
  have hx := B.exec
  have hb := B.bytes
  have hr := B.returns
  have hts0 := atoms_spec (ws := wt2 yX14_isLoad cX14_isLoad 1 (some .boolean)) B.pre
  have hts : ∀ w ∈ tb2, w.before _ s = true := fun w h => hts0 w (List.mem_cons_of_mem _ h)
  have hown : s.vm.findClass RX14 = some m.cls := findClass_of_methodNamed B.named
  subst hsz
  have hD := hD0.self (sz := s.heap.size)
  generalize hAe : va_A (Wd g ad S) s.heap.size = A at hD hE ⊢
  have hA : ∀ q : Nat, s.heap.size ≤ q → A q := fun q h => by rw [← hAe]; exact Or.inr h
  have hR : Rep g ad A s S s.heap [] := ⟨hK, hP, hD, va_S.rf, hw⟩
  clear hK hP hD hD0
  have hl := lv_entry ([.int x0]) (n := 1) (Nat.le_of_ble_eq_true rfl)
  rw [lg_entry_eq]
  generalize (lg_sl ([.int x0]) ++ List.replicate (1 - (lg_sl ([.int x0])).length) Slot.unset).toArray = ls at hl ⊢
  have hl : lv_has ls 1 [(0, .int x0)] := hl
  obtain ⟨r0, hf⟩ : ∃ r0, f_isLoad S x0 = r0 := ⟨_, rfl⟩
  have hf0 := hf
  unfold f_isLoad at hf
  unfold d_isLoad at hd
  refine lv_iload_n hx hb dX14_isLoad_0 rfl (lv_at hl 0 rfl) ?_
  refine lv_bipush (v := 21) hx hb dX14_isLoad_1 (by decide) ?_
  have J_18 : ∀ (H : Heap) (locs : List Loc) (ls : Array Slot), d_isLoad_J18 S → f_isLoad_J18 S = r0 → Rep g ad A s S H locs → lv_has ls 1 [] → W p l e (headSpec (wt2 yX14_isLoad cX14_isLoad 1 (some .boolean)) ({ frames := 0, cells := 0, slots := 0, locals := 0 })).room s m ([.int x0] : List Value).toArray below meth c H locs 0 0 (MQ below (va_Qi (fun (r : Int32) (_ : Unit) => r = f_isLoad S x0 ∧ (r = 0 ∨ r = 1)) (fun (_ : Unit) (t : State) => qE g ad A S t) A) ([.int x0] : List Value).toArray s 0 0 A) (F0 m 18 ls []) := by
    intro H locs ls hd hf hR hl
    unfold d_isLoad_J18 at hd
    unfold f_isLoad_J18 at hf
    refine lv_iconst (v := 1) hx hb dX14_isLoad_18 (by decide) ?_
    refine lv_goto (tgt := 23) hx hb dX14_isLoad_19 (by decide) ?_
    exact W.zret (v := 1) hx hb hr (nz (Or.inr rfl)) (fun t9 ht9 hW9 => ⟨⟨_, (), rfl, ⟨hf.trans hf0.symm, (Or.inr rfl)⟩, ⟨by rw [ht9]; exact hR.P, hR.D⟩⟩, hR.sS.F ht9⟩) hR.sS.2.2 dX14_isLoad_23
  refine lv_icmp_eq (tgt := 18) hx hb dX14_isLoad_3 (by decide) (fun c1 => ?_) (fun c1 => ?_)
  · rw [if_pos (k_eq rfl (by decide) c1)] at hf
    (try rw [if_pos (k_eq rfl (by decide) c1)] at hd)
    exact J_18 _ _ ls hd hf  hR (lv_sub hl [] rfl)
  · rw [if_neg (k_ne rfl (by decide) c1)] at hf
    (try rw [if_neg (k_ne rfl (by decide) c1)] at hd)
    refine lv_iload_n hx hb dX14_isLoad_6 rfl (lv_at hl 0 rfl) ?_
    refine lv_bipush (v := 22) hx hb dX14_isLoad_7 (by decide) ?_
    refine lv_icmp_eq (tgt := 18) hx hb dX14_isLoad_9 (by decide) (fun c2 => ?_) (fun c2 => ?_)
    · rw [if_pos (k_eq rfl (by decide) c2)] at hf
      (try rw [if_pos (k_eq rfl (by decide) c2)] at hd)
      exact J_18 _ _ ls hd hf  hR (lv_sub hl [] rfl)
    · rw [if_neg (k_ne rfl (by decide) c2)] at hf
      (try rw [if_neg (k_ne rfl (by decide) c2)] at hd)
      refine lv_iload_n hx hb dX14_isLoad_12 rfl (lv_at hl 0 rfl) ?_
      refine lv_bipush (v := 25) hx hb dX14_isLoad_13 (by decide) ?_
      refine lv_icmp_ne (tgt := 22) hx hb dX14_isLoad_15 (by decide) (fun c3 => ?_) (fun c3 => ?_)
      · rw [if_neg (k_ne rfl (by decide) c3)] at hf
        (try rw [if_neg (k_ne rfl (by decide) c3)] at hd)
        refine lv_iconst (v := 0) hx hb dX14_isLoad_22 (by decide) ?_
        exact W.zret (v := 0) hx hb hr (nz (Or.inl rfl)) (fun t9 ht9 hW9 => ⟨⟨_, (), rfl, ⟨hf.trans hf0.symm, (Or.inl rfl)⟩, ⟨by rw [ht9]; exact hR.P, hR.D⟩⟩, hR.sS.F ht9⟩) hR.sS.2.2 dX14_isLoad_23
      · rw [if_pos (k_eq rfl (by decide) c3)] at hf
        (try rw [if_pos (k_eq rfl (by decide) c3)] at hd)
        exact J_18 _ _ ls hd hf  hR (lv_sub hl [] rfl)
def f_isStore_J18 (S : MS) : Int32 := (1 : Int32)
def d_isStore_J18 (S : MS) : Prop := True
def f_isStore (S : MS) (x0 : Int32) : Int32 := (if x0.toInt = 54 then f_isStore_J18 S else (if x0.toInt = 55 then f_isStore_J18 S else (if x0.toInt = 58 then f_isStore_J18 S else (0 : Int32))))
def d_isStore (S : MS) (x0 : Int32) : Prop := (if x0.toInt = 54 then d_isStore_J18 S else (if x0.toInt = 55 then d_isStore_J18 S else (if x0.toInt = 58 then d_isStore_J18 S else True)))
set_option maxHeartbeats 2000000 in
set_option maxRecDepth 100000 in
theorem r_isStore (l : Launch) (g : Gr) (ad : Nat → Nat) (sz : Nat) (S : MS) (x0 : Int32) (hw : wfM S) (hd : d_isStore S x0) : Met l yX14_isStore (wt2 yX14_isStore cX14_isStore 1 (some .boolean)) ({ frames := 0, cells := 0, slots := 0, locals := 0 }) (va_Pc [.int x0] (st_R g ad sz S)) (va_Qi (fun (r : Int32) (_ : Unit) => r = f_isStore S x0 ∧ (r = 0 ∨ r = 1)) (fun (_ : Unit) (t : State) => qE g ad (va_A (Wd g ad S) sz) S t) (va_A (Wd g ad S) sz)) 0 0 (va_A (Wd g ad S) sz) := by
  refine Met.ofW (cc := cX14_isStore) (maxL := 1) (ret := (some .boolean)) (by decide) rfl ?_
  intro p e s m args below meth c s₁ B hml hv
  obtain ⟨rfl, hsz, hP, hK, hD0, hex, hE⟩ := hv
  have hx := B.exec
  have hb := B.bytes
  have hr := B.returns
  have hts0 := atoms_spec (ws := wt2 yX14_isStore cX14_isStore 1 (some .boolean)) B.pre
  have hts : ∀ w ∈ tb2, w.before _ s = true := fun w h => hts0 w (List.mem_cons_of_mem _ h)
  have hown : s.vm.findClass RX14 = some m.cls := findClass_of_methodNamed B.named
  subst hsz
  have hD := hD0.self (sz := s.heap.size)
  generalize hAe : va_A (Wd g ad S) s.heap.size = A at hD hE ⊢
  have hA : ∀ q : Nat, s.heap.size ≤ q → A q := fun q h => by rw [← hAe]; exact Or.inr h
  have hR : Rep g ad A s S s.heap [] := ⟨hK, hP, hD, va_S.rf, hw⟩
  clear hK hP hD hD0
  have hl := lv_entry ([.int x0]) (n := 1) (Nat.le_of_ble_eq_true rfl)
  rw [lg_entry_eq]
  generalize (lg_sl ([.int x0]) ++ List.replicate (1 - (lg_sl ([.int x0])).length) Slot.unset).toArray = ls at hl ⊢
  have hl : lv_has ls 1 [(0, .int x0)] := hl
  obtain ⟨r0, hf⟩ : ∃ r0, f_isStore S x0 = r0 := ⟨_, rfl⟩
  have hf0 := hf
  unfold f_isStore at hf
  unfold d_isStore at hd
  refine lv_iload_n hx hb dX14_isStore_0 rfl (lv_at hl 0 rfl) ?_
  refine lv_bipush (v := 54) hx hb dX14_isStore_1 (by decide) ?_
  have J_18 : ∀ (H : Heap) (locs : List Loc) (ls : Array Slot), d_isStore_J18 S → f_isStore_J18 S = r0 → Rep g ad A s S H locs → lv_has ls 1 [] → W p l e (headSpec (wt2 yX14_isStore cX14_isStore 1 (some .boolean)) ({ frames := 0, cells := 0, slots := 0, locals := 0 })).room s m ([.int x0] : List Value).toArray below meth c H locs 0 0 (MQ below (va_Qi (fun (r : Int32) (_ : Unit) => r = f_isStore S x0 ∧ (r = 0 ∨ r = 1)) (fun (_ : Unit) (t : State) => qE g ad A S t) A) ([.int x0] : List Value).toArray s 0 0 A) (F0 m 18 ls []) := by
    intro H locs ls hd hf hR hl
    unfold d_isStore_J18 at hd
    unfold f_isStore_J18 at hf
    refine lv_iconst (v := 1) hx hb dX14_isStore_18 (by decide) ?_
    refine lv_goto (tgt := 23) hx hb dX14_isStore_19 (by decide) ?_
    exact W.zret (v := 1) hx hb hr (nz (Or.inr rfl)) (fun t9 ht9 hW9 => ⟨⟨_, (), rfl, ⟨hf.trans hf0.symm, (Or.inr rfl)⟩, ⟨by rw [ht9]; exact hR.P, hR.D⟩⟩, hR.sS.F ht9⟩) hR.sS.2.2 dX14_isStore_23
  refine lv_icmp_eq (tgt := 18) hx hb dX14_isStore_3 (by decide) (fun c1 => ?_) (fun c1 => ?_)
  · rw [if_pos (k_eq rfl (by decide) c1)] at hf
    (try rw [if_pos (k_eq rfl (by decide) c1)] at hd)
    exact J_18 _ _ ls hd hf  hR (lv_sub hl [] rfl)
  · rw [if_neg (k_ne rfl (by decide) c1)] at hf
    (try rw [if_neg (k_ne rfl (by decide) c1)] at hd)
    refine lv_iload_n hx hb dX14_isStore_6 rfl (lv_at hl 0 rfl) ?_
    refine lv_bipush (v := 55) hx hb dX14_isStore_7 (by decide) ?_
    refine lv_icmp_eq (tgt := 18) hx hb dX14_isStore_9 (by decide) (fun c2 => ?_) (fun c2 => ?_)
    · rw [if_pos (k_eq rfl (by decide) c2)] at hf
      (try rw [if_pos (k_eq rfl (by decide) c2)] at hd)
      exact J_18 _ _ ls hd hf  hR (lv_sub hl [] rfl)
    · rw [if_neg (k_ne rfl (by decide) c2)] at hf
      (try rw [if_neg (k_ne rfl (by decide) c2)] at hd)
      refine lv_iload_n hx hb dX14_isStore_12 rfl (lv_at hl 0 rfl) ?_
      refine lv_bipush (v := 58) hx hb dX14_isStore_13 (by decide) ?_
      refine lv_icmp_ne (tgt := 22) hx hb dX14_isStore_15 (by decide) (fun c3 => ?_) (fun c3 => ?_)
      · rw [if_neg (k_ne rfl (by decide) c3)] at hf
        (try rw [if_neg (k_ne rfl (by decide) c3)] at hd)
        refine lv_iconst (v := 0) hx hb dX14_isStore_22 (by decide) ?_
        exact W.zret (v := 0) hx hb hr (nz (Or.inl rfl)) (fun t9 ht9 hW9 => ⟨⟨_, (), rfl, ⟨hf.trans hf0.symm, (Or.inl rfl)⟩, ⟨by rw [ht9]; exact hR.P, hR.D⟩⟩, hR.sS.F ht9⟩) hR.sS.2.2 dX14_isStore_23
      · rw [if_pos (k_eq rfl (by decide) c3)] at hf
        (try rw [if_pos (k_eq rfl (by decide) c3)] at hd)
        exact J_18 _ _ ls hd hf  hR (lv_sub hl [] rfl)
def w_liveBehind_L41 (Q : Int32 → MS → Prop) : Nat → MS → Int32 → Int32 → Int32 → Prop
  | 0, _, _, _, _ => False
  | n41 + 1, U41, v41_1, v41_2, v41_3 => (d_waysOf U41 v41_1 ∧ (((f_waysOf U41 v41_1).toInt ≤ v41_3.toInt → Q v41_2 U41) ∧ (¬ (f_waysOf U41 v41_1).toInt ≤ v41_3.toInt → (∃ Q10, w_wayOf U41 v41_1 v41_3 Q10 ∧ ∀ r11 S12, Q10 r11 S12 → (((0 : Int) ≤ r11.toInt ∧ r11.toInt < 1200) ∧ (∀ a17 : Int32, a17 = (v41_2 ||| (qI S12 90 r11.toInt.toNat)) → (∀ a18 : Int32, a18 = (v41_3 + Int32.ofInt 1) → (w_liveBehind_L41 Q n41) S12 v41_1 a17 a18)))))))
def w_liveBehind_J38 (Q : Int32 → MS → Prop) (U38 : MS) (t38_0 : Int32) (v38_1 : Int32) : Prop := (∃ n, w_liveBehind_L41 Q n U38 v38_1 t38_0 0)
def w_liveBehind_J37 (Q : Int32 → MS → Prop) (U37 : MS) (v37_1 : Int32) : Prop := w_liveBehind_J38 Q U37 0 v37_1
def w_liveBehind (S : MS) (x1 : Int32) (Q : Int32 → MS → Prop) : Prop := (((0 : Int) ≤ x1.toInt ∧ x1.toInt < 1200) ∧ (d_goesOn S (qI S 78 x1.toInt.toNat) ∧ (((f_goesOn S (qI S 78 x1.toInt.toNat)).toInt = 0 → w_liveBehind_J37 Q S x1) ∧ (¬ (f_goesOn S (qI S 78 x1.toInt.toNat)).toInt = 0 → (∃ Q20, w_behind S x1 Q20 ∧ ∀ r21 S22, Q20 r21 S22 → (((qI S22 0 129).toInt ≤ r21.toInt → w_liveBehind_J37 Q S22 x1) ∧ (¬ (qI S22 0 129).toInt ≤ r21.toInt → (∃ Q25, w_behind S22 x1 Q25 ∧ ∀ r26 S27, Q25 r26 S27 → (((0 : Int) ≤ r26.toInt ∧ r26.toInt < 1200) ∧ w_liveBehind_J38 Q S27 (qI S27 90 r26.toInt.toNat) x1)))))))))
set_option maxHeartbeats 2000000 in
set_option maxRecDepth 100000 in
theorem r_liveBehind (l : Launch) (g : Gr) (ad : Nat → Nat) (sz : Nat) (S : MS) (x1 : Int32) (hw : wfM S) (Q : Int32 → MS → Prop) (h : w_liveBehind S x1 Q) : Met l yX14_liveBehind (wt2 yX14_liveBehind cX14_liveBehind 4 (some .int)) ({ frames := 2, cells := 0, slots := 0, locals := 44 }) (va_Pc [.ref (ad 0), .int x1] (st_R g ad sz S)) (va_Qi (fun (r : Int32) (u : MS) => Q r u ∧ wfM u ∧ shy S u) (fun (u : MS) (t : State) => qE g ad (va_A (Wd g ad S) sz) u t) (va_A (Wd g ad S) sz)) 0 0 (va_A (Wd g ad S) sz) := by
  refine Met.ofW (cc := cX14_liveBehind) (maxL := 4) (ret := (some .int)) (by decide) rfl ?_
  intro p e s m args below meth c s₁ B hml hv
  obtain ⟨rfl, hsz, hP, hK, hD0, hex, hE⟩ := hv
  have hx := B.exec
  have hb := B.bytes
  have hr := B.returns
  have hts0 := atoms_spec (ws := wt2 yX14_liveBehind cX14_liveBehind 4 (some .int)) B.pre
  have hts : ∀ w ∈ tb2, w.before _ s = true := fun w h => hts0 w (List.mem_cons_of_mem _ h)
  have hown : s.vm.findClass RX14 = some m.cls := findClass_of_methodNamed B.named
  subst hsz
  have hD := hD0.self (sz := s.heap.size)
  generalize hAe : va_A (Wd g ad S) s.heap.size = A at hD hE ⊢
  have hA : ∀ q : Nat, s.heap.size ≤ q → A q := fun q h => by rw [← hAe]; exact Or.inr h
  have hR : Rep g ad A s S s.heap [] := ⟨hK, hP, hD, va_S.rf, hw⟩
  clear hK hP hD hD0
  have hl := lv_entry ([.ref (ad 0), .int x1]) (n := 4) (Nat.le_of_ble_eq_true rfl)
  rw [lg_entry_eq]
  generalize (lg_sl ([.ref (ad 0), .int x1]) ++ List.replicate (4 - (lg_sl ([.ref (ad 0), .int x1])).length) Slot.unset).toArray = ls at hl ⊢
  have hl : lv_has ls 4 [(0, .ref (ad 0)), (1, .int x1)] := hl
  have hsh : shy S S := shy.rf
  unfold w_liveBehind at h
  refine lv_aload_n hx hb dX14_liveBehind_0 rfl (lv_at hl 0 rfl) ?_
  refine va_get (D := rD g) (ci := 13) (v := .ref (ad 78)) (C := RX14) (T := TX14) (N := 143) hx hb hts in2X14 hown hR.K hR.P 0 (hR.at14 hR.w.1) rfl 125 (by decide) (hts _ kx_697) (fun _ h9 => h9) (congrArg (fun z => some (vf ad z)) (hR.w.2.1 _ fin_125).1) dX14_liveBehind_1 ?_
  refine lv_iload_n hx hb dX14_liveBehind_4 rfl (lv_at hl 1 rfl) ?_
  obtain ⟨hv1, h⟩ := h
  refine va_iald hx hb hR.K hR.P 78 1 (hR.atI (hR.w.2.1 _ fin_125).2.1) rfl (k_ixN (k_ix (n := 1200) (x := x1) (a := x1.toInt) rfl hv1) (hR.w.2.1 _ fin_125).2.2) dX14_liveBehind_5 ?_
  refine lv_topi (fun z2 ez2 => ?_)
  obtain rfl : z2 = (qI S 78 x1.toInt.toNat) := ez2
  obtain ⟨hv3, h⟩ := h
  have hFc := rfree hR hA
  refine va_calli (va_runS (As := [.int (qI S 78 x1.toInt.toNat)]) (rest := []) ⟨hx, hb, hml, hown, hts⟩ (r_goesOn l g ad s.heap.size S (qI S 78 x1.toInt.toNat) hR.w  hv3) (va_cwS 1 hts (gd2_S kx_428 kx_429 kx_177 kx_430) rfl rfl rfl (by decide +kernel) ⟨Nat.le_of_ble_eq_true rfl, Nat.le_of_ble_eq_true rfl⟩) ⟨rblind, fun U hU hW9 => rmk hU hW9 hR hex hE hFc⟩ rfl rfl hl.1 rfl (lv_room (Nat.le_of_ble_eq_true rfl)) dX14_liveBehind_6 ⟨Nat.le_of_ble_eq_true rfl, Nat.le_of_ble_eq_true rfl⟩) hR.sS (fun q _ h => hFc q h) hFc (fun r4 u9 t9 H1 locs ht9 hvm9 hw9 hB9 hz9 hk9 hS => ?_)
  have hR : Rep g ad A s S H1 locs := hR.call ht9 hB9 hR.w hS hFc
  obtain ⟨rfl, hz_r4⟩ := hw9
  clear hB9 hz9 hk9 hvm9 ht9 hS
  generalize H1 = H at hR ⊢
  have J_38 : ∀ (U38 : MS) (t38_0 : Int32) (v38_1 : Int32) (H : Heap) (locs : List Loc) (ls : Array Slot), w_liveBehind_J38 Q U38 t38_0 v38_1 → shy S U38 → Rep g ad A s U38 H locs → lv_has ls 4 [(0, .ref (ad 0)), (1, .int v38_1)] → W p l e (headSpec (wt2 yX14_liveBehind cX14_liveBehind 4 (some .int)) ({ frames := 2, cells := 0, slots := 0, locals := 44 })).room s m ([.ref (ad 0), .int x1] : List Value).toArray below meth c H locs 0 0 (MQ below (va_Qi (fun (r : Int32) (u : MS) => Q r u ∧ wfM u ∧ shy S u) (fun (u : MS) (t : State) => qE g ad A u t) A) ([.ref (ad 0), .int x1] : List Value).toArray s 0 0 A) (F0 m 38 ls [.int t38_0]) := by
    intro U38 t38_0 v38_1 H locs ls h hsh hR hl
    unfold w_liveBehind_J38 at h
    refine lv_istore_n (lv' := [(2, .int t38_0), (0, .ref (ad 0)), (1, .int v38_1)]) hx hb dX14_liveBehind_38 rfl hl (by decide) rfl (fun ls hl => ?_)
    refine lv_iconst (v := 0) hx hb dX14_liveBehind_39 (by decide) ?_
    refine lv_istore_n (lv' := [(3, .int 0), (2, .int t38_0), (0, .ref (ad 0)), (1, .int v38_1)]) hx hb dX14_liveBehind_40 rfl hl (by decide) rfl (fun ls hl => ?_)
    have J_41 : ∀ (n41 : Nat) (U41 : MS) (v41_1 : Int32) (v41_2 : Int32) (v41_3 : Int32) (H : Heap) (locs : List Loc) (ls : Array Slot), w_liveBehind_L41 Q n41 U41 v41_1 v41_2 v41_3 → shy S U41 → Rep g ad A s U41 H locs → lv_has ls 4 [(0, .ref (ad 0)), (1, .int v41_1), (2, .int v41_2), (3, .int v41_3)] → W p l e (headSpec (wt2 yX14_liveBehind cX14_liveBehind 4 (some .int)) ({ frames := 2, cells := 0, slots := 0, locals := 44 })).room s m ([.ref (ad 0), .int x1] : List Value).toArray below meth c H locs 0 0 (MQ below (va_Qi (fun (r : Int32) (u : MS) => Q r u ∧ wfM u ∧ shy S u) (fun (u : MS) (t : State) => qE g ad A u t) A) ([.ref (ad 0), .int x1] : List Value).toArray s 0 0 A) (F0 m 41 ls []) := by
      intro n41
      induction n41 with
      | zero => intro U41 v41_1 v41_2 v41_3 H locs ls h hsh hR hl; unfold w_liveBehind_L41 at h; exact h.elim
      | succ n41 ih_41 =>
        intro U41 v41_1 v41_2 v41_3 H locs ls h hsh hR hl
        unfold w_liveBehind_L41 at h
        refine lv_iload_n hx hb dX14_liveBehind_41 rfl (lv_at hl 3 rfl) ?_
        refine lv_aload_n hx hb dX14_liveBehind_42 rfl (lv_at hl 0 rfl) ?_
        refine lv_iload_n hx hb dX14_liveBehind_43 rfl (lv_at hl 1 rfl) ?_
        obtain ⟨hv6, h⟩ := h
        have hFc := rfree hR hA
        refine va_calli (va_runV (As := [.int v41_1]) (rest := [.int v41_3]) ⟨hx, hb, hml, hown, hts⟩ (r_waysOf l g ad H.size U41 v41_1 hR.w  hv6) (cwV 1 hts (gd2_V kx_707 kx_708 kx_709 kx_177 kx_710) rfl rfl rfl (by decide +kernel) ⟨Nat.le_of_ble_eq_true rfl, Nat.le_of_ble_eq_true rfl⟩) ⟨rblind, va_recv hR.K hR.P (ci := 13) (q0 := 0) rfl (hR.at14 hR.w.1), fun U hU hW9 => rmk hU hW9 hR hex hE hFc⟩ rfl rfl hl.1 rfl (lv_room (Nat.le_of_ble_eq_true rfl)) dX14_liveBehind_44 ⟨Nat.le_of_ble_eq_true rfl, Nat.le_of_ble_eq_true rfl⟩) hR.sS (fun q _ h => hFc q h) hFc (fun r7 u9 t9 H1 locs ht9 hvm9 hw9 hB9 hz9 hk9 hS => ?_)
        have hR : Rep g ad A s U41 H1 locs := hR.call ht9 hB9 hR.w hS hFc
        obtain rfl : r7 = (f_waysOf U41 v41_1) := hw9
        clear hB9 hz9 hk9 hvm9 ht9 hS
        generalize H1 = H at hR ⊢
        refine lv_icmp_ge (tgt := 70) hx hb dX14_liveBehind_47 (by decide) (fun c9 => ?_) (fun c9 => ?_)
        · replace h := h.1 (k_le rfl rfl c9)
          refine lv_iload_n hx hb dX14_liveBehind_70 rfl (lv_at hl 2 rfl) ?_
          exact W.iret (v := v41_2) hx hb hr (fun t9 ht9 hW9 => ⟨⟨_, U41, rfl, ⟨h, hR.w, hsh⟩, ⟨by rw [ht9]; exact hR.P, hR.D⟩⟩, hR.sS.F ht9⟩) hR.sS.2.2 dX14_liveBehind_71
        · replace h := h.2 (k_nle rfl rfl c9)
          refine lv_iload_n hx hb dX14_liveBehind_50 rfl (lv_at hl 2 rfl) ?_
          refine lv_aload_n hx hb dX14_liveBehind_51 rfl (lv_at hl 0 rfl) ?_
          refine va_get (D := rD g) (ci := 13) (v := .ref (ad 90)) (C := RX14) (T := TX14) (N := 143) hx hb hts in2X14 hown hR.K hR.P 0 (hR.at14 hR.w.1) rfl 140 (by decide) (hts _ kx_784) (fun _ h9 => h9) (congrArg (fun z => some (vf ad z)) (hR.w.2.1 _ fin_140).1) dX14_liveBehind_52 ?_
          refine lv_aload_n hx hb dX14_liveBehind_55 rfl (lv_at hl 0 rfl) ?_
          refine lv_iload_n hx hb dX14_liveBehind_56 rfl (lv_at hl 1 rfl) ?_
          refine lv_iload_n hx hb dX14_liveBehind_57 rfl (lv_at hl 3 rfl) ?_
          obtain ⟨Q10, h0, h⟩ := h
          have hFc := rfree hR hA
          refine va_calli (va_runV (As := [.int v41_1, .int v41_3]) (rest := [.ref (ad 90), .int v41_2]) ⟨hx, hb, hml, hown, hts⟩ (r_wayOf l g ad H.size U41 v41_1 v41_3 hR.w  Q10 h0) (cwV 2 hts (gd2_V kx_711 kx_712 kx_713 kx_177 kx_714) rfl rfl rfl (by decide +kernel) ⟨Nat.le_of_ble_eq_true rfl, Nat.le_of_ble_eq_true rfl⟩) ⟨rblind, va_recv hR.K hR.P (ci := 13) (q0 := 0) rfl (hR.at14 hR.w.1), fun U hU hW9 => rmk hU hW9 hR hex hE hFc⟩ rfl rfl hl.1 rfl (lv_room (Nat.le_of_ble_eq_true rfl)) dX14_liveBehind_58 ⟨Nat.le_of_ble_eq_true rfl, Nat.le_of_ble_eq_true rfl⟩) hR.sS (fun q _ h => hFc q h) hFc (fun r11 S12 t9 H1 locs ht9 hvm9 hw9 hB9 hz9 hk9 hS => ?_)
          obtain ⟨hq13, hw9, hs9⟩ := hw9
          have hR : Rep g ad A s S12 H1 locs := hR.call ht9 hB9 hw9 hS hFc
          have hsh := hsh.tr hs9
          replace h := h r11 S12 hq13
          clear hB9 hz9 hk9 hvm9 ht9 hw9 hs9 hS
          generalize H1 = H at hR ⊢
          obtain ⟨hv14, h⟩ := h
          refine va_iald hx hb hR.K hR.P 90 1 (hR.atI (hR.w.2.1 _ fin_140).2.1) rfl (k_ixN (k_ix (n := 1200) (x := r11) (a := r11.toInt) rfl hv14) (hR.w.2.1 _ fin_140).2.2) dX14_liveBehind_61 ?_
          refine lv_topi (fun z15 ez15 => ?_)
          obtain rfl : z15 = (qI S12 90 r11.toInt.toNat) := ez15
          refine lv_ior hx hb dX14_liveBehind_62 ?_
          refine lv_topi (fun z16 ez16 => ?_)
          obtain rfl : z16 = (v41_2 ||| (qI S12 90 r11.toInt.toNat)) := ez16
          obtain ⟨a17, ea17⟩ : ∃ z, z = (v41_2 ||| (qI S12 90 r11.toInt.toNat)) := ⟨_, rfl⟩
          rw [← ea17]
          replace h := h a17 ea17
          refine lv_istore_n (lv' := [(2, .int a17), (0, .ref (ad 0)), (1, .int v41_1), (3, .int v41_3)]) hx hb dX14_liveBehind_63 rfl hl (by decide) rfl (fun ls hl => ?_)
          obtain ⟨a18, ea18⟩ : ∃ z, z = (v41_3 + Int32.ofInt 1) := ⟨_, rfl⟩
          replace h := h a18 ea18
          refine lv_iinc (v := a18) (lv' := [(3, .int a18), (2, .int a17), (0, .ref (ad 0)), (1, .int v41_1)]) hx hb dX14_liveBehind_64 hl (k := 3) rfl ea18.symm (by decide) rfl (fun ls hl => ?_)
          refine lv_goto (tgt := 41) hx hb dX14_liveBehind_67 (by decide) ?_
          exact ih_41 S12 v41_1 a17 a18 _ _ ls h  hsh hR (lv_sub hl [2, 3, 1, 0] rfl)
    obtain ⟨n9, h⟩ := h
    exact J_41 n9 U38 v38_1 t38_0 0 _ _ ls h  hsh hR (lv_sub hl [2, 3, 1, 0] rfl)
  have J_37 : ∀ (U37 : MS) (v37_1 : Int32) (H : Heap) (locs : List Loc) (ls : Array Slot), w_liveBehind_J37 Q U37 v37_1 → shy S U37 → Rep g ad A s U37 H locs → lv_has ls 4 [(0, .ref (ad 0)), (1, .int v37_1)] → W p l e (headSpec (wt2 yX14_liveBehind cX14_liveBehind 4 (some .int)) ({ frames := 2, cells := 0, slots := 0, locals := 44 })).room s m ([.ref (ad 0), .int x1] : List Value).toArray below meth c H locs 0 0 (MQ below (va_Qi (fun (r : Int32) (u : MS) => Q r u ∧ wfM u ∧ shy S u) (fun (u : MS) (t : State) => qE g ad A u t) A) ([.ref (ad 0), .int x1] : List Value).toArray s 0 0 A) (F0 m 37 ls []) := by
    intro U37 v37_1 H locs ls h hsh hR hl
    unfold w_liveBehind_J37 at h
    refine lv_iconst (v := 0) hx hb dX14_liveBehind_37 (by decide) ?_
    exact J_38 U37 0 v37_1 _ _ ls h  hsh hR (lv_sub hl [0, 1] rfl)
  refine lv_if_eq (tgt := 37) hx hb dX14_liveBehind_9 (by decide) (fun c19 => ?_) (fun c19 => ?_)
  · replace h := h.1 (k_eq rfl (by decide) c19)
    exact J_37 S x1 _ _ ls h  hsh hR (lv_sub hl [0, 1] rfl)
  · replace h := h.2 (k_ne rfl (by decide) c19)
    refine lv_aload_n hx hb dX14_liveBehind_12 rfl (lv_at hl 0 rfl) ?_
    refine lv_iload_n hx hb dX14_liveBehind_13 rfl (lv_at hl 1 rfl) ?_
    obtain ⟨Q20, h0, h⟩ := h
    have hFc := rfree hR hA
    refine va_calli (va_runV (As := [.int x1]) (rest := []) ⟨hx, hb, hml, hown, hts⟩ (r_behind l g ad H.size S x1 hR.w  Q20 h0) (cwV 1 hts (gd2_V kx_724 kx_725 kx_726 kx_177 kx_727) rfl rfl rfl (by decide +kernel) ⟨Nat.le_of_ble_eq_true rfl, Nat.le_of_ble_eq_true rfl⟩) ⟨rblind, va_recv hR.K hR.P (ci := 13) (q0 := 0) rfl (hR.at14 hR.w.1), fun U hU hW9 => rmk hU hW9 hR hex hE hFc⟩ rfl rfl hl.1 rfl (lv_room (Nat.le_of_ble_eq_true rfl)) dX14_liveBehind_14 ⟨Nat.le_of_ble_eq_true rfl, Nat.le_of_ble_eq_true rfl⟩) hR.sS (fun q _ h => hFc q h) hFc (fun r21 S22 t9 H1 locs ht9 hvm9 hw9 hB9 hz9 hk9 hS => ?_)
    obtain ⟨hq23, hw9, hs9⟩ := hw9
    have hR : Rep g ad A s S22 H1 locs := hR.call ht9 hB9 hw9 hS hFc
    have hsh := hsh.tr hs9
    replace h := h r21 S22 hq23
    clear hB9 hz9 hk9 hvm9 ht9 hw9 hs9 hS
    generalize H1 = H at hR ⊢
    refine lv_aload_n hx hb dX14_liveBehind_17 rfl (lv_at hl 0 rfl) ?_
    refine va_get (D := rD g) (ci := 13) (v := .int (qI S22 0 129)) (C := RX14) (T := TX14) (N := 143) hx hb hts in2X14 hown hR.K hR.P 0 (hR.at14 hR.w.1) rfl 129 (by decide) (hts _ kx_691) (fun _ h9 => h9) rfl dX14_liveBehind_18 ?_
    refine lv_icmp_ge (tgt := 37) hx hb dX14_liveBehind_21 (by decide) (fun c24 => ?_) (fun c24 => ?_)
    · replace h := h.1 (k_le rfl rfl c24)
      exact J_37 S22 x1 _ _ ls h  hsh hR (lv_sub hl [0, 1] rfl)
    · replace h := h.2 (k_nle rfl rfl c24)
      refine lv_aload_n hx hb dX14_liveBehind_24 rfl (lv_at hl 0 rfl) ?_
      refine va_get (D := rD g) (ci := 13) (v := .ref (ad 90)) (C := RX14) (T := TX14) (N := 143) hx hb hts in2X14 hown hR.K hR.P 0 (hR.at14 hR.w.1) rfl 140 (by decide) (hts _ kx_784) (fun _ h9 => h9) (congrArg (fun z => some (vf ad z)) (hR.w.2.1 _ fin_140).1) dX14_liveBehind_25 ?_
      refine lv_aload_n hx hb dX14_liveBehind_28 rfl (lv_at hl 0 rfl) ?_
      refine lv_iload_n hx hb dX14_liveBehind_29 rfl (lv_at hl 1 rfl) ?_
      obtain ⟨Q25, h0, h⟩ := h
      have hFc := rfree hR hA
      refine va_calli (va_runV (As := [.int x1]) (rest := [.ref (ad 90)]) ⟨hx, hb, hml, hown, hts⟩ (r_behind l g ad H.size S22 x1 hR.w  Q25 h0) (cwV 1 hts (gd2_V kx_724 kx_725 kx_726 kx_177 kx_727) rfl rfl rfl (by decide +kernel) ⟨Nat.le_of_ble_eq_true rfl, Nat.le_of_ble_eq_true rfl⟩) ⟨rblind, va_recv hR.K hR.P (ci := 13) (q0 := 0) rfl (hR.at14 hR.w.1), fun U hU hW9 => rmk hU hW9 hR hex hE hFc⟩ rfl rfl hl.1 rfl (lv_room (Nat.le_of_ble_eq_true rfl)) dX14_liveBehind_30 ⟨Nat.le_of_ble_eq_true rfl, Nat.le_of_ble_eq_true rfl⟩) hR.sS (fun q _ h => hFc q h) hFc (fun r26 S27 t9 H1 locs ht9 hvm9 hw9 hB9 hz9 hk9 hS => ?_)
      obtain ⟨hq28, hw9, hs9⟩ := hw9
      have hR : Rep g ad A s S27 H1 locs := hR.call ht9 hB9 hw9 hS hFc
      have hsh := hsh.tr hs9
      replace h := h r26 S27 hq28
      clear hB9 hz9 hk9 hvm9 ht9 hw9 hs9 hS
      generalize H1 = H at hR ⊢
      obtain ⟨hv29, h⟩ := h
      refine va_iald hx hb hR.K hR.P 90 1 (hR.atI (hR.w.2.1 _ fin_140).2.1) rfl (k_ixN (k_ix (n := 1200) (x := r26) (a := r26.toInt) rfl hv29) (hR.w.2.1 _ fin_140).2.2) dX14_liveBehind_33 ?_
      refine lv_topi (fun z30 ez30 => ?_)
      obtain rfl : z30 = (qI S27 90 r26.toInt.toNat) := ez30
      refine lv_goto (tgt := 38) hx hb dX14_liveBehind_34 (by decide) ?_
      exact J_38 S27 (qI S27 90 r26.toInt.toNat) x1 _ _ ls h  hsh hR (lv_sub hl [0, 1] rfl)
def w_liveAt_J117 (Q : Int32 → MS → Prop) (k82 : MS → Int32 → Int32 → Int32 → Prop) (U117 : MS) (v117_1 : Int32) (v117_2 : Int32) (v117_3 : Int32) : Prop := (∀ a19 : Int32, a19 = (v117_3 + Int32.ofInt 1) → k82 U117 v117_1 v117_2 a19)
def w_liveAt_L82 (Q : Int32 → MS → Prop) : Nat → MS → Int32 → Int32 → Int32 → Prop
  | 0, _, _, _, _ => False
  | n82 + 1, U82, v82_1, v82_2, v82_3 => (((qI U82 0 135).toInt ≤ v82_3.toInt → Q v82_2 U82) ∧ (¬ (qI U82 0 135).toInt ≤ v82_3.toInt → (d_isIn U82 v82_1 v82_3 ∧ (((f_isIn U82 v82_1 v82_3).toInt = 0 → w_liveAt_J117 Q (w_liveAt_L82 Q n82) U82 v82_1 v82_2 v82_3) ∧ (¬ (f_isIn U82 v82_1 v82_3).toInt = 0 → (((0 : Int) ≤ v82_3.toInt ∧ v82_3.toInt < 16) ∧ (∃ Q23, w_here U82 (qI U82 84 v82_3.toInt.toNat) Q23 ∧ ∀ r24 S25, Q23 r24 S25 → (((0 : Int) ≤ r24.toInt ∧ r24.toInt < 1200) ∧ (∀ a30 : Int32, a30 = (v82_2 ||| (qI S25 90 r24.toInt.toNat)) → w_liveAt_J117 Q (w_liveAt_L82 Q n82) S25 v82_1 a30 v82_3)))))))))
def w_liveAt_J80 (Q : Int32 → MS → Prop) (U80 : MS) (v80_1 : Int32) (v80_2 : Int32) : Prop := (∃ n, w_liveAt_L82 Q n U80 v80_1 v80_2 0)
def w_liveAt_J62 (Q : Int32 → MS → Prop) (U62 : MS) (v62_1 : Int32) (v62_2 : Int32) : Prop := (((0 : Int) ≤ v62_1.toInt ∧ v62_1.toInt < 1200) ∧ (((0 : Int) ≤ v62_1.toInt ∧ v62_1.toInt < 1200) ∧ (d_bitsOf U62 (qI U62 78 v62_1.toInt.toNat) (qI U62 79 v62_1.toInt.toNat) ∧ (∀ a39 : Int32, a39 = (v62_2 ||| (f_bitsOf U62 (qI U62 78 v62_1.toInt.toNat) (qI U62 79 v62_1.toInt.toNat))) → w_liveAt_J80 Q U62 v62_1 a39))))
def w_liveAt_J38 (Q : Int32 → MS → Prop) (U38 : MS) (v38_1 : Int32) (v38_2 : Int32) : Prop := (((0 : Int) ≤ v38_1.toInt ∧ v38_1.toInt < 1200) ∧ (d_isLoad U38 (qI U38 78 v38_1.toInt.toNat) ∧ (((f_isLoad U38 (qI U38 78 v38_1.toInt.toNat)).toInt = 0 → (((0 : Int) ≤ v38_1.toInt ∧ v38_1.toInt < 1200) ∧ (((qI U38 78 v38_1.toInt.toNat).toInt = 132 → w_liveAt_J62 Q U38 v38_1 v38_2) ∧ (¬ (qI U38 78 v38_1.toInt.toNat).toInt = 132 → w_liveAt_J80 Q U38 v38_1 v38_2)))) ∧ (¬ (f_isLoad U38 (qI U38 78 v38_1.toInt.toNat)).toInt = 0 → w_liveAt_J62 Q U38 v38_1 v38_2))))
def w_liveAt (S : MS) (x1 : Int32) (Q : Int32 → MS → Prop) : Prop := (∃ Q1, w_liveBehind S x1 Q1 ∧ ∀ r2 S3, Q1 r2 S3 → (((0 : Int) ≤ x1.toInt ∧ x1.toInt < 1200) ∧ (d_isStore S3 (qI S3 78 x1.toInt.toNat) ∧ (((f_isStore S3 (qI S3 78 x1.toInt.toNat)).toInt = 0 → w_liveAt_J38 Q S3 x1 r2) ∧ (¬ (f_isStore S3 (qI S3 78 x1.toInt.toNat)).toInt = 0 → (((0 : Int) ≤ x1.toInt ∧ x1.toInt < 1200) ∧ (((0 : Int) ≤ x1.toInt ∧ x1.toInt < 1200) ∧ (d_bitsOf S3 (qI S3 78 x1.toInt.toNat) (qI S3 79 x1.toInt.toNat) ∧ (∀ a54 : Int32, a54 = (r2 &&& ((f_bitsOf S3 (qI S3 78 x1.toInt.toNat) (qI S3 79 x1.toInt.toNat)) ^^^ (-1 : Int32))) → w_liveAt_J38 Q S3 x1 a54)))))))))
set_option maxHeartbeats 2000000 in
set_option maxRecDepth 100000 in
theorem r_liveAt (l : Launch) (g : Gr) (ad : Nat → Nat) (sz : Nat) (S : MS) (x1 : Int32) (hw : wfM S) (Q : Int32 → MS → Prop) (h : w_liveAt S x1 Q) : Met l yX14_liveAt (wt2 yX14_liveAt cX14_liveAt 4 (some .int)) ({ frames := 3, cells := 0, slots := 0, locals := 67 }) (va_Pc [.ref (ad 0), .int x1] (st_R g ad sz S)) (va_Qi (fun (r : Int32) (u : MS) => Q r u ∧ wfM u ∧ shy S u) (fun (u : MS) (t : State) => qE g ad (va_A (Wd g ad S) sz) u t) (va_A (Wd g ad S) sz)) 0 0 (va_A (Wd g ad S) sz) := by
  refine Met.ofW (cc := cX14_liveAt) (maxL := 4) (ret := (some .int)) (by decide) rfl ?_
  intro p e s m args below meth c s₁ B hml hv
  obtain ⟨rfl, hsz, hP, hK, hD0, hex, hE⟩ := hv
  have hx := B.exec
  have hb := B.bytes
  have hr := B.returns
  have hts0 := atoms_spec (ws := wt2 yX14_liveAt cX14_liveAt 4 (some .int)) B.pre
  have hts : ∀ w ∈ tb2, w.before _ s = true := fun w h => hts0 w (List.mem_cons_of_mem _ h)
  have hown : s.vm.findClass RX14 = some m.cls := findClass_of_methodNamed B.named
  subst hsz
  have hD := hD0.self (sz := s.heap.size)
  generalize hAe : va_A (Wd g ad S) s.heap.size = A at hD hE ⊢
  have hA : ∀ q : Nat, s.heap.size ≤ q → A q := fun q h => by rw [← hAe]; exact Or.inr h
  have hR : Rep g ad A s S s.heap [] := ⟨hK, hP, hD, va_S.rf, hw⟩
  clear hK hP hD hD0
  have hl := lv_entry ([.ref (ad 0), .int x1]) (n := 4) (Nat.le_of_ble_eq_true rfl)
  rw [lg_entry_eq]
  generalize (lg_sl ([.ref (ad 0), .int x1]) ++ List.replicate (4 - (lg_sl ([.ref (ad 0), .int x1])).length) Slot.unset).toArray = ls at hl ⊢
  have hl : lv_has ls 4 [(0, .ref (ad 0)), (1, .int x1)] := hl
  have hsh : shy S S := shy.rf
  unfold w_liveAt at h
  refine lv_aload_n hx hb dX14_liveAt_0 rfl (lv_at hl 0 rfl) ?_
  refine lv_iload_n hx hb dX14_liveAt_1 rfl (lv_at hl 1 rfl) ?_
  obtain ⟨Q1, h0, h⟩ := h
  have hFc := rfree hR hA
  refine va_calli (va_runV (As := [.int x1]) (rest := []) ⟨hx, hb, hml, hown, hts⟩ (r_liveBehind l g ad s.heap.size S x1 hR.w  Q1 h0) (cwV 1 hts (gd2_V kx_785 kx_786 kx_787 kx_177 kx_788) rfl rfl rfl (by decide +kernel) ⟨Nat.le_of_ble_eq_true rfl, Nat.le_of_ble_eq_true rfl⟩) ⟨rblind, va_recv hR.K hR.P (ci := 13) (q0 := 0) rfl (hR.at14 hR.w.1), fun U hU hW9 => rmk hU hW9 hR hex hE hFc⟩ rfl rfl hl.1 rfl (lv_room (Nat.le_of_ble_eq_true rfl)) dX14_liveAt_2 ⟨Nat.le_of_ble_eq_true rfl, Nat.le_of_ble_eq_true rfl⟩) hR.sS (fun q _ h => hFc q h) hFc (fun r2 S3 t9 H1 locs ht9 hvm9 hw9 hB9 hz9 hk9 hS => ?_)
  obtain ⟨hq4, hw9, hs9⟩ := hw9
  have hR : Rep g ad A s S3 H1 locs := hR.call ht9 hB9 hw9 hS hFc
  have hsh := hsh.tr hs9
  replace h := h r2 S3 hq4
  clear hB9 hz9 hk9 hvm9 ht9 hw9 hs9 hS
  generalize H1 = H at hR ⊢
  refine lv_istore_n (lv' := [(2, .int r2), (0, .ref (ad 0)), (1, .int x1)]) hx hb dX14_liveAt_5 rfl hl (by decide) rfl (fun ls hl => ?_)
  refine lv_aload_n hx hb dX14_liveAt_6 rfl (lv_at hl 1 rfl) ?_
  refine va_get (D := rD g) (ci := 13) (v := .ref (ad 78)) (C := RX14) (T := TX14) (N := 143) hx hb hts in2X14 hown hR.K hR.P 0 (hR.at14 hR.w.1) rfl 125 (by decide) (hts _ kx_697) (fun _ h9 => h9) (congrArg (fun z => some (vf ad z)) (hR.w.2.1 _ fin_125).1) dX14_liveAt_7 ?_
  refine lv_iload_n hx hb dX14_liveAt_10 rfl (lv_at hl 2 rfl) ?_
  obtain ⟨hv5, h⟩ := h
  refine va_iald hx hb hR.K hR.P 78 1 (hR.atI (hR.w.2.1 _ fin_125).2.1) rfl (k_ixN (k_ix (n := 1200) (x := x1) (a := x1.toInt) rfl hv5) (hR.w.2.1 _ fin_125).2.2) dX14_liveAt_11 ?_
  refine lv_topi (fun z6 ez6 => ?_)
  obtain rfl : z6 = (qI S3 78 x1.toInt.toNat) := ez6
  obtain ⟨hv7, h⟩ := h
  have hFc := rfree hR hA
  refine va_calli (va_runS (As := [.int (qI S3 78 x1.toInt.toNat)]) (rest := []) ⟨hx, hb, hml, hown, hts⟩ (r_isStore l g ad H.size S3 (qI S3 78 x1.toInt.toNat) hR.w  hv7) (va_cwS 1 hts (gd2_S kx_789 kx_790 kx_177 kx_791) rfl rfl rfl (by decide +kernel) ⟨Nat.le_of_ble_eq_true rfl, Nat.le_of_ble_eq_true rfl⟩) ⟨rblind, fun U hU hW9 => rmk hU hW9 hR hex hE hFc⟩ rfl rfl hl.1 rfl (lv_room (Nat.le_of_ble_eq_true rfl)) dX14_liveAt_12 ⟨Nat.le_of_ble_eq_true rfl, Nat.le_of_ble_eq_true rfl⟩) hR.sS (fun q _ h => hFc q h) hFc (fun r8 u9 t9 H1 locs ht9 hvm9 hw9 hB9 hz9 hk9 hS => ?_)
  have hR : Rep g ad A s S3 H1 locs := hR.call ht9 hB9 hR.w hS hFc
  obtain ⟨rfl, hz_r8⟩ := hw9
  clear hB9 hz9 hk9 hvm9 ht9 hS
  generalize H1 = H at hR ⊢
  have J_38 : ∀ (U38 : MS) (v38_1 : Int32) (v38_2 : Int32) (H : Heap) (locs : List Loc) (ls : Array Slot), w_liveAt_J38 Q U38 v38_1 v38_2 → shy S U38 → Rep g ad A s U38 H locs → lv_has ls 4 [(0, .ref (ad 0)), (1, .int v38_1), (2, .int v38_2)] → W p l e (headSpec (wt2 yX14_liveAt cX14_liveAt 4 (some .int)) ({ frames := 3, cells := 0, slots := 0, locals := 67 })).room s m ([.ref (ad 0), .int x1] : List Value).toArray below meth c H locs 0 0 (MQ below (va_Qi (fun (r : Int32) (u : MS) => Q r u ∧ wfM u ∧ shy S u) (fun (u : MS) (t : State) => qE g ad A u t) A) ([.ref (ad 0), .int x1] : List Value).toArray s 0 0 A) (F0 m 38 ls []) := by
    intro U38 v38_1 v38_2 H locs ls h hsh hR hl
    unfold w_liveAt_J38 at h
    refine lv_aload_n hx hb dX14_liveAt_38 rfl (lv_at hl 0 rfl) ?_
    refine va_get (D := rD g) (ci := 13) (v := .ref (ad 78)) (C := RX14) (T := TX14) (N := 143) hx hb hts in2X14 hown hR.K hR.P 0 (hR.at14 hR.w.1) rfl 125 (by decide) (hts _ kx_697) (fun _ h9 => h9) (congrArg (fun z => some (vf ad z)) (hR.w.2.1 _ fin_125).1) dX14_liveAt_39 ?_
    refine lv_iload_n hx hb dX14_liveAt_42 rfl (lv_at hl 1 rfl) ?_
    obtain ⟨hv10, h⟩ := h
    refine va_iald hx hb hR.K hR.P 78 1 (hR.atI (hR.w.2.1 _ fin_125).2.1) rfl (k_ixN (k_ix (n := 1200) (x := v38_1) (a := v38_1.toInt) rfl hv10) (hR.w.2.1 _ fin_125).2.2) dX14_liveAt_43 ?_
    refine lv_topi (fun z11 ez11 => ?_)
    obtain rfl : z11 = (qI U38 78 v38_1.toInt.toNat) := ez11
    obtain ⟨hv12, h⟩ := h
    have hFc := rfree hR hA
    refine va_calli (va_runS (As := [.int (qI U38 78 v38_1.toInt.toNat)]) (rest := []) ⟨hx, hb, hml, hown, hts⟩ (r_isLoad l g ad H.size U38 (qI U38 78 v38_1.toInt.toNat) hR.w  hv12) (va_cwS 1 hts (gd2_S kx_792 kx_793 kx_177 kx_794) rfl rfl rfl (by decide +kernel) ⟨Nat.le_of_ble_eq_true rfl, Nat.le_of_ble_eq_true rfl⟩) ⟨rblind, fun U hU hW9 => rmk hU hW9 hR hex hE hFc⟩ rfl rfl hl.1 rfl (lv_room (Nat.le_of_ble_eq_true rfl)) dX14_liveAt_44 ⟨Nat.le_of_ble_eq_true rfl, Nat.le_of_ble_eq_true rfl⟩) hR.sS (fun q _ h => hFc q h) hFc (fun r13 u9 t9 H1 locs ht9 hvm9 hw9 hB9 hz9 hk9 hS => ?_)
    have hR : Rep g ad A s U38 H1 locs := hR.call ht9 hB9 hR.w hS hFc
    obtain ⟨rfl, hz_r13⟩ := hw9
    clear hB9 hz9 hk9 hvm9 ht9 hS
    generalize H1 = H at hR ⊢
    have J_80 : ∀ (U80 : MS) (v80_1 : Int32) (v80_2 : Int32) (H : Heap) (locs : List Loc) (ls : Array Slot), w_liveAt_J80 Q U80 v80_1 v80_2 → shy S U80 → Rep g ad A s U80 H locs → lv_has ls 4 [(0, .ref (ad 0)), (1, .int v80_1), (2, .int v80_2)] → W p l e (headSpec (wt2 yX14_liveAt cX14_liveAt 4 (some .int)) ({ frames := 3, cells := 0, slots := 0, locals := 67 })).room s m ([.ref (ad 0), .int x1] : List Value).toArray below meth c H locs 0 0 (MQ below (va_Qi (fun (r : Int32) (u : MS) => Q r u ∧ wfM u ∧ shy S u) (fun (u : MS) (t : State) => qE g ad A u t) A) ([.ref (ad 0), .int x1] : List Value).toArray s 0 0 A) (F0 m 80 ls []) := by
      intro U80 v80_1 v80_2 H locs ls h hsh hR hl
      unfold w_liveAt_J80 at h
      refine lv_iconst (v := 0) hx hb dX14_liveAt_80 (by decide) ?_
      refine lv_istore_n (lv' := [(3, .int 0), (0, .ref (ad 0)), (1, .int v80_1), (2, .int v80_2)]) hx hb dX14_liveAt_81 rfl hl (by decide) rfl (fun ls hl => ?_)
      have J_82 : ∀ (n82 : Nat) (U82 : MS) (v82_1 : Int32) (v82_2 : Int32) (v82_3 : Int32) (H : Heap) (locs : List Loc) (ls : Array Slot), w_liveAt_L82 Q n82 U82 v82_1 v82_2 v82_3 → shy S U82 → Rep g ad A s U82 H locs → lv_has ls 4 [(0, .ref (ad 0)), (1, .int v82_1), (2, .int v82_2), (3, .int v82_3)] → W p l e (headSpec (wt2 yX14_liveAt cX14_liveAt 4 (some .int)) ({ frames := 3, cells := 0, slots := 0, locals := 67 })).room s m ([.ref (ad 0), .int x1] : List Value).toArray below meth c H locs 0 0 (MQ below (va_Qi (fun (r : Int32) (u : MS) => Q r u ∧ wfM u ∧ shy S u) (fun (u : MS) (t : State) => qE g ad A u t) A) ([.ref (ad 0), .int x1] : List Value).toArray s 0 0 A) (F0 m 82 ls []) := by
        intro n82
        induction n82 with
        | zero => intro U82 v82_1 v82_2 v82_3 H locs ls h hsh hR hl; unfold w_liveAt_L82 at h; exact h.elim
        | succ n82 ih_82 =>
          intro U82 v82_1 v82_2 v82_3 H locs ls h hsh hR hl
          unfold w_liveAt_L82 at h
          refine lv_iload_n hx hb dX14_liveAt_82 rfl (lv_at hl 3 rfl) ?_
          refine lv_aload_n hx hb dX14_liveAt_83 rfl (lv_at hl 0 rfl) ?_
          refine va_get (D := rD g) (ci := 13) (v := .int (qI U82 0 135)) (C := RX14) (T := TX14) (N := 143) hx hb hts in2X14 hown hR.K hR.P 0 (hR.at14 hR.w.1) rfl 135 (by decide) (hts _ kx_704) (fun _ h9 => h9) rfl dX14_liveAt_84 ?_
          refine lv_icmp_ge (tgt := 123) hx hb dX14_liveAt_87 (by decide) (fun c15 => ?_) (fun c15 => ?_)
          · replace h := h.1 (k_le rfl rfl c15)
            refine lv_iload_n hx hb dX14_liveAt_123 rfl (lv_at hl 2 rfl) ?_
            exact W.iret (v := v82_2) hx hb hr (fun t9 ht9 hW9 => ⟨⟨_, U82, rfl, ⟨h, hR.w, hsh⟩, ⟨by rw [ht9]; exact hR.P, hR.D⟩⟩, hR.sS.F ht9⟩) hR.sS.2.2 dX14_liveAt_124
          · replace h := h.2 (k_nle rfl rfl c15)
            refine lv_aload_n hx hb dX14_liveAt_90 rfl (lv_at hl 0 rfl) ?_
            refine lv_iload_n hx hb dX14_liveAt_91 rfl (lv_at hl 1 rfl) ?_
            refine lv_iload_n hx hb dX14_liveAt_92 rfl (lv_at hl 3 rfl) ?_
            obtain ⟨hv16, h⟩ := h
            have hFc := rfree hR hA
            refine va_calli (va_runV (As := [.int v82_1, .int v82_3]) (rest := []) ⟨hx, hb, hml, hown, hts⟩ (r_isIn l g ad H.size U82 v82_1 v82_3 hR.w  hv16) (cwV 2 hts (gd2_V kx_730 kx_731 kx_732 kx_177 kx_733) rfl rfl rfl (by decide +kernel) ⟨Nat.le_of_ble_eq_true rfl, Nat.le_of_ble_eq_true rfl⟩) ⟨rblind, va_recv hR.K hR.P (ci := 13) (q0 := 0) rfl (hR.at14 hR.w.1), fun U hU hW9 => rmk hU hW9 hR hex hE hFc⟩ rfl rfl hl.1 rfl (lv_room (Nat.le_of_ble_eq_true rfl)) dX14_liveAt_93 ⟨Nat.le_of_ble_eq_true rfl, Nat.le_of_ble_eq_true rfl⟩) hR.sS (fun q _ h => hFc q h) hFc (fun r17 u9 t9 H1 locs ht9 hvm9 hw9 hB9 hz9 hk9 hS => ?_)
            have hR : Rep g ad A s U82 H1 locs := hR.call ht9 hB9 hR.w hS hFc
            obtain ⟨rfl, hz_r17⟩ := hw9
            clear hB9 hz9 hk9 hvm9 ht9 hS
            generalize H1 = H at hR ⊢
            have J_117 : ∀ (U117 : MS) (v117_1 : Int32) (v117_2 : Int32) (v117_3 : Int32) (H : Heap) (locs : List Loc) (ls : Array Slot), w_liveAt_J117 Q (w_liveAt_L82 Q n82) U117 v117_1 v117_2 v117_3 → shy S U117 → Rep g ad A s U117 H locs → lv_has ls 4 [(0, .ref (ad 0)), (1, .int v117_1), (2, .int v117_2), (3, .int v117_3)] → W p l e (headSpec (wt2 yX14_liveAt cX14_liveAt 4 (some .int)) ({ frames := 3, cells := 0, slots := 0, locals := 67 })).room s m ([.ref (ad 0), .int x1] : List Value).toArray below meth c H locs 0 0 (MQ below (va_Qi (fun (r : Int32) (u : MS) => Q r u ∧ wfM u ∧ shy S u) (fun (u : MS) (t : State) => qE g ad A u t) A) ([.ref (ad 0), .int x1] : List Value).toArray s 0 0 A) (F0 m 117 ls []) := by
              intro U117 v117_1 v117_2 v117_3 H locs ls h hsh hR hl
              unfold w_liveAt_J117 at h
              obtain ⟨a19, ea19⟩ : ∃ z, z = (v117_3 + Int32.ofInt 1) := ⟨_, rfl⟩
              replace h := h a19 ea19
              refine lv_iinc (v := a19) (lv' := [(3, .int a19), (0, .ref (ad 0)), (1, .int v117_1), (2, .int v117_2)]) hx hb dX14_liveAt_117 hl (k := 3) rfl ea19.symm (by decide) rfl (fun ls hl => ?_)
              refine lv_goto (tgt := 82) hx hb dX14_liveAt_120 (by decide) ?_
              exact ih_82 U117 v117_1 v117_2 a19 _ _ ls h  hsh hR (lv_sub hl [1, 2, 3, 0] rfl)
            refine lv_if_eq (tgt := 117) hx hb dX14_liveAt_96 (by decide) (fun c20 => ?_) (fun c20 => ?_)
            · replace h := h.1 (k_eq rfl (by decide) c20)
              exact J_117 U82 v82_1 v82_2 v82_3 _ _ ls h  hsh hR (lv_sub hl [0, 1, 2, 3] rfl)
            · replace h := h.2 (k_ne rfl (by decide) c20)
              refine lv_iload_n hx hb dX14_liveAt_99 rfl (lv_at hl 2 rfl) ?_
              refine lv_aload_n hx hb dX14_liveAt_100 rfl (lv_at hl 0 rfl) ?_
              refine va_get (D := rD g) (ci := 13) (v := .ref (ad 90)) (C := RX14) (T := TX14) (N := 143) hx hb hts in2X14 hown hR.K hR.P 0 (hR.at14 hR.w.1) rfl 140 (by decide) (hts _ kx_784) (fun _ h9 => h9) (congrArg (fun z => some (vf ad z)) (hR.w.2.1 _ fin_140).1) dX14_liveAt_101 ?_
              refine lv_aload_n hx hb dX14_liveAt_104 rfl (lv_at hl 0 rfl) ?_
              refine lv_aload_n hx hb dX14_liveAt_105 rfl (lv_at hl 0 rfl) ?_
              refine va_get (D := rD g) (ci := 13) (v := .ref (ad 84)) (C := RX14) (T := TX14) (N := 143) hx hb hts in2X14 hown hR.K hR.P 0 (hR.at14 hR.w.1) rfl 132 (by decide) (hts _ kx_706) (fun _ h9 => h9) (congrArg (fun z => some (vf ad z)) (hR.w.2.1 _ fin_132).1) dX14_liveAt_106 ?_
              refine lv_iload_n hx hb dX14_liveAt_109 rfl (lv_at hl 3 rfl) ?_
              obtain ⟨hv21, h⟩ := h
              refine va_iald hx hb hR.K hR.P 84 1 (hR.atI (hR.w.2.1 _ fin_132).2.1) rfl (k_ixN (k_ix (n := 16) (x := v82_3) (a := v82_3.toInt) rfl hv21) (hR.w.2.1 _ fin_132).2.2) dX14_liveAt_110 ?_
              refine lv_topi (fun z22 ez22 => ?_)
              obtain rfl : z22 = (qI U82 84 v82_3.toInt.toNat) := ez22
              obtain ⟨Q23, h0, h⟩ := h
              have hFc := rfree hR hA
              refine va_calli (va_runV (As := [.int (qI U82 84 v82_3.toInt.toNat)]) (rest := [.ref (ad 90), .int v82_2]) ⟨hx, hb, hml, hown, hts⟩ (r_here l g ad H.size U82 (qI U82 84 v82_3.toInt.toNat) hR.w  Q23 h0) (cwV 1 hts (gd2_V kx_693 kx_694 kx_695 kx_177 kx_696) rfl rfl rfl (by decide +kernel) ⟨Nat.le_of_ble_eq_true rfl, Nat.le_of_ble_eq_true rfl⟩) ⟨rblind, va_recv hR.K hR.P (ci := 13) (q0 := 0) rfl (hR.at14 hR.w.1), fun U hU hW9 => rmk hU hW9 hR hex hE hFc⟩ rfl rfl hl.1 rfl (lv_room (Nat.le_of_ble_eq_true rfl)) dX14_liveAt_111 ⟨Nat.le_of_ble_eq_true rfl, Nat.le_of_ble_eq_true rfl⟩) hR.sS (fun q _ h => hFc q h) hFc (fun r24 S25 t9 H1 locs ht9 hvm9 hw9 hB9 hz9 hk9 hS => ?_)
              obtain ⟨hq26, hw9, hs9⟩ := hw9
              have hR : Rep g ad A s S25 H1 locs := hR.call ht9 hB9 hw9 hS hFc
              have hsh := hsh.tr hs9
              replace h := h r24 S25 hq26
              clear hB9 hz9 hk9 hvm9 ht9 hw9 hs9 hS
              generalize H1 = H at hR ⊢
              obtain ⟨hv27, h⟩ := h
              refine va_iald hx hb hR.K hR.P 90 1 (hR.atI (hR.w.2.1 _ fin_140).2.1) rfl (k_ixN (k_ix (n := 1200) (x := r24) (a := r24.toInt) rfl hv27) (hR.w.2.1 _ fin_140).2.2) dX14_liveAt_114 ?_
              refine lv_topi (fun z28 ez28 => ?_)
              obtain rfl : z28 = (qI S25 90 r24.toInt.toNat) := ez28
              refine lv_ior hx hb dX14_liveAt_115 ?_
              refine lv_topi (fun z29 ez29 => ?_)
              obtain rfl : z29 = (v82_2 ||| (qI S25 90 r24.toInt.toNat)) := ez29
              obtain ⟨a30, ea30⟩ : ∃ z, z = (v82_2 ||| (qI S25 90 r24.toInt.toNat)) := ⟨_, rfl⟩
              rw [← ea30]
              replace h := h a30 ea30
              refine lv_istore_n (lv' := [(2, .int a30), (0, .ref (ad 0)), (1, .int v82_1), (3, .int v82_3)]) hx hb dX14_liveAt_116 rfl hl (by decide) rfl (fun ls hl => ?_)
              exact J_117 S25 v82_1 a30 v82_3 _ _ ls h  hsh hR (lv_sub hl [1, 2, 0, 3] rfl)
      obtain ⟨n9, h⟩ := h
      exact J_82 n9 U80 v80_1 v80_2 0 _ _ ls h  hsh hR (lv_sub hl [1, 2, 3, 0] rfl)
    have J_62 : ∀ (U62 : MS) (v62_1 : Int32) (v62_2 : Int32) (H : Heap) (locs : List Loc) (ls : Array Slot), w_liveAt_J62 Q U62 v62_1 v62_2 → shy S U62 → Rep g ad A s U62 H locs → lv_has ls 4 [(0, .ref (ad 0)), (1, .int v62_1), (2, .int v62_2)] → W p l e (headSpec (wt2 yX14_liveAt cX14_liveAt 4 (some .int)) ({ frames := 3, cells := 0, slots := 0, locals := 67 })).room s m ([.ref (ad 0), .int x1] : List Value).toArray below meth c H locs 0 0 (MQ below (va_Qi (fun (r : Int32) (u : MS) => Q r u ∧ wfM u ∧ shy S u) (fun (u : MS) (t : State) => qE g ad A u t) A) ([.ref (ad 0), .int x1] : List Value).toArray s 0 0 A) (F0 m 62 ls []) := by
      intro U62 v62_1 v62_2 H locs ls h hsh hR hl
      unfold w_liveAt_J62 at h
      refine lv_iload_n hx hb dX14_liveAt_62 rfl (lv_at hl 2 rfl) ?_
      refine lv_aload_n hx hb dX14_liveAt_63 rfl (lv_at hl 0 rfl) ?_
      refine va_get (D := rD g) (ci := 13) (v := .ref (ad 78)) (C := RX14) (T := TX14) (N := 143) hx hb hts in2X14 hown hR.K hR.P 0 (hR.at14 hR.w.1) rfl 125 (by decide) (hts _ kx_697) (fun _ h9 => h9) (congrArg (fun z => some (vf ad z)) (hR.w.2.1 _ fin_125).1) dX14_liveAt_64 ?_
      refine lv_iload_n hx hb dX14_liveAt_67 rfl (lv_at hl 1 rfl) ?_
      obtain ⟨hv31, h⟩ := h
      refine va_iald hx hb hR.K hR.P 78 1 (hR.atI (hR.w.2.1 _ fin_125).2.1) rfl (k_ixN (k_ix (n := 1200) (x := v62_1) (a := v62_1.toInt) rfl hv31) (hR.w.2.1 _ fin_125).2.2) dX14_liveAt_68 ?_
      refine lv_topi (fun z32 ez32 => ?_)
      obtain rfl : z32 = (qI U62 78 v62_1.toInt.toNat) := ez32
      refine lv_aload_n hx hb dX14_liveAt_69 rfl (lv_at hl 0 rfl) ?_
      refine va_get (D := rD g) (ci := 13) (v := .ref (ad 79)) (C := RX14) (T := TX14) (N := 143) hx hb hts in2X14 hown hR.K hR.P 0 (hR.at14 hR.w.1) rfl 126 (by decide) (hts _ kx_700) (fun _ h9 => h9) (congrArg (fun z => some (vf ad z)) (hR.w.2.1 _ fin_126).1) dX14_liveAt_70 ?_
      refine lv_iload_n hx hb dX14_liveAt_73 rfl (lv_at hl 1 rfl) ?_
      obtain ⟨hv33, h⟩ := h
      refine va_iald hx hb hR.K hR.P 79 1 (hR.atI (hR.w.2.1 _ fin_126).2.1) rfl (k_ixN (k_ix (n := 1200) (x := v62_1) (a := v62_1.toInt) rfl hv33) (hR.w.2.1 _ fin_126).2.2) dX14_liveAt_74 ?_
      refine lv_topi (fun z34 ez34 => ?_)
      obtain rfl : z34 = (qI U62 79 v62_1.toInt.toNat) := ez34
      obtain ⟨hv35, h⟩ := h
      have hFc := rfree hR hA
      refine va_calli (va_runS (As := [.int (qI U62 78 v62_1.toInt.toNat), .int (qI U62 79 v62_1.toInt.toNat)]) (rest := [.int v62_2]) ⟨hx, hb, hml, hown, hts⟩ (r_bitsOf l g ad H.size U62 (qI U62 78 v62_1.toInt.toNat) (qI U62 79 v62_1.toInt.toNat) hR.w  hv35) (va_cwS 2 hts (gd2_S kx_795 kx_796 kx_177 kx_797) rfl rfl rfl (by decide +kernel) ⟨Nat.le_of_ble_eq_true rfl, Nat.le_of_ble_eq_true rfl⟩) ⟨rblind, fun U hU hW9 => rmk hU hW9 hR hex hE hFc⟩ rfl rfl hl.1 rfl (lv_room (Nat.le_of_ble_eq_true rfl)) dX14_liveAt_75 ⟨Nat.le_of_ble_eq_true rfl, Nat.le_of_ble_eq_true rfl⟩) hR.sS (fun q _ h => hFc q h) hFc (fun r36 u9 t9 H1 locs ht9 hvm9 hw9 hB9 hz9 hk9 hS => ?_)
      have hR : Rep g ad A s U62 H1 locs := hR.call ht9 hB9 hR.w hS hFc
      obtain rfl : r36 = (f_bitsOf U62 (qI U62 78 v62_1.toInt.toNat) (qI U62 79 v62_1.toInt.toNat)) := hw9
      clear hB9 hz9 hk9 hvm9 ht9 hS
      generalize H1 = H at hR ⊢
      refine lv_ior hx hb dX14_liveAt_78 ?_
      refine lv_topi (fun z38 ez38 => ?_)
      obtain rfl : z38 = (v62_2 ||| (f_bitsOf U62 (qI U62 78 v62_1.toInt.toNat) (qI U62 79 v62_1.toInt.toNat))) := ez38
      obtain ⟨a39, ea39⟩ : ∃ z, z = (v62_2 ||| (f_bitsOf U62 (qI U62 78 v62_1.toInt.toNat) (qI U62 79 v62_1.toInt.toNat))) := ⟨_, rfl⟩
      rw [← ea39]
      replace h := h a39 ea39
      refine lv_istore_n (lv' := [(2, .int a39), (0, .ref (ad 0)), (1, .int v62_1)]) hx hb dX14_liveAt_79 rfl hl (by decide) rfl (fun ls hl => ?_)
      exact J_80 U62 v62_1 a39 _ _ ls h  hsh hR (lv_sub hl [1, 2, 0] rfl)
    refine lv_if_ne (tgt := 62) hx hb dX14_liveAt_47 (by decide) (fun c40 => ?_) (fun c40 => ?_)
    · replace h := h.2 (k_ne rfl (by decide) c40)
      exact J_62 U38 v38_1 v38_2 _ _ ls h  hsh hR (lv_sub hl [0, 1, 2] rfl)
    · replace h := h.1 (k_eq rfl (by decide) c40)
      refine lv_aload_n hx hb dX14_liveAt_50 rfl (lv_at hl 0 rfl) ?_
      refine va_get (D := rD g) (ci := 13) (v := .ref (ad 78)) (C := RX14) (T := TX14) (N := 143) hx hb hts in2X14 hown hR.K hR.P 0 (hR.at14 hR.w.1) rfl 125 (by decide) (hts _ kx_697) (fun _ h9 => h9) (congrArg (fun z => some (vf ad z)) (hR.w.2.1 _ fin_125).1) dX14_liveAt_51 ?_
      refine lv_iload_n hx hb dX14_liveAt_54 rfl (lv_at hl 1 rfl) ?_
      obtain ⟨hv41, h⟩ := h
      refine va_iald hx hb hR.K hR.P 78 1 (hR.atI (hR.w.2.1 _ fin_125).2.1) rfl (k_ixN (k_ix (n := 1200) (x := v38_1) (a := v38_1.toInt) rfl hv41) (hR.w.2.1 _ fin_125).2.2) dX14_liveAt_55 ?_
      refine lv_topi (fun z42 ez42 => ?_)
      obtain rfl : z42 = (qI U38 78 v38_1.toInt.toNat) := ez42
      refine lv_sipush (v := 132) hx hb dX14_liveAt_56 (by decide) ?_
      refine lv_icmp_ne (tgt := 80) hx hb dX14_liveAt_59 (by decide) (fun c43 => ?_) (fun c43 => ?_)
      · replace h := h.2 (k_ne rfl (by decide) c43)
        exact J_80 U38 v38_1 v38_2 _ _ ls h  hsh hR (lv_sub hl [0, 1, 2] rfl)
      · replace h := h.1 (k_eq rfl (by decide) c43)
        exact J_62 U38 v38_1 v38_2 _ _ ls h  hsh hR (lv_sub hl [0, 1, 2] rfl)
  refine lv_if_eq (tgt := 38) hx hb dX14_liveAt_15 (by decide) (fun c44 => ?_) (fun c44 => ?_)
  · replace h := h.1 (k_eq rfl (by decide) c44)
    exact J_38 S3 x1 r2 _ _ ls h  hsh hR (lv_sub hl [1, 2, 0] rfl)
  · replace h := h.2 (k_ne rfl (by decide) c44)
    refine lv_iload_n hx hb dX14_liveAt_18 rfl (lv_at hl 0 rfl) ?_
    refine lv_aload_n hx hb dX14_liveAt_19 rfl (lv_at hl 1 rfl) ?_
    refine va_get (D := rD g) (ci := 13) (v := .ref (ad 78)) (C := RX14) (T := TX14) (N := 143) hx hb hts in2X14 hown hR.K hR.P 0 (hR.at14 hR.w.1) rfl 125 (by decide) (hts _ kx_697) (fun _ h9 => h9) (congrArg (fun z => some (vf ad z)) (hR.w.2.1 _ fin_125).1) dX14_liveAt_20 ?_
    refine lv_iload_n hx hb dX14_liveAt_23 rfl (lv_at hl 2 rfl) ?_
    obtain ⟨hv45, h⟩ := h
    refine va_iald hx hb hR.K hR.P 78 1 (hR.atI (hR.w.2.1 _ fin_125).2.1) rfl (k_ixN (k_ix (n := 1200) (x := x1) (a := x1.toInt) rfl hv45) (hR.w.2.1 _ fin_125).2.2) dX14_liveAt_24 ?_
    refine lv_topi (fun z46 ez46 => ?_)
    obtain rfl : z46 = (qI S3 78 x1.toInt.toNat) := ez46
    refine lv_aload_n hx hb dX14_liveAt_25 rfl (lv_at hl 1 rfl) ?_
    refine va_get (D := rD g) (ci := 13) (v := .ref (ad 79)) (C := RX14) (T := TX14) (N := 143) hx hb hts in2X14 hown hR.K hR.P 0 (hR.at14 hR.w.1) rfl 126 (by decide) (hts _ kx_700) (fun _ h9 => h9) (congrArg (fun z => some (vf ad z)) (hR.w.2.1 _ fin_126).1) dX14_liveAt_26 ?_
    refine lv_iload_n hx hb dX14_liveAt_29 rfl (lv_at hl 2 rfl) ?_
    obtain ⟨hv47, h⟩ := h
    refine va_iald hx hb hR.K hR.P 79 1 (hR.atI (hR.w.2.1 _ fin_126).2.1) rfl (k_ixN (k_ix (n := 1200) (x := x1) (a := x1.toInt) rfl hv47) (hR.w.2.1 _ fin_126).2.2) dX14_liveAt_30 ?_
    refine lv_topi (fun z48 ez48 => ?_)
    obtain rfl : z48 = (qI S3 79 x1.toInt.toNat) := ez48
    obtain ⟨hv49, h⟩ := h
    have hFc := rfree hR hA
    refine va_calli (va_runS (As := [.int (qI S3 78 x1.toInt.toNat), .int (qI S3 79 x1.toInt.toNat)]) (rest := [.int r2]) ⟨hx, hb, hml, hown, hts⟩ (r_bitsOf l g ad H.size S3 (qI S3 78 x1.toInt.toNat) (qI S3 79 x1.toInt.toNat) hR.w  hv49) (va_cwS 2 hts (gd2_S kx_795 kx_796 kx_177 kx_797) rfl rfl rfl (by decide +kernel) ⟨Nat.le_of_ble_eq_true rfl, Nat.le_of_ble_eq_true rfl⟩) ⟨rblind, fun U hU hW9 => rmk hU hW9 hR hex hE hFc⟩ rfl rfl hl.1 rfl (lv_room (Nat.le_of_ble_eq_true rfl)) dX14_liveAt_31 ⟨Nat.le_of_ble_eq_true rfl, Nat.le_of_ble_eq_true rfl⟩) hR.sS (fun q _ h => hFc q h) hFc (fun r50 u9 t9 H1 locs ht9 hvm9 hw9 hB9 hz9 hk9 hS => ?_)
    have hR : Rep g ad A s S3 H1 locs := hR.call ht9 hB9 hR.w hS hFc
    obtain rfl : r50 = (f_bitsOf S3 (qI S3 78 x1.toInt.toNat) (qI S3 79 x1.toInt.toNat)) := hw9
    clear hB9 hz9 hk9 hvm9 ht9 hS
    generalize H1 = H at hR ⊢
    refine lv_iconst (v := (-1)) hx hb dX14_liveAt_34 (by decide) ?_
    refine lv_ixor hx hb dX14_liveAt_35 ?_
    refine lv_topi (fun z52 ez52 => ?_)
    obtain rfl : z52 = ((f_bitsOf S3 (qI S3 78 x1.toInt.toNat) (qI S3 79 x1.toInt.toNat)) ^^^ (-1 : Int32)) := ez52
    refine lv_iand hx hb dX14_liveAt_36 ?_
    refine lv_topi (fun z53 ez53 => ?_)
    obtain rfl : z53 = (r2 &&& ((f_bitsOf S3 (qI S3 78 x1.toInt.toNat) (qI S3 79 x1.toInt.toNat)) ^^^ (-1 : Int32))) := ez53
    obtain ⟨a54, ea54⟩ : ∃ z, z = (r2 &&& ((f_bitsOf S3 (qI S3 78 x1.toInt.toNat) (qI S3 79 x1.toInt.toNat)) ^^^ (-1 : Int32))) := ⟨_, rfl⟩
    rw [← ea54]
    replace h := h a54 ea54
    refine lv_istore_n (lv' := [(2, .int a54), (0, .ref (ad 0)), (1, .int x1)]) hx hb dX14_liveAt_37 rfl hl (by decide) rfl (fun ls hl => ?_)
    exact J_38 S3 x1 a54 _ _ ls h  hsh hR (lv_sub hl [1, 2, 0] rfl)
