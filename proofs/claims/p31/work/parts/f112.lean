def w_X11_putInt_J23 (Q : MS → Prop) (U23 : MS) (v23_1 : Int32) (v23_2 : Int32) : Prop := (wfC U23 → (d_X11_isByte U23 (v23_1.toInt64) ∧ (((fX11_isByte U23 (v23_1.toInt64)).toInt = 0 → ((v23_1.toInt = (v23_1.toInt16.toInt32).toInt → (qT U23 28 = 40 → (∃ Q23, wX0_put U23 28 (17 : Int32) Q23 ∧ ∀ S24, Q23 S24 → wfC S24 → shx U23 S24 → (qT S24 28 = 40 → (∃ Q27, wX0_put2 S24 28 v23_1 Q27 ∧ ∀ S28, Q27 S28 → wfC S28 → shx S24 S28 → Q S28))))) ∧ (¬ v23_1.toInt = (v23_1.toInt16.toInt32).toInt → ((256 ≤ v23_2.toInt → (qT U23 28 = 40 → (∃ Q7, wX0_put U23 28 (19 : Int32) Q7 ∧ ∀ S8, Q7 S8 → wfC S8 → shx U23 S8 → (qT S8 28 = 40 → (∃ Q11, wX0_put2 S8 28 v23_2 Q11 ∧ ∀ S12, Q11 S12 → wfC S12 → shx S8 S12 → Q S12))))) ∧ (¬ 256 ≤ v23_2.toInt → (qT U23 28 = 40 → (∃ Q15, wX0_put U23 28 (18 : Int32) Q15 ∧ ∀ S16, Q15 S16 → wfC S16 → shx U23 S16 → (qT S16 28 = 40 → (∃ Q19, wX0_put S16 28 v23_2 Q19 ∧ ∀ S20, Q19 S20 → wfC S20 → shx S16 S20 → Q S20))))))))) ∧ (¬ (fX11_isByte U23 (v23_1.toInt64)).toInt = 0 → (qT U23 28 = 40 → (∃ Q31, wX0_put U23 28 (16 : Int32) Q31 ∧ ∀ S32, Q31 S32 → wfC S32 → shx U23 S32 → (qT S32 28 = 40 → (∃ Q35, wX0_put S32 28 v23_1 Q35 ∧ ∀ S36, Q35 S36 → wfC S36 → shx S32 S36 → Q S36))))))))
def wX11_putInt (S : MS) (x1 : Int32) (x2 : Int32) (Q : MS → Prop) : Prop := ((x1.toInt < (-1) → w_X11_putInt_J23 Q S x1 x2) ∧ (¬ x1.toInt < (-1) → ((5 < x1.toInt → w_X11_putInt_J23 Q S x1 x2) ∧ (¬ 5 < x1.toInt → (qT S 28 = 40 → (∃ Q42, wX0_put S 28 (x1 + (3 : Int32)) Q42 ∧ ∀ S43, Q42 S43 → wfC S43 → shx S S43 → Q S43))))))
set_option maxHeartbeats 2000000 in
set_option maxRecDepth 100000 in
theorem rX11_putInt (l : Launch) (g : Gr) (ad : Nat → Nat) (H0 : Heap) (S : MS) (x1 : Int32) (x2 : Int32) (hw : wfC S) (Q : MS → Prop) (h : wX11_putInt S x1 x2 Q) : Met l yX11_putInt (wt yX11_putInt cX11_putInt 3 none) ({ frames := 4, cells := KCC - qn S, slots := KSC - qu S, locals := 104 }) (va_Pc [.ref (ad 25), .int x1, .int x2] (st_CH g ad H0 S)) (va_Qv (fun (u : MS × (Nat → Nat)) => Q u.1 ∧ wfC u.1 ∧ shx S u.1 ∧ adk ad u.2 S) (fun (u : MS × (Nat → Nat)) (t : State) => qEHC g (va_A (WdC g ad S) H0.size) S H0 u t) (va_A (WdC g ad S) H0.size)) (KCC - qn S) (KSC - qu S) (va_A (WdC g ad S) H0.size) := by
  refine Met.ofW (cc := cX11_putInt) (maxL := 3) (ret := none) (by decide) rfl ?_
  intro p e s m args below meth c s₁ B hml hv
  obtain ⟨rfl, hH0, hsz, hP, hK, hD0, hex, hE⟩ := hv
  have hx := B.exec
  have hb := B.bytes
  have hr := B.returns
  have hts0 := atoms_spec (ws := wt yX11_putInt cX11_putInt 3 none) B.pre
  have hts : ∀ w ∈ tb, w.before _ s = true := fun w h => hts0 w (List.mem_cons_of_mem _ h)
  have hown : s.vm.findClass RX11 = some m.cls := findClass_of_methodNamed B.named
  subst hH0
  have hD := hD0.self (sz := s.heap.size)
  generalize hAe : va_A (WdC g ad S) s.heap.size = A at hD hE ⊢
  have hA : ∀ q : Nat, s.heap.size ≤ q → A q := fun q h => by rw [← hAe]; exact Or.inr h
  have hR : RepC g ad A s S s.heap [] := ⟨hK, hP, hD, va_S.rf, hw⟩
  clear hK hP hD hD0
  have hl := lv_entry ([.ref (ad 25), .int x1, .int x2]) (n := 3) (Nat.le_of_ble_eq_true rfl)
  rw [lg_entry_eq]
  generalize (lg_sl ([.ref (ad 25), .int x1, .int x2]) ++ List.replicate (3 - (lg_sl ([.ref (ad 25), .int x1, .int x2])).length) Slot.unset).toArray = ls at hl ⊢
  have hlg : lgC S S 0 0 := lgC.rf
  have hak : adk ad ad S := adk.rf
  have hl : lv_has ls 3 [(0, .ref (ad 25)), (1, .int x1), (2, .int x2)] := hl
  have hsh : shx S S := shx.rf
  unfold wX11_putInt at h
  refine lv_iload_n hx hb dX11_putInt_0 rfl (lv_at hl 1 rfl) ?_
  refine lv_iconst (v := (-1)) hx hb dX11_putInt_1 (by decide) ?_
  have J_23 : ∀ (ad23 : Nat → Nat) (dc23 ds23 : Nat) (U23 : MS) (v23_1 : Int32) (v23_2 : Int32) (H : Heap) (locs : List Loc) (ls : Array Slot), w_X11_putInt_J23 Q U23 v23_1 v23_2 → shx S U23 → lgC S U23 dc23 ds23 → adk ad ad23 S → ogC ad23 A s s.heap → RepC g ad23 A s U23 H locs → lv_has ls 3 [(0, .ref (ad23 25)), (1, .int v23_1), (2, .int v23_2)] → W p l e (headSpec (wt yX11_putInt cX11_putInt 3 none) ({ frames := 4, cells := KCC - qn S, slots := KSC - qu S, locals := 104 })).room s m ([.ref (ad 25), .int x1, .int x2] : List Value).toArray below meth c H locs dc23 ds23 (MQ below (va_Qv (fun (u : MS × (Nat → Nat)) => Q u.1 ∧ wfC u.1 ∧ shx S u.1 ∧ adk ad u.2 S) (fun (u : MS × (Nat → Nat)) (t : State) => qEHC g A S s.heap u t) A) ([.ref (ad 25), .int x1, .int x2] : List Value).toArray s (KCC - qn S) (KSC - qu S) A) (F0 m 23 ls []) := by
    intro ad23 dc23 ds23 U23 v23_1 v23_2 H locs ls h hsh hlg hak hE hR hl
    unfold w_X11_putInt_J23 at h
    replace h := h hR.w
    refine lv_iload_n hx hb dX11_putInt_23 rfl (lv_at hl 1 rfl) ?_
    refine lv_i2l (v := (v23_1.toInt64)) hx hb dX11_putInt_24 rfl ?_
    obtain ⟨hv1, h⟩ := h
    have hFc := cfree hR hA
    refine va_calli (va_runS (As := [.long (v23_1.toInt64)]) (rest := []) ⟨hx, hb, hml, hown, hts⟩ (rX11_isByte l g ad23 H.size U23 (v23_1.toInt64) hR.w  hv1) (va_cwS 1 hts (gd_S kw_204 kw_174 kw_83 kw_173) rfl rfl rfl (by decide +kernel) ⟨Nat.le_of_ble_eq_true rfl, Nat.le_of_ble_eq_true rfl⟩) ⟨cblind, fun U hU hW9 => cmk hU hW9 hR hex hE hFc⟩ rfl rfl hl.1 rfl (lv_room (Nat.le_of_ble_eq_true rfl)) dX11_putInt_25 ⟨(show dc23 + 0 ≤ KCC - qn S from hlg.c), (show ds23 + 0 ≤ KSC - qu S from hlg.s)⟩) hR.sS (fun q _ h => hFc q h) hFc (fun r2 u9 t9 H1 locs ht9 hvm9 hw9 hB9 hz9 hk9 hS => ?_)
    have hR : RepC g ad23 A s U23 H1 locs := hR.call ht9 hB9 hR.w hS hFc
    obtain ⟨rfl, hz_r2⟩ := hw9
    clear hB9 hz9 hk9 hvm9 ht9 hS
    generalize H1 = H at hR ⊢
    refine lv_if_eq (tgt := 51) hx hb dX11_putInt_28 (by decide) (fun c4 => ?_) (fun c4 => ?_)
    · replace h := h.1 (k_eq rfl (by decide) c4)
      refine lv_iload_n hx hb dX11_putInt_51 rfl (lv_at hl 1 rfl) ?_
      refine lv_iload_n hx hb dX11_putInt_52 rfl (lv_at hl 1 rfl) ?_
      refine lv_i2s (v := (v23_1.toInt16.toInt32)) hx hb dX11_putInt_53 rfl ?_
      refine lv_icmp_ne (tgt := 77) hx hb dX11_putInt_54 (by decide) (fun c5 => ?_) (fun c5 => ?_)
      · replace h := h.2 (k_ne rfl rfl c5)
        refine lv_iload_n hx hb dX11_putInt_77 rfl (lv_at hl 2 rfl) ?_
        refine lv_sipush (v := 256) hx hb dX11_putInt_78 (by decide) ?_
        refine lv_icmp_ge (tgt := 104) hx hb dX11_putInt_81 (by decide) (fun c6 => ?_) (fun c6 => ?_)
        · replace h := h.1 (k_le (by decide) rfl c6)
          refine lv_aload_n hx hb dX11_putInt_104 rfl (lv_at hl 0 rfl) ?_
          refine va_get (D := rD g) (ci := 10) (v := .ref (ad23 28)) (C := RX11) (T := TX11) (N := 18) hx hb hts inX11 hown hR.K hR.P 25 (hR.at50 (hR.w.2.1 _ finC_28).2.1) rfl 1 (by decide) (hts _ kw_94) (fun _ h9 => h9) (congrArg (fun z => some (vf ad23 z)) (hR.w.2.1 _ finC_13).1) dX11_putInt_105 ?_
          refine lv_bipush (v := 19) hx hb dX11_putInt_108 (by decide) ?_
          replace h := h ((hR.w.2.1 _ finC_13).2.1)
          obtain ⟨Q7, h0, h⟩ := h
          have hFc := cfree hR hA
          refine W_led2 (fun hL0 => ?_)
          refine va_callv (va_runV (As := [.int 19]) (rest := []) ⟨hx, hb, hml, hown, hts⟩ (rX0_put l g ad23 H U23 28 (19 : Int32) hR.w (hR.w.2.1 _ finC_13).2.1 Q7 h0) (cwV 1 hts (gd_V kw_140 kw_13 kw_14 kw_3 kw_12) rfl rfl rfl (by decide +kernel) ⟨Nat.le_of_ble_eq_true rfl, Nat.le_of_ble_eq_true rfl⟩) ⟨cblindH, va_recv hR.K hR.P (ci := 0) (q0 := 28) rfl (hR.at40 (hR.w.2.1 _ finC_13).2.1), fun U hU hW9 => cmkH hU hW9 hR hex hE hFc⟩ rfl rfl hl.1 rfl (lv_room (Nat.le_of_ble_eq_true rfl)) dX11_putInt_110 ⟨(show dc23 + (KCC - qn U23) ≤ KCC - qn S from hlg.cm), (show ds23 + (KSC - qu U23) ≤ KSC - qu S from hlg.sm)⟩) hR.sS (fun q _ h => hFc q h) hFc (fun  S8 t9 H1 locs ht9 hvm9 hw9 hB9 hz9 hk9 hS => ?_)
          rcases S8 with ⟨S8, ak10⟩
          obtain ⟨hB9, dc9, ds9, hL9, hl9⟩ := hB9
          dsimp only at hw9 hB9 hl9
          rw [ht9] at hL9
          obtain ⟨hq9, hw9, hs9, hk8⟩ := hw9
          have hw8 := hR.w
          have hak := hak.tr hk8 hlg.2.2.1
          have hE := hE.ad hk8
          have hR : RepC g ak10 A s S8 H1 locs := hR.callH ht9 hB9 hw9 hS hFc
          have hsh := hsh.tr hs9
          refine W_tight2 (hL0.tr hL9).1 (hL0.tr hL9).2.1 ?_
          have hlg := hlg.call hl9
          replace h := h  S8 hq9 hw9 hs9
          have ea_0 : ak10 25 = ad23 25 := hk8 _ (hw8.hd (hw8.2.1 _ finC_28).2.1 (by decide) (by decide))
          have hl : lv_has ls 3 [(0, .ref (ak10 25)), (1, .int v23_1), (2, .int v23_2)] := by simp only [ea_0]; exact hl
          clear hB9 hz9 hk9 hvm9 ht9 hw9 hs9 hS hL0 hL9
          generalize H1 = H at hR ⊢
          generalize dc9 = dc_ak10, ds9 = ds_ak10 at hlg ⊢
          refine lv_aload_n hx hb dX11_putInt_113 rfl (lv_at hl 0 rfl) ?_
          refine va_get (D := rD g) (ci := 10) (v := .ref (ak10 28)) (C := RX11) (T := TX11) (N := 18) hx hb hts inX11 hown hR.K hR.P 25 (hR.at50 (hR.w.2.1 _ finC_28).2.1) rfl 1 (by decide) (hts _ kw_94) (fun _ h9 => h9) (congrArg (fun z => some (vf ak10 z)) (hR.w.2.1 _ finC_13).1) dX11_putInt_114 ?_
          refine lv_iload_n hx hb dX11_putInt_117 rfl (lv_at hl 2 rfl) ?_
          replace h := h ((hR.w.2.1 _ finC_13).2.1)
          obtain ⟨Q11, h0, h⟩ := h
          have hFc := cfree hR hA
          refine W_led2 (fun hL0 => ?_)
          refine va_callv (va_runV (As := [.int v23_2]) (rest := []) ⟨hx, hb, hml, hown, hts⟩ (rX0_put2 l g ak10 H S8 28 v23_2 hR.w (hR.w.2.1 _ finC_13).2.1 Q11 h0) (cwV 1 hts (gd_V kw_96 kw_17 kw_18 kw_3 kw_16) rfl rfl rfl (by decide +kernel) ⟨Nat.le_of_ble_eq_true rfl, Nat.le_of_ble_eq_true rfl⟩) ⟨cblindH, va_recv hR.K hR.P (ci := 0) (q0 := 28) rfl (hR.at40 (hR.w.2.1 _ finC_13).2.1), fun U hU hW9 => cmkH hU hW9 hR hex hE hFc⟩ rfl rfl hl.1 rfl (lv_room (Nat.le_of_ble_eq_true rfl)) dX11_putInt_118 ⟨(show dc23 + dc_ak10 + (KCC - qn S8) ≤ KCC - qn S from hlg.cm), (show ds23 + ds_ak10 + (KSC - qu S8) ≤ KSC - qu S from hlg.sm)⟩) hR.sS (fun q _ h => hFc q h) hFc (fun  S12 t9 H1 locs ht9 hvm9 hw9 hB9 hz9 hk9 hS => ?_)
          rcases S12 with ⟨S12, ak14⟩
          obtain ⟨hB9, dc9, ds9, hL9, hl9⟩ := hB9
          dsimp only at hw9 hB9 hl9
          rw [ht9] at hL9
          obtain ⟨hq13, hw9, hs9, hk8⟩ := hw9
          have hw8 := hR.w
          have hak := hak.tr hk8 hlg.2.2.1
          have hE := hE.ad hk8
          have hR : RepC g ak14 A s S12 H1 locs := hR.callH ht9 hB9 hw9 hS hFc
          have hsh := hsh.tr hs9
          refine W_tight2 (hL0.tr hL9).1 (hL0.tr hL9).2.1 ?_
          have hlg := hlg.call hl9
          replace h := h  S12 hq13 hw9 hs9
          have ea_0 : ak14 25 = ak10 25 := hk8 _ (hw8.hd (hw8.2.1 _ finC_28).2.1 (by decide) (by decide))
          have hl : lv_has ls 3 [(0, .ref (ak14 25)), (1, .int v23_1), (2, .int v23_2)] := by simp only [ea_0]; exact hl
          clear hB9 hz9 hk9 hvm9 ht9 hw9 hs9 hS hL0 hL9
          generalize H1 = H at hR ⊢
          generalize dc9 = dc_ak14, ds9 = ds_ak14 at hlg ⊢
          refine W_led2 (fun hLd => ?_)
          refine W.widen (k := KCC - qn S) (n := KSC - qu S) hlg.c hlg.s ?_
          exact W.vret hx hb hr (fun t9 ht9 hW9 => ⟨⟨(S12, ak14), rfl, ⟨h, hR.w, hsh, hak⟩, ⟨⟨by rw [ht9]; exact hR.P, hR.D⟩, _, _, by rw [ht9]; exact hLd, hlg⟩⟩, hR.sS.F ht9⟩) hR.sS.2.2 dX11_putInt_121
        · replace h := h.2 (k_nle (by decide) rfl c6)
          refine lv_aload_n hx hb dX11_putInt_84 rfl (lv_at hl 0 rfl) ?_
          refine va_get (D := rD g) (ci := 10) (v := .ref (ad23 28)) (C := RX11) (T := TX11) (N := 18) hx hb hts inX11 hown hR.K hR.P 25 (hR.at50 (hR.w.2.1 _ finC_28).2.1) rfl 1 (by decide) (hts _ kw_94) (fun _ h9 => h9) (congrArg (fun z => some (vf ad23 z)) (hR.w.2.1 _ finC_13).1) dX11_putInt_85 ?_
          refine lv_bipush (v := 18) hx hb dX11_putInt_88 (by decide) ?_
          replace h := h ((hR.w.2.1 _ finC_13).2.1)
          obtain ⟨Q15, h0, h⟩ := h
          have hFc := cfree hR hA
          refine W_led2 (fun hL0 => ?_)
          refine va_callv (va_runV (As := [.int 18]) (rest := []) ⟨hx, hb, hml, hown, hts⟩ (rX0_put l g ad23 H U23 28 (18 : Int32) hR.w (hR.w.2.1 _ finC_13).2.1 Q15 h0) (cwV 1 hts (gd_V kw_140 kw_13 kw_14 kw_3 kw_12) rfl rfl rfl (by decide +kernel) ⟨Nat.le_of_ble_eq_true rfl, Nat.le_of_ble_eq_true rfl⟩) ⟨cblindH, va_recv hR.K hR.P (ci := 0) (q0 := 28) rfl (hR.at40 (hR.w.2.1 _ finC_13).2.1), fun U hU hW9 => cmkH hU hW9 hR hex hE hFc⟩ rfl rfl hl.1 rfl (lv_room (Nat.le_of_ble_eq_true rfl)) dX11_putInt_90 ⟨(show dc23 + (KCC - qn U23) ≤ KCC - qn S from hlg.cm), (show ds23 + (KSC - qu U23) ≤ KSC - qu S from hlg.sm)⟩) hR.sS (fun q _ h => hFc q h) hFc (fun  S16 t9 H1 locs ht9 hvm9 hw9 hB9 hz9 hk9 hS => ?_)
          rcases S16 with ⟨S16, ak18⟩
          obtain ⟨hB9, dc9, ds9, hL9, hl9⟩ := hB9
          dsimp only at hw9 hB9 hl9
          rw [ht9] at hL9
          obtain ⟨hq17, hw9, hs9, hk8⟩ := hw9
          have hw8 := hR.w
          have hak := hak.tr hk8 hlg.2.2.1
          have hE := hE.ad hk8
          have hR : RepC g ak18 A s S16 H1 locs := hR.callH ht9 hB9 hw9 hS hFc
          have hsh := hsh.tr hs9
          refine W_tight2 (hL0.tr hL9).1 (hL0.tr hL9).2.1 ?_
          have hlg := hlg.call hl9
          replace h := h  S16 hq17 hw9 hs9
          have ea_0 : ak18 25 = ad23 25 := hk8 _ (hw8.hd (hw8.2.1 _ finC_28).2.1 (by decide) (by decide))
          have hl : lv_has ls 3 [(0, .ref (ak18 25)), (1, .int v23_1), (2, .int v23_2)] := by simp only [ea_0]; exact hl
          clear hB9 hz9 hk9 hvm9 ht9 hw9 hs9 hS hL0 hL9
          generalize H1 = H at hR ⊢
          generalize dc9 = dc_ak18, ds9 = ds_ak18 at hlg ⊢
          refine lv_aload_n hx hb dX11_putInt_93 rfl (lv_at hl 0 rfl) ?_
          refine va_get (D := rD g) (ci := 10) (v := .ref (ak18 28)) (C := RX11) (T := TX11) (N := 18) hx hb hts inX11 hown hR.K hR.P 25 (hR.at50 (hR.w.2.1 _ finC_28).2.1) rfl 1 (by decide) (hts _ kw_94) (fun _ h9 => h9) (congrArg (fun z => some (vf ak18 z)) (hR.w.2.1 _ finC_13).1) dX11_putInt_94 ?_
          refine lv_iload_n hx hb dX11_putInt_97 rfl (lv_at hl 2 rfl) ?_
          replace h := h ((hR.w.2.1 _ finC_13).2.1)
          obtain ⟨Q19, h0, h⟩ := h
          have hFc := cfree hR hA
          refine W_led2 (fun hL0 => ?_)
          refine va_callv (va_runV (As := [.int v23_2]) (rest := []) ⟨hx, hb, hml, hown, hts⟩ (rX0_put l g ak18 H S16 28 v23_2 hR.w (hR.w.2.1 _ finC_13).2.1 Q19 h0) (cwV 1 hts (gd_V kw_140 kw_13 kw_14 kw_3 kw_12) rfl rfl rfl (by decide +kernel) ⟨Nat.le_of_ble_eq_true rfl, Nat.le_of_ble_eq_true rfl⟩) ⟨cblindH, va_recv hR.K hR.P (ci := 0) (q0 := 28) rfl (hR.at40 (hR.w.2.1 _ finC_13).2.1), fun U hU hW9 => cmkH hU hW9 hR hex hE hFc⟩ rfl rfl hl.1 rfl (lv_room (Nat.le_of_ble_eq_true rfl)) dX11_putInt_98 ⟨(show dc23 + dc_ak18 + (KCC - qn S16) ≤ KCC - qn S from hlg.cm), (show ds23 + ds_ak18 + (KSC - qu S16) ≤ KSC - qu S from hlg.sm)⟩) hR.sS (fun q _ h => hFc q h) hFc (fun  S20 t9 H1 locs ht9 hvm9 hw9 hB9 hz9 hk9 hS => ?_)
          rcases S20 with ⟨S20, ak22⟩
          obtain ⟨hB9, dc9, ds9, hL9, hl9⟩ := hB9
          dsimp only at hw9 hB9 hl9
          rw [ht9] at hL9
          obtain ⟨hq21, hw9, hs9, hk8⟩ := hw9
          have hw8 := hR.w
          have hak := hak.tr hk8 hlg.2.2.1
          have hE := hE.ad hk8
          have hR : RepC g ak22 A s S20 H1 locs := hR.callH ht9 hB9 hw9 hS hFc
          have hsh := hsh.tr hs9
          refine W_tight2 (hL0.tr hL9).1 (hL0.tr hL9).2.1 ?_
          have hlg := hlg.call hl9
          replace h := h  S20 hq21 hw9 hs9
          have ea_0 : ak22 25 = ak18 25 := hk8 _ (hw8.hd (hw8.2.1 _ finC_28).2.1 (by decide) (by decide))
          have hl : lv_has ls 3 [(0, .ref (ak22 25)), (1, .int v23_1), (2, .int v23_2)] := by simp only [ea_0]; exact hl
          clear hB9 hz9 hk9 hvm9 ht9 hw9 hs9 hS hL0 hL9
          generalize H1 = H at hR ⊢
          generalize dc9 = dc_ak22, ds9 = ds_ak22 at hlg ⊢
          refine lv_goto (tgt := 121) hx hb dX11_putInt_101 (by decide) ?_
          refine W_led2 (fun hLd => ?_)
          refine W.widen (k := KCC - qn S) (n := KSC - qu S) hlg.c hlg.s ?_
          exact W.vret hx hb hr (fun t9 ht9 hW9 => ⟨⟨(S20, ak22), rfl, ⟨h, hR.w, hsh, hak⟩, ⟨⟨by rw [ht9]; exact hR.P, hR.D⟩, _, _, by rw [ht9]; exact hLd, hlg⟩⟩, hR.sS.F ht9⟩) hR.sS.2.2 dX11_putInt_121
      · replace h := h.1 (k_eq rfl rfl c5)
        refine lv_aload_n hx hb dX11_putInt_57 rfl (lv_at hl 0 rfl) ?_
        refine va_get (D := rD g) (ci := 10) (v := .ref (ad23 28)) (C := RX11) (T := TX11) (N := 18) hx hb hts inX11 hown hR.K hR.P 25 (hR.at50 (hR.w.2.1 _ finC_28).2.1) rfl 1 (by decide) (hts _ kw_94) (fun _ h9 => h9) (congrArg (fun z => some (vf ad23 z)) (hR.w.2.1 _ finC_13).1) dX11_putInt_58 ?_
        refine lv_bipush (v := 17) hx hb dX11_putInt_61 (by decide) ?_
        replace h := h ((hR.w.2.1 _ finC_13).2.1)
        obtain ⟨Q23, h0, h⟩ := h
        have hFc := cfree hR hA
        refine W_led2 (fun hL0 => ?_)
        refine va_callv (va_runV (As := [.int 17]) (rest := []) ⟨hx, hb, hml, hown, hts⟩ (rX0_put l g ad23 H U23 28 (17 : Int32) hR.w (hR.w.2.1 _ finC_13).2.1 Q23 h0) (cwV 1 hts (gd_V kw_140 kw_13 kw_14 kw_3 kw_12) rfl rfl rfl (by decide +kernel) ⟨Nat.le_of_ble_eq_true rfl, Nat.le_of_ble_eq_true rfl⟩) ⟨cblindH, va_recv hR.K hR.P (ci := 0) (q0 := 28) rfl (hR.at40 (hR.w.2.1 _ finC_13).2.1), fun U hU hW9 => cmkH hU hW9 hR hex hE hFc⟩ rfl rfl hl.1 rfl (lv_room (Nat.le_of_ble_eq_true rfl)) dX11_putInt_63 ⟨(show dc23 + (KCC - qn U23) ≤ KCC - qn S from hlg.cm), (show ds23 + (KSC - qu U23) ≤ KSC - qu S from hlg.sm)⟩) hR.sS (fun q _ h => hFc q h) hFc (fun  S24 t9 H1 locs ht9 hvm9 hw9 hB9 hz9 hk9 hS => ?_)
        rcases S24 with ⟨S24, ak26⟩
        obtain ⟨hB9, dc9, ds9, hL9, hl9⟩ := hB9
        dsimp only at hw9 hB9 hl9
        rw [ht9] at hL9
        obtain ⟨hq25, hw9, hs9, hk8⟩ := hw9
        have hw8 := hR.w
        have hak := hak.tr hk8 hlg.2.2.1
        have hE := hE.ad hk8
        have hR : RepC g ak26 A s S24 H1 locs := hR.callH ht9 hB9 hw9 hS hFc
        have hsh := hsh.tr hs9
        refine W_tight2 (hL0.tr hL9).1 (hL0.tr hL9).2.1 ?_
        have hlg := hlg.call hl9
        replace h := h  S24 hq25 hw9 hs9
        have ea_0 : ak26 25 = ad23 25 := hk8 _ (hw8.hd (hw8.2.1 _ finC_28).2.1 (by decide) (by decide))
        have hl : lv_has ls 3 [(0, .ref (ak26 25)), (1, .int v23_1), (2, .int v23_2)] := by simp only [ea_0]; exact hl
        clear hB9 hz9 hk9 hvm9 ht9 hw9 hs9 hS hL0 hL9
        generalize H1 = H at hR ⊢
        generalize dc9 = dc_ak26, ds9 = ds_ak26 at hlg ⊢
        refine lv_aload_n hx hb dX11_putInt_66 rfl (lv_at hl 0 rfl) ?_
        refine va_get (D := rD g) (ci := 10) (v := .ref (ak26 28)) (C := RX11) (T := TX11) (N := 18) hx hb hts inX11 hown hR.K hR.P 25 (hR.at50 (hR.w.2.1 _ finC_28).2.1) rfl 1 (by decide) (hts _ kw_94) (fun _ h9 => h9) (congrArg (fun z => some (vf ak26 z)) (hR.w.2.1 _ finC_13).1) dX11_putInt_67 ?_
        refine lv_iload_n hx hb dX11_putInt_70 rfl (lv_at hl 1 rfl) ?_
        replace h := h ((hR.w.2.1 _ finC_13).2.1)
        obtain ⟨Q27, h0, h⟩ := h
        have hFc := cfree hR hA
        refine W_led2 (fun hL0 => ?_)
        refine va_callv (va_runV (As := [.int v23_1]) (rest := []) ⟨hx, hb, hml, hown, hts⟩ (rX0_put2 l g ak26 H S24 28 v23_1 hR.w (hR.w.2.1 _ finC_13).2.1 Q27 h0) (cwV 1 hts (gd_V kw_96 kw_17 kw_18 kw_3 kw_16) rfl rfl rfl (by decide +kernel) ⟨Nat.le_of_ble_eq_true rfl, Nat.le_of_ble_eq_true rfl⟩) ⟨cblindH, va_recv hR.K hR.P (ci := 0) (q0 := 28) rfl (hR.at40 (hR.w.2.1 _ finC_13).2.1), fun U hU hW9 => cmkH hU hW9 hR hex hE hFc⟩ rfl rfl hl.1 rfl (lv_room (Nat.le_of_ble_eq_true rfl)) dX11_putInt_71 ⟨(show dc23 + dc_ak26 + (KCC - qn S24) ≤ KCC - qn S from hlg.cm), (show ds23 + ds_ak26 + (KSC - qu S24) ≤ KSC - qu S from hlg.sm)⟩) hR.sS (fun q _ h => hFc q h) hFc (fun  S28 t9 H1 locs ht9 hvm9 hw9 hB9 hz9 hk9 hS => ?_)
        rcases S28 with ⟨S28, ak30⟩
        obtain ⟨hB9, dc9, ds9, hL9, hl9⟩ := hB9
        dsimp only at hw9 hB9 hl9
        rw [ht9] at hL9
        obtain ⟨hq29, hw9, hs9, hk8⟩ := hw9
        have hw8 := hR.w
        have hak := hak.tr hk8 hlg.2.2.1
        have hE := hE.ad hk8
        have hR : RepC g ak30 A s S28 H1 locs := hR.callH ht9 hB9 hw9 hS hFc
        have hsh := hsh.tr hs9
        refine W_tight2 (hL0.tr hL9).1 (hL0.tr hL9).2.1 ?_
        have hlg := hlg.call hl9
        replace h := h  S28 hq29 hw9 hs9
        have ea_0 : ak30 25 = ak26 25 := hk8 _ (hw8.hd (hw8.2.1 _ finC_28).2.1 (by decide) (by decide))
        have hl : lv_has ls 3 [(0, .ref (ak30 25)), (1, .int v23_1), (2, .int v23_2)] := by simp only [ea_0]; exact hl
        clear hB9 hz9 hk9 hvm9 ht9 hw9 hs9 hS hL0 hL9
        generalize H1 = H at hR ⊢
        generalize dc9 = dc_ak30, ds9 = ds_ak30 at hlg ⊢
        refine lv_goto (tgt := 121) hx hb dX11_putInt_74 (by decide) ?_
        refine W_led2 (fun hLd => ?_)
        refine W.widen (k := KCC - qn S) (n := KSC - qu S) hlg.c hlg.s ?_
        exact W.vret hx hb hr (fun t9 ht9 hW9 => ⟨⟨(S28, ak30), rfl, ⟨h, hR.w, hsh, hak⟩, ⟨⟨by rw [ht9]; exact hR.P, hR.D⟩, _, _, by rw [ht9]; exact hLd, hlg⟩⟩, hR.sS.F ht9⟩) hR.sS.2.2 dX11_putInt_121
    · replace h := h.2 (k_ne rfl (by decide) c4)
      refine lv_aload_n hx hb dX11_putInt_31 rfl (lv_at hl 0 rfl) ?_
      refine va_get (D := rD g) (ci := 10) (v := .ref (ad23 28)) (C := RX11) (T := TX11) (N := 18) hx hb hts inX11 hown hR.K hR.P 25 (hR.at50 (hR.w.2.1 _ finC_28).2.1) rfl 1 (by decide) (hts _ kw_94) (fun _ h9 => h9) (congrArg (fun z => some (vf ad23 z)) (hR.w.2.1 _ finC_13).1) dX11_putInt_32 ?_
      refine lv_bipush (v := 16) hx hb dX11_putInt_35 (by decide) ?_
      replace h := h ((hR.w.2.1 _ finC_13).2.1)
      obtain ⟨Q31, h0, h⟩ := h
      have hFc := cfree hR hA
      refine W_led2 (fun hL0 => ?_)
      refine va_callv (va_runV (As := [.int 16]) (rest := []) ⟨hx, hb, hml, hown, hts⟩ (rX0_put l g ad23 H U23 28 (16 : Int32) hR.w (hR.w.2.1 _ finC_13).2.1 Q31 h0) (cwV 1 hts (gd_V kw_140 kw_13 kw_14 kw_3 kw_12) rfl rfl rfl (by decide +kernel) ⟨Nat.le_of_ble_eq_true rfl, Nat.le_of_ble_eq_true rfl⟩) ⟨cblindH, va_recv hR.K hR.P (ci := 0) (q0 := 28) rfl (hR.at40 (hR.w.2.1 _ finC_13).2.1), fun U hU hW9 => cmkH hU hW9 hR hex hE hFc⟩ rfl rfl hl.1 rfl (lv_room (Nat.le_of_ble_eq_true rfl)) dX11_putInt_37 ⟨(show dc23 + (KCC - qn U23) ≤ KCC - qn S from hlg.cm), (show ds23 + (KSC - qu U23) ≤ KSC - qu S from hlg.sm)⟩) hR.sS (fun q _ h => hFc q h) hFc (fun  S32 t9 H1 locs ht9 hvm9 hw9 hB9 hz9 hk9 hS => ?_)
      rcases S32 with ⟨S32, ak34⟩
      obtain ⟨hB9, dc9, ds9, hL9, hl9⟩ := hB9
      dsimp only at hw9 hB9 hl9
      rw [ht9] at hL9
      obtain ⟨hq33, hw9, hs9, hk8⟩ := hw9
      have hw8 := hR.w
      have hak := hak.tr hk8 hlg.2.2.1
      have hE := hE.ad hk8
      have hR : RepC g ak34 A s S32 H1 locs := hR.callH ht9 hB9 hw9 hS hFc
      have hsh := hsh.tr hs9
      refine W_tight2 (hL0.tr hL9).1 (hL0.tr hL9).2.1 ?_
      have hlg := hlg.call hl9
      replace h := h  S32 hq33 hw9 hs9
      have ea_0 : ak34 25 = ad23 25 := hk8 _ (hw8.hd (hw8.2.1 _ finC_28).2.1 (by decide) (by decide))
      have hl : lv_has ls 3 [(0, .ref (ak34 25)), (1, .int v23_1), (2, .int v23_2)] := by simp only [ea_0]; exact hl
      clear hB9 hz9 hk9 hvm9 ht9 hw9 hs9 hS hL0 hL9
      generalize H1 = H at hR ⊢
      generalize dc9 = dc_ak34, ds9 = ds_ak34 at hlg ⊢
      refine lv_aload_n hx hb dX11_putInt_40 rfl (lv_at hl 0 rfl) ?_
      refine va_get (D := rD g) (ci := 10) (v := .ref (ak34 28)) (C := RX11) (T := TX11) (N := 18) hx hb hts inX11 hown hR.K hR.P 25 (hR.at50 (hR.w.2.1 _ finC_28).2.1) rfl 1 (by decide) (hts _ kw_94) (fun _ h9 => h9) (congrArg (fun z => some (vf ak34 z)) (hR.w.2.1 _ finC_13).1) dX11_putInt_41 ?_
      refine lv_iload_n hx hb dX11_putInt_44 rfl (lv_at hl 1 rfl) ?_
      replace h := h ((hR.w.2.1 _ finC_13).2.1)
      obtain ⟨Q35, h0, h⟩ := h
      have hFc := cfree hR hA
      refine W_led2 (fun hL0 => ?_)
      refine va_callv (va_runV (As := [.int v23_1]) (rest := []) ⟨hx, hb, hml, hown, hts⟩ (rX0_put l g ak34 H S32 28 v23_1 hR.w (hR.w.2.1 _ finC_13).2.1 Q35 h0) (cwV 1 hts (gd_V kw_140 kw_13 kw_14 kw_3 kw_12) rfl rfl rfl (by decide +kernel) ⟨Nat.le_of_ble_eq_true rfl, Nat.le_of_ble_eq_true rfl⟩) ⟨cblindH, va_recv hR.K hR.P (ci := 0) (q0 := 28) rfl (hR.at40 (hR.w.2.1 _ finC_13).2.1), fun U hU hW9 => cmkH hU hW9 hR hex hE hFc⟩ rfl rfl hl.1 rfl (lv_room (Nat.le_of_ble_eq_true rfl)) dX11_putInt_45 ⟨(show dc23 + dc_ak34 + (KCC - qn S32) ≤ KCC - qn S from hlg.cm), (show ds23 + ds_ak34 + (KSC - qu S32) ≤ KSC - qu S from hlg.sm)⟩) hR.sS (fun q _ h => hFc q h) hFc (fun  S36 t9 H1 locs ht9 hvm9 hw9 hB9 hz9 hk9 hS => ?_)
      rcases S36 with ⟨S36, ak38⟩
      obtain ⟨hB9, dc9, ds9, hL9, hl9⟩ := hB9
      dsimp only at hw9 hB9 hl9
      rw [ht9] at hL9
      obtain ⟨hq37, hw9, hs9, hk8⟩ := hw9
      have hw8 := hR.w
      have hak := hak.tr hk8 hlg.2.2.1
      have hE := hE.ad hk8
      have hR : RepC g ak38 A s S36 H1 locs := hR.callH ht9 hB9 hw9 hS hFc
      have hsh := hsh.tr hs9
      refine W_tight2 (hL0.tr hL9).1 (hL0.tr hL9).2.1 ?_
      have hlg := hlg.call hl9
      replace h := h  S36 hq37 hw9 hs9
      have ea_0 : ak38 25 = ak34 25 := hk8 _ (hw8.hd (hw8.2.1 _ finC_28).2.1 (by decide) (by decide))
      have hl : lv_has ls 3 [(0, .ref (ak38 25)), (1, .int v23_1), (2, .int v23_2)] := by simp only [ea_0]; exact hl
      clear hB9 hz9 hk9 hvm9 ht9 hw9 hs9 hS hL0 hL9
      generalize H1 = H at hR ⊢
      generalize dc9 = dc_ak38, ds9 = ds_ak38 at hlg ⊢
      refine lv_goto (tgt := 121) hx hb dX11_putInt_48 (by decide) ?_
      refine W_led2 (fun hLd => ?_)
      refine W.widen (k := KCC - qn S) (n := KSC - qu S) hlg.c hlg.s ?_
      exact W.vret hx hb hr (fun t9 ht9 hW9 => ⟨⟨(S36, ak38), rfl, ⟨h, hR.w, hsh, hak⟩, ⟨⟨by rw [ht9]; exact hR.P, hR.D⟩, _, _, by rw [ht9]; exact hLd, hlg⟩⟩, hR.sS.F ht9⟩) hR.sS.2.2 dX11_putInt_121
  refine lv_icmp_lt (tgt := 23) hx hb dX11_putInt_2 (by decide) (fun c39 => ?_) (fun c39 => ?_)
  · replace h := h.1 (k_lt rfl (by decide) c39)
    exact J_23 ad (0) (0) S x1 x2 _ _ ls h  hsh hlg hak hE hR (lv_sub hl [0, 1, 2] rfl)
  · replace h := h.2 (k_nlt rfl (by decide) c39)
    refine lv_iload_n hx hb dX11_putInt_5 rfl (lv_at hl 1 rfl) ?_
    refine lv_iconst (v := 5) hx hb dX11_putInt_6 (by decide) ?_
    refine lv_icmp_gt (tgt := 23) hx hb dX11_putInt_7 (by decide) (fun c40 => ?_) (fun c40 => ?_)
    · replace h := h.1 (k_lt (by decide) rfl c40)
      exact J_23 ad (0) (0) S x1 x2 _ _ ls h  hsh hlg hak hE hR (lv_sub hl [0, 1, 2] rfl)
    · replace h := h.2 (k_nlt (by decide) rfl c40)
      refine lv_aload_n hx hb dX11_putInt_10 rfl (lv_at hl 0 rfl) ?_
      refine va_get (D := rD g) (ci := 10) (v := .ref (ad 28)) (C := RX11) (T := TX11) (N := 18) hx hb hts inX11 hown hR.K hR.P 25 (hR.at50 (hR.w.2.1 _ finC_28).2.1) rfl 1 (by decide) (hts _ kw_94) (fun _ h9 => h9) (congrArg (fun z => some (vf ad z)) (hR.w.2.1 _ finC_13).1) dX11_putInt_11 ?_
      refine lv_iload_n hx hb dX11_putInt_14 rfl (lv_at hl 1 rfl) ?_
      refine lv_iconst (v := 3) hx hb dX11_putInt_15 (by decide) ?_
      refine lv_iadd hx hb dX11_putInt_16 ?_
      refine lv_topi (fun z41 ez41 => ?_)
      obtain rfl : z41 = (x1 + (3 : Int32)) := ez41
      replace h := h ((hR.w.2.1 _ finC_13).2.1)
      obtain ⟨Q42, h0, h⟩ := h
      have hFc := cfree hR hA
      refine W_led2 (fun hL0 => ?_)
      refine va_callv (va_runV (As := [.int (x1 + (3 : Int32))]) (rest := []) ⟨hx, hb, hml, hown, hts⟩ (rX0_put l g ad s.heap S 28 (x1 + (3 : Int32)) hR.w (hR.w.2.1 _ finC_13).2.1 Q42 h0) (cwV 1 hts (gd_V kw_140 kw_13 kw_14 kw_3 kw_12) rfl rfl rfl (by decide +kernel) ⟨Nat.le_of_ble_eq_true rfl, Nat.le_of_ble_eq_true rfl⟩) ⟨cblindH, va_recv hR.K hR.P (ci := 0) (q0 := 28) rfl (hR.at40 (hR.w.2.1 _ finC_13).2.1), fun U hU hW9 => cmkH hU hW9 hR hex hE hFc⟩ rfl rfl hl.1 rfl (lv_room (Nat.le_of_ble_eq_true rfl)) dX11_putInt_17 ⟨(show 0 + (KCC - qn S) ≤ KCC - qn S from hlg.cm), (show 0 + (KSC - qu S) ≤ KSC - qu S from hlg.sm)⟩) hR.sS (fun q _ h => hFc q h) hFc (fun  S43 t9 H1 locs ht9 hvm9 hw9 hB9 hz9 hk9 hS => ?_)
      rcases S43 with ⟨S43, ak45⟩
      obtain ⟨hB9, dc9, ds9, hL9, hl9⟩ := hB9
      dsimp only at hw9 hB9 hl9
      rw [ht9] at hL9
      obtain ⟨hq44, hw9, hs9, hk8⟩ := hw9
      have hw8 := hR.w
      have hak := hak.tr hk8 hlg.2.2.1
      have hE := hE.ad hk8
      have hR : RepC g ak45 A s S43 H1 locs := hR.callH ht9 hB9 hw9 hS hFc
      have hsh := hsh.tr hs9
      refine W_tight2 (hL0.tr hL9).1 (hL0.tr hL9).2.1 ?_
      have hlg := hlg.call hl9
      replace h := h  S43 hq44 hw9 hs9
      have ea_0 : ak45 25 = ad 25 := hk8 _ (hw8.hd (hw8.2.1 _ finC_28).2.1 (by decide) (by decide))
      have hl : lv_has ls 3 [(0, .ref (ak45 25)), (1, .int x1), (2, .int x2)] := by simp only [ea_0]; exact hl
      clear hB9 hz9 hk9 hvm9 ht9 hw9 hs9 hS hL0 hL9
      generalize H1 = H at hR ⊢
      generalize dc9 = dc_ak45, ds9 = ds_ak45 at hlg ⊢
      refine lv_goto (tgt := 121) hx hb dX11_putInt_20 (by decide) ?_
      refine W_led2 (fun hLd => ?_)
      refine W.widen (k := KCC - qn S) (n := KSC - qu S) hlg.c hlg.s ?_
      exact W.vret hx hb hr (fun t9 ht9 hW9 => ⟨⟨(S43, ak45), rfl, ⟨h, hR.w, hsh, hak⟩, ⟨⟨by rw [ht9]; exact hR.P, hR.D⟩, _, _, by rw [ht9]; exact hLd, hlg⟩⟩, hR.sS.F ht9⟩) hR.sS.2.2 dX11_putInt_121
def w_X11_putLong_J12 (Q : MS → Prop) (U12 : MS) (v12_1 : Int64) : Prop := (wfC U12 → (qT U12 28 = 40 → (∃ Q3, wX0_put U12 28 ((9 : Int32) + (v12_1.toInt32)) Q3 ∧ ∀ S4, Q3 S4 → wfC S4 → shx U12 S4 → Q S4)))
def wX11_putLong (S : MS) (y1 : Int64) (x3 : Int32) (Q : MS → Prop) : Prop := (((lg_cmp y1 0).toInt = 0 → w_X11_putLong_J12 Q S y1) ∧ (¬ (lg_cmp y1 0).toInt = 0 → (((lg_cmp y1 1).toInt = 0 → w_X11_putLong_J12 Q S y1) ∧ (¬ (lg_cmp y1 1).toInt = 0 → (qT S 28 = 40 → (∃ Q10, wX0_put S 28 (20 : Int32) Q10 ∧ ∀ S11, Q10 S11 → wfC S11 → shx S S11 → (qT S11 28 = 40 → (∃ Q14, wX0_put2 S11 28 x3 Q14 ∧ ∀ S15, Q14 S15 → wfC S15 → shx S11 S15 → Q S15))))))))
set_option maxHeartbeats 2000000 in
set_option maxRecDepth 100000 in
theorem rX11_putLong (l : Launch) (g : Gr) (ad : Nat → Nat) (H0 : Heap) (S : MS) (y1 : Int64) (x3 : Int32) (hw : wfC S) (Q : MS → Prop) (h : wX11_putLong S y1 x3 Q) : Met l yX11_putLong (wt yX11_putLong cX11_putLong 4 none) ({ frames := 4, cells := KCC - qn S, slots := KSC - qu S, locals := 104 }) (va_Pc [.ref (ad 25), .long y1, .int x3] (st_CH g ad H0 S)) (va_Qv (fun (u : MS × (Nat → Nat)) => Q u.1 ∧ wfC u.1 ∧ shx S u.1 ∧ adk ad u.2 S) (fun (u : MS × (Nat → Nat)) (t : State) => qEHC g (va_A (WdC g ad S) H0.size) S H0 u t) (va_A (WdC g ad S) H0.size)) (KCC - qn S) (KSC - qu S) (va_A (WdC g ad S) H0.size) := by
  refine Met.ofW (cc := cX11_putLong) (maxL := 4) (ret := none) (by decide) rfl ?_
  intro p e s m args below meth c s₁ B hml hv
  obtain ⟨rfl, hH0, hsz, hP, hK, hD0, hex, hE⟩ := hv
  have hx := B.exec
  have hb := B.bytes
  have hr := B.returns
  have hts0 := atoms_spec (ws := wt yX11_putLong cX11_putLong 4 none) B.pre
  have hts : ∀ w ∈ tb, w.before _ s = true := fun w h => hts0 w (List.mem_cons_of_mem _ h)
  have hown : s.vm.findClass RX11 = some m.cls := findClass_of_methodNamed B.named
  subst hH0
  have hD := hD0.self (sz := s.heap.size)
  generalize hAe : va_A (WdC g ad S) s.heap.size = A at hD hE ⊢
  have hA : ∀ q : Nat, s.heap.size ≤ q → A q := fun q h => by rw [← hAe]; exact Or.inr h
  have hR : RepC g ad A s S s.heap [] := ⟨hK, hP, hD, va_S.rf, hw⟩
  clear hK hP hD hD0
  have hl := lv_entry ([.ref (ad 25), .long y1, .int x3]) (n := 4) (Nat.le_of_ble_eq_true rfl)
  rw [lg_entry_eq]
  generalize (lg_sl ([.ref (ad 25), .long y1, .int x3]) ++ List.replicate (4 - (lg_sl ([.ref (ad 25), .long y1, .int x3])).length) Slot.unset).toArray = ls at hl ⊢
  have hlg : lgC S S 0 0 := lgC.rf
  have hak : adk ad ad S := adk.rf
  have hl : lv_has ls 4 [(0, .ref (ad 25)), (1, .long y1), (3, .int x3)] := hl
  have hsh : shx S S := shx.rf
  unfold wX11_putLong at h
  refine lv_lload_n hx hb dX11_putLong_0 rfl (lv_at hl 1 rfl) ?_
  refine lv_lconst (v := 0) hx hb dX11_putLong_1 (by decide) ?_
  refine W.lcmp hx hb dX11_putLong_2 ?_
  refine lv_topi (fun z1 ez1 => ?_)
  obtain rfl : z1 = (lg_cmp y1 0) := ez1
  have J_12 : ∀ (ad12 : Nat → Nat) (dc12 ds12 : Nat) (U12 : MS) (v12_1 : Int64) (H : Heap) (locs : List Loc) (ls : Array Slot), w_X11_putLong_J12 Q U12 v12_1 → shx S U12 → lgC S U12 dc12 ds12 → adk ad ad12 S → ogC ad12 A s s.heap → RepC g ad12 A s U12 H locs → lv_has ls 4 [(0, .ref (ad12 25)), (1, .long v12_1)] → W p l e (headSpec (wt yX11_putLong cX11_putLong 4 none) ({ frames := 4, cells := KCC - qn S, slots := KSC - qu S, locals := 104 })).room s m ([.ref (ad 25), .long y1, .int x3] : List Value).toArray below meth c H locs dc12 ds12 (MQ below (va_Qv (fun (u : MS × (Nat → Nat)) => Q u.1 ∧ wfC u.1 ∧ shx S u.1 ∧ adk ad u.2 S) (fun (u : MS × (Nat → Nat)) (t : State) => qEHC g A S s.heap u t) A) ([.ref (ad 25), .long y1, .int x3] : List Value).toArray s (KCC - qn S) (KSC - qu S) A) (F0 m 12 ls []) := by
    intro ad12 dc12 ds12 U12 v12_1 H locs ls h hsh hlg hak hE hR hl
    unfold w_X11_putLong_J12 at h
    replace h := h hR.w
    refine lv_aload_n hx hb dX11_putLong_12 rfl (lv_at hl 0 rfl) ?_
    refine va_get (D := rD g) (ci := 10) (v := .ref (ad12 28)) (C := RX11) (T := TX11) (N := 18) hx hb hts inX11 hown hR.K hR.P 25 (hR.at50 (hR.w.2.1 _ finC_28).2.1) rfl 1 (by decide) (hts _ kw_94) (fun _ h9 => h9) (congrArg (fun z => some (vf ad12 z)) (hR.w.2.1 _ finC_13).1) dX11_putLong_13 ?_
    refine lv_bipush (v := 9) hx hb dX11_putLong_16 (by decide) ?_
    refine lv_lload_n hx hb dX11_putLong_18 rfl (lv_at hl 1 rfl) ?_
    refine lv_l2i (v := (v12_1.toInt32)) hx hb dX11_putLong_19 rfl ?_
    refine lv_iadd hx hb dX11_putLong_20 ?_
    refine lv_topi (fun z2 ez2 => ?_)
    obtain rfl : z2 = ((9 : Int32) + (v12_1.toInt32)) := ez2
    replace h := h ((hR.w.2.1 _ finC_13).2.1)
    obtain ⟨Q3, h0, h⟩ := h
    have hFc := cfree hR hA
    refine W_led2 (fun hL0 => ?_)
    refine va_callv (va_runV (As := [.int ((9 : Int32) + (v12_1.toInt32))]) (rest := []) ⟨hx, hb, hml, hown, hts⟩ (rX0_put l g ad12 H U12 28 ((9 : Int32) + (v12_1.toInt32)) hR.w (hR.w.2.1 _ finC_13).2.1 Q3 h0) (cwV 1 hts (gd_V kw_140 kw_13 kw_14 kw_3 kw_12) rfl rfl rfl (by decide +kernel) ⟨Nat.le_of_ble_eq_true rfl, Nat.le_of_ble_eq_true rfl⟩) ⟨cblindH, va_recv hR.K hR.P (ci := 0) (q0 := 28) rfl (hR.at40 (hR.w.2.1 _ finC_13).2.1), fun U hU hW9 => cmkH hU hW9 hR hex hE hFc⟩ rfl rfl hl.1 rfl (lv_room (Nat.le_of_ble_eq_true rfl)) dX11_putLong_21 ⟨(show dc12 + (KCC - qn U12) ≤ KCC - qn S from hlg.cm), (show ds12 + (KSC - qu U12) ≤ KSC - qu S from hlg.sm)⟩) hR.sS (fun q _ h => hFc q h) hFc (fun  S4 t9 H1 locs ht9 hvm9 hw9 hB9 hz9 hk9 hS => ?_)
    rcases S4 with ⟨S4, ak6⟩
    obtain ⟨hB9, dc9, ds9, hL9, hl9⟩ := hB9
    dsimp only at hw9 hB9 hl9
    rw [ht9] at hL9
    obtain ⟨hq5, hw9, hs9, hk8⟩ := hw9
    have hw8 := hR.w
    have hak := hak.tr hk8 hlg.2.2.1
    have hE := hE.ad hk8
    have hR : RepC g ak6 A s S4 H1 locs := hR.callH ht9 hB9 hw9 hS hFc
    have hsh := hsh.tr hs9
    refine W_tight2 (hL0.tr hL9).1 (hL0.tr hL9).2.1 ?_
    have hlg := hlg.call hl9
    replace h := h  S4 hq5 hw9 hs9
    have ea_0 : ak6 25 = ad12 25 := hk8 _ (hw8.hd (hw8.2.1 _ finC_28).2.1 (by decide) (by decide))
    have hl : lv_has ls 4 [(0, .ref (ak6 25)), (1, .long v12_1)] := by simp only [ea_0]; exact hl
    clear hB9 hz9 hk9 hvm9 ht9 hw9 hs9 hS hL0 hL9
    generalize H1 = H at hR ⊢
    generalize dc9 = dc_ak6, ds9 = ds_ak6 at hlg ⊢
    refine lv_goto (tgt := 44) hx hb dX11_putLong_24 (by decide) ?_
    refine W_led2 (fun hLd => ?_)
    refine W.widen (k := KCC - qn S) (n := KSC - qu S) hlg.c hlg.s ?_
    exact W.vret hx hb hr (fun t9 ht9 hW9 => ⟨⟨(S4, ak6), rfl, ⟨h, hR.w, hsh, hak⟩, ⟨⟨by rw [ht9]; exact hR.P, hR.D⟩, _, _, by rw [ht9]; exact hLd, hlg⟩⟩, hR.sS.F ht9⟩) hR.sS.2.2 dX11_putLong_44
  refine lv_if_eq (tgt := 12) hx hb dX11_putLong_3 (by decide) (fun c7 => ?_) (fun c7 => ?_)
  · replace h := h.1 (k_eq rfl (by decide) c7)
    exact J_12 ad (0) (0) S y1 _ _ ls h  hsh hlg hak hE hR (lv_sub hl [0, 1] rfl)
  · replace h := h.2 (k_ne rfl (by decide) c7)
    refine lv_lload_n hx hb dX11_putLong_6 rfl (lv_at hl 1 rfl) ?_
    refine lv_lconst (v := 1) hx hb dX11_putLong_7 (by decide) ?_
    refine W.lcmp hx hb dX11_putLong_8 ?_
    refine lv_topi (fun z8 ez8 => ?_)
    obtain rfl : z8 = (lg_cmp y1 1) := ez8
    refine lv_if_ne (tgt := 27) hx hb dX11_putLong_9 (by decide) (fun c9 => ?_) (fun c9 => ?_)
    · replace h := h.2 (k_ne rfl (by decide) c9)
      refine lv_aload_n hx hb dX11_putLong_27 rfl (lv_at hl 0 rfl) ?_
      refine va_get (D := rD g) (ci := 10) (v := .ref (ad 28)) (C := RX11) (T := TX11) (N := 18) hx hb hts inX11 hown hR.K hR.P 25 (hR.at50 (hR.w.2.1 _ finC_28).2.1) rfl 1 (by decide) (hts _ kw_94) (fun _ h9 => h9) (congrArg (fun z => some (vf ad z)) (hR.w.2.1 _ finC_13).1) dX11_putLong_28 ?_
      refine lv_bipush (v := 20) hx hb dX11_putLong_31 (by decide) ?_
      replace h := h ((hR.w.2.1 _ finC_13).2.1)
      obtain ⟨Q10, h0, h⟩ := h
      have hFc := cfree hR hA
      refine W_led2 (fun hL0 => ?_)
      refine va_callv (va_runV (As := [.int 20]) (rest := []) ⟨hx, hb, hml, hown, hts⟩ (rX0_put l g ad s.heap S 28 (20 : Int32) hR.w (hR.w.2.1 _ finC_13).2.1 Q10 h0) (cwV 1 hts (gd_V kw_140 kw_13 kw_14 kw_3 kw_12) rfl rfl rfl (by decide +kernel) ⟨Nat.le_of_ble_eq_true rfl, Nat.le_of_ble_eq_true rfl⟩) ⟨cblindH, va_recv hR.K hR.P (ci := 0) (q0 := 28) rfl (hR.at40 (hR.w.2.1 _ finC_13).2.1), fun U hU hW9 => cmkH hU hW9 hR hex hE hFc⟩ rfl rfl hl.1 rfl (lv_room (Nat.le_of_ble_eq_true rfl)) dX11_putLong_33 ⟨(show 0 + (KCC - qn S) ≤ KCC - qn S from hlg.cm), (show 0 + (KSC - qu S) ≤ KSC - qu S from hlg.sm)⟩) hR.sS (fun q _ h => hFc q h) hFc (fun  S11 t9 H1 locs ht9 hvm9 hw9 hB9 hz9 hk9 hS => ?_)
      rcases S11 with ⟨S11, ak13⟩
      obtain ⟨hB9, dc9, ds9, hL9, hl9⟩ := hB9
      dsimp only at hw9 hB9 hl9
      rw [ht9] at hL9
      obtain ⟨hq12, hw9, hs9, hk8⟩ := hw9
      have hw8 := hR.w
      have hak := hak.tr hk8 hlg.2.2.1
      have hE := hE.ad hk8
      have hR : RepC g ak13 A s S11 H1 locs := hR.callH ht9 hB9 hw9 hS hFc
      have hsh := hsh.tr hs9
      refine W_tight2 (hL0.tr hL9).1 (hL0.tr hL9).2.1 ?_
      have hlg := hlg.call hl9
      replace h := h  S11 hq12 hw9 hs9
      have ea_0 : ak13 25 = ad 25 := hk8 _ (hw8.hd (hw8.2.1 _ finC_28).2.1 (by decide) (by decide))
      have hl : lv_has ls 4 [(0, .ref (ak13 25)), (1, .long y1), (3, .int x3)] := by simp only [ea_0]; exact hl
      clear hB9 hz9 hk9 hvm9 ht9 hw9 hs9 hS hL0 hL9
      generalize H1 = H at hR ⊢
      generalize dc9 = dc_ak13, ds9 = ds_ak13 at hlg ⊢
      refine lv_aload_n hx hb dX11_putLong_36 rfl (lv_at hl 0 rfl) ?_
      refine va_get (D := rD g) (ci := 10) (v := .ref (ak13 28)) (C := RX11) (T := TX11) (N := 18) hx hb hts inX11 hown hR.K hR.P 25 (hR.at50 (hR.w.2.1 _ finC_28).2.1) rfl 1 (by decide) (hts _ kw_94) (fun _ h9 => h9) (congrArg (fun z => some (vf ak13 z)) (hR.w.2.1 _ finC_13).1) dX11_putLong_37 ?_
      refine lv_iload_n hx hb dX11_putLong_40 rfl (lv_at hl 2 rfl) ?_
      replace h := h ((hR.w.2.1 _ finC_13).2.1)
      obtain ⟨Q14, h0, h⟩ := h
      have hFc := cfree hR hA
      refine W_led2 (fun hL0 => ?_)
      refine va_callv (va_runV (As := [.int x3]) (rest := []) ⟨hx, hb, hml, hown, hts⟩ (rX0_put2 l g ak13 H S11 28 x3 hR.w (hR.w.2.1 _ finC_13).2.1 Q14 h0) (cwV 1 hts (gd_V kw_96 kw_17 kw_18 kw_3 kw_16) rfl rfl rfl (by decide +kernel) ⟨Nat.le_of_ble_eq_true rfl, Nat.le_of_ble_eq_true rfl⟩) ⟨cblindH, va_recv hR.K hR.P (ci := 0) (q0 := 28) rfl (hR.at40 (hR.w.2.1 _ finC_13).2.1), fun U hU hW9 => cmkH hU hW9 hR hex hE hFc⟩ rfl rfl hl.1 rfl (lv_room (Nat.le_of_ble_eq_true rfl)) dX11_putLong_41 ⟨(show 0 + dc_ak13 + (KCC - qn S11) ≤ KCC - qn S from hlg.cm), (show 0 + ds_ak13 + (KSC - qu S11) ≤ KSC - qu S from hlg.sm)⟩) hR.sS (fun q _ h => hFc q h) hFc (fun  S15 t9 H1 locs ht9 hvm9 hw9 hB9 hz9 hk9 hS => ?_)
      rcases S15 with ⟨S15, ak17⟩
      obtain ⟨hB9, dc9, ds9, hL9, hl9⟩ := hB9
      dsimp only at hw9 hB9 hl9
      rw [ht9] at hL9
      obtain ⟨hq16, hw9, hs9, hk8⟩ := hw9
      have hw8 := hR.w
      have hak := hak.tr hk8 hlg.2.2.1
      have hE := hE.ad hk8
      have hR : RepC g ak17 A s S15 H1 locs := hR.callH ht9 hB9 hw9 hS hFc
      have hsh := hsh.tr hs9
      refine W_tight2 (hL0.tr hL9).1 (hL0.tr hL9).2.1 ?_
      have hlg := hlg.call hl9
      replace h := h  S15 hq16 hw9 hs9
      have ea_0 : ak17 25 = ak13 25 := hk8 _ (hw8.hd (hw8.2.1 _ finC_28).2.1 (by decide) (by decide))
      have hl : lv_has ls 4 [(0, .ref (ak17 25)), (1, .long y1), (3, .int x3)] := by simp only [ea_0]; exact hl
      clear hB9 hz9 hk9 hvm9 ht9 hw9 hs9 hS hL0 hL9
      generalize H1 = H at hR ⊢
      generalize dc9 = dc_ak17, ds9 = ds_ak17 at hlg ⊢
      refine W_led2 (fun hLd => ?_)
      refine W.widen (k := KCC - qn S) (n := KSC - qu S) hlg.c hlg.s ?_
      exact W.vret hx hb hr (fun t9 ht9 hW9 => ⟨⟨(S15, ak17), rfl, ⟨h, hR.w, hsh, hak⟩, ⟨⟨by rw [ht9]; exact hR.P, hR.D⟩, _, _, by rw [ht9]; exact hLd, hlg⟩⟩, hR.sS.F ht9⟩) hR.sS.2.2 dX11_putLong_44
    · replace h := h.1 (k_eq rfl (by decide) c9)
      exact J_12 ad (0) (0) S y1 _ _ ls h  hsh hlg hak hE hR (lv_sub hl [0, 1] rfl)
def wX11_putGrow (S : MS) (x1 : Int32) (x2 : Int32) (Q : MS → Prop) : Prop := (d_X11_isByte S (x2.toInt64) ∧ (((fX11_isByte S (x2.toInt64)).toInt = 0 → (qT S 28 = 40 → (∃ Q5, wX0_put S 28 (196 : Int32) Q5 ∧ ∀ S6, Q5 S6 → wfC S6 → shx S S6 → (qT S6 28 = 40 → (∃ Q9, wX0_put S6 28 (132 : Int32) Q9 ∧ ∀ S10, Q9 S10 → wfC S10 → shx S6 S10 → (qT S10 28 = 40 → (∃ Q13, wX0_put2 S10 28 x1 Q13 ∧ ∀ S14, Q13 S14 → wfC S14 → shx S10 S14 → (qT S14 28 = 40 → (∃ Q17, wX0_put2 S14 28 x2 Q17 ∧ ∀ S18, Q17 S18 → wfC S18 → shx S14 S18 → Q S18))))))))) ∧ (¬ (fX11_isByte S (x2.toInt64)).toInt = 0 → (qT S 28 = 40 → (∃ Q21, wX0_put S 28 (132 : Int32) Q21 ∧ ∀ S22, Q21 S22 → wfC S22 → shx S S22 → (qT S22 28 = 40 → (∃ Q25, wX0_put S22 28 x1 Q25 ∧ ∀ S26, Q25 S26 → wfC S26 → shx S22 S26 → (qT S26 28 = 40 → (∃ Q29, wX0_put S26 28 x2 Q29 ∧ ∀ S30, Q29 S30 → wfC S30 → shx S26 S30 → Q S30)))))))))
set_option maxHeartbeats 2000000 in
set_option maxRecDepth 100000 in
theorem rX11_putGrow (l : Launch) (g : Gr) (ad : Nat → Nat) (H0 : Heap) (S : MS) (x1 : Int32) (x2 : Int32) (hw : wfC S) (Q : MS → Prop) (h : wX11_putGrow S x1 x2 Q) : Met l yX11_putGrow (wt yX11_putGrow cX11_putGrow 3 none) ({ frames := 4, cells := KCC - qn S, slots := KSC - qu S, locals := 104 }) (va_Pc [.ref (ad 25), .int x1, .int x2] (st_CH g ad H0 S)) (va_Qv (fun (u : MS × (Nat → Nat)) => Q u.1 ∧ wfC u.1 ∧ shx S u.1 ∧ adk ad u.2 S) (fun (u : MS × (Nat → Nat)) (t : State) => qEHC g (va_A (WdC g ad S) H0.size) S H0 u t) (va_A (WdC g ad S) H0.size)) (KCC - qn S) (KSC - qu S) (va_A (WdC g ad S) H0.size) := by
  refine Met.ofW (cc := cX11_putGrow) (maxL := 3) (ret := none) (by decide) rfl ?_
  intro p e s m args below meth c s₁ B hml hv
  obtain ⟨rfl, hH0, hsz, hP, hK, hD0, hex, hE⟩ := hv
  have hx := B.exec
  have hb := B.bytes
  have hr := B.returns
  have hts0 := atoms_spec (ws := wt yX11_putGrow cX11_putGrow 3 none) B.pre
  have hts : ∀ w ∈ tb, w.before _ s = true := fun w h => hts0 w (List.mem_cons_of_mem _ h)
  have hown : s.vm.findClass RX11 = some m.cls := findClass_of_methodNamed B.named
  subst hH0
  have hD := hD0.self (sz := s.heap.size)
  generalize hAe : va_A (WdC g ad S) s.heap.size = A at hD hE ⊢
  have hA : ∀ q : Nat, s.heap.size ≤ q → A q := fun q h => by rw [← hAe]; exact Or.inr h
  have hR : RepC g ad A s S s.heap [] := ⟨hK, hP, hD, va_S.rf, hw⟩
  clear hK hP hD hD0
  have hl := lv_entry ([.ref (ad 25), .int x1, .int x2]) (n := 3) (Nat.le_of_ble_eq_true rfl)
  rw [lg_entry_eq]
  generalize (lg_sl ([.ref (ad 25), .int x1, .int x2]) ++ List.replicate (3 - (lg_sl ([.ref (ad 25), .int x1, .int x2])).length) Slot.unset).toArray = ls at hl ⊢
  have hlg : lgC S S 0 0 := lgC.rf
  have hak : adk ad ad S := adk.rf
  have hl : lv_has ls 3 [(0, .ref (ad 25)), (1, .int x1), (2, .int x2)] := hl
  have hsh : shx S S := shx.rf
  unfold wX11_putGrow at h
  refine lv_iload_n hx hb dX11_putGrow_0 rfl (lv_at hl 2 rfl) ?_
  refine lv_i2l (v := (x2.toInt64)) hx hb dX11_putGrow_1 rfl ?_
  obtain ⟨hv1, h⟩ := h
  have hFc := cfree hR hA
  refine va_calli (va_runS (As := [.long (x2.toInt64)]) (rest := []) ⟨hx, hb, hml, hown, hts⟩ (rX11_isByte l g ad s.heap.size S (x2.toInt64) hR.w  hv1) (va_cwS 1 hts (gd_S kw_204 kw_174 kw_83 kw_173) rfl rfl rfl (by decide +kernel) ⟨Nat.le_of_ble_eq_true rfl, Nat.le_of_ble_eq_true rfl⟩) ⟨cblind, fun U hU hW9 => cmk hU hW9 hR hex hE hFc⟩ rfl rfl hl.1 rfl (lv_room (Nat.le_of_ble_eq_true rfl)) dX11_putGrow_2 ⟨(show 0 + 0 ≤ KCC - qn S from hlg.c), (show 0 + 0 ≤ KSC - qu S from hlg.s)⟩) hR.sS (fun q _ h => hFc q h) hFc (fun r2 u9 t9 H1 locs ht9 hvm9 hw9 hB9 hz9 hk9 hS => ?_)
  have hR : RepC g ad A s S H1 locs := hR.call ht9 hB9 hR.w hS hFc
  obtain ⟨rfl, hz_r2⟩ := hw9
  clear hB9 hz9 hk9 hvm9 ht9 hS
  generalize H1 = H at hR ⊢
  refine lv_if_eq (tgt := 37) hx hb dX11_putGrow_5 (by decide) (fun c4 => ?_) (fun c4 => ?_)
  · replace h := h.1 (k_eq rfl (by decide) c4)
    refine lv_aload_n hx hb dX11_putGrow_37 rfl (lv_at hl 0 rfl) ?_
    refine va_get (D := rD g) (ci := 10) (v := .ref (ad 28)) (C := RX11) (T := TX11) (N := 18) hx hb hts inX11 hown hR.K hR.P 25 (hR.at50 (hR.w.2.1 _ finC_28).2.1) rfl 1 (by decide) (hts _ kw_94) (fun _ h9 => h9) (congrArg (fun z => some (vf ad z)) (hR.w.2.1 _ finC_13).1) dX11_putGrow_38 ?_
    refine lv_sipush (v := 196) hx hb dX11_putGrow_41 (by decide) ?_
    replace h := h ((hR.w.2.1 _ finC_13).2.1)
    obtain ⟨Q5, h0, h⟩ := h
    have hFc := cfree hR hA
    refine W_led2 (fun hL0 => ?_)
    refine va_callv (va_runV (As := [.int 196]) (rest := []) ⟨hx, hb, hml, hown, hts⟩ (rX0_put l g ad H S 28 (196 : Int32) hR.w (hR.w.2.1 _ finC_13).2.1 Q5 h0) (cwV 1 hts (gd_V kw_140 kw_13 kw_14 kw_3 kw_12) rfl rfl rfl (by decide +kernel) ⟨Nat.le_of_ble_eq_true rfl, Nat.le_of_ble_eq_true rfl⟩) ⟨cblindH, va_recv hR.K hR.P (ci := 0) (q0 := 28) rfl (hR.at40 (hR.w.2.1 _ finC_13).2.1), fun U hU hW9 => cmkH hU hW9 hR hex hE hFc⟩ rfl rfl hl.1 rfl (lv_room (Nat.le_of_ble_eq_true rfl)) dX11_putGrow_44 ⟨(show 0 + (KCC - qn S) ≤ KCC - qn S from hlg.cm), (show 0 + (KSC - qu S) ≤ KSC - qu S from hlg.sm)⟩) hR.sS (fun q _ h => hFc q h) hFc (fun  S6 t9 H1 locs ht9 hvm9 hw9 hB9 hz9 hk9 hS => ?_)
    rcases S6 with ⟨S6, ak8⟩
    obtain ⟨hB9, dc9, ds9, hL9, hl9⟩ := hB9
    dsimp only at hw9 hB9 hl9
    rw [ht9] at hL9
    obtain ⟨hq7, hw9, hs9, hk8⟩ := hw9
    have hw8 := hR.w
    have hak := hak.tr hk8 hlg.2.2.1
    have hE := hE.ad hk8
    have hR : RepC g ak8 A s S6 H1 locs := hR.callH ht9 hB9 hw9 hS hFc
    have hsh := hsh.tr hs9
    refine W_tight2 (hL0.tr hL9).1 (hL0.tr hL9).2.1 ?_
    have hlg := hlg.call hl9
    replace h := h  S6 hq7 hw9 hs9
    have ea_0 : ak8 25 = ad 25 := hk8 _ (hw8.hd (hw8.2.1 _ finC_28).2.1 (by decide) (by decide))
    have hl : lv_has ls 3 [(0, .ref (ak8 25)), (1, .int x1), (2, .int x2)] := by simp only [ea_0]; exact hl
    clear hB9 hz9 hk9 hvm9 ht9 hw9 hs9 hS hL0 hL9
    generalize H1 = H at hR ⊢
    generalize dc9 = dc_ak8, ds9 = ds_ak8 at hlg ⊢
    refine lv_aload_n hx hb dX11_putGrow_47 rfl (lv_at hl 0 rfl) ?_
    refine va_get (D := rD g) (ci := 10) (v := .ref (ak8 28)) (C := RX11) (T := TX11) (N := 18) hx hb hts inX11 hown hR.K hR.P 25 (hR.at50 (hR.w.2.1 _ finC_28).2.1) rfl 1 (by decide) (hts _ kw_94) (fun _ h9 => h9) (congrArg (fun z => some (vf ak8 z)) (hR.w.2.1 _ finC_13).1) dX11_putGrow_48 ?_
    refine lv_sipush (v := 132) hx hb dX11_putGrow_51 (by decide) ?_
    replace h := h ((hR.w.2.1 _ finC_13).2.1)
    obtain ⟨Q9, h0, h⟩ := h
    have hFc := cfree hR hA
    refine W_led2 (fun hL0 => ?_)
    refine va_callv (va_runV (As := [.int 132]) (rest := []) ⟨hx, hb, hml, hown, hts⟩ (rX0_put l g ak8 H S6 28 (132 : Int32) hR.w (hR.w.2.1 _ finC_13).2.1 Q9 h0) (cwV 1 hts (gd_V kw_140 kw_13 kw_14 kw_3 kw_12) rfl rfl rfl (by decide +kernel) ⟨Nat.le_of_ble_eq_true rfl, Nat.le_of_ble_eq_true rfl⟩) ⟨cblindH, va_recv hR.K hR.P (ci := 0) (q0 := 28) rfl (hR.at40 (hR.w.2.1 _ finC_13).2.1), fun U hU hW9 => cmkH hU hW9 hR hex hE hFc⟩ rfl rfl hl.1 rfl (lv_room (Nat.le_of_ble_eq_true rfl)) dX11_putGrow_54 ⟨(show 0 + dc_ak8 + (KCC - qn S6) ≤ KCC - qn S from hlg.cm), (show 0 + ds_ak8 + (KSC - qu S6) ≤ KSC - qu S from hlg.sm)⟩) hR.sS (fun q _ h => hFc q h) hFc (fun  S10 t9 H1 locs ht9 hvm9 hw9 hB9 hz9 hk9 hS => ?_)
    rcases S10 with ⟨S10, ak12⟩
    obtain ⟨hB9, dc9, ds9, hL9, hl9⟩ := hB9
    dsimp only at hw9 hB9 hl9
    rw [ht9] at hL9
    obtain ⟨hq11, hw9, hs9, hk8⟩ := hw9
    have hw8 := hR.w
    have hak := hak.tr hk8 hlg.2.2.1
    have hE := hE.ad hk8
    have hR : RepC g ak12 A s S10 H1 locs := hR.callH ht9 hB9 hw9 hS hFc
    have hsh := hsh.tr hs9
    refine W_tight2 (hL0.tr hL9).1 (hL0.tr hL9).2.1 ?_
    have hlg := hlg.call hl9
    replace h := h  S10 hq11 hw9 hs9
    have ea_0 : ak12 25 = ak8 25 := hk8 _ (hw8.hd (hw8.2.1 _ finC_28).2.1 (by decide) (by decide))
    have hl : lv_has ls 3 [(0, .ref (ak12 25)), (1, .int x1), (2, .int x2)] := by simp only [ea_0]; exact hl
    clear hB9 hz9 hk9 hvm9 ht9 hw9 hs9 hS hL0 hL9
    generalize H1 = H at hR ⊢
    generalize dc9 = dc_ak12, ds9 = ds_ak12 at hlg ⊢
    refine lv_aload_n hx hb dX11_putGrow_57 rfl (lv_at hl 0 rfl) ?_
    refine va_get (D := rD g) (ci := 10) (v := .ref (ak12 28)) (C := RX11) (T := TX11) (N := 18) hx hb hts inX11 hown hR.K hR.P 25 (hR.at50 (hR.w.2.1 _ finC_28).2.1) rfl 1 (by decide) (hts _ kw_94) (fun _ h9 => h9) (congrArg (fun z => some (vf ak12 z)) (hR.w.2.1 _ finC_13).1) dX11_putGrow_58 ?_
    refine lv_iload_n hx hb dX11_putGrow_61 rfl (lv_at hl 1 rfl) ?_
    replace h := h ((hR.w.2.1 _ finC_13).2.1)
    obtain ⟨Q13, h0, h⟩ := h
    have hFc := cfree hR hA
    refine W_led2 (fun hL0 => ?_)
    refine va_callv (va_runV (As := [.int x1]) (rest := []) ⟨hx, hb, hml, hown, hts⟩ (rX0_put2 l g ak12 H S10 28 x1 hR.w (hR.w.2.1 _ finC_13).2.1 Q13 h0) (cwV 1 hts (gd_V kw_96 kw_17 kw_18 kw_3 kw_16) rfl rfl rfl (by decide +kernel) ⟨Nat.le_of_ble_eq_true rfl, Nat.le_of_ble_eq_true rfl⟩) ⟨cblindH, va_recv hR.K hR.P (ci := 0) (q0 := 28) rfl (hR.at40 (hR.w.2.1 _ finC_13).2.1), fun U hU hW9 => cmkH hU hW9 hR hex hE hFc⟩ rfl rfl hl.1 rfl (lv_room (Nat.le_of_ble_eq_true rfl)) dX11_putGrow_62 ⟨(show 0 + dc_ak8 + dc_ak12 + (KCC - qn S10) ≤ KCC - qn S from hlg.cm), (show 0 + ds_ak8 + ds_ak12 + (KSC - qu S10) ≤ KSC - qu S from hlg.sm)⟩) hR.sS (fun q _ h => hFc q h) hFc (fun  S14 t9 H1 locs ht9 hvm9 hw9 hB9 hz9 hk9 hS => ?_)
    rcases S14 with ⟨S14, ak16⟩
    obtain ⟨hB9, dc9, ds9, hL9, hl9⟩ := hB9
    dsimp only at hw9 hB9 hl9
    rw [ht9] at hL9
    obtain ⟨hq15, hw9, hs9, hk8⟩ := hw9
    have hw8 := hR.w
    have hak := hak.tr hk8 hlg.2.2.1
    have hE := hE.ad hk8
    have hR : RepC g ak16 A s S14 H1 locs := hR.callH ht9 hB9 hw9 hS hFc
    have hsh := hsh.tr hs9
    refine W_tight2 (hL0.tr hL9).1 (hL0.tr hL9).2.1 ?_
    have hlg := hlg.call hl9
    replace h := h  S14 hq15 hw9 hs9
    have ea_0 : ak16 25 = ak12 25 := hk8 _ (hw8.hd (hw8.2.1 _ finC_28).2.1 (by decide) (by decide))
    have hl : lv_has ls 3 [(0, .ref (ak16 25)), (1, .int x1), (2, .int x2)] := by simp only [ea_0]; exact hl
    clear hB9 hz9 hk9 hvm9 ht9 hw9 hs9 hS hL0 hL9
    generalize H1 = H at hR ⊢
    generalize dc9 = dc_ak16, ds9 = ds_ak16 at hlg ⊢
    refine lv_aload_n hx hb dX11_putGrow_65 rfl (lv_at hl 0 rfl) ?_
    refine va_get (D := rD g) (ci := 10) (v := .ref (ak16 28)) (C := RX11) (T := TX11) (N := 18) hx hb hts inX11 hown hR.K hR.P 25 (hR.at50 (hR.w.2.1 _ finC_28).2.1) rfl 1 (by decide) (hts _ kw_94) (fun _ h9 => h9) (congrArg (fun z => some (vf ak16 z)) (hR.w.2.1 _ finC_13).1) dX11_putGrow_66 ?_
    refine lv_iload_n hx hb dX11_putGrow_69 rfl (lv_at hl 2 rfl) ?_
    replace h := h ((hR.w.2.1 _ finC_13).2.1)
    obtain ⟨Q17, h0, h⟩ := h
    have hFc := cfree hR hA
    refine W_led2 (fun hL0 => ?_)
    refine va_callv (va_runV (As := [.int x2]) (rest := []) ⟨hx, hb, hml, hown, hts⟩ (rX0_put2 l g ak16 H S14 28 x2 hR.w (hR.w.2.1 _ finC_13).2.1 Q17 h0) (cwV 1 hts (gd_V kw_96 kw_17 kw_18 kw_3 kw_16) rfl rfl rfl (by decide +kernel) ⟨Nat.le_of_ble_eq_true rfl, Nat.le_of_ble_eq_true rfl⟩) ⟨cblindH, va_recv hR.K hR.P (ci := 0) (q0 := 28) rfl (hR.at40 (hR.w.2.1 _ finC_13).2.1), fun U hU hW9 => cmkH hU hW9 hR hex hE hFc⟩ rfl rfl hl.1 rfl (lv_room (Nat.le_of_ble_eq_true rfl)) dX11_putGrow_70 ⟨(show 0 + dc_ak8 + dc_ak12 + dc_ak16 + (KCC - qn S14) ≤ KCC - qn S from hlg.cm), (show 0 + ds_ak8 + ds_ak12 + ds_ak16 + (KSC - qu S14) ≤ KSC - qu S from hlg.sm)⟩) hR.sS (fun q _ h => hFc q h) hFc (fun  S18 t9 H1 locs ht9 hvm9 hw9 hB9 hz9 hk9 hS => ?_)
    rcases S18 with ⟨S18, ak20⟩
    obtain ⟨hB9, dc9, ds9, hL9, hl9⟩ := hB9
    dsimp only at hw9 hB9 hl9
    rw [ht9] at hL9
    obtain ⟨hq19, hw9, hs9, hk8⟩ := hw9
    have hw8 := hR.w
    have hak := hak.tr hk8 hlg.2.2.1
    have hE := hE.ad hk8
    have hR : RepC g ak20 A s S18 H1 locs := hR.callH ht9 hB9 hw9 hS hFc
    have hsh := hsh.tr hs9
    refine W_tight2 (hL0.tr hL9).1 (hL0.tr hL9).2.1 ?_
    have hlg := hlg.call hl9
    replace h := h  S18 hq19 hw9 hs9
    have ea_0 : ak20 25 = ak16 25 := hk8 _ (hw8.hd (hw8.2.1 _ finC_28).2.1 (by decide) (by decide))
    have hl : lv_has ls 3 [(0, .ref (ak20 25)), (1, .int x1), (2, .int x2)] := by simp only [ea_0]; exact hl
    clear hB9 hz9 hk9 hvm9 ht9 hw9 hs9 hS hL0 hL9
    generalize H1 = H at hR ⊢
    generalize dc9 = dc_ak20, ds9 = ds_ak20 at hlg ⊢
    refine W_led2 (fun hLd => ?_)
    refine W.widen (k := KCC - qn S) (n := KSC - qu S) hlg.c hlg.s ?_
    exact W.vret hx hb hr (fun t9 ht9 hW9 => ⟨⟨(S18, ak20), rfl, ⟨h, hR.w, hsh, hak⟩, ⟨⟨by rw [ht9]; exact hR.P, hR.D⟩, _, _, by rw [ht9]; exact hLd, hlg⟩⟩, hR.sS.F ht9⟩) hR.sS.2.2 dX11_putGrow_73
  · replace h := h.2 (k_ne rfl (by decide) c4)
    refine lv_aload_n hx hb dX11_putGrow_8 rfl (lv_at hl 0 rfl) ?_
    refine va_get (D := rD g) (ci := 10) (v := .ref (ad 28)) (C := RX11) (T := TX11) (N := 18) hx hb hts inX11 hown hR.K hR.P 25 (hR.at50 (hR.w.2.1 _ finC_28).2.1) rfl 1 (by decide) (hts _ kw_94) (fun _ h9 => h9) (congrArg (fun z => some (vf ad z)) (hR.w.2.1 _ finC_13).1) dX11_putGrow_9 ?_
    refine lv_sipush (v := 132) hx hb dX11_putGrow_12 (by decide) ?_
    replace h := h ((hR.w.2.1 _ finC_13).2.1)
    obtain ⟨Q21, h0, h⟩ := h
    have hFc := cfree hR hA
    refine W_led2 (fun hL0 => ?_)
    refine va_callv (va_runV (As := [.int 132]) (rest := []) ⟨hx, hb, hml, hown, hts⟩ (rX0_put l g ad H S 28 (132 : Int32) hR.w (hR.w.2.1 _ finC_13).2.1 Q21 h0) (cwV 1 hts (gd_V kw_140 kw_13 kw_14 kw_3 kw_12) rfl rfl rfl (by decide +kernel) ⟨Nat.le_of_ble_eq_true rfl, Nat.le_of_ble_eq_true rfl⟩) ⟨cblindH, va_recv hR.K hR.P (ci := 0) (q0 := 28) rfl (hR.at40 (hR.w.2.1 _ finC_13).2.1), fun U hU hW9 => cmkH hU hW9 hR hex hE hFc⟩ rfl rfl hl.1 rfl (lv_room (Nat.le_of_ble_eq_true rfl)) dX11_putGrow_15 ⟨(show 0 + (KCC - qn S) ≤ KCC - qn S from hlg.cm), (show 0 + (KSC - qu S) ≤ KSC - qu S from hlg.sm)⟩) hR.sS (fun q _ h => hFc q h) hFc (fun  S22 t9 H1 locs ht9 hvm9 hw9 hB9 hz9 hk9 hS => ?_)
    rcases S22 with ⟨S22, ak24⟩
    obtain ⟨hB9, dc9, ds9, hL9, hl9⟩ := hB9
    dsimp only at hw9 hB9 hl9
    rw [ht9] at hL9
    obtain ⟨hq23, hw9, hs9, hk8⟩ := hw9
    have hw8 := hR.w
    have hak := hak.tr hk8 hlg.2.2.1
    have hE := hE.ad hk8
    have hR : RepC g ak24 A s S22 H1 locs := hR.callH ht9 hB9 hw9 hS hFc
    have hsh := hsh.tr hs9
    refine W_tight2 (hL0.tr hL9).1 (hL0.tr hL9).2.1 ?_
    have hlg := hlg.call hl9
    replace h := h  S22 hq23 hw9 hs9
    have ea_0 : ak24 25 = ad 25 := hk8 _ (hw8.hd (hw8.2.1 _ finC_28).2.1 (by decide) (by decide))
    have hl : lv_has ls 3 [(0, .ref (ak24 25)), (1, .int x1), (2, .int x2)] := by simp only [ea_0]; exact hl
    clear hB9 hz9 hk9 hvm9 ht9 hw9 hs9 hS hL0 hL9
    generalize H1 = H at hR ⊢
    generalize dc9 = dc_ak24, ds9 = ds_ak24 at hlg ⊢
    refine lv_aload_n hx hb dX11_putGrow_18 rfl (lv_at hl 0 rfl) ?_
    refine va_get (D := rD g) (ci := 10) (v := .ref (ak24 28)) (C := RX11) (T := TX11) (N := 18) hx hb hts inX11 hown hR.K hR.P 25 (hR.at50 (hR.w.2.1 _ finC_28).2.1) rfl 1 (by decide) (hts _ kw_94) (fun _ h9 => h9) (congrArg (fun z => some (vf ak24 z)) (hR.w.2.1 _ finC_13).1) dX11_putGrow_19 ?_
    refine lv_iload_n hx hb dX11_putGrow_22 rfl (lv_at hl 1 rfl) ?_
    replace h := h ((hR.w.2.1 _ finC_13).2.1)
    obtain ⟨Q25, h0, h⟩ := h
    have hFc := cfree hR hA
    refine W_led2 (fun hL0 => ?_)
    refine va_callv (va_runV (As := [.int x1]) (rest := []) ⟨hx, hb, hml, hown, hts⟩ (rX0_put l g ak24 H S22 28 x1 hR.w (hR.w.2.1 _ finC_13).2.1 Q25 h0) (cwV 1 hts (gd_V kw_140 kw_13 kw_14 kw_3 kw_12) rfl rfl rfl (by decide +kernel) ⟨Nat.le_of_ble_eq_true rfl, Nat.le_of_ble_eq_true rfl⟩) ⟨cblindH, va_recv hR.K hR.P (ci := 0) (q0 := 28) rfl (hR.at40 (hR.w.2.1 _ finC_13).2.1), fun U hU hW9 => cmkH hU hW9 hR hex hE hFc⟩ rfl rfl hl.1 rfl (lv_room (Nat.le_of_ble_eq_true rfl)) dX11_putGrow_23 ⟨(show 0 + dc_ak24 + (KCC - qn S22) ≤ KCC - qn S from hlg.cm), (show 0 + ds_ak24 + (KSC - qu S22) ≤ KSC - qu S from hlg.sm)⟩) hR.sS (fun q _ h => hFc q h) hFc (fun  S26 t9 H1 locs ht9 hvm9 hw9 hB9 hz9 hk9 hS => ?_)
    rcases S26 with ⟨S26, ak28⟩
    obtain ⟨hB9, dc9, ds9, hL9, hl9⟩ := hB9
    dsimp only at hw9 hB9 hl9
    rw [ht9] at hL9
    obtain ⟨hq27, hw9, hs9, hk8⟩ := hw9
    have hw8 := hR.w
    have hak := hak.tr hk8 hlg.2.2.1
    have hE := hE.ad hk8
    have hR : RepC g ak28 A s S26 H1 locs := hR.callH ht9 hB9 hw9 hS hFc
    have hsh := hsh.tr hs9
    refine W_tight2 (hL0.tr hL9).1 (hL0.tr hL9).2.1 ?_
    have hlg := hlg.call hl9
    replace h := h  S26 hq27 hw9 hs9
    have ea_0 : ak28 25 = ak24 25 := hk8 _ (hw8.hd (hw8.2.1 _ finC_28).2.1 (by decide) (by decide))
    have hl : lv_has ls 3 [(0, .ref (ak28 25)), (1, .int x1), (2, .int x2)] := by simp only [ea_0]; exact hl
    clear hB9 hz9 hk9 hvm9 ht9 hw9 hs9 hS hL0 hL9
    generalize H1 = H at hR ⊢
    generalize dc9 = dc_ak28, ds9 = ds_ak28 at hlg ⊢
    refine lv_aload_n hx hb dX11_putGrow_26 rfl (lv_at hl 0 rfl) ?_
    refine va_get (D := rD g) (ci := 10) (v := .ref (ak28 28)) (C := RX11) (T := TX11) (N := 18) hx hb hts inX11 hown hR.K hR.P 25 (hR.at50 (hR.w.2.1 _ finC_28).2.1) rfl 1 (by decide) (hts _ kw_94) (fun _ h9 => h9) (congrArg (fun z => some (vf ak28 z)) (hR.w.2.1 _ finC_13).1) dX11_putGrow_27 ?_
    refine lv_iload_n hx hb dX11_putGrow_30 rfl (lv_at hl 2 rfl) ?_
    replace h := h ((hR.w.2.1 _ finC_13).2.1)
    obtain ⟨Q29, h0, h⟩ := h
    have hFc := cfree hR hA
    refine W_led2 (fun hL0 => ?_)
    refine va_callv (va_runV (As := [.int x2]) (rest := []) ⟨hx, hb, hml, hown, hts⟩ (rX0_put l g ak28 H S26 28 x2 hR.w (hR.w.2.1 _ finC_13).2.1 Q29 h0) (cwV 1 hts (gd_V kw_140 kw_13 kw_14 kw_3 kw_12) rfl rfl rfl (by decide +kernel) ⟨Nat.le_of_ble_eq_true rfl, Nat.le_of_ble_eq_true rfl⟩) ⟨cblindH, va_recv hR.K hR.P (ci := 0) (q0 := 28) rfl (hR.at40 (hR.w.2.1 _ finC_13).2.1), fun U hU hW9 => cmkH hU hW9 hR hex hE hFc⟩ rfl rfl hl.1 rfl (lv_room (Nat.le_of_ble_eq_true rfl)) dX11_putGrow_31 ⟨(show 0 + dc_ak24 + dc_ak28 + (KCC - qn S26) ≤ KCC - qn S from hlg.cm), (show 0 + ds_ak24 + ds_ak28 + (KSC - qu S26) ≤ KSC - qu S from hlg.sm)⟩) hR.sS (fun q _ h => hFc q h) hFc (fun  S30 t9 H1 locs ht9 hvm9 hw9 hB9 hz9 hk9 hS => ?_)
    rcases S30 with ⟨S30, ak32⟩
    obtain ⟨hB9, dc9, ds9, hL9, hl9⟩ := hB9
    dsimp only at hw9 hB9 hl9
    rw [ht9] at hL9
    obtain ⟨hq31, hw9, hs9, hk8⟩ := hw9
    have hw8 := hR.w
    have hak := hak.tr hk8 hlg.2.2.1
    have hE := hE.ad hk8
    have hR : RepC g ak32 A s S30 H1 locs := hR.callH ht9 hB9 hw9 hS hFc
    have hsh := hsh.tr hs9
    refine W_tight2 (hL0.tr hL9).1 (hL0.tr hL9).2.1 ?_
    have hlg := hlg.call hl9
    replace h := h  S30 hq31 hw9 hs9
    have ea_0 : ak32 25 = ak28 25 := hk8 _ (hw8.hd (hw8.2.1 _ finC_28).2.1 (by decide) (by decide))
    have hl : lv_has ls 3 [(0, .ref (ak32 25)), (1, .int x1), (2, .int x2)] := by simp only [ea_0]; exact hl
    clear hB9 hz9 hk9 hvm9 ht9 hw9 hs9 hS hL0 hL9
    generalize H1 = H at hR ⊢
    generalize dc9 = dc_ak32, ds9 = ds_ak32 at hlg ⊢
    refine lv_goto (tgt := 73) hx hb dX11_putGrow_34 (by decide) ?_
    refine W_led2 (fun hLd => ?_)
    refine W.widen (k := KCC - qn S) (n := KSC - qu S) hlg.c hlg.s ?_
    exact W.vret hx hb hr (fun t9 ht9 hW9 => ⟨⟨(S30, ak32), rfl, ⟨h, hR.w, hsh, hak⟩, ⟨⟨by rw [ht9]; exact hR.P, hR.D⟩, _, _, by rw [ht9]; exact hLd, hlg⟩⟩, hR.sS.F ht9⟩) hR.sS.2.2 dX11_putGrow_73
def w_X11_putSwitch_J215 (Q : MS → Prop) (k180 : MS → Int32 → Int32 → Int32 → Int32 → Int32 → Prop) (U215 : MS) (v215_1 : Int32) (v215_3 : Int32) (v215_4 : Int32) (v215_5 : Int32) (v215_6 : Int32) : Prop := (wfC U215 → (v215_5 = 0 ∨ v215_5 = 1) → ((qR U215 25 15 = some (qO U215 25 15)) ∧ (d_X8_targetAt U215 (qO U215 25 15) v215_1 v215_6 ∧ (∀ a57 : Int32, a57 = (fX8_targetAt U215 (qO U215 25 15) v215_1 v215_6) → (d_X11_offsetOf U215 a57 ∧ (∀ a61 : Int32, a61 = (fX11_offsetOf U215 a57) → (d_X11_offsetOf U215 v215_1 ∧ (∀ a65 : Int32, a65 = (fX11_offsetOf U215 v215_1) → (qT U215 28 = 40 → (∃ Q67, wX0_put4 U215 28 (a61 - a65) Q67 ∧ ∀ S68, Q67 S68 → wfC S68 → shx U215 S68 → (∀ a71 : Int32, a71 = (v215_6 + Int32.ofInt 1) → k180 S68 v215_1 v215_3 v215_4 v215_5 a71)))))))))))
def w_X11_putSwitch_L180 (Q : MS → Prop) : Nat → MS → Int32 → Int32 → Int32 → Int32 → Int32 → Prop
  | 0, _, _, _, _, _, _ => False
  | n180 + 1, U180, v180_1, v180_3, v180_4, v180_5, v180_6 => (wfC U180 → (v180_5 = 0 ∨ v180_5 = 1) → ((v180_4.toInt < v180_6.toInt → Q U180) ∧ (¬ v180_4.toInt < v180_6.toInt → ((v180_5.toInt = 0 → ((qR U180 25 15 = some (qO U180 25 15)) ∧ (d_X8_tableAt U180 (qO U180 25 15) (((v180_3 + (2 : Int32)) + v180_4) + v180_6) ∧ (∀ a81 : Int32, a81 = (fX8_tableAt U180 (qO U180 25 15) (((v180_3 + (2 : Int32)) + v180_4) + v180_6)) → (qT U180 28 = 40 → (∃ Q82, wX0_put4 U180 28 a81 Q82 ∧ ∀ S83, Q82 S83 → wfC S83 → shx U180 S83 → w_X11_putSwitch_J215 Q (w_X11_putSwitch_L180 Q n180) S83 v180_1 v180_3 v180_4 v180_5 v180_6)))))) ∧ (¬ v180_5.toInt = 0 → w_X11_putSwitch_J215 Q (w_X11_putSwitch_L180 Q n180) U180 v180_1 v180_3 v180_4 v180_5 v180_6)))))
def w_X11_putSwitch_J177 (Q : MS → Prop) (U177 : MS) (v177_1 : Int32) (v177_3 : Int32) (v177_4 : Int32) (v177_5 : Int32) : Prop := (wfC U177 → (v177_5 = 0 ∨ v177_5 = 1) → (∃ n, w_X11_putSwitch_L180 Q n U177 v177_1 v177_3 v177_4 v177_5 1))
def w_X11_putSwitch_J95 (Q : MS → Prop) (U95 : MS) (v95_1 : Int32) (v95_3 : Int32) (v95_4 : Int32) (v95_5 : Int32) : Prop := (wfC U95 → (v95_5 = 0 ∨ v95_5 = 1) → ((qR U95 25 15 = some (qO U95 25 15)) ∧ (d_X8_targetAt U95 (qO U95 25 15) v95_1 (0 : Int32) ∧ (∀ a37 : Int32, a37 = (fX8_targetAt U95 (qO U95 25 15) v95_1 (0 : Int32)) → (d_X11_offsetOf U95 a37 ∧ (∀ a41 : Int32, a41 = (fX11_offsetOf U95 a37) → (d_X11_offsetOf U95 v95_1 ∧ (∀ a45 : Int32, a45 = (fX11_offsetOf U95 v95_1) → (qT U95 28 = 40 → (∃ Q47, wX0_put4 U95 28 (a41 - a45) Q47 ∧ ∀ S48, Q47 S48 → wfC S48 → shx U95 S48 → ((v95_5.toInt = 0 → (qT S48 28 = 40 → (∃ Q87, wX0_put4 S48 28 v95_4 Q87 ∧ ∀ S88, Q87 S88 → wfC S88 → shx S48 S88 → w_X11_putSwitch_J177 Q S88 v95_1 v95_3 v95_4 v95_5))) ∧ (¬ v95_5.toInt = 0 → ((qR S48 25 15 = some (qO S48 25 15)) ∧ (d_X8_tableAt S48 (qO S48 25 15) (v95_3 + (1 : Int32)) ∧ (∀ a97 : Int32, a97 = (fX8_tableAt S48 (qO S48 25 15) (v95_3 + (1 : Int32))) → (qT S48 28 = 40 → (∃ Q98, wX0_put4 S48 28 a97 Q98 ∧ ∀ S99, Q98 S99 → wfC S99 → shx S48 S99 → ((qR S99 25 15 = some (qO S99 25 15)) ∧ (d_X8_tableAt S99 (qO S99 25 15) (v95_3 + (1 : Int32)) ∧ (∀ a108 : Int32, a108 = (fX8_tableAt S99 (qO S99 25 15) (v95_3 + (1 : Int32))) → (qT S99 28 = 40 → (∃ Q111, wX0_put4 S99 28 ((a108 + v95_4) - (1 : Int32)) Q111 ∧ ∀ S112, Q111 S112 → wfC S112 → shx S99 S112 → w_X11_putSwitch_J177 Q S112 v95_1 v95_3 v95_4 v95_5))))))))))))))))))))))
def w_X11_putSwitch_L61 (Q : MS → Prop) : Nat → MS → Int32 → Int32 → Int32 → Int32 → Int32 → Int32 → Prop
  | 0, _, _, _, _, _, _, _ => False
  | n61 + 1, U61, v61_1, v61_2, v61_3, v61_4, v61_5, v61_6 => (wfC U61 → (v61_5 = 0 ∨ v61_5 = 1) → ((3 ≤ v61_6.toInt → w_X11_putSwitch_J95 Q U61 v61_1 v61_3 v61_4 v61_5) ∧ (¬ 3 ≤ v61_6.toInt → (((((qI U61 28 1) - v61_2) &&& (3 : Int32)).toInt = 0 → w_X11_putSwitch_J95 Q U61 v61_1 v61_3 v61_4 v61_5) ∧ (¬ (((qI U61 28 1) - v61_2) &&& (3 : Int32)).toInt = 0 → (qT U61 28 = 40 → (∃ Q119, wX0_put U61 28 (0 : Int32) Q119 ∧ ∀ S120, Q119 S120 → wfC S120 → shx U61 S120 → (∀ a123 : Int32, a123 = (v61_6 + Int32.ofInt 1) → (w_X11_putSwitch_L61 Q n61) S120 v61_1 v61_2 v61_3 v61_4 v61_5 a123))))))))
def w_X11_putSwitch_J41 (Q : MS → Prop) (U41 : MS) (t41_0 : Int32) (v41_1 : Int32) (v41_2 : Int32) (v41_3 : Int32) (v41_4 : Int32) : Prop := (wfC U41 → (t41_0 = 0 ∨ t41_0 = 1) → ((qR U41 25 15 = some (qO U41 25 15)) ∧ (d_X8_opAt U41 (qO U41 25 15) v41_1 ∧ (∀ a27 : Int32, a27 = (fX8_opAt U41 (qO U41 25 15) v41_1) → (qT U41 28 = 40 → (∃ Q28, wX0_put U41 28 a27 Q28 ∧ ∀ S29, Q28 S29 → wfC S29 → shx U41 S29 → (∃ n, w_X11_putSwitch_L61 Q n S29 v41_1 v41_2 v41_3 v41_4 t41_0 0)))))))
def wX11_putSwitch (S : MS) (x1 : Int32) (x2 : Int32) (Q : MS → Prop) : Prop := ((qR S 25 15 = some (qO S 25 15)) ∧ (d_X8_argAt S (qO S 25 15) x1 ∧ (∀ a6 : Int64, a6 = (fX8_argAt S (qO S 25 15) x1) → (∀ a7 : Int32, a7 = (a6.toInt32) → ((qR S 25 15 = some (qO S 25 15)) ∧ (d_X8_targetCount S (qO S 25 15) x1 ∧ (∀ a13 : Int32, a13 = (fX8_targetCount S (qO S 25 15) x1) → (∀ a15 : Int32, a15 = (a13 - (1 : Int32)) → ((qR S 25 15 = some (qO S 25 15)) ∧ (d_X8_opAt S (qO S 25 15) x1 ∧ (∀ a21 : Int32, a21 = (fX8_opAt S (qO S 25 15) x1) → ((a21.toInt = 170 → w_X11_putSwitch_J41 Q S 1 x1 x2 a7 a15) ∧ (¬ a21.toInt = 170 → w_X11_putSwitch_J41 Q S 0 x1 x2 a7 a15)))))))))))))
set_option maxHeartbeats 2000000 in
set_option maxRecDepth 100000 in
theorem rX11_putSwitch (l : Launch) (g : Gr) (ad : Nat → Nat) (H0 : Heap) (S : MS) (x1 : Int32) (x2 : Int32) (hw : wfC S) (Q : MS → Prop) (h : wX11_putSwitch S x1 x2 Q) : Met l yX11_putSwitch (wt yX11_putSwitch cX11_putSwitch 7 none) ({ frames := 5, cells := KCC - qn S, slots := KSC - qu S, locals := 125 }) (va_Pc [.ref (ad 25), .int x1, .int x2] (st_CH g ad H0 S)) (va_Qv (fun (u : MS × (Nat → Nat)) => Q u.1 ∧ wfC u.1 ∧ shx S u.1 ∧ adk ad u.2 S) (fun (u : MS × (Nat → Nat)) (t : State) => qEHC g (va_A (WdC g ad S) H0.size) S H0 u t) (va_A (WdC g ad S) H0.size)) (KCC - qn S) (KSC - qu S) (va_A (WdC g ad S) H0.size) := by
  refine Met.ofW (cc := cX11_putSwitch) (maxL := 7) (ret := none) (by decide) rfl ?_
  intro p e s m args below meth c s₁ B hml hv
  obtain ⟨rfl, hH0, hsz, hP, hK, hD0, hex, hE⟩ := hv
  have hx := B.exec
  have hb := B.bytes
  have hr := B.returns
  have hts0 := atoms_spec (ws := wt yX11_putSwitch cX11_putSwitch 7 none) B.pre
  have hts : ∀ w ∈ tb, w.before _ s = true := fun w h => hts0 w (List.mem_cons_of_mem _ h)
  have hown : s.vm.findClass RX11 = some m.cls := findClass_of_methodNamed B.named
  subst hH0
  have hD := hD0.self (sz := s.heap.size)
  generalize hAe : va_A (WdC g ad S) s.heap.size = A at hD hE ⊢
  have hA : ∀ q : Nat, s.heap.size ≤ q → A q := fun q h => by rw [← hAe]; exact Or.inr h
  have hR : RepC g ad A s S s.heap [] := ⟨hK, hP, hD, va_S.rf, hw⟩
  clear hK hP hD hD0
  have hl := lv_entry ([.ref (ad 25), .int x1, .int x2]) (n := 7) (Nat.le_of_ble_eq_true rfl)
  rw [lg_entry_eq]
  generalize (lg_sl ([.ref (ad 25), .int x1, .int x2]) ++ List.replicate (7 - (lg_sl ([.ref (ad 25), .int x1, .int x2])).length) Slot.unset).toArray = ls at hl ⊢
  have hlg : lgC S S 0 0 := lgC.rf
  have hak : adk ad ad S := adk.rf
  have hl : lv_has ls 7 [(0, .ref (ad 25)), (1, .int x1), (2, .int x2)] := hl
  have hsh : shx S S := shx.rf
  unfold wX11_putSwitch at h
  refine lv_aload_n hx hb dX11_putSwitch_0 rfl (lv_at hl 0 rfl) ?_
  obtain ⟨hv2, h⟩ := h
  have hT_b1 : qT S (qO S 25 15) = 47 := hR.w.ref hv2 (hR.w.2.1 _ finC_28).2.1
  refine va_get (D := rD g) (ci := 10) (v := .ref (ad (qO S 25 15))) (C := RX11) (T := TX11) (N := 18) hx hb hts inX11 hown hR.K hR.P 25 (hR.at50 (hR.w.2.1 _ finC_28).2.1) rfl 15 (by decide) (hts _ kw_84) (fun _ h9 => h9) (congrArg (fun z => some (vf ad z)) hv2) dX11_putSwitch_1 ?_
  refine lv_iload_n hx hb dX11_putSwitch_4 rfl (lv_at hl 1 rfl) ?_
  obtain ⟨hv3, h⟩ := h
  have hFc := cfree hR hA
  refine va_calll (va_runV (As := [.int x1]) (rest := []) ⟨hx, hb, hml, hown, hts⟩ (rX8_argAt l g ad s.heap.size S (qO S 25 15) x1 hR.w hT_b1 hv3) (cwV 1 hts (gd_V kw_197 kw_1476 kw_1477 kw_782 kw_1475) rfl rfl rfl (by decide +kernel) ⟨Nat.le_of_ble_eq_true rfl, Nat.le_of_ble_eq_true rfl⟩) ⟨cblind, va_recv hR.K hR.P (ci := 7) (q0 := (qO S 25 15)) rfl (hR.at47 hT_b1), fun U hU hW9 => cmk hU hW9 hR hex hE hFc⟩ rfl rfl hl.1 rfl (lv_room (Nat.le_of_ble_eq_true rfl)) dX11_putSwitch_5 ⟨(show 0 + 0 ≤ KCC - qn S from hlg.c), (show 0 + 0 ≤ KSC - qu S from hlg.s)⟩) hR.sS (fun q _ h => hFc q h) hFc (fun r4 u9 t9 H1 locs ht9 hvm9 hw9 hB9 hz9 hk9 hS => ?_)
  have hR : RepC g ad A s S H1 locs := hR.call ht9 hB9 hR.w hS hFc
  obtain rfl : r4 = (fX8_argAt S (qO S 25 15) x1) := hw9
  clear hB9 hz9 hk9 hvm9 ht9 hS
  generalize H1 = H at hR ⊢
  obtain ⟨a6, ea6⟩ : ∃ z, z = (fX8_argAt S (qO S 25 15) x1) := ⟨_, rfl⟩
  rw [← ea6]
  replace h := h a6 ea6
  refine lv_l2i (v := (a6.toInt32)) hx hb dX11_putSwitch_8 rfl ?_
  obtain ⟨a7, ea7⟩ : ∃ z, z = (a6.toInt32) := ⟨_, rfl⟩
  rw [← ea7]
  replace h := h a7 ea7
  refine lv_istore_n (lv' := [(3, .int a7), (0, .ref (ad 25)), (1, .int x1), (2, .int x2)]) hx hb dX11_putSwitch_9 rfl hl (by decide) rfl (fun ls hl => ?_)
  refine lv_aload_n hx hb dX11_putSwitch_10 rfl (lv_at hl 1 rfl) ?_
  obtain ⟨hv9, h⟩ := h
  have hT_b8 : qT S (qO S 25 15) = 47 := hR.w.ref hv9 (hR.w.2.1 _ finC_28).2.1
  refine va_get (D := rD g) (ci := 10) (v := .ref (ad (qO S 25 15))) (C := RX11) (T := TX11) (N := 18) hx hb hts inX11 hown hR.K hR.P 25 (hR.at50 (hR.w.2.1 _ finC_28).2.1) rfl 15 (by decide) (hts _ kw_84) (fun _ h9 => h9) (congrArg (fun z => some (vf ad z)) hv9) dX11_putSwitch_11 ?_
  refine lv_iload_n hx hb dX11_putSwitch_14 rfl (lv_at hl 2 rfl) ?_
  obtain ⟨hv10, h⟩ := h
  have hFc := cfree hR hA
  refine va_calli (va_runV (As := [.int x1]) (rest := []) ⟨hx, hb, hml, hown, hts⟩ (rX8_targetCount l g ad H.size S (qO S 25 15) x1 hR.w hT_b8 hv10) (cwV 1 hts (gd_V kw_205 kw_1541 kw_1542 kw_782 kw_1540) rfl rfl rfl (by decide +kernel) ⟨Nat.le_of_ble_eq_true rfl, Nat.le_of_ble_eq_true rfl⟩) ⟨cblind, va_recv hR.K hR.P (ci := 7) (q0 := (qO S 25 15)) rfl (hR.at47 hT_b8), fun U hU hW9 => cmk hU hW9 hR hex hE hFc⟩ rfl rfl hl.1 rfl (lv_room (Nat.le_of_ble_eq_true rfl)) dX11_putSwitch_15 ⟨(show 0 + 0 ≤ KCC - qn S from hlg.c), (show 0 + 0 ≤ KSC - qu S from hlg.s)⟩) hR.sS (fun q _ h => hFc q h) hFc (fun r11 u9 t9 H1 locs ht9 hvm9 hw9 hB9 hz9 hk9 hS => ?_)
  have hR : RepC g ad A s S H1 locs := hR.call ht9 hB9 hR.w hS hFc
  obtain rfl : r11 = (fX8_targetCount S (qO S 25 15) x1) := hw9
  clear hB9 hz9 hk9 hvm9 ht9 hS
  generalize H1 = H at hR ⊢
  obtain ⟨a13, ea13⟩ : ∃ z, z = (fX8_targetCount S (qO S 25 15) x1) := ⟨_, rfl⟩
  rw [← ea13]
  replace h := h a13 ea13
  refine lv_iconst (v := 1) hx hb dX11_putSwitch_18 (by decide) ?_
  refine lv_isub hx hb dX11_putSwitch_19 ?_
  refine lv_topi (fun z14 ez14 => ?_)
  obtain rfl : z14 = (a13 - (1 : Int32)) := ez14
  obtain ⟨a15, ea15⟩ : ∃ z, z = (a13 - (1 : Int32)) := ⟨_, rfl⟩
  rw [← ea15]
  replace h := h a15 ea15
  refine lv_istore (lv' := [(4, .int a15), (3, .int a7), (0, .ref (ad 25)), (1, .int x1), (2, .int x2)]) hx hb dX11_putSwitch_20 hl (by decide) rfl (fun ls hl => ?_)
  refine lv_aload_n hx hb dX11_putSwitch_22 rfl (lv_at hl 2 rfl) ?_
  obtain ⟨hv17, h⟩ := h
  have hT_b16 : qT S (qO S 25 15) = 47 := hR.w.ref hv17 (hR.w.2.1 _ finC_28).2.1
  refine va_get (D := rD g) (ci := 10) (v := .ref (ad (qO S 25 15))) (C := RX11) (T := TX11) (N := 18) hx hb hts inX11 hown hR.K hR.P 25 (hR.at50 (hR.w.2.1 _ finC_28).2.1) rfl 15 (by decide) (hts _ kw_84) (fun _ h9 => h9) (congrArg (fun z => some (vf ad z)) hv17) dX11_putSwitch_23 ?_
  refine lv_iload_n hx hb dX11_putSwitch_26 rfl (lv_at hl 3 rfl) ?_
  obtain ⟨hv18, h⟩ := h
  have hFc := cfree hR hA
  refine va_calli (va_runV (As := [.int x1]) (rest := []) ⟨hx, hb, hml, hown, hts⟩ (rX8_opAt l g ad H.size S (qO S 25 15) x1 hR.w hT_b16 hv18) (cwV 1 hts (gd_V kw_189 kw_1513 kw_1514 kw_782 kw_1512) rfl rfl rfl (by decide +kernel) ⟨Nat.le_of_ble_eq_true rfl, Nat.le_of_ble_eq_true rfl⟩) ⟨cblind, va_recv hR.K hR.P (ci := 7) (q0 := (qO S 25 15)) rfl (hR.at47 hT_b16), fun U hU hW9 => cmk hU hW9 hR hex hE hFc⟩ rfl rfl hl.1 rfl (lv_room (Nat.le_of_ble_eq_true rfl)) dX11_putSwitch_27 ⟨(show 0 + 0 ≤ KCC - qn S from hlg.c), (show 0 + 0 ≤ KSC - qu S from hlg.s)⟩) hR.sS (fun q _ h => hFc q h) hFc (fun r19 u9 t9 H1 locs ht9 hvm9 hw9 hB9 hz9 hk9 hS => ?_)
  have hR : RepC g ad A s S H1 locs := hR.call ht9 hB9 hR.w hS hFc
  obtain rfl : r19 = (fX8_opAt S (qO S 25 15) x1) := hw9
  clear hB9 hz9 hk9 hvm9 ht9 hS
  generalize H1 = H at hR ⊢
  obtain ⟨a21, ea21⟩ : ∃ z, z = (fX8_opAt S (qO S 25 15) x1) := ⟨_, rfl⟩
  rw [← ea21]
  replace h := h a21 ea21
  refine lv_sipush (v := 170) hx hb dX11_putSwitch_30 (by decide) ?_
  have J_41 : ∀ (ad41 : Nat → Nat) (dc41 ds41 : Nat) (U41 : MS) (t41_0 : Int32) (v41_1 : Int32) (v41_2 : Int32) (v41_3 : Int32) (v41_4 : Int32) (H : Heap) (locs : List Loc) (ls : Array Slot), w_X11_putSwitch_J41 Q U41 t41_0 v41_1 v41_2 v41_3 v41_4 → (t41_0 = 0 ∨ t41_0 = 1) → shx S U41 → lgC S U41 dc41 ds41 → adk ad ad41 S → ogC ad41 A s s.heap → RepC g ad41 A s U41 H locs → lv_has ls 7 [(0, .ref (ad41 25)), (1, .int v41_1), (2, .int v41_2), (3, .int v41_3), (4, .int v41_4)] → W p l e (headSpec (wt yX11_putSwitch cX11_putSwitch 7 none) ({ frames := 5, cells := KCC - qn S, slots := KSC - qu S, locals := 125 })).room s m ([.ref (ad 25), .int x1, .int x2] : List Value).toArray below meth c H locs dc41 ds41 (MQ below (va_Qv (fun (u : MS × (Nat → Nat)) => Q u.1 ∧ wfC u.1 ∧ shx S u.1 ∧ adk ad u.2 S) (fun (u : MS × (Nat → Nat)) (t : State) => qEHC g A S s.heap u t) A) ([.ref (ad 25), .int x1, .int x2] : List Value).toArray s (KCC - qn S) (KSC - qu S) A) (F0 m 41 ls [.int t41_0]) := by
    intro ad41 dc41 ds41 U41 t41_0 v41_1 v41_2 v41_3 v41_4 H locs ls h hz_t41_0 hsh hlg hak hE hR hl
    unfold w_X11_putSwitch_J41 at h
    replace h := h hR.w hz_t41_0
    refine lv_istore (lv' := [(5, .int t41_0), (0, .ref (ad41 25)), (1, .int v41_1), (2, .int v41_2), (3, .int v41_3), (4, .int v41_4)]) hx hb dX11_putSwitch_41 hl (by decide) rfl (fun ls hl => ?_)
    refine lv_aload_n hx hb dX11_putSwitch_43 rfl (lv_at hl 1 rfl) ?_
    refine va_get (D := rD g) (ci := 10) (v := .ref (ad41 28)) (C := RX11) (T := TX11) (N := 18) hx hb hts inX11 hown hR.K hR.P 25 (hR.at50 (hR.w.2.1 _ finC_28).2.1) rfl 1 (by decide) (hts _ kw_94) (fun _ h9 => h9) (congrArg (fun z => some (vf ad41 z)) (hR.w.2.1 _ finC_13).1) dX11_putSwitch_44 ?_
    refine lv_aload_n hx hb dX11_putSwitch_47 rfl (lv_at hl 1 rfl) ?_
    obtain ⟨hv23, h⟩ := h
    have hT_b22 : qT U41 (qO U41 25 15) = 47 := hR.w.ref hv23 (hR.w.2.1 _ finC_28).2.1
    refine va_get (D := rD g) (ci := 10) (v := .ref (ad41 (qO U41 25 15))) (C := RX11) (T := TX11) (N := 18) hx hb hts inX11 hown hR.K hR.P 25 (hR.at50 (hR.w.2.1 _ finC_28).2.1) rfl 15 (by decide) (hts _ kw_84) (fun _ h9 => h9) (congrArg (fun z => some (vf ad41 z)) hv23) dX11_putSwitch_48 ?_
    refine lv_iload_n hx hb dX11_putSwitch_51 rfl (lv_at hl 2 rfl) ?_
    obtain ⟨hv24, h⟩ := h
    have hFc := cfree hR hA
    refine va_calli (va_runV (As := [.int v41_1]) (rest := [.ref (ad41 28)]) ⟨hx, hb, hml, hown, hts⟩ (rX8_opAt l g ad41 H.size U41 (qO U41 25 15) v41_1 hR.w hT_b22 hv24) (cwV 1 hts (gd_V kw_189 kw_1513 kw_1514 kw_782 kw_1512) rfl rfl rfl (by decide +kernel) ⟨Nat.le_of_ble_eq_true rfl, Nat.le_of_ble_eq_true rfl⟩) ⟨cblind, va_recv hR.K hR.P (ci := 7) (q0 := (qO U41 25 15)) rfl (hR.at47 hT_b22), fun U hU hW9 => cmk hU hW9 hR hex hE hFc⟩ rfl rfl hl.1 rfl (lv_room (Nat.le_of_ble_eq_true rfl)) dX11_putSwitch_52 ⟨(show dc41 + 0 ≤ KCC - qn S from hlg.c), (show ds41 + 0 ≤ KSC - qu S from hlg.s)⟩) hR.sS (fun q _ h => hFc q h) hFc (fun r25 u9 t9 H1 locs ht9 hvm9 hw9 hB9 hz9 hk9 hS => ?_)
    have hR : RepC g ad41 A s U41 H1 locs := hR.call ht9 hB9 hR.w hS hFc
    obtain rfl : r25 = (fX8_opAt U41 (qO U41 25 15) v41_1) := hw9
    clear hB9 hz9 hk9 hvm9 ht9 hS
    generalize H1 = H at hR ⊢
    obtain ⟨a27, ea27⟩ : ∃ z, z = (fX8_opAt U41 (qO U41 25 15) v41_1) := ⟨_, rfl⟩
    rw [← ea27]
    replace h := h a27 ea27
    replace h := h ((hR.w.2.1 _ finC_13).2.1)
    obtain ⟨Q28, h0, h⟩ := h
    have hFc := cfree hR hA
    refine W_led2 (fun hL0 => ?_)
    refine va_callv (va_runV (As := [.int a27]) (rest := []) ⟨hx, hb, hml, hown, hts⟩ (rX0_put l g ad41 H U41 28 a27 hR.w (hR.w.2.1 _ finC_13).2.1 Q28 h0) (cwV 1 hts (gd_V kw_140 kw_13 kw_14 kw_3 kw_12) rfl rfl rfl (by decide +kernel) ⟨Nat.le_of_ble_eq_true rfl, Nat.le_of_ble_eq_true rfl⟩) ⟨cblindH, va_recv hR.K hR.P (ci := 0) (q0 := 28) rfl (hR.at40 (hR.w.2.1 _ finC_13).2.1), fun U hU hW9 => cmkH hU hW9 hR hex hE hFc⟩ rfl rfl hl.1 rfl (lv_room (Nat.le_of_ble_eq_true rfl)) dX11_putSwitch_55 ⟨(show dc41 + (KCC - qn U41) ≤ KCC - qn S from hlg.cm), (show ds41 + (KSC - qu U41) ≤ KSC - qu S from hlg.sm)⟩) hR.sS (fun q _ h => hFc q h) hFc (fun  S29 t9 H1 locs ht9 hvm9 hw9 hB9 hz9 hk9 hS => ?_)
    rcases S29 with ⟨S29, ak31⟩
    obtain ⟨hB9, dc9, ds9, hL9, hl9⟩ := hB9
    dsimp only at hw9 hB9 hl9
    rw [ht9] at hL9
    obtain ⟨hq30, hw9, hs9, hk8⟩ := hw9
    have hw8 := hR.w
    have hak := hak.tr hk8 hlg.2.2.1
    have hE := hE.ad hk8
    have hR : RepC g ak31 A s S29 H1 locs := hR.callH ht9 hB9 hw9 hS hFc
    have hsh := hsh.tr hs9
    refine W_tight2 (hL0.tr hL9).1 (hL0.tr hL9).2.1 ?_
    have hlg := hlg.call hl9
    replace h := h  S29 hq30 hw9 hs9
    have ea_0 : ak31 25 = ad41 25 := hk8 _ (hw8.hd (hw8.2.1 _ finC_28).2.1 (by decide) (by decide))
    have hl : lv_has ls 7 [(5, .int t41_0), (0, .ref (ak31 25)), (1, .int v41_1), (2, .int v41_2), (3, .int v41_3), (4, .int v41_4)] := by simp only [ea_0]; exact hl
    clear hB9 hz9 hk9 hvm9 ht9 hw9 hs9 hS hL0 hL9
    generalize H1 = H at hR ⊢
    generalize dc9 = dc_ak31, ds9 = ds_ak31 at hlg ⊢
    refine lv_iconst (v := 0) hx hb dX11_putSwitch_58 (by decide) ?_
    refine lv_istore (lv' := [(6, .int 0), (5, .int t41_0), (0, .ref (ak31 25)), (1, .int v41_1), (2, .int v41_2), (3, .int v41_3), (4, .int v41_4)]) hx hb dX11_putSwitch_59 hl (by decide) rfl (fun ls hl => ?_)
    have J_61 : ∀ (n61 : Nat) (ad61 : Nat → Nat) (dc61 ds61 : Nat) (U61 : MS) (v61_1 : Int32) (v61_2 : Int32) (v61_3 : Int32) (v61_4 : Int32) (v61_5 : Int32) (v61_6 : Int32) (H : Heap) (locs : List Loc) (ls : Array Slot), w_X11_putSwitch_L61 Q n61 U61 v61_1 v61_2 v61_3 v61_4 v61_5 v61_6 → (v61_5 = 0 ∨ v61_5 = 1) → shx S U61 → lgC S U61 dc61 ds61 → adk ad ad61 S → ogC ad61 A s s.heap → RepC g ad61 A s U61 H locs → lv_has ls 7 [(0, .ref (ad61 25)), (1, .int v61_1), (2, .int v61_2), (3, .int v61_3), (4, .int v61_4), (5, .int v61_5), (6, .int v61_6)] → W p l e (headSpec (wt yX11_putSwitch cX11_putSwitch 7 none) ({ frames := 5, cells := KCC - qn S, slots := KSC - qu S, locals := 125 })).room s m ([.ref (ad 25), .int x1, .int x2] : List Value).toArray below meth c H locs dc61 ds61 (MQ below (va_Qv (fun (u : MS × (Nat → Nat)) => Q u.1 ∧ wfC u.1 ∧ shx S u.1 ∧ adk ad u.2 S) (fun (u : MS × (Nat → Nat)) (t : State) => qEHC g A S s.heap u t) A) ([.ref (ad 25), .int x1, .int x2] : List Value).toArray s (KCC - qn S) (KSC - qu S) A) (F0 m 61 ls []) := by
      intro n61
      induction n61 with
      | zero => intro ad61 dc61 ds61 U61 v61_1 v61_2 v61_3 v61_4 v61_5 v61_6 H locs ls h hz_v61_5 hsh hlg hak hE hR hl; unfold w_X11_putSwitch_L61 at h; exact h.elim
      | succ n61 ih_61 =>
        intro ad61 dc61 ds61 U61 v61_1 v61_2 v61_3 v61_4 v61_5 v61_6 H locs ls h hz_v61_5 hsh hlg hak hE hR hl
        unfold w_X11_putSwitch_L61 at h
        replace h := h hR.w hz_v61_5
        refine lv_iload hx hb dX11_putSwitch_61 (lv_at hl 6 rfl) ?_
        refine lv_iconst (v := 3) hx hb dX11_putSwitch_63 (by decide) ?_
        have J_95 : ∀ (ad95 : Nat → Nat) (dc95 ds95 : Nat) (U95 : MS) (v95_1 : Int32) (v95_3 : Int32) (v95_4 : Int32) (v95_5 : Int32) (H : Heap) (locs : List Loc) (ls : Array Slot), w_X11_putSwitch_J95 Q U95 v95_1 v95_3 v95_4 v95_5 → (v95_5 = 0 ∨ v95_5 = 1) → shx S U95 → lgC S U95 dc95 ds95 → adk ad ad95 S → ogC ad95 A s s.heap → RepC g ad95 A s U95 H locs → lv_has ls 7 [(0, .ref (ad95 25)), (1, .int v95_1), (3, .int v95_3), (4, .int v95_4), (5, .int v95_5)] → W p l e (headSpec (wt yX11_putSwitch cX11_putSwitch 7 none) ({ frames := 5, cells := KCC - qn S, slots := KSC - qu S, locals := 125 })).room s m ([.ref (ad 25), .int x1, .int x2] : List Value).toArray below meth c H locs dc95 ds95 (MQ below (va_Qv (fun (u : MS × (Nat → Nat)) => Q u.1 ∧ wfC u.1 ∧ shx S u.1 ∧ adk ad u.2 S) (fun (u : MS × (Nat → Nat)) (t : State) => qEHC g A S s.heap u t) A) ([.ref (ad 25), .int x1, .int x2] : List Value).toArray s (KCC - qn S) (KSC - qu S) A) (F0 m 95 ls []) := by
          intro ad95 dc95 ds95 U95 v95_1 v95_3 v95_4 v95_5 H locs ls h hz_v95_5 hsh hlg hak hE hR hl
          unfold w_X11_putSwitch_J95 at h
          replace h := h hR.w hz_v95_5
          refine lv_aload_n hx hb dX11_putSwitch_95 rfl (lv_at hl 0 rfl) ?_
          refine va_get (D := rD g) (ci := 10) (v := .ref (ad95 28)) (C := RX11) (T := TX11) (N := 18) hx hb hts inX11 hown hR.K hR.P 25 (hR.at50 (hR.w.2.1 _ finC_28).2.1) rfl 1 (by decide) (hts _ kw_94) (fun _ h9 => h9) (congrArg (fun z => some (vf ad95 z)) (hR.w.2.1 _ finC_13).1) dX11_putSwitch_96 ?_
          refine lv_aload_n hx hb dX11_putSwitch_99 rfl (lv_at hl 0 rfl) ?_
          refine lv_aload_n hx hb dX11_putSwitch_100 rfl (lv_at hl 0 rfl) ?_
          obtain ⟨hv33, h⟩ := h
          have hT_b32 : qT U95 (qO U95 25 15) = 47 := hR.w.ref hv33 (hR.w.2.1 _ finC_28).2.1
          refine va_get (D := rD g) (ci := 10) (v := .ref (ad95 (qO U95 25 15))) (C := RX11) (T := TX11) (N := 18) hx hb hts inX11 hown hR.K hR.P 25 (hR.at50 (hR.w.2.1 _ finC_28).2.1) rfl 15 (by decide) (hts _ kw_84) (fun _ h9 => h9) (congrArg (fun z => some (vf ad95 z)) hv33) dX11_putSwitch_101 ?_
          refine lv_iload_n hx hb dX11_putSwitch_104 rfl (lv_at hl 1 rfl) ?_
          refine lv_iconst (v := 0) hx hb dX11_putSwitch_105 (by decide) ?_
          obtain ⟨hv34, h⟩ := h
          have hFc := cfree hR hA
          refine va_calli (va_runV (As := [.int v95_1, .int 0]) (rest := [.ref (ad95 25), .ref (ad95 28)]) ⟨hx, hb, hml, hown, hts⟩ (rX8_targetAt l g ad95 H.size U95 (qO U95 25 15) v95_1 (0 : Int32) hR.w hT_b32 hv34) (cwV 2 hts (gd_V kw_263 kw_1537 kw_1538 kw_782 kw_1536) rfl rfl rfl (by decide +kernel) ⟨Nat.le_of_ble_eq_true rfl, Nat.le_of_ble_eq_true rfl⟩) ⟨cblind, va_recv hR.K hR.P (ci := 7) (q0 := (qO U95 25 15)) rfl (hR.at47 hT_b32), fun U hU hW9 => cmk hU hW9 hR hex hE hFc⟩ rfl rfl hl.1 rfl (lv_room (Nat.le_of_ble_eq_true rfl)) dX11_putSwitch_106 ⟨(show dc95 + 0 ≤ KCC - qn S from hlg.c), (show ds95 + 0 ≤ KSC - qu S from hlg.s)⟩) hR.sS (fun q _ h => hFc q h) hFc (fun r35 u9 t9 H1 locs ht9 hvm9 hw9 hB9 hz9 hk9 hS => ?_)
          have hR : RepC g ad95 A s U95 H1 locs := hR.call ht9 hB9 hR.w hS hFc
          obtain rfl : r35 = (fX8_targetAt U95 (qO U95 25 15) v95_1 (0 : Int32)) := hw9
          clear hB9 hz9 hk9 hvm9 ht9 hS
          generalize H1 = H at hR ⊢
          obtain ⟨a37, ea37⟩ : ∃ z, z = (fX8_targetAt U95 (qO U95 25 15) v95_1 (0 : Int32)) := ⟨_, rfl⟩
          rw [← ea37]
          replace h := h a37 ea37
          obtain ⟨hv38, h⟩ := h
          have hFc := cfree hR hA
          refine va_calli (va_runV (As := [.int a37]) (rest := [.ref (ad95 28)]) ⟨hx, hb, hml, hown, hts⟩ (rX11_offsetOf l g ad95 H.size U95 a37 hR.w  hv38) (cwV 1 hts (gd_V kw_105 kw_228 kw_229 kw_83 kw_227) rfl rfl rfl (by decide +kernel) ⟨Nat.le_of_ble_eq_true rfl, Nat.le_of_ble_eq_true rfl⟩) ⟨cblind, va_recv hR.K hR.P (ci := 10) (q0 := 25) rfl (hR.at50 (hR.w.2.1 _ finC_28).2.1), fun U hU hW9 => cmk hU hW9 hR hex hE hFc⟩ rfl rfl hl.1 rfl (lv_room (Nat.le_of_ble_eq_true rfl)) dX11_putSwitch_109 ⟨(show dc95 + 0 ≤ KCC - qn S from hlg.c), (show ds95 + 0 ≤ KSC - qu S from hlg.s)⟩) hR.sS (fun q _ h => hFc q h) hFc (fun r39 u9 t9 H1 locs ht9 hvm9 hw9 hB9 hz9 hk9 hS => ?_)
          have hR : RepC g ad95 A s U95 H1 locs := hR.call ht9 hB9 hR.w hS hFc
          obtain rfl : r39 = (fX11_offsetOf U95 a37) := hw9
          clear hB9 hz9 hk9 hvm9 ht9 hS
          generalize H1 = H at hR ⊢
          obtain ⟨a41, ea41⟩ : ∃ z, z = (fX11_offsetOf U95 a37) := ⟨_, rfl⟩
          rw [← ea41]
          replace h := h a41 ea41
          refine lv_aload_n hx hb dX11_putSwitch_112 rfl (lv_at hl 0 rfl) ?_
          refine lv_iload_n hx hb dX11_putSwitch_113 rfl (lv_at hl 1 rfl) ?_
          obtain ⟨hv42, h⟩ := h
          have hFc := cfree hR hA
          refine va_calli (va_runV (As := [.int v95_1]) (rest := [.int a41, .ref (ad95 28)]) ⟨hx, hb, hml, hown, hts⟩ (rX11_offsetOf l g ad95 H.size U95 v95_1 hR.w  hv42) (cwV 1 hts (gd_V kw_105 kw_228 kw_229 kw_83 kw_227) rfl rfl rfl (by decide +kernel) ⟨Nat.le_of_ble_eq_true rfl, Nat.le_of_ble_eq_true rfl⟩) ⟨cblind, va_recv hR.K hR.P (ci := 10) (q0 := 25) rfl (hR.at50 (hR.w.2.1 _ finC_28).2.1), fun U hU hW9 => cmk hU hW9 hR hex hE hFc⟩ rfl rfl hl.1 rfl (lv_room (Nat.le_of_ble_eq_true rfl)) dX11_putSwitch_114 ⟨(show dc95 + 0 ≤ KCC - qn S from hlg.c), (show ds95 + 0 ≤ KSC - qu S from hlg.s)⟩) hR.sS (fun q _ h => hFc q h) hFc (fun r43 u9 t9 H1 locs ht9 hvm9 hw9 hB9 hz9 hk9 hS => ?_)
          have hR : RepC g ad95 A s U95 H1 locs := hR.call ht9 hB9 hR.w hS hFc
          obtain rfl : r43 = (fX11_offsetOf U95 v95_1) := hw9
          clear hB9 hz9 hk9 hvm9 ht9 hS
          generalize H1 = H at hR ⊢
          obtain ⟨a45, ea45⟩ : ∃ z, z = (fX11_offsetOf U95 v95_1) := ⟨_, rfl⟩
          rw [← ea45]
          replace h := h a45 ea45
          refine lv_isub hx hb dX11_putSwitch_117 ?_
          refine lv_topi (fun z46 ez46 => ?_)
          obtain rfl : z46 = (a41 - a45) := ez46
          replace h := h ((hR.w.2.1 _ finC_13).2.1)
          obtain ⟨Q47, h0, h⟩ := h
          have hFc := cfree hR hA
          refine W_led2 (fun hL0 => ?_)
          refine va_callv (va_runV (As := [.int (a41 - a45)]) (rest := []) ⟨hx, hb, hml, hown, hts⟩ (rX0_put4 l g ad95 H U95 28 (a41 - a45) hR.w (hR.w.2.1 _ finC_13).2.1 Q47 h0) (cwV 1 hts (gd_V kw_98 kw_21 kw_22 kw_3 kw_20) rfl rfl rfl (by decide +kernel) ⟨Nat.le_of_ble_eq_true rfl, Nat.le_of_ble_eq_true rfl⟩) ⟨cblindH, va_recv hR.K hR.P (ci := 0) (q0 := 28) rfl (hR.at40 (hR.w.2.1 _ finC_13).2.1), fun U hU hW9 => cmkH hU hW9 hR hex hE hFc⟩ rfl rfl hl.1 rfl (lv_room (Nat.le_of_ble_eq_true rfl)) dX11_putSwitch_118 ⟨(show dc95 + (KCC - qn U95) ≤ KCC - qn S from hlg.cm), (show ds95 + (KSC - qu U95) ≤ KSC - qu S from hlg.sm)⟩) hR.sS (fun q _ h => hFc q h) hFc (fun  S48 t9 H1 locs ht9 hvm9 hw9 hB9 hz9 hk9 hS => ?_)
          rcases S48 with ⟨S48, ak50⟩
          obtain ⟨hB9, dc9, ds9, hL9, hl9⟩ := hB9
          dsimp only at hw9 hB9 hl9
          rw [ht9] at hL9
          obtain ⟨hq49, hw9, hs9, hk8⟩ := hw9
          have hw8 := hR.w
          have hak := hak.tr hk8 hlg.2.2.1
          have hE := hE.ad hk8
          have hR : RepC g ak50 A s S48 H1 locs := hR.callH ht9 hB9 hw9 hS hFc
          have hsh := hsh.tr hs9
          refine W_tight2 (hL0.tr hL9).1 (hL0.tr hL9).2.1 ?_
          have hlg := hlg.call hl9
          replace h := h  S48 hq49 hw9 hs9
          have ea_0 : ak50 25 = ad95 25 := hk8 _ (hw8.hd (hw8.2.1 _ finC_28).2.1 (by decide) (by decide))
          have hl : lv_has ls 7 [(0, .ref (ak50 25)), (1, .int v95_1), (3, .int v95_3), (4, .int v95_4), (5, .int v95_5)] := by simp only [ea_0]; exact hl
          clear hB9 hz9 hk9 hvm9 ht9 hw9 hs9 hS hL0 hL9
          generalize H1 = H at hR ⊢
          generalize dc9 = dc_ak50, ds9 = ds_ak50 at hlg ⊢
          refine lv_iload hx hb dX11_putSwitch_121 (lv_at hl 4 rfl) ?_
          have J_177 : ∀ (ad177 : Nat → Nat) (dc177 ds177 : Nat) (U177 : MS) (v177_1 : Int32) (v177_3 : Int32) (v177_4 : Int32) (v177_5 : Int32) (H : Heap) (locs : List Loc) (ls : Array Slot), w_X11_putSwitch_J177 Q U177 v177_1 v177_3 v177_4 v177_5 → (v177_5 = 0 ∨ v177_5 = 1) → shx S U177 → lgC S U177 dc177 ds177 → adk ad ad177 S → ogC ad177 A s s.heap → RepC g ad177 A s U177 H locs → lv_has ls 7 [(0, .ref (ad177 25)), (1, .int v177_1), (3, .int v177_3), (4, .int v177_4), (5, .int v177_5)] → W p l e (headSpec (wt yX11_putSwitch cX11_putSwitch 7 none) ({ frames := 5, cells := KCC - qn S, slots := KSC - qu S, locals := 125 })).room s m ([.ref (ad 25), .int x1, .int x2] : List Value).toArray below meth c H locs dc177 ds177 (MQ below (va_Qv (fun (u : MS × (Nat → Nat)) => Q u.1 ∧ wfC u.1 ∧ shx S u.1 ∧ adk ad u.2 S) (fun (u : MS × (Nat → Nat)) (t : State) => qEHC g A S s.heap u t) A) ([.ref (ad 25), .int x1, .int x2] : List Value).toArray s (KCC - qn S) (KSC - qu S) A) (F0 m 177 ls []) := by
            intro ad177 dc177 ds177 U177 v177_1 v177_3 v177_4 v177_5 H locs ls h hz_v177_5 hsh hlg hak hE hR hl
            unfold w_X11_putSwitch_J177 at h
            replace h := h hR.w hz_v177_5
            refine lv_iconst (v := 1) hx hb dX11_putSwitch_177 (by decide) ?_
            refine lv_istore (lv' := [(6, .int 1), (0, .ref (ad177 25)), (1, .int v177_1), (3, .int v177_3), (4, .int v177_4), (5, .int v177_5)]) hx hb dX11_putSwitch_178 hl (by decide) rfl (fun ls hl => ?_)
            have J_180 : ∀ (n180 : Nat) (ad180 : Nat → Nat) (dc180 ds180 : Nat) (U180 : MS) (v180_1 : Int32) (v180_3 : Int32) (v180_4 : Int32) (v180_5 : Int32) (v180_6 : Int32) (H : Heap) (locs : List Loc) (ls : Array Slot), w_X11_putSwitch_L180 Q n180 U180 v180_1 v180_3 v180_4 v180_5 v180_6 → (v180_5 = 0 ∨ v180_5 = 1) → shx S U180 → lgC S U180 dc180 ds180 → adk ad ad180 S → ogC ad180 A s s.heap → RepC g ad180 A s U180 H locs → lv_has ls 7 [(0, .ref (ad180 25)), (1, .int v180_1), (3, .int v180_3), (4, .int v180_4), (5, .int v180_5), (6, .int v180_6)] → W p l e (headSpec (wt yX11_putSwitch cX11_putSwitch 7 none) ({ frames := 5, cells := KCC - qn S, slots := KSC - qu S, locals := 125 })).room s m ([.ref (ad 25), .int x1, .int x2] : List Value).toArray below meth c H locs dc180 ds180 (MQ below (va_Qv (fun (u : MS × (Nat → Nat)) => Q u.1 ∧ wfC u.1 ∧ shx S u.1 ∧ adk ad u.2 S) (fun (u : MS × (Nat → Nat)) (t : State) => qEHC g A S s.heap u t) A) ([.ref (ad 25), .int x1, .int x2] : List Value).toArray s (KCC - qn S) (KSC - qu S) A) (F0 m 180 ls []) := by
              intro n180
              induction n180 with
              | zero => intro ad180 dc180 ds180 U180 v180_1 v180_3 v180_4 v180_5 v180_6 H locs ls h hz_v180_5 hsh hlg hak hE hR hl; unfold w_X11_putSwitch_L180 at h; exact h.elim
              | succ n180 ih_180 =>
                intro ad180 dc180 ds180 U180 v180_1 v180_3 v180_4 v180_5 v180_6 H locs ls h hz_v180_5 hsh hlg hak hE hR hl
                unfold w_X11_putSwitch_L180 at h
                replace h := h hR.w hz_v180_5
                refine lv_iload hx hb dX11_putSwitch_180 (lv_at hl 5 rfl) ?_
                refine lv_iload hx hb dX11_putSwitch_182 (lv_at hl 3 rfl) ?_
                refine lv_icmp_gt (tgt := 248) hx hb dX11_putSwitch_184 (by decide) (fun c51 => ?_) (fun c51 => ?_)
                · replace h := h.1 (k_lt rfl rfl c51)
                  refine W_led2 (fun hLd => ?_)
                  refine W.widen (k := KCC - qn S) (n := KSC - qu S) hlg.c hlg.s ?_
                  exact W.vret hx hb hr (fun t9 ht9 hW9 => ⟨⟨(U180, ad180), rfl, ⟨h, hR.w, hsh, hak⟩, ⟨⟨by rw [ht9]; exact hR.P, hR.D⟩, _, _, by rw [ht9]; exact hLd, hlg⟩⟩, hR.sS.F ht9⟩) hR.sS.2.2 dX11_putSwitch_248
                · replace h := h.2 (k_nlt rfl rfl c51)
                  refine lv_iload hx hb dX11_putSwitch_187 (lv_at hl 4 rfl) ?_
                  have J_215 : ∀ (ad215 : Nat → Nat) (dc215 ds215 : Nat) (U215 : MS) (v215_1 : Int32) (v215_3 : Int32) (v215_4 : Int32) (v215_5 : Int32) (v215_6 : Int32) (H : Heap) (locs : List Loc) (ls : Array Slot), w_X11_putSwitch_J215 Q (w_X11_putSwitch_L180 Q n180) U215 v215_1 v215_3 v215_4 v215_5 v215_6 → (v215_5 = 0 ∨ v215_5 = 1) → shx S U215 → lgC S U215 dc215 ds215 → adk ad ad215 S → ogC ad215 A s s.heap → RepC g ad215 A s U215 H locs → lv_has ls 7 [(0, .ref (ad215 25)), (1, .int v215_1), (3, .int v215_3), (4, .int v215_4), (5, .int v215_5), (6, .int v215_6)] → W p l e (headSpec (wt yX11_putSwitch cX11_putSwitch 7 none) ({ frames := 5, cells := KCC - qn S, slots := KSC - qu S, locals := 125 })).room s m ([.ref (ad 25), .int x1, .int x2] : List Value).toArray below meth c H locs dc215 ds215 (MQ below (va_Qv (fun (u : MS × (Nat → Nat)) => Q u.1 ∧ wfC u.1 ∧ shx S u.1 ∧ adk ad u.2 S) (fun (u : MS × (Nat → Nat)) (t : State) => qEHC g A S s.heap u t) A) ([.ref (ad 25), .int x1, .int x2] : List Value).toArray s (KCC - qn S) (KSC - qu S) A) (F0 m 215 ls []) := by
                    intro ad215 dc215 ds215 U215 v215_1 v215_3 v215_4 v215_5 v215_6 H locs ls h hz_v215_5 hsh hlg hak hE hR hl
                    unfold w_X11_putSwitch_J215 at h
                    replace h := h hR.w hz_v215_5
                    refine lv_aload_n hx hb dX11_putSwitch_215 rfl (lv_at hl 0 rfl) ?_
                    refine va_get (D := rD g) (ci := 10) (v := .ref (ad215 28)) (C := RX11) (T := TX11) (N := 18) hx hb hts inX11 hown hR.K hR.P 25 (hR.at50 (hR.w.2.1 _ finC_28).2.1) rfl 1 (by decide) (hts _ kw_94) (fun _ h9 => h9) (congrArg (fun z => some (vf ad215 z)) (hR.w.2.1 _ finC_13).1) dX11_putSwitch_216 ?_
                    refine lv_aload_n hx hb dX11_putSwitch_219 rfl (lv_at hl 0 rfl) ?_
                    refine lv_aload_n hx hb dX11_putSwitch_220 rfl (lv_at hl 0 rfl) ?_
                    obtain ⟨hv53, h⟩ := h
                    have hT_b52 : qT U215 (qO U215 25 15) = 47 := hR.w.ref hv53 (hR.w.2.1 _ finC_28).2.1
                    refine va_get (D := rD g) (ci := 10) (v := .ref (ad215 (qO U215 25 15))) (C := RX11) (T := TX11) (N := 18) hx hb hts inX11 hown hR.K hR.P 25 (hR.at50 (hR.w.2.1 _ finC_28).2.1) rfl 15 (by decide) (hts _ kw_84) (fun _ h9 => h9) (congrArg (fun z => some (vf ad215 z)) hv53) dX11_putSwitch_221 ?_
                    refine lv_iload_n hx hb dX11_putSwitch_224 rfl (lv_at hl 1 rfl) ?_
                    refine lv_iload hx hb dX11_putSwitch_225 (lv_at hl 5 rfl) ?_
                    obtain ⟨hv54, h⟩ := h
                    have hFc := cfree hR hA
                    refine va_calli (va_runV (As := [.int v215_1, .int v215_6]) (rest := [.ref (ad215 25), .ref (ad215 28)]) ⟨hx, hb, hml, hown, hts⟩ (rX8_targetAt l g ad215 H.size U215 (qO U215 25 15) v215_1 v215_6 hR.w hT_b52 hv54) (cwV 2 hts (gd_V kw_263 kw_1537 kw_1538 kw_782 kw_1536) rfl rfl rfl (by decide +kernel) ⟨Nat.le_of_ble_eq_true rfl, Nat.le_of_ble_eq_true rfl⟩) ⟨cblind, va_recv hR.K hR.P (ci := 7) (q0 := (qO U215 25 15)) rfl (hR.at47 hT_b52), fun U hU hW9 => cmk hU hW9 hR hex hE hFc⟩ rfl rfl hl.1 rfl (lv_room (Nat.le_of_ble_eq_true rfl)) dX11_putSwitch_227 ⟨(show dc215 + 0 ≤ KCC - qn S from hlg.c), (show ds215 + 0 ≤ KSC - qu S from hlg.s)⟩) hR.sS (fun q _ h => hFc q h) hFc (fun r55 u9 t9 H1 locs ht9 hvm9 hw9 hB9 hz9 hk9 hS => ?_)
                    have hR : RepC g ad215 A s U215 H1 locs := hR.call ht9 hB9 hR.w hS hFc
                    obtain rfl : r55 = (fX8_targetAt U215 (qO U215 25 15) v215_1 v215_6) := hw9
                    clear hB9 hz9 hk9 hvm9 ht9 hS
                    generalize H1 = H at hR ⊢
                    obtain ⟨a57, ea57⟩ : ∃ z, z = (fX8_targetAt U215 (qO U215 25 15) v215_1 v215_6) := ⟨_, rfl⟩
                    rw [← ea57]
                    replace h := h a57 ea57
                    obtain ⟨hv58, h⟩ := h
                    have hFc := cfree hR hA
                    refine va_calli (va_runV (As := [.int a57]) (rest := [.ref (ad215 28)]) ⟨hx, hb, hml, hown, hts⟩ (rX11_offsetOf l g ad215 H.size U215 a57 hR.w  hv58) (cwV 1 hts (gd_V kw_105 kw_228 kw_229 kw_83 kw_227) rfl rfl rfl (by decide +kernel) ⟨Nat.le_of_ble_eq_true rfl, Nat.le_of_ble_eq_true rfl⟩) ⟨cblind, va_recv hR.K hR.P (ci := 10) (q0 := 25) rfl (hR.at50 (hR.w.2.1 _ finC_28).2.1), fun U hU hW9 => cmk hU hW9 hR hex hE hFc⟩ rfl rfl hl.1 rfl (lv_room (Nat.le_of_ble_eq_true rfl)) dX11_putSwitch_230 ⟨(show dc215 + 0 ≤ KCC - qn S from hlg.c), (show ds215 + 0 ≤ KSC - qu S from hlg.s)⟩) hR.sS (fun q _ h => hFc q h) hFc (fun r59 u9 t9 H1 locs ht9 hvm9 hw9 hB9 hz9 hk9 hS => ?_)
                    have hR : RepC g ad215 A s U215 H1 locs := hR.call ht9 hB9 hR.w hS hFc
                    obtain rfl : r59 = (fX11_offsetOf U215 a57) := hw9
                    clear hB9 hz9 hk9 hvm9 ht9 hS
                    generalize H1 = H at hR ⊢
                    obtain ⟨a61, ea61⟩ : ∃ z, z = (fX11_offsetOf U215 a57) := ⟨_, rfl⟩
                    rw [← ea61]
                    replace h := h a61 ea61
                    refine lv_aload_n hx hb dX11_putSwitch_233 rfl (lv_at hl 0 rfl) ?_
                    refine lv_iload_n hx hb dX11_putSwitch_234 rfl (lv_at hl 1 rfl) ?_
                    obtain ⟨hv62, h⟩ := h
                    have hFc := cfree hR hA
                    refine va_calli (va_runV (As := [.int v215_1]) (rest := [.int a61, .ref (ad215 28)]) ⟨hx, hb, hml, hown, hts⟩ (rX11_offsetOf l g ad215 H.size U215 v215_1 hR.w  hv62) (cwV 1 hts (gd_V kw_105 kw_228 kw_229 kw_83 kw_227) rfl rfl rfl (by decide +kernel) ⟨Nat.le_of_ble_eq_true rfl, Nat.le_of_ble_eq_true rfl⟩) ⟨cblind, va_recv hR.K hR.P (ci := 10) (q0 := 25) rfl (hR.at50 (hR.w.2.1 _ finC_28).2.1), fun U hU hW9 => cmk hU hW9 hR hex hE hFc⟩ rfl rfl hl.1 rfl (lv_room (Nat.le_of_ble_eq_true rfl)) dX11_putSwitch_235 ⟨(show dc215 + 0 ≤ KCC - qn S from hlg.c), (show ds215 + 0 ≤ KSC - qu S from hlg.s)⟩) hR.sS (fun q _ h => hFc q h) hFc (fun r63 u9 t9 H1 locs ht9 hvm9 hw9 hB9 hz9 hk9 hS => ?_)
                    have hR : RepC g ad215 A s U215 H1 locs := hR.call ht9 hB9 hR.w hS hFc
                    obtain rfl : r63 = (fX11_offsetOf U215 v215_1) := hw9
                    clear hB9 hz9 hk9 hvm9 ht9 hS
                    generalize H1 = H at hR ⊢
                    obtain ⟨a65, ea65⟩ : ∃ z, z = (fX11_offsetOf U215 v215_1) := ⟨_, rfl⟩
                    rw [← ea65]
                    replace h := h a65 ea65
                    refine lv_isub hx hb dX11_putSwitch_238 ?_
                    refine lv_topi (fun z66 ez66 => ?_)
                    obtain rfl : z66 = (a61 - a65) := ez66
                    replace h := h ((hR.w.2.1 _ finC_13).2.1)
                    obtain ⟨Q67, h0, h⟩ := h
                    have hFc := cfree hR hA
                    refine W_led2 (fun hL0 => ?_)
                    refine va_callv (va_runV (As := [.int (a61 - a65)]) (rest := []) ⟨hx, hb, hml, hown, hts⟩ (rX0_put4 l g ad215 H U215 28 (a61 - a65) hR.w (hR.w.2.1 _ finC_13).2.1 Q67 h0) (cwV 1 hts (gd_V kw_98 kw_21 kw_22 kw_3 kw_20) rfl rfl rfl (by decide +kernel) ⟨Nat.le_of_ble_eq_true rfl, Nat.le_of_ble_eq_true rfl⟩) ⟨cblindH, va_recv hR.K hR.P (ci := 0) (q0 := 28) rfl (hR.at40 (hR.w.2.1 _ finC_13).2.1), fun U hU hW9 => cmkH hU hW9 hR hex hE hFc⟩ rfl rfl hl.1 rfl (lv_room (Nat.le_of_ble_eq_true rfl)) dX11_putSwitch_239 ⟨(show dc215 + (KCC - qn U215) ≤ KCC - qn S from hlg.cm), (show ds215 + (KSC - qu U215) ≤ KSC - qu S from hlg.sm)⟩) hR.sS (fun q _ h => hFc q h) hFc (fun  S68 t9 H1 locs ht9 hvm9 hw9 hB9 hz9 hk9 hS => ?_)
                    rcases S68 with ⟨S68, ak70⟩
                    obtain ⟨hB9, dc9, ds9, hL9, hl9⟩ := hB9
                    dsimp only at hw9 hB9 hl9
                    rw [ht9] at hL9
                    obtain ⟨hq69, hw9, hs9, hk8⟩ := hw9
                    have hw8 := hR.w
                    have hak := hak.tr hk8 hlg.2.2.1
                    have hE := hE.ad hk8
                    have hR : RepC g ak70 A s S68 H1 locs := hR.callH ht9 hB9 hw9 hS hFc
                    have hsh := hsh.tr hs9
                    refine W_tight2 (hL0.tr hL9).1 (hL0.tr hL9).2.1 ?_
                    have hlg := hlg.call hl9
                    replace h := h  S68 hq69 hw9 hs9
                    have ea_0 : ak70 25 = ad215 25 := hk8 _ (hw8.hd (hw8.2.1 _ finC_28).2.1 (by decide) (by decide))
                    have hl : lv_has ls 7 [(0, .ref (ak70 25)), (1, .int v215_1), (3, .int v215_3), (4, .int v215_4), (5, .int v215_5), (6, .int v215_6)] := by simp only [ea_0]; exact hl
                    clear hB9 hz9 hk9 hvm9 ht9 hw9 hs9 hS hL0 hL9
                    generalize H1 = H at hR ⊢
                    generalize dc9 = dc_ak70, ds9 = ds_ak70 at hlg ⊢
                    obtain ⟨a71, ea71⟩ : ∃ z, z = (v215_6 + Int32.ofInt 1) := ⟨_, rfl⟩
                    replace h := h a71 ea71
                    refine lv_iinc (v := a71) (lv' := [(6, .int a71), (0, .ref (ak70 25)), (1, .int v215_1), (3, .int v215_3), (4, .int v215_4), (5, .int v215_5)]) hx hb dX11_putSwitch_242 hl (k := 5) rfl ea71.symm (by decide) rfl (fun ls hl => ?_)
                    refine lv_goto (tgt := 180) hx hb dX11_putSwitch_245 (by decide) ?_
                    exact ih_180 ak70 (dc215 + dc_ak70) (ds215 + ds_ak70) S68 v215_1 v215_3 v215_4 v215_5 a71 _ _ ls h hz_v215_5 hsh hlg hak hE hR (lv_sub hl [1, 2, 3, 4, 5, 0] rfl)
                  refine lv_if_ne (tgt := 215) hx hb dX11_putSwitch_189 (by decide) (fun c72 => ?_) (fun c72 => ?_)
                  · replace h := h.2 (k_ne rfl (by decide) c72)
                    exact J_215 ad180 (dc180) (ds180) U180 v180_1 v180_3 v180_4 v180_5 v180_6 _ _ ls h hz_v180_5 hsh hlg hak hE hR (lv_sub hl [0, 1, 2, 3, 4, 5] rfl)
                  · replace h := h.1 (k_eq rfl (by decide) c72)
                    refine lv_aload_n hx hb dX11_putSwitch_192 rfl (lv_at hl 0 rfl) ?_
                    refine va_get (D := rD g) (ci := 10) (v := .ref (ad180 28)) (C := RX11) (T := TX11) (N := 18) hx hb hts inX11 hown hR.K hR.P 25 (hR.at50 (hR.w.2.1 _ finC_28).2.1) rfl 1 (by decide) (hts _ kw_94) (fun _ h9 => h9) (congrArg (fun z => some (vf ad180 z)) (hR.w.2.1 _ finC_13).1) dX11_putSwitch_193 ?_
                    refine lv_aload_n hx hb dX11_putSwitch_196 rfl (lv_at hl 0 rfl) ?_
                    obtain ⟨hv74, h⟩ := h
                    have hT_b73 : qT U180 (qO U180 25 15) = 47 := hR.w.ref hv74 (hR.w.2.1 _ finC_28).2.1
                    refine va_get (D := rD g) (ci := 10) (v := .ref (ad180 (qO U180 25 15))) (C := RX11) (T := TX11) (N := 18) hx hb hts inX11 hown hR.K hR.P 25 (hR.at50 (hR.w.2.1 _ finC_28).2.1) rfl 15 (by decide) (hts _ kw_84) (fun _ h9 => h9) (congrArg (fun z => some (vf ad180 z)) hv74) dX11_putSwitch_197 ?_
                    refine lv_iload_n hx hb dX11_putSwitch_200 rfl (lv_at hl 2 rfl) ?_
                    refine lv_iconst (v := 2) hx hb dX11_putSwitch_201 (by decide) ?_
                    refine lv_iadd hx hb dX11_putSwitch_202 ?_
                    refine lv_topi (fun z75 ez75 => ?_)
                    obtain rfl : z75 = (v180_3 + (2 : Int32)) := ez75
                    refine lv_iload hx hb dX11_putSwitch_203 (lv_at hl 3 rfl) ?_
                    refine lv_iadd hx hb dX11_putSwitch_205 ?_
                    refine lv_topi (fun z76 ez76 => ?_)
                    obtain rfl : z76 = ((v180_3 + (2 : Int32)) + v180_4) := ez76
                    refine lv_iload hx hb dX11_putSwitch_206 (lv_at hl 5 rfl) ?_
                    refine lv_iadd hx hb dX11_putSwitch_208 ?_
                    refine lv_topi (fun z77 ez77 => ?_)
                    obtain rfl : z77 = (((v180_3 + (2 : Int32)) + v180_4) + v180_6) := ez77
                    obtain ⟨hv78, h⟩ := h
                    have hFc := cfree hR hA
                    refine va_calli (va_runV (As := [.int (((v180_3 + (2 : Int32)) + v180_4) + v180_6)]) (rest := [.ref (ad180 28)]) ⟨hx, hb, hml, hown, hts⟩ (rX8_tableAt l g ad180 H.size U180 (qO U180 25 15) (((v180_3 + (2 : Int32)) + v180_4) + v180_6) hR.w hT_b73 hv78) (cwV 1 hts (gd_V kw_264 kw_1534 kw_1535 kw_782 kw_1533) rfl rfl rfl (by decide +kernel) ⟨Nat.le_of_ble_eq_true rfl, Nat.le_of_ble_eq_true rfl⟩) ⟨cblind, va_recv hR.K hR.P (ci := 7) (q0 := (qO U180 25 15)) rfl (hR.at47 hT_b73), fun U hU hW9 => cmk hU hW9 hR hex hE hFc⟩ rfl rfl hl.1 rfl (lv_room (Nat.le_of_ble_eq_true rfl)) dX11_putSwitch_209 ⟨(show dc180 + 0 ≤ KCC - qn S from hlg.c), (show ds180 + 0 ≤ KSC - qu S from hlg.s)⟩) hR.sS (fun q _ h => hFc q h) hFc (fun r79 u9 t9 H1 locs ht9 hvm9 hw9 hB9 hz9 hk9 hS => ?_)
                    have hR : RepC g ad180 A s U180 H1 locs := hR.call ht9 hB9 hR.w hS hFc
                    obtain rfl : r79 = (fX8_tableAt U180 (qO U180 25 15) (((v180_3 + (2 : Int32)) + v180_4) + v180_6)) := hw9
                    clear hB9 hz9 hk9 hvm9 ht9 hS
                    generalize H1 = H at hR ⊢
                    obtain ⟨a81, ea81⟩ : ∃ z, z = (fX8_tableAt U180 (qO U180 25 15) (((v180_3 + (2 : Int32)) + v180_4) + v180_6)) := ⟨_, rfl⟩
                    rw [← ea81]
                    replace h := h a81 ea81
                    replace h := h ((hR.w.2.1 _ finC_13).2.1)
                    obtain ⟨Q82, h0, h⟩ := h
                    have hFc := cfree hR hA
                    refine W_led2 (fun hL0 => ?_)
                    refine va_callv (va_runV (As := [.int a81]) (rest := []) ⟨hx, hb, hml, hown, hts⟩ (rX0_put4 l g ad180 H U180 28 a81 hR.w (hR.w.2.1 _ finC_13).2.1 Q82 h0) (cwV 1 hts (gd_V kw_98 kw_21 kw_22 kw_3 kw_20) rfl rfl rfl (by decide +kernel) ⟨Nat.le_of_ble_eq_true rfl, Nat.le_of_ble_eq_true rfl⟩) ⟨cblindH, va_recv hR.K hR.P (ci := 0) (q0 := 28) rfl (hR.at40 (hR.w.2.1 _ finC_13).2.1), fun U hU hW9 => cmkH hU hW9 hR hex hE hFc⟩ rfl rfl hl.1 rfl (lv_room (Nat.le_of_ble_eq_true rfl)) dX11_putSwitch_212 ⟨(show dc180 + (KCC - qn U180) ≤ KCC - qn S from hlg.cm), (show ds180 + (KSC - qu U180) ≤ KSC - qu S from hlg.sm)⟩) hR.sS (fun q _ h => hFc q h) hFc (fun  S83 t9 H1 locs ht9 hvm9 hw9 hB9 hz9 hk9 hS => ?_)
                    rcases S83 with ⟨S83, ak85⟩
                    obtain ⟨hB9, dc9, ds9, hL9, hl9⟩ := hB9
                    dsimp only at hw9 hB9 hl9
                    rw [ht9] at hL9
                    obtain ⟨hq84, hw9, hs9, hk8⟩ := hw9
                    have hw8 := hR.w
                    have hak := hak.tr hk8 hlg.2.2.1
                    have hE := hE.ad hk8
                    have hR : RepC g ak85 A s S83 H1 locs := hR.callH ht9 hB9 hw9 hS hFc
                    have hsh := hsh.tr hs9
                    refine W_tight2 (hL0.tr hL9).1 (hL0.tr hL9).2.1 ?_
                    have hlg := hlg.call hl9
                    replace h := h  S83 hq84 hw9 hs9
                    have ea_0 : ak85 25 = ad180 25 := hk8 _ (hw8.hd (hw8.2.1 _ finC_28).2.1 (by decide) (by decide))
                    have hl : lv_has ls 7 [(0, .ref (ak85 25)), (1, .int v180_1), (3, .int v180_3), (4, .int v180_4), (5, .int v180_5), (6, .int v180_6)] := by simp only [ea_0]; exact hl
                    clear hB9 hz9 hk9 hvm9 ht9 hw9 hs9 hS hL0 hL9
                    generalize H1 = H at hR ⊢
                    generalize dc9 = dc_ak85, ds9 = ds_ak85 at hlg ⊢
                    exact J_215 ak85 (dc180 + dc_ak85) (ds180 + ds_ak85) S83 v180_1 v180_3 v180_4 v180_5 v180_6 _ _ ls h hz_v180_5 hsh hlg hak hE hR (lv_sub hl [0, 1, 2, 3, 4, 5] rfl)
            obtain ⟨n9, h⟩ := h
            exact J_180 n9 ad177 (dc177) (ds177) U177 v177_1 v177_3 v177_4 v177_5 1 _ _ ls h hz_v177_5 hsh hlg hak hE hR (lv_sub hl [1, 2, 3, 4, 5, 0] rfl)
          refine lv_if_eq (tgt := 168) hx hb dX11_putSwitch_123 (by decide) (fun c86 => ?_) (fun c86 => ?_)
          · replace h := h.1 (k_eq rfl (by decide) c86)
            refine lv_aload_n hx hb dX11_putSwitch_168 rfl (lv_at hl 0 rfl) ?_
            refine va_get (D := rD g) (ci := 10) (v := .ref (ak50 28)) (C := RX11) (T := TX11) (N := 18) hx hb hts inX11 hown hR.K hR.P 25 (hR.at50 (hR.w.2.1 _ finC_28).2.1) rfl 1 (by decide) (hts _ kw_94) (fun _ h9 => h9) (congrArg (fun z => some (vf ak50 z)) (hR.w.2.1 _ finC_13).1) dX11_putSwitch_169 ?_
            refine lv_iload hx hb dX11_putSwitch_172 (lv_at hl 3 rfl) ?_
            replace h := h ((hR.w.2.1 _ finC_13).2.1)
            obtain ⟨Q87, h0, h⟩ := h
            have hFc := cfree hR hA
            refine W_led2 (fun hL0 => ?_)
            refine va_callv (va_runV (As := [.int v95_4]) (rest := []) ⟨hx, hb, hml, hown, hts⟩ (rX0_put4 l g ak50 H S48 28 v95_4 hR.w (hR.w.2.1 _ finC_13).2.1 Q87 h0) (cwV 1 hts (gd_V kw_98 kw_21 kw_22 kw_3 kw_20) rfl rfl rfl (by decide +kernel) ⟨Nat.le_of_ble_eq_true rfl, Nat.le_of_ble_eq_true rfl⟩) ⟨cblindH, va_recv hR.K hR.P (ci := 0) (q0 := 28) rfl (hR.at40 (hR.w.2.1 _ finC_13).2.1), fun U hU hW9 => cmkH hU hW9 hR hex hE hFc⟩ rfl rfl hl.1 rfl (lv_room (Nat.le_of_ble_eq_true rfl)) dX11_putSwitch_174 ⟨(show dc95 + dc_ak50 + (KCC - qn S48) ≤ KCC - qn S from hlg.cm), (show ds95 + ds_ak50 + (KSC - qu S48) ≤ KSC - qu S from hlg.sm)⟩) hR.sS (fun q _ h => hFc q h) hFc (fun  S88 t9 H1 locs ht9 hvm9 hw9 hB9 hz9 hk9 hS => ?_)
            rcases S88 with ⟨S88, ak90⟩
            obtain ⟨hB9, dc9, ds9, hL9, hl9⟩ := hB9
            dsimp only at hw9 hB9 hl9
            rw [ht9] at hL9
            obtain ⟨hq89, hw9, hs9, hk8⟩ := hw9
            have hw8 := hR.w
            have hak := hak.tr hk8 hlg.2.2.1
            have hE := hE.ad hk8
            have hR : RepC g ak90 A s S88 H1 locs := hR.callH ht9 hB9 hw9 hS hFc
            have hsh := hsh.tr hs9
            refine W_tight2 (hL0.tr hL9).1 (hL0.tr hL9).2.1 ?_
            have hlg := hlg.call hl9
            replace h := h  S88 hq89 hw9 hs9
            have ea_0 : ak90 25 = ak50 25 := hk8 _ (hw8.hd (hw8.2.1 _ finC_28).2.1 (by decide) (by decide))
            have hl : lv_has ls 7 [(0, .ref (ak90 25)), (1, .int v95_1), (3, .int v95_3), (4, .int v95_4), (5, .int v95_5)] := by simp only [ea_0]; exact hl
            clear hB9 hz9 hk9 hvm9 ht9 hw9 hs9 hS hL0 hL9
            generalize H1 = H at hR ⊢
            generalize dc9 = dc_ak90, ds9 = ds_ak90 at hlg ⊢
            exact J_177 ak90 (dc95 + dc_ak50 + dc_ak90) (ds95 + ds_ak50 + ds_ak90) S88 v95_1 v95_3 v95_4 v95_5 _ _ ls h hz_v95_5 hsh hlg hak hE hR (lv_sub hl [0, 1, 2, 3, 4] rfl)
          · replace h := h.2 (k_ne rfl (by decide) c86)
            refine lv_aload_n hx hb dX11_putSwitch_126 rfl (lv_at hl 0 rfl) ?_
            refine va_get (D := rD g) (ci := 10) (v := .ref (ak50 28)) (C := RX11) (T := TX11) (N := 18) hx hb hts inX11 hown hR.K hR.P 25 (hR.at50 (hR.w.2.1 _ finC_28).2.1) rfl 1 (by decide) (hts _ kw_94) (fun _ h9 => h9) (congrArg (fun z => some (vf ak50 z)) (hR.w.2.1 _ finC_13).1) dX11_putSwitch_127 ?_
            refine lv_aload_n hx hb dX11_putSwitch_130 rfl (lv_at hl 0 rfl) ?_
            obtain ⟨hv92, h⟩ := h
            have hT_b91 : qT S48 (qO S48 25 15) = 47 := hR.w.ref hv92 (hR.w.2.1 _ finC_28).2.1
            refine va_get (D := rD g) (ci := 10) (v := .ref (ak50 (qO S48 25 15))) (C := RX11) (T := TX11) (N := 18) hx hb hts inX11 hown hR.K hR.P 25 (hR.at50 (hR.w.2.1 _ finC_28).2.1) rfl 15 (by decide) (hts _ kw_84) (fun _ h9 => h9) (congrArg (fun z => some (vf ak50 z)) hv92) dX11_putSwitch_131 ?_
            refine lv_iload_n hx hb dX11_putSwitch_134 rfl (lv_at hl 2 rfl) ?_
            refine lv_iconst (v := 1) hx hb dX11_putSwitch_135 (by decide) ?_
            refine lv_iadd hx hb dX11_putSwitch_136 ?_
            refine lv_topi (fun z93 ez93 => ?_)
            obtain rfl : z93 = (v95_3 + (1 : Int32)) := ez93
            obtain ⟨hv94, h⟩ := h
            have hFc := cfree hR hA
            refine va_calli (va_runV (As := [.int (v95_3 + (1 : Int32))]) (rest := [.ref (ak50 28)]) ⟨hx, hb, hml, hown, hts⟩ (rX8_tableAt l g ak50 H.size S48 (qO S48 25 15) (v95_3 + (1 : Int32)) hR.w hT_b91 hv94) (cwV 1 hts (gd_V kw_264 kw_1534 kw_1535 kw_782 kw_1533) rfl rfl rfl (by decide +kernel) ⟨Nat.le_of_ble_eq_true rfl, Nat.le_of_ble_eq_true rfl⟩) ⟨cblind, va_recv hR.K hR.P (ci := 7) (q0 := (qO S48 25 15)) rfl (hR.at47 hT_b91), fun U hU hW9 => cmk hU hW9 hR hex hE hFc⟩ rfl rfl hl.1 rfl (lv_room (Nat.le_of_ble_eq_true rfl)) dX11_putSwitch_137 ⟨(show dc95 + dc_ak50 + 0 ≤ KCC - qn S from hlg.c), (show ds95 + ds_ak50 + 0 ≤ KSC - qu S from hlg.s)⟩) hR.sS (fun q _ h => hFc q h) hFc (fun r95 u9 t9 H1 locs ht9 hvm9 hw9 hB9 hz9 hk9 hS => ?_)
            have hR : RepC g ak50 A s S48 H1 locs := hR.call ht9 hB9 hR.w hS hFc
            obtain rfl : r95 = (fX8_tableAt S48 (qO S48 25 15) (v95_3 + (1 : Int32))) := hw9
            clear hB9 hz9 hk9 hvm9 ht9 hS
            generalize H1 = H at hR ⊢
            obtain ⟨a97, ea97⟩ : ∃ z, z = (fX8_tableAt S48 (qO S48 25 15) (v95_3 + (1 : Int32))) := ⟨_, rfl⟩
            rw [← ea97]
            replace h := h a97 ea97
            replace h := h ((hR.w.2.1 _ finC_13).2.1)
            obtain ⟨Q98, h0, h⟩ := h
            have hFc := cfree hR hA
            refine W_led2 (fun hL0 => ?_)
            refine va_callv (va_runV (As := [.int a97]) (rest := []) ⟨hx, hb, hml, hown, hts⟩ (rX0_put4 l g ak50 H S48 28 a97 hR.w (hR.w.2.1 _ finC_13).2.1 Q98 h0) (cwV 1 hts (gd_V kw_98 kw_21 kw_22 kw_3 kw_20) rfl rfl rfl (by decide +kernel) ⟨Nat.le_of_ble_eq_true rfl, Nat.le_of_ble_eq_true rfl⟩) ⟨cblindH, va_recv hR.K hR.P (ci := 0) (q0 := 28) rfl (hR.at40 (hR.w.2.1 _ finC_13).2.1), fun U hU hW9 => cmkH hU hW9 hR hex hE hFc⟩ rfl rfl hl.1 rfl (lv_room (Nat.le_of_ble_eq_true rfl)) dX11_putSwitch_140 ⟨(show dc95 + dc_ak50 + (KCC - qn S48) ≤ KCC - qn S from hlg.cm), (show ds95 + ds_ak50 + (KSC - qu S48) ≤ KSC - qu S from hlg.sm)⟩) hR.sS (fun q _ h => hFc q h) hFc (fun  S99 t9 H1 locs ht9 hvm9 hw9 hB9 hz9 hk9 hS => ?_)
            rcases S99 with ⟨S99, ak101⟩
            obtain ⟨hB9, dc9, ds9, hL9, hl9⟩ := hB9
            dsimp only at hw9 hB9 hl9
            rw [ht9] at hL9
            obtain ⟨hq100, hw9, hs9, hk8⟩ := hw9
            have hw8 := hR.w
            have hak := hak.tr hk8 hlg.2.2.1
            have hE := hE.ad hk8
            have hR : RepC g ak101 A s S99 H1 locs := hR.callH ht9 hB9 hw9 hS hFc
            have hsh := hsh.tr hs9
            refine W_tight2 (hL0.tr hL9).1 (hL0.tr hL9).2.1 ?_
            have hlg := hlg.call hl9
            replace h := h  S99 hq100 hw9 hs9
            have ea_0 : ak101 25 = ak50 25 := hk8 _ (hw8.hd (hw8.2.1 _ finC_28).2.1 (by decide) (by decide))
            have hl : lv_has ls 7 [(0, .ref (ak101 25)), (1, .int v95_1), (3, .int v95_3), (4, .int v95_4), (5, .int v95_5)] := by simp only [ea_0]; exact hl
            clear hB9 hz9 hk9 hvm9 ht9 hw9 hs9 hS hL0 hL9
            generalize H1 = H at hR ⊢
            generalize dc9 = dc_ak101, ds9 = ds_ak101 at hlg ⊢
            refine lv_aload_n hx hb dX11_putSwitch_143 rfl (lv_at hl 0 rfl) ?_
            refine va_get (D := rD g) (ci := 10) (v := .ref (ak101 28)) (C := RX11) (T := TX11) (N := 18) hx hb hts inX11 hown hR.K hR.P 25 (hR.at50 (hR.w.2.1 _ finC_28).2.1) rfl 1 (by decide) (hts _ kw_94) (fun _ h9 => h9) (congrArg (fun z => some (vf ak101 z)) (hR.w.2.1 _ finC_13).1) dX11_putSwitch_144 ?_
            refine lv_aload_n hx hb dX11_putSwitch_147 rfl (lv_at hl 0 rfl) ?_
            obtain ⟨hv103, h⟩ := h
            have hT_b102 : qT S99 (qO S99 25 15) = 47 := hR.w.ref hv103 (hR.w.2.1 _ finC_28).2.1
            refine va_get (D := rD g) (ci := 10) (v := .ref (ak101 (qO S99 25 15))) (C := RX11) (T := TX11) (N := 18) hx hb hts inX11 hown hR.K hR.P 25 (hR.at50 (hR.w.2.1 _ finC_28).2.1) rfl 15 (by decide) (hts _ kw_84) (fun _ h9 => h9) (congrArg (fun z => some (vf ak101 z)) hv103) dX11_putSwitch_148 ?_
            refine lv_iload_n hx hb dX11_putSwitch_151 rfl (lv_at hl 2 rfl) ?_
            refine lv_iconst (v := 1) hx hb dX11_putSwitch_152 (by decide) ?_
            refine lv_iadd hx hb dX11_putSwitch_153 ?_
            refine lv_topi (fun z104 ez104 => ?_)
            obtain rfl : z104 = (v95_3 + (1 : Int32)) := ez104
            obtain ⟨hv105, h⟩ := h
            have hFc := cfree hR hA
            refine va_calli (va_runV (As := [.int (v95_3 + (1 : Int32))]) (rest := [.ref (ak101 28)]) ⟨hx, hb, hml, hown, hts⟩ (rX8_tableAt l g ak101 H.size S99 (qO S99 25 15) (v95_3 + (1 : Int32)) hR.w hT_b102 hv105) (cwV 1 hts (gd_V kw_264 kw_1534 kw_1535 kw_782 kw_1533) rfl rfl rfl (by decide +kernel) ⟨Nat.le_of_ble_eq_true rfl, Nat.le_of_ble_eq_true rfl⟩) ⟨cblind, va_recv hR.K hR.P (ci := 7) (q0 := (qO S99 25 15)) rfl (hR.at47 hT_b102), fun U hU hW9 => cmk hU hW9 hR hex hE hFc⟩ rfl rfl hl.1 rfl (lv_room (Nat.le_of_ble_eq_true rfl)) dX11_putSwitch_154 ⟨(show dc95 + dc_ak50 + dc_ak101 + 0 ≤ KCC - qn S from hlg.c), (show ds95 + ds_ak50 + ds_ak101 + 0 ≤ KSC - qu S from hlg.s)⟩) hR.sS (fun q _ h => hFc q h) hFc (fun r106 u9 t9 H1 locs ht9 hvm9 hw9 hB9 hz9 hk9 hS => ?_)
            have hR : RepC g ak101 A s S99 H1 locs := hR.call ht9 hB9 hR.w hS hFc
            obtain rfl : r106 = (fX8_tableAt S99 (qO S99 25 15) (v95_3 + (1 : Int32))) := hw9
            clear hB9 hz9 hk9 hvm9 ht9 hS
            generalize H1 = H at hR ⊢
            obtain ⟨a108, ea108⟩ : ∃ z, z = (fX8_tableAt S99 (qO S99 25 15) (v95_3 + (1 : Int32))) := ⟨_, rfl⟩
            rw [← ea108]
            replace h := h a108 ea108
            refine lv_iload hx hb dX11_putSwitch_157 (lv_at hl 3 rfl) ?_
            refine lv_iadd hx hb dX11_putSwitch_159 ?_
            refine lv_topi (fun z109 ez109 => ?_)
            obtain rfl : z109 = (a108 + v95_4) := ez109
            refine lv_iconst (v := 1) hx hb dX11_putSwitch_160 (by decide) ?_
            refine lv_isub hx hb dX11_putSwitch_161 ?_
            refine lv_topi (fun z110 ez110 => ?_)
            obtain rfl : z110 = ((a108 + v95_4) - (1 : Int32)) := ez110
            replace h := h ((hR.w.2.1 _ finC_13).2.1)
            obtain ⟨Q111, h0, h⟩ := h
            have hFc := cfree hR hA
            refine W_led2 (fun hL0 => ?_)
            refine va_callv (va_runV (As := [.int ((a108 + v95_4) - (1 : Int32))]) (rest := []) ⟨hx, hb, hml, hown, hts⟩ (rX0_put4 l g ak101 H S99 28 ((a108 + v95_4) - (1 : Int32)) hR.w (hR.w.2.1 _ finC_13).2.1 Q111 h0) (cwV 1 hts (gd_V kw_98 kw_21 kw_22 kw_3 kw_20) rfl rfl rfl (by decide +kernel) ⟨Nat.le_of_ble_eq_true rfl, Nat.le_of_ble_eq_true rfl⟩) ⟨cblindH, va_recv hR.K hR.P (ci := 0) (q0 := 28) rfl (hR.at40 (hR.w.2.1 _ finC_13).2.1), fun U hU hW9 => cmkH hU hW9 hR hex hE hFc⟩ rfl rfl hl.1 rfl (lv_room (Nat.le_of_ble_eq_true rfl)) dX11_putSwitch_162 ⟨(show dc95 + dc_ak50 + dc_ak101 + (KCC - qn S99) ≤ KCC - qn S from hlg.cm), (show ds95 + ds_ak50 + ds_ak101 + (KSC - qu S99) ≤ KSC - qu S from hlg.sm)⟩) hR.sS (fun q _ h => hFc q h) hFc (fun  S112 t9 H1 locs ht9 hvm9 hw9 hB9 hz9 hk9 hS => ?_)
            rcases S112 with ⟨S112, ak114⟩
            obtain ⟨hB9, dc9, ds9, hL9, hl9⟩ := hB9
            dsimp only at hw9 hB9 hl9
            rw [ht9] at hL9
            obtain ⟨hq113, hw9, hs9, hk8⟩ := hw9
            have hw8 := hR.w
            have hak := hak.tr hk8 hlg.2.2.1
            have hE := hE.ad hk8
            have hR : RepC g ak114 A s S112 H1 locs := hR.callH ht9 hB9 hw9 hS hFc
            have hsh := hsh.tr hs9
            refine W_tight2 (hL0.tr hL9).1 (hL0.tr hL9).2.1 ?_
            have hlg := hlg.call hl9
            replace h := h  S112 hq113 hw9 hs9
            have ea_0 : ak114 25 = ak101 25 := hk8 _ (hw8.hd (hw8.2.1 _ finC_28).2.1 (by decide) (by decide))
            have hl : lv_has ls 7 [(0, .ref (ak114 25)), (1, .int v95_1), (3, .int v95_3), (4, .int v95_4), (5, .int v95_5)] := by simp only [ea_0]; exact hl
            clear hB9 hz9 hk9 hvm9 ht9 hw9 hs9 hS hL0 hL9
            generalize H1 = H at hR ⊢
            generalize dc9 = dc_ak114, ds9 = ds_ak114 at hlg ⊢
            refine lv_goto (tgt := 177) hx hb dX11_putSwitch_165 (by decide) ?_
            exact J_177 ak114 (dc95 + dc_ak50 + dc_ak101 + dc_ak114) (ds95 + ds_ak50 + ds_ak101 + ds_ak114) S112 v95_1 v95_3 v95_4 v95_5 _ _ ls h hz_v95_5 hsh hlg hak hE hR (lv_sub hl [0, 1, 2, 3, 4] rfl)
        refine lv_icmp_ge (tgt := 95) hx hb dX11_putSwitch_64 (by decide) (fun c115 => ?_) (fun c115 => ?_)
        · replace h := h.1 (k_le (by decide) rfl c115)
          exact J_95 ad61 (dc61) (ds61) U61 v61_1 v61_3 v61_4 v61_5 _ _ ls h hz_v61_5 hsh hlg hak hE hR (lv_sub hl [0, 1, 3, 4, 5] rfl)
        · replace h := h.2 (k_nle (by decide) rfl c115)
          refine lv_aload_n hx hb dX11_putSwitch_67 rfl (lv_at hl 0 rfl) ?_
          refine va_get (D := rD g) (ci := 10) (v := .ref (ad61 28)) (C := RX11) (T := TX11) (N := 18) hx hb hts inX11 hown hR.K hR.P 25 (hR.at50 (hR.w.2.1 _ finC_28).2.1) rfl 1 (by decide) (hts _ kw_94) (fun _ h9 => h9) (congrArg (fun z => some (vf ad61 z)) (hR.w.2.1 _ finC_13).1) dX11_putSwitch_68 ?_
          refine va_get (D := rD g) (ci := 0) (v := .int (qI U61 28 1)) (C := RX0) (T := TX0) (N := 2) hx hb hts inX0 hown hR.K hR.P 28 (hR.at40 (hR.w.2.1 _ finC_13).2.1) rfl 1 (by decide) (hts _ kw_101) (fun _ h9 => h9) rfl dX11_putSwitch_71 ?_
          refine lv_iload_n hx hb dX11_putSwitch_74 rfl (lv_at hl 2 rfl) ?_
          refine lv_isub hx hb dX11_putSwitch_75 ?_
          refine lv_topi (fun z116 ez116 => ?_)
          obtain rfl : z116 = ((qI U61 28 1) - v61_2) := ez116
          refine lv_iconst (v := 3) hx hb dX11_putSwitch_76 (by decide) ?_
          refine lv_iand hx hb dX11_putSwitch_77 ?_
          refine lv_topi (fun z117 ez117 => ?_)
          obtain rfl : z117 = (((qI U61 28 1) - v61_2) &&& (3 : Int32)) := ez117
          refine lv_if_eq (tgt := 95) hx hb dX11_putSwitch_78 (by decide) (fun c118 => ?_) (fun c118 => ?_)
          · replace h := h.1 (k_eq rfl (by decide) c118)
            exact J_95 ad61 (dc61) (ds61) U61 v61_1 v61_3 v61_4 v61_5 _ _ ls h hz_v61_5 hsh hlg hak hE hR (lv_sub hl [0, 1, 3, 4, 5] rfl)
          · replace h := h.2 (k_ne rfl (by decide) c118)
            refine lv_aload_n hx hb dX11_putSwitch_81 rfl (lv_at hl 0 rfl) ?_
            refine va_get (D := rD g) (ci := 10) (v := .ref (ad61 28)) (C := RX11) (T := TX11) (N := 18) hx hb hts inX11 hown hR.K hR.P 25 (hR.at50 (hR.w.2.1 _ finC_28).2.1) rfl 1 (by decide) (hts _ kw_94) (fun _ h9 => h9) (congrArg (fun z => some (vf ad61 z)) (hR.w.2.1 _ finC_13).1) dX11_putSwitch_82 ?_
            refine lv_iconst (v := 0) hx hb dX11_putSwitch_85 (by decide) ?_
            replace h := h ((hR.w.2.1 _ finC_13).2.1)
            obtain ⟨Q119, h0, h⟩ := h
            have hFc := cfree hR hA
            refine W_led2 (fun hL0 => ?_)
            refine va_callv (va_runV (As := [.int 0]) (rest := []) ⟨hx, hb, hml, hown, hts⟩ (rX0_put l g ad61 H U61 28 (0 : Int32) hR.w (hR.w.2.1 _ finC_13).2.1 Q119 h0) (cwV 1 hts (gd_V kw_140 kw_13 kw_14 kw_3 kw_12) rfl rfl rfl (by decide +kernel) ⟨Nat.le_of_ble_eq_true rfl, Nat.le_of_ble_eq_true rfl⟩) ⟨cblindH, va_recv hR.K hR.P (ci := 0) (q0 := 28) rfl (hR.at40 (hR.w.2.1 _ finC_13).2.1), fun U hU hW9 => cmkH hU hW9 hR hex hE hFc⟩ rfl rfl hl.1 rfl (lv_room (Nat.le_of_ble_eq_true rfl)) dX11_putSwitch_86 ⟨(show dc61 + (KCC - qn U61) ≤ KCC - qn S from hlg.cm), (show ds61 + (KSC - qu U61) ≤ KSC - qu S from hlg.sm)⟩) hR.sS (fun q _ h => hFc q h) hFc (fun  S120 t9 H1 locs ht9 hvm9 hw9 hB9 hz9 hk9 hS => ?_)
            rcases S120 with ⟨S120, ak122⟩
            obtain ⟨hB9, dc9, ds9, hL9, hl9⟩ := hB9
            dsimp only at hw9 hB9 hl9
            rw [ht9] at hL9
            obtain ⟨hq121, hw9, hs9, hk8⟩ := hw9
            have hw8 := hR.w
            have hak := hak.tr hk8 hlg.2.2.1
            have hE := hE.ad hk8
            have hR : RepC g ak122 A s S120 H1 locs := hR.callH ht9 hB9 hw9 hS hFc
            have hsh := hsh.tr hs9
            refine W_tight2 (hL0.tr hL9).1 (hL0.tr hL9).2.1 ?_
            have hlg := hlg.call hl9
            replace h := h  S120 hq121 hw9 hs9
            have ea_0 : ak122 25 = ad61 25 := hk8 _ (hw8.hd (hw8.2.1 _ finC_28).2.1 (by decide) (by decide))
            have hl : lv_has ls 7 [(0, .ref (ak122 25)), (1, .int v61_1), (2, .int v61_2), (3, .int v61_3), (4, .int v61_4), (5, .int v61_5), (6, .int v61_6)] := by simp only [ea_0]; exact hl
            clear hB9 hz9 hk9 hvm9 ht9 hw9 hs9 hS hL0 hL9
            generalize H1 = H at hR ⊢
            generalize dc9 = dc_ak122, ds9 = ds_ak122 at hlg ⊢
            obtain ⟨a123, ea123⟩ : ∃ z, z = (v61_6 + Int32.ofInt 1) := ⟨_, rfl⟩
            replace h := h a123 ea123
            refine lv_iinc (v := a123) (lv' := [(6, .int a123), (0, .ref (ak122 25)), (1, .int v61_1), (2, .int v61_2), (3, .int v61_3), (4, .int v61_4), (5, .int v61_5)]) hx hb dX11_putSwitch_89 hl (k := 6) rfl ea123.symm (by decide) rfl (fun ls hl => ?_)
            refine lv_goto (tgt := 61) hx hb dX11_putSwitch_92 (by decide) ?_
            exact ih_61 ak122 (dc61 + dc_ak122) (ds61 + ds_ak122) S120 v61_1 v61_2 v61_3 v61_4 v61_5 a123 _ _ ls h hz_v61_5 hsh hlg hak hE hR (lv_sub hl [1, 2, 3, 4, 5, 6, 0] rfl)
    obtain ⟨n9, h⟩ := h
    exact J_61 n9 ak31 (dc41 + dc_ak31) (ds41 + ds_ak31) S29 v41_1 v41_2 v41_3 v41_4 t41_0 0 _ _ ls h hz_t41_0 hsh hlg hak hE hR (lv_sub hl [2, 3, 4, 5, 6, 1, 0] rfl)
  refine lv_icmp_ne (tgt := 40) hx hb dX11_putSwitch_33 (by decide) (fun c124 => ?_) (fun c124 => ?_)
  · replace h := h.2 (k_ne rfl (by decide) c124)
    refine lv_iconst (v := 0) hx hb dX11_putSwitch_40 (by decide) ?_
    exact J_41 ad (0) (0) S 0 x1 x2 a7 a15 _ _ ls h (Or.inl rfl) hsh hlg hak hE hR (lv_sub hl [2, 3, 4, 1, 0] rfl)
  · replace h := h.1 (k_eq rfl (by decide) c124)
    refine lv_iconst (v := 1) hx hb dX11_putSwitch_36 (by decide) ?_
    refine lv_goto (tgt := 41) hx hb dX11_putSwitch_37 (by decide) ?_
    exact J_41 ad (0) (0) S 1 x1 x2 a7 a15 _ _ ls h (Or.inr rfl) hsh hlg hak hE hR (lv_sub hl [2, 3, 4, 1, 0] rfl)
def wX12_feed (S : MS) (x1 : Int32) (x2 : Int32) (x3 : Int32) (x4 : Int32) (x5 : Int32) (Q : Int32 → MS → Prop) : Prop := ((16000 < ((qI S 1 1) + (20 : Int32)).toInt → Q (-1 : Int32) S) ∧ (¬ 16000 < ((qI S 1 1) + (20 : Int32)).toInt → ((((qI S 0 10) + (20 : Int32)).toInt ≤ 65536 → (qT S 1 = 40 → (∃ Q5, wX0_put4 S 1 x1 Q5 ∧ ∀ S6, Q5 S6 → wfC S6 → shx S S6 → (qT S6 1 = 40 → (∃ Q9, wX0_put4 S6 1 x2 Q9 ∧ ∀ S10, Q9 S10 → wfC S10 → shx S6 S10 → (qT S10 1 = 40 → (∃ Q13, wX0_put4 S10 1 x3 Q13 ∧ ∀ S14, Q13 S14 → wfC S14 → shx S10 S14 → (qT S14 1 = 40 → (∃ Q17, wX0_put4 S14 1 x4 Q17 ∧ ∀ S18, Q17 S18 → wfC S18 → shx S14 S18 → (qT S18 1 = 40 → (∃ Q21, wX0_put4 S18 1 x5 Q21 ∧ ∀ S22, Q21 S22 → wfC S22 → shx S18 S22 → (∀ S26, S26 = wI S22 0 10 ((qI S22 0 10) + (20 : Int32)) → qT S22 0 = 51 → wfC S26 → Q (qI S26 1 1) S26)))))))))))) ∧ (¬ ((qI S 0 10) + (20 : Int32)).toInt ≤ 65536 → Q (-1 : Int32) S))))
set_option maxHeartbeats 2000000 in
set_option maxRecDepth 100000 in
theorem rX12_feed (l : Launch) (g : Gr) (ad : Nat → Nat) (H0 : Heap) (S : MS) (x1 : Int32) (x2 : Int32) (x3 : Int32) (x4 : Int32) (x5 : Int32) (hw : wfC S) (Q : Int32 → MS → Prop) (h : wX12_feed S x1 x2 x3 x4 x5 Q) : Met l yX12_feed (wt yX12_feed cX12_feed 6 (some .int)) ({ frames := 5, cells := KCC - qn S, slots := KSC - qu S, locals := 125 }) (va_Pc [.ref (ad 0), .int x1, .int x2, .int x3, .int x4, .int x5] (st_CH g ad H0 S)) (va_Qi (fun (r : Int32) (u : MS × (Nat → Nat)) => Q r u.1 ∧ wfC u.1 ∧ shx S u.1 ∧ adk ad u.2 S) (fun (u : MS × (Nat → Nat)) (t : State) => qEHC g (va_A (WdC g ad S) H0.size) S H0 u t) (va_A (WdC g ad S) H0.size)) (KCC - qn S) (KSC - qu S) (va_A (WdC g ad S) H0.size) := by
  refine Met.ofW (cc := cX12_feed) (maxL := 6) (ret := (some .int)) (by decide) rfl ?_
  intro p e s m args below meth c s₁ B hml hv
  obtain ⟨rfl, hH0, hsz, hP, hK, hD0, hex, hE⟩ := hv
  have hx := B.exec
  have hb := B.bytes
  have hr := B.returns
  have hts0 := atoms_spec (ws := wt yX12_feed cX12_feed 6 (some .int)) B.pre
  have hts : ∀ w ∈ tb, w.before _ s = true := fun w h => hts0 w (List.mem_cons_of_mem _ h)
  have hown : s.vm.findClass RX12 = some m.cls := findClass_of_methodNamed B.named
  subst hH0
  have hD := hD0.self (sz := s.heap.size)
  generalize hAe : va_A (WdC g ad S) s.heap.size = A at hD hE ⊢
  have hA : ∀ q : Nat, s.heap.size ≤ q → A q := fun q h => by rw [← hAe]; exact Or.inr h
  have hR : RepC g ad A s S s.heap [] := ⟨hK, hP, hD, va_S.rf, hw⟩
  clear hK hP hD hD0
  have hl := lv_entry ([.ref (ad 0), .int x1, .int x2, .int x3, .int x4, .int x5]) (n := 6) (Nat.le_of_ble_eq_true rfl)
  rw [lg_entry_eq]
  generalize (lg_sl ([.ref (ad 0), .int x1, .int x2, .int x3, .int x4, .int x5]) ++ List.replicate (6 - (lg_sl ([.ref (ad 0), .int x1, .int x2, .int x3, .int x4, .int x5])).length) Slot.unset).toArray = ls at hl ⊢
  have hlg : lgC S S 0 0 := lgC.rf
  have hak : adk ad ad S := adk.rf
  have hl : lv_has ls 6 [(0, .ref (ad 0)), (1, .int x1), (2, .int x2), (3, .int x3), (4, .int x4), (5, .int x5)] := hl
  have hsh : shx S S := shx.rf
  unfold wX12_feed at h
  refine lv_aload_n hx hb dX12_feed_0 rfl (lv_at hl 0 rfl) ?_
  refine va_get (D := rD g) (ci := 11) (v := .ref (ad 1)) (C := RX12) (T := TX12) (N := 18) hx hb hts inX12 hown hR.K hR.P 0 (hR.at51 hR.w.1) rfl 0 (by decide) (hts _ kw_349) (fun _ h9 => h9) (congrArg (fun z => some (vf ad z)) (hR.w.2.1 _ finC_22).1) dX12_feed_1 ?_
  refine va_get (D := rD g) (ci := 0) (v := .int (qI S 1 1)) (C := RX0) (T := TX0) (N := 2) hx hb hts inX0 hown hR.K hR.P 1 (hR.at40 (hR.w.2.1 _ finC_22).2.1) rfl 1 (by decide) (hts _ kw_311) (fun _ h9 => h9) rfl dX12_feed_4 ?_
  refine lv_bipush (v := 20) hx hb dX12_feed_7 (by decide) ?_
  refine lv_iadd hx hb dX12_feed_9 ?_
  refine lv_topi (fun z1 ez1 => ?_)
  obtain rfl : z1 = ((qI S 1 1) + (20 : Int32)) := ez1
  refine lv_sipush (v := 16000) hx hb dX12_feed_10 (by decide) ?_
  refine lv_icmp_gt (tgt := 28) hx hb dX12_feed_13 (by decide) (fun c2 => ?_) (fun c2 => ?_)
  · replace h := h.1 (k_lt (by decide) rfl c2)
    refine lv_iconst (v := (-1)) hx hb dX12_feed_28 (by decide) ?_
    refine W_led2 (fun hLd => ?_)
    refine W.widen (k := KCC - qn S) (n := KSC - qu S) hlg.c hlg.s ?_
    exact W.iret (v := (-1)) hx hb hr (fun t9 ht9 hW9 => ⟨⟨_, (S, ad), rfl, ⟨h, hR.w, hsh, hak⟩, ⟨⟨by rw [ht9]; exact hR.P, hR.D⟩, _, _, by rw [ht9]; exact hLd, hlg⟩⟩, hR.sS.F ht9⟩) hR.sS.2.2 dX12_feed_29
  · replace h := h.2 (k_nlt (by decide) rfl c2)
    refine lv_aload_n hx hb dX12_feed_16 rfl (lv_at hl 0 rfl) ?_
    refine va_get (D := rD g) (ci := 11) (v := .int (qI S 0 10)) (C := RX12) (T := TX12) (N := 18) hx hb hts inX12 hown hR.K hR.P 0 (hR.at51 hR.w.1) rfl 10 (by decide) (hts _ kw_357) (fun _ h9 => h9) rfl dX12_feed_17 ?_
    refine lv_bipush (v := 20) hx hb dX12_feed_20 (by decide) ?_
    refine lv_iadd hx hb dX12_feed_22 ?_
    refine lv_topi (fun z3 ez3 => ?_)
    obtain rfl : z3 = ((qI S 0 10) + (20 : Int32)) := ez3
    refine lv_ldc hx hb hown (hts _ kw_358) dX12_feed_23 ?_
    refine lv_icmp_le (tgt := 30) hx hb dX12_feed_25 (by decide) (fun c4 => ?_) (fun c4 => ?_)
    · replace h := h.1 (k_le rfl (by decide) c4)
      refine lv_aload_n hx hb dX12_feed_30 rfl (lv_at hl 0 rfl) ?_
      refine va_get (D := rD g) (ci := 11) (v := .ref (ad 1)) (C := RX12) (T := TX12) (N := 18) hx hb hts inX12 hown hR.K hR.P 0 (hR.at51 hR.w.1) rfl 0 (by decide) (hts _ kw_349) (fun _ h9 => h9) (congrArg (fun z => some (vf ad z)) (hR.w.2.1 _ finC_22).1) dX12_feed_31 ?_
      refine lv_iload_n hx hb dX12_feed_34 rfl (lv_at hl 1 rfl) ?_
      replace h := h ((hR.w.2.1 _ finC_22).2.1)
      obtain ⟨Q5, h0, h⟩ := h
      have hFc := cfree hR hA
      refine W_led2 (fun hL0 => ?_)
      refine va_callv (va_runV (As := [.int x1]) (rest := []) ⟨hx, hb, hml, hown, hts⟩ (rX0_put4 l g ad s.heap S 1 x1 hR.w (hR.w.2.1 _ finC_22).2.1 Q5 h0) (cwV 1 hts (gd_V kw_359 kw_21 kw_22 kw_3 kw_20) rfl rfl rfl (by decide +kernel) ⟨Nat.le_of_ble_eq_true rfl, Nat.le_of_ble_eq_true rfl⟩) ⟨cblindH, va_recv hR.K hR.P (ci := 0) (q0 := 1) rfl (hR.at40 (hR.w.2.1 _ finC_22).2.1), fun U hU hW9 => cmkH hU hW9 hR hex hE hFc⟩ rfl rfl hl.1 rfl (lv_room (Nat.le_of_ble_eq_true rfl)) dX12_feed_35 ⟨(show 0 + (KCC - qn S) ≤ KCC - qn S from hlg.cm), (show 0 + (KSC - qu S) ≤ KSC - qu S from hlg.sm)⟩) hR.sS (fun q _ h => hFc q h) hFc (fun  S6 t9 H1 locs ht9 hvm9 hw9 hB9 hz9 hk9 hS => ?_)
      rcases S6 with ⟨S6, ak8⟩
      obtain ⟨hB9, dc9, ds9, hL9, hl9⟩ := hB9
      dsimp only at hw9 hB9 hl9
      rw [ht9] at hL9
      obtain ⟨hq7, hw9, hs9, hk8⟩ := hw9
      have hw8 := hR.w
      have hak := hak.tr hk8 hlg.2.2.1
      have hE := hE.ad hk8
      have hR : RepC g ak8 A s S6 H1 locs := hR.callH ht9 hB9 hw9 hS hFc
      have hsh := hsh.tr hs9
      refine W_tight2 (hL0.tr hL9).1 (hL0.tr hL9).2.1 ?_
      have hlg := hlg.call hl9
      replace h := h  S6 hq7 hw9 hs9
      have ea_0 : ak8 0 = ad 0 := hk8 _ (hw8.hd hw8.1 (by decide) (by decide))
      have hl : lv_has ls 6 [(0, .ref (ak8 0)), (1, .int x1), (2, .int x2), (3, .int x3), (4, .int x4), (5, .int x5)] := by simp only [ea_0]; exact hl
      clear hB9 hz9 hk9 hvm9 ht9 hw9 hs9 hS hL0 hL9
      generalize H1 = H at hR ⊢
      generalize dc9 = dc_ak8, ds9 = ds_ak8 at hlg ⊢
      refine lv_aload_n hx hb dX12_feed_38 rfl (lv_at hl 0 rfl) ?_
      refine va_get (D := rD g) (ci := 11) (v := .ref (ak8 1)) (C := RX12) (T := TX12) (N := 18) hx hb hts inX12 hown hR.K hR.P 0 (hR.at51 hR.w.1) rfl 0 (by decide) (hts _ kw_349) (fun _ h9 => h9) (congrArg (fun z => some (vf ak8 z)) (hR.w.2.1 _ finC_22).1) dX12_feed_39 ?_
      refine lv_iload_n hx hb dX12_feed_42 rfl (lv_at hl 2 rfl) ?_
      replace h := h ((hR.w.2.1 _ finC_22).2.1)
      obtain ⟨Q9, h0, h⟩ := h
      have hFc := cfree hR hA
      refine W_led2 (fun hL0 => ?_)
      refine va_callv (va_runV (As := [.int x2]) (rest := []) ⟨hx, hb, hml, hown, hts⟩ (rX0_put4 l g ak8 H S6 1 x2 hR.w (hR.w.2.1 _ finC_22).2.1 Q9 h0) (cwV 1 hts (gd_V kw_359 kw_21 kw_22 kw_3 kw_20) rfl rfl rfl (by decide +kernel) ⟨Nat.le_of_ble_eq_true rfl, Nat.le_of_ble_eq_true rfl⟩) ⟨cblindH, va_recv hR.K hR.P (ci := 0) (q0 := 1) rfl (hR.at40 (hR.w.2.1 _ finC_22).2.1), fun U hU hW9 => cmkH hU hW9 hR hex hE hFc⟩ rfl rfl hl.1 rfl (lv_room (Nat.le_of_ble_eq_true rfl)) dX12_feed_43 ⟨(show 0 + dc_ak8 + (KCC - qn S6) ≤ KCC - qn S from hlg.cm), (show 0 + ds_ak8 + (KSC - qu S6) ≤ KSC - qu S from hlg.sm)⟩) hR.sS (fun q _ h => hFc q h) hFc (fun  S10 t9 H1 locs ht9 hvm9 hw9 hB9 hz9 hk9 hS => ?_)
      rcases S10 with ⟨S10, ak12⟩
      obtain ⟨hB9, dc9, ds9, hL9, hl9⟩ := hB9
      dsimp only at hw9 hB9 hl9
      rw [ht9] at hL9
      obtain ⟨hq11, hw9, hs9, hk8⟩ := hw9
      have hw8 := hR.w
      have hak := hak.tr hk8 hlg.2.2.1
      have hE := hE.ad hk8
      have hR : RepC g ak12 A s S10 H1 locs := hR.callH ht9 hB9 hw9 hS hFc
      have hsh := hsh.tr hs9
      refine W_tight2 (hL0.tr hL9).1 (hL0.tr hL9).2.1 ?_
      have hlg := hlg.call hl9
      replace h := h  S10 hq11 hw9 hs9
      have ea_0 : ak12 0 = ak8 0 := hk8 _ (hw8.hd hw8.1 (by decide) (by decide))
      have hl : lv_has ls 6 [(0, .ref (ak12 0)), (1, .int x1), (2, .int x2), (3, .int x3), (4, .int x4), (5, .int x5)] := by simp only [ea_0]; exact hl
      clear hB9 hz9 hk9 hvm9 ht9 hw9 hs9 hS hL0 hL9
      generalize H1 = H at hR ⊢
      generalize dc9 = dc_ak12, ds9 = ds_ak12 at hlg ⊢
      refine lv_aload_n hx hb dX12_feed_46 rfl (lv_at hl 0 rfl) ?_
      refine va_get (D := rD g) (ci := 11) (v := .ref (ak12 1)) (C := RX12) (T := TX12) (N := 18) hx hb hts inX12 hown hR.K hR.P 0 (hR.at51 hR.w.1) rfl 0 (by decide) (hts _ kw_349) (fun _ h9 => h9) (congrArg (fun z => some (vf ak12 z)) (hR.w.2.1 _ finC_22).1) dX12_feed_47 ?_
      refine lv_iload_n hx hb dX12_feed_50 rfl (lv_at hl 3 rfl) ?_
      replace h := h ((hR.w.2.1 _ finC_22).2.1)
      obtain ⟨Q13, h0, h⟩ := h
      have hFc := cfree hR hA
      refine W_led2 (fun hL0 => ?_)
      refine va_callv (va_runV (As := [.int x3]) (rest := []) ⟨hx, hb, hml, hown, hts⟩ (rX0_put4 l g ak12 H S10 1 x3 hR.w (hR.w.2.1 _ finC_22).2.1 Q13 h0) (cwV 1 hts (gd_V kw_359 kw_21 kw_22 kw_3 kw_20) rfl rfl rfl (by decide +kernel) ⟨Nat.le_of_ble_eq_true rfl, Nat.le_of_ble_eq_true rfl⟩) ⟨cblindH, va_recv hR.K hR.P (ci := 0) (q0 := 1) rfl (hR.at40 (hR.w.2.1 _ finC_22).2.1), fun U hU hW9 => cmkH hU hW9 hR hex hE hFc⟩ rfl rfl hl.1 rfl (lv_room (Nat.le_of_ble_eq_true rfl)) dX12_feed_51 ⟨(show 0 + dc_ak8 + dc_ak12 + (KCC - qn S10) ≤ KCC - qn S from hlg.cm), (show 0 + ds_ak8 + ds_ak12 + (KSC - qu S10) ≤ KSC - qu S from hlg.sm)⟩) hR.sS (fun q _ h => hFc q h) hFc (fun  S14 t9 H1 locs ht9 hvm9 hw9 hB9 hz9 hk9 hS => ?_)
      rcases S14 with ⟨S14, ak16⟩
      obtain ⟨hB9, dc9, ds9, hL9, hl9⟩ := hB9
      dsimp only at hw9 hB9 hl9
      rw [ht9] at hL9
      obtain ⟨hq15, hw9, hs9, hk8⟩ := hw9
      have hw8 := hR.w
      have hak := hak.tr hk8 hlg.2.2.1
      have hE := hE.ad hk8
      have hR : RepC g ak16 A s S14 H1 locs := hR.callH ht9 hB9 hw9 hS hFc
      have hsh := hsh.tr hs9
      refine W_tight2 (hL0.tr hL9).1 (hL0.tr hL9).2.1 ?_
      have hlg := hlg.call hl9
      replace h := h  S14 hq15 hw9 hs9
      have ea_0 : ak16 0 = ak12 0 := hk8 _ (hw8.hd hw8.1 (by decide) (by decide))
      have hl : lv_has ls 6 [(0, .ref (ak16 0)), (1, .int x1), (2, .int x2), (3, .int x3), (4, .int x4), (5, .int x5)] := by simp only [ea_0]; exact hl
      clear hB9 hz9 hk9 hvm9 ht9 hw9 hs9 hS hL0 hL9
      generalize H1 = H at hR ⊢
      generalize dc9 = dc_ak16, ds9 = ds_ak16 at hlg ⊢
      refine lv_aload_n hx hb dX12_feed_54 rfl (lv_at hl 0 rfl) ?_
      refine va_get (D := rD g) (ci := 11) (v := .ref (ak16 1)) (C := RX12) (T := TX12) (N := 18) hx hb hts inX12 hown hR.K hR.P 0 (hR.at51 hR.w.1) rfl 0 (by decide) (hts _ kw_349) (fun _ h9 => h9) (congrArg (fun z => some (vf ak16 z)) (hR.w.2.1 _ finC_22).1) dX12_feed_55 ?_
      refine lv_iload hx hb dX12_feed_58 (lv_at hl 4 rfl) ?_
      replace h := h ((hR.w.2.1 _ finC_22).2.1)
      obtain ⟨Q17, h0, h⟩ := h
      have hFc := cfree hR hA
      refine W_led2 (fun hL0 => ?_)
      refine va_callv (va_runV (As := [.int x4]) (rest := []) ⟨hx, hb, hml, hown, hts⟩ (rX0_put4 l g ak16 H S14 1 x4 hR.w (hR.w.2.1 _ finC_22).2.1 Q17 h0) (cwV 1 hts (gd_V kw_359 kw_21 kw_22 kw_3 kw_20) rfl rfl rfl (by decide +kernel) ⟨Nat.le_of_ble_eq_true rfl, Nat.le_of_ble_eq_true rfl⟩) ⟨cblindH, va_recv hR.K hR.P (ci := 0) (q0 := 1) rfl (hR.at40 (hR.w.2.1 _ finC_22).2.1), fun U hU hW9 => cmkH hU hW9 hR hex hE hFc⟩ rfl rfl hl.1 rfl (lv_room (Nat.le_of_ble_eq_true rfl)) dX12_feed_60 ⟨(show 0 + dc_ak8 + dc_ak12 + dc_ak16 + (KCC - qn S14) ≤ KCC - qn S from hlg.cm), (show 0 + ds_ak8 + ds_ak12 + ds_ak16 + (KSC - qu S14) ≤ KSC - qu S from hlg.sm)⟩) hR.sS (fun q _ h => hFc q h) hFc (fun  S18 t9 H1 locs ht9 hvm9 hw9 hB9 hz9 hk9 hS => ?_)
      rcases S18 with ⟨S18, ak20⟩
      obtain ⟨hB9, dc9, ds9, hL9, hl9⟩ := hB9
      dsimp only at hw9 hB9 hl9
      rw [ht9] at hL9
      obtain ⟨hq19, hw9, hs9, hk8⟩ := hw9
      have hw8 := hR.w
      have hak := hak.tr hk8 hlg.2.2.1
      have hE := hE.ad hk8
      have hR : RepC g ak20 A s S18 H1 locs := hR.callH ht9 hB9 hw9 hS hFc
      have hsh := hsh.tr hs9
      refine W_tight2 (hL0.tr hL9).1 (hL0.tr hL9).2.1 ?_
      have hlg := hlg.call hl9
      replace h := h  S18 hq19 hw9 hs9
      have ea_0 : ak20 0 = ak16 0 := hk8 _ (hw8.hd hw8.1 (by decide) (by decide))
      have hl : lv_has ls 6 [(0, .ref (ak20 0)), (1, .int x1), (2, .int x2), (3, .int x3), (4, .int x4), (5, .int x5)] := by simp only [ea_0]; exact hl
      clear hB9 hz9 hk9 hvm9 ht9 hw9 hs9 hS hL0 hL9
      generalize H1 = H at hR ⊢
      generalize dc9 = dc_ak20, ds9 = ds_ak20 at hlg ⊢
      refine lv_aload_n hx hb dX12_feed_63 rfl (lv_at hl 0 rfl) ?_
      refine va_get (D := rD g) (ci := 11) (v := .ref (ak20 1)) (C := RX12) (T := TX12) (N := 18) hx hb hts inX12 hown hR.K hR.P 0 (hR.at51 hR.w.1) rfl 0 (by decide) (hts _ kw_349) (fun _ h9 => h9) (congrArg (fun z => some (vf ak20 z)) (hR.w.2.1 _ finC_22).1) dX12_feed_64 ?_
      refine lv_iload hx hb dX12_feed_67 (lv_at hl 5 rfl) ?_
      replace h := h ((hR.w.2.1 _ finC_22).2.1)
      obtain ⟨Q21, h0, h⟩ := h
      have hFc := cfree hR hA
      refine W_led2 (fun hL0 => ?_)
      refine va_callv (va_runV (As := [.int x5]) (rest := []) ⟨hx, hb, hml, hown, hts⟩ (rX0_put4 l g ak20 H S18 1 x5 hR.w (hR.w.2.1 _ finC_22).2.1 Q21 h0) (cwV 1 hts (gd_V kw_359 kw_21 kw_22 kw_3 kw_20) rfl rfl rfl (by decide +kernel) ⟨Nat.le_of_ble_eq_true rfl, Nat.le_of_ble_eq_true rfl⟩) ⟨cblindH, va_recv hR.K hR.P (ci := 0) (q0 := 1) rfl (hR.at40 (hR.w.2.1 _ finC_22).2.1), fun U hU hW9 => cmkH hU hW9 hR hex hE hFc⟩ rfl rfl hl.1 rfl (lv_room (Nat.le_of_ble_eq_true rfl)) dX12_feed_69 ⟨(show 0 + dc_ak8 + dc_ak12 + dc_ak16 + dc_ak20 + (KCC - qn S18) ≤ KCC - qn S from hlg.cm), (show 0 + ds_ak8 + ds_ak12 + ds_ak16 + ds_ak20 + (KSC - qu S18) ≤ KSC - qu S from hlg.sm)⟩) hR.sS (fun q _ h => hFc q h) hFc (fun  S22 t9 H1 locs ht9 hvm9 hw9 hB9 hz9 hk9 hS => ?_)
      rcases S22 with ⟨S22, ak24⟩
      obtain ⟨hB9, dc9, ds9, hL9, hl9⟩ := hB9
      dsimp only at hw9 hB9 hl9
      rw [ht9] at hL9
      obtain ⟨hq23, hw9, hs9, hk8⟩ := hw9
      have hw8 := hR.w
      have hak := hak.tr hk8 hlg.2.2.1
      have hE := hE.ad hk8
      have hR : RepC g ak24 A s S22 H1 locs := hR.callH ht9 hB9 hw9 hS hFc
      have hsh := hsh.tr hs9
      refine W_tight2 (hL0.tr hL9).1 (hL0.tr hL9).2.1 ?_
      have hlg := hlg.call hl9
      replace h := h  S22 hq23 hw9 hs9
      have ea_0 : ak24 0 = ak20 0 := hk8 _ (hw8.hd hw8.1 (by decide) (by decide))
      have hl : lv_has ls 6 [(0, .ref (ak24 0)), (1, .int x1), (2, .int x2), (3, .int x3), (4, .int x4), (5, .int x5)] := by simp only [ea_0]; exact hl
      clear hB9 hz9 hk9 hvm9 ht9 hw9 hs9 hS hL0 hL9
      generalize H1 = H at hR ⊢
      generalize dc9 = dc_ak24, ds9 = ds_ak24 at hlg ⊢
      refine lv_aload_n hx hb dX12_feed_72 rfl (lv_at hl 0 rfl) ?_
      refine lv_dup hx hb dX12_feed_73 rfl ?_
      refine va_get (D := rD g) (ci := 11) (v := .int (qI S22 0 10)) (C := RX12) (T := TX12) (N := 18) hx hb hts inX12 hown hR.K hR.P 0 (hR.at51 hR.w.1) rfl 10 (by decide) (hts _ kw_357) (fun _ h9 => h9) rfl dX12_feed_74 ?_
      refine lv_bipush (v := 20) hx hb dX12_feed_77 (by decide) ?_
      refine lv_iadd hx hb dX12_feed_79 ?_
      refine lv_topi (fun z25 ez25 => ?_)
      obtain rfl : z25 = ((qI S22 0 10) + (20 : Int32)) := ez25
      refine va_put (D := rD g) (ci := 11) (v := .int ((qI S22 0 10) + (20 : Int32))) (ty := .int) (C := RX12) (T := TX12) (N := 18) hx hb hts inX12 tyX12 tyX12_ok nmX12 hown hR.K hR.P hR.D hR.sS 0 (hR.at51 hR.w.1) rfl 10 (by decide) (hts _ kw_357) (fun _ h9 => h9) rfl (by decide +kernel) rfl rfl (Nat.le_of_ble_eq_true rfl) dX12_feed_80 (fun H locs hP hD hS => ?_)
      have hTk9 : qT S22 0 = 51 := hR.w.1
      have hR : RepC g ak24 A s (wI S22 0 10 ((qI S22 0 10) + (20 : Int32))) H locs := hR.pI51 hR.w.1 FX12_s10 (fun q9 => absurd q9 (by decide)) hP hD hS
      obtain ⟨S26, eS26⟩ : ∃ z, z = wI S22 0 10 ((qI S22 0 10) + (20 : Int32)) := ⟨_, rfl⟩
      rw [← eS26] at hR
      replace h := h S26 eS26 hTk9 hR.w
      have hsh : shx S S26 := by rw [eS26]; exact hsh
      have hlg : lgC S S26 (0 + dc_ak8 + dc_ak12 + dc_ak16 + dc_ak20 + dc_ak24) (0 + ds_ak8 + ds_ak12 + ds_ak16 + ds_ak20 + ds_ak24) := by rw [eS26]; exact hlg
      refine lv_aload_n hx hb dX12_feed_83 rfl (lv_at hl 0 rfl) ?_
      refine va_get (D := rD g) (ci := 11) (v := .ref (ak24 1)) (C := RX12) (T := TX12) (N := 18) hx hb hts inX12 hown hR.K hR.P 0 (hR.at51 hR.w.1) rfl 0 (by decide) (hts _ kw_349) (fun _ h9 => h9) (congrArg (fun z => some (vf ak24 z)) (hR.w.2.1 _ finC_22).1) dX12_feed_84 ?_
      refine va_get (D := rD g) (ci := 0) (v := .int (qI S26 1 1)) (C := RX0) (T := TX0) (N := 2) hx hb hts inX0 hown hR.K hR.P 1 (hR.at40 (hR.w.2.1 _ finC_22).2.1) rfl 1 (by decide) (hts _ kw_311) (fun _ h9 => h9) rfl dX12_feed_87 ?_
      refine W_led2 (fun hLd => ?_)
      refine W.widen (k := KCC - qn S) (n := KSC - qu S) hlg.c hlg.s ?_
      exact W.iret (v := (qI S26 1 1)) hx hb hr (fun t9 ht9 hW9 => ⟨⟨_, (S26, ak24), rfl, ⟨h, hR.w, hsh, hak⟩, ⟨⟨by rw [ht9]; exact hR.P, hR.D⟩, _, _, by rw [ht9]; exact hLd, hlg⟩⟩, hR.sS.F ht9⟩) hR.sS.2.2 dX12_feed_90
    · replace h := h.2 (k_nle rfl (by decide) c4)
      refine lv_iconst (v := (-1)) hx hb dX12_feed_28 (by decide) ?_
      refine W_led2 (fun hLd => ?_)
      refine W.widen (k := KCC - qn S) (n := KSC - qu S) hlg.c hlg.s ?_
      exact W.iret (v := (-1)) hx hb hr (fun t9 ht9 hW9 => ⟨⟨_, (S, ad), rfl, ⟨h, hR.w, hsh, hak⟩, ⟨⟨by rw [ht9]; exact hR.P, hR.D⟩, _, _, by rw [ht9]; exact hLd, hlg⟩⟩, hR.sS.F ht9⟩) hR.sS.2.2 dX12_feed_29
def wX12_end (S : MS) (x1 : Int32) (Q : Int32 → MS → Prop) : Prop := ((x1.toInt < 0 → Q (0 : Int32) S) ∧ (¬ x1.toInt < 0 → ((x1.toInt ≤ (qI S 1 1).toInt → (∀ S3, S3 = wI S 1 1 x1 → qT S 1 = 40 → wfC S3 → Q (1 : Int32) S3)) ∧ (¬ x1.toInt ≤ (qI S 1 1).toInt → Q (0 : Int32) S))))
set_option maxHeartbeats 2000000 in
set_option maxRecDepth 100000 in
theorem rX12_end (l : Launch) (g : Gr) (ad : Nat → Nat) (sz : Nat) (S : MS) (x1 : Int32) (hw : wfC S) (Q : Int32 → MS → Prop) (h : wX12_end S x1 Q) : Met l yX12_end (wt yX12_end cX12_end 2 (some .boolean)) ({ frames := 0, cells := 0, slots := 0, locals := 0 }) (va_Pc [.ref (ad 0), .int x1] (st_C g ad sz S)) (va_Qi (fun (r : Int32) (u : MS) => Q r u ∧ wfC u ∧ shy S u ∧ (r = 0 ∨ r = 1)) (fun (u : MS) (t : State) => qEC g ad (va_A (WdC g ad S) sz) u t) (va_A (WdC g ad S) sz)) 0 0 (va_A (WdC g ad S) sz) := by
  refine Met.ofW (cc := cX12_end) (maxL := 2) (ret := (some .boolean)) (by decide) rfl ?_
  intro p e s m args below meth c s₁ B hml hv
  obtain ⟨rfl, hsz, hP, hK, hD0, hex, hE⟩ := hv
  have hx := B.exec
  have hb := B.bytes
  have hr := B.returns
  have hts0 := atoms_spec (ws := wt yX12_end cX12_end 2 (some .boolean)) B.pre
  have hts : ∀ w ∈ tb, w.before _ s = true := fun w h => hts0 w (List.mem_cons_of_mem _ h)
  have hown : s.vm.findClass RX12 = some m.cls := findClass_of_methodNamed B.named
  subst hsz
  have hD := hD0.self (sz := s.heap.size)
  generalize hAe : va_A (WdC g ad S) s.heap.size = A at hD hE ⊢
  have hA : ∀ q : Nat, s.heap.size ≤ q → A q := fun q h => by rw [← hAe]; exact Or.inr h
  have hR : RepC g ad A s S s.heap [] := ⟨hK, hP, hD, va_S.rf, hw⟩
  clear hK hP hD hD0
  have hl := lv_entry ([.ref (ad 0), .int x1]) (n := 2) (Nat.le_of_ble_eq_true rfl)
  rw [lg_entry_eq]
  generalize (lg_sl ([.ref (ad 0), .int x1]) ++ List.replicate (2 - (lg_sl ([.ref (ad 0), .int x1])).length) Slot.unset).toArray = ls at hl ⊢
  have hl : lv_has ls 2 [(0, .ref (ad 0)), (1, .int x1)] := hl
  have hsh : shy S S := shy.rf
  unfold wX12_end at h
  refine lv_iload_n hx hb dX12_end_0 rfl (lv_at hl 1 rfl) ?_
  refine lv_if_lt (tgt := 15) hx hb dX12_end_1 (by decide) (fun c1 => ?_) (fun c1 => ?_)
  · replace h := h.1 (k_lt rfl (by decide) c1)
    refine lv_iconst (v := 0) hx hb dX12_end_15 (by decide) ?_
    exact W.zret (v := 0) hx hb hr (nz (Or.inl rfl)) (fun t9 ht9 hW9 => ⟨⟨_, S, rfl, ⟨h, hR.w, hsh, (Or.inl rfl)⟩, ⟨by rw [ht9]; exact hR.P, hR.D⟩⟩, hR.sS.F ht9⟩) hR.sS.2.2 dX12_end_16
  · replace h := h.2 (k_nlt rfl (by decide) c1)
    refine lv_iload_n hx hb dX12_end_4 rfl (lv_at hl 1 rfl) ?_
    refine lv_aload_n hx hb dX12_end_5 rfl (lv_at hl 0 rfl) ?_
    refine va_get (D := rD g) (ci := 11) (v := .ref (ad 1)) (C := RX12) (T := TX12) (N := 18) hx hb hts inX12 hown hR.K hR.P 0 (hR.at51 hR.w.1) rfl 0 (by decide) (hts _ kw_349) (fun _ h9 => h9) (congrArg (fun z => some (vf ad z)) (hR.w.2.1 _ finC_22).1) dX12_end_6 ?_
    refine va_get (D := rD g) (ci := 0) (v := .int (qI S 1 1)) (C := RX0) (T := TX0) (N := 2) hx hb hts inX0 hown hR.K hR.P 1 (hR.at40 (hR.w.2.1 _ finC_22).2.1) rfl 1 (by decide) (hts _ kw_311) (fun _ h9 => h9) rfl dX12_end_9 ?_
    refine lv_icmp_le (tgt := 17) hx hb dX12_end_12 (by decide) (fun c2 => ?_) (fun c2 => ?_)
    · replace h := h.1 (k_le rfl rfl c2)
      refine lv_aload_n hx hb dX12_end_17 rfl (lv_at hl 0 rfl) ?_
      refine va_get (D := rD g) (ci := 11) (v := .ref (ad 1)) (C := RX12) (T := TX12) (N := 18) hx hb hts inX12 hown hR.K hR.P 0 (hR.at51 hR.w.1) rfl 0 (by decide) (hts _ kw_349) (fun _ h9 => h9) (congrArg (fun z => some (vf ad z)) (hR.w.2.1 _ finC_22).1) dX12_end_18 ?_
      refine lv_iload_n hx hb dX12_end_21 rfl (lv_at hl 1 rfl) ?_
      refine va_put (D := rD g) (ci := 0) (v := .int x1) (ty := .int) (C := RX0) (T := TX0) (N := 2) hx hb hts inX0 tyX0 tyX0_ok nmX0 hown hR.K hR.P hR.D hR.sS 1 (hR.at40 (hR.w.2.1 _ finC_22).2.1) rfl 1 (by decide) (hts _ kw_311) (fun _ h9 => h9) rfl (by decide +kernel) rfl rfl (Nat.le_of_ble_eq_true rfl) dX12_end_22 (fun H locs hP hD hS => ?_)
      have hTk9 : qT S 1 = 40 := (hR.w.2.1 _ finC_22).2.1
      have hR : RepC g ad A s (wI S 1 1 x1) H locs := hR.pI40 (hR.w.2.1 _ finC_22).2.1 FX0_s1 (fun q9 => absurd q9 (by decide)) hP hD hS
      obtain ⟨S3, eS3⟩ : ∃ z, z = wI S 1 1 x1 := ⟨_, rfl⟩
      rw [← eS3] at hR
      replace h := h S3 eS3 hTk9 hR.w
      have hsh : shy S S3 := by rw [eS3]; exact hsh
      refine lv_iconst (v := 1) hx hb dX12_end_25 (by decide) ?_
      exact W.zret (v := 1) hx hb hr (nz (Or.inr rfl)) (fun t9 ht9 hW9 => ⟨⟨_, S3, rfl, ⟨h, hR.w, hsh, (Or.inr rfl)⟩, ⟨by rw [ht9]; exact hR.P, hR.D⟩⟩, hR.sS.F ht9⟩) hR.sS.2.2 dX12_end_26
    · replace h := h.2 (k_nle rfl rfl c2)
      refine lv_iconst (v := 0) hx hb dX12_end_15 (by decide) ?_
      exact W.zret (v := 0) hx hb hr (nz (Or.inl rfl)) (fun t9 ht9 hW9 => ⟨⟨_, S, rfl, ⟨h, hR.w, hsh, (Or.inl rfl)⟩, ⟨by rw [ht9]; exact hR.P, hR.D⟩⟩, hR.sS.F ht9⟩) hR.sS.2.2 dX12_end_16
def fX12_rule (S : MS) : Int32 := (qI S 0 13)
def d_X12_rule (S : MS) : Prop := True
set_option maxHeartbeats 2000000 in
set_option maxRecDepth 100000 in
theorem rX12_rule (l : Launch) (g : Gr) (ad : Nat → Nat) (sz : Nat) (S : MS) (hw : wfC S) (hd : d_X12_rule S) : Met l yX12_rule (wt yX12_rule cX12_rule 1 (some .int)) ({ frames := 0, cells := 0, slots := 0, locals := 0 }) (va_Pc [.ref (ad 0)] (st_C g ad sz S)) (va_Qi (fun (r : Int32) (_ : Unit) => r = fX12_rule S) (fun (_ : Unit) (t : State) => qEC g ad (va_A (WdC g ad S) sz) S t) (va_A (WdC g ad S) sz)) 0 0 (va_A (WdC g ad S) sz) := by
  refine Met.ofW (cc := cX12_rule) (maxL := 1) (ret := (some .int)) (by decide) rfl ?_
  intro p e s m args below meth c s₁ B hml hv
  obtain ⟨rfl, hsz, hP, hK, hD0, hex, hE⟩ := hv
  have hx := B.exec
  have hb := B.bytes
  have hr := B.returns
  have hts0 := atoms_spec (ws := wt yX12_rule cX12_rule 1 (some .int)) B.pre
  have hts : ∀ w ∈ tb, w.before _ s = true := fun w h => hts0 w (List.mem_cons_of_mem _ h)
  have hown : s.vm.findClass RX12 = some m.cls := findClass_of_methodNamed B.named
  subst hsz
  have hD := hD0.self (sz := s.heap.size)
  generalize hAe : va_A (WdC g ad S) s.heap.size = A at hD hE ⊢
  have hA : ∀ q : Nat, s.heap.size ≤ q → A q := fun q h => by rw [← hAe]; exact Or.inr h
  have hR : RepC g ad A s S s.heap [] := ⟨hK, hP, hD, va_S.rf, hw⟩
  clear hK hP hD hD0
  have hl := lv_entry ([.ref (ad 0)]) (n := 1) (Nat.le_of_ble_eq_true rfl)
  rw [lg_entry_eq]
  generalize (lg_sl ([.ref (ad 0)]) ++ List.replicate (1 - (lg_sl ([.ref (ad 0)])).length) Slot.unset).toArray = ls at hl ⊢
  have hl : lv_has ls 1 [(0, .ref (ad 0))] := hl
  obtain ⟨r0, hf⟩ : ∃ r0, fX12_rule S = r0 := ⟨_, rfl⟩
  have hf0 := hf
  unfold fX12_rule at hf
  unfold d_X12_rule at hd
  refine lv_aload_n hx hb dX12_rule_0 rfl (lv_at hl 0 rfl) ?_
  refine va_get (D := rD g) (ci := 11) (v := .int (qI S 0 13)) (C := RX12) (T := TX12) (N := 18) hx hb hts inX12 hown hR.K hR.P 0 (hR.at51 hR.w.1) rfl 13 (by decide) (hts _ kw_369) (fun _ h9 => h9) rfl dX12_rule_1 ?_
  exact W.iret (v := (qI S 0 13)) hx hb hr (fun t9 ht9 hW9 => ⟨⟨_, (), rfl, hf.trans hf0.symm, ⟨by rw [ht9]; exact hR.P, hR.D⟩⟩, hR.sS.F ht9⟩) hR.sS.2.2 dX12_rule_4
