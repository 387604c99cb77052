def w_X11_nameEntry_L26 (Q : Int32 → MS → Prop) : Nat → MS → Int32 → Int32 → Int32 → Prop
  | 0, _, _, _, _ => False
  | n26 + 1, U26, v26_1, v26_2, v26_3 => (wfC U26 → ((((3 : Int32) + v26_2).toInt ≤ v26_3.toInt → (∃ Q20, wX11_entryOfWanted U26 Q20 ∧ ∀ r21 S22, Q20 r21 S22 → wfC S22 → shx U26 S22 → Q r21 S22)) ∧ (¬ ((3 : Int32) + v26_2).toInt ≤ v26_3.toInt → (d_X11_unitByte U26 (v26_1 + v26_3) ∧ (∀ a29 : Int32, a29 = (fX11_unitByte U26 (v26_1 + v26_3)) → (qT U26 30 = 40 → (∃ Q30, wX0_put U26 30 a29 Q30 ∧ ∀ S31, Q30 S31 → wfC S31 → shx U26 S31 → (∀ a34 : Int32, a34 = (v26_3 + Int32.ofInt 1) → (w_X11_nameEntry_L26 Q n26) S31 v26_1 v26_2 a34))))))))
def wX11_nameEntry (S : MS) (x1 : Int32) (Q : Int32 → MS → Prop) : Prop := (∃ Q1, wX11_want S (1 : Int32) Q1 ∧ ∀ S2, Q1 S2 → wfC S2 → shx S S2 → (d_X11_unitByte S2 (x1 + (1 : Int32)) ∧ (∀ a9 : Int32, a9 = (fX11_unitByte S2 (x1 + (1 : Int32))) → (d_X11_unitByte S2 (x1 + (2 : Int32)) ∧ (∀ a15 : Int32, a15 = (fX11_unitByte S2 (x1 + (2 : Int32))) → (∀ a17 : Int32, a17 = ((a9 <<< ((8 : Int32) &&& 31)) ||| a15) → (∃ n, w_X11_nameEntry_L26 Q n S2 x1 a17 1)))))))
set_option maxHeartbeats 2000000 in
set_option maxRecDepth 100000 in
theorem rX11_nameEntry (l : Launch) (g : Gr) (ad : Nat → Nat) (H0 : Heap) (S : MS) (x1 : Int32) (hw : wfC S) (Q : Int32 → MS → Prop) (h : wX11_nameEntry S x1 Q) : Met l yX11_nameEntry (wt yX11_nameEntry cX11_nameEntry 4 (some .int)) ({ frames := 4, cells := KCC - qn S, slots := KSC - qu S, locals := 106 }) (va_Pc [.ref (ad 25), .int x1] (st_CH g ad H0 S)) (va_Qi (fun (r : Int32) (u : MS × (Nat → Nat)) => Q r u.1 ∧ wfC u.1 ∧ shx S u.1 ∧ adk ad u.2 S) (fun (u : MS × (Nat → Nat)) (t : State) => qEHC g (va_A (WdC g ad S) H0.size) S H0 u t) (va_A (WdC g ad S) H0.size)) (KCC - qn S) (KSC - qu S) (va_A (WdC g ad S) H0.size) := by
  refine Met.ofW (cc := cX11_nameEntry) (maxL := 4) (ret := (some .int)) (by decide) rfl ?_
  intro p e s m args below meth c s₁ B hml hv
  obtain ⟨rfl, hH0, hsz, hP, hK, hD0, hex, hE⟩ := hv
  have hx := B.exec
  have hb := B.bytes
  have hr := B.returns
  have hts0 := atoms_spec (ws := wt yX11_nameEntry cX11_nameEntry 4 (some .int)) B.pre
  have hts : ∀ w ∈ tb, w.before _ s = true := fun w h => hts0 w (List.mem_cons_of_mem _ h)
  have hown : s.vm.findClass RX11 = some m.cls := findClass_of_methodNamed B.named
  subst hH0
  have hD := hD0.self (sz := s.heap.size)
  generalize hAe : va_A (WdC g ad S) s.heap.size = A at hD hE ⊢
  have hA : ∀ q : Nat, s.heap.size ≤ q → A q := fun q h => by rw [← hAe]; exact Or.inr h
  have hR : RepC g ad A s S s.heap [] := ⟨hK, hP, hD, va_S.rf, hw⟩
  clear hK hP hD hD0
  have hl := lv_entry ([.ref (ad 25), .int x1]) (n := 4) (Nat.le_of_ble_eq_true rfl)
  rw [lg_entry_eq]
  generalize (lg_sl ([.ref (ad 25), .int x1]) ++ List.replicate (4 - (lg_sl ([.ref (ad 25), .int x1])).length) Slot.unset).toArray = ls at hl ⊢
  have hlg : lgC S S 0 0 := lgC.rf
  have hak : adk ad ad S := adk.rf
  have hl : lv_has ls 4 [(0, .ref (ad 25)), (1, .int x1)] := hl
  have hsh : shx S S := shx.rf
  unfold wX11_nameEntry at h
  refine lv_aload_n hx hb dX11_nameEntry_0 rfl (lv_at hl 0 rfl) ?_
  refine lv_iconst (v := 1) hx hb dX11_nameEntry_1 (by decide) ?_
  obtain ⟨Q1, h0, h⟩ := h
  have hFc := cfree hR hA
  refine W_led2 (fun hL0 => ?_)
  refine va_callv (va_runV (As := [.int 1]) (rest := []) ⟨hx, hb, hml, hown, hts⟩ (rX11_want l g ad s.heap S (1 : Int32) hR.w  Q1 h0) (cwV 1 hts (gd_V kw_138 kw_275 kw_276 kw_83 kw_274) rfl rfl rfl (by decide +kernel) ⟨Nat.le_of_ble_eq_true rfl, Nat.le_of_ble_eq_true rfl⟩) ⟨cblindH, va_recv hR.K hR.P (ci := 10) (q0 := 25) rfl (hR.at50 (hR.w.2.1 _ finC_28).2.1), fun U hU hW9 => cmkH hU hW9 hR hex hE hFc⟩ rfl rfl hl.1 rfl (lv_room (Nat.le_of_ble_eq_true rfl)) dX11_nameEntry_2 ⟨(show 0 + (KCC - qn S) ≤ KCC - qn S from hlg.cm), (show 0 + (KSC - qu S) ≤ KSC - qu S from hlg.sm)⟩) hR.sS (fun q _ h => hFc q h) hFc (fun  S2 t9 H1 locs ht9 hvm9 hw9 hB9 hz9 hk9 hS => ?_)
  rcases S2 with ⟨S2, ak4⟩
  obtain ⟨hB9, dc9, ds9, hL9, hl9⟩ := hB9
  dsimp only at hw9 hB9 hl9
  rw [ht9] at hL9
  obtain ⟨hq3, hw9, hs9, hk8⟩ := hw9
  have hw8 := hR.w
  have hak := hak.tr hk8 hlg.2.2.1
  have hE := hE.ad hk8
  have hR : RepC g ak4 A s S2 H1 locs := hR.callH ht9 hB9 hw9 hS hFc
  have hsh := hsh.tr hs9
  refine W_tight2 (hL0.tr hL9).1 (hL0.tr hL9).2.1 ?_
  have hlg := hlg.call hl9
  replace h := h  S2 hq3 hw9 hs9
  have ea_0 : ak4 25 = ad 25 := hk8 _ (hw8.hd (hw8.2.1 _ finC_28).2.1 (by decide) (by decide))
  have hl : lv_has ls 4 [(0, .ref (ak4 25)), (1, .int x1)] := by simp only [ea_0]; exact hl
  clear hB9 hz9 hk9 hvm9 ht9 hw9 hs9 hS hL0 hL9
  generalize H1 = H at hR ⊢
  generalize dc9 = dc_ak4, ds9 = ds_ak4 at hlg ⊢
  refine lv_aload_n hx hb dX11_nameEntry_5 rfl (lv_at hl 0 rfl) ?_
  refine lv_iload_n hx hb dX11_nameEntry_6 rfl (lv_at hl 1 rfl) ?_
  refine lv_iconst (v := 1) hx hb dX11_nameEntry_7 (by decide) ?_
  refine lv_iadd hx hb dX11_nameEntry_8 ?_
  refine lv_topi (fun z5 ez5 => ?_)
  obtain rfl : z5 = (x1 + (1 : Int32)) := ez5
  obtain ⟨hv6, h⟩ := h
  have hFc := cfree hR hA
  refine va_calli (va_runV (As := [.int (x1 + (1 : Int32))]) (rest := []) ⟨hx, hb, hml, hown, hts⟩ (rX11_unitByte l g ak4 H.size S2 (x1 + (1 : Int32)) hR.w  hv6) (cwV 1 hts (gd_V kw_219 kw_271 kw_272 kw_83 kw_270) rfl rfl rfl (by decide +kernel) ⟨Nat.le_of_ble_eq_true rfl, Nat.le_of_ble_eq_true rfl⟩) ⟨cblind, va_recv hR.K hR.P (ci := 10) (q0 := 25) rfl (hR.at50 (hR.w.2.1 _ finC_28).2.1), fun U hU hW9 => cmk hU hW9 hR hex hE hFc⟩ rfl rfl hl.1 rfl (lv_room (Nat.le_of_ble_eq_true rfl)) dX11_nameEntry_9 ⟨(show 0 + dc_ak4 + 0 ≤ KCC - qn S from hlg.c), (show 0 + ds_ak4 + 0 ≤ KSC - qu S from hlg.s)⟩) hR.sS (fun q _ h => hFc q h) hFc (fun r7 u9 t9 H1 locs ht9 hvm9 hw9 hB9 hz9 hk9 hS => ?_)
  have hR : RepC g ak4 A s S2 H1 locs := hR.call ht9 hB9 hR.w hS hFc
  obtain rfl : r7 = (fX11_unitByte S2 (x1 + (1 : Int32))) := hw9
  clear hB9 hz9 hk9 hvm9 ht9 hS
  generalize H1 = H at hR ⊢
  obtain ⟨a9, ea9⟩ : ∃ z, z = (fX11_unitByte S2 (x1 + (1 : Int32))) := ⟨_, rfl⟩
  rw [← ea9]
  replace h := h a9 ea9
  refine lv_bipush (v := 8) hx hb dX11_nameEntry_12 (by decide) ?_
  refine lv_ishl hx hb dX11_nameEntry_14 ?_
  refine lv_topi (fun z10 ez10 => ?_)
  obtain rfl : z10 = (a9 <<< ((8 : Int32) &&& 31)) := ez10
  refine lv_aload_n hx hb dX11_nameEntry_15 rfl (lv_at hl 0 rfl) ?_
  refine lv_iload_n hx hb dX11_nameEntry_16 rfl (lv_at hl 1 rfl) ?_
  refine lv_iconst (v := 2) hx hb dX11_nameEntry_17 (by decide) ?_
  refine lv_iadd hx hb dX11_nameEntry_18 ?_
  refine lv_topi (fun z11 ez11 => ?_)
  obtain rfl : z11 = (x1 + (2 : Int32)) := ez11
  obtain ⟨hv12, h⟩ := h
  have hFc := cfree hR hA
  refine va_calli (va_runV (As := [.int (x1 + (2 : Int32))]) (rest := [.int (a9 <<< ((8 : Int32) &&& 31))]) ⟨hx, hb, hml, hown, hts⟩ (rX11_unitByte l g ak4 H.size S2 (x1 + (2 : Int32)) hR.w  hv12) (cwV 1 hts (gd_V kw_219 kw_271 kw_272 kw_83 kw_270) rfl rfl rfl (by decide +kernel) ⟨Nat.le_of_ble_eq_true rfl, Nat.le_of_ble_eq_true rfl⟩) ⟨cblind, va_recv hR.K hR.P (ci := 10) (q0 := 25) rfl (hR.at50 (hR.w.2.1 _ finC_28).2.1), fun U hU hW9 => cmk hU hW9 hR hex hE hFc⟩ rfl rfl hl.1 rfl (lv_room (Nat.le_of_ble_eq_true rfl)) dX11_nameEntry_19 ⟨(show 0 + dc_ak4 + 0 ≤ KCC - qn S from hlg.c), (show 0 + ds_ak4 + 0 ≤ KSC - qu S from hlg.s)⟩) hR.sS (fun q _ h => hFc q h) hFc (fun r13 u9 t9 H1 locs ht9 hvm9 hw9 hB9 hz9 hk9 hS => ?_)
  have hR : RepC g ak4 A s S2 H1 locs := hR.call ht9 hB9 hR.w hS hFc
  obtain rfl : r13 = (fX11_unitByte S2 (x1 + (2 : Int32))) := hw9
  clear hB9 hz9 hk9 hvm9 ht9 hS
  generalize H1 = H at hR ⊢
  obtain ⟨a15, ea15⟩ : ∃ z, z = (fX11_unitByte S2 (x1 + (2 : Int32))) := ⟨_, rfl⟩
  rw [← ea15]
  replace h := h a15 ea15
  refine lv_ior hx hb dX11_nameEntry_22 ?_
  refine lv_topi (fun z16 ez16 => ?_)
  obtain rfl : z16 = ((a9 <<< ((8 : Int32) &&& 31)) ||| a15) := ez16
  obtain ⟨a17, ea17⟩ : ∃ z, z = ((a9 <<< ((8 : Int32) &&& 31)) ||| a15) := ⟨_, rfl⟩
  rw [← ea17]
  replace h := h a17 ea17
  refine lv_istore_n (lv' := [(2, .int a17), (0, .ref (ak4 25)), (1, .int x1)]) hx hb dX11_nameEntry_23 rfl hl (by decide) rfl (fun ls hl => ?_)
  refine lv_iconst (v := 1) hx hb dX11_nameEntry_24 (by decide) ?_
  refine lv_istore_n (lv' := [(3, .int 1), (2, .int a17), (0, .ref (ak4 25)), (1, .int x1)]) hx hb dX11_nameEntry_25 rfl hl (by decide) rfl (fun ls hl => ?_)
  have J_26 : ∀ (n26 : Nat) (ad26 : Nat → Nat) (dc26 ds26 : Nat) (U26 : MS) (v26_1 : Int32) (v26_2 : Int32) (v26_3 : Int32) (H : Heap) (locs : List Loc) (ls : Array Slot), w_X11_nameEntry_L26 Q n26 U26 v26_1 v26_2 v26_3 → shx S U26 → lgC S U26 dc26 ds26 → adk ad ad26 S → ogC ad26 A s s.heap → RepC g ad26 A s U26 H locs → lv_has ls 4 [(0, .ref (ad26 25)), (1, .int v26_1), (2, .int v26_2), (3, .int v26_3)] → W p l e (headSpec (wt yX11_nameEntry cX11_nameEntry 4 (some .int)) ({ frames := 4, cells := KCC - qn S, slots := KSC - qu S, locals := 106 })).room s m ([.ref (ad 25), .int x1] : List Value).toArray below meth c H locs dc26 ds26 (MQ below (va_Qi (fun (r : Int32) (u : MS × (Nat → Nat)) => Q r u.1 ∧ wfC u.1 ∧ shx S u.1 ∧ adk ad u.2 S) (fun (u : MS × (Nat → Nat)) (t : State) => qEHC g A S s.heap u t) A) ([.ref (ad 25), .int x1] : List Value).toArray s (KCC - qn S) (KSC - qu S) A) (F0 m 26 ls []) := by
    intro n26
    induction n26 with
    | zero => intro ad26 dc26 ds26 U26 v26_1 v26_2 v26_3 H locs ls h hsh hlg hak hE hR hl; unfold w_X11_nameEntry_L26 at h; exact h.elim
    | succ n26 ih_26 =>
      intro ad26 dc26 ds26 U26 v26_1 v26_2 v26_3 H locs ls h hsh hlg hak hE hR hl
      unfold w_X11_nameEntry_L26 at h
      replace h := h hR.w
      refine lv_iload_n hx hb dX11_nameEntry_26 rfl (lv_at hl 3 rfl) ?_
      refine lv_iconst (v := 3) hx hb dX11_nameEntry_27 (by decide) ?_
      refine lv_iload_n hx hb dX11_nameEntry_28 rfl (lv_at hl 2 rfl) ?_
      refine lv_iadd hx hb dX11_nameEntry_29 ?_
      refine lv_topi (fun z18 ez18 => ?_)
      obtain rfl : z18 = ((3 : Int32) + v26_2) := ez18
      refine lv_icmp_ge (tgt := 53) hx hb dX11_nameEntry_30 (by decide) (fun c19 => ?_) (fun c19 => ?_)
      · replace h := h.1 (k_le rfl rfl c19)
        refine lv_aload_n hx hb dX11_nameEntry_53 rfl (lv_at hl 0 rfl) ?_
        obtain ⟨Q20, h0, h⟩ := h
        have hFc := cfree hR hA
        refine W_led2 (fun hL0 => ?_)
        refine va_calli (va_runV (As := []) (rest := []) ⟨hx, hb, hml, hown, hts⟩ (rX11_entryOfWanted l g ad26 H U26 hR.w  Q20 h0) (cwV 0 hts (gd_V kw_141 kw_143 kw_144 kw_83 kw_142) rfl rfl rfl (by decide +kernel) ⟨Nat.le_of_ble_eq_true rfl, Nat.le_of_ble_eq_true rfl⟩) ⟨cblindH, va_recv hR.K hR.P (ci := 10) (q0 := 25) rfl (hR.at50 (hR.w.2.1 _ finC_28).2.1), fun U hU hW9 => cmkH hU hW9 hR hex hE hFc⟩ rfl rfl hl.1 rfl (lv_room (Nat.le_of_ble_eq_true rfl)) dX11_nameEntry_54 ⟨(show dc26 + (KCC - qn U26) ≤ KCC - qn S from hlg.cm), (show ds26 + (KSC - qu U26) ≤ KSC - qu S from hlg.sm)⟩) hR.sS (fun q _ h => hFc q h) hFc (fun r21 S22 t9 H1 locs ht9 hvm9 hw9 hB9 hz9 hk9 hS => ?_)
        rcases S22 with ⟨S22, ak24⟩
        obtain ⟨hB9, dc9, ds9, hL9, hl9⟩ := hB9
        dsimp only at hw9 hB9 hl9
        rw [ht9] at hL9
        obtain ⟨hq23, hw9, hs9, hk8⟩ := hw9
        have hw8 := hR.w
        have hak := hak.tr hk8 hlg.2.2.1
        have hE := hE.ad hk8
        have hR : RepC g ak24 A s S22 H1 locs := hR.callH ht9 hB9 hw9 hS hFc
        have hsh := hsh.tr hs9
        refine W_tight2 (hL0.tr hL9).1 (hL0.tr hL9).2.1 ?_
        have hlg := hlg.call hl9
        replace h := h r21 S22 hq23 hw9 hs9
        have ea_0 : ak24 25 = ad26 25 := hk8 _ (hw8.hd (hw8.2.1 _ finC_28).2.1 (by decide) (by decide))
        have hl : lv_has ls 4 [(0, .ref (ak24 25)), (1, .int v26_1), (2, .int v26_2), (3, .int v26_3)] := by simp only [ea_0]; exact hl
        clear hB9 hz9 hk9 hvm9 ht9 hw9 hs9 hS hL0 hL9
        generalize H1 = H at hR ⊢
        generalize dc9 = dc_ak24, ds9 = ds_ak24 at hlg ⊢
        refine W_led2 (fun hLd => ?_)
        refine W.widen (k := KCC - qn S) (n := KSC - qu S) hlg.c hlg.s ?_
        exact W.iret (v := r21) hx hb hr (fun t9 ht9 hW9 => ⟨⟨_, (S22, ak24), rfl, ⟨h, hR.w, hsh, hak⟩, ⟨⟨by rw [ht9]; exact hR.P, hR.D⟩, _, _, by rw [ht9]; exact hLd, hlg⟩⟩, hR.sS.F ht9⟩) hR.sS.2.2 dX11_nameEntry_57
      · replace h := h.2 (k_nle rfl rfl c19)
        refine lv_aload_n hx hb dX11_nameEntry_33 rfl (lv_at hl 0 rfl) ?_
        refine va_get (D := rD g) (ci := 10) (v := .ref (ad26 30)) (C := RX11) (T := TX11) (N := 18) hx hb hts inX11 hown hR.K hR.P 25 (hR.at50 (hR.w.2.1 _ finC_28).2.1) rfl 2 (by decide) (hts _ kw_139) (fun _ h9 => h9) (congrArg (fun z => some (vf ad26 z)) (hR.w.2.1 _ finC_14).1) dX11_nameEntry_34 ?_
        refine lv_aload_n hx hb dX11_nameEntry_37 rfl (lv_at hl 0 rfl) ?_
        refine lv_iload_n hx hb dX11_nameEntry_38 rfl (lv_at hl 1 rfl) ?_
        refine lv_iload_n hx hb dX11_nameEntry_39 rfl (lv_at hl 3 rfl) ?_
        refine lv_iadd hx hb dX11_nameEntry_40 ?_
        refine lv_topi (fun z25 ez25 => ?_)
        obtain rfl : z25 = (v26_1 + v26_3) := ez25
        obtain ⟨hv26, h⟩ := h
        have hFc := cfree hR hA
        refine va_calli (va_runV (As := [.int (v26_1 + v26_3)]) (rest := [.ref (ad26 30)]) ⟨hx, hb, hml, hown, hts⟩ (rX11_unitByte l g ad26 H.size U26 (v26_1 + v26_3) hR.w  hv26) (cwV 1 hts (gd_V kw_219 kw_271 kw_272 kw_83 kw_270) rfl rfl rfl (by decide +kernel) ⟨Nat.le_of_ble_eq_true rfl, Nat.le_of_ble_eq_true rfl⟩) ⟨cblind, va_recv hR.K hR.P (ci := 10) (q0 := 25) rfl (hR.at50 (hR.w.2.1 _ finC_28).2.1), fun U hU hW9 => cmk hU hW9 hR hex hE hFc⟩ rfl rfl hl.1 rfl (lv_room (Nat.le_of_ble_eq_true rfl)) dX11_nameEntry_41 ⟨(show dc26 + 0 ≤ KCC - qn S from hlg.c), (show ds26 + 0 ≤ KSC - qu S from hlg.s)⟩) hR.sS (fun q _ h => hFc q h) hFc (fun r27 u9 t9 H1 locs ht9 hvm9 hw9 hB9 hz9 hk9 hS => ?_)
        have hR : RepC g ad26 A s U26 H1 locs := hR.call ht9 hB9 hR.w hS hFc
        obtain rfl : r27 = (fX11_unitByte U26 (v26_1 + v26_3)) := hw9
        clear hB9 hz9 hk9 hvm9 ht9 hS
        generalize H1 = H at hR ⊢
        obtain ⟨a29, ea29⟩ : ∃ z, z = (fX11_unitByte U26 (v26_1 + v26_3)) := ⟨_, rfl⟩
        rw [← ea29]
        replace h := h a29 ea29
        replace h := h ((hR.w.2.1 _ finC_14).2.1)
        obtain ⟨Q30, h0, h⟩ := h
        have hFc := cfree hR hA
        refine W_led2 (fun hL0 => ?_)
        refine va_callv (va_runV (As := [.int a29]) (rest := []) ⟨hx, hb, hml, hown, hts⟩ (rX0_put l g ad26 H U26 30 a29 hR.w (hR.w.2.1 _ finC_14).2.1 Q30 h0) (cwV 1 hts (gd_V kw_140 kw_13 kw_14 kw_3 kw_12) rfl rfl rfl (by decide +kernel) ⟨Nat.le_of_ble_eq_true rfl, Nat.le_of_ble_eq_true rfl⟩) ⟨cblindH, va_recv hR.K hR.P (ci := 0) (q0 := 30) rfl (hR.at40 (hR.w.2.1 _ finC_14).2.1), fun U hU hW9 => cmkH hU hW9 hR hex hE hFc⟩ rfl rfl hl.1 rfl (lv_room (Nat.le_of_ble_eq_true rfl)) dX11_nameEntry_44 ⟨(show dc26 + (KCC - qn U26) ≤ KCC - qn S from hlg.cm), (show ds26 + (KSC - qu U26) ≤ KSC - qu S from hlg.sm)⟩) hR.sS (fun q _ h => hFc q h) hFc (fun  S31 t9 H1 locs ht9 hvm9 hw9 hB9 hz9 hk9 hS => ?_)
        rcases S31 with ⟨S31, ak33⟩
        obtain ⟨hB9, dc9, ds9, hL9, hl9⟩ := hB9
        dsimp only at hw9 hB9 hl9
        rw [ht9] at hL9
        obtain ⟨hq32, hw9, hs9, hk8⟩ := hw9
        have hw8 := hR.w
        have hak := hak.tr hk8 hlg.2.2.1
        have hE := hE.ad hk8
        have hR : RepC g ak33 A s S31 H1 locs := hR.callH ht9 hB9 hw9 hS hFc
        have hsh := hsh.tr hs9
        refine W_tight2 (hL0.tr hL9).1 (hL0.tr hL9).2.1 ?_
        have hlg := hlg.call hl9
        replace h := h  S31 hq32 hw9 hs9
        have ea_0 : ak33 25 = ad26 25 := hk8 _ (hw8.hd (hw8.2.1 _ finC_28).2.1 (by decide) (by decide))
        have hl : lv_has ls 4 [(0, .ref (ak33 25)), (1, .int v26_1), (2, .int v26_2), (3, .int v26_3)] := by simp only [ea_0]; exact hl
        clear hB9 hz9 hk9 hvm9 ht9 hw9 hs9 hS hL0 hL9
        generalize H1 = H at hR ⊢
        generalize dc9 = dc_ak33, ds9 = ds_ak33 at hlg ⊢
        obtain ⟨a34, ea34⟩ : ∃ z, z = (v26_3 + Int32.ofInt 1) := ⟨_, rfl⟩
        replace h := h a34 ea34
        refine lv_iinc (v := a34) (lv' := [(3, .int a34), (0, .ref (ak33 25)), (1, .int v26_1), (2, .int v26_2)]) hx hb dX11_nameEntry_47 hl (k := 3) rfl ea34.symm (by decide) rfl (fun ls hl => ?_)
        refine lv_goto (tgt := 26) hx hb dX11_nameEntry_50 (by decide) ?_
        exact ih_26 ak33 (dc26 + dc_ak33) (ds26 + ds_ak33) S31 v26_1 v26_2 a34 _ _ ls h  hsh hlg hak hE hR (lv_sub hl [1, 2, 3, 0] rfl)
  obtain ⟨n9, h⟩ := h
  exact J_26 n9 ak4 (0 + dc_ak4) (0 + ds_ak4) S2 x1 a17 1 _ _ ls h  hsh hlg hak hE hR (lv_sub hl [2, 3, 1, 0] rfl)
def wX11_pointerEntry (S : MS) (x1 : Int32) (x2 : Int32) (Q : Int32 → MS → Prop) : Prop := (∃ Q1, wX11_want S x1 Q1 ∧ ∀ S2, Q1 S2 → wfC S2 → shx S S2 → (qT S2 30 = 40 → (∃ Q5, wX0_put2 S2 30 x2 Q5 ∧ ∀ S6, Q5 S6 → wfC S6 → shx S2 S6 → (∃ Q9, wX11_entryOfWanted S6 Q9 ∧ ∀ r10 S11, Q9 r10 S11 → wfC S11 → shx S6 S11 → Q r10 S11))))
set_option maxHeartbeats 2000000 in
set_option maxRecDepth 100000 in
theorem rX11_pointerEntry (l : Launch) (g : Gr) (ad : Nat → Nat) (H0 : Heap) (S : MS) (x1 : Int32) (x2 : Int32) (hw : wfC S) (Q : Int32 → MS → Prop) (h : wX11_pointerEntry S x1 x2 Q) : Met l yX11_pointerEntry (wt yX11_pointerEntry cX11_pointerEntry 3 (some .int)) ({ frames := 4, cells := KCC - qn S, slots := KSC - qu S, locals := 106 }) (va_Pc [.ref (ad 25), .int x1, .int x2] (st_CH g ad H0 S)) (va_Qi (fun (r : Int32) (u : MS × (Nat → Nat)) => Q r u.1 ∧ wfC u.1 ∧ shx S u.1 ∧ adk ad u.2 S) (fun (u : MS × (Nat → Nat)) (t : State) => qEHC g (va_A (WdC g ad S) H0.size) S H0 u t) (va_A (WdC g ad S) H0.size)) (KCC - qn S) (KSC - qu S) (va_A (WdC g ad S) H0.size) := by
  refine Met.ofW (cc := cX11_pointerEntry) (maxL := 3) (ret := (some .int)) (by decide) rfl ?_
  intro p e s m args below meth c s₁ B hml hv
  obtain ⟨rfl, hH0, hsz, hP, hK, hD0, hex, hE⟩ := hv
  have hx := B.exec
  have hb := B.bytes
  have hr := B.returns
  have hts0 := atoms_spec (ws := wt yX11_pointerEntry cX11_pointerEntry 3 (some .int)) B.pre
  have hts : ∀ w ∈ tb, w.before _ s = true := fun w h => hts0 w (List.mem_cons_of_mem _ h)
  have hown : s.vm.findClass RX11 = some m.cls := findClass_of_methodNamed B.named
  subst hH0
  have hD := hD0.self (sz := s.heap.size)
  generalize hAe : va_A (WdC g ad S) s.heap.size = A at hD hE ⊢
  have hA : ∀ q : Nat, s.heap.size ≤ q → A q := fun q h => by rw [← hAe]; exact Or.inr h
  have hR : RepC g ad A s S s.heap [] := ⟨hK, hP, hD, va_S.rf, hw⟩
  clear hK hP hD hD0
  have hl := lv_entry ([.ref (ad 25), .int x1, .int x2]) (n := 3) (Nat.le_of_ble_eq_true rfl)
  rw [lg_entry_eq]
  generalize (lg_sl ([.ref (ad 25), .int x1, .int x2]) ++ List.replicate (3 - (lg_sl ([.ref (ad 25), .int x1, .int x2])).length) Slot.unset).toArray = ls at hl ⊢
  have hlg : lgC S S 0 0 := lgC.rf
  have hak : adk ad ad S := adk.rf
  have hl : lv_has ls 3 [(0, .ref (ad 25)), (1, .int x1), (2, .int x2)] := hl
  have hsh : shx S S := shx.rf
  unfold wX11_pointerEntry at h
  refine lv_aload_n hx hb dX11_pointerEntry_0 rfl (lv_at hl 0 rfl) ?_
  refine lv_iload_n hx hb dX11_pointerEntry_1 rfl (lv_at hl 1 rfl) ?_
  obtain ⟨Q1, h0, h⟩ := h
  have hFc := cfree hR hA
  refine W_led2 (fun hL0 => ?_)
  refine va_callv (va_runV (As := [.int x1]) (rest := []) ⟨hx, hb, hml, hown, hts⟩ (rX11_want l g ad s.heap S x1 hR.w  Q1 h0) (cwV 1 hts (gd_V kw_138 kw_275 kw_276 kw_83 kw_274) rfl rfl rfl (by decide +kernel) ⟨Nat.le_of_ble_eq_true rfl, Nat.le_of_ble_eq_true rfl⟩) ⟨cblindH, va_recv hR.K hR.P (ci := 10) (q0 := 25) rfl (hR.at50 (hR.w.2.1 _ finC_28).2.1), fun U hU hW9 => cmkH hU hW9 hR hex hE hFc⟩ rfl rfl hl.1 rfl (lv_room (Nat.le_of_ble_eq_true rfl)) dX11_pointerEntry_2 ⟨(show 0 + (KCC - qn S) ≤ KCC - qn S from hlg.cm), (show 0 + (KSC - qu S) ≤ KSC - qu S from hlg.sm)⟩) hR.sS (fun q _ h => hFc q h) hFc (fun  S2 t9 H1 locs ht9 hvm9 hw9 hB9 hz9 hk9 hS => ?_)
  rcases S2 with ⟨S2, ak4⟩
  obtain ⟨hB9, dc9, ds9, hL9, hl9⟩ := hB9
  dsimp only at hw9 hB9 hl9
  rw [ht9] at hL9
  obtain ⟨hq3, hw9, hs9, hk8⟩ := hw9
  have hw8 := hR.w
  have hak := hak.tr hk8 hlg.2.2.1
  have hE := hE.ad hk8
  have hR : RepC g ak4 A s S2 H1 locs := hR.callH ht9 hB9 hw9 hS hFc
  have hsh := hsh.tr hs9
  refine W_tight2 (hL0.tr hL9).1 (hL0.tr hL9).2.1 ?_
  have hlg := hlg.call hl9
  replace h := h  S2 hq3 hw9 hs9
  have ea_0 : ak4 25 = ad 25 := hk8 _ (hw8.hd (hw8.2.1 _ finC_28).2.1 (by decide) (by decide))
  have hl : lv_has ls 3 [(0, .ref (ak4 25)), (1, .int x1), (2, .int x2)] := by simp only [ea_0]; exact hl
  clear hB9 hz9 hk9 hvm9 ht9 hw9 hs9 hS hL0 hL9
  generalize H1 = H at hR ⊢
  generalize dc9 = dc_ak4, ds9 = ds_ak4 at hlg ⊢
  refine lv_aload_n hx hb dX11_pointerEntry_5 rfl (lv_at hl 0 rfl) ?_
  refine va_get (D := rD g) (ci := 10) (v := .ref (ak4 30)) (C := RX11) (T := TX11) (N := 18) hx hb hts inX11 hown hR.K hR.P 25 (hR.at50 (hR.w.2.1 _ finC_28).2.1) rfl 2 (by decide) (hts _ kw_139) (fun _ h9 => h9) (congrArg (fun z => some (vf ak4 z)) (hR.w.2.1 _ finC_14).1) dX11_pointerEntry_6 ?_
  refine lv_iload_n hx hb dX11_pointerEntry_9 rfl (lv_at hl 2 rfl) ?_
  replace h := h ((hR.w.2.1 _ finC_14).2.1)
  obtain ⟨Q5, h0, h⟩ := h
  have hFc := cfree hR hA
  refine W_led2 (fun hL0 => ?_)
  refine va_callv (va_runV (As := [.int x2]) (rest := []) ⟨hx, hb, hml, hown, hts⟩ (rX0_put2 l g ak4 H S2 30 x2 hR.w (hR.w.2.1 _ finC_14).2.1 Q5 h0) (cwV 1 hts (gd_V kw_96 kw_17 kw_18 kw_3 kw_16) rfl rfl rfl (by decide +kernel) ⟨Nat.le_of_ble_eq_true rfl, Nat.le_of_ble_eq_true rfl⟩) ⟨cblindH, va_recv hR.K hR.P (ci := 0) (q0 := 30) rfl (hR.at40 (hR.w.2.1 _ finC_14).2.1), fun U hU hW9 => cmkH hU hW9 hR hex hE hFc⟩ rfl rfl hl.1 rfl (lv_room (Nat.le_of_ble_eq_true rfl)) dX11_pointerEntry_10 ⟨(show 0 + dc_ak4 + (KCC - qn S2) ≤ KCC - qn S from hlg.cm), (show 0 + ds_ak4 + (KSC - qu S2) ≤ KSC - qu S from hlg.sm)⟩) hR.sS (fun q _ h => hFc q h) hFc (fun  S6 t9 H1 locs ht9 hvm9 hw9 hB9 hz9 hk9 hS => ?_)
  rcases S6 with ⟨S6, ak8⟩
  obtain ⟨hB9, dc9, ds9, hL9, hl9⟩ := hB9
  dsimp only at hw9 hB9 hl9
  rw [ht9] at hL9
  obtain ⟨hq7, hw9, hs9, hk8⟩ := hw9
  have hw8 := hR.w
  have hak := hak.tr hk8 hlg.2.2.1
  have hE := hE.ad hk8
  have hR : RepC g ak8 A s S6 H1 locs := hR.callH ht9 hB9 hw9 hS hFc
  have hsh := hsh.tr hs9
  refine W_tight2 (hL0.tr hL9).1 (hL0.tr hL9).2.1 ?_
  have hlg := hlg.call hl9
  replace h := h  S6 hq7 hw9 hs9
  have ea_0 : ak8 25 = ak4 25 := hk8 _ (hw8.hd (hw8.2.1 _ finC_28).2.1 (by decide) (by decide))
  have hl : lv_has ls 3 [(0, .ref (ak8 25)), (1, .int x1), (2, .int x2)] := by simp only [ea_0]; exact hl
  clear hB9 hz9 hk9 hvm9 ht9 hw9 hs9 hS hL0 hL9
  generalize H1 = H at hR ⊢
  generalize dc9 = dc_ak8, ds9 = ds_ak8 at hlg ⊢
  refine lv_aload_n hx hb dX11_pointerEntry_13 rfl (lv_at hl 0 rfl) ?_
  obtain ⟨Q9, h0, h⟩ := h
  have hFc := cfree hR hA
  refine W_led2 (fun hL0 => ?_)
  refine va_calli (va_runV (As := []) (rest := []) ⟨hx, hb, hml, hown, hts⟩ (rX11_entryOfWanted l g ak8 H S6 hR.w  Q9 h0) (cwV 0 hts (gd_V kw_141 kw_143 kw_144 kw_83 kw_142) rfl rfl rfl (by decide +kernel) ⟨Nat.le_of_ble_eq_true rfl, Nat.le_of_ble_eq_true rfl⟩) ⟨cblindH, va_recv hR.K hR.P (ci := 10) (q0 := 25) rfl (hR.at50 (hR.w.2.1 _ finC_28).2.1), fun U hU hW9 => cmkH hU hW9 hR hex hE hFc⟩ rfl rfl hl.1 rfl (lv_room (Nat.le_of_ble_eq_true rfl)) dX11_pointerEntry_14 ⟨(show 0 + dc_ak4 + dc_ak8 + (KCC - qn S6) ≤ KCC - qn S from hlg.cm), (show 0 + ds_ak4 + ds_ak8 + (KSC - qu S6) ≤ KSC - qu S from hlg.sm)⟩) hR.sS (fun q _ h => hFc q h) hFc (fun r10 S11 t9 H1 locs ht9 hvm9 hw9 hB9 hz9 hk9 hS => ?_)
  rcases S11 with ⟨S11, ak13⟩
  obtain ⟨hB9, dc9, ds9, hL9, hl9⟩ := hB9
  dsimp only at hw9 hB9 hl9
  rw [ht9] at hL9
  obtain ⟨hq12, hw9, hs9, hk8⟩ := hw9
  have hw8 := hR.w
  have hak := hak.tr hk8 hlg.2.2.1
  have hE := hE.ad hk8
  have hR : RepC g ak13 A s S11 H1 locs := hR.callH ht9 hB9 hw9 hS hFc
  have hsh := hsh.tr hs9
  refine W_tight2 (hL0.tr hL9).1 (hL0.tr hL9).2.1 ?_
  have hlg := hlg.call hl9
  replace h := h r10 S11 hq12 hw9 hs9
  have ea_0 : ak13 25 = ak8 25 := hk8 _ (hw8.hd (hw8.2.1 _ finC_28).2.1 (by decide) (by decide))
  have hl : lv_has ls 3 [(0, .ref (ak13 25)), (1, .int x1), (2, .int x2)] := by simp only [ea_0]; exact hl
  clear hB9 hz9 hk9 hvm9 ht9 hw9 hs9 hS hL0 hL9
  generalize H1 = H at hR ⊢
  generalize dc9 = dc_ak13, ds9 = ds_ak13 at hlg ⊢
  refine W_led2 (fun hLd => ?_)
  refine W.widen (k := KCC - qn S) (n := KSC - qu S) hlg.c hlg.s ?_
  exact W.iret (v := r10) hx hb hr (fun t9 ht9 hW9 => ⟨⟨_, (S11, ak13), rfl, ⟨h, hR.w, hsh, hak⟩, ⟨⟨by rw [ht9]; exact hR.P, hR.D⟩, _, _, by rw [ht9]; exact hLd, hlg⟩⟩, hR.sS.F ht9⟩) hR.sS.2.2 dX11_pointerEntry_17
def wX11_pointersEntry (S : MS) (x1 : Int32) (x2 : Int32) (x3 : Int32) (Q : Int32 → MS → Prop) : Prop := (∃ Q1, wX11_want S x1 Q1 ∧ ∀ S2, Q1 S2 → wfC S2 → shx S S2 → (qT S2 30 = 40 → (∃ Q5, wX0_put2 S2 30 x2 Q5 ∧ ∀ S6, Q5 S6 → wfC S6 → shx S2 S6 → (qT S6 30 = 40 → (∃ Q9, wX0_put2 S6 30 x3 Q9 ∧ ∀ S10, Q9 S10 → wfC S10 → shx S6 S10 → (∃ Q13, wX11_entryOfWanted S10 Q13 ∧ ∀ r14 S15, Q13 r14 S15 → wfC S15 → shx S10 S15 → Q r14 S15))))))
set_option maxHeartbeats 2000000 in
set_option maxRecDepth 100000 in
theorem rX11_pointersEntry (l : Launch) (g : Gr) (ad : Nat → Nat) (H0 : Heap) (S : MS) (x1 : Int32) (x2 : Int32) (x3 : Int32) (hw : wfC S) (Q : Int32 → MS → Prop) (h : wX11_pointersEntry S x1 x2 x3 Q) : Met l yX11_pointersEntry (wt yX11_pointersEntry cX11_pointersEntry 4 (some .int)) ({ frames := 4, cells := KCC - qn S, slots := KSC - qu S, locals := 106 }) (va_Pc [.ref (ad 25), .int x1, .int x2, .int x3] (st_CH g ad H0 S)) (va_Qi (fun (r : Int32) (u : MS × (Nat → Nat)) => Q r u.1 ∧ wfC u.1 ∧ shx S u.1 ∧ adk ad u.2 S) (fun (u : MS × (Nat → Nat)) (t : State) => qEHC g (va_A (WdC g ad S) H0.size) S H0 u t) (va_A (WdC g ad S) H0.size)) (KCC - qn S) (KSC - qu S) (va_A (WdC g ad S) H0.size) := by
  refine Met.ofW (cc := cX11_pointersEntry) (maxL := 4) (ret := (some .int)) (by decide) rfl ?_
  intro p e s m args below meth c s₁ B hml hv
  obtain ⟨rfl, hH0, hsz, hP, hK, hD0, hex, hE⟩ := hv
  have hx := B.exec
  have hb := B.bytes
  have hr := B.returns
  have hts0 := atoms_spec (ws := wt yX11_pointersEntry cX11_pointersEntry 4 (some .int)) B.pre
  have hts : ∀ w ∈ tb, w.before _ s = true := fun w h => hts0 w (List.mem_cons_of_mem _ h)
  have hown : s.vm.findClass RX11 = some m.cls := findClass_of_methodNamed B.named
  subst hH0
  have hD := hD0.self (sz := s.heap.size)
  generalize hAe : va_A (WdC g ad S) s.heap.size = A at hD hE ⊢
  have hA : ∀ q : Nat, s.heap.size ≤ q → A q := fun q h => by rw [← hAe]; exact Or.inr h
  have hR : RepC g ad A s S s.heap [] := ⟨hK, hP, hD, va_S.rf, hw⟩
  clear hK hP hD hD0
  have hl := lv_entry ([.ref (ad 25), .int x1, .int x2, .int x3]) (n := 4) (Nat.le_of_ble_eq_true rfl)
  rw [lg_entry_eq]
  generalize (lg_sl ([.ref (ad 25), .int x1, .int x2, .int x3]) ++ List.replicate (4 - (lg_sl ([.ref (ad 25), .int x1, .int x2, .int x3])).length) Slot.unset).toArray = ls at hl ⊢
  have hlg : lgC S S 0 0 := lgC.rf
  have hak : adk ad ad S := adk.rf
  have hl : lv_has ls 4 [(0, .ref (ad 25)), (1, .int x1), (2, .int x2), (3, .int x3)] := hl
  have hsh : shx S S := shx.rf
  unfold wX11_pointersEntry at h
  refine lv_aload_n hx hb dX11_pointersEntry_0 rfl (lv_at hl 0 rfl) ?_
  refine lv_iload_n hx hb dX11_pointersEntry_1 rfl (lv_at hl 1 rfl) ?_
  obtain ⟨Q1, h0, h⟩ := h
  have hFc := cfree hR hA
  refine W_led2 (fun hL0 => ?_)
  refine va_callv (va_runV (As := [.int x1]) (rest := []) ⟨hx, hb, hml, hown, hts⟩ (rX11_want l g ad s.heap S x1 hR.w  Q1 h0) (cwV 1 hts (gd_V kw_138 kw_275 kw_276 kw_83 kw_274) rfl rfl rfl (by decide +kernel) ⟨Nat.le_of_ble_eq_true rfl, Nat.le_of_ble_eq_true rfl⟩) ⟨cblindH, va_recv hR.K hR.P (ci := 10) (q0 := 25) rfl (hR.at50 (hR.w.2.1 _ finC_28).2.1), fun U hU hW9 => cmkH hU hW9 hR hex hE hFc⟩ rfl rfl hl.1 rfl (lv_room (Nat.le_of_ble_eq_true rfl)) dX11_pointersEntry_2 ⟨(show 0 + (KCC - qn S) ≤ KCC - qn S from hlg.cm), (show 0 + (KSC - qu S) ≤ KSC - qu S from hlg.sm)⟩) hR.sS (fun q _ h => hFc q h) hFc (fun  S2 t9 H1 locs ht9 hvm9 hw9 hB9 hz9 hk9 hS => ?_)
  rcases S2 with ⟨S2, ak4⟩
  obtain ⟨hB9, dc9, ds9, hL9, hl9⟩ := hB9
  dsimp only at hw9 hB9 hl9
  rw [ht9] at hL9
  obtain ⟨hq3, hw9, hs9, hk8⟩ := hw9
  have hw8 := hR.w
  have hak := hak.tr hk8 hlg.2.2.1
  have hE := hE.ad hk8
  have hR : RepC g ak4 A s S2 H1 locs := hR.callH ht9 hB9 hw9 hS hFc
  have hsh := hsh.tr hs9
  refine W_tight2 (hL0.tr hL9).1 (hL0.tr hL9).2.1 ?_
  have hlg := hlg.call hl9
  replace h := h  S2 hq3 hw9 hs9
  have ea_0 : ak4 25 = ad 25 := hk8 _ (hw8.hd (hw8.2.1 _ finC_28).2.1 (by decide) (by decide))
  have hl : lv_has ls 4 [(0, .ref (ak4 25)), (1, .int x1), (2, .int x2), (3, .int x3)] := by simp only [ea_0]; exact hl
  clear hB9 hz9 hk9 hvm9 ht9 hw9 hs9 hS hL0 hL9
  generalize H1 = H at hR ⊢
  generalize dc9 = dc_ak4, ds9 = ds_ak4 at hlg ⊢
  refine lv_aload_n hx hb dX11_pointersEntry_5 rfl (lv_at hl 0 rfl) ?_
  refine va_get (D := rD g) (ci := 10) (v := .ref (ak4 30)) (C := RX11) (T := TX11) (N := 18) hx hb hts inX11 hown hR.K hR.P 25 (hR.at50 (hR.w.2.1 _ finC_28).2.1) rfl 2 (by decide) (hts _ kw_139) (fun _ h9 => h9) (congrArg (fun z => some (vf ak4 z)) (hR.w.2.1 _ finC_14).1) dX11_pointersEntry_6 ?_
  refine lv_iload_n hx hb dX11_pointersEntry_9 rfl (lv_at hl 2 rfl) ?_
  replace h := h ((hR.w.2.1 _ finC_14).2.1)
  obtain ⟨Q5, h0, h⟩ := h
  have hFc := cfree hR hA
  refine W_led2 (fun hL0 => ?_)
  refine va_callv (va_runV (As := [.int x2]) (rest := []) ⟨hx, hb, hml, hown, hts⟩ (rX0_put2 l g ak4 H S2 30 x2 hR.w (hR.w.2.1 _ finC_14).2.1 Q5 h0) (cwV 1 hts (gd_V kw_96 kw_17 kw_18 kw_3 kw_16) rfl rfl rfl (by decide +kernel) ⟨Nat.le_of_ble_eq_true rfl, Nat.le_of_ble_eq_true rfl⟩) ⟨cblindH, va_recv hR.K hR.P (ci := 0) (q0 := 30) rfl (hR.at40 (hR.w.2.1 _ finC_14).2.1), fun U hU hW9 => cmkH hU hW9 hR hex hE hFc⟩ rfl rfl hl.1 rfl (lv_room (Nat.le_of_ble_eq_true rfl)) dX11_pointersEntry_10 ⟨(show 0 + dc_ak4 + (KCC - qn S2) ≤ KCC - qn S from hlg.cm), (show 0 + ds_ak4 + (KSC - qu S2) ≤ KSC - qu S from hlg.sm)⟩) hR.sS (fun q _ h => hFc q h) hFc (fun  S6 t9 H1 locs ht9 hvm9 hw9 hB9 hz9 hk9 hS => ?_)
  rcases S6 with ⟨S6, ak8⟩
  obtain ⟨hB9, dc9, ds9, hL9, hl9⟩ := hB9
  dsimp only at hw9 hB9 hl9
  rw [ht9] at hL9
  obtain ⟨hq7, hw9, hs9, hk8⟩ := hw9
  have hw8 := hR.w
  have hak := hak.tr hk8 hlg.2.2.1
  have hE := hE.ad hk8
  have hR : RepC g ak8 A s S6 H1 locs := hR.callH ht9 hB9 hw9 hS hFc
  have hsh := hsh.tr hs9
  refine W_tight2 (hL0.tr hL9).1 (hL0.tr hL9).2.1 ?_
  have hlg := hlg.call hl9
  replace h := h  S6 hq7 hw9 hs9
  have ea_0 : ak8 25 = ak4 25 := hk8 _ (hw8.hd (hw8.2.1 _ finC_28).2.1 (by decide) (by decide))
  have hl : lv_has ls 4 [(0, .ref (ak8 25)), (1, .int x1), (2, .int x2), (3, .int x3)] := by simp only [ea_0]; exact hl
  clear hB9 hz9 hk9 hvm9 ht9 hw9 hs9 hS hL0 hL9
  generalize H1 = H at hR ⊢
  generalize dc9 = dc_ak8, ds9 = ds_ak8 at hlg ⊢
  refine lv_aload_n hx hb dX11_pointersEntry_13 rfl (lv_at hl 0 rfl) ?_
  refine va_get (D := rD g) (ci := 10) (v := .ref (ak8 30)) (C := RX11) (T := TX11) (N := 18) hx hb hts inX11 hown hR.K hR.P 25 (hR.at50 (hR.w.2.1 _ finC_28).2.1) rfl 2 (by decide) (hts _ kw_139) (fun _ h9 => h9) (congrArg (fun z => some (vf ak8 z)) (hR.w.2.1 _ finC_14).1) dX11_pointersEntry_14 ?_
  refine lv_iload_n hx hb dX11_pointersEntry_17 rfl (lv_at hl 3 rfl) ?_
  replace h := h ((hR.w.2.1 _ finC_14).2.1)
  obtain ⟨Q9, h0, h⟩ := h
  have hFc := cfree hR hA
  refine W_led2 (fun hL0 => ?_)
  refine va_callv (va_runV (As := [.int x3]) (rest := []) ⟨hx, hb, hml, hown, hts⟩ (rX0_put2 l g ak8 H S6 30 x3 hR.w (hR.w.2.1 _ finC_14).2.1 Q9 h0) (cwV 1 hts (gd_V kw_96 kw_17 kw_18 kw_3 kw_16) rfl rfl rfl (by decide +kernel) ⟨Nat.le_of_ble_eq_true rfl, Nat.le_of_ble_eq_true rfl⟩) ⟨cblindH, va_recv hR.K hR.P (ci := 0) (q0 := 30) rfl (hR.at40 (hR.w.2.1 _ finC_14).2.1), fun U hU hW9 => cmkH hU hW9 hR hex hE hFc⟩ rfl rfl hl.1 rfl (lv_room (Nat.le_of_ble_eq_true rfl)) dX11_pointersEntry_18 ⟨(show 0 + dc_ak4 + dc_ak8 + (KCC - qn S6) ≤ KCC - qn S from hlg.cm), (show 0 + ds_ak4 + ds_ak8 + (KSC - qu S6) ≤ KSC - qu S from hlg.sm)⟩) hR.sS (fun q _ h => hFc q h) hFc (fun  S10 t9 H1 locs ht9 hvm9 hw9 hB9 hz9 hk9 hS => ?_)
  rcases S10 with ⟨S10, ak12⟩
  obtain ⟨hB9, dc9, ds9, hL9, hl9⟩ := hB9
  dsimp only at hw9 hB9 hl9
  rw [ht9] at hL9
  obtain ⟨hq11, hw9, hs9, hk8⟩ := hw9
  have hw8 := hR.w
  have hak := hak.tr hk8 hlg.2.2.1
  have hE := hE.ad hk8
  have hR : RepC g ak12 A s S10 H1 locs := hR.callH ht9 hB9 hw9 hS hFc
  have hsh := hsh.tr hs9
  refine W_tight2 (hL0.tr hL9).1 (hL0.tr hL9).2.1 ?_
  have hlg := hlg.call hl9
  replace h := h  S10 hq11 hw9 hs9
  have ea_0 : ak12 25 = ak8 25 := hk8 _ (hw8.hd (hw8.2.1 _ finC_28).2.1 (by decide) (by decide))
  have hl : lv_has ls 4 [(0, .ref (ak12 25)), (1, .int x1), (2, .int x2), (3, .int x3)] := by simp only [ea_0]; exact hl
  clear hB9 hz9 hk9 hvm9 ht9 hw9 hs9 hS hL0 hL9
  generalize H1 = H at hR ⊢
  generalize dc9 = dc_ak12, ds9 = ds_ak12 at hlg ⊢
  refine lv_aload_n hx hb dX11_pointersEntry_21 rfl (lv_at hl 0 rfl) ?_
  obtain ⟨Q13, h0, h⟩ := h
  have hFc := cfree hR hA
  refine W_led2 (fun hL0 => ?_)
  refine va_calli (va_runV (As := []) (rest := []) ⟨hx, hb, hml, hown, hts⟩ (rX11_entryOfWanted l g ak12 H S10 hR.w  Q13 h0) (cwV 0 hts (gd_V kw_141 kw_143 kw_144 kw_83 kw_142) rfl rfl rfl (by decide +kernel) ⟨Nat.le_of_ble_eq_true rfl, Nat.le_of_ble_eq_true rfl⟩) ⟨cblindH, va_recv hR.K hR.P (ci := 10) (q0 := 25) rfl (hR.at50 (hR.w.2.1 _ finC_28).2.1), fun U hU hW9 => cmkH hU hW9 hR hex hE hFc⟩ rfl rfl hl.1 rfl (lv_room (Nat.le_of_ble_eq_true rfl)) dX11_pointersEntry_22 ⟨(show 0 + dc_ak4 + dc_ak8 + dc_ak12 + (KCC - qn S10) ≤ KCC - qn S from hlg.cm), (show 0 + ds_ak4 + ds_ak8 + ds_ak12 + (KSC - qu S10) ≤ KSC - qu S from hlg.sm)⟩) hR.sS (fun q _ h => hFc q h) hFc (fun r14 S15 t9 H1 locs ht9 hvm9 hw9 hB9 hz9 hk9 hS => ?_)
  rcases S15 with ⟨S15, ak17⟩
  obtain ⟨hB9, dc9, ds9, hL9, hl9⟩ := hB9
  dsimp only at hw9 hB9 hl9
  rw [ht9] at hL9
  obtain ⟨hq16, hw9, hs9, hk8⟩ := hw9
  have hw8 := hR.w
  have hak := hak.tr hk8 hlg.2.2.1
  have hE := hE.ad hk8
  have hR : RepC g ak17 A s S15 H1 locs := hR.callH ht9 hB9 hw9 hS hFc
  have hsh := hsh.tr hs9
  refine W_tight2 (hL0.tr hL9).1 (hL0.tr hL9).2.1 ?_
  have hlg := hlg.call hl9
  replace h := h r14 S15 hq16 hw9 hs9
  have ea_0 : ak17 25 = ak12 25 := hk8 _ (hw8.hd (hw8.2.1 _ finC_28).2.1 (by decide) (by decide))
  have hl : lv_has ls 4 [(0, .ref (ak17 25)), (1, .int x1), (2, .int x2), (3, .int x3)] := by simp only [ea_0]; exact hl
  clear hB9 hz9 hk9 hvm9 ht9 hw9 hs9 hS hL0 hL9
  generalize H1 = H at hR ⊢
  generalize dc9 = dc_ak17, ds9 = ds_ak17 at hlg ⊢
  refine W_led2 (fun hLd => ?_)
  refine W.widen (k := KCC - qn S) (n := KSC - qu S) hlg.c hlg.s ?_
  exact W.iret (v := r14) hx hb hr (fun t9 ht9 hW9 => ⟨⟨_, (S15, ak17), rfl, ⟨h, hR.w, hsh, hak⟩, ⟨⟨by rw [ht9]; exact hR.P, hR.D⟩, _, _, by rw [ht9]; exact hLd, hlg⟩⟩, hR.sS.F ht9⟩) hR.sS.2.2 dX11_pointersEntry_25
def wX11_intEntry (S : MS) (x1 : Int32) (Q : Int32 → MS → Prop) : Prop := (∃ Q1, wX11_want S (3 : Int32) Q1 ∧ ∀ S2, Q1 S2 → wfC S2 → shx S S2 → (qT S2 30 = 40 → (∃ Q5, wX0_put4 S2 30 x1 Q5 ∧ ∀ S6, Q5 S6 → wfC S6 → shx S2 S6 → (∃ Q9, wX11_entryOfWanted S6 Q9 ∧ ∀ r10 S11, Q9 r10 S11 → wfC S11 → shx S6 S11 → Q r10 S11))))
set_option maxHeartbeats 2000000 in
set_option maxRecDepth 100000 in
theorem rX11_intEntry (l : Launch) (g : Gr) (ad : Nat → Nat) (H0 : Heap) (S : MS) (x1 : Int32) (hw : wfC S) (Q : Int32 → MS → Prop) (h : wX11_intEntry S x1 Q) : Met l yX11_intEntry (wt yX11_intEntry cX11_intEntry 2 (some .int)) ({ frames := 5, cells := KCC - qn S, slots := KSC - qu S, locals := 125 }) (va_Pc [.ref (ad 25), .int x1] (st_CH g ad H0 S)) (va_Qi (fun (r : Int32) (u : MS × (Nat → Nat)) => Q r u.1 ∧ wfC u.1 ∧ shx S u.1 ∧ adk ad u.2 S) (fun (u : MS × (Nat → Nat)) (t : State) => qEHC g (va_A (WdC g ad S) H0.size) S H0 u t) (va_A (WdC g ad S) H0.size)) (KCC - qn S) (KSC - qu S) (va_A (WdC g ad S) H0.size) := by
  refine Met.ofW (cc := cX11_intEntry) (maxL := 2) (ret := (some .int)) (by decide) rfl ?_
  intro p e s m args below meth c s₁ B hml hv
  obtain ⟨rfl, hH0, hsz, hP, hK, hD0, hex, hE⟩ := hv
  have hx := B.exec
  have hb := B.bytes
  have hr := B.returns
  have hts0 := atoms_spec (ws := wt yX11_intEntry cX11_intEntry 2 (some .int)) B.pre
  have hts : ∀ w ∈ tb, w.before _ s = true := fun w h => hts0 w (List.mem_cons_of_mem _ h)
  have hown : s.vm.findClass RX11 = some m.cls := findClass_of_methodNamed B.named
  subst hH0
  have hD := hD0.self (sz := s.heap.size)
  generalize hAe : va_A (WdC g ad S) s.heap.size = A at hD hE ⊢
  have hA : ∀ q : Nat, s.heap.size ≤ q → A q := fun q h => by rw [← hAe]; exact Or.inr h
  have hR : RepC g ad A s S s.heap [] := ⟨hK, hP, hD, va_S.rf, hw⟩
  clear hK hP hD hD0
  have hl := lv_entry ([.ref (ad 25), .int x1]) (n := 2) (Nat.le_of_ble_eq_true rfl)
  rw [lg_entry_eq]
  generalize (lg_sl ([.ref (ad 25), .int x1]) ++ List.replicate (2 - (lg_sl ([.ref (ad 25), .int x1])).length) Slot.unset).toArray = ls at hl ⊢
  have hlg : lgC S S 0 0 := lgC.rf
  have hak : adk ad ad S := adk.rf
  have hl : lv_has ls 2 [(0, .ref (ad 25)), (1, .int x1)] := hl
  have hsh : shx S S := shx.rf
  unfold wX11_intEntry at h
  refine lv_aload_n hx hb dX11_intEntry_0 rfl (lv_at hl 0 rfl) ?_
  refine lv_iconst (v := 3) hx hb dX11_intEntry_1 (by decide) ?_
  obtain ⟨Q1, h0, h⟩ := h
  have hFc := cfree hR hA
  refine W_led2 (fun hL0 => ?_)
  refine va_callv (va_runV (As := [.int 3]) (rest := []) ⟨hx, hb, hml, hown, hts⟩ (rX11_want l g ad s.heap S (3 : Int32) hR.w  Q1 h0) (cwV 1 hts (gd_V kw_138 kw_275 kw_276 kw_83 kw_274) rfl rfl rfl (by decide +kernel) ⟨Nat.le_of_ble_eq_true rfl, Nat.le_of_ble_eq_true rfl⟩) ⟨cblindH, va_recv hR.K hR.P (ci := 10) (q0 := 25) rfl (hR.at50 (hR.w.2.1 _ finC_28).2.1), fun U hU hW9 => cmkH hU hW9 hR hex hE hFc⟩ rfl rfl hl.1 rfl (lv_room (Nat.le_of_ble_eq_true rfl)) dX11_intEntry_2 ⟨(show 0 + (KCC - qn S) ≤ KCC - qn S from hlg.cm), (show 0 + (KSC - qu S) ≤ KSC - qu S from hlg.sm)⟩) hR.sS (fun q _ h => hFc q h) hFc (fun  S2 t9 H1 locs ht9 hvm9 hw9 hB9 hz9 hk9 hS => ?_)
  rcases S2 with ⟨S2, ak4⟩
  obtain ⟨hB9, dc9, ds9, hL9, hl9⟩ := hB9
  dsimp only at hw9 hB9 hl9
  rw [ht9] at hL9
  obtain ⟨hq3, hw9, hs9, hk8⟩ := hw9
  have hw8 := hR.w
  have hak := hak.tr hk8 hlg.2.2.1
  have hE := hE.ad hk8
  have hR : RepC g ak4 A s S2 H1 locs := hR.callH ht9 hB9 hw9 hS hFc
  have hsh := hsh.tr hs9
  refine W_tight2 (hL0.tr hL9).1 (hL0.tr hL9).2.1 ?_
  have hlg := hlg.call hl9
  replace h := h  S2 hq3 hw9 hs9
  have ea_0 : ak4 25 = ad 25 := hk8 _ (hw8.hd (hw8.2.1 _ finC_28).2.1 (by decide) (by decide))
  have hl : lv_has ls 2 [(0, .ref (ak4 25)), (1, .int x1)] := by simp only [ea_0]; exact hl
  clear hB9 hz9 hk9 hvm9 ht9 hw9 hs9 hS hL0 hL9
  generalize H1 = H at hR ⊢
  generalize dc9 = dc_ak4, ds9 = ds_ak4 at hlg ⊢
  refine lv_aload_n hx hb dX11_intEntry_5 rfl (lv_at hl 0 rfl) ?_
  refine va_get (D := rD g) (ci := 10) (v := .ref (ak4 30)) (C := RX11) (T := TX11) (N := 18) hx hb hts inX11 hown hR.K hR.P 25 (hR.at50 (hR.w.2.1 _ finC_28).2.1) rfl 2 (by decide) (hts _ kw_139) (fun _ h9 => h9) (congrArg (fun z => some (vf ak4 z)) (hR.w.2.1 _ finC_14).1) dX11_intEntry_6 ?_
  refine lv_iload_n hx hb dX11_intEntry_9 rfl (lv_at hl 1 rfl) ?_
  replace h := h ((hR.w.2.1 _ finC_14).2.1)
  obtain ⟨Q5, h0, h⟩ := h
  have hFc := cfree hR hA
  refine W_led2 (fun hL0 => ?_)
  refine va_callv (va_runV (As := [.int x1]) (rest := []) ⟨hx, hb, hml, hown, hts⟩ (rX0_put4 l g ak4 H S2 30 x1 hR.w (hR.w.2.1 _ finC_14).2.1 Q5 h0) (cwV 1 hts (gd_V kw_98 kw_21 kw_22 kw_3 kw_20) rfl rfl rfl (by decide +kernel) ⟨Nat.le_of_ble_eq_true rfl, Nat.le_of_ble_eq_true rfl⟩) ⟨cblindH, va_recv hR.K hR.P (ci := 0) (q0 := 30) rfl (hR.at40 (hR.w.2.1 _ finC_14).2.1), fun U hU hW9 => cmkH hU hW9 hR hex hE hFc⟩ rfl rfl hl.1 rfl (lv_room (Nat.le_of_ble_eq_true rfl)) dX11_intEntry_10 ⟨(show 0 + dc_ak4 + (KCC - qn S2) ≤ KCC - qn S from hlg.cm), (show 0 + ds_ak4 + (KSC - qu S2) ≤ KSC - qu S from hlg.sm)⟩) hR.sS (fun q _ h => hFc q h) hFc (fun  S6 t9 H1 locs ht9 hvm9 hw9 hB9 hz9 hk9 hS => ?_)
  rcases S6 with ⟨S6, ak8⟩
  obtain ⟨hB9, dc9, ds9, hL9, hl9⟩ := hB9
  dsimp only at hw9 hB9 hl9
  rw [ht9] at hL9
  obtain ⟨hq7, hw9, hs9, hk8⟩ := hw9
  have hw8 := hR.w
  have hak := hak.tr hk8 hlg.2.2.1
  have hE := hE.ad hk8
  have hR : RepC g ak8 A s S6 H1 locs := hR.callH ht9 hB9 hw9 hS hFc
  have hsh := hsh.tr hs9
  refine W_tight2 (hL0.tr hL9).1 (hL0.tr hL9).2.1 ?_
  have hlg := hlg.call hl9
  replace h := h  S6 hq7 hw9 hs9
  have ea_0 : ak8 25 = ak4 25 := hk8 _ (hw8.hd (hw8.2.1 _ finC_28).2.1 (by decide) (by decide))
  have hl : lv_has ls 2 [(0, .ref (ak8 25)), (1, .int x1)] := by simp only [ea_0]; exact hl
  clear hB9 hz9 hk9 hvm9 ht9 hw9 hs9 hS hL0 hL9
  generalize H1 = H at hR ⊢
  generalize dc9 = dc_ak8, ds9 = ds_ak8 at hlg ⊢
  refine lv_aload_n hx hb dX11_intEntry_13 rfl (lv_at hl 0 rfl) ?_
  obtain ⟨Q9, h0, h⟩ := h
  have hFc := cfree hR hA
  refine W_led2 (fun hL0 => ?_)
  refine va_calli (va_runV (As := []) (rest := []) ⟨hx, hb, hml, hown, hts⟩ (rX11_entryOfWanted l g ak8 H S6 hR.w  Q9 h0) (cwV 0 hts (gd_V kw_141 kw_143 kw_144 kw_83 kw_142) rfl rfl rfl (by decide +kernel) ⟨Nat.le_of_ble_eq_true rfl, Nat.le_of_ble_eq_true rfl⟩) ⟨cblindH, va_recv hR.K hR.P (ci := 10) (q0 := 25) rfl (hR.at50 (hR.w.2.1 _ finC_28).2.1), fun U hU hW9 => cmkH hU hW9 hR hex hE hFc⟩ rfl rfl hl.1 rfl (lv_room (Nat.le_of_ble_eq_true rfl)) dX11_intEntry_14 ⟨(show 0 + dc_ak4 + dc_ak8 + (KCC - qn S6) ≤ KCC - qn S from hlg.cm), (show 0 + ds_ak4 + ds_ak8 + (KSC - qu S6) ≤ KSC - qu S from hlg.sm)⟩) hR.sS (fun q _ h => hFc q h) hFc (fun r10 S11 t9 H1 locs ht9 hvm9 hw9 hB9 hz9 hk9 hS => ?_)
  rcases S11 with ⟨S11, ak13⟩
  obtain ⟨hB9, dc9, ds9, hL9, hl9⟩ := hB9
  dsimp only at hw9 hB9 hl9
  rw [ht9] at hL9
  obtain ⟨hq12, hw9, hs9, hk8⟩ := hw9
  have hw8 := hR.w
  have hak := hak.tr hk8 hlg.2.2.1
  have hE := hE.ad hk8
  have hR : RepC g ak13 A s S11 H1 locs := hR.callH ht9 hB9 hw9 hS hFc
  have hsh := hsh.tr hs9
  refine W_tight2 (hL0.tr hL9).1 (hL0.tr hL9).2.1 ?_
  have hlg := hlg.call hl9
  replace h := h r10 S11 hq12 hw9 hs9
  have ea_0 : ak13 25 = ak8 25 := hk8 _ (hw8.hd (hw8.2.1 _ finC_28).2.1 (by decide) (by decide))
  have hl : lv_has ls 2 [(0, .ref (ak13 25)), (1, .int x1)] := by simp only [ea_0]; exact hl
  clear hB9 hz9 hk9 hvm9 ht9 hw9 hs9 hS hL0 hL9
  generalize H1 = H at hR ⊢
  generalize dc9 = dc_ak13, ds9 = ds_ak13 at hlg ⊢
  refine W_led2 (fun hLd => ?_)
  refine W.widen (k := KCC - qn S) (n := KSC - qu S) hlg.c hlg.s ?_
  exact W.iret (v := r10) hx hb hr (fun t9 ht9 hW9 => ⟨⟨_, (S11, ak13), rfl, ⟨h, hR.w, hsh, hak⟩, ⟨⟨by rw [ht9]; exact hR.P, hR.D⟩, _, _, by rw [ht9]; exact hLd, hlg⟩⟩, hR.sS.F ht9⟩) hR.sS.2.2 dX11_intEntry_17
def wX11_longEntry (S : MS) (y1 : Int64) (Q : Int32 → MS → Prop) : Prop := (∃ Q1, wX11_want S (5 : Int32) Q1 ∧ ∀ S2, Q1 S2 → wfC S2 → shx S S2 → (qT S2 30 = 40 → (∃ Q5, wX0_put4 S2 30 ((y1 >>> ((32 : Int32).toInt64 &&& 63)).toInt32) Q5 ∧ ∀ S6, Q5 S6 → wfC S6 → shx S2 S6 → (qT S6 30 = 40 → (∃ Q9, wX0_put4 S6 30 (y1.toInt32) Q9 ∧ ∀ S10, Q9 S10 → wfC S10 → shx S6 S10 → (∃ Q13, wX11_entryOfWanted S10 Q13 ∧ ∀ r14 S15, Q13 r14 S15 → wfC S15 → shx S10 S15 → Q r14 S15))))))
set_option maxHeartbeats 2000000 in
set_option maxRecDepth 100000 in
theorem rX11_longEntry (l : Launch) (g : Gr) (ad : Nat → Nat) (H0 : Heap) (S : MS) (y1 : Int64) (hw : wfC S) (Q : Int32 → MS → Prop) (h : wX11_longEntry S y1 Q) : Met l yX11_longEntry (wt yX11_longEntry cX11_longEntry 3 (some .int)) ({ frames := 5, cells := KCC - qn S, slots := KSC - qu S, locals := 125 }) (va_Pc [.ref (ad 25), .long y1] (st_CH g ad H0 S)) (va_Qi (fun (r : Int32) (u : MS × (Nat → Nat)) => Q r u.1 ∧ wfC u.1 ∧ shx S u.1 ∧ adk ad u.2 S) (fun (u : MS × (Nat → Nat)) (t : State) => qEHC g (va_A (WdC g ad S) H0.size) S H0 u t) (va_A (WdC g ad S) H0.size)) (KCC - qn S) (KSC - qu S) (va_A (WdC g ad S) H0.size) := by
  refine Met.ofW (cc := cX11_longEntry) (maxL := 3) (ret := (some .int)) (by decide) rfl ?_
  intro p e s m args below meth c s₁ B hml hv
  obtain ⟨rfl, hH0, hsz, hP, hK, hD0, hex, hE⟩ := hv
  have hx := B.exec
  have hb := B.bytes
  have hr := B.returns
  have hts0 := atoms_spec (ws := wt yX11_longEntry cX11_longEntry 3 (some .int)) B.pre
  have hts : ∀ w ∈ tb, w.before _ s = true := fun w h => hts0 w (List.mem_cons_of_mem _ h)
  have hown : s.vm.findClass RX11 = some m.cls := findClass_of_methodNamed B.named
  subst hH0
  have hD := hD0.self (sz := s.heap.size)
  generalize hAe : va_A (WdC g ad S) s.heap.size = A at hD hE ⊢
  have hA : ∀ q : Nat, s.heap.size ≤ q → A q := fun q h => by rw [← hAe]; exact Or.inr h
  have hR : RepC g ad A s S s.heap [] := ⟨hK, hP, hD, va_S.rf, hw⟩
  clear hK hP hD hD0
  have hl := lv_entry ([.ref (ad 25), .long y1]) (n := 3) (Nat.le_of_ble_eq_true rfl)
  rw [lg_entry_eq]
  generalize (lg_sl ([.ref (ad 25), .long y1]) ++ List.replicate (3 - (lg_sl ([.ref (ad 25), .long y1])).length) Slot.unset).toArray = ls at hl ⊢
  have hlg : lgC S S 0 0 := lgC.rf
  have hak : adk ad ad S := adk.rf
  have hl : lv_has ls 3 [(0, .ref (ad 25)), (1, .long y1)] := hl
  have hsh : shx S S := shx.rf
  unfold wX11_longEntry at h
  refine lv_aload_n hx hb dX11_longEntry_0 rfl (lv_at hl 0 rfl) ?_
  refine lv_iconst (v := 5) hx hb dX11_longEntry_1 (by decide) ?_
  obtain ⟨Q1, h0, h⟩ := h
  have hFc := cfree hR hA
  refine W_led2 (fun hL0 => ?_)
  refine va_callv (va_runV (As := [.int 5]) (rest := []) ⟨hx, hb, hml, hown, hts⟩ (rX11_want l g ad s.heap S (5 : Int32) hR.w  Q1 h0) (cwV 1 hts (gd_V kw_138 kw_275 kw_276 kw_83 kw_274) rfl rfl rfl (by decide +kernel) ⟨Nat.le_of_ble_eq_true rfl, Nat.le_of_ble_eq_true rfl⟩) ⟨cblindH, va_recv hR.K hR.P (ci := 10) (q0 := 25) rfl (hR.at50 (hR.w.2.1 _ finC_28).2.1), fun U hU hW9 => cmkH hU hW9 hR hex hE hFc⟩ rfl rfl hl.1 rfl (lv_room (Nat.le_of_ble_eq_true rfl)) dX11_longEntry_2 ⟨(show 0 + (KCC - qn S) ≤ KCC - qn S from hlg.cm), (show 0 + (KSC - qu S) ≤ KSC - qu S from hlg.sm)⟩) hR.sS (fun q _ h => hFc q h) hFc (fun  S2 t9 H1 locs ht9 hvm9 hw9 hB9 hz9 hk9 hS => ?_)
  rcases S2 with ⟨S2, ak4⟩
  obtain ⟨hB9, dc9, ds9, hL9, hl9⟩ := hB9
  dsimp only at hw9 hB9 hl9
  rw [ht9] at hL9
  obtain ⟨hq3, hw9, hs9, hk8⟩ := hw9
  have hw8 := hR.w
  have hak := hak.tr hk8 hlg.2.2.1
  have hE := hE.ad hk8
  have hR : RepC g ak4 A s S2 H1 locs := hR.callH ht9 hB9 hw9 hS hFc
  have hsh := hsh.tr hs9
  refine W_tight2 (hL0.tr hL9).1 (hL0.tr hL9).2.1 ?_
  have hlg := hlg.call hl9
  replace h := h  S2 hq3 hw9 hs9
  have ea_0 : ak4 25 = ad 25 := hk8 _ (hw8.hd (hw8.2.1 _ finC_28).2.1 (by decide) (by decide))
  have hl : lv_has ls 3 [(0, .ref (ak4 25)), (1, .long y1)] := by simp only [ea_0]; exact hl
  clear hB9 hz9 hk9 hvm9 ht9 hw9 hs9 hS hL0 hL9
  generalize H1 = H at hR ⊢
  generalize dc9 = dc_ak4, ds9 = ds_ak4 at hlg ⊢
  refine lv_aload_n hx hb dX11_longEntry_5 rfl (lv_at hl 0 rfl) ?_
  refine va_get (D := rD g) (ci := 10) (v := .ref (ak4 30)) (C := RX11) (T := TX11) (N := 18) hx hb hts inX11 hown hR.K hR.P 25 (hR.at50 (hR.w.2.1 _ finC_28).2.1) rfl 2 (by decide) (hts _ kw_139) (fun _ h9 => h9) (congrArg (fun z => some (vf ak4 z)) (hR.w.2.1 _ finC_14).1) dX11_longEntry_6 ?_
  refine lv_lload_n hx hb dX11_longEntry_9 rfl (lv_at hl 1 rfl) ?_
  refine lv_bipush (v := 32) hx hb dX11_longEntry_10 (by decide) ?_
  refine lv_lshr (v := (y1 >>> ((32 : Int32).toInt64 &&& 63))) hx hb dX11_longEntry_12 rfl ?_
  refine lv_l2i (v := ((y1 >>> ((32 : Int32).toInt64 &&& 63)).toInt32)) hx hb dX11_longEntry_13 rfl ?_
  replace h := h ((hR.w.2.1 _ finC_14).2.1)
  obtain ⟨Q5, h0, h⟩ := h
  have hFc := cfree hR hA
  refine W_led2 (fun hL0 => ?_)
  refine va_callv (va_runV (As := [.int ((y1 >>> ((32 : Int32).toInt64 &&& 63)).toInt32)]) (rest := []) ⟨hx, hb, hml, hown, hts⟩ (rX0_put4 l g ak4 H S2 30 ((y1 >>> ((32 : Int32).toInt64 &&& 63)).toInt32) hR.w (hR.w.2.1 _ finC_14).2.1 Q5 h0) (cwV 1 hts (gd_V kw_98 kw_21 kw_22 kw_3 kw_20) rfl rfl rfl (by decide +kernel) ⟨Nat.le_of_ble_eq_true rfl, Nat.le_of_ble_eq_true rfl⟩) ⟨cblindH, va_recv hR.K hR.P (ci := 0) (q0 := 30) rfl (hR.at40 (hR.w.2.1 _ finC_14).2.1), fun U hU hW9 => cmkH hU hW9 hR hex hE hFc⟩ rfl rfl hl.1 rfl (lv_room (Nat.le_of_ble_eq_true rfl)) dX11_longEntry_14 ⟨(show 0 + dc_ak4 + (KCC - qn S2) ≤ KCC - qn S from hlg.cm), (show 0 + ds_ak4 + (KSC - qu S2) ≤ KSC - qu S from hlg.sm)⟩) hR.sS (fun q _ h => hFc q h) hFc (fun  S6 t9 H1 locs ht9 hvm9 hw9 hB9 hz9 hk9 hS => ?_)
  rcases S6 with ⟨S6, ak8⟩
  obtain ⟨hB9, dc9, ds9, hL9, hl9⟩ := hB9
  dsimp only at hw9 hB9 hl9
  rw [ht9] at hL9
  obtain ⟨hq7, hw9, hs9, hk8⟩ := hw9
  have hw8 := hR.w
  have hak := hak.tr hk8 hlg.2.2.1
  have hE := hE.ad hk8
  have hR : RepC g ak8 A s S6 H1 locs := hR.callH ht9 hB9 hw9 hS hFc
  have hsh := hsh.tr hs9
  refine W_tight2 (hL0.tr hL9).1 (hL0.tr hL9).2.1 ?_
  have hlg := hlg.call hl9
  replace h := h  S6 hq7 hw9 hs9
  have ea_0 : ak8 25 = ak4 25 := hk8 _ (hw8.hd (hw8.2.1 _ finC_28).2.1 (by decide) (by decide))
  have hl : lv_has ls 3 [(0, .ref (ak8 25)), (1, .long y1)] := by simp only [ea_0]; exact hl
  clear hB9 hz9 hk9 hvm9 ht9 hw9 hs9 hS hL0 hL9
  generalize H1 = H at hR ⊢
  generalize dc9 = dc_ak8, ds9 = ds_ak8 at hlg ⊢
  refine lv_aload_n hx hb dX11_longEntry_17 rfl (lv_at hl 0 rfl) ?_
  refine va_get (D := rD g) (ci := 10) (v := .ref (ak8 30)) (C := RX11) (T := TX11) (N := 18) hx hb hts inX11 hown hR.K hR.P 25 (hR.at50 (hR.w.2.1 _ finC_28).2.1) rfl 2 (by decide) (hts _ kw_139) (fun _ h9 => h9) (congrArg (fun z => some (vf ak8 z)) (hR.w.2.1 _ finC_14).1) dX11_longEntry_18 ?_
  refine lv_lload_n hx hb dX11_longEntry_21 rfl (lv_at hl 1 rfl) ?_
  refine lv_l2i (v := (y1.toInt32)) hx hb dX11_longEntry_22 rfl ?_
  replace h := h ((hR.w.2.1 _ finC_14).2.1)
  obtain ⟨Q9, h0, h⟩ := h
  have hFc := cfree hR hA
  refine W_led2 (fun hL0 => ?_)
  refine va_callv (va_runV (As := [.int (y1.toInt32)]) (rest := []) ⟨hx, hb, hml, hown, hts⟩ (rX0_put4 l g ak8 H S6 30 (y1.toInt32) hR.w (hR.w.2.1 _ finC_14).2.1 Q9 h0) (cwV 1 hts (gd_V kw_98 kw_21 kw_22 kw_3 kw_20) rfl rfl rfl (by decide +kernel) ⟨Nat.le_of_ble_eq_true rfl, Nat.le_of_ble_eq_true rfl⟩) ⟨cblindH, va_recv hR.K hR.P (ci := 0) (q0 := 30) rfl (hR.at40 (hR.w.2.1 _ finC_14).2.1), fun U hU hW9 => cmkH hU hW9 hR hex hE hFc⟩ rfl rfl hl.1 rfl (lv_room (Nat.le_of_ble_eq_true rfl)) dX11_longEntry_23 ⟨(show 0 + dc_ak4 + dc_ak8 + (KCC - qn S6) ≤ KCC - qn S from hlg.cm), (show 0 + ds_ak4 + ds_ak8 + (KSC - qu S6) ≤ KSC - qu S from hlg.sm)⟩) hR.sS (fun q _ h => hFc q h) hFc (fun  S10 t9 H1 locs ht9 hvm9 hw9 hB9 hz9 hk9 hS => ?_)
  rcases S10 with ⟨S10, ak12⟩
  obtain ⟨hB9, dc9, ds9, hL9, hl9⟩ := hB9
  dsimp only at hw9 hB9 hl9
  rw [ht9] at hL9
  obtain ⟨hq11, hw9, hs9, hk8⟩ := hw9
  have hw8 := hR.w
  have hak := hak.tr hk8 hlg.2.2.1
  have hE := hE.ad hk8
  have hR : RepC g ak12 A s S10 H1 locs := hR.callH ht9 hB9 hw9 hS hFc
  have hsh := hsh.tr hs9
  refine W_tight2 (hL0.tr hL9).1 (hL0.tr hL9).2.1 ?_
  have hlg := hlg.call hl9
  replace h := h  S10 hq11 hw9 hs9
  have ea_0 : ak12 25 = ak8 25 := hk8 _ (hw8.hd (hw8.2.1 _ finC_28).2.1 (by decide) (by decide))
  have hl : lv_has ls 3 [(0, .ref (ak12 25)), (1, .long y1)] := by simp only [ea_0]; exact hl
  clear hB9 hz9 hk9 hvm9 ht9 hw9 hs9 hS hL0 hL9
  generalize H1 = H at hR ⊢
  generalize dc9 = dc_ak12, ds9 = ds_ak12 at hlg ⊢
  refine lv_aload_n hx hb dX11_longEntry_26 rfl (lv_at hl 0 rfl) ?_
  obtain ⟨Q13, h0, h⟩ := h
  have hFc := cfree hR hA
  refine W_led2 (fun hL0 => ?_)
  refine va_calli (va_runV (As := []) (rest := []) ⟨hx, hb, hml, hown, hts⟩ (rX11_entryOfWanted l g ak12 H S10 hR.w  Q13 h0) (cwV 0 hts (gd_V kw_141 kw_143 kw_144 kw_83 kw_142) rfl rfl rfl (by decide +kernel) ⟨Nat.le_of_ble_eq_true rfl, Nat.le_of_ble_eq_true rfl⟩) ⟨cblindH, va_recv hR.K hR.P (ci := 10) (q0 := 25) rfl (hR.at50 (hR.w.2.1 _ finC_28).2.1), fun U hU hW9 => cmkH hU hW9 hR hex hE hFc⟩ rfl rfl hl.1 rfl (lv_room (Nat.le_of_ble_eq_true rfl)) dX11_longEntry_27 ⟨(show 0 + dc_ak4 + dc_ak8 + dc_ak12 + (KCC - qn S10) ≤ KCC - qn S from hlg.cm), (show 0 + ds_ak4 + ds_ak8 + ds_ak12 + (KSC - qu S10) ≤ KSC - qu S from hlg.sm)⟩) hR.sS (fun q _ h => hFc q h) hFc (fun r14 S15 t9 H1 locs ht9 hvm9 hw9 hB9 hz9 hk9 hS => ?_)
  rcases S15 with ⟨S15, ak17⟩
  obtain ⟨hB9, dc9, ds9, hL9, hl9⟩ := hB9
  dsimp only at hw9 hB9 hl9
  rw [ht9] at hL9
  obtain ⟨hq16, hw9, hs9, hk8⟩ := hw9
  have hw8 := hR.w
  have hak := hak.tr hk8 hlg.2.2.1
  have hE := hE.ad hk8
  have hR : RepC g ak17 A s S15 H1 locs := hR.callH ht9 hB9 hw9 hS hFc
  have hsh := hsh.tr hs9
  refine W_tight2 (hL0.tr hL9).1 (hL0.tr hL9).2.1 ?_
  have hlg := hlg.call hl9
  replace h := h r14 S15 hq16 hw9 hs9
  have ea_0 : ak17 25 = ak12 25 := hk8 _ (hw8.hd (hw8.2.1 _ finC_28).2.1 (by decide) (by decide))
  have hl : lv_has ls 3 [(0, .ref (ak17 25)), (1, .long y1)] := by simp only [ea_0]; exact hl
  clear hB9 hz9 hk9 hvm9 ht9 hw9 hs9 hS hL0 hL9
  generalize H1 = H at hR ⊢
  generalize dc9 = dc_ak17, ds9 = ds_ak17 at hlg ⊢
  refine W_led2 (fun hLd => ?_)
  refine W.widen (k := KCC - qn S) (n := KSC - qu S) hlg.c hlg.s ?_
  exact W.iret (v := r14) hx hb hr (fun t9 ht9 hW9 => ⟨⟨_, (S15, ak17), rfl, ⟨h, hR.w, hsh, hak⟩, ⟨⟨by rw [ht9]; exact hR.P, hR.D⟩, _, _, by rw [ht9]; exact hLd, hlg⟩⟩, hR.sS.F ht9⟩) hR.sS.2.2 dX11_longEntry_30
def w_X11_counterEntry_J52 (Q : Int32 → MS → Prop) (U52 : MS) (v52_1 : Int32) : Prop := (wfC U52 → (qT U52 30 = 40 → (∃ Q15, wX0_put U52 30 ((48 : Int32) + (v52_1 - v52_1 / (10 : Int32) * (10 : Int32))) Q15 ∧ ∀ S16, Q15 S16 → wfC S16 → shx U52 S16 → (∃ Q19, wX11_entryOfWanted S16 Q19 ∧ ∀ r20 S21, Q19 r20 S21 → wfC S21 → shx S16 S21 → Q r20 S21))))
def w_X11_counterEntry_J20 (Q : Int32 → MS → Prop) (U20 : MS) (t20_0 : Int32) (v20_1 : Int32) : Prop := (wfC U20 → (qT U20 30 = 40 → (∃ Q5, wX0_put2 U20 30 t20_0 Q5 ∧ ∀ S6, Q5 S6 → wfC S6 → shx U20 S6 → (qT S6 30 = 40 → (∃ Q9, wX0_put S6 30 (99 : Int32) Q9 ∧ ∀ S10, Q9 S10 → wfC S10 → shx S6 S10 → ((v20_1.toInt < 10 → w_X11_counterEntry_J52 Q S10 v20_1) ∧ (¬ v20_1.toInt < 10 → (qT S10 30 = 40 → (∃ Q27, wX0_put S10 30 ((48 : Int32) + (v20_1 / (10 : Int32))) Q27 ∧ ∀ S28, Q27 S28 → wfC S28 → shx S10 S28 → w_X11_counterEntry_J52 Q S28 v20_1)))))))))
def wX11_counterEntry (S : MS) (x1 : Int32) (Q : Int32 → MS → Prop) : Prop := (∃ Q1, wX11_want S (1 : Int32) Q1 ∧ ∀ S2, Q1 S2 → wfC S2 → shx S S2 → ((10 ≤ x1.toInt → w_X11_counterEntry_J20 Q S2 3 x1) ∧ (¬ 10 ≤ x1.toInt → w_X11_counterEntry_J20 Q S2 2 x1)))
set_option maxHeartbeats 2000000 in
set_option maxRecDepth 100000 in
theorem rX11_counterEntry (l : Launch) (g : Gr) (ad : Nat → Nat) (H0 : Heap) (S : MS) (x1 : Int32) (hw : wfC S) (Q : Int32 → MS → Prop) (h : wX11_counterEntry S x1 Q) : Met l yX11_counterEntry (wt yX11_counterEntry cX11_counterEntry 2 (some .int)) ({ frames := 4, cells := KCC - qn S, slots := KSC - qu S, locals := 106 }) (va_Pc [.ref (ad 25), .int x1] (st_CH g ad H0 S)) (va_Qi (fun (r : Int32) (u : MS × (Nat → Nat)) => Q r u.1 ∧ wfC u.1 ∧ shx S u.1 ∧ adk ad u.2 S) (fun (u : MS × (Nat → Nat)) (t : State) => qEHC g (va_A (WdC g ad S) H0.size) S H0 u t) (va_A (WdC g ad S) H0.size)) (KCC - qn S) (KSC - qu S) (va_A (WdC g ad S) H0.size) := by
  refine Met.ofW (cc := cX11_counterEntry) (maxL := 2) (ret := (some .int)) (by decide) rfl ?_
  intro p e s m args below meth c s₁ B hml hv
  obtain ⟨rfl, hH0, hsz, hP, hK, hD0, hex, hE⟩ := hv
  have hx := B.exec
  have hb := B.bytes
  have hr := B.returns
  have hts0 := atoms_spec (ws := wt yX11_counterEntry cX11_counterEntry 2 (some .int)) B.pre
  have hts : ∀ w ∈ tb, w.before _ s = true := fun w h => hts0 w (List.mem_cons_of_mem _ h)
  have hown : s.vm.findClass RX11 = some m.cls := findClass_of_methodNamed B.named
  subst hH0
  have hD := hD0.self (sz := s.heap.size)
  generalize hAe : va_A (WdC g ad S) s.heap.size = A at hD hE ⊢
  have hA : ∀ q : Nat, s.heap.size ≤ q → A q := fun q h => by rw [← hAe]; exact Or.inr h
  have hR : RepC g ad A s S s.heap [] := ⟨hK, hP, hD, va_S.rf, hw⟩
  clear hK hP hD hD0
  have hl := lv_entry ([.ref (ad 25), .int x1]) (n := 2) (Nat.le_of_ble_eq_true rfl)
  rw [lg_entry_eq]
  generalize (lg_sl ([.ref (ad 25), .int x1]) ++ List.replicate (2 - (lg_sl ([.ref (ad 25), .int x1])).length) Slot.unset).toArray = ls at hl ⊢
  have hlg : lgC S S 0 0 := lgC.rf
  have hak : adk ad ad S := adk.rf
  have hl : lv_has ls 2 [(0, .ref (ad 25)), (1, .int x1)] := hl
  have hsh : shx S S := shx.rf
  unfold wX11_counterEntry at h
  refine lv_aload_n hx hb dX11_counterEntry_0 rfl (lv_at hl 0 rfl) ?_
  refine lv_iconst (v := 1) hx hb dX11_counterEntry_1 (by decide) ?_
  obtain ⟨Q1, h0, h⟩ := h
  have hFc := cfree hR hA
  refine W_led2 (fun hL0 => ?_)
  refine va_callv (va_runV (As := [.int 1]) (rest := []) ⟨hx, hb, hml, hown, hts⟩ (rX11_want l g ad s.heap S (1 : Int32) hR.w  Q1 h0) (cwV 1 hts (gd_V kw_138 kw_275 kw_276 kw_83 kw_274) rfl rfl rfl (by decide +kernel) ⟨Nat.le_of_ble_eq_true rfl, Nat.le_of_ble_eq_true rfl⟩) ⟨cblindH, va_recv hR.K hR.P (ci := 10) (q0 := 25) rfl (hR.at50 (hR.w.2.1 _ finC_28).2.1), fun U hU hW9 => cmkH hU hW9 hR hex hE hFc⟩ rfl rfl hl.1 rfl (lv_room (Nat.le_of_ble_eq_true rfl)) dX11_counterEntry_2 ⟨(show 0 + (KCC - qn S) ≤ KCC - qn S from hlg.cm), (show 0 + (KSC - qu S) ≤ KSC - qu S from hlg.sm)⟩) hR.sS (fun q _ h => hFc q h) hFc (fun  S2 t9 H1 locs ht9 hvm9 hw9 hB9 hz9 hk9 hS => ?_)
  rcases S2 with ⟨S2, ak4⟩
  obtain ⟨hB9, dc9, ds9, hL9, hl9⟩ := hB9
  dsimp only at hw9 hB9 hl9
  rw [ht9] at hL9
  obtain ⟨hq3, hw9, hs9, hk8⟩ := hw9
  have hw8 := hR.w
  have hak := hak.tr hk8 hlg.2.2.1
  have hE := hE.ad hk8
  have hR : RepC g ak4 A s S2 H1 locs := hR.callH ht9 hB9 hw9 hS hFc
  have hsh := hsh.tr hs9
  refine W_tight2 (hL0.tr hL9).1 (hL0.tr hL9).2.1 ?_
  have hlg := hlg.call hl9
  replace h := h  S2 hq3 hw9 hs9
  have ea_0 : ak4 25 = ad 25 := hk8 _ (hw8.hd (hw8.2.1 _ finC_28).2.1 (by decide) (by decide))
  have hl : lv_has ls 2 [(0, .ref (ak4 25)), (1, .int x1)] := by simp only [ea_0]; exact hl
  clear hB9 hz9 hk9 hvm9 ht9 hw9 hs9 hS hL0 hL9
  generalize H1 = H at hR ⊢
  generalize dc9 = dc_ak4, ds9 = ds_ak4 at hlg ⊢
  refine lv_aload_n hx hb dX11_counterEntry_5 rfl (lv_at hl 0 rfl) ?_
  refine va_get (D := rD g) (ci := 10) (v := .ref (ak4 30)) (C := RX11) (T := TX11) (N := 18) hx hb hts inX11 hown hR.K hR.P 25 (hR.at50 (hR.w.2.1 _ finC_28).2.1) rfl 2 (by decide) (hts _ kw_139) (fun _ h9 => h9) (congrArg (fun z => some (vf ak4 z)) (hR.w.2.1 _ finC_14).1) dX11_counterEntry_6 ?_
  refine lv_iload_n hx hb dX11_counterEntry_9 rfl (lv_at hl 1 rfl) ?_
  refine lv_bipush (v := 10) hx hb dX11_counterEntry_10 (by decide) ?_
  have J_20 : ∀ (ad20 : Nat → Nat) (dc20 ds20 : Nat) (U20 : MS) (t20_0 : Int32) (v20_1 : Int32) (H : Heap) (locs : List Loc) (ls : Array Slot), w_X11_counterEntry_J20 Q U20 t20_0 v20_1 → shx S U20 → lgC S U20 dc20 ds20 → adk ad ad20 S → ogC ad20 A s s.heap → RepC g ad20 A s U20 H locs → lv_has ls 2 [(0, .ref (ad20 25)), (1, .int v20_1)] → W p l e (headSpec (wt yX11_counterEntry cX11_counterEntry 2 (some .int)) ({ frames := 4, cells := KCC - qn S, slots := KSC - qu S, locals := 106 })).room s m ([.ref (ad 25), .int x1] : List Value).toArray below meth c H locs dc20 ds20 (MQ below (va_Qi (fun (r : Int32) (u : MS × (Nat → Nat)) => Q r u.1 ∧ wfC u.1 ∧ shx S u.1 ∧ adk ad u.2 S) (fun (u : MS × (Nat → Nat)) (t : State) => qEHC g A S s.heap u t) A) ([.ref (ad 25), .int x1] : List Value).toArray s (KCC - qn S) (KSC - qu S) A) (F0 m 20 ls [.int t20_0, .ref (ad20 30)]) := by
    intro ad20 dc20 ds20 U20 t20_0 v20_1 H locs ls h hsh hlg hak hE hR hl
    unfold w_X11_counterEntry_J20 at h
    replace h := h hR.w
    replace h := h ((hR.w.2.1 _ finC_14).2.1)
    obtain ⟨Q5, h0, h⟩ := h
    have hFc := cfree hR hA
    refine W_led2 (fun hL0 => ?_)
    refine va_callv (va_runV (As := [.int t20_0]) (rest := []) ⟨hx, hb, hml, hown, hts⟩ (rX0_put2 l g ad20 H U20 30 t20_0 hR.w (hR.w.2.1 _ finC_14).2.1 Q5 h0) (cwV 1 hts (gd_V kw_96 kw_17 kw_18 kw_3 kw_16) rfl rfl rfl (by decide +kernel) ⟨Nat.le_of_ble_eq_true rfl, Nat.le_of_ble_eq_true rfl⟩) ⟨cblindH, va_recv hR.K hR.P (ci := 0) (q0 := 30) rfl (hR.at40 (hR.w.2.1 _ finC_14).2.1), fun U hU hW9 => cmkH hU hW9 hR hex hE hFc⟩ rfl rfl hl.1 rfl (lv_room (Nat.le_of_ble_eq_true rfl)) dX11_counterEntry_20 ⟨(show dc20 + (KCC - qn U20) ≤ KCC - qn S from hlg.cm), (show ds20 + (KSC - qu U20) ≤ KSC - qu S from hlg.sm)⟩) hR.sS (fun q _ h => hFc q h) hFc (fun  S6 t9 H1 locs ht9 hvm9 hw9 hB9 hz9 hk9 hS => ?_)
    rcases S6 with ⟨S6, ak8⟩
    obtain ⟨hB9, dc9, ds9, hL9, hl9⟩ := hB9
    dsimp only at hw9 hB9 hl9
    rw [ht9] at hL9
    obtain ⟨hq7, hw9, hs9, hk8⟩ := hw9
    have hw8 := hR.w
    have hak := hak.tr hk8 hlg.2.2.1
    have hE := hE.ad hk8
    have hR : RepC g ak8 A s S6 H1 locs := hR.callH ht9 hB9 hw9 hS hFc
    have hsh := hsh.tr hs9
    refine W_tight2 (hL0.tr hL9).1 (hL0.tr hL9).2.1 ?_
    have hlg := hlg.call hl9
    replace h := h  S6 hq7 hw9 hs9
    have ea_0 : ak8 25 = ad20 25 := hk8 _ (hw8.hd (hw8.2.1 _ finC_28).2.1 (by decide) (by decide))
    have hl : lv_has ls 2 [(0, .ref (ak8 25)), (1, .int v20_1)] := by simp only [ea_0]; exact hl
    clear hB9 hz9 hk9 hvm9 ht9 hw9 hs9 hS hL0 hL9
    generalize H1 = H at hR ⊢
    generalize dc9 = dc_ak8, ds9 = ds_ak8 at hlg ⊢
    refine lv_aload_n hx hb dX11_counterEntry_23 rfl (lv_at hl 0 rfl) ?_
    refine va_get (D := rD g) (ci := 10) (v := .ref (ak8 30)) (C := RX11) (T := TX11) (N := 18) hx hb hts inX11 hown hR.K hR.P 25 (hR.at50 (hR.w.2.1 _ finC_28).2.1) rfl 2 (by decide) (hts _ kw_139) (fun _ h9 => h9) (congrArg (fun z => some (vf ak8 z)) (hR.w.2.1 _ finC_14).1) dX11_counterEntry_24 ?_
    refine lv_bipush (v := 99) hx hb dX11_counterEntry_27 (by decide) ?_
    replace h := h ((hR.w.2.1 _ finC_14).2.1)
    obtain ⟨Q9, h0, h⟩ := h
    have hFc := cfree hR hA
    refine W_led2 (fun hL0 => ?_)
    refine va_callv (va_runV (As := [.int 99]) (rest := []) ⟨hx, hb, hml, hown, hts⟩ (rX0_put l g ak8 H S6 30 (99 : Int32) hR.w (hR.w.2.1 _ finC_14).2.1 Q9 h0) (cwV 1 hts (gd_V kw_140 kw_13 kw_14 kw_3 kw_12) rfl rfl rfl (by decide +kernel) ⟨Nat.le_of_ble_eq_true rfl, Nat.le_of_ble_eq_true rfl⟩) ⟨cblindH, va_recv hR.K hR.P (ci := 0) (q0 := 30) rfl (hR.at40 (hR.w.2.1 _ finC_14).2.1), fun U hU hW9 => cmkH hU hW9 hR hex hE hFc⟩ rfl rfl hl.1 rfl (lv_room (Nat.le_of_ble_eq_true rfl)) dX11_counterEntry_29 ⟨(show dc20 + dc_ak8 + (KCC - qn S6) ≤ KCC - qn S from hlg.cm), (show ds20 + ds_ak8 + (KSC - qu S6) ≤ KSC - qu S from hlg.sm)⟩) hR.sS (fun q _ h => hFc q h) hFc (fun  S10 t9 H1 locs ht9 hvm9 hw9 hB9 hz9 hk9 hS => ?_)
    rcases S10 with ⟨S10, ak12⟩
    obtain ⟨hB9, dc9, ds9, hL9, hl9⟩ := hB9
    dsimp only at hw9 hB9 hl9
    rw [ht9] at hL9
    obtain ⟨hq11, hw9, hs9, hk8⟩ := hw9
    have hw8 := hR.w
    have hak := hak.tr hk8 hlg.2.2.1
    have hE := hE.ad hk8
    have hR : RepC g ak12 A s S10 H1 locs := hR.callH ht9 hB9 hw9 hS hFc
    have hsh := hsh.tr hs9
    refine W_tight2 (hL0.tr hL9).1 (hL0.tr hL9).2.1 ?_
    have hlg := hlg.call hl9
    replace h := h  S10 hq11 hw9 hs9
    have ea_0 : ak12 25 = ak8 25 := hk8 _ (hw8.hd (hw8.2.1 _ finC_28).2.1 (by decide) (by decide))
    have hl : lv_has ls 2 [(0, .ref (ak12 25)), (1, .int v20_1)] := by simp only [ea_0]; exact hl
    clear hB9 hz9 hk9 hvm9 ht9 hw9 hs9 hS hL0 hL9
    generalize H1 = H at hR ⊢
    generalize dc9 = dc_ak12, ds9 = ds_ak12 at hlg ⊢
    refine lv_iload_n hx hb dX11_counterEntry_32 rfl (lv_at hl 1 rfl) ?_
    refine lv_bipush (v := 10) hx hb dX11_counterEntry_33 (by decide) ?_
    have J_52 : ∀ (ad52 : Nat → Nat) (dc52 ds52 : Nat) (U52 : MS) (v52_1 : Int32) (H : Heap) (locs : List Loc) (ls : Array Slot), w_X11_counterEntry_J52 Q U52 v52_1 → shx S U52 → lgC S U52 dc52 ds52 → adk ad ad52 S → ogC ad52 A s s.heap → RepC g ad52 A s U52 H locs → lv_has ls 2 [(0, .ref (ad52 25)), (1, .int v52_1)] → W p l e (headSpec (wt yX11_counterEntry cX11_counterEntry 2 (some .int)) ({ frames := 4, cells := KCC - qn S, slots := KSC - qu S, locals := 106 })).room s m ([.ref (ad 25), .int x1] : List Value).toArray below meth c H locs dc52 ds52 (MQ below (va_Qi (fun (r : Int32) (u : MS × (Nat → Nat)) => Q r u.1 ∧ wfC u.1 ∧ shx S u.1 ∧ adk ad u.2 S) (fun (u : MS × (Nat → Nat)) (t : State) => qEHC g A S s.heap u t) A) ([.ref (ad 25), .int x1] : List Value).toArray s (KCC - qn S) (KSC - qu S) A) (F0 m 52 ls []) := by
      intro ad52 dc52 ds52 U52 v52_1 H locs ls h hsh hlg hak hE hR hl
      unfold w_X11_counterEntry_J52 at h
      replace h := h hR.w
      refine lv_aload_n hx hb dX11_counterEntry_52 rfl (lv_at hl 0 rfl) ?_
      refine va_get (D := rD g) (ci := 10) (v := .ref (ad52 30)) (C := RX11) (T := TX11) (N := 18) hx hb hts inX11 hown hR.K hR.P 25 (hR.at50 (hR.w.2.1 _ finC_28).2.1) rfl 2 (by decide) (hts _ kw_139) (fun _ h9 => h9) (congrArg (fun z => some (vf ad52 z)) (hR.w.2.1 _ finC_14).1) dX11_counterEntry_53 ?_
      refine lv_bipush (v := 48) hx hb dX11_counterEntry_56 (by decide) ?_
      refine lv_iload_n hx hb dX11_counterEntry_58 rfl (lv_at hl 1 rfl) ?_
      refine lv_bipush (v := 10) hx hb dX11_counterEntry_59 (by decide) ?_
      refine lv_irem hx hb dX11_counterEntry_61 (by decide) ?_
      refine lv_topi (fun z13 ez13 => ?_)
      obtain rfl : z13 = (v52_1 - v52_1 / (10 : Int32) * (10 : Int32)) := ez13
      refine lv_iadd hx hb dX11_counterEntry_62 ?_
      refine lv_topi (fun z14 ez14 => ?_)
      obtain rfl : z14 = ((48 : Int32) + (v52_1 - v52_1 / (10 : Int32) * (10 : Int32))) := ez14
      replace h := h ((hR.w.2.1 _ finC_14).2.1)
      obtain ⟨Q15, h0, h⟩ := h
      have hFc := cfree hR hA
      refine W_led2 (fun hL0 => ?_)
      refine va_callv (va_runV (As := [.int ((48 : Int32) + (v52_1 - v52_1 / (10 : Int32) * (10 : Int32)))]) (rest := []) ⟨hx, hb, hml, hown, hts⟩ (rX0_put l g ad52 H U52 30 ((48 : Int32) + (v52_1 - v52_1 / (10 : Int32) * (10 : Int32))) hR.w (hR.w.2.1 _ finC_14).2.1 Q15 h0) (cwV 1 hts (gd_V kw_140 kw_13 kw_14 kw_3 kw_12) rfl rfl rfl (by decide +kernel) ⟨Nat.le_of_ble_eq_true rfl, Nat.le_of_ble_eq_true rfl⟩) ⟨cblindH, va_recv hR.K hR.P (ci := 0) (q0 := 30) rfl (hR.at40 (hR.w.2.1 _ finC_14).2.1), fun U hU hW9 => cmkH hU hW9 hR hex hE hFc⟩ rfl rfl hl.1 rfl (lv_room (Nat.le_of_ble_eq_true rfl)) dX11_counterEntry_63 ⟨(show dc52 + (KCC - qn U52) ≤ KCC - qn S from hlg.cm), (show ds52 + (KSC - qu U52) ≤ KSC - qu S from hlg.sm)⟩) hR.sS (fun q _ h => hFc q h) hFc (fun  S16 t9 H1 locs ht9 hvm9 hw9 hB9 hz9 hk9 hS => ?_)
      rcases S16 with ⟨S16, ak18⟩
      obtain ⟨hB9, dc9, ds9, hL9, hl9⟩ := hB9
      dsimp only at hw9 hB9 hl9
      rw [ht9] at hL9
      obtain ⟨hq17, hw9, hs9, hk8⟩ := hw9
      have hw8 := hR.w
      have hak := hak.tr hk8 hlg.2.2.1
      have hE := hE.ad hk8
      have hR : RepC g ak18 A s S16 H1 locs := hR.callH ht9 hB9 hw9 hS hFc
      have hsh := hsh.tr hs9
      refine W_tight2 (hL0.tr hL9).1 (hL0.tr hL9).2.1 ?_
      have hlg := hlg.call hl9
      replace h := h  S16 hq17 hw9 hs9
      have ea_0 : ak18 25 = ad52 25 := hk8 _ (hw8.hd (hw8.2.1 _ finC_28).2.1 (by decide) (by decide))
      have hl : lv_has ls 2 [(0, .ref (ak18 25)), (1, .int v52_1)] := by simp only [ea_0]; exact hl
      clear hB9 hz9 hk9 hvm9 ht9 hw9 hs9 hS hL0 hL9
      generalize H1 = H at hR ⊢
      generalize dc9 = dc_ak18, ds9 = ds_ak18 at hlg ⊢
      refine lv_aload_n hx hb dX11_counterEntry_66 rfl (lv_at hl 0 rfl) ?_
      obtain ⟨Q19, h0, h⟩ := h
      have hFc := cfree hR hA
      refine W_led2 (fun hL0 => ?_)
      refine va_calli (va_runV (As := []) (rest := []) ⟨hx, hb, hml, hown, hts⟩ (rX11_entryOfWanted l g ak18 H S16 hR.w  Q19 h0) (cwV 0 hts (gd_V kw_141 kw_143 kw_144 kw_83 kw_142) rfl rfl rfl (by decide +kernel) ⟨Nat.le_of_ble_eq_true rfl, Nat.le_of_ble_eq_true rfl⟩) ⟨cblindH, va_recv hR.K hR.P (ci := 10) (q0 := 25) rfl (hR.at50 (hR.w.2.1 _ finC_28).2.1), fun U hU hW9 => cmkH hU hW9 hR hex hE hFc⟩ rfl rfl hl.1 rfl (lv_room (Nat.le_of_ble_eq_true rfl)) dX11_counterEntry_67 ⟨(show dc52 + dc_ak18 + (KCC - qn S16) ≤ KCC - qn S from hlg.cm), (show ds52 + ds_ak18 + (KSC - qu S16) ≤ KSC - qu S from hlg.sm)⟩) hR.sS (fun q _ h => hFc q h) hFc (fun r20 S21 t9 H1 locs ht9 hvm9 hw9 hB9 hz9 hk9 hS => ?_)
      rcases S21 with ⟨S21, ak23⟩
      obtain ⟨hB9, dc9, ds9, hL9, hl9⟩ := hB9
      dsimp only at hw9 hB9 hl9
      rw [ht9] at hL9
      obtain ⟨hq22, hw9, hs9, hk8⟩ := hw9
      have hw8 := hR.w
      have hak := hak.tr hk8 hlg.2.2.1
      have hE := hE.ad hk8
      have hR : RepC g ak23 A s S21 H1 locs := hR.callH ht9 hB9 hw9 hS hFc
      have hsh := hsh.tr hs9
      refine W_tight2 (hL0.tr hL9).1 (hL0.tr hL9).2.1 ?_
      have hlg := hlg.call hl9
      replace h := h r20 S21 hq22 hw9 hs9
      have ea_0 : ak23 25 = ak18 25 := hk8 _ (hw8.hd (hw8.2.1 _ finC_28).2.1 (by decide) (by decide))
      have hl : lv_has ls 2 [(0, .ref (ak23 25)), (1, .int v52_1)] := by simp only [ea_0]; exact hl
      clear hB9 hz9 hk9 hvm9 ht9 hw9 hs9 hS hL0 hL9
      generalize H1 = H at hR ⊢
      generalize dc9 = dc_ak23, ds9 = ds_ak23 at hlg ⊢
      refine W_led2 (fun hLd => ?_)
      refine W.widen (k := KCC - qn S) (n := KSC - qu S) hlg.c hlg.s ?_
      exact W.iret (v := r20) hx hb hr (fun t9 ht9 hW9 => ⟨⟨_, (S21, ak23), rfl, ⟨h, hR.w, hsh, hak⟩, ⟨⟨by rw [ht9]; exact hR.P, hR.D⟩, _, _, by rw [ht9]; exact hLd, hlg⟩⟩, hR.sS.F ht9⟩) hR.sS.2.2 dX11_counterEntry_70
    refine lv_icmp_lt (tgt := 52) hx hb dX11_counterEntry_35 (by decide) (fun c24 => ?_) (fun c24 => ?_)
    · replace h := h.1 (k_lt rfl (by decide) c24)
      exact J_52 ak12 (dc20 + dc_ak8 + dc_ak12) (ds20 + ds_ak8 + ds_ak12) S10 v20_1 _ _ ls h  hsh hlg hak hE hR (lv_sub hl [0, 1] rfl)
    · replace h := h.2 (k_nlt rfl (by decide) c24)
      refine lv_aload_n hx hb dX11_counterEntry_38 rfl (lv_at hl 0 rfl) ?_
      refine va_get (D := rD g) (ci := 10) (v := .ref (ak12 30)) (C := RX11) (T := TX11) (N := 18) hx hb hts inX11 hown hR.K hR.P 25 (hR.at50 (hR.w.2.1 _ finC_28).2.1) rfl 2 (by decide) (hts _ kw_139) (fun _ h9 => h9) (congrArg (fun z => some (vf ak12 z)) (hR.w.2.1 _ finC_14).1) dX11_counterEntry_39 ?_
      refine lv_bipush (v := 48) hx hb dX11_counterEntry_42 (by decide) ?_
      refine lv_iload_n hx hb dX11_counterEntry_44 rfl (lv_at hl 1 rfl) ?_
      refine lv_bipush (v := 10) hx hb dX11_counterEntry_45 (by decide) ?_
      refine lv_idiv hx hb dX11_counterEntry_47 (by decide) ?_
      refine lv_topi (fun z25 ez25 => ?_)
      obtain rfl : z25 = (v20_1 / (10 : Int32)) := ez25
      refine lv_iadd hx hb dX11_counterEntry_48 ?_
      refine lv_topi (fun z26 ez26 => ?_)
      obtain rfl : z26 = ((48 : Int32) + (v20_1 / (10 : Int32))) := ez26
      replace h := h ((hR.w.2.1 _ finC_14).2.1)
      obtain ⟨Q27, h0, h⟩ := h
      have hFc := cfree hR hA
      refine W_led2 (fun hL0 => ?_)
      refine va_callv (va_runV (As := [.int ((48 : Int32) + (v20_1 / (10 : Int32)))]) (rest := []) ⟨hx, hb, hml, hown, hts⟩ (rX0_put l g ak12 H S10 30 ((48 : Int32) + (v20_1 / (10 : Int32))) hR.w (hR.w.2.1 _ finC_14).2.1 Q27 h0) (cwV 1 hts (gd_V kw_140 kw_13 kw_14 kw_3 kw_12) rfl rfl rfl (by decide +kernel) ⟨Nat.le_of_ble_eq_true rfl, Nat.le_of_ble_eq_true rfl⟩) ⟨cblindH, va_recv hR.K hR.P (ci := 0) (q0 := 30) rfl (hR.at40 (hR.w.2.1 _ finC_14).2.1), fun U hU hW9 => cmkH hU hW9 hR hex hE hFc⟩ rfl rfl hl.1 rfl (lv_room (Nat.le_of_ble_eq_true rfl)) dX11_counterEntry_49 ⟨(show dc20 + dc_ak8 + dc_ak12 + (KCC - qn S10) ≤ KCC - qn S from hlg.cm), (show ds20 + ds_ak8 + ds_ak12 + (KSC - qu S10) ≤ KSC - qu S from hlg.sm)⟩) hR.sS (fun q _ h => hFc q h) hFc (fun  S28 t9 H1 locs ht9 hvm9 hw9 hB9 hz9 hk9 hS => ?_)
      rcases S28 with ⟨S28, ak30⟩
      obtain ⟨hB9, dc9, ds9, hL9, hl9⟩ := hB9
      dsimp only at hw9 hB9 hl9
      rw [ht9] at hL9
      obtain ⟨hq29, hw9, hs9, hk8⟩ := hw9
      have hw8 := hR.w
      have hak := hak.tr hk8 hlg.2.2.1
      have hE := hE.ad hk8
      have hR : RepC g ak30 A s S28 H1 locs := hR.callH ht9 hB9 hw9 hS hFc
      have hsh := hsh.tr hs9
      refine W_tight2 (hL0.tr hL9).1 (hL0.tr hL9).2.1 ?_
      have hlg := hlg.call hl9
      replace h := h  S28 hq29 hw9 hs9
      have ea_0 : ak30 25 = ak12 25 := hk8 _ (hw8.hd (hw8.2.1 _ finC_28).2.1 (by decide) (by decide))
      have hl : lv_has ls 2 [(0, .ref (ak30 25)), (1, .int v20_1)] := by simp only [ea_0]; exact hl
      clear hB9 hz9 hk9 hvm9 ht9 hw9 hs9 hS hL0 hL9
      generalize H1 = H at hR ⊢
      generalize dc9 = dc_ak30, ds9 = ds_ak30 at hlg ⊢
      exact J_52 ak30 (dc20 + dc_ak8 + dc_ak12 + dc_ak30) (ds20 + ds_ak8 + ds_ak12 + ds_ak30) S28 v20_1 _ _ ls h  hsh hlg hak hE hR (lv_sub hl [0, 1] rfl)
  refine lv_icmp_ge (tgt := 19) hx hb dX11_counterEntry_12 (by decide) (fun c31 => ?_) (fun c31 => ?_)
  · replace h := h.1 (k_le (by decide) rfl c31)
    refine lv_iconst (v := 3) hx hb dX11_counterEntry_19 (by decide) ?_
    exact J_20 ak4 (0 + dc_ak4) (0 + ds_ak4) S2 3 x1 _ _ ls h  hsh hlg hak hE hR (lv_sub hl [0, 1] rfl)
  · replace h := h.2 (k_nle (by decide) rfl c31)
    refine lv_iconst (v := 2) hx hb dX11_counterEntry_15 (by decide) ?_
    refine lv_goto (tgt := 20) hx hb dX11_counterEntry_16 (by decide) ?_
    exact J_20 ak4 (0 + dc_ak4) (0 + ds_ak4) S2 2 x1 _ _ ls h  hsh hlg hak hE hR (lv_sub hl [0, 1] rfl)
def w_X11_fieldEntryOf_J60 (Q : Int32 → MS → Prop) (U60 : MS) (v60_1 : Int32) : Prop := (wfC U60 → (((0 : Int) ≤ v60_1.toInt ∧ v60_1.toInt < 24) ∧ Q (qI U60 36 v60_1.toInt.toNat) U60))
def wX11_fieldEntryOf (S : MS) (x1 : Int32) (Q : Int32 → MS → Prop) : Prop := ((x1.toInt < 0 → Q (0 : Int32) S) ∧ (¬ x1.toInt < 0 → ((x1.toInt < 24 → (((0 : Int) ≤ x1.toInt ∧ x1.toInt < 24) ∧ (((qI S 36 x1.toInt.toNat).toInt = 0 → (((0 : Int) ≤ x1.toInt ∧ x1.toInt < 24) ∧ (((0 : Int) ≤ x1.toInt ∧ x1.toInt < 24) ∧ (∃ Q12, wX11_pointersEntry S (12 : Int32) (qI S 34 x1.toInt.toNat) (qI S 35 x1.toInt.toNat) Q12 ∧ ∀ r13 S14, Q12 r13 S14 → wfC S14 → shx S S14 → (∃ Q17, wX11_pointersEntry S14 (9 : Int32) (qI S14 25 9) r13 Q17 ∧ ∀ r18 S19, Q17 r18 S19 → wfC S19 → shx S14 S19 → (((0 : Int) ≤ x1.toInt ∧ x1.toInt < 24) ∧ (∀ S23, S23 = wI S19 36 x1.toInt.toNat r18 → qT S19 36 = 242 → wfC S23 → w_X11_fieldEntryOf_J60 Q S23 x1))))))) ∧ (¬ (qI S 36 x1.toInt.toNat).toInt = 0 → w_X11_fieldEntryOf_J60 Q S x1)))) ∧ (¬ x1.toInt < 24 → Q (0 : Int32) S))))
set_option maxHeartbeats 2000000 in
set_option maxRecDepth 100000 in
theorem rX11_fieldEntryOf (l : Launch) (g : Gr) (ad : Nat → Nat) (H0 : Heap) (S : MS) (x1 : Int32) (hw : wfC S) (Q : Int32 → MS → Prop) (h : wX11_fieldEntryOf S x1 Q) : Met l yX11_fieldEntryOf (wt yX11_fieldEntryOf cX11_fieldEntryOf 3 (some .int)) ({ frames := 5, cells := KCC - qn S, slots := KSC - qu S, locals := 129 }) (va_Pc [.ref (ad 25), .int x1] (st_CH g ad H0 S)) (va_Qi (fun (r : Int32) (u : MS × (Nat → Nat)) => Q r u.1 ∧ wfC u.1 ∧ shx S u.1 ∧ adk ad u.2 S) (fun (u : MS × (Nat → Nat)) (t : State) => qEHC g (va_A (WdC g ad S) H0.size) S H0 u t) (va_A (WdC g ad S) H0.size)) (KCC - qn S) (KSC - qu S) (va_A (WdC g ad S) H0.size) := by
  refine Met.ofW (cc := cX11_fieldEntryOf) (maxL := 3) (ret := (some .int)) (by decide) rfl ?_
  intro p e s m args below meth c s₁ B hml hv
  obtain ⟨rfl, hH0, hsz, hP, hK, hD0, hex, hE⟩ := hv
  have hx := B.exec
  have hb := B.bytes
  have hr := B.returns
  have hts0 := atoms_spec (ws := wt yX11_fieldEntryOf cX11_fieldEntryOf 3 (some .int)) B.pre
  have hts : ∀ w ∈ tb, w.before _ s = true := fun w h => hts0 w (List.mem_cons_of_mem _ h)
  have hown : s.vm.findClass RX11 = some m.cls := findClass_of_methodNamed B.named
  subst hH0
  have hD := hD0.self (sz := s.heap.size)
  generalize hAe : va_A (WdC g ad S) s.heap.size = A at hD hE ⊢
  have hA : ∀ q : Nat, s.heap.size ≤ q → A q := fun q h => by rw [← hAe]; exact Or.inr h
  have hR : RepC g ad A s S s.heap [] := ⟨hK, hP, hD, va_S.rf, hw⟩
  clear hK hP hD hD0
  have hl := lv_entry ([.ref (ad 25), .int x1]) (n := 3) (Nat.le_of_ble_eq_true rfl)
  rw [lg_entry_eq]
  generalize (lg_sl ([.ref (ad 25), .int x1]) ++ List.replicate (3 - (lg_sl ([.ref (ad 25), .int x1])).length) Slot.unset).toArray = ls at hl ⊢
  have hlg : lgC S S 0 0 := lgC.rf
  have hak : adk ad ad S := adk.rf
  have hl : lv_has ls 3 [(0, .ref (ad 25)), (1, .int x1)] := hl
  have hsh : shx S S := shx.rf
  unfold wX11_fieldEntryOf at h
  refine lv_iload_n hx hb dX11_fieldEntryOf_0 rfl (lv_at hl 1 rfl) ?_
  refine lv_if_lt (tgt := 13) hx hb dX11_fieldEntryOf_1 (by decide) (fun c1 => ?_) (fun c1 => ?_)
  · replace h := h.1 (k_lt rfl (by decide) c1)
    refine lv_iconst (v := 0) hx hb dX11_fieldEntryOf_13 (by decide) ?_
    refine W_led2 (fun hLd => ?_)
    refine W.widen (k := KCC - qn S) (n := KSC - qu S) hlg.c hlg.s ?_
    exact W.iret (v := 0) hx hb hr (fun t9 ht9 hW9 => ⟨⟨_, (S, ad), rfl, ⟨h, hR.w, hsh, hak⟩, ⟨⟨by rw [ht9]; exact hR.P, hR.D⟩, _, _, by rw [ht9]; exact hLd, hlg⟩⟩, hR.sS.F ht9⟩) hR.sS.2.2 dX11_fieldEntryOf_14
  · replace h := h.2 (k_nlt rfl (by decide) c1)
    refine lv_iload_n hx hb dX11_fieldEntryOf_4 rfl (lv_at hl 1 rfl) ?_
    refine lv_aload_n hx hb dX11_fieldEntryOf_5 rfl (lv_at hl 0 rfl) ?_
    refine va_get (D := rD g) (ci := 10) (v := .ref (ad 36)) (C := RX11) (T := TX11) (N := 18) hx hb hts inX11 hown hR.K hR.P 25 (hR.at50 (hR.w.2.1 _ finC_28).2.1) rfl 12 (by decide) (hts _ kw_116) (fun _ h9 => h9) (congrArg (fun z => some (vf ad z)) (hR.w.2.1 _ finC_19).1) dX11_fieldEntryOf_6 ?_
    refine va_alen (v := 24) hx hb hR.K hR.P 36 1 (hR.atI (hR.w.2.1 _ finC_19).2.1 (by decide)) rfl (by rw [(hR.w.2.1 _ finC_19).2.2]; rfl) dX11_fieldEntryOf_9 ?_
    refine lv_icmp_lt (tgt := 15) hx hb dX11_fieldEntryOf_10 (by decide) (fun c2 => ?_) (fun c2 => ?_)
    · replace h := h.1 (k_lt rfl (by decide) c2)
      refine lv_aload_n hx hb dX11_fieldEntryOf_15 rfl (lv_at hl 0 rfl) ?_
      refine va_get (D := rD g) (ci := 10) (v := .ref (ad 36)) (C := RX11) (T := TX11) (N := 18) hx hb hts inX11 hown hR.K hR.P 25 (hR.at50 (hR.w.2.1 _ finC_28).2.1) rfl 12 (by decide) (hts _ kw_116) (fun _ h9 => h9) (congrArg (fun z => some (vf ad z)) (hR.w.2.1 _ finC_19).1) dX11_fieldEntryOf_16 ?_
      refine lv_iload_n hx hb dX11_fieldEntryOf_19 rfl (lv_at hl 1 rfl) ?_
      obtain ⟨hv3, h⟩ := h
      refine va_iald hx hb hR.K hR.P 36 1 (hR.atI (hR.w.2.1 _ finC_19).2.1 (by decide)) rfl (k_ixN (k_ix (n := 24) (x := x1) (a := x1.toInt) rfl hv3) (hR.w.2.1 _ finC_19).2.2) dX11_fieldEntryOf_20 ?_
      refine lv_topi (fun z4 ez4 => ?_)
      obtain rfl : z4 = (qI S 36 x1.toInt.toNat) := ez4
      have J_60 : ∀ (ad60 : Nat → Nat) (dc60 ds60 : Nat) (U60 : MS) (v60_1 : Int32) (H : Heap) (locs : List Loc) (ls : Array Slot), w_X11_fieldEntryOf_J60 Q U60 v60_1 → shx S U60 → lgC S U60 dc60 ds60 → adk ad ad60 S → ogC ad60 A s s.heap → RepC g ad60 A s U60 H locs → lv_has ls 3 [(0, .ref (ad60 25)), (1, .int v60_1)] → W p l e (headSpec (wt yX11_fieldEntryOf cX11_fieldEntryOf 3 (some .int)) ({ frames := 5, cells := KCC - qn S, slots := KSC - qu S, locals := 129 })).room s m ([.ref (ad 25), .int x1] : List Value).toArray below meth c H locs dc60 ds60 (MQ below (va_Qi (fun (r : Int32) (u : MS × (Nat → Nat)) => Q r u.1 ∧ wfC u.1 ∧ shx S u.1 ∧ adk ad u.2 S) (fun (u : MS × (Nat → Nat)) (t : State) => qEHC g A S s.heap u t) A) ([.ref (ad 25), .int x1] : List Value).toArray s (KCC - qn S) (KSC - qu S) A) (F0 m 60 ls []) := by
        intro ad60 dc60 ds60 U60 v60_1 H locs ls h hsh hlg hak hE hR hl
        unfold w_X11_fieldEntryOf_J60 at h
        replace h := h hR.w
        refine lv_aload_n hx hb dX11_fieldEntryOf_60 rfl (lv_at hl 0 rfl) ?_
        refine va_get (D := rD g) (ci := 10) (v := .ref (ad60 36)) (C := RX11) (T := TX11) (N := 18) hx hb hts inX11 hown hR.K hR.P 25 (hR.at50 (hR.w.2.1 _ finC_28).2.1) rfl 12 (by decide) (hts _ kw_116) (fun _ h9 => h9) (congrArg (fun z => some (vf ad60 z)) (hR.w.2.1 _ finC_19).1) dX11_fieldEntryOf_61 ?_
        refine lv_iload_n hx hb dX11_fieldEntryOf_64 rfl (lv_at hl 1 rfl) ?_
        obtain ⟨hv5, h⟩ := h
        refine va_iald hx hb hR.K hR.P 36 1 (hR.atI (hR.w.2.1 _ finC_19).2.1 (by decide)) rfl (k_ixN (k_ix (n := 24) (x := v60_1) (a := v60_1.toInt) rfl hv5) (hR.w.2.1 _ finC_19).2.2) dX11_fieldEntryOf_65 ?_
        refine lv_topi (fun z6 ez6 => ?_)
        obtain rfl : z6 = (qI U60 36 v60_1.toInt.toNat) := ez6
        refine W_led2 (fun hLd => ?_)
        refine W.widen (k := KCC - qn S) (n := KSC - qu S) hlg.c hlg.s ?_
        exact W.iret (v := (qI U60 36 v60_1.toInt.toNat)) hx hb hr (fun t9 ht9 hW9 => ⟨⟨_, (U60, ad60), rfl, ⟨h, hR.w, hsh, hak⟩, ⟨⟨by rw [ht9]; exact hR.P, hR.D⟩, _, _, by rw [ht9]; exact hLd, hlg⟩⟩, hR.sS.F ht9⟩) hR.sS.2.2 dX11_fieldEntryOf_66
      refine lv_if_ne (tgt := 60) hx hb dX11_fieldEntryOf_21 (by decide) (fun c7 => ?_) (fun c7 => ?_)
      · replace h := h.2 (k_ne rfl (by decide) c7)
        exact J_60 ad (0) (0) S x1 _ _ ls h  hsh hlg hak hE hR (lv_sub hl [0, 1] rfl)
      · replace h := h.1 (k_eq rfl (by decide) c7)
        refine lv_aload_n hx hb dX11_fieldEntryOf_24 rfl (lv_at hl 0 rfl) ?_
        refine lv_bipush (v := 12) hx hb dX11_fieldEntryOf_25 (by decide) ?_
        refine lv_aload_n hx hb dX11_fieldEntryOf_27 rfl (lv_at hl 0 rfl) ?_
        refine va_get (D := rD g) (ci := 10) (v := .ref (ad 34)) (C := RX11) (T := TX11) (N := 18) hx hb hts inX11 hown hR.K hR.P 25 (hR.at50 (hR.w.2.1 _ finC_28).2.1) rfl 10 (by decide) (hts _ kw_126) (fun _ h9 => h9) (congrArg (fun z => some (vf ad z)) (hR.w.2.1 _ finC_17).1) dX11_fieldEntryOf_28 ?_
        refine lv_iload_n hx hb dX11_fieldEntryOf_31 rfl (lv_at hl 1 rfl) ?_
        obtain ⟨hv8, h⟩ := h
        refine va_iald hx hb hR.K hR.P 34 1 (hR.atI (hR.w.2.1 _ finC_17).2.1 (by decide)) rfl (k_ixN (k_ix (n := 24) (x := x1) (a := x1.toInt) rfl hv8) (hR.w.2.1 _ finC_17).2.2) dX11_fieldEntryOf_32 ?_
        refine lv_topi (fun z9 ez9 => ?_)
        obtain rfl : z9 = (qI S 34 x1.toInt.toNat) := ez9
        refine lv_aload_n hx hb dX11_fieldEntryOf_33 rfl (lv_at hl 0 rfl) ?_
        refine va_get (D := rD g) (ci := 10) (v := .ref (ad 35)) (C := RX11) (T := TX11) (N := 18) hx hb hts inX11 hown hR.K hR.P 25 (hR.at50 (hR.w.2.1 _ finC_28).2.1) rfl 11 (by decide) (hts _ kw_128) (fun _ h9 => h9) (congrArg (fun z => some (vf ad z)) (hR.w.2.1 _ finC_18).1) dX11_fieldEntryOf_34 ?_
        refine lv_iload_n hx hb dX11_fieldEntryOf_37 rfl (lv_at hl 1 rfl) ?_
        obtain ⟨hv10, h⟩ := h
        refine va_iald hx hb hR.K hR.P 35 1 (hR.atI (hR.w.2.1 _ finC_18).2.1 (by decide)) rfl (k_ixN (k_ix (n := 24) (x := x1) (a := x1.toInt) rfl hv10) (hR.w.2.1 _ finC_18).2.2) dX11_fieldEntryOf_38 ?_
        refine lv_topi (fun z11 ez11 => ?_)
        obtain rfl : z11 = (qI S 35 x1.toInt.toNat) := ez11
        obtain ⟨Q12, h0, h⟩ := h
        have hFc := cfree hR hA
        refine W_led2 (fun hL0 => ?_)
        refine va_calli (va_runV (As := [.int 12, .int (qI S 34 x1.toInt.toNat), .int (qI S 35 x1.toInt.toNat)]) (rest := []) ⟨hx, hb, hml, hown, hts⟩ (rX11_pointersEntry l g ad s.heap S (12 : Int32) (qI S 34 x1.toInt.toNat) (qI S 35 x1.toInt.toNat) hR.w  Q12 h0) (cwV 3 hts (gd_V kw_153 kw_234 kw_235 kw_83 kw_233) rfl rfl rfl (by decide +kernel) ⟨Nat.le_of_ble_eq_true rfl, Nat.le_of_ble_eq_true rfl⟩) ⟨cblindH, va_recv hR.K hR.P (ci := 10) (q0 := 25) rfl (hR.at50 (hR.w.2.1 _ finC_28).2.1), fun U hU hW9 => cmkH hU hW9 hR hex hE hFc⟩ rfl rfl hl.1 rfl (lv_room (Nat.le_of_ble_eq_true rfl)) dX11_fieldEntryOf_39 ⟨(show 0 + (KCC - qn S) ≤ KCC - qn S from hlg.cm), (show 0 + (KSC - qu S) ≤ KSC - qu S from hlg.sm)⟩) hR.sS (fun q _ h => hFc q h) hFc (fun r13 S14 t9 H1 locs ht9 hvm9 hw9 hB9 hz9 hk9 hS => ?_)
        rcases S14 with ⟨S14, ak16⟩
        obtain ⟨hB9, dc9, ds9, hL9, hl9⟩ := hB9
        dsimp only at hw9 hB9 hl9
        rw [ht9] at hL9
        obtain ⟨hq15, hw9, hs9, hk8⟩ := hw9
        have hw8 := hR.w
        have hak := hak.tr hk8 hlg.2.2.1
        have hE := hE.ad hk8
        have hR : RepC g ak16 A s S14 H1 locs := hR.callH ht9 hB9 hw9 hS hFc
        have hsh := hsh.tr hs9
        refine W_tight2 (hL0.tr hL9).1 (hL0.tr hL9).2.1 ?_
        have hlg := hlg.call hl9
        replace h := h r13 S14 hq15 hw9 hs9
        have ea_0 : ak16 25 = ad 25 := hk8 _ (hw8.hd (hw8.2.1 _ finC_28).2.1 (by decide) (by decide))
        have hl : lv_has ls 3 [(0, .ref (ak16 25)), (1, .int x1)] := by simp only [ea_0]; exact hl
        clear hB9 hz9 hk9 hvm9 ht9 hw9 hs9 hS hL0 hL9
        generalize H1 = H at hR ⊢
        generalize dc9 = dc_ak16, ds9 = ds_ak16 at hlg ⊢
        refine lv_istore_n (lv' := [(2, .int r13), (0, .ref (ak16 25)), (1, .int x1)]) hx hb dX11_fieldEntryOf_42 rfl hl (by decide) rfl (fun ls hl => ?_)
        refine lv_aload_n hx hb dX11_fieldEntryOf_43 rfl (lv_at hl 1 rfl) ?_
        refine va_get (D := rD g) (ci := 10) (v := .ref (ak16 36)) (C := RX11) (T := TX11) (N := 18) hx hb hts inX11 hown hR.K hR.P 25 (hR.at50 (hR.w.2.1 _ finC_28).2.1) rfl 12 (by decide) (hts _ kw_116) (fun _ h9 => h9) (congrArg (fun z => some (vf ak16 z)) (hR.w.2.1 _ finC_19).1) dX11_fieldEntryOf_44 ?_
        refine lv_iload_n hx hb dX11_fieldEntryOf_47 rfl (lv_at hl 2 rfl) ?_
        refine lv_aload_n hx hb dX11_fieldEntryOf_48 rfl (lv_at hl 1 rfl) ?_
        refine lv_bipush (v := 9) hx hb dX11_fieldEntryOf_49 (by decide) ?_
        refine lv_aload_n hx hb dX11_fieldEntryOf_51 rfl (lv_at hl 1 rfl) ?_
        refine va_get (D := rD g) (ci := 10) (v := .int (qI S14 25 9)) (C := RX11) (T := TX11) (N := 18) hx hb hts inX11 hown hR.K hR.P 25 (hR.at50 (hR.w.2.1 _ finC_28).2.1) rfl 9 (by decide) (hts _ kw_122) (fun _ h9 => h9) rfl dX11_fieldEntryOf_52 ?_
        refine lv_iload_n hx hb dX11_fieldEntryOf_55 rfl (lv_at hl 0 rfl) ?_
        obtain ⟨Q17, h0, h⟩ := h
        have hFc := cfree hR hA
        refine W_led2 (fun hL0 => ?_)
        refine va_calli (va_runV (As := [.int 9, .int (qI S14 25 9), .int r13]) (rest := [.int x1, .ref (ak16 36)]) ⟨hx, hb, hml, hown, hts⟩ (rX11_pointersEntry l g ak16 H S14 (9 : Int32) (qI S14 25 9) r13 hR.w  Q17 h0) (cwV 3 hts (gd_V kw_153 kw_234 kw_235 kw_83 kw_233) rfl rfl rfl (by decide +kernel) ⟨Nat.le_of_ble_eq_true rfl, Nat.le_of_ble_eq_true rfl⟩) ⟨cblindH, va_recv hR.K hR.P (ci := 10) (q0 := 25) rfl (hR.at50 (hR.w.2.1 _ finC_28).2.1), fun U hU hW9 => cmkH hU hW9 hR hex hE hFc⟩ rfl rfl hl.1 rfl (lv_room (Nat.le_of_ble_eq_true rfl)) dX11_fieldEntryOf_56 ⟨(show 0 + dc_ak16 + (KCC - qn S14) ≤ KCC - qn S from hlg.cm), (show 0 + ds_ak16 + (KSC - qu S14) ≤ KSC - qu S from hlg.sm)⟩) hR.sS (fun q _ h => hFc q h) hFc (fun r18 S19 t9 H1 locs ht9 hvm9 hw9 hB9 hz9 hk9 hS => ?_)
        rcases S19 with ⟨S19, ak21⟩
        obtain ⟨hB9, dc9, ds9, hL9, hl9⟩ := hB9
        dsimp only at hw9 hB9 hl9
        rw [ht9] at hL9
        obtain ⟨hq20, hw9, hs9, hk8⟩ := hw9
        have hw8 := hR.w
        have hak := hak.tr hk8 hlg.2.2.1
        have hE := hE.ad hk8
        have hR : RepC g ak21 A s S19 H1 locs := hR.callH ht9 hB9 hw9 hS hFc
        have hsh := hsh.tr hs9
        refine W_tight2 (hL0.tr hL9).1 (hL0.tr hL9).2.1 ?_
        have hlg := hlg.call hl9
        replace h := h r18 S19 hq20 hw9 hs9
        have ea_0 : ak21 25 = ak16 25 := hk8 _ (hw8.hd (hw8.2.1 _ finC_28).2.1 (by decide) (by decide))
        have ea_1 : ak21 36 = ak16 36 := hk8 _ (hw8.hd (hw8.2.1 _ finC_19).2.1 (by decide) (by decide))
        have hl : lv_has ls 3 [(2, .int r13), (0, .ref (ak21 25)), (1, .int x1)] := by simp only [ea_0, ea_1]; exact hl
        refine W.eq (g2 := F0 m 59 ls (.int r18 :: [.int x1, .ref (ak21 36)])) (by first | (simp only [ea_0, ea_1]; rfl) | simp only [ea_0, ea_1]) ?_
        clear hB9 hz9 hk9 hvm9 ht9 hw9 hs9 hS hL0 hL9
        generalize H1 = H at hR ⊢
        generalize dc9 = dc_ak21, ds9 = ds_ak21 at hlg ⊢
        obtain ⟨hv22, h⟩ := h
        refine va_iast hx hb hR.K hR.P hR.D hR.sS 36 1 (hR.atI (hR.w.2.1 _ finC_19).2.1 (by decide)) rfl (k_ixN (k_ix (n := 24) (x := x1) (a := x1.toInt) rfl hv22) (hR.w.2.1 _ finC_19).2.2) dX11_fieldEntryOf_59 (fun H locs hP hD hS => ?_)
        have hTk9 : qT S19 36 = 242 := (hR.w.2.1 _ finC_19).2.1
        have hR : RepC g ak21 A s (wI S19 36 x1.toInt.toNat r18) H locs := hR.aI (hR.w.2.1 _ finC_19).2.1 (by decide) hP hD hS
        obtain ⟨S23, eS23⟩ : ∃ z, z = wI S19 36 x1.toInt.toNat r18 := ⟨_, rfl⟩
        rw [← eS23] at hR
        replace h := h S23 eS23 hTk9 hR.w
        have hsh : shx S S23 := by rw [eS23]; exact hsh
        have hlg : lgC S S23 (0 + dc_ak16 + dc_ak21) (0 + ds_ak16 + ds_ak21) := by rw [eS23]; exact hlg
        exact J_60 ak21 (0 + dc_ak16 + dc_ak21) (0 + ds_ak16 + ds_ak21) S23 x1 _ _ ls h  hsh hlg hak hE hR (lv_sub hl [1, 2] rfl)
    · replace h := h.2 (k_nlt rfl (by decide) c2)
      refine lv_iconst (v := 0) hx hb dX11_fieldEntryOf_13 (by decide) ?_
      refine W_led2 (fun hLd => ?_)
      refine W.widen (k := KCC - qn S) (n := KSC - qu S) hlg.c hlg.s ?_
      exact W.iret (v := 0) hx hb hr (fun t9 ht9 hW9 => ⟨⟨_, (S, ad), rfl, ⟨h, hR.w, hsh, hak⟩, ⟨⟨by rw [ht9]; exact hR.P, hR.D⟩, _, _, by rw [ht9]; exact hLd, hlg⟩⟩, hR.sS.F ht9⟩) hR.sS.2.2 dX11_fieldEntryOf_14
def w_X11_methodEntryOf_J88 (Q : Int32 → MS → Prop) (U88 : MS) (v88_1 : Int32) : Prop := (wfC U88 → (((0 : Int) ≤ v88_1.toInt ∧ v88_1.toInt < 24) ∧ Q (qI U88 37 v88_1.toInt.toNat) U88))
def wX11_methodEntryOf (S : MS) (x1 : Int32) (Q : Int32 → MS → Prop) : Prop := ((x1.toInt < 0 → Q (0 : Int32) S) ∧ (¬ x1.toInt < 0 → ((24 ≤ x1.toInt → Q (0 : Int32) S) ∧ (¬ 24 ≤ x1.toInt → ((qR S 25 7 = some (qO S 25 7)) ∧ ((qR S (qO S 25 7) 9 = some (qO S (qO S 25 7) 9)) ∧ ((x1.toInt < (qN S (qO S (qO S 25 7) 9) : Int) → (((0 : Int) ≤ x1.toInt ∧ x1.toInt < 24) ∧ (((qI S 37 x1.toInt.toNat).toInt = 0 → ((qR S 25 7 = some (qO S 25 7)) ∧ ((qR S (qO S 25 7) 9 = some (qO S (qO S 25 7) 9)) ∧ (((0 : Int) ≤ x1.toInt ∧ x1.toInt < (qN S (qO S (qO S 25 7) 9) : Int)) ∧ (∃ Q20, wX11_nameEntry S (qI S (qO S (qO S 25 7) 9) x1.toInt.toNat) Q20 ∧ ∀ r21 S22, Q20 r21 S22 → wfC S22 → shx S S22 → ((qR S22 25 7 = some (qO S22 25 7)) ∧ ((qR S22 (qO S22 25 7) 10 = some (qO S22 (qO S22 25 7) 10)) ∧ (((0 : Int) ≤ x1.toInt ∧ x1.toInt < (qN S22 (qO S22 (qO S22 25 7) 10) : Int)) ∧ (∃ Q31, wX11_nameEntry S22 (qI S22 (qO S22 (qO S22 25 7) 10) x1.toInt.toNat) Q31 ∧ ∀ r32 S33, Q31 r32 S33 → wfC S33 → shx S22 S33 → (∃ Q36, wX11_pointersEntry S33 (12 : Int32) r21 r32 Q36 ∧ ∀ r37 S38, Q36 r37 S38 → wfC S38 → shx S33 S38 → (∃ Q41, wX11_pointersEntry S38 (10 : Int32) (qI S38 25 9) r37 Q41 ∧ ∀ r42 S43, Q41 r42 S43 → wfC S43 → shx S38 S43 → (((0 : Int) ≤ x1.toInt ∧ x1.toInt < 24) ∧ (∀ S47, S47 = wI S43 37 x1.toInt.toNat r42 → qT S43 37 = 243 → wfC S47 → w_X11_methodEntryOf_J88 Q S47 x1))))))))))))) ∧ (¬ (qI S 37 x1.toInt.toNat).toInt = 0 → w_X11_methodEntryOf_J88 Q S x1)))) ∧ (¬ x1.toInt < (qN S (qO S (qO S 25 7) 9) : Int) → Q (0 : Int32) S))))))))
set_option maxHeartbeats 2000000 in
set_option maxRecDepth 100000 in
theorem rX11_methodEntryOf (l : Launch) (g : Gr) (ad : Nat → Nat) (H0 : Heap) (S : MS) (x1 : Int32) (hw : wfC S) (Q : Int32 → MS → Prop) (h : wX11_methodEntryOf S x1 Q) : Met l yX11_methodEntryOf (wt yX11_methodEntryOf cX11_methodEntryOf 4 (some .int)) ({ frames := 5, cells := KCC - qn S, slots := KSC - qu S, locals := 129 }) (va_Pc [.ref (ad 25), .int x1] (st_CH g ad H0 S)) (va_Qi (fun (r : Int32) (u : MS × (Nat → Nat)) => Q r u.1 ∧ wfC u.1 ∧ shx S u.1 ∧ adk ad u.2 S) (fun (u : MS × (Nat → Nat)) (t : State) => qEHC g (va_A (WdC g ad S) H0.size) S H0 u t) (va_A (WdC g ad S) H0.size)) (KCC - qn S) (KSC - qu S) (va_A (WdC g ad S) H0.size) := by
  refine Met.ofW (cc := cX11_methodEntryOf) (maxL := 4) (ret := (some .int)) (by decide) rfl ?_
  intro p e s m args below meth c s₁ B hml hv
  obtain ⟨rfl, hH0, hsz, hP, hK, hD0, hex, hE⟩ := hv
  have hx := B.exec
  have hb := B.bytes
  have hr := B.returns
  have hts0 := atoms_spec (ws := wt yX11_methodEntryOf cX11_methodEntryOf 4 (some .int)) B.pre
  have hts : ∀ w ∈ tb, w.before _ s = true := fun w h => hts0 w (List.mem_cons_of_mem _ h)
  have hown : s.vm.findClass RX11 = some m.cls := findClass_of_methodNamed B.named
  subst hH0
  have hD := hD0.self (sz := s.heap.size)
  generalize hAe : va_A (WdC g ad S) s.heap.size = A at hD hE ⊢
  have hA : ∀ q : Nat, s.heap.size ≤ q → A q := fun q h => by rw [← hAe]; exact Or.inr h
  have hR : RepC g ad A s S s.heap [] := ⟨hK, hP, hD, va_S.rf, hw⟩
  clear hK hP hD hD0
  have hl := lv_entry ([.ref (ad 25), .int x1]) (n := 4) (Nat.le_of_ble_eq_true rfl)
  rw [lg_entry_eq]
  generalize (lg_sl ([.ref (ad 25), .int x1]) ++ List.replicate (4 - (lg_sl ([.ref (ad 25), .int x1])).length) Slot.unset).toArray = ls at hl ⊢
  have hlg : lgC S S 0 0 := lgC.rf
  have hak : adk ad ad S := adk.rf
  have hl : lv_has ls 4 [(0, .ref (ad 25)), (1, .int x1)] := hl
  have hsh : shx S S := shx.rf
  unfold wX11_methodEntryOf at h
  refine lv_iload_n hx hb dX11_methodEntryOf_0 rfl (lv_at hl 1 rfl) ?_
  refine lv_if_lt (tgt := 25) hx hb dX11_methodEntryOf_1 (by decide) (fun c1 => ?_) (fun c1 => ?_)
  · replace h := h.1 (k_lt rfl (by decide) c1)
    refine lv_iconst (v := 0) hx hb dX11_methodEntryOf_25 (by decide) ?_
    refine W_led2 (fun hLd => ?_)
    refine W.widen (k := KCC - qn S) (n := KSC - qu S) hlg.c hlg.s ?_
    exact W.iret (v := 0) hx hb hr (fun t9 ht9 hW9 => ⟨⟨_, (S, ad), rfl, ⟨h, hR.w, hsh, hak⟩, ⟨⟨by rw [ht9]; exact hR.P, hR.D⟩, _, _, by rw [ht9]; exact hLd, hlg⟩⟩, hR.sS.F ht9⟩) hR.sS.2.2 dX11_methodEntryOf_26
  · replace h := h.2 (k_nlt rfl (by decide) c1)
    refine lv_iload_n hx hb dX11_methodEntryOf_4 rfl (lv_at hl 1 rfl) ?_
    refine lv_aload_n hx hb dX11_methodEntryOf_5 rfl (lv_at hl 0 rfl) ?_
    refine va_get (D := rD g) (ci := 10) (v := .ref (ad 37)) (C := RX11) (T := TX11) (N := 18) hx hb hts inX11 hown hR.K hR.P 25 (hR.at50 (hR.w.2.1 _ finC_28).2.1) rfl 13 (by decide) (hts _ kw_118) (fun _ h9 => h9) (congrArg (fun z => some (vf ad z)) (hR.w.2.1 _ finC_20).1) dX11_methodEntryOf_6 ?_
    refine va_alen (v := 24) hx hb hR.K hR.P 37 1 (hR.atI (hR.w.2.1 _ finC_20).2.1 (by decide)) rfl (by rw [(hR.w.2.1 _ finC_20).2.2]; rfl) dX11_methodEntryOf_9 ?_
    refine lv_icmp_ge (tgt := 25) hx hb dX11_methodEntryOf_10 (by decide) (fun c2 => ?_) (fun c2 => ?_)
    · replace h := h.1 (k_le (by decide) rfl c2)
      refine lv_iconst (v := 0) hx hb dX11_methodEntryOf_25 (by decide) ?_
      refine W_led2 (fun hLd => ?_)
      refine W.widen (k := KCC - qn S) (n := KSC - qu S) hlg.c hlg.s ?_
      exact W.iret (v := 0) hx hb hr (fun t9 ht9 hW9 => ⟨⟨_, (S, ad), rfl, ⟨h, hR.w, hsh, hak⟩, ⟨⟨by rw [ht9]; exact hR.P, hR.D⟩, _, _, by rw [ht9]; exact hLd, hlg⟩⟩, hR.sS.F ht9⟩) hR.sS.2.2 dX11_methodEntryOf_26
    · replace h := h.2 (k_nle (by decide) rfl c2)
      refine lv_iload_n hx hb dX11_methodEntryOf_13 rfl (lv_at hl 1 rfl) ?_
      refine lv_aload_n hx hb dX11_methodEntryOf_14 rfl (lv_at hl 0 rfl) ?_
      obtain ⟨hv4, h⟩ := h
      have hT_b3 : qT S (qO S 25 7) = 49 := hR.w.ref hv4 (hR.w.2.1 _ finC_28).2.1
      refine va_get (D := rD g) (ci := 10) (v := .ref (ad (qO S 25 7))) (C := RX11) (T := TX11) (N := 18) hx hb hts inX11 hown hR.K hR.P 25 (hR.at50 (hR.w.2.1 _ finC_28).2.1) rfl 7 (by decide) (hts _ kw_86) (fun _ h9 => h9) (congrArg (fun z => some (vf ad z)) hv4) dX11_methodEntryOf_15 ?_
      obtain ⟨hv6, h⟩ := h
      have hT_b5 : qT S (qO S (qO S 25 7) 9) = 234 := hR.w.ref hv6 hT_b3
      refine va_get (D := rD g) (ci := 9) (v := .ref (ad (qO S (qO S 25 7) 9))) (C := RX10) (T := TX10) (N := 18) hx hb hts inX10 hown hR.K hR.P (qO S 25 7) (hR.at49 hT_b3) rfl 9 (by decide) (hts _ kw_87) (fun _ h9 => h9) (congrArg (fun z => some (vf ad z)) hv6) dX11_methodEntryOf_18 ?_
      refine va_alen (v := (Int32.ofNat (qN S (qO S (qO S 25 7) 9)))) hx hb hR.K hR.P (qO S (qO S 25 7) 9) 1 (hR.atI hT_b5 (by decide)) rfl rfl dX11_methodEntryOf_21 ?_
      have hln7 : (Int32.ofNat (qN S (qO S (qO S 25 7) 9))).toInt = (qN S (qO S (qO S 25 7) 9) : Int) := toI_len (hR.w.len9 (hT_b5) (by decide))
      refine lv_icmp_lt (tgt := 27) hx hb dX11_methodEntryOf_22 (by decide) (fun c8 => ?_) (fun c8 => ?_)
      · replace h := h.1 (k_lt rfl hln7 c8)
        refine lv_aload_n hx hb dX11_methodEntryOf_27 rfl (lv_at hl 0 rfl) ?_
        refine va_get (D := rD g) (ci := 10) (v := .ref (ad 37)) (C := RX11) (T := TX11) (N := 18) hx hb hts inX11 hown hR.K hR.P 25 (hR.at50 (hR.w.2.1 _ finC_28).2.1) rfl 13 (by decide) (hts _ kw_118) (fun _ h9 => h9) (congrArg (fun z => some (vf ad z)) (hR.w.2.1 _ finC_20).1) dX11_methodEntryOf_28 ?_
        refine lv_iload_n hx hb dX11_methodEntryOf_31 rfl (lv_at hl 1 rfl) ?_
        obtain ⟨hv9, h⟩ := h
        refine va_iald hx hb hR.K hR.P 37 1 (hR.atI (hR.w.2.1 _ finC_20).2.1 (by decide)) rfl (k_ixN (k_ix (n := 24) (x := x1) (a := x1.toInt) rfl hv9) (hR.w.2.1 _ finC_20).2.2) dX11_methodEntryOf_32 ?_
        refine lv_topi (fun z10 ez10 => ?_)
        obtain rfl : z10 = (qI S 37 x1.toInt.toNat) := ez10
        have J_88 : ∀ (ad88 : Nat → Nat) (dc88 ds88 : Nat) (U88 : MS) (v88_1 : Int32) (H : Heap) (locs : List Loc) (ls : Array Slot), w_X11_methodEntryOf_J88 Q U88 v88_1 → shx S U88 → lgC S U88 dc88 ds88 → adk ad ad88 S → ogC ad88 A s s.heap → RepC g ad88 A s U88 H locs → lv_has ls 4 [(0, .ref (ad88 25)), (1, .int v88_1)] → W p l e (headSpec (wt yX11_methodEntryOf cX11_methodEntryOf 4 (some .int)) ({ frames := 5, cells := KCC - qn S, slots := KSC - qu S, locals := 129 })).room s m ([.ref (ad 25), .int x1] : List Value).toArray below meth c H locs dc88 ds88 (MQ below (va_Qi (fun (r : Int32) (u : MS × (Nat → Nat)) => Q r u.1 ∧ wfC u.1 ∧ shx S u.1 ∧ adk ad u.2 S) (fun (u : MS × (Nat → Nat)) (t : State) => qEHC g A S s.heap u t) A) ([.ref (ad 25), .int x1] : List Value).toArray s (KCC - qn S) (KSC - qu S) A) (F0 m 88 ls []) := by
          intro ad88 dc88 ds88 U88 v88_1 H locs ls h hsh hlg hak hE hR hl
          unfold w_X11_methodEntryOf_J88 at h
          replace h := h hR.w
          refine lv_aload_n hx hb dX11_methodEntryOf_88 rfl (lv_at hl 0 rfl) ?_
          refine va_get (D := rD g) (ci := 10) (v := .ref (ad88 37)) (C := RX11) (T := TX11) (N := 18) hx hb hts inX11 hown hR.K hR.P 25 (hR.at50 (hR.w.2.1 _ finC_28).2.1) rfl 13 (by decide) (hts _ kw_118) (fun _ h9 => h9) (congrArg (fun z => some (vf ad88 z)) (hR.w.2.1 _ finC_20).1) dX11_methodEntryOf_89 ?_
          refine lv_iload_n hx hb dX11_methodEntryOf_92 rfl (lv_at hl 1 rfl) ?_
          obtain ⟨hv11, h⟩ := h
          refine va_iald hx hb hR.K hR.P 37 1 (hR.atI (hR.w.2.1 _ finC_20).2.1 (by decide)) rfl (k_ixN (k_ix (n := 24) (x := v88_1) (a := v88_1.toInt) rfl hv11) (hR.w.2.1 _ finC_20).2.2) dX11_methodEntryOf_93 ?_
          refine lv_topi (fun z12 ez12 => ?_)
          obtain rfl : z12 = (qI U88 37 v88_1.toInt.toNat) := ez12
          refine W_led2 (fun hLd => ?_)
          refine W.widen (k := KCC - qn S) (n := KSC - qu S) hlg.c hlg.s ?_
          exact W.iret (v := (qI U88 37 v88_1.toInt.toNat)) hx hb hr (fun t9 ht9 hW9 => ⟨⟨_, (U88, ad88), rfl, ⟨h, hR.w, hsh, hak⟩, ⟨⟨by rw [ht9]; exact hR.P, hR.D⟩, _, _, by rw [ht9]; exact hLd, hlg⟩⟩, hR.sS.F ht9⟩) hR.sS.2.2 dX11_methodEntryOf_94
        refine lv_if_ne (tgt := 88) hx hb dX11_methodEntryOf_33 (by decide) (fun c13 => ?_) (fun c13 => ?_)
        · replace h := h.2 (k_ne rfl (by decide) c13)
          exact J_88 ad (0) (0) S x1 _ _ ls h  hsh hlg hak hE hR (lv_sub hl [0, 1] rfl)
        · replace h := h.1 (k_eq rfl (by decide) c13)
          refine lv_aload_n hx hb dX11_methodEntryOf_36 rfl (lv_at hl 0 rfl) ?_
          refine lv_aload_n hx hb dX11_methodEntryOf_37 rfl (lv_at hl 0 rfl) ?_
          obtain ⟨hv15, h⟩ := h
          have hT_b14 : qT S (qO S 25 7) = 49 := hR.w.ref hv15 (hR.w.2.1 _ finC_28).2.1
          refine va_get (D := rD g) (ci := 10) (v := .ref (ad (qO S 25 7))) (C := RX11) (T := TX11) (N := 18) hx hb hts inX11 hown hR.K hR.P 25 (hR.at50 (hR.w.2.1 _ finC_28).2.1) rfl 7 (by decide) (hts _ kw_86) (fun _ h9 => h9) (congrArg (fun z => some (vf ad z)) hv15) dX11_methodEntryOf_38 ?_
          obtain ⟨hv17, h⟩ := h
          have hT_b16 : qT S (qO S (qO S 25 7) 9) = 234 := hR.w.ref hv17 hT_b14
          refine va_get (D := rD g) (ci := 9) (v := .ref (ad (qO S (qO S 25 7) 9))) (C := RX10) (T := TX10) (N := 18) hx hb hts inX10 hown hR.K hR.P (qO S 25 7) (hR.at49 hT_b14) rfl 9 (by decide) (hts _ kw_87) (fun _ h9 => h9) (congrArg (fun z => some (vf ad z)) hv17) dX11_methodEntryOf_41 ?_
          refine lv_iload_n hx hb dX11_methodEntryOf_44 rfl (lv_at hl 1 rfl) ?_
          obtain ⟨hv18, h⟩ := h
          refine va_iald hx hb hR.K hR.P (qO S (qO S 25 7) 9) 1 (hR.atI hT_b16 (by decide)) rfl (k_ix (x := x1) (a := x1.toInt) rfl hv18) dX11_methodEntryOf_45 ?_
          refine lv_topi (fun z19 ez19 => ?_)
          obtain rfl : z19 = (qI S (qO S (qO S 25 7) 9) x1.toInt.toNat) := ez19
          obtain ⟨Q20, h0, h⟩ := h
          have hFc := cfree hR hA
          refine W_led2 (fun hL0 => ?_)
          refine va_calli (va_runV (As := [.int (qI S (qO S (qO S 25 7) 9) x1.toInt.toNat)]) (rest := []) ⟨hx, hb, hml, hown, hts⟩ (rX11_nameEntry l g ad s.heap S (qI S (qO S (qO S 25 7) 9) x1.toInt.toNat) hR.w  Q20 h0) (cwV 1 hts (gd_V kw_88 kw_217 kw_218 kw_83 kw_216) rfl rfl rfl (by decide +kernel) ⟨Nat.le_of_ble_eq_true rfl, Nat.le_of_ble_eq_true rfl⟩) ⟨cblindH, va_recv hR.K hR.P (ci := 10) (q0 := 25) rfl (hR.at50 (hR.w.2.1 _ finC_28).2.1), fun U hU hW9 => cmkH hU hW9 hR hex hE hFc⟩ rfl rfl hl.1 rfl (lv_room (Nat.le_of_ble_eq_true rfl)) dX11_methodEntryOf_46 ⟨(show 0 + (KCC - qn S) ≤ KCC - qn S from hlg.cm), (show 0 + (KSC - qu S) ≤ KSC - qu S from hlg.sm)⟩) hR.sS (fun q _ h => hFc q h) hFc (fun r21 S22 t9 H1 locs ht9 hvm9 hw9 hB9 hz9 hk9 hS => ?_)
          rcases S22 with ⟨S22, ak24⟩
          obtain ⟨hB9, dc9, ds9, hL9, hl9⟩ := hB9
          dsimp only at hw9 hB9 hl9
          rw [ht9] at hL9
          obtain ⟨hq23, hw9, hs9, hk8⟩ := hw9
          have hw8 := hR.w
          have hak := hak.tr hk8 hlg.2.2.1
          have hE := hE.ad hk8
          have hR : RepC g ak24 A s S22 H1 locs := hR.callH ht9 hB9 hw9 hS hFc
          have hsh := hsh.tr hs9
          refine W_tight2 (hL0.tr hL9).1 (hL0.tr hL9).2.1 ?_
          have hlg := hlg.call hl9
          replace h := h r21 S22 hq23 hw9 hs9
          have ea_0 : ak24 25 = ad 25 := hk8 _ (hw8.hd (hw8.2.1 _ finC_28).2.1 (by decide) (by decide))
          have hl : lv_has ls 4 [(0, .ref (ak24 25)), (1, .int x1)] := by simp only [ea_0]; exact hl
          clear hB9 hz9 hk9 hvm9 ht9 hw9 hs9 hS hL0 hL9
          generalize H1 = H at hR ⊢
          generalize dc9 = dc_ak24, ds9 = ds_ak24 at hlg ⊢
          refine lv_istore_n (lv' := [(2, .int r21), (0, .ref (ak24 25)), (1, .int x1)]) hx hb dX11_methodEntryOf_49 rfl hl (by decide) rfl (fun ls hl => ?_)
          refine lv_aload_n hx hb dX11_methodEntryOf_50 rfl (lv_at hl 1 rfl) ?_
          refine lv_bipush (v := 12) hx hb dX11_methodEntryOf_51 (by decide) ?_
          refine lv_iload_n hx hb dX11_methodEntryOf_53 rfl (lv_at hl 0 rfl) ?_
          refine lv_aload_n hx hb dX11_methodEntryOf_54 rfl (lv_at hl 1 rfl) ?_
          refine lv_aload_n hx hb dX11_methodEntryOf_55 rfl (lv_at hl 1 rfl) ?_
          obtain ⟨hv26, h⟩ := h
          have hT_b25 : qT S22 (qO S22 25 7) = 49 := hR.w.ref hv26 (hR.w.2.1 _ finC_28).2.1
          refine va_get (D := rD g) (ci := 10) (v := .ref (ak24 (qO S22 25 7))) (C := RX11) (T := TX11) (N := 18) hx hb hts inX11 hown hR.K hR.P 25 (hR.at50 (hR.w.2.1 _ finC_28).2.1) rfl 7 (by decide) (hts _ kw_86) (fun _ h9 => h9) (congrArg (fun z => some (vf ak24 z)) hv26) dX11_methodEntryOf_56 ?_
          obtain ⟨hv28, h⟩ := h
          have hT_b27 : qT S22 (qO S22 (qO S22 25 7) 10) = 235 := hR.w.ref hv28 hT_b25
          refine va_get (D := rD g) (ci := 9) (v := .ref (ak24 (qO S22 (qO S22 25 7) 10))) (C := RX10) (T := TX10) (N := 18) hx hb hts inX10 hown hR.K hR.P (qO S22 25 7) (hR.at49 hT_b25) rfl 10 (by decide) (hts _ kw_89) (fun _ h9 => h9) (congrArg (fun z => some (vf ak24 z)) hv28) dX11_methodEntryOf_59 ?_
          refine lv_iload_n hx hb dX11_methodEntryOf_62 rfl (lv_at hl 2 rfl) ?_
          obtain ⟨hv29, h⟩ := h
          refine va_iald hx hb hR.K hR.P (qO S22 (qO S22 25 7) 10) 1 (hR.atI hT_b27 (by decide)) rfl (k_ix (x := x1) (a := x1.toInt) rfl hv29) dX11_methodEntryOf_63 ?_
          refine lv_topi (fun z30 ez30 => ?_)
          obtain rfl : z30 = (qI S22 (qO S22 (qO S22 25 7) 10) x1.toInt.toNat) := ez30
          obtain ⟨Q31, h0, h⟩ := h
          have hFc := cfree hR hA
          refine W_led2 (fun hL0 => ?_)
          refine va_calli (va_runV (As := [.int (qI S22 (qO S22 (qO S22 25 7) 10) x1.toInt.toNat)]) (rest := [.int r21, .int 12, .ref (ak24 25)]) ⟨hx, hb, hml, hown, hts⟩ (rX11_nameEntry l g ak24 H S22 (qI S22 (qO S22 (qO S22 25 7) 10) x1.toInt.toNat) hR.w  Q31 h0) (cwV 1 hts (gd_V kw_88 kw_217 kw_218 kw_83 kw_216) rfl rfl rfl (by decide +kernel) ⟨Nat.le_of_ble_eq_true rfl, Nat.le_of_ble_eq_true rfl⟩) ⟨cblindH, va_recv hR.K hR.P (ci := 10) (q0 := 25) rfl (hR.at50 (hR.w.2.1 _ finC_28).2.1), fun U hU hW9 => cmkH hU hW9 hR hex hE hFc⟩ rfl rfl hl.1 rfl (lv_room (Nat.le_of_ble_eq_true rfl)) dX11_methodEntryOf_64 ⟨(show 0 + dc_ak24 + (KCC - qn S22) ≤ KCC - qn S from hlg.cm), (show 0 + ds_ak24 + (KSC - qu S22) ≤ KSC - qu S from hlg.sm)⟩) hR.sS (fun q _ h => hFc q h) hFc (fun r32 S33 t9 H1 locs ht9 hvm9 hw9 hB9 hz9 hk9 hS => ?_)
          rcases S33 with ⟨S33, ak35⟩
          obtain ⟨hB9, dc9, ds9, hL9, hl9⟩ := hB9
          dsimp only at hw9 hB9 hl9
          rw [ht9] at hL9
          obtain ⟨hq34, hw9, hs9, hk8⟩ := hw9
          have hw8 := hR.w
          have hak := hak.tr hk8 hlg.2.2.1
          have hE := hE.ad hk8
          have hR : RepC g ak35 A s S33 H1 locs := hR.callH ht9 hB9 hw9 hS hFc
          have hsh := hsh.tr hs9
          refine W_tight2 (hL0.tr hL9).1 (hL0.tr hL9).2.1 ?_
          have hlg := hlg.call hl9
          replace h := h r32 S33 hq34 hw9 hs9
          have ea_0 : ak35 25 = ak24 25 := hk8 _ (hw8.hd (hw8.2.1 _ finC_28).2.1 (by decide) (by decide))
          have hl : lv_has ls 4 [(2, .int r21), (0, .ref (ak35 25)), (1, .int x1)] := by simp only [ea_0]; exact hl
          refine W.eq (g2 := F0 m 67 ls (.int r32 :: [.int r21, .int 12, .ref (ak35 25)])) (by first | (simp only [ea_0]; rfl) | simp only [ea_0]) ?_
          clear hB9 hz9 hk9 hvm9 ht9 hw9 hs9 hS hL0 hL9
          generalize H1 = H at hR ⊢
          generalize dc9 = dc_ak35, ds9 = ds_ak35 at hlg ⊢
          obtain ⟨Q36, h0, h⟩ := h
          have hFc := cfree hR hA
          refine W_led2 (fun hL0 => ?_)
          refine va_calli (va_runV (As := [.int 12, .int r21, .int r32]) (rest := []) ⟨hx, hb, hml, hown, hts⟩ (rX11_pointersEntry l g ak35 H S33 (12 : Int32) r21 r32 hR.w  Q36 h0) (cwV 3 hts (gd_V kw_153 kw_234 kw_235 kw_83 kw_233) rfl rfl rfl (by decide +kernel) ⟨Nat.le_of_ble_eq_true rfl, Nat.le_of_ble_eq_true rfl⟩) ⟨cblindH, va_recv hR.K hR.P (ci := 10) (q0 := 25) rfl (hR.at50 (hR.w.2.1 _ finC_28).2.1), fun U hU hW9 => cmkH hU hW9 hR hex hE hFc⟩ rfl rfl hl.1 rfl (lv_room (Nat.le_of_ble_eq_true rfl)) dX11_methodEntryOf_67 ⟨(show 0 + dc_ak24 + dc_ak35 + (KCC - qn S33) ≤ KCC - qn S from hlg.cm), (show 0 + ds_ak24 + ds_ak35 + (KSC - qu S33) ≤ KSC - qu S from hlg.sm)⟩) hR.sS (fun q _ h => hFc q h) hFc (fun r37 S38 t9 H1 locs ht9 hvm9 hw9 hB9 hz9 hk9 hS => ?_)
          rcases S38 with ⟨S38, ak40⟩
          obtain ⟨hB9, dc9, ds9, hL9, hl9⟩ := hB9
          dsimp only at hw9 hB9 hl9
          rw [ht9] at hL9
          obtain ⟨hq39, hw9, hs9, hk8⟩ := hw9
          have hw8 := hR.w
          have hak := hak.tr hk8 hlg.2.2.1
          have hE := hE.ad hk8
          have hR : RepC g ak40 A s S38 H1 locs := hR.callH ht9 hB9 hw9 hS hFc
          have hsh := hsh.tr hs9
          refine W_tight2 (hL0.tr hL9).1 (hL0.tr hL9).2.1 ?_
          have hlg := hlg.call hl9
          replace h := h r37 S38 hq39 hw9 hs9
          have ea_0 : ak40 25 = ak35 25 := hk8 _ (hw8.hd (hw8.2.1 _ finC_28).2.1 (by decide) (by decide))
          have hl : lv_has ls 4 [(2, .int r21), (0, .ref (ak40 25)), (1, .int x1)] := by simp only [ea_0]; exact hl
          clear hB9 hz9 hk9 hvm9 ht9 hw9 hs9 hS hL0 hL9
          generalize H1 = H at hR ⊢
          generalize dc9 = dc_ak40, ds9 = ds_ak40 at hlg ⊢
          refine lv_istore_n (lv' := [(3, .int r37), (2, .int r21), (0, .ref (ak40 25)), (1, .int x1)]) hx hb dX11_methodEntryOf_70 rfl hl (by decide) rfl (fun ls hl => ?_)
          refine lv_aload_n hx hb dX11_methodEntryOf_71 rfl (lv_at hl 2 rfl) ?_
          refine va_get (D := rD g) (ci := 10) (v := .ref (ak40 37)) (C := RX11) (T := TX11) (N := 18) hx hb hts inX11 hown hR.K hR.P 25 (hR.at50 (hR.w.2.1 _ finC_28).2.1) rfl 13 (by decide) (hts _ kw_118) (fun _ h9 => h9) (congrArg (fun z => some (vf ak40 z)) (hR.w.2.1 _ finC_20).1) dX11_methodEntryOf_72 ?_
          refine lv_iload_n hx hb dX11_methodEntryOf_75 rfl (lv_at hl 3 rfl) ?_
          refine lv_aload_n hx hb dX11_methodEntryOf_76 rfl (lv_at hl 2 rfl) ?_
          refine lv_bipush (v := 10) hx hb dX11_methodEntryOf_77 (by decide) ?_
          refine lv_aload_n hx hb dX11_methodEntryOf_79 rfl (lv_at hl 2 rfl) ?_
          refine va_get (D := rD g) (ci := 10) (v := .int (qI S38 25 9)) (C := RX11) (T := TX11) (N := 18) hx hb hts inX11 hown hR.K hR.P 25 (hR.at50 (hR.w.2.1 _ finC_28).2.1) rfl 9 (by decide) (hts _ kw_122) (fun _ h9 => h9) rfl dX11_methodEntryOf_80 ?_
          refine lv_iload_n hx hb dX11_methodEntryOf_83 rfl (lv_at hl 0 rfl) ?_
          obtain ⟨Q41, h0, h⟩ := h
          have hFc := cfree hR hA
          refine W_led2 (fun hL0 => ?_)
          refine va_calli (va_runV (As := [.int 10, .int (qI S38 25 9), .int r37]) (rest := [.int x1, .ref (ak40 37)]) ⟨hx, hb, hml, hown, hts⟩ (rX11_pointersEntry l g ak40 H S38 (10 : Int32) (qI S38 25 9) r37 hR.w  Q41 h0) (cwV 3 hts (gd_V kw_153 kw_234 kw_235 kw_83 kw_233) rfl rfl rfl (by decide +kernel) ⟨Nat.le_of_ble_eq_true rfl, Nat.le_of_ble_eq_true rfl⟩) ⟨cblindH, va_recv hR.K hR.P (ci := 10) (q0 := 25) rfl (hR.at50 (hR.w.2.1 _ finC_28).2.1), fun U hU hW9 => cmkH hU hW9 hR hex hE hFc⟩ rfl rfl hl.1 rfl (lv_room (Nat.le_of_ble_eq_true rfl)) dX11_methodEntryOf_84 ⟨(show 0 + dc_ak24 + dc_ak35 + dc_ak40 + (KCC - qn S38) ≤ KCC - qn S from hlg.cm), (show 0 + ds_ak24 + ds_ak35 + ds_ak40 + (KSC - qu S38) ≤ KSC - qu S from hlg.sm)⟩) hR.sS (fun q _ h => hFc q h) hFc (fun r42 S43 t9 H1 locs ht9 hvm9 hw9 hB9 hz9 hk9 hS => ?_)
          rcases S43 with ⟨S43, ak45⟩
          obtain ⟨hB9, dc9, ds9, hL9, hl9⟩ := hB9
          dsimp only at hw9 hB9 hl9
          rw [ht9] at hL9
          obtain ⟨hq44, hw9, hs9, hk8⟩ := hw9
          have hw8 := hR.w
          have hak := hak.tr hk8 hlg.2.2.1
          have hE := hE.ad hk8
          have hR : RepC g ak45 A s S43 H1 locs := hR.callH ht9 hB9 hw9 hS hFc
          have hsh := hsh.tr hs9
          refine W_tight2 (hL0.tr hL9).1 (hL0.tr hL9).2.1 ?_
          have hlg := hlg.call hl9
          replace h := h r42 S43 hq44 hw9 hs9
          have ea_0 : ak45 25 = ak40 25 := hk8 _ (hw8.hd (hw8.2.1 _ finC_28).2.1 (by decide) (by decide))
          have ea_1 : ak45 37 = ak40 37 := hk8 _ (hw8.hd (hw8.2.1 _ finC_20).2.1 (by decide) (by decide))
          have hl : lv_has ls 4 [(3, .int r37), (2, .int r21), (0, .ref (ak45 25)), (1, .int x1)] := by simp only [ea_0, ea_1]; exact hl
          refine W.eq (g2 := F0 m 87 ls (.int r42 :: [.int x1, .ref (ak45 37)])) (by first | (simp only [ea_0, ea_1]; rfl) | simp only [ea_0, ea_1]) ?_
          clear hB9 hz9 hk9 hvm9 ht9 hw9 hs9 hS hL0 hL9
          generalize H1 = H at hR ⊢
          generalize dc9 = dc_ak45, ds9 = ds_ak45 at hlg ⊢
          obtain ⟨hv46, h⟩ := h
          refine va_iast hx hb hR.K hR.P hR.D hR.sS 37 1 (hR.atI (hR.w.2.1 _ finC_20).2.1 (by decide)) rfl (k_ixN (k_ix (n := 24) (x := x1) (a := x1.toInt) rfl hv46) (hR.w.2.1 _ finC_20).2.2) dX11_methodEntryOf_87 (fun H locs hP hD hS => ?_)
          have hTk9 : qT S43 37 = 243 := (hR.w.2.1 _ finC_20).2.1
          have hR : RepC g ak45 A s (wI S43 37 x1.toInt.toNat r42) H locs := hR.aI (hR.w.2.1 _ finC_20).2.1 (by decide) hP hD hS
          obtain ⟨S47, eS47⟩ : ∃ z, z = wI S43 37 x1.toInt.toNat r42 := ⟨_, rfl⟩
          rw [← eS47] at hR
          replace h := h S47 eS47 hTk9 hR.w
          have hsh : shx S S47 := by rw [eS47]; exact hsh
          have hlg : lgC S S47 (0 + dc_ak24 + dc_ak35 + dc_ak40 + dc_ak45) (0 + ds_ak24 + ds_ak35 + ds_ak40 + ds_ak45) := by rw [eS47]; exact hlg
          exact J_88 ak45 (0 + dc_ak24 + dc_ak35 + dc_ak40 + dc_ak45) (0 + ds_ak24 + ds_ak35 + ds_ak40 + ds_ak45) S47 x1 _ _ ls h  hsh hlg hak hE hR (lv_sub hl [2, 3] rfl)
      · replace h := h.2 (k_nlt rfl hln7 c8)
        refine lv_iconst (v := 0) hx hb dX11_methodEntryOf_25 (by decide) ?_
        refine W_led2 (fun hLd => ?_)
        refine W.widen (k := KCC - qn S) (n := KSC - qu S) hlg.c hlg.s ?_
        exact W.iret (v := 0) hx hb hr (fun t9 ht9 hW9 => ⟨⟨_, (S, ad), rfl, ⟨h, hR.w, hsh, hak⟩, ⟨⟨by rw [ht9]; exact hR.P, hR.D⟩, _, _, by rw [ht9]; exact hLd, hlg⟩⟩, hR.sS.F ht9⟩) hR.sS.2.2 dX11_methodEntryOf_26
def wX11_classOf (S : MS) (x1 : Int32) (Q : Int32 → MS → Prop) : Prop := ((x1.toInt = (-1) → Q (0 : Int32) S) ∧ (¬ x1.toInt = (-1) → (d_X6_errorName S x1 ∧ (qT S (fX6_errorName S x1) = 12 → (∃ Q5, wX11_textEntry S (fX6_errorName S x1) Q5 ∧ ∀ r6 S7, Q5 r6 S7 → wfC S7 → shx S S7 → (∃ Q10, wX11_pointerEntry S7 (7 : Int32) r6 Q10 ∧ ∀ r11 S12, Q10 r11 S12 → wfC S12 → shx S7 S12 → Q r11 S12))))))
set_option maxHeartbeats 2000000 in
set_option maxRecDepth 100000 in
theorem rX11_classOf (l : Launch) (g : Gr) (ad : Nat → Nat) (H0 : Heap) (S : MS) (x1 : Int32) (hw : wfC S) (Q : Int32 → MS → Prop) (h : wX11_classOf S x1 Q) : Met l yX11_classOf (wt yX11_classOf cX11_classOf 2 (some .int)) ({ frames := 5, cells := KCC - qn S, slots := KSC - qu S, locals := 128 }) (va_Pc [.ref (ad 25), .int x1] (st_CH g ad H0 S)) (va_Qi (fun (r : Int32) (u : MS × (Nat → Nat)) => Q r u.1 ∧ wfC u.1 ∧ shx S u.1 ∧ adk ad u.2 S) (fun (u : MS × (Nat → Nat)) (t : State) => qEHC g (va_A (WdC g ad S) H0.size) S H0 u t) (va_A (WdC g ad S) H0.size)) (KCC - qn S) (KSC - qu S) (va_A (WdC g ad S) H0.size) := by
  refine Met.ofW (cc := cX11_classOf) (maxL := 2) (ret := (some .int)) (by decide) rfl ?_
  intro p e s m args below meth c s₁ B hml hv
  obtain ⟨rfl, hH0, hsz, hP, hK, hD0, hex, hE⟩ := hv
  have hx := B.exec
  have hb := B.bytes
  have hr := B.returns
  have hts0 := atoms_spec (ws := wt yX11_classOf cX11_classOf 2 (some .int)) B.pre
  have hts : ∀ w ∈ tb, w.before _ s = true := fun w h => hts0 w (List.mem_cons_of_mem _ h)
  have hown : s.vm.findClass RX11 = some m.cls := findClass_of_methodNamed B.named
  subst hH0
  have hD := hD0.self (sz := s.heap.size)
  generalize hAe : va_A (WdC g ad S) s.heap.size = A at hD hE ⊢
  have hA : ∀ q : Nat, s.heap.size ≤ q → A q := fun q h => by rw [← hAe]; exact Or.inr h
  have hR : RepC g ad A s S s.heap [] := ⟨hK, hP, hD, va_S.rf, hw⟩
  clear hK hP hD hD0
  have hl := lv_entry ([.ref (ad 25), .int x1]) (n := 2) (Nat.le_of_ble_eq_true rfl)
  rw [lg_entry_eq]
  generalize (lg_sl ([.ref (ad 25), .int x1]) ++ List.replicate (2 - (lg_sl ([.ref (ad 25), .int x1])).length) Slot.unset).toArray = ls at hl ⊢
  have hlg : lgC S S 0 0 := lgC.rf
  have hak : adk ad ad S := adk.rf
  have hl : lv_has ls 2 [(0, .ref (ad 25)), (1, .int x1)] := hl
  have hsh : shx S S := shx.rf
  unfold wX11_classOf at h
  refine lv_iload_n hx hb dX11_classOf_0 rfl (lv_at hl 1 rfl) ?_
  refine lv_iconst (v := (-1)) hx hb dX11_classOf_1 (by decide) ?_
  refine lv_icmp_ne (tgt := 9) hx hb dX11_classOf_2 (by decide) (fun c1 => ?_) (fun c1 => ?_)
  · replace h := h.2 (k_ne rfl (by decide) c1)
    refine lv_aload_n hx hb dX11_classOf_9 rfl (lv_at hl 0 rfl) ?_
    refine lv_bipush (v := 7) hx hb dX11_classOf_10 (by decide) ?_
    refine lv_aload_n hx hb dX11_classOf_12 rfl (lv_at hl 0 rfl) ?_
    refine lv_iload_n hx hb dX11_classOf_13 rfl (lv_at hl 1 rfl) ?_
    obtain ⟨hv2, h⟩ := h
    have hFc := cfree hR hA
    refine va_callq (va_runS (As := [.int x1]) (rest := [.ref (ad 25), .int 7, .ref (ad 25)]) ⟨hx, hb, hml, hown, hts⟩ (rX6_errorName l g ad s.heap.size S x1 hR.w  hv2) (va_cwS 1 hts (gd_S kw_134 kw_1214 kw_1207 kw_1213) rfl rfl rfl (by decide +kernel) ⟨Nat.le_of_ble_eq_true rfl, Nat.le_of_ble_eq_true rfl⟩) ⟨cblind, fun U hU hW9 => cmk hU hW9 hR hex hE hFc⟩ rfl rfl hl.1 rfl (lv_room (Nat.le_of_ble_eq_true rfl)) dX11_classOf_14 ⟨(show 0 + 0 ≤ KCC - qn S from hlg.c), (show 0 + 0 ≤ KSC - qu S from hlg.s)⟩) hR.sS (fun q _ h => hFc q h) hFc (fun r3 u9 t9 H1 locs ht9 hvm9 hw9 hB9 hz9 hk9 hS => ?_)
    have hR : RepC g ad A s S H1 locs := hR.call ht9 hB9 hR.w hS hFc
    obtain ⟨rfl, hT_r3⟩ := hw9
    clear hB9 hz9 hk9 hvm9 ht9 hS
    generalize H1 = H at hR ⊢
    replace h := h (hT_r3)
    obtain ⟨Q5, h0, h⟩ := h
    have hFc := cfree hR hA
    refine W_led2 (fun hL0 => ?_)
    refine va_calli (va_runV (As := [.ref (ad (fX6_errorName S x1))]) (rest := [.int 7, .ref (ad 25)]) ⟨hx, hb, hml, hown, hts⟩ (rX11_textEntry l g ad H S (fX6_errorName S x1) hR.w hT_r3 Q5 h0) (cwV 1 hts (gd_V kw_119 kw_266 kw_267 kw_83 kw_265) rfl rfl rfl (by decide +kernel) ⟨Nat.le_of_ble_eq_true rfl, Nat.le_of_ble_eq_true rfl⟩) ⟨cblindH, va_recv hR.K hR.P (ci := 10) (q0 := 25) rfl (hR.at50 (hR.w.2.1 _ finC_28).2.1), fun U hU hW9 => cmkH hU hW9 hR hex hE hFc⟩ rfl rfl hl.1 rfl (lv_room (Nat.le_of_ble_eq_true rfl)) dX11_classOf_17 ⟨(show 0 + (KCC - qn S) ≤ KCC - qn S from hlg.cm), (show 0 + (KSC - qu S) ≤ KSC - qu S from hlg.sm)⟩) hR.sS (fun q _ h => hFc q h) hFc (fun r6 S7 t9 H1 locs ht9 hvm9 hw9 hB9 hz9 hk9 hS => ?_)
    rcases S7 with ⟨S7, ak9⟩
    obtain ⟨hB9, dc9, ds9, hL9, hl9⟩ := hB9
    dsimp only at hw9 hB9 hl9
    rw [ht9] at hL9
    obtain ⟨hq8, hw9, hs9, hk8⟩ := hw9
    have hw8 := hR.w
    have hak := hak.tr hk8 hlg.2.2.1
    have hE := hE.ad hk8
    have hR : RepC g ak9 A s S7 H1 locs := hR.callH ht9 hB9 hw9 hS hFc
    have hsh := hsh.tr hs9
    refine W_tight2 (hL0.tr hL9).1 (hL0.tr hL9).2.1 ?_
    have hlg := hlg.call hl9
    replace h := h r6 S7 hq8 hw9 hs9
    have ea_0 : ak9 25 = ad 25 := hk8 _ (hw8.hd (hw8.2.1 _ finC_28).2.1 (by decide) (by decide))
    have hl : lv_has ls 2 [(0, .ref (ak9 25)), (1, .int x1)] := by simp only [ea_0]; exact hl
    refine W.eq (g2 := F0 m 20 ls (.int r6 :: [.int 7, .ref (ak9 25)])) (by first | (simp only [ea_0]; rfl) | simp only [ea_0]) ?_
    clear hB9 hz9 hk9 hvm9 ht9 hw9 hs9 hS hL0 hL9
    generalize H1 = H at hR ⊢
    generalize dc9 = dc_ak9, ds9 = ds_ak9 at hlg ⊢
    obtain ⟨Q10, h0, h⟩ := h
    have hFc := cfree hR hA
    refine W_led2 (fun hL0 => ?_)
    refine va_calli (va_runV (As := [.int 7, .int r6]) (rest := []) ⟨hx, hb, hml, hown, hts⟩ (rX11_pointerEntry l g ak9 H S7 (7 : Int32) r6 hR.w  Q10 h0) (cwV 2 hts (gd_V kw_121 kw_231 kw_232 kw_83 kw_230) rfl rfl rfl (by decide +kernel) ⟨Nat.le_of_ble_eq_true rfl, Nat.le_of_ble_eq_true rfl⟩) ⟨cblindH, va_recv hR.K hR.P (ci := 10) (q0 := 25) rfl (hR.at50 (hR.w.2.1 _ finC_28).2.1), fun U hU hW9 => cmkH hU hW9 hR hex hE hFc⟩ rfl rfl hl.1 rfl (lv_room (Nat.le_of_ble_eq_true rfl)) dX11_classOf_20 ⟨(show 0 + dc_ak9 + (KCC - qn S7) ≤ KCC - qn S from hlg.cm), (show 0 + ds_ak9 + (KSC - qu S7) ≤ KSC - qu S from hlg.sm)⟩) hR.sS (fun q _ h => hFc q h) hFc (fun r11 S12 t9 H1 locs ht9 hvm9 hw9 hB9 hz9 hk9 hS => ?_)
    rcases S12 with ⟨S12, ak14⟩
    obtain ⟨hB9, dc9, ds9, hL9, hl9⟩ := hB9
    dsimp only at hw9 hB9 hl9
    rw [ht9] at hL9
    obtain ⟨hq13, hw9, hs9, hk8⟩ := hw9
    have hw8 := hR.w
    have hak := hak.tr hk8 hlg.2.2.1
    have hE := hE.ad hk8
    have hR : RepC g ak14 A s S12 H1 locs := hR.callH ht9 hB9 hw9 hS hFc
    have hsh := hsh.tr hs9
    refine W_tight2 (hL0.tr hL9).1 (hL0.tr hL9).2.1 ?_
    have hlg := hlg.call hl9
    replace h := h r11 S12 hq13 hw9 hs9
    have ea_0 : ak14 25 = ak9 25 := hk8 _ (hw8.hd (hw8.2.1 _ finC_28).2.1 (by decide) (by decide))
    have hl : lv_has ls 2 [(0, .ref (ak14 25)), (1, .int x1)] := by simp only [ea_0]; exact hl
    clear hB9 hz9 hk9 hvm9 ht9 hw9 hs9 hS hL0 hL9
    generalize H1 = H at hR ⊢
    generalize dc9 = dc_ak14, ds9 = ds_ak14 at hlg ⊢
    refine W_led2 (fun hLd => ?_)
    refine W.widen (k := KCC - qn S) (n := KSC - qu S) hlg.c hlg.s ?_
    exact W.iret (v := r11) hx hb hr (fun t9 ht9 hW9 => ⟨⟨_, (S12, ak14), rfl, ⟨h, hR.w, hsh, hak⟩, ⟨⟨by rw [ht9]; exact hR.P, hR.D⟩, _, _, by rw [ht9]; exact hLd, hlg⟩⟩, hR.sS.F ht9⟩) hR.sS.2.2 dX11_classOf_23
  · replace h := h.1 (k_eq rfl (by decide) c1)
    refine lv_iconst (v := 0) hx hb dX11_classOf_5 (by decide) ?_
    refine lv_goto (tgt := 23) hx hb dX11_classOf_6 (by decide) ?_
    refine W_led2 (fun hLd => ?_)
    refine W.widen (k := KCC - qn S) (n := KSC - qu S) hlg.c hlg.s ?_
    exact W.iret (v := 0) hx hb hr (fun t9 ht9 hW9 => ⟨⟨_, (S, ad), rfl, ⟨h, hR.w, hsh, hak⟩, ⟨⟨by rw [ht9]; exact hR.P, hR.D⟩, _, _, by rw [ht9]; exact hLd, hlg⟩⟩, hR.sS.F ht9⟩) hR.sS.2.2 dX11_classOf_23
def w_X11_needOf_J110 (Q : Int32 → MS → Prop) (U110 : MS) (v110_2 : Int64) : Prop := (wfC U110 → (∃ Q12, wX11_fieldEntryOf U110 (v110_2.toInt32) Q12 ∧ ∀ r13 S14, Q12 r13 S14 → wfC S14 → shx U110 S14 → Q r13 S14))
def w_X11_needOf_J100 (Q : Int32 → MS → Prop) (U100 : MS) : Prop := (wfC U100 → Q (0 : Int32) U100)
def wX11_needOf (S : MS) (x1 : Int32) (Q : Int32 → MS → Prop) : Prop := ((qR S 25 15 = some (qO S 25 15)) ∧ (d_X8_argAt S (qO S 25 15) x1 ∧ (∀ a6 : Int64, a6 = (fX8_argAt S (qO S 25 15) x1) → ((qR S 25 15 = some (qO S 25 15)) ∧ (d_X8_opAt S (qO S 25 15) x1 ∧ (((fX8_opAt S (qO S 25 15) x1).toInt = 17 → (((lg_cmp a6 (((a6.toInt32).toInt16.toInt32).toInt64)).toInt = 0 → Q (0 : Int32) S) ∧ (¬ (lg_cmp a6 (((a6.toInt32).toInt16.toInt32).toInt64)).toInt = 0 → (∃ Q19, wX11_intEntry S (a6.toInt32) Q19 ∧ ∀ r20 S21, Q19 r20 S21 → wfC S21 → shx S S21 → Q r20 S21)))) ∧ (¬ (fX8_opAt S (qO S 25 15) x1).toInt = 17 → (((fX8_opAt S (qO S 25 15) x1).toInt = 20 → (((lg_cmp a6 0).toInt = 0 → w_X11_needOf_J100 Q S) ∧ (¬ (lg_cmp a6 0).toInt = 0 → (((lg_cmp a6 1).toInt = 0 → w_X11_needOf_J100 Q S) ∧ (¬ (lg_cmp a6 1).toInt = 0 → (∃ Q28, wX11_longEntry S a6 Q28 ∧ ∀ r29 S30, Q28 r29 S30 → wfC S30 → shx S S30 → Q r29 S30)))))) ∧ (¬ (fX8_opAt S (qO S 25 15) x1).toInt = 20 → (((fX8_opAt S (qO S 25 15) x1).toInt = 178 → w_X11_needOf_J110 Q S a6) ∧ (¬ (fX8_opAt S (qO S 25 15) x1).toInt = 178 → (((fX8_opAt S (qO S 25 15) x1).toInt = 179 → w_X11_needOf_J110 Q S a6) ∧ (¬ (fX8_opAt S (qO S 25 15) x1).toInt = 179 → (((fX8_opAt S (qO S 25 15) x1).toInt = 184 → (∃ Q33, wX11_methodEntryOf S (a6.toInt32) Q33 ∧ ∀ r34 S35, Q33 r34 S35 → wfC S35 → shx S S35 → Q r34 S35)) ∧ (¬ (fX8_opAt S (qO S 25 15) x1).toInt = 184 → Q (0 : Int32) S)))))))))))))))
set_option maxHeartbeats 2000000 in
set_option maxRecDepth 100000 in
theorem rX11_needOf (l : Launch) (g : Gr) (ad : Nat → Nat) (H0 : Heap) (S : MS) (x1 : Int32) (hw : wfC S) (Q : Int32 → MS → Prop) (h : wX11_needOf S x1 Q) : Met l yX11_needOf (wt yX11_needOf cX11_needOf 4 (some .int)) ({ frames := 6, cells := KCC - qn S, slots := KSC - qu S, locals := 152 }) (va_Pc [.ref (ad 25), .int x1] (st_CH g ad H0 S)) (va_Qi (fun (r : Int32) (u : MS × (Nat → Nat)) => Q r u.1 ∧ wfC u.1 ∧ shx S u.1 ∧ adk ad u.2 S) (fun (u : MS × (Nat → Nat)) (t : State) => qEHC g (va_A (WdC g ad S) H0.size) S H0 u t) (va_A (WdC g ad S) H0.size)) (KCC - qn S) (KSC - qu S) (va_A (WdC g ad S) H0.size) := by
  refine Met.ofW (cc := cX11_needOf) (maxL := 4) (ret := (some .int)) (by decide) rfl ?_
  intro p e s m args below meth c s₁ B hml hv
  obtain ⟨rfl, hH0, hsz, hP, hK, hD0, hex, hE⟩ := hv
  have hx := B.exec
  have hb := B.bytes
  have hr := B.returns
  have hts0 := atoms_spec (ws := wt yX11_needOf cX11_needOf 4 (some .int)) B.pre
  have hts : ∀ w ∈ tb, w.before _ s = true := fun w h => hts0 w (List.mem_cons_of_mem _ h)
  have hown : s.vm.findClass RX11 = some m.cls := findClass_of_methodNamed B.named
  subst hH0
  have hD := hD0.self (sz := s.heap.size)
  generalize hAe : va_A (WdC g ad S) s.heap.size = A at hD hE ⊢
  have hA : ∀ q : Nat, s.heap.size ≤ q → A q := fun q h => by rw [← hAe]; exact Or.inr h
  have hR : RepC g ad A s S s.heap [] := ⟨hK, hP, hD, va_S.rf, hw⟩
  clear hK hP hD hD0
  have hl := lv_entry ([.ref (ad 25), .int x1]) (n := 4) (Nat.le_of_ble_eq_true rfl)
  rw [lg_entry_eq]
  generalize (lg_sl ([.ref (ad 25), .int x1]) ++ List.replicate (4 - (lg_sl ([.ref (ad 25), .int x1])).length) Slot.unset).toArray = ls at hl ⊢
  have hlg : lgC S S 0 0 := lgC.rf
  have hak : adk ad ad S := adk.rf
  have hl : lv_has ls 4 [(0, .ref (ad 25)), (1, .int x1)] := hl
  have hsh : shx S S := shx.rf
  unfold wX11_needOf at h
  refine lv_aload_n hx hb dX11_needOf_0 rfl (lv_at hl 0 rfl) ?_
  obtain ⟨hv2, h⟩ := h
  have hT_b1 : qT S (qO S 25 15) = 47 := hR.w.ref hv2 (hR.w.2.1 _ finC_28).2.1
  refine va_get (D := rD g) (ci := 10) (v := .ref (ad (qO S 25 15))) (C := RX11) (T := TX11) (N := 18) hx hb hts inX11 hown hR.K hR.P 25 (hR.at50 (hR.w.2.1 _ finC_28).2.1) rfl 15 (by decide) (hts _ kw_84) (fun _ h9 => h9) (congrArg (fun z => some (vf ad z)) hv2) dX11_needOf_1 ?_
  refine lv_iload_n hx hb dX11_needOf_4 rfl (lv_at hl 1 rfl) ?_
  obtain ⟨hv3, h⟩ := h
  have hFc := cfree hR hA
  refine va_calll (va_runV (As := [.int x1]) (rest := []) ⟨hx, hb, hml, hown, hts⟩ (rX8_argAt l g ad s.heap.size S (qO S 25 15) x1 hR.w hT_b1 hv3) (cwV 1 hts (gd_V kw_197 kw_1476 kw_1477 kw_782 kw_1475) rfl rfl rfl (by decide +kernel) ⟨Nat.le_of_ble_eq_true rfl, Nat.le_of_ble_eq_true rfl⟩) ⟨cblind, va_recv hR.K hR.P (ci := 7) (q0 := (qO S 25 15)) rfl (hR.at47 hT_b1), fun U hU hW9 => cmk hU hW9 hR hex hE hFc⟩ rfl rfl hl.1 rfl (lv_room (Nat.le_of_ble_eq_true rfl)) dX11_needOf_5 ⟨(show 0 + 0 ≤ KCC - qn S from hlg.c), (show 0 + 0 ≤ KSC - qu S from hlg.s)⟩) hR.sS (fun q _ h => hFc q h) hFc (fun r4 u9 t9 H1 locs ht9 hvm9 hw9 hB9 hz9 hk9 hS => ?_)
  have hR : RepC g ad A s S H1 locs := hR.call ht9 hB9 hR.w hS hFc
  obtain rfl : r4 = (fX8_argAt S (qO S 25 15) x1) := hw9
  clear hB9 hz9 hk9 hvm9 ht9 hS
  generalize H1 = H at hR ⊢
  obtain ⟨a6, ea6⟩ : ∃ z, z = (fX8_argAt S (qO S 25 15) x1) := ⟨_, rfl⟩
  rw [← ea6]
  replace h := h a6 ea6
  refine lv_lstore_n (lv' := [(2, .long a6), (0, .ref (ad 25)), (1, .int x1)]) hx hb dX11_needOf_8 rfl hl (by decide) rfl (fun ls hl => ?_)
  refine lv_aload_n hx hb dX11_needOf_9 rfl (lv_at hl 1 rfl) ?_
  obtain ⟨hv8, h⟩ := h
  have hT_b7 : qT S (qO S 25 15) = 47 := hR.w.ref hv8 (hR.w.2.1 _ finC_28).2.1
  refine va_get (D := rD g) (ci := 10) (v := .ref (ad (qO S 25 15))) (C := RX11) (T := TX11) (N := 18) hx hb hts inX11 hown hR.K hR.P 25 (hR.at50 (hR.w.2.1 _ finC_28).2.1) rfl 15 (by decide) (hts _ kw_84) (fun _ h9 => h9) (congrArg (fun z => some (vf ad z)) hv8) dX11_needOf_10 ?_
  refine lv_iload_n hx hb dX11_needOf_13 rfl (lv_at hl 2 rfl) ?_
  obtain ⟨hv9, h⟩ := h
  have hFc := cfree hR hA
  refine va_calli (va_runV (As := [.int x1]) (rest := []) ⟨hx, hb, hml, hown, hts⟩ (rX8_opAt l g ad H.size S (qO S 25 15) x1 hR.w hT_b7 hv9) (cwV 1 hts (gd_V kw_189 kw_1513 kw_1514 kw_782 kw_1512) rfl rfl rfl (by decide +kernel) ⟨Nat.le_of_ble_eq_true rfl, Nat.le_of_ble_eq_true rfl⟩) ⟨cblind, va_recv hR.K hR.P (ci := 7) (q0 := (qO S 25 15)) rfl (hR.at47 hT_b7), fun U hU hW9 => cmk hU hW9 hR hex hE hFc⟩ rfl rfl hl.1 rfl (lv_room (Nat.le_of_ble_eq_true rfl)) dX11_needOf_14 ⟨(show 0 + 0 ≤ KCC - qn S from hlg.c), (show 0 + 0 ≤ KSC - qu S from hlg.s)⟩) hR.sS (fun q _ h => hFc q h) hFc (fun r10 u9 t9 H1 locs ht9 hvm9 hw9 hB9 hz9 hk9 hS => ?_)
  have hR : RepC g ad A s S H1 locs := hR.call ht9 hB9 hR.w hS hFc
  obtain rfl : r10 = (fX8_opAt S (qO S 25 15) x1) := hw9
  clear hB9 hz9 hk9 hvm9 ht9 hS
  generalize H1 = H at hR ⊢
  have J_110 : ∀ (ad110 : Nat → Nat) (dc110 ds110 : Nat) (U110 : MS) (v110_2 : Int64) (H : Heap) (locs : List Loc) (ls : Array Slot), w_X11_needOf_J110 Q U110 v110_2 → shx S U110 → lgC S U110 dc110 ds110 → adk ad ad110 S → ogC ad110 A s s.heap → RepC g ad110 A s U110 H locs → lv_has ls 4 [(0, .ref (ad110 25)), (2, .long v110_2)] → W p l e (headSpec (wt yX11_needOf cX11_needOf 4 (some .int)) ({ frames := 6, cells := KCC - qn S, slots := KSC - qu S, locals := 152 })).room s m ([.ref (ad 25), .int x1] : List Value).toArray below meth c H locs dc110 ds110 (MQ below (va_Qi (fun (r : Int32) (u : MS × (Nat → Nat)) => Q r u.1 ∧ wfC u.1 ∧ shx S u.1 ∧ adk ad u.2 S) (fun (u : MS × (Nat → Nat)) (t : State) => qEHC g A S s.heap u t) A) ([.ref (ad 25), .int x1] : List Value).toArray s (KCC - qn S) (KSC - qu S) A) (F0 m 110 ls []) := by
    intro ad110 dc110 ds110 U110 v110_2 H locs ls h hsh hlg hak hE hR hl
    unfold w_X11_needOf_J110 at h
    replace h := h hR.w
    refine lv_aload_n hx hb dX11_needOf_110 rfl (lv_at hl 0 rfl) ?_
    refine lv_lload_n hx hb dX11_needOf_111 rfl (lv_at hl 1 rfl) ?_
    refine lv_l2i (v := (v110_2.toInt32)) hx hb dX11_needOf_112 rfl ?_
    obtain ⟨Q12, h0, h⟩ := h
    have hFc := cfree hR hA
    refine W_led2 (fun hL0 => ?_)
    refine va_calli (va_runV (As := [.int (v110_2.toInt32)]) (rest := []) ⟨hx, hb, hml, hown, hts⟩ (rX11_fieldEntryOf l g ad110 H U110 (v110_2.toInt32) hR.w  Q12 h0) (cwV 1 hts (gd_V kw_225 kw_151 kw_152 kw_83 kw_150) rfl rfl rfl (by decide +kernel) ⟨Nat.le_of_ble_eq_true rfl, Nat.le_of_ble_eq_true rfl⟩) ⟨cblindH, va_recv hR.K hR.P (ci := 10) (q0 := 25) rfl (hR.at50 (hR.w.2.1 _ finC_28).2.1), fun U hU hW9 => cmkH hU hW9 hR hex hE hFc⟩ rfl rfl hl.1 rfl (lv_room (Nat.le_of_ble_eq_true rfl)) dX11_needOf_113 ⟨(show dc110 + (KCC - qn U110) ≤ KCC - qn S from hlg.cm), (show ds110 + (KSC - qu U110) ≤ KSC - qu S from hlg.sm)⟩) hR.sS (fun q _ h => hFc q h) hFc (fun r13 S14 t9 H1 locs ht9 hvm9 hw9 hB9 hz9 hk9 hS => ?_)
    rcases S14 with ⟨S14, ak16⟩
    obtain ⟨hB9, dc9, ds9, hL9, hl9⟩ := hB9
    dsimp only at hw9 hB9 hl9
    rw [ht9] at hL9
    obtain ⟨hq15, hw9, hs9, hk8⟩ := hw9
    have hw8 := hR.w
    have hak := hak.tr hk8 hlg.2.2.1
    have hE := hE.ad hk8
    have hR : RepC g ak16 A s S14 H1 locs := hR.callH ht9 hB9 hw9 hS hFc
    have hsh := hsh.tr hs9
    refine W_tight2 (hL0.tr hL9).1 (hL0.tr hL9).2.1 ?_
    have hlg := hlg.call hl9
    replace h := h r13 S14 hq15 hw9 hs9
    have ea_0 : ak16 25 = ad110 25 := hk8 _ (hw8.hd (hw8.2.1 _ finC_28).2.1 (by decide) (by decide))
    have hl : lv_has ls 4 [(0, .ref (ak16 25)), (2, .long v110_2)] := by simp only [ea_0]; exact hl
    clear hB9 hz9 hk9 hvm9 ht9 hw9 hs9 hS hL0 hL9
    generalize H1 = H at hR ⊢
    generalize dc9 = dc_ak16, ds9 = ds_ak16 at hlg ⊢
    refine W_led2 (fun hLd => ?_)
    refine W.widen (k := KCC - qn S) (n := KSC - qu S) hlg.c hlg.s ?_
    exact W.iret (v := r13) hx hb hr (fun t9 ht9 hW9 => ⟨⟨_, (S14, ak16), rfl, ⟨h, hR.w, hsh, hak⟩, ⟨⟨by rw [ht9]; exact hR.P, hR.D⟩, _, _, by rw [ht9]; exact hLd, hlg⟩⟩, hR.sS.F ht9⟩) hR.sS.2.2 dX11_needOf_116
  by_cases c9_17 : (fX8_opAt S (qO S 25 15) x1).toInt = 17
  · refine lv_lookup (off := 51) (tgt := 68) hx hb dX11_needOf_17 (by decide) (by rw [c9_17]; decide) (by decide) ?_
    replace h := h.1 (c9_17)
    refine lv_lload_n hx hb dX11_needOf_68 rfl (lv_at hl 0 rfl) ?_
    refine lv_lload_n hx hb dX11_needOf_69 rfl (lv_at hl 0 rfl) ?_
    refine lv_l2i (v := (a6.toInt32)) hx hb dX11_needOf_70 rfl ?_
    refine lv_i2s (v := ((a6.toInt32).toInt16.toInt32)) hx hb dX11_needOf_71 rfl ?_
    refine lv_i2l (v := (((a6.toInt32).toInt16.toInt32).toInt64)) hx hb dX11_needOf_72 rfl ?_
    refine W.lcmp hx hb dX11_needOf_73 ?_
    refine lv_topi (fun z17 ez17 => ?_)
    obtain rfl : z17 = (lg_cmp a6 (((a6.toInt32).toInt16.toInt32).toInt64)) := ez17
    refine lv_if_ne (tgt := 81) hx hb dX11_needOf_74 (by decide) (fun c18 => ?_) (fun c18 => ?_)
    · replace h := h.2 (k_ne rfl (by decide) c18)
      refine lv_aload_n hx hb dX11_needOf_81 rfl (lv_at hl 1 rfl) ?_
      refine lv_lload_n hx hb dX11_needOf_82 rfl (lv_at hl 0 rfl) ?_
      refine lv_l2i (v := (a6.toInt32)) hx hb dX11_needOf_83 rfl ?_
      obtain ⟨Q19, h0, h⟩ := h
      have hFc := cfree hR hA
      refine W_led2 (fun hL0 => ?_)
      refine va_calli (va_runV (As := [.int (a6.toInt32)]) (rest := []) ⟨hx, hb, hml, hown, hts⟩ (rX11_intEntry l g ad H S (a6.toInt32) hR.w  Q19 h0) (cwV 1 hts (gd_V kw_223 kw_171 kw_172 kw_83 kw_170) rfl rfl rfl (by decide +kernel) ⟨Nat.le_of_ble_eq_true rfl, Nat.le_of_ble_eq_true rfl⟩) ⟨cblindH, va_recv hR.K hR.P (ci := 10) (q0 := 25) rfl (hR.at50 (hR.w.2.1 _ finC_28).2.1), fun U hU hW9 => cmkH hU hW9 hR hex hE hFc⟩ rfl rfl hl.1 rfl (lv_room (Nat.le_of_ble_eq_true rfl)) dX11_needOf_84 ⟨(show 0 + (KCC - qn S) ≤ KCC - qn S from hlg.cm), (show 0 + (KSC - qu S) ≤ KSC - qu S from hlg.sm)⟩) hR.sS (fun q _ h => hFc q h) hFc (fun r20 S21 t9 H1 locs ht9 hvm9 hw9 hB9 hz9 hk9 hS => ?_)
      rcases S21 with ⟨S21, ak23⟩
      obtain ⟨hB9, dc9, ds9, hL9, hl9⟩ := hB9
      dsimp only at hw9 hB9 hl9
      rw [ht9] at hL9
      obtain ⟨hq22, hw9, hs9, hk8⟩ := hw9
      have hw8 := hR.w
      have hak := hak.tr hk8 hlg.2.2.1
      have hE := hE.ad hk8
      have hR : RepC g ak23 A s S21 H1 locs := hR.callH ht9 hB9 hw9 hS hFc
      have hsh := hsh.tr hs9
      refine W_tight2 (hL0.tr hL9).1 (hL0.tr hL9).2.1 ?_
      have hlg := hlg.call hl9
      replace h := h r20 S21 hq22 hw9 hs9
      have ea_0 : ak23 25 = ad 25 := hk8 _ (hw8.hd (hw8.2.1 _ finC_28).2.1 (by decide) (by decide))
      have hl : lv_has ls 4 [(2, .long a6), (0, .ref (ak23 25)), (1, .int x1)] := by simp only [ea_0]; exact hl
      clear hB9 hz9 hk9 hvm9 ht9 hw9 hs9 hS hL0 hL9
      generalize H1 = H at hR ⊢
      generalize dc9 = dc_ak23, ds9 = ds_ak23 at hlg ⊢
      refine W_led2 (fun hLd => ?_)
      refine W.widen (k := KCC - qn S) (n := KSC - qu S) hlg.c hlg.s ?_
      exact W.iret (v := r20) hx hb hr (fun t9 ht9 hW9 => ⟨⟨_, (S21, ak23), rfl, ⟨h, hR.w, hsh, hak⟩, ⟨⟨by rw [ht9]; exact hR.P, hR.D⟩, _, _, by rw [ht9]; exact hLd, hlg⟩⟩, hR.sS.F ht9⟩) hR.sS.2.2 dX11_needOf_87
    · replace h := h.1 (k_eq rfl (by decide) c18)
      refine lv_iconst (v := 0) hx hb dX11_needOf_77 (by decide) ?_
      refine lv_goto (tgt := 87) hx hb dX11_needOf_78 (by decide) ?_
      refine W_led2 (fun hLd => ?_)
      refine W.widen (k := KCC - qn S) (n := KSC - qu S) hlg.c hlg.s ?_
      exact W.iret (v := 0) hx hb hr (fun t9 ht9 hW9 => ⟨⟨_, (S, ad), rfl, ⟨h, hR.w, hsh, hak⟩, ⟨⟨by rw [ht9]; exact hR.P, hR.D⟩, _, _, by rw [ht9]; exact hLd, hlg⟩⟩, hR.sS.F ht9⟩) hR.sS.2.2 dX11_needOf_87
  replace h := h.2 c9_17
  by_cases c9_20 : (fX8_opAt S (qO S 25 15) x1).toInt = 20
  · refine lv_lookup (off := 71) (tgt := 88) hx hb dX11_needOf_17 (by decide) (by rw [c9_20]; decide) (by decide) ?_
    replace h := h.1 (c9_20)
    refine lv_lload_n hx hb dX11_needOf_88 rfl (lv_at hl 0 rfl) ?_
    refine lv_lconst (v := 0) hx hb dX11_needOf_89 (by decide) ?_
    refine W.lcmp hx hb dX11_needOf_90 ?_
    refine lv_topi (fun z24 ez24 => ?_)
    obtain rfl : z24 = (lg_cmp a6 0) := ez24
    have J_100 : ∀ (ad100 : Nat → Nat) (dc100 ds100 : Nat) (U100 : MS) (H : Heap) (locs : List Loc) (ls : Array Slot), w_X11_needOf_J100 Q U100 → shx S U100 → lgC S U100 dc100 ds100 → adk ad ad100 S → ogC ad100 A s s.heap → RepC g ad100 A s U100 H locs → lv_has ls 4 [] → W p l e (headSpec (wt yX11_needOf cX11_needOf 4 (some .int)) ({ frames := 6, cells := KCC - qn S, slots := KSC - qu S, locals := 152 })).room s m ([.ref (ad 25), .int x1] : List Value).toArray below meth c H locs dc100 ds100 (MQ below (va_Qi (fun (r : Int32) (u : MS × (Nat → Nat)) => Q r u.1 ∧ wfC u.1 ∧ shx S u.1 ∧ adk ad u.2 S) (fun (u : MS × (Nat → Nat)) (t : State) => qEHC g A S s.heap u t) A) ([.ref (ad 25), .int x1] : List Value).toArray s (KCC - qn S) (KSC - qu S) A) (F0 m 100 ls []) := by
      intro ad100 dc100 ds100 U100 H locs ls h hsh hlg hak hE hR hl
      unfold w_X11_needOf_J100 at h
      replace h := h hR.w
      refine lv_iconst (v := 0) hx hb dX11_needOf_100 (by decide) ?_
      refine lv_goto (tgt := 109) hx hb dX11_needOf_101 (by decide) ?_
      refine W_led2 (fun hLd => ?_)
      refine W.widen (k := KCC - qn S) (n := KSC - qu S) hlg.c hlg.s ?_
      exact W.iret (v := 0) hx hb hr (fun t9 ht9 hW9 => ⟨⟨_, (U100, ad100), rfl, ⟨h, hR.w, hsh, hak⟩, ⟨⟨by rw [ht9]; exact hR.P, hR.D⟩, _, _, by rw [ht9]; exact hLd, hlg⟩⟩, hR.sS.F ht9⟩) hR.sS.2.2 dX11_needOf_109
    refine lv_if_eq (tgt := 100) hx hb dX11_needOf_91 (by decide) (fun c25 => ?_) (fun c25 => ?_)
    · replace h := h.1 (k_eq rfl (by decide) c25)
      exact J_100 ad (0) (0) S _ _ ls h  hsh hlg hak hE hR (lv_sub hl [] rfl)
    · replace h := h.2 (k_ne rfl (by decide) c25)
      refine lv_lload_n hx hb dX11_needOf_94 rfl (lv_at hl 0 rfl) ?_
      refine lv_lconst (v := 1) hx hb dX11_needOf_95 (by decide) ?_
      refine W.lcmp hx hb dX11_needOf_96 ?_
      refine lv_topi (fun z26 ez26 => ?_)
      obtain rfl : z26 = (lg_cmp a6 1) := ez26
      refine lv_if_ne (tgt := 104) hx hb dX11_needOf_97 (by decide) (fun c27 => ?_) (fun c27 => ?_)
      · replace h := h.2 (k_ne rfl (by decide) c27)
        refine lv_aload_n hx hb dX11_needOf_104 rfl (lv_at hl 1 rfl) ?_
        refine lv_lload_n hx hb dX11_needOf_105 rfl (lv_at hl 0 rfl) ?_
        obtain ⟨Q28, h0, h⟩ := h
        have hFc := cfree hR hA
        refine W_led2 (fun hL0 => ?_)
        refine va_calli (va_runV (As := [.long a6]) (rest := []) ⟨hx, hb, hml, hown, hts⟩ (rX11_longEntry l g ad H S a6 hR.w  Q28 h0) (cwV 1 hts (gd_V kw_224 kw_211 kw_212 kw_83 kw_210) rfl rfl rfl (by decide +kernel) ⟨Nat.le_of_ble_eq_true rfl, Nat.le_of_ble_eq_true rfl⟩) ⟨cblindH, va_recv hR.K hR.P (ci := 10) (q0 := 25) rfl (hR.at50 (hR.w.2.1 _ finC_28).2.1), fun U hU hW9 => cmkH hU hW9 hR hex hE hFc⟩ rfl rfl hl.1 rfl (lv_room (Nat.le_of_ble_eq_true rfl)) dX11_needOf_106 ⟨(show 0 + (KCC - qn S) ≤ KCC - qn S from hlg.cm), (show 0 + (KSC - qu S) ≤ KSC - qu S from hlg.sm)⟩) hR.sS (fun q _ h => hFc q h) hFc (fun r29 S30 t9 H1 locs ht9 hvm9 hw9 hB9 hz9 hk9 hS => ?_)
        rcases S30 with ⟨S30, ak32⟩
        obtain ⟨hB9, dc9, ds9, hL9, hl9⟩ := hB9
        dsimp only at hw9 hB9 hl9
        rw [ht9] at hL9
        obtain ⟨hq31, hw9, hs9, hk8⟩ := hw9
        have hw8 := hR.w
        have hak := hak.tr hk8 hlg.2.2.1
        have hE := hE.ad hk8
        have hR : RepC g ak32 A s S30 H1 locs := hR.callH ht9 hB9 hw9 hS hFc
        have hsh := hsh.tr hs9
        refine W_tight2 (hL0.tr hL9).1 (hL0.tr hL9).2.1 ?_
        have hlg := hlg.call hl9
        replace h := h r29 S30 hq31 hw9 hs9
        have ea_0 : ak32 25 = ad 25 := hk8 _ (hw8.hd (hw8.2.1 _ finC_28).2.1 (by decide) (by decide))
        have hl : lv_has ls 4 [(2, .long a6), (0, .ref (ak32 25)), (1, .int x1)] := by simp only [ea_0]; exact hl
        clear hB9 hz9 hk9 hvm9 ht9 hw9 hs9 hS hL0 hL9
        generalize H1 = H at hR ⊢
        generalize dc9 = dc_ak32, ds9 = ds_ak32 at hlg ⊢
        refine W_led2 (fun hLd => ?_)
        refine W.widen (k := KCC - qn S) (n := KSC - qu S) hlg.c hlg.s ?_
        exact W.iret (v := r29) hx hb hr (fun t9 ht9 hW9 => ⟨⟨_, (S30, ak32), rfl, ⟨h, hR.w, hsh, hak⟩, ⟨⟨by rw [ht9]; exact hR.P, hR.D⟩, _, _, by rw [ht9]; exact hLd, hlg⟩⟩, hR.sS.F ht9⟩) hR.sS.2.2 dX11_needOf_109
      · replace h := h.1 (k_eq rfl (by decide) c27)
        exact J_100 ad (0) (0) S _ _ ls h  hsh hlg hak hE hR (lv_sub hl [] rfl)
  replace h := h.2 c9_20
  by_cases c9_178 : (fX8_opAt S (qO S 25 15) x1).toInt = 178
  · refine lv_lookup (off := 93) (tgt := 110) hx hb dX11_needOf_17 (by decide) (by rw [c9_178]; decide) (by decide) ?_
    replace h := h.1 (c9_178)
    exact J_110 ad (0) (0) S a6 _ _ ls h  hsh hlg hak hE hR (lv_sub hl [1, 0] rfl)
  replace h := h.2 c9_178
  by_cases c9_179 : (fX8_opAt S (qO S 25 15) x1).toInt = 179
  · refine lv_lookup (off := 93) (tgt := 110) hx hb dX11_needOf_17 (by decide) (by rw [c9_179]; decide) (by decide) ?_
    replace h := h.1 (c9_179)
    exact J_110 ad (0) (0) S a6 _ _ ls h  hsh hlg hak hE hR (lv_sub hl [1, 0] rfl)
  replace h := h.2 c9_179
  by_cases c9_184 : (fX8_opAt S (qO S 25 15) x1).toInt = 184
  · refine lv_lookup (off := 100) (tgt := 117) hx hb dX11_needOf_17 (by decide) (by rw [c9_184]; decide) (by decide) ?_
    replace h := h.1 (c9_184)
    refine lv_aload_n hx hb dX11_needOf_117 rfl (lv_at hl 1 rfl) ?_
    refine lv_lload_n hx hb dX11_needOf_118 rfl (lv_at hl 0 rfl) ?_
    refine lv_l2i (v := (a6.toInt32)) hx hb dX11_needOf_119 rfl ?_
    obtain ⟨Q33, h0, h⟩ := h
    have hFc := cfree hR hA
    refine W_led2 (fun hL0 => ?_)
    refine va_calli (va_runV (As := [.int (a6.toInt32)]) (rest := []) ⟨hx, hb, hml, hown, hts⟩ (rX11_methodEntryOf l g ad H S (a6.toInt32) hR.w  Q33 h0) (cwV 1 hts (gd_V kw_226 kw_214 kw_215 kw_83 kw_213) rfl rfl rfl (by decide +kernel) ⟨Nat.le_of_ble_eq_true rfl, Nat.le_of_ble_eq_true rfl⟩) ⟨cblindH, va_recv hR.K hR.P (ci := 10) (q0 := 25) rfl (hR.at50 (hR.w.2.1 _ finC_28).2.1), fun U hU hW9 => cmkH hU hW9 hR hex hE hFc⟩ rfl rfl hl.1 rfl (lv_room (Nat.le_of_ble_eq_true rfl)) dX11_needOf_120 ⟨(show 0 + (KCC - qn S) ≤ KCC - qn S from hlg.cm), (show 0 + (KSC - qu S) ≤ KSC - qu S from hlg.sm)⟩) hR.sS (fun q _ h => hFc q h) hFc (fun r34 S35 t9 H1 locs ht9 hvm9 hw9 hB9 hz9 hk9 hS => ?_)
    rcases S35 with ⟨S35, ak37⟩
    obtain ⟨hB9, dc9, ds9, hL9, hl9⟩ := hB9
    dsimp only at hw9 hB9 hl9
    rw [ht9] at hL9
    obtain ⟨hq36, hw9, hs9, hk8⟩ := hw9
    have hw8 := hR.w
    have hak := hak.tr hk8 hlg.2.2.1
    have hE := hE.ad hk8
    have hR : RepC g ak37 A s S35 H1 locs := hR.callH ht9 hB9 hw9 hS hFc
    have hsh := hsh.tr hs9
    refine W_tight2 (hL0.tr hL9).1 (hL0.tr hL9).2.1 ?_
    have hlg := hlg.call hl9
    replace h := h r34 S35 hq36 hw9 hs9
    have ea_0 : ak37 25 = ad 25 := hk8 _ (hw8.hd (hw8.2.1 _ finC_28).2.1 (by decide) (by decide))
    have hl : lv_has ls 4 [(2, .long a6), (0, .ref (ak37 25)), (1, .int x1)] := by simp only [ea_0]; exact hl
    clear hB9 hz9 hk9 hvm9 ht9 hw9 hs9 hS hL0 hL9
    generalize H1 = H at hR ⊢
    generalize dc9 = dc_ak37, ds9 = ds_ak37 at hlg ⊢
    refine W_led2 (fun hLd => ?_)
    refine W.widen (k := KCC - qn S) (n := KSC - qu S) hlg.c hlg.s ?_
    exact W.iret (v := r34) hx hb hr (fun t9 ht9 hW9 => ⟨⟨_, (S35, ak37), rfl, ⟨h, hR.w, hsh, hak⟩, ⟨⟨by rw [ht9]; exact hR.P, hR.D⟩, _, _, by rw [ht9]; exact hLd, hlg⟩⟩, hR.sS.F ht9⟩) hR.sS.2.2 dX11_needOf_123
  replace h := h.2 c9_184
  refine lv_lookup (off := 107) (tgt := 124) hx hb dX11_needOf_17 (by decide) (lx_cons c9_17 (lx_cons c9_20 (lx_cons c9_178 (lx_cons c9_179 (lx_cons c9_184 lx_nil))))) (by decide) ?_
  refine lv_iconst (v := 0) hx hb dX11_needOf_124 (by decide) ?_
  refine W_led2 (fun hLd => ?_)
  refine W.widen (k := KCC - qn S) (n := KSC - qu S) hlg.c hlg.s ?_
  exact W.iret (v := 0) hx hb hr (fun t9 ht9 hW9 => ⟨⟨_, (S, ad), rfl, ⟨h, hR.w, hsh, hak⟩, ⟨⟨by rw [ht9]; exact hR.P, hR.D⟩, _, _, by rw [ht9]; exact hLd, hlg⟩⟩, hR.sS.F ht9⟩) hR.sS.2.2 dX11_needOf_125
