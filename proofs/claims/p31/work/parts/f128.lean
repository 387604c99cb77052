def w_X12_write_J73 (Q : Int32 → MS → Prop) (U73 : MS) : Prop := (wfC U73 → Q (qI U73 3 1) U73)
def w_X12_write_L31 (Q : Int32 → MS → Prop) : Nat → MS → Int32 → Nat → Int32 → Prop
  | 0, _, _, _, _ => False
  | n31 + 1, U31, v31_1, v31_2, v31_3 => (wfC U31 → qT U31 v31_2 = 49 → (((qI U31 v31_2 8).toInt ≤ v31_3.toInt → (qT U31 3 = 40 → (∃ Q13, wX11_finish U31 3 Q13 ∧ ∀ S14, Q13 S14 → wfC S14 → shx U31 S14 → (∀ S17, S17 = wI S14 0 17 v31_1 → qT S14 0 = 51 → wfC S17 → w_X12_write_J73 Q S17)))) ∧ (¬ (qI U31 v31_2 8).toInt ≤ v31_3.toInt → (qT U31 v31_2 = 49 → (∃ Q18, wX10_rowAt U31 v31_2 v31_3 Q18 ∧ ∀ b22 S20, Q18 b22 S20 → wfC S20 → shy U31 S20 → (∀ z, b22 = some z → qT S20 z = 47) → (∃ Q23, wX11_addMethod S20 b22 Q23 ∧ ∀ S24, Q23 S24 → wfC S24 → shx S20 S24 → (∀ a27 : Int32, a27 = (v31_3 + Int32.ofInt 1) → (w_X12_write_L31 Q n31) S24 v31_1 v31_2 a27)))))))
def wX12_write (S : MS) (x1 : Int32) (Q : Int32 → MS → Prop) : Prop := (∃ Q1, wX12_soundUnitAt S x1 Q1 ∧ ∀ b5 S3, Q1 b5 S3 → wfC S3 → shy S S3 → (∀ z, b5 = some z → qT S3 z = 49) → ((b5 = none → Q (-1 : Int32) S3) ∧ (¬ b5 = none → ((x1.toInt = (qI S3 0 17).toInt → w_X12_write_J73 Q S3) ∧ (¬ x1.toInt = (qI S3 0 17).toInt → (qT S3 ((b5).getD 0) = 49 → (∃ Q8, wX11_begin S3 ((b5).getD 0) (0 : Int32) Q8 ∧ ∀ S9, Q8 S9 → wfC S9 → shx S3 S9 → (∃ n, w_X12_write_L31 Q n S9 x1 ((b5).getD 0) 0))))))))
set_option maxHeartbeats 2000000 in
set_option maxRecDepth 100000 in
theorem rX12_write (l : Launch) (g : Gr) (ad : Nat → Nat) (H0 : Heap) (S : MS) (x1 : Int32) (hw : wfC S) (Q : Int32 → MS → Prop) (h : wX12_write S x1 Q) : Met l yX12_write (wt yX12_write cX12_write 4 (some .int)) ({ frames := 9, cells := KCC - qn S, slots := KSC - qu S, locals := 222 }) (va_Pc [.ref (ad 0), .int x1] (st_CH g ad H0 S)) (va_Qi (fun (r : Int32) (u : MS × (Nat → Nat)) => Q r u.1 ∧ wfC u.1 ∧ shx S u.1 ∧ adk ad u.2 S) (fun (u : MS × (Nat → Nat)) (t : State) => qEHC g (va_A (WdC g ad S) H0.size) S H0 u t) (va_A (WdC g ad S) H0.size)) (KCC - qn S) (KSC - qu S) (va_A (WdC g ad S) H0.size) := by
  refine Met.ofW (cc := cX12_write) (maxL := 4) (ret := (some .int)) (by decide) rfl ?_
  intro p e s m args below meth c s₁ B hml hv
  obtain ⟨rfl, hH0, hsz, hP, hK, hD0, hex, hE⟩ := hv
  have hx := B.exec
  have hb := B.bytes
  have hr := B.returns
  have hts0 := atoms_spec (ws := wt yX12_write cX12_write 4 (some .int)) B.pre
  have hts : ∀ w ∈ tb, w.before _ s = true := fun w h => hts0 w (List.mem_cons_of_mem _ h)
  have hown : s.vm.findClass RX12 = some m.cls := findClass_of_methodNamed B.named
  subst hH0
  have hD := hD0.self (sz := s.heap.size)
  generalize hAe : va_A (WdC g ad S) s.heap.size = A at hD hE ⊢
  have hA : ∀ q : Nat, s.heap.size ≤ q → A q := fun q h => by rw [← hAe]; exact Or.inr h
  have hR : RepC g ad A s S s.heap [] := ⟨hK, hP, hD, va_S.rf, hw⟩
  clear hK hP hD hD0
  have hl := lv_entry ([.ref (ad 0), .int x1]) (n := 4) (Nat.le_of_ble_eq_true rfl)
  rw [lg_entry_eq]
  generalize (lg_sl ([.ref (ad 0), .int x1]) ++ List.replicate (4 - (lg_sl ([.ref (ad 0), .int x1])).length) Slot.unset).toArray = ls at hl ⊢
  have hlg : lgC S S 0 0 := lgC.rf
  have hak : adk ad ad S := adk.rf
  have hl : lv_has ls 4 [(0, .ref (ad 0)), (1, .int x1)] := hl
  have hsh : shx S S := shx.rf
  unfold wX12_write at h
  refine lv_aload_n hx hb dX12_write_0 rfl (lv_at hl 0 rfl) ?_
  refine lv_iload_n hx hb dX12_write_1 rfl (lv_at hl 1 rfl) ?_
  obtain ⟨Q1, h0, h⟩ := h
  have hFc := cfree hR hA
  refine va_callq (va_runV (As := [.int x1]) (rest := []) ⟨hx, hb, hml, hown, hts⟩ (rX12_soundUnitAt l g ad s.heap.size S x1 hR.w  Q1 h0) (cwV 1 hts (gd_V kw_316 kw_447 kw_448 kw_280 kw_446) rfl rfl rfl (by decide +kernel) ⟨Nat.le_of_ble_eq_true rfl, Nat.le_of_ble_eq_true rfl⟩) ⟨cblind, va_recv hR.K hR.P (ci := 11) (q0 := 0) rfl (hR.at51 hR.w.1), fun U hU hW9 => cmk hU hW9 hR hex hE hFc⟩ rfl rfl hl.1 rfl (lv_room (Nat.le_of_ble_eq_true rfl)) dX12_write_2 ⟨(show 0 + 0 ≤ KCC - qn S from hlg.c), (show 0 + 0 ≤ KSC - qu S from hlg.s)⟩) hR.sS (fun q _ h => hFc q h) hFc (fun r2 S3 t9 H1 locs ht9 hvm9 hw9 hB9 hz9 hk9 hS => ?_)
  obtain ⟨b5, rfl, hq4, hw9, hs9, hO_b5⟩ := hw9
  have hR : RepC g ad A s S3 H1 locs := hR.call ht9 hB9 hw9 hS hFc
  have hsh := hsh.tr hs9.1
  have hlg : lgC S S3 (0) (0) := hlg.same hs9
  replace h := h b5 S3 hq4 hw9 hs9 hO_b5
  clear hB9 hz9 hk9 hvm9 ht9 hw9 hs9 hS
  generalize H1 = H at hR ⊢
  rcases hq_b6 : b5 with _ | b6
  · skip
    replace h := h.1 (hq_b6)
    refine lv_astore_nN (lv' := [(2, .null), (0, .ref (ad 0)), (1, .int x1)]) hx hb dX12_write_5 rfl hl (by decide) rfl (fun ls hl => ?_)
    refine lv_aload_nN hx hb dX12_write_6 rfl (lv_at hl 0 rfl) ?_
    refine lv_ifnonnullN hx hb dX12_write_7 ?_
    refine lv_iconst (v := (-1)) hx hb dX12_write_10 (by decide) ?_
    refine W_led2 (fun hLd => ?_)
    refine W.widen (k := KCC - qn S) (n := KSC - qu S) hlg.c hlg.s ?_
    exact W.iret (v := (-1)) hx hb hr (fun t9 ht9 hW9 => ⟨⟨_, (S3, ad), rfl, ⟨h, hR.w, hsh, hak⟩, ⟨⟨by rw [ht9]; exact hR.P, hR.D⟩, _, _, by rw [ht9]; exact hLd, hlg⟩⟩, hR.sS.F ht9⟩) hR.sS.2.2 dX12_write_11
  · have hg_b6 : b6 = (b5).getD 0 := by rw [hq_b6]; rfl
    have hT_b6 : qT S3 ((b5).getD 0) = 49 := hg_b6 ▸ hO_b5 _ hq_b6
    subst hg_b6
    replace h := h.2 (fun q9 => Option.some_ne_none _ (hq_b6.symm.trans q9))
    refine lv_astore_n (lv' := [(2, .ref (ad ((b5).getD 0))), (0, .ref (ad 0)), (1, .int x1)]) hx hb dX12_write_5 rfl hl (by decide) rfl (fun ls hl => ?_)
    refine lv_aload_n hx hb dX12_write_6 rfl (lv_at hl 0 rfl) ?_
    refine lv_ifnonnull (tgt := 12) hx hb dX12_write_7 (by decide) ?_
    refine lv_iload_n hx hb dX12_write_12 rfl (lv_at hl 2 rfl) ?_
    refine lv_aload_n hx hb dX12_write_13 rfl (lv_at hl 1 rfl) ?_
    refine va_get (D := rD g) (ci := 11) (v := .int (qI S3 0 17)) (C := RX12) (T := TX12) (N := 18) hx hb hts inX12 hown hR.K hR.P 0 (hR.at51 hR.w.1) rfl 17 (by decide) (hts _ kw_406) (fun _ h9 => h9) rfl dX12_write_14 ?_
    have J_73 : ∀ (ad73 : Nat → Nat) (dc73 ds73 : Nat) (U73 : MS) (H : Heap) (locs : List Loc) (ls : Array Slot), w_X12_write_J73 Q U73 → shx S U73 → lgC S U73 dc73 ds73 → adk ad ad73 S → ogC ad73 A s s.heap → RepC g ad73 A s U73 H locs → lv_has ls 4 [(0, .ref (ad73 0))] → W p l e (headSpec (wt yX12_write cX12_write 4 (some .int)) ({ frames := 9, cells := KCC - qn S, slots := KSC - qu S, locals := 222 })).room s m ([.ref (ad 0), .int x1] : List Value).toArray below meth c H locs dc73 ds73 (MQ below (va_Qi (fun (r : Int32) (u : MS × (Nat → Nat)) => Q r u.1 ∧ wfC u.1 ∧ shx S u.1 ∧ adk ad u.2 S) (fun (u : MS × (Nat → Nat)) (t : State) => qEHC g A S s.heap u t) A) ([.ref (ad 0), .int x1] : List Value).toArray s (KCC - qn S) (KSC - qu S) A) (F0 m 73 ls []) := by
      intro ad73 dc73 ds73 U73 H locs ls h hsh hlg hak hE hR hl
      unfold w_X12_write_J73 at h
      replace h := h hR.w
      refine lv_aload_n hx hb dX12_write_73 rfl (lv_at hl 0 rfl) ?_
      refine va_get (D := rD g) (ci := 11) (v := .ref (ad73 3)) (C := RX12) (T := TX12) (N := 18) hx hb hts inX12 hown hR.K hR.P 0 (hR.at51 hR.w.1) rfl 1 (by decide) (hts _ kw_310) (fun _ h9 => h9) (congrArg (fun z => some (vf ad73 z)) (hR.w.2.1 _ finC_23).1) dX12_write_74 ?_
      refine va_get (D := rD g) (ci := 0) (v := .int (qI U73 3 1)) (C := RX0) (T := TX0) (N := 2) hx hb hts inX0 hown hR.K hR.P 3 (hR.at40 (hR.w.2.1 _ finC_23).2.1) rfl 1 (by decide) (hts _ kw_311) (fun _ h9 => h9) rfl dX12_write_77 ?_
      refine W_led2 (fun hLd => ?_)
      refine W.widen (k := KCC - qn S) (n := KSC - qu S) hlg.c hlg.s ?_
      exact W.iret (v := (qI U73 3 1)) hx hb hr (fun t9 ht9 hW9 => ⟨⟨_, (U73, ad73), rfl, ⟨h, hR.w, hsh, hak⟩, ⟨⟨by rw [ht9]; exact hR.P, hR.D⟩, _, _, by rw [ht9]; exact hLd, hlg⟩⟩, hR.sS.F ht9⟩) hR.sS.2.2 dX12_write_80
    refine lv_icmp_eq (tgt := 73) hx hb dX12_write_17 (by decide) (fun c7 => ?_) (fun c7 => ?_)
    · replace h := h.1 (k_eq rfl rfl c7)
      exact J_73 ad (0) (0) S3 _ _ ls h  hsh hlg hak hE hR (lv_sub hl [1] rfl)
    · replace h := h.2 (k_ne rfl rfl c7)
      refine lv_aload_n hx hb dX12_write_20 rfl (lv_at hl 1 rfl) ?_
      refine va_get (D := rD g) (ci := 11) (v := .ref (ad 25)) (C := RX12) (T := TX12) (N := 18) hx hb hts inX12 hown hR.K hR.P 0 (hR.at51 hR.w.1) rfl 6 (by decide) (hts _ kw_321) (fun _ h9 => h9) (congrArg (fun z => some (vf ad z)) (hR.w.2.1 _ finC_28).1) dX12_write_21 ?_
      refine lv_aload_n hx hb dX12_write_24 rfl (lv_at hl 0 rfl) ?_
      refine lv_iconst (v := 0) hx hb dX12_write_25 (by decide) ?_
      replace h := h (hT_b6)
      obtain ⟨Q8, h0, h⟩ := h
      have hFc := cfree hR hA
      refine W_led2 (fun hL0 => ?_)
      refine va_callv (va_runV (As := [.ref (ad ((b5).getD 0)), .int 0]) (rest := []) ⟨hx, hb, hml, hown, hts⟩ (rX11_begin l g ad H S3 ((b5).getD 0) (0 : Int32) hR.w hT_b6 Q8 h0) (cwV 2 hts (gd_V kw_322 kw_111 kw_112 kw_83 kw_110) rfl rfl rfl (by decide +kernel) ⟨Nat.le_of_ble_eq_true rfl, Nat.le_of_ble_eq_true rfl⟩) ⟨cblindH, va_recv hR.K hR.P (ci := 10) (q0 := 25) rfl (hR.at50 (hR.w.2.1 _ finC_28).2.1), fun U hU hW9 => cmkH hU hW9 hR hex hE hFc⟩ rfl rfl hl.1 rfl (lv_room (Nat.le_of_ble_eq_true rfl)) dX12_write_26 ⟨(show 0 + (KCC - qn S3) ≤ KCC - qn S from hlg.cm), (show 0 + (KSC - qu S3) ≤ KSC - qu S from hlg.sm)⟩) hR.sS (fun q _ h => hFc q h) hFc (fun  S9 t9 H1 locs ht9 hvm9 hw9 hB9 hz9 hk9 hS => ?_)
      rcases S9 with ⟨S9, ak11⟩
      obtain ⟨hB9, dc9, ds9, hL9, hl9⟩ := hB9
      dsimp only at hw9 hB9 hl9
      rw [ht9] at hL9
      obtain ⟨hq10, hw9, hs9, hk8⟩ := hw9
      have hw8 := hR.w
      have hak := hak.tr hk8 hlg.2.2.1
      have hE := hE.ad hk8
      have hR : RepC g ak11 A s S9 H1 locs := hR.callH ht9 hB9 hw9 hS hFc
      have hsh := hsh.tr hs9
      refine W_tight2 (hL0.tr hL9).1 (hL0.tr hL9).2.1 ?_
      have hlg := hlg.call hl9
      replace h := h  S9 hq10 hw9 hs9
      have ea_0 : ak11 ((b5).getD 0) = ad ((b5).getD 0) := hk8 _ (hw8.hd hT_b6 (by decide) (by decide))
      have ea_1 : ak11 0 = ad 0 := hk8 _ (hw8.hd hw8.1 (by decide) (by decide))
      have hl : lv_has ls 4 [(2, .ref (ak11 ((b5).getD 0))), (0, .ref (ak11 0)), (1, .int x1)] := by simp only [ea_0, ea_1]; exact hl
      have hT_b6 := hs9.T hT_b6 (by decide)
      clear hB9 hz9 hk9 hvm9 ht9 hw9 hs9 hS hL0 hL9
      generalize H1 = H at hR ⊢
      generalize dc9 = dc_ak11, ds9 = ds_ak11 at hlg ⊢
      refine lv_iconst (v := 0) hx hb dX12_write_29 (by decide) ?_
      refine lv_istore_n (lv' := [(3, .int 0), (2, .ref (ak11 ((b5).getD 0))), (0, .ref (ak11 0)), (1, .int x1)]) hx hb dX12_write_30 rfl hl (by decide) rfl (fun ls hl => ?_)
      have J_31 : ∀ (n31 : Nat) (ad31 : Nat → Nat) (dc31 ds31 : Nat) (U31 : MS) (v31_1 : Int32) (v31_2 : Nat) (v31_3 : Int32) (H : Heap) (locs : List Loc) (ls : Array Slot), w_X12_write_L31 Q n31 U31 v31_1 v31_2 v31_3 → qT U31 v31_2 = 49 → shx S U31 → lgC S U31 dc31 ds31 → adk ad ad31 S → ogC ad31 A s s.heap → RepC g ad31 A s U31 H locs → lv_has ls 4 [(0, .ref (ad31 0)), (1, .int v31_1), (2, .ref (ad31 v31_2)), (3, .int v31_3)] → W p l e (headSpec (wt yX12_write cX12_write 4 (some .int)) ({ frames := 9, cells := KCC - qn S, slots := KSC - qu S, locals := 222 })).room s m ([.ref (ad 0), .int x1] : List Value).toArray below meth c H locs dc31 ds31 (MQ below (va_Qi (fun (r : Int32) (u : MS × (Nat → Nat)) => Q r u.1 ∧ wfC u.1 ∧ shx S u.1 ∧ adk ad u.2 S) (fun (u : MS × (Nat → Nat)) (t : State) => qEHC g A S s.heap u t) A) ([.ref (ad 0), .int x1] : List Value).toArray s (KCC - qn S) (KSC - qu S) A) (F0 m 31 ls []) := by
        intro n31
        induction n31 with
        | zero => intro ad31 dc31 ds31 U31 v31_1 v31_2 v31_3 H locs ls h hT_v31_2 hsh hlg hak hE hR hl; unfold w_X12_write_L31 at h; exact h.elim
        | succ n31 ih_31 =>
          intro ad31 dc31 ds31 U31 v31_1 v31_2 v31_3 H locs ls h hT_v31_2 hsh hlg hak hE hR hl
          unfold w_X12_write_L31 at h
          replace h := h hR.w hT_v31_2
          refine lv_iload_n hx hb dX12_write_31 rfl (lv_at hl 3 rfl) ?_
          refine lv_aload_n hx hb dX12_write_32 rfl (lv_at hl 2 rfl) ?_
          refine va_get (D := rD g) (ci := 9) (v := .int (qI U31 v31_2 8)) (C := RX10) (T := TX10) (N := 18) hx hb hts inX10 hown hR.K hR.P v31_2 (hR.at49 hT_v31_2) rfl 8 (by decide) (hts _ kw_323) (fun _ h9 => h9) rfl dX12_write_33 ?_
          refine lv_icmp_ge (tgt := 57) hx hb dX12_write_36 (by decide) (fun c12 => ?_) (fun c12 => ?_)
          · replace h := h.1 (k_le rfl rfl c12)
            refine lv_aload_n hx hb dX12_write_57 rfl (lv_at hl 0 rfl) ?_
            refine va_get (D := rD g) (ci := 11) (v := .ref (ad31 25)) (C := RX12) (T := TX12) (N := 18) hx hb hts inX12 hown hR.K hR.P 0 (hR.at51 hR.w.1) rfl 6 (by decide) (hts _ kw_321) (fun _ h9 => h9) (congrArg (fun z => some (vf ad31 z)) (hR.w.2.1 _ finC_28).1) dX12_write_58 ?_
            refine lv_aload_n hx hb dX12_write_61 rfl (lv_at hl 0 rfl) ?_
            refine va_get (D := rD g) (ci := 11) (v := .ref (ad31 3)) (C := RX12) (T := TX12) (N := 18) hx hb hts inX12 hown hR.K hR.P 0 (hR.at51 hR.w.1) rfl 1 (by decide) (hts _ kw_310) (fun _ h9 => h9) (congrArg (fun z => some (vf ad31 z)) (hR.w.2.1 _ finC_23).1) dX12_write_62 ?_
            replace h := h ((hR.w.2.1 _ finC_23).2.1)
            obtain ⟨Q13, h0, h⟩ := h
            have hFc := cfree hR hA
            refine W_led2 (fun hL0 => ?_)
            refine va_callv (va_runV (As := [.ref (ad31 3)]) (rest := []) ⟨hx, hb, hml, hown, hts⟩ (rX11_finish l g ad31 H U31 3 hR.w (hR.w.2.1 _ finC_23).2.1 Q13 h0) (cwV 1 hts (gd_V kw_331 kw_155 kw_156 kw_83 kw_154) rfl rfl rfl (by decide +kernel) ⟨Nat.le_of_ble_eq_true rfl, Nat.le_of_ble_eq_true rfl⟩) ⟨cblindH, va_recv hR.K hR.P (ci := 10) (q0 := 25) rfl (hR.at50 (hR.w.2.1 _ finC_28).2.1), fun U hU hW9 => cmkH hU hW9 hR hex hE hFc⟩ rfl rfl hl.1 rfl (lv_room (Nat.le_of_ble_eq_true rfl)) dX12_write_65 ⟨(show dc31 + (KCC - qn U31) ≤ KCC - qn S from hlg.cm), (show ds31 + (KSC - qu U31) ≤ KSC - qu S from hlg.sm)⟩) hR.sS (fun q _ h => hFc q h) hFc (fun  S14 t9 H1 locs ht9 hvm9 hw9 hB9 hz9 hk9 hS => ?_)
            rcases S14 with ⟨S14, ak16⟩
            obtain ⟨hB9, dc9, ds9, hL9, hl9⟩ := hB9
            dsimp only at hw9 hB9 hl9
            rw [ht9] at hL9
            obtain ⟨hq15, hw9, hs9, hk8⟩ := hw9
            have hw8 := hR.w
            have hak := hak.tr hk8 hlg.2.2.1
            have hE := hE.ad hk8
            have hR : RepC g ak16 A s S14 H1 locs := hR.callH ht9 hB9 hw9 hS hFc
            have hsh := hsh.tr hs9
            refine W_tight2 (hL0.tr hL9).1 (hL0.tr hL9).2.1 ?_
            have hlg := hlg.call hl9
            replace h := h  S14 hq15 hw9 hs9
            have ea_0 : ak16 0 = ad31 0 := hk8 _ (hw8.hd hw8.1 (by decide) (by decide))
            have ea_1 : ak16 v31_2 = ad31 v31_2 := hk8 _ (hw8.hd hT_v31_2 (by decide) (by decide))
            have hl : lv_has ls 4 [(0, .ref (ak16 0)), (1, .int v31_1), (2, .ref (ak16 v31_2)), (3, .int v31_3)] := by simp only [ea_0, ea_1]; exact hl
            have hT_v31_2 := hs9.T hT_v31_2 (by decide)
            clear hB9 hz9 hk9 hvm9 ht9 hw9 hs9 hS hL0 hL9
            generalize H1 = H at hR ⊢
            generalize dc9 = dc_ak16, ds9 = ds_ak16 at hlg ⊢
            refine lv_aload_n hx hb dX12_write_68 rfl (lv_at hl 0 rfl) ?_
            refine lv_iload_n hx hb dX12_write_69 rfl (lv_at hl 1 rfl) ?_
            refine va_put (D := rD g) (ci := 11) (v := .int v31_1) (ty := .int) (C := RX12) (T := TX12) (N := 18) hx hb hts inX12 tyX12 tyX12_ok nmX12 hown hR.K hR.P hR.D hR.sS 0 (hR.at51 hR.w.1) rfl 17 (by decide) (hts _ kw_406) (fun _ h9 => h9) rfl (by decide +kernel) rfl rfl (Nat.le_of_ble_eq_true rfl) dX12_write_70 (fun H locs hP hD hS => ?_)
            have hTk9 : qT S14 0 = 51 := hR.w.1
            have hR : RepC g ak16 A s (wI S14 0 17 v31_1) H locs := hR.pI51 hR.w.1 FX12_s17 (fun q9 => absurd q9 (by decide)) hP hD hS
            obtain ⟨S17, eS17⟩ : ∃ z, z = wI S14 0 17 v31_1 := ⟨_, rfl⟩
            rw [← eS17] at hR
            replace h := h S17 eS17 hTk9 hR.w
            have hT_v31_2 : qT S17 v31_2 = 49 := (congrArg (fun z => qT z v31_2) eS17).trans hT_v31_2
            have hsh : shx S S17 := by rw [eS17]; exact hsh
            have hlg : lgC S S17 (dc31 + dc_ak16) (ds31 + ds_ak16) := by rw [eS17]; exact hlg
            exact J_73 ak16 (dc31 + dc_ak16) (ds31 + ds_ak16) S17 _ _ ls h  hsh hlg hak hE hR (lv_sub hl [0] rfl)
          · replace h := h.2 (k_nle rfl rfl c12)
            refine lv_aload_n hx hb dX12_write_39 rfl (lv_at hl 0 rfl) ?_
            refine va_get (D := rD g) (ci := 11) (v := .ref (ad31 25)) (C := RX12) (T := TX12) (N := 18) hx hb hts inX12 hown hR.K hR.P 0 (hR.at51 hR.w.1) rfl 6 (by decide) (hts _ kw_321) (fun _ h9 => h9) (congrArg (fun z => some (vf ad31 z)) (hR.w.2.1 _ finC_28).1) dX12_write_40 ?_
            refine lv_aload_n hx hb dX12_write_43 rfl (lv_at hl 2 rfl) ?_
            refine lv_iload_n hx hb dX12_write_44 rfl (lv_at hl 3 rfl) ?_
            replace h := h (hT_v31_2)
            obtain ⟨Q18, h0, h⟩ := h
            have hFc := cfree hR hA
            refine va_callq (va_runV (As := [.int v31_3]) (rest := [.ref (ad31 25)]) ⟨hx, hb, hml, hown, hts⟩ (rX10_rowAt l g ad31 H.size U31 v31_2 v31_3 hR.w hT_v31_2 Q18 h0) (cwV 1 hts (gd_V kw_324 kw_70 kw_71 kw_34 kw_69) rfl rfl rfl (by decide +kernel) ⟨Nat.le_of_ble_eq_true rfl, Nat.le_of_ble_eq_true rfl⟩) ⟨cblind, va_recv hR.K hR.P (ci := 9) (q0 := v31_2) rfl (hR.at49 hT_v31_2), fun U hU hW9 => cmk hU hW9 hR hex hE hFc⟩ rfl rfl hl.1 rfl (lv_room (Nat.le_of_ble_eq_true rfl)) dX12_write_45 ⟨(show dc31 + 0 ≤ KCC - qn S from hlg.c), (show ds31 + 0 ≤ KSC - qu S from hlg.s)⟩) hR.sS (fun q _ h => hFc q h) hFc (fun r19 S20 t9 H1 locs ht9 hvm9 hw9 hB9 hz9 hk9 hS => ?_)
            obtain ⟨b22, rfl, hq21, hw9, hs9, hO_b22⟩ := hw9
            have hR : RepC g ad31 A s S20 H1 locs := hR.call ht9 hB9 hw9 hS hFc
            have hsh := hsh.tr hs9.1
            have hlg : lgC S S20 (dc31) (ds31) := hlg.same hs9
            replace h := h b22 S20 hq21 hw9 hs9 hO_b22
            have hT_v31_2 := hs9.T hT_v31_2 (by decide)
            clear hB9 hz9 hk9 hvm9 ht9 hw9 hs9 hS
            generalize H1 = H at hR ⊢
            obtain ⟨Q23, h0, h⟩ := h
            have hFc := cfree hR hA
            refine W_led2 (fun hL0 => ?_)
            refine va_callv (va_runV (As := [vf ad31 b22]) (rest := []) ⟨hx, hb, hml, hown, hts⟩ (rX11_addMethod l g ad31 H S20 b22 hR.w hO_b22 Q23 h0) (cwV 1 hts (gd_V kw_328 kw_81 kw_82 kw_83 kw_80) rfl rfl rfl (by decide +kernel) ⟨Nat.le_of_ble_eq_true rfl, Nat.le_of_ble_eq_true rfl⟩) ⟨cblindH, va_recv hR.K hR.P (ci := 10) (q0 := 25) rfl (hR.at50 (hR.w.2.1 _ finC_28).2.1), fun U hU hW9 => cmkH hU hW9 hR hex hE hFc⟩ rfl rfl hl.1 rfl (lv_room (Nat.le_of_ble_eq_true rfl)) dX12_write_48 ⟨(show dc31 + (KCC - qn S20) ≤ KCC - qn S from hlg.cm), (show ds31 + (KSC - qu S20) ≤ KSC - qu S from hlg.sm)⟩) hR.sS (fun q _ h => hFc q h) hFc (fun  S24 t9 H1 locs ht9 hvm9 hw9 hB9 hz9 hk9 hS => ?_)
            rcases S24 with ⟨S24, ak26⟩
            obtain ⟨hB9, dc9, ds9, hL9, hl9⟩ := hB9
            dsimp only at hw9 hB9 hl9
            rw [ht9] at hL9
            obtain ⟨hq25, hw9, hs9, hk8⟩ := hw9
            have hw8 := hR.w
            have hak := hak.tr hk8 hlg.2.2.1
            have hE := hE.ad hk8
            have hR : RepC g ak26 A s S24 H1 locs := hR.callH ht9 hB9 hw9 hS hFc
            have hsh := hsh.tr hs9
            refine W_tight2 (hL0.tr hL9).1 (hL0.tr hL9).2.1 ?_
            have hlg := hlg.call hl9
            replace h := h  S24 hq25 hw9 hs9
            have ea_0 : ak26 0 = ad31 0 := hk8 _ (hw8.hd hw8.1 (by decide) (by decide))
            have ea_1 : ak26 v31_2 = ad31 v31_2 := hk8 _ (hw8.hd hT_v31_2 (by decide) (by decide))
            have hl : lv_has ls 4 [(0, .ref (ak26 0)), (1, .int v31_1), (2, .ref (ak26 v31_2)), (3, .int v31_3)] := by simp only [ea_0, ea_1]; exact hl
            have hT_v31_2 := hs9.T hT_v31_2 (by decide)
            clear hB9 hz9 hk9 hvm9 ht9 hw9 hs9 hS hL0 hL9
            generalize H1 = H at hR ⊢
            generalize dc9 = dc_ak26, ds9 = ds_ak26 at hlg ⊢
            obtain ⟨a27, ea27⟩ : ∃ z, z = (v31_3 + Int32.ofInt 1) := ⟨_, rfl⟩
            replace h := h a27 ea27
            refine lv_iinc (v := a27) (lv' := [(3, .int a27), (0, .ref (ak26 0)), (1, .int v31_1), (2, .ref (ak26 v31_2))]) hx hb dX12_write_51 hl (k := 3) rfl ea27.symm (by decide) rfl (fun ls hl => ?_)
            refine lv_goto (tgt := 31) hx hb dX12_write_54 (by decide) ?_
            exact ih_31 ak26 (dc31 + dc_ak26) (ds31 + ds_ak26) S24 v31_1 v31_2 a27 _ _ ls h hT_v31_2 hsh hlg hak hE hR (lv_sub hl [1, 2, 3, 0] rfl)
      obtain ⟨n9, h⟩ := h
      exact J_31 n9 ak11 (0 + dc_ak11) (0 + ds_ak11) S9 x1 ((b5).getD 0) 0 _ _ ls h hT_b6 hsh hlg hak hE hR (lv_sub hl [2, 3, 1, 0] rfl)
def wX12_blocks (S : MS) (x1 : Int32) (x2 : Int32) (Q : Int32 → MS → Prop) : Prop := (∃ Q1, wX12_rowAt S x1 x2 Q1 ∧ ∀ b5 S3, Q1 b5 S3 → wfC S3 → shy S S3 → (∀ z, b5 = some z → qT S3 z = 47) → ((b5 = none → Q (-1 : Int32) S3) ∧ (¬ b5 = none → (∃ Q7, wX3_draw S3 (some ((b5).getD 0)) Q7 ∧ ∀ S8, Q7 S8 → wfC S8 → shx S3 S8 → Q (qI S8 52 1) S8))))
set_option maxHeartbeats 2000000 in
set_option maxRecDepth 100000 in
theorem rX12_blocks (l : Launch) (g : Gr) (ad : Nat → Nat) (H0 : Heap) (S : MS) (x1 : Int32) (x2 : Int32) (hw : wfC S) (Q : Int32 → MS → Prop) (h : wX12_blocks S x1 x2 Q) : Met l yX12_blocks (wt yX12_blocks cX12_blocks 4 (some .int)) ({ frames := 5, cells := KCC - qn S, slots := KSC - qu S, locals := 131 }) (va_Pc [.ref (ad 0), .int x1, .int x2] (st_CH g ad H0 S)) (va_Qi (fun (r : Int32) (u : MS × (Nat → Nat)) => Q r u.1 ∧ wfC u.1 ∧ shx S u.1 ∧ adk ad u.2 S) (fun (u : MS × (Nat → Nat)) (t : State) => qEHC g (va_A (WdC g ad S) H0.size) S H0 u t) (va_A (WdC g ad S) H0.size)) (KCC - qn S) (KSC - qu S) (va_A (WdC g ad S) H0.size) := by
  refine Met.ofW (cc := cX12_blocks) (maxL := 4) (ret := (some .int)) (by decide) rfl ?_
  intro p e s m args below meth c s₁ B hml hv
  obtain ⟨rfl, hH0, hsz, hP, hK, hD0, hex, hE⟩ := hv
  have hx := B.exec
  have hb := B.bytes
  have hr := B.returns
  have hts0 := atoms_spec (ws := wt yX12_blocks cX12_blocks 4 (some .int)) B.pre
  have hts : ∀ w ∈ tb, w.before _ s = true := fun w h => hts0 w (List.mem_cons_of_mem _ h)
  have hown : s.vm.findClass RX12 = some m.cls := findClass_of_methodNamed B.named
  subst hH0
  have hD := hD0.self (sz := s.heap.size)
  generalize hAe : va_A (WdC g ad S) s.heap.size = A at hD hE ⊢
  have hA : ∀ q : Nat, s.heap.size ≤ q → A q := fun q h => by rw [← hAe]; exact Or.inr h
  have hR : RepC g ad A s S s.heap [] := ⟨hK, hP, hD, va_S.rf, hw⟩
  clear hK hP hD hD0
  have hl := lv_entry ([.ref (ad 0), .int x1, .int x2]) (n := 4) (Nat.le_of_ble_eq_true rfl)
  rw [lg_entry_eq]
  generalize (lg_sl ([.ref (ad 0), .int x1, .int x2]) ++ List.replicate (4 - (lg_sl ([.ref (ad 0), .int x1, .int x2])).length) Slot.unset).toArray = ls at hl ⊢
  have hlg : lgC S S 0 0 := lgC.rf
  have hak : adk ad ad S := adk.rf
  have hl : lv_has ls 4 [(0, .ref (ad 0)), (1, .int x1), (2, .int x2)] := hl
  have hsh : shx S S := shx.rf
  unfold wX12_blocks at h
  refine lv_aload_n hx hb dX12_blocks_0 rfl (lv_at hl 0 rfl) ?_
  refine lv_iload_n hx hb dX12_blocks_1 rfl (lv_at hl 1 rfl) ?_
  refine lv_iload_n hx hb dX12_blocks_2 rfl (lv_at hl 2 rfl) ?_
  obtain ⟨Q1, h0, h⟩ := h
  have hFc := cfree hR hA
  refine va_callq (va_runV (As := [.int x1, .int x2]) (rest := []) ⟨hx, hb, hml, hown, hts⟩ (rX12_rowAt l g ad s.heap.size S x1 x2 hR.w  Q1 h0) (cwV 2 hts (gd_V kw_299 kw_429 kw_430 kw_280 kw_428) rfl rfl rfl (by decide +kernel) ⟨Nat.le_of_ble_eq_true rfl, Nat.le_of_ble_eq_true rfl⟩) ⟨cblind, va_recv hR.K hR.P (ci := 11) (q0 := 0) rfl (hR.at51 hR.w.1), fun U hU hW9 => cmk hU hW9 hR hex hE hFc⟩ rfl rfl hl.1 rfl (lv_room (Nat.le_of_ble_eq_true rfl)) dX12_blocks_3 ⟨(show 0 + 0 ≤ KCC - qn S from hlg.c), (show 0 + 0 ≤ KSC - qu S from hlg.s)⟩) hR.sS (fun q _ h => hFc q h) hFc (fun r2 S3 t9 H1 locs ht9 hvm9 hw9 hB9 hz9 hk9 hS => ?_)
  obtain ⟨b5, rfl, hq4, hw9, hs9, hO_b5⟩ := hw9
  have hR : RepC g ad A s S3 H1 locs := hR.call ht9 hB9 hw9 hS hFc
  have hsh := hsh.tr hs9.1
  have hlg : lgC S S3 (0) (0) := hlg.same hs9
  replace h := h b5 S3 hq4 hw9 hs9 hO_b5
  clear hB9 hz9 hk9 hvm9 ht9 hw9 hs9 hS
  generalize H1 = H at hR ⊢
  rcases hq_b6 : b5 with _ | b6
  · skip
    replace h := h.1 (hq_b6)
    refine lv_astore_nN (lv' := [(3, .null), (0, .ref (ad 0)), (1, .int x1), (2, .int x2)]) hx hb dX12_blocks_6 rfl hl (by decide) rfl (fun ls hl => ?_)
    refine lv_aload_nN hx hb dX12_blocks_7 rfl (lv_at hl 0 rfl) ?_
    refine lv_ifnonnullN hx hb dX12_blocks_8 ?_
    refine lv_iconst (v := (-1)) hx hb dX12_blocks_11 (by decide) ?_
    refine W_led2 (fun hLd => ?_)
    refine W.widen (k := KCC - qn S) (n := KSC - qu S) hlg.c hlg.s ?_
    exact W.iret (v := (-1)) hx hb hr (fun t9 ht9 hW9 => ⟨⟨_, (S3, ad), rfl, ⟨h, hR.w, hsh, hak⟩, ⟨⟨by rw [ht9]; exact hR.P, hR.D⟩, _, _, by rw [ht9]; exact hLd, hlg⟩⟩, hR.sS.F ht9⟩) hR.sS.2.2 dX12_blocks_12
  · have hg_b6 : b6 = (b5).getD 0 := by rw [hq_b6]; rfl
    have hT_b6 : qT S3 ((b5).getD 0) = 47 := hg_b6 ▸ hO_b5 _ hq_b6
    subst hg_b6
    replace h := h.2 (fun q9 => Option.some_ne_none _ (hq_b6.symm.trans q9))
    refine lv_astore_n (lv' := [(3, .ref (ad ((b5).getD 0))), (0, .ref (ad 0)), (1, .int x1), (2, .int x2)]) hx hb dX12_blocks_6 rfl hl (by decide) rfl (fun ls hl => ?_)
    refine lv_aload_n hx hb dX12_blocks_7 rfl (lv_at hl 0 rfl) ?_
    refine lv_ifnonnull (tgt := 13) hx hb dX12_blocks_8 (by decide) ?_
    refine lv_aload_n hx hb dX12_blocks_13 rfl (lv_at hl 1 rfl) ?_
    refine va_get (D := rD g) (ci := 11) (v := .ref (ad 52)) (C := RX12) (T := TX12) (N := 18) hx hb hts inX12 hown hR.K hR.P 0 (hR.at51 hR.w.1) rfl 8 (by decide) (hts _ kw_300) (fun _ h9 => h9) (congrArg (fun z => some (vf ad z)) (hR.w.2.1 _ finC_30).1) dX12_blocks_14 ?_
    refine lv_aload_n hx hb dX12_blocks_17 rfl (lv_at hl 0 rfl) ?_
    obtain ⟨Q7, h0, h⟩ := h
    have hFc := cfree hR hA
    refine W_led2 (fun hL0 => ?_)
    refine va_callv (va_runV (As := [.ref (ad ((b5).getD 0))]) (rest := []) ⟨hx, hb, hml, hown, hts⟩ (rX3_draw l g ad H S3 (some ((b5).getD 0)) hR.w (fun z q9 => by cases q9; exact hT_b6) Q7 h0) (cwV 1 hts (gd_V kw_301 kw_873 kw_874 kw_401 kw_872) rfl rfl rfl (by decide +kernel) ⟨Nat.le_of_ble_eq_true rfl, Nat.le_of_ble_eq_true rfl⟩) ⟨cblindH, va_recv hR.K hR.P (ci := 3) (q0 := 52) rfl (hR.at43 (hR.w.2.1 _ finC_30).2.1), fun U hU hW9 => cmkH hU hW9 hR hex hE hFc⟩ rfl rfl hl.1 rfl (lv_room (Nat.le_of_ble_eq_true rfl)) dX12_blocks_18 ⟨(show 0 + (KCC - qn S3) ≤ KCC - qn S from hlg.cm), (show 0 + (KSC - qu S3) ≤ KSC - qu S from hlg.sm)⟩) hR.sS (fun q _ h => hFc q h) hFc (fun  S8 t9 H1 locs ht9 hvm9 hw9 hB9 hz9 hk9 hS => ?_)
    rcases S8 with ⟨S8, ak10⟩
    obtain ⟨hB9, dc9, ds9, hL9, hl9⟩ := hB9
    dsimp only at hw9 hB9 hl9
    rw [ht9] at hL9
    obtain ⟨hq9, hw9, hs9, hk8⟩ := hw9
    have hw8 := hR.w
    have hak := hak.tr hk8 hlg.2.2.1
    have hE := hE.ad hk8
    have hR : RepC g ak10 A s S8 H1 locs := hR.callH ht9 hB9 hw9 hS hFc
    have hsh := hsh.tr hs9
    refine W_tight2 (hL0.tr hL9).1 (hL0.tr hL9).2.1 ?_
    have hlg := hlg.call hl9
    replace h := h  S8 hq9 hw9 hs9
    have ea_0 : ak10 ((b5).getD 0) = ad ((b5).getD 0) := hk8 _ (hw8.hd hT_b6 (by decide) (by decide))
    have ea_1 : ak10 0 = ad 0 := hk8 _ (hw8.hd hw8.1 (by decide) (by decide))
    have hl : lv_has ls 4 [(3, .ref (ak10 ((b5).getD 0))), (0, .ref (ak10 0)), (1, .int x1), (2, .int x2)] := by simp only [ea_0, ea_1]; exact hl
    have hT_b6 := hs9.T hT_b6 (by decide)
    clear hB9 hz9 hk9 hvm9 ht9 hw9 hs9 hS hL0 hL9
    generalize H1 = H at hR ⊢
    generalize dc9 = dc_ak10, ds9 = ds_ak10 at hlg ⊢
    refine lv_aload_n hx hb dX12_blocks_21 rfl (lv_at hl 1 rfl) ?_
    refine va_get (D := rD g) (ci := 11) (v := .ref (ak10 52)) (C := RX12) (T := TX12) (N := 18) hx hb hts inX12 hown hR.K hR.P 0 (hR.at51 hR.w.1) rfl 8 (by decide) (hts _ kw_300) (fun _ h9 => h9) (congrArg (fun z => some (vf ak10 z)) (hR.w.2.1 _ finC_30).1) dX12_blocks_22 ?_
    refine va_get (D := rD g) (ci := 3) (v := .int (qI S8 52 1)) (C := RX3) (T := TX3) (N := 16) hx hb hts inX3 hown hR.K hR.P 52 (hR.at43 (hR.w.2.1 _ finC_30).2.1) rfl 1 (by decide) (hts _ kw_306) (fun _ h9 => h9) rfl dX12_blocks_25 ?_
    refine W_led2 (fun hLd => ?_)
    refine W.widen (k := KCC - qn S) (n := KSC - qu S) hlg.c hlg.s ?_
    exact W.iret (v := (qI S8 52 1)) hx hb hr (fun t9 ht9 hW9 => ⟨⟨_, (S8, ak10), rfl, ⟨h, hR.w, hsh, hak⟩, ⟨⟨by rw [ht9]; exact hR.P, hR.D⟩, _, _, by rw [ht9]; exact hLd, hlg⟩⟩, hR.sS.F ht9⟩) hR.sS.2.2 dX12_blocks_28
def wX12_block (S : MS) (x1 : Int32) (x2 : Int32) (x3 : Int32) (x4 : Int32) (Q : Int32 → MS → Prop) : Prop := (∃ Q1, wX12_rowAt S x1 x2 Q1 ∧ ∀ b5 S3, Q1 b5 S3 → wfC S3 → shy S S3 → (∀ z, b5 = some z → qT S3 z = 47) → ((b5 = none → Q (-1 : Int32) S3) ∧ (¬ b5 = none → (∃ Q7, wX3_draw S3 (some ((b5).getD 0)) Q7 ∧ ∀ S8, Q7 S8 → wfC S8 → shx S3 S8 → (d_X3_tell S8 x3 x4 ∧ (∀ a14 : Int32, a14 = (fX3_tell S8 x3 x4) → Q a14 S8))))))
set_option maxHeartbeats 2000000 in
set_option maxRecDepth 100000 in
theorem rX12_block (l : Launch) (g : Gr) (ad : Nat → Nat) (H0 : Heap) (S : MS) (x1 : Int32) (x2 : Int32) (x3 : Int32) (x4 : Int32) (hw : wfC S) (Q : Int32 → MS → Prop) (h : wX12_block S x1 x2 x3 x4 Q) : Met l yX12_block (wt yX12_block cX12_block 6 (some .int)) ({ frames := 5, cells := KCC - qn S, slots := KSC - qu S, locals := 131 }) (va_Pc [.ref (ad 0), .int x1, .int x2, .int x3, .int x4] (st_CH g ad H0 S)) (va_Qi (fun (r : Int32) (u : MS × (Nat → Nat)) => Q r u.1 ∧ wfC u.1 ∧ shx S u.1 ∧ adk ad u.2 S) (fun (u : MS × (Nat → Nat)) (t : State) => qEHC g (va_A (WdC g ad S) H0.size) S H0 u t) (va_A (WdC g ad S) H0.size)) (KCC - qn S) (KSC - qu S) (va_A (WdC g ad S) H0.size) := by
  refine Met.ofW (cc := cX12_block) (maxL := 6) (ret := (some .int)) (by decide) rfl ?_
  intro p e s m args below meth c s₁ B hml hv
  obtain ⟨rfl, hH0, hsz, hP, hK, hD0, hex, hE⟩ := hv
  have hx := B.exec
  have hb := B.bytes
  have hr := B.returns
  have hts0 := atoms_spec (ws := wt yX12_block cX12_block 6 (some .int)) B.pre
  have hts : ∀ w ∈ tb, w.before _ s = true := fun w h => hts0 w (List.mem_cons_of_mem _ h)
  have hown : s.vm.findClass RX12 = some m.cls := findClass_of_methodNamed B.named
  subst hH0
  have hD := hD0.self (sz := s.heap.size)
  generalize hAe : va_A (WdC g ad S) s.heap.size = A at hD hE ⊢
  have hA : ∀ q : Nat, s.heap.size ≤ q → A q := fun q h => by rw [← hAe]; exact Or.inr h
  have hR : RepC g ad A s S s.heap [] := ⟨hK, hP, hD, va_S.rf, hw⟩
  clear hK hP hD hD0
  have hl := lv_entry ([.ref (ad 0), .int x1, .int x2, .int x3, .int x4]) (n := 6) (Nat.le_of_ble_eq_true rfl)
  rw [lg_entry_eq]
  generalize (lg_sl ([.ref (ad 0), .int x1, .int x2, .int x3, .int x4]) ++ List.replicate (6 - (lg_sl ([.ref (ad 0), .int x1, .int x2, .int x3, .int x4])).length) Slot.unset).toArray = ls at hl ⊢
  have hlg : lgC S S 0 0 := lgC.rf
  have hak : adk ad ad S := adk.rf
  have hl : lv_has ls 6 [(0, .ref (ad 0)), (1, .int x1), (2, .int x2), (3, .int x3), (4, .int x4)] := hl
  have hsh : shx S S := shx.rf
  unfold wX12_block at h
  refine lv_aload_n hx hb dX12_block_0 rfl (lv_at hl 0 rfl) ?_
  refine lv_iload_n hx hb dX12_block_1 rfl (lv_at hl 1 rfl) ?_
  refine lv_iload_n hx hb dX12_block_2 rfl (lv_at hl 2 rfl) ?_
  obtain ⟨Q1, h0, h⟩ := h
  have hFc := cfree hR hA
  refine va_callq (va_runV (As := [.int x1, .int x2]) (rest := []) ⟨hx, hb, hml, hown, hts⟩ (rX12_rowAt l g ad s.heap.size S x1 x2 hR.w  Q1 h0) (cwV 2 hts (gd_V kw_299 kw_429 kw_430 kw_280 kw_428) rfl rfl rfl (by decide +kernel) ⟨Nat.le_of_ble_eq_true rfl, Nat.le_of_ble_eq_true rfl⟩) ⟨cblind, va_recv hR.K hR.P (ci := 11) (q0 := 0) rfl (hR.at51 hR.w.1), fun U hU hW9 => cmk hU hW9 hR hex hE hFc⟩ rfl rfl hl.1 rfl (lv_room (Nat.le_of_ble_eq_true rfl)) dX12_block_3 ⟨(show 0 + 0 ≤ KCC - qn S from hlg.c), (show 0 + 0 ≤ KSC - qu S from hlg.s)⟩) hR.sS (fun q _ h => hFc q h) hFc (fun r2 S3 t9 H1 locs ht9 hvm9 hw9 hB9 hz9 hk9 hS => ?_)
  obtain ⟨b5, rfl, hq4, hw9, hs9, hO_b5⟩ := hw9
  have hR : RepC g ad A s S3 H1 locs := hR.call ht9 hB9 hw9 hS hFc
  have hsh := hsh.tr hs9.1
  have hlg : lgC S S3 (0) (0) := hlg.same hs9
  replace h := h b5 S3 hq4 hw9 hs9 hO_b5
  clear hB9 hz9 hk9 hvm9 ht9 hw9 hs9 hS
  generalize H1 = H at hR ⊢
  rcases hq_b6 : b5 with _ | b6
  · skip
    replace h := h.1 (hq_b6)
    refine lv_astoreN (lv' := [(5, .null), (0, .ref (ad 0)), (1, .int x1), (2, .int x2), (3, .int x3), (4, .int x4)]) hx hb dX12_block_6 hl (by decide) rfl (fun ls hl => ?_)
    refine lv_aloadN hx hb dX12_block_8 (lv_at hl 0 rfl) ?_
    refine lv_ifnonnullN hx hb dX12_block_10 ?_
    refine lv_iconst (v := (-1)) hx hb dX12_block_13 (by decide) ?_
    refine W_led2 (fun hLd => ?_)
    refine W.widen (k := KCC - qn S) (n := KSC - qu S) hlg.c hlg.s ?_
    exact W.iret (v := (-1)) hx hb hr (fun t9 ht9 hW9 => ⟨⟨_, (S3, ad), rfl, ⟨h, hR.w, hsh, hak⟩, ⟨⟨by rw [ht9]; exact hR.P, hR.D⟩, _, _, by rw [ht9]; exact hLd, hlg⟩⟩, hR.sS.F ht9⟩) hR.sS.2.2 dX12_block_14
  · have hg_b6 : b6 = (b5).getD 0 := by rw [hq_b6]; rfl
    have hT_b6 : qT S3 ((b5).getD 0) = 47 := hg_b6 ▸ hO_b5 _ hq_b6
    subst hg_b6
    replace h := h.2 (fun q9 => Option.some_ne_none _ (hq_b6.symm.trans q9))
    refine lv_astore (lv' := [(5, .ref (ad ((b5).getD 0))), (0, .ref (ad 0)), (1, .int x1), (2, .int x2), (3, .int x3), (4, .int x4)]) hx hb dX12_block_6 hl (by decide) rfl (fun ls hl => ?_)
    refine lv_aload hx hb dX12_block_8 (lv_at hl 0 rfl) ?_
    refine lv_ifnonnull (tgt := 15) hx hb dX12_block_10 (by decide) ?_
    refine lv_aload_n hx hb dX12_block_15 rfl (lv_at hl 1 rfl) ?_
    refine va_get (D := rD g) (ci := 11) (v := .ref (ad 52)) (C := RX12) (T := TX12) (N := 18) hx hb hts inX12 hown hR.K hR.P 0 (hR.at51 hR.w.1) rfl 8 (by decide) (hts _ kw_300) (fun _ h9 => h9) (congrArg (fun z => some (vf ad z)) (hR.w.2.1 _ finC_30).1) dX12_block_16 ?_
    refine lv_aload hx hb dX12_block_19 (lv_at hl 0 rfl) ?_
    obtain ⟨Q7, h0, h⟩ := h
    have hFc := cfree hR hA
    refine W_led2 (fun hL0 => ?_)
    refine va_callv (va_runV (As := [.ref (ad ((b5).getD 0))]) (rest := []) ⟨hx, hb, hml, hown, hts⟩ (rX3_draw l g ad H S3 (some ((b5).getD 0)) hR.w (fun z q9 => by cases q9; exact hT_b6) Q7 h0) (cwV 1 hts (gd_V kw_301 kw_873 kw_874 kw_401 kw_872) rfl rfl rfl (by decide +kernel) ⟨Nat.le_of_ble_eq_true rfl, Nat.le_of_ble_eq_true rfl⟩) ⟨cblindH, va_recv hR.K hR.P (ci := 3) (q0 := 52) rfl (hR.at43 (hR.w.2.1 _ finC_30).2.1), fun U hU hW9 => cmkH hU hW9 hR hex hE hFc⟩ rfl rfl hl.1 rfl (lv_room (Nat.le_of_ble_eq_true rfl)) dX12_block_21 ⟨(show 0 + (KCC - qn S3) ≤ KCC - qn S from hlg.cm), (show 0 + (KSC - qu S3) ≤ KSC - qu S from hlg.sm)⟩) hR.sS (fun q _ h => hFc q h) hFc (fun  S8 t9 H1 locs ht9 hvm9 hw9 hB9 hz9 hk9 hS => ?_)
    rcases S8 with ⟨S8, ak10⟩
    obtain ⟨hB9, dc9, ds9, hL9, hl9⟩ := hB9
    dsimp only at hw9 hB9 hl9
    rw [ht9] at hL9
    obtain ⟨hq9, hw9, hs9, hk8⟩ := hw9
    have hw8 := hR.w
    have hak := hak.tr hk8 hlg.2.2.1
    have hE := hE.ad hk8
    have hR : RepC g ak10 A s S8 H1 locs := hR.callH ht9 hB9 hw9 hS hFc
    have hsh := hsh.tr hs9
    refine W_tight2 (hL0.tr hL9).1 (hL0.tr hL9).2.1 ?_
    have hlg := hlg.call hl9
    replace h := h  S8 hq9 hw9 hs9
    have ea_0 : ak10 ((b5).getD 0) = ad ((b5).getD 0) := hk8 _ (hw8.hd hT_b6 (by decide) (by decide))
    have ea_1 : ak10 0 = ad 0 := hk8 _ (hw8.hd hw8.1 (by decide) (by decide))
    have hl : lv_has ls 6 [(5, .ref (ak10 ((b5).getD 0))), (0, .ref (ak10 0)), (1, .int x1), (2, .int x2), (3, .int x3), (4, .int x4)] := by simp only [ea_0, ea_1]; exact hl
    have hT_b6 := hs9.T hT_b6 (by decide)
    clear hB9 hz9 hk9 hvm9 ht9 hw9 hs9 hS hL0 hL9
    generalize H1 = H at hR ⊢
    generalize dc9 = dc_ak10, ds9 = ds_ak10 at hlg ⊢
    refine lv_aload_n hx hb dX12_block_24 rfl (lv_at hl 1 rfl) ?_
    refine va_get (D := rD g) (ci := 11) (v := .ref (ak10 52)) (C := RX12) (T := TX12) (N := 18) hx hb hts inX12 hown hR.K hR.P 0 (hR.at51 hR.w.1) rfl 8 (by decide) (hts _ kw_300) (fun _ h9 => h9) (congrArg (fun z => some (vf ak10 z)) (hR.w.2.1 _ finC_30).1) dX12_block_25 ?_
    refine lv_iload_n hx hb dX12_block_28 rfl (lv_at hl 4 rfl) ?_
    refine lv_iload hx hb dX12_block_29 (lv_at hl 5 rfl) ?_
    obtain ⟨hv11, h⟩ := h
    have hFc := cfree hR hA
    refine va_calli (va_runV (As := [.int x3, .int x4]) (rest := []) ⟨hx, hb, hml, hown, hts⟩ (rX3_tell l g ak10 H.size S8 x3 x4 hR.w  hv11) (cwV 2 hts (gd_V kw_302 kw_949 kw_950 kw_401 kw_948) rfl rfl rfl (by decide +kernel) ⟨Nat.le_of_ble_eq_true rfl, Nat.le_of_ble_eq_true rfl⟩) ⟨cblind, va_recv hR.K hR.P (ci := 3) (q0 := 52) rfl (hR.at43 (hR.w.2.1 _ finC_30).2.1), fun U hU hW9 => cmk hU hW9 hR hex hE hFc⟩ rfl rfl hl.1 rfl (lv_room (Nat.le_of_ble_eq_true rfl)) dX12_block_31 ⟨(show 0 + dc_ak10 + 0 ≤ KCC - qn S from hlg.c), (show 0 + ds_ak10 + 0 ≤ KSC - qu S from hlg.s)⟩) hR.sS (fun q _ h => hFc q h) hFc (fun r12 u9 t9 H1 locs ht9 hvm9 hw9 hB9 hz9 hk9 hS => ?_)
    have hR : RepC g ak10 A s S8 H1 locs := hR.call ht9 hB9 hR.w hS hFc
    obtain rfl : r12 = (fX3_tell S8 x3 x4) := hw9
    clear hB9 hz9 hk9 hvm9 ht9 hS
    generalize H1 = H at hR ⊢
    obtain ⟨a14, ea14⟩ : ∃ z, z = (fX3_tell S8 x3 x4) := ⟨_, rfl⟩
    rw [← ea14]
    replace h := h a14 ea14
    refine W_led2 (fun hLd => ?_)
    refine W.widen (k := KCC - qn S) (n := KSC - qu S) hlg.c hlg.s ?_
    exact W.iret (v := a14) hx hb hr (fun t9 ht9 hW9 => ⟨⟨_, (S8, ak10), rfl, ⟨h, hR.w, hsh, hak⟩, ⟨⟨by rw [ht9]; exact hR.P, hR.D⟩, _, _, by rw [ht9]; exact hLd, hlg⟩⟩, hR.sS.F ht9⟩) hR.sS.2.2 dX12_block_34
def wX12_edge (S : MS) (x1 : Int32) (x2 : Int32) (x3 : Int32) (x4 : Int32) (Q : Int32 → MS → Prop) : Prop := (∃ Q1, wX12_rowAt S x1 x2 Q1 ∧ ∀ b5 S3, Q1 b5 S3 → wfC S3 → shy S S3 → (∀ z, b5 = some z → qT S3 z = 47) → ((b5 = none → Q (0 : Int32) S3) ∧ (¬ b5 = none → (∃ Q7, wX3_draw S3 (some ((b5).getD 0)) Q7 ∧ ∀ S8, Q7 S8 → wfC S8 → shx S3 S8 → (∃ Q11, wX3_hasEdge S8 x3 x4 Q11 ∧ ∀ r12 S13, Q11 r12 S13 → wfC S13 → shy S8 S13 → Q r12 S13)))))
set_option maxHeartbeats 2000000 in
set_option maxRecDepth 100000 in
theorem rX12_edge (l : Launch) (g : Gr) (ad : Nat → Nat) (H0 : Heap) (S : MS) (x1 : Int32) (x2 : Int32) (x3 : Int32) (x4 : Int32) (hw : wfC S) (Q : Int32 → MS → Prop) (h : wX12_edge S x1 x2 x3 x4 Q) : Met l yX12_edge (wt yX12_edge cX12_edge 6 (some .boolean)) ({ frames := 5, cells := KCC - qn S, slots := KSC - qu S, locals := 131 }) (va_Pc [.ref (ad 0), .int x1, .int x2, .int x3, .int x4] (st_CH g ad H0 S)) (va_Qi (fun (r : Int32) (u : MS × (Nat → Nat)) => Q r u.1 ∧ wfC u.1 ∧ shx S u.1 ∧ adk ad u.2 S ∧ (r = 0 ∨ r = 1)) (fun (u : MS × (Nat → Nat)) (t : State) => qEHC g (va_A (WdC g ad S) H0.size) S H0 u t) (va_A (WdC g ad S) H0.size)) (KCC - qn S) (KSC - qu S) (va_A (WdC g ad S) H0.size) := by
  refine Met.ofW (cc := cX12_edge) (maxL := 6) (ret := (some .boolean)) (by decide) rfl ?_
  intro p e s m args below meth c s₁ B hml hv
  obtain ⟨rfl, hH0, hsz, hP, hK, hD0, hex, hE⟩ := hv
  have hx := B.exec
  have hb := B.bytes
  have hr := B.returns
  have hts0 := atoms_spec (ws := wt yX12_edge cX12_edge 6 (some .boolean)) B.pre
  have hts : ∀ w ∈ tb, w.before _ s = true := fun w h => hts0 w (List.mem_cons_of_mem _ h)
  have hown : s.vm.findClass RX12 = some m.cls := findClass_of_methodNamed B.named
  subst hH0
  have hD := hD0.self (sz := s.heap.size)
  generalize hAe : va_A (WdC g ad S) s.heap.size = A at hD hE ⊢
  have hA : ∀ q : Nat, s.heap.size ≤ q → A q := fun q h => by rw [← hAe]; exact Or.inr h
  have hR : RepC g ad A s S s.heap [] := ⟨hK, hP, hD, va_S.rf, hw⟩
  clear hK hP hD hD0
  have hl := lv_entry ([.ref (ad 0), .int x1, .int x2, .int x3, .int x4]) (n := 6) (Nat.le_of_ble_eq_true rfl)
  rw [lg_entry_eq]
  generalize (lg_sl ([.ref (ad 0), .int x1, .int x2, .int x3, .int x4]) ++ List.replicate (6 - (lg_sl ([.ref (ad 0), .int x1, .int x2, .int x3, .int x4])).length) Slot.unset).toArray = ls at hl ⊢
  have hlg : lgC S S 0 0 := lgC.rf
  have hak : adk ad ad S := adk.rf
  have hl : lv_has ls 6 [(0, .ref (ad 0)), (1, .int x1), (2, .int x2), (3, .int x3), (4, .int x4)] := hl
  have hsh : shx S S := shx.rf
  unfold wX12_edge at h
  refine lv_aload_n hx hb dX12_edge_0 rfl (lv_at hl 0 rfl) ?_
  refine lv_iload_n hx hb dX12_edge_1 rfl (lv_at hl 1 rfl) ?_
  refine lv_iload_n hx hb dX12_edge_2 rfl (lv_at hl 2 rfl) ?_
  obtain ⟨Q1, h0, h⟩ := h
  have hFc := cfree hR hA
  refine va_callq (va_runV (As := [.int x1, .int x2]) (rest := []) ⟨hx, hb, hml, hown, hts⟩ (rX12_rowAt l g ad s.heap.size S x1 x2 hR.w  Q1 h0) (cwV 2 hts (gd_V kw_299 kw_429 kw_430 kw_280 kw_428) rfl rfl rfl (by decide +kernel) ⟨Nat.le_of_ble_eq_true rfl, Nat.le_of_ble_eq_true rfl⟩) ⟨cblind, va_recv hR.K hR.P (ci := 11) (q0 := 0) rfl (hR.at51 hR.w.1), fun U hU hW9 => cmk hU hW9 hR hex hE hFc⟩ rfl rfl hl.1 rfl (lv_room (Nat.le_of_ble_eq_true rfl)) dX12_edge_3 ⟨(show 0 + 0 ≤ KCC - qn S from hlg.c), (show 0 + 0 ≤ KSC - qu S from hlg.s)⟩) hR.sS (fun q _ h => hFc q h) hFc (fun r2 S3 t9 H1 locs ht9 hvm9 hw9 hB9 hz9 hk9 hS => ?_)
  obtain ⟨b5, rfl, hq4, hw9, hs9, hO_b5⟩ := hw9
  have hR : RepC g ad A s S3 H1 locs := hR.call ht9 hB9 hw9 hS hFc
  have hsh := hsh.tr hs9.1
  have hlg : lgC S S3 (0) (0) := hlg.same hs9
  replace h := h b5 S3 hq4 hw9 hs9 hO_b5
  clear hB9 hz9 hk9 hvm9 ht9 hw9 hs9 hS
  generalize H1 = H at hR ⊢
  rcases hq_b6 : b5 with _ | b6
  · skip
    replace h := h.1 (hq_b6)
    refine lv_astoreN (lv' := [(5, .null), (0, .ref (ad 0)), (1, .int x1), (2, .int x2), (3, .int x3), (4, .int x4)]) hx hb dX12_edge_6 hl (by decide) rfl (fun ls hl => ?_)
    refine lv_aloadN hx hb dX12_edge_8 (lv_at hl 0 rfl) ?_
    refine lv_ifnonnullN hx hb dX12_edge_10 ?_
    refine lv_iconst (v := 0) hx hb dX12_edge_13 (by decide) ?_
    refine W_led2 (fun hLd => ?_)
    refine W.widen (k := KCC - qn S) (n := KSC - qu S) hlg.c hlg.s ?_
    exact W.zret (v := 0) hx hb hr (nz (Or.inl rfl)) (fun t9 ht9 hW9 => ⟨⟨_, (S3, ad), rfl, ⟨h, hR.w, hsh, hak, (Or.inl rfl)⟩, ⟨⟨by rw [ht9]; exact hR.P, hR.D⟩, _, _, by rw [ht9]; exact hLd, hlg⟩⟩, hR.sS.F ht9⟩) hR.sS.2.2 dX12_edge_14
  · have hg_b6 : b6 = (b5).getD 0 := by rw [hq_b6]; rfl
    have hT_b6 : qT S3 ((b5).getD 0) = 47 := hg_b6 ▸ hO_b5 _ hq_b6
    subst hg_b6
    replace h := h.2 (fun q9 => Option.some_ne_none _ (hq_b6.symm.trans q9))
    refine lv_astore (lv' := [(5, .ref (ad ((b5).getD 0))), (0, .ref (ad 0)), (1, .int x1), (2, .int x2), (3, .int x3), (4, .int x4)]) hx hb dX12_edge_6 hl (by decide) rfl (fun ls hl => ?_)
    refine lv_aload hx hb dX12_edge_8 (lv_at hl 0 rfl) ?_
    refine lv_ifnonnull (tgt := 15) hx hb dX12_edge_10 (by decide) ?_
    refine lv_aload_n hx hb dX12_edge_15 rfl (lv_at hl 1 rfl) ?_
    refine va_get (D := rD g) (ci := 11) (v := .ref (ad 52)) (C := RX12) (T := TX12) (N := 18) hx hb hts inX12 hown hR.K hR.P 0 (hR.at51 hR.w.1) rfl 8 (by decide) (hts _ kw_300) (fun _ h9 => h9) (congrArg (fun z => some (vf ad z)) (hR.w.2.1 _ finC_30).1) dX12_edge_16 ?_
    refine lv_aload hx hb dX12_edge_19 (lv_at hl 0 rfl) ?_
    obtain ⟨Q7, h0, h⟩ := h
    have hFc := cfree hR hA
    refine W_led2 (fun hL0 => ?_)
    refine va_callv (va_runV (As := [.ref (ad ((b5).getD 0))]) (rest := []) ⟨hx, hb, hml, hown, hts⟩ (rX3_draw l g ad H S3 (some ((b5).getD 0)) hR.w (fun z q9 => by cases q9; exact hT_b6) Q7 h0) (cwV 1 hts (gd_V kw_301 kw_873 kw_874 kw_401 kw_872) rfl rfl rfl (by decide +kernel) ⟨Nat.le_of_ble_eq_true rfl, Nat.le_of_ble_eq_true rfl⟩) ⟨cblindH, va_recv hR.K hR.P (ci := 3) (q0 := 52) rfl (hR.at43 (hR.w.2.1 _ finC_30).2.1), fun U hU hW9 => cmkH hU hW9 hR hex hE hFc⟩ rfl rfl hl.1 rfl (lv_room (Nat.le_of_ble_eq_true rfl)) dX12_edge_21 ⟨(show 0 + (KCC - qn S3) ≤ KCC - qn S from hlg.cm), (show 0 + (KSC - qu S3) ≤ KSC - qu S from hlg.sm)⟩) hR.sS (fun q _ h => hFc q h) hFc (fun  S8 t9 H1 locs ht9 hvm9 hw9 hB9 hz9 hk9 hS => ?_)
    rcases S8 with ⟨S8, ak10⟩
    obtain ⟨hB9, dc9, ds9, hL9, hl9⟩ := hB9
    dsimp only at hw9 hB9 hl9
    rw [ht9] at hL9
    obtain ⟨hq9, hw9, hs9, hk8⟩ := hw9
    have hw8 := hR.w
    have hak := hak.tr hk8 hlg.2.2.1
    have hE := hE.ad hk8
    have hR : RepC g ak10 A s S8 H1 locs := hR.callH ht9 hB9 hw9 hS hFc
    have hsh := hsh.tr hs9
    refine W_tight2 (hL0.tr hL9).1 (hL0.tr hL9).2.1 ?_
    have hlg := hlg.call hl9
    replace h := h  S8 hq9 hw9 hs9
    have ea_0 : ak10 ((b5).getD 0) = ad ((b5).getD 0) := hk8 _ (hw8.hd hT_b6 (by decide) (by decide))
    have ea_1 : ak10 0 = ad 0 := hk8 _ (hw8.hd hw8.1 (by decide) (by decide))
    have hl : lv_has ls 6 [(5, .ref (ak10 ((b5).getD 0))), (0, .ref (ak10 0)), (1, .int x1), (2, .int x2), (3, .int x3), (4, .int x4)] := by simp only [ea_0, ea_1]; exact hl
    have hT_b6 := hs9.T hT_b6 (by decide)
    clear hB9 hz9 hk9 hvm9 ht9 hw9 hs9 hS hL0 hL9
    generalize H1 = H at hR ⊢
    generalize dc9 = dc_ak10, ds9 = ds_ak10 at hlg ⊢
    refine lv_aload_n hx hb dX12_edge_24 rfl (lv_at hl 1 rfl) ?_
    refine va_get (D := rD g) (ci := 11) (v := .ref (ak10 52)) (C := RX12) (T := TX12) (N := 18) hx hb hts inX12 hown hR.K hR.P 0 (hR.at51 hR.w.1) rfl 8 (by decide) (hts _ kw_300) (fun _ h9 => h9) (congrArg (fun z => some (vf ak10 z)) (hR.w.2.1 _ finC_30).1) dX12_edge_25 ?_
    refine lv_iload_n hx hb dX12_edge_28 rfl (lv_at hl 4 rfl) ?_
    refine lv_iload hx hb dX12_edge_29 (lv_at hl 5 rfl) ?_
    obtain ⟨Q11, h0, h⟩ := h
    have hFc := cfree hR hA
    refine va_calli (va_runV (As := [.int x3, .int x4]) (rest := []) ⟨hx, hb, hml, hown, hts⟩ (rX3_hasEdge l g ak10 H.size S8 x3 x4 hR.w  Q11 h0) (cwV 2 hts (gd_V kw_341 kw_924 kw_925 kw_401 kw_923) rfl rfl rfl (by decide +kernel) ⟨Nat.le_of_ble_eq_true rfl, Nat.le_of_ble_eq_true rfl⟩) ⟨cblind, va_recv hR.K hR.P (ci := 3) (q0 := 52) rfl (hR.at43 (hR.w.2.1 _ finC_30).2.1), fun U hU hW9 => cmk hU hW9 hR hex hE hFc⟩ rfl rfl hl.1 rfl (lv_room (Nat.le_of_ble_eq_true rfl)) dX12_edge_31 ⟨(show 0 + dc_ak10 + 0 ≤ KCC - qn S from hlg.c), (show 0 + ds_ak10 + 0 ≤ KSC - qu S from hlg.s)⟩) hR.sS (fun q _ h => hFc q h) hFc (fun r12 S13 t9 H1 locs ht9 hvm9 hw9 hB9 hz9 hk9 hS => ?_)
    obtain ⟨hq14, hw9, hs9, hz_r12⟩ := hw9
    have hR : RepC g ak10 A s S13 H1 locs := hR.call ht9 hB9 hw9 hS hFc
    have hsh := hsh.tr hs9.1
    have hlg : lgC S S13 (0 + dc_ak10) (0 + ds_ak10) := hlg.same hs9
    replace h := h r12 S13 hq14 hw9 hs9
    have hT_b6 := hs9.T hT_b6 (by decide)
    clear hB9 hz9 hk9 hvm9 ht9 hw9 hs9 hS
    generalize H1 = H at hR ⊢
    refine W_led2 (fun hLd => ?_)
    refine W.widen (k := KCC - qn S) (n := KSC - qu S) hlg.c hlg.s ?_
    exact W.zret (v := r12) hx hb hr (nz hz_r12) (fun t9 ht9 hW9 => ⟨⟨_, (S13, ak10), rfl, ⟨h, hR.w, hsh, hak, hz_r12⟩, ⟨⟨by rw [ht9]; exact hR.P, hR.D⟩, _, _, by rw [ht9]; exact hLd, hlg⟩⟩, hR.sS.F ht9⟩) hR.sS.2.2 dX12_edge_34
def w_X12_countersOf_L4 (Q : Int32 → MS → Prop) : Nat → MS → Nat → Int32 → Int32 → Prop
  | 0, _, _, _, _ => False
  | n4 + 1, U4, v4_1, v4_2, v4_3 => (wfC U4 → qT U4 v4_1 = 49 → (((qI U4 v4_1 8).toInt ≤ v4_3.toInt → Q v4_2 U4) ∧ (¬ (qI U4 v4_1 8).toInt ≤ v4_3.toInt → (qT U4 v4_1 = 49 → (∃ Q2, wX10_rowAt U4 v4_1 v4_3 Q2 ∧ ∀ b6 S4, Q2 b6 S4 → wfC S4 → shy U4 S4 → (∀ z, b6 = some z → qT S4 z = 47) → (∃ Q7, wX3_draw S4 b6 Q7 ∧ ∀ S8, Q7 S8 → wfC S8 → shx S4 S8 → (∃ Q11, wX3_reachedCount S8 Q11 ∧ ∀ r12 S13, Q11 r12 S13 → wfC S13 → shy S8 S13 → (∀ a16 : Int32, a16 = (v4_2 + r12) → (∀ a17 : Int32, a17 = (v4_3 + Int32.ofInt 1) → (w_X12_countersOf_L4 Q n4) S13 v4_1 a16 a17)))))))))
def wX12_countersOf (S : MS) (p1 : Nat) (Q : Int32 → MS → Prop) : Prop := (∃ n, w_X12_countersOf_L4 Q n S p1 0 0)
set_option maxHeartbeats 2000000 in
set_option maxRecDepth 100000 in
theorem rX12_countersOf (l : Launch) (g : Gr) (ad : Nat → Nat) (H0 : Heap) (S : MS) (p1 : Nat) (hw : wfC S) (hT_p1 : qT S p1 = 49) (Q : Int32 → MS → Prop) (h : wX12_countersOf S p1 Q) : Met l yX12_countersOf (wt yX12_countersOf cX12_countersOf 4 (some .int)) ({ frames := 5, cells := KCC - qn S, slots := KSC - qu S, locals := 131 }) (va_Pc [.ref (ad 0), .ref (ad p1)] (st_CH g ad H0 S)) (va_Qi (fun (r : Int32) (u : MS × (Nat → Nat)) => Q r u.1 ∧ wfC u.1 ∧ shx S u.1 ∧ adk ad u.2 S) (fun (u : MS × (Nat → Nat)) (t : State) => qEHC g (va_A (WdC g ad S) H0.size) S H0 u t) (va_A (WdC g ad S) H0.size)) (KCC - qn S) (KSC - qu S) (va_A (WdC g ad S) H0.size) := by
  refine Met.ofW (cc := cX12_countersOf) (maxL := 4) (ret := (some .int)) (by decide) rfl ?_
  intro p e s m args below meth c s₁ B hml hv
  obtain ⟨rfl, hH0, hsz, hP, hK, hD0, hex, hE⟩ := hv
  have hx := B.exec
  have hb := B.bytes
  have hr := B.returns
  have hts0 := atoms_spec (ws := wt yX12_countersOf cX12_countersOf 4 (some .int)) B.pre
  have hts : ∀ w ∈ tb, w.before _ s = true := fun w h => hts0 w (List.mem_cons_of_mem _ h)
  have hown : s.vm.findClass RX12 = some m.cls := findClass_of_methodNamed B.named
  subst hH0
  have hD := hD0.self (sz := s.heap.size)
  generalize hAe : va_A (WdC g ad S) s.heap.size = A at hD hE ⊢
  have hA : ∀ q : Nat, s.heap.size ≤ q → A q := fun q h => by rw [← hAe]; exact Or.inr h
  have hR : RepC g ad A s S s.heap [] := ⟨hK, hP, hD, va_S.rf, hw⟩
  clear hK hP hD hD0
  have hl := lv_entry ([.ref (ad 0), .ref (ad p1)]) (n := 4) (Nat.le_of_ble_eq_true rfl)
  rw [lg_entry_eq]
  generalize (lg_sl ([.ref (ad 0), .ref (ad p1)]) ++ List.replicate (4 - (lg_sl ([.ref (ad 0), .ref (ad p1)])).length) Slot.unset).toArray = ls at hl ⊢
  have hlg : lgC S S 0 0 := lgC.rf
  have hak : adk ad ad S := adk.rf
  have hl : lv_has ls 4 [(0, .ref (ad 0)), (1, .ref (ad p1))] := hl
  have hsh : shx S S := shx.rf
  unfold wX12_countersOf at h
  refine lv_iconst (v := 0) hx hb dX12_countersOf_0 (by decide) ?_
  refine lv_istore_n (lv' := [(2, .int 0), (0, .ref (ad 0)), (1, .ref (ad p1))]) hx hb dX12_countersOf_1 rfl hl (by decide) rfl (fun ls hl => ?_)
  refine lv_iconst (v := 0) hx hb dX12_countersOf_2 (by decide) ?_
  refine lv_istore_n (lv' := [(3, .int 0), (2, .int 0), (0, .ref (ad 0)), (1, .ref (ad p1))]) hx hb dX12_countersOf_3 rfl hl (by decide) rfl (fun ls hl => ?_)
  have J_4 : ∀ (n4 : Nat) (ad4 : Nat → Nat) (dc4 ds4 : Nat) (U4 : MS) (v4_1 : Nat) (v4_2 : Int32) (v4_3 : Int32) (H : Heap) (locs : List Loc) (ls : Array Slot), w_X12_countersOf_L4 Q n4 U4 v4_1 v4_2 v4_3 → qT U4 v4_1 = 49 → shx S U4 → lgC S U4 dc4 ds4 → adk ad ad4 S → ogC ad4 A s s.heap → RepC g ad4 A s U4 H locs → lv_has ls 4 [(0, .ref (ad4 0)), (1, .ref (ad4 v4_1)), (2, .int v4_2), (3, .int v4_3)] → W p l e (headSpec (wt yX12_countersOf cX12_countersOf 4 (some .int)) ({ frames := 5, cells := KCC - qn S, slots := KSC - qu S, locals := 131 })).room s m ([.ref (ad 0), .ref (ad p1)] : List Value).toArray below meth c H locs dc4 ds4 (MQ below (va_Qi (fun (r : Int32) (u : MS × (Nat → Nat)) => Q r u.1 ∧ wfC u.1 ∧ shx S u.1 ∧ adk ad u.2 S) (fun (u : MS × (Nat → Nat)) (t : State) => qEHC g A S s.heap u t) A) ([.ref (ad 0), .ref (ad p1)] : List Value).toArray s (KCC - qn S) (KSC - qu S) A) (F0 m 4 ls []) := by
    intro n4
    induction n4 with
    | zero => intro ad4 dc4 ds4 U4 v4_1 v4_2 v4_3 H locs ls h hT_v4_1 hsh hlg hak hE hR hl; unfold w_X12_countersOf_L4 at h; exact h.elim
    | succ n4 ih_4 =>
      intro ad4 dc4 ds4 U4 v4_1 v4_2 v4_3 H locs ls h hT_v4_1 hsh hlg hak hE hR hl
      unfold w_X12_countersOf_L4 at h
      replace h := h hR.w hT_v4_1
      refine lv_iload_n hx hb dX12_countersOf_4 rfl (lv_at hl 3 rfl) ?_
      refine lv_aload_n hx hb dX12_countersOf_5 rfl (lv_at hl 1 rfl) ?_
      refine va_get (D := rD g) (ci := 9) (v := .int (qI U4 v4_1 8)) (C := RX10) (T := TX10) (N := 18) hx hb hts inX10 hown hR.K hR.P v4_1 (hR.at49 hT_v4_1) rfl 8 (by decide) (hts _ kw_323) (fun _ h9 => h9) rfl dX12_countersOf_6 ?_
      refine lv_icmp_ge (tgt := 40) hx hb dX12_countersOf_9 (by decide) (fun c1 => ?_) (fun c1 => ?_)
      · replace h := h.1 (k_le rfl rfl c1)
        refine lv_iload_n hx hb dX12_countersOf_40 rfl (lv_at hl 2 rfl) ?_
        refine W_led2 (fun hLd => ?_)
        refine W.widen (k := KCC - qn S) (n := KSC - qu S) hlg.c hlg.s ?_
        exact W.iret (v := v4_2) hx hb hr (fun t9 ht9 hW9 => ⟨⟨_, (U4, ad4), rfl, ⟨h, hR.w, hsh, hak⟩, ⟨⟨by rw [ht9]; exact hR.P, hR.D⟩, _, _, by rw [ht9]; exact hLd, hlg⟩⟩, hR.sS.F ht9⟩) hR.sS.2.2 dX12_countersOf_41
      · replace h := h.2 (k_nle rfl rfl c1)
        refine lv_aload_n hx hb dX12_countersOf_12 rfl (lv_at hl 0 rfl) ?_
        refine va_get (D := rD g) (ci := 11) (v := .ref (ad4 52)) (C := RX12) (T := TX12) (N := 18) hx hb hts inX12 hown hR.K hR.P 0 (hR.at51 hR.w.1) rfl 8 (by decide) (hts _ kw_300) (fun _ h9 => h9) (congrArg (fun z => some (vf ad4 z)) (hR.w.2.1 _ finC_30).1) dX12_countersOf_13 ?_
        refine lv_aload_n hx hb dX12_countersOf_16 rfl (lv_at hl 1 rfl) ?_
        refine lv_iload_n hx hb dX12_countersOf_17 rfl (lv_at hl 3 rfl) ?_
        replace h := h (hT_v4_1)
        obtain ⟨Q2, h0, h⟩ := h
        have hFc := cfree hR hA
        refine va_callq (va_runV (As := [.int v4_3]) (rest := [.ref (ad4 52)]) ⟨hx, hb, hml, hown, hts⟩ (rX10_rowAt l g ad4 H.size U4 v4_1 v4_3 hR.w hT_v4_1 Q2 h0) (cwV 1 hts (gd_V kw_324 kw_70 kw_71 kw_34 kw_69) rfl rfl rfl (by decide +kernel) ⟨Nat.le_of_ble_eq_true rfl, Nat.le_of_ble_eq_true rfl⟩) ⟨cblind, va_recv hR.K hR.P (ci := 9) (q0 := v4_1) rfl (hR.at49 hT_v4_1), fun U hU hW9 => cmk hU hW9 hR hex hE hFc⟩ rfl rfl hl.1 rfl (lv_room (Nat.le_of_ble_eq_true rfl)) dX12_countersOf_18 ⟨(show dc4 + 0 ≤ KCC - qn S from hlg.c), (show ds4 + 0 ≤ KSC - qu S from hlg.s)⟩) hR.sS (fun q _ h => hFc q h) hFc (fun r3 S4 t9 H1 locs ht9 hvm9 hw9 hB9 hz9 hk9 hS => ?_)
        obtain ⟨b6, rfl, hq5, hw9, hs9, hO_b6⟩ := hw9
        have hR : RepC g ad4 A s S4 H1 locs := hR.call ht9 hB9 hw9 hS hFc
        have hsh := hsh.tr hs9.1
        have hlg : lgC S S4 (dc4) (ds4) := hlg.same hs9
        replace h := h b6 S4 hq5 hw9 hs9 hO_b6
        have hT_v4_1 := hs9.T hT_v4_1 (by decide)
        clear hB9 hz9 hk9 hvm9 ht9 hw9 hs9 hS
        generalize H1 = H at hR ⊢
        obtain ⟨Q7, h0, h⟩ := h
        have hFc := cfree hR hA
        refine W_led2 (fun hL0 => ?_)
        refine va_callv (va_runV (As := [vf ad4 b6]) (rest := []) ⟨hx, hb, hml, hown, hts⟩ (rX3_draw l g ad4 H S4 b6 hR.w hO_b6 Q7 h0) (cwV 1 hts (gd_V kw_301 kw_873 kw_874 kw_401 kw_872) rfl rfl rfl (by decide +kernel) ⟨Nat.le_of_ble_eq_true rfl, Nat.le_of_ble_eq_true rfl⟩) ⟨cblindH, va_recv hR.K hR.P (ci := 3) (q0 := 52) rfl (hR.at43 (hR.w.2.1 _ finC_30).2.1), fun U hU hW9 => cmkH hU hW9 hR hex hE hFc⟩ rfl rfl hl.1 rfl (lv_room (Nat.le_of_ble_eq_true rfl)) dX12_countersOf_21 ⟨(show dc4 + (KCC - qn S4) ≤ KCC - qn S from hlg.cm), (show ds4 + (KSC - qu S4) ≤ KSC - qu S from hlg.sm)⟩) hR.sS (fun q _ h => hFc q h) hFc (fun  S8 t9 H1 locs ht9 hvm9 hw9 hB9 hz9 hk9 hS => ?_)
        rcases S8 with ⟨S8, ak10⟩
        obtain ⟨hB9, dc9, ds9, hL9, hl9⟩ := hB9
        dsimp only at hw9 hB9 hl9
        rw [ht9] at hL9
        obtain ⟨hq9, hw9, hs9, hk8⟩ := hw9
        have hw8 := hR.w
        have hak := hak.tr hk8 hlg.2.2.1
        have hE := hE.ad hk8
        have hR : RepC g ak10 A s S8 H1 locs := hR.callH ht9 hB9 hw9 hS hFc
        have hsh := hsh.tr hs9
        refine W_tight2 (hL0.tr hL9).1 (hL0.tr hL9).2.1 ?_
        have hlg := hlg.call hl9
        replace h := h  S8 hq9 hw9 hs9
        have ea_0 : ak10 0 = ad4 0 := hk8 _ (hw8.hd hw8.1 (by decide) (by decide))
        have ea_1 : ak10 v4_1 = ad4 v4_1 := hk8 _ (hw8.hd hT_v4_1 (by decide) (by decide))
        have hl : lv_has ls 4 [(0, .ref (ak10 0)), (1, .ref (ak10 v4_1)), (2, .int v4_2), (3, .int v4_3)] := by simp only [ea_0, ea_1]; exact hl
        have hT_v4_1 := hs9.T hT_v4_1 (by decide)
        clear hB9 hz9 hk9 hvm9 ht9 hw9 hs9 hS hL0 hL9
        generalize H1 = H at hR ⊢
        generalize dc9 = dc_ak10, ds9 = ds_ak10 at hlg ⊢
        refine lv_iload_n hx hb dX12_countersOf_24 rfl (lv_at hl 2 rfl) ?_
        refine lv_aload_n hx hb dX12_countersOf_25 rfl (lv_at hl 0 rfl) ?_
        refine va_get (D := rD g) (ci := 11) (v := .ref (ak10 52)) (C := RX12) (T := TX12) (N := 18) hx hb hts inX12 hown hR.K hR.P 0 (hR.at51 hR.w.1) rfl 8 (by decide) (hts _ kw_300) (fun _ h9 => h9) (congrArg (fun z => some (vf ak10 z)) (hR.w.2.1 _ finC_30).1) dX12_countersOf_26 ?_
        obtain ⟨Q11, h0, h⟩ := h
        have hFc := cfree hR hA
        refine va_calli (va_runV (As := []) (rest := [.int v4_2]) ⟨hx, hb, hml, hown, hts⟩ (rX3_reachedCount l g ak10 H.size S8 hR.w  Q11 h0) (cwV 0 hts (gd_V kw_326 kw_946 kw_947 kw_401 kw_945) rfl rfl rfl (by decide +kernel) ⟨Nat.le_of_ble_eq_true rfl, Nat.le_of_ble_eq_true rfl⟩) ⟨cblind, va_recv hR.K hR.P (ci := 3) (q0 := 52) rfl (hR.at43 (hR.w.2.1 _ finC_30).2.1), fun U hU hW9 => cmk hU hW9 hR hex hE hFc⟩ rfl rfl hl.1 rfl (lv_room (Nat.le_of_ble_eq_true rfl)) dX12_countersOf_29 ⟨(show dc4 + dc_ak10 + 0 ≤ KCC - qn S from hlg.c), (show ds4 + ds_ak10 + 0 ≤ KSC - qu S from hlg.s)⟩) hR.sS (fun q _ h => hFc q h) hFc (fun r12 S13 t9 H1 locs ht9 hvm9 hw9 hB9 hz9 hk9 hS => ?_)
        obtain ⟨hq14, hw9, hs9⟩ := hw9
        have hR : RepC g ak10 A s S13 H1 locs := hR.call ht9 hB9 hw9 hS hFc
        have hsh := hsh.tr hs9.1
        have hlg : lgC S S13 (dc4 + dc_ak10) (ds4 + ds_ak10) := hlg.same hs9
        replace h := h r12 S13 hq14 hw9 hs9
        have hT_v4_1 := hs9.T hT_v4_1 (by decide)
        clear hB9 hz9 hk9 hvm9 ht9 hw9 hs9 hS
        generalize H1 = H at hR ⊢
        refine lv_iadd hx hb dX12_countersOf_32 ?_
        refine lv_topi (fun z15 ez15 => ?_)
        obtain rfl : z15 = (v4_2 + r12) := ez15
        obtain ⟨a16, ea16⟩ : ∃ z, z = (v4_2 + r12) := ⟨_, rfl⟩
        rw [← ea16]
        replace h := h a16 ea16
        refine lv_istore_n (lv' := [(2, .int a16), (0, .ref (ak10 0)), (1, .ref (ak10 v4_1)), (3, .int v4_3)]) hx hb dX12_countersOf_33 rfl hl (by decide) rfl (fun ls hl => ?_)
        obtain ⟨a17, ea17⟩ : ∃ z, z = (v4_3 + Int32.ofInt 1) := ⟨_, rfl⟩
        replace h := h a17 ea17
        refine lv_iinc (v := a17) (lv' := [(3, .int a17), (2, .int a16), (0, .ref (ak10 0)), (1, .ref (ak10 v4_1))]) hx hb dX12_countersOf_34 hl (k := 3) rfl ea17.symm (by decide) rfl (fun ls hl => ?_)
        refine lv_goto (tgt := 4) hx hb dX12_countersOf_37 (by decide) ?_
        exact ih_4 ak10 (dc4 + dc_ak10) (ds4 + ds_ak10) S13 v4_1 a16 a17 _ _ ls h hT_v4_1 hsh hlg hak hE hR (lv_sub hl [2, 3, 1, 0] rfl)
  obtain ⟨n9, h⟩ := h
  exact J_4 n9 ad (0) (0) S p1 0 0 _ _ ls h hT_p1 hsh hlg hak hE hR (lv_sub hl [2, 3, 1, 0] rfl)
def w_X1_firstFault_L131 (Q : Int32 → MS → Prop) : Nat → MS → Int32 → Prop
  | 0, _, _ => False
  | n131 + 1, U131, v131_3 => (wfC U131 → ((qR U131 16 9 = some (qO U131 16 9)) ∧ (((qI U131 (qO U131 16 9) 2).toInt ≤ v131_3.toInt → (∃ Q28, wX1_keepTypes U131 Q28 ∧ ∀ S29, Q28 S29 → wfC S29 → shx U131 S29 → Q (-1 : Int32) S29)) ∧ (¬ (qI U131 (qO U131 16 9) 2).toInt ≤ v131_3.toInt → (d_X4_isWrong U131 17 v131_3 ∧ (((fX4_isWrong U131 17 v131_3).toInt = 0 → (∃ Q36, wX1_hasBadTypes U131 v131_3 Q36 ∧ ∀ r37 S38, Q36 r37 S38 → wfC S38 → shy U131 S38 → ((r37.toInt = 0 → (∀ a41 : Int32, a41 = (v131_3 + Int32.ofInt 1) → (w_X1_firstFault_L131 Q n131) S38 a41)) ∧ (¬ r37.toInt = 0 → Q v131_3 S38)))) ∧ (¬ (fX4_isWrong U131 17 v131_3).toInt = 0 → Q v131_3 U131)))))))
def w_X1_firstFault_J129 (Q : Int32 → MS → Prop) (U129 : MS) : Prop := (wfC U129 → (∃ n, w_X1_firstFault_L131 Q n U129 0))
def w_X1_firstFault_J117 (Q : Int32 → MS → Prop) (k81 : MS → Int32 → Int32 → Prop) (U117 : MS) (v117_3 : Int32) (v117_4 : Int32) : Prop := (wfC U117 → (∀ a53 : Int32, a53 = (v117_4 + Int32.ofInt 1) → k81 U117 v117_3 a53))
def w_X1_firstFault_L81 (Q : Int32 → MS → Prop) (k60 : MS → Int32 → Prop) : Nat → MS → Int32 → Int32 → Prop
  | 0, _, _, _ => False
  | n81 + 1, U81, v81_3, v81_4 => (wfC U81 → ((qR U81 16 9 = some (qO U81 16 9)) ∧ (((qI U81 (qO U81 16 9) 2).toInt ≤ v81_4.toInt → (∀ a48 : Int32, a48 = (v81_3 + Int32.ofInt 1) → k60 U81 a48)) ∧ (¬ (qI U81 (qO U81 16 9) 2).toInt ≤ v81_4.toInt → (((0 : Int) ≤ v81_4.toInt ∧ v81_4.toInt < (qN U81 (qO U81 16 3) : Int)) ∧ (((qI U81 (qO U81 16 3) v81_4.toInt.toNat).toInt = 0 → w_X1_firstFault_J117 Q (w_X1_firstFault_L81 Q k60 n81) U81 v81_3 v81_4) ∧ (¬ (qI U81 (qO U81 16 3) v81_4.toInt.toNat).toInt = 0 → (((0 : Int) ≤ v81_4.toInt ∧ v81_4.toInt < (qN U81 (qO U81 16 3) : Int)) ∧ (∀ S57, S57 = wI U81 (qO U81 16 3) v81_4.toInt.toNat (vp_nar .boolean (0 : Int32)) → qT U81 (qO U81 16 3) = 302 → wfC S57 → (∃ Q58, wX1_flowFrom S57 v81_4 Q58 ∧ ∀ S59, Q58 S59 → wfC S59 → shy S57 S59 → w_X1_firstFault_J117 Q (w_X1_firstFault_L81 Q k60 n81) S59 v81_3 v81_4))))))))))
def w_X1_firstFault_L60 (Q : Int32 → MS → Prop) : Nat → MS → Int32 → Prop
  | 0, _, _ => False
  | n60 + 1, U60, v60_3 => (wfC U60 → (((qI U60 16 7).toInt = 0 → w_X1_firstFault_J129 Q U60) ∧ (¬ (qI U60 16 7).toInt = 0 → ((1000000 ≤ v60_3.toInt → w_X1_firstFault_J129 Q U60) ∧ (¬ 1000000 ≤ v60_3.toInt → (∀ S44, S44 = wI U60 16 7 (0 : Int32) → qT U60 16 = 41 → wfC S44 → (∃ n, w_X1_firstFault_L81 Q (w_X1_firstFault_L60 Q n60) n S44 v60_3 0)))))))
def wX1_firstFault (S : MS) (p1 : Nat) (p2 : Option Nat) (Q : Int32 → MS → Prop) : Prop := ((p2 = none → Q (-1 : Int32) S) ∧ (¬ p2 = none → (∀ S2, S2 = wR S 16 8 (some p1) → qT S 16 = 41 → wfC S2 → (∀ S3, S3 = wR S2 16 9 (some ((p2).getD 0)) → qT S2 16 = 41 → wfC S3 → ((qR S3 16 8 = some (qO S3 16 8)) ∧ ((qR S3 16 9 = some (qO S3 16 9)) ∧ ((qR S3 16 9 = some (qO S3 16 9)) ∧ (qT S3 17 = 44 → qT S3 (qO S3 16 8) = 49 → qT S3 (qO S3 16 9) = 47 → (∃ Q10, wX4_seek S3 17 (qO S3 16 8) (qO S3 16 9) (qI S3 (qO S3 16 9) 10) Q10 ∧ ∀ S11, Q10 S11 → wfC S11 → shx S3 S11 → ((qR S11 16 9 = some (qO S11 16 9)) ∧ (∃ Q16, wX1_makeRoom S11 (qI S11 (qO S11 16 9) 2) Q16 ∧ ∀ S17, Q16 S17 → wfC S17 → shx S11 S17 → (∃ Q20, wX1_beginBody S17 Q20 ∧ ∀ S21, Q20 S21 → wfC S21 → shy S17 S21 → (∀ S23, S23 = wI S21 16 7 (1 : Int32) → qT S21 16 = 41 → wfC S23 → (∃ n, w_X1_firstFault_L60 Q n S23 0))))))))))))))
set_option maxHeartbeats 2000000 in
set_option maxRecDepth 100000 in
theorem rX1_firstFault (l : Launch) (g : Gr) (ad : Nat → Nat) (H0 : Heap) (S : MS) (p1 : Nat) (p2 : Option Nat) (hw : wfC S) (hT_p1 : qT S p1 = 49) (hO_p2 : ∀ z, p2 = some z → qT S z = 47) (Q : Int32 → MS → Prop) (h : wX1_firstFault S p1 p2 Q) : Met l yX1_firstFault (wt yX1_firstFault cX1_firstFault 5 (some .int)) ({ frames := 6, cells := KCC - qn S, slots := KSC - qu S, locals := 133 }) (va_Pc [.ref (ad 16), .ref (ad p1), vf ad p2] (st_CH g ad H0 S)) (va_Qi (fun (r : Int32) (u : MS × (Nat → Nat)) => Q r u.1 ∧ wfC u.1 ∧ shx S u.1 ∧ adk ad u.2 S) (fun (u : MS × (Nat → Nat)) (t : State) => qEHC g (va_A (WdC g ad S) H0.size) S H0 u t) (va_A (WdC g ad S) H0.size)) (KCC - qn S) (KSC - qu S) (va_A (WdC g ad S) H0.size) := by
  refine Met.ofW (cc := cX1_firstFault) (maxL := 5) (ret := (some .int)) (by decide) rfl ?_
  intro p e s m args below meth c s₁ B hml hv
  obtain ⟨rfl, hH0, hsz, hP, hK, hD0, hex, hE⟩ := hv
  have hx := B.exec
  have hb := B.bytes
  have hr := B.returns
  have hts0 := atoms_spec (ws := wt yX1_firstFault cX1_firstFault 5 (some .int)) B.pre
  have hts : ∀ w ∈ tb, w.before _ s = true := fun w h => hts0 w (List.mem_cons_of_mem _ h)
  have hown : s.vm.findClass RX1 = some m.cls := findClass_of_methodNamed B.named
  subst hH0
  have hD := hD0.self (sz := s.heap.size)
  generalize hAe : va_A (WdC g ad S) s.heap.size = A at hD hE ⊢
  have hA : ∀ q : Nat, s.heap.size ≤ q → A q := fun q h => by rw [← hAe]; exact Or.inr h
  have hR : RepC g ad A s S s.heap [] := ⟨hK, hP, hD, va_S.rf, hw⟩
  clear hK hP hD hD0
  have hl := lv_entry ([.ref (ad 16), .ref (ad p1), vf ad p2]) (n := 5) (by cases p2 <;> exact Nat.le_of_ble_eq_true rfl)
  rw [lg_entry_eq]
  generalize (lg_sl ([.ref (ad 16), .ref (ad p1), vf ad p2]) ++ List.replicate (5 - (lg_sl ([.ref (ad 16), .ref (ad p1), vf ad p2])).length) Slot.unset).toArray = ls at hl ⊢
  have hlg : lgC S S 0 0 := lgC.rf
  have hak : adk ad ad S := adk.rf
  have hl : lv_has ls 5 [(0, .ref (ad 16)), (1, .ref (ad p1)), (2, vf ad p2)] := by cases p2 <;> exact hl
  have hsh : shx S S := shx.rf
  unfold wX1_firstFault at h
  rcases (show p2 = none ∨ ∃ z, p2 = some z by cases p2 <;> simp) with hq_b1 | ⟨b1, hq_b1⟩
  · rw [hq_b1] at hl
    skip
    replace h := h.1 (hq_b1)
    refine lv_aload_nN hx hb dX1_firstFault_0 rfl (lv_at hl 2 rfl) ?_
    refine lv_ifnonnullN hx hb dX1_firstFault_1 ?_
    refine lv_iconst (v := (-1)) hx hb dX1_firstFault_4 (by decide) ?_
    refine W_led2 (fun hLd => ?_)
    refine W.widen (k := KCC - qn S) (n := KSC - qu S) hlg.c hlg.s ?_
    exact W.iret (v := (-1)) hx hb hr (fun t9 ht9 hW9 => ⟨⟨_, (S, ad), rfl, ⟨h, hR.w, hsh, hak⟩, ⟨⟨by rw [ht9]; exact hR.P, hR.D⟩, _, _, by rw [ht9]; exact hLd, hlg⟩⟩, hR.sS.F ht9⟩) hR.sS.2.2 dX1_firstFault_5
  · rw [hq_b1] at hl
    have hg_b1 : b1 = (p2).getD 0 := by rw [hq_b1]; rfl
    have hT_b1 : qT S ((p2).getD 0) = 47 := hg_b1 ▸ hO_p2 _ hq_b1
    subst hg_b1
    replace h := h.2 (fun q9 => Option.some_ne_none _ (hq_b1.symm.trans q9))
    refine lv_aload_n hx hb dX1_firstFault_0 rfl (lv_at hl 2 rfl) ?_
    refine lv_ifnonnull (tgt := 6) hx hb dX1_firstFault_1 (by decide) ?_
    refine lv_aload_n hx hb dX1_firstFault_6 rfl (lv_at hl 0 rfl) ?_
    refine lv_aload_n hx hb dX1_firstFault_7 rfl (lv_at hl 1 rfl) ?_
    refine va_put (D := rD g) (ci := 1) (v := .ref (ad p1)) (ty := (.object "CodeFoundry$Unit")) (C := RX1) (T := TX1) (N := 10) hx hb hts inX1 tyX1 tyX1_ok nmX1 hown hR.K hR.P hR.D hR.sS 16 (hR.at41 (hR.w.2.1 _ finC_27).2.1) rfl 8 (by decide) (hts _ kw_478) (fun _ h9 => h9) rfl (by decide +kernel) rfl rfl (Nat.le_of_ble_eq_true rfl) dX1_firstFault_8 (fun H locs hP hD hS => ?_)
    have hw9 : wfC (wR S 16 8 (some p1)) := hR.w.put (fun b q9 => by cases q9; exact (hT_p1).trans (by rw [(hR.w.2.1 _ finC_27).2.1]; rfl)) (nofC_16_8) (by rw [(hR.w.2.1 _ finC_27).2.1]; decide) (fun b _ q9 => absurd (show otgC (qT S 16) 8 = 0 by rw [(hR.w.2.1 _ finC_27).2.1]; decide) q9) (fun _ => Option.some_ne_none _)
    have hTk9 : qT S 16 = 41 := (hR.w.2.1 _ finC_27).2.1
    have hR : RepC g ad A s (wR S 16 8 (some p1)) H locs := hR.pR41 (hR.w.2.1 _ finC_27).2.1 FX1_s8 hw9 hP hD hS
    obtain ⟨S2, eS2⟩ : ∃ z, z = wR S 16 8 (some p1) := ⟨_, rfl⟩
    rw [← eS2] at hR
    replace h := h S2 eS2 hTk9 hR.w
    have hT_p1 : qT S2 p1 = 49 := (congrArg (fun z => qT z p1) eS2).trans hT_p1
    have hT_b1 : qT S2 ((p2).getD 0) = 47 := (congrArg (fun z => qT z ((p2).getD 0)) eS2).trans hT_b1
    have hsh : shx S S2 := by rw [eS2]; exact hsh
    have hlg : lgC S S2 (0) (0) := by rw [eS2]; exact hlg
    refine lv_aload_n hx hb dX1_firstFault_11 rfl (lv_at hl 0 rfl) ?_
    refine lv_aload_n hx hb dX1_firstFault_12 rfl (lv_at hl 2 rfl) ?_
    refine va_put (D := rD g) (ci := 1) (v := .ref (ad ((p2).getD 0))) (ty := (.object "CodeFoundry$Row")) (C := RX1) (T := TX1) (N := 10) hx hb hts inX1 tyX1 tyX1_ok nmX1 hown hR.K hR.P hR.D hR.sS 16 (hR.at41 (hR.w.2.1 _ finC_27).2.1) rfl 9 (by decide) (hts _ kw_479) (fun _ h9 => h9) rfl (by decide +kernel) rfl rfl (Nat.le_of_ble_eq_true rfl) dX1_firstFault_13 (fun H locs hP hD hS => ?_)
    have hw9 : wfC (wR S2 16 9 (some ((p2).getD 0))) := hR.w.put (fun b q9 => by cases q9; exact (hT_b1).trans (by rw [(hR.w.2.1 _ finC_27).2.1]; rfl)) (nofC_16_9) (by rw [(hR.w.2.1 _ finC_27).2.1]; decide) (fun b _ q9 => absurd (show otgC (qT S2 16) 9 = 0 by rw [(hR.w.2.1 _ finC_27).2.1]; decide) q9) (fun _ => Option.some_ne_none _)
    have hTk9 : qT S2 16 = 41 := (hR.w.2.1 _ finC_27).2.1
    have hR : RepC g ad A s (wR S2 16 9 (some ((p2).getD 0))) H locs := hR.pR41 (hR.w.2.1 _ finC_27).2.1 FX1_s9 hw9 hP hD hS
    obtain ⟨S3, eS3⟩ : ∃ z, z = wR S2 16 9 (some ((p2).getD 0)) := ⟨_, rfl⟩
    rw [← eS3] at hR
    replace h := h S3 eS3 hTk9 hR.w
    have hT_p1 : qT S3 p1 = 49 := (congrArg (fun z => qT z p1) eS3).trans hT_p1
    have hT_b1 : qT S3 ((p2).getD 0) = 47 := (congrArg (fun z => qT z ((p2).getD 0)) eS3).trans hT_b1
    have hsh : shx S S3 := by rw [eS3]; exact hsh
    have hlg : lgC S S3 (0) (0) := by rw [eS3]; exact hlg
    refine lv_aload_n hx hb dX1_firstFault_16 rfl (lv_at hl 0 rfl) ?_
    refine va_get (D := rD g) (ci := 1) (v := .ref (ad 17)) (C := RX1) (T := TX1) (N := 10) hx hb hts inX1 hown hR.K hR.P 16 (hR.at41 (hR.w.2.1 _ finC_27).2.1) rfl 0 (by decide) (hts _ kw_492) (fun _ h9 => h9) (congrArg (fun z => some (vf ad z)) (hR.w.2.1 _ finC_0).1) dX1_firstFault_17 ?_
    refine lv_aload_n hx hb dX1_firstFault_20 rfl (lv_at hl 0 rfl) ?_
    obtain ⟨hv5, h⟩ := h
    have hT_b4 : qT S3 (qO S3 16 8) = 49 := hR.w.ref hv5 (hR.w.2.1 _ finC_27).2.1
    refine va_get (D := rD g) (ci := 1) (v := .ref (ad (qO S3 16 8))) (C := RX1) (T := TX1) (N := 10) hx hb hts inX1 hown hR.K hR.P 16 (hR.at41 (hR.w.2.1 _ finC_27).2.1) rfl 8 (by decide) (hts _ kw_478) (fun _ h9 => h9) (congrArg (fun z => some (vf ad z)) hv5) dX1_firstFault_21 ?_
    refine lv_aload_n hx hb dX1_firstFault_24 rfl (lv_at hl 0 rfl) ?_
    obtain ⟨hv7, h⟩ := h
    have hT_b6 : qT S3 (qO S3 16 9) = 47 := hR.w.ref hv7 (hR.w.2.1 _ finC_27).2.1
    refine va_get (D := rD g) (ci := 1) (v := .ref (ad (qO S3 16 9))) (C := RX1) (T := TX1) (N := 10) hx hb hts inX1 hown hR.K hR.P 16 (hR.at41 (hR.w.2.1 _ finC_27).2.1) rfl 9 (by decide) (hts _ kw_479) (fun _ h9 => h9) (congrArg (fun z => some (vf ad z)) hv7) dX1_firstFault_25 ?_
    refine lv_aload_n hx hb dX1_firstFault_28 rfl (lv_at hl 0 rfl) ?_
    obtain ⟨hv9, h⟩ := h
    have hT_b8 : qT S3 (qO S3 16 9) = 47 := hR.w.ref hv9 (hR.w.2.1 _ finC_27).2.1
    refine va_get (D := rD g) (ci := 1) (v := .ref (ad (qO S3 16 9))) (C := RX1) (T := TX1) (N := 10) hx hb hts inX1 hown hR.K hR.P 16 (hR.at41 (hR.w.2.1 _ finC_27).2.1) rfl 9 (by decide) (hts _ kw_479) (fun _ h9 => h9) (congrArg (fun z => some (vf ad z)) hv9) dX1_firstFault_29 ?_
    refine va_get (D := rD g) (ci := 7) (v := .int (qI S3 (qO S3 16 9) 10)) (C := RX8) (T := TX8) (N := 15) hx hb hts inX8 hown hR.K hR.P (qO S3 16 9) (hR.at47 hT_b8) rfl 10 (by decide) (hts _ kw_502) (fun _ h9 => h9) rfl dX1_firstFault_32 ?_
    replace h := h ((hR.w.2.1 _ finC_0).2.1) (hT_b4) (hT_b6)
    obtain ⟨Q10, h0, h⟩ := h
    have hFc := cfree hR hA
    refine W_led2 (fun hL0 => ?_)
    refine va_callv (va_runV (As := [.ref (ad (qO S3 16 8)), .ref (ad (qO S3 16 9)), .int (qI S3 (qO S3 16 9) 10)]) (rest := []) ⟨hx, hb, hml, hown, hts⟩ (rX4_seek l g ad H S3 17 (qO S3 16 8) (qO S3 16 9) (qI S3 (qO S3 16 9) 10) hR.w (hR.w.2.1 _ finC_0).2.1 hT_b4 hT_b6 Q10 h0) (cwV 3 hts (gd_V kw_503 kw_976 kw_977 kw_167 kw_975) rfl rfl rfl (by decide +kernel) ⟨Nat.le_of_ble_eq_true rfl, Nat.le_of_ble_eq_true rfl⟩) ⟨cblindH, va_recv hR.K hR.P (ci := 4) (q0 := 17) rfl (hR.at44 (hR.w.2.1 _ finC_0).2.1), fun U hU hW9 => cmkH hU hW9 hR hex hE hFc⟩ rfl rfl hl.1 rfl (lv_room (Nat.le_of_ble_eq_true rfl)) dX1_firstFault_35 ⟨(show 0 + (KCC - qn S3) ≤ KCC - qn S from hlg.cm), (show 0 + (KSC - qu S3) ≤ KSC - qu S from hlg.sm)⟩) hR.sS (fun q _ h => hFc q h) hFc (fun  S11 t9 H1 locs ht9 hvm9 hw9 hB9 hz9 hk9 hS => ?_)
    rcases S11 with ⟨S11, ak13⟩
    obtain ⟨hB9, dc9, ds9, hL9, hl9⟩ := hB9
    dsimp only at hw9 hB9 hl9
    rw [ht9] at hL9
    obtain ⟨hq12, hw9, hs9, hk8⟩ := hw9
    have hw8 := hR.w
    have hak := hak.tr hk8 hlg.2.2.1
    have hE := hE.ad hk8
    have hR : RepC g ak13 A s S11 H1 locs := hR.callH ht9 hB9 hw9 hS hFc
    have hsh := hsh.tr hs9
    refine W_tight2 (hL0.tr hL9).1 (hL0.tr hL9).2.1 ?_
    have hlg := hlg.call hl9
    replace h := h  S11 hq12 hw9 hs9
    have ea_0 : ak13 16 = ad 16 := hk8 _ (hw8.hd (hw8.2.1 _ finC_27).2.1 (by decide) (by decide))
    have ea_1 : ak13 p1 = ad p1 := hk8 _ (hw8.hd hT_p1 (by decide) (by decide))
    have ea_2 : ak13 ((p2).getD 0) = ad ((p2).getD 0) := hk8 _ (hw8.hd hT_b1 (by decide) (by decide))
    have hl : lv_has ls 5 [(0, .ref (ak13 16)), (1, .ref (ak13 p1)), (2, .ref (ak13 ((p2).getD 0)))] := by simp only [ea_0, ea_1, ea_2]; exact hl
    have hT_p1 := hs9.T hT_p1 (by decide)
    have hT_b1 := hs9.T hT_b1 (by decide)
    clear hB9 hz9 hk9 hvm9 ht9 hw9 hs9 hS hL0 hL9
    generalize H1 = H at hR ⊢
    generalize dc9 = dc_ak13, ds9 = ds_ak13 at hlg ⊢
    refine lv_aload_n hx hb dX1_firstFault_38 rfl (lv_at hl 0 rfl) ?_
    refine lv_aload_n hx hb dX1_firstFault_39 rfl (lv_at hl 0 rfl) ?_
    obtain ⟨hv15, h⟩ := h
    have hT_b14 : qT S11 (qO S11 16 9) = 47 := hR.w.ref hv15 (hR.w.2.1 _ finC_27).2.1
    refine va_get (D := rD g) (ci := 1) (v := .ref (ak13 (qO S11 16 9))) (C := RX1) (T := TX1) (N := 10) hx hb hts inX1 hown hR.K hR.P 16 (hR.at41 (hR.w.2.1 _ finC_27).2.1) rfl 9 (by decide) (hts _ kw_479) (fun _ h9 => h9) (congrArg (fun z => some (vf ak13 z)) hv15) dX1_firstFault_40 ?_
    refine va_get (D := rD g) (ci := 7) (v := .int (qI S11 (qO S11 16 9) 2)) (C := RX8) (T := TX8) (N := 15) hx hb hts inX8 hown hR.K hR.P (qO S11 16 9) (hR.at47 hT_b14) rfl 2 (by decide) (hts _ kw_491) (fun _ h9 => h9) rfl dX1_firstFault_43 ?_
    obtain ⟨Q16, h0, h⟩ := h
    have hFc := cfree hR hA
    refine W_led2 (fun hL0 => ?_)
    refine va_callv (va_runV (As := [.int (qI S11 (qO S11 16 9) 2)]) (rest := []) ⟨hx, hb, hml, hown, hts⟩ (rX1_makeRoom l g ak13 H S11 (qI S11 (qO S11 16 9) 2) hR.w  Q16 h0) (cwV 1 hts (gd_V kw_504 kw_576 kw_577 kw_392 kw_575) rfl rfl rfl (by decide +kernel) ⟨Nat.le_of_ble_eq_true rfl, Nat.le_of_ble_eq_true rfl⟩) ⟨cblindH, va_recv hR.K hR.P (ci := 1) (q0 := 16) rfl (hR.at41 (hR.w.2.1 _ finC_27).2.1), fun U hU hW9 => cmkH hU hW9 hR hex hE hFc⟩ rfl rfl hl.1 rfl (lv_room (Nat.le_of_ble_eq_true rfl)) dX1_firstFault_46 ⟨(show 0 + dc_ak13 + (KCC - qn S11) ≤ KCC - qn S from hlg.cm), (show 0 + ds_ak13 + (KSC - qu S11) ≤ KSC - qu S from hlg.sm)⟩) hR.sS (fun q _ h => hFc q h) hFc (fun  S17 t9 H1 locs ht9 hvm9 hw9 hB9 hz9 hk9 hS => ?_)
    rcases S17 with ⟨S17, ak19⟩
    obtain ⟨hB9, dc9, ds9, hL9, hl9⟩ := hB9
    dsimp only at hw9 hB9 hl9
    rw [ht9] at hL9
    obtain ⟨hq18, hw9, hs9, hk8⟩ := hw9
    have hw8 := hR.w
    have hak := hak.tr hk8 hlg.2.2.1
    have hE := hE.ad hk8
    have hR : RepC g ak19 A s S17 H1 locs := hR.callH ht9 hB9 hw9 hS hFc
    have hsh := hsh.tr hs9
    refine W_tight2 (hL0.tr hL9).1 (hL0.tr hL9).2.1 ?_
    have hlg := hlg.call hl9
    replace h := h  S17 hq18 hw9 hs9
    have ea_0 : ak19 16 = ak13 16 := hk8 _ (hw8.hd (hw8.2.1 _ finC_27).2.1 (by decide) (by decide))
    have ea_1 : ak19 p1 = ak13 p1 := hk8 _ (hw8.hd hT_p1 (by decide) (by decide))
    have ea_2 : ak19 ((p2).getD 0) = ak13 ((p2).getD 0) := hk8 _ (hw8.hd hT_b1 (by decide) (by decide))
    have hl : lv_has ls 5 [(0, .ref (ak19 16)), (1, .ref (ak19 p1)), (2, .ref (ak19 ((p2).getD 0)))] := by simp only [ea_0, ea_1, ea_2]; exact hl
    have hT_p1 := hs9.T hT_p1 (by decide)
    have hT_b1 := hs9.T hT_b1 (by decide)
    clear hB9 hz9 hk9 hvm9 ht9 hw9 hs9 hS hL0 hL9
    generalize H1 = H at hR ⊢
    generalize dc9 = dc_ak19, ds9 = ds_ak19 at hlg ⊢
    refine lv_aload_n hx hb dX1_firstFault_49 rfl (lv_at hl 0 rfl) ?_
    obtain ⟨Q20, h0, h⟩ := h
    have hFc := cfree hR hA
    refine va_callv (va_runV (As := []) (rest := []) ⟨hx, hb, hml, hown, hts⟩ (rX1_beginBody l g ak19 H.size S17 hR.w  Q20 h0) (cwV 0 hts (gd_V kw_505 kw_475 kw_476 kw_392 kw_474) rfl rfl rfl (by decide +kernel) ⟨Nat.le_of_ble_eq_true rfl, Nat.le_of_ble_eq_true rfl⟩) ⟨cblind, va_recv hR.K hR.P (ci := 1) (q0 := 16) rfl (hR.at41 (hR.w.2.1 _ finC_27).2.1), fun U hU hW9 => cmk hU hW9 hR hex hE hFc⟩ rfl rfl hl.1 rfl (lv_room (Nat.le_of_ble_eq_true rfl)) dX1_firstFault_50 ⟨(show 0 + dc_ak13 + dc_ak19 + 0 ≤ KCC - qn S from hlg.c), (show 0 + ds_ak13 + ds_ak19 + 0 ≤ KSC - qu S from hlg.s)⟩) hR.sS (fun q _ h => hFc q h) hFc (fun  S21 t9 H1 locs ht9 hvm9 hw9 hB9 hz9 hk9 hS => ?_)
    obtain ⟨hq22, hw9, hs9⟩ := hw9
    have hR : RepC g ak19 A s S21 H1 locs := hR.call ht9 hB9 hw9 hS hFc
    have hsh := hsh.tr hs9.1
    have hlg : lgC S S21 (0 + dc_ak13 + dc_ak19) (0 + ds_ak13 + ds_ak19) := hlg.same hs9
    replace h := h  S21 hq22 hw9 hs9
    have hT_p1 := hs9.T hT_p1 (by decide)
    have hT_b1 := hs9.T hT_b1 (by decide)
    clear hB9 hz9 hk9 hvm9 ht9 hw9 hs9 hS
    generalize H1 = H at hR ⊢
    refine lv_aload_n hx hb dX1_firstFault_53 rfl (lv_at hl 0 rfl) ?_
    refine lv_iconst (v := 1) hx hb dX1_firstFault_54 (by decide) ?_
    refine va_put (D := rD g) (ci := 1) (v := .int 1) (ty := .boolean) (C := RX1) (T := TX1) (N := 10) hx hb hts inX1 tyX1 tyX1_ok nmX1 hown hR.K hR.P hR.D hR.sS 16 (hR.at41 (hR.w.2.1 _ finC_27).2.1) rfl 7 (by decide) (hts _ kw_498) (fun _ h9 => h9) rfl (by decide +kernel) rfl rfl (Nat.le_of_ble_eq_true rfl) dX1_firstFault_55 (fun H locs hP hD hS => ?_)
    have hTk9 : qT S21 16 = 41 := (hR.w.2.1 _ finC_27).2.1
    have hR : RepC g ak19 A s (wI S21 16 7 (1 : Int32)) H locs := hR.pI41 (hR.w.2.1 _ finC_27).2.1 FX1_s7 (fun _ => (Or.inr rfl)) hP hD hS
    obtain ⟨S23, eS23⟩ : ∃ z, z = wI S21 16 7 (1 : Int32) := ⟨_, rfl⟩
    rw [← eS23] at hR
    replace h := h S23 eS23 hTk9 hR.w
    have hT_p1 : qT S23 p1 = 49 := (congrArg (fun z => qT z p1) eS23).trans hT_p1
    have hT_b1 : qT S23 ((p2).getD 0) = 47 := (congrArg (fun z => qT z ((p2).getD 0)) eS23).trans hT_b1
    have hsh : shx S S23 := by rw [eS23]; exact hsh
    have hlg : lgC S S23 (0 + dc_ak13 + dc_ak19) (0 + ds_ak13 + ds_ak19) := by rw [eS23]; exact hlg
    refine lv_iconst (v := 0) hx hb dX1_firstFault_58 (by decide) ?_
    refine lv_istore_n (lv' := [(3, .int 0), (0, .ref (ak19 16)), (1, .ref (ak19 p1)), (2, .ref (ak19 ((p2).getD 0)))]) hx hb dX1_firstFault_59 rfl hl (by decide) rfl (fun ls hl => ?_)
    have J_60 : ∀ (n60 : Nat) (ad60 : Nat → Nat) (dc60 ds60 : Nat) (U60 : MS) (v60_3 : Int32) (H : Heap) (locs : List Loc) (ls : Array Slot), w_X1_firstFault_L60 Q n60 U60 v60_3 → shx S U60 → lgC S U60 dc60 ds60 → adk ad ad60 S → ogC ad60 A s s.heap → RepC g ad60 A s U60 H locs → lv_has ls 5 [(0, .ref (ad60 16)), (3, .int v60_3)] → W p l e (headSpec (wt yX1_firstFault cX1_firstFault 5 (some .int)) ({ frames := 6, cells := KCC - qn S, slots := KSC - qu S, locals := 133 })).room s m ([.ref (ad 16), .ref (ad p1), vf ad p2] : List Value).toArray below meth c H locs dc60 ds60 (MQ below (va_Qi (fun (r : Int32) (u : MS × (Nat → Nat)) => Q r u.1 ∧ wfC u.1 ∧ shx S u.1 ∧ adk ad u.2 S) (fun (u : MS × (Nat → Nat)) (t : State) => qEHC g A S s.heap u t) A) ([.ref (ad 16), .ref (ad p1), vf ad p2] : List Value).toArray s (KCC - qn S) (KSC - qu S) A) (F0 m 60 ls []) := by
      intro n60
      induction n60 with
      | zero => intro ad60 dc60 ds60 U60 v60_3 H locs ls h hsh hlg hak hE hR hl; unfold w_X1_firstFault_L60 at h; exact h.elim
      | succ n60 ih_60 =>
        intro ad60 dc60 ds60 U60 v60_3 H locs ls h hsh hlg hak hE hR hl
        unfold w_X1_firstFault_L60 at h
        replace h := h hR.w
        refine lv_aload_n hx hb dX1_firstFault_60 rfl (lv_at hl 0 rfl) ?_
        refine va_get (D := rD g) (ci := 1) (v := .int (qI U60 16 7)) (C := RX1) (T := TX1) (N := 10) hx hb hts inX1 hown hR.K hR.P 16 (hR.at41 (hR.w.2.1 _ finC_27).2.1) rfl 7 (by decide) (hts _ kw_498) (fun _ h9 => h9) rfl dX1_firstFault_61 ?_
        have hz24 := hR.w.bit (b := 16) (j := 7) ((hR.w.2.1 _ finC_27).2.1) (by decide)
        have J_129 : ∀ (ad129 : Nat → Nat) (dc129 ds129 : Nat) (U129 : MS) (H : Heap) (locs : List Loc) (ls : Array Slot), w_X1_firstFault_J129 Q U129 → shx S U129 → lgC S U129 dc129 ds129 → adk ad ad129 S → ogC ad129 A s s.heap → RepC g ad129 A s U129 H locs → lv_has ls 5 [(0, .ref (ad129 16))] → W p l e (headSpec (wt yX1_firstFault cX1_firstFault 5 (some .int)) ({ frames := 6, cells := KCC - qn S, slots := KSC - qu S, locals := 133 })).room s m ([.ref (ad 16), .ref (ad p1), vf ad p2] : List Value).toArray below meth c H locs dc129 ds129 (MQ below (va_Qi (fun (r : Int32) (u : MS × (Nat → Nat)) => Q r u.1 ∧ wfC u.1 ∧ shx S u.1 ∧ adk ad u.2 S) (fun (u : MS × (Nat → Nat)) (t : State) => qEHC g A S s.heap u t) A) ([.ref (ad 16), .ref (ad p1), vf ad p2] : List Value).toArray s (KCC - qn S) (KSC - qu S) A) (F0 m 129 ls []) := by
          intro ad129 dc129 ds129 U129 H locs ls h hsh hlg hak hE hR hl
          unfold w_X1_firstFault_J129 at h
          replace h := h hR.w
          refine lv_iconst (v := 0) hx hb dX1_firstFault_129 (by decide) ?_
          refine lv_istore_n (lv' := [(3, .int 0), (0, .ref (ad129 16))]) hx hb dX1_firstFault_130 rfl hl (by decide) rfl (fun ls hl => ?_)
          have J_131 : ∀ (n131 : Nat) (ad131 : Nat → Nat) (dc131 ds131 : Nat) (U131 : MS) (v131_3 : Int32) (H : Heap) (locs : List Loc) (ls : Array Slot), w_X1_firstFault_L131 Q n131 U131 v131_3 → shx S U131 → lgC S U131 dc131 ds131 → adk ad ad131 S → ogC ad131 A s s.heap → RepC g ad131 A s U131 H locs → lv_has ls 5 [(0, .ref (ad131 16)), (3, .int v131_3)] → W p l e (headSpec (wt yX1_firstFault cX1_firstFault 5 (some .int)) ({ frames := 6, cells := KCC - qn S, slots := KSC - qu S, locals := 133 })).room s m ([.ref (ad 16), .ref (ad p1), vf ad p2] : List Value).toArray below meth c H locs dc131 ds131 (MQ below (va_Qi (fun (r : Int32) (u : MS × (Nat → Nat)) => Q r u.1 ∧ wfC u.1 ∧ shx S u.1 ∧ adk ad u.2 S) (fun (u : MS × (Nat → Nat)) (t : State) => qEHC g A S s.heap u t) A) ([.ref (ad 16), .ref (ad p1), vf ad p2] : List Value).toArray s (KCC - qn S) (KSC - qu S) A) (F0 m 131 ls []) := by
            intro n131
            induction n131 with
            | zero => intro ad131 dc131 ds131 U131 v131_3 H locs ls h hsh hlg hak hE hR hl; unfold w_X1_firstFault_L131 at h; exact h.elim
            | succ n131 ih_131 =>
              intro ad131 dc131 ds131 U131 v131_3 H locs ls h hsh hlg hak hE hR hl
              unfold w_X1_firstFault_L131 at h
              replace h := h hR.w
              refine lv_iload_n hx hb dX1_firstFault_131 rfl (lv_at hl 1 rfl) ?_
              refine lv_aload_n hx hb dX1_firstFault_132 rfl (lv_at hl 0 rfl) ?_
              obtain ⟨hv26, h⟩ := h
              have hT_b25 : qT U131 (qO U131 16 9) = 47 := hR.w.ref hv26 (hR.w.2.1 _ finC_27).2.1
              refine va_get (D := rD g) (ci := 1) (v := .ref (ad131 (qO U131 16 9))) (C := RX1) (T := TX1) (N := 10) hx hb hts inX1 hown hR.K hR.P 16 (hR.at41 (hR.w.2.1 _ finC_27).2.1) rfl 9 (by decide) (hts _ kw_479) (fun _ h9 => h9) (congrArg (fun z => some (vf ad131 z)) hv26) dX1_firstFault_133 ?_
              refine va_get (D := rD g) (ci := 7) (v := .int (qI U131 (qO U131 16 9) 2)) (C := RX8) (T := TX8) (N := 15) hx hb hts inX8 hown hR.K hR.P (qO U131 16 9) (hR.at47 hT_b25) rfl 2 (by decide) (hts _ kw_491) (fun _ h9 => h9) rfl dX1_firstFault_136 ?_
              refine lv_icmp_ge (tgt := 169) hx hb dX1_firstFault_139 (by decide) (fun c27 => ?_) (fun c27 => ?_)
              · replace h := h.1 (k_le rfl rfl c27)
                refine lv_aload_n hx hb dX1_firstFault_169 rfl (lv_at hl 0 rfl) ?_
                obtain ⟨Q28, h0, h⟩ := h
                have hFc := cfree hR hA
                refine W_led2 (fun hL0 => ?_)
                refine va_callv (va_runV (As := []) (rest := []) ⟨hx, hb, hml, hown, hts⟩ (rX1_keepTypes l g ad131 H U131 hR.w  Q28 h0) (cwV 0 hts (gd_V kw_509 kw_561 kw_562 kw_392 kw_560) rfl rfl rfl (by decide +kernel) ⟨Nat.le_of_ble_eq_true rfl, Nat.le_of_ble_eq_true rfl⟩) ⟨cblindH, va_recv hR.K hR.P (ci := 1) (q0 := 16) rfl (hR.at41 (hR.w.2.1 _ finC_27).2.1), fun U hU hW9 => cmkH hU hW9 hR hex hE hFc⟩ rfl rfl hl.1 rfl (lv_room (Nat.le_of_ble_eq_true rfl)) dX1_firstFault_170 ⟨(show dc131 + (KCC - qn U131) ≤ KCC - qn S from hlg.cm), (show ds131 + (KSC - qu U131) ≤ KSC - qu S from hlg.sm)⟩) hR.sS (fun q _ h => hFc q h) hFc (fun  S29 t9 H1 locs ht9 hvm9 hw9 hB9 hz9 hk9 hS => ?_)
                rcases S29 with ⟨S29, ak31⟩
                obtain ⟨hB9, dc9, ds9, hL9, hl9⟩ := hB9
                dsimp only at hw9 hB9 hl9
                rw [ht9] at hL9
                obtain ⟨hq30, hw9, hs9, hk8⟩ := hw9
                have hw8 := hR.w
                have hak := hak.tr hk8 hlg.2.2.1
                have hE := hE.ad hk8
                have hR : RepC g ak31 A s S29 H1 locs := hR.callH ht9 hB9 hw9 hS hFc
                have hsh := hsh.tr hs9
                refine W_tight2 (hL0.tr hL9).1 (hL0.tr hL9).2.1 ?_
                have hlg := hlg.call hl9
                replace h := h  S29 hq30 hw9 hs9
                have ea_0 : ak31 16 = ad131 16 := hk8 _ (hw8.hd (hw8.2.1 _ finC_27).2.1 (by decide) (by decide))
                have hl : lv_has ls 5 [(0, .ref (ak31 16)), (3, .int v131_3)] := by simp only [ea_0]; exact hl
                clear hB9 hz9 hk9 hvm9 ht9 hw9 hs9 hS hL0 hL9
                generalize H1 = H at hR ⊢
                generalize dc9 = dc_ak31, ds9 = ds_ak31 at hlg ⊢
                refine lv_iconst (v := (-1)) hx hb dX1_firstFault_173 (by decide) ?_
                refine W_led2 (fun hLd => ?_)
                refine W.widen (k := KCC - qn S) (n := KSC - qu S) hlg.c hlg.s ?_
                exact W.iret (v := (-1)) hx hb hr (fun t9 ht9 hW9 => ⟨⟨_, (S29, ak31), rfl, ⟨h, hR.w, hsh, hak⟩, ⟨⟨by rw [ht9]; exact hR.P, hR.D⟩, _, _, by rw [ht9]; exact hLd, hlg⟩⟩, hR.sS.F ht9⟩) hR.sS.2.2 dX1_firstFault_174
              · replace h := h.2 (k_nle rfl rfl c27)
                refine lv_aload_n hx hb dX1_firstFault_142 rfl (lv_at hl 0 rfl) ?_
                refine va_get (D := rD g) (ci := 1) (v := .ref (ad131 17)) (C := RX1) (T := TX1) (N := 10) hx hb hts inX1 hown hR.K hR.P 16 (hR.at41 (hR.w.2.1 _ finC_27).2.1) rfl 0 (by decide) (hts _ kw_492) (fun _ h9 => h9) (congrArg (fun z => some (vf ad131 z)) (hR.w.2.1 _ finC_0).1) dX1_firstFault_143 ?_
                refine lv_iload_n hx hb dX1_firstFault_146 rfl (lv_at hl 1 rfl) ?_
                obtain ⟨hv32, h⟩ := h
                have hFc := cfree hR hA
                refine va_calli (va_runV (As := [.int v131_3]) (rest := []) ⟨hx, hb, hml, hown, hts⟩ (rX4_isWrong l g ad131 H.size U131 17 v131_3 hR.w (hR.w.2.1 _ finC_0).2.1 hv32) (cwV 1 hts (gd_V kw_493 kw_968 kw_969 kw_167 kw_967) rfl rfl rfl (by decide +kernel) ⟨Nat.le_of_ble_eq_true rfl, Nat.le_of_ble_eq_true rfl⟩) ⟨cblind, va_recv hR.K hR.P (ci := 4) (q0 := 17) rfl (hR.at44 (hR.w.2.1 _ finC_0).2.1), fun U hU hW9 => cmk hU hW9 hR hex hE hFc⟩ rfl rfl hl.1 rfl (lv_room (Nat.le_of_ble_eq_true rfl)) dX1_firstFault_147 ⟨(show dc131 + 0 ≤ KCC - qn S from hlg.c), (show ds131 + 0 ≤ KSC - qu S from hlg.s)⟩) hR.sS (fun q _ h => hFc q h) hFc (fun r33 u9 t9 H1 locs ht9 hvm9 hw9 hB9 hz9 hk9 hS => ?_)
                have hR : RepC g ad131 A s U131 H1 locs := hR.call ht9 hB9 hR.w hS hFc
                obtain ⟨rfl, hz_r33⟩ := hw9
                clear hB9 hz9 hk9 hvm9 ht9 hS
                generalize H1 = H at hR ⊢
                refine lv_if_ne (tgt := 161) hx hb dX1_firstFault_150 (by decide) (fun c35 => ?_) (fun c35 => ?_)
                · replace h := h.2 (k_ne rfl (by decide) c35)
                  refine lv_iload_n hx hb dX1_firstFault_161 rfl (lv_at hl 1 rfl) ?_
                  refine W_led2 (fun hLd => ?_)
                  refine W.widen (k := KCC - qn S) (n := KSC - qu S) hlg.c hlg.s ?_
                  exact W.iret (v := v131_3) hx hb hr (fun t9 ht9 hW9 => ⟨⟨_, (U131, ad131), rfl, ⟨h, hR.w, hsh, hak⟩, ⟨⟨by rw [ht9]; exact hR.P, hR.D⟩, _, _, by rw [ht9]; exact hLd, hlg⟩⟩, hR.sS.F ht9⟩) hR.sS.2.2 dX1_firstFault_162
                · replace h := h.1 (k_eq rfl (by decide) c35)
                  refine lv_aload_n hx hb dX1_firstFault_153 rfl (lv_at hl 0 rfl) ?_
                  refine lv_iload_n hx hb dX1_firstFault_154 rfl (lv_at hl 1 rfl) ?_
                  obtain ⟨Q36, h0, h⟩ := h
                  have hFc := cfree hR hA
                  refine va_calli (va_runV (As := [.int v131_3]) (rest := []) ⟨hx, hb, hml, hown, hts⟩ (rX1_hasBadTypes l g ad131 H.size U131 v131_3 hR.w  Q36 h0) (cwV 1 hts (gd_V kw_508 kw_544 kw_545 kw_392 kw_543) rfl rfl rfl (by decide +kernel) ⟨Nat.le_of_ble_eq_true rfl, Nat.le_of_ble_eq_true rfl⟩) ⟨cblind, va_recv hR.K hR.P (ci := 1) (q0 := 16) rfl (hR.at41 (hR.w.2.1 _ finC_27).2.1), fun U hU hW9 => cmk hU hW9 hR hex hE hFc⟩ rfl rfl hl.1 rfl (lv_room (Nat.le_of_ble_eq_true rfl)) dX1_firstFault_155 ⟨(show dc131 + 0 ≤ KCC - qn S from hlg.c), (show ds131 + 0 ≤ KSC - qu S from hlg.s)⟩) hR.sS (fun q _ h => hFc q h) hFc (fun r37 S38 t9 H1 locs ht9 hvm9 hw9 hB9 hz9 hk9 hS => ?_)
                  obtain ⟨hq39, hw9, hs9, hz_r37⟩ := hw9
                  have hR : RepC g ad131 A s S38 H1 locs := hR.call ht9 hB9 hw9 hS hFc
                  have hsh := hsh.tr hs9.1
                  have hlg : lgC S S38 (dc131) (ds131) := hlg.same hs9
                  replace h := h r37 S38 hq39 hw9 hs9
                  clear hB9 hz9 hk9 hvm9 ht9 hw9 hs9 hS
                  generalize H1 = H at hR ⊢
                  refine lv_if_eq (tgt := 163) hx hb dX1_firstFault_158 (by decide) (fun c40 => ?_) (fun c40 => ?_)
                  · replace h := h.1 (k_eq rfl (by decide) c40)
                    obtain ⟨a41, ea41⟩ : ∃ z, z = (v131_3 + Int32.ofInt 1) := ⟨_, rfl⟩
                    replace h := h a41 ea41
                    refine lv_iinc (v := a41) (lv' := [(3, .int a41), (0, .ref (ad131 16))]) hx hb dX1_firstFault_163 hl (k := 1) rfl ea41.symm (by decide) rfl (fun ls hl => ?_)
                    refine lv_goto (tgt := 131) hx hb dX1_firstFault_166 (by decide) ?_
                    exact ih_131 ad131 (dc131) (ds131) S38 a41 _ _ ls h  hsh hlg hak hE hR (lv_sub hl [1, 0] rfl)
                  · replace h := h.2 (k_ne rfl (by decide) c40)
                    refine lv_iload_n hx hb dX1_firstFault_161 rfl (lv_at hl 1 rfl) ?_
                    refine W_led2 (fun hLd => ?_)
                    refine W.widen (k := KCC - qn S) (n := KSC - qu S) hlg.c hlg.s ?_
                    exact W.iret (v := v131_3) hx hb hr (fun t9 ht9 hW9 => ⟨⟨_, (S38, ad131), rfl, ⟨h, hR.w, hsh, hak⟩, ⟨⟨by rw [ht9]; exact hR.P, hR.D⟩, _, _, by rw [ht9]; exact hLd, hlg⟩⟩, hR.sS.F ht9⟩) hR.sS.2.2 dX1_firstFault_162
          obtain ⟨n9, h⟩ := h
          exact J_131 n9 ad129 (dc129) (ds129) U129 0 _ _ ls h  hsh hlg hak hE hR (lv_sub hl [1, 0] rfl)
        refine lv_if_eq (tgt := 129) hx hb dX1_firstFault_64 (by decide) (fun c42 => ?_) (fun c42 => ?_)
        · replace h := h.1 (k_eq rfl (by decide) c42)
          exact J_129 ad60 (dc60) (ds60) U60 _ _ ls h  hsh hlg hak hE hR (lv_sub hl [0] rfl)
        · replace h := h.2 (k_ne rfl (by decide) c42)
          refine lv_iload_n hx hb dX1_firstFault_67 rfl (lv_at hl 1 rfl) ?_
          refine lv_ldc hx hb hown (hts _ kw_506) dX1_firstFault_68 ?_
          refine lv_icmp_ge (tgt := 129) hx hb dX1_firstFault_70 (by decide) (fun c43 => ?_) (fun c43 => ?_)
          · replace h := h.1 (k_le (by decide) rfl c43)
            exact J_129 ad60 (dc60) (ds60) U60 _ _ ls h  hsh hlg hak hE hR (lv_sub hl [0] rfl)
          · replace h := h.2 (k_nle (by decide) rfl c43)
            refine lv_aload_n hx hb dX1_firstFault_73 rfl (lv_at hl 0 rfl) ?_
            refine lv_iconst (v := 0) hx hb dX1_firstFault_74 (by decide) ?_
            refine va_put (D := rD g) (ci := 1) (v := .int 0) (ty := .boolean) (C := RX1) (T := TX1) (N := 10) hx hb hts inX1 tyX1 tyX1_ok nmX1 hown hR.K hR.P hR.D hR.sS 16 (hR.at41 (hR.w.2.1 _ finC_27).2.1) rfl 7 (by decide) (hts _ kw_498) (fun _ h9 => h9) rfl (by decide +kernel) rfl rfl (Nat.le_of_ble_eq_true rfl) dX1_firstFault_75 (fun H locs hP hD hS => ?_)
            have hTk9 : qT U60 16 = 41 := (hR.w.2.1 _ finC_27).2.1
            have hR : RepC g ad60 A s (wI U60 16 7 (0 : Int32)) H locs := hR.pI41 (hR.w.2.1 _ finC_27).2.1 FX1_s7 (fun _ => (Or.inl rfl)) hP hD hS
            obtain ⟨S44, eS44⟩ : ∃ z, z = wI U60 16 7 (0 : Int32) := ⟨_, rfl⟩
            rw [← eS44] at hR
            replace h := h S44 eS44 hTk9 hR.w
            have hsh : shx S S44 := by rw [eS44]; exact hsh
            have hlg : lgC S S44 (dc60) (ds60) := by rw [eS44]; exact hlg
            refine lv_iconst (v := 0) hx hb dX1_firstFault_78 (by decide) ?_
            refine lv_istore (lv' := [(4, .int 0), (0, .ref (ad60 16)), (3, .int v60_3)]) hx hb dX1_firstFault_79 hl (by decide) rfl (fun ls hl => ?_)
            have J_81 : ∀ (n81 : Nat) (ad81 : Nat → Nat) (dc81 ds81 : Nat) (U81 : MS) (v81_3 : Int32) (v81_4 : Int32) (H : Heap) (locs : List Loc) (ls : Array Slot), w_X1_firstFault_L81 Q (w_X1_firstFault_L60 Q n60) n81 U81 v81_3 v81_4 → shx S U81 → lgC S U81 dc81 ds81 → adk ad ad81 S → ogC ad81 A s s.heap → RepC g ad81 A s U81 H locs → lv_has ls 5 [(0, .ref (ad81 16)), (3, .int v81_3), (4, .int v81_4)] → W p l e (headSpec (wt yX1_firstFault cX1_firstFault 5 (some .int)) ({ frames := 6, cells := KCC - qn S, slots := KSC - qu S, locals := 133 })).room s m ([.ref (ad 16), .ref (ad p1), vf ad p2] : List Value).toArray below meth c H locs dc81 ds81 (MQ below (va_Qi (fun (r : Int32) (u : MS × (Nat → Nat)) => Q r u.1 ∧ wfC u.1 ∧ shx S u.1 ∧ adk ad u.2 S) (fun (u : MS × (Nat → Nat)) (t : State) => qEHC g A S s.heap u t) A) ([.ref (ad 16), .ref (ad p1), vf ad p2] : List Value).toArray s (KCC - qn S) (KSC - qu S) A) (F0 m 81 ls []) := by
              intro n81
              induction n81 with
              | zero => intro ad81 dc81 ds81 U81 v81_3 v81_4 H locs ls h hsh hlg hak hE hR hl; unfold w_X1_firstFault_L81 at h; exact h.elim
              | succ n81 ih_81 =>
                intro ad81 dc81 ds81 U81 v81_3 v81_4 H locs ls h hsh hlg hak hE hR hl
                unfold w_X1_firstFault_L81 at h
                replace h := h hR.w
                refine lv_iload hx hb dX1_firstFault_81 (lv_at hl 2 rfl) ?_
                refine lv_aload_n hx hb dX1_firstFault_83 rfl (lv_at hl 0 rfl) ?_
                obtain ⟨hv46, h⟩ := h
                have hT_b45 : qT U81 (qO U81 16 9) = 47 := hR.w.ref hv46 (hR.w.2.1 _ finC_27).2.1
                refine va_get (D := rD g) (ci := 1) (v := .ref (ad81 (qO U81 16 9))) (C := RX1) (T := TX1) (N := 10) hx hb hts inX1 hown hR.K hR.P 16 (hR.at41 (hR.w.2.1 _ finC_27).2.1) rfl 9 (by decide) (hts _ kw_479) (fun _ h9 => h9) (congrArg (fun z => some (vf ad81 z)) hv46) dX1_firstFault_84 ?_
                refine va_get (D := rD g) (ci := 7) (v := .int (qI U81 (qO U81 16 9) 2)) (C := RX8) (T := TX8) (N := 15) hx hb hts inX8 hown hR.K hR.P (qO U81 16 9) (hR.at47 hT_b45) rfl 2 (by decide) (hts _ kw_491) (fun _ h9 => h9) rfl dX1_firstFault_87 ?_
                refine lv_icmp_ge (tgt := 123) hx hb dX1_firstFault_90 (by decide) (fun c47 => ?_) (fun c47 => ?_)
                · replace h := h.1 (k_le rfl rfl c47)
                  obtain ⟨a48, ea48⟩ : ∃ z, z = (v81_3 + Int32.ofInt 1) := ⟨_, rfl⟩
                  replace h := h a48 ea48
                  refine lv_iinc (v := a48) (lv' := [(3, .int a48), (0, .ref (ad81 16)), (4, .int v81_4)]) hx hb dX1_firstFault_123 hl (k := 1) rfl ea48.symm (by decide) rfl (fun ls hl => ?_)
                  refine lv_goto (tgt := 60) hx hb dX1_firstFault_126 (by decide) ?_
                  exact ih_60 ad81 (dc81) (ds81) U81 a48 _ _ ls h  hsh hlg hak hE hR (lv_sub hl [1, 0] rfl)
                · replace h := h.2 (k_nle rfl rfl c47)
                  refine lv_aload_n hx hb dX1_firstFault_93 rfl (lv_at hl 0 rfl) ?_
                  have hT_b49 : qT U81 (qO U81 16 3) = 302 := hR.w.ref (hR.w.ptr ptrC_6) (hR.w.2.1 _ finC_27).2.1
                  refine va_get (D := rD g) (ci := 1) (v := .ref (ad81 (qO U81 16 3))) (C := RX1) (T := TX1) (N := 10) hx hb hts inX1 hown hR.K hR.P 16 (hR.at41 (hR.w.2.1 _ finC_27).2.1) rfl 3 (by decide) (hts _ kw_497) (fun _ h9 => h9) (congrArg (fun z => some (vf ad81 z)) (hR.w.ptr ptrC_6)) dX1_firstFault_94 ?_
                  refine lv_iload hx hb dX1_firstFault_97 (lv_at hl 2 rfl) ?_
                  obtain ⟨hv50, h⟩ := h
                  refine va_zald hx hb hR.K hR.P (qO U81 16 3) 2 (hR.atZ hT_b49 (by decide)) rfl (k_ix (x := v81_4) (a := v81_4.toInt) rfl hv50) dX1_firstFault_99 ?_
                  refine lv_topi (fun z51 ez51 => ?_)
                  obtain rfl : z51 = (qI U81 (qO U81 16 3) v81_4.toInt.toNat) := ez51
                  have hz52 := hR.w.bit3 (b := (qO U81 16 3)) (j := v81_4.toInt.toNat) (hT_b49) (by decide)
                  have J_117 : ∀ (ad117 : Nat → Nat) (dc117 ds117 : Nat) (U117 : MS) (v117_3 : Int32) (v117_4 : Int32) (H : Heap) (locs : List Loc) (ls : Array Slot), w_X1_firstFault_J117 Q (w_X1_firstFault_L81 Q (w_X1_firstFault_L60 Q n60) n81) U117 v117_3 v117_4 → shx S U117 → lgC S U117 dc117 ds117 → adk ad ad117 S → ogC ad117 A s s.heap → RepC g ad117 A s U117 H locs → lv_has ls 5 [(0, .ref (ad117 16)), (3, .int v117_3), (4, .int v117_4)] → W p l e (headSpec (wt yX1_firstFault cX1_firstFault 5 (some .int)) ({ frames := 6, cells := KCC - qn S, slots := KSC - qu S, locals := 133 })).room s m ([.ref (ad 16), .ref (ad p1), vf ad p2] : List Value).toArray below meth c H locs dc117 ds117 (MQ below (va_Qi (fun (r : Int32) (u : MS × (Nat → Nat)) => Q r u.1 ∧ wfC u.1 ∧ shx S u.1 ∧ adk ad u.2 S) (fun (u : MS × (Nat → Nat)) (t : State) => qEHC g A S s.heap u t) A) ([.ref (ad 16), .ref (ad p1), vf ad p2] : List Value).toArray s (KCC - qn S) (KSC - qu S) A) (F0 m 117 ls []) := by
                    intro ad117 dc117 ds117 U117 v117_3 v117_4 H locs ls h hsh hlg hak hE hR hl
                    unfold w_X1_firstFault_J117 at h
                    replace h := h hR.w
                    obtain ⟨a53, ea53⟩ : ∃ z, z = (v117_4 + Int32.ofInt 1) := ⟨_, rfl⟩
                    replace h := h a53 ea53
                    refine lv_iinc (v := a53) (lv' := [(4, .int a53), (0, .ref (ad117 16)), (3, .int v117_3)]) hx hb dX1_firstFault_117 hl (k := 2) rfl ea53.symm (by decide) rfl (fun ls hl => ?_)
                    refine lv_goto (tgt := 81) hx hb dX1_firstFault_120 (by decide) ?_
                    exact ih_81 ad117 (dc117) (ds117) U117 v117_3 a53 _ _ ls h  hsh hlg hak hE hR (lv_sub hl [1, 2, 0] rfl)
                  refine lv_if_eq (tgt := 117) hx hb dX1_firstFault_100 (by decide) (fun c54 => ?_) (fun c54 => ?_)
                  · replace h := h.1 (k_eq rfl (by decide) c54)
                    exact J_117 ad81 (dc81) (ds81) U81 v81_3 v81_4 _ _ ls h  hsh hlg hak hE hR (lv_sub hl [0, 1, 2] rfl)
                  · replace h := h.2 (k_ne rfl (by decide) c54)
                    refine lv_aload_n hx hb dX1_firstFault_103 rfl (lv_at hl 0 rfl) ?_
                    have hT_b55 : qT U81 (qO U81 16 3) = 302 := hR.w.ref (hR.w.ptr ptrC_6) (hR.w.2.1 _ finC_27).2.1
                    refine va_get (D := rD g) (ci := 1) (v := .ref (ad81 (qO U81 16 3))) (C := RX1) (T := TX1) (N := 10) hx hb hts inX1 hown hR.K hR.P 16 (hR.at41 (hR.w.2.1 _ finC_27).2.1) rfl 3 (by decide) (hts _ kw_497) (fun _ h9 => h9) (congrArg (fun z => some (vf ad81 z)) (hR.w.ptr ptrC_6)) dX1_firstFault_104 ?_
                    refine lv_iload hx hb dX1_firstFault_107 (lv_at hl 2 rfl) ?_
                    refine lv_iconst (v := 0) hx hb dX1_firstFault_109 (by decide) ?_
                    obtain ⟨hv56, h⟩ := h
                    refine va_zast hx hb hR.K hR.P hR.D hR.sS (qO U81 16 3) 2 (hR.atZ hT_b55 (by decide)) rfl (k_ix (x := v81_4) (a := v81_4.toInt) rfl hv56) dX1_firstFault_110 (fun H locs hP hD hS => ?_)
                    have hTk9 : qT U81 (qO U81 16 3) = 302 := hT_b55
                    have hR : RepC g ad81 A s (wI U81 (qO U81 16 3) v81_4.toInt.toNat (vp_nar .boolean (0 : Int32))) H locs := hR.aZ hT_b55 (by decide) (bit_nz2 (Or.inl rfl)) hP hD hS
                    obtain ⟨S57, eS57⟩ : ∃ z, z = wI U81 (qO U81 16 3) v81_4.toInt.toNat (vp_nar .boolean (0 : Int32)) := ⟨_, rfl⟩
                    rw [← eS57] at hR
                    replace h := h S57 eS57 hTk9 hR.w
                    have hsh : shx S S57 := by rw [eS57]; exact hsh
                    have hlg : lgC S S57 (dc81) (ds81) := by rw [eS57]; exact hlg
                    refine lv_aload_n hx hb dX1_firstFault_111 rfl (lv_at hl 0 rfl) ?_
                    refine lv_iload hx hb dX1_firstFault_112 (lv_at hl 2 rfl) ?_
                    obtain ⟨Q58, h0, h⟩ := h
                    have hFc := cfree hR hA
                    refine va_callv (va_runV (As := [.int v81_4]) (rest := []) ⟨hx, hb, hml, hown, hts⟩ (rX1_flowFrom l g ad81 H.size S57 v81_4 hR.w  Q58 h0) (cwV 1 hts (gd_V kw_507 kw_511 kw_512 kw_392 kw_510) rfl rfl rfl (by decide +kernel) ⟨Nat.le_of_ble_eq_true rfl, Nat.le_of_ble_eq_true rfl⟩) ⟨cblind, va_recv hR.K hR.P (ci := 1) (q0 := 16) rfl (hR.at41 (hR.w.2.1 _ finC_27).2.1), fun U hU hW9 => cmk hU hW9 hR hex hE hFc⟩ rfl rfl hl.1 rfl (lv_room (Nat.le_of_ble_eq_true rfl)) dX1_firstFault_114 ⟨(show dc81 + 0 ≤ KCC - qn S from hlg.c), (show ds81 + 0 ≤ KSC - qu S from hlg.s)⟩) hR.sS (fun q _ h => hFc q h) hFc (fun  S59 t9 H1 locs ht9 hvm9 hw9 hB9 hz9 hk9 hS => ?_)
                    obtain ⟨hq60, hw9, hs9⟩ := hw9
                    have hR : RepC g ad81 A s S59 H1 locs := hR.call ht9 hB9 hw9 hS hFc
                    have hsh := hsh.tr hs9.1
                    have hlg : lgC S S59 (dc81) (ds81) := hlg.same hs9
                    replace h := h  S59 hq60 hw9 hs9
                    clear hB9 hz9 hk9 hvm9 ht9 hw9 hs9 hS
                    generalize H1 = H at hR ⊢
                    exact J_117 ad81 (dc81) (ds81) S59 v81_3 v81_4 _ _ ls h  hsh hlg hak hE hR (lv_sub hl [0, 1, 2] rfl)
            obtain ⟨n9, h⟩ := h
            exact J_81 n9 ad60 (dc60) (ds60) S44 v60_3 0 _ _ ls h  hsh hlg hak hE hR (lv_sub hl [1, 2, 0] rfl)
    obtain ⟨n9, h⟩ := h
    exact J_60 n9 ak19 (0 + dc_ak13 + dc_ak19) (0 + ds_ak13 + ds_ak19) S23 0 _ _ ls h  hsh hlg hak hE hR (lv_sub hl [1, 0] rfl)
def w_X2_unitOf_L41 (Q : Option Nat → MS → Prop) : Nat → MS → Nat → Int32 → Prop
  | 0, _, _, _ => False
  | n41 + 1, U41, v41_2, v41_3 => (wfC U41 → qT U41 v41_2 = 49 → ((qR U41 v41_2 13 = some (qO U41 v41_2 13)) ∧ (((qN U41 (qO U41 v41_2 13) : Int) ≤ v41_3.toInt → Q (some v41_2) U41) ∧ (¬ (qN U41 (qO U41 v41_2 13) : Int) ≤ v41_3.toInt → ((qR U41 v41_2 13 = some (qO U41 v41_2 13)) ∧ (∃ Q33, wX2_rowOf U41 v41_3 Q33 ∧ ∀ b38 S35, Q33 b38 S35 → wfC S35 → shx U41 S35 → qT S35 b38 = 47 → (((0 : Int) ≤ v41_3.toInt ∧ v41_3.toInt < (qN S35 (qO U41 v41_2 13) : Int)) ∧ (∀ S40, S40 = wR S35 (qO U41 v41_2 13) v41_3.toInt.toNat (some b38) → qT S35 (qO U41 v41_2 13) = 6 → wfC S40 → ((qR S40 v41_2 13 = some (qO S40 v41_2 13)) ∧ (((0 : Int) ≤ v41_3.toInt ∧ v41_3.toInt < (qN S40 (qO S40 v41_2 13) : Int)) ∧ ((qR S40 (qO S40 v41_2 13) v41_3.toInt.toNat = some (qO S40 (qO S40 v41_2 13) v41_3.toInt.toNat)) ∧ (∀ S47, S47 = wI S40 v41_2 14 ((qI S40 v41_2 14) + (qI S40 (qO S40 (qO S40 v41_2 13) v41_3.toInt.toNat) 2)) → qT S40 v41_2 = 49 → wfC S47 → (∀ a48 : Int32, a48 = (v41_3 + Int32.ofInt 1) → (w_X2_unitOf_L41 Q n41) S47 v41_2 a48)))))))))))))
def wX2_unitOf (S : MS) (p1 : Nat) (Q : Option Nat → MS → Prop) : Prop := (qT S p1 = 40 → (∃ Q1, wX7_isSound S p1 Q1 ∧ ∀ r2 S3, Q1 r2 S3 → wfC S3 → shy S S3 → ((r2.toInt = 0 → Q none S3) ∧ (¬ r2.toInt = 0 → (∃ Q6, wX2_limitsHold S3 Q6 ∧ ∀ r7 S8, Q6 r7 S8 → wfC S8 → shy S3 S8 → ((r7.toInt = 0 → Q none S8) ∧ (¬ r7.toInt = 0 → (∃ Q11, wX2_instructionsHold S8 Q11 ∧ ∀ r12 S13, Q11 r12 S13 → wfC S13 → shy S8 S13 → ((r12.toInt = 0 → Q none S13) ∧ (¬ r12.toInt = 0 → (∃ Q16, wX2_pointersHold S13 Q16 ∧ ∀ r17 S18, Q16 r17 S18 → wfC S18 → shy S13 S18 → ((r17.toInt = 0 → Q none S18) ∧ (¬ r17.toInt = 0 → (∃ Q21, wX2_build S18 Q21 ∧ ∀ b26 S23, Q21 b26 S23 → wfC S23 → shx S18 S23 → qT S23 b26 = 49 → (∃ n, w_X2_unitOf_L41 Q n S23 b26 0)))))))))))))))
set_option maxHeartbeats 2000000 in
set_option maxRecDepth 100000 in
theorem rX2_unitOf (l : Launch) (g : Gr) (ad : Nat → Nat) (H0 : Heap) (S : MS) (p1 : Nat) (hw : wfC S) (hT_p1 : qT S p1 = 40) (Q : Option Nat → MS → Prop) (h : wX2_unitOf S p1 Q) : Met l yX2_unitOf (wt yX2_unitOf cX2_unitOf 4 (some (.object "CodeFoundry$Unit"))) ({ frames := 8, cells := KCC - qn S, slots := KSC - qu S, locals := 175 }) (va_Pc [.ref (ad 8), .ref (ad p1)] (st_CH g ad H0 S)) (va_Qq (fun (r : Option Nat) (u : MS × (Nat → Nat)) => ∃ b : Option Nat, r = b.map u.2 ∧ Q b u.1 ∧ wfC u.1 ∧ shx S u.1 ∧ adk ad u.2 S ∧ ∀ z, b = some z → qT u.1 z = 49) (fun (u : MS × (Nat → Nat)) (t : State) => qEHC g (va_A (WdC g ad S) H0.size) S H0 u t) (va_A (WdC g ad S) H0.size)) (KCC - qn S) (KSC - qu S) (va_A (WdC g ad S) H0.size) := by
  refine Met.ofW (cc := cX2_unitOf) (maxL := 4) (ret := (some (.object "CodeFoundry$Unit"))) (by decide) rfl ?_
  intro p e s m args below meth c s₁ B hml hv
  obtain ⟨rfl, hH0, hsz, hP, hK, hD0, hex, hE⟩ := hv
  have hx := B.exec
  have hb := B.bytes
  have hr := B.returns
  have hts0 := atoms_spec (ws := wt yX2_unitOf cX2_unitOf 4 (some (.object "CodeFoundry$Unit"))) B.pre
  have hts : ∀ w ∈ tb, w.before _ s = true := fun w h => hts0 w (List.mem_cons_of_mem _ h)
  have hown : s.vm.findClass RX2 = some m.cls := findClass_of_methodNamed B.named
  subst hH0
  have hD := hD0.self (sz := s.heap.size)
  generalize hAe : va_A (WdC g ad S) s.heap.size = A at hD hE ⊢
  have hA : ∀ q : Nat, s.heap.size ≤ q → A q := fun q h => by rw [← hAe]; exact Or.inr h
  have hR : RepC g ad A s S s.heap [] := ⟨hK, hP, hD, va_S.rf, hw⟩
  clear hK hP hD hD0
  have hl := lv_entry ([.ref (ad 8), .ref (ad p1)]) (n := 4) (Nat.le_of_ble_eq_true rfl)
  rw [lg_entry_eq]
  generalize (lg_sl ([.ref (ad 8), .ref (ad p1)]) ++ List.replicate (4 - (lg_sl ([.ref (ad 8), .ref (ad p1)])).length) Slot.unset).toArray = ls at hl ⊢
  have hlg : lgC S S 0 0 := lgC.rf
  have hak : adk ad ad S := adk.rf
  have hl : lv_has ls 4 [(0, .ref (ad 8)), (1, .ref (ad p1))] := hl
  have hsh : shx S S := shx.rf
  unfold wX2_unitOf at h
  refine lv_aload_n hx hb dX2_unitOf_0 rfl (lv_at hl 0 rfl) ?_
  refine va_get (D := rD g) (ci := 2) (v := .ref (ad 9)) (C := RX2) (T := TX2) (N := 12) hx hb hts inX2 hown hR.K hR.P 8 (hR.at42 (hR.w.2.1 _ finC_26).2.1) rfl 0 (by decide) (hts _ kw_632) (fun _ h9 => h9) (congrArg (fun z => some (vf ad z)) (hR.w.2.1 _ finC_2).1) dX2_unitOf_1 ?_
  refine lv_aload_n hx hb dX2_unitOf_4 rfl (lv_at hl 1 rfl) ?_
  replace h := h (hT_p1)
  obtain ⟨Q1, h0, h⟩ := h
  have hFc := cfree hR hA
  refine va_calli (va_runV (As := [.ref (ad p1)]) (rest := []) ⟨hx, hb, hml, hown, hts⟩ (rX7_isSound l g ad s.heap.size S p1 hR.w hT_p1 Q1 h0) (cwV 1 hts (gd_V kw_821 kw_1359 kw_1360 kw_710 kw_1358) rfl rfl rfl (by decide +kernel) ⟨Nat.le_of_ble_eq_true rfl, Nat.le_of_ble_eq_true rfl⟩) ⟨cblind, va_recv hR.K hR.P (ci := 6) (q0 := 9) rfl (hR.at46 (hR.w.2.1 _ finC_2).2.1), fun U hU hW9 => cmk hU hW9 hR hex hE hFc⟩ rfl rfl hl.1 rfl (lv_room (Nat.le_of_ble_eq_true rfl)) dX2_unitOf_5 ⟨(show 0 + 0 ≤ KCC - qn S from hlg.c), (show 0 + 0 ≤ KSC - qu S from hlg.s)⟩) hR.sS (fun q _ h => hFc q h) hFc (fun r2 S3 t9 H1 locs ht9 hvm9 hw9 hB9 hz9 hk9 hS => ?_)
  obtain ⟨hq4, hw9, hs9, hz_r2⟩ := hw9
  have hR : RepC g ad A s S3 H1 locs := hR.call ht9 hB9 hw9 hS hFc
  have hsh := hsh.tr hs9.1
  have hlg : lgC S S3 (0) (0) := hlg.same hs9
  replace h := h r2 S3 hq4 hw9 hs9
  have hT_p1 := hs9.T hT_p1 (by decide)
  clear hB9 hz9 hk9 hvm9 ht9 hw9 hs9 hS
  generalize H1 = H at hR ⊢
  refine lv_if_eq (tgt := 32) hx hb dX2_unitOf_8 (by decide) (fun c5 => ?_) (fun c5 => ?_)
  · replace h := h.1 (k_eq rfl (by decide) c5)
    refine lv_null hx hb dX2_unitOf_32 ?_
    refine W_led2 (fun hLd => ?_)
    refine W.widen (k := KCC - qn S) (n := KSC - qu S) hlg.c hlg.s ?_
    exact W.aret (v := .null) hx hb hr (Or.inl ⟨_, rfl⟩) (Or.inl rfl) (fun t9 ht9 hW9 => ⟨⟨none, (S3, ad), rfl, ⟨none, rfl, h, hR.w, hsh, hak, fun z q9 => by cases q9⟩, ⟨⟨by rw [ht9]; exact hR.P, hR.D⟩, _, _, by rw [ht9]; exact hLd, hlg⟩⟩, hR.sS.F ht9⟩) hR.sS.2.2 dX2_unitOf_33
  · replace h := h.2 (k_ne rfl (by decide) c5)
    refine lv_aload_n hx hb dX2_unitOf_11 rfl (lv_at hl 0 rfl) ?_
    obtain ⟨Q6, h0, h⟩ := h
    have hFc := cfree hR hA
    refine va_calli (va_runV (As := []) (rest := []) ⟨hx, hb, hml, hown, hts⟩ (rX2_limitsHold l g ad H.size S3 hR.w  Q6 h0) (cwV 0 hts (gd_V kw_822 kw_729 kw_730 kw_389 kw_728) rfl rfl rfl (by decide +kernel) ⟨Nat.le_of_ble_eq_true rfl, Nat.le_of_ble_eq_true rfl⟩) ⟨cblind, va_recv hR.K hR.P (ci := 2) (q0 := 8) rfl (hR.at42 (hR.w.2.1 _ finC_26).2.1), fun U hU hW9 => cmk hU hW9 hR hex hE hFc⟩ rfl rfl hl.1 rfl (lv_room (Nat.le_of_ble_eq_true rfl)) dX2_unitOf_12 ⟨(show 0 + 0 ≤ KCC - qn S from hlg.c), (show 0 + 0 ≤ KSC - qu S from hlg.s)⟩) hR.sS (fun q _ h => hFc q h) hFc (fun r7 S8 t9 H1 locs ht9 hvm9 hw9 hB9 hz9 hk9 hS => ?_)
    obtain ⟨hq9, hw9, hs9, hz_r7⟩ := hw9
    have hR : RepC g ad A s S8 H1 locs := hR.call ht9 hB9 hw9 hS hFc
    have hsh := hsh.tr hs9.1
    have hlg : lgC S S8 (0) (0) := hlg.same hs9
    replace h := h r7 S8 hq9 hw9 hs9
    have hT_p1 := hs9.T hT_p1 (by decide)
    clear hB9 hz9 hk9 hvm9 ht9 hw9 hs9 hS
    generalize H1 = H at hR ⊢
    refine lv_if_eq (tgt := 32) hx hb dX2_unitOf_15 (by decide) (fun c10 => ?_) (fun c10 => ?_)
    · replace h := h.1 (k_eq rfl (by decide) c10)
      refine lv_null hx hb dX2_unitOf_32 ?_
      refine W_led2 (fun hLd => ?_)
      refine W.widen (k := KCC - qn S) (n := KSC - qu S) hlg.c hlg.s ?_
      exact W.aret (v := .null) hx hb hr (Or.inl ⟨_, rfl⟩) (Or.inl rfl) (fun t9 ht9 hW9 => ⟨⟨none, (S8, ad), rfl, ⟨none, rfl, h, hR.w, hsh, hak, fun z q9 => by cases q9⟩, ⟨⟨by rw [ht9]; exact hR.P, hR.D⟩, _, _, by rw [ht9]; exact hLd, hlg⟩⟩, hR.sS.F ht9⟩) hR.sS.2.2 dX2_unitOf_33
    · replace h := h.2 (k_ne rfl (by decide) c10)
      refine lv_aload_n hx hb dX2_unitOf_18 rfl (lv_at hl 0 rfl) ?_
      obtain ⟨Q11, h0, h⟩ := h
      have hFc := cfree hR hA
      refine va_calli (va_runV (As := []) (rest := []) ⟨hx, hb, hml, hown, hts⟩ (rX2_instructionsHold l g ad H.size S8 hR.w  Q11 h0) (cwV 0 hts (gd_V kw_823 kw_713 kw_714 kw_389 kw_712) rfl rfl rfl (by decide +kernel) ⟨Nat.le_of_ble_eq_true rfl, Nat.le_of_ble_eq_true rfl⟩) ⟨cblind, va_recv hR.K hR.P (ci := 2) (q0 := 8) rfl (hR.at42 (hR.w.2.1 _ finC_26).2.1), fun U hU hW9 => cmk hU hW9 hR hex hE hFc⟩ rfl rfl hl.1 rfl (lv_room (Nat.le_of_ble_eq_true rfl)) dX2_unitOf_19 ⟨(show 0 + 0 ≤ KCC - qn S from hlg.c), (show 0 + 0 ≤ KSC - qu S from hlg.s)⟩) hR.sS (fun q _ h => hFc q h) hFc (fun r12 S13 t9 H1 locs ht9 hvm9 hw9 hB9 hz9 hk9 hS => ?_)
      obtain ⟨hq14, hw9, hs9, hz_r12⟩ := hw9
      have hR : RepC g ad A s S13 H1 locs := hR.call ht9 hB9 hw9 hS hFc
      have hsh := hsh.tr hs9.1
      have hlg : lgC S S13 (0) (0) := hlg.same hs9
      replace h := h r12 S13 hq14 hw9 hs9
      have hT_p1 := hs9.T hT_p1 (by decide)
      clear hB9 hz9 hk9 hvm9 ht9 hw9 hs9 hS
      generalize H1 = H at hR ⊢
      refine lv_if_eq (tgt := 32) hx hb dX2_unitOf_22 (by decide) (fun c15 => ?_) (fun c15 => ?_)
      · replace h := h.1 (k_eq rfl (by decide) c15)
        refine lv_null hx hb dX2_unitOf_32 ?_
        refine W_led2 (fun hLd => ?_)
        refine W.widen (k := KCC - qn S) (n := KSC - qu S) hlg.c hlg.s ?_
        exact W.aret (v := .null) hx hb hr (Or.inl ⟨_, rfl⟩) (Or.inl rfl) (fun t9 ht9 hW9 => ⟨⟨none, (S13, ad), rfl, ⟨none, rfl, h, hR.w, hsh, hak, fun z q9 => by cases q9⟩, ⟨⟨by rw [ht9]; exact hR.P, hR.D⟩, _, _, by rw [ht9]; exact hLd, hlg⟩⟩, hR.sS.F ht9⟩) hR.sS.2.2 dX2_unitOf_33
      · replace h := h.2 (k_ne rfl (by decide) c15)
        refine lv_aload_n hx hb dX2_unitOf_25 rfl (lv_at hl 0 rfl) ?_
        obtain ⟨Q16, h0, h⟩ := h
        have hFc := cfree hR hA
        refine va_calli (va_runV (As := []) (rest := []) ⟨hx, hb, hml, hown, hts⟩ (rX2_pointersHold l g ad H.size S13 hR.w  Q16 h0) (cwV 0 hts (gd_V kw_824 kw_766 kw_767 kw_389 kw_765) rfl rfl rfl (by decide +kernel) ⟨Nat.le_of_ble_eq_true rfl, Nat.le_of_ble_eq_true rfl⟩) ⟨cblind, va_recv hR.K hR.P (ci := 2) (q0 := 8) rfl (hR.at42 (hR.w.2.1 _ finC_26).2.1), fun U hU hW9 => cmk hU hW9 hR hex hE hFc⟩ rfl rfl hl.1 rfl (lv_room (Nat.le_of_ble_eq_true rfl)) dX2_unitOf_26 ⟨(show 0 + 0 ≤ KCC - qn S from hlg.c), (show 0 + 0 ≤ KSC - qu S from hlg.s)⟩) hR.sS (fun q _ h => hFc q h) hFc (fun r17 S18 t9 H1 locs ht9 hvm9 hw9 hB9 hz9 hk9 hS => ?_)
        obtain ⟨hq19, hw9, hs9, hz_r17⟩ := hw9
        have hR : RepC g ad A s S18 H1 locs := hR.call ht9 hB9 hw9 hS hFc
        have hsh := hsh.tr hs9.1
        have hlg : lgC S S18 (0) (0) := hlg.same hs9
        replace h := h r17 S18 hq19 hw9 hs9
        have hT_p1 := hs9.T hT_p1 (by decide)
        clear hB9 hz9 hk9 hvm9 ht9 hw9 hs9 hS
        generalize H1 = H at hR ⊢
        refine lv_if_ne (tgt := 34) hx hb dX2_unitOf_29 (by decide) (fun c20 => ?_) (fun c20 => ?_)
        · replace h := h.2 (k_ne rfl (by decide) c20)
          refine lv_aload_n hx hb dX2_unitOf_34 rfl (lv_at hl 0 rfl) ?_
          obtain ⟨Q21, h0, h⟩ := h
          have hFc := cfree hR hA
          refine W_led2 (fun hL0 => ?_)
          refine va_callq (va_runV (As := []) (rest := []) ⟨hx, hb, hml, hown, hts⟩ (rX2_build l g ad H S18 hR.w  Q21 h0) (cwV 0 hts (gd_V kw_825 kw_638 kw_639 kw_389 kw_637) rfl rfl rfl (by decide +kernel) ⟨Nat.le_of_ble_eq_true rfl, Nat.le_of_ble_eq_true rfl⟩) ⟨cblindH, va_recv hR.K hR.P (ci := 2) (q0 := 8) rfl (hR.at42 (hR.w.2.1 _ finC_26).2.1), fun U hU hW9 => cmkH hU hW9 hR hex hE hFc⟩ rfl rfl hl.1 rfl (lv_room (Nat.le_of_ble_eq_true rfl)) dX2_unitOf_35 ⟨(show 0 + (KCC - qn S18) ≤ KCC - qn S from hlg.cm), (show 0 + (KSC - qu S18) ≤ KSC - qu S from hlg.sm)⟩) hR.sS (fun q _ h => hFc q h) hFc (fun r22 S23 t9 H1 locs ht9 hvm9 hw9 hB9 hz9 hk9 hS => ?_)
          rcases S23 with ⟨S23, ak25⟩
          obtain ⟨hB9, dc9, ds9, hL9, hl9⟩ := hB9
          dsimp only at hw9 hB9 hl9
          rw [ht9] at hL9
          obtain ⟨b26, rfl, hq24, hw9, hs9, hk8, hT_b26⟩ := hw9
          have hw8 := hR.w
          have hak := hak.tr hk8 hlg.2.2.1
          have hE := hE.ad hk8
          have hR : RepC g ak25 A s S23 H1 locs := hR.callH ht9 hB9 hw9 hS hFc
          have hsh := hsh.tr hs9
          refine W_tight2 (hL0.tr hL9).1 (hL0.tr hL9).2.1 ?_
          have hlg := hlg.call hl9
          replace h := h b26 S23 hq24 hw9 hs9 hT_b26
          have ea_0 : ak25 8 = ad 8 := hk8 _ (hw8.hd (hw8.2.1 _ finC_26).2.1 (by decide) (by decide))
          have ea_1 : ak25 p1 = ad p1 := hk8 _ (hw8.hd hT_p1 (by decide) (by decide))
          have hl : lv_has ls 4 [(0, .ref (ak25 8)), (1, .ref (ak25 p1))] := by simp only [ea_0, ea_1]; exact hl
          have hT_p1 := hs9.T hT_p1 (by decide)
          clear hB9 hz9 hk9 hvm9 ht9 hw9 hs9 hS hL0 hL9
          generalize H1 = H at hR ⊢
          generalize dc9 = dc_ak25, ds9 = ds_ak25 at hlg ⊢
          refine lv_astore_n (lv' := [(2, .ref (ak25 b26)), (0, .ref (ak25 8)), (1, .ref (ak25 p1))]) hx hb dX2_unitOf_38 rfl hl (by decide) rfl (fun ls hl => ?_)
          refine lv_iconst (v := 0) hx hb dX2_unitOf_39 (by decide) ?_
          refine lv_istore_n (lv' := [(3, .int 0), (2, .ref (ak25 b26)), (0, .ref (ak25 8)), (1, .ref (ak25 p1))]) hx hb dX2_unitOf_40 rfl hl (by decide) rfl (fun ls hl => ?_)
          have J_41 : ∀ (n41 : Nat) (ad41 : Nat → Nat) (dc41 ds41 : Nat) (U41 : MS) (v41_2 : Nat) (v41_3 : Int32) (H : Heap) (locs : List Loc) (ls : Array Slot), w_X2_unitOf_L41 Q n41 U41 v41_2 v41_3 → qT U41 v41_2 = 49 → shx S U41 → lgC S U41 dc41 ds41 → adk ad ad41 S → ogC ad41 A s s.heap → RepC g ad41 A s U41 H locs → lv_has ls 4 [(0, .ref (ad41 8)), (2, .ref (ad41 v41_2)), (3, .int v41_3)] → W p l e (headSpec (wt yX2_unitOf cX2_unitOf 4 (some (.object "CodeFoundry$Unit"))) ({ frames := 8, cells := KCC - qn S, slots := KSC - qu S, locals := 175 })).room s m ([.ref (ad 8), .ref (ad p1)] : List Value).toArray below meth c H locs dc41 ds41 (MQ below (va_Qq (fun (r : Option Nat) (u : MS × (Nat → Nat)) => ∃ b : Option Nat, r = b.map u.2 ∧ Q b u.1 ∧ wfC u.1 ∧ shx S u.1 ∧ adk ad u.2 S ∧ ∀ z, b = some z → qT u.1 z = 49) (fun (u : MS × (Nat → Nat)) (t : State) => qEHC g A S s.heap u t) A) ([.ref (ad 8), .ref (ad p1)] : List Value).toArray s (KCC - qn S) (KSC - qu S) A) (F0 m 41 ls []) := by
            intro n41
            induction n41 with
            | zero => intro ad41 dc41 ds41 U41 v41_2 v41_3 H locs ls h hT_v41_2 hsh hlg hak hE hR hl; unfold w_X2_unitOf_L41 at h; exact h.elim
            | succ n41 ih_41 =>
              intro ad41 dc41 ds41 U41 v41_2 v41_3 H locs ls h hT_v41_2 hsh hlg hak hE hR hl
              unfold w_X2_unitOf_L41 at h
              replace h := h hR.w hT_v41_2
              refine lv_iload_n hx hb dX2_unitOf_41 rfl (lv_at hl 2 rfl) ?_
              refine lv_aload_n hx hb dX2_unitOf_42 rfl (lv_at hl 1 rfl) ?_
              obtain ⟨hv28, h⟩ := h
              have hT_b27 : qT U41 (qO U41 v41_2 13) = 6 := hR.w.ref hv28 hT_v41_2
              refine va_get (D := rD g) (ci := 9) (v := .ref (ad41 (qO U41 v41_2 13))) (C := RX10) (T := TX10) (N := 18) hx hb hts inX10 hown hR.K hR.P v41_2 (hR.at49 hT_v41_2) rfl 13 (by decide) (hts _ kw_661) (fun _ h9 => h9) (congrArg (fun z => some (vf ad41 z)) hv28) dX2_unitOf_43 ?_
              refine va_alen (v := (Int32.ofNat (qN U41 (qO U41 v41_2 13)))) hx hb hR.K hR.P (qO U41 v41_2 13) 5 (hR.at6 hT_b27) rfl rfl dX2_unitOf_46 ?_
              have hln29 : (Int32.ofNat (qN U41 (qO U41 v41_2 13))).toInt = (qN U41 (qO U41 v41_2 13) : Int) := toI_len (hR.w.len9 (hT_b27) (by decide))
              refine lv_icmp_ge (tgt := 85) hx hb dX2_unitOf_47 (by decide) (fun c30 => ?_) (fun c30 => ?_)
              · replace h := h.1 (k_le hln29 rfl c30)
                refine lv_aload_n hx hb dX2_unitOf_85 rfl (lv_at hl 1 rfl) ?_
                refine W_led2 (fun hLd => ?_)
                refine W.widen (k := KCC - qn S) (n := KSC - qu S) hlg.c hlg.s ?_
                exact W.aret (v := .ref (ad41 v41_2)) hx hb hr (Or.inl ⟨_, rfl⟩) (Or.inr ⟨_, rfl⟩) (fun t9 ht9 hW9 => ⟨⟨some (ad41 v41_2), (U41, ad41), rfl, ⟨some v41_2, rfl, h, hR.w, hsh, hak, fun z q9 => by cases q9; exact hT_v41_2⟩, ⟨⟨by rw [ht9]; exact hR.P, hR.D⟩, _, _, by rw [ht9]; exact hLd, hlg⟩⟩, hR.sS.F ht9⟩) hR.sS.2.2 dX2_unitOf_86
              · replace h := h.2 (k_nle hln29 rfl c30)
                refine lv_aload_n hx hb dX2_unitOf_50 rfl (lv_at hl 1 rfl) ?_
                obtain ⟨hv32, h⟩ := h
                have hT_b31 : qT U41 (qO U41 v41_2 13) = 6 := hR.w.ref hv32 hT_v41_2
                refine va_get (D := rD g) (ci := 9) (v := .ref (ad41 (qO U41 v41_2 13))) (C := RX10) (T := TX10) (N := 18) hx hb hts inX10 hown hR.K hR.P v41_2 (hR.at49 hT_v41_2) rfl 13 (by decide) (hts _ kw_661) (fun _ h9 => h9) (congrArg (fun z => some (vf ad41 z)) hv32) dX2_unitOf_51 ?_
                refine lv_iload_n hx hb dX2_unitOf_54 rfl (lv_at hl 2 rfl) ?_
                refine lv_aload_n hx hb dX2_unitOf_55 rfl (lv_at hl 0 rfl) ?_
                refine lv_iload_n hx hb dX2_unitOf_56 rfl (lv_at hl 2 rfl) ?_
                obtain ⟨Q33, h0, h⟩ := h
                have hFc := cfree hR hA
                refine W_led2 (fun hL0 => ?_)
                refine va_callq (va_runV (As := [.int v41_3]) (rest := [.int v41_3, .ref (ad41 (qO U41 v41_2 13))]) ⟨hx, hb, hml, hown, hts⟩ (rX2_rowOf l g ad41 H U41 v41_3 hR.w  Q33 h0) (cwV 1 hts (gd_V kw_826 kw_778 kw_779 kw_389 kw_777) rfl rfl rfl (by decide +kernel) ⟨Nat.le_of_ble_eq_true rfl, Nat.le_of_ble_eq_true rfl⟩) ⟨cblindH, va_recv hR.K hR.P (ci := 2) (q0 := 8) rfl (hR.at42 (hR.w.2.1 _ finC_26).2.1), fun U hU hW9 => cmkH hU hW9 hR hex hE hFc⟩ rfl rfl hl.1 rfl (lv_room (Nat.le_of_ble_eq_true rfl)) dX2_unitOf_57 ⟨(show dc41 + (KCC - qn U41) ≤ KCC - qn S from hlg.cm), (show ds41 + (KSC - qu U41) ≤ KSC - qu S from hlg.sm)⟩) hR.sS (fun q _ h => hFc q h) hFc (fun r34 S35 t9 H1 locs ht9 hvm9 hw9 hB9 hz9 hk9 hS => ?_)
                rcases S35 with ⟨S35, ak37⟩
                obtain ⟨hB9, dc9, ds9, hL9, hl9⟩ := hB9
                dsimp only at hw9 hB9 hl9
                rw [ht9] at hL9
                obtain ⟨b38, rfl, hq36, hw9, hs9, hk8, hT_b38⟩ := hw9
                have hw8 := hR.w
                have hak := hak.tr hk8 hlg.2.2.1
                have hE := hE.ad hk8
                have hR : RepC g ak37 A s S35 H1 locs := hR.callH ht9 hB9 hw9 hS hFc
                have hsh := hsh.tr hs9
                refine W_tight2 (hL0.tr hL9).1 (hL0.tr hL9).2.1 ?_
                have hlg := hlg.call hl9
                replace h := h b38 S35 hq36 hw9 hs9 hT_b38
                have ea_0 : ak37 8 = ad41 8 := hk8 _ (hw8.hd (hw8.2.1 _ finC_26).2.1 (by decide) (by decide))
                have ea_1 : ak37 v41_2 = ad41 v41_2 := hk8 _ (hw8.hd hT_v41_2 (by decide) (by decide))
                have ea_2 : ak37 (qO U41 v41_2 13) = ad41 (qO U41 v41_2 13) := hk8 _ (hw8.hd hT_b31 (by decide) (by decide))
                have hl : lv_has ls 4 [(0, .ref (ak37 8)), (2, .ref (ak37 v41_2)), (3, .int v41_3)] := by simp only [ea_0, ea_1, ea_2]; exact hl
                refine W.eq (g2 := F0 m 60 ls (.ref (ak37 b38) :: [.int v41_3, .ref (ak37 (qO U41 v41_2 13))])) (by first | (simp only [ea_0, ea_1, ea_2]; rfl) | simp only [ea_0, ea_1, ea_2]) ?_
                have hT_v41_2 := hs9.T hT_v41_2 (by decide)
                have hT_b31 := hs9.T hT_b31 (by decide)
                clear hB9 hz9 hk9 hvm9 ht9 hw9 hs9 hS hL0 hL9
                generalize H1 = H at hR ⊢
                generalize dc9 = dc_ak37, ds9 = ds_ak37 at hlg ⊢
                obtain ⟨hv39, h⟩ := h
                refine va_astq hx hb hR.K hR.P hR.D hR.sS (qO U41 v41_2 13) 5 b38 7 (hR.at6 hT_b31) rfl (hR.at47 hT_b38) rfl (k_ix (x := v41_3) (a := v41_3.toInt) rfl hv39) dX2_unitOf_60 (fun H locs hP hD hS => ?_)
                have hw9 : wfC (wR S35 (qO U41 v41_2 13) v41_3.toInt.toNat (some b38)) := hR.w.put (fun b q9 => by cases q9; exact (hT_b38).trans (by rw [hT_b31]; rfl)) (hR.w.noown hT_b31 (by decide) (by decide)) (by rw [hT_b31]; show (47 : Nat) ≠ 0; decide) (fun b _ q9 => absurd (show otgC (qT S35 (qO U41 v41_2 13)) v41_3.toInt.toNat = 0 by rw [hT_b31]; rfl) q9) (fun _ => Option.some_ne_none _)
                have hTk9 : qT S35 (qO U41 v41_2 13) = 6 := hT_b31
                have hR : RepC g ak37 A s (wR S35 (qO U41 v41_2 13) v41_3.toInt.toNat (some b38)) H locs := hR.a6 hT_b31 hw9 hP hD hS
                obtain ⟨S40, eS40⟩ : ∃ z, z = wR S35 (qO U41 v41_2 13) v41_3.toInt.toNat (some b38) := ⟨_, rfl⟩
                rw [← eS40] at hR
                replace h := h S40 eS40 hTk9 hR.w
                have hT_v41_2 : qT S40 v41_2 = 49 := (congrArg (fun z => qT z v41_2) eS40).trans hT_v41_2
                have hsh : shx S S40 := by rw [eS40]; exact hsh
                have hlg : lgC S S40 (dc41 + dc_ak37) (ds41 + ds_ak37) := by rw [eS40]; exact hlg
                refine lv_aload_n hx hb dX2_unitOf_61 rfl (lv_at hl 1 rfl) ?_
                refine lv_dup hx hb dX2_unitOf_62 rfl ?_
                refine va_get (D := rD g) (ci := 9) (v := .int (qI S40 v41_2 14)) (C := RX10) (T := TX10) (N := 18) hx hb hts inX10 hown hR.K hR.P v41_2 (hR.at49 hT_v41_2) rfl 14 (by decide) (hts _ kw_827) (fun _ h9 => h9) rfl dX2_unitOf_63 ?_
                refine lv_aload_n hx hb dX2_unitOf_66 rfl (lv_at hl 1 rfl) ?_
                obtain ⟨hv42, h⟩ := h
                have hT_b41 : qT S40 (qO S40 v41_2 13) = 6 := hR.w.ref hv42 hT_v41_2
                refine va_get (D := rD g) (ci := 9) (v := .ref (ak37 (qO S40 v41_2 13))) (C := RX10) (T := TX10) (N := 18) hx hb hts inX10 hown hR.K hR.P v41_2 (hR.at49 hT_v41_2) rfl 13 (by decide) (hts _ kw_661) (fun _ h9 => h9) (congrArg (fun z => some (vf ak37 z)) hv42) dX2_unitOf_67 ?_
                refine lv_iload_n hx hb dX2_unitOf_70 rfl (lv_at hl 2 rfl) ?_
                obtain ⟨hv43, h⟩ := h
                refine va_aldq hx hb hR.K hR.P (qO S40 v41_2 13) 5 (hR.at6 hT_b41) rfl (k_ix (x := v41_3) (a := v41_3.toInt) rfl hv43) dX2_unitOf_71 ?_
                obtain ⟨hv44, h⟩ := h
                have hT_b45 : qT S40 (qO S40 (qO S40 v41_2 13) v41_3.toInt.toNat) = 47 := hR.w.ref hv44 hT_b41
                rw [show va_rf (Option.map ak37 (qR S40 (qO S40 v41_2 13) (v41_3 : Int32).toNatClampNeg)) = .ref (ak37 (qO S40 (qO S40 v41_2 13) v41_3.toInt.toNat)) from congrArg (fun z => vf ak37 z) hv44]
                refine va_get (D := rD g) (ci := 7) (v := .int (qI S40 (qO S40 (qO S40 v41_2 13) v41_3.toInt.toNat) 2)) (C := RX8) (T := TX8) (N := 15) hx hb hts inX8 hown hR.K hR.P (qO S40 (qO S40 v41_2 13) v41_3.toInt.toNat) (hR.at47 hT_b45) rfl 2 (by decide) (hts _ kw_828) (fun _ h9 => h9) rfl dX2_unitOf_72 ?_
                refine lv_iadd hx hb dX2_unitOf_75 ?_
                refine lv_topi (fun z46 ez46 => ?_)
                obtain rfl : z46 = ((qI S40 v41_2 14) + (qI S40 (qO S40 (qO S40 v41_2 13) v41_3.toInt.toNat) 2)) := ez46
                refine va_put (D := rD g) (ci := 9) (v := .int ((qI S40 v41_2 14) + (qI S40 (qO S40 (qO S40 v41_2 13) v41_3.toInt.toNat) 2))) (ty := .int) (C := RX10) (T := TX10) (N := 18) hx hb hts inX10 tyX10 tyX10_ok nmX10 hown hR.K hR.P hR.D hR.sS v41_2 (hR.at49 hT_v41_2) rfl 14 (by decide) (hts _ kw_827) (fun _ h9 => h9) rfl (by decide +kernel) rfl rfl (Nat.le_of_ble_eq_true rfl) dX2_unitOf_76 (fun H locs hP hD hS => ?_)
                have hTk9 : qT S40 v41_2 = 49 := hT_v41_2
                have hR : RepC g ak37 A s (wI S40 v41_2 14 ((qI S40 v41_2 14) + (qI S40 (qO S40 (qO S40 v41_2 13) v41_3.toInt.toNat) 2))) H locs := hR.pI49 hT_v41_2 FX10_s14 (fun q9 => absurd q9 (by decide)) hP hD hS
                obtain ⟨S47, eS47⟩ : ∃ z, z = wI S40 v41_2 14 ((qI S40 v41_2 14) + (qI S40 (qO S40 (qO S40 v41_2 13) v41_3.toInt.toNat) 2)) := ⟨_, rfl⟩
                rw [← eS47] at hR
                replace h := h S47 eS47 hTk9 hR.w
                have hT_v41_2 : qT S47 v41_2 = 49 := (congrArg (fun z => qT z v41_2) eS47).trans hT_v41_2
                have hsh : shx S S47 := by rw [eS47]; exact hsh
                have hlg : lgC S S47 (dc41 + dc_ak37) (ds41 + ds_ak37) := by rw [eS47]; exact hlg
                obtain ⟨a48, ea48⟩ : ∃ z, z = (v41_3 + Int32.ofInt 1) := ⟨_, rfl⟩
                replace h := h a48 ea48
                refine lv_iinc (v := a48) (lv' := [(3, .int a48), (0, .ref (ak37 8)), (2, .ref (ak37 v41_2))]) hx hb dX2_unitOf_79 hl (k := 2) rfl ea48.symm (by decide) rfl (fun ls hl => ?_)
                refine lv_goto (tgt := 41) hx hb dX2_unitOf_82 (by decide) ?_
                exact ih_41 ak37 (dc41 + dc_ak37) (ds41 + ds_ak37) S47 v41_2 a48 _ _ ls h hT_v41_2 hsh hlg hak hE hR (lv_sub hl [1, 2, 0] rfl)
          obtain ⟨n9, h⟩ := h
          exact J_41 n9 ak25 (0 + dc_ak25) (0 + ds_ak25) S23 b26 0 _ _ ls h hT_b26 hsh hlg hak hE hR (lv_sub hl [2, 1, 0] rfl)
        · replace h := h.1 (k_eq rfl (by decide) c20)
          refine lv_null hx hb dX2_unitOf_32 ?_
          refine W_led2 (fun hLd => ?_)
          refine W.widen (k := KCC - qn S) (n := KSC - qu S) hlg.c hlg.s ?_
          exact W.aret (v := .null) hx hb hr (Or.inl ⟨_, rfl⟩) (Or.inl rfl) (fun t9 ht9 hW9 => ⟨⟨none, (S18, ad), rfl, ⟨none, rfl, h, hR.w, hsh, hak, fun z q9 => by cases q9⟩, ⟨⟨by rw [ht9]; exact hR.P, hR.D⟩, _, _, by rw [ht9]; exact hLd, hlg⟩⟩, hR.sS.F ht9⟩) hR.sS.2.2 dX2_unitOf_33
def w_X5_useStage_J190 (Q : MS → Prop) (U190 : MS) (v190_1 : Int32) : Prop := (wfC U190 → (∃ Q8, wX5_useElement U190 v190_1 Q8 ∧ ∀ S9, Q8 S9 → wfC S9 → shy U190 S9 → Q S9))
def wX5_useStage (S : MS) (x1 : Int32) (Q : MS → Prop) : Prop := ((qR S 44 12 = some (qO S 44 12)) ∧ (d_X8_argAt S (qO S 44 12) (qI S 44 13) ∧ (∀ a6 : Int64, a6 = (fX8_argAt S (qO S 44 12) (qI S 44 13)) → (∀ a7 : Int32, a7 = (a6.toInt32) → ((x1.toInt = 46 → w_X5_useStage_J190 Q S x1) ∧ (¬ x1.toInt = 46 → ((x1.toInt = 79 → w_X5_useStage_J190 Q S x1) ∧ (¬ x1.toInt = 79 → ((x1.toInt = 178 → ((qR S 44 0 = some (qO S 44 0)) ∧ (d_X10_kindOfField S (qO S 44 0) a7 ∧ (∀ a16 : Int32, a16 = (fX10_kindOfField S (qO S 44 0) a7) → (d_X5_fieldAt S a7 ∧ (∀ a20 : Int64, a20 = (fX5_fieldAt S a7) → (∃ Q21, wX5_push_ S a16 a20 Q21 ∧ ∀ S22, Q21 S22 → wfC S22 → shy S S22 → (∀ S25, S25 = wI S22 44 13 ((qI S22 44 13) + (1 : Int32)) → qT S22 44 = 45 → wfC S25 → Q S25)))))))) ∧ (¬ x1.toInt = 178 → ((x1.toInt = 179 → ((qR S 44 0 = some (qO S 44 0)) ∧ (d_X10_kindOfField S (qO S 44 0) a7 ∧ (∀ a31 : Int32, a31 = (fX10_kindOfField S (qO S 44 0) a7) → (∃ Q32, wX5_pop_ S a31 Q32 ∧ ∀ r33 S34, Q32 r33 S34 → wfC S34 → shy S S34 → (∃ Q36, wX5_setField S34 a7 r33 Q36 ∧ ∀ S37, Q36 S37 → wfC S37 → shy S34 S37 → (∀ S40, S40 = wI S37 44 13 ((qI S37 44 13) + (1 : Int32)) → qT S37 44 = 45 → wfC S40 → Q S40))))))) ∧ (¬ x1.toInt = 179 → ((x1.toInt = 184 → (∃ Q41, wX5_enter S a7 Q41 ∧ ∀ S42, Q41 S42 → wfC S42 → shy S S42 → Q S42)) ∧ (¬ x1.toInt = 184 → ((x1.toInt = 188 → (∃ Q44, wX5_pop S Q44 ∧ ∀ r45 S46, Q44 r45 S46 → wfC S46 → shy S S46 → (∃ Q48, wX5_makeArray S46 (r45.toInt32) Q48 ∧ ∀ S49, Q48 S49 → wfC S49 → shx S46 S49 → Q S49))) ∧ (¬ x1.toInt = 188 → ((x1.toInt = 190 → (∃ Q52, wX5_pop S Q52 ∧ ∀ r53 S54, Q52 r53 S54 → wfC S54 → shy S S54 → (∃ Q56, wX5_tellLength S54 r53 Q56 ∧ ∀ S57, Q56 S57 → wfC S57 → shy S54 S57 → Q S57))) ∧ (¬ x1.toInt = 190 → ((x1.toInt = 191 → (∃ Q59, wX5_pop S Q59 ∧ ∀ r60 S61, Q59 r60 S61 → wfC S61 → shy S S61 → (∃ Q63, wX5_throwIt S61 r60 Q63 ∧ ∀ S64, Q63 S64 → wfC S64 → shy S61 S64 → Q S64))) ∧ (¬ x1.toInt = 191 → (∀ S67, S67 = wI S 44 19 ((qI S 44 19) + (1 : Int32)) → qT S 44 = 45 → wfC S67 → (∀ S69, S69 = wI S67 44 13 ((qI S67 44 13) + (1 : Int32)) → qT S67 44 = 45 → wfC S69 → Q S69))))))))))))))))))))))
set_option maxHeartbeats 2000000 in
set_option maxRecDepth 100000 in
theorem rX5_useStage (l : Launch) (g : Gr) (ad : Nat → Nat) (H0 : Heap) (S : MS) (x1 : Int32) (hw : wfC S) (Q : MS → Prop) (h : wX5_useStage S x1 Q) : Met l yX5_useStage (wt yX5_useStage cX5_useStage 3 none) ({ frames := 4, cells := KCC - qn S, slots := KSC - qu S, locals := 92 }) (va_Pc [.ref (ad 44), .int x1] (st_CH g ad H0 S)) (va_Qv (fun (u : MS × (Nat → Nat)) => Q u.1 ∧ wfC u.1 ∧ shx S u.1 ∧ adk ad u.2 S) (fun (u : MS × (Nat → Nat)) (t : State) => qEHC g (va_A (WdC g ad S) H0.size) S H0 u t) (va_A (WdC g ad S) H0.size)) (KCC - qn S) (KSC - qu S) (va_A (WdC g ad S) H0.size) := by
  refine Met.ofW (cc := cX5_useStage) (maxL := 3) (ret := none) (by decide) rfl ?_
  intro p e s m args below meth c s₁ B hml hv
  obtain ⟨rfl, hH0, hsz, hP, hK, hD0, hex, hE⟩ := hv
  have hx := B.exec
  have hb := B.bytes
  have hr := B.returns
  have hts0 := atoms_spec (ws := wt yX5_useStage cX5_useStage 3 none) B.pre
  have hts : ∀ w ∈ tb, w.before _ s = true := fun w h => hts0 w (List.mem_cons_of_mem _ h)
  have hown : s.vm.findClass RX5 = some m.cls := findClass_of_methodNamed B.named
  subst hH0
  have hD := hD0.self (sz := s.heap.size)
  generalize hAe : va_A (WdC g ad S) s.heap.size = A at hD hE ⊢
  have hA : ∀ q : Nat, s.heap.size ≤ q → A q := fun q h => by rw [← hAe]; exact Or.inr h
  have hR : RepC g ad A s S s.heap [] := ⟨hK, hP, hD, va_S.rf, hw⟩
  clear hK hP hD hD0
  have hl := lv_entry ([.ref (ad 44), .int x1]) (n := 3) (Nat.le_of_ble_eq_true rfl)
  rw [lg_entry_eq]
  generalize (lg_sl ([.ref (ad 44), .int x1]) ++ List.replicate (3 - (lg_sl ([.ref (ad 44), .int x1])).length) Slot.unset).toArray = ls at hl ⊢
  have hlg : lgC S S 0 0 := lgC.rf
  have hak : adk ad ad S := adk.rf
  have hl : lv_has ls 3 [(0, .ref (ad 44)), (1, .int x1)] := hl
  have hsh : shx S S := shx.rf
  unfold wX5_useStage at h
  refine lv_aload_n hx hb dX5_useStage_0 rfl (lv_at hl 0 rfl) ?_
  obtain ⟨hv2, h⟩ := h
  have hT_b1 : qT S (qO S 44 12) = 47 := hR.w.ref hv2 (hR.w.2.1 _ finC_29).2.1
  refine va_get (D := rD g) (ci := 5) (v := .ref (ad (qO S 44 12))) (C := RX5) (T := TX5) (N := 20) hx hb hts inX5 hown hR.K hR.P 44 (hR.at45 (hR.w.2.1 _ finC_29).2.1) rfl 12 (by decide) (hts _ kw_1030) (fun _ h9 => h9) (congrArg (fun z => some (vf ad z)) hv2) dX5_useStage_1 ?_
  refine lv_aload_n hx hb dX5_useStage_4 rfl (lv_at hl 0 rfl) ?_
  refine va_get (D := rD g) (ci := 5) (v := .int (qI S 44 13)) (C := RX5) (T := TX5) (N := 20) hx hb hts inX5 hown hR.K hR.P 44 (hR.at45 (hR.w.2.1 _ finC_29).2.1) rfl 13 (by decide) (hts _ kw_1021) (fun _ h9 => h9) rfl dX5_useStage_5 ?_
  obtain ⟨hv3, h⟩ := h
  have hFc := cfree hR hA
  refine va_calll (va_runV (As := [.int (qI S 44 13)]) (rest := []) ⟨hx, hb, hml, hown, hts⟩ (rX8_argAt l g ad s.heap.size S (qO S 44 12) (qI S 44 13) hR.w hT_b1 hv3) (cwV 1 hts (gd_V kw_1104 kw_1476 kw_1477 kw_782 kw_1475) rfl rfl rfl (by decide +kernel) ⟨Nat.le_of_ble_eq_true rfl, Nat.le_of_ble_eq_true rfl⟩) ⟨cblind, va_recv hR.K hR.P (ci := 7) (q0 := (qO S 44 12)) rfl (hR.at47 hT_b1), fun U hU hW9 => cmk hU hW9 hR hex hE hFc⟩ rfl rfl hl.1 rfl (lv_room (Nat.le_of_ble_eq_true rfl)) dX5_useStage_8 ⟨(show 0 + 0 ≤ KCC - qn S from hlg.c), (show 0 + 0 ≤ KSC - qu S from hlg.s)⟩) hR.sS (fun q _ h => hFc q h) hFc (fun r4 u9 t9 H1 locs ht9 hvm9 hw9 hB9 hz9 hk9 hS => ?_)
  have hR : RepC g ad A s S H1 locs := hR.call ht9 hB9 hR.w hS hFc
  obtain rfl : r4 = (fX8_argAt S (qO S 44 12) (qI S 44 13)) := hw9
  clear hB9 hz9 hk9 hvm9 ht9 hS
  generalize H1 = H at hR ⊢
  obtain ⟨a6, ea6⟩ : ∃ z, z = (fX8_argAt S (qO S 44 12) (qI S 44 13)) := ⟨_, rfl⟩
  rw [← ea6]
  replace h := h a6 ea6
  refine lv_l2i (v := (a6.toInt32)) hx hb dX5_useStage_11 rfl ?_
  obtain ⟨a7, ea7⟩ : ∃ z, z = (a6.toInt32) := ⟨_, rfl⟩
  rw [← ea7]
  replace h := h a7 ea7
  refine lv_istore_n (lv' := [(2, .int a7), (0, .ref (ad 44)), (1, .int x1)]) hx hb dX5_useStage_12 rfl hl (by decide) rfl (fun ls hl => ?_)
  refine lv_iload_n hx hb dX5_useStage_13 rfl (lv_at hl 2 rfl) ?_
  have J_190 : ∀ (ad190 : Nat → Nat) (dc190 ds190 : Nat) (U190 : MS) (v190_1 : Int32) (H : Heap) (locs : List Loc) (ls : Array Slot), w_X5_useStage_J190 Q U190 v190_1 → shx S U190 → lgC S U190 dc190 ds190 → adk ad ad190 S → ogC ad190 A s s.heap → RepC g ad190 A s U190 H locs → lv_has ls 3 [(0, .ref (ad190 44)), (1, .int v190_1)] → W p l e (headSpec (wt yX5_useStage cX5_useStage 3 none) ({ frames := 4, cells := KCC - qn S, slots := KSC - qu S, locals := 92 })).room s m ([.ref (ad 44), .int x1] : List Value).toArray below meth c H locs dc190 ds190 (MQ below (va_Qv (fun (u : MS × (Nat → Nat)) => Q u.1 ∧ wfC u.1 ∧ shx S u.1 ∧ adk ad u.2 S) (fun (u : MS × (Nat → Nat)) (t : State) => qEHC g A S s.heap u t) A) ([.ref (ad 44), .int x1] : List Value).toArray s (KCC - qn S) (KSC - qu S) A) (F0 m 190 ls []) := by
    intro ad190 dc190 ds190 U190 v190_1 H locs ls h hsh hlg hak hE hR hl
    unfold w_X5_useStage_J190 at h
    replace h := h hR.w
    refine lv_aload_n hx hb dX5_useStage_190 rfl (lv_at hl 0 rfl) ?_
    refine lv_iload_n hx hb dX5_useStage_191 rfl (lv_at hl 1 rfl) ?_
    obtain ⟨Q8, h0, h⟩ := h
    have hFc := cfree hR hA
    refine va_callv (va_runV (As := [.int v190_1]) (rest := []) ⟨hx, hb, hml, hown, hts⟩ (rX5_useElement l g ad190 H.size U190 v190_1 hR.w  Q8 h0) (cwV 1 hts (gd_V kw_1204 kw_1192 kw_1193 kw_398 kw_1191) rfl rfl rfl (by decide +kernel) ⟨Nat.le_of_ble_eq_true rfl, Nat.le_of_ble_eq_true rfl⟩) ⟨cblind, va_recv hR.K hR.P (ci := 5) (q0 := 44) rfl (hR.at45 (hR.w.2.1 _ finC_29).2.1), fun U hU hW9 => cmk hU hW9 hR hex hE hFc⟩ rfl rfl hl.1 rfl (lv_room (Nat.le_of_ble_eq_true rfl)) dX5_useStage_192 ⟨(show dc190 + 0 ≤ KCC - qn S from hlg.c), (show ds190 + 0 ≤ KSC - qu S from hlg.s)⟩) hR.sS (fun q _ h => hFc q h) hFc (fun  S9 t9 H1 locs ht9 hvm9 hw9 hB9 hz9 hk9 hS => ?_)
    obtain ⟨hq10, hw9, hs9⟩ := hw9
    have hR : RepC g ad190 A s S9 H1 locs := hR.call ht9 hB9 hw9 hS hFc
    have hsh := hsh.tr hs9.1
    have hlg : lgC S S9 (dc190) (ds190) := hlg.same hs9
    replace h := h  S9 hq10 hw9 hs9
    clear hB9 hz9 hk9 hvm9 ht9 hw9 hs9 hS
    generalize H1 = H at hR ⊢
    refine lv_goto (tgt := 218) hx hb dX5_useStage_195 (by decide) ?_
    refine W_led2 (fun hLd => ?_)
    refine W.widen (k := KCC - qn S) (n := KSC - qu S) hlg.c hlg.s ?_
    exact W.vret hx hb hr (fun t9 ht9 hW9 => ⟨⟨(S9, ad190), rfl, ⟨h, hR.w, hsh, hak⟩, ⟨⟨by rw [ht9]; exact hR.P, hR.D⟩, _, _, by rw [ht9]; exact hLd, hlg⟩⟩, hR.sS.F ht9⟩) hR.sS.2.2 dX5_useStage_218
  by_cases c9_46 : x1.toInt = 46
  · refine lv_lookup (off := 176) (tgt := 190) hx hb dX5_useStage_14 (by decide) (by rw [c9_46]; decide) (by decide) ?_
    replace h := h.1 (c9_46)
    exact J_190 ad (0) (0) S x1 _ _ ls h  hsh hlg hak hE hR (lv_sub hl [1, 2] rfl)
  replace h := h.2 c9_46
  by_cases c9_79 : x1.toInt = 79
  · refine lv_lookup (off := 176) (tgt := 190) hx hb dX5_useStage_14 (by decide) (by rw [c9_79]; decide) (by decide) ?_
    replace h := h.1 (c9_79)
    exact J_190 ad (0) (0) S x1 _ _ ls h  hsh hlg hak hE hR (lv_sub hl [1, 2] rfl)
  replace h := h.2 c9_79
  by_cases c9_178 : x1.toInt = 178
  · refine lv_lookup (off := 74) (tgt := 88) hx hb dX5_useStage_14 (by decide) (by rw [c9_178]; decide) (by decide) ?_
    replace h := h.1 (c9_178)
    refine lv_aload_n hx hb dX5_useStage_88 rfl (lv_at hl 1 rfl) ?_
    refine lv_aload_n hx hb dX5_useStage_89 rfl (lv_at hl 1 rfl) ?_
    obtain ⟨hv12, h⟩ := h
    have hT_b11 : qT S (qO S 44 0) = 49 := hR.w.ref hv12 (hR.w.2.1 _ finC_29).2.1
    refine va_get (D := rD g) (ci := 5) (v := .ref (ad (qO S 44 0))) (C := RX5) (T := TX5) (N := 20) hx hb hts inX5 hown hR.K hR.P 44 (hR.at45 (hR.w.2.1 _ finC_29).2.1) rfl 0 (by decide) (hts _ kw_1027) (fun _ h9 => h9) (congrArg (fun z => some (vf ad z)) hv12) dX5_useStage_90 ?_
    refine lv_iload_n hx hb dX5_useStage_93 rfl (lv_at hl 0 rfl) ?_
    obtain ⟨hv13, h⟩ := h
    have hFc := cfree hR hA
    refine va_calli (va_runV (As := [.int a7]) (rest := [.ref (ad 44)]) ⟨hx, hb, hml, hown, hts⟩ (rX10_kindOfField l g ad H.size S (qO S 44 0) a7 hR.w hT_b11 hv13) (cwV 1 hts (gd_V kw_1197 kw_62 kw_63 kw_34 kw_61) rfl rfl rfl (by decide +kernel) ⟨Nat.le_of_ble_eq_true rfl, Nat.le_of_ble_eq_true rfl⟩) ⟨cblind, va_recv hR.K hR.P (ci := 9) (q0 := (qO S 44 0)) rfl (hR.at49 hT_b11), fun U hU hW9 => cmk hU hW9 hR hex hE hFc⟩ rfl rfl hl.1 rfl (lv_room (Nat.le_of_ble_eq_true rfl)) dX5_useStage_94 ⟨(show 0 + 0 ≤ KCC - qn S from hlg.c), (show 0 + 0 ≤ KSC - qu S from hlg.s)⟩) hR.sS (fun q _ h => hFc q h) hFc (fun r14 u9 t9 H1 locs ht9 hvm9 hw9 hB9 hz9 hk9 hS => ?_)
    have hR : RepC g ad A s S H1 locs := hR.call ht9 hB9 hR.w hS hFc
    obtain rfl : r14 = (fX10_kindOfField S (qO S 44 0) a7) := hw9
    clear hB9 hz9 hk9 hvm9 ht9 hS
    generalize H1 = H at hR ⊢
    obtain ⟨a16, ea16⟩ : ∃ z, z = (fX10_kindOfField S (qO S 44 0) a7) := ⟨_, rfl⟩
    rw [← ea16]
    replace h := h a16 ea16
    refine lv_aload_n hx hb dX5_useStage_97 rfl (lv_at hl 1 rfl) ?_
    refine lv_iload_n hx hb dX5_useStage_98 rfl (lv_at hl 0 rfl) ?_
    obtain ⟨hv17, h⟩ := h
    have hFc := cfree hR hA
    refine va_calll (va_runV (As := [.int a7]) (rest := [.int a16, .ref (ad 44)]) ⟨hx, hb, hml, hown, hts⟩ (rX5_fieldAt l g ad H.size S a7 hR.w  hv17) (cwV 1 hts (gd_V kw_1198 kw_1051 kw_1052 kw_398 kw_1050) rfl rfl rfl (by decide +kernel) ⟨Nat.le_of_ble_eq_true rfl, Nat.le_of_ble_eq_true rfl⟩) ⟨cblind, va_recv hR.K hR.P (ci := 5) (q0 := 44) rfl (hR.at45 (hR.w.2.1 _ finC_29).2.1), fun U hU hW9 => cmk hU hW9 hR hex hE hFc⟩ rfl rfl hl.1 rfl (lv_room (Nat.le_of_ble_eq_true rfl)) dX5_useStage_99 ⟨(show 0 + 0 ≤ KCC - qn S from hlg.c), (show 0 + 0 ≤ KSC - qu S from hlg.s)⟩) hR.sS (fun q _ h => hFc q h) hFc (fun r18 u9 t9 H1 locs ht9 hvm9 hw9 hB9 hz9 hk9 hS => ?_)
    have hR : RepC g ad A s S H1 locs := hR.call ht9 hB9 hR.w hS hFc
    obtain rfl : r18 = (fX5_fieldAt S a7) := hw9
    clear hB9 hz9 hk9 hvm9 ht9 hS
    generalize H1 = H at hR ⊢
    obtain ⟨a20, ea20⟩ : ∃ z, z = (fX5_fieldAt S a7) := ⟨_, rfl⟩
    rw [← ea20]
    replace h := h a20 ea20
    obtain ⟨Q21, h0, h⟩ := h
    have hFc := cfree hR hA
    refine va_callv (va_runV (As := [.int a16, .long a20]) (rest := []) ⟨hx, hb, hml, hown, hts⟩ (rX5_push_ l g ad H.size S a16 a20 hR.w  Q21 h0) (cwV 2 hts (gd_V kw_1020 kw_1133 kw_1134 kw_398 kw_1132) rfl rfl rfl (by decide +kernel) ⟨Nat.le_of_ble_eq_true rfl, Nat.le_of_ble_eq_true rfl⟩) ⟨cblind, va_recv hR.K hR.P (ci := 5) (q0 := 44) rfl (hR.at45 (hR.w.2.1 _ finC_29).2.1), fun U hU hW9 => cmk hU hW9 hR hex hE hFc⟩ rfl rfl hl.1 rfl (lv_room (Nat.le_of_ble_eq_true rfl)) dX5_useStage_102 ⟨(show 0 + 0 ≤ KCC - qn S from hlg.c), (show 0 + 0 ≤ KSC - qu S from hlg.s)⟩) hR.sS (fun q _ h => hFc q h) hFc (fun  S22 t9 H1 locs ht9 hvm9 hw9 hB9 hz9 hk9 hS => ?_)
    obtain ⟨hq23, hw9, hs9⟩ := hw9
    have hR : RepC g ad A s S22 H1 locs := hR.call ht9 hB9 hw9 hS hFc
    have hsh := hsh.tr hs9.1
    have hlg : lgC S S22 (0) (0) := hlg.same hs9
    replace h := h  S22 hq23 hw9 hs9
    clear hB9 hz9 hk9 hvm9 ht9 hw9 hs9 hS
    generalize H1 = H at hR ⊢
    refine lv_aload_n hx hb dX5_useStage_105 rfl (lv_at hl 1 rfl) ?_
    refine lv_dup hx hb dX5_useStage_106 rfl ?_
    refine va_get (D := rD g) (ci := 5) (v := .int (qI S22 44 13)) (C := RX5) (T := TX5) (N := 20) hx hb hts inX5 hown hR.K hR.P 44 (hR.at45 (hR.w.2.1 _ finC_29).2.1) rfl 13 (by decide) (hts _ kw_1021) (fun _ h9 => h9) rfl dX5_useStage_107 ?_
    refine lv_iconst (v := 1) hx hb dX5_useStage_110 (by decide) ?_
    refine lv_iadd hx hb dX5_useStage_111 ?_
    refine lv_topi (fun z24 ez24 => ?_)
    obtain rfl : z24 = ((qI S22 44 13) + (1 : Int32)) := ez24
    refine va_put (D := rD g) (ci := 5) (v := .int ((qI S22 44 13) + (1 : Int32))) (ty := .int) (C := RX5) (T := TX5) (N := 20) hx hb hts inX5 tyX5 tyX5_ok nmX5 hown hR.K hR.P hR.D hR.sS 44 (hR.at45 (hR.w.2.1 _ finC_29).2.1) rfl 13 (by decide) (hts _ kw_1021) (fun _ h9 => h9) rfl (by decide +kernel) rfl rfl (Nat.le_of_ble_eq_true rfl) dX5_useStage_112 (fun H locs hP hD hS => ?_)
    have hTk9 : qT S22 44 = 45 := (hR.w.2.1 _ finC_29).2.1
    have hR : RepC g ad A s (wI S22 44 13 ((qI S22 44 13) + (1 : Int32))) H locs := hR.pI45 (hR.w.2.1 _ finC_29).2.1 FX5_s13 (fun q9 => absurd q9 (by decide)) hP hD hS
    obtain ⟨S25, eS25⟩ : ∃ z, z = wI S22 44 13 ((qI S22 44 13) + (1 : Int32)) := ⟨_, rfl⟩
    rw [← eS25] at hR
    replace h := h S25 eS25 hTk9 hR.w
    have hsh : shx S S25 := by rw [eS25]; exact hsh
    have hlg : lgC S S25 (0) (0) := by rw [eS25]; exact hlg
    refine lv_goto (tgt := 218) hx hb dX5_useStage_115 (by decide) ?_
    refine W_led2 (fun hLd => ?_)
    refine W.widen (k := KCC - qn S) (n := KSC - qu S) hlg.c hlg.s ?_
    exact W.vret hx hb hr (fun t9 ht9 hW9 => ⟨⟨(S25, ad), rfl, ⟨h, hR.w, hsh, hak⟩, ⟨⟨by rw [ht9]; exact hR.P, hR.D⟩, _, _, by rw [ht9]; exact hLd, hlg⟩⟩, hR.sS.F ht9⟩) hR.sS.2.2 dX5_useStage_218
  replace h := h.2 c9_178
  by_cases c9_179 : x1.toInt = 179
  · refine lv_lookup (off := 104) (tgt := 118) hx hb dX5_useStage_14 (by decide) (by rw [c9_179]; decide) (by decide) ?_
    replace h := h.1 (c9_179)
    refine lv_aload_n hx hb dX5_useStage_118 rfl (lv_at hl 1 rfl) ?_
    refine lv_iload_n hx hb dX5_useStage_119 rfl (lv_at hl 0 rfl) ?_
    refine lv_aload_n hx hb dX5_useStage_120 rfl (lv_at hl 1 rfl) ?_
    refine lv_aload_n hx hb dX5_useStage_121 rfl (lv_at hl 1 rfl) ?_
    obtain ⟨hv27, h⟩ := h
    have hT_b26 : qT S (qO S 44 0) = 49 := hR.w.ref hv27 (hR.w.2.1 _ finC_29).2.1
    refine va_get (D := rD g) (ci := 5) (v := .ref (ad (qO S 44 0))) (C := RX5) (T := TX5) (N := 20) hx hb hts inX5 hown hR.K hR.P 44 (hR.at45 (hR.w.2.1 _ finC_29).2.1) rfl 0 (by decide) (hts _ kw_1027) (fun _ h9 => h9) (congrArg (fun z => some (vf ad z)) hv27) dX5_useStage_122 ?_
    refine lv_iload_n hx hb dX5_useStage_125 rfl (lv_at hl 0 rfl) ?_
    obtain ⟨hv28, h⟩ := h
    have hFc := cfree hR hA
    refine va_calli (va_runV (As := [.int a7]) (rest := [.ref (ad 44), .int a7, .ref (ad 44)]) ⟨hx, hb, hml, hown, hts⟩ (rX10_kindOfField l g ad H.size S (qO S 44 0) a7 hR.w hT_b26 hv28) (cwV 1 hts (gd_V kw_1197 kw_62 kw_63 kw_34 kw_61) rfl rfl rfl (by decide +kernel) ⟨Nat.le_of_ble_eq_true rfl, Nat.le_of_ble_eq_true rfl⟩) ⟨cblind, va_recv hR.K hR.P (ci := 9) (q0 := (qO S 44 0)) rfl (hR.at49 hT_b26), fun U hU hW9 => cmk hU hW9 hR hex hE hFc⟩ rfl rfl hl.1 rfl (lv_room (Nat.le_of_ble_eq_true rfl)) dX5_useStage_126 ⟨(show 0 + 0 ≤ KCC - qn S from hlg.c), (show 0 + 0 ≤ KSC - qu S from hlg.s)⟩) hR.sS (fun q _ h => hFc q h) hFc (fun r29 u9 t9 H1 locs ht9 hvm9 hw9 hB9 hz9 hk9 hS => ?_)
    have hR : RepC g ad A s S H1 locs := hR.call ht9 hB9 hR.w hS hFc
    obtain rfl : r29 = (fX10_kindOfField S (qO S 44 0) a7) := hw9
    clear hB9 hz9 hk9 hvm9 ht9 hS
    generalize H1 = H at hR ⊢
    obtain ⟨a31, ea31⟩ : ∃ z, z = (fX10_kindOfField S (qO S 44 0) a7) := ⟨_, rfl⟩
    rw [← ea31]
    replace h := h a31 ea31
    obtain ⟨Q32, h0, h⟩ := h
    have hFc := cfree hR hA
    refine va_calll (va_runV (As := [.int a31]) (rest := [.int a7, .ref (ad 44)]) ⟨hx, hb, hml, hown, hts⟩ (rX5_pop_ l g ad H.size S a31 hR.w  Q32 h0) (cwV 1 hts (gd_V kw_1015 kw_1127 kw_1128 kw_398 kw_1126) rfl rfl rfl (by decide +kernel) ⟨Nat.le_of_ble_eq_true rfl, Nat.le_of_ble_eq_true rfl⟩) ⟨cblind, va_recv hR.K hR.P (ci := 5) (q0 := 44) rfl (hR.at45 (hR.w.2.1 _ finC_29).2.1), fun U hU hW9 => cmk hU hW9 hR hex hE hFc⟩ rfl rfl hl.1 rfl (lv_room (Nat.le_of_ble_eq_true rfl)) dX5_useStage_129 ⟨(show 0 + 0 ≤ KCC - qn S from hlg.c), (show 0 + 0 ≤ KSC - qu S from hlg.s)⟩) hR.sS (fun q _ h => hFc q h) hFc (fun r33 S34 t9 H1 locs ht9 hvm9 hw9 hB9 hz9 hk9 hS => ?_)
    obtain ⟨hq35, hw9, hs9⟩ := hw9
    have hR : RepC g ad A s S34 H1 locs := hR.call ht9 hB9 hw9 hS hFc
    have hsh := hsh.tr hs9.1
    have hlg : lgC S S34 (0) (0) := hlg.same hs9
    replace h := h r33 S34 hq35 hw9 hs9
    clear hB9 hz9 hk9 hvm9 ht9 hw9 hs9 hS
    generalize H1 = H at hR ⊢
    obtain ⟨Q36, h0, h⟩ := h
    have hFc := cfree hR hA
    refine va_callv (va_runV (As := [.int a7, .long r33]) (rest := []) ⟨hx, hb, hml, hown, hts⟩ (rX5_setField l g ad H.size S34 a7 r33 hR.w  Q36 h0) (cwV 2 hts (gd_V kw_1199 kw_1145 kw_1146 kw_398 kw_1144) rfl rfl rfl (by decide +kernel) ⟨Nat.le_of_ble_eq_true rfl, Nat.le_of_ble_eq_true rfl⟩) ⟨cblind, va_recv hR.K hR.P (ci := 5) (q0 := 44) rfl (hR.at45 (hR.w.2.1 _ finC_29).2.1), fun U hU hW9 => cmk hU hW9 hR hex hE hFc⟩ rfl rfl hl.1 rfl (lv_room (Nat.le_of_ble_eq_true rfl)) dX5_useStage_132 ⟨(show 0 + 0 ≤ KCC - qn S from hlg.c), (show 0 + 0 ≤ KSC - qu S from hlg.s)⟩) hR.sS (fun q _ h => hFc q h) hFc (fun  S37 t9 H1 locs ht9 hvm9 hw9 hB9 hz9 hk9 hS => ?_)
    obtain ⟨hq38, hw9, hs9⟩ := hw9
    have hR : RepC g ad A s S37 H1 locs := hR.call ht9 hB9 hw9 hS hFc
    have hsh := hsh.tr hs9.1
    have hlg : lgC S S37 (0) (0) := hlg.same hs9
    replace h := h  S37 hq38 hw9 hs9
    clear hB9 hz9 hk9 hvm9 ht9 hw9 hs9 hS
    generalize H1 = H at hR ⊢
    refine lv_aload_n hx hb dX5_useStage_135 rfl (lv_at hl 1 rfl) ?_
    refine lv_dup hx hb dX5_useStage_136 rfl ?_
    refine va_get (D := rD g) (ci := 5) (v := .int (qI S37 44 13)) (C := RX5) (T := TX5) (N := 20) hx hb hts inX5 hown hR.K hR.P 44 (hR.at45 (hR.w.2.1 _ finC_29).2.1) rfl 13 (by decide) (hts _ kw_1021) (fun _ h9 => h9) rfl dX5_useStage_137 ?_
    refine lv_iconst (v := 1) hx hb dX5_useStage_140 (by decide) ?_
    refine lv_iadd hx hb dX5_useStage_141 ?_
    refine lv_topi (fun z39 ez39 => ?_)
    obtain rfl : z39 = ((qI S37 44 13) + (1 : Int32)) := ez39
    refine va_put (D := rD g) (ci := 5) (v := .int ((qI S37 44 13) + (1 : Int32))) (ty := .int) (C := RX5) (T := TX5) (N := 20) hx hb hts inX5 tyX5 tyX5_ok nmX5 hown hR.K hR.P hR.D hR.sS 44 (hR.at45 (hR.w.2.1 _ finC_29).2.1) rfl 13 (by decide) (hts _ kw_1021) (fun _ h9 => h9) rfl (by decide +kernel) rfl rfl (Nat.le_of_ble_eq_true rfl) dX5_useStage_142 (fun H locs hP hD hS => ?_)
    have hTk9 : qT S37 44 = 45 := (hR.w.2.1 _ finC_29).2.1
    have hR : RepC g ad A s (wI S37 44 13 ((qI S37 44 13) + (1 : Int32))) H locs := hR.pI45 (hR.w.2.1 _ finC_29).2.1 FX5_s13 (fun q9 => absurd q9 (by decide)) hP hD hS
    obtain ⟨S40, eS40⟩ : ∃ z, z = wI S37 44 13 ((qI S37 44 13) + (1 : Int32)) := ⟨_, rfl⟩
    rw [← eS40] at hR
    replace h := h S40 eS40 hTk9 hR.w
    have hsh : shx S S40 := by rw [eS40]; exact hsh
    have hlg : lgC S S40 (0) (0) := by rw [eS40]; exact hlg
    refine lv_goto (tgt := 218) hx hb dX5_useStage_145 (by decide) ?_
    refine W_led2 (fun hLd => ?_)
    refine W.widen (k := KCC - qn S) (n := KSC - qu S) hlg.c hlg.s ?_
    exact W.vret hx hb hr (fun t9 ht9 hW9 => ⟨⟨(S40, ad), rfl, ⟨h, hR.w, hsh, hak⟩, ⟨⟨by rw [ht9]; exact hR.P, hR.D⟩, _, _, by rw [ht9]; exact hLd, hlg⟩⟩, hR.sS.F ht9⟩) hR.sS.2.2 dX5_useStage_218
  replace h := h.2 c9_179
  by_cases c9_184 : x1.toInt = 184
  · refine lv_lookup (off := 134) (tgt := 148) hx hb dX5_useStage_14 (by decide) (by rw [c9_184]; decide) (by decide) ?_
    replace h := h.1 (c9_184)
    refine lv_aload_n hx hb dX5_useStage_148 rfl (lv_at hl 1 rfl) ?_
    refine lv_iload_n hx hb dX5_useStage_149 rfl (lv_at hl 0 rfl) ?_
    obtain ⟨Q41, h0, h⟩ := h
    have hFc := cfree hR hA
    refine va_callv (va_runV (As := [.int a7]) (rest := []) ⟨hx, hb, hml, hown, hts⟩ (rX5_enter l g ad H.size S a7 hR.w  Q41 h0) (cwV 1 hts (gd_V kw_1200 kw_1039 kw_1040 kw_398 kw_1038) rfl rfl rfl (by decide +kernel) ⟨Nat.le_of_ble_eq_true rfl, Nat.le_of_ble_eq_true rfl⟩) ⟨cblind, va_recv hR.K hR.P (ci := 5) (q0 := 44) rfl (hR.at45 (hR.w.2.1 _ finC_29).2.1), fun U hU hW9 => cmk hU hW9 hR hex hE hFc⟩ rfl rfl hl.1 rfl (lv_room (Nat.le_of_ble_eq_true rfl)) dX5_useStage_150 ⟨(show 0 + 0 ≤ KCC - qn S from hlg.c), (show 0 + 0 ≤ KSC - qu S from hlg.s)⟩) hR.sS (fun q _ h => hFc q h) hFc (fun  S42 t9 H1 locs ht9 hvm9 hw9 hB9 hz9 hk9 hS => ?_)
    obtain ⟨hq43, hw9, hs9⟩ := hw9
    have hR : RepC g ad A s S42 H1 locs := hR.call ht9 hB9 hw9 hS hFc
    have hsh := hsh.tr hs9.1
    have hlg : lgC S S42 (0) (0) := hlg.same hs9
    replace h := h  S42 hq43 hw9 hs9
    clear hB9 hz9 hk9 hvm9 ht9 hw9 hs9 hS
    generalize H1 = H at hR ⊢
    refine lv_goto (tgt := 218) hx hb dX5_useStage_153 (by decide) ?_
    refine W_led2 (fun hLd => ?_)
    refine W.widen (k := KCC - qn S) (n := KSC - qu S) hlg.c hlg.s ?_
    exact W.vret hx hb hr (fun t9 ht9 hW9 => ⟨⟨(S42, ad), rfl, ⟨h, hR.w, hsh, hak⟩, ⟨⟨by rw [ht9]; exact hR.P, hR.D⟩, _, _, by rw [ht9]; exact hLd, hlg⟩⟩, hR.sS.F ht9⟩) hR.sS.2.2 dX5_useStage_218
  replace h := h.2 c9_184
  by_cases c9_188 : x1.toInt = 188
  · refine lv_lookup (off := 153) (tgt := 167) hx hb dX5_useStage_14 (by decide) (by rw [c9_188]; decide) (by decide) ?_
    replace h := h.1 (c9_188)
    refine lv_aload_n hx hb dX5_useStage_167 rfl (lv_at hl 1 rfl) ?_
    refine lv_aload_n hx hb dX5_useStage_168 rfl (lv_at hl 1 rfl) ?_
    obtain ⟨Q44, h0, h⟩ := h
    have hFc := cfree hR hA
    refine va_calll (va_runV (As := []) (rest := [.ref (ad 44)]) ⟨hx, hb, hml, hown, hts⟩ (rX5_pop l g ad H.size S hR.w  Q44 h0) (cwV 0 hts (gd_V kw_1080 kw_1124 kw_1125 kw_398 kw_1123) rfl rfl rfl (by decide +kernel) ⟨Nat.le_of_ble_eq_true rfl, Nat.le_of_ble_eq_true rfl⟩) ⟨cblind, va_recv hR.K hR.P (ci := 5) (q0 := 44) rfl (hR.at45 (hR.w.2.1 _ finC_29).2.1), fun U hU hW9 => cmk hU hW9 hR hex hE hFc⟩ rfl rfl hl.1 rfl (lv_room (Nat.le_of_ble_eq_true rfl)) dX5_useStage_169 ⟨(show 0 + 0 ≤ KCC - qn S from hlg.c), (show 0 + 0 ≤ KSC - qu S from hlg.s)⟩) hR.sS (fun q _ h => hFc q h) hFc (fun r45 S46 t9 H1 locs ht9 hvm9 hw9 hB9 hz9 hk9 hS => ?_)
    obtain ⟨hq47, hw9, hs9⟩ := hw9
    have hR : RepC g ad A s S46 H1 locs := hR.call ht9 hB9 hw9 hS hFc
    have hsh := hsh.tr hs9.1
    have hlg : lgC S S46 (0) (0) := hlg.same hs9
    replace h := h r45 S46 hq47 hw9 hs9
    clear hB9 hz9 hk9 hvm9 ht9 hw9 hs9 hS
    generalize H1 = H at hR ⊢
    refine lv_l2i (v := (r45.toInt32)) hx hb dX5_useStage_172 rfl ?_
    obtain ⟨Q48, h0, h⟩ := h
    have hFc := cfree hR hA
    refine W_led2 (fun hL0 => ?_)
    refine va_callv (va_runV (As := [.int (r45.toInt32)]) (rest := []) ⟨hx, hb, hml, hown, hts⟩ (rX5_makeArray l g ad H S46 (r45.toInt32) hR.w  Q48 h0) (cwV 1 hts (gd_V kw_1202 kw_1095 kw_1096 kw_398 kw_1094) rfl rfl rfl (by decide +kernel) ⟨Nat.le_of_ble_eq_true rfl, Nat.le_of_ble_eq_true rfl⟩) ⟨cblindH, va_recv hR.K hR.P (ci := 5) (q0 := 44) rfl (hR.at45 (hR.w.2.1 _ finC_29).2.1), fun U hU hW9 => cmkH hU hW9 hR hex hE hFc⟩ rfl rfl hl.1 rfl (lv_room (Nat.le_of_ble_eq_true rfl)) dX5_useStage_173 ⟨(show 0 + (KCC - qn S46) ≤ KCC - qn S from hlg.cm), (show 0 + (KSC - qu S46) ≤ KSC - qu S from hlg.sm)⟩) hR.sS (fun q _ h => hFc q h) hFc (fun  S49 t9 H1 locs ht9 hvm9 hw9 hB9 hz9 hk9 hS => ?_)
    rcases S49 with ⟨S49, ak51⟩
    obtain ⟨hB9, dc9, ds9, hL9, hl9⟩ := hB9
    dsimp only at hw9 hB9 hl9
    rw [ht9] at hL9
    obtain ⟨hq50, hw9, hs9, hk8⟩ := hw9
    have hw8 := hR.w
    have hak := hak.tr hk8 hlg.2.2.1
    have hE := hE.ad hk8
    have hR : RepC g ak51 A s S49 H1 locs := hR.callH ht9 hB9 hw9 hS hFc
    have hsh := hsh.tr hs9
    refine W_tight2 (hL0.tr hL9).1 (hL0.tr hL9).2.1 ?_
    have hlg := hlg.call hl9
    replace h := h  S49 hq50 hw9 hs9
    have ea_0 : ak51 44 = ad 44 := hk8 _ (hw8.hd (hw8.2.1 _ finC_29).2.1 (by decide) (by decide))
    have hl : lv_has ls 3 [(2, .int a7), (0, .ref (ak51 44)), (1, .int x1)] := by simp only [ea_0]; exact hl
    clear hB9 hz9 hk9 hvm9 ht9 hw9 hs9 hS hL0 hL9
    generalize H1 = H at hR ⊢
    generalize dc9 = dc_ak51, ds9 = ds_ak51 at hlg ⊢
    refine lv_goto (tgt := 218) hx hb dX5_useStage_176 (by decide) ?_
    refine W_led2 (fun hLd => ?_)
    refine W.widen (k := KCC - qn S) (n := KSC - qu S) hlg.c hlg.s ?_
    exact W.vret hx hb hr (fun t9 ht9 hW9 => ⟨⟨(S49, ak51), rfl, ⟨h, hR.w, hsh, hak⟩, ⟨⟨by rw [ht9]; exact hR.P, hR.D⟩, _, _, by rw [ht9]; exact hLd, hlg⟩⟩, hR.sS.F ht9⟩) hR.sS.2.2 dX5_useStage_218
  replace h := h.2 c9_188
  by_cases c9_190 : x1.toInt = 190
  · refine lv_lookup (off := 165) (tgt := 179) hx hb dX5_useStage_14 (by decide) (by rw [c9_190]; decide) (by decide) ?_
    replace h := h.1 (c9_190)
    refine lv_aload_n hx hb dX5_useStage_179 rfl (lv_at hl 1 rfl) ?_
    refine lv_aload_n hx hb dX5_useStage_180 rfl (lv_at hl 1 rfl) ?_
    obtain ⟨Q52, h0, h⟩ := h
    have hFc := cfree hR hA
    refine va_calll (va_runV (As := []) (rest := [.ref (ad 44)]) ⟨hx, hb, hml, hown, hts⟩ (rX5_pop l g ad H.size S hR.w  Q52 h0) (cwV 0 hts (gd_V kw_1080 kw_1124 kw_1125 kw_398 kw_1123) rfl rfl rfl (by decide +kernel) ⟨Nat.le_of_ble_eq_true rfl, Nat.le_of_ble_eq_true rfl⟩) ⟨cblind, va_recv hR.K hR.P (ci := 5) (q0 := 44) rfl (hR.at45 (hR.w.2.1 _ finC_29).2.1), fun U hU hW9 => cmk hU hW9 hR hex hE hFc⟩ rfl rfl hl.1 rfl (lv_room (Nat.le_of_ble_eq_true rfl)) dX5_useStage_181 ⟨(show 0 + 0 ≤ KCC - qn S from hlg.c), (show 0 + 0 ≤ KSC - qu S from hlg.s)⟩) hR.sS (fun q _ h => hFc q h) hFc (fun r53 S54 t9 H1 locs ht9 hvm9 hw9 hB9 hz9 hk9 hS => ?_)
    obtain ⟨hq55, hw9, hs9⟩ := hw9
    have hR : RepC g ad A s S54 H1 locs := hR.call ht9 hB9 hw9 hS hFc
    have hsh := hsh.tr hs9.1
    have hlg : lgC S S54 (0) (0) := hlg.same hs9
    replace h := h r53 S54 hq55 hw9 hs9
    clear hB9 hz9 hk9 hvm9 ht9 hw9 hs9 hS
    generalize H1 = H at hR ⊢
    obtain ⟨Q56, h0, h⟩ := h
    have hFc := cfree hR hA
    refine va_callv (va_runV (As := [.long r53]) (rest := []) ⟨hx, hb, hml, hown, hts⟩ (rX5_tellLength l g ad H.size S54 r53 hR.w  Q56 h0) (cwV 1 hts (gd_V kw_1203 kw_1184 kw_1185 kw_398 kw_1183) rfl rfl rfl (by decide +kernel) ⟨Nat.le_of_ble_eq_true rfl, Nat.le_of_ble_eq_true rfl⟩) ⟨cblind, va_recv hR.K hR.P (ci := 5) (q0 := 44) rfl (hR.at45 (hR.w.2.1 _ finC_29).2.1), fun U hU hW9 => cmk hU hW9 hR hex hE hFc⟩ rfl rfl hl.1 rfl (lv_room (Nat.le_of_ble_eq_true rfl)) dX5_useStage_184 ⟨(show 0 + 0 ≤ KCC - qn S from hlg.c), (show 0 + 0 ≤ KSC - qu S from hlg.s)⟩) hR.sS (fun q _ h => hFc q h) hFc (fun  S57 t9 H1 locs ht9 hvm9 hw9 hB9 hz9 hk9 hS => ?_)
    obtain ⟨hq58, hw9, hs9⟩ := hw9
    have hR : RepC g ad A s S57 H1 locs := hR.call ht9 hB9 hw9 hS hFc
    have hsh := hsh.tr hs9.1
    have hlg : lgC S S57 (0) (0) := hlg.same hs9
    replace h := h  S57 hq58 hw9 hs9
    clear hB9 hz9 hk9 hvm9 ht9 hw9 hs9 hS
    generalize H1 = H at hR ⊢
    refine lv_goto (tgt := 218) hx hb dX5_useStage_187 (by decide) ?_
    refine W_led2 (fun hLd => ?_)
    refine W.widen (k := KCC - qn S) (n := KSC - qu S) hlg.c hlg.s ?_
    exact W.vret hx hb hr (fun t9 ht9 hW9 => ⟨⟨(S57, ad), rfl, ⟨h, hR.w, hsh, hak⟩, ⟨⟨by rw [ht9]; exact hR.P, hR.D⟩, _, _, by rw [ht9]; exact hLd, hlg⟩⟩, hR.sS.F ht9⟩) hR.sS.2.2 dX5_useStage_218
  replace h := h.2 c9_190
  by_cases c9_191 : x1.toInt = 191
  · refine lv_lookup (off := 142) (tgt := 156) hx hb dX5_useStage_14 (by decide) (by rw [c9_191]; decide) (by decide) ?_
    replace h := h.1 (c9_191)
    refine lv_aload_n hx hb dX5_useStage_156 rfl (lv_at hl 1 rfl) ?_
    refine lv_aload_n hx hb dX5_useStage_157 rfl (lv_at hl 1 rfl) ?_
    obtain ⟨Q59, h0, h⟩ := h
    have hFc := cfree hR hA
    refine va_calll (va_runV (As := []) (rest := [.ref (ad 44)]) ⟨hx, hb, hml, hown, hts⟩ (rX5_pop l g ad H.size S hR.w  Q59 h0) (cwV 0 hts (gd_V kw_1080 kw_1124 kw_1125 kw_398 kw_1123) rfl rfl rfl (by decide +kernel) ⟨Nat.le_of_ble_eq_true rfl, Nat.le_of_ble_eq_true rfl⟩) ⟨cblind, va_recv hR.K hR.P (ci := 5) (q0 := 44) rfl (hR.at45 (hR.w.2.1 _ finC_29).2.1), fun U hU hW9 => cmk hU hW9 hR hex hE hFc⟩ rfl rfl hl.1 rfl (lv_room (Nat.le_of_ble_eq_true rfl)) dX5_useStage_158 ⟨(show 0 + 0 ≤ KCC - qn S from hlg.c), (show 0 + 0 ≤ KSC - qu S from hlg.s)⟩) hR.sS (fun q _ h => hFc q h) hFc (fun r60 S61 t9 H1 locs ht9 hvm9 hw9 hB9 hz9 hk9 hS => ?_)
    obtain ⟨hq62, hw9, hs9⟩ := hw9
    have hR : RepC g ad A s S61 H1 locs := hR.call ht9 hB9 hw9 hS hFc
    have hsh := hsh.tr hs9.1
    have hlg : lgC S S61 (0) (0) := hlg.same hs9
    replace h := h r60 S61 hq62 hw9 hs9
    clear hB9 hz9 hk9 hvm9 ht9 hw9 hs9 hS
    generalize H1 = H at hR ⊢
    obtain ⟨Q63, h0, h⟩ := h
    have hFc := cfree hR hA
    refine va_callv (va_runV (As := [.long r60]) (rest := []) ⟨hx, hb, hml, hown, hts⟩ (rX5_throwIt l g ad H.size S61 r60 hR.w  Q63 h0) (cwV 1 hts (gd_V kw_1201 kw_1187 kw_1188 kw_398 kw_1186) rfl rfl rfl (by decide +kernel) ⟨Nat.le_of_ble_eq_true rfl, Nat.le_of_ble_eq_true rfl⟩) ⟨cblind, va_recv hR.K hR.P (ci := 5) (q0 := 44) rfl (hR.at45 (hR.w.2.1 _ finC_29).2.1), fun U hU hW9 => cmk hU hW9 hR hex hE hFc⟩ rfl rfl hl.1 rfl (lv_room (Nat.le_of_ble_eq_true rfl)) dX5_useStage_161 ⟨(show 0 + 0 ≤ KCC - qn S from hlg.c), (show 0 + 0 ≤ KSC - qu S from hlg.s)⟩) hR.sS (fun q _ h => hFc q h) hFc (fun  S64 t9 H1 locs ht9 hvm9 hw9 hB9 hz9 hk9 hS => ?_)
    obtain ⟨hq65, hw9, hs9⟩ := hw9
    have hR : RepC g ad A s S64 H1 locs := hR.call ht9 hB9 hw9 hS hFc
    have hsh := hsh.tr hs9.1
    have hlg : lgC S S64 (0) (0) := hlg.same hs9
    replace h := h  S64 hq65 hw9 hs9
    clear hB9 hz9 hk9 hvm9 ht9 hw9 hs9 hS
    generalize H1 = H at hR ⊢
    refine lv_goto (tgt := 218) hx hb dX5_useStage_164 (by decide) ?_
    refine W_led2 (fun hLd => ?_)
    refine W.widen (k := KCC - qn S) (n := KSC - qu S) hlg.c hlg.s ?_
    exact W.vret hx hb hr (fun t9 ht9 hW9 => ⟨⟨(S64, ad), rfl, ⟨h, hR.w, hsh, hak⟩, ⟨⟨by rw [ht9]; exact hR.P, hR.D⟩, _, _, by rw [ht9]; exact hLd, hlg⟩⟩, hR.sS.F ht9⟩) hR.sS.2.2 dX5_useStage_218
  replace h := h.2 c9_191
  refine lv_lookup (off := 184) (tgt := 198) hx hb dX5_useStage_14 (by decide) (lx_cons c9_46 (lx_cons c9_79 (lx_cons c9_178 (lx_cons c9_179 (lx_cons c9_184 (lx_cons c9_188 (lx_cons c9_190 (lx_cons c9_191 lx_nil)))))))) (by decide) ?_
  refine lv_aload_n hx hb dX5_useStage_198 rfl (lv_at hl 1 rfl) ?_
  refine lv_dup hx hb dX5_useStage_199 rfl ?_
  refine va_get (D := rD g) (ci := 5) (v := .int (qI S 44 19)) (C := RX5) (T := TX5) (N := 20) hx hb hts inX5 hown hR.K hR.P 44 (hR.at45 (hR.w.2.1 _ finC_29).2.1) rfl 19 (by decide) (hts _ kw_1045) (fun _ h9 => h9) rfl dX5_useStage_200 ?_
  refine lv_iconst (v := 1) hx hb dX5_useStage_203 (by decide) ?_
  refine lv_iadd hx hb dX5_useStage_204 ?_
  refine lv_topi (fun z66 ez66 => ?_)
  obtain rfl : z66 = ((qI S 44 19) + (1 : Int32)) := ez66
  refine va_put (D := rD g) (ci := 5) (v := .int ((qI S 44 19) + (1 : Int32))) (ty := .int) (C := RX5) (T := TX5) (N := 20) hx hb hts inX5 tyX5 tyX5_ok nmX5 hown hR.K hR.P hR.D hR.sS 44 (hR.at45 (hR.w.2.1 _ finC_29).2.1) rfl 19 (by decide) (hts _ kw_1045) (fun _ h9 => h9) rfl (by decide +kernel) rfl rfl (Nat.le_of_ble_eq_true rfl) dX5_useStage_205 (fun H locs hP hD hS => ?_)
  have hTk9 : qT S 44 = 45 := (hR.w.2.1 _ finC_29).2.1
  have hR : RepC g ad A s (wI S 44 19 ((qI S 44 19) + (1 : Int32))) H locs := hR.pI45 (hR.w.2.1 _ finC_29).2.1 FX5_s19 (fun q9 => absurd q9 (by decide)) hP hD hS
  obtain ⟨S67, eS67⟩ : ∃ z, z = wI S 44 19 ((qI S 44 19) + (1 : Int32)) := ⟨_, rfl⟩
  rw [← eS67] at hR
  replace h := h S67 eS67 hTk9 hR.w
  have hsh : shx S S67 := by rw [eS67]; exact hsh
  have hlg : lgC S S67 (0) (0) := by rw [eS67]; exact hlg
  refine lv_aload_n hx hb dX5_useStage_208 rfl (lv_at hl 1 rfl) ?_
  refine lv_dup hx hb dX5_useStage_209 rfl ?_
  refine va_get (D := rD g) (ci := 5) (v := .int (qI S67 44 13)) (C := RX5) (T := TX5) (N := 20) hx hb hts inX5 hown hR.K hR.P 44 (hR.at45 (hR.w.2.1 _ finC_29).2.1) rfl 13 (by decide) (hts _ kw_1021) (fun _ h9 => h9) rfl dX5_useStage_210 ?_
  refine lv_iconst (v := 1) hx hb dX5_useStage_213 (by decide) ?_
  refine lv_iadd hx hb dX5_useStage_214 ?_
  refine lv_topi (fun z68 ez68 => ?_)
  obtain rfl : z68 = ((qI S67 44 13) + (1 : Int32)) := ez68
  refine va_put (D := rD g) (ci := 5) (v := .int ((qI S67 44 13) + (1 : Int32))) (ty := .int) (C := RX5) (T := TX5) (N := 20) hx hb hts inX5 tyX5 tyX5_ok nmX5 hown hR.K hR.P hR.D hR.sS 44 (hR.at45 (hR.w.2.1 _ finC_29).2.1) rfl 13 (by decide) (hts _ kw_1021) (fun _ h9 => h9) rfl (by decide +kernel) rfl rfl (Nat.le_of_ble_eq_true rfl) dX5_useStage_215 (fun H locs hP hD hS => ?_)
  have hTk9 : qT S67 44 = 45 := (hR.w.2.1 _ finC_29).2.1
  have hR : RepC g ad A s (wI S67 44 13 ((qI S67 44 13) + (1 : Int32))) H locs := hR.pI45 (hR.w.2.1 _ finC_29).2.1 FX5_s13 (fun q9 => absurd q9 (by decide)) hP hD hS
  obtain ⟨S69, eS69⟩ : ∃ z, z = wI S67 44 13 ((qI S67 44 13) + (1 : Int32)) := ⟨_, rfl⟩
  rw [← eS69] at hR
  replace h := h S69 eS69 hTk9 hR.w
  have hsh : shx S S69 := by rw [eS69]; exact hsh
  have hlg : lgC S S69 (0) (0) := by rw [eS69]; exact hlg
  refine W_led2 (fun hLd => ?_)
  refine W.widen (k := KCC - qn S) (n := KSC - qu S) hlg.c hlg.s ?_
  exact W.vret hx hb hr (fun t9 ht9 hW9 => ⟨⟨(S69, ad), rfl, ⟨h, hR.w, hsh, hak⟩, ⟨⟨by rw [ht9]; exact hR.P, hR.D⟩, _, _, by rw [ht9]; exact hLd, hlg⟩⟩, hR.sS.F ht9⟩) hR.sS.2.2 dX5_useStage_218
