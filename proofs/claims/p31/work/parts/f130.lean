def w_X9_makeBetter_J74 (Q : MS → Prop) (k34 : MS → Int32 → Int32 → Int32 → Int32 → Prop) (U74 : MS) (v74_2 : Int32) (v74_3 : Int32) (v74_4 : Int32) (v74_5 : Int32) : Prop := (wfC U74 → (∀ a16 : Int32, a16 = (v74_5 + Int32.ofInt 1) → k34 U74 v74_2 v74_3 v74_4 a16))
def w_X9_makeBetter_J72 (Q : MS → Prop) (k34 : MS → Int32 → Int32 → Int32 → Int32 → Prop) (U72 : MS) (t72_0 : Int32) (t72_1 : Int32) (v72_2 : Int32) (v72_4 : Int32) (v72_5 : Int32) : Prop := (wfC U72 → (t72_0 = 0 ∨ t72_0 = 1) → (∀ a19 : Int32, a19 = (t72_1 ||| t72_0) → w_X9_makeBetter_J74 Q k34 U72 v72_2 a19 v72_4 v72_5))
def w_X9_makeBetter_L34 (Q : MS → Prop) (k18 : MS → Int32 → Int32 → Int32 → Prop) : Nat → MS → Int32 → Int32 → Int32 → Int32 → Prop
  | 0, _, _, _, _, _ => False
  | n34 + 1, U34, v34_2, v34_3, v34_4, v34_5 => (wfC U34 → ((11 < v34_5.toInt → (∀ a12 : Int32, a12 = (v34_4 + Int32.ofInt 1) → k18 U34 v34_2 v34_3 a12)) ∧ (¬ 11 < v34_5.toInt → ((((v34_2 >>> ((v34_5 - (1 : Int32)) &&& 31)) &&& (1 : Int32)).toInt = 0 → w_X9_makeBetter_J74 Q (w_X9_makeBetter_L34 Q k18 n34) U34 v34_2 v34_3 v34_4 v34_5) ∧ (¬ ((v34_2 >>> ((v34_5 - (1 : Int32)) &&& 31)) &&& (1 : Int32)).toInt = 0 → ((v34_5.toInt = 1 → (∃ Q25, wX9_dropUnreached U34 Q25 ∧ ∀ r26 S27, Q25 r26 S27 → wfC S27 → shy U34 S27 → w_X9_makeBetter_J72 Q (w_X9_makeBetter_L34 Q k18 n34) S27 r26 v34_3 v34_2 v34_4 v34_5)) ∧ (¬ v34_5.toInt = 1 → (∃ Q21, wX9_goThrough U34 v34_5 Q21 ∧ ∀ r22 S23, Q21 r22 S23 → wfC S23 → shy U34 S23 → w_X9_makeBetter_J72 Q (w_X9_makeBetter_L34 Q k18 n34) S23 r22 v34_3 v34_2 v34_4 v34_5))))))))
def w_X9_makeBetter_L18 (Q : MS → Prop) : Nat → MS → Int32 → Int32 → Int32 → Prop
  | 0, _, _, _, _ => False
  | n18 + 1, U18, v18_2, v18_3, v18_4 => (wfC U18 → ((v18_3.toInt = 0 → Q U18) ∧ (¬ v18_3.toInt = 0 → ((50 ≤ v18_4.toInt → Q U18) ∧ (¬ 50 ≤ v18_4.toInt → (∃ n, w_X9_makeBetter_L34 Q (w_X9_makeBetter_L18 Q n18) n U18 v18_2 0 v18_4 1))))))
def wX9_makeBetter (S : MS) (p1 : Nat) (x2 : Int32) (Q : MS → Prop) : Prop := (qT S p1 = 47 → (∃ Q1, wX9_makeRoom S p1 Q1 ∧ ∀ S2, Q1 S2 → wfC S2 → shx S S2 → (qT S2 (qO S2 66 0) = 47 → qT S2 p1 = 47 → (∃ Q6, wX8_copyFrom S2 (qO S2 66 0) p1 Q6 ∧ ∀ S7, Q6 S7 → wfC S7 → shy S2 S7 → (∃ n, w_X9_makeBetter_L18 Q n S7 x2 1 0)))))
set_option maxHeartbeats 2000000 in
set_option maxRecDepth 100000 in
theorem rX9_makeBetter (l : Launch) (g : Gr) (ad : Nat → Nat) (H0 : Heap) (S : MS) (p1 : Nat) (x2 : Int32) (hw : wfC S) (hT_p1 : qT S p1 = 47) (Q : MS → Prop) (h : wX9_makeBetter S p1 x2 Q) : Met l yX9_makeBetter (wt yX9_makeBetter cX9_makeBetter 6 none) ({ frames := 6, cells := KCC - qn S, slots := KSC - qu S, locals := 145 }) (va_Pc [.ref (ad 66), .ref (ad p1), .int x2] (st_CH g ad H0 S)) (va_Qv (fun (u : MS × (Nat → Nat)) => Q u.1 ∧ wfC u.1 ∧ shx S u.1 ∧ adk ad u.2 S) (fun (u : MS × (Nat → Nat)) (t : State) => qEHC g (va_A (WdC g ad S) H0.size) S H0 u t) (va_A (WdC g ad S) H0.size)) (KCC - qn S) (KSC - qu S) (va_A (WdC g ad S) H0.size) := by
  refine Met.ofW (cc := cX9_makeBetter) (maxL := 6) (ret := none) (by decide) rfl ?_
  intro p e s m args below meth c s₁ B hml hv
  obtain ⟨rfl, hH0, hsz, hP, hK, hD0, hex, hE⟩ := hv
  have hx := B.exec
  have hb := B.bytes
  have hr := B.returns
  have hts0 := atoms_spec (ws := wt yX9_makeBetter cX9_makeBetter 6 none) B.pre
  have hts : ∀ w ∈ tb, w.before _ s = true := fun w h => hts0 w (List.mem_cons_of_mem _ h)
  have hown : s.vm.findClass RX9 = some m.cls := findClass_of_methodNamed B.named
  subst hH0
  have hD := hD0.self (sz := s.heap.size)
  generalize hAe : va_A (WdC g ad S) s.heap.size = A at hD hE ⊢
  have hA : ∀ q : Nat, s.heap.size ≤ q → A q := fun q h => by rw [← hAe]; exact Or.inr h
  have hR : RepC g ad A s S s.heap [] := ⟨hK, hP, hD, va_S.rf, hw⟩
  clear hK hP hD hD0
  have hl := lv_entry ([.ref (ad 66), .ref (ad p1), .int x2]) (n := 6) (Nat.le_of_ble_eq_true rfl)
  rw [lg_entry_eq]
  generalize (lg_sl ([.ref (ad 66), .ref (ad p1), .int x2]) ++ List.replicate (6 - (lg_sl ([.ref (ad 66), .ref (ad p1), .int x2])).length) Slot.unset).toArray = ls at hl ⊢
  have hlg : lgC S S 0 0 := lgC.rf
  have hak : adk ad ad S := adk.rf
  have hl : lv_has ls 6 [(0, .ref (ad 66)), (1, .ref (ad p1)), (2, .int x2)] := hl
  have hsh : shx S S := shx.rf
  unfold wX9_makeBetter at h
  refine lv_aload_n hx hb dX9_makeBetter_0 rfl (lv_at hl 0 rfl) ?_
  refine lv_aload_n hx hb dX9_makeBetter_1 rfl (lv_at hl 1 rfl) ?_
  replace h := h (hT_p1)
  obtain ⟨Q1, h0, h⟩ := h
  have hFc := cfree hR hA
  refine W_led2 (fun hL0 => ?_)
  refine va_callv (va_runV (As := [.ref (ad p1)]) (rest := []) ⟨hx, hb, hml, hown, hts⟩ (rX9_makeRoom l g ad s.heap S p1 hR.w hT_p1 Q1 h0) (cwV 1 hts (gd_V kw_1680 kw_1685 kw_1686 kw_404 kw_1684) rfl rfl rfl (by decide +kernel) ⟨Nat.le_of_ble_eq_true rfl, Nat.le_of_ble_eq_true rfl⟩) ⟨cblindH, va_recv hR.K hR.P (ci := 8) (q0 := 66) rfl (hR.at48 (hR.w.2.1 _ finC_31).2.1), fun U hU hW9 => cmkH hU hW9 hR hex hE hFc⟩ rfl rfl hl.1 rfl (lv_room (Nat.le_of_ble_eq_true rfl)) dX9_makeBetter_2 ⟨(show 0 + (KCC - qn S) ≤ KCC - qn S from hlg.cm), (show 0 + (KSC - qu S) ≤ KSC - qu S from hlg.sm)⟩) hR.sS (fun q _ h => hFc q h) hFc (fun  S2 t9 H1 locs ht9 hvm9 hw9 hB9 hz9 hk9 hS => ?_)
  rcases S2 with ⟨S2, ak4⟩
  obtain ⟨hB9, dc9, ds9, hL9, hl9⟩ := hB9
  dsimp only at hw9 hB9 hl9
  rw [ht9] at hL9
  obtain ⟨hq3, hw9, hs9, hk8⟩ := hw9
  have hw8 := hR.w
  have hak := hak.tr hk8 hlg.2.2.1
  have hE := hE.ad hk8
  have hR : RepC g ak4 A s S2 H1 locs := hR.callH ht9 hB9 hw9 hS hFc
  have hsh := hsh.tr hs9
  refine W_tight2 (hL0.tr hL9).1 (hL0.tr hL9).2.1 ?_
  have hlg := hlg.call hl9
  replace h := h  S2 hq3 hw9 hs9
  have ea_0 : ak4 66 = ad 66 := hk8 _ (hw8.hd (hw8.2.1 _ finC_31).2.1 (by decide) (by decide))
  have ea_1 : ak4 p1 = ad p1 := hk8 _ (hw8.hd hT_p1 (by decide) (by decide))
  have hl : lv_has ls 6 [(0, .ref (ak4 66)), (1, .ref (ak4 p1)), (2, .int x2)] := by simp only [ea_0, ea_1]; exact hl
  have hT_p1 := hs9.T hT_p1 (by decide)
  clear hB9 hz9 hk9 hvm9 ht9 hw9 hs9 hS hL0 hL9
  generalize H1 = H at hR ⊢
  generalize dc9 = dc_ak4, ds9 = ds_ak4 at hlg ⊢
  refine lv_aload_n hx hb dX9_makeBetter_5 rfl (lv_at hl 0 rfl) ?_
  have hT_b5 : qT S2 (qO S2 66 0) = 47 := hR.w.ref (hR.w.ptr ptrC_39) (hR.w.2.1 _ finC_31).2.1
  refine va_get (D := rD g) (ci := 8) (v := .ref (ak4 (qO S2 66 0))) (C := RX9) (T := TX9) (N := 6) hx hb hts inX9 hown hR.K hR.P 66 (hR.at48 (hR.w.2.1 _ finC_31).2.1) rfl 0 (by decide) (hts _ kw_1552) (fun _ h9 => h9) (congrArg (fun z => some (vf ak4 z)) (hR.w.ptr ptrC_39)) dX9_makeBetter_6 ?_
  refine lv_aload_n hx hb dX9_makeBetter_9 rfl (lv_at hl 1 rfl) ?_
  replace h := h (hT_b5) (hT_p1)
  obtain ⟨Q6, h0, h⟩ := h
  have hFc := cfree hR hA
  refine va_callv (va_runV (As := [.ref (ak4 p1)]) (rest := []) ⟨hx, hb, hml, hown, hts⟩ (rX8_copyFrom l g ak4 H.size S2 (qO S2 66 0) p1 hR.w hT_b5 hT_p1 Q6 h0) (cwV 1 hts (gd_V kw_1681 kw_1486 kw_1487 kw_782 kw_1485) rfl rfl rfl (by decide +kernel) ⟨Nat.le_of_ble_eq_true rfl, Nat.le_of_ble_eq_true rfl⟩) ⟨cblind, va_recv hR.K hR.P (ci := 7) (q0 := (qO S2 66 0)) rfl (hR.at47 hT_b5), fun U hU hW9 => cmk hU hW9 hR hex hE hFc⟩ rfl rfl hl.1 rfl (lv_room (Nat.le_of_ble_eq_true rfl)) dX9_makeBetter_10 ⟨(show 0 + dc_ak4 + 0 ≤ KCC - qn S from hlg.c), (show 0 + ds_ak4 + 0 ≤ KSC - qu S from hlg.s)⟩) hR.sS (fun q _ h => hFc q h) hFc (fun  S7 t9 H1 locs ht9 hvm9 hw9 hB9 hz9 hk9 hS => ?_)
  obtain ⟨hq8, hw9, hs9⟩ := hw9
  have hR : RepC g ak4 A s S7 H1 locs := hR.call ht9 hB9 hw9 hS hFc
  have hsh := hsh.tr hs9.1
  have hlg : lgC S S7 (0 + dc_ak4) (0 + ds_ak4) := hlg.same hs9
  replace h := h  S7 hq8 hw9 hs9
  have hT_p1 := hs9.T hT_p1 (by decide)
  clear hB9 hz9 hk9 hvm9 ht9 hw9 hs9 hS
  generalize H1 = H at hR ⊢
  refine lv_iconst (v := 1) hx hb dX9_makeBetter_13 (by decide) ?_
  refine lv_istore_n (lv' := [(3, .int 1), (0, .ref (ak4 66)), (1, .ref (ak4 p1)), (2, .int x2)]) hx hb dX9_makeBetter_14 rfl hl (by decide) rfl (fun ls hl => ?_)
  refine lv_iconst (v := 0) hx hb dX9_makeBetter_15 (by decide) ?_
  refine lv_istore (lv' := [(4, .int 0), (3, .int 1), (0, .ref (ak4 66)), (1, .ref (ak4 p1)), (2, .int x2)]) hx hb dX9_makeBetter_16 hl (by decide) rfl (fun ls hl => ?_)
  have J_18 : ∀ (n18 : Nat) (ad18 : Nat → Nat) (dc18 ds18 : Nat) (U18 : MS) (v18_2 : Int32) (v18_3 : Int32) (v18_4 : Int32) (H : Heap) (locs : List Loc) (ls : Array Slot), w_X9_makeBetter_L18 Q n18 U18 v18_2 v18_3 v18_4 → shx S U18 → lgC S U18 dc18 ds18 → adk ad ad18 S → ogC ad18 A s s.heap → RepC g ad18 A s U18 H locs → lv_has ls 6 [(0, .ref (ad18 66)), (2, .int v18_2), (3, .int v18_3), (4, .int v18_4)] → W p l e (headSpec (wt yX9_makeBetter cX9_makeBetter 6 none) ({ frames := 6, cells := KCC - qn S, slots := KSC - qu S, locals := 145 })).room s m ([.ref (ad 66), .ref (ad p1), .int x2] : List Value).toArray below meth c H locs dc18 ds18 (MQ below (va_Qv (fun (u : MS × (Nat → Nat)) => Q u.1 ∧ wfC u.1 ∧ shx S u.1 ∧ adk ad u.2 S) (fun (u : MS × (Nat → Nat)) (t : State) => qEHC g A S s.heap u t) A) ([.ref (ad 66), .ref (ad p1), .int x2] : List Value).toArray s (KCC - qn S) (KSC - qu S) A) (F0 m 18 ls []) := by
    intro n18
    induction n18 with
    | zero => intro ad18 dc18 ds18 U18 v18_2 v18_3 v18_4 H locs ls h hsh hlg hak hE hR hl; unfold w_X9_makeBetter_L18 at h; exact h.elim
    | succ n18 ih_18 =>
      intro ad18 dc18 ds18 U18 v18_2 v18_3 v18_4 H locs ls h hsh hlg hak hE hR hl
      unfold w_X9_makeBetter_L18 at h
      replace h := h hR.w
      refine lv_iload_n hx hb dX9_makeBetter_18 rfl (lv_at hl 2 rfl) ?_
      refine lv_if_eq (tgt := 86) hx hb dX9_makeBetter_19 (by decide) (fun c9 => ?_) (fun c9 => ?_)
      · replace h := h.1 (k_eq rfl (by decide) c9)
        refine W_led2 (fun hLd => ?_)
        refine W.widen (k := KCC - qn S) (n := KSC - qu S) hlg.c hlg.s ?_
        exact W.vret hx hb hr (fun t9 ht9 hW9 => ⟨⟨(U18, ad18), rfl, ⟨h, hR.w, hsh, hak⟩, ⟨⟨by rw [ht9]; exact hR.P, hR.D⟩, _, _, by rw [ht9]; exact hLd, hlg⟩⟩, hR.sS.F ht9⟩) hR.sS.2.2 dX9_makeBetter_86
      · replace h := h.2 (k_ne rfl (by decide) c9)
        refine lv_iload hx hb dX9_makeBetter_22 (lv_at hl 3 rfl) ?_
        refine lv_bipush (v := 50) hx hb dX9_makeBetter_24 (by decide) ?_
        refine lv_icmp_ge (tgt := 86) hx hb dX9_makeBetter_26 (by decide) (fun c10 => ?_) (fun c10 => ?_)
        · replace h := h.1 (k_le (by decide) rfl c10)
          refine W_led2 (fun hLd => ?_)
          refine W.widen (k := KCC - qn S) (n := KSC - qu S) hlg.c hlg.s ?_
          exact W.vret hx hb hr (fun t9 ht9 hW9 => ⟨⟨(U18, ad18), rfl, ⟨h, hR.w, hsh, hak⟩, ⟨⟨by rw [ht9]; exact hR.P, hR.D⟩, _, _, by rw [ht9]; exact hLd, hlg⟩⟩, hR.sS.F ht9⟩) hR.sS.2.2 dX9_makeBetter_86
        · replace h := h.2 (k_nle (by decide) rfl c10)
          refine lv_iconst (v := 0) hx hb dX9_makeBetter_29 (by decide) ?_
          refine lv_istore_n (lv' := [(3, .int 0), (0, .ref (ad18 66)), (2, .int v18_2), (4, .int v18_4)]) hx hb dX9_makeBetter_30 rfl hl (by decide) rfl (fun ls hl => ?_)
          refine lv_iconst (v := 1) hx hb dX9_makeBetter_31 (by decide) ?_
          refine lv_istore (lv' := [(5, .int 1), (3, .int 0), (0, .ref (ad18 66)), (2, .int v18_2), (4, .int v18_4)]) hx hb dX9_makeBetter_32 hl (by decide) rfl (fun ls hl => ?_)
          have J_34 : ∀ (n34 : Nat) (ad34 : Nat → Nat) (dc34 ds34 : Nat) (U34 : MS) (v34_2 : Int32) (v34_3 : Int32) (v34_4 : Int32) (v34_5 : Int32) (H : Heap) (locs : List Loc) (ls : Array Slot), w_X9_makeBetter_L34 Q (w_X9_makeBetter_L18 Q n18) n34 U34 v34_2 v34_3 v34_4 v34_5 → shx S U34 → lgC S U34 dc34 ds34 → adk ad ad34 S → ogC ad34 A s s.heap → RepC g ad34 A s U34 H locs → lv_has ls 6 [(0, .ref (ad34 66)), (2, .int v34_2), (3, .int v34_3), (4, .int v34_4), (5, .int v34_5)] → W p l e (headSpec (wt yX9_makeBetter cX9_makeBetter 6 none) ({ frames := 6, cells := KCC - qn S, slots := KSC - qu S, locals := 145 })).room s m ([.ref (ad 66), .ref (ad p1), .int x2] : List Value).toArray below meth c H locs dc34 ds34 (MQ below (va_Qv (fun (u : MS × (Nat → Nat)) => Q u.1 ∧ wfC u.1 ∧ shx S u.1 ∧ adk ad u.2 S) (fun (u : MS × (Nat → Nat)) (t : State) => qEHC g A S s.heap u t) A) ([.ref (ad 66), .ref (ad p1), .int x2] : List Value).toArray s (KCC - qn S) (KSC - qu S) A) (F0 m 34 ls []) := by
            intro n34
            induction n34 with
            | zero => intro ad34 dc34 ds34 U34 v34_2 v34_3 v34_4 v34_5 H locs ls h hsh hlg hak hE hR hl; unfold w_X9_makeBetter_L34 at h; exact h.elim
            | succ n34 ih_34 =>
              intro ad34 dc34 ds34 U34 v34_2 v34_3 v34_4 v34_5 H locs ls h hsh hlg hak hE hR hl
              unfold w_X9_makeBetter_L34 at h
              replace h := h hR.w
              refine lv_iload hx hb dX9_makeBetter_34 (lv_at hl 4 rfl) ?_
              refine lv_bipush (v := 11) hx hb dX9_makeBetter_36 (by decide) ?_
              refine lv_icmp_gt (tgt := 80) hx hb dX9_makeBetter_38 (by decide) (fun c11 => ?_) (fun c11 => ?_)
              · replace h := h.1 (k_lt (by decide) rfl c11)
                obtain ⟨a12, ea12⟩ : ∃ z, z = (v34_4 + Int32.ofInt 1) := ⟨_, rfl⟩
                replace h := h a12 ea12
                refine lv_iinc (v := a12) (lv' := [(4, .int a12), (0, .ref (ad34 66)), (2, .int v34_2), (3, .int v34_3), (5, .int v34_5)]) hx hb dX9_makeBetter_80 hl (k := 3) rfl ea12.symm (by decide) rfl (fun ls hl => ?_)
                refine lv_goto (tgt := 18) hx hb dX9_makeBetter_83 (by decide) ?_
                exact ih_18 ad34 (dc34) (ds34) U34 v34_2 v34_3 a12 _ _ ls h  hsh hlg hak hE hR (lv_sub hl [1, 2, 3, 0] rfl)
              · replace h := h.2 (k_nlt (by decide) rfl c11)
                refine lv_iload_n hx hb dX9_makeBetter_41 rfl (lv_at hl 1 rfl) ?_
                refine lv_iload hx hb dX9_makeBetter_42 (lv_at hl 4 rfl) ?_
                refine lv_iconst (v := 1) hx hb dX9_makeBetter_44 (by decide) ?_
                refine lv_isub hx hb dX9_makeBetter_45 ?_
                refine lv_topi (fun z13 ez13 => ?_)
                obtain rfl : z13 = (v34_5 - (1 : Int32)) := ez13
                refine lv_ishr hx hb dX9_makeBetter_46 ?_
                refine lv_topi (fun z14 ez14 => ?_)
                obtain rfl : z14 = (v34_2 >>> ((v34_5 - (1 : Int32)) &&& 31)) := ez14
                refine lv_iconst (v := 1) hx hb dX9_makeBetter_47 (by decide) ?_
                refine lv_iand hx hb dX9_makeBetter_48 ?_
                refine lv_topi (fun z15 ez15 => ?_)
                obtain rfl : z15 = ((v34_2 >>> ((v34_5 - (1 : Int32)) &&& 31)) &&& (1 : Int32)) := ez15
                have J_74 : ∀ (ad74 : Nat → Nat) (dc74 ds74 : Nat) (U74 : MS) (v74_2 : Int32) (v74_3 : Int32) (v74_4 : Int32) (v74_5 : Int32) (H : Heap) (locs : List Loc) (ls : Array Slot), w_X9_makeBetter_J74 Q (w_X9_makeBetter_L34 Q (w_X9_makeBetter_L18 Q n18) n34) U74 v74_2 v74_3 v74_4 v74_5 → shx S U74 → lgC S U74 dc74 ds74 → adk ad ad74 S → ogC ad74 A s s.heap → RepC g ad74 A s U74 H locs → lv_has ls 6 [(0, .ref (ad74 66)), (2, .int v74_2), (3, .int v74_3), (4, .int v74_4), (5, .int v74_5)] → W p l e (headSpec (wt yX9_makeBetter cX9_makeBetter 6 none) ({ frames := 6, cells := KCC - qn S, slots := KSC - qu S, locals := 145 })).room s m ([.ref (ad 66), .ref (ad p1), .int x2] : List Value).toArray below meth c H locs dc74 ds74 (MQ below (va_Qv (fun (u : MS × (Nat → Nat)) => Q u.1 ∧ wfC u.1 ∧ shx S u.1 ∧ adk ad u.2 S) (fun (u : MS × (Nat → Nat)) (t : State) => qEHC g A S s.heap u t) A) ([.ref (ad 66), .ref (ad p1), .int x2] : List Value).toArray s (KCC - qn S) (KSC - qu S) A) (F0 m 74 ls []) := by
                  intro ad74 dc74 ds74 U74 v74_2 v74_3 v74_4 v74_5 H locs ls h hsh hlg hak hE hR hl
                  unfold w_X9_makeBetter_J74 at h
                  replace h := h hR.w
                  obtain ⟨a16, ea16⟩ : ∃ z, z = (v74_5 + Int32.ofInt 1) := ⟨_, rfl⟩
                  replace h := h a16 ea16
                  refine lv_iinc (v := a16) (lv' := [(5, .int a16), (0, .ref (ad74 66)), (2, .int v74_2), (3, .int v74_3), (4, .int v74_4)]) hx hb dX9_makeBetter_74 hl (k := 4) rfl ea16.symm (by decide) rfl (fun ls hl => ?_)
                  refine lv_goto (tgt := 34) hx hb dX9_makeBetter_77 (by decide) ?_
                  exact ih_34 ad74 (dc74) (ds74) U74 v74_2 v74_3 v74_4 a16 _ _ ls h  hsh hlg hak hE hR (lv_sub hl [1, 2, 3, 4, 0] rfl)
                refine lv_if_eq (tgt := 74) hx hb dX9_makeBetter_49 (by decide) (fun c17 => ?_) (fun c17 => ?_)
                · replace h := h.1 (k_eq rfl (by decide) c17)
                  exact J_74 ad34 (dc34) (ds34) U34 v34_2 v34_3 v34_4 v34_5 _ _ ls h  hsh hlg hak hE hR (lv_sub hl [0, 1, 2, 3, 4] rfl)
                · replace h := h.2 (k_ne rfl (by decide) c17)
                  refine lv_iload_n hx hb dX9_makeBetter_52 rfl (lv_at hl 2 rfl) ?_
                  refine lv_iload hx hb dX9_makeBetter_53 (lv_at hl 4 rfl) ?_
                  refine lv_iconst (v := 1) hx hb dX9_makeBetter_55 (by decide) ?_
                  have J_72 : ∀ (ad72 : Nat → Nat) (dc72 ds72 : Nat) (U72 : MS) (t72_0 : Int32) (t72_1 : Int32) (v72_2 : Int32) (v72_4 : Int32) (v72_5 : Int32) (H : Heap) (locs : List Loc) (ls : Array Slot), w_X9_makeBetter_J72 Q (w_X9_makeBetter_L34 Q (w_X9_makeBetter_L18 Q n18) n34) U72 t72_0 t72_1 v72_2 v72_4 v72_5 → (t72_0 = 0 ∨ t72_0 = 1) → shx S U72 → lgC S U72 dc72 ds72 → adk ad ad72 S → ogC ad72 A s s.heap → RepC g ad72 A s U72 H locs → lv_has ls 6 [(0, .ref (ad72 66)), (2, .int v72_2), (4, .int v72_4), (5, .int v72_5)] → W p l e (headSpec (wt yX9_makeBetter cX9_makeBetter 6 none) ({ frames := 6, cells := KCC - qn S, slots := KSC - qu S, locals := 145 })).room s m ([.ref (ad 66), .ref (ad p1), .int x2] : List Value).toArray below meth c H locs dc72 ds72 (MQ below (va_Qv (fun (u : MS × (Nat → Nat)) => Q u.1 ∧ wfC u.1 ∧ shx S u.1 ∧ adk ad u.2 S) (fun (u : MS × (Nat → Nat)) (t : State) => qEHC g A S s.heap u t) A) ([.ref (ad 66), .ref (ad p1), .int x2] : List Value).toArray s (KCC - qn S) (KSC - qu S) A) (F0 m 72 ls [.int t72_0, .int t72_1]) := by
                    intro ad72 dc72 ds72 U72 t72_0 t72_1 v72_2 v72_4 v72_5 H locs ls h hz_t72_0 hsh hlg hak hE hR hl
                    unfold w_X9_makeBetter_J72 at h
                    replace h := h hR.w hz_t72_0
                    refine lv_ior hx hb dX9_makeBetter_72 ?_
                    refine lv_topi (fun z18 ez18 => ?_)
                    obtain rfl : z18 = (t72_1 ||| t72_0) := ez18
                    obtain ⟨a19, ea19⟩ : ∃ z, z = (t72_1 ||| t72_0) := ⟨_, rfl⟩
                    rw [← ea19]
                    replace h := h a19 ea19
                    refine lv_istore_n (lv' := [(3, .int a19), (0, .ref (ad72 66)), (2, .int v72_2), (4, .int v72_4), (5, .int v72_5)]) hx hb dX9_makeBetter_73 rfl hl (by decide) rfl (fun ls hl => ?_)
                    exact J_74 ad72 (dc72) (ds72) U72 v72_2 a19 v72_4 v72_5 _ _ ls h  hsh hlg hak hE hR (lv_sub hl [1, 2, 0, 3, 4] rfl)
                  refine lv_icmp_ne (tgt := 66) hx hb dX9_makeBetter_56 (by decide) (fun c20 => ?_) (fun c20 => ?_)
                  · replace h := h.2 (k_ne rfl (by decide) c20)
                    refine lv_aload_n hx hb dX9_makeBetter_66 rfl (lv_at hl 0 rfl) ?_
                    refine lv_iload hx hb dX9_makeBetter_67 (lv_at hl 4 rfl) ?_
                    obtain ⟨Q21, h0, h⟩ := h
                    have hFc := cfree hR hA
                    refine va_calli (va_runV (As := [.int v34_5]) (rest := [.int v34_3]) ⟨hx, hb, hml, hown, hts⟩ (rX9_goThrough l g ad34 H.size U34 v34_5 hR.w  Q21 h0) (cwV 1 hts (gd_V kw_1683 kw_1582 kw_1583 kw_404 kw_1581) rfl rfl rfl (by decide +kernel) ⟨Nat.le_of_ble_eq_true rfl, Nat.le_of_ble_eq_true rfl⟩) ⟨cblind, va_recv hR.K hR.P (ci := 8) (q0 := 66) rfl (hR.at48 (hR.w.2.1 _ finC_31).2.1), fun U hU hW9 => cmk hU hW9 hR hex hE hFc⟩ rfl rfl hl.1 rfl (lv_room (Nat.le_of_ble_eq_true rfl)) dX9_makeBetter_69 ⟨(show dc34 + 0 ≤ KCC - qn S from hlg.c), (show ds34 + 0 ≤ KSC - qu S from hlg.s)⟩) hR.sS (fun q _ h => hFc q h) hFc (fun r22 S23 t9 H1 locs ht9 hvm9 hw9 hB9 hz9 hk9 hS => ?_)
                    obtain ⟨hq24, hw9, hs9, hz_r22⟩ := hw9
                    have hR : RepC g ad34 A s S23 H1 locs := hR.call ht9 hB9 hw9 hS hFc
                    have hsh := hsh.tr hs9.1
                    have hlg : lgC S S23 (dc34) (ds34) := hlg.same hs9
                    replace h := h r22 S23 hq24 hw9 hs9
                    clear hB9 hz9 hk9 hvm9 ht9 hw9 hs9 hS
                    generalize H1 = H at hR ⊢
                    exact J_72 ad34 (dc34) (ds34) S23 r22 v34_3 v34_2 v34_4 v34_5 _ _ ls h hz_r22 hsh hlg hak hE hR (lv_sub hl [0, 1, 3, 4] rfl)
                  · replace h := h.1 (k_eq rfl (by decide) c20)
                    refine lv_aload_n hx hb dX9_makeBetter_59 rfl (lv_at hl 0 rfl) ?_
                    obtain ⟨Q25, h0, h⟩ := h
                    have hFc := cfree hR hA
                    refine va_calli (va_runV (As := []) (rest := [.int v34_3]) ⟨hx, hb, hml, hown, hts⟩ (rX9_dropUnreached l g ad34 H.size U34 hR.w  Q25 h0) (cwV 0 hts (gd_V kw_1682 kw_1549 kw_1550 kw_404 kw_1548) rfl rfl rfl (by decide +kernel) ⟨Nat.le_of_ble_eq_true rfl, Nat.le_of_ble_eq_true rfl⟩) ⟨cblind, va_recv hR.K hR.P (ci := 8) (q0 := 66) rfl (hR.at48 (hR.w.2.1 _ finC_31).2.1), fun U hU hW9 => cmk hU hW9 hR hex hE hFc⟩ rfl rfl hl.1 rfl (lv_room (Nat.le_of_ble_eq_true rfl)) dX9_makeBetter_60 ⟨(show dc34 + 0 ≤ KCC - qn S from hlg.c), (show ds34 + 0 ≤ KSC - qu S from hlg.s)⟩) hR.sS (fun q _ h => hFc q h) hFc (fun r26 S27 t9 H1 locs ht9 hvm9 hw9 hB9 hz9 hk9 hS => ?_)
                    obtain ⟨hq28, hw9, hs9, hz_r26⟩ := hw9
                    have hR : RepC g ad34 A s S27 H1 locs := hR.call ht9 hB9 hw9 hS hFc
                    have hsh := hsh.tr hs9.1
                    have hlg : lgC S S27 (dc34) (ds34) := hlg.same hs9
                    replace h := h r26 S27 hq28 hw9 hs9
                    clear hB9 hz9 hk9 hvm9 ht9 hw9 hs9 hS
                    generalize H1 = H at hR ⊢
                    refine lv_goto (tgt := 72) hx hb dX9_makeBetter_63 (by decide) ?_
                    exact J_72 ad34 (dc34) (ds34) S27 r26 v34_3 v34_2 v34_4 v34_5 _ _ ls h hz_r26 hsh hlg hak hE hR (lv_sub hl [0, 1, 3, 4] rfl)
          obtain ⟨n9, h⟩ := h
          exact J_34 n9 ad18 (dc18) (ds18) U18 v18_2 0 v18_4 1 _ _ ls h  hsh hlg hak hE hR (lv_sub hl [2, 3, 1, 4, 0] rfl)
  obtain ⟨n9, h⟩ := h
  exact J_18 n9 ak4 (0 + dc_ak4) (0 + ds_ak4) S7 x2 1 0 _ _ ls h  hsh hlg hak hE hR (lv_sub hl [2, 4, 1, 0] rfl)
def w_X12_improve_L73 (Q : Int32 → MS → Prop) : Nat → MS → Int32 → Nat → Int32 → Prop
  | 0, _, _, _, _ => False
  | n73 + 1, U73, v73_2, v73_3, v73_4 => (wfC U73 → qT U73 v73_3 = 49 → (((qI U73 v73_3 8).toInt ≤ v73_4.toInt → (d_X11_fits U73 ∧ (((fX11_fits U73).toInt = 0 → Q (-3 : Int32) U73) ∧ (¬ (fX11_fits U73).toInt = 0 → (qT U73 5 = 40 → (∃ Q25, wX11_finish U73 5 Q25 ∧ ∀ S26, Q25 S26 → wfC S26 → shx U73 S26 → (qT S26 5 = 40 → (∃ Q29, wX2_unitOf S26 5 Q29 ∧ ∀ b34 S31, Q29 b34 S31 → wfC S31 → shx S26 S31 → (∀ z, b34 = some z → qT S31 z = 49) → (∃ Q35, wX12_keep S31 b34 (-3 : Int32) Q35 ∧ ∀ r36 S37, Q35 r36 S37 → wfC S37 → shy S31 S37 → Q r36 S37))))))))) ∧ (¬ (qI U73 v73_3 8).toInt ≤ v73_4.toInt → (qT U73 v73_3 = 49 → (∃ Q39, wX10_rowAt U73 v73_3 v73_4 Q39 ∧ ∀ b43 S41, Q39 b43 S41 → wfC S41 → shy U73 S41 → (∀ z, b43 = some z → qT S41 z = 47) → ((b43 = none → False) ∧ (¬ b43 = none → (qT S41 ((b43).getD 0) = 47 → (∃ Q45, wX9_makeBetter S41 ((b43).getD 0) v73_2 Q45 ∧ ∀ S46, Q45 S46 → wfC S46 → shx S41 S46 → (∃ Q50, wX11_addMethod S46 (some (qO S46 66 0)) Q50 ∧ ∀ S51, Q50 S51 → wfC S51 → shx S46 S51 → (∀ a54 : Int32, a54 = (v73_4 + Int32.ofInt 1) → (w_X12_improve_L73 Q n73) S51 v73_2 v73_3 a54)))))))))))
def wX12_improve (S : MS) (x1 : Int32) (x2 : Int32) (Q : Int32 → MS → Prop) : Prop := (∃ Q1, wX9_forgetApplied S Q1 ∧ ∀ S2, Q1 S2 → wfC S2 → shy S S2 → (∃ Q4, wX12_soundUnitAt S2 x1 Q4 ∧ ∀ b8 S6, Q4 b8 S6 → wfC S6 → shy S2 S6 → (∀ z, b8 = some z → qT S6 z = 49) → ((b8 = none → Q (-1 : Int32) S6) ∧ (¬ b8 = none → ((x2.toInt < 0 → Q (-1 : Int32) S6) ∧ (¬ x2.toInt < 0 → ((x2.toInt ≤ 2047 → ((12 ≤ (qI S6 0 11).toInt → Q (-2 : Int32) S6) ∧ (¬ 12 ≤ (qI S6 0 11).toInt → (((qI S6 0 12).toInt < 16 → (∀ S15, S15 = wI S6 0 12 ((qI S6 0 12) + (1 : Int32)) → qT S6 0 = 51 → wfC S15 → (qT S15 ((b8).getD 0) = 49 → (∃ Q16, wX11_begin S15 ((b8).getD 0) (0 : Int32) Q16 ∧ ∀ S17, Q16 S17 → wfC S17 → shx S15 S17 → (∃ n, w_X12_improve_L73 Q n S17 x2 ((b8).getD 0) 0))))) ∧ (¬ (qI S6 0 12).toInt < 16 → Q (-2 : Int32) S6))))) ∧ (¬ x2.toInt ≤ 2047 → Q (-1 : Int32) S6))))))))
set_option maxHeartbeats 2000000 in
set_option maxRecDepth 100000 in
theorem rX12_improve (l : Launch) (g : Gr) (ad : Nat → Nat) (H0 : Heap) (S : MS) (x1 : Int32) (x2 : Int32) (hw : wfC S) (Q : Int32 → MS → Prop) (h : wX12_improve S x1 x2 Q) : Met l yX12_improve (wt yX12_improve cX12_improve 5 (some .int)) ({ frames := 9, cells := KCC - qn S, slots := KSC - qu S, locals := 222 }) (va_Pc [.ref (ad 0), .int x1, .int x2] (st_CH g ad H0 S)) (va_Qi (fun (r : Int32) (u : MS × (Nat → Nat)) => Q r u.1 ∧ wfC u.1 ∧ shx S u.1 ∧ adk ad u.2 S) (fun (u : MS × (Nat → Nat)) (t : State) => qEHC g (va_A (WdC g ad S) H0.size) S H0 u t) (va_A (WdC g ad S) H0.size)) (KCC - qn S) (KSC - qu S) (va_A (WdC g ad S) H0.size) := by
  refine Met.ofW (cc := cX12_improve) (maxL := 5) (ret := (some .int)) (by decide) rfl ?_
  intro p e s m args below meth c s₁ B hml hv
  obtain ⟨rfl, hH0, hsz, hP, hK, hD0, hex, hE⟩ := hv
  have hx := B.exec
  have hb := B.bytes
  have hr := B.returns
  have hts0 := atoms_spec (ws := wt yX12_improve cX12_improve 5 (some .int)) B.pre
  have hts : ∀ w ∈ tb, w.before _ s = true := fun w h => hts0 w (List.mem_cons_of_mem _ h)
  have hown : s.vm.findClass RX12 = some m.cls := findClass_of_methodNamed B.named
  subst hH0
  have hD := hD0.self (sz := s.heap.size)
  generalize hAe : va_A (WdC g ad S) s.heap.size = A at hD hE ⊢
  have hA : ∀ q : Nat, s.heap.size ≤ q → A q := fun q h => by rw [← hAe]; exact Or.inr h
  have hR : RepC g ad A s S s.heap [] := ⟨hK, hP, hD, va_S.rf, hw⟩
  clear hK hP hD hD0
  have hl := lv_entry ([.ref (ad 0), .int x1, .int x2]) (n := 5) (Nat.le_of_ble_eq_true rfl)
  rw [lg_entry_eq]
  generalize (lg_sl ([.ref (ad 0), .int x1, .int x2]) ++ List.replicate (5 - (lg_sl ([.ref (ad 0), .int x1, .int x2])).length) Slot.unset).toArray = ls at hl ⊢
  have hlg : lgC S S 0 0 := lgC.rf
  have hak : adk ad ad S := adk.rf
  have hl : lv_has ls 5 [(0, .ref (ad 0)), (1, .int x1), (2, .int x2)] := hl
  have hsh : shx S S := shx.rf
  unfold wX12_improve at h
  refine lv_aload_n hx hb dX12_improve_0 rfl (lv_at hl 0 rfl) ?_
  refine va_get (D := rD g) (ci := 11) (v := .ref (ad 66)) (C := RX12) (T := TX12) (N := 18) hx hb hts inX12 hown hR.K hR.P 0 (hR.at51 hR.w.1) rfl 9 (by decide) (hts _ kw_281) (fun _ h9 => h9) (congrArg (fun z => some (vf ad z)) (hR.w.2.1 _ finC_31).1) dX12_improve_1 ?_
  obtain ⟨Q1, h0, h⟩ := h
  have hFc := cfree hR hA
  refine va_callv (va_runV (As := []) (rest := []) ⟨hx, hb, hml, hown, hts⟩ (rX9_forgetApplied l g ad s.heap.size S hR.w  Q1 h0) (cwV 0 hts (gd_V kw_379 kw_1579 kw_1580 kw_404 kw_1578) rfl rfl rfl (by decide +kernel) ⟨Nat.le_of_ble_eq_true rfl, Nat.le_of_ble_eq_true rfl⟩) ⟨cblind, va_recv hR.K hR.P (ci := 8) (q0 := 66) rfl (hR.at48 (hR.w.2.1 _ finC_31).2.1), fun U hU hW9 => cmk hU hW9 hR hex hE hFc⟩ rfl rfl hl.1 rfl (lv_room (Nat.le_of_ble_eq_true rfl)) dX12_improve_4 ⟨(show 0 + 0 ≤ KCC - qn S from hlg.c), (show 0 + 0 ≤ KSC - qu S from hlg.s)⟩) hR.sS (fun q _ h => hFc q h) hFc (fun  S2 t9 H1 locs ht9 hvm9 hw9 hB9 hz9 hk9 hS => ?_)
  obtain ⟨hq3, hw9, hs9⟩ := hw9
  have hR : RepC g ad A s S2 H1 locs := hR.call ht9 hB9 hw9 hS hFc
  have hsh := hsh.tr hs9.1
  have hlg : lgC S S2 (0) (0) := hlg.same hs9
  replace h := h  S2 hq3 hw9 hs9
  clear hB9 hz9 hk9 hvm9 ht9 hw9 hs9 hS
  generalize H1 = H at hR ⊢
  refine lv_aload_n hx hb dX12_improve_7 rfl (lv_at hl 0 rfl) ?_
  refine lv_iload_n hx hb dX12_improve_8 rfl (lv_at hl 1 rfl) ?_
  obtain ⟨Q4, h0, h⟩ := h
  have hFc := cfree hR hA
  refine va_callq (va_runV (As := [.int x1]) (rest := []) ⟨hx, hb, hml, hown, hts⟩ (rX12_soundUnitAt l g ad H.size S2 x1 hR.w  Q4 h0) (cwV 1 hts (gd_V kw_316 kw_447 kw_448 kw_280 kw_446) rfl rfl rfl (by decide +kernel) ⟨Nat.le_of_ble_eq_true rfl, Nat.le_of_ble_eq_true rfl⟩) ⟨cblind, va_recv hR.K hR.P (ci := 11) (q0 := 0) rfl (hR.at51 hR.w.1), fun U hU hW9 => cmk hU hW9 hR hex hE hFc⟩ rfl rfl hl.1 rfl (lv_room (Nat.le_of_ble_eq_true rfl)) dX12_improve_9 ⟨(show 0 + 0 ≤ KCC - qn S from hlg.c), (show 0 + 0 ≤ KSC - qu S from hlg.s)⟩) hR.sS (fun q _ h => hFc q h) hFc (fun r5 S6 t9 H1 locs ht9 hvm9 hw9 hB9 hz9 hk9 hS => ?_)
  obtain ⟨b8, rfl, hq7, hw9, hs9, hO_b8⟩ := hw9
  have hR : RepC g ad A s S6 H1 locs := hR.call ht9 hB9 hw9 hS hFc
  have hsh := hsh.tr hs9.1
  have hlg : lgC S S6 (0) (0) := hlg.same hs9
  replace h := h b8 S6 hq7 hw9 hs9 hO_b8
  clear hB9 hz9 hk9 hvm9 ht9 hw9 hs9 hS
  generalize H1 = H at hR ⊢
  rcases hq_b9 : b8 with _ | b9
  · skip
    replace h := h.1 (hq_b9)
    refine lv_astore_nN (lv' := [(3, .null), (0, .ref (ad 0)), (1, .int x1), (2, .int x2)]) hx hb dX12_improve_12 rfl hl (by decide) rfl (fun ls hl => ?_)
    refine lv_aload_nN hx hb dX12_improve_13 rfl (lv_at hl 0 rfl) ?_
    refine lv_ifnullN (tgt := 28) hx hb dX12_improve_14 (by decide) ?_
    refine lv_iconst (v := (-1)) hx hb dX12_improve_28 (by decide) ?_
    refine W_led2 (fun hLd => ?_)
    refine W.widen (k := KCC - qn S) (n := KSC - qu S) hlg.c hlg.s ?_
    exact W.iret (v := (-1)) hx hb hr (fun t9 ht9 hW9 => ⟨⟨_, (S6, ad), rfl, ⟨h, hR.w, hsh, hak⟩, ⟨⟨by rw [ht9]; exact hR.P, hR.D⟩, _, _, by rw [ht9]; exact hLd, hlg⟩⟩, hR.sS.F ht9⟩) hR.sS.2.2 dX12_improve_29
  · have hg_b9 : b9 = (b8).getD 0 := by rw [hq_b9]; rfl
    have hT_b9 : qT S6 ((b8).getD 0) = 49 := hg_b9 ▸ hO_b8 _ hq_b9
    subst hg_b9
    replace h := h.2 (fun q9 => Option.some_ne_none _ (hq_b9.symm.trans q9))
    refine lv_astore_n (lv' := [(3, .ref (ad ((b8).getD 0))), (0, .ref (ad 0)), (1, .int x1), (2, .int x2)]) hx hb dX12_improve_12 rfl hl (by decide) rfl (fun ls hl => ?_)
    refine lv_aload_n hx hb dX12_improve_13 rfl (lv_at hl 0 rfl) ?_
    refine lv_ifnull hx hb dX12_improve_14 ?_
    refine lv_iload_n hx hb dX12_improve_17 rfl (lv_at hl 3 rfl) ?_
    refine lv_if_lt (tgt := 28) hx hb dX12_improve_18 (by decide) (fun c10 => ?_) (fun c10 => ?_)
    · replace h := h.1 (k_lt rfl (by decide) c10)
      refine lv_iconst (v := (-1)) hx hb dX12_improve_28 (by decide) ?_
      refine W_led2 (fun hLd => ?_)
      refine W.widen (k := KCC - qn S) (n := KSC - qu S) hlg.c hlg.s ?_
      exact W.iret (v := (-1)) hx hb hr (fun t9 ht9 hW9 => ⟨⟨_, (S6, ad), rfl, ⟨h, hR.w, hsh, hak⟩, ⟨⟨by rw [ht9]; exact hR.P, hR.D⟩, _, _, by rw [ht9]; exact hLd, hlg⟩⟩, hR.sS.F ht9⟩) hR.sS.2.2 dX12_improve_29
    · replace h := h.2 (k_nlt rfl (by decide) c10)
      refine lv_iload_n hx hb dX12_improve_21 rfl (lv_at hl 3 rfl) ?_
      refine lv_sipush (v := 2047) hx hb dX12_improve_22 (by decide) ?_
      refine lv_icmp_le (tgt := 30) hx hb dX12_improve_25 (by decide) (fun c11 => ?_) (fun c11 => ?_)
      · replace h := h.1 (k_le rfl (by decide) c11)
        refine lv_aload_n hx hb dX12_improve_30 rfl (lv_at hl 1 rfl) ?_
        refine va_get (D := rD g) (ci := 11) (v := .int (qI S6 0 11)) (C := RX12) (T := TX12) (N := 18) hx hb hts inX12 hown hR.K hR.P 0 (hR.at51 hR.w.1) rfl 11 (by decide) (hts _ kw_317) (fun _ h9 => h9) rfl dX12_improve_31 ?_
        refine lv_bipush (v := 12) hx hb dX12_improve_34 (by decide) ?_
        refine lv_icmp_ge (tgt := 48) hx hb dX12_improve_36 (by decide) (fun c12 => ?_) (fun c12 => ?_)
        · replace h := h.1 (k_le (by decide) rfl c12)
          refine lv_bipush (v := (-2)) hx hb dX12_improve_48 (by decide) ?_
          refine W_led2 (fun hLd => ?_)
          refine W.widen (k := KCC - qn S) (n := KSC - qu S) hlg.c hlg.s ?_
          exact W.iret (v := (-2)) hx hb hr (fun t9 ht9 hW9 => ⟨⟨_, (S6, ad), rfl, ⟨h, hR.w, hsh, hak⟩, ⟨⟨by rw [ht9]; exact hR.P, hR.D⟩, _, _, by rw [ht9]; exact hLd, hlg⟩⟩, hR.sS.F ht9⟩) hR.sS.2.2 dX12_improve_50
        · replace h := h.2 (k_nle (by decide) rfl c12)
          refine lv_aload_n hx hb dX12_improve_39 rfl (lv_at hl 1 rfl) ?_
          refine va_get (D := rD g) (ci := 11) (v := .int (qI S6 0 12)) (C := RX12) (T := TX12) (N := 18) hx hb hts inX12 hown hR.K hR.P 0 (hR.at51 hR.w.1) rfl 12 (by decide) (hts _ kw_318) (fun _ h9 => h9) rfl dX12_improve_40 ?_
          refine lv_bipush (v := 16) hx hb dX12_improve_43 (by decide) ?_
          refine lv_icmp_lt (tgt := 51) hx hb dX12_improve_45 (by decide) (fun c13 => ?_) (fun c13 => ?_)
          · replace h := h.1 (k_lt rfl (by decide) c13)
            refine lv_aload_n hx hb dX12_improve_51 rfl (lv_at hl 1 rfl) ?_
            refine lv_dup hx hb dX12_improve_52 rfl ?_
            refine va_get (D := rD g) (ci := 11) (v := .int (qI S6 0 12)) (C := RX12) (T := TX12) (N := 18) hx hb hts inX12 hown hR.K hR.P 0 (hR.at51 hR.w.1) rfl 12 (by decide) (hts _ kw_318) (fun _ h9 => h9) rfl dX12_improve_53 ?_
            refine lv_iconst (v := 1) hx hb dX12_improve_56 (by decide) ?_
            refine lv_iadd hx hb dX12_improve_57 ?_
            refine lv_topi (fun z14 ez14 => ?_)
            obtain rfl : z14 = ((qI S6 0 12) + (1 : Int32)) := ez14
            refine va_put (D := rD g) (ci := 11) (v := .int ((qI S6 0 12) + (1 : Int32))) (ty := .int) (C := RX12) (T := TX12) (N := 18) hx hb hts inX12 tyX12 tyX12_ok nmX12 hown hR.K hR.P hR.D hR.sS 0 (hR.at51 hR.w.1) rfl 12 (by decide) (hts _ kw_318) (fun _ h9 => h9) rfl (by decide +kernel) rfl rfl (Nat.le_of_ble_eq_true rfl) dX12_improve_58 (fun H locs hP hD hS => ?_)
            have hTk9 : qT S6 0 = 51 := hR.w.1
            have hR : RepC g ad A s (wI S6 0 12 ((qI S6 0 12) + (1 : Int32))) H locs := hR.pI51 hR.w.1 FX12_s12 (fun q9 => absurd q9 (by decide)) hP hD hS
            obtain ⟨S15, eS15⟩ : ∃ z, z = wI S6 0 12 ((qI S6 0 12) + (1 : Int32)) := ⟨_, rfl⟩
            rw [← eS15] at hR
            replace h := h S15 eS15 hTk9 hR.w
            have hT_b9 : qT S15 ((b8).getD 0) = 49 := (congrArg (fun z => qT z ((b8).getD 0)) eS15).trans hT_b9
            have hsh : shx S S15 := by rw [eS15]; exact hsh
            have hlg : lgC S S15 (0) (0) := by rw [eS15]; exact hlg
            refine lv_aload_n hx hb dX12_improve_61 rfl (lv_at hl 1 rfl) ?_
            refine va_get (D := rD g) (ci := 11) (v := .ref (ad 25)) (C := RX12) (T := TX12) (N := 18) hx hb hts inX12 hown hR.K hR.P 0 (hR.at51 hR.w.1) rfl 6 (by decide) (hts _ kw_321) (fun _ h9 => h9) (congrArg (fun z => some (vf ad z)) (hR.w.2.1 _ finC_28).1) dX12_improve_62 ?_
            refine lv_aload_n hx hb dX12_improve_65 rfl (lv_at hl 0 rfl) ?_
            refine lv_iconst (v := 0) hx hb dX12_improve_66 (by decide) ?_
            replace h := h (hT_b9)
            obtain ⟨Q16, h0, h⟩ := h
            have hFc := cfree hR hA
            refine W_led2 (fun hL0 => ?_)
            refine va_callv (va_runV (As := [.ref (ad ((b8).getD 0)), .int 0]) (rest := []) ⟨hx, hb, hml, hown, hts⟩ (rX11_begin l g ad H S15 ((b8).getD 0) (0 : Int32) hR.w hT_b9 Q16 h0) (cwV 2 hts (gd_V kw_322 kw_111 kw_112 kw_83 kw_110) rfl rfl rfl (by decide +kernel) ⟨Nat.le_of_ble_eq_true rfl, Nat.le_of_ble_eq_true rfl⟩) ⟨cblindH, va_recv hR.K hR.P (ci := 10) (q0 := 25) rfl (hR.at50 (hR.w.2.1 _ finC_28).2.1), fun U hU hW9 => cmkH hU hW9 hR hex hE hFc⟩ rfl rfl hl.1 rfl (lv_room (Nat.le_of_ble_eq_true rfl)) dX12_improve_67 ⟨(show 0 + (KCC - qn S15) ≤ KCC - qn S from hlg.cm), (show 0 + (KSC - qu S15) ≤ KSC - qu S from hlg.sm)⟩) hR.sS (fun q _ h => hFc q h) hFc (fun  S17 t9 H1 locs ht9 hvm9 hw9 hB9 hz9 hk9 hS => ?_)
            rcases S17 with ⟨S17, ak19⟩
            obtain ⟨hB9, dc9, ds9, hL9, hl9⟩ := hB9
            dsimp only at hw9 hB9 hl9
            rw [ht9] at hL9
            obtain ⟨hq18, hw9, hs9, hk8⟩ := hw9
            have hw8 := hR.w
            have hak := hak.tr hk8 hlg.2.2.1
            have hE := hE.ad hk8
            have hR : RepC g ak19 A s S17 H1 locs := hR.callH ht9 hB9 hw9 hS hFc
            have hsh := hsh.tr hs9
            refine W_tight2 (hL0.tr hL9).1 (hL0.tr hL9).2.1 ?_
            have hlg := hlg.call hl9
            replace h := h  S17 hq18 hw9 hs9
            have ea_0 : ak19 ((b8).getD 0) = ad ((b8).getD 0) := hk8 _ (hw8.hd hT_b9 (by decide) (by decide))
            have ea_1 : ak19 0 = ad 0 := hk8 _ (hw8.hd hw8.1 (by decide) (by decide))
            have hl : lv_has ls 5 [(3, .ref (ak19 ((b8).getD 0))), (0, .ref (ak19 0)), (1, .int x1), (2, .int x2)] := by simp only [ea_0, ea_1]; exact hl
            have hT_b9 := hs9.T hT_b9 (by decide)
            clear hB9 hz9 hk9 hvm9 ht9 hw9 hs9 hS hL0 hL9
            generalize H1 = H at hR ⊢
            generalize dc9 = dc_ak19, ds9 = ds_ak19 at hlg ⊢
            refine lv_iconst (v := 0) hx hb dX12_improve_70 (by decide) ?_
            refine lv_istore (lv' := [(4, .int 0), (3, .ref (ak19 ((b8).getD 0))), (0, .ref (ak19 0)), (1, .int x1), (2, .int x2)]) hx hb dX12_improve_71 hl (by decide) rfl (fun ls hl => ?_)
            have J_73 : ∀ (n73 : Nat) (ad73 : Nat → Nat) (dc73 ds73 : Nat) (U73 : MS) (v73_2 : Int32) (v73_3 : Nat) (v73_4 : Int32) (H : Heap) (locs : List Loc) (ls : Array Slot), w_X12_improve_L73 Q n73 U73 v73_2 v73_3 v73_4 → qT U73 v73_3 = 49 → shx S U73 → lgC S U73 dc73 ds73 → adk ad ad73 S → ogC ad73 A s s.heap → RepC g ad73 A s U73 H locs → lv_has ls 5 [(0, .ref (ad73 0)), (2, .int v73_2), (3, .ref (ad73 v73_3)), (4, .int v73_4)] → W p l e (headSpec (wt yX12_improve cX12_improve 5 (some .int)) ({ frames := 9, cells := KCC - qn S, slots := KSC - qu S, locals := 222 })).room s m ([.ref (ad 0), .int x1, .int x2] : List Value).toArray below meth c H locs dc73 ds73 (MQ below (va_Qi (fun (r : Int32) (u : MS × (Nat → Nat)) => Q r u.1 ∧ wfC u.1 ∧ shx S u.1 ∧ adk ad u.2 S) (fun (u : MS × (Nat → Nat)) (t : State) => qEHC g A S s.heap u t) A) ([.ref (ad 0), .int x1, .int x2] : List Value).toArray s (KCC - qn S) (KSC - qu S) A) (F0 m 73 ls []) := by
              intro n73
              induction n73 with
              | zero => intro ad73 dc73 ds73 U73 v73_2 v73_3 v73_4 H locs ls h hT_v73_3 hsh hlg hak hE hR hl; unfold w_X12_improve_L73 at h; exact h.elim
              | succ n73 ih_73 =>
                intro ad73 dc73 ds73 U73 v73_2 v73_3 v73_4 H locs ls h hT_v73_3 hsh hlg hak hE hR hl
                unfold w_X12_improve_L73 at h
                replace h := h hR.w hT_v73_3
                refine lv_iload hx hb dX12_improve_73 (lv_at hl 3 rfl) ?_
                refine lv_aload_n hx hb dX12_improve_75 rfl (lv_at hl 2 rfl) ?_
                refine va_get (D := rD g) (ci := 9) (v := .int (qI U73 v73_3 8)) (C := RX10) (T := TX10) (N := 18) hx hb hts inX10 hown hR.K hR.P v73_3 (hR.at49 hT_v73_3) rfl 8 (by decide) (hts _ kw_323) (fun _ h9 => h9) rfl dX12_improve_76 ?_
                refine lv_icmp_ge (tgt := 116) hx hb dX12_improve_79 (by decide) (fun c20 => ?_) (fun c20 => ?_)
                · replace h := h.1 (k_le rfl rfl c20)
                  refine lv_aload_n hx hb dX12_improve_116 rfl (lv_at hl 0 rfl) ?_
                  refine va_get (D := rD g) (ci := 11) (v := .ref (ad73 25)) (C := RX12) (T := TX12) (N := 18) hx hb hts inX12 hown hR.K hR.P 0 (hR.at51 hR.w.1) rfl 6 (by decide) (hts _ kw_321) (fun _ h9 => h9) (congrArg (fun z => some (vf ad73 z)) (hR.w.2.1 _ finC_28).1) dX12_improve_117 ?_
                  obtain ⟨hv21, h⟩ := h
                  have hFc := cfree hR hA
                  refine va_calli (va_runV (As := []) (rest := []) ⟨hx, hb, hml, hown, hts⟩ (rX11_fits l g ad73 H.size U73 hR.w  hv21) (cwV 0 hts (gd_V kw_329 kw_158 kw_159 kw_83 kw_157) rfl rfl rfl (by decide +kernel) ⟨Nat.le_of_ble_eq_true rfl, Nat.le_of_ble_eq_true rfl⟩) ⟨cblind, va_recv hR.K hR.P (ci := 10) (q0 := 25) rfl (hR.at50 (hR.w.2.1 _ finC_28).2.1), fun U hU hW9 => cmk hU hW9 hR hex hE hFc⟩ rfl rfl hl.1 rfl (lv_room (Nat.le_of_ble_eq_true rfl)) dX12_improve_120 ⟨(show dc73 + 0 ≤ KCC - qn S from hlg.c), (show ds73 + 0 ≤ KSC - qu S from hlg.s)⟩) hR.sS (fun q _ h => hFc q h) hFc (fun r22 u9 t9 H1 locs ht9 hvm9 hw9 hB9 hz9 hk9 hS => ?_)
                  have hR : RepC g ad73 A s U73 H1 locs := hR.call ht9 hB9 hR.w hS hFc
                  obtain ⟨rfl, hz_r22⟩ := hw9
                  clear hB9 hz9 hk9 hvm9 ht9 hS
                  generalize H1 = H at hR ⊢
                  refine lv_if_ne (tgt := 129) hx hb dX12_improve_123 (by decide) (fun c24 => ?_) (fun c24 => ?_)
                  · replace h := h.2 (k_ne rfl (by decide) c24)
                    refine lv_aload_n hx hb dX12_improve_129 rfl (lv_at hl 0 rfl) ?_
                    refine va_get (D := rD g) (ci := 11) (v := .ref (ad73 25)) (C := RX12) (T := TX12) (N := 18) hx hb hts inX12 hown hR.K hR.P 0 (hR.at51 hR.w.1) rfl 6 (by decide) (hts _ kw_321) (fun _ h9 => h9) (congrArg (fun z => some (vf ad73 z)) (hR.w.2.1 _ finC_28).1) dX12_improve_130 ?_
                    refine lv_aload_n hx hb dX12_improve_133 rfl (lv_at hl 0 rfl) ?_
                    refine va_get (D := rD g) (ci := 11) (v := .ref (ad73 5)) (C := RX12) (T := TX12) (N := 18) hx hb hts inX12 hown hR.K hR.P 0 (hR.at51 hR.w.1) rfl 2 (by decide) (hts _ kw_330) (fun _ h9 => h9) (congrArg (fun z => some (vf ad73 z)) (hR.w.2.1 _ finC_24).1) dX12_improve_134 ?_
                    replace h := h ((hR.w.2.1 _ finC_24).2.1)
                    obtain ⟨Q25, h0, h⟩ := h
                    have hFc := cfree hR hA
                    refine W_led2 (fun hL0 => ?_)
                    refine va_callv (va_runV (As := [.ref (ad73 5)]) (rest := []) ⟨hx, hb, hml, hown, hts⟩ (rX11_finish l g ad73 H U73 5 hR.w (hR.w.2.1 _ finC_24).2.1 Q25 h0) (cwV 1 hts (gd_V kw_331 kw_155 kw_156 kw_83 kw_154) rfl rfl rfl (by decide +kernel) ⟨Nat.le_of_ble_eq_true rfl, Nat.le_of_ble_eq_true rfl⟩) ⟨cblindH, va_recv hR.K hR.P (ci := 10) (q0 := 25) rfl (hR.at50 (hR.w.2.1 _ finC_28).2.1), fun U hU hW9 => cmkH hU hW9 hR hex hE hFc⟩ rfl rfl hl.1 rfl (lv_room (Nat.le_of_ble_eq_true rfl)) dX12_improve_137 ⟨(show dc73 + (KCC - qn U73) ≤ KCC - qn S from hlg.cm), (show ds73 + (KSC - qu U73) ≤ KSC - qu S from hlg.sm)⟩) hR.sS (fun q _ h => hFc q h) hFc (fun  S26 t9 H1 locs ht9 hvm9 hw9 hB9 hz9 hk9 hS => ?_)
                    rcases S26 with ⟨S26, ak28⟩
                    obtain ⟨hB9, dc9, ds9, hL9, hl9⟩ := hB9
                    dsimp only at hw9 hB9 hl9
                    rw [ht9] at hL9
                    obtain ⟨hq27, hw9, hs9, hk8⟩ := hw9
                    have hw8 := hR.w
                    have hak := hak.tr hk8 hlg.2.2.1
                    have hE := hE.ad hk8
                    have hR : RepC g ak28 A s S26 H1 locs := hR.callH ht9 hB9 hw9 hS hFc
                    have hsh := hsh.tr hs9
                    refine W_tight2 (hL0.tr hL9).1 (hL0.tr hL9).2.1 ?_
                    have hlg := hlg.call hl9
                    replace h := h  S26 hq27 hw9 hs9
                    have ea_0 : ak28 0 = ad73 0 := hk8 _ (hw8.hd hw8.1 (by decide) (by decide))
                    have ea_1 : ak28 v73_3 = ad73 v73_3 := hk8 _ (hw8.hd hT_v73_3 (by decide) (by decide))
                    have hl : lv_has ls 5 [(0, .ref (ak28 0)), (2, .int v73_2), (3, .ref (ak28 v73_3)), (4, .int v73_4)] := by simp only [ea_0, ea_1]; exact hl
                    have hT_v73_3 := hs9.T hT_v73_3 (by decide)
                    clear hB9 hz9 hk9 hvm9 ht9 hw9 hs9 hS hL0 hL9
                    generalize H1 = H at hR ⊢
                    generalize dc9 = dc_ak28, ds9 = ds_ak28 at hlg ⊢
                    refine lv_aload_n hx hb dX12_improve_140 rfl (lv_at hl 0 rfl) ?_
                    refine lv_aload_n hx hb dX12_improve_141 rfl (lv_at hl 0 rfl) ?_
                    refine va_get (D := rD g) (ci := 11) (v := .ref (ak28 8)) (C := RX12) (T := TX12) (N := 18) hx hb hts inX12 hown hR.K hR.P 0 (hR.at51 hR.w.1) rfl 4 (by decide) (hts _ kw_332) (fun _ h9 => h9) (congrArg (fun z => some (vf ak28 z)) (hR.w.2.1 _ finC_26).1) dX12_improve_142 ?_
                    refine lv_aload_n hx hb dX12_improve_145 rfl (lv_at hl 0 rfl) ?_
                    refine va_get (D := rD g) (ci := 11) (v := .ref (ak28 5)) (C := RX12) (T := TX12) (N := 18) hx hb hts inX12 hown hR.K hR.P 0 (hR.at51 hR.w.1) rfl 2 (by decide) (hts _ kw_330) (fun _ h9 => h9) (congrArg (fun z => some (vf ak28 z)) (hR.w.2.1 _ finC_24).1) dX12_improve_146 ?_
                    replace h := h ((hR.w.2.1 _ finC_24).2.1)
                    obtain ⟨Q29, h0, h⟩ := h
                    have hFc := cfree hR hA
                    refine W_led2 (fun hL0 => ?_)
                    refine va_callq (va_runV (As := [.ref (ak28 5)]) (rest := [.ref (ak28 0)]) ⟨hx, hb, hml, hown, hts⟩ (rX2_unitOf l g ak28 H S26 5 hR.w (hR.w.2.1 _ finC_24).2.1 Q29 h0) (cwV 1 hts (gd_V kw_333 kw_819 kw_820 kw_389 kw_818) rfl rfl rfl (by decide +kernel) ⟨Nat.le_of_ble_eq_true rfl, Nat.le_of_ble_eq_true rfl⟩) ⟨cblindH, va_recv hR.K hR.P (ci := 2) (q0 := 8) rfl (hR.at42 (hR.w.2.1 _ finC_26).2.1), fun U hU hW9 => cmkH hU hW9 hR hex hE hFc⟩ rfl rfl hl.1 rfl (lv_room (Nat.le_of_ble_eq_true rfl)) dX12_improve_149 ⟨(show dc73 + dc_ak28 + (KCC - qn S26) ≤ KCC - qn S from hlg.cm), (show ds73 + ds_ak28 + (KSC - qu S26) ≤ KSC - qu S from hlg.sm)⟩) hR.sS (fun q _ h => hFc q h) hFc (fun r30 S31 t9 H1 locs ht9 hvm9 hw9 hB9 hz9 hk9 hS => ?_)
                    rcases S31 with ⟨S31, ak33⟩
                    obtain ⟨hB9, dc9, ds9, hL9, hl9⟩ := hB9
                    dsimp only at hw9 hB9 hl9
                    rw [ht9] at hL9
                    obtain ⟨b34, rfl, hq32, hw9, hs9, hk8, hO_b34⟩ := hw9
                    have hw8 := hR.w
                    have hak := hak.tr hk8 hlg.2.2.1
                    have hE := hE.ad hk8
                    have hR : RepC g ak33 A s S31 H1 locs := hR.callH ht9 hB9 hw9 hS hFc
                    have hsh := hsh.tr hs9
                    refine W_tight2 (hL0.tr hL9).1 (hL0.tr hL9).2.1 ?_
                    have hlg := hlg.call hl9
                    replace h := h b34 S31 hq32 hw9 hs9 hO_b34
                    have ea_0 : ak33 0 = ak28 0 := hk8 _ (hw8.hd hw8.1 (by decide) (by decide))
                    have ea_1 : ak33 v73_3 = ak28 v73_3 := hk8 _ (hw8.hd hT_v73_3 (by decide) (by decide))
                    have hl : lv_has ls 5 [(0, .ref (ak33 0)), (2, .int v73_2), (3, .ref (ak33 v73_3)), (4, .int v73_4)] := by simp only [ea_0, ea_1]; exact hl
                    refine W.eq (g2 := F0 m 152 ls (vf ak33 b34 :: [.ref (ak33 0)])) (by first | (simp only [ea_0, ea_1]; rfl) | simp only [ea_0, ea_1]) ?_
                    have hT_v73_3 := hs9.T hT_v73_3 (by decide)
                    clear hB9 hz9 hk9 hvm9 ht9 hw9 hs9 hS hL0 hL9
                    generalize H1 = H at hR ⊢
                    generalize dc9 = dc_ak33, ds9 = ds_ak33 at hlg ⊢
                    refine lv_bipush (v := (-3)) hx hb dX12_improve_152 (by decide) ?_
                    obtain ⟨Q35, h0, h⟩ := h
                    have hFc := cfree hR hA
                    refine va_calli (va_runV (As := [vf ak33 b34, .int (-3)]) (rest := []) ⟨hx, hb, hml, hown, hts⟩ (rX12_keep l g ak33 H.size S31 b34 (-3 : Int32) hR.w hO_b34 Q35 h0) (cwV 2 hts (gd_V kw_334 kw_408 kw_409 kw_280 kw_407) rfl rfl rfl (by decide +kernel) ⟨Nat.le_of_ble_eq_true rfl, Nat.le_of_ble_eq_true rfl⟩) ⟨cblind, va_recv hR.K hR.P (ci := 11) (q0 := 0) rfl (hR.at51 hR.w.1), fun U hU hW9 => cmk hU hW9 hR hex hE hFc⟩ rfl rfl hl.1 rfl (lv_room (Nat.le_of_ble_eq_true rfl)) dX12_improve_154 ⟨(show dc73 + dc_ak28 + dc_ak33 + 0 ≤ KCC - qn S from hlg.c), (show ds73 + ds_ak28 + ds_ak33 + 0 ≤ KSC - qu S from hlg.s)⟩) hR.sS (fun q _ h => hFc q h) hFc (fun r36 S37 t9 H1 locs ht9 hvm9 hw9 hB9 hz9 hk9 hS => ?_)
                    obtain ⟨hq38, hw9, hs9⟩ := hw9
                    have hR : RepC g ak33 A s S37 H1 locs := hR.call ht9 hB9 hw9 hS hFc
                    have hsh := hsh.tr hs9.1
                    have hlg : lgC S S37 (dc73 + dc_ak28 + dc_ak33) (ds73 + ds_ak28 + ds_ak33) := hlg.same hs9
                    replace h := h r36 S37 hq38 hw9 hs9
                    have hT_v73_3 := hs9.T hT_v73_3 (by decide)
                    clear hB9 hz9 hk9 hvm9 ht9 hw9 hs9 hS
                    generalize H1 = H at hR ⊢
                    refine W_led2 (fun hLd => ?_)
                    refine W.widen (k := KCC - qn S) (n := KSC - qu S) hlg.c hlg.s ?_
                    exact W.iret (v := r36) hx hb hr (fun t9 ht9 hW9 => ⟨⟨_, (S37, ak33), rfl, ⟨h, hR.w, hsh, hak⟩, ⟨⟨by rw [ht9]; exact hR.P, hR.D⟩, _, _, by rw [ht9]; exact hLd, hlg⟩⟩, hR.sS.F ht9⟩) hR.sS.2.2 dX12_improve_157
                  · replace h := h.1 (k_eq rfl (by decide) c24)
                    refine lv_bipush (v := (-3)) hx hb dX12_improve_126 (by decide) ?_
                    refine W_led2 (fun hLd => ?_)
                    refine W.widen (k := KCC - qn S) (n := KSC - qu S) hlg.c hlg.s ?_
                    exact W.iret (v := (-3)) hx hb hr (fun t9 ht9 hW9 => ⟨⟨_, (U73, ad73), rfl, ⟨h, hR.w, hsh, hak⟩, ⟨⟨by rw [ht9]; exact hR.P, hR.D⟩, _, _, by rw [ht9]; exact hLd, hlg⟩⟩, hR.sS.F ht9⟩) hR.sS.2.2 dX12_improve_128
                · replace h := h.2 (k_nle rfl rfl c20)
                  refine lv_aload_n hx hb dX12_improve_82 rfl (lv_at hl 0 rfl) ?_
                  refine va_get (D := rD g) (ci := 11) (v := .ref (ad73 66)) (C := RX12) (T := TX12) (N := 18) hx hb hts inX12 hown hR.K hR.P 0 (hR.at51 hR.w.1) rfl 9 (by decide) (hts _ kw_281) (fun _ h9 => h9) (congrArg (fun z => some (vf ad73 z)) (hR.w.2.1 _ finC_31).1) dX12_improve_83 ?_
                  refine lv_aload_n hx hb dX12_improve_86 rfl (lv_at hl 2 rfl) ?_
                  refine lv_iload hx hb dX12_improve_87 (lv_at hl 3 rfl) ?_
                  replace h := h (hT_v73_3)
                  obtain ⟨Q39, h0, h⟩ := h
                  have hFc := cfree hR hA
                  refine va_callq (va_runV (As := [.int v73_4]) (rest := [.ref (ad73 66)]) ⟨hx, hb, hml, hown, hts⟩ (rX10_rowAt l g ad73 H.size U73 v73_3 v73_4 hR.w hT_v73_3 Q39 h0) (cwV 1 hts (gd_V kw_324 kw_70 kw_71 kw_34 kw_69) rfl rfl rfl (by decide +kernel) ⟨Nat.le_of_ble_eq_true rfl, Nat.le_of_ble_eq_true rfl⟩) ⟨cblind, va_recv hR.K hR.P (ci := 9) (q0 := v73_3) rfl (hR.at49 hT_v73_3), fun U hU hW9 => cmk hU hW9 hR hex hE hFc⟩ rfl rfl hl.1 rfl (lv_room (Nat.le_of_ble_eq_true rfl)) dX12_improve_89 ⟨(show dc73 + 0 ≤ KCC - qn S from hlg.c), (show ds73 + 0 ≤ KSC - qu S from hlg.s)⟩) hR.sS (fun q _ h => hFc q h) hFc (fun r40 S41 t9 H1 locs ht9 hvm9 hw9 hB9 hz9 hk9 hS => ?_)
                  obtain ⟨b43, rfl, hq42, hw9, hs9, hO_b43⟩ := hw9
                  have hR : RepC g ad73 A s S41 H1 locs := hR.call ht9 hB9 hw9 hS hFc
                  have hsh := hsh.tr hs9.1
                  have hlg : lgC S S41 (dc73) (ds73) := hlg.same hs9
                  replace h := h b43 S41 hq42 hw9 hs9 hO_b43
                  have hT_v73_3 := hs9.T hT_v73_3 (by decide)
                  clear hB9 hz9 hk9 hvm9 ht9 hw9 hs9 hS
                  generalize H1 = H at hR ⊢
                  refine lv_iload_n hx hb dX12_improve_92 rfl (lv_at hl 1 rfl) ?_
                  rcases hq_b44 : b43 with _ | b44
                  · skip
                    replace h := h.1 (hq_b44)
                    exact h.elim
                  · have hg_b44 : b44 = (b43).getD 0 := by rw [hq_b44]; rfl
                    have hT_b44 : qT S41 ((b43).getD 0) = 47 := hg_b44 ▸ hO_b43 _ hq_b44
                    subst hg_b44
                    replace h := h.2 (fun q9 => Option.some_ne_none _ (hq_b44.symm.trans q9))
                    replace h := h (hT_b44)
                    obtain ⟨Q45, h0, h⟩ := h
                    have hFc := cfree hR hA
                    refine W_led2 (fun hL0 => ?_)
                    refine va_callv (va_runV (As := [.ref (ad73 ((b43).getD 0)), .int v73_2]) (rest := []) ⟨hx, hb, hml, hown, hts⟩ (rX9_makeBetter l g ad73 H S41 ((b43).getD 0) v73_2 hR.w hT_b44 Q45 h0) (cwV 2 hts (gd_V kw_380 kw_1678 kw_1679 kw_404 kw_1677) rfl rfl rfl (by decide +kernel) ⟨Nat.le_of_ble_eq_true rfl, Nat.le_of_ble_eq_true rfl⟩) ⟨cblindH, va_recv hR.K hR.P (ci := 8) (q0 := 66) rfl (hR.at48 (hR.w.2.1 _ finC_31).2.1), fun U hU hW9 => cmkH hU hW9 hR hex hE hFc⟩ rfl rfl hl.1 rfl (lv_room (Nat.le_of_ble_eq_true rfl)) dX12_improve_93 ⟨(show dc73 + (KCC - qn S41) ≤ KCC - qn S from hlg.cm), (show ds73 + (KSC - qu S41) ≤ KSC - qu S from hlg.sm)⟩) hR.sS (fun q _ h => hFc q h) hFc (fun  S46 t9 H1 locs ht9 hvm9 hw9 hB9 hz9 hk9 hS => ?_)
                    rcases S46 with ⟨S46, ak48⟩
                    obtain ⟨hB9, dc9, ds9, hL9, hl9⟩ := hB9
                    dsimp only at hw9 hB9 hl9
                    rw [ht9] at hL9
                    obtain ⟨hq47, hw9, hs9, hk8⟩ := hw9
                    have hw8 := hR.w
                    have hak := hak.tr hk8 hlg.2.2.1
                    have hE := hE.ad hk8
                    have hR : RepC g ak48 A s S46 H1 locs := hR.callH ht9 hB9 hw9 hS hFc
                    have hsh := hsh.tr hs9
                    refine W_tight2 (hL0.tr hL9).1 (hL0.tr hL9).2.1 ?_
                    have hlg := hlg.call hl9
                    replace h := h  S46 hq47 hw9 hs9
                    have ea_0 : ak48 0 = ad73 0 := hk8 _ (hw8.hd hw8.1 (by decide) (by decide))
                    have ea_1 : ak48 v73_3 = ad73 v73_3 := hk8 _ (hw8.hd hT_v73_3 (by decide) (by decide))
                    have hl : lv_has ls 5 [(0, .ref (ak48 0)), (2, .int v73_2), (3, .ref (ak48 v73_3)), (4, .int v73_4)] := by simp only [ea_0, ea_1]; exact hl
                    have hT_v73_3 := hs9.T hT_v73_3 (by decide)
                    clear hB9 hz9 hk9 hvm9 ht9 hw9 hs9 hS hL0 hL9
                    generalize H1 = H at hR ⊢
                    generalize dc9 = dc_ak48, ds9 = ds_ak48 at hlg ⊢
                    refine lv_aload_n hx hb dX12_improve_96 rfl (lv_at hl 0 rfl) ?_
                    refine va_get (D := rD g) (ci := 11) (v := .ref (ak48 25)) (C := RX12) (T := TX12) (N := 18) hx hb hts inX12 hown hR.K hR.P 0 (hR.at51 hR.w.1) rfl 6 (by decide) (hts _ kw_321) (fun _ h9 => h9) (congrArg (fun z => some (vf ak48 z)) (hR.w.2.1 _ finC_28).1) dX12_improve_97 ?_
                    refine lv_aload_n hx hb dX12_improve_100 rfl (lv_at hl 0 rfl) ?_
                    refine va_get (D := rD g) (ci := 11) (v := .ref (ak48 66)) (C := RX12) (T := TX12) (N := 18) hx hb hts inX12 hown hR.K hR.P 0 (hR.at51 hR.w.1) rfl 9 (by decide) (hts _ kw_281) (fun _ h9 => h9) (congrArg (fun z => some (vf ak48 z)) (hR.w.2.1 _ finC_31).1) dX12_improve_101 ?_
                    have hT_b49 : qT S46 (qO S46 66 0) = 47 := hR.w.ref (hR.w.ptr ptrC_39) (hR.w.2.1 _ finC_31).2.1
                    refine va_get (D := rD g) (ci := 8) (v := .ref (ak48 (qO S46 66 0))) (C := RX9) (T := TX9) (N := 6) hx hb hts inX9 hown hR.K hR.P 66 (hR.at48 (hR.w.2.1 _ finC_31).2.1) rfl 0 (by decide) (hts _ kw_327) (fun _ h9 => h9) (congrArg (fun z => some (vf ak48 z)) (hR.w.ptr ptrC_39)) dX12_improve_104 ?_
                    obtain ⟨Q50, h0, h⟩ := h
                    have hFc := cfree hR hA
                    refine W_led2 (fun hL0 => ?_)
                    refine va_callv (va_runV (As := [.ref (ak48 (qO S46 66 0))]) (rest := []) ⟨hx, hb, hml, hown, hts⟩ (rX11_addMethod l g ak48 H S46 (some (qO S46 66 0)) hR.w (fun z q9 => by cases q9; exact hT_b49) Q50 h0) (cwV 1 hts (gd_V kw_328 kw_81 kw_82 kw_83 kw_80) rfl rfl rfl (by decide +kernel) ⟨Nat.le_of_ble_eq_true rfl, Nat.le_of_ble_eq_true rfl⟩) ⟨cblindH, va_recv hR.K hR.P (ci := 10) (q0 := 25) rfl (hR.at50 (hR.w.2.1 _ finC_28).2.1), fun U hU hW9 => cmkH hU hW9 hR hex hE hFc⟩ rfl rfl hl.1 rfl (lv_room (Nat.le_of_ble_eq_true rfl)) dX12_improve_107 ⟨(show dc73 + dc_ak48 + (KCC - qn S46) ≤ KCC - qn S from hlg.cm), (show ds73 + ds_ak48 + (KSC - qu S46) ≤ KSC - qu S from hlg.sm)⟩) hR.sS (fun q _ h => hFc q h) hFc (fun  S51 t9 H1 locs ht9 hvm9 hw9 hB9 hz9 hk9 hS => ?_)
                    rcases S51 with ⟨S51, ak53⟩
                    obtain ⟨hB9, dc9, ds9, hL9, hl9⟩ := hB9
                    dsimp only at hw9 hB9 hl9
                    rw [ht9] at hL9
                    obtain ⟨hq52, hw9, hs9, hk8⟩ := hw9
                    have hw8 := hR.w
                    have hak := hak.tr hk8 hlg.2.2.1
                    have hE := hE.ad hk8
                    have hR : RepC g ak53 A s S51 H1 locs := hR.callH ht9 hB9 hw9 hS hFc
                    have hsh := hsh.tr hs9
                    refine W_tight2 (hL0.tr hL9).1 (hL0.tr hL9).2.1 ?_
                    have hlg := hlg.call hl9
                    replace h := h  S51 hq52 hw9 hs9
                    have ea_0 : ak53 0 = ak48 0 := hk8 _ (hw8.hd hw8.1 (by decide) (by decide))
                    have ea_1 : ak53 v73_3 = ak48 v73_3 := hk8 _ (hw8.hd hT_v73_3 (by decide) (by decide))
                    have hl : lv_has ls 5 [(0, .ref (ak53 0)), (2, .int v73_2), (3, .ref (ak53 v73_3)), (4, .int v73_4)] := by simp only [ea_0, ea_1]; exact hl
                    have hT_v73_3 := hs9.T hT_v73_3 (by decide)
                    clear hB9 hz9 hk9 hvm9 ht9 hw9 hs9 hS hL0 hL9
                    generalize H1 = H at hR ⊢
                    generalize dc9 = dc_ak53, ds9 = ds_ak53 at hlg ⊢
                    obtain ⟨a54, ea54⟩ : ∃ z, z = (v73_4 + Int32.ofInt 1) := ⟨_, rfl⟩
                    replace h := h a54 ea54
                    refine lv_iinc (v := a54) (lv' := [(4, .int a54), (0, .ref (ak53 0)), (2, .int v73_2), (3, .ref (ak53 v73_3))]) hx hb dX12_improve_110 hl (k := 3) rfl ea54.symm (by decide) rfl (fun ls hl => ?_)
                    refine lv_goto (tgt := 73) hx hb dX12_improve_113 (by decide) ?_
                    exact ih_73 ak53 (dc73 + dc_ak48 + dc_ak53) (ds73 + ds_ak48 + ds_ak53) S51 v73_2 v73_3 a54 _ _ ls h hT_v73_3 hsh hlg hak hE hR (lv_sub hl [1, 2, 3, 0] rfl)
            obtain ⟨n9, h⟩ := h
            exact J_73 n9 ak19 (0 + dc_ak19) (0 + ds_ak19) S17 x2 ((b8).getD 0) 0 _ _ ls h hT_b9 hsh hlg hak hE hR (lv_sub hl [2, 4, 1, 0] rfl)
          · replace h := h.2 (k_nlt rfl (by decide) c13)
            refine lv_bipush (v := (-2)) hx hb dX12_improve_48 (by decide) ?_
            refine W_led2 (fun hLd => ?_)
            refine W.widen (k := KCC - qn S) (n := KSC - qu S) hlg.c hlg.s ?_
            exact W.iret (v := (-2)) hx hb hr (fun t9 ht9 hW9 => ⟨⟨_, (S6, ad), rfl, ⟨h, hR.w, hsh, hak⟩, ⟨⟨by rw [ht9]; exact hR.P, hR.D⟩, _, _, by rw [ht9]; exact hLd, hlg⟩⟩, hR.sS.F ht9⟩) hR.sS.2.2 dX12_improve_50
      · replace h := h.2 (k_nle rfl (by decide) c11)
        refine lv_iconst (v := (-1)) hx hb dX12_improve_28 (by decide) ?_
        refine W_led2 (fun hLd => ?_)
        refine W.widen (k := KCC - qn S) (n := KSC - qu S) hlg.c hlg.s ?_
        exact W.iret (v := (-1)) hx hb hr (fun t9 ht9 hW9 => ⟨⟨_, (S6, ad), rfl, ⟨h, hR.w, hsh, hak⟩, ⟨⟨by rw [ht9]; exact hR.P, hR.D⟩, _, _, by rw [ht9]; exact hLd, hlg⟩⟩, hR.sS.F ht9⟩) hR.sS.2.2 dX12_improve_29
def w_X5_play_J100 (Q : Int32 → MS → Prop) (U100 : MS) : Prop := (wfC U100 → ((0 ≤ (qI U100 44 15).toInt → Q (qI U100 44 15) U100) ∧ (¬ 0 ≤ (qI U100 44 15).toInt → Q (2 : Int32) U100)))
def w_X5_play_L68 (Q : Int32 → MS → Prop) : Nat → MS → Int32 → Prop
  | 0, _, _ => False
  | n68 + 1, U68, v68_2 => (wfC U68 → ((0 ≤ (qI U68 44 15).toInt → w_X5_play_J100 Q U68) ∧ (¬ 0 ≤ (qI U68 44 15).toInt → ((v68_2.toInt ≤ (qI U68 44 18).toInt → w_X5_play_J100 Q U68) ∧ (¬ v68_2.toInt ≤ (qI U68 44 18).toInt → (∀ S24, S24 = wI U68 44 18 ((qI U68 44 18) + (1 : Int32)) → qT U68 44 = 45 → wfC S24 → (∃ Q25, wX5_step S24 Q25 ∧ ∀ S26, Q25 S26 → wfC S26 → shx S24 S26 → (w_X5_play_L68 Q n68) S26 v68_2)))))))
def w_X5_play_J26 (Q : Int32 → MS → Prop) (U26 : MS) (v26_1 : Int32) (v26_2 : Int32) : Prop := (wfC U26 → (∀ S3, S3 = wJ U26 44 16 0 → qT U26 44 = 45 → wfC S3 → (∀ S4, S4 = wI S3 44 17 (-1 : Int32) → qT S3 44 = 45 → wfC S4 → (∀ S5, S5 = wI S4 44 18 (0 : Int32) → qT S4 44 = 45 → wfC S5 → (∀ S6, S6 = wI S5 44 15 (-1 : Int32) → qT S5 44 = 45 → wfC S6 → (∀ S7, S7 = wI S6 44 11 (0 : Int32) → qT S6 44 = 45 → wfC S7 → (∃ Q8, wX5_openFrame S7 v26_1 Q8 ∧ ∀ S9, Q8 S9 → wfC S9 → shy S7 S9 → ((qR S9 44 0 = some (qO S9 44 0)) ∧ (d_X10_takesOfMethod S9 (qO S9 44 0) v26_1 ∧ (∀ a16 : Int32, a16 = (fX10_takesOfMethod S9 (qO S9 44 0) v26_1) → (∃ Q17, wX5_passArguments S9 a16 Q17 ∧ ∀ S18, Q17 S18 → wfC S18 → shy S9 S18 → (∃ n, w_X5_play_L68 Q n S18 v26_2))))))))))))
def wX5_play (S : MS) (x1 : Int32) (x2 : Int32) (Q : Int32 → MS → Prop) : Prop := (((qN S (qO S 44 9) : Int) = 0 → (((qn S + 1 ≤ KCC ∧ qu S + 1440 ≤ KSC)) ∧ (∀ S33, S33 = wN S 405 1440 1440 → wfC S33 → (∀ S35, S35 = wR S33 44 9 (some (qn S)) → qT S33 44 = 45 → wfC S35 → (((qn S35 + 1 ≤ KCC ∧ qu S35 + 1440 ≤ KSC)) ∧ (∀ S39, S39 = wN S35 404 1440 1440 → wfC S39 → (∀ S41, S41 = wR S39 44 8 (some (qn S35)) → qT S39 44 = 45 → wfC S41 → w_X5_play_J26 Q S41 x1 x2))))))) ∧ (¬ (qN S (qO S 44 9) : Int) = 0 → w_X5_play_J26 Q S x1 x2))
set_option maxHeartbeats 2000000 in
set_option maxRecDepth 100000 in
theorem rX5_play (l : Launch) (g : Gr) (ad : Nat → Nat) (H0 : Heap) (S : MS) (x1 : Int32) (x2 : Int32) (hw : wfC S) (Q : Int32 → MS → Prop) (h : wX5_play S x1 x2 Q) : Met l yX5_play (wt yX5_play cX5_play 3 (some .int)) ({ frames := 6, cells := KCC - qn S, slots := KSC - qu S, locals := 135 }) (va_Pc [.ref (ad 44), .int x1, .int x2] (st_CH g ad H0 S)) (va_Qi (fun (r : Int32) (u : MS × (Nat → Nat)) => Q r u.1 ∧ wfC u.1 ∧ shx S u.1 ∧ adk ad u.2 S) (fun (u : MS × (Nat → Nat)) (t : State) => qEHC g (va_A (WdC g ad S) H0.size) S H0 u t) (va_A (WdC g ad S) H0.size)) (KCC - qn S) (KSC - qu S) (va_A (WdC g ad S) H0.size) := by
  refine Met.ofW (cc := cX5_play) (maxL := 3) (ret := (some .int)) (by decide) rfl ?_
  intro p e s m args below meth c s₁ B hml hv
  obtain ⟨rfl, hH0, hsz, hP, hK, hD0, hex, hE⟩ := hv
  have hx := B.exec
  have hb := B.bytes
  have hr := B.returns
  have hts0 := atoms_spec (ws := wt yX5_play cX5_play 3 (some .int)) B.pre
  have hts : ∀ w ∈ tb, w.before _ s = true := fun w h => hts0 w (List.mem_cons_of_mem _ h)
  have hown : s.vm.findClass RX5 = some m.cls := findClass_of_methodNamed B.named
  subst hH0
  have hD := hD0.self (sz := s.heap.size)
  generalize hAe : va_A (WdC g ad S) s.heap.size = A at hD hE ⊢
  have hA : ∀ q : Nat, s.heap.size ≤ q → A q := fun q h => by rw [← hAe]; exact Or.inr h
  have hR : RepC g ad A s S s.heap [] := ⟨hK, hP, hD, va_S.rf, hw⟩
  clear hK hP hD hD0
  have hl := lv_entry ([.ref (ad 44), .int x1, .int x2]) (n := 3) (Nat.le_of_ble_eq_true rfl)
  rw [lg_entry_eq]
  generalize (lg_sl ([.ref (ad 44), .int x1, .int x2]) ++ List.replicate (3 - (lg_sl ([.ref (ad 44), .int x1, .int x2])).length) Slot.unset).toArray = ls at hl ⊢
  have hlg : lgC S S 0 0 := lgC.rf
  have hak : adk ad ad S := adk.rf
  have hl : lv_has ls 3 [(0, .ref (ad 44)), (1, .int x1), (2, .int x2)] := hl
  have hsh : shx S S := shx.rf
  unfold wX5_play at h
  refine lv_aload_n hx hb dX5_play_0 rfl (lv_at hl 0 rfl) ?_
  have hT_b1 : qT S (qO S 44 9) = 405 := hR.w.ref (hR.w.ptr ptrC_21) (hR.w.2.1 _ finC_29).2.1
  refine va_get (D := rD g) (ci := 5) (v := .ref (ad (qO S 44 9))) (C := RX5) (T := TX5) (N := 20) hx hb hts inX5 hown hR.K hR.P 44 (hR.at45 (hR.w.2.1 _ finC_29).2.1) rfl 9 (by decide) (hts _ kw_1046) (fun _ h9 => h9) (congrArg (fun z => some (vf ad z)) (hR.w.ptr ptrC_21)) dX5_play_1 ?_
  refine va_alen (v := (Int32.ofNat (qN S (qO S 44 9)))) hx hb hR.K hR.P (qO S 44 9) 3 (hR.atL hT_b1 (by decide)) rfl rfl dX5_play_4 ?_
  have hln2 : (Int32.ofNat (qN S (qO S 44 9))).toInt = (qN S (qO S 44 9) : Int) := toI_len (hR.w.len9 (hT_b1) (by decide))
  have J_26 : ∀ (ad26 : Nat → Nat) (dc26 ds26 : Nat) (U26 : MS) (v26_1 : Int32) (v26_2 : Int32) (H : Heap) (locs : List Loc) (ls : Array Slot), w_X5_play_J26 Q U26 v26_1 v26_2 → shx S U26 → lgC S U26 dc26 ds26 → adk ad ad26 S → ogC ad26 A s s.heap → RepC g ad26 A s U26 H locs → lv_has ls 3 [(0, .ref (ad26 44)), (1, .int v26_1), (2, .int v26_2)] → W p l e (headSpec (wt yX5_play cX5_play 3 (some .int)) ({ frames := 6, cells := KCC - qn S, slots := KSC - qu S, locals := 135 })).room s m ([.ref (ad 44), .int x1, .int x2] : List Value).toArray below meth c H locs dc26 ds26 (MQ below (va_Qi (fun (r : Int32) (u : MS × (Nat → Nat)) => Q r u.1 ∧ wfC u.1 ∧ shx S u.1 ∧ adk ad u.2 S) (fun (u : MS × (Nat → Nat)) (t : State) => qEHC g A S s.heap u t) A) ([.ref (ad 44), .int x1, .int x2] : List Value).toArray s (KCC - qn S) (KSC - qu S) A) (F0 m 26 ls []) := by
    intro ad26 dc26 ds26 U26 v26_1 v26_2 H locs ls h hsh hlg hak hE hR hl
    unfold w_X5_play_J26 at h
    replace h := h hR.w
    refine lv_aload_n hx hb dX5_play_26 rfl (lv_at hl 0 rfl) ?_
    refine lv_lconst (v := 0) hx hb dX5_play_27 (by decide) ?_
    refine va_put (D := rD g) (ci := 5) (v := .long 0) (ty := .long) (C := RX5) (T := TX5) (N := 20) hx hb hts inX5 tyX5 tyX5_ok nmX5 hown hR.K hR.P hR.D hR.sS 44 (hR.at45 (hR.w.2.1 _ finC_29).2.1) rfl 16 (by decide) (hts _ kw_1085) (fun _ h9 => h9) rfl (by decide +kernel) rfl rfl (Nat.le_of_ble_eq_true rfl) dX5_play_28 (fun H locs hP hD hS => ?_)
    have hTk9 : qT U26 44 = 45 := (hR.w.2.1 _ finC_29).2.1
    have hR : RepC g ad26 A s (wJ U26 44 16 0) H locs := hR.pJ45 (hR.w.2.1 _ finC_29).2.1 FX5_s16 hP hD hS
    obtain ⟨S3, eS3⟩ : ∃ z, z = wJ U26 44 16 0 := ⟨_, rfl⟩
    rw [← eS3] at hR
    replace h := h S3 eS3 hTk9 hR.w
    have hsh : shx S S3 := by rw [eS3]; exact hsh
    have hlg : lgC S S3 (dc26) (ds26) := by rw [eS3]; exact hlg
    refine lv_aload_n hx hb dX5_play_31 rfl (lv_at hl 0 rfl) ?_
    refine lv_iconst (v := (-1)) hx hb dX5_play_32 (by decide) ?_
    refine va_put (D := rD g) (ci := 5) (v := .int (-1)) (ty := .int) (C := RX5) (T := TX5) (N := 20) hx hb hts inX5 tyX5 tyX5_ok nmX5 hown hR.K hR.P hR.D hR.sS 44 (hR.at45 (hR.w.2.1 _ finC_29).2.1) rfl 17 (by decide) (hts _ kw_1073) (fun _ h9 => h9) rfl (by decide +kernel) rfl rfl (Nat.le_of_ble_eq_true rfl) dX5_play_33 (fun H locs hP hD hS => ?_)
    have hTk9 : qT S3 44 = 45 := (hR.w.2.1 _ finC_29).2.1
    have hR : RepC g ad26 A s (wI S3 44 17 (-1 : Int32)) H locs := hR.pI45 (hR.w.2.1 _ finC_29).2.1 FX5_s17 (fun q9 => absurd q9 (by decide)) hP hD hS
    obtain ⟨S4, eS4⟩ : ∃ z, z = wI S3 44 17 (-1 : Int32) := ⟨_, rfl⟩
    rw [← eS4] at hR
    replace h := h S4 eS4 hTk9 hR.w
    have hsh : shx S S4 := by rw [eS4]; exact hsh
    have hlg : lgC S S4 (dc26) (ds26) := by rw [eS4]; exact hlg
    refine lv_aload_n hx hb dX5_play_36 rfl (lv_at hl 0 rfl) ?_
    refine lv_iconst (v := 0) hx hb dX5_play_37 (by decide) ?_
    refine va_put (D := rD g) (ci := 5) (v := .int 0) (ty := .int) (C := RX5) (T := TX5) (N := 20) hx hb hts inX5 tyX5 tyX5_ok nmX5 hown hR.K hR.P hR.D hR.sS 44 (hR.at45 (hR.w.2.1 _ finC_29).2.1) rfl 18 (by decide) (hts _ kw_1120) (fun _ h9 => h9) rfl (by decide +kernel) rfl rfl (Nat.le_of_ble_eq_true rfl) dX5_play_38 (fun H locs hP hD hS => ?_)
    have hTk9 : qT S4 44 = 45 := (hR.w.2.1 _ finC_29).2.1
    have hR : RepC g ad26 A s (wI S4 44 18 (0 : Int32)) H locs := hR.pI45 (hR.w.2.1 _ finC_29).2.1 FX5_s18 (fun q9 => absurd q9 (by decide)) hP hD hS
    obtain ⟨S5, eS5⟩ : ∃ z, z = wI S4 44 18 (0 : Int32) := ⟨_, rfl⟩
    rw [← eS5] at hR
    replace h := h S5 eS5 hTk9 hR.w
    have hsh : shx S S5 := by rw [eS5]; exact hsh
    have hlg : lgC S S5 (dc26) (ds26) := by rw [eS5]; exact hlg
    refine lv_aload_n hx hb dX5_play_41 rfl (lv_at hl 0 rfl) ?_
    refine lv_iconst (v := (-1)) hx hb dX5_play_42 (by decide) ?_
    refine va_put (D := rD g) (ci := 5) (v := .int (-1)) (ty := .int) (C := RX5) (T := TX5) (N := 20) hx hb hts inX5 tyX5 tyX5_ok nmX5 hown hR.K hR.P hR.D hR.sS 44 (hR.at45 (hR.w.2.1 _ finC_29).2.1) rfl 15 (by decide) (hts _ kw_1041) (fun _ h9 => h9) rfl (by decide +kernel) rfl rfl (Nat.le_of_ble_eq_true rfl) dX5_play_43 (fun H locs hP hD hS => ?_)
    have hTk9 : qT S5 44 = 45 := (hR.w.2.1 _ finC_29).2.1
    have hR : RepC g ad26 A s (wI S5 44 15 (-1 : Int32)) H locs := hR.pI45 (hR.w.2.1 _ finC_29).2.1 FX5_s15 (fun q9 => absurd q9 (by decide)) hP hD hS
    obtain ⟨S6, eS6⟩ : ∃ z, z = wI S5 44 15 (-1 : Int32) := ⟨_, rfl⟩
    rw [← eS6] at hR
    replace h := h S6 eS6 hTk9 hR.w
    have hsh : shx S S6 := by rw [eS6]; exact hsh
    have hlg : lgC S S6 (dc26) (ds26) := by rw [eS6]; exact hlg
    refine lv_aload_n hx hb dX5_play_46 rfl (lv_at hl 0 rfl) ?_
    refine lv_iconst (v := 0) hx hb dX5_play_47 (by decide) ?_
    refine va_put (D := rD g) (ci := 5) (v := .int 0) (ty := .int) (C := RX5) (T := TX5) (N := 20) hx hb hts inX5 tyX5 tyX5_ok nmX5 hown hR.K hR.P hR.D hR.sS 44 (hR.at45 (hR.w.2.1 _ finC_29).2.1) rfl 11 (by decide) (hts _ kw_1025) (fun _ h9 => h9) rfl (by decide +kernel) rfl rfl (Nat.le_of_ble_eq_true rfl) dX5_play_48 (fun H locs hP hD hS => ?_)
    have hTk9 : qT S6 44 = 45 := (hR.w.2.1 _ finC_29).2.1
    have hR : RepC g ad26 A s (wI S6 44 11 (0 : Int32)) H locs := hR.pI45 (hR.w.2.1 _ finC_29).2.1 FX5_s11 (fun q9 => absurd q9 (by decide)) hP hD hS
    obtain ⟨S7, eS7⟩ : ∃ z, z = wI S6 44 11 (0 : Int32) := ⟨_, rfl⟩
    rw [← eS7] at hR
    replace h := h S7 eS7 hTk9 hR.w
    have hsh : shx S S7 := by rw [eS7]; exact hsh
    have hlg : lgC S S7 (dc26) (ds26) := by rw [eS7]; exact hlg
    refine lv_aload_n hx hb dX5_play_51 rfl (lv_at hl 0 rfl) ?_
    refine lv_iload_n hx hb dX5_play_52 rfl (lv_at hl 1 rfl) ?_
    obtain ⟨Q8, h0, h⟩ := h
    have hFc := cfree hR hA
    refine va_callv (va_runV (As := [.int v26_1]) (rest := []) ⟨hx, hb, hml, hown, hts⟩ (rX5_openFrame l g ad26 H.size S7 v26_1 hR.w  Q8 h0) (cwV 1 hts (gd_V kw_1049 kw_1111 kw_1112 kw_398 kw_1110) rfl rfl rfl (by decide +kernel) ⟨Nat.le_of_ble_eq_true rfl, Nat.le_of_ble_eq_true rfl⟩) ⟨cblind, va_recv hR.K hR.P (ci := 5) (q0 := 44) rfl (hR.at45 (hR.w.2.1 _ finC_29).2.1), fun U hU hW9 => cmk hU hW9 hR hex hE hFc⟩ rfl rfl hl.1 rfl (lv_room (Nat.le_of_ble_eq_true rfl)) dX5_play_53 ⟨(show dc26 + 0 ≤ KCC - qn S from hlg.c), (show ds26 + 0 ≤ KSC - qu S from hlg.s)⟩) hR.sS (fun q _ h => hFc q h) hFc (fun  S9 t9 H1 locs ht9 hvm9 hw9 hB9 hz9 hk9 hS => ?_)
    obtain ⟨hq10, hw9, hs9⟩ := hw9
    have hR : RepC g ad26 A s S9 H1 locs := hR.call ht9 hB9 hw9 hS hFc
    have hsh := hsh.tr hs9.1
    have hlg : lgC S S9 (dc26) (ds26) := hlg.same hs9
    replace h := h  S9 hq10 hw9 hs9
    clear hB9 hz9 hk9 hvm9 ht9 hw9 hs9 hS
    generalize H1 = H at hR ⊢
    refine lv_aload_n hx hb dX5_play_56 rfl (lv_at hl 0 rfl) ?_
    refine lv_aload_n hx hb dX5_play_57 rfl (lv_at hl 0 rfl) ?_
    obtain ⟨hv12, h⟩ := h
    have hT_b11 : qT S9 (qO S9 44 0) = 49 := hR.w.ref hv12 (hR.w.2.1 _ finC_29).2.1
    refine va_get (D := rD g) (ci := 5) (v := .ref (ad26 (qO S9 44 0))) (C := RX5) (T := TX5) (N := 20) hx hb hts inX5 hown hR.K hR.P 44 (hR.at45 (hR.w.2.1 _ finC_29).2.1) rfl 0 (by decide) (hts _ kw_1027) (fun _ h9 => h9) (congrArg (fun z => some (vf ad26 z)) hv12) dX5_play_58 ?_
    refine lv_iload_n hx hb dX5_play_61 rfl (lv_at hl 1 rfl) ?_
    obtain ⟨hv13, h⟩ := h
    have hFc := cfree hR hA
    refine va_calli (va_runV (As := [.int v26_1]) (rest := [.ref (ad26 44)]) ⟨hx, hb, hml, hown, hts⟩ (rX10_takesOfMethod l g ad26 H.size S9 (qO S9 44 0) v26_1 hR.w hT_b11 hv13) (cwV 1 hts (gd_V kw_1042 kw_78 kw_79 kw_34 kw_77) rfl rfl rfl (by decide +kernel) ⟨Nat.le_of_ble_eq_true rfl, Nat.le_of_ble_eq_true rfl⟩) ⟨cblind, va_recv hR.K hR.P (ci := 9) (q0 := (qO S9 44 0)) rfl (hR.at49 hT_b11), fun U hU hW9 => cmk hU hW9 hR hex hE hFc⟩ rfl rfl hl.1 rfl (lv_room (Nat.le_of_ble_eq_true rfl)) dX5_play_62 ⟨(show dc26 + 0 ≤ KCC - qn S from hlg.c), (show ds26 + 0 ≤ KSC - qu S from hlg.s)⟩) hR.sS (fun q _ h => hFc q h) hFc (fun r14 u9 t9 H1 locs ht9 hvm9 hw9 hB9 hz9 hk9 hS => ?_)
    have hR : RepC g ad26 A s S9 H1 locs := hR.call ht9 hB9 hR.w hS hFc
    obtain rfl : r14 = (fX10_takesOfMethod S9 (qO S9 44 0) v26_1) := hw9
    clear hB9 hz9 hk9 hvm9 ht9 hS
    generalize H1 = H at hR ⊢
    obtain ⟨a16, ea16⟩ : ∃ z, z = (fX10_takesOfMethod S9 (qO S9 44 0) v26_1) := ⟨_, rfl⟩
    rw [← ea16]
    replace h := h a16 ea16
    obtain ⟨Q17, h0, h⟩ := h
    have hFc := cfree hR hA
    refine va_callv (va_runV (As := [.int a16]) (rest := []) ⟨hx, hb, hml, hown, hts⟩ (rX5_passArguments l g ad26 H.size S9 a16 hR.w  Q17 h0) (cwV 1 hts (gd_V kw_1121 kw_1114 kw_1115 kw_398 kw_1113) rfl rfl rfl (by decide +kernel) ⟨Nat.le_of_ble_eq_true rfl, Nat.le_of_ble_eq_true rfl⟩) ⟨cblind, va_recv hR.K hR.P (ci := 5) (q0 := 44) rfl (hR.at45 (hR.w.2.1 _ finC_29).2.1), fun U hU hW9 => cmk hU hW9 hR hex hE hFc⟩ rfl rfl hl.1 rfl (lv_room (Nat.le_of_ble_eq_true rfl)) dX5_play_65 ⟨(show dc26 + 0 ≤ KCC - qn S from hlg.c), (show ds26 + 0 ≤ KSC - qu S from hlg.s)⟩) hR.sS (fun q _ h => hFc q h) hFc (fun  S18 t9 H1 locs ht9 hvm9 hw9 hB9 hz9 hk9 hS => ?_)
    obtain ⟨hq19, hw9, hs9⟩ := hw9
    have hR : RepC g ad26 A s S18 H1 locs := hR.call ht9 hB9 hw9 hS hFc
    have hsh := hsh.tr hs9.1
    have hlg : lgC S S18 (dc26) (ds26) := hlg.same hs9
    replace h := h  S18 hq19 hw9 hs9
    clear hB9 hz9 hk9 hvm9 ht9 hw9 hs9 hS
    generalize H1 = H at hR ⊢
    have J_68 : ∀ (n68 : Nat) (ad68 : Nat → Nat) (dc68 ds68 : Nat) (U68 : MS) (v68_2 : Int32) (H : Heap) (locs : List Loc) (ls : Array Slot), w_X5_play_L68 Q n68 U68 v68_2 → shx S U68 → lgC S U68 dc68 ds68 → adk ad ad68 S → ogC ad68 A s s.heap → RepC g ad68 A s U68 H locs → lv_has ls 3 [(0, .ref (ad68 44)), (2, .int v68_2)] → W p l e (headSpec (wt yX5_play cX5_play 3 (some .int)) ({ frames := 6, cells := KCC - qn S, slots := KSC - qu S, locals := 135 })).room s m ([.ref (ad 44), .int x1, .int x2] : List Value).toArray below meth c H locs dc68 ds68 (MQ below (va_Qi (fun (r : Int32) (u : MS × (Nat → Nat)) => Q r u.1 ∧ wfC u.1 ∧ shx S u.1 ∧ adk ad u.2 S) (fun (u : MS × (Nat → Nat)) (t : State) => qEHC g A S s.heap u t) A) ([.ref (ad 44), .int x1, .int x2] : List Value).toArray s (KCC - qn S) (KSC - qu S) A) (F0 m 68 ls []) := by
      intro n68
      induction n68 with
      | zero => intro ad68 dc68 ds68 U68 v68_2 H locs ls h hsh hlg hak hE hR hl; unfold w_X5_play_L68 at h; exact h.elim
      | succ n68 ih_68 =>
        intro ad68 dc68 ds68 U68 v68_2 H locs ls h hsh hlg hak hE hR hl
        unfold w_X5_play_L68 at h
        replace h := h hR.w
        refine lv_aload_n hx hb dX5_play_68 rfl (lv_at hl 0 rfl) ?_
        refine va_get (D := rD g) (ci := 5) (v := .int (qI U68 44 15)) (C := RX5) (T := TX5) (N := 20) hx hb hts inX5 hown hR.K hR.P 44 (hR.at45 (hR.w.2.1 _ finC_29).2.1) rfl 15 (by decide) (hts _ kw_1041) (fun _ h9 => h9) rfl dX5_play_69 ?_
        have J_100 : ∀ (ad100 : Nat → Nat) (dc100 ds100 : Nat) (U100 : MS) (H : Heap) (locs : List Loc) (ls : Array Slot), w_X5_play_J100 Q U100 → shx S U100 → lgC S U100 dc100 ds100 → adk ad ad100 S → ogC ad100 A s s.heap → RepC g ad100 A s U100 H locs → lv_has ls 3 [(0, .ref (ad100 44))] → W p l e (headSpec (wt yX5_play cX5_play 3 (some .int)) ({ frames := 6, cells := KCC - qn S, slots := KSC - qu S, locals := 135 })).room s m ([.ref (ad 44), .int x1, .int x2] : List Value).toArray below meth c H locs dc100 ds100 (MQ below (va_Qi (fun (r : Int32) (u : MS × (Nat → Nat)) => Q r u.1 ∧ wfC u.1 ∧ shx S u.1 ∧ adk ad u.2 S) (fun (u : MS × (Nat → Nat)) (t : State) => qEHC g A S s.heap u t) A) ([.ref (ad 44), .int x1, .int x2] : List Value).toArray s (KCC - qn S) (KSC - qu S) A) (F0 m 100 ls []) := by
          intro ad100 dc100 ds100 U100 H locs ls h hsh hlg hak hE hR hl
          unfold w_X5_play_J100 at h
          replace h := h hR.w
          refine lv_aload_n hx hb dX5_play_100 rfl (lv_at hl 0 rfl) ?_
          refine va_get (D := rD g) (ci := 5) (v := .int (qI U100 44 15)) (C := RX5) (T := TX5) (N := 20) hx hb hts inX5 hown hR.K hR.P 44 (hR.at45 (hR.w.2.1 _ finC_29).2.1) rfl 15 (by decide) (hts _ kw_1041) (fun _ h9 => h9) rfl dX5_play_101 ?_
          refine lv_if_ge (tgt := 111) hx hb dX5_play_104 (by decide) (fun c20 => ?_) (fun c20 => ?_)
          · replace h := h.1 (k_le (by decide) rfl c20)
            refine lv_aload_n hx hb dX5_play_111 rfl (lv_at hl 0 rfl) ?_
            refine va_get (D := rD g) (ci := 5) (v := .int (qI U100 44 15)) (C := RX5) (T := TX5) (N := 20) hx hb hts inX5 hown hR.K hR.P 44 (hR.at45 (hR.w.2.1 _ finC_29).2.1) rfl 15 (by decide) (hts _ kw_1041) (fun _ h9 => h9) rfl dX5_play_112 ?_
            refine W_led2 (fun hLd => ?_)
            refine W.widen (k := KCC - qn S) (n := KSC - qu S) hlg.c hlg.s ?_
            exact W.iret (v := (qI U100 44 15)) hx hb hr (fun t9 ht9 hW9 => ⟨⟨_, (U100, ad100), rfl, ⟨h, hR.w, hsh, hak⟩, ⟨⟨by rw [ht9]; exact hR.P, hR.D⟩, _, _, by rw [ht9]; exact hLd, hlg⟩⟩, hR.sS.F ht9⟩) hR.sS.2.2 dX5_play_115
          · replace h := h.2 (k_nle (by decide) rfl c20)
            refine lv_iconst (v := 2) hx hb dX5_play_107 (by decide) ?_
            refine lv_goto (tgt := 115) hx hb dX5_play_108 (by decide) ?_
            refine W_led2 (fun hLd => ?_)
            refine W.widen (k := KCC - qn S) (n := KSC - qu S) hlg.c hlg.s ?_
            exact W.iret (v := 2) hx hb hr (fun t9 ht9 hW9 => ⟨⟨_, (U100, ad100), rfl, ⟨h, hR.w, hsh, hak⟩, ⟨⟨by rw [ht9]; exact hR.P, hR.D⟩, _, _, by rw [ht9]; exact hLd, hlg⟩⟩, hR.sS.F ht9⟩) hR.sS.2.2 dX5_play_115
        refine lv_if_ge (tgt := 100) hx hb dX5_play_72 (by decide) (fun c21 => ?_) (fun c21 => ?_)
        · replace h := h.1 (k_le (by decide) rfl c21)
          exact J_100 ad68 (dc68) (ds68) U68 _ _ ls h  hsh hlg hak hE hR (lv_sub hl [0] rfl)
        · replace h := h.2 (k_nle (by decide) rfl c21)
          refine lv_aload_n hx hb dX5_play_75 rfl (lv_at hl 0 rfl) ?_
          refine va_get (D := rD g) (ci := 5) (v := .int (qI U68 44 18)) (C := RX5) (T := TX5) (N := 20) hx hb hts inX5 hown hR.K hR.P 44 (hR.at45 (hR.w.2.1 _ finC_29).2.1) rfl 18 (by decide) (hts _ kw_1120) (fun _ h9 => h9) rfl dX5_play_76 ?_
          refine lv_iload_n hx hb dX5_play_79 rfl (lv_at hl 1 rfl) ?_
          refine lv_icmp_ge (tgt := 100) hx hb dX5_play_80 (by decide) (fun c22 => ?_) (fun c22 => ?_)
          · replace h := h.1 (k_le rfl rfl c22)
            exact J_100 ad68 (dc68) (ds68) U68 _ _ ls h  hsh hlg hak hE hR (lv_sub hl [0] rfl)
          · replace h := h.2 (k_nle rfl rfl c22)
            refine lv_aload_n hx hb dX5_play_83 rfl (lv_at hl 0 rfl) ?_
            refine lv_dup hx hb dX5_play_84 rfl ?_
            refine va_get (D := rD g) (ci := 5) (v := .int (qI U68 44 18)) (C := RX5) (T := TX5) (N := 20) hx hb hts inX5 hown hR.K hR.P 44 (hR.at45 (hR.w.2.1 _ finC_29).2.1) rfl 18 (by decide) (hts _ kw_1120) (fun _ h9 => h9) rfl dX5_play_85 ?_
            refine lv_iconst (v := 1) hx hb dX5_play_88 (by decide) ?_
            refine lv_iadd hx hb dX5_play_89 ?_
            refine lv_topi (fun z23 ez23 => ?_)
            obtain rfl : z23 = ((qI U68 44 18) + (1 : Int32)) := ez23
            refine va_put (D := rD g) (ci := 5) (v := .int ((qI U68 44 18) + (1 : Int32))) (ty := .int) (C := RX5) (T := TX5) (N := 20) hx hb hts inX5 tyX5 tyX5_ok nmX5 hown hR.K hR.P hR.D hR.sS 44 (hR.at45 (hR.w.2.1 _ finC_29).2.1) rfl 18 (by decide) (hts _ kw_1120) (fun _ h9 => h9) rfl (by decide +kernel) rfl rfl (Nat.le_of_ble_eq_true rfl) dX5_play_90 (fun H locs hP hD hS => ?_)
            have hTk9 : qT U68 44 = 45 := (hR.w.2.1 _ finC_29).2.1
            have hR : RepC g ad68 A s (wI U68 44 18 ((qI U68 44 18) + (1 : Int32))) H locs := hR.pI45 (hR.w.2.1 _ finC_29).2.1 FX5_s18 (fun q9 => absurd q9 (by decide)) hP hD hS
            obtain ⟨S24, eS24⟩ : ∃ z, z = wI U68 44 18 ((qI U68 44 18) + (1 : Int32)) := ⟨_, rfl⟩
            rw [← eS24] at hR
            replace h := h S24 eS24 hTk9 hR.w
            have hsh : shx S S24 := by rw [eS24]; exact hsh
            have hlg : lgC S S24 (dc68) (ds68) := by rw [eS24]; exact hlg
            refine lv_aload_n hx hb dX5_play_93 rfl (lv_at hl 0 rfl) ?_
            obtain ⟨Q25, h0, h⟩ := h
            have hFc := cfree hR hA
            refine W_led2 (fun hL0 => ?_)
            refine va_callv (va_runV (As := []) (rest := []) ⟨hx, hb, hml, hown, hts⟩ (rX5_step l g ad68 H S24 hR.w  Q25 h0) (cwV 0 hts (gd_V kw_1122 kw_1161 kw_1162 kw_398 kw_1160) rfl rfl rfl (by decide +kernel) ⟨Nat.le_of_ble_eq_true rfl, Nat.le_of_ble_eq_true rfl⟩) ⟨cblindH, va_recv hR.K hR.P (ci := 5) (q0 := 44) rfl (hR.at45 (hR.w.2.1 _ finC_29).2.1), fun U hU hW9 => cmkH hU hW9 hR hex hE hFc⟩ rfl rfl hl.1 rfl (lv_room (Nat.le_of_ble_eq_true rfl)) dX5_play_94 ⟨(show dc68 + (KCC - qn S24) ≤ KCC - qn S from hlg.cm), (show ds68 + (KSC - qu S24) ≤ KSC - qu S from hlg.sm)⟩) hR.sS (fun q _ h => hFc q h) hFc (fun  S26 t9 H1 locs ht9 hvm9 hw9 hB9 hz9 hk9 hS => ?_)
            rcases S26 with ⟨S26, ak28⟩
            obtain ⟨hB9, dc9, ds9, hL9, hl9⟩ := hB9
            dsimp only at hw9 hB9 hl9
            rw [ht9] at hL9
            obtain ⟨hq27, hw9, hs9, hk8⟩ := hw9
            have hw8 := hR.w
            have hak := hak.tr hk8 hlg.2.2.1
            have hE := hE.ad hk8
            have hR : RepC g ak28 A s S26 H1 locs := hR.callH ht9 hB9 hw9 hS hFc
            have hsh := hsh.tr hs9
            refine W_tight2 (hL0.tr hL9).1 (hL0.tr hL9).2.1 ?_
            have hlg := hlg.call hl9
            replace h := h  S26 hq27 hw9 hs9
            have ea_0 : ak28 44 = ad68 44 := hk8 _ (hw8.hd (hw8.2.1 _ finC_29).2.1 (by decide) (by decide))
            have hl : lv_has ls 3 [(0, .ref (ak28 44)), (2, .int v68_2)] := by simp only [ea_0]; exact hl
            clear hB9 hz9 hk9 hvm9 ht9 hw9 hs9 hS hL0 hL9
            generalize H1 = H at hR ⊢
            generalize dc9 = dc_ak28, ds9 = ds_ak28 at hlg ⊢
            refine lv_goto (tgt := 68) hx hb dX5_play_97 (by decide) ?_
            exact ih_68 ak28 (dc68 + dc_ak28) (ds68 + ds_ak28) S26 v68_2 _ _ ls h  hsh hlg hak hE hR (lv_sub hl [0, 1] rfl)
    obtain ⟨n9, h⟩ := h
    exact J_68 n9 ad26 (dc26) (ds26) S18 v26_2 _ _ ls h  hsh hlg hak hE hR (lv_sub hl [0, 2] rfl)
  refine lv_if_ne (tgt := 26) hx hb dX5_play_5 (by decide) (fun c29 => ?_) (fun c29 => ?_)
  · replace h := h.2 (k_ne hln2 (by decide) c29)
    exact J_26 ad (0) (0) S x1 x2 _ _ ls h  hsh hlg hak hE hR (lv_sub hl [0, 1, 2] rfl)
  · replace h := h.1 (k_eq hln2 (by decide) c29)
    refine lv_aload_n hx hb dX5_play_8 rfl (lv_at hl 0 rfl) ?_
    refine lv_sipush (v := 1440) hx hb dX5_play_9 (by decide) ?_
    obtain ⟨hv30, h⟩ := h
    have e9 : KCC = 300000 := rfl
    have e8 : KSC = 3553400 := rfl
    have e7 : TXB = 10000000 := rfl
    have hTX : qn S < TXB := by have := hv30.1; omega
    refine va_newa (atype := .long) (ty := .long) (a0 := (1440, .inr (.inl (fun _ => 0)))) (N' := 1440) hx hb (hts (.arrayClass .long) kw_564) rfl hR.K hR.P hR.D hR.sS hA (fun _ => rfl) (by decide) (by decide) (by show 1440 * 8 ≤ 536870912; have := hv30.2; omega) (show 0 + 1 ≤ KCC - qn S from hlg.c1 hv30.1) (show 0 + 1440 ≤ KSC - qu S from hlg.s1 hv30.2) dX5_play_12 (fun q31 cA9 H hK9 hP hD hS => ?_)
    obtain rfl := cls_new3 hR.K hK9 (k := 3) rfl (fun _ h => by cases h)
    have hw8 := hR.w
    have hR := hR.new (t := 405) (n := 1440) (k := 1440) hTX (by decide) (by have := hv30.2; omega) (wN_CL (by decide)) hP hD hS
    have hk8 : adk ad (adx ad (qn S) q31) S := adk.rf.new (Nat.le_refl _) hTX
    have hak := hak.new (q := q31) hlg.2.2.1 hTX
    have hE := hE.ad hk8
    have hlg : lgC S (wN S 405 1440 1440) (0 + 1) (0 + 1440) := hlg.new (t := 405) (n := 1440) ⟨hv30.1, hv30.2⟩
    have hs8 : shx S (wN S 405 1440 1440) := shx.newC (t := 405) (n := 1440) (k := 1440) shx.rf hw8 hTX
    obtain ⟨am32, eam32⟩ : ∃ z, z = adx ad (qn S) q31 := ⟨_, rfl⟩
    have eq_q31 : am32 (qn S) = q31 := by rw [eam32]; exact if_pos rfl
    rw [← eam32] at hR hk8 hak hE
    obtain ⟨S33, eS33⟩ : ∃ z, z = wN S 405 1440 1440 := ⟨_, rfl⟩
    rw [← eS33] at hR hlg hs8
    replace h := h S33 eS33 hR.w
    have hsh := hsh.tr hs8
    have hT_b34 : qT S33 (qn S) = 405 := by rw [eS33]; exact if_pos rfl
    have ea_0 : am32 44 = ad 44 := hk8 _ (hw8.hd (hw8.2.1 _ finC_29).2.1 (by decide) (by decide))
    have hl : lv_has ls 3 [(0, .ref (am32 44)), (1, .int x1), (2, .int x2)] := by simp only [ea_0]; exact hl
    refine W.eq (g2 := F0 m 14 ls [.ref (am32 (qn S)), .ref (am32 44)]) (by simp only [ea_0, eq_q31]) ?_
    clear hw8 hk8 hs8 hP hD hS e9 e8 e7 hTX
    refine va_put (D := rD g) (ci := 5) (v := .ref (am32 (qn S))) (ty := (.array .long)) (C := RX5) (T := TX5) (N := 20) hx hb hts inX5 tyX5 tyX5_ok nmX5 hown hR.K hR.P hR.D hR.sS 44 (hR.at45 (hR.w.2.1 _ finC_29).2.1) rfl 9 (by decide) (hts _ kw_1046) (fun _ h9 => h9) rfl (by decide +kernel) rfl rfl (Nat.le_of_ble_eq_true rfl) dX5_play_14 (fun H locs hP hD hS => ?_)
    have hw9 : wfC (wR S33 44 9 (some (qn S))) := hR.w.put (fun b q9 => by cases q9; exact (hT_b34).trans (by rw [(hR.w.2.1 _ finC_29).2.1]; rfl)) (nofC_44_9) (by rw [(hR.w.2.1 _ finC_29).2.1]; decide) (fun b _ q9 => absurd (show otgC (qT S33 44) 9 = 0 by rw [(hR.w.2.1 _ finC_29).2.1]; decide) q9) (fun _ => Option.some_ne_none _)
    have hTk9 : qT S33 44 = 45 := (hR.w.2.1 _ finC_29).2.1
    have hR : RepC g am32 A s (wR S33 44 9 (some (qn S))) H locs := hR.pR45 (hR.w.2.1 _ finC_29).2.1 FX5_s9 hw9 hP hD hS
    obtain ⟨S35, eS35⟩ : ∃ z, z = wR S33 44 9 (some (qn S)) := ⟨_, rfl⟩
    rw [← eS35] at hR
    replace h := h S35 eS35 hTk9 hR.w
    have hsh : shx S S35 := by rw [eS35]; exact hsh
    have hlg : lgC S S35 (0 + 1) (0 + 1440) := by rw [eS35]; exact hlg
    refine lv_aload_n hx hb dX5_play_17 rfl (lv_at hl 0 rfl) ?_
    refine lv_sipush (v := 1440) hx hb dX5_play_18 (by decide) ?_
    obtain ⟨hv36, h⟩ := h
    have e9 : KCC = 300000 := rfl
    have e8 : KSC = 3553400 := rfl
    have e7 : TXB = 10000000 := rfl
    have hTX : qn S35 < TXB := by have := hv36.1; omega
    refine va_newa (atype := .long) (ty := .long) (a0 := (1440, .inr (.inl (fun _ => 0)))) (N' := 1440) hx hb (hts (.arrayClass .long) kw_564) rfl hR.K hR.P hR.D hR.sS hA (fun _ => rfl) (by decide) (by decide) (by show 1440 * 8 ≤ 536870912; have := hv36.2; omega) (show 0 + 1 + 1 ≤ KCC - qn S from hlg.c1 hv36.1) (show 0 + 1440 + 1440 ≤ KSC - qu S from hlg.s1 hv36.2) dX5_play_21 (fun q37 cA9 H hK9 hP hD hS => ?_)
    obtain rfl := cls_new3 hR.K hK9 (k := 3) rfl (fun _ h => by cases h)
    have hw8 := hR.w
    have hR := hR.new (t := 404) (n := 1440) (k := 1440) hTX (by decide) (by have := hv36.2; omega) (wN_CL (by decide)) hP hD hS
    have hk8 : adk am32 (adx am32 (qn S35) q37) S35 := adk.rf.new (Nat.le_refl _) hTX
    have hak := hak.new (q := q37) hlg.2.2.1 hTX
    have hE := hE.ad hk8
    have hlg : lgC S (wN S35 404 1440 1440) (0 + 1 + 1) (0 + 1440 + 1440) := hlg.new (t := 404) (n := 1440) ⟨hv36.1, hv36.2⟩
    have hs8 : shx S35 (wN S35 404 1440 1440) := shx.newC (t := 404) (n := 1440) (k := 1440) shx.rf hw8 hTX
    obtain ⟨am38, eam38⟩ : ∃ z, z = adx am32 (qn S35) q37 := ⟨_, rfl⟩
    have eq_q37 : am38 (qn S35) = q37 := by rw [eam38]; exact if_pos rfl
    rw [← eam38] at hR hk8 hak hE
    obtain ⟨S39, eS39⟩ : ∃ z, z = wN S35 404 1440 1440 := ⟨_, rfl⟩
    rw [← eS39] at hR hlg hs8
    replace h := h S39 eS39 hR.w
    have hsh := hsh.tr hs8
    have hT_b40 : qT S39 (qn S35) = 404 := by rw [eS39]; exact if_pos rfl
    have ea_0 : am38 44 = am32 44 := hk8 _ (hw8.hd (hw8.2.1 _ finC_29).2.1 (by decide) (by decide))
    have hl : lv_has ls 3 [(0, .ref (am38 44)), (1, .int x1), (2, .int x2)] := by simp only [ea_0]; exact hl
    refine W.eq (g2 := F0 m 23 ls [.ref (am38 (qn S35)), .ref (am38 44)]) (by simp only [ea_0, eq_q37]) ?_
    clear hw8 hk8 hs8 hP hD hS e9 e8 e7 hTX
    refine va_put (D := rD g) (ci := 5) (v := .ref (am38 (qn S35))) (ty := (.array .long)) (C := RX5) (T := TX5) (N := 20) hx hb hts inX5 tyX5 tyX5_ok nmX5 hown hR.K hR.P hR.D hR.sS 44 (hR.at45 (hR.w.2.1 _ finC_29).2.1) rfl 8 (by decide) (hts _ kw_1044) (fun _ h9 => h9) rfl (by decide +kernel) rfl rfl (Nat.le_of_ble_eq_true rfl) dX5_play_23 (fun H locs hP hD hS => ?_)
    have hw9 : wfC (wR S39 44 8 (some (qn S35))) := hR.w.put (fun b q9 => by cases q9; exact (hT_b40).trans (by rw [(hR.w.2.1 _ finC_29).2.1]; rfl)) (nofC_44_8) (by rw [(hR.w.2.1 _ finC_29).2.1]; decide) (fun b _ q9 => absurd (show otgC (qT S39 44) 8 = 0 by rw [(hR.w.2.1 _ finC_29).2.1]; decide) q9) (fun _ => Option.some_ne_none _)
    have hTk9 : qT S39 44 = 45 := (hR.w.2.1 _ finC_29).2.1
    have hR : RepC g am38 A s (wR S39 44 8 (some (qn S35))) H locs := hR.pR45 (hR.w.2.1 _ finC_29).2.1 FX5_s8 hw9 hP hD hS
    obtain ⟨S41, eS41⟩ : ∃ z, z = wR S39 44 8 (some (qn S35)) := ⟨_, rfl⟩
    rw [← eS41] at hR
    replace h := h S41 eS41 hTk9 hR.w
    have hsh : shx S S41 := by rw [eS41]; exact hsh
    have hlg : lgC S S41 (0 + 1 + 1) (0 + 1440 + 1440) := by rw [eS41]; exact hlg
    exact J_26 am38 (0 + 1 + 1) (0 + 1440 + 1440) S41 x1 x2 _ _ ls h  hsh hlg hak hE hR (lv_sub hl [0, 1, 2] rfl)
def w_X12_run_J24 (Q : Int32 → MS → Prop) (U24 : MS) (v24_3 : Int32) : Prop := (wfC U24 → (∀ S5, S5 = wI U24 44 7 (0 : Int32) → qT U24 44 = 45 → wfC S5 → Q v24_3 S5))
def wX12_run (S : MS) (x1 : Int32) (x2 : Int32) (Q : Int32 → MS → Prop) : Prop := (∃ Q1, wX5_refusal S x1 x2 Q1 ∧ ∀ r2 S3, Q1 r2 S3 → wfC S3 → shy S S3 → ((r2.toInt = 0 → (∃ Q7, wX5_play S3 x1 x2 Q7 ∧ ∀ r8 S9, Q7 r8 S9 → wfC S9 → shx S3 S9 → w_X12_run_J24 Q S9 r8)) ∧ (¬ r2.toInt = 0 → w_X12_run_J24 Q S3 r2)))
set_option maxHeartbeats 2000000 in
set_option maxRecDepth 100000 in
theorem rX12_run (l : Launch) (g : Gr) (ad : Nat → Nat) (H0 : Heap) (S : MS) (x1 : Int32) (x2 : Int32) (hw : wfC S) (Q : Int32 → MS → Prop) (h : wX12_run S x1 x2 Q) : Met l yX12_run (wt yX12_run cX12_run 4 (some .int)) ({ frames := 7, cells := KCC - qn S, slots := KSC - qu S, locals := 157 }) (va_Pc [.ref (ad 0), .int x1, .int x2] (st_CH g ad H0 S)) (va_Qi (fun (r : Int32) (u : MS × (Nat → Nat)) => Q r u.1 ∧ wfC u.1 ∧ shx S u.1 ∧ adk ad u.2 S) (fun (u : MS × (Nat → Nat)) (t : State) => qEHC g (va_A (WdC g ad S) H0.size) S H0 u t) (va_A (WdC g ad S) H0.size)) (KCC - qn S) (KSC - qu S) (va_A (WdC g ad S) H0.size) := by
  refine Met.ofW (cc := cX12_run) (maxL := 4) (ret := (some .int)) (by decide) rfl ?_
  intro p e s m args below meth c s₁ B hml hv
  obtain ⟨rfl, hH0, hsz, hP, hK, hD0, hex, hE⟩ := hv
  have hx := B.exec
  have hb := B.bytes
  have hr := B.returns
  have hts0 := atoms_spec (ws := wt yX12_run cX12_run 4 (some .int)) B.pre
  have hts : ∀ w ∈ tb, w.before _ s = true := fun w h => hts0 w (List.mem_cons_of_mem _ h)
  have hown : s.vm.findClass RX12 = some m.cls := findClass_of_methodNamed B.named
  subst hH0
  have hD := hD0.self (sz := s.heap.size)
  generalize hAe : va_A (WdC g ad S) s.heap.size = A at hD hE ⊢
  have hA : ∀ q : Nat, s.heap.size ≤ q → A q := fun q h => by rw [← hAe]; exact Or.inr h
  have hR : RepC g ad A s S s.heap [] := ⟨hK, hP, hD, va_S.rf, hw⟩
  clear hK hP hD hD0
  have hl := lv_entry ([.ref (ad 0), .int x1, .int x2]) (n := 4) (Nat.le_of_ble_eq_true rfl)
  rw [lg_entry_eq]
  generalize (lg_sl ([.ref (ad 0), .int x1, .int x2]) ++ List.replicate (4 - (lg_sl ([.ref (ad 0), .int x1, .int x2])).length) Slot.unset).toArray = ls at hl ⊢
  have hlg : lgC S S 0 0 := lgC.rf
  have hak : adk ad ad S := adk.rf
  have hl : lv_has ls 4 [(0, .ref (ad 0)), (1, .int x1), (2, .int x2)] := hl
  have hsh : shx S S := shx.rf
  unfold wX12_run at h
  refine lv_aload_n hx hb dX12_run_0 rfl (lv_at hl 0 rfl) ?_
  refine va_get (D := rD g) (ci := 11) (v := .ref (ad 44)) (C := RX12) (T := TX12) (N := 18) hx hb hts inX12 hown hR.K hR.P 0 (hR.at51 hR.w.1) rfl 7 (by decide) (hts _ kw_286) (fun _ h9 => h9) (congrArg (fun z => some (vf ad z)) (hR.w.2.1 _ finC_29).1) dX12_run_1 ?_
  refine lv_iload_n hx hb dX12_run_4 rfl (lv_at hl 1 rfl) ?_
  refine lv_iload_n hx hb dX12_run_5 rfl (lv_at hl 2 rfl) ?_
  obtain ⟨Q1, h0, h⟩ := h
  have hFc := cfree hR hA
  refine va_calli (va_runV (As := [.int x1, .int x2]) (rest := []) ⟨hx, hb, hml, hown, hts⟩ (rX5_refusal l g ad s.heap.size S x1 x2 hR.w  Q1 h0) (cwV 2 hts (gd_V kw_438 kw_1140 kw_1141 kw_398 kw_1139) rfl rfl rfl (by decide +kernel) ⟨Nat.le_of_ble_eq_true rfl, Nat.le_of_ble_eq_true rfl⟩) ⟨cblind, va_recv hR.K hR.P (ci := 5) (q0 := 44) rfl (hR.at45 (hR.w.2.1 _ finC_29).2.1), fun U hU hW9 => cmk hU hW9 hR hex hE hFc⟩ rfl rfl hl.1 rfl (lv_room (Nat.le_of_ble_eq_true rfl)) dX12_run_6 ⟨(show 0 + 0 ≤ KCC - qn S from hlg.c), (show 0 + 0 ≤ KSC - qu S from hlg.s)⟩) hR.sS (fun q _ h => hFc q h) hFc (fun r2 S3 t9 H1 locs ht9 hvm9 hw9 hB9 hz9 hk9 hS => ?_)
  obtain ⟨hq4, hw9, hs9⟩ := hw9
  have hR : RepC g ad A s S3 H1 locs := hR.call ht9 hB9 hw9 hS hFc
  have hsh := hsh.tr hs9.1
  have hlg : lgC S S3 (0) (0) := hlg.same hs9
  replace h := h r2 S3 hq4 hw9 hs9
  clear hB9 hz9 hk9 hvm9 ht9 hw9 hs9 hS
  generalize H1 = H at hR ⊢
  refine lv_istore_n (lv' := [(3, .int r2), (0, .ref (ad 0)), (1, .int x1), (2, .int x2)]) hx hb dX12_run_9 rfl hl (by decide) rfl (fun ls hl => ?_)
  refine lv_iload_n hx hb dX12_run_10 rfl (lv_at hl 0 rfl) ?_
  have J_24 : ∀ (ad24 : Nat → Nat) (dc24 ds24 : Nat) (U24 : MS) (v24_3 : Int32) (H : Heap) (locs : List Loc) (ls : Array Slot), w_X12_run_J24 Q U24 v24_3 → shx S U24 → lgC S U24 dc24 ds24 → adk ad ad24 S → ogC ad24 A s s.heap → RepC g ad24 A s U24 H locs → lv_has ls 4 [(0, .ref (ad24 0)), (3, .int v24_3)] → W p l e (headSpec (wt yX12_run cX12_run 4 (some .int)) ({ frames := 7, cells := KCC - qn S, slots := KSC - qu S, locals := 157 })).room s m ([.ref (ad 0), .int x1, .int x2] : List Value).toArray below meth c H locs dc24 ds24 (MQ below (va_Qi (fun (r : Int32) (u : MS × (Nat → Nat)) => Q r u.1 ∧ wfC u.1 ∧ shx S u.1 ∧ adk ad u.2 S) (fun (u : MS × (Nat → Nat)) (t : State) => qEHC g A S s.heap u t) A) ([.ref (ad 0), .int x1, .int x2] : List Value).toArray s (KCC - qn S) (KSC - qu S) A) (F0 m 24 ls []) := by
    intro ad24 dc24 ds24 U24 v24_3 H locs ls h hsh hlg hak hE hR hl
    unfold w_X12_run_J24 at h
    replace h := h hR.w
    refine lv_aload_n hx hb dX12_run_24 rfl (lv_at hl 0 rfl) ?_
    refine va_get (D := rD g) (ci := 11) (v := .ref (ad24 44)) (C := RX12) (T := TX12) (N := 18) hx hb hts inX12 hown hR.K hR.P 0 (hR.at51 hR.w.1) rfl 7 (by decide) (hts _ kw_286) (fun _ h9 => h9) (congrArg (fun z => some (vf ad24 z)) (hR.w.2.1 _ finC_29).1) dX12_run_25 ?_
    refine lv_iconst (v := 0) hx hb dX12_run_28 (by decide) ?_
    refine va_put (D := rD g) (ci := 5) (v := .int 0) (ty := .int) (C := RX5) (T := TX5) (N := 20) hx hb hts inX5 tyX5 tyX5_ok nmX5 hown hR.K hR.P hR.D hR.sS 44 (hR.at45 (hR.w.2.1 _ finC_29).2.1) rfl 7 (by decide) (hts _ kw_440) (fun _ h9 => h9) rfl (by decide +kernel) rfl rfl (Nat.le_of_ble_eq_true rfl) dX12_run_29 (fun H locs hP hD hS => ?_)
    have hTk9 : qT U24 44 = 45 := (hR.w.2.1 _ finC_29).2.1
    have hR : RepC g ad24 A s (wI U24 44 7 (0 : Int32)) H locs := hR.pI45 (hR.w.2.1 _ finC_29).2.1 FX5_s7 (fun q9 => absurd q9 (by decide)) hP hD hS
    obtain ⟨S5, eS5⟩ : ∃ z, z = wI U24 44 7 (0 : Int32) := ⟨_, rfl⟩
    rw [← eS5] at hR
    replace h := h S5 eS5 hTk9 hR.w
    have hsh : shx S S5 := by rw [eS5]; exact hsh
    have hlg : lgC S S5 (dc24) (ds24) := by rw [eS5]; exact hlg
    refine lv_iload_n hx hb dX12_run_32 rfl (lv_at hl 1 rfl) ?_
    refine W_led2 (fun hLd => ?_)
    refine W.widen (k := KCC - qn S) (n := KSC - qu S) hlg.c hlg.s ?_
    exact W.iret (v := v24_3) hx hb hr (fun t9 ht9 hW9 => ⟨⟨_, (S5, ad24), rfl, ⟨h, hR.w, hsh, hak⟩, ⟨⟨by rw [ht9]; exact hR.P, hR.D⟩, _, _, by rw [ht9]; exact hLd, hlg⟩⟩, hR.sS.F ht9⟩) hR.sS.2.2 dX12_run_33
  refine lv_if_ne (tgt := 24) hx hb dX12_run_11 (by decide) (fun c6 => ?_) (fun c6 => ?_)
  · replace h := h.2 (k_ne rfl (by decide) c6)
    exact J_24 ad (0) (0) S3 r2 _ _ ls h  hsh hlg hak hE hR (lv_sub hl [1, 0] rfl)
  · replace h := h.1 (k_eq rfl (by decide) c6)
    refine lv_aload_n hx hb dX12_run_14 rfl (lv_at hl 1 rfl) ?_
    refine va_get (D := rD g) (ci := 11) (v := .ref (ad 44)) (C := RX12) (T := TX12) (N := 18) hx hb hts inX12 hown hR.K hR.P 0 (hR.at51 hR.w.1) rfl 7 (by decide) (hts _ kw_286) (fun _ h9 => h9) (congrArg (fun z => some (vf ad z)) (hR.w.2.1 _ finC_29).1) dX12_run_15 ?_
    refine lv_iload_n hx hb dX12_run_18 rfl (lv_at hl 2 rfl) ?_
    refine lv_iload_n hx hb dX12_run_19 rfl (lv_at hl 3 rfl) ?_
    obtain ⟨Q7, h0, h⟩ := h
    have hFc := cfree hR hA
    refine W_led2 (fun hL0 => ?_)
    refine va_calli (va_runV (As := [.int x1, .int x2]) (rest := []) ⟨hx, hb, hml, hown, hts⟩ (rX5_play l g ad H S3 x1 x2 hR.w  Q7 h0) (cwV 2 hts (gd_V kw_439 kw_1118 kw_1119 kw_398 kw_1117) rfl rfl rfl (by decide +kernel) ⟨Nat.le_of_ble_eq_true rfl, Nat.le_of_ble_eq_true rfl⟩) ⟨cblindH, va_recv hR.K hR.P (ci := 5) (q0 := 44) rfl (hR.at45 (hR.w.2.1 _ finC_29).2.1), fun U hU hW9 => cmkH hU hW9 hR hex hE hFc⟩ rfl rfl hl.1 rfl (lv_room (Nat.le_of_ble_eq_true rfl)) dX12_run_20 ⟨(show 0 + (KCC - qn S3) ≤ KCC - qn S from hlg.cm), (show 0 + (KSC - qu S3) ≤ KSC - qu S from hlg.sm)⟩) hR.sS (fun q _ h => hFc q h) hFc (fun r8 S9 t9 H1 locs ht9 hvm9 hw9 hB9 hz9 hk9 hS => ?_)
    rcases S9 with ⟨S9, ak11⟩
    obtain ⟨hB9, dc9, ds9, hL9, hl9⟩ := hB9
    dsimp only at hw9 hB9 hl9
    rw [ht9] at hL9
    obtain ⟨hq10, hw9, hs9, hk8⟩ := hw9
    have hw8 := hR.w
    have hak := hak.tr hk8 hlg.2.2.1
    have hE := hE.ad hk8
    have hR : RepC g ak11 A s S9 H1 locs := hR.callH ht9 hB9 hw9 hS hFc
    have hsh := hsh.tr hs9
    refine W_tight2 (hL0.tr hL9).1 (hL0.tr hL9).2.1 ?_
    have hlg := hlg.call hl9
    replace h := h r8 S9 hq10 hw9 hs9
    have ea_0 : ak11 0 = ad 0 := hk8 _ (hw8.hd hw8.1 (by decide) (by decide))
    have hl : lv_has ls 4 [(3, .int r2), (0, .ref (ak11 0)), (1, .int x1), (2, .int x2)] := by simp only [ea_0]; exact hl
    clear hB9 hz9 hk9 hvm9 ht9 hw9 hs9 hS hL0 hL9
    generalize H1 = H at hR ⊢
    generalize dc9 = dc_ak11, ds9 = ds_ak11 at hlg ⊢
    refine lv_istore_n (lv' := [(3, .int r8), (0, .ref (ak11 0)), (1, .int x1), (2, .int x2)]) hx hb dX12_run_23 rfl hl (by decide) rfl (fun ls hl => ?_)
    exact J_24 ak11 (0 + dc_ak11) (0 + ds_ak11) S9 r8 _ _ ls h  hsh hlg hak hE hR (lv_sub hl [1, 0] rfl)
