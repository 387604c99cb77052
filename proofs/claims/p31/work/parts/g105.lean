def f_errorName (S : MS) (x0 : Int32) : Nat := (if x0.toInt = 0 then 10000002 else (if x0.toInt = 1 then 10000004 else (if x0.toInt = 2 then 10000006 else 10000008)))
def d_errorName (S : MS) (x0 : Int32) : Prop := True
set_option maxHeartbeats 2000000 in
set_option maxRecDepth 100000 in
theorem r_errorName (l : Launch) (g : Gr) (ad : Nat → Nat) (sz : Nat) (S : MS) (x0 : Int32) (hw : wfM S) (hd : d_errorName S x0) : Met l yX14_errorName (wt2 yX14_errorName cX14_errorName 1 (some (.object "java/lang/String"))) ({ frames := 0, cells := 0, slots := 0, locals := 0 }) (va_Pc [.int x0] (st_R g ad sz S)) (va_Qq (fun (r : Option Nat) (_ : Unit) => r = some (ad (f_errorName S x0)) ∧ qT S (f_errorName S x0) = 12) (fun (_ : Unit) (t : State) => qE g ad (va_A (Wd g ad S) sz) S t) (va_A (Wd g ad S) sz)) 0 0 (va_A (Wd g ad S) sz) := by
  refine Met.ofW (cc := cX14_errorName) (maxL := 1) (ret := (some (.object "java/lang/String"))) (by decide) rfl ?_
  intro p e s m args below meth c s₁ B hml hv
  obtain ⟨rfl, hsz, hP, hK, hD0, hex, hE⟩ := hv
  have hx := B.exec
  have hb := B.bytes
  have hr := B.returns
  have hts0 := atoms_spec (ws := wt2 yX14_errorName cX14_errorName 1 (some (.object "java/lang/String"))) B.pre
  have hts : ∀ w ∈ tb2, w.before _ s = true := fun w h => hts0 w (List.mem_cons_of_mem _ h)
  have hown : s.vm.findClass RX14 = some m.cls := findClass_of_methodNamed B.named
  subst hsz
  have hD := hD0.self (sz := s.heap.size)
  generalize hAe : va_A (Wd g ad S) s.heap.size = A at hD hE ⊢
  have hA : ∀ q : Nat, s.heap.size ≤ q → A q := fun q h => by rw [← hAe]; exact Or.inr h
  have hR : Rep g ad A s S s.heap [] := ⟨hK, hP, hD, va_S.rf, hw⟩
  clear hK hP hD hD0
  have hl := lv_entry ([.int x0]) (n := 1) (Nat.le_of_ble_eq_true rfl)
  rw [lg_entry_eq]
  generalize (lg_sl ([.int x0]) ++ List.replicate (1 - (lg_sl ([.int x0])).length) Slot.unset).toArray = ls at hl ⊢
  have hl : lv_has ls 1 [(0, .int x0)] := hl
  obtain ⟨r0, hf⟩ : ∃ r0, f_errorName S x0 = r0 := ⟨_, rfl⟩
  have hf0 := hf
  unfold f_errorName at hf
  unfold d_errorName at hd
  refine lv_iload_n hx hb dX14_errorName_0 rfl (lv_at hl 0 rfl) ?_
  refine lv_if_ne (tgt := 10) hx hb dX14_errorName_1 (by decide) (fun c1 => ?_) (fun c1 => ?_)
  · rw [if_neg (k_ne rfl (by decide) c1)] at hf
    (try rw [if_neg (k_ne rfl (by decide) c1)] at hd)
    refine lv_iload_n hx hb dX14_errorName_10 rfl (lv_at hl 0 rfl) ?_
    refine lv_iconst (v := 1) hx hb dX14_errorName_11 (by decide) ?_
    refine lv_icmp_ne (tgt := 21) hx hb dX14_errorName_12 (by decide) (fun c2 => ?_) (fun c2 => ?_)
    · rw [if_neg (k_ne rfl (by decide) c2)] at hf
      (try rw [if_neg (k_ne rfl (by decide) c2)] at hd)
      refine lv_iload_n hx hb dX14_errorName_21 rfl (lv_at hl 0 rfl) ?_
      refine lv_iconst (v := 2) hx hb dX14_errorName_22 (by decide) ?_
      refine lv_icmp_ne (tgt := 32) hx hb dX14_errorName_23 (by decide) (fun c3 => ?_) (fun c3 => ?_)
      · rw [if_neg (k_ne rfl (by decide) c3)] at hf
        (try rw [if_neg (k_ne rfl (by decide) c3)] at hd)
        have hT_t4 : qT S 10000008 = 12 := hR.w.txt (i := 4) (by decide)
        refine va_ldcSW (tx := "SizeError") (q := ad 10000008) hx hb hown (hE.2.2 _ ldc_538) dX14_errorName_32 ?_
        exact W.aret (v := .ref (ad 10000008)) hx hb hr (Or.inl ⟨_, rfl⟩) (Or.inr ⟨_, rfl⟩) (fun t9 ht9 hW9 => ⟨⟨some (ad 10000008), (), rfl, ⟨by rw [hf0, ← hf], by rw [hf0, ← hf]; exact hT_t4⟩, ⟨by rw [ht9]; exact hR.P, hR.D⟩⟩, hR.sS.F ht9⟩) hR.sS.2.2 dX14_errorName_35
      · rw [if_pos (k_eq rfl (by decide) c3)] at hf
        (try rw [if_pos (k_eq rfl (by decide) c3)] at hd)
        have hT_t5 : qT S 10000006 = 12 := hR.w.txt (i := 3) (by decide)
        refine va_ldcSW (tx := "IndexError") (q := ad 10000006) hx hb hown (hE.2.2 _ ldc_536) dX14_errorName_26 ?_
        refine lv_goto (tgt := 35) hx hb dX14_errorName_29 (by decide) ?_
        exact W.aret (v := .ref (ad 10000006)) hx hb hr (Or.inl ⟨_, rfl⟩) (Or.inr ⟨_, rfl⟩) (fun t9 ht9 hW9 => ⟨⟨some (ad 10000006), (), rfl, ⟨by rw [hf0, ← hf], by rw [hf0, ← hf]; exact hT_t5⟩, ⟨by rw [ht9]; exact hR.P, hR.D⟩⟩, hR.sS.F ht9⟩) hR.sS.2.2 dX14_errorName_35
    · rw [if_pos (k_eq rfl (by decide) c2)] at hf
      (try rw [if_pos (k_eq rfl (by decide) c2)] at hd)
      have hT_t6 : qT S 10000004 = 12 := hR.w.txt (i := 2) (by decide)
      refine va_ldcSW (tx := "NullError") (q := ad 10000004) hx hb hown (hE.2.2 _ ldc_534) dX14_errorName_15 ?_
      refine lv_goto (tgt := 35) hx hb dX14_errorName_18 (by decide) ?_
      exact W.aret (v := .ref (ad 10000004)) hx hb hr (Or.inl ⟨_, rfl⟩) (Or.inr ⟨_, rfl⟩) (fun t9 ht9 hW9 => ⟨⟨some (ad 10000004), (), rfl, ⟨by rw [hf0, ← hf], by rw [hf0, ← hf]; exact hT_t6⟩, ⟨by rw [ht9]; exact hR.P, hR.D⟩⟩, hR.sS.F ht9⟩) hR.sS.2.2 dX14_errorName_35
  · rw [if_pos (k_eq rfl (by decide) c1)] at hf
    (try rw [if_pos (k_eq rfl (by decide) c1)] at hd)
    have hT_t7 : qT S 10000002 = 12 := hR.w.txt (i := 1) (by decide)
    refine va_ldcSW (tx := "DivideError") (q := ad 10000002) hx hb hown (hE.2.2 _ ldc_532) dX14_errorName_4 ?_
    refine lv_goto (tgt := 35) hx hb dX14_errorName_7 (by decide) ?_
    exact W.aret (v := .ref (ad 10000002)) hx hb hr (Or.inl ⟨_, rfl⟩) (Or.inr ⟨_, rfl⟩) (fun t9 ht9 hW9 => ⟨⟨some (ad 10000002), (), rfl, ⟨by rw [hf0, ← hf], by rw [hf0, ← hf]; exact hT_t7⟩, ⟨by rw [ht9]; exact hR.P, hR.D⟩⟩, hR.sS.F ht9⟩) hR.sS.2.2 dX14_errorName_35
def w_text_L16 (Q : Nat → MS → Prop) : Nat → MS → Int32 → Nat → Int32 → Prop
  | 0, _, _, _, _ => False
  | n16 + 1, U16, v16_1, v16_2, v16_3 => (((0 : Int) ≤ v16_1.toInt ∧ v16_1.toInt < 502) ∧ (((qI U16 7 v16_1.toInt.toNat).toInt ≤ v16_3.toInt → (∃ Q15, w_J4_toString_0e30d U16 v16_2 Q15 ∧ ∀ b20 S17, Q15 b20 S17 → Q b20 S17)) ∧ (¬ (qI U16 7 v16_1.toInt.toNat).toInt ≤ v16_3.toInt → (d_letter U16 v16_1 v16_3 ∧ (∃ Q24, w_J4_append_cf468 U16 v16_2 (((f_letter U16 v16_1 v16_3).toUInt32 % 65536).toInt32) Q24 ∧ ∀ b29 S26, Q24 b29 S26 → (∀ a30 : Int32, a30 = (v16_3 + Int32.ofInt 1) → (w_text_L16 Q n16) S26 v16_1 v16_2 a30))))))
def w_text (S : MS) (x1 : Int32) (Q : Nat → MS → Prop) : Prop := ((qn S + 1 ≤ KC ∧ qu S + 4 ≤ KS) ∧ (∀ S4, S4 = wN S 13 0 4 → (((0 : Int) ≤ x1.toInt ∧ x1.toInt < 502) ∧ (∃ Q8, w_J4_init_d00df S4 (qn S) (qI S4 7 x1.toInt.toNat) Q8 ∧ ∀ S9, Q8 S9 → (∃ n, w_text_L16 Q n S9 x1 (qn S) 0)))))
set_option maxHeartbeats 2000000 in
set_option maxRecDepth 100000 in
theorem r_text (l : Launch) (g : Gr) (ad : Nat → Nat) (H0 : Heap) (S : MS) (x1 : Int32) (hw : wfM S) (Q : Nat → MS → Prop) (h : w_text S x1 Q) : Met l yX14_text (wt2 yX14_text cX14_text 4 (some (.object "java/lang/String"))) ({ frames := 6, cells := KC - qn S, slots := KS - qu S, locals := 151 }) (va_Pc [.ref (ad 0), .int x1] (st_RH g ad H0 S)) (va_Qq (fun (r : Option Nat) (u : MS × (Nat → Nat)) => ∃ b : Nat, r = some (u.2 b) ∧ Q b u.1 ∧ wfM u.1 ∧ shx S u.1 ∧ adk ad u.2 S ∧ qT u.1 b = 12) (fun (u : MS × (Nat → Nat)) (t : State) => qEH g (va_A (Wd g ad S) H0.size) S H0 u t) (va_A (Wd g ad S) H0.size)) (KC - qn S) (KS - qu S) (va_A (Wd g ad S) H0.size) := by
  refine Met.ofW (cc := cX14_text) (maxL := 4) (ret := (some (.object "java/lang/String"))) (by decide) rfl ?_
  intro p e s m args below meth c s₁ B hml hv
  obtain ⟨rfl, hH0, hsz, hP, hK, hD0, hex, hE⟩ := hv
  have hx := B.exec
  have hb := B.bytes
  have hr := B.returns
  have hts0 := atoms_spec (ws := wt2 yX14_text cX14_text 4 (some (.object "java/lang/String"))) B.pre
  have hts : ∀ w ∈ tb2, w.before _ s = true := fun w h => hts0 w (List.mem_cons_of_mem _ h)
  have hown : s.vm.findClass RX14 = some m.cls := findClass_of_methodNamed B.named
  subst hH0
  have hD := hD0.self (sz := s.heap.size)
  generalize hAe : va_A (Wd g ad S) s.heap.size = A at hD hE ⊢
  have hA : ∀ q : Nat, s.heap.size ≤ q → A q := fun q h => by rw [← hAe]; exact Or.inr h
  have hR : Rep g ad A s S s.heap [] := ⟨hK, hP, hD, va_S.rf, hw⟩
  clear hK hP hD hD0
  have hl := lv_entry ([.ref (ad 0), .int x1]) (n := 4) (Nat.le_of_ble_eq_true rfl)
  rw [lg_entry_eq]
  generalize (lg_sl ([.ref (ad 0), .int x1]) ++ List.replicate (4 - (lg_sl ([.ref (ad 0), .int x1])).length) Slot.unset).toArray = ls at hl ⊢
  have hlg : lg S S 0 0 := lg.rf
  have hak : adk ad ad S := adk.rf
  have hl : lv_has ls 4 [(0, .ref (ad 0)), (1, .int x1)] := hl
  have hsh : shx S S := shx.rf
  unfold w_text at h
  obtain ⟨hv1, h⟩ := h
  have e9 : KC = 300000 := rfl
  have e8 : KS = 3720000 := rfl
  have e7 : TXB = 10000000 := rfl
  have hTX : qn S < TXB := by have := hv1.1; omega
  refine va_new (ci := 16) (fs := dfJ4) (C := RJ4) (T := TJ4) (N := 4) hx hb hts in2J4 tyJ4 tyJ4_ok hown (hts _ kx_333) (hts _ kx_334) (hts _ kx_113) hR.K hR.P hR.D hR.sS hA rfl dfJ4_ok (show 0 + 1 ≤ KC - qn S from hlg.c1 hv1.1) (show 0 + 4 ≤ KS - qu S from hlg.s1 hv1.2) dX14_text_0 (fun q2 H hP hD hS => ?_)
  have hw8 := hR.w
  have hR := hR.new (t := 13) (n := 0) (k := 4) hTX (by decide) (fun q9 => absurd q9 (by decide)) wN_cU hP hD hS
  have hk8 : adk ad (adx ad (qn S) q2) S := adk.rf.new (Nat.le_refl _) hTX
  have hak := hak.new (q := q2) hlg.2.2.1 hTX
  have hE := hE.ad hk8
  have hlg : lg S (wN S 13 0 4) (0 + 1) (0 + 4) := hlg.new (t := 13) (n := 0) ⟨hv1.1, hv1.2⟩
  have hs8 : shx S (wN S 13 0 4) := shx.new (t := 13) (n := 0) (k := 4) shx.rf hw8 hTX
  obtain ⟨am3, eam3⟩ : ∃ z, z = adx ad (qn S) q2 := ⟨_, rfl⟩
  have eq_q2 : am3 (qn S) = q2 := by rw [eam3]; exact if_pos rfl
  rw [← eam3] at hR hk8 hak hE
  obtain ⟨S4, eS4⟩ : ∃ z, z = wN S 13 0 4 := ⟨_, rfl⟩
  rw [← eS4] at hR hlg hs8
  replace h := h S4 eS4
  have hsh := hsh.tr hs8
  have hT_b5 : qT S4 (qn S) = 13 := by rw [eS4]; exact if_pos rfl
  have ea_0 : am3 0 = ad 0 := hk8 _ (hw8.hd hw8.1 (by decide) (by decide))
  have hl : lv_has ls 4 [(0, .ref (am3 0)), (1, .int x1)] := by simp only [ea_0]; exact hl
  refine W.eq (g2 := F0 m 3 ls [.ref (am3 (qn S))]) (by simp only [ea_0, eq_q2]) ?_
  clear hw8 hk8 hs8 hP hD hS e9 e8 e7 hTX
  refine lv_dup hx hb dX14_text_3 rfl ?_
  refine lv_aload_n hx hb dX14_text_4 rfl (lv_at hl 0 rfl) ?_
  refine va_get (D := rD g) (ci := 13) (v := .ref (am3 7)) (C := RX14) (T := TX14) (N := 143) hx hb hts in2X14 hown hR.K hR.P 0 (hR.at14 hR.w.1) rfl 18 (by decide) (hts _ kx_209) (fun _ h9 => h9) (congrArg (fun z => some (vf am3 z)) (hR.w.2.1 _ fin_18).1) dX14_text_5 ?_
  refine lv_iload_n hx hb dX14_text_8 rfl (lv_at hl 1 rfl) ?_
  obtain ⟨hv6, h⟩ := h
  refine va_iald hx hb hR.K hR.P 7 1 (hR.atI (hR.w.2.1 _ fin_18).2.1) rfl (k_ixN (k_ix (n := 502) (x := x1) (a := x1.toInt) rfl hv6) (hR.w.2.1 _ fin_18).2.2) dX14_text_9 ?_
  refine lv_topi (fun z7 ez7 => ?_)
  obtain rfl : z7 = (qI S4 7 x1.toInt.toNat) := ez7
  obtain ⟨Q8, h0, h⟩ := h
  have hFc := rfree hR hA
  refine W_led2 (fun hL0 => ?_)
  refine va_callv (va_runI (As := [.int (qI S4 7 x1.toInt.toNat)]) (rest := [.ref (am3 (qn S))]) ⟨hx, hb, hml, hown, hts⟩ (r_J4_init_d00df l g am3 H S4 (qn S) (qI S4 7 x1.toInt.toNat) hR.w hT_b5 Q8 h0) (cwI 1 hts (gd2_I kx_336) rfl rfl rfl (hts _ kx_113) (hts _ kx_335) (hts _ kx_337) rfl (by decide +kernel) ⟨Nat.le_of_ble_eq_true rfl, Nat.le_of_ble_eq_true rfl⟩) ⟨rblindH, fun U hU hW9 => rmkH hU hW9 hR hex hE hFc⟩ rfl rfl hl.1 rfl (lv_room (Nat.le_of_ble_eq_true rfl)) dX14_text_10 ⟨(show 0 + 1 + (KC - qn S4) ≤ KC - qn S from hlg.cm), (show 0 + 4 + (KS - qu S4) ≤ KS - qu S from hlg.sm)⟩) hR.sS (fun q _ h => hFc q h) hFc (fun  S9 t9 H1 locs ht9 hvm9 hw9 hB9 hz9 hk9 hS => ?_)
  rcases S9 with ⟨S9, ak11⟩
  obtain ⟨hB9, dc9, ds9, hL9, hl9⟩ := hB9
  dsimp only at hw9 hB9 hl9
  rw [ht9] at hL9
  obtain ⟨hq10, hw9, hs9, hk8⟩ := hw9
  have hw8 := hR.w
  have hak := hak.tr hk8 hlg.2.2.1
  have hE := hE.ad hk8
  have hR : Rep g ak11 A s S9 H1 locs := hR.callH ht9 hB9 hw9 hS hFc
  have hsh := hsh.tr hs9
  refine W_tight2 (hL0.tr hL9).1 (hL0.tr hL9).2.1 ?_
  have hlg := hlg.call hl9
  replace h := h  S9 hq10
  have ea_0 : ak11 0 = am3 0 := hk8 _ (hw8.hd hw8.1 (by decide) (by decide))
  have ea_1 : ak11 (qn S) = am3 (qn S) := hk8 _ (hw8.hd hT_b5 (by decide) (by decide))
  have hl : lv_has ls 4 [(0, .ref (ak11 0)), (1, .int x1)] := by simp only [ea_0, ea_1]; exact hl
  refine W.eq (g2 := F0 m 13 ls ([.ref (ak11 (qn S))])) (by first | (simp only [ea_0, ea_1]; rfl) | simp only [ea_0, ea_1]) ?_
  have hT_b5 := hs9.T hT_b5 (by decide)
  clear hB9 hz9 hk9 hvm9 ht9 hw9 hs9 hS hL0 hL9
  generalize H1 = H at hR ⊢
  generalize dc9 = dc_ak11, ds9 = ds_ak11 at hlg ⊢
  refine lv_astore_n (lv' := [(2, .ref (ak11 (qn S))), (0, .ref (ak11 0)), (1, .int x1)]) hx hb dX14_text_13 rfl hl (by decide) rfl (fun ls hl => ?_)
  refine lv_iconst (v := 0) hx hb dX14_text_14 (by decide) ?_
  refine lv_istore_n (lv' := [(3, .int 0), (2, .ref (ak11 (qn S))), (0, .ref (ak11 0)), (1, .int x1)]) hx hb dX14_text_15 rfl hl (by decide) rfl (fun ls hl => ?_)
  have J_16 : ∀ (n16 : Nat) (ad16 : Nat → Nat) (dc16 ds16 : Nat) (U16 : MS) (v16_1 : Int32) (v16_2 : Nat) (v16_3 : Int32) (H : Heap) (locs : List Loc) (ls : Array Slot), w_text_L16 Q n16 U16 v16_1 v16_2 v16_3 → qT U16 v16_2 = 13 → shx S U16 → lg S U16 dc16 ds16 → adk ad ad16 S → ogR ad16 A s s.heap → Rep g ad16 A s U16 H locs → lv_has ls 4 [(0, .ref (ad16 0)), (1, .int v16_1), (2, .ref (ad16 v16_2)), (3, .int v16_3)] → W p l e (headSpec (wt2 yX14_text cX14_text 4 (some (.object "java/lang/String"))) ({ frames := 6, cells := KC - qn S, slots := KS - qu S, locals := 151 })).room s m ([.ref (ad 0), .int x1] : List Value).toArray below meth c H locs dc16 ds16 (MQ below (va_Qq (fun (r : Option Nat) (u : MS × (Nat → Nat)) => ∃ b : Nat, r = some (u.2 b) ∧ Q b u.1 ∧ wfM u.1 ∧ shx S u.1 ∧ adk ad u.2 S ∧ qT u.1 b = 12) (fun (u : MS × (Nat → Nat)) (t : State) => qEH g A S s.heap u t) A) ([.ref (ad 0), .int x1] : List Value).toArray s (KC - qn S) (KS - qu S) A) (F0 m 16 ls []) := by
    intro n16
    induction n16 with
    | zero => intro ad16 dc16 ds16 U16 v16_1 v16_2 v16_3 H locs ls h hT_v16_2 hsh hlg hak hE hR hl; unfold w_text_L16 at h; exact h.elim
    | succ n16 ih_16 =>
      intro ad16 dc16 ds16 U16 v16_1 v16_2 v16_3 H locs ls h hT_v16_2 hsh hlg hak hE hR hl
      unfold w_text_L16 at h
      refine lv_iload_n hx hb dX14_text_16 rfl (lv_at hl 3 rfl) ?_
      refine lv_aload_n hx hb dX14_text_17 rfl (lv_at hl 0 rfl) ?_
      refine va_get (D := rD g) (ci := 13) (v := .ref (ad16 7)) (C := RX14) (T := TX14) (N := 143) hx hb hts in2X14 hown hR.K hR.P 0 (hR.at14 hR.w.1) rfl 18 (by decide) (hts _ kx_209) (fun _ h9 => h9) (congrArg (fun z => some (vf ad16 z)) (hR.w.2.1 _ fin_18).1) dX14_text_18 ?_
      refine lv_iload_n hx hb dX14_text_21 rfl (lv_at hl 1 rfl) ?_
      obtain ⟨hv12, h⟩ := h
      refine va_iald hx hb hR.K hR.P 7 1 (hR.atI (hR.w.2.1 _ fin_18).2.1) rfl (k_ixN (k_ix (n := 502) (x := v16_1) (a := v16_1.toInt) rfl hv12) (hR.w.2.1 _ fin_18).2.2) dX14_text_22 ?_
      refine lv_topi (fun z13 ez13 => ?_)
      obtain rfl : z13 = (qI U16 7 v16_1.toInt.toNat) := ez13
      refine lv_icmp_ge (tgt := 44) hx hb dX14_text_23 (by decide) (fun c14 => ?_) (fun c14 => ?_)
      · replace h := h.1 (k_le rfl rfl c14)
        refine lv_aload_n hx hb dX14_text_44 rfl (lv_at hl 2 rfl) ?_
        obtain ⟨Q15, h0, h⟩ := h
        have hFc := rfree hR hA
        refine W_led2 (fun hL0 => ?_)
        refine va_callq (va_runV (As := []) (rest := []) ⟨hx, hb, hml, hown, hts⟩ (r_J4_toString_0e30d l g ad16 H U16 v16_2 hR.w hT_v16_2 Q15 h0) (cwV 0 hts (gd2_V kx_338 kx_339 kx_340 kx_113 kx_341) rfl rfl rfl (by decide +kernel) ⟨Nat.le_of_ble_eq_true rfl, Nat.le_of_ble_eq_true rfl⟩) ⟨rblindH, va_recv hR.K hR.P (ci := 16) (q0 := v16_2) rfl (hR.atU hT_v16_2), fun U hU hW9 => rmkH hU hW9 hR hex hE hFc⟩ rfl rfl hl.1 rfl (lv_room (Nat.le_of_ble_eq_true rfl)) dX14_text_45 ⟨(show dc16 + (KC - qn U16) ≤ KC - qn S from hlg.cm), (show ds16 + (KS - qu U16) ≤ KS - qu S from hlg.sm)⟩) hR.sS (fun q _ h => hFc q h) hFc (fun r16 S17 t9 H1 locs ht9 hvm9 hw9 hB9 hz9 hk9 hS => ?_)
        rcases S17 with ⟨S17, ak19⟩
        obtain ⟨hB9, dc9, ds9, hL9, hl9⟩ := hB9
        dsimp only at hw9 hB9 hl9
        rw [ht9] at hL9
        obtain ⟨b20, rfl, hq18, hw9, hs9, hk8, hT_b20⟩ := hw9
        have hw8 := hR.w
        have hak := hak.tr hk8 hlg.2.2.1
        have hE := hE.ad hk8
        have hR : Rep g ak19 A s S17 H1 locs := hR.callH ht9 hB9 hw9 hS hFc
        have hsh := hsh.tr hs9
        refine W_tight2 (hL0.tr hL9).1 (hL0.tr hL9).2.1 ?_
        have hlg := hlg.call hl9
        replace h := h b20 S17 hq18
        have ea_0 : ak19 0 = ad16 0 := hk8 _ (hw8.hd hw8.1 (by decide) (by decide))
        have ea_1 : ak19 v16_2 = ad16 v16_2 := hk8 _ (hw8.hd hT_v16_2 (by decide) (by decide))
        have hl : lv_has ls 4 [(0, .ref (ak19 0)), (1, .int v16_1), (2, .ref (ak19 v16_2)), (3, .int v16_3)] := by simp only [ea_0, ea_1]; exact hl
        have hT_v16_2 := hs9.T hT_v16_2 (by decide)
        clear hB9 hz9 hk9 hvm9 ht9 hw9 hs9 hS hL0 hL9
        generalize H1 = H at hR ⊢
        generalize dc9 = dc_ak19, ds9 = ds_ak19 at hlg ⊢
        refine W_led2 (fun hLd => ?_)
        refine W.widen (k := KC - qn S) (n := KS - qu S) hlg.c hlg.s ?_
        exact W.aret (v := .ref (ak19 b20)) hx hb hr (Or.inl ⟨_, rfl⟩) (Or.inr ⟨_, rfl⟩) (fun t9 ht9 hW9 => ⟨⟨some (ak19 b20), (S17, ak19), rfl, ⟨b20, rfl, h, hR.w, hsh, hak, hT_b20⟩, ⟨⟨by rw [ht9]; exact hR.P, hR.D⟩, _, _, by rw [ht9]; exact hLd, hlg⟩⟩, hR.sS.F ht9⟩) hR.sS.2.2 dX14_text_48
      · replace h := h.2 (k_nle rfl rfl c14)
        refine lv_aload_n hx hb dX14_text_26 rfl (lv_at hl 2 rfl) ?_
        refine lv_aload_n hx hb dX14_text_27 rfl (lv_at hl 0 rfl) ?_
        refine lv_iload_n hx hb dX14_text_28 rfl (lv_at hl 1 rfl) ?_
        refine lv_iload_n hx hb dX14_text_29 rfl (lv_at hl 3 rfl) ?_
        obtain ⟨hv21, h⟩ := h
        have hFc := rfree hR hA
        refine va_calli (va_runV (As := [.int v16_1, .int v16_3]) (rest := [.ref (ad16 v16_2)]) ⟨hx, hb, hml, hown, hts⟩ (r_letter l g ad16 H.size U16 v16_1 v16_3 hR.w  hv21) (cwV 2 hts (gd2_V kx_227 kx_228 kx_229 kx_177 kx_230) rfl rfl rfl (by decide +kernel) ⟨Nat.le_of_ble_eq_true rfl, Nat.le_of_ble_eq_true rfl⟩) ⟨rblind, va_recv hR.K hR.P (ci := 13) (q0 := 0) rfl (hR.at14 hR.w.1), fun U hU hW9 => rmk hU hW9 hR hex hE hFc⟩ rfl rfl hl.1 rfl (lv_room (Nat.le_of_ble_eq_true rfl)) dX14_text_30 ⟨(show dc16 + 0 ≤ KC - qn S from hlg.c), (show ds16 + 0 ≤ KS - qu S from hlg.s)⟩) hR.sS (fun q _ h => hFc q h) hFc (fun r22 u9 t9 H1 locs ht9 hvm9 hw9 hB9 hz9 hk9 hS => ?_)
        have hR : Rep g ad16 A s U16 H1 locs := hR.call ht9 hB9 hR.w hS hFc
        obtain rfl : r22 = (f_letter U16 v16_1 v16_3) := hw9
        clear hB9 hz9 hk9 hvm9 ht9 hS
        generalize H1 = H at hR ⊢
        refine lv_i2c (v := (((f_letter U16 v16_1 v16_3).toUInt32 % 65536).toInt32)) hx hb dX14_text_33 rfl ?_
        obtain ⟨Q24, h0, h⟩ := h
        have hFc := rfree hR hA
        refine W_led2 (fun hL0 => ?_)
        refine va_callq (va_runV (As := [.int (((f_letter U16 v16_1 v16_3).toUInt32 % 65536).toInt32)]) (rest := []) ⟨hx, hb, hml, hown, hts⟩ (r_J4_append_cf468 l g ad16 H U16 v16_2 (((f_letter U16 v16_1 v16_3).toUInt32 % 65536).toInt32) hR.w hT_v16_2 Q24 h0) (cwV 1 hts (gd2_V kx_342 kx_343 kx_344 kx_113 kx_345) rfl rfl rfl (by decide +kernel) ⟨Nat.le_of_ble_eq_true rfl, Nat.le_of_ble_eq_true rfl⟩) ⟨rblindH, va_recv hR.K hR.P (ci := 16) (q0 := v16_2) rfl (hR.atU hT_v16_2), fun U hU hW9 => rmkH hU hW9 hR hex hE hFc⟩ rfl rfl hl.1 rfl (lv_room (Nat.le_of_ble_eq_true rfl)) dX14_text_34 ⟨(show dc16 + (KC - qn U16) ≤ KC - qn S from hlg.cm), (show ds16 + (KS - qu U16) ≤ KS - qu S from hlg.sm)⟩) hR.sS (fun q _ h => hFc q h) hFc (fun r25 S26 t9 H1 locs ht9 hvm9 hw9 hB9 hz9 hk9 hS => ?_)
        rcases S26 with ⟨S26, ak28⟩
        obtain ⟨hB9, dc9, ds9, hL9, hl9⟩ := hB9
        dsimp only at hw9 hB9 hl9
        rw [ht9] at hL9
        obtain ⟨b29, rfl, hq27, hw9, hs9, hk8, hT_b29⟩ := hw9
        have hw8 := hR.w
        have hak := hak.tr hk8 hlg.2.2.1
        have hE := hE.ad hk8
        have hR : Rep g ak28 A s S26 H1 locs := hR.callH ht9 hB9 hw9 hS hFc
        have hsh := hsh.tr hs9
        refine W_tight2 (hL0.tr hL9).1 (hL0.tr hL9).2.1 ?_
        have hlg := hlg.call hl9
        replace h := h b29 S26 hq27
        have ea_0 : ak28 0 = ad16 0 := hk8 _ (hw8.hd hw8.1 (by decide) (by decide))
        have ea_1 : ak28 v16_2 = ad16 v16_2 := hk8 _ (hw8.hd hT_v16_2 (by decide) (by decide))
        have hl : lv_has ls 4 [(0, .ref (ak28 0)), (1, .int v16_1), (2, .ref (ak28 v16_2)), (3, .int v16_3)] := by simp only [ea_0, ea_1]; exact hl
        have hT_v16_2 := hs9.T hT_v16_2 (by decide)
        clear hB9 hz9 hk9 hvm9 ht9 hw9 hs9 hS hL0 hL9
        generalize H1 = H at hR ⊢
        generalize dc9 = dc_ak28, ds9 = ds_ak28 at hlg ⊢
        refine lv_pop hx hb dX14_text_37 rfl ?_
        obtain ⟨a30, ea30⟩ : ∃ z, z = (v16_3 + Int32.ofInt 1) := ⟨_, rfl⟩
        replace h := h a30 ea30
        refine lv_iinc (v := a30) (lv' := [(3, .int a30), (0, .ref (ak28 0)), (1, .int v16_1), (2, .ref (ak28 v16_2))]) hx hb dX14_text_38 hl (k := 3) rfl ea30.symm (by decide) rfl (fun ls hl => ?_)
        refine lv_goto (tgt := 16) hx hb dX14_text_41 (by decide) ?_
        exact ih_16 ak28 (dc16 + dc_ak28) (ds16 + ds_ak28) S26 v16_1 v16_2 a30 _ _ ls h hT_v16_2 hsh hlg hak hE hR (lv_sub hl [1, 2, 3, 0] rfl)
  obtain ⟨n9, h⟩ := h
  exact J_16 n9 ak11 (0 + 1 + dc_ak11) (0 + 4 + ds_ak11) S9 x1 (qn S) 0 _ _ ls h hT_b5 hsh hlg hak hE hR (lv_sub hl [2, 3, 1, 0] rfl)
def w_letters_J72 (Q : Nat → MS → Prop) (k11 : MS → Nat → Nat → Int32 → Prop) (U72 : MS) (v72_0 : Nat) (v72_2 : Nat) (v72_3 : Int32) : Prop := (∀ a29 : Int32, a29 = (v72_3 + Int32.ofInt 1) → k11 U72 v72_0 v72_2 a29)
def w_letters_L11 (Q : Nat → MS → Prop) : Nat → MS → Nat → Nat → Int32 → Prop
  | 0, _, _, _, _ => False
  | n11 + 1, U11, v11_0, v11_2, v11_3 => (((Int32.ofNat (qN U11 (v11_0 + 1))).toInt ≤ v11_3.toInt → (∃ Q12, w_J4_toString_0e30d U11 v11_2 Q12 ∧ ∀ b17 S14, Q12 b17 S14 → Q b17 S14)) ∧ (¬ (Int32.ofNat (qN U11 (v11_0 + 1))).toInt ≤ v11_3.toInt → (((0 : Int) ≤ v11_3.toInt ∧ v11_3.toInt < (qN U11 (v11_0 + 1) : Int)) ∧ (((cAt U11 v11_0 v11_3).toInt = 41 → (∃ Q21, w_J4_toString_0e30d U11 v11_2 Q21 ∧ ∀ b26 S23, Q21 b26 S23 → Q b26 S23)) ∧ (¬ (cAt U11 v11_0 v11_3).toInt = 41 → (((0 : Int) ≤ v11_3.toInt ∧ v11_3.toInt < (qN U11 (v11_0 + 1) : Int)) ∧ (((cAt U11 v11_0 v11_3).toInt = 91 → (∃ Q42, w_J4_append_cf468 U11 v11_2 (65 : Int32) Q42 ∧ ∀ b47 S44, Q42 b47 S44 → (∀ a48 : Int32, a48 = (v11_3 + Int32.ofInt 1) → w_letters_J72 Q (w_letters_L11 Q n11) S44 v11_0 v11_2 a48))) ∧ (¬ (cAt U11 v11_0 v11_3).toInt = 91 → (((0 : Int) ≤ v11_3.toInt ∧ v11_3.toInt < (qN U11 (v11_0 + 1) : Int)) ∧ (((cAt U11 v11_0 v11_3).toInt = 86 → w_letters_J72 Q (w_letters_L11 Q n11) U11 v11_0 v11_2 v11_3) ∧ (¬ (cAt U11 v11_0 v11_3).toInt = 86 → (((0 : Int) ≤ v11_3.toInt ∧ v11_3.toInt < (qN U11 (v11_0 + 1) : Int)) ∧ (∃ Q36, w_J4_append_cf468 U11 v11_2 (cAt U11 v11_0 v11_3) Q36 ∧ ∀ b41 S38, Q36 b41 S38 → w_letters_J72 Q (w_letters_L11 Q n11) S38 v11_0 v11_2 v11_3)))))))))))))
def w_letters (S : MS) (p0 : Nat) (x1 : Int32) (Q : Nat → MS → Prop) : Prop := ((qn S + 1 ≤ KC ∧ qu S + 4 ≤ KS) ∧ (∀ S4, S4 = wN S 13 0 4 → (∃ Q6, w_J4_init_d00df S4 (qn S) (4 : Int32) Q6 ∧ ∀ S7, Q6 S7 → (∃ n, w_letters_L11 Q n S7 p0 (qn S) x1))))
set_option maxHeartbeats 2000000 in
set_option maxRecDepth 100000 in
theorem r_letters (l : Launch) (g : Gr) (ad : Nat → Nat) (H0 : Heap) (S : MS) (p0 : Nat) (x1 : Int32) (hw : wfM S) (hT_p0 : qT S p0 = 12) (Q : Nat → MS → Prop) (h : w_letters S p0 x1 Q) : Met l yX14_letters (wt2 yX14_letters cX14_letters 4 (some (.object "java/lang/String"))) ({ frames := 6, cells := KC - qn S, slots := KS - qu S, locals := 151 }) (va_Pc [.ref (ad p0), .int x1] (st_RH g ad H0 S)) (va_Qq (fun (r : Option Nat) (u : MS × (Nat → Nat)) => ∃ b : Nat, r = some (u.2 b) ∧ Q b u.1 ∧ wfM u.1 ∧ shx S u.1 ∧ adk ad u.2 S ∧ qT u.1 b = 12) (fun (u : MS × (Nat → Nat)) (t : State) => qEH g (va_A (Wd g ad S) H0.size) S H0 u t) (va_A (Wd g ad S) H0.size)) (KC - qn S) (KS - qu S) (va_A (Wd g ad S) H0.size) := by
  refine Met.ofW (cc := cX14_letters) (maxL := 4) (ret := (some (.object "java/lang/String"))) (by decide) rfl ?_
  intro p e s m args below meth c s₁ B hml hv
  obtain ⟨rfl, hH0, hsz, hP, hK, hD0, hex, hE⟩ := hv
  have hx := B.exec
  have hb := B.bytes
  have hr := B.returns
  have hts0 := atoms_spec (ws := wt2 yX14_letters cX14_letters 4 (some (.object "java/lang/String"))) B.pre
  have hts : ∀ w ∈ tb2, w.before _ s = true := fun w h => hts0 w (List.mem_cons_of_mem _ h)
  have hown : s.vm.findClass RX14 = some m.cls := findClass_of_methodNamed B.named
  subst hH0
  have hD := hD0.self (sz := s.heap.size)
  generalize hAe : va_A (Wd g ad S) s.heap.size = A at hD hE ⊢
  have hA : ∀ q : Nat, s.heap.size ≤ q → A q := fun q h => by rw [← hAe]; exact Or.inr h
  have hR : Rep g ad A s S s.heap [] := ⟨hK, hP, hD, va_S.rf, hw⟩
  clear hK hP hD hD0
  have hl := lv_entry ([.ref (ad p0), .int x1]) (n := 4) (Nat.le_of_ble_eq_true rfl)
  rw [lg_entry_eq]
  generalize (lg_sl ([.ref (ad p0), .int x1]) ++ List.replicate (4 - (lg_sl ([.ref (ad p0), .int x1])).length) Slot.unset).toArray = ls at hl ⊢
  have hlg : lg S S 0 0 := lg.rf
  have hak : adk ad ad S := adk.rf
  have hl : lv_has ls 4 [(0, .ref (ad p0)), (1, .int x1)] := hl
  have hsh : shx S S := shx.rf
  unfold w_letters at h
  obtain ⟨hv1, h⟩ := h
  have e9 : KC = 300000 := rfl
  have e8 : KS = 3720000 := rfl
  have e7 : TXB = 10000000 := rfl
  have hTX : qn S < TXB := by have := hv1.1; omega
  refine va_new (ci := 16) (fs := dfJ4) (C := RJ4) (T := TJ4) (N := 4) hx hb hts in2J4 tyJ4 tyJ4_ok hown (hts _ kx_333) (hts _ kx_334) (hts _ kx_113) hR.K hR.P hR.D hR.sS hA rfl dfJ4_ok (show 0 + 1 ≤ KC - qn S from hlg.c1 hv1.1) (show 0 + 4 ≤ KS - qu S from hlg.s1 hv1.2) dX14_letters_0 (fun q2 H hP hD hS => ?_)
  have hw8 := hR.w
  have hR := hR.new (t := 13) (n := 0) (k := 4) hTX (by decide) (fun q9 => absurd q9 (by decide)) wN_cU hP hD hS
  have hk8 : adk ad (adx ad (qn S) q2) S := adk.rf.new (Nat.le_refl _) hTX
  have hak := hak.new (q := q2) hlg.2.2.1 hTX
  have hE := hE.ad hk8
  have hlg : lg S (wN S 13 0 4) (0 + 1) (0 + 4) := hlg.new (t := 13) (n := 0) ⟨hv1.1, hv1.2⟩
  have hs8 : shx S (wN S 13 0 4) := shx.new (t := 13) (n := 0) (k := 4) shx.rf hw8 hTX
  obtain ⟨am3, eam3⟩ : ∃ z, z = adx ad (qn S) q2 := ⟨_, rfl⟩
  have eq_q2 : am3 (qn S) = q2 := by rw [eam3]; exact if_pos rfl
  rw [← eam3] at hR hk8 hak hE
  obtain ⟨S4, eS4⟩ : ∃ z, z = wN S 13 0 4 := ⟨_, rfl⟩
  rw [← eS4] at hR hlg hs8
  replace h := h S4 eS4
  have hsh := hsh.tr hs8
  have hT_b5 : qT S4 (qn S) = 13 := by rw [eS4]; exact if_pos rfl
  have ea_0 : am3 p0 = ad p0 := hk8 _ (hw8.hd hT_p0 (by decide) (by decide))
  have hT_p0 := hs8.T hT_p0 (by decide)
  have hl : lv_has ls 4 [(0, .ref (am3 p0)), (1, .int x1)] := by simp only [ea_0]; exact hl
  refine W.eq (g2 := F0 m 3 ls [.ref (am3 (qn S))]) (by simp only [ea_0, eq_q2]) ?_
  clear hw8 hk8 hs8 hP hD hS e9 e8 e7 hTX
  refine lv_dup hx hb dX14_letters_3 rfl ?_
  refine lv_iconst (v := 4) hx hb dX14_letters_4 (by decide) ?_
  obtain ⟨Q6, h0, h⟩ := h
  have hFc := rfree hR hA
  refine W_led2 (fun hL0 => ?_)
  refine va_callv (va_runI (As := [.int 4]) (rest := [.ref (am3 (qn S))]) ⟨hx, hb, hml, hown, hts⟩ (r_J4_init_d00df l g am3 H S4 (qn S) (4 : Int32) hR.w hT_b5 Q6 h0) (cwI 1 hts (gd2_I kx_336) rfl rfl rfl (hts _ kx_113) (hts _ kx_335) (hts _ kx_337) rfl (by decide +kernel) ⟨Nat.le_of_ble_eq_true rfl, Nat.le_of_ble_eq_true rfl⟩) ⟨rblindH, fun U hU hW9 => rmkH hU hW9 hR hex hE hFc⟩ rfl rfl hl.1 rfl (lv_room (Nat.le_of_ble_eq_true rfl)) dX14_letters_5 ⟨(show 0 + 1 + (KC - qn S4) ≤ KC - qn S from hlg.cm), (show 0 + 4 + (KS - qu S4) ≤ KS - qu S from hlg.sm)⟩) hR.sS (fun q _ h => hFc q h) hFc (fun  S7 t9 H1 locs ht9 hvm9 hw9 hB9 hz9 hk9 hS => ?_)
  rcases S7 with ⟨S7, ak9⟩
  obtain ⟨hB9, dc9, ds9, hL9, hl9⟩ := hB9
  dsimp only at hw9 hB9 hl9
  rw [ht9] at hL9
  obtain ⟨hq8, hw9, hs9, hk8⟩ := hw9
  have hw8 := hR.w
  have hak := hak.tr hk8 hlg.2.2.1
  have hE := hE.ad hk8
  have hR : Rep g ak9 A s S7 H1 locs := hR.callH ht9 hB9 hw9 hS hFc
  have hsh := hsh.tr hs9
  refine W_tight2 (hL0.tr hL9).1 (hL0.tr hL9).2.1 ?_
  have hlg := hlg.call hl9
  replace h := h  S7 hq8
  have ea_0 : ak9 p0 = am3 p0 := hk8 _ (hw8.hd hT_p0 (by decide) (by decide))
  have ea_1 : ak9 (qn S) = am3 (qn S) := hk8 _ (hw8.hd hT_b5 (by decide) (by decide))
  have hl : lv_has ls 4 [(0, .ref (ak9 p0)), (1, .int x1)] := by simp only [ea_0, ea_1]; exact hl
  refine W.eq (g2 := F0 m 8 ls ([.ref (ak9 (qn S))])) (by first | (simp only [ea_0, ea_1]; rfl) | simp only [ea_0, ea_1]) ?_
  have hT_p0 := hs9.T hT_p0 (by decide)
  have hT_b5 := hs9.T hT_b5 (by decide)
  clear hB9 hz9 hk9 hvm9 ht9 hw9 hs9 hS hL0 hL9
  generalize H1 = H at hR ⊢
  generalize dc9 = dc_ak9, ds9 = ds_ak9 at hlg ⊢
  refine lv_astore_n (lv' := [(2, .ref (ak9 (qn S))), (0, .ref (ak9 p0)), (1, .int x1)]) hx hb dX14_letters_8 rfl hl (by decide) rfl (fun ls hl => ?_)
  refine lv_iload_n hx hb dX14_letters_9 rfl (lv_at hl 2 rfl) ?_
  refine lv_istore_n (lv' := [(3, .int x1), (2, .ref (ak9 (qn S))), (0, .ref (ak9 p0)), (1, .int x1)]) hx hb dX14_letters_10 rfl hl (by decide) rfl (fun ls hl => ?_)
  have J_11 : ∀ (n11 : Nat) (ad11 : Nat → Nat) (dc11 ds11 : Nat) (U11 : MS) (v11_0 : Nat) (v11_2 : Nat) (v11_3 : Int32) (H : Heap) (locs : List Loc) (ls : Array Slot), w_letters_L11 Q n11 U11 v11_0 v11_2 v11_3 → qT U11 v11_0 = 12 → qT U11 v11_2 = 13 → shx S U11 → lg S U11 dc11 ds11 → adk ad ad11 S → ogR ad11 A s s.heap → Rep g ad11 A s U11 H locs → lv_has ls 4 [(0, .ref (ad11 v11_0)), (2, .ref (ad11 v11_2)), (3, .int v11_3)] → W p l e (headSpec (wt2 yX14_letters cX14_letters 4 (some (.object "java/lang/String"))) ({ frames := 6, cells := KC - qn S, slots := KS - qu S, locals := 151 })).room s m ([.ref (ad p0), .int x1] : List Value).toArray below meth c H locs dc11 ds11 (MQ below (va_Qq (fun (r : Option Nat) (u : MS × (Nat → Nat)) => ∃ b : Nat, r = some (u.2 b) ∧ Q b u.1 ∧ wfM u.1 ∧ shx S u.1 ∧ adk ad u.2 S ∧ qT u.1 b = 12) (fun (u : MS × (Nat → Nat)) (t : State) => qEH g A S s.heap u t) A) ([.ref (ad p0), .int x1] : List Value).toArray s (KC - qn S) (KS - qu S) A) (F0 m 11 ls []) := by
    intro n11
    induction n11 with
    | zero => intro ad11 dc11 ds11 U11 v11_0 v11_2 v11_3 H locs ls h hT_v11_0 hT_v11_2 hsh hlg hak hE hR hl; unfold w_letters_L11 at h; exact h.elim
    | succ n11 ih_11 =>
      intro ad11 dc11 ds11 U11 v11_0 v11_2 v11_3 H locs ls h hT_v11_0 hT_v11_2 hsh hlg hak hE hR hl
      unfold w_letters_L11 at h
      refine lv_iload_n hx hb dX14_letters_11 rfl (lv_at hl 2 rfl) ?_
      refine lv_aload_n hx hb dX14_letters_12 rfl (lv_at hl 0 rfl) ?_
      have hF : ∀ q, Ns H.size q → A q := fun q h => hA q (Nat.le_trans hR.sS.1 h)
      refine va_calli (va_runV (As := []) (rest := [.int v11_3]) ⟨hx, hb, hml, hown, hts⟩ (s_length l H.size (ad11 v11_0) (ad11 (v11_0 + 1)) (qN U11 (v11_0 + 1)) (qI U11 (v11_0 + 1))) (cwV 0 hts (gd2_V kx_248 kx_143 kx_144 kx_6 kx_145) rfl rfl rfl (by decide +kernel) ⟨Nat.le_of_ble_eq_true rfl, Nat.le_of_ble_eq_true rfl⟩) ⟨tblind (fun A u U H hv h => by exact tx1.moved hv h), (strR hts hR hE hA hT_v11_0), fun U hU hW9 => ⟨rfl, by rw [hU], str_at hts hR hE hA hT_v11_0 hU hW9, by rw [hU]; exact ((hE.1.kept hR.sS.2.1).narrow hF).moved hW9.alike⟩⟩ rfl rfl hl.1 rfl (lv_room (Nat.le_of_ble_eq_true rfl)) dX14_letters_13 ⟨(show dc11 + 0 ≤ KC - qn S from hlg.c), (show ds11 + 0 ≤ KS - qu S from hlg.s)⟩) hR.sS (fun q _ h => hF q h) hF (fun r10 u9 t9 H1 locs ht9 hvm9 hw9 hB9 hz9 hk9 hS => ?_)
      obtain rfl : r10 = (Int32.ofNat (qN U11 (v11_0 + 1))) := hw9
      have hR : Rep g ad11 A s U11 H1 locs := hR.keep hk9 hS
      clear hz9 hk9 hvm9 ht9 hB9 hF hS
      generalize H1 = H at hR ⊢
      refine lv_icmp_ge (tgt := 78) hx hb dX14_letters_16 (by decide) (fun c11 => ?_) (fun c11 => ?_)
      · replace h := h.1 (k_le rfl rfl c11)
        refine lv_aload_n hx hb dX14_letters_78 rfl (lv_at hl 1 rfl) ?_
        obtain ⟨Q12, h0, h⟩ := h
        have hFc := rfree hR hA
        refine W_led2 (fun hL0 => ?_)
        refine va_callq (va_runV (As := []) (rest := []) ⟨hx, hb, hml, hown, hts⟩ (r_J4_toString_0e30d l g ad11 H U11 v11_2 hR.w hT_v11_2 Q12 h0) (cwV 0 hts (gd2_V kx_338 kx_339 kx_340 kx_113 kx_341) rfl rfl rfl (by decide +kernel) ⟨Nat.le_of_ble_eq_true rfl, Nat.le_of_ble_eq_true rfl⟩) ⟨rblindH, va_recv hR.K hR.P (ci := 16) (q0 := v11_2) rfl (hR.atU hT_v11_2), fun U hU hW9 => rmkH hU hW9 hR hex hE hFc⟩ rfl rfl hl.1 rfl (lv_room (Nat.le_of_ble_eq_true rfl)) dX14_letters_79 ⟨(show dc11 + (KC - qn U11) ≤ KC - qn S from hlg.cm), (show ds11 + (KS - qu U11) ≤ KS - qu S from hlg.sm)⟩) hR.sS (fun q _ h => hFc q h) hFc (fun r13 S14 t9 H1 locs ht9 hvm9 hw9 hB9 hz9 hk9 hS => ?_)
        rcases S14 with ⟨S14, ak16⟩
        obtain ⟨hB9, dc9, ds9, hL9, hl9⟩ := hB9
        dsimp only at hw9 hB9 hl9
        rw [ht9] at hL9
        obtain ⟨b17, rfl, hq15, hw9, hs9, hk8, hT_b17⟩ := hw9
        have hw8 := hR.w
        have hak := hak.tr hk8 hlg.2.2.1
        have hE := hE.ad hk8
        have hR : Rep g ak16 A s S14 H1 locs := hR.callH ht9 hB9 hw9 hS hFc
        have hsh := hsh.tr hs9
        refine W_tight2 (hL0.tr hL9).1 (hL0.tr hL9).2.1 ?_
        have hlg := hlg.call hl9
        replace h := h b17 S14 hq15
        have ea_0 : ak16 v11_0 = ad11 v11_0 := hk8 _ (hw8.hd hT_v11_0 (by decide) (by decide))
        have ea_1 : ak16 v11_2 = ad11 v11_2 := hk8 _ (hw8.hd hT_v11_2 (by decide) (by decide))
        have hl : lv_has ls 4 [(0, .ref (ak16 v11_0)), (2, .ref (ak16 v11_2)), (3, .int v11_3)] := by simp only [ea_0, ea_1]; exact hl
        have hT_v11_0 := hs9.T hT_v11_0 (by decide)
        have hT_v11_2 := hs9.T hT_v11_2 (by decide)
        clear hB9 hz9 hk9 hvm9 ht9 hw9 hs9 hS hL0 hL9
        generalize H1 = H at hR ⊢
        generalize dc9 = dc_ak16, ds9 = ds_ak16 at hlg ⊢
        refine W_led2 (fun hLd => ?_)
        refine W.widen (k := KC - qn S) (n := KS - qu S) hlg.c hlg.s ?_
        exact W.aret (v := .ref (ak16 b17)) hx hb hr (Or.inl ⟨_, rfl⟩) (Or.inr ⟨_, rfl⟩) (fun t9 ht9 hW9 => ⟨⟨some (ak16 b17), (S14, ak16), rfl, ⟨b17, rfl, h, hR.w, hsh, hak, hT_b17⟩, ⟨⟨by rw [ht9]; exact hR.P, hR.D⟩, _, _, by rw [ht9]; exact hLd, hlg⟩⟩, hR.sS.F ht9⟩) hR.sS.2.2 dX14_letters_82
      · replace h := h.2 (k_nle rfl rfl c11)
        refine lv_aload_n hx hb dX14_letters_19 rfl (lv_at hl 0 rfl) ?_
        refine lv_iload_n hx hb dX14_letters_20 rfl (lv_at hl 2 rfl) ?_
        obtain ⟨hv18, h⟩ := h
        have hF : ∀ q, Ns H.size q → A q := fun q h => hA q (Nat.le_trans hR.sS.1 h)
        refine va_calli (va_runV (As := [.int v11_3]) (rest := []) ⟨hx, hb, hml, hown, hts⟩ (s_charAt l H.size (ad11 v11_0) (ad11 (v11_0 + 1)) (qN U11 (v11_0 + 1)) (qI U11 (v11_0 + 1)) v11_3 (hR.w.len hT_v11_0) hv18) (cwV 1 hts (gd2_V kx_249 kx_250 kx_251 kx_6 kx_252) rfl rfl rfl (by decide +kernel) ⟨Nat.le_of_ble_eq_true rfl, Nat.le_of_ble_eq_true rfl⟩) ⟨tblind (fun A u U H hv h => by exact tx1.moved hv h), (strR hts hR hE hA hT_v11_0), fun U hU hW9 => ⟨rfl, by rw [hU], str_at hts hR hE hA hT_v11_0 hU hW9, by rw [hU]; exact ((hE.1.kept hR.sS.2.1).narrow hF).moved hW9.alike⟩⟩ rfl rfl hl.1 rfl (lv_room (Nat.le_of_ble_eq_true rfl)) dX14_letters_21 ⟨(show dc11 + 0 ≤ KC - qn S from hlg.c), (show ds11 + 0 ≤ KS - qu S from hlg.s)⟩) hR.sS (fun q _ h => hF q h) hF (fun r19 u9 t9 H1 locs ht9 hvm9 hw9 hB9 hz9 hk9 hS => ?_)
        obtain rfl : r19 = (cAt U11 v11_0 v11_3) := hw9
        have hR : Rep g ad11 A s U11 H1 locs := hR.keep hk9 hS
        clear hz9 hk9 hvm9 ht9 hB9 hF hS
        generalize H1 = H at hR ⊢
        refine lv_bipush (v := 41) hx hb dX14_letters_24 (by decide) ?_
        refine lv_icmp_eq (tgt := 78) hx hb dX14_letters_26 (by decide) (fun c20 => ?_) (fun c20 => ?_)
        · replace h := h.1 (k_eq rfl (by decide) c20)
          refine lv_aload_n hx hb dX14_letters_78 rfl (lv_at hl 1 rfl) ?_
          obtain ⟨Q21, h0, h⟩ := h
          have hFc := rfree hR hA
          refine W_led2 (fun hL0 => ?_)
          refine va_callq (va_runV (As := []) (rest := []) ⟨hx, hb, hml, hown, hts⟩ (r_J4_toString_0e30d l g ad11 H U11 v11_2 hR.w hT_v11_2 Q21 h0) (cwV 0 hts (gd2_V kx_338 kx_339 kx_340 kx_113 kx_341) rfl rfl rfl (by decide +kernel) ⟨Nat.le_of_ble_eq_true rfl, Nat.le_of_ble_eq_true rfl⟩) ⟨rblindH, va_recv hR.K hR.P (ci := 16) (q0 := v11_2) rfl (hR.atU hT_v11_2), fun U hU hW9 => rmkH hU hW9 hR hex hE hFc⟩ rfl rfl hl.1 rfl (lv_room (Nat.le_of_ble_eq_true rfl)) dX14_letters_79 ⟨(show dc11 + (KC - qn U11) ≤ KC - qn S from hlg.cm), (show ds11 + (KS - qu U11) ≤ KS - qu S from hlg.sm)⟩) hR.sS (fun q _ h => hFc q h) hFc (fun r22 S23 t9 H1 locs ht9 hvm9 hw9 hB9 hz9 hk9 hS => ?_)
          rcases S23 with ⟨S23, ak25⟩
          obtain ⟨hB9, dc9, ds9, hL9, hl9⟩ := hB9
          dsimp only at hw9 hB9 hl9
          rw [ht9] at hL9
          obtain ⟨b26, rfl, hq24, hw9, hs9, hk8, hT_b26⟩ := hw9
          have hw8 := hR.w
          have hak := hak.tr hk8 hlg.2.2.1
          have hE := hE.ad hk8
          have hR : Rep g ak25 A s S23 H1 locs := hR.callH ht9 hB9 hw9 hS hFc
          have hsh := hsh.tr hs9
          refine W_tight2 (hL0.tr hL9).1 (hL0.tr hL9).2.1 ?_
          have hlg := hlg.call hl9
          replace h := h b26 S23 hq24
          have ea_0 : ak25 v11_0 = ad11 v11_0 := hk8 _ (hw8.hd hT_v11_0 (by decide) (by decide))
          have ea_1 : ak25 v11_2 = ad11 v11_2 := hk8 _ (hw8.hd hT_v11_2 (by decide) (by decide))
          have hl : lv_has ls 4 [(0, .ref (ak25 v11_0)), (2, .ref (ak25 v11_2)), (3, .int v11_3)] := by simp only [ea_0, ea_1]; exact hl
          have hT_v11_0 := hs9.T hT_v11_0 (by decide)
          have hT_v11_2 := hs9.T hT_v11_2 (by decide)
          clear hB9 hz9 hk9 hvm9 ht9 hw9 hs9 hS hL0 hL9
          generalize H1 = H at hR ⊢
          generalize dc9 = dc_ak25, ds9 = ds_ak25 at hlg ⊢
          refine W_led2 (fun hLd => ?_)
          refine W.widen (k := KC - qn S) (n := KS - qu S) hlg.c hlg.s ?_
          exact W.aret (v := .ref (ak25 b26)) hx hb hr (Or.inl ⟨_, rfl⟩) (Or.inr ⟨_, rfl⟩) (fun t9 ht9 hW9 => ⟨⟨some (ak25 b26), (S23, ak25), rfl, ⟨b26, rfl, h, hR.w, hsh, hak, hT_b26⟩, ⟨⟨by rw [ht9]; exact hR.P, hR.D⟩, _, _, by rw [ht9]; exact hLd, hlg⟩⟩, hR.sS.F ht9⟩) hR.sS.2.2 dX14_letters_82
        · replace h := h.2 (k_ne rfl (by decide) c20)
          refine lv_aload_n hx hb dX14_letters_29 rfl (lv_at hl 0 rfl) ?_
          refine lv_iload_n hx hb dX14_letters_30 rfl (lv_at hl 2 rfl) ?_
          obtain ⟨hv27, h⟩ := h
          have hF : ∀ q, Ns H.size q → A q := fun q h => hA q (Nat.le_trans hR.sS.1 h)
          refine va_calli (va_runV (As := [.int v11_3]) (rest := []) ⟨hx, hb, hml, hown, hts⟩ (s_charAt l H.size (ad11 v11_0) (ad11 (v11_0 + 1)) (qN U11 (v11_0 + 1)) (qI U11 (v11_0 + 1)) v11_3 (hR.w.len hT_v11_0) hv27) (cwV 1 hts (gd2_V kx_249 kx_250 kx_251 kx_6 kx_252) rfl rfl rfl (by decide +kernel) ⟨Nat.le_of_ble_eq_true rfl, Nat.le_of_ble_eq_true rfl⟩) ⟨tblind (fun A u U H hv h => by exact tx1.moved hv h), (strR hts hR hE hA hT_v11_0), fun U hU hW9 => ⟨rfl, by rw [hU], str_at hts hR hE hA hT_v11_0 hU hW9, by rw [hU]; exact ((hE.1.kept hR.sS.2.1).narrow hF).moved hW9.alike⟩⟩ rfl rfl hl.1 rfl (lv_room (Nat.le_of_ble_eq_true rfl)) dX14_letters_31 ⟨(show dc11 + 0 ≤ KC - qn S from hlg.c), (show ds11 + 0 ≤ KS - qu S from hlg.s)⟩) hR.sS (fun q _ h => hF q h) hF (fun r28 u9 t9 H1 locs ht9 hvm9 hw9 hB9 hz9 hk9 hS => ?_)
          obtain rfl : r28 = (cAt U11 v11_0 v11_3) := hw9
          have hR : Rep g ad11 A s U11 H1 locs := hR.keep hk9 hS
          clear hz9 hk9 hvm9 ht9 hB9 hF hS
          generalize H1 = H at hR ⊢
          refine lv_bipush (v := 91) hx hb dX14_letters_34 (by decide) ?_
          have J_72 : ∀ (ad72 : Nat → Nat) (dc72 ds72 : Nat) (U72 : MS) (v72_0 : Nat) (v72_2 : Nat) (v72_3 : Int32) (H : Heap) (locs : List Loc) (ls : Array Slot), w_letters_J72 Q (w_letters_L11 Q n11) U72 v72_0 v72_2 v72_3 → qT U72 v72_0 = 12 → qT U72 v72_2 = 13 → shx S U72 → lg S U72 dc72 ds72 → adk ad ad72 S → ogR ad72 A s s.heap → Rep g ad72 A s U72 H locs → lv_has ls 4 [(0, .ref (ad72 v72_0)), (2, .ref (ad72 v72_2)), (3, .int v72_3)] → W p l e (headSpec (wt2 yX14_letters cX14_letters 4 (some (.object "java/lang/String"))) ({ frames := 6, cells := KC - qn S, slots := KS - qu S, locals := 151 })).room s m ([.ref (ad p0), .int x1] : List Value).toArray below meth c H locs dc72 ds72 (MQ below (va_Qq (fun (r : Option Nat) (u : MS × (Nat → Nat)) => ∃ b : Nat, r = some (u.2 b) ∧ Q b u.1 ∧ wfM u.1 ∧ shx S u.1 ∧ adk ad u.2 S ∧ qT u.1 b = 12) (fun (u : MS × (Nat → Nat)) (t : State) => qEH g A S s.heap u t) A) ([.ref (ad p0), .int x1] : List Value).toArray s (KC - qn S) (KS - qu S) A) (F0 m 72 ls []) := by
            intro ad72 dc72 ds72 U72 v72_0 v72_2 v72_3 H locs ls h hT_v72_0 hT_v72_2 hsh hlg hak hE hR hl
            unfold w_letters_J72 at h
            obtain ⟨a29, ea29⟩ : ∃ z, z = (v72_3 + Int32.ofInt 1) := ⟨_, rfl⟩
            replace h := h a29 ea29
            refine lv_iinc (v := a29) (lv' := [(3, .int a29), (0, .ref (ad72 v72_0)), (2, .ref (ad72 v72_2))]) hx hb dX14_letters_72 hl (k := 2) rfl ea29.symm (by decide) rfl (fun ls hl => ?_)
            refine lv_goto (tgt := 11) hx hb dX14_letters_75 (by decide) ?_
            exact ih_11 ad72 (dc72) (ds72) U72 v72_0 v72_2 a29 _ _ ls h hT_v72_0 hT_v72_2 hsh hlg hak hE hR (lv_sub hl [1, 2, 0] rfl)
          refine lv_icmp_ne (tgt := 52) hx hb dX14_letters_36 (by decide) (fun c30 => ?_) (fun c30 => ?_)
          · replace h := h.2 (k_ne rfl (by decide) c30)
            refine lv_aload_n hx hb dX14_letters_52 rfl (lv_at hl 0 rfl) ?_
            refine lv_iload_n hx hb dX14_letters_53 rfl (lv_at hl 2 rfl) ?_
            obtain ⟨hv31, h⟩ := h
            have hF : ∀ q, Ns H.size q → A q := fun q h => hA q (Nat.le_trans hR.sS.1 h)
            refine va_calli (va_runV (As := [.int v11_3]) (rest := []) ⟨hx, hb, hml, hown, hts⟩ (s_charAt l H.size (ad11 v11_0) (ad11 (v11_0 + 1)) (qN U11 (v11_0 + 1)) (qI U11 (v11_0 + 1)) v11_3 (hR.w.len hT_v11_0) hv31) (cwV 1 hts (gd2_V kx_249 kx_250 kx_251 kx_6 kx_252) rfl rfl rfl (by decide +kernel) ⟨Nat.le_of_ble_eq_true rfl, Nat.le_of_ble_eq_true rfl⟩) ⟨tblind (fun A u U H hv h => by exact tx1.moved hv h), (strR hts hR hE hA hT_v11_0), fun U hU hW9 => ⟨rfl, by rw [hU], str_at hts hR hE hA hT_v11_0 hU hW9, by rw [hU]; exact ((hE.1.kept hR.sS.2.1).narrow hF).moved hW9.alike⟩⟩ rfl rfl hl.1 rfl (lv_room (Nat.le_of_ble_eq_true rfl)) dX14_letters_54 ⟨(show dc11 + 0 ≤ KC - qn S from hlg.c), (show ds11 + 0 ≤ KS - qu S from hlg.s)⟩) hR.sS (fun q _ h => hF q h) hF (fun r32 u9 t9 H1 locs ht9 hvm9 hw9 hB9 hz9 hk9 hS => ?_)
            obtain rfl : r32 = (cAt U11 v11_0 v11_3) := hw9
            have hR : Rep g ad11 A s U11 H1 locs := hR.keep hk9 hS
            clear hz9 hk9 hvm9 ht9 hB9 hF hS
            generalize H1 = H at hR ⊢
            refine lv_bipush (v := 86) hx hb dX14_letters_57 (by decide) ?_
            refine lv_icmp_eq (tgt := 72) hx hb dX14_letters_59 (by decide) (fun c33 => ?_) (fun c33 => ?_)
            · replace h := h.1 (k_eq rfl (by decide) c33)
              exact J_72 ad11 (dc11) (ds11) U11 v11_0 v11_2 v11_3 _ _ ls h hT_v11_0 hT_v11_2 hsh hlg hak hE hR (lv_sub hl [0, 1, 2] rfl)
            · replace h := h.2 (k_ne rfl (by decide) c33)
              refine lv_aload_n hx hb dX14_letters_62 rfl (lv_at hl 1 rfl) ?_
              refine lv_aload_n hx hb dX14_letters_63 rfl (lv_at hl 0 rfl) ?_
              refine lv_iload_n hx hb dX14_letters_64 rfl (lv_at hl 2 rfl) ?_
              obtain ⟨hv34, h⟩ := h
              have hF : ∀ q, Ns H.size q → A q := fun q h => hA q (Nat.le_trans hR.sS.1 h)
              refine va_calli (va_runV (As := [.int v11_3]) (rest := [.ref (ad11 v11_2)]) ⟨hx, hb, hml, hown, hts⟩ (s_charAt l H.size (ad11 v11_0) (ad11 (v11_0 + 1)) (qN U11 (v11_0 + 1)) (qI U11 (v11_0 + 1)) v11_3 (hR.w.len hT_v11_0) hv34) (cwV 1 hts (gd2_V kx_249 kx_250 kx_251 kx_6 kx_252) rfl rfl rfl (by decide +kernel) ⟨Nat.le_of_ble_eq_true rfl, Nat.le_of_ble_eq_true rfl⟩) ⟨tblind (fun A u U H hv h => by exact tx1.moved hv h), (strR hts hR hE hA hT_v11_0), fun U hU hW9 => ⟨rfl, by rw [hU], str_at hts hR hE hA hT_v11_0 hU hW9, by rw [hU]; exact ((hE.1.kept hR.sS.2.1).narrow hF).moved hW9.alike⟩⟩ rfl rfl hl.1 rfl (lv_room (Nat.le_of_ble_eq_true rfl)) dX14_letters_65 ⟨(show dc11 + 0 ≤ KC - qn S from hlg.c), (show ds11 + 0 ≤ KS - qu S from hlg.s)⟩) hR.sS (fun q _ h => hF q h) hF (fun r35 u9 t9 H1 locs ht9 hvm9 hw9 hB9 hz9 hk9 hS => ?_)
              obtain rfl : r35 = (cAt U11 v11_0 v11_3) := hw9
              have hR : Rep g ad11 A s U11 H1 locs := hR.keep hk9 hS
              clear hz9 hk9 hvm9 ht9 hB9 hF hS
              generalize H1 = H at hR ⊢
              obtain ⟨Q36, h0, h⟩ := h
              have hFc := rfree hR hA
              refine W_led2 (fun hL0 => ?_)
              refine va_callq (va_runV (As := [.int (cAt U11 v11_0 v11_3)]) (rest := []) ⟨hx, hb, hml, hown, hts⟩ (r_J4_append_cf468 l g ad11 H U11 v11_2 (cAt U11 v11_0 v11_3) hR.w hT_v11_2 Q36 h0) (cwV 1 hts (gd2_V kx_342 kx_343 kx_344 kx_113 kx_345) rfl rfl rfl (by decide +kernel) ⟨Nat.le_of_ble_eq_true rfl, Nat.le_of_ble_eq_true rfl⟩) ⟨rblindH, va_recv hR.K hR.P (ci := 16) (q0 := v11_2) rfl (hR.atU hT_v11_2), fun U hU hW9 => rmkH hU hW9 hR hex hE hFc⟩ rfl rfl hl.1 rfl (lv_room (Nat.le_of_ble_eq_true rfl)) dX14_letters_68 ⟨(show dc11 + (KC - qn U11) ≤ KC - qn S from hlg.cm), (show ds11 + (KS - qu U11) ≤ KS - qu S from hlg.sm)⟩) hR.sS (fun q _ h => hFc q h) hFc (fun r37 S38 t9 H1 locs ht9 hvm9 hw9 hB9 hz9 hk9 hS => ?_)
              rcases S38 with ⟨S38, ak40⟩
              obtain ⟨hB9, dc9, ds9, hL9, hl9⟩ := hB9
              dsimp only at hw9 hB9 hl9
              rw [ht9] at hL9
              obtain ⟨b41, rfl, hq39, hw9, hs9, hk8, hT_b41⟩ := hw9
              have hw8 := hR.w
              have hak := hak.tr hk8 hlg.2.2.1
              have hE := hE.ad hk8
              have hR : Rep g ak40 A s S38 H1 locs := hR.callH ht9 hB9 hw9 hS hFc
              have hsh := hsh.tr hs9
              refine W_tight2 (hL0.tr hL9).1 (hL0.tr hL9).2.1 ?_
              have hlg := hlg.call hl9
              replace h := h b41 S38 hq39
              have ea_0 : ak40 v11_0 = ad11 v11_0 := hk8 _ (hw8.hd hT_v11_0 (by decide) (by decide))
              have ea_1 : ak40 v11_2 = ad11 v11_2 := hk8 _ (hw8.hd hT_v11_2 (by decide) (by decide))
              have hl : lv_has ls 4 [(0, .ref (ak40 v11_0)), (2, .ref (ak40 v11_2)), (3, .int v11_3)] := by simp only [ea_0, ea_1]; exact hl
              have hT_v11_0 := hs9.T hT_v11_0 (by decide)
              have hT_v11_2 := hs9.T hT_v11_2 (by decide)
              clear hB9 hz9 hk9 hvm9 ht9 hw9 hs9 hS hL0 hL9
              generalize H1 = H at hR ⊢
              generalize dc9 = dc_ak40, ds9 = ds_ak40 at hlg ⊢
              refine lv_pop hx hb dX14_letters_71 rfl ?_
              exact J_72 ak40 (dc11 + dc_ak40) (ds11 + ds_ak40) S38 v11_0 v11_2 v11_3 _ _ ls h hT_v11_0 hT_v11_2 hsh hlg hak hE hR (lv_sub hl [0, 1, 2] rfl)
          · replace h := h.1 (k_eq rfl (by decide) c30)
            refine lv_aload_n hx hb dX14_letters_39 rfl (lv_at hl 1 rfl) ?_
            refine lv_bipush (v := 65) hx hb dX14_letters_40 (by decide) ?_
            obtain ⟨Q42, h0, h⟩ := h
            have hFc := rfree hR hA
            refine W_led2 (fun hL0 => ?_)
            refine va_callq (va_runV (As := [.int 65]) (rest := []) ⟨hx, hb, hml, hown, hts⟩ (r_J4_append_cf468 l g ad11 H U11 v11_2 (65 : Int32) hR.w hT_v11_2 Q42 h0) (cwV 1 hts (gd2_V kx_342 kx_343 kx_344 kx_113 kx_345) rfl rfl rfl (by decide +kernel) ⟨Nat.le_of_ble_eq_true rfl, Nat.le_of_ble_eq_true rfl⟩) ⟨rblindH, va_recv hR.K hR.P (ci := 16) (q0 := v11_2) rfl (hR.atU hT_v11_2), fun U hU hW9 => rmkH hU hW9 hR hex hE hFc⟩ rfl rfl hl.1 rfl (lv_room (Nat.le_of_ble_eq_true rfl)) dX14_letters_42 ⟨(show dc11 + (KC - qn U11) ≤ KC - qn S from hlg.cm), (show ds11 + (KS - qu U11) ≤ KS - qu S from hlg.sm)⟩) hR.sS (fun q _ h => hFc q h) hFc (fun r43 S44 t9 H1 locs ht9 hvm9 hw9 hB9 hz9 hk9 hS => ?_)
            rcases S44 with ⟨S44, ak46⟩
            obtain ⟨hB9, dc9, ds9, hL9, hl9⟩ := hB9
            dsimp only at hw9 hB9 hl9
            rw [ht9] at hL9
            obtain ⟨b47, rfl, hq45, hw9, hs9, hk8, hT_b47⟩ := hw9
            have hw8 := hR.w
            have hak := hak.tr hk8 hlg.2.2.1
            have hE := hE.ad hk8
            have hR : Rep g ak46 A s S44 H1 locs := hR.callH ht9 hB9 hw9 hS hFc
            have hsh := hsh.tr hs9
            refine W_tight2 (hL0.tr hL9).1 (hL0.tr hL9).2.1 ?_
            have hlg := hlg.call hl9
            replace h := h b47 S44 hq45
            have ea_0 : ak46 v11_0 = ad11 v11_0 := hk8 _ (hw8.hd hT_v11_0 (by decide) (by decide))
            have ea_1 : ak46 v11_2 = ad11 v11_2 := hk8 _ (hw8.hd hT_v11_2 (by decide) (by decide))
            have hl : lv_has ls 4 [(0, .ref (ak46 v11_0)), (2, .ref (ak46 v11_2)), (3, .int v11_3)] := by simp only [ea_0, ea_1]; exact hl
            have hT_v11_0 := hs9.T hT_v11_0 (by decide)
            have hT_v11_2 := hs9.T hT_v11_2 (by decide)
            clear hB9 hz9 hk9 hvm9 ht9 hw9 hs9 hS hL0 hL9
            generalize H1 = H at hR ⊢
            generalize dc9 = dc_ak46, ds9 = ds_ak46 at hlg ⊢
            refine lv_pop hx hb dX14_letters_45 rfl ?_
            obtain ⟨a48, ea48⟩ : ∃ z, z = (v11_3 + Int32.ofInt 1) := ⟨_, rfl⟩
            replace h := h a48 ea48
            refine lv_iinc (v := a48) (lv' := [(3, .int a48), (0, .ref (ak46 v11_0)), (2, .ref (ak46 v11_2))]) hx hb dX14_letters_46 hl (k := 2) rfl ea48.symm (by decide) rfl (fun ls hl => ?_)
            refine lv_goto (tgt := 72) hx hb dX14_letters_49 (by decide) ?_
            exact J_72 ak46 (dc11 + dc_ak46) (ds11 + ds_ak46) S44 v11_0 v11_2 a48 _ _ ls h hT_v11_0 hT_v11_2 hsh hlg hak hE hR (lv_sub hl [1, 2, 0] rfl)
  obtain ⟨n9, h⟩ := h
  exact J_11 n9 ak9 (0 + 1 + dc_ak9) (0 + 4 + ds_ak9) S7 p0 (qn S) x1 _ _ ls h hT_p0 hT_b5 hsh hlg hak hE hR (lv_sub hl [2, 1, 0] rfl)
def w_closing_L2 (Q : Int32 → MS → Prop) : Nat → MS → Nat → Int32 → Prop
  | 0, _, _, _ => False
  | n2 + 1, U2, v2_0, v2_1 => (((0 : Int) ≤ v2_1.toInt ∧ v2_1.toInt < (qN U2 (v2_0 + 1) : Int)) ∧ (((cAt U2 v2_0 v2_1).toInt = 41 → Q v2_1 U2) ∧ (¬ (cAt U2 v2_0 v2_1).toInt = 41 → (∀ a4 : Int32, a4 = (v2_1 + Int32.ofInt 1) → (w_closing_L2 Q n2) U2 v2_0 a4))))
def w_closing (S : MS) (p0 : Nat) (Q : Int32 → MS → Prop) : Prop := (∃ n, w_closing_L2 Q n S p0 0)
set_option maxHeartbeats 2000000 in
set_option maxRecDepth 100000 in
theorem r_closing (l : Launch) (g : Gr) (ad : Nat → Nat) (sz : Nat) (S : MS) (p0 : Nat) (hw : wfM S) (hT_p0 : qT S p0 = 12) (Q : Int32 → MS → Prop) (h : w_closing S p0 Q) : Met l yX14_closing (wt2 yX14_closing cX14_closing 2 (some .int)) ({ frames := 4, cells := 0, slots := 0, locals := 85 }) (va_Pc [.ref (ad p0)] (st_R g ad sz S)) (va_Qi (fun (r : Int32) (u : MS) => Q r u ∧ wfM u ∧ shy S u) (fun (u : MS) (t : State) => qE g ad (va_A (Wd g ad S) sz) u t) (va_A (Wd g ad S) sz)) 0 0 (va_A (Wd g ad S) sz) := by
  refine Met.ofW (cc := cX14_closing) (maxL := 2) (ret := (some .int)) (by decide) rfl ?_
  intro p e s m args below meth c s₁ B hml hv
  obtain ⟨rfl, hsz, hP, hK, hD0, hex, hE⟩ := hv
  have hx := B.exec
  have hb := B.bytes
  have hr := B.returns
  have hts0 := atoms_spec (ws := wt2 yX14_closing cX14_closing 2 (some .int)) B.pre
  have hts : ∀ w ∈ tb2, w.before _ s = true := fun w h => hts0 w (List.mem_cons_of_mem _ h)
  have hown : s.vm.findClass RX14 = some m.cls := findClass_of_methodNamed B.named
  subst hsz
  have hD := hD0.self (sz := s.heap.size)
  generalize hAe : va_A (Wd g ad S) s.heap.size = A at hD hE ⊢
  have hA : ∀ q : Nat, s.heap.size ≤ q → A q := fun q h => by rw [← hAe]; exact Or.inr h
  have hR : Rep g ad A s S s.heap [] := ⟨hK, hP, hD, va_S.rf, hw⟩
  clear hK hP hD hD0
  have hl := lv_entry ([.ref (ad p0)]) (n := 2) (Nat.le_of_ble_eq_true rfl)
  rw [lg_entry_eq]
  generalize (lg_sl ([.ref (ad p0)]) ++ List.replicate (2 - (lg_sl ([.ref (ad p0)])).length) Slot.unset).toArray = ls at hl ⊢
  have hl : lv_has ls 2 [(0, .ref (ad p0))] := hl
  have hsh : shy S S := shy.rf
  unfold w_closing at h
  refine lv_iconst (v := 0) hx hb dX14_closing_0 (by decide) ?_
  refine lv_istore_n (lv' := [(1, .int 0), (0, .ref (ad p0))]) hx hb dX14_closing_1 rfl hl (by decide) rfl (fun ls hl => ?_)
  have J_2 : ∀ (n2 : Nat) (U2 : MS) (v2_0 : Nat) (v2_1 : Int32) (H : Heap) (locs : List Loc) (ls : Array Slot), w_closing_L2 Q n2 U2 v2_0 v2_1 → qT U2 v2_0 = 12 → shy S U2 → Rep g ad A s U2 H locs → lv_has ls 2 [(0, .ref (ad v2_0)), (1, .int v2_1)] → W p l e (headSpec (wt2 yX14_closing cX14_closing 2 (some .int)) ({ frames := 4, cells := 0, slots := 0, locals := 85 })).room s m ([.ref (ad p0)] : List Value).toArray below meth c H locs 0 0 (MQ below (va_Qi (fun (r : Int32) (u : MS) => Q r u ∧ wfM u ∧ shy S u) (fun (u : MS) (t : State) => qE g ad A u t) A) ([.ref (ad p0)] : List Value).toArray s 0 0 A) (F0 m 2 ls []) := by
    intro n2
    induction n2 with
    | zero => intro U2 v2_0 v2_1 H locs ls h hT_v2_0 hsh hR hl; unfold w_closing_L2 at h; exact h.elim
    | succ n2 ih_2 =>
      intro U2 v2_0 v2_1 H locs ls h hT_v2_0 hsh hR hl
      unfold w_closing_L2 at h
      refine lv_aload_n hx hb dX14_closing_2 rfl (lv_at hl 0 rfl) ?_
      refine lv_iload_n hx hb dX14_closing_3 rfl (lv_at hl 1 rfl) ?_
      obtain ⟨hv1, h⟩ := h
      have hF : ∀ q, Ns H.size q → A q := fun q h => hA q (Nat.le_trans hR.sS.1 h)
      refine va_calli (va_runV (As := [.int v2_1]) (rest := []) ⟨hx, hb, hml, hown, hts⟩ (s_charAt l H.size (ad v2_0) (ad (v2_0 + 1)) (qN U2 (v2_0 + 1)) (qI U2 (v2_0 + 1)) v2_1 (hR.w.len hT_v2_0) hv1) (cwV 1 hts (gd2_V kx_249 kx_250 kx_251 kx_6 kx_252) rfl rfl rfl (by decide +kernel) ⟨Nat.le_of_ble_eq_true rfl, Nat.le_of_ble_eq_true rfl⟩) ⟨tblind (fun A u U H hv h => by exact tx1.moved hv h), (strR hts hR hE hA hT_v2_0), fun U hU hW9 => ⟨rfl, by rw [hU], str_at hts hR hE hA hT_v2_0 hU hW9, by rw [hU]; exact ((hE.1.kept hR.sS.2.1).narrow hF).moved hW9.alike⟩⟩ rfl rfl hl.1 rfl (lv_room (Nat.le_of_ble_eq_true rfl)) dX14_closing_4 ⟨Nat.le_of_ble_eq_true rfl, Nat.le_of_ble_eq_true rfl⟩) hR.sS (fun q _ h => hF q h) hF (fun r2 u9 t9 H1 locs ht9 hvm9 hw9 hB9 hz9 hk9 hS => ?_)
      obtain rfl : r2 = (cAt U2 v2_0 v2_1) := hw9
      have hR : Rep g ad A s U2 H1 locs := hR.keep hk9 hS
      clear hz9 hk9 hvm9 ht9 hB9 hF hS
      generalize H1 = H at hR ⊢
      refine lv_bipush (v := 41) hx hb dX14_closing_7 (by decide) ?_
      refine lv_icmp_eq (tgt := 18) hx hb dX14_closing_9 (by decide) (fun c3 => ?_) (fun c3 => ?_)
      · replace h := h.1 (k_eq rfl (by decide) c3)
        refine lv_iload_n hx hb dX14_closing_18 rfl (lv_at hl 1 rfl) ?_
        exact W.iret (v := v2_1) hx hb hr (fun t9 ht9 hW9 => ⟨⟨_, U2, rfl, ⟨h, hR.w, hsh⟩, ⟨by rw [ht9]; exact hR.P, hR.D⟩⟩, hR.sS.F ht9⟩) hR.sS.2.2 dX14_closing_19
      · replace h := h.2 (k_ne rfl (by decide) c3)
        obtain ⟨a4, ea4⟩ : ∃ z, z = (v2_1 + Int32.ofInt 1) := ⟨_, rfl⟩
        replace h := h a4 ea4
        refine lv_iinc (v := a4) (lv' := [(1, .int a4), (0, .ref (ad v2_0))]) hx hb dX14_closing_12 hl (k := 1) rfl ea4.symm (by decide) rfl (fun ls hl => ?_)
        refine lv_goto (tgt := 2) hx hb dX14_closing_15 (by decide) ?_
        exact ih_2 U2 v2_0 a4 _ _ ls h hT_v2_0 hsh hR (lv_sub hl [1, 0] rfl)
  obtain ⟨n9, h⟩ := h
  exact J_2 n9 S p0 0 _ _ ls h hT_p0 hsh hR (lv_sub hl [1, 0] rfl)
def w_firstInts_L6 (Q : Nat → MS → Prop) : Nat → MS → Nat → Int32 → Nat → Int32 → Prop
  | 0, _, _, _, _, _ => False
  | n6 + 1, U6, v6_0, v6_1, v6_2, v6_3 => ((v6_1.toInt ≤ v6_3.toInt → Q v6_2 U6) ∧ (¬ v6_1.toInt ≤ v6_3.toInt → (((0 : Int) ≤ v6_3.toInt ∧ v6_3.toInt < (qN U6 v6_0 : Int)) ∧ (((0 : Int) ≤ v6_3.toInt ∧ v6_3.toInt < (qN U6 v6_2 : Int)) ∧ (∀ S10, S10 = wI U6 v6_2 v6_3.toInt.toNat (qI U6 v6_0 v6_3.toInt.toNat) → (∀ a11 : Int32, a11 = (v6_3 + Int32.ofInt 1) → (w_firstInts_L6 Q n6) S10 v6_0 v6_1 v6_2 a11))))))
def w_firstInts (S : MS) (p0 : Nat) (x1 : Int32) (Q : Nat → MS → Prop) : Prop := (((0 : Int) ≤ x1.toInt ∧ (qn S + 1 ≤ KC ∧ qu S + x1.toInt.toNat ≤ KS)) ∧ (∀ S4, S4 = wN S 2 x1.toInt.toNat x1.toInt.toNat → (∃ n, w_firstInts_L6 Q n S4 p0 x1 (qn S) 0)))
set_option maxHeartbeats 2000000 in
set_option maxRecDepth 100000 in
theorem r_firstInts (l : Launch) (g : Gr) (ad : Nat → Nat) (H0 : Heap) (S : MS) (p0 : Nat) (x1 : Int32) (hw : wfM S) (hT_p0 : qT S p0 = 2) (Q : Nat → MS → Prop) (h : w_firstInts S p0 x1 Q) : Met l yX14_firstInts (wt2 yX14_firstInts cX14_firstInts 4 (some (.array .int))) ({ frames := 0, cells := KC - qn S, slots := KS - qu S, locals := 0 }) (va_Pc [.ref (ad p0), .int x1] (st_RH g ad H0 S)) (va_Qq (fun (r : Option Nat) (u : MS × (Nat → Nat)) => ∃ b : Nat, r = some (u.2 b) ∧ Q b u.1 ∧ wfM u.1 ∧ shx S u.1 ∧ adk ad u.2 S ∧ qT u.1 b = 2) (fun (u : MS × (Nat → Nat)) (t : State) => qEH g (va_A (Wd g ad S) H0.size) S H0 u t) (va_A (Wd g ad S) H0.size)) (KC - qn S) (KS - qu S) (va_A (Wd g ad S) H0.size) := by
  refine Met.ofW (cc := cX14_firstInts) (maxL := 4) (ret := (some (.array .int))) (by decide) rfl ?_
  intro p e s m args below meth c s₁ B hml hv
  obtain ⟨rfl, hH0, hsz, hP, hK, hD0, hex, hE⟩ := hv
  have hx := B.exec
  have hb := B.bytes
  have hr := B.returns
  have hts0 := atoms_spec (ws := wt2 yX14_firstInts cX14_firstInts 4 (some (.array .int))) B.pre
  have hts : ∀ w ∈ tb2, w.before _ s = true := fun w h => hts0 w (List.mem_cons_of_mem _ h)
  have hown : s.vm.findClass RX14 = some m.cls := findClass_of_methodNamed B.named
  subst hH0
  have hD := hD0.self (sz := s.heap.size)
  generalize hAe : va_A (Wd g ad S) s.heap.size = A at hD hE ⊢
  have hA : ∀ q : Nat, s.heap.size ≤ q → A q := fun q h => by rw [← hAe]; exact Or.inr h
  have hR : Rep g ad A s S s.heap [] := ⟨hK, hP, hD, va_S.rf, hw⟩
  clear hK hP hD hD0
  have hl := lv_entry ([.ref (ad p0), .int x1]) (n := 4) (Nat.le_of_ble_eq_true rfl)
  rw [lg_entry_eq]
  generalize (lg_sl ([.ref (ad p0), .int x1]) ++ List.replicate (4 - (lg_sl ([.ref (ad p0), .int x1])).length) Slot.unset).toArray = ls at hl ⊢
  have hlg : lg S S 0 0 := lg.rf
  have hak : adk ad ad S := adk.rf
  have hl : lv_has ls 4 [(0, .ref (ad p0)), (1, .int x1)] := hl
  have hsh : shx S S := shx.rf
  unfold w_firstInts at h
  refine lv_iload_n hx hb dX14_firstInts_0 rfl (lv_at hl 1 rfl) ?_
  obtain ⟨hv1, h⟩ := h
  have e9 : KC = 300000 := rfl
  have e8 : KS = 3720000 := rfl
  have e7 : TXB = 10000000 := rfl
  have hTX : qn S < TXB := by have := hv1.2.1; omega
  refine va_newa (atype := .int) (ty := .int) (a0 := (x1.toInt.toNat, .inl (fun _ => 0))) (N' := x1.toInt.toNat) hx hb (hts (.arrayClass .int) kx_346) rfl hR.K hR.P hR.D hR.sS hA (fun _ => rfl) (fun q9 => absurd (k_lt (b := 0) rfl (by decide) q9) (Int.not_lt.mpr hv1.1)) rfl (by show x1.toInt.toNat * 4 ≤ 536870912; have := hv1.2.2; omega) (show 0 + 1 ≤ KC - qn S from hlg.c1 hv1.2.1) (show 0 + x1.toInt.toNat ≤ KS - qu S from hlg.s1 hv1.2.2) dX14_firstInts_1 (fun q2 cA9 H hK9 hP hD hS => ?_)
  obtain rfl := cls_new2 hR.K hK9 (k := 1) rfl (fun _ h => by cases h)
  have hw8 := hR.w
  have hR := hR.new (t := 2) (n := x1.toInt.toNat) (k := x1.toInt.toNat) hTX (by decide) (fun q9 => absurd q9 (by decide)) wN_cI hP hD hS
  have hk8 : adk ad (adx ad (qn S) q2) S := adk.rf.new (Nat.le_refl _) hTX
  have hak := hak.new (q := q2) hlg.2.2.1 hTX
  have hE := hE.ad hk8
  have hlg : lg S (wN S 2 x1.toInt.toNat x1.toInt.toNat) (0 + 1) (0 + x1.toInt.toNat) := hlg.new (t := 2) (n := x1.toInt.toNat) ⟨hv1.2.1, hv1.2.2⟩
  have hs8 : shx S (wN S 2 x1.toInt.toNat x1.toInt.toNat) := shx.new (t := 2) (n := x1.toInt.toNat) (k := x1.toInt.toNat) shx.rf hw8 hTX
  obtain ⟨am3, eam3⟩ : ∃ z, z = adx ad (qn S) q2 := ⟨_, rfl⟩
  have eq_q2 : am3 (qn S) = q2 := by rw [eam3]; exact if_pos rfl
  rw [← eam3] at hR hk8 hak hE
  obtain ⟨S4, eS4⟩ : ∃ z, z = wN S 2 x1.toInt.toNat x1.toInt.toNat := ⟨_, rfl⟩
  rw [← eS4] at hR hlg hs8
  replace h := h S4 eS4
  have hsh := hsh.tr hs8
  have hT_b5 : qT S4 (qn S) = 2 := by rw [eS4]; exact if_pos rfl
  have ea_0 : am3 p0 = ad p0 := hk8 _ (hw8.hd hT_p0 (by decide) (by decide))
  have hT_p0 := hs8.T hT_p0 (by decide)
  have hl : lv_has ls 4 [(0, .ref (am3 p0)), (1, .int x1)] := by simp only [ea_0]; exact hl
  refine W.eq (g2 := F0 m 3 ls [.ref (am3 (qn S))]) (by simp only [ea_0, eq_q2]) ?_
  clear hw8 hk8 hs8 hP hD hS e9 e8 e7 hTX
  refine lv_astore_n (lv' := [(2, .ref (am3 (qn S))), (0, .ref (am3 p0)), (1, .int x1)]) hx hb dX14_firstInts_3 rfl hl (by decide) rfl (fun ls hl => ?_)
  refine lv_iconst (v := 0) hx hb dX14_firstInts_4 (by decide) ?_
  refine lv_istore_n (lv' := [(3, .int 0), (2, .ref (am3 (qn S))), (0, .ref (am3 p0)), (1, .int x1)]) hx hb dX14_firstInts_5 rfl hl (by decide) rfl (fun ls hl => ?_)
  have J_6 : ∀ (n6 : Nat) (ad6 : Nat → Nat) (dc6 ds6 : Nat) (U6 : MS) (v6_0 : Nat) (v6_1 : Int32) (v6_2 : Nat) (v6_3 : Int32) (H : Heap) (locs : List Loc) (ls : Array Slot), w_firstInts_L6 Q n6 U6 v6_0 v6_1 v6_2 v6_3 → qT U6 v6_0 = 2 → qT U6 v6_2 = 2 → shx S U6 → lg S U6 dc6 ds6 → adk ad ad6 S → ogR ad6 A s s.heap → Rep g ad6 A s U6 H locs → lv_has ls 4 [(0, .ref (ad6 v6_0)), (1, .int v6_1), (2, .ref (ad6 v6_2)), (3, .int v6_3)] → W p l e (headSpec (wt2 yX14_firstInts cX14_firstInts 4 (some (.array .int))) ({ frames := 0, cells := KC - qn S, slots := KS - qu S, locals := 0 })).room s m ([.ref (ad p0), .int x1] : List Value).toArray below meth c H locs dc6 ds6 (MQ below (va_Qq (fun (r : Option Nat) (u : MS × (Nat → Nat)) => ∃ b : Nat, r = some (u.2 b) ∧ Q b u.1 ∧ wfM u.1 ∧ shx S u.1 ∧ adk ad u.2 S ∧ qT u.1 b = 2) (fun (u : MS × (Nat → Nat)) (t : State) => qEH g A S s.heap u t) A) ([.ref (ad p0), .int x1] : List Value).toArray s (KC - qn S) (KS - qu S) A) (F0 m 6 ls []) := by
    intro n6
    induction n6 with
    | zero => intro ad6 dc6 ds6 U6 v6_0 v6_1 v6_2 v6_3 H locs ls h hT_v6_0 hT_v6_2 hsh hlg hak hE hR hl; unfold w_firstInts_L6 at h; exact h.elim
    | succ n6 ih_6 =>
      intro ad6 dc6 ds6 U6 v6_0 v6_1 v6_2 v6_3 H locs ls h hT_v6_0 hT_v6_2 hsh hlg hak hE hR hl
      unfold w_firstInts_L6 at h
      refine lv_iload_n hx hb dX14_firstInts_6 rfl (lv_at hl 3 rfl) ?_
      refine lv_iload_n hx hb dX14_firstInts_7 rfl (lv_at hl 1 rfl) ?_
      refine lv_icmp_ge (tgt := 23) hx hb dX14_firstInts_8 (by decide) (fun c6 => ?_) (fun c6 => ?_)
      · replace h := h.1 (k_le rfl rfl c6)
        refine lv_aload_n hx hb dX14_firstInts_23 rfl (lv_at hl 2 rfl) ?_
        refine W_led2 (fun hLd => ?_)
        refine W.widen (k := KC - qn S) (n := KS - qu S) hlg.c hlg.s ?_
        exact W.aret (v := .ref (ad6 v6_2)) hx hb hr (Or.inr ⟨_, rfl⟩) (Or.inr ⟨_, rfl⟩) (fun t9 ht9 hW9 => ⟨⟨some (ad6 v6_2), (U6, ad6), rfl, ⟨v6_2, rfl, h, hR.w, hsh, hak, hT_v6_2⟩, ⟨⟨by rw [ht9]; exact hR.P, hR.D⟩, _, _, by rw [ht9]; exact hLd, hlg⟩⟩, hR.sS.F ht9⟩) hR.sS.2.2 dX14_firstInts_24
      · replace h := h.2 (k_nle rfl rfl c6)
        refine lv_aload_n hx hb dX14_firstInts_11 rfl (lv_at hl 2 rfl) ?_
        refine lv_iload_n hx hb dX14_firstInts_12 rfl (lv_at hl 3 rfl) ?_
        refine lv_aload_n hx hb dX14_firstInts_13 rfl (lv_at hl 0 rfl) ?_
        refine lv_iload_n hx hb dX14_firstInts_14 rfl (lv_at hl 3 rfl) ?_
        obtain ⟨hv7, h⟩ := h
        refine va_iald hx hb hR.K hR.P v6_0 1 (hR.atI hT_v6_0) rfl (k_ix (x := v6_3) (a := v6_3.toInt) rfl hv7) dX14_firstInts_15 ?_
        refine lv_topi (fun z8 ez8 => ?_)
        obtain rfl : z8 = (qI U6 v6_0 v6_3.toInt.toNat) := ez8
        obtain ⟨hv9, h⟩ := h
        refine va_iast hx hb hR.K hR.P hR.D hR.sS v6_2 1 (hR.atI hT_v6_2) rfl (k_ix (x := v6_3) (a := v6_3.toInt) rfl hv9) dX14_firstInts_16 (fun H locs hP hD hS => ?_)
        have hR : Rep g ad6 A s (wI U6 v6_2 v6_3.toInt.toNat (qI U6 v6_0 v6_3.toInt.toNat)) H locs := hR.aI hT_v6_2 hP hD hS
        obtain ⟨S10, eS10⟩ : ∃ z, z = wI U6 v6_2 v6_3.toInt.toNat (qI U6 v6_0 v6_3.toInt.toNat) := ⟨_, rfl⟩
        rw [← eS10] at hR
        replace h := h S10 eS10
        have hT_v6_0 : qT S10 v6_0 = 2 := (congrArg (fun z => qT z v6_0) eS10).trans hT_v6_0
        have hT_v6_2 : qT S10 v6_2 = 2 := (congrArg (fun z => qT z v6_2) eS10).trans hT_v6_2
        have hsh : shx S S10 := by rw [eS10]; exact hsh
        have hlg : lg S S10 (dc6) (ds6) := by rw [eS10]; exact hlg
        obtain ⟨a11, ea11⟩ : ∃ z, z = (v6_3 + Int32.ofInt 1) := ⟨_, rfl⟩
        replace h := h a11 ea11
        refine lv_iinc (v := a11) (lv' := [(3, .int a11), (0, .ref (ad6 v6_0)), (1, .int v6_1), (2, .ref (ad6 v6_2))]) hx hb dX14_firstInts_17 hl (k := 3) rfl ea11.symm (by decide) rfl (fun ls hl => ?_)
        refine lv_goto (tgt := 6) hx hb dX14_firstInts_20 (by decide) ?_
        exact ih_6 ad6 (dc6) (ds6) S10 v6_0 v6_1 v6_2 a11 _ _ ls h hT_v6_0 hT_v6_2 hsh hlg hak hE hR (lv_sub hl [1, 2, 3, 0] rfl)
  obtain ⟨n9, h⟩ := h
  exact J_6 n9 am3 (0 + 1) (0 + x1.toInt.toNat) S4 p0 x1 (qn S) 0 _ _ ls h hT_p0 hT_b5 hsh hlg hak hE hR (lv_sub hl [2, 3, 1, 0] rfl)
def w_kept (S : MS) (p1 : Nat) (Q : Int32 → MS → Prop) : Prop := (((0 : Int) ≤ (qI S 0 1).toInt ∧ (qI S 0 1).toInt < 12) ∧ (∀ S2, S2 = wR S 1 (((qI S 0 1).toInt).toNat) (some p1) → (∀ S4, S4 = wI S2 0 1 ((qI S2 0 1) + (1 : Int32)) → Q ((qI S4 0 1) - (1 : Int32)) S4)))
set_option maxHeartbeats 2000000 in
set_option maxRecDepth 100000 in
theorem r_kept (l : Launch) (g : Gr) (ad : Nat → Nat) (sz : Nat) (S : MS) (p1 : Nat) (hw : wfM S) (hT_p1 : qT S p1 = 11) (Q : Int32 → MS → Prop) (h : w_kept S p1 Q) : Met l yX14_kept (wt2 yX14_kept cX14_kept 2 (some .int)) ({ frames := 0, cells := 0, slots := 0, locals := 0 }) (va_Pc [.ref (ad 0), .ref (ad p1)] (st_R g ad sz S)) (va_Qi (fun (r : Int32) (u : MS) => Q r u ∧ wfM u ∧ shy S u) (fun (u : MS) (t : State) => qE g ad (va_A (Wd g ad S) sz) u t) (va_A (Wd g ad S) sz)) 0 0 (va_A (Wd g ad S) sz) := by
  refine Met.ofW (cc := cX14_kept) (maxL := 2) (ret := (some .int)) (by decide) rfl ?_
  intro p e s m args below meth c s₁ B hml hv
  obtain ⟨rfl, hsz, hP, hK, hD0, hex, hE⟩ := hv
  have hx := B.exec
  have hb := B.bytes
  have hr := B.returns
  have hts0 := atoms_spec (ws := wt2 yX14_kept cX14_kept 2 (some .int)) B.pre
  have hts : ∀ w ∈ tb2, w.before _ s = true := fun w h => hts0 w (List.mem_cons_of_mem _ h)
  have hown : s.vm.findClass RX14 = some m.cls := findClass_of_methodNamed B.named
  subst hsz
  have hD := hD0.self (sz := s.heap.size)
  generalize hAe : va_A (Wd g ad S) s.heap.size = A at hD hE ⊢
  have hA : ∀ q : Nat, s.heap.size ≤ q → A q := fun q h => by rw [← hAe]; exact Or.inr h
  have hR : Rep g ad A s S s.heap [] := ⟨hK, hP, hD, va_S.rf, hw⟩
  clear hK hP hD hD0
  have hl := lv_entry ([.ref (ad 0), .ref (ad p1)]) (n := 2) (Nat.le_of_ble_eq_true rfl)
  rw [lg_entry_eq]
  generalize (lg_sl ([.ref (ad 0), .ref (ad p1)]) ++ List.replicate (2 - (lg_sl ([.ref (ad 0), .ref (ad p1)])).length) Slot.unset).toArray = ls at hl ⊢
  have hl : lv_has ls 2 [(0, .ref (ad 0)), (1, .ref (ad p1))] := hl
  have hsh : shy S S := shy.rf
  unfold w_kept at h
  refine lv_aload_n hx hb dX14_kept_0 rfl (lv_at hl 0 rfl) ?_
  refine va_get (D := rD g) (ci := 13) (v := .ref (ad 1)) (C := RX14) (T := TX14) (N := 143) hx hb hts in2X14 hown hR.K hR.P 0 (hR.at14 hR.w.1) rfl 0 (by decide) (hts _ kx_347) (fun _ h9 => h9) (congrArg (fun z => some (vf ad z)) (hR.w.2.1 _ fin_0).1) dX14_kept_1 ?_
  refine lv_aload_n hx hb dX14_kept_4 rfl (lv_at hl 0 rfl) ?_
  refine va_get (D := rD g) (ci := 13) (v := .int (qI S 0 1)) (C := RX14) (T := TX14) (N := 143) hx hb hts in2X14 hown hR.K hR.P 0 (hR.at14 hR.w.1) rfl 1 (by decide) (hts _ kx_348) (fun _ h9 => h9) rfl dX14_kept_5 ?_
  refine lv_aload_n hx hb dX14_kept_8 rfl (lv_at hl 1 rfl) ?_
  obtain ⟨hv1, h⟩ := h
  refine va_astq hx hb hR.K hR.P hR.D hR.sS 1 5 p1 12 (hR.atF (hR.w.2.1 _ fin_0).2.1) rfl (hR.at13 hT_p1) rfl (k_ixN (k_ix (n := 12) (x := (qI S 0 1)) (a := (qI S 0 1).toInt) rfl hv1) (hR.w.2.1 _ fin_0).2.2) dX14_kept_9 (fun H locs hP hD hS => ?_)
  have hw9 : wfM (wR S 1 (((qI S 0 1).toInt).toNat) (some p1)) := hR.w.put (fun b q9 => by cases q9; exact (hT_p1).trans (by rw [(hR.w.2.1 _ fin_0).2.1]; rfl)) (fun q9 => absurd ((congrArg (qT S) q9).symm.trans (hR.w.2.1 _ fin_0).2.1) (by rw [hR.w.1]; decide)) (by rw [(hR.w.2.1 _ fin_0).2.1]; show (11 : Nat) ≠ 0; decide)
  have hR : Rep g ad A s (wR S 1 (((qI S 0 1).toInt).toNat) (some p1)) H locs := hR.aF (hR.w.2.1 _ fin_0).2.1 hw9 hP hD hS
  obtain ⟨S2, eS2⟩ : ∃ z, z = wR S 1 (((qI S 0 1).toInt).toNat) (some p1) := ⟨_, rfl⟩
  rw [← eS2] at hR
  replace h := h S2 eS2
  have hT_p1 : qT S2 p1 = 11 := (congrArg (fun z => qT z p1) eS2).trans hT_p1
  have hsh : shy S S2 := by rw [eS2]; exact hsh
  refine lv_aload_n hx hb dX14_kept_10 rfl (lv_at hl 0 rfl) ?_
  refine lv_dup hx hb dX14_kept_11 rfl ?_
  refine va_get (D := rD g) (ci := 13) (v := .int (qI S2 0 1)) (C := RX14) (T := TX14) (N := 143) hx hb hts in2X14 hown hR.K hR.P 0 (hR.at14 hR.w.1) rfl 1 (by decide) (hts _ kx_348) (fun _ h9 => h9) rfl dX14_kept_12 ?_
  refine lv_iconst (v := 1) hx hb dX14_kept_15 (by decide) ?_
  refine lv_iadd hx hb dX14_kept_16 ?_
  refine lv_topi (fun z3 ez3 => ?_)
  obtain rfl : z3 = ((qI S2 0 1) + (1 : Int32)) := ez3
  refine va_put (D := rD g) (ci := 13) (v := .int ((qI S2 0 1) + (1 : Int32))) (ty := .int) (C := RX14) (T := TX14) (N := 143) hx hb hts in2X14 tyX14 tyX14_ok nmX14 hown hR.K hR.P hR.D hR.sS 0 (hR.at14 hR.w.1) rfl 1 (by decide) (hts _ kx_348) (fun _ h9 => h9) rfl (by decide +kernel) rfl rfl (Nat.le_of_ble_eq_true rfl) dX14_kept_17 (fun H locs hP hD hS => ?_)
  have hR : Rep g ad A s (wI S2 0 1 ((qI S2 0 1) + (1 : Int32))) H locs := hR.pI hR.w.1 F14_s1 hP hD hS
  obtain ⟨S4, eS4⟩ : ∃ z, z = wI S2 0 1 ((qI S2 0 1) + (1 : Int32)) := ⟨_, rfl⟩
  rw [← eS4] at hR
  replace h := h S4 eS4
  have hT_p1 : qT S4 p1 = 11 := (congrArg (fun z => qT z p1) eS4).trans hT_p1
  have hsh : shy S S4 := by rw [eS4]; exact hsh
  refine lv_aload_n hx hb dX14_kept_20 rfl (lv_at hl 0 rfl) ?_
  refine va_get (D := rD g) (ci := 13) (v := .int (qI S4 0 1)) (C := RX14) (T := TX14) (N := 143) hx hb hts in2X14 hown hR.K hR.P 0 (hR.at14 hR.w.1) rfl 1 (by decide) (hts _ kx_348) (fun _ h9 => h9) rfl dX14_kept_21 ?_
  refine lv_iconst (v := 1) hx hb dX14_kept_24 (by decide) ?_
  refine lv_isub hx hb dX14_kept_25 ?_
  refine lv_topi (fun z5 ez5 => ?_)
  obtain rfl : z5 = ((qI S4 0 1) - (1 : Int32)) := ez5
  exact W.iret (v := ((qI S4 0 1) - (1 : Int32))) hx hb hr (fun t9 ht9 hW9 => ⟨⟨_, S4, rfl, ⟨h, hR.w, hsh⟩, ⟨by rw [ht9]; exact hR.P, hR.D⟩⟩, hR.sS.F ht9⟩) hR.sS.2.2 dX14_kept_26
def w_fileAt_J21 (Q : Option Nat → MS → Prop) (U21 : MS) : Prop := Q none U21
def w_fileAt (S : MS) (x1 : Int32) (Q : Option Nat → MS → Prop) : Prop := ((x1.toInt < 0 → w_fileAt_J21 Q S) ∧ (¬ x1.toInt < 0 → (((qI S 0 1).toInt ≤ x1.toInt → w_fileAt_J21 Q S) ∧ (¬ (qI S 0 1).toInt ≤ x1.toInt → (((0 : Int) ≤ x1.toInt ∧ x1.toInt < 12) ∧ ((qR S 1 x1.toInt.toNat = some (qO S 1 x1.toInt.toNat)) ∧ Q (some (qO S 1 x1.toInt.toNat)) S))))))
set_option maxHeartbeats 2000000 in
set_option maxRecDepth 100000 in
theorem r_fileAt (l : Launch) (g : Gr) (ad : Nat → Nat) (sz : Nat) (S : MS) (x1 : Int32) (hw : wfM S) (Q : Option Nat → MS → Prop) (h : w_fileAt S x1 Q) : Met l yX14_fileAt (wt2 yX14_fileAt cX14_fileAt 2 (some (.object "CodeFoundryModel$File"))) ({ frames := 0, cells := 0, slots := 0, locals := 0 }) (va_Pc [.ref (ad 0), .int x1] (st_R g ad sz S)) (va_Qq (fun (r : Option Nat) (u : MS) => ∃ b : Option Nat, r = b.map ad ∧ Q b u ∧ wfM u ∧ shy S u ∧ ∀ z, b = some z → qT u z = 11) (fun (u : MS) (t : State) => qE g ad (va_A (Wd g ad S) sz) u t) (va_A (Wd g ad S) sz)) 0 0 (va_A (Wd g ad S) sz) := by
  refine Met.ofW (cc := cX14_fileAt) (maxL := 2) (ret := (some (.object "CodeFoundryModel$File"))) (by decide) rfl ?_
  intro p e s m args below meth c s₁ B hml hv
  obtain ⟨rfl, hsz, hP, hK, hD0, hex, hE⟩ := hv
  have hx := B.exec
  have hb := B.bytes
  have hr := B.returns
  have hts0 := atoms_spec (ws := wt2 yX14_fileAt cX14_fileAt 2 (some (.object "CodeFoundryModel$File"))) B.pre
  have hts : ∀ w ∈ tb2, w.before _ s = true := fun w h => hts0 w (List.mem_cons_of_mem _ h)
  have hown : s.vm.findClass RX14 = some m.cls := findClass_of_methodNamed B.named
  subst hsz
  have hD := hD0.self (sz := s.heap.size)
  generalize hAe : va_A (Wd g ad S) s.heap.size = A at hD hE ⊢
  have hA : ∀ q : Nat, s.heap.size ≤ q → A q := fun q h => by rw [← hAe]; exact Or.inr h
  have hR : Rep g ad A s S s.heap [] := ⟨hK, hP, hD, va_S.rf, hw⟩
  clear hK hP hD hD0
  have hl := lv_entry ([.ref (ad 0), .int x1]) (n := 2) (Nat.le_of_ble_eq_true rfl)
  rw [lg_entry_eq]
  generalize (lg_sl ([.ref (ad 0), .int x1]) ++ List.replicate (2 - (lg_sl ([.ref (ad 0), .int x1])).length) Slot.unset).toArray = ls at hl ⊢
  have hl : lv_has ls 2 [(0, .ref (ad 0)), (1, .int x1)] := hl
  have hsh : shy S S := shy.rf
  unfold w_fileAt at h
  refine lv_iload_n hx hb dX14_fileAt_0 rfl (lv_at hl 1 rfl) ?_
  have J_21 : ∀ (U21 : MS) (H : Heap) (locs : List Loc) (ls : Array Slot), w_fileAt_J21 Q U21 → shy S U21 → Rep g ad A s U21 H locs → lv_has ls 2 [] → W p l e (headSpec (wt2 yX14_fileAt cX14_fileAt 2 (some (.object "CodeFoundryModel$File"))) ({ frames := 0, cells := 0, slots := 0, locals := 0 })).room s m ([.ref (ad 0), .int x1] : List Value).toArray below meth c H locs 0 0 (MQ below (va_Qq (fun (r : Option Nat) (u : MS) => ∃ b : Option Nat, r = b.map ad ∧ Q b u ∧ wfM u ∧ shy S u ∧ ∀ z, b = some z → qT u z = 11) (fun (u : MS) (t : State) => qE g ad A u t) A) ([.ref (ad 0), .int x1] : List Value).toArray s 0 0 A) (F0 m 21 ls []) := by
    intro U21 H locs ls h hsh hR hl
    unfold w_fileAt_J21 at h
    refine lv_null hx hb dX14_fileAt_21 ?_
    exact W.aret (v := .null) hx hb hr (Or.inl ⟨_, rfl⟩) (Or.inl rfl) (fun t9 ht9 hW9 => ⟨⟨none, U21, rfl, ⟨none, rfl, h, hR.w, hsh, fun z q9 => by cases q9⟩, ⟨by rw [ht9]; exact hR.P, hR.D⟩⟩, hR.sS.F ht9⟩) hR.sS.2.2 dX14_fileAt_22
  refine lv_if_lt (tgt := 21) hx hb dX14_fileAt_1 (by decide) (fun c1 => ?_) (fun c1 => ?_)
  · replace h := h.1 (k_lt rfl (by decide) c1)
    exact J_21 S _ _ ls h  hsh hR (lv_sub hl [] rfl)
  · replace h := h.2 (k_nlt rfl (by decide) c1)
    refine lv_iload_n hx hb dX14_fileAt_4 rfl (lv_at hl 1 rfl) ?_
    refine lv_aload_n hx hb dX14_fileAt_5 rfl (lv_at hl 0 rfl) ?_
    refine va_get (D := rD g) (ci := 13) (v := .int (qI S 0 1)) (C := RX14) (T := TX14) (N := 143) hx hb hts in2X14 hown hR.K hR.P 0 (hR.at14 hR.w.1) rfl 1 (by decide) (hts _ kx_348) (fun _ h9 => h9) rfl dX14_fileAt_6 ?_
    refine lv_icmp_ge (tgt := 21) hx hb dX14_fileAt_9 (by decide) (fun c2 => ?_) (fun c2 => ?_)
    · replace h := h.1 (k_le rfl rfl c2)
      exact J_21 S _ _ ls h  hsh hR (lv_sub hl [] rfl)
    · replace h := h.2 (k_nle rfl rfl c2)
      refine lv_aload_n hx hb dX14_fileAt_12 rfl (lv_at hl 0 rfl) ?_
      refine va_get (D := rD g) (ci := 13) (v := .ref (ad 1)) (C := RX14) (T := TX14) (N := 143) hx hb hts in2X14 hown hR.K hR.P 0 (hR.at14 hR.w.1) rfl 0 (by decide) (hts _ kx_347) (fun _ h9 => h9) (congrArg (fun z => some (vf ad z)) (hR.w.2.1 _ fin_0).1) dX14_fileAt_13 ?_
      refine lv_iload_n hx hb dX14_fileAt_16 rfl (lv_at hl 1 rfl) ?_
      obtain ⟨hv3, h⟩ := h
      refine va_aldq hx hb hR.K hR.P 1 5 (hR.atF (hR.w.2.1 _ fin_0).2.1) rfl (k_ixN (k_ix (n := 12) (x := x1) (a := x1.toInt) rfl hv3) (hR.w.2.1 _ fin_0).2.2) dX14_fileAt_17 ?_
      obtain ⟨hv4, h⟩ := h
      have hT_b5 : qT S (qO S 1 x1.toInt.toNat) = 11 := hR.w.ref hv4 (hR.w.2.1 _ fin_0).2.1
      rw [show va_rf (Option.map ad (qR S 1 (x1 : Int32).toNatClampNeg)) = .ref (ad (qO S 1 x1.toInt.toNat)) from congrArg (fun z => vf ad z) hv4]
      refine lv_goto (tgt := 22) hx hb dX14_fileAt_18 (by decide) ?_
      exact W.aret (v := .ref (ad (qO S 1 x1.toInt.toNat))) hx hb hr (Or.inl ⟨_, rfl⟩) (Or.inr ⟨_, rfl⟩) (fun t9 ht9 hW9 => ⟨⟨some (ad (qO S 1 x1.toInt.toNat)), S, rfl, ⟨some (qO S 1 x1.toInt.toNat), rfl, h, hR.w, hsh, fun z q9 => by cases q9; exact hT_b5⟩, ⟨by rw [ht9]; exact hR.P, hR.D⟩⟩, hR.sS.F ht9⟩) hR.sS.2.2 dX14_fileAt_22
def w_isMethod_J29 (Q : Int32 → MS → Prop) (U29 : MS) : Prop := Q (0 : Int32) U29
def w_isMethod (S : MS) (x1 : Int32) (x2 : Int32) (Q : Int32 → MS → Prop) : Prop := (∃ Q1, w_fileAt S x1 Q1 ∧ ∀ b5 S3, Q1 b5 S3 → ((b5 = none → w_isMethod_J29 Q S3) ∧ (¬ b5 = none → ((x2.toInt < 0 → w_isMethod_J29 Q S3) ∧ (¬ x2.toInt < 0 → (((0 : Int) ≤ x1.toInt ∧ x1.toInt < 12) ∧ ((qR S3 1 x1.toInt.toNat = some (qO S3 1 x1.toInt.toNat)) ∧ (((qI S3 (qO S3 1 x1.toInt.toNat) 4).toInt ≤ x2.toInt → w_isMethod_J29 Q S3) ∧ (¬ (qI S3 (qO S3 1 x1.toInt.toNat) 4).toInt ≤ x2.toInt → Q (1 : Int32) S3)))))))))
set_option maxHeartbeats 2000000 in
set_option maxRecDepth 100000 in
theorem r_isMethod (l : Launch) (g : Gr) (ad : Nat → Nat) (sz : Nat) (S : MS) (x1 : Int32) (x2 : Int32) (hw : wfM S) (Q : Int32 → MS → Prop) (h : w_isMethod S x1 x2 Q) : Met l yX14_isMethod (wt2 yX14_isMethod cX14_isMethod 3 (some .boolean)) ({ frames := 1, cells := 0, slots := 0, locals := 21 }) (va_Pc [.ref (ad 0), .int x1, .int x2] (st_R g ad sz S)) (va_Qi (fun (r : Int32) (u : MS) => Q r u ∧ wfM u ∧ shy S u ∧ (r = 0 ∨ r = 1)) (fun (u : MS) (t : State) => qE g ad (va_A (Wd g ad S) sz) u t) (va_A (Wd g ad S) sz)) 0 0 (va_A (Wd g ad S) sz) := by
  refine Met.ofW (cc := cX14_isMethod) (maxL := 3) (ret := (some .boolean)) (by decide) rfl ?_
  intro p e s m args below meth c s₁ B hml hv
  obtain ⟨rfl, hsz, hP, hK, hD0, hex, hE⟩ := hv
  have hx := B.exec
  have hb := B.bytes
  have hr := B.returns
  have hts0 := atoms_spec (ws := wt2 yX14_isMethod cX14_isMethod 3 (some .boolean)) B.pre
  have hts : ∀ w ∈ tb2, w.before _ s = true := fun w h => hts0 w (List.mem_cons_of_mem _ h)
  have hown : s.vm.findClass RX14 = some m.cls := findClass_of_methodNamed B.named
  subst hsz
  have hD := hD0.self (sz := s.heap.size)
  generalize hAe : va_A (Wd g ad S) s.heap.size = A at hD hE ⊢
  have hA : ∀ q : Nat, s.heap.size ≤ q → A q := fun q h => by rw [← hAe]; exact Or.inr h
  have hR : Rep g ad A s S s.heap [] := ⟨hK, hP, hD, va_S.rf, hw⟩
  clear hK hP hD hD0
  have hl := lv_entry ([.ref (ad 0), .int x1, .int x2]) (n := 3) (Nat.le_of_ble_eq_true rfl)
  rw [lg_entry_eq]
  generalize (lg_sl ([.ref (ad 0), .int x1, .int x2]) ++ List.replicate (3 - (lg_sl ([.ref (ad 0), .int x1, .int x2])).length) Slot.unset).toArray = ls at hl ⊢
  have hl : lv_has ls 3 [(0, .ref (ad 0)), (1, .int x1), (2, .int x2)] := hl
  have hsh : shy S S := shy.rf
  unfold w_isMethod at h
  refine lv_aload_n hx hb dX14_isMethod_0 rfl (lv_at hl 0 rfl) ?_
  refine lv_iload_n hx hb dX14_isMethod_1 rfl (lv_at hl 1 rfl) ?_
  obtain ⟨Q1, h0, h⟩ := h
  have hFc := rfree hR hA
  refine va_callq (va_runV (As := [.int x1]) (rest := []) ⟨hx, hb, hml, hown, hts⟩ (r_fileAt l g ad s.heap.size S x1 hR.w  Q1 h0) (cwV 1 hts (gd2_V kx_349 kx_350 kx_351 kx_177 kx_352) rfl rfl rfl (by decide +kernel) ⟨Nat.le_of_ble_eq_true rfl, Nat.le_of_ble_eq_true rfl⟩) ⟨rblind, va_recv hR.K hR.P (ci := 13) (q0 := 0) rfl (hR.at14 hR.w.1), fun U hU hW9 => rmk hU hW9 hR hex hE hFc⟩ rfl rfl hl.1 rfl (lv_room (Nat.le_of_ble_eq_true rfl)) dX14_isMethod_2 ⟨Nat.le_of_ble_eq_true rfl, Nat.le_of_ble_eq_true rfl⟩) hR.sS (fun q _ h => hFc q h) hFc (fun r2 S3 t9 H1 locs ht9 hvm9 hw9 hB9 hz9 hk9 hS => ?_)
  obtain ⟨b5, rfl, hq4, hw9, hs9, hO_b5⟩ := hw9
  have hR : Rep g ad A s S3 H1 locs := hR.call ht9 hB9 hw9 hS hFc
  have hsh := hsh.tr hs9
  replace h := h b5 S3 hq4
  clear hB9 hz9 hk9 hvm9 ht9 hw9 hs9 hS
  generalize H1 = H at hR ⊢
  have J_29 : ∀ (U29 : MS) (H : Heap) (locs : List Loc) (ls : Array Slot), w_isMethod_J29 Q U29 → shy S U29 → Rep g ad A s U29 H locs → lv_has ls 3 [] → W p l e (headSpec (wt2 yX14_isMethod cX14_isMethod 3 (some .boolean)) ({ frames := 1, cells := 0, slots := 0, locals := 21 })).room s m ([.ref (ad 0), .int x1, .int x2] : List Value).toArray below meth c H locs 0 0 (MQ below (va_Qi (fun (r : Int32) (u : MS) => Q r u ∧ wfM u ∧ shy S u ∧ (r = 0 ∨ r = 1)) (fun (u : MS) (t : State) => qE g ad A u t) A) ([.ref (ad 0), .int x1, .int x2] : List Value).toArray s 0 0 A) (F0 m 29 ls []) := by
    intro U29 H locs ls h hsh hR hl
    unfold w_isMethod_J29 at h
    refine lv_iconst (v := 0) hx hb dX14_isMethod_29 (by decide) ?_
    exact W.zret (v := 0) hx hb hr (nz (Or.inl rfl)) (fun t9 ht9 hW9 => ⟨⟨_, U29, rfl, ⟨h, hR.w, hsh, (Or.inl rfl)⟩, ⟨by rw [ht9]; exact hR.P, hR.D⟩⟩, hR.sS.F ht9⟩) hR.sS.2.2 dX14_isMethod_30
  rcases hq_b6 : b5 with _ | b6
  · skip
    replace h := h.1 (hq_b6)
    refine lv_ifnullN (tgt := 29) hx hb dX14_isMethod_5 (by decide) ?_
    exact J_29 S3 _ _ ls h  hsh hR (lv_sub hl [] rfl)
  · have hg_b6 : b6 = (b5).getD 0 := by rw [hq_b6]; rfl
    have hT_b6 : qT S3 ((b5).getD 0) = 11 := hg_b6 ▸ hO_b5 _ hq_b6
    subst hg_b6
    replace h := h.2 (fun q9 => Option.some_ne_none _ (hq_b6.symm.trans q9))
    refine lv_ifnull hx hb dX14_isMethod_5 ?_
    refine lv_iload_n hx hb dX14_isMethod_8 rfl (lv_at hl 2 rfl) ?_
    refine lv_if_lt (tgt := 29) hx hb dX14_isMethod_9 (by decide) (fun c7 => ?_) (fun c7 => ?_)
    · replace h := h.1 (k_lt rfl (by decide) c7)
      exact J_29 S3 _ _ ls h  hsh hR (lv_sub hl [] rfl)
    · replace h := h.2 (k_nlt rfl (by decide) c7)
      refine lv_iload_n hx hb dX14_isMethod_12 rfl (lv_at hl 2 rfl) ?_
      refine lv_aload_n hx hb dX14_isMethod_13 rfl (lv_at hl 0 rfl) ?_
      refine va_get (D := rD g) (ci := 13) (v := .ref (ad 1)) (C := RX14) (T := TX14) (N := 143) hx hb hts in2X14 hown hR.K hR.P 0 (hR.at14 hR.w.1) rfl 0 (by decide) (hts _ kx_347) (fun _ h9 => h9) (congrArg (fun z => some (vf ad z)) (hR.w.2.1 _ fin_0).1) dX14_isMethod_14 ?_
      refine lv_iload_n hx hb dX14_isMethod_17 rfl (lv_at hl 1 rfl) ?_
      obtain ⟨hv8, h⟩ := h
      refine va_aldq hx hb hR.K hR.P 1 5 (hR.atF (hR.w.2.1 _ fin_0).2.1) rfl (k_ixN (k_ix (n := 12) (x := x1) (a := x1.toInt) rfl hv8) (hR.w.2.1 _ fin_0).2.2) dX14_isMethod_18 ?_
      obtain ⟨hv9, h⟩ := h
      have hT_b10 : qT S3 (qO S3 1 x1.toInt.toNat) = 11 := hR.w.ref hv9 (hR.w.2.1 _ fin_0).2.1
      rw [show va_rf (Option.map ad (qR S3 1 (x1 : Int32).toNatClampNeg)) = .ref (ad (qO S3 1 x1.toInt.toNat)) from congrArg (fun z => vf ad z) hv9]
      refine va_get (D := rD g) (ci := 12) (v := .int (qI S3 (qO S3 1 x1.toInt.toNat) 4)) (C := RX13) (T := TX13) (N := 23) hx hb hts in2X13 hown hR.K hR.P (qO S3 1 x1.toInt.toNat) (hR.at13 hT_b10) rfl 4 (by decide) (hts _ kx_353) (fun _ h9 => h9) rfl dX14_isMethod_19 ?_
      refine lv_icmp_ge (tgt := 29) hx hb dX14_isMethod_22 (by decide) (fun c11 => ?_) (fun c11 => ?_)
      · replace h := h.1 (k_le rfl rfl c11)
        exact J_29 S3 _ _ ls h  hsh hR (lv_sub hl [] rfl)
      · replace h := h.2 (k_nle rfl rfl c11)
        refine lv_iconst (v := 1) hx hb dX14_isMethod_25 (by decide) ?_
        refine lv_goto (tgt := 30) hx hb dX14_isMethod_26 (by decide) ?_
        exact W.zret (v := 1) hx hb hr (nz (Or.inr rfl)) (fun t9 ht9 hW9 => ⟨⟨_, S3, rfl, ⟨h, hR.w, hsh, (Or.inr rfl)⟩, ⟨by rw [ht9]; exact hR.P, hR.D⟩⟩, hR.sS.F ht9⟩) hR.sS.2.2 dX14_isMethod_30
def w_size (S : MS) (x1 : Int32) (x2 : Int32) (Q : Int32 → MS → Prop) : Prop := (∃ Q1, w_fileAt S x1 Q1 ∧ ∀ b5 S3, Q1 b5 S3 → ((b5 = none → Q (-1 : Int32) S3) ∧ (¬ b5 = none → ((x2.toInt = 0 → Q (qI S3 ((b5).getD 0) 3) S3) ∧ (¬ x2.toInt = 0 → ((x2.toInt = 1 → Q (qI S3 ((b5).getD 0) 4) S3) ∧ (¬ x2.toInt = 1 → ((x2.toInt = 2 → Q (qI S3 ((b5).getD 0) 2) S3) ∧ (¬ x2.toInt = 2 → ((x2.toInt = 3 → ((qR S3 ((b5).getD 0) 18 = some (qO S3 ((b5).getD 0) 18)) ∧ Q ((Int32.ofNat (qN S3 (qO S3 ((b5).getD 0) 18))) / (3 : Int32)) S3)) ∧ (¬ x2.toInt = 3 → Q (-1 : Int32) S3)))))))))))
set_option maxHeartbeats 2000000 in
set_option maxRecDepth 100000 in
theorem r_size (l : Launch) (g : Gr) (ad : Nat → Nat) (sz : Nat) (S : MS) (x1 : Int32) (x2 : Int32) (hw : wfM S) (Q : Int32 → MS → Prop) (h : w_size S x1 x2 Q) : Met l yX14_size (wt2 yX14_size cX14_size 4 (some .int)) ({ frames := 1, cells := 0, slots := 0, locals := 21 }) (va_Pc [.ref (ad 0), .int x1, .int x2] (st_R g ad sz S)) (va_Qi (fun (r : Int32) (u : MS) => Q r u ∧ wfM u ∧ shy S u) (fun (u : MS) (t : State) => qE g ad (va_A (Wd g ad S) sz) u t) (va_A (Wd g ad S) sz)) 0 0 (va_A (Wd g ad S) sz) := by
  refine Met.ofW (cc := cX14_size) (maxL := 4) (ret := (some .int)) (by decide) rfl ?_
  intro p e s m args below meth c s₁ B hml hv
  obtain ⟨rfl, hsz, hP, hK, hD0, hex, hE⟩ := hv
  have hx := B.exec
  have hb := B.bytes
  have hr := B.returns
  have hts0 := atoms_spec (ws := wt2 yX14_size cX14_size 4 (some .int)) B.pre
  have hts : ∀ w ∈ tb2, w.before _ s = true := fun w h => hts0 w (List.mem_cons_of_mem _ h)
  have hown : s.vm.findClass RX14 = some m.cls := findClass_of_methodNamed B.named
  subst hsz
  have hD := hD0.self (sz := s.heap.size)
  generalize hAe : va_A (Wd g ad S) s.heap.size = A at hD hE ⊢
  have hA : ∀ q : Nat, s.heap.size ≤ q → A q := fun q h => by rw [← hAe]; exact Or.inr h
  have hR : Rep g ad A s S s.heap [] := ⟨hK, hP, hD, va_S.rf, hw⟩
  clear hK hP hD hD0
  have hl := lv_entry ([.ref (ad 0), .int x1, .int x2]) (n := 4) (Nat.le_of_ble_eq_true rfl)
  rw [lg_entry_eq]
  generalize (lg_sl ([.ref (ad 0), .int x1, .int x2]) ++ List.replicate (4 - (lg_sl ([.ref (ad 0), .int x1, .int x2])).length) Slot.unset).toArray = ls at hl ⊢
  have hl : lv_has ls 4 [(0, .ref (ad 0)), (1, .int x1), (2, .int x2)] := hl
  have hsh : shy S S := shy.rf
  unfold w_size at h
  refine lv_aload_n hx hb dX14_size_0 rfl (lv_at hl 0 rfl) ?_
  refine lv_iload_n hx hb dX14_size_1 rfl (lv_at hl 1 rfl) ?_
  obtain ⟨Q1, h0, h⟩ := h
  have hFc := rfree hR hA
  refine va_callq (va_runV (As := [.int x1]) (rest := []) ⟨hx, hb, hml, hown, hts⟩ (r_fileAt l g ad s.heap.size S x1 hR.w  Q1 h0) (cwV 1 hts (gd2_V kx_349 kx_350 kx_351 kx_177 kx_352) rfl rfl rfl (by decide +kernel) ⟨Nat.le_of_ble_eq_true rfl, Nat.le_of_ble_eq_true rfl⟩) ⟨rblind, va_recv hR.K hR.P (ci := 13) (q0 := 0) rfl (hR.at14 hR.w.1), fun U hU hW9 => rmk hU hW9 hR hex hE hFc⟩ rfl rfl hl.1 rfl (lv_room (Nat.le_of_ble_eq_true rfl)) dX14_size_2 ⟨Nat.le_of_ble_eq_true rfl, Nat.le_of_ble_eq_true rfl⟩) hR.sS (fun q _ h => hFc q h) hFc (fun r2 S3 t9 H1 locs ht9 hvm9 hw9 hB9 hz9 hk9 hS => ?_)
  obtain ⟨b5, rfl, hq4, hw9, hs9, hO_b5⟩ := hw9
  have hR : Rep g ad A s S3 H1 locs := hR.call ht9 hB9 hw9 hS hFc
  have hsh := hsh.tr hs9
  replace h := h b5 S3 hq4
  clear hB9 hz9 hk9 hvm9 ht9 hw9 hs9 hS
  generalize H1 = H at hR ⊢
  rcases hq_b6 : b5 with _ | b6
  · skip
    replace h := h.1 (hq_b6)
    refine lv_astore_nN (lv' := [(3, .null), (0, .ref (ad 0)), (1, .int x1), (2, .int x2)]) hx hb dX14_size_5 rfl hl (by decide) rfl (fun ls hl => ?_)
    refine lv_aload_nN hx hb dX14_size_6 rfl (lv_at hl 0 rfl) ?_
    refine lv_ifnonnullN hx hb dX14_size_7 ?_
    refine lv_iconst (v := (-1)) hx hb dX14_size_10 (by decide) ?_
    exact W.iret (v := (-1)) hx hb hr (fun t9 ht9 hW9 => ⟨⟨_, S3, rfl, ⟨h, hR.w, hsh⟩, ⟨by rw [ht9]; exact hR.P, hR.D⟩⟩, hR.sS.F ht9⟩) hR.sS.2.2 dX14_size_11
  · have hg_b6 : b6 = (b5).getD 0 := by rw [hq_b6]; rfl
    have hT_b6 : qT S3 ((b5).getD 0) = 11 := hg_b6 ▸ hO_b5 _ hq_b6
    subst hg_b6
    replace h := h.2 (fun q9 => Option.some_ne_none _ (hq_b6.symm.trans q9))
    refine lv_astore_n (lv' := [(3, .ref (ad ((b5).getD 0))), (0, .ref (ad 0)), (1, .int x1), (2, .int x2)]) hx hb dX14_size_5 rfl hl (by decide) rfl (fun ls hl => ?_)
    refine lv_aload_n hx hb dX14_size_6 rfl (lv_at hl 0 rfl) ?_
    refine lv_ifnonnull (tgt := 12) hx hb dX14_size_7 (by decide) ?_
    refine lv_iload_n hx hb dX14_size_12 rfl (lv_at hl 3 rfl) ?_
    refine lv_if_ne (tgt := 23) hx hb dX14_size_13 (by decide) (fun c7 => ?_) (fun c7 => ?_)
    · replace h := h.2 (k_ne rfl (by decide) c7)
      refine lv_iload_n hx hb dX14_size_23 rfl (lv_at hl 3 rfl) ?_
      refine lv_iconst (v := 1) hx hb dX14_size_24 (by decide) ?_
      refine lv_icmp_ne (tgt := 35) hx hb dX14_size_25 (by decide) (fun c8 => ?_) (fun c8 => ?_)
      · replace h := h.2 (k_ne rfl (by decide) c8)
        refine lv_iload_n hx hb dX14_size_35 rfl (lv_at hl 3 rfl) ?_
        refine lv_iconst (v := 2) hx hb dX14_size_36 (by decide) ?_
        refine lv_icmp_ne (tgt := 47) hx hb dX14_size_37 (by decide) (fun c9 => ?_) (fun c9 => ?_)
        · replace h := h.2 (k_ne rfl (by decide) c9)
          refine lv_iload_n hx hb dX14_size_47 rfl (lv_at hl 3 rfl) ?_
          refine lv_iconst (v := 3) hx hb dX14_size_48 (by decide) ?_
          refine lv_icmp_ne (tgt := 62) hx hb dX14_size_49 (by decide) (fun c10 => ?_) (fun c10 => ?_)
          · replace h := h.2 (k_ne rfl (by decide) c10)
            refine lv_iconst (v := (-1)) hx hb dX14_size_62 (by decide) ?_
            exact W.iret (v := (-1)) hx hb hr (fun t9 ht9 hW9 => ⟨⟨_, S3, rfl, ⟨h, hR.w, hsh⟩, ⟨by rw [ht9]; exact hR.P, hR.D⟩⟩, hR.sS.F ht9⟩) hR.sS.2.2 dX14_size_63
          · replace h := h.1 (k_eq rfl (by decide) c10)
            refine lv_aload_n hx hb dX14_size_52 rfl (lv_at hl 0 rfl) ?_
            obtain ⟨hv11, h⟩ := h
            have hT_b12 : qT S3 (qO S3 ((b5).getD 0) 18) = 2 := hR.w.ref hv11 hT_b6
            refine va_get (D := rD g) (ci := 12) (v := .ref (ad (qO S3 ((b5).getD 0) 18))) (C := RX13) (T := TX13) (N := 23) hx hb hts in2X13 hown hR.K hR.P ((b5).getD 0) (hR.at13 hT_b6) rfl 18 (by decide) (hts _ kx_354) (fun _ h9 => h9) (congrArg (fun z => some (vf ad z)) hv11) dX14_size_53 ?_
            refine va_alen (v := (Int32.ofNat (qN S3 (qO S3 ((b5).getD 0) 18)))) hx hb hR.K hR.P (qO S3 ((b5).getD 0) 18) 1 (hR.atI hT_b12) rfl rfl dX14_size_56 ?_
            refine lv_iconst (v := 3) hx hb dX14_size_57 (by decide) ?_
            refine lv_idiv hx hb dX14_size_58 (by decide) ?_
            refine lv_topi (fun z13 ez13 => ?_)
            obtain rfl : z13 = ((Int32.ofNat (qN S3 (qO S3 ((b5).getD 0) 18))) / (3 : Int32)) := ez13
            refine lv_goto (tgt := 63) hx hb dX14_size_59 (by decide) ?_
            exact W.iret (v := ((Int32.ofNat (qN S3 (qO S3 ((b5).getD 0) 18))) / (3 : Int32))) hx hb hr (fun t9 ht9 hW9 => ⟨⟨_, S3, rfl, ⟨h, hR.w, hsh⟩, ⟨by rw [ht9]; exact hR.P, hR.D⟩⟩, hR.sS.F ht9⟩) hR.sS.2.2 dX14_size_63
        · replace h := h.1 (k_eq rfl (by decide) c9)
          refine lv_aload_n hx hb dX14_size_40 rfl (lv_at hl 0 rfl) ?_
          refine va_get (D := rD g) (ci := 12) (v := .int (qI S3 ((b5).getD 0) 2)) (C := RX13) (T := TX13) (N := 23) hx hb hts in2X13 hown hR.K hR.P ((b5).getD 0) (hR.at13 hT_b6) rfl 2 (by decide) (hts _ kx_355) (fun _ h9 => h9) rfl dX14_size_41 ?_
          refine lv_goto (tgt := 63) hx hb dX14_size_44 (by decide) ?_
          exact W.iret (v := (qI S3 ((b5).getD 0) 2)) hx hb hr (fun t9 ht9 hW9 => ⟨⟨_, S3, rfl, ⟨h, hR.w, hsh⟩, ⟨by rw [ht9]; exact hR.P, hR.D⟩⟩, hR.sS.F ht9⟩) hR.sS.2.2 dX14_size_63
      · replace h := h.1 (k_eq rfl (by decide) c8)
        refine lv_aload_n hx hb dX14_size_28 rfl (lv_at hl 0 rfl) ?_
        refine va_get (D := rD g) (ci := 12) (v := .int (qI S3 ((b5).getD 0) 4)) (C := RX13) (T := TX13) (N := 23) hx hb hts in2X13 hown hR.K hR.P ((b5).getD 0) (hR.at13 hT_b6) rfl 4 (by decide) (hts _ kx_353) (fun _ h9 => h9) rfl dX14_size_29 ?_
        refine lv_goto (tgt := 63) hx hb dX14_size_32 (by decide) ?_
        exact W.iret (v := (qI S3 ((b5).getD 0) 4)) hx hb hr (fun t9 ht9 hW9 => ⟨⟨_, S3, rfl, ⟨h, hR.w, hsh⟩, ⟨by rw [ht9]; exact hR.P, hR.D⟩⟩, hR.sS.F ht9⟩) hR.sS.2.2 dX14_size_63
    · replace h := h.1 (k_eq rfl (by decide) c7)
      refine lv_aload_n hx hb dX14_size_16 rfl (lv_at hl 0 rfl) ?_
      refine va_get (D := rD g) (ci := 12) (v := .int (qI S3 ((b5).getD 0) 3)) (C := RX13) (T := TX13) (N := 23) hx hb hts in2X13 hown hR.K hR.P ((b5).getD 0) (hR.at13 hT_b6) rfl 3 (by decide) (hts _ kx_356) (fun _ h9 => h9) rfl dX14_size_17 ?_
      refine lv_goto (tgt := 63) hx hb dX14_size_20 (by decide) ?_
      exact W.iret (v := (qI S3 ((b5).getD 0) 3)) hx hb hr (fun t9 ht9 hW9 => ⟨⟨_, S3, rfl, ⟨h, hR.w, hsh⟩, ⟨by rw [ht9]; exact hR.P, hR.D⟩⟩, hR.sS.F ht9⟩) hR.sS.2.2 dX14_size_63
def w_length (S : MS) (x1 : Int32) (x2 : Int32) (Q : Int32 → MS → Prop) : Prop := (∃ Q1, w_isMethod S x1 x2 Q1 ∧ ∀ r2 S3, Q1 r2 S3 → ((r2.toInt = 0 → Q (-1 : Int32) S3) ∧ (¬ r2.toInt = 0 → (((0 : Int) ≤ x1.toInt ∧ x1.toInt < 12) ∧ ((qR S3 1 x1.toInt.toNat = some (qO S3 1 x1.toInt.toNat)) ∧ ((qR S3 (qO S3 1 x1.toInt.toNat) 15 = some (qO S3 (qO S3 1 x1.toInt.toNat) 15)) ∧ (((0 : Int) ≤ x2.toInt ∧ x2.toInt < (qN S3 (qO S3 (qO S3 1 x1.toInt.toNat) 15) : Int)) ∧ Q (qI S3 (qO S3 (qO S3 1 x1.toInt.toNat) 15) x2.toInt.toNat) S3)))))))
set_option maxHeartbeats 2000000 in
set_option maxRecDepth 100000 in
theorem r_length (l : Launch) (g : Gr) (ad : Nat → Nat) (sz : Nat) (S : MS) (x1 : Int32) (x2 : Int32) (hw : wfM S) (Q : Int32 → MS → Prop) (h : w_length S x1 x2 Q) : Met l yX14_length (wt2 yX14_length cX14_length 3 (some .int)) ({ frames := 2, cells := 0, slots := 0, locals := 43 }) (va_Pc [.ref (ad 0), .int x1, .int x2] (st_R g ad sz S)) (va_Qi (fun (r : Int32) (u : MS) => Q r u ∧ wfM u ∧ shy S u) (fun (u : MS) (t : State) => qE g ad (va_A (Wd g ad S) sz) u t) (va_A (Wd g ad S) sz)) 0 0 (va_A (Wd g ad S) sz) := by
  refine Met.ofW (cc := cX14_length) (maxL := 3) (ret := (some .int)) (by decide) rfl ?_
  intro p e s m args below meth c s₁ B hml hv
  obtain ⟨rfl, hsz, hP, hK, hD0, hex, hE⟩ := hv
  have hx := B.exec
  have hb := B.bytes
  have hr := B.returns
  have hts0 := atoms_spec (ws := wt2 yX14_length cX14_length 3 (some .int)) B.pre
  have hts : ∀ w ∈ tb2, w.before _ s = true := fun w h => hts0 w (List.mem_cons_of_mem _ h)
  have hown : s.vm.findClass RX14 = some m.cls := findClass_of_methodNamed B.named
  subst hsz
  have hD := hD0.self (sz := s.heap.size)
  generalize hAe : va_A (Wd g ad S) s.heap.size = A at hD hE ⊢
  have hA : ∀ q : Nat, s.heap.size ≤ q → A q := fun q h => by rw [← hAe]; exact Or.inr h
  have hR : Rep g ad A s S s.heap [] := ⟨hK, hP, hD, va_S.rf, hw⟩
  clear hK hP hD hD0
  have hl := lv_entry ([.ref (ad 0), .int x1, .int x2]) (n := 3) (Nat.le_of_ble_eq_true rfl)
  rw [lg_entry_eq]
  generalize (lg_sl ([.ref (ad 0), .int x1, .int x2]) ++ List.replicate (3 - (lg_sl ([.ref (ad 0), .int x1, .int x2])).length) Slot.unset).toArray = ls at hl ⊢
  have hl : lv_has ls 3 [(0, .ref (ad 0)), (1, .int x1), (2, .int x2)] := hl
  have hsh : shy S S := shy.rf
  unfold w_length at h
  refine lv_aload_n hx hb dX14_length_0 rfl (lv_at hl 0 rfl) ?_
  refine lv_iload_n hx hb dX14_length_1 rfl (lv_at hl 1 rfl) ?_
  refine lv_iload_n hx hb dX14_length_2 rfl (lv_at hl 2 rfl) ?_
  obtain ⟨Q1, h0, h⟩ := h
  have hFc := rfree hR hA
  refine va_calli (va_runV (As := [.int x1, .int x2]) (rest := []) ⟨hx, hb, hml, hown, hts⟩ (r_isMethod l g ad s.heap.size S x1 x2 hR.w  Q1 h0) (cwV 2 hts (gd2_V kx_357 kx_358 kx_359 kx_177 kx_360) rfl rfl rfl (by decide +kernel) ⟨Nat.le_of_ble_eq_true rfl, Nat.le_of_ble_eq_true rfl⟩) ⟨rblind, va_recv hR.K hR.P (ci := 13) (q0 := 0) rfl (hR.at14 hR.w.1), fun U hU hW9 => rmk hU hW9 hR hex hE hFc⟩ rfl rfl hl.1 rfl (lv_room (Nat.le_of_ble_eq_true rfl)) dX14_length_3 ⟨Nat.le_of_ble_eq_true rfl, Nat.le_of_ble_eq_true rfl⟩) hR.sS (fun q _ h => hFc q h) hFc (fun r2 S3 t9 H1 locs ht9 hvm9 hw9 hB9 hz9 hk9 hS => ?_)
  obtain ⟨hq4, hw9, hs9, hz_r2⟩ := hw9
  have hR : Rep g ad A s S3 H1 locs := hR.call ht9 hB9 hw9 hS hFc
  have hsh := hsh.tr hs9
  replace h := h r2 S3 hq4
  clear hB9 hz9 hk9 hvm9 ht9 hw9 hs9 hS
  generalize H1 = H at hR ⊢
  refine lv_if_eq (tgt := 23) hx hb dX14_length_6 (by decide) (fun c5 => ?_) (fun c5 => ?_)
  · replace h := h.1 (k_eq rfl (by decide) c5)
    refine lv_iconst (v := (-1)) hx hb dX14_length_23 (by decide) ?_
    exact W.iret (v := (-1)) hx hb hr (fun t9 ht9 hW9 => ⟨⟨_, S3, rfl, ⟨h, hR.w, hsh⟩, ⟨by rw [ht9]; exact hR.P, hR.D⟩⟩, hR.sS.F ht9⟩) hR.sS.2.2 dX14_length_24
  · replace h := h.2 (k_ne rfl (by decide) c5)
    refine lv_aload_n hx hb dX14_length_9 rfl (lv_at hl 0 rfl) ?_
    refine va_get (D := rD g) (ci := 13) (v := .ref (ad 1)) (C := RX14) (T := TX14) (N := 143) hx hb hts in2X14 hown hR.K hR.P 0 (hR.at14 hR.w.1) rfl 0 (by decide) (hts _ kx_347) (fun _ h9 => h9) (congrArg (fun z => some (vf ad z)) (hR.w.2.1 _ fin_0).1) dX14_length_10 ?_
    refine lv_iload_n hx hb dX14_length_13 rfl (lv_at hl 1 rfl) ?_
    obtain ⟨hv6, h⟩ := h
    refine va_aldq hx hb hR.K hR.P 1 5 (hR.atF (hR.w.2.1 _ fin_0).2.1) rfl (k_ixN (k_ix (n := 12) (x := x1) (a := x1.toInt) rfl hv6) (hR.w.2.1 _ fin_0).2.2) dX14_length_14 ?_
    obtain ⟨hv7, h⟩ := h
    have hT_b8 : qT S3 (qO S3 1 x1.toInt.toNat) = 11 := hR.w.ref hv7 (hR.w.2.1 _ fin_0).2.1
    rw [show va_rf (Option.map ad (qR S3 1 (x1 : Int32).toNatClampNeg)) = .ref (ad (qO S3 1 x1.toInt.toNat)) from congrArg (fun z => vf ad z) hv7]
    obtain ⟨hv9, h⟩ := h
    have hT_b10 : qT S3 (qO S3 (qO S3 1 x1.toInt.toNat) 15) = 2 := hR.w.ref hv9 hT_b8
    refine va_get (D := rD g) (ci := 12) (v := .ref (ad (qO S3 (qO S3 1 x1.toInt.toNat) 15))) (C := RX13) (T := TX13) (N := 23) hx hb hts in2X13 hown hR.K hR.P (qO S3 1 x1.toInt.toNat) (hR.at13 hT_b8) rfl 15 (by decide) (hts _ kx_361) (fun _ h9 => h9) (congrArg (fun z => some (vf ad z)) hv9) dX14_length_15 ?_
    refine lv_iload_n hx hb dX14_length_18 rfl (lv_at hl 2 rfl) ?_
    obtain ⟨hv11, h⟩ := h
    refine va_iald hx hb hR.K hR.P (qO S3 (qO S3 1 x1.toInt.toNat) 15) 1 (hR.atI hT_b10) rfl (k_ix (x := x2) (a := x2.toInt) rfl hv11) dX14_length_19 ?_
    refine lv_topi (fun z12 ez12 => ?_)
    obtain rfl : z12 = (qI S3 (qO S3 (qO S3 1 x1.toInt.toNat) 15) x2.toInt.toNat) := ez12
    refine lv_goto (tgt := 24) hx hb dX14_length_20 (by decide) ?_
    exact W.iret (v := (qI S3 (qO S3 (qO S3 1 x1.toInt.toNat) 15) x2.toInt.toNat)) hx hb hr (fun t9 ht9 hW9 => ⟨⟨_, S3, rfl, ⟨h, hR.w, hsh⟩, ⟨by rw [ht9]; exact hR.P, hR.D⟩⟩, hR.sS.F ht9⟩) hR.sS.2.2 dX14_length_24
def w_look (S : MS) (p1 : Nat) (x2 : Int32) (Q : MS → Prop) : Prop := (∀ S1, S1 = wR S 0 47 (some p1) → ((qR S1 p1 18 = some (qO S1 p1 18)) ∧ (∀ S4, S4 = wR S1 0 48 (some (qO S1 p1 18)) → ((qR S4 p1 19 = some (qO S4 p1 19)) ∧ (∀ S7, S7 = wR S4 0 49 (some (qO S4 p1 19)) → ((qR S7 p1 20 = some (qO S7 p1 20)) ∧ (∀ S10, S10 = wR S7 0 50 (some (qO S7 p1 20)) → ((qR S10 p1 14 = some (qO S10 p1 14)) ∧ (((0 : Int) ≤ x2.toInt ∧ x2.toInt < (qN S10 (qO S10 p1 14) : Int)) ∧ (∀ S15, S15 = wI S10 0 51 (qI S10 (qO S10 p1 14) x2.toInt.toNat) → ((qR S15 p1 15 = some (qO S15 p1 15)) ∧ (((0 : Int) ≤ x2.toInt ∧ x2.toInt < (qN S15 (qO S15 p1 15) : Int)) ∧ (∀ S20, S20 = wI S15 0 52 (qI S15 (qO S15 p1 15) x2.toInt.toNat) → ((qR S20 p1 16 = some (qO S20 p1 16)) ∧ (((0 : Int) ≤ x2.toInt ∧ x2.toInt < (qN S20 (qO S20 p1 16) : Int)) ∧ (∀ S25, S25 = wI S20 0 53 (qI S20 (qO S20 p1 16) x2.toInt.toNat) → ((qR S25 p1 17 = some (qO S25 p1 17)) ∧ (((0 : Int) ≤ x2.toInt ∧ x2.toInt < (qN S25 (qO S25 p1 17) : Int)) ∧ (∀ S30, S30 = wI S25 0 54 (qI S25 (qO S25 p1 17) x2.toInt.toNat) → Q S30)))))))))))))))))))
set_option maxHeartbeats 2000000 in
set_option maxRecDepth 100000 in
theorem r_look (l : Launch) (g : Gr) (ad : Nat → Nat) (sz : Nat) (S : MS) (p1 : Nat) (x2 : Int32) (hw : wfM S) (hT_p1 : qT S p1 = 11) (Q : MS → Prop) (h : w_look S p1 x2 Q) : Met l yX14_look (wt2 yX14_look cX14_look 3 none) ({ frames := 0, cells := 0, slots := 0, locals := 0 }) (va_Pc [.ref (ad 0), .ref (ad p1), .int x2] (st_R g ad sz S)) (va_Qv (fun (u : MS) => Q u ∧ wfM u ∧ shy S u) (fun (u : MS) (t : State) => qE g ad (va_A (Wd g ad S) sz) u t) (va_A (Wd g ad S) sz)) 0 0 (va_A (Wd g ad S) sz) := by
  refine Met.ofW (cc := cX14_look) (maxL := 3) (ret := none) (by decide) rfl ?_
  intro p e s m args below meth c s₁ B hml hv
  obtain ⟨rfl, hsz, hP, hK, hD0, hex, hE⟩ := hv
  have hx := B.exec
  have hb := B.bytes
  have hr := B.returns
  have hts0 := atoms_spec (ws := wt2 yX14_look cX14_look 3 none) B.pre
  have hts : ∀ w ∈ tb2, w.before _ s = true := fun w h => hts0 w (List.mem_cons_of_mem _ h)
  have hown : s.vm.findClass RX14 = some m.cls := findClass_of_methodNamed B.named
  subst hsz
  have hD := hD0.self (sz := s.heap.size)
  generalize hAe : va_A (Wd g ad S) s.heap.size = A at hD hE ⊢
  have hA : ∀ q : Nat, s.heap.size ≤ q → A q := fun q h => by rw [← hAe]; exact Or.inr h
  have hR : Rep g ad A s S s.heap [] := ⟨hK, hP, hD, va_S.rf, hw⟩
  clear hK hP hD hD0
  have hl := lv_entry ([.ref (ad 0), .ref (ad p1), .int x2]) (n := 3) (Nat.le_of_ble_eq_true rfl)
  rw [lg_entry_eq]
  generalize (lg_sl ([.ref (ad 0), .ref (ad p1), .int x2]) ++ List.replicate (3 - (lg_sl ([.ref (ad 0), .ref (ad p1), .int x2])).length) Slot.unset).toArray = ls at hl ⊢
  have hl : lv_has ls 3 [(0, .ref (ad 0)), (1, .ref (ad p1)), (2, .int x2)] := hl
  have hsh : shy S S := shy.rf
  unfold w_look at h
  refine lv_aload_n hx hb dX14_look_0 rfl (lv_at hl 0 rfl) ?_
  refine lv_aload_n hx hb dX14_look_1 rfl (lv_at hl 1 rfl) ?_
  refine va_put (D := rD g) (ci := 13) (v := .ref (ad p1)) (ty := (.object "CodeFoundryModel$File")) (C := RX14) (T := TX14) (N := 143) hx hb hts in2X14 tyX14 tyX14_ok nmX14 hown hR.K hR.P hR.D hR.sS 0 (hR.at14 hR.w.1) rfl 47 (by decide) (hts _ kx_362) (fun _ h9 => h9) rfl (by decide +kernel) rfl rfl (Nat.le_of_ble_eq_true rfl) dX14_look_2 (fun H locs hP hD hS => ?_)
  have hw9 : wfM (wR S 0 47 (some p1)) := hR.w.put (fun b q9 => by cases q9; exact (hT_p1).trans (by rw [hR.w.1]; rfl)) (fun _ => nofin_47) (by rw [hR.w.1]; decide)
  have hR : Rep g ad A s (wR S 0 47 (some p1)) H locs := hR.pR hR.w.1 F14_s47 hw9 hP hD hS
  obtain ⟨S1, eS1⟩ : ∃ z, z = wR S 0 47 (some p1) := ⟨_, rfl⟩
  rw [← eS1] at hR
  replace h := h S1 eS1
  have hT_p1 : qT S1 p1 = 11 := (congrArg (fun z => qT z p1) eS1).trans hT_p1
  have hsh : shy S S1 := by rw [eS1]; exact hsh
  refine lv_aload_n hx hb dX14_look_5 rfl (lv_at hl 0 rfl) ?_
  refine lv_aload_n hx hb dX14_look_6 rfl (lv_at hl 1 rfl) ?_
  obtain ⟨hv2, h⟩ := h
  have hT_b3 : qT S1 (qO S1 p1 18) = 2 := hR.w.ref hv2 hT_p1
  refine va_get (D := rD g) (ci := 12) (v := .ref (ad (qO S1 p1 18))) (C := RX13) (T := TX13) (N := 23) hx hb hts in2X13 hown hR.K hR.P p1 (hR.at13 hT_p1) rfl 18 (by decide) (hts _ kx_354) (fun _ h9 => h9) (congrArg (fun z => some (vf ad z)) hv2) dX14_look_7 ?_
  refine va_put (D := rD g) (ci := 13) (v := .ref (ad (qO S1 p1 18))) (ty := (.array .int)) (C := RX14) (T := TX14) (N := 143) hx hb hts in2X14 tyX14 tyX14_ok nmX14 hown hR.K hR.P hR.D hR.sS 0 (hR.at14 hR.w.1) rfl 48 (by decide) (hts _ kx_363) (fun _ h9 => h9) rfl (by decide +kernel) rfl rfl (Nat.le_of_ble_eq_true rfl) dX14_look_10 (fun H locs hP hD hS => ?_)
  have hw9 : wfM (wR S1 0 48 (some (qO S1 p1 18))) := hR.w.put (fun b q9 => by cases q9; exact (hT_b3).trans (by rw [hR.w.1]; rfl)) (fun _ => nofin_48) (by rw [hR.w.1]; decide)
  have hR : Rep g ad A s (wR S1 0 48 (some (qO S1 p1 18))) H locs := hR.pR hR.w.1 F14_s48 hw9 hP hD hS
  obtain ⟨S4, eS4⟩ : ∃ z, z = wR S1 0 48 (some (qO S1 p1 18)) := ⟨_, rfl⟩
  rw [← eS4] at hR
  replace h := h S4 eS4
  have hT_p1 : qT S4 p1 = 11 := (congrArg (fun z => qT z p1) eS4).trans hT_p1
  have hsh : shy S S4 := by rw [eS4]; exact hsh
  refine lv_aload_n hx hb dX14_look_13 rfl (lv_at hl 0 rfl) ?_
  refine lv_aload_n hx hb dX14_look_14 rfl (lv_at hl 1 rfl) ?_
  obtain ⟨hv5, h⟩ := h
  have hT_b6 : qT S4 (qO S4 p1 19) = 2 := hR.w.ref hv5 hT_p1
  refine va_get (D := rD g) (ci := 12) (v := .ref (ad (qO S4 p1 19))) (C := RX13) (T := TX13) (N := 23) hx hb hts in2X13 hown hR.K hR.P p1 (hR.at13 hT_p1) rfl 19 (by decide) (hts _ kx_364) (fun _ h9 => h9) (congrArg (fun z => some (vf ad z)) hv5) dX14_look_15 ?_
  refine va_put (D := rD g) (ci := 13) (v := .ref (ad (qO S4 p1 19))) (ty := (.array .int)) (C := RX14) (T := TX14) (N := 143) hx hb hts in2X14 tyX14 tyX14_ok nmX14 hown hR.K hR.P hR.D hR.sS 0 (hR.at14 hR.w.1) rfl 49 (by decide) (hts _ kx_365) (fun _ h9 => h9) rfl (by decide +kernel) rfl rfl (Nat.le_of_ble_eq_true rfl) dX14_look_18 (fun H locs hP hD hS => ?_)
  have hw9 : wfM (wR S4 0 49 (some (qO S4 p1 19))) := hR.w.put (fun b q9 => by cases q9; exact (hT_b6).trans (by rw [hR.w.1]; rfl)) (fun _ => nofin_49) (by rw [hR.w.1]; decide)
  have hR : Rep g ad A s (wR S4 0 49 (some (qO S4 p1 19))) H locs := hR.pR hR.w.1 F14_s49 hw9 hP hD hS
  obtain ⟨S7, eS7⟩ : ∃ z, z = wR S4 0 49 (some (qO S4 p1 19)) := ⟨_, rfl⟩
  rw [← eS7] at hR
  replace h := h S7 eS7
  have hT_p1 : qT S7 p1 = 11 := (congrArg (fun z => qT z p1) eS7).trans hT_p1
  have hsh : shy S S7 := by rw [eS7]; exact hsh
  refine lv_aload_n hx hb dX14_look_21 rfl (lv_at hl 0 rfl) ?_
  refine lv_aload_n hx hb dX14_look_22 rfl (lv_at hl 1 rfl) ?_
  obtain ⟨hv8, h⟩ := h
  have hT_b9 : qT S7 (qO S7 p1 20) = 2 := hR.w.ref hv8 hT_p1
  refine va_get (D := rD g) (ci := 12) (v := .ref (ad (qO S7 p1 20))) (C := RX13) (T := TX13) (N := 23) hx hb hts in2X13 hown hR.K hR.P p1 (hR.at13 hT_p1) rfl 20 (by decide) (hts _ kx_366) (fun _ h9 => h9) (congrArg (fun z => some (vf ad z)) hv8) dX14_look_23 ?_
  refine va_put (D := rD g) (ci := 13) (v := .ref (ad (qO S7 p1 20))) (ty := (.array .int)) (C := RX14) (T := TX14) (N := 143) hx hb hts in2X14 tyX14 tyX14_ok nmX14 hown hR.K hR.P hR.D hR.sS 0 (hR.at14 hR.w.1) rfl 50 (by decide) (hts _ kx_367) (fun _ h9 => h9) rfl (by decide +kernel) rfl rfl (Nat.le_of_ble_eq_true rfl) dX14_look_26 (fun H locs hP hD hS => ?_)
  have hw9 : wfM (wR S7 0 50 (some (qO S7 p1 20))) := hR.w.put (fun b q9 => by cases q9; exact (hT_b9).trans (by rw [hR.w.1]; rfl)) (fun _ => nofin_50) (by rw [hR.w.1]; decide)
  have hR : Rep g ad A s (wR S7 0 50 (some (qO S7 p1 20))) H locs := hR.pR hR.w.1 F14_s50 hw9 hP hD hS
  obtain ⟨S10, eS10⟩ : ∃ z, z = wR S7 0 50 (some (qO S7 p1 20)) := ⟨_, rfl⟩
  rw [← eS10] at hR
  replace h := h S10 eS10
  have hT_p1 : qT S10 p1 = 11 := (congrArg (fun z => qT z p1) eS10).trans hT_p1
  have hsh : shy S S10 := by rw [eS10]; exact hsh
  refine lv_aload_n hx hb dX14_look_29 rfl (lv_at hl 0 rfl) ?_
  refine lv_aload_n hx hb dX14_look_30 rfl (lv_at hl 1 rfl) ?_
  obtain ⟨hv11, h⟩ := h
  have hT_b12 : qT S10 (qO S10 p1 14) = 2 := hR.w.ref hv11 hT_p1
  refine va_get (D := rD g) (ci := 12) (v := .ref (ad (qO S10 p1 14))) (C := RX13) (T := TX13) (N := 23) hx hb hts in2X13 hown hR.K hR.P p1 (hR.at13 hT_p1) rfl 14 (by decide) (hts _ kx_368) (fun _ h9 => h9) (congrArg (fun z => some (vf ad z)) hv11) dX14_look_31 ?_
  refine lv_iload_n hx hb dX14_look_34 rfl (lv_at hl 2 rfl) ?_
  obtain ⟨hv13, h⟩ := h
  refine va_iald hx hb hR.K hR.P (qO S10 p1 14) 1 (hR.atI hT_b12) rfl (k_ix (x := x2) (a := x2.toInt) rfl hv13) dX14_look_35 ?_
  refine lv_topi (fun z14 ez14 => ?_)
  obtain rfl : z14 = (qI S10 (qO S10 p1 14) x2.toInt.toNat) := ez14
  refine va_put (D := rD g) (ci := 13) (v := .int (qI S10 (qO S10 p1 14) x2.toInt.toNat)) (ty := .int) (C := RX14) (T := TX14) (N := 143) hx hb hts in2X14 tyX14 tyX14_ok nmX14 hown hR.K hR.P hR.D hR.sS 0 (hR.at14 hR.w.1) rfl 51 (by decide) (hts _ kx_369) (fun _ h9 => h9) rfl (by decide +kernel) rfl rfl (Nat.le_of_ble_eq_true rfl) dX14_look_36 (fun H locs hP hD hS => ?_)
  have hR : Rep g ad A s (wI S10 0 51 (qI S10 (qO S10 p1 14) x2.toInt.toNat)) H locs := hR.pI hR.w.1 F14_s51 hP hD hS
  obtain ⟨S15, eS15⟩ : ∃ z, z = wI S10 0 51 (qI S10 (qO S10 p1 14) x2.toInt.toNat) := ⟨_, rfl⟩
  rw [← eS15] at hR
  replace h := h S15 eS15
  have hT_p1 : qT S15 p1 = 11 := (congrArg (fun z => qT z p1) eS15).trans hT_p1
  have hsh : shy S S15 := by rw [eS15]; exact hsh
  refine lv_aload_n hx hb dX14_look_39 rfl (lv_at hl 0 rfl) ?_
  refine lv_aload_n hx hb dX14_look_40 rfl (lv_at hl 1 rfl) ?_
  obtain ⟨hv16, h⟩ := h
  have hT_b17 : qT S15 (qO S15 p1 15) = 2 := hR.w.ref hv16 hT_p1
  refine va_get (D := rD g) (ci := 12) (v := .ref (ad (qO S15 p1 15))) (C := RX13) (T := TX13) (N := 23) hx hb hts in2X13 hown hR.K hR.P p1 (hR.at13 hT_p1) rfl 15 (by decide) (hts _ kx_361) (fun _ h9 => h9) (congrArg (fun z => some (vf ad z)) hv16) dX14_look_41 ?_
  refine lv_iload_n hx hb dX14_look_44 rfl (lv_at hl 2 rfl) ?_
  obtain ⟨hv18, h⟩ := h
  refine va_iald hx hb hR.K hR.P (qO S15 p1 15) 1 (hR.atI hT_b17) rfl (k_ix (x := x2) (a := x2.toInt) rfl hv18) dX14_look_45 ?_
  refine lv_topi (fun z19 ez19 => ?_)
  obtain rfl : z19 = (qI S15 (qO S15 p1 15) x2.toInt.toNat) := ez19
  refine va_put (D := rD g) (ci := 13) (v := .int (qI S15 (qO S15 p1 15) x2.toInt.toNat)) (ty := .int) (C := RX14) (T := TX14) (N := 143) hx hb hts in2X14 tyX14 tyX14_ok nmX14 hown hR.K hR.P hR.D hR.sS 0 (hR.at14 hR.w.1) rfl 52 (by decide) (hts _ kx_370) (fun _ h9 => h9) rfl (by decide +kernel) rfl rfl (Nat.le_of_ble_eq_true rfl) dX14_look_46 (fun H locs hP hD hS => ?_)
  have hR : Rep g ad A s (wI S15 0 52 (qI S15 (qO S15 p1 15) x2.toInt.toNat)) H locs := hR.pI hR.w.1 F14_s52 hP hD hS
  obtain ⟨S20, eS20⟩ : ∃ z, z = wI S15 0 52 (qI S15 (qO S15 p1 15) x2.toInt.toNat) := ⟨_, rfl⟩
  rw [← eS20] at hR
  replace h := h S20 eS20
  have hT_p1 : qT S20 p1 = 11 := (congrArg (fun z => qT z p1) eS20).trans hT_p1
  have hsh : shy S S20 := by rw [eS20]; exact hsh
  refine lv_aload_n hx hb dX14_look_49 rfl (lv_at hl 0 rfl) ?_
  refine lv_aload_n hx hb dX14_look_50 rfl (lv_at hl 1 rfl) ?_
  obtain ⟨hv21, h⟩ := h
  have hT_b22 : qT S20 (qO S20 p1 16) = 2 := hR.w.ref hv21 hT_p1
  refine va_get (D := rD g) (ci := 12) (v := .ref (ad (qO S20 p1 16))) (C := RX13) (T := TX13) (N := 23) hx hb hts in2X13 hown hR.K hR.P p1 (hR.at13 hT_p1) rfl 16 (by decide) (hts _ kx_371) (fun _ h9 => h9) (congrArg (fun z => some (vf ad z)) hv21) dX14_look_51 ?_
  refine lv_iload_n hx hb dX14_look_54 rfl (lv_at hl 2 rfl) ?_
  obtain ⟨hv23, h⟩ := h
  refine va_iald hx hb hR.K hR.P (qO S20 p1 16) 1 (hR.atI hT_b22) rfl (k_ix (x := x2) (a := x2.toInt) rfl hv23) dX14_look_55 ?_
  refine lv_topi (fun z24 ez24 => ?_)
  obtain rfl : z24 = (qI S20 (qO S20 p1 16) x2.toInt.toNat) := ez24
  refine va_put (D := rD g) (ci := 13) (v := .int (qI S20 (qO S20 p1 16) x2.toInt.toNat)) (ty := .int) (C := RX14) (T := TX14) (N := 143) hx hb hts in2X14 tyX14 tyX14_ok nmX14 hown hR.K hR.P hR.D hR.sS 0 (hR.at14 hR.w.1) rfl 53 (by decide) (hts _ kx_372) (fun _ h9 => h9) rfl (by decide +kernel) rfl rfl (Nat.le_of_ble_eq_true rfl) dX14_look_56 (fun H locs hP hD hS => ?_)
  have hR : Rep g ad A s (wI S20 0 53 (qI S20 (qO S20 p1 16) x2.toInt.toNat)) H locs := hR.pI hR.w.1 F14_s53 hP hD hS
  obtain ⟨S25, eS25⟩ : ∃ z, z = wI S20 0 53 (qI S20 (qO S20 p1 16) x2.toInt.toNat) := ⟨_, rfl⟩
  rw [← eS25] at hR
  replace h := h S25 eS25
  have hT_p1 : qT S25 p1 = 11 := (congrArg (fun z => qT z p1) eS25).trans hT_p1
  have hsh : shy S S25 := by rw [eS25]; exact hsh
  refine lv_aload_n hx hb dX14_look_59 rfl (lv_at hl 0 rfl) ?_
  refine lv_aload_n hx hb dX14_look_60 rfl (lv_at hl 1 rfl) ?_
  obtain ⟨hv26, h⟩ := h
  have hT_b27 : qT S25 (qO S25 p1 17) = 2 := hR.w.ref hv26 hT_p1
  refine va_get (D := rD g) (ci := 12) (v := .ref (ad (qO S25 p1 17))) (C := RX13) (T := TX13) (N := 23) hx hb hts in2X13 hown hR.K hR.P p1 (hR.at13 hT_p1) rfl 17 (by decide) (hts _ kx_373) (fun _ h9 => h9) (congrArg (fun z => some (vf ad z)) hv26) dX14_look_61 ?_
  refine lv_iload_n hx hb dX14_look_64 rfl (lv_at hl 2 rfl) ?_
  obtain ⟨hv28, h⟩ := h
  refine va_iald hx hb hR.K hR.P (qO S25 p1 17) 1 (hR.atI hT_b27) rfl (k_ix (x := x2) (a := x2.toInt) rfl hv28) dX14_look_65 ?_
  refine lv_topi (fun z29 ez29 => ?_)
  obtain rfl : z29 = (qI S25 (qO S25 p1 17) x2.toInt.toNat) := ez29
  refine va_put (D := rD g) (ci := 13) (v := .int (qI S25 (qO S25 p1 17) x2.toInt.toNat)) (ty := .int) (C := RX14) (T := TX14) (N := 143) hx hb hts in2X14 tyX14 tyX14_ok nmX14 hown hR.K hR.P hR.D hR.sS 0 (hR.at14 hR.w.1) rfl 54 (by decide) (hts _ kx_374) (fun _ h9 => h9) rfl (by decide +kernel) rfl rfl (Nat.le_of_ble_eq_true rfl) dX14_look_66 (fun H locs hP hD hS => ?_)
  have hR : Rep g ad A s (wI S25 0 54 (qI S25 (qO S25 p1 17) x2.toInt.toNat)) H locs := hR.pI hR.w.1 F14_s54 hP hD hS
  obtain ⟨S30, eS30⟩ : ∃ z, z = wI S25 0 54 (qI S25 (qO S25 p1 17) x2.toInt.toNat) := ⟨_, rfl⟩
  rw [← eS30] at hR
  replace h := h S30 eS30
  have hT_p1 : qT S30 p1 = 11 := (congrArg (fun z => qT z p1) eS30).trans hT_p1
  have hsh : shy S S30 := by rw [eS30]; exact hsh
  exact W.vret hx hb hr (fun t9 ht9 hW9 => ⟨⟨S30, rfl, ⟨h, hR.w, hsh⟩, ⟨by rw [ht9]; exact hR.P, hR.D⟩⟩, hR.sS.F ht9⟩) hR.sS.2.2 dX14_look_69
def f_op (S : MS) (x1 : Int32) : Int32 := (qI S (qO S 0 48) ((((3 : Int32) * ((qI S 0 51) + x1)).toInt).toNat))
def d_op (S : MS) (x1 : Int32) : Prop := ((qR S 0 48 = some (qO S 0 48)) ∧ (((0 : Int) ≤ ((3 : Int32) * ((qI S 0 51) + x1)).toInt ∧ ((3 : Int32) * ((qI S 0 51) + x1)).toInt < (qN S (qO S 0 48) : Int)) ∧ True))
set_option maxHeartbeats 2000000 in
set_option maxRecDepth 100000 in
theorem r_op (l : Launch) (g : Gr) (ad : Nat → Nat) (sz : Nat) (S : MS) (x1 : Int32) (hw : wfM S) (hd : d_op S x1) : Met l yX14_op (wt2 yX14_op cX14_op 2 (some .int)) ({ frames := 0, cells := 0, slots := 0, locals := 0 }) (va_Pc [.ref (ad 0), .int x1] (st_R g ad sz S)) (va_Qi (fun (r : Int32) (_ : Unit) => r = f_op S x1) (fun (_ : Unit) (t : State) => qE g ad (va_A (Wd g ad S) sz) S t) (va_A (Wd g ad S) sz)) 0 0 (va_A (Wd g ad S) sz) := by
  refine Met.ofW (cc := cX14_op) (maxL := 2) (ret := (some .int)) (by decide) rfl ?_
  intro p e s m args below meth c s₁ B hml hv
  obtain ⟨rfl, hsz, hP, hK, hD0, hex, hE⟩ := hv
  have hx := B.exec
  have hb := B.bytes
  have hr := B.returns
  have hts0 := atoms_spec (ws := wt2 yX14_op cX14_op 2 (some .int)) B.pre
  have hts : ∀ w ∈ tb2, w.before _ s = true := fun w h => hts0 w (List.mem_cons_of_mem _ h)
  have hown : s.vm.findClass RX14 = some m.cls := findClass_of_methodNamed B.named
  subst hsz
  have hD := hD0.self (sz := s.heap.size)
  generalize hAe : va_A (Wd g ad S) s.heap.size = A at hD hE ⊢
  have hA : ∀ q : Nat, s.heap.size ≤ q → A q := fun q h => by rw [← hAe]; exact Or.inr h
  have hR : Rep g ad A s S s.heap [] := ⟨hK, hP, hD, va_S.rf, hw⟩
  clear hK hP hD hD0
  have hl := lv_entry ([.ref (ad 0), .int x1]) (n := 2) (Nat.le_of_ble_eq_true rfl)
  rw [lg_entry_eq]
  generalize (lg_sl ([.ref (ad 0), .int x1]) ++ List.replicate (2 - (lg_sl ([.ref (ad 0), .int x1])).length) Slot.unset).toArray = ls at hl ⊢
  have hl : lv_has ls 2 [(0, .ref (ad 0)), (1, .int x1)] := hl
  obtain ⟨r0, hf⟩ : ∃ r0, f_op S x1 = r0 := ⟨_, rfl⟩
  have hf0 := hf
  unfold f_op at hf
  unfold d_op at hd
  refine lv_aload_n hx hb dX14_op_0 rfl (lv_at hl 0 rfl) ?_
  obtain ⟨hv1, hd⟩ := hd
  have hT_b2 : qT S (qO S 0 48) = 2 := hR.w.ref hv1 hR.w.1
  refine va_get (D := rD g) (ci := 13) (v := .ref (ad (qO S 0 48))) (C := RX14) (T := TX14) (N := 143) hx hb hts in2X14 hown hR.K hR.P 0 (hR.at14 hR.w.1) rfl 48 (by decide) (hts _ kx_363) (fun _ h9 => h9) (congrArg (fun z => some (vf ad z)) hv1) dX14_op_1 ?_
  refine lv_iconst (v := 3) hx hb dX14_op_4 (by decide) ?_
  refine lv_aload_n hx hb dX14_op_5 rfl (lv_at hl 0 rfl) ?_
  refine va_get (D := rD g) (ci := 13) (v := .int (qI S 0 51)) (C := RX14) (T := TX14) (N := 143) hx hb hts in2X14 hown hR.K hR.P 0 (hR.at14 hR.w.1) rfl 51 (by decide) (hts _ kx_369) (fun _ h9 => h9) rfl dX14_op_6 ?_
  refine lv_iload_n hx hb dX14_op_9 rfl (lv_at hl 1 rfl) ?_
  refine lv_iadd hx hb dX14_op_10 ?_
  refine lv_topi (fun z3 ez3 => ?_)
  obtain rfl : z3 = ((qI S 0 51) + x1) := ez3
  refine lv_imul hx hb dX14_op_11 ?_
  refine lv_topi (fun z4 ez4 => ?_)
  obtain rfl : z4 = ((3 : Int32) * ((qI S 0 51) + x1)) := ez4
  obtain ⟨hv5, hd⟩ := hd
  refine va_iald hx hb hR.K hR.P (qO S 0 48) 1 (hR.atI hT_b2) rfl (k_ix (x := ((3 : Int32) * ((qI S 0 51) + x1))) (a := ((3 : Int32) * ((qI S 0 51) + x1)).toInt) rfl hv5) dX14_op_12 ?_
  refine lv_topi (fun z6 ez6 => ?_)
  obtain rfl : z6 = (qI S (qO S 0 48) ((((3 : Int32) * ((qI S 0 51) + x1)).toInt).toNat)) := ez6
  exact W.iret (v := (qI S (qO S 0 48) ((((3 : Int32) * ((qI S 0 51) + x1)).toInt).toNat))) hx hb hr (fun t9 ht9 hW9 => ⟨⟨_, (), rfl, hf.trans hf0.symm, ⟨by rw [ht9]; exact hR.P, hR.D⟩⟩, hR.sS.F ht9⟩) hR.sS.2.2 dX14_op_13
def f_first (S : MS) (x1 : Int32) : Int32 := (qI S (qO S 0 48) (((((3 : Int32) * ((qI S 0 51) + x1)) + (1 : Int32)).toInt).toNat))
def d_first (S : MS) (x1 : Int32) : Prop := ((qR S 0 48 = some (qO S 0 48)) ∧ (((0 : Int) ≤ (((3 : Int32) * ((qI S 0 51) + x1)) + (1 : Int32)).toInt ∧ (((3 : Int32) * ((qI S 0 51) + x1)) + (1 : Int32)).toInt < (qN S (qO S 0 48) : Int)) ∧ True))
set_option maxHeartbeats 2000000 in
set_option maxRecDepth 100000 in
theorem r_first (l : Launch) (g : Gr) (ad : Nat → Nat) (sz : Nat) (S : MS) (x1 : Int32) (hw : wfM S) (hd : d_first S x1) : Met l yX14_first (wt2 yX14_first cX14_first 2 (some .int)) ({ frames := 0, cells := 0, slots := 0, locals := 0 }) (va_Pc [.ref (ad 0), .int x1] (st_R g ad sz S)) (va_Qi (fun (r : Int32) (_ : Unit) => r = f_first S x1) (fun (_ : Unit) (t : State) => qE g ad (va_A (Wd g ad S) sz) S t) (va_A (Wd g ad S) sz)) 0 0 (va_A (Wd g ad S) sz) := by
  refine Met.ofW (cc := cX14_first) (maxL := 2) (ret := (some .int)) (by decide) rfl ?_
  intro p e s m args below meth c s₁ B hml hv
  obtain ⟨rfl, hsz, hP, hK, hD0, hex, hE⟩ := hv
  have hx := B.exec
  have hb := B.bytes
  have hr := B.returns
  have hts0 := atoms_spec (ws := wt2 yX14_first cX14_first 2 (some .int)) B.pre
  have hts : ∀ w ∈ tb2, w.before _ s = true := fun w h => hts0 w (List.mem_cons_of_mem _ h)
  have hown : s.vm.findClass RX14 = some m.cls := findClass_of_methodNamed B.named
  subst hsz
  have hD := hD0.self (sz := s.heap.size)
  generalize hAe : va_A (Wd g ad S) s.heap.size = A at hD hE ⊢
  have hA : ∀ q : Nat, s.heap.size ≤ q → A q := fun q h => by rw [← hAe]; exact Or.inr h
  have hR : Rep g ad A s S s.heap [] := ⟨hK, hP, hD, va_S.rf, hw⟩
  clear hK hP hD hD0
  have hl := lv_entry ([.ref (ad 0), .int x1]) (n := 2) (Nat.le_of_ble_eq_true rfl)
  rw [lg_entry_eq]
  generalize (lg_sl ([.ref (ad 0), .int x1]) ++ List.replicate (2 - (lg_sl ([.ref (ad 0), .int x1])).length) Slot.unset).toArray = ls at hl ⊢
  have hl : lv_has ls 2 [(0, .ref (ad 0)), (1, .int x1)] := hl
  obtain ⟨r0, hf⟩ : ∃ r0, f_first S x1 = r0 := ⟨_, rfl⟩
  have hf0 := hf
  unfold f_first at hf
  unfold d_first at hd
  refine lv_aload_n hx hb dX14_first_0 rfl (lv_at hl 0 rfl) ?_
  obtain ⟨hv1, hd⟩ := hd
  have hT_b2 : qT S (qO S 0 48) = 2 := hR.w.ref hv1 hR.w.1
  refine va_get (D := rD g) (ci := 13) (v := .ref (ad (qO S 0 48))) (C := RX14) (T := TX14) (N := 143) hx hb hts in2X14 hown hR.K hR.P 0 (hR.at14 hR.w.1) rfl 48 (by decide) (hts _ kx_363) (fun _ h9 => h9) (congrArg (fun z => some (vf ad z)) hv1) dX14_first_1 ?_
  refine lv_iconst (v := 3) hx hb dX14_first_4 (by decide) ?_
  refine lv_aload_n hx hb dX14_first_5 rfl (lv_at hl 0 rfl) ?_
  refine va_get (D := rD g) (ci := 13) (v := .int (qI S 0 51)) (C := RX14) (T := TX14) (N := 143) hx hb hts in2X14 hown hR.K hR.P 0 (hR.at14 hR.w.1) rfl 51 (by decide) (hts _ kx_369) (fun _ h9 => h9) rfl dX14_first_6 ?_
  refine lv_iload_n hx hb dX14_first_9 rfl (lv_at hl 1 rfl) ?_
  refine lv_iadd hx hb dX14_first_10 ?_
  refine lv_topi (fun z3 ez3 => ?_)
  obtain rfl : z3 = ((qI S 0 51) + x1) := ez3
  refine lv_imul hx hb dX14_first_11 ?_
  refine lv_topi (fun z4 ez4 => ?_)
  obtain rfl : z4 = ((3 : Int32) * ((qI S 0 51) + x1)) := ez4
  refine lv_iconst (v := 1) hx hb dX14_first_12 (by decide) ?_
  refine lv_iadd hx hb dX14_first_13 ?_
  refine lv_topi (fun z5 ez5 => ?_)
  obtain rfl : z5 = (((3 : Int32) * ((qI S 0 51) + x1)) + (1 : Int32)) := ez5
  obtain ⟨hv6, hd⟩ := hd
  refine va_iald hx hb hR.K hR.P (qO S 0 48) 1 (hR.atI hT_b2) rfl (k_ix (x := (((3 : Int32) * ((qI S 0 51) + x1)) + (1 : Int32))) (a := (((3 : Int32) * ((qI S 0 51) + x1)) + (1 : Int32)).toInt) rfl hv6) dX14_first_14 ?_
  refine lv_topi (fun z7 ez7 => ?_)
  obtain rfl : z7 = (qI S (qO S 0 48) (((((3 : Int32) * ((qI S 0 51) + x1)) + (1 : Int32)).toInt).toNat)) := ez7
  exact W.iret (v := (qI S (qO S 0 48) (((((3 : Int32) * ((qI S 0 51) + x1)) + (1 : Int32)).toInt).toNat))) hx hb hr (fun t9 ht9 hW9 => ⟨⟨_, (), rfl, hf.trans hf0.symm, ⟨by rw [ht9]; exact hR.P, hR.D⟩⟩, hR.sS.F ht9⟩) hR.sS.2.2 dX14_first_15
def f_second (S : MS) (x1 : Int32) : Int32 := (qI S (qO S 0 48) (((((3 : Int32) * ((qI S 0 51) + x1)) + (2 : Int32)).toInt).toNat))
def d_second (S : MS) (x1 : Int32) : Prop := ((qR S 0 48 = some (qO S 0 48)) ∧ (((0 : Int) ≤ (((3 : Int32) * ((qI S 0 51) + x1)) + (2 : Int32)).toInt ∧ (((3 : Int32) * ((qI S 0 51) + x1)) + (2 : Int32)).toInt < (qN S (qO S 0 48) : Int)) ∧ True))
set_option maxHeartbeats 2000000 in
set_option maxRecDepth 100000 in
theorem r_second (l : Launch) (g : Gr) (ad : Nat → Nat) (sz : Nat) (S : MS) (x1 : Int32) (hw : wfM S) (hd : d_second S x1) : Met l yX14_second (wt2 yX14_second cX14_second 2 (some .int)) ({ frames := 0, cells := 0, slots := 0, locals := 0 }) (va_Pc [.ref (ad 0), .int x1] (st_R g ad sz S)) (va_Qi (fun (r : Int32) (_ : Unit) => r = f_second S x1) (fun (_ : Unit) (t : State) => qE g ad (va_A (Wd g ad S) sz) S t) (va_A (Wd g ad S) sz)) 0 0 (va_A (Wd g ad S) sz) := by
  refine Met.ofW (cc := cX14_second) (maxL := 2) (ret := (some .int)) (by decide) rfl ?_
  intro p e s m args below meth c s₁ B hml hv
  obtain ⟨rfl, hsz, hP, hK, hD0, hex, hE⟩ := hv
  have hx := B.exec
  have hb := B.bytes
  have hr := B.returns
  have hts0 := atoms_spec (ws := wt2 yX14_second cX14_second 2 (some .int)) B.pre
  have hts : ∀ w ∈ tb2, w.before _ s = true := fun w h => hts0 w (List.mem_cons_of_mem _ h)
  have hown : s.vm.findClass RX14 = some m.cls := findClass_of_methodNamed B.named
  subst hsz
  have hD := hD0.self (sz := s.heap.size)
  generalize hAe : va_A (Wd g ad S) s.heap.size = A at hD hE ⊢
  have hA : ∀ q : Nat, s.heap.size ≤ q → A q := fun q h => by rw [← hAe]; exact Or.inr h
  have hR : Rep g ad A s S s.heap [] := ⟨hK, hP, hD, va_S.rf, hw⟩
  clear hK hP hD hD0
  have hl := lv_entry ([.ref (ad 0), .int x1]) (n := 2) (Nat.le_of_ble_eq_true rfl)
  rw [lg_entry_eq]
  generalize (lg_sl ([.ref (ad 0), .int x1]) ++ List.replicate (2 - (lg_sl ([.ref (ad 0), .int x1])).length) Slot.unset).toArray = ls at hl ⊢
  have hl : lv_has ls 2 [(0, .ref (ad 0)), (1, .int x1)] := hl
  obtain ⟨r0, hf⟩ : ∃ r0, f_second S x1 = r0 := ⟨_, rfl⟩
  have hf0 := hf
  unfold f_second at hf
  unfold d_second at hd
  refine lv_aload_n hx hb dX14_second_0 rfl (lv_at hl 0 rfl) ?_
  obtain ⟨hv1, hd⟩ := hd
  have hT_b2 : qT S (qO S 0 48) = 2 := hR.w.ref hv1 hR.w.1
  refine va_get (D := rD g) (ci := 13) (v := .ref (ad (qO S 0 48))) (C := RX14) (T := TX14) (N := 143) hx hb hts in2X14 hown hR.K hR.P 0 (hR.at14 hR.w.1) rfl 48 (by decide) (hts _ kx_363) (fun _ h9 => h9) (congrArg (fun z => some (vf ad z)) hv1) dX14_second_1 ?_
  refine lv_iconst (v := 3) hx hb dX14_second_4 (by decide) ?_
  refine lv_aload_n hx hb dX14_second_5 rfl (lv_at hl 0 rfl) ?_
  refine va_get (D := rD g) (ci := 13) (v := .int (qI S 0 51)) (C := RX14) (T := TX14) (N := 143) hx hb hts in2X14 hown hR.K hR.P 0 (hR.at14 hR.w.1) rfl 51 (by decide) (hts _ kx_369) (fun _ h9 => h9) rfl dX14_second_6 ?_
  refine lv_iload_n hx hb dX14_second_9 rfl (lv_at hl 1 rfl) ?_
  refine lv_iadd hx hb dX14_second_10 ?_
  refine lv_topi (fun z3 ez3 => ?_)
  obtain rfl : z3 = ((qI S 0 51) + x1) := ez3
  refine lv_imul hx hb dX14_second_11 ?_
  refine lv_topi (fun z4 ez4 => ?_)
  obtain rfl : z4 = ((3 : Int32) * ((qI S 0 51) + x1)) := ez4
  refine lv_iconst (v := 2) hx hb dX14_second_12 (by decide) ?_
  refine lv_iadd hx hb dX14_second_13 ?_
  refine lv_topi (fun z5 ez5 => ?_)
  obtain rfl : z5 = (((3 : Int32) * ((qI S 0 51) + x1)) + (2 : Int32)) := ez5
  obtain ⟨hv6, hd⟩ := hd
  refine va_iald hx hb hR.K hR.P (qO S 0 48) 1 (hR.atI hT_b2) rfl (k_ix (x := (((3 : Int32) * ((qI S 0 51) + x1)) + (2 : Int32))) (a := (((3 : Int32) * ((qI S 0 51) + x1)) + (2 : Int32)).toInt) rfl hv6) dX14_second_14 ?_
  refine lv_topi (fun z7 ez7 => ?_)
  obtain rfl : z7 = (qI S (qO S 0 48) (((((3 : Int32) * ((qI S 0 51) + x1)) + (2 : Int32)).toInt).toNat)) := ez7
  exact W.iret (v := (qI S (qO S 0 48) (((((3 : Int32) * ((qI S 0 51) + x1)) + (2 : Int32)).toInt).toNat))) hx hb hr (fun t9 ht9 hW9 => ⟨⟨_, (), rfl, hf.trans hf0.symm, ⟨by rw [ht9]; exact hR.P, hR.D⟩⟩, hR.sS.F ht9⟩) hR.sS.2.2 dX14_second_15
def f_catchWord (S : MS) (x1 : Int32) (x2 : Int32) : Int32 := (qI S (qO S 0 50) (((((4 : Int32) * ((qI S 0 53) + x1)) + x2).toInt).toNat))
def d_catchWord (S : MS) (x1 : Int32) (x2 : Int32) : Prop := ((qR S 0 50 = some (qO S 0 50)) ∧ (((0 : Int) ≤ (((4 : Int32) * ((qI S 0 53) + x1)) + x2).toInt ∧ (((4 : Int32) * ((qI S 0 53) + x1)) + x2).toInt < (qN S (qO S 0 50) : Int)) ∧ True))
set_option maxHeartbeats 2000000 in
set_option maxRecDepth 100000 in
theorem r_catchWord (l : Launch) (g : Gr) (ad : Nat → Nat) (sz : Nat) (S : MS) (x1 : Int32) (x2 : Int32) (hw : wfM S) (hd : d_catchWord S x1 x2) : Met l yX14_catchWord (wt2 yX14_catchWord cX14_catchWord 3 (some .int)) ({ frames := 0, cells := 0, slots := 0, locals := 0 }) (va_Pc [.ref (ad 0), .int x1, .int x2] (st_R g ad sz S)) (va_Qi (fun (r : Int32) (_ : Unit) => r = f_catchWord S x1 x2) (fun (_ : Unit) (t : State) => qE g ad (va_A (Wd g ad S) sz) S t) (va_A (Wd g ad S) sz)) 0 0 (va_A (Wd g ad S) sz) := by
  refine Met.ofW (cc := cX14_catchWord) (maxL := 3) (ret := (some .int)) (by decide) rfl ?_
  intro p e s m args below meth c s₁ B hml hv
  obtain ⟨rfl, hsz, hP, hK, hD0, hex, hE⟩ := hv
  have hx := B.exec
  have hb := B.bytes
  have hr := B.returns
  have hts0 := atoms_spec (ws := wt2 yX14_catchWord cX14_catchWord 3 (some .int)) B.pre
  have hts : ∀ w ∈ tb2, w.before _ s = true := fun w h => hts0 w (List.mem_cons_of_mem _ h)
  have hown : s.vm.findClass RX14 = some m.cls := findClass_of_methodNamed B.named
  subst hsz
  have hD := hD0.self (sz := s.heap.size)
  generalize hAe : va_A (Wd g ad S) s.heap.size = A at hD hE ⊢
  have hA : ∀ q : Nat, s.heap.size ≤ q → A q := fun q h => by rw [← hAe]; exact Or.inr h
  have hR : Rep g ad A s S s.heap [] := ⟨hK, hP, hD, va_S.rf, hw⟩
  clear hK hP hD hD0
  have hl := lv_entry ([.ref (ad 0), .int x1, .int x2]) (n := 3) (Nat.le_of_ble_eq_true rfl)
  rw [lg_entry_eq]
  generalize (lg_sl ([.ref (ad 0), .int x1, .int x2]) ++ List.replicate (3 - (lg_sl ([.ref (ad 0), .int x1, .int x2])).length) Slot.unset).toArray = ls at hl ⊢
  have hl : lv_has ls 3 [(0, .ref (ad 0)), (1, .int x1), (2, .int x2)] := hl
  obtain ⟨r0, hf⟩ : ∃ r0, f_catchWord S x1 x2 = r0 := ⟨_, rfl⟩
  have hf0 := hf
  unfold f_catchWord at hf
  unfold d_catchWord at hd
  refine lv_aload_n hx hb dX14_catchWord_0 rfl (lv_at hl 0 rfl) ?_
  obtain ⟨hv1, hd⟩ := hd
  have hT_b2 : qT S (qO S 0 50) = 2 := hR.w.ref hv1 hR.w.1
  refine va_get (D := rD g) (ci := 13) (v := .ref (ad (qO S 0 50))) (C := RX14) (T := TX14) (N := 143) hx hb hts in2X14 hown hR.K hR.P 0 (hR.at14 hR.w.1) rfl 50 (by decide) (hts _ kx_367) (fun _ h9 => h9) (congrArg (fun z => some (vf ad z)) hv1) dX14_catchWord_1 ?_
  refine lv_iconst (v := 4) hx hb dX14_catchWord_4 (by decide) ?_
  refine lv_aload_n hx hb dX14_catchWord_5 rfl (lv_at hl 0 rfl) ?_
  refine va_get (D := rD g) (ci := 13) (v := .int (qI S 0 53)) (C := RX14) (T := TX14) (N := 143) hx hb hts in2X14 hown hR.K hR.P 0 (hR.at14 hR.w.1) rfl 53 (by decide) (hts _ kx_372) (fun _ h9 => h9) rfl dX14_catchWord_6 ?_
  refine lv_iload_n hx hb dX14_catchWord_9 rfl (lv_at hl 1 rfl) ?_
  refine lv_iadd hx hb dX14_catchWord_10 ?_
  refine lv_topi (fun z3 ez3 => ?_)
  obtain rfl : z3 = ((qI S 0 53) + x1) := ez3
  refine lv_imul hx hb dX14_catchWord_11 ?_
  refine lv_topi (fun z4 ez4 => ?_)
  obtain rfl : z4 = ((4 : Int32) * ((qI S 0 53) + x1)) := ez4
  refine lv_iload_n hx hb dX14_catchWord_12 rfl (lv_at hl 2 rfl) ?_
  refine lv_iadd hx hb dX14_catchWord_13 ?_
  refine lv_topi (fun z5 ez5 => ?_)
  obtain rfl : z5 = (((4 : Int32) * ((qI S 0 53) + x1)) + x2) := ez5
  obtain ⟨hv6, hd⟩ := hd
  refine va_iald hx hb hR.K hR.P (qO S 0 50) 1 (hR.atI hT_b2) rfl (k_ix (x := (((4 : Int32) * ((qI S 0 53) + x1)) + x2)) (a := (((4 : Int32) * ((qI S 0 53) + x1)) + x2).toInt) rfl hv6) dX14_catchWord_14 ?_
  refine lv_topi (fun z7 ez7 => ?_)
  obtain rfl : z7 = (qI S (qO S 0 50) (((((4 : Int32) * ((qI S 0 53) + x1)) + x2).toInt).toNat)) := ez7
  exact W.iret (v := (qI S (qO S 0 50) (((((4 : Int32) * ((qI S 0 53) + x1)) + x2).toInt).toNat))) hx hb hr (fun t9 ht9 hW9 => ⟨⟨_, (), rfl, hf.trans hf0.symm, ⟨by rw [ht9]; exact hR.P, hR.D⟩⟩, hR.sS.F ht9⟩) hR.sS.2.2 dX14_catchWord_15
def f_isCaught_J24 (S : MS) : Int32 := (0 : Int32)
def d_isCaught_J24 (S : MS) : Prop := True
def f_isCaught (S : MS) (x1 : Int32) (x2 : Int32) : Int32 := (if x1.toInt < (f_catchWord S x2 (0 : Int32)).toInt then f_isCaught_J24 S else (if (f_catchWord S x2 (1 : Int32)).toInt ≤ x1.toInt then f_isCaught_J24 S else (1 : Int32)))
def d_isCaught (S : MS) (x1 : Int32) (x2 : Int32) : Prop := (d_catchWord S x2 (0 : Int32) ∧ (if x1.toInt < (f_catchWord S x2 (0 : Int32)).toInt then d_isCaught_J24 S else (d_catchWord S x2 (1 : Int32) ∧ (if (f_catchWord S x2 (1 : Int32)).toInt ≤ x1.toInt then d_isCaught_J24 S else True))))
set_option maxHeartbeats 2000000 in
set_option maxRecDepth 100000 in
theorem r_isCaught (l : Launch) (g : Gr) (ad : Nat → Nat) (sz : Nat) (S : MS) (x1 : Int32) (x2 : Int32) (hw : wfM S) (hd : d_isCaught S x1 x2) : Met l yX14_isCaught (wt2 yX14_isCaught cX14_isCaught 3 (some .boolean)) ({ frames := 1, cells := 0, slots := 0, locals := 22 }) (va_Pc [.ref (ad 0), .int x1, .int x2] (st_R g ad sz S)) (va_Qi (fun (r : Int32) (_ : Unit) => r = f_isCaught S x1 x2 ∧ (r = 0 ∨ r = 1)) (fun (_ : Unit) (t : State) => qE g ad (va_A (Wd g ad S) sz) S t) (va_A (Wd g ad S) sz)) 0 0 (va_A (Wd g ad S) sz) := by
  refine Met.ofW (cc := cX14_isCaught) (maxL := 3) (ret := (some .boolean)) (by decide) rfl ?_
  intro p e s m args below meth c s₁ B hml hv
  obtain ⟨rfl, hsz, hP, hK, hD0, hex, hE⟩ := hv
  have hx := B.exec
  have hb := B.bytes
  have hr := B.returns
  have hts0 := atoms_spec (ws := wt2 yX14_isCaught cX14_isCaught 3 (some .boolean)) B.pre
  have hts : ∀ w ∈ tb2, w.before _ s = true := fun w h => hts0 w (List.mem_cons_of_mem _ h)
  have hown : s.vm.findClass RX14 = some m.cls := findClass_of_methodNamed B.named
  subst hsz
  have hD := hD0.self (sz := s.heap.size)
  generalize hAe : va_A (Wd g ad S) s.heap.size = A at hD hE ⊢
  have hA : ∀ q : Nat, s.heap.size ≤ q → A q := fun q h => by rw [← hAe]; exact Or.inr h
  have hR : Rep g ad A s S s.heap [] := ⟨hK, hP, hD, va_S.rf, hw⟩
  clear hK hP hD hD0
  have hl := lv_entry ([.ref (ad 0), .int x1, .int x2]) (n := 3) (Nat.le_of_ble_eq_true rfl)
  rw [lg_entry_eq]
  generalize (lg_sl ([.ref (ad 0), .int x1, .int x2]) ++ List.replicate (3 - (lg_sl ([.ref (ad 0), .int x1, .int x2])).length) Slot.unset).toArray = ls at hl ⊢
  have hl : lv_has ls 3 [(0, .ref (ad 0)), (1, .int x1), (2, .int x2)] := hl
  obtain ⟨r0, hf⟩ : ∃ r0, f_isCaught S x1 x2 = r0 := ⟨_, rfl⟩
  have hf0 := hf
  unfold f_isCaught at hf
  unfold d_isCaught at hd
  refine lv_iload_n hx hb dX14_isCaught_0 rfl (lv_at hl 1 rfl) ?_
  refine lv_aload_n hx hb dX14_isCaught_1 rfl (lv_at hl 0 rfl) ?_
  refine lv_iload_n hx hb dX14_isCaught_2 rfl (lv_at hl 2 rfl) ?_
  refine lv_iconst (v := 0) hx hb dX14_isCaught_3 (by decide) ?_
  obtain ⟨hv1, hd⟩ := hd
  have hFc := rfree hR hA
  refine va_calli (va_runV (As := [.int x2, .int 0]) (rest := [.int x1]) ⟨hx, hb, hml, hown, hts⟩ (r_catchWord l g ad s.heap.size S x2 (0 : Int32) hR.w  hv1) (cwV 2 hts (gd2_V kx_375 kx_376 kx_377 kx_177 kx_378) rfl rfl rfl (by decide +kernel) ⟨Nat.le_of_ble_eq_true rfl, Nat.le_of_ble_eq_true rfl⟩) ⟨rblind, va_recv hR.K hR.P (ci := 13) (q0 := 0) rfl (hR.at14 hR.w.1), fun U hU hW9 => rmk hU hW9 hR hex hE hFc⟩ rfl rfl hl.1 rfl (lv_room (Nat.le_of_ble_eq_true rfl)) dX14_isCaught_4 ⟨Nat.le_of_ble_eq_true rfl, Nat.le_of_ble_eq_true rfl⟩) hR.sS (fun q _ h => hFc q h) hFc (fun r2 u9 t9 H1 locs ht9 hvm9 hw9 hB9 hz9 hk9 hS => ?_)
  have hR : Rep g ad A s S H1 locs := hR.call ht9 hB9 hR.w hS hFc
  obtain rfl : r2 = (f_catchWord S x2 (0 : Int32)) := hw9
  clear hB9 hz9 hk9 hvm9 ht9 hS
  generalize H1 = H at hR ⊢
  have J_24 : ∀ (H : Heap) (locs : List Loc) (ls : Array Slot), d_isCaught_J24 S → f_isCaught_J24 S = r0 → Rep g ad A s S H locs → lv_has ls 3 [] → W p l e (headSpec (wt2 yX14_isCaught cX14_isCaught 3 (some .boolean)) ({ frames := 1, cells := 0, slots := 0, locals := 22 })).room s m ([.ref (ad 0), .int x1, .int x2] : List Value).toArray below meth c H locs 0 0 (MQ below (va_Qi (fun (r : Int32) (_ : Unit) => r = f_isCaught S x1 x2 ∧ (r = 0 ∨ r = 1)) (fun (_ : Unit) (t : State) => qE g ad A S t) A) ([.ref (ad 0), .int x1, .int x2] : List Value).toArray s 0 0 A) (F0 m 24 ls []) := by
    intro H locs ls hd hf hR hl
    unfold d_isCaught_J24 at hd
    unfold f_isCaught_J24 at hf
    refine lv_iconst (v := 0) hx hb dX14_isCaught_24 (by decide) ?_
    exact W.zret (v := 0) hx hb hr (nz (Or.inl rfl)) (fun t9 ht9 hW9 => ⟨⟨_, (), rfl, ⟨hf.trans hf0.symm, (Or.inl rfl)⟩, ⟨by rw [ht9]; exact hR.P, hR.D⟩⟩, hR.sS.F ht9⟩) hR.sS.2.2 dX14_isCaught_25
  refine lv_icmp_lt (tgt := 24) hx hb dX14_isCaught_7 (by decide) (fun c4 => ?_) (fun c4 => ?_)
  · rw [if_pos (k_lt rfl rfl c4)] at hf
    (try rw [if_pos (k_lt rfl rfl c4)] at hd)
    exact J_24 _ _ ls hd hf  hR (lv_sub hl [] rfl)
  · rw [if_neg (k_nlt rfl rfl c4)] at hf
    (try rw [if_neg (k_nlt rfl rfl c4)] at hd)
    refine lv_iload_n hx hb dX14_isCaught_10 rfl (lv_at hl 1 rfl) ?_
    refine lv_aload_n hx hb dX14_isCaught_11 rfl (lv_at hl 0 rfl) ?_
    refine lv_iload_n hx hb dX14_isCaught_12 rfl (lv_at hl 2 rfl) ?_
    refine lv_iconst (v := 1) hx hb dX14_isCaught_13 (by decide) ?_
    obtain ⟨hv5, hd⟩ := hd
    have hFc := rfree hR hA
    refine va_calli (va_runV (As := [.int x2, .int 1]) (rest := [.int x1]) ⟨hx, hb, hml, hown, hts⟩ (r_catchWord l g ad H.size S x2 (1 : Int32) hR.w  hv5) (cwV 2 hts (gd2_V kx_375 kx_376 kx_377 kx_177 kx_378) rfl rfl rfl (by decide +kernel) ⟨Nat.le_of_ble_eq_true rfl, Nat.le_of_ble_eq_true rfl⟩) ⟨rblind, va_recv hR.K hR.P (ci := 13) (q0 := 0) rfl (hR.at14 hR.w.1), fun U hU hW9 => rmk hU hW9 hR hex hE hFc⟩ rfl rfl hl.1 rfl (lv_room (Nat.le_of_ble_eq_true rfl)) dX14_isCaught_14 ⟨Nat.le_of_ble_eq_true rfl, Nat.le_of_ble_eq_true rfl⟩) hR.sS (fun q _ h => hFc q h) hFc (fun r6 u9 t9 H1 locs ht9 hvm9 hw9 hB9 hz9 hk9 hS => ?_)
    have hR : Rep g ad A s S H1 locs := hR.call ht9 hB9 hR.w hS hFc
    obtain rfl : r6 = (f_catchWord S x2 (1 : Int32)) := hw9
    clear hB9 hz9 hk9 hvm9 ht9 hS
    generalize H1 = H at hR ⊢
    refine lv_icmp_ge (tgt := 24) hx hb dX14_isCaught_17 (by decide) (fun c8 => ?_) (fun c8 => ?_)
    · rw [if_pos (k_le rfl rfl c8)] at hf
      (try rw [if_pos (k_le rfl rfl c8)] at hd)
      exact J_24 _ _ ls hd hf  hR (lv_sub hl [] rfl)
    · rw [if_neg (k_nle rfl rfl c8)] at hf
      (try rw [if_neg (k_nle rfl rfl c8)] at hd)
      refine lv_iconst (v := 1) hx hb dX14_isCaught_20 (by decide) ?_
      refine lv_goto (tgt := 25) hx hb dX14_isCaught_21 (by decide) ?_
      exact W.zret (v := 1) hx hb hr (nz (Or.inr rfl)) (fun t9 ht9 hW9 => ⟨⟨_, (), rfl, ⟨hf.trans hf0.symm, (Or.inr rfl)⟩, ⟨by rw [ht9]; exact hR.P, hR.D⟩⟩, hR.sS.F ht9⟩) hR.sS.2.2 dX14_isCaught_25
def f_isSwitch_J14 (S : MS) : Int32 := (1 : Int32)
def d_isSwitch_J14 (S : MS) : Prop := True
def f_isSwitch (S : MS) (x0 : Int32) : Int32 := (if x0.toInt = 170 then f_isSwitch_J14 S else (if x0.toInt = 171 then f_isSwitch_J14 S else (0 : Int32)))
def d_isSwitch (S : MS) (x0 : Int32) : Prop := (if x0.toInt = 170 then d_isSwitch_J14 S else (if x0.toInt = 171 then d_isSwitch_J14 S else True))
set_option maxHeartbeats 2000000 in
set_option maxRecDepth 100000 in
theorem r_isSwitch (l : Launch) (g : Gr) (ad : Nat → Nat) (sz : Nat) (S : MS) (x0 : Int32) (hw : wfM S) (hd : d_isSwitch S x0) : Met l yX14_isSwitch (wt2 yX14_isSwitch cX14_isSwitch 1 (some .boolean)) ({ frames := 0, cells := 0, slots := 0, locals := 0 }) (va_Pc [.int x0] (st_R g ad sz S)) (va_Qi (fun (r : Int32) (_ : Unit) => r = f_isSwitch S x0 ∧ (r = 0 ∨ r = 1)) (fun (_ : Unit) (t : State) => qE g ad (va_A (Wd g ad S) sz) S t) (va_A (Wd g ad S) sz)) 0 0 (va_A (Wd g ad S) sz) := by
  refine Met.ofW (cc := cX14_isSwitch) (maxL := 1) (ret := (some .boolean)) (by decide) rfl ?_
  intro p e s m args below meth c s₁ B hml hv
  obtain ⟨rfl, hsz, hP, hK, hD0, hex, hE⟩ := hv
  have hx := B.exec
  have hb := B.bytes
  have hr := B.returns
  have hts0 := atoms_spec (ws := wt2 yX14_isSwitch cX14_isSwitch 1 (some .boolean)) B.pre
  have hts : ∀ w ∈ tb2, w.before _ s = true := fun w h => hts0 w (List.mem_cons_of_mem _ h)
  have hown : s.vm.findClass RX14 = some m.cls := findClass_of_methodNamed B.named
  subst hsz
  have hD := hD0.self (sz := s.heap.size)
  generalize hAe : va_A (Wd g ad S) s.heap.size = A at hD hE ⊢
  have hA : ∀ q : Nat, s.heap.size ≤ q → A q := fun q h => by rw [← hAe]; exact Or.inr h
  have hR : Rep g ad A s S s.heap [] := ⟨hK, hP, hD, va_S.rf, hw⟩
  clear hK hP hD hD0
  have hl := lv_entry ([.int x0]) (n := 1) (Nat.le_of_ble_eq_true rfl)
  rw [lg_entry_eq]
  generalize (lg_sl ([.int x0]) ++ List.replicate (1 - (lg_sl ([.int x0])).length) Slot.unset).toArray = ls at hl ⊢
  have hl : lv_has ls 1 [(0, .int x0)] := hl
  obtain ⟨r0, hf⟩ : ∃ r0, f_isSwitch S x0 = r0 := ⟨_, rfl⟩
  have hf0 := hf
  unfold f_isSwitch at hf
  unfold d_isSwitch at hd
  refine lv_iload_n hx hb dX14_isSwitch_0 rfl (lv_at hl 0 rfl) ?_
  refine lv_sipush (v := 170) hx hb dX14_isSwitch_1 (by decide) ?_
  have J_14 : ∀ (H : Heap) (locs : List Loc) (ls : Array Slot), d_isSwitch_J14 S → f_isSwitch_J14 S = r0 → Rep g ad A s S H locs → lv_has ls 1 [] → W p l e (headSpec (wt2 yX14_isSwitch cX14_isSwitch 1 (some .boolean)) ({ frames := 0, cells := 0, slots := 0, locals := 0 })).room s m ([.int x0] : List Value).toArray below meth c H locs 0 0 (MQ below (va_Qi (fun (r : Int32) (_ : Unit) => r = f_isSwitch S x0 ∧ (r = 0 ∨ r = 1)) (fun (_ : Unit) (t : State) => qE g ad A S t) A) ([.int x0] : List Value).toArray s 0 0 A) (F0 m 14 ls []) := by
    intro H locs ls hd hf hR hl
    unfold d_isSwitch_J14 at hd
    unfold f_isSwitch_J14 at hf
    refine lv_iconst (v := 1) hx hb dX14_isSwitch_14 (by decide) ?_
    refine lv_goto (tgt := 19) hx hb dX14_isSwitch_15 (by decide) ?_
    exact W.zret (v := 1) hx hb hr (nz (Or.inr rfl)) (fun t9 ht9 hW9 => ⟨⟨_, (), rfl, ⟨hf.trans hf0.symm, (Or.inr rfl)⟩, ⟨by rw [ht9]; exact hR.P, hR.D⟩⟩, hR.sS.F ht9⟩) hR.sS.2.2 dX14_isSwitch_19
  refine lv_icmp_eq (tgt := 14) hx hb dX14_isSwitch_4 (by decide) (fun c1 => ?_) (fun c1 => ?_)
  · rw [if_pos (k_eq rfl (by decide) c1)] at hf
    (try rw [if_pos (k_eq rfl (by decide) c1)] at hd)
    exact J_14 _ _ ls hd hf  hR (lv_sub hl [] rfl)
  · rw [if_neg (k_ne rfl (by decide) c1)] at hf
    (try rw [if_neg (k_ne rfl (by decide) c1)] at hd)
    refine lv_iload_n hx hb dX14_isSwitch_7 rfl (lv_at hl 0 rfl) ?_
    refine lv_sipush (v := 171) hx hb dX14_isSwitch_8 (by decide) ?_
    refine lv_icmp_ne (tgt := 18) hx hb dX14_isSwitch_11 (by decide) (fun c2 => ?_) (fun c2 => ?_)
    · rw [if_neg (k_ne rfl (by decide) c2)] at hf
      (try rw [if_neg (k_ne rfl (by decide) c2)] at hd)
      refine lv_iconst (v := 0) hx hb dX14_isSwitch_18 (by decide) ?_
      exact W.zret (v := 0) hx hb hr (nz (Or.inl rfl)) (fun t9 ht9 hW9 => ⟨⟨_, (), rfl, ⟨hf.trans hf0.symm, (Or.inl rfl)⟩, ⟨by rw [ht9]; exact hR.P, hR.D⟩⟩, hR.sS.F ht9⟩) hR.sS.2.2 dX14_isSwitch_19
    · rw [if_pos (k_eq rfl (by decide) c2)] at hf
      (try rw [if_pos (k_eq rfl (by decide) c2)] at hd)
      exact J_14 _ _ ls hd hf  hR (lv_sub hl [] rfl)
def f_isJump_J28 (S : MS) : Int32 := (1 : Int32)
def d_isJump_J28 (S : MS) : Prop := True
def f_isJump_J14 (S : MS) (v14_0 : Int32) : Int32 := (if v14_0.toInt = 198 then f_isJump_J28 S else (if v14_0.toInt = 199 then f_isJump_J28 S else (0 : Int32)))
def d_isJump_J14 (S : MS) (v14_0 : Int32) : Prop := (if v14_0.toInt = 198 then d_isJump_J28 S else (if v14_0.toInt = 199 then d_isJump_J28 S else True))
def f_isJump (S : MS) (x0 : Int32) : Int32 := (if x0.toInt < 153 then f_isJump_J14 S x0 else (if x0.toInt ≤ 167 then f_isJump_J28 S else f_isJump_J14 S x0))
def d_isJump (S : MS) (x0 : Int32) : Prop := (if x0.toInt < 153 then d_isJump_J14 S x0 else (if x0.toInt ≤ 167 then d_isJump_J28 S else d_isJump_J14 S x0))
set_option maxHeartbeats 2000000 in
set_option maxRecDepth 100000 in
theorem r_isJump (l : Launch) (g : Gr) (ad : Nat → Nat) (sz : Nat) (S : MS) (x0 : Int32) (hw : wfM S) (hd : d_isJump S x0) : Met l yX14_isJump (wt2 yX14_isJump cX14_isJump 1 (some .boolean)) ({ frames := 0, cells := 0, slots := 0, locals := 0 }) (va_Pc [.int x0] (st_R g ad sz S)) (va_Qi (fun (r : Int32) (_ : Unit) => r = f_isJump S x0 ∧ (r = 0 ∨ r = 1)) (fun (_ : Unit) (t : State) => qE g ad (va_A (Wd g ad S) sz) S t) (va_A (Wd g ad S) sz)) 0 0 (va_A (Wd g ad S) sz) := by
  refine Met.ofW (cc := cX14_isJump) (maxL := 1) (ret := (some .boolean)) (by decide) rfl ?_
  intro p e s m args below meth c s₁ B hml hv
  obtain ⟨rfl, hsz, hP, hK, hD0, hex, hE⟩ := hv
  have hx := B.exec
  have hb := B.bytes
  have hr := B.returns
  have hts0 := atoms_spec (ws := wt2 yX14_isJump cX14_isJump 1 (some .boolean)) B.pre
  have hts : ∀ w ∈ tb2, w.before _ s = true := fun w h => hts0 w (List.mem_cons_of_mem _ h)
  have hown : s.vm.findClass RX14 = some m.cls := findClass_of_methodNamed B.named
  subst hsz
  have hD := hD0.self (sz := s.heap.size)
  generalize hAe : va_A (Wd g ad S) s.heap.size = A at hD hE ⊢
  have hA : ∀ q : Nat, s.heap.size ≤ q → A q := fun q h => by rw [← hAe]; exact Or.inr h
  have hR : Rep g ad A s S s.heap [] := ⟨hK, hP, hD, va_S.rf, hw⟩
  clear hK hP hD hD0
  have hl := lv_entry ([.int x0]) (n := 1) (Nat.le_of_ble_eq_true rfl)
  rw [lg_entry_eq]
  generalize (lg_sl ([.int x0]) ++ List.replicate (1 - (lg_sl ([.int x0])).length) Slot.unset).toArray = ls at hl ⊢
  have hl : lv_has ls 1 [(0, .int x0)] := hl
  obtain ⟨r0, hf⟩ : ∃ r0, f_isJump S x0 = r0 := ⟨_, rfl⟩
  have hf0 := hf
  unfold f_isJump at hf
  unfold d_isJump at hd
  refine lv_iload_n hx hb dX14_isJump_0 rfl (lv_at hl 0 rfl) ?_
  refine lv_sipush (v := 153) hx hb dX14_isJump_1 (by decide) ?_
  have J_28 : ∀ (H : Heap) (locs : List Loc) (ls : Array Slot), d_isJump_J28 S → f_isJump_J28 S = r0 → Rep g ad A s S H locs → lv_has ls 1 [] → W p l e (headSpec (wt2 yX14_isJump cX14_isJump 1 (some .boolean)) ({ frames := 0, cells := 0, slots := 0, locals := 0 })).room s m ([.int x0] : List Value).toArray below meth c H locs 0 0 (MQ below (va_Qi (fun (r : Int32) (_ : Unit) => r = f_isJump S x0 ∧ (r = 0 ∨ r = 1)) (fun (_ : Unit) (t : State) => qE g ad A S t) A) ([.int x0] : List Value).toArray s 0 0 A) (F0 m 28 ls []) := by
    intro H locs ls hd hf hR hl
    unfold d_isJump_J28 at hd
    unfold f_isJump_J28 at hf
    refine lv_iconst (v := 1) hx hb dX14_isJump_28 (by decide) ?_
    refine lv_goto (tgt := 33) hx hb dX14_isJump_29 (by decide) ?_
    exact W.zret (v := 1) hx hb hr (nz (Or.inr rfl)) (fun t9 ht9 hW9 => ⟨⟨_, (), rfl, ⟨hf.trans hf0.symm, (Or.inr rfl)⟩, ⟨by rw [ht9]; exact hR.P, hR.D⟩⟩, hR.sS.F ht9⟩) hR.sS.2.2 dX14_isJump_33
  have J_14 : ∀ (v14_0 : Int32) (H : Heap) (locs : List Loc) (ls : Array Slot), d_isJump_J14 S v14_0 → f_isJump_J14 S v14_0 = r0 → Rep g ad A s S H locs → lv_has ls 1 [(0, .int v14_0)] → W p l e (headSpec (wt2 yX14_isJump cX14_isJump 1 (some .boolean)) ({ frames := 0, cells := 0, slots := 0, locals := 0 })).room s m ([.int x0] : List Value).toArray below meth c H locs 0 0 (MQ below (va_Qi (fun (r : Int32) (_ : Unit) => r = f_isJump S x0 ∧ (r = 0 ∨ r = 1)) (fun (_ : Unit) (t : State) => qE g ad A S t) A) ([.int x0] : List Value).toArray s 0 0 A) (F0 m 14 ls []) := by
    intro v14_0 H locs ls hd hf hR hl
    unfold d_isJump_J14 at hd
    unfold f_isJump_J14 at hf
    refine lv_iload_n hx hb dX14_isJump_14 rfl (lv_at hl 0 rfl) ?_
    refine lv_sipush (v := 198) hx hb dX14_isJump_15 (by decide) ?_
    refine lv_icmp_eq (tgt := 28) hx hb dX14_isJump_18 (by decide) (fun c1 => ?_) (fun c1 => ?_)
    · rw [if_pos (k_eq rfl (by decide) c1)] at hf
      (try rw [if_pos (k_eq rfl (by decide) c1)] at hd)
      exact J_28 _ _ ls hd hf  hR (lv_sub hl [] rfl)
    · rw [if_neg (k_ne rfl (by decide) c1)] at hf
      (try rw [if_neg (k_ne rfl (by decide) c1)] at hd)
      refine lv_iload_n hx hb dX14_isJump_21 rfl (lv_at hl 0 rfl) ?_
      refine lv_sipush (v := 199) hx hb dX14_isJump_22 (by decide) ?_
      refine lv_icmp_ne (tgt := 32) hx hb dX14_isJump_25 (by decide) (fun c2 => ?_) (fun c2 => ?_)
      · rw [if_neg (k_ne rfl (by decide) c2)] at hf
        (try rw [if_neg (k_ne rfl (by decide) c2)] at hd)
        refine lv_iconst (v := 0) hx hb dX14_isJump_32 (by decide) ?_
        exact W.zret (v := 0) hx hb hr (nz (Or.inl rfl)) (fun t9 ht9 hW9 => ⟨⟨_, (), rfl, ⟨hf.trans hf0.symm, (Or.inl rfl)⟩, ⟨by rw [ht9]; exact hR.P, hR.D⟩⟩, hR.sS.F ht9⟩) hR.sS.2.2 dX14_isJump_33
      · rw [if_pos (k_eq rfl (by decide) c2)] at hf
        (try rw [if_pos (k_eq rfl (by decide) c2)] at hd)
        exact J_28 _ _ ls hd hf  hR (lv_sub hl [] rfl)
  refine lv_icmp_lt (tgt := 14) hx hb dX14_isJump_4 (by decide) (fun c3 => ?_) (fun c3 => ?_)
  · rw [if_pos (k_lt rfl (by decide) c3)] at hf
    (try rw [if_pos (k_lt rfl (by decide) c3)] at hd)
    exact J_14 x0 _ _ ls hd hf  hR (lv_sub hl [0] rfl)
  · rw [if_neg (k_nlt rfl (by decide) c3)] at hf
    (try rw [if_neg (k_nlt rfl (by decide) c3)] at hd)
    refine lv_iload_n hx hb dX14_isJump_7 rfl (lv_at hl 0 rfl) ?_
    refine lv_sipush (v := 167) hx hb dX14_isJump_8 (by decide) ?_
    refine lv_icmp_le (tgt := 28) hx hb dX14_isJump_11 (by decide) (fun c4 => ?_) (fun c4 => ?_)
    · rw [if_pos (k_le rfl (by decide) c4)] at hf
      (try rw [if_pos (k_le rfl (by decide) c4)] at hd)
      exact J_28 _ _ ls hd hf  hR (lv_sub hl [] rfl)
    · rw [if_neg (k_nle rfl (by decide) c4)] at hf
      (try rw [if_neg (k_nle rfl (by decide) c4)] at hd)
      exact J_14 x0 _ _ ls hd hf  hR (lv_sub hl [0] rfl)
