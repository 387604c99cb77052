def w_improve_L88 (Q : Int32 → MS → Prop) : Nat → MS → Int32 → Nat → Int32 → Prop
  | 0, _, _, _, _ => False
  | n88 + 1, U88, v88_2, v88_3, v88_4 => (((qI U88 v88_3 4).toInt ≤ v88_4.toInt → (∃ Q20, w_keptDraft U88 Q20 ∧ ∀ r21 S22, Q20 r21 S22 → Q r21 S22)) ∧ (¬ (qI U88 v88_3 4).toInt ≤ v88_4.toInt → (∃ Q25, w_takeMethod U88 v88_3 v88_4 Q25 ∧ ∀ S26, Q25 S26 → (∃ Q28, w_rounds S26 v88_2 Q28 ∧ ∀ S29, Q28 S29 → (∃ Q31, w_mark S29 Q31 ∧ ∀ S32, Q31 S32 → (∃ Q34, w_putMethod S32 v88_4 (-1 : Int32) Q34 ∧ ∀ S35, Q34 S35 → (∀ a37 : Int32, a37 = (v88_4 + Int32.ofInt 1) → (w_improve_L88 Q n88) S35 v88_2 v88_3 a37)))))))
def w_improve_L54 (Q : Int32 → MS → Prop) : Nat → MS → Int32 → Int32 → Int32 → Prop
  | 0, _, _, _, _ => False
  | n54 + 1, U54, v54_1, v54_2, v54_3 => ((11 < v54_3.toInt → (((0 : Int) ≤ v54_1.toInt ∧ v54_1.toInt < 12) ∧ ((qR U54 1 v54_1.toInt.toNat = some (qO U54 1 v54_1.toInt.toNat)) ∧ (∃ Q16, w_copyHead U54 (qO U54 1 v54_1.toInt.toNat) Q16 ∧ ∀ S17, Q16 S17 → (∃ n, w_improve_L88 Q n S17 v54_2 (qO U54 1 v54_1.toInt.toNat) 0))))) ∧ (¬ 11 < v54_3.toInt → (((0 : Int) ≤ v54_3.toInt ∧ v54_3.toInt < 12) ∧ (∀ S39, S39 = wI U54 77 v54_3.toInt.toNat (0 : Int32) → (∀ a40 : Int32, a40 = (v54_3 + Int32.ofInt 1) → (w_improve_L54 Q n54) S39 v54_1 v54_2 a40)))))
def w_improve (S : MS) (x1 : Int32) (x2 : Int32) (Q : Int32 → MS → Prop) : Prop := (∃ Q1, w_isRight S x1 Q1 ∧ ∀ r2 S3, Q1 r2 S3 → ((r2.toInt = 0 → Q (-1 : Int32) S3) ∧ (¬ r2.toInt = 0 → ((x2.toInt < 0 → Q (-1 : Int32) S3) ∧ (¬ x2.toInt < 0 → ((x2.toInt ≤ 2047 → (((qI S3 0 1).toInt = 12 → Q (-2 : Int32) S3) ∧ (¬ (qI S3 0 1).toInt = 12 → (((qI S3 0 2).toInt = 16 → Q (-2 : Int32) S3) ∧ (¬ (qI S3 0 2).toInt = 16 → (∀ S11, S11 = wI S3 0 2 ((qI S3 0 2) + (1 : Int32)) → (∃ n, w_improve_L54 Q n S11 x1 x2 0))))))) ∧ (¬ x2.toInt ≤ 2047 → Q (-1 : Int32) S3)))))))
set_option maxHeartbeats 2000000 in
set_option maxRecDepth 100000 in
theorem r_improve (l : Launch) (g : Gr) (ad : Nat → Nat) (H0 : Heap) (S : MS) (x1 : Int32) (x2 : Int32) (hw : wfM S) (Q : Int32 → MS → Prop) (h : w_improve S x1 x2 Q) : Met l yX14_improve (wt2 yX14_improve cX14_improve 5 (some .int)) ({ frames := 12, cells := KC - qn S, slots := KS - qu S, locals := 275 }) (va_Pc [.ref (ad 0), .int x1, .int x2] (st_RH g ad H0 S)) (va_Qi (fun (r : Int32) (u : MS × (Nat → Nat)) => Q r u.1 ∧ wfM u.1 ∧ shx S u.1 ∧ adk ad u.2 S) (fun (u : MS × (Nat → Nat)) (t : State) => qEH g (va_A (Wd g ad S) H0.size) S H0 u t) (va_A (Wd g ad S) H0.size)) (KC - qn S) (KS - qu S) (va_A (Wd g ad S) H0.size) := by
  refine Met.ofW (cc := cX14_improve) (maxL := 5) (ret := (some .int)) (by decide) rfl ?_
  intro p e s m args below meth c s₁ B hml hv
  obtain ⟨rfl, hH0, hsz, hP, hK, hD0, hex, hE⟩ := hv
  have hx := B.exec
  have hb := B.bytes
  have hr := B.returns
  have hts0 := atoms_spec (ws := wt2 yX14_improve cX14_improve 5 (some .int)) B.pre
  have hts : ∀ w ∈ tb2, w.before _ s = true := fun w h => hts0 w (List.mem_cons_of_mem _ h)
  have hown : s.vm.findClass RX14 = some m.cls := findClass_of_methodNamed B.named
  subst hH0
  have hD := hD0.self (sz := s.heap.size)
  generalize hAe : va_A (Wd g ad S) s.heap.size = A at hD hE ⊢
  have hA : ∀ q : Nat, s.heap.size ≤ q → A q := fun q h => by rw [← hAe]; exact Or.inr h
  have hR : Rep g ad A s S s.heap [] := ⟨hK, hP, hD, va_S.rf, hw⟩
  clear hK hP hD hD0
  have hl := lv_entry ([.ref (ad 0), .int x1, .int x2]) (n := 5) (Nat.le_of_ble_eq_true rfl)
  rw [lg_entry_eq]
  generalize (lg_sl ([.ref (ad 0), .int x1, .int x2]) ++ List.replicate (5 - (lg_sl ([.ref (ad 0), .int x1, .int x2])).length) Slot.unset).toArray = ls at hl ⊢
  have hlg : lg S S 0 0 := lg.rf
  have hak : adk ad ad S := adk.rf
  have hl : lv_has ls 5 [(0, .ref (ad 0)), (1, .int x1), (2, .int x2)] := hl
  have hsh : shx S S := shx.rf
  unfold w_improve at h
  refine lv_aload_n hx hb dX14_improve_0 rfl (lv_at hl 0 rfl) ?_
  refine lv_iload_n hx hb dX14_improve_1 rfl (lv_at hl 1 rfl) ?_
  obtain ⟨Q1, h0, h⟩ := h
  have hFc := rfree hR hA
  refine va_calli (va_runV (As := [.int x1]) (rest := []) ⟨hx, hb, hml, hown, hts⟩ (r_isRight l g ad s.heap.size S x1 hR.w  Q1 h0) (cwV 1 hts (gd2_V kx_523 kx_524 kx_525 kx_177 kx_526) rfl rfl rfl (by decide +kernel) ⟨Nat.le_of_ble_eq_true rfl, Nat.le_of_ble_eq_true rfl⟩) ⟨rblind, va_recv hR.K hR.P (ci := 13) (q0 := 0) rfl (hR.at14 hR.w.1), fun U hU hW9 => rmk hU hW9 hR hex hE hFc⟩ rfl rfl hl.1 rfl (lv_room (Nat.le_of_ble_eq_true rfl)) dX14_improve_2 ⟨(show 0 + 0 ≤ KC - qn S from hlg.c), (show 0 + 0 ≤ KS - qu S from hlg.s)⟩) hR.sS (fun q _ h => hFc q h) hFc (fun r2 S3 t9 H1 locs ht9 hvm9 hw9 hB9 hz9 hk9 hS => ?_)
  obtain ⟨hq4, hw9, hs9, hz_r2⟩ := hw9
  have hR : Rep g ad A s S3 H1 locs := hR.call ht9 hB9 hw9 hS hFc
  have hsh := hsh.tr hs9.1
  have hlg : lg S S3 (0) (0) := hlg.same hs9
  replace h := h r2 S3 hq4
  clear hB9 hz9 hk9 hvm9 ht9 hw9 hs9 hS
  generalize H1 = H at hR ⊢
  refine lv_if_eq (tgt := 19) hx hb dX14_improve_5 (by decide) (fun c5 => ?_) (fun c5 => ?_)
  · replace h := h.1 (k_eq rfl (by decide) c5)
    refine lv_iconst (v := (-1)) hx hb dX14_improve_19 (by decide) ?_
    refine W_led2 (fun hLd => ?_)
    refine W.widen (k := KC - qn S) (n := KS - qu S) hlg.c hlg.s ?_
    exact W.iret (v := (-1)) hx hb hr (fun t9 ht9 hW9 => ⟨⟨_, (S3, ad), rfl, ⟨h, hR.w, hsh, hak⟩, ⟨⟨by rw [ht9]; exact hR.P, hR.D⟩, _, _, by rw [ht9]; exact hLd, hlg⟩⟩, hR.sS.F ht9⟩) hR.sS.2.2 dX14_improve_20
  · replace h := h.2 (k_ne rfl (by decide) c5)
    refine lv_iload_n hx hb dX14_improve_8 rfl (lv_at hl 2 rfl) ?_
    refine lv_if_lt (tgt := 19) hx hb dX14_improve_9 (by decide) (fun c6 => ?_) (fun c6 => ?_)
    · replace h := h.1 (k_lt rfl (by decide) c6)
      refine lv_iconst (v := (-1)) hx hb dX14_improve_19 (by decide) ?_
      refine W_led2 (fun hLd => ?_)
      refine W.widen (k := KC - qn S) (n := KS - qu S) hlg.c hlg.s ?_
      exact W.iret (v := (-1)) hx hb hr (fun t9 ht9 hW9 => ⟨⟨_, (S3, ad), rfl, ⟨h, hR.w, hsh, hak⟩, ⟨⟨by rw [ht9]; exact hR.P, hR.D⟩, _, _, by rw [ht9]; exact hLd, hlg⟩⟩, hR.sS.F ht9⟩) hR.sS.2.2 dX14_improve_20
    · replace h := h.2 (k_nlt rfl (by decide) c6)
      refine lv_iload_n hx hb dX14_improve_12 rfl (lv_at hl 2 rfl) ?_
      refine lv_sipush (v := 2047) hx hb dX14_improve_13 (by decide) ?_
      refine lv_icmp_le (tgt := 21) hx hb dX14_improve_16 (by decide) (fun c7 => ?_) (fun c7 => ?_)
      · replace h := h.1 (k_le rfl (by decide) c7)
        refine lv_aload_n hx hb dX14_improve_21 rfl (lv_at hl 0 rfl) ?_
        refine va_get (D := rD g) (ci := 13) (v := .int (qI S3 0 1)) (C := RX14) (T := TX14) (N := 143) hx hb hts in2X14 hown hR.K hR.P 0 (hR.at14 hR.w.1) rfl 1 (by decide) (hts _ kx_348) (fun _ h9 => h9) rfl dX14_improve_22 ?_
        refine lv_bipush (v := 12) hx hb dX14_improve_25 (by decide) ?_
        refine lv_icmp_eq (tgt := 39) hx hb dX14_improve_27 (by decide) (fun c8 => ?_) (fun c8 => ?_)
        · replace h := h.1 (k_eq rfl (by decide) c8)
          refine lv_bipush (v := (-2)) hx hb dX14_improve_39 (by decide) ?_
          refine W_led2 (fun hLd => ?_)
          refine W.widen (k := KC - qn S) (n := KS - qu S) hlg.c hlg.s ?_
          exact W.iret (v := (-2)) hx hb hr (fun t9 ht9 hW9 => ⟨⟨_, (S3, ad), rfl, ⟨h, hR.w, hsh, hak⟩, ⟨⟨by rw [ht9]; exact hR.P, hR.D⟩, _, _, by rw [ht9]; exact hLd, hlg⟩⟩, hR.sS.F ht9⟩) hR.sS.2.2 dX14_improve_41
        · replace h := h.2 (k_ne rfl (by decide) c8)
          refine lv_aload_n hx hb dX14_improve_30 rfl (lv_at hl 0 rfl) ?_
          refine va_get (D := rD g) (ci := 13) (v := .int (qI S3 0 2)) (C := RX14) (T := TX14) (N := 143) hx hb hts in2X14 hown hR.K hR.P 0 (hR.at14 hR.w.1) rfl 2 (by decide) (hts _ kx_821) (fun _ h9 => h9) rfl dX14_improve_31 ?_
          refine lv_bipush (v := 16) hx hb dX14_improve_34 (by decide) ?_
          refine lv_icmp_ne (tgt := 42) hx hb dX14_improve_36 (by decide) (fun c9 => ?_) (fun c9 => ?_)
          · replace h := h.2 (k_ne rfl (by decide) c9)
            refine lv_aload_n hx hb dX14_improve_42 rfl (lv_at hl 0 rfl) ?_
            refine lv_dup hx hb dX14_improve_43 rfl ?_
            refine va_get (D := rD g) (ci := 13) (v := .int (qI S3 0 2)) (C := RX14) (T := TX14) (N := 143) hx hb hts in2X14 hown hR.K hR.P 0 (hR.at14 hR.w.1) rfl 2 (by decide) (hts _ kx_821) (fun _ h9 => h9) rfl dX14_improve_44 ?_
            refine lv_iconst (v := 1) hx hb dX14_improve_47 (by decide) ?_
            refine lv_iadd hx hb dX14_improve_48 ?_
            refine lv_topi (fun z10 ez10 => ?_)
            obtain rfl : z10 = ((qI S3 0 2) + (1 : Int32)) := ez10
            refine va_put (D := rD g) (ci := 13) (v := .int ((qI S3 0 2) + (1 : Int32))) (ty := .int) (C := RX14) (T := TX14) (N := 143) hx hb hts in2X14 tyX14 tyX14_ok nmX14 hown hR.K hR.P hR.D hR.sS 0 (hR.at14 hR.w.1) rfl 2 (by decide) (hts _ kx_821) (fun _ h9 => h9) rfl (by decide +kernel) rfl rfl (Nat.le_of_ble_eq_true rfl) dX14_improve_49 (fun H locs hP hD hS => ?_)
            have hR : Rep g ad A s (wI S3 0 2 ((qI S3 0 2) + (1 : Int32))) H locs := hR.pI hR.w.1 F14_s2 hP hD hS
            obtain ⟨S11, eS11⟩ : ∃ z, z = wI S3 0 2 ((qI S3 0 2) + (1 : Int32)) := ⟨_, rfl⟩
            rw [← eS11] at hR
            replace h := h S11 eS11
            have hsh : shx S S11 := by rw [eS11]; exact hsh
            have hlg : lg S S11 (0) (0) := by rw [eS11]; exact hlg
            refine lv_iconst (v := 0) hx hb dX14_improve_52 (by decide) ?_
            refine lv_istore_n (lv' := [(3, .int 0), (0, .ref (ad 0)), (1, .int x1), (2, .int x2)]) hx hb dX14_improve_53 rfl hl (by decide) rfl (fun ls hl => ?_)
            have J_54 : ∀ (n54 : Nat) (ad54 : Nat → Nat) (dc54 ds54 : Nat) (U54 : MS) (v54_1 : Int32) (v54_2 : Int32) (v54_3 : Int32) (H : Heap) (locs : List Loc) (ls : Array Slot), w_improve_L54 Q n54 U54 v54_1 v54_2 v54_3 → shx S U54 → lg S U54 dc54 ds54 → adk ad ad54 S → ogR ad54 A s s.heap → Rep g ad54 A s U54 H locs → lv_has ls 5 [(0, .ref (ad54 0)), (1, .int v54_1), (2, .int v54_2), (3, .int v54_3)] → W p l e (headSpec (wt2 yX14_improve cX14_improve 5 (some .int)) ({ frames := 12, cells := KC - qn S, slots := KS - qu S, locals := 275 })).room s m ([.ref (ad 0), .int x1, .int x2] : List Value).toArray below meth c H locs dc54 ds54 (MQ below (va_Qi (fun (r : Int32) (u : MS × (Nat → Nat)) => Q r u.1 ∧ wfM u.1 ∧ shx S u.1 ∧ adk ad u.2 S) (fun (u : MS × (Nat → Nat)) (t : State) => qEH g A S s.heap u t) A) ([.ref (ad 0), .int x1, .int x2] : List Value).toArray s (KC - qn S) (KS - qu S) A) (F0 m 54 ls []) := by
              intro n54
              induction n54 with
              | zero => intro ad54 dc54 ds54 U54 v54_1 v54_2 v54_3 H locs ls h hsh hlg hak hE hR hl; unfold w_improve_L54 at h; exact h.elim
              | succ n54 ih_54 =>
                intro ad54 dc54 ds54 U54 v54_1 v54_2 v54_3 H locs ls h hsh hlg hak hE hR hl
                unfold w_improve_L54 at h
                refine lv_iload_n hx hb dX14_improve_54 rfl (lv_at hl 3 rfl) ?_
                refine lv_bipush (v := 11) hx hb dX14_improve_55 (by decide) ?_
                refine lv_icmp_gt (tgt := 73) hx hb dX14_improve_57 (by decide) (fun c12 => ?_) (fun c12 => ?_)
                · replace h := h.1 (k_lt (by decide) rfl c12)
                  refine lv_aload_n hx hb dX14_improve_73 rfl (lv_at hl 0 rfl) ?_
                  refine va_get (D := rD g) (ci := 13) (v := .ref (ad54 1)) (C := RX14) (T := TX14) (N := 143) hx hb hts in2X14 hown hR.K hR.P 0 (hR.at14 hR.w.1) rfl 0 (by decide) (hts _ kx_347) (fun _ h9 => h9) (congrArg (fun z => some (vf ad54 z)) (hR.w.2.1 _ fin_0).1) dX14_improve_74 ?_
                  refine lv_iload_n hx hb dX14_improve_77 rfl (lv_at hl 1 rfl) ?_
                  obtain ⟨hv13, h⟩ := h
                  refine va_aldq hx hb hR.K hR.P 1 5 (hR.atF (hR.w.2.1 _ fin_0).2.1) rfl (k_ixN (k_ix (n := 12) (x := v54_1) (a := v54_1.toInt) rfl hv13) (hR.w.2.1 _ fin_0).2.2) dX14_improve_78 ?_
                  obtain ⟨hv14, h⟩ := h
                  have hT_b15 : qT U54 (qO U54 1 v54_1.toInt.toNat) = 11 := hR.w.ref hv14 (hR.w.2.1 _ fin_0).2.1
                  rw [show va_rf (Option.map ad54 (qR U54 1 (v54_1 : Int32).toNatClampNeg)) = .ref (ad54 (qO U54 1 v54_1.toInt.toNat)) from congrArg (fun z => vf ad54 z) hv14]
                  refine lv_astore_n (lv' := [(3, .ref (ad54 (qO U54 1 v54_1.toInt.toNat))), (0, .ref (ad54 0)), (1, .int v54_1), (2, .int v54_2)]) hx hb dX14_improve_79 rfl hl (by decide) rfl (fun ls hl => ?_)
                  refine lv_aload_n hx hb dX14_improve_80 rfl (lv_at hl 1 rfl) ?_
                  refine lv_aload_n hx hb dX14_improve_81 rfl (lv_at hl 0 rfl) ?_
                  obtain ⟨Q16, h0, h⟩ := h
                  have hFc := rfree hR hA
                  refine va_callv (va_runV (As := [.ref (ad54 (qO U54 1 v54_1.toInt.toNat))]) (rest := []) ⟨hx, hb, hml, hown, hts⟩ (r_copyHead l g ad54 H.size U54 (qO U54 1 v54_1.toInt.toNat) hR.w hT_b15 Q16 h0) (cwV 1 hts (gd2_V kx_822 kx_823 kx_824 kx_177 kx_825) rfl rfl rfl (by decide +kernel) ⟨Nat.le_of_ble_eq_true rfl, Nat.le_of_ble_eq_true rfl⟩) ⟨rblind, va_recv hR.K hR.P (ci := 13) (q0 := 0) rfl (hR.at14 hR.w.1), fun U hU hW9 => rmk hU hW9 hR hex hE hFc⟩ rfl rfl hl.1 rfl (lv_room (Nat.le_of_ble_eq_true rfl)) dX14_improve_82 ⟨(show dc54 + 0 ≤ KC - qn S from hlg.c), (show ds54 + 0 ≤ KS - qu S from hlg.s)⟩) hR.sS (fun q _ h => hFc q h) hFc (fun  S17 t9 H1 locs ht9 hvm9 hw9 hB9 hz9 hk9 hS => ?_)
                  obtain ⟨hq18, hw9, hs9⟩ := hw9
                  have hR : Rep g ad54 A s S17 H1 locs := hR.call ht9 hB9 hw9 hS hFc
                  have hsh := hsh.tr hs9.1
                  have hlg : lg S S17 (dc54) (ds54) := hlg.same hs9
                  replace h := h  S17 hq18
                  have hT_b15 := hs9.T hT_b15 (by decide)
                  clear hB9 hz9 hk9 hvm9 ht9 hw9 hs9 hS
                  generalize H1 = H at hR ⊢
                  refine lv_iconst (v := 0) hx hb dX14_improve_85 (by decide) ?_
                  refine lv_istore (lv' := [(4, .int 0), (3, .ref (ad54 (qO U54 1 v54_1.toInt.toNat))), (0, .ref (ad54 0)), (1, .int v54_1), (2, .int v54_2)]) hx hb dX14_improve_86 hl (by decide) rfl (fun ls hl => ?_)
                  have J_88 : ∀ (n88 : Nat) (ad88 : Nat → Nat) (dc88 ds88 : Nat) (U88 : MS) (v88_2 : Int32) (v88_3 : Nat) (v88_4 : Int32) (H : Heap) (locs : List Loc) (ls : Array Slot), w_improve_L88 Q n88 U88 v88_2 v88_3 v88_4 → qT U88 v88_3 = 11 → shx S U88 → lg S U88 dc88 ds88 → adk ad ad88 S → ogR ad88 A s s.heap → Rep g ad88 A s U88 H locs → lv_has ls 5 [(0, .ref (ad88 0)), (2, .int v88_2), (3, .ref (ad88 v88_3)), (4, .int v88_4)] → W p l e (headSpec (wt2 yX14_improve cX14_improve 5 (some .int)) ({ frames := 12, cells := KC - qn S, slots := KS - qu S, locals := 275 })).room s m ([.ref (ad 0), .int x1, .int x2] : List Value).toArray below meth c H locs dc88 ds88 (MQ below (va_Qi (fun (r : Int32) (u : MS × (Nat → Nat)) => Q r u.1 ∧ wfM u.1 ∧ shx S u.1 ∧ adk ad u.2 S) (fun (u : MS × (Nat → Nat)) (t : State) => qEH g A S s.heap u t) A) ([.ref (ad 0), .int x1, .int x2] : List Value).toArray s (KC - qn S) (KS - qu S) A) (F0 m 88 ls []) := by
                    intro n88
                    induction n88 with
                    | zero => intro ad88 dc88 ds88 U88 v88_2 v88_3 v88_4 H locs ls h hT_v88_3 hsh hlg hak hE hR hl; unfold w_improve_L88 at h; exact h.elim
                    | succ n88 ih_88 =>
                      intro ad88 dc88 ds88 U88 v88_2 v88_3 v88_4 H locs ls h hT_v88_3 hsh hlg hak hE hR hl
                      unfold w_improve_L88 at h
                      refine lv_iload hx hb dX14_improve_88 (lv_at hl 3 rfl) ?_
                      refine lv_aload_n hx hb dX14_improve_90 rfl (lv_at hl 2 rfl) ?_
                      refine va_get (D := rD g) (ci := 12) (v := .int (qI U88 v88_3 4)) (C := RX13) (T := TX13) (N := 23) hx hb hts in2X13 hown hR.K hR.P v88_3 (hR.at13 hT_v88_3) rfl 4 (by decide) (hts _ kx_353) (fun _ h9 => h9) rfl dX14_improve_91 ?_
                      refine lv_icmp_ge (tgt := 126) hx hb dX14_improve_94 (by decide) (fun c19 => ?_) (fun c19 => ?_)
                      · replace h := h.1 (k_le rfl rfl c19)
                        refine lv_aload_n hx hb dX14_improve_126 rfl (lv_at hl 0 rfl) ?_
                        obtain ⟨Q20, h0, h⟩ := h
                        have hFc := rfree hR hA
                        refine W_led2 (fun hL0 => ?_)
                        refine vx_calli (vx_runVX (As := []) (rest := []) ⟨hx, hb, hml, hown, hts⟩ (r_keptDraft l g ad88 H U88 hR.w  Q20 h0) (vx_cwVW (hh := [(0, 24, 25, 19)]) 0 hts (gd2_W kx_1145 kx_1146 kx_1147 kx_177 kx_1148) rfl rfl rfl (by decide +kernel) ⟨Nat.le_of_ble_eq_true rfl, Nat.le_of_ble_eq_true rfl⟩) ⟨rblindH, va_recv hR.K hR.P (ci := 13) (q0 := 0) rfl (hR.at14 hR.w.1), fun U hU hW9 => rmkH hU hW9 hR hex hE hFc⟩ rfl rfl hl.1 rfl (lv_room (Nat.le_of_ble_eq_true rfl)) dX14_improve_127 ⟨(show dc88 + (KC - qn U88) ≤ KC - qn S from hlg.cm), (show ds88 + (KS - qu U88) ≤ KS - qu S from hlg.sm)⟩) hR.sS (fun q _ h => hFc q h) hFc (fun q _ h => hFc q h) (fun E9 ce9 q9 u9 t9 H1 locs ht9 hvm9 hp9 hB9 hz9 hk9 hS hce9 hcv9 hcl9 => hp9.elim) (fun r21 S22 t9 H1 locs ht9 hvm9 hw9 hB9 hz9 hk9 hS => ?_)
                        rcases S22 with ⟨S22, ak24⟩
                        obtain ⟨hB9, dc9, ds9, hL9, hl9⟩ := hB9
                        dsimp only at hw9 hB9 hl9
                        rw [ht9] at hL9
                        obtain ⟨hq23, hw9, hs9, hk8⟩ := hw9
                        have hw8 := hR.w
                        have hak := hak.tr hk8 hlg.2.2.1
                        have hE := hE.ad hk8
                        have hR : Rep g ak24 A s S22 H1 locs := hR.callH ht9 hB9 hw9 hS hFc
                        have hsh := hsh.tr hs9
                        refine W_tight2 (hL0.tr hL9).1 (hL0.tr hL9).2.1 ?_
                        have hlg := hlg.call hl9
                        replace h := h r21 S22 hq23
                        have ea_0 : ak24 0 = ad88 0 := hk8 _ (hw8.hd hw8.1 (by decide) (by decide))
                        have ea_1 : ak24 v88_3 = ad88 v88_3 := hk8 _ (hw8.hd hT_v88_3 (by decide) (by decide))
                        have hl : lv_has ls 5 [(0, .ref (ak24 0)), (2, .int v88_2), (3, .ref (ak24 v88_3)), (4, .int v88_4)] := by simp only [ea_0, ea_1]; exact hl
                        have hT_v88_3 := hs9.T hT_v88_3 (by decide)
                        clear hB9 hz9 hk9 hvm9 ht9 hw9 hs9 hS hL0 hL9
                        generalize H1 = H at hR ⊢
                        generalize dc9 = dc_ak24, ds9 = ds_ak24 at hlg ⊢
                        refine W_led2 (fun hLd => ?_)
                        refine W.widen (k := KC - qn S) (n := KS - qu S) hlg.c hlg.s ?_
                        exact W.iret (v := r21) hx hb hr (fun t9 ht9 hW9 => ⟨⟨_, (S22, ak24), rfl, ⟨h, hR.w, hsh, hak⟩, ⟨⟨by rw [ht9]; exact hR.P, hR.D⟩, _, _, by rw [ht9]; exact hLd, hlg⟩⟩, hR.sS.F ht9⟩) hR.sS.2.2 dX14_improve_130
                      · replace h := h.2 (k_nle rfl rfl c19)
                        refine lv_aload_n hx hb dX14_improve_97 rfl (lv_at hl 0 rfl) ?_
                        refine lv_aload_n hx hb dX14_improve_98 rfl (lv_at hl 2 rfl) ?_
                        refine lv_iload hx hb dX14_improve_99 (lv_at hl 3 rfl) ?_
                        obtain ⟨Q25, h0, h⟩ := h
                        have hFc := rfree hR hA
                        refine va_callv (va_runV (As := [.ref (ad88 v88_3), .int v88_4]) (rest := []) ⟨hx, hb, hml, hown, hts⟩ (r_takeMethod l g ad88 H.size U88 v88_3 v88_4 hR.w hT_v88_3 Q25 h0) (cwV 2 hts (gd2_V kx_1149 kx_1150 kx_1151 kx_177 kx_1152) rfl rfl rfl (by decide +kernel) ⟨Nat.le_of_ble_eq_true rfl, Nat.le_of_ble_eq_true rfl⟩) ⟨rblind, va_recv hR.K hR.P (ci := 13) (q0 := 0) rfl (hR.at14 hR.w.1), fun U hU hW9 => rmk hU hW9 hR hex hE hFc⟩ rfl rfl hl.1 rfl (lv_room (Nat.le_of_ble_eq_true rfl)) dX14_improve_101 ⟨(show dc88 + 0 ≤ KC - qn S from hlg.c), (show ds88 + 0 ≤ KS - qu S from hlg.s)⟩) hR.sS (fun q _ h => hFc q h) hFc (fun  S26 t9 H1 locs ht9 hvm9 hw9 hB9 hz9 hk9 hS => ?_)
                        obtain ⟨hq27, hw9, hs9⟩ := hw9
                        have hR : Rep g ad88 A s S26 H1 locs := hR.call ht9 hB9 hw9 hS hFc
                        have hsh := hsh.tr hs9.1
                        have hlg : lg S S26 (dc88) (ds88) := hlg.same hs9
                        replace h := h  S26 hq27
                        have hT_v88_3 := hs9.T hT_v88_3 (by decide)
                        clear hB9 hz9 hk9 hvm9 ht9 hw9 hs9 hS
                        generalize H1 = H at hR ⊢
                        refine lv_aload_n hx hb dX14_improve_104 rfl (lv_at hl 0 rfl) ?_
                        refine lv_iload_n hx hb dX14_improve_105 rfl (lv_at hl 1 rfl) ?_
                        obtain ⟨Q28, h0, h⟩ := h
                        have hFc := rfree hR hA
                        refine va_callv (va_runV (As := [.int v88_2]) (rest := []) ⟨hx, hb, hml, hown, hts⟩ (r_rounds l g ad88 H.size S26 v88_2 hR.w  Q28 h0) (cwV 1 hts (gd2_V kx_1208 kx_1209 kx_1210 kx_177 kx_1211) rfl rfl rfl (by decide +kernel) ⟨Nat.le_of_ble_eq_true rfl, Nat.le_of_ble_eq_true rfl⟩) ⟨rblind, va_recv hR.K hR.P (ci := 13) (q0 := 0) rfl (hR.at14 hR.w.1), fun U hU hW9 => rmk hU hW9 hR hex hE hFc⟩ rfl rfl hl.1 rfl (lv_room (Nat.le_of_ble_eq_true rfl)) dX14_improve_106 ⟨(show dc88 + 0 ≤ KC - qn S from hlg.c), (show ds88 + 0 ≤ KS - qu S from hlg.s)⟩) hR.sS (fun q _ h => hFc q h) hFc (fun  S29 t9 H1 locs ht9 hvm9 hw9 hB9 hz9 hk9 hS => ?_)
                        obtain ⟨hq30, hw9, hs9⟩ := hw9
                        have hR : Rep g ad88 A s S29 H1 locs := hR.call ht9 hB9 hw9 hS hFc
                        have hsh := hsh.tr hs9.1
                        have hlg : lg S S29 (dc88) (ds88) := hlg.same hs9
                        replace h := h  S29 hq30
                        have hT_v88_3 := hs9.T hT_v88_3 (by decide)
                        clear hB9 hz9 hk9 hvm9 ht9 hw9 hs9 hS
                        generalize H1 = H at hR ⊢
                        refine lv_aload_n hx hb dX14_improve_109 rfl (lv_at hl 0 rfl) ?_
                        obtain ⟨Q31, h0, h⟩ := h
                        have hFc := rfree hR hA
                        refine va_callv (va_runV (As := []) (rest := []) ⟨hx, hb, hml, hown, hts⟩ (r_mark l g ad88 H.size S29 hR.w  Q31 h0) (cwV 0 hts (gd2_V kx_716 kx_717 kx_718 kx_177 kx_719) rfl rfl rfl (by decide +kernel) ⟨Nat.le_of_ble_eq_true rfl, Nat.le_of_ble_eq_true rfl⟩) ⟨rblind, va_recv hR.K hR.P (ci := 13) (q0 := 0) rfl (hR.at14 hR.w.1), fun U hU hW9 => rmk hU hW9 hR hex hE hFc⟩ rfl rfl hl.1 rfl (lv_room (Nat.le_of_ble_eq_true rfl)) dX14_improve_110 ⟨(show dc88 + 0 ≤ KC - qn S from hlg.c), (show ds88 + 0 ≤ KS - qu S from hlg.s)⟩) hR.sS (fun q _ h => hFc q h) hFc (fun  S32 t9 H1 locs ht9 hvm9 hw9 hB9 hz9 hk9 hS => ?_)
                        obtain ⟨hq33, hw9, hs9⟩ := hw9
                        have hR : Rep g ad88 A s S32 H1 locs := hR.call ht9 hB9 hw9 hS hFc
                        have hsh := hsh.tr hs9.1
                        have hlg : lg S S32 (dc88) (ds88) := hlg.same hs9
                        replace h := h  S32 hq33
                        have hT_v88_3 := hs9.T hT_v88_3 (by decide)
                        clear hB9 hz9 hk9 hvm9 ht9 hw9 hs9 hS
                        generalize H1 = H at hR ⊢
                        refine lv_aload_n hx hb dX14_improve_113 rfl (lv_at hl 0 rfl) ?_
                        refine lv_iload hx hb dX14_improve_114 (lv_at hl 3 rfl) ?_
                        refine lv_iconst (v := (-1)) hx hb dX14_improve_116 (by decide) ?_
                        obtain ⟨Q34, h0, h⟩ := h
                        have hFc := rfree hR hA
                        refine va_callv (va_runV (As := [.int v88_4, .int (-1)]) (rest := []) ⟨hx, hb, hml, hown, hts⟩ (r_putMethod l g ad88 H.size S32 v88_4 (-1 : Int32) hR.w  Q34 h0) (cwV 2 hts (gd2_V kx_1153 kx_1154 kx_1155 kx_177 kx_1156) rfl rfl rfl (by decide +kernel) ⟨Nat.le_of_ble_eq_true rfl, Nat.le_of_ble_eq_true rfl⟩) ⟨rblind, va_recv hR.K hR.P (ci := 13) (q0 := 0) rfl (hR.at14 hR.w.1), fun U hU hW9 => rmk hU hW9 hR hex hE hFc⟩ rfl rfl hl.1 rfl (lv_room (Nat.le_of_ble_eq_true rfl)) dX14_improve_117 ⟨(show dc88 + 0 ≤ KC - qn S from hlg.c), (show ds88 + 0 ≤ KS - qu S from hlg.s)⟩) hR.sS (fun q _ h => hFc q h) hFc (fun  S35 t9 H1 locs ht9 hvm9 hw9 hB9 hz9 hk9 hS => ?_)
                        obtain ⟨hq36, hw9, hs9⟩ := hw9
                        have hR : Rep g ad88 A s S35 H1 locs := hR.call ht9 hB9 hw9 hS hFc
                        have hsh := hsh.tr hs9.1
                        have hlg : lg S S35 (dc88) (ds88) := hlg.same hs9
                        replace h := h  S35 hq36
                        have hT_v88_3 := hs9.T hT_v88_3 (by decide)
                        clear hB9 hz9 hk9 hvm9 ht9 hw9 hs9 hS
                        generalize H1 = H at hR ⊢
                        obtain ⟨a37, ea37⟩ : ∃ z, z = (v88_4 + Int32.ofInt 1) := ⟨_, rfl⟩
                        replace h := h a37 ea37
                        refine lv_iinc (v := a37) (lv' := [(4, .int a37), (0, .ref (ad88 0)), (2, .int v88_2), (3, .ref (ad88 v88_3))]) hx hb dX14_improve_120 hl (k := 3) rfl ea37.symm (by decide) rfl (fun ls hl => ?_)
                        refine lv_goto (tgt := 88) hx hb dX14_improve_123 (by decide) ?_
                        exact ih_88 ad88 (dc88) (ds88) S35 v88_2 v88_3 a37 _ _ ls h hT_v88_3 hsh hlg hak hE hR (lv_sub hl [1, 2, 3, 0] rfl)
                  obtain ⟨n9, h⟩ := h
                  exact J_88 n9 ad54 (dc54) (ds54) S17 v54_2 (qO U54 1 v54_1.toInt.toNat) 0 _ _ ls h hT_b15 hsh hlg hak hE hR (lv_sub hl [2, 4, 1, 0] rfl)
                · replace h := h.2 (k_nlt (by decide) rfl c12)
                  refine lv_aload_n hx hb dX14_improve_60 rfl (lv_at hl 0 rfl) ?_
                  refine va_get (D := rD g) (ci := 13) (v := .ref (ad54 77)) (C := RX14) (T := TX14) (N := 143) hx hb hts in2X14 hown hR.K hR.P 0 (hR.at14 hR.w.1) rfl 124 (by decide) (hts _ kx_728) (fun _ h9 => h9) (congrArg (fun z => some (vf ad54 z)) (hR.w.2.1 _ fin_124).1) dX14_improve_61 ?_
                  refine lv_iload_n hx hb dX14_improve_64 rfl (lv_at hl 3 rfl) ?_
                  refine lv_iconst (v := 0) hx hb dX14_improve_65 (by decide) ?_
                  obtain ⟨hv38, h⟩ := h
                  refine va_iast hx hb hR.K hR.P hR.D hR.sS 77 1 (hR.atI (hR.w.2.1 _ fin_124).2.1) rfl (k_ixN (k_ix (n := 12) (x := v54_3) (a := v54_3.toInt) rfl hv38) (hR.w.2.1 _ fin_124).2.2) dX14_improve_66 (fun H locs hP hD hS => ?_)
                  have hR : Rep g ad54 A s (wI U54 77 v54_3.toInt.toNat (0 : Int32)) H locs := hR.aI (hR.w.2.1 _ fin_124).2.1 hP hD hS
                  obtain ⟨S39, eS39⟩ : ∃ z, z = wI U54 77 v54_3.toInt.toNat (0 : Int32) := ⟨_, rfl⟩
                  rw [← eS39] at hR
                  replace h := h S39 eS39
                  have hsh : shx S S39 := by rw [eS39]; exact hsh
                  have hlg : lg S S39 (dc54) (ds54) := by rw [eS39]; exact hlg
                  obtain ⟨a40, ea40⟩ : ∃ z, z = (v54_3 + Int32.ofInt 1) := ⟨_, rfl⟩
                  replace h := h a40 ea40
                  refine lv_iinc (v := a40) (lv' := [(3, .int a40), (0, .ref (ad54 0)), (1, .int v54_1), (2, .int v54_2)]) hx hb dX14_improve_67 hl (k := 3) rfl ea40.symm (by decide) rfl (fun ls hl => ?_)
                  refine lv_goto (tgt := 54) hx hb dX14_improve_70 (by decide) ?_
                  exact ih_54 ad54 (dc54) (ds54) S39 v54_1 v54_2 a40 _ _ ls h  hsh hlg hak hE hR (lv_sub hl [1, 2, 3, 0] rfl)
            obtain ⟨n9, h⟩ := h
            exact J_54 n9 ad (0) (0) S11 x1 x2 0 _ _ ls h  hsh hlg hak hE hR (lv_sub hl [1, 2, 3, 0] rfl)
          · replace h := h.1 (k_eq rfl (by decide) c9)
            refine lv_bipush (v := (-2)) hx hb dX14_improve_39 (by decide) ?_
            refine W_led2 (fun hLd => ?_)
            refine W.widen (k := KC - qn S) (n := KS - qu S) hlg.c hlg.s ?_
            exact W.iret (v := (-2)) hx hb hr (fun t9 ht9 hW9 => ⟨⟨_, (S3, ad), rfl, ⟨h, hR.w, hsh, hak⟩, ⟨⟨by rw [ht9]; exact hR.P, hR.D⟩, _, _, by rw [ht9]; exact hLd, hlg⟩⟩, hR.sS.F ht9⟩) hR.sS.2.2 dX14_improve_41
      · replace h := h.2 (k_nle rfl (by decide) c7)
        refine lv_iconst (v := (-1)) hx hb dX14_improve_19 (by decide) ?_
        refine W_led2 (fun hLd => ?_)
        refine W.widen (k := KC - qn S) (n := KS - qu S) hlg.c hlg.s ?_
        exact W.iret (v := (-1)) hx hb hr (fun t9 ht9 hW9 => ⟨⟨_, (S3, ad), rfl, ⟨h, hR.w, hsh, hak⟩, ⟨⟨by rw [ht9]; exact hR.P, hR.D⟩, _, _, by rw [ht9]; exact hLd, hlg⟩⟩, hR.sS.F ht9⟩) hR.sS.2.2 dX14_improve_20
def w_run_L308 (Q : Int32 → MS → Prop) : Nat → MS → Int32 → Prop
  | 0, _, _ => False
  | n308 + 1, U308, v308_2 => ((0 ≤ (qI U308 0 98).toInt → (((qI U308 0 98).toInt ≤ 0 → Q (qI U308 0 98) U308) ∧ (¬ (qI U308 0 98).toInt ≤ 0 → (∀ S31, S31 = wJ U308 0 101 0 → Q (qI S31 0 98) S31)))) ∧ (¬ 0 ≤ (qI U308 0 98).toInt → (((qI U308 0 100).toInt = v308_2.toInt → (∀ S38, S38 = wI U308 0 98 2 → (w_run_L308 Q n308) S38 v308_2)) ∧ (¬ (qI U308 0 100).toInt = v308_2.toInt → (∀ S34, S34 = wI U308 0 100 ((qI U308 0 100) + (1 : Int32)) → (∃ Q35, w_step S34 Q35 ∧ ∀ S36, Q35 S36 → (w_run_L308 Q n308) S36 v308_2))))))
def w_run_J299 (Q : Int32 → MS → Prop) (k165 : MS → Int32 → Int32 → Nat → Int32 → Int32 → Prop) (U299 : MS) (t299_0 : Int32) (t299_1 : Int32) (v299_2 : Int32) (v299_3 : Int32) (v299_4 : Nat) (v299_6 : Int32) : Prop := (∀ a53 : Int32, a53 = (t299_1 + t299_0) → (∀ a54 : Int32, a54 = (v299_6 + Int32.ofInt 1) → k165 U299 v299_2 v299_3 v299_4 a53 a54))
def w_run_J280 (Q : Int32 → MS → Prop) (k165 : MS → Int32 → Int32 → Nat → Int32 → Int32 → Prop) (U280 : MS) (v280_2 : Int32) (v280_3 : Int32) (v280_4 : Nat) (v280_5 : Int32) (v280_6 : Int32) : Prop := (((0 : Int) ≤ v280_6.toInt ∧ v280_6.toInt < (qN U280 (v280_4 + 1) : Int)) ∧ (((cAt U280 v280_4 v280_6).toInt = 74 → w_run_J299 Q k165 U280 2 v280_5 v280_2 v280_3 v280_4 v280_6) ∧ (¬ (cAt U280 v280_4 v280_6).toInt = 74 → w_run_J299 Q k165 U280 1 v280_5 v280_2 v280_3 v280_4 v280_6)))
def w_run_J257 (Q : Int32 → MS → Prop) (k165 : MS → Int32 → Int32 → Nat → Int32 → Int32 → Prop) (U257 : MS) (t257_0 : Int32) (t257_1 : Int32) (v257_2 : Int32) (v257_3 : Int32) (v257_4 : Nat) (v257_5 : Int32) (v257_6 : Int32) : Prop := (((0 : Int) ≤ t257_1.toInt ∧ t257_1.toInt < 1440) ∧ (∀ S47, S47 = wI U257 47 t257_1.toInt.toNat (vp_nar .byte t257_0) → (((0 : Int) ≤ v257_6.toInt ∧ v257_6.toInt < (qN S47 (v257_4 + 1) : Int)) ∧ (((cAt S47 v257_4 v257_6).toInt = 74 → (((0 : Int) ≤ (v257_5 + (1 : Int32)).toInt ∧ (v257_5 + (1 : Int32)).toInt < 1440) ∧ (∀ S59, S59 = wI S47 47 (((v257_5 + (1 : Int32)).toInt).toNat) (vp_nar .byte (3 : Int32)) → w_run_J280 Q k165 S59 v257_2 v257_3 v257_4 v257_5 v257_6))) ∧ (¬ (cAt S47 v257_4 v257_6).toInt = 74 → w_run_J280 Q k165 S47 v257_2 v257_3 v257_4 v257_5 v257_6)))))
def w_run_J208 (Q : Int32 → MS → Prop) (k165 : MS → Int32 → Int32 → Nat → Int32 → Int32 → Prop) (U208 : MS) (t208_0 : Int64) (t208_1 : Int32) (v208_2 : Int32) (v208_3 : Int32) (v208_4 : Nat) (v208_5 : Int32) (v208_6 : Int32) : Prop := (((0 : Int) ≤ t208_1.toInt ∧ t208_1.toInt < 1440) ∧ (∀ S43, S43 = wJ U208 45 t208_1.toInt.toNat t208_0 → (((0 : Int) ≤ v208_6.toInt ∧ v208_6.toInt < (qN S43 (v208_4 + 1) : Int)) ∧ (((cAt S43 v208_4 v208_6).toInt = 73 → w_run_J257 Q k165 S43 1 v208_5 v208_2 v208_3 v208_4 v208_5 v208_6) ∧ (¬ (cAt S43 v208_4 v208_6).toInt = 73 → (((0 : Int) ≤ v208_6.toInt ∧ v208_6.toInt < (qN S43 (v208_4 + 1) : Int)) ∧ (((cAt S43 v208_4 v208_6).toInt = 74 → w_run_J257 Q k165 S43 2 v208_5 v208_2 v208_3 v208_4 v208_5 v208_6) ∧ (¬ (cAt S43 v208_4 v208_6).toInt = 74 → (((0 : Int) ≤ v208_6.toInt ∧ v208_6.toInt < 8) ∧ (d_thingTag S43 (qJ S43 41 v208_6.toInt.toNat) ∧ w_run_J257 Q k165 S43 (f_thingTag S43 (qJ S43 41 v208_6.toInt.toNat)) v208_5 v208_2 v208_3 v208_4 v208_5 v208_6))))))))))
def w_run_L165 (Q : Int32 → MS → Prop) : Nat → MS → Int32 → Int32 → Nat → Int32 → Int32 → Prop
  | 0, _, _, _, _, _, _ => False
  | n165 + 1, U165, v165_2, v165_3, v165_4, v165_5, v165_6 => ((v165_3.toInt ≤ v165_6.toInt → (∃ n, w_run_L308 Q n U165 v165_2)) ∧ (¬ v165_3.toInt ≤ v165_6.toInt → (((0 : Int) ≤ v165_6.toInt ∧ v165_6.toInt < (qN U165 (v165_4 + 1) : Int)) ∧ (((cAt U165 v165_4 v165_6).toInt = 73 → (((0 : Int) ≤ v165_6.toInt ∧ v165_6.toInt < 8) ∧ w_run_J208 Q (w_run_L165 Q n165) U165 (((qJ U165 41 v165_6.toInt.toNat).toInt32).toInt64) v165_5 v165_2 v165_3 v165_4 v165_5 v165_6)) ∧ (¬ (cAt U165 v165_4 v165_6).toInt = 73 → (((0 : Int) ≤ v165_6.toInt ∧ v165_6.toInt < 8) ∧ w_run_J208 Q (w_run_L165 Q n165) U165 (qJ U165 41 v165_6.toInt.toNat) v165_5 v165_2 v165_3 v165_4 v165_5 v165_6))))))
def w_run_J109 (Q : Int32 → MS → Prop) (k60 : MS → Int32 → Int32 → Int32 → Nat → Int32 → Prop) (U109 : MS) (v109_1 : Int32) (v109_2 : Int32) (v109_3 : Int32) (v109_4 : Nat) (v109_5 : Int32) : Prop := (∀ a76 : Int32, a76 = (v109_5 + Int32.ofInt 1) → k60 U109 v109_1 v109_2 v109_3 v109_4 a76)
def w_run_L60 (Q : Int32 → MS → Prop) : Nat → MS → Int32 → Int32 → Int32 → Nat → Int32 → Prop
  | 0, _, _, _, _, _, _ => False
  | n60 + 1, U60, v60_1, v60_2, v60_3, v60_4, v60_5 => ((v60_3.toInt ≤ v60_5.toInt → ((v60_2.toInt < 0 → Q (-3 : Int32) U60) ∧ (¬ v60_2.toInt < 0 → ((v60_2.toInt ≤ 50000 → (∀ S21, S21 = wI U60 0 97 0 → (∀ S22, S22 = wI S21 0 98 (-1) → (∀ S23, S23 = wI S22 0 102 (-1) → (∀ S24, S24 = wJ S23 0 101 0 → (∀ S25, S25 = wI S24 0 100 0 → (∃ Q26, w_enter S25 v60_1 Q26 ∧ ∀ S27, Q26 S27 → (∃ n, w_run_L165 Q n S27 v60_2 v60_3 v60_4 0 0)))))))) ∧ (¬ v60_2.toInt ≤ 50000 → Q (-3 : Int32) U60))))) ∧ (¬ v60_3.toInt ≤ v60_5.toInt → (((0 : Int) ≤ v60_5.toInt ∧ v60_5.toInt < (qN U60 (v60_4 + 1) : Int)) ∧ (((cAt U60 v60_4 v60_5).toInt = 65 → (((0 : Int) ≤ v60_5.toInt ∧ v60_5.toInt < 8) ∧ (((lg_cmp (qJ U60 41 v60_5.toInt.toNat) 0).toInt < 0 → Q (-2 : Int32) U60) ∧ (¬ (lg_cmp (qJ U60 41 v60_5.toInt.toNat) 0).toInt < 0 → (((0 : Int) ≤ v60_5.toInt ∧ v60_5.toInt < 8) ∧ (((lg_cmp (qJ U60 41 v60_5.toInt.toNat) ((qI U60 0 85).toInt64)).toInt ≤ 0 → w_run_J109 Q (w_run_L60 Q n60) U60 v60_1 v60_2 v60_3 v60_4 v60_5) ∧ (¬ (lg_cmp (qJ U60 41 v60_5.toInt.toNat) ((qI U60 0 85).toInt64)).toInt ≤ 0 → Q (-2 : Int32) U60))))))) ∧ (¬ (cAt U60 v60_4 v60_5).toInt = 65 → w_run_J109 Q (w_run_L60 Q n60) U60 v60_1 v60_2 v60_3 v60_4 v60_5)))))
def w_run (S : MS) (x1 : Int32) (x2 : Int32) (Q : Int32 → MS → Prop) : Prop := (∀ a1 : Int32, a1 = (qI S 0 88) → (∀ S2, S2 = wI S 0 88 0 → (((qR S2 0 80) = none → Q (-1 : Int32) S2) ∧ (¬ (qR S2 0 80) = none → ((x1.toInt < 0 → Q (-1 : Int32) S2) ∧ (¬ x1.toInt < 0 → ((qR S2 0 80 = some (qO S2 0 80)) ∧ ((x1.toInt < (qI S2 (qO S2 0 80) 4).toInt → ((qR S2 0 80 = some (qO S2 0 80)) ∧ ((qR S2 (qO S2 0 80) 10 = some (qO S2 (qO S2 0 80) 10)) ∧ (((0 : Int) ≤ x1.toInt ∧ x1.toInt < (qN S2 (qO S2 (qO S2 0 80) 10) : Int)) ∧ ((qR S2 (qO S2 (qO S2 0 80) 10) x1.toInt.toNat = some (qO S2 (qO S2 (qO S2 0 80) 10) x1.toInt.toNat)) ∧ ((a1.toInt = (Int32.ofNat (qN S2 ((qO S2 (qO S2 (qO S2 0 80) 10) x1.toInt.toNat) + 1))).toInt → (∃ n, w_run_L60 Q n S2 x1 x2 a1 (qO S2 (qO S2 (qO S2 0 80) 10) x1.toInt.toNat) 0)) ∧ (¬ a1.toInt = (Int32.ofNat (qN S2 ((qO S2 (qO S2 (qO S2 0 80) 10) x1.toInt.toNat) + 1))).toInt → Q (-2 : Int32) S2))))))) ∧ (¬ x1.toInt < (qI S2 (qO S2 0 80) 4).toInt → Q (-1 : Int32) S2)))))))))
set_option maxHeartbeats 2000000 in
set_option maxRecDepth 100000 in
theorem r_run (l : Launch) (g : Gr) (ad : Nat → Nat) (sz : Nat) (S : MS) (x1 : Int32) (x2 : Int32) (hw : wfM S) (Q : Int32 → MS → Prop) (h : w_run S x1 x2 Q) : Met l yX14_run (wt2 yX14_run cX14_run 7 (some .int)) ({ frames := 7, cells := 0, slots := 0, locals := 162 }) (va_Pc [.ref (ad 0), .int x1, .int x2] (st_R g ad sz S)) (va_Qi (fun (r : Int32) (u : MS) => Q r u ∧ wfM u ∧ shy S u) (fun (u : MS) (t : State) => qE g ad (va_A (Wd g ad S) sz) u t) (va_A (Wd g ad S) sz)) 0 0 (va_A (Wd g ad S) sz) := by
  refine Met.ofW (cc := cX14_run) (maxL := 7) (ret := (some .int)) (by decide) rfl ?_
  intro p e s m args below meth c s₁ B hml hv
  obtain ⟨rfl, hsz, hP, hK, hD0, hex, hE⟩ := hv
  have hx := B.exec
  have hb := B.bytes
  have hr := B.returns
  have hts0 := atoms_spec (ws := wt2 yX14_run cX14_run 7 (some .int)) B.pre
  have hts : ∀ w ∈ tb2, w.before _ s = true := fun w h => hts0 w (List.mem_cons_of_mem _ h)
  have hown : s.vm.findClass RX14 = some m.cls := findClass_of_methodNamed B.named
  subst hsz
  have hD := hD0.self (sz := s.heap.size)
  generalize hAe : va_A (Wd g ad S) s.heap.size = A at hD hE ⊢
  have hA : ∀ q : Nat, s.heap.size ≤ q → A q := fun q h => by rw [← hAe]; exact Or.inr h
  have hR : Rep g ad A s S s.heap [] := ⟨hK, hP, hD, va_S.rf, hw⟩
  clear hK hP hD hD0
  have hl := lv_entry ([.ref (ad 0), .int x1, .int x2]) (n := 7) (Nat.le_of_ble_eq_true rfl)
  rw [lg_entry_eq]
  generalize (lg_sl ([.ref (ad 0), .int x1, .int x2]) ++ List.replicate (7 - (lg_sl ([.ref (ad 0), .int x1, .int x2])).length) Slot.unset).toArray = ls at hl ⊢
  have hl : lv_has ls 7 [(0, .ref (ad 0)), (1, .int x1), (2, .int x2)] := hl
  have hsh : shy S S := shy.rf
  unfold w_run at h
  refine lv_aload_n hx hb dX14_run_0 rfl (lv_at hl 0 rfl) ?_
  refine va_get (D := rD g) (ci := 13) (v := .int (qI S 0 88)) (C := RX14) (T := TX14) (N := 143) hx hb hts in2X14 hown hR.K hR.P 0 (hR.at14 hR.w.1) rfl 88 (by decide) (hts _ kx_613) (fun _ h9 => h9) rfl dX14_run_1 ?_
  obtain ⟨a1, ea1⟩ : ∃ z, z = (qI S 0 88) := ⟨_, rfl⟩
  rw [← ea1]
  replace h := h a1 ea1
  refine lv_istore_n (lv' := [(3, .int a1), (0, .ref (ad 0)), (1, .int x1), (2, .int x2)]) hx hb dX14_run_4 rfl hl (by decide) rfl (fun ls hl => ?_)
  refine lv_aload_n hx hb dX14_run_5 rfl (lv_at hl 1 rfl) ?_
  refine lv_iconst (v := 0) hx hb dX14_run_6 (by decide) ?_
  refine va_put (D := rD g) (ci := 13) (v := .int 0) (ty := .int) (C := RX14) (T := TX14) (N := 143) hx hb hts in2X14 tyX14 tyX14_ok nmX14 hown hR.K hR.P hR.D hR.sS 0 (hR.at14 hR.w.1) rfl 88 (by decide) (hts _ kx_613) (fun _ h9 => h9) rfl (by decide +kernel) rfl rfl (Nat.le_of_ble_eq_true rfl) dX14_run_7 (fun H locs hP hD hS => ?_)
  have hR : Rep g ad A s (wI S 0 88 0) H locs := hR.pI hR.w.1 F14_s88 hP hD hS
  obtain ⟨S2, eS2⟩ : ∃ z, z = wI S 0 88 0 := ⟨_, rfl⟩
  rw [← eS2] at hR
  replace h := h S2 eS2
  have hsh : shy S S2 := by rw [eS2]; exact hsh
  refine lv_aload_n hx hb dX14_run_10 rfl (lv_at hl 1 rfl) ?_
  have hO_o3 : ∀ z, (qR S2 0 80) = some z → qT S2 z = 11 := fun z q => hR.w.ref q hR.w.1
  refine va_get (D := rD g) (ci := 13) (v := vf ad (qR S2 0 80)) (C := RX14) (T := TX14) (N := 143) hx hb hts in2X14 hown hR.K hR.P 0 (hR.at14 hR.w.1) rfl 80 (by decide) (hts _ kx_608) (fun _ h9 => h9) rfl dX14_run_11 ?_
  rcases hq_b4 : (qR S2 0 80) with _ | b4
  · skip
    replace h := h.1 (hq_b4)
    refine lv_ifnullN (tgt := 32) hx hb dX14_run_14 (by decide) ?_
    refine lv_iconst (v := (-1)) hx hb dX14_run_32 (by decide) ?_
    exact W.iret (v := (-1)) hx hb hr (fun t9 ht9 hW9 => ⟨⟨_, S2, rfl, ⟨h, hR.w, hsh⟩, ⟨by rw [ht9]; exact hR.P, hR.D⟩⟩, hR.sS.F ht9⟩) hR.sS.2.2 dX14_run_33
  · have hg_b4 : b4 = ((qR S2 0 80)).getD 0 := by rw [hq_b4]; rfl
    have hT_b4 : qT S2 (((qR S2 0 80)).getD 0) = 11 := hg_b4 ▸ hO_o3 _ hq_b4
    subst hg_b4
    replace h := h.2 (fun q9 => Option.some_ne_none _ (hq_b4.symm.trans q9))
    refine lv_ifnull hx hb dX14_run_14 ?_
    refine lv_iload_n hx hb dX14_run_17 rfl (lv_at hl 2 rfl) ?_
    refine lv_if_lt (tgt := 32) hx hb dX14_run_18 (by decide) (fun c5 => ?_) (fun c5 => ?_)
    · replace h := h.1 (k_lt rfl (by decide) c5)
      refine lv_iconst (v := (-1)) hx hb dX14_run_32 (by decide) ?_
      exact W.iret (v := (-1)) hx hb hr (fun t9 ht9 hW9 => ⟨⟨_, S2, rfl, ⟨h, hR.w, hsh⟩, ⟨by rw [ht9]; exact hR.P, hR.D⟩⟩, hR.sS.F ht9⟩) hR.sS.2.2 dX14_run_33
    · replace h := h.2 (k_nlt rfl (by decide) c5)
      refine lv_iload_n hx hb dX14_run_21 rfl (lv_at hl 2 rfl) ?_
      refine lv_aload_n hx hb dX14_run_22 rfl (lv_at hl 1 rfl) ?_
      obtain ⟨hv6, h⟩ := h
      have hT_b7 : qT S2 (qO S2 0 80) = 11 := hR.w.ref hv6 hR.w.1
      refine va_get (D := rD g) (ci := 13) (v := .ref (ad (qO S2 0 80))) (C := RX14) (T := TX14) (N := 143) hx hb hts in2X14 hown hR.K hR.P 0 (hR.at14 hR.w.1) rfl 80 (by decide) (hts _ kx_608) (fun _ h9 => h9) (congrArg (fun z => some (vf ad z)) hv6) dX14_run_23 ?_
      refine va_get (D := rD g) (ci := 12) (v := .int (qI S2 (qO S2 0 80) 4)) (C := RX13) (T := TX13) (N := 23) hx hb hts in2X13 hown hR.K hR.P (qO S2 0 80) (hR.at13 hT_b7) rfl 4 (by decide) (hts _ kx_353) (fun _ h9 => h9) rfl dX14_run_26 ?_
      refine lv_icmp_lt (tgt := 34) hx hb dX14_run_29 (by decide) (fun c8 => ?_) (fun c8 => ?_)
      · replace h := h.1 (k_lt rfl rfl c8)
        refine lv_aload_n hx hb dX14_run_34 rfl (lv_at hl 1 rfl) ?_
        obtain ⟨hv9, h⟩ := h
        have hT_b10 : qT S2 (qO S2 0 80) = 11 := hR.w.ref hv9 hR.w.1
        refine va_get (D := rD g) (ci := 13) (v := .ref (ad (qO S2 0 80))) (C := RX14) (T := TX14) (N := 143) hx hb hts in2X14 hown hR.K hR.P 0 (hR.at14 hR.w.1) rfl 80 (by decide) (hts _ kx_608) (fun _ h9 => h9) (congrArg (fun z => some (vf ad z)) hv9) dX14_run_35 ?_
        obtain ⟨hv11, h⟩ := h
        have hT_b12 : qT S2 (qO S2 (qO S2 0 80) 10) = 5 := hR.w.ref hv11 hT_b10
        refine va_get (D := rD g) (ci := 12) (v := .ref (ad (qO S2 (qO S2 0 80) 10))) (C := RX13) (T := TX13) (N := 23) hx hb hts in2X13 hown hR.K hR.P (qO S2 0 80) (hR.at13 hT_b10) rfl 10 (by decide) (hts _ kx_398) (fun _ h9 => h9) (congrArg (fun z => some (vf ad z)) hv11) dX14_run_38 ?_
        refine lv_iload_n hx hb dX14_run_41 rfl (lv_at hl 2 rfl) ?_
        obtain ⟨hv13, h⟩ := h
        refine va_aldq hx hb hR.K hR.P (qO S2 (qO S2 0 80) 10) 4 (hR.atS hT_b12) rfl (k_ix (x := x1) (a := x1.toInt) rfl hv13) dX14_run_42 ?_
        obtain ⟨hv14, h⟩ := h
        have hT_b15 : qT S2 (qO S2 (qO S2 (qO S2 0 80) 10) x1.toInt.toNat) = 12 := hR.w.ref hv14 hT_b12
        rw [show va_rf (Option.map ad (qR S2 (qO S2 (qO S2 0 80) 10) (x1 : Int32).toNatClampNeg)) = .ref (ad (qO S2 (qO S2 (qO S2 0 80) 10) x1.toInt.toNat)) from congrArg (fun z => vf ad z) hv14]
        refine lv_astore (lv' := [(4, .ref (ad (qO S2 (qO S2 (qO S2 0 80) 10) x1.toInt.toNat))), (3, .int a1), (0, .ref (ad 0)), (1, .int x1), (2, .int x2)]) hx hb dX14_run_43 hl (by decide) rfl (fun ls hl => ?_)
        refine lv_iload_n hx hb dX14_run_45 rfl (lv_at hl 1 rfl) ?_
        refine lv_aload hx hb dX14_run_46 (lv_at hl 0 rfl) ?_
        have hF : ∀ q, Ns H.size q → A q := fun q h => hA q (Nat.le_trans hR.sS.1 h)
        refine va_calli (va_runV (As := []) (rest := [.int a1]) ⟨hx, hb, hml, hown, hts⟩ (s_length l H.size (ad (qO S2 (qO S2 (qO S2 0 80) 10) x1.toInt.toNat)) (ad ((qO S2 (qO S2 (qO S2 0 80) 10) x1.toInt.toNat) + 1)) (qN S2 ((qO S2 (qO S2 (qO S2 0 80) 10) x1.toInt.toNat) + 1)) (qI S2 ((qO S2 (qO S2 (qO S2 0 80) 10) x1.toInt.toNat) + 1))) (cwV 0 hts (gd2_V kx_248 kx_143 kx_144 kx_6 kx_145) rfl rfl rfl (by decide +kernel) ⟨Nat.le_of_ble_eq_true rfl, Nat.le_of_ble_eq_true rfl⟩) ⟨tblind (fun A u U H hv h => by exact tx1.moved hv h), (strR hts hR hE hA hT_b15), fun U hU hW9 => ⟨rfl, by rw [hU], str_at hts hR hE hA hT_b15 hU hW9, by rw [hU]; exact ((hE.1.kept hR.sS.2.1).narrow hF).moved hW9.alike⟩⟩ rfl rfl hl.1 rfl (lv_room (Nat.le_of_ble_eq_true rfl)) dX14_run_48 ⟨Nat.le_of_ble_eq_true rfl, Nat.le_of_ble_eq_true rfl⟩) hR.sS (fun q _ h => hF q h) hF (fun r16 u9 t9 H1 locs ht9 hvm9 hw9 hB9 hz9 hk9 hS => ?_)
        obtain rfl : r16 = (Int32.ofNat (qN S2 ((qO S2 (qO S2 (qO S2 0 80) 10) x1.toInt.toNat) + 1))) := hw9
        have hR : Rep g ad A s S2 H1 locs := hR.keep hk9 hS
        clear hz9 hk9 hvm9 ht9 hB9 hF hS
        generalize H1 = H at hR ⊢
        refine lv_icmp_eq (tgt := 57) hx hb dX14_run_51 (by decide) (fun c17 => ?_) (fun c17 => ?_)
        · replace h := h.1 (k_eq rfl rfl c17)
          refine lv_iconst (v := 0) hx hb dX14_run_57 (by decide) ?_
          refine lv_istore (lv' := [(5, .int 0), (4, .ref (ad (qO S2 (qO S2 (qO S2 0 80) 10) x1.toInt.toNat))), (3, .int a1), (0, .ref (ad 0)), (1, .int x1), (2, .int x2)]) hx hb dX14_run_58 hl (by decide) rfl (fun ls hl => ?_)
          have J_60 : ∀ (n60 : Nat) (U60 : MS) (v60_1 : Int32) (v60_2 : Int32) (v60_3 : Int32) (v60_4 : Nat) (v60_5 : Int32) (H : Heap) (locs : List Loc) (ls : Array Slot), w_run_L60 Q n60 U60 v60_1 v60_2 v60_3 v60_4 v60_5 → qT U60 v60_4 = 12 → shy S U60 → Rep g ad A s U60 H locs → lv_has ls 7 [(0, .ref (ad 0)), (1, .int v60_1), (2, .int v60_2), (3, .int v60_3), (4, .ref (ad v60_4)), (5, .int v60_5)] → W p l e (headSpec (wt2 yX14_run cX14_run 7 (some .int)) ({ frames := 7, cells := 0, slots := 0, locals := 162 })).room s m ([.ref (ad 0), .int x1, .int x2] : List Value).toArray below meth c H locs 0 0 (MQ below (va_Qi (fun (r : Int32) (u : MS) => Q r u ∧ wfM u ∧ shy S u) (fun (u : MS) (t : State) => qE g ad A u t) A) ([.ref (ad 0), .int x1, .int x2] : List Value).toArray s 0 0 A) (F0 m 60 ls []) := by
            intro n60
            induction n60 with
            | zero => intro U60 v60_1 v60_2 v60_3 v60_4 v60_5 H locs ls h hT_v60_4 hsh hR hl; unfold w_run_L60 at h; exact h.elim
            | succ n60 ih_60 =>
              intro U60 v60_1 v60_2 v60_3 v60_4 v60_5 H locs ls h hT_v60_4 hsh hR hl
              unfold w_run_L60 at h
              refine lv_iload hx hb dX14_run_60 (lv_at hl 5 rfl) ?_
              refine lv_iload_n hx hb dX14_run_62 rfl (lv_at hl 3 rfl) ?_
              refine lv_icmp_ge (tgt := 115) hx hb dX14_run_63 (by decide) (fun c18 => ?_) (fun c18 => ?_)
              · replace h := h.1 (k_le rfl rfl c18)
                refine lv_iload_n hx hb dX14_run_115 rfl (lv_at hl 2 rfl) ?_
                refine lv_if_lt (tgt := 126) hx hb dX14_run_116 (by decide) (fun c19 => ?_) (fun c19 => ?_)
                · replace h := h.1 (k_lt rfl (by decide) c19)
                  refine lv_bipush (v := (-3)) hx hb dX14_run_126 (by decide) ?_
                  exact W.iret (v := (-3)) hx hb hr (fun t9 ht9 hW9 => ⟨⟨_, U60, rfl, ⟨h, hR.w, hsh⟩, ⟨by rw [ht9]; exact hR.P, hR.D⟩⟩, hR.sS.F ht9⟩) hR.sS.2.2 dX14_run_128
                · replace h := h.2 (k_nlt rfl (by decide) c19)
                  refine lv_iload_n hx hb dX14_run_119 rfl (lv_at hl 2 rfl) ?_
                  refine lv_ldcw hx hb hown (hts _ kx_615) dX14_run_120 ?_
                  refine lv_icmp_le (tgt := 129) hx hb dX14_run_123 (by decide) (fun c20 => ?_) (fun c20 => ?_)
                  · replace h := h.1 (k_le rfl (by decide) c20)
                    refine lv_aload_n hx hb dX14_run_129 rfl (lv_at hl 0 rfl) ?_
                    refine lv_iconst (v := 0) hx hb dX14_run_130 (by decide) ?_
                    refine va_put (D := rD g) (ci := 13) (v := .int 0) (ty := .int) (C := RX14) (T := TX14) (N := 143) hx hb hts in2X14 tyX14 tyX14_ok nmX14 hown hR.K hR.P hR.D hR.sS 0 (hR.at14 hR.w.1) rfl 97 (by decide) (hts _ kx_616) (fun _ h9 => h9) rfl (by decide +kernel) rfl rfl (Nat.le_of_ble_eq_true rfl) dX14_run_131 (fun H locs hP hD hS => ?_)
                    have hR : Rep g ad A s (wI U60 0 97 0) H locs := hR.pI hR.w.1 F14_s97 hP hD hS
                    obtain ⟨S21, eS21⟩ : ∃ z, z = wI U60 0 97 0 := ⟨_, rfl⟩
                    rw [← eS21] at hR
                    replace h := h S21 eS21
                    have hT_v60_4 : qT S21 v60_4 = 12 := (congrArg (fun z => qT z v60_4) eS21).trans hT_v60_4
                    have hsh : shy S S21 := by rw [eS21]; exact hsh
                    refine lv_aload_n hx hb dX14_run_134 rfl (lv_at hl 0 rfl) ?_
                    refine lv_iconst (v := (-1)) hx hb dX14_run_135 (by decide) ?_
                    refine va_put (D := rD g) (ci := 13) (v := .int (-1)) (ty := .int) (C := RX14) (T := TX14) (N := 143) hx hb hts in2X14 tyX14 tyX14_ok nmX14 hown hR.K hR.P hR.D hR.sS 0 (hR.at14 hR.w.1) rfl 98 (by decide) (hts _ kx_617) (fun _ h9 => h9) rfl (by decide +kernel) rfl rfl (Nat.le_of_ble_eq_true rfl) dX14_run_136 (fun H locs hP hD hS => ?_)
                    have hR : Rep g ad A s (wI S21 0 98 (-1)) H locs := hR.pI hR.w.1 F14_s98 hP hD hS
                    obtain ⟨S22, eS22⟩ : ∃ z, z = wI S21 0 98 (-1) := ⟨_, rfl⟩
                    rw [← eS22] at hR
                    replace h := h S22 eS22
                    have hT_v60_4 : qT S22 v60_4 = 12 := (congrArg (fun z => qT z v60_4) eS22).trans hT_v60_4
                    have hsh : shy S S22 := by rw [eS22]; exact hsh
                    refine lv_aload_n hx hb dX14_run_139 rfl (lv_at hl 0 rfl) ?_
                    refine lv_iconst (v := (-1)) hx hb dX14_run_140 (by decide) ?_
                    refine va_put (D := rD g) (ci := 13) (v := .int (-1)) (ty := .int) (C := RX14) (T := TX14) (N := 143) hx hb hts in2X14 tyX14 tyX14_ok nmX14 hown hR.K hR.P hR.D hR.sS 0 (hR.at14 hR.w.1) rfl 102 (by decide) (hts _ kx_618) (fun _ h9 => h9) rfl (by decide +kernel) rfl rfl (Nat.le_of_ble_eq_true rfl) dX14_run_141 (fun H locs hP hD hS => ?_)
                    have hR : Rep g ad A s (wI S22 0 102 (-1)) H locs := hR.pI hR.w.1 F14_s102 hP hD hS
                    obtain ⟨S23, eS23⟩ : ∃ z, z = wI S22 0 102 (-1) := ⟨_, rfl⟩
                    rw [← eS23] at hR
                    replace h := h S23 eS23
                    have hT_v60_4 : qT S23 v60_4 = 12 := (congrArg (fun z => qT z v60_4) eS23).trans hT_v60_4
                    have hsh : shy S S23 := by rw [eS23]; exact hsh
                    refine lv_aload_n hx hb dX14_run_144 rfl (lv_at hl 0 rfl) ?_
                    refine lv_lconst (v := 0) hx hb dX14_run_145 (by decide) ?_
                    refine va_put (D := rD g) (ci := 13) (v := .long 0) (ty := .long) (C := RX14) (T := TX14) (N := 143) hx hb hts in2X14 tyX14 tyX14_ok nmX14 hown hR.K hR.P hR.D hR.sS 0 (hR.at14 hR.w.1) rfl 101 (by decide) (hts _ kx_619) (fun _ h9 => h9) rfl (by decide +kernel) rfl rfl (Nat.le_of_ble_eq_true rfl) dX14_run_146 (fun H locs hP hD hS => ?_)
                    have hR : Rep g ad A s (wJ S23 0 101 0) H locs := hR.pJ hR.w.1 F14_s101 hP hD hS
                    obtain ⟨S24, eS24⟩ : ∃ z, z = wJ S23 0 101 0 := ⟨_, rfl⟩
                    rw [← eS24] at hR
                    replace h := h S24 eS24
                    have hT_v60_4 : qT S24 v60_4 = 12 := (congrArg (fun z => qT z v60_4) eS24).trans hT_v60_4
                    have hsh : shy S S24 := by rw [eS24]; exact hsh
                    refine lv_aload_n hx hb dX14_run_149 rfl (lv_at hl 0 rfl) ?_
                    refine lv_iconst (v := 0) hx hb dX14_run_150 (by decide) ?_
                    refine va_put (D := rD g) (ci := 13) (v := .int 0) (ty := .int) (C := RX14) (T := TX14) (N := 143) hx hb hts in2X14 tyX14 tyX14_ok nmX14 hown hR.K hR.P hR.D hR.sS 0 (hR.at14 hR.w.1) rfl 100 (by decide) (hts _ kx_620) (fun _ h9 => h9) rfl (by decide +kernel) rfl rfl (Nat.le_of_ble_eq_true rfl) dX14_run_151 (fun H locs hP hD hS => ?_)
                    have hR : Rep g ad A s (wI S24 0 100 0) H locs := hR.pI hR.w.1 F14_s100 hP hD hS
                    obtain ⟨S25, eS25⟩ : ∃ z, z = wI S24 0 100 0 := ⟨_, rfl⟩
                    rw [← eS25] at hR
                    replace h := h S25 eS25
                    have hT_v60_4 : qT S25 v60_4 = 12 := (congrArg (fun z => qT z v60_4) eS25).trans hT_v60_4
                    have hsh : shy S S25 := by rw [eS25]; exact hsh
                    refine lv_aload_n hx hb dX14_run_154 rfl (lv_at hl 0 rfl) ?_
                    refine lv_iload_n hx hb dX14_run_155 rfl (lv_at hl 1 rfl) ?_
                    obtain ⟨Q26, h0, h⟩ := h
                    have hFc := rfree hR hA
                    refine va_callv (va_runV (As := [.int v60_1]) (rest := []) ⟨hx, hb, hml, hown, hts⟩ (r_enter l g ad H.size S25 v60_1 hR.w  Q26 h0) (cwV 1 hts (gd2_V kx_662 kx_663 kx_664 kx_177 kx_665) rfl rfl rfl (by decide +kernel) ⟨Nat.le_of_ble_eq_true rfl, Nat.le_of_ble_eq_true rfl⟩) ⟨rblind, va_recv hR.K hR.P (ci := 13) (q0 := 0) rfl (hR.at14 hR.w.1), fun U hU hW9 => rmk hU hW9 hR hex hE hFc⟩ rfl rfl hl.1 rfl (lv_room (Nat.le_of_ble_eq_true rfl)) dX14_run_156 ⟨Nat.le_of_ble_eq_true rfl, Nat.le_of_ble_eq_true rfl⟩) hR.sS (fun q _ h => hFc q h) hFc (fun  S27 t9 H1 locs ht9 hvm9 hw9 hB9 hz9 hk9 hS => ?_)
                    obtain ⟨hq28, hw9, hs9⟩ := hw9
                    have hR : Rep g ad A s S27 H1 locs := hR.call ht9 hB9 hw9 hS hFc
                    have hsh := hsh.tr hs9
                    replace h := h  S27 hq28
                    have hT_v60_4 := hs9.T hT_v60_4 (by decide)
                    clear hB9 hz9 hk9 hvm9 ht9 hw9 hs9 hS
                    generalize H1 = H at hR ⊢
                    refine lv_iconst (v := 0) hx hb dX14_run_159 (by decide) ?_
                    refine lv_istore (lv' := [(5, .int 0), (0, .ref (ad 0)), (1, .int v60_1), (2, .int v60_2), (3, .int v60_3), (4, .ref (ad v60_4))]) hx hb dX14_run_160 hl (by decide) rfl (fun ls hl => ?_)
                    refine lv_iconst (v := 0) hx hb dX14_run_162 (by decide) ?_
                    refine lv_istore (lv' := [(6, .int 0), (5, .int 0), (0, .ref (ad 0)), (1, .int v60_1), (2, .int v60_2), (3, .int v60_3), (4, .ref (ad v60_4))]) hx hb dX14_run_163 hl (by decide) rfl (fun ls hl => ?_)
                    have J_165 : ∀ (n165 : Nat) (U165 : MS) (v165_2 : Int32) (v165_3 : Int32) (v165_4 : Nat) (v165_5 : Int32) (v165_6 : Int32) (H : Heap) (locs : List Loc) (ls : Array Slot), w_run_L165 Q n165 U165 v165_2 v165_3 v165_4 v165_5 v165_6 → qT U165 v165_4 = 12 → shy S U165 → Rep g ad A s U165 H locs → lv_has ls 7 [(0, .ref (ad 0)), (2, .int v165_2), (3, .int v165_3), (4, .ref (ad v165_4)), (5, .int v165_5), (6, .int v165_6)] → W p l e (headSpec (wt2 yX14_run cX14_run 7 (some .int)) ({ frames := 7, cells := 0, slots := 0, locals := 162 })).room s m ([.ref (ad 0), .int x1, .int x2] : List Value).toArray below meth c H locs 0 0 (MQ below (va_Qi (fun (r : Int32) (u : MS) => Q r u ∧ wfM u ∧ shy S u) (fun (u : MS) (t : State) => qE g ad A u t) A) ([.ref (ad 0), .int x1, .int x2] : List Value).toArray s 0 0 A) (F0 m 165 ls []) := by
                      intro n165
                      induction n165 with
                      | zero => intro U165 v165_2 v165_3 v165_4 v165_5 v165_6 H locs ls h hT_v165_4 hsh hR hl; unfold w_run_L165 at h; exact h.elim
                      | succ n165 ih_165 =>
                        intro U165 v165_2 v165_3 v165_4 v165_5 v165_6 H locs ls h hT_v165_4 hsh hR hl
                        unfold w_run_L165 at h
                        refine lv_iload hx hb dX14_run_165 (lv_at hl 5 rfl) ?_
                        refine lv_iload_n hx hb dX14_run_167 rfl (lv_at hl 2 rfl) ?_
                        have J_308 : ∀ (n308 : Nat) (U308 : MS) (v308_2 : Int32) (H : Heap) (locs : List Loc) (ls : Array Slot), w_run_L308 Q n308 U308 v308_2 → shy S U308 → Rep g ad A s U308 H locs → lv_has ls 7 [(0, .ref (ad 0)), (2, .int v308_2)] → W p l e (headSpec (wt2 yX14_run cX14_run 7 (some .int)) ({ frames := 7, cells := 0, slots := 0, locals := 162 })).room s m ([.ref (ad 0), .int x1, .int x2] : List Value).toArray below meth c H locs 0 0 (MQ below (va_Qi (fun (r : Int32) (u : MS) => Q r u ∧ wfM u ∧ shy S u) (fun (u : MS) (t : State) => qE g ad A u t) A) ([.ref (ad 0), .int x1, .int x2] : List Value).toArray s 0 0 A) (F0 m 308 ls []) := by
                          intro n308
                          induction n308 with
                          | zero => intro U308 v308_2 H locs ls h hsh hR hl; unfold w_run_L308 at h; exact h.elim
                          | succ n308 ih_308 =>
                            intro U308 v308_2 H locs ls h hsh hR hl
                            unfold w_run_L308 at h
                            refine lv_aload_n hx hb dX14_run_308 rfl (lv_at hl 0 rfl) ?_
                            refine va_get (D := rD g) (ci := 13) (v := .int (qI U308 0 98)) (C := RX14) (T := TX14) (N := 143) hx hb hts in2X14 hown hR.K hR.P 0 (hR.at14 hR.w.1) rfl 98 (by decide) (hts _ kx_617) (fun _ h9 => h9) rfl dX14_run_309 ?_
                            refine lv_if_ge (tgt := 348) hx hb dX14_run_312 (by decide) (fun c29 => ?_) (fun c29 => ?_)
                            · replace h := h.1 (k_le (by decide) rfl c29)
                              refine lv_aload_n hx hb dX14_run_348 rfl (lv_at hl 0 rfl) ?_
                              refine va_get (D := rD g) (ci := 13) (v := .int (qI U308 0 98)) (C := RX14) (T := TX14) (N := 143) hx hb hts in2X14 hown hR.K hR.P 0 (hR.at14 hR.w.1) rfl 98 (by decide) (hts _ kx_617) (fun _ h9 => h9) rfl dX14_run_349 ?_
                              refine lv_if_le (tgt := 360) hx hb dX14_run_352 (by decide) (fun c30 => ?_) (fun c30 => ?_)
                              · replace h := h.1 (k_le rfl (by decide) c30)
                                refine lv_aload_n hx hb dX14_run_360 rfl (lv_at hl 0 rfl) ?_
                                refine va_get (D := rD g) (ci := 13) (v := .int (qI U308 0 98)) (C := RX14) (T := TX14) (N := 143) hx hb hts in2X14 hown hR.K hR.P 0 (hR.at14 hR.w.1) rfl 98 (by decide) (hts _ kx_617) (fun _ h9 => h9) rfl dX14_run_361 ?_
                                exact W.iret (v := (qI U308 0 98)) hx hb hr (fun t9 ht9 hW9 => ⟨⟨_, U308, rfl, ⟨h, hR.w, hsh⟩, ⟨by rw [ht9]; exact hR.P, hR.D⟩⟩, hR.sS.F ht9⟩) hR.sS.2.2 dX14_run_364
                              · replace h := h.2 (k_nle rfl (by decide) c30)
                                refine lv_aload_n hx hb dX14_run_355 rfl (lv_at hl 0 rfl) ?_
                                refine lv_lconst (v := 0) hx hb dX14_run_356 (by decide) ?_
                                refine va_put (D := rD g) (ci := 13) (v := .long 0) (ty := .long) (C := RX14) (T := TX14) (N := 143) hx hb hts in2X14 tyX14 tyX14_ok nmX14 hown hR.K hR.P hR.D hR.sS 0 (hR.at14 hR.w.1) rfl 101 (by decide) (hts _ kx_619) (fun _ h9 => h9) rfl (by decide +kernel) rfl rfl (Nat.le_of_ble_eq_true rfl) dX14_run_357 (fun H locs hP hD hS => ?_)
                                have hR : Rep g ad A s (wJ U308 0 101 0) H locs := hR.pJ hR.w.1 F14_s101 hP hD hS
                                obtain ⟨S31, eS31⟩ : ∃ z, z = wJ U308 0 101 0 := ⟨_, rfl⟩
                                rw [← eS31] at hR
                                replace h := h S31 eS31
                                have hsh : shy S S31 := by rw [eS31]; exact hsh
                                refine lv_aload_n hx hb dX14_run_360 rfl (lv_at hl 0 rfl) ?_
                                refine va_get (D := rD g) (ci := 13) (v := .int (qI S31 0 98)) (C := RX14) (T := TX14) (N := 143) hx hb hts in2X14 hown hR.K hR.P 0 (hR.at14 hR.w.1) rfl 98 (by decide) (hts _ kx_617) (fun _ h9 => h9) rfl dX14_run_361 ?_
                                exact W.iret (v := (qI S31 0 98)) hx hb hr (fun t9 ht9 hW9 => ⟨⟨_, S31, rfl, ⟨h, hR.w, hsh⟩, ⟨by rw [ht9]; exact hR.P, hR.D⟩⟩, hR.sS.F ht9⟩) hR.sS.2.2 dX14_run_364
                            · replace h := h.2 (k_nle (by decide) rfl c29)
                              refine lv_aload_n hx hb dX14_run_315 rfl (lv_at hl 0 rfl) ?_
                              refine va_get (D := rD g) (ci := 13) (v := .int (qI U308 0 100)) (C := RX14) (T := TX14) (N := 143) hx hb hts in2X14 hown hR.K hR.P 0 (hR.at14 hR.w.1) rfl 100 (by decide) (hts _ kx_620) (fun _ h9 => h9) rfl dX14_run_316 ?_
                              refine lv_iload_n hx hb dX14_run_319 rfl (lv_at hl 1 rfl) ?_
                              refine lv_icmp_ne (tgt := 331) hx hb dX14_run_320 (by decide) (fun c32 => ?_) (fun c32 => ?_)
                              · replace h := h.2 (k_ne rfl rfl c32)
                                refine lv_aload_n hx hb dX14_run_331 rfl (lv_at hl 0 rfl) ?_
                                refine lv_dup hx hb dX14_run_332 rfl ?_
                                refine va_get (D := rD g) (ci := 13) (v := .int (qI U308 0 100)) (C := RX14) (T := TX14) (N := 143) hx hb hts in2X14 hown hR.K hR.P 0 (hR.at14 hR.w.1) rfl 100 (by decide) (hts _ kx_620) (fun _ h9 => h9) rfl dX14_run_333 ?_
                                refine lv_iconst (v := 1) hx hb dX14_run_336 (by decide) ?_
                                refine lv_iadd hx hb dX14_run_337 ?_
                                refine lv_topi (fun z33 ez33 => ?_)
                                obtain rfl : z33 = ((qI U308 0 100) + (1 : Int32)) := ez33
                                refine va_put (D := rD g) (ci := 13) (v := .int ((qI U308 0 100) + (1 : Int32))) (ty := .int) (C := RX14) (T := TX14) (N := 143) hx hb hts in2X14 tyX14 tyX14_ok nmX14 hown hR.K hR.P hR.D hR.sS 0 (hR.at14 hR.w.1) rfl 100 (by decide) (hts _ kx_620) (fun _ h9 => h9) rfl (by decide +kernel) rfl rfl (Nat.le_of_ble_eq_true rfl) dX14_run_338 (fun H locs hP hD hS => ?_)
                                have hR : Rep g ad A s (wI U308 0 100 ((qI U308 0 100) + (1 : Int32))) H locs := hR.pI hR.w.1 F14_s100 hP hD hS
                                obtain ⟨S34, eS34⟩ : ∃ z, z = wI U308 0 100 ((qI U308 0 100) + (1 : Int32)) := ⟨_, rfl⟩
                                rw [← eS34] at hR
                                replace h := h S34 eS34
                                have hsh : shy S S34 := by rw [eS34]; exact hsh
                                refine lv_aload_n hx hb dX14_run_341 rfl (lv_at hl 0 rfl) ?_
                                obtain ⟨Q35, h0, h⟩ := h
                                have hFc := rfree hR hA
                                refine va_callv (va_runV (As := []) (rest := []) ⟨hx, hb, hml, hown, hts⟩ (r_step l g ad H.size S34 hR.w  Q35 h0) (cwV 0 hts (gd2_V kx_1212 kx_1213 kx_1214 kx_177 kx_1215) rfl rfl rfl (by decide +kernel) ⟨Nat.le_of_ble_eq_true rfl, Nat.le_of_ble_eq_true rfl⟩) ⟨rblind, va_recv hR.K hR.P (ci := 13) (q0 := 0) rfl (hR.at14 hR.w.1), fun U hU hW9 => rmk hU hW9 hR hex hE hFc⟩ rfl rfl hl.1 rfl (lv_room (Nat.le_of_ble_eq_true rfl)) dX14_run_342 ⟨Nat.le_of_ble_eq_true rfl, Nat.le_of_ble_eq_true rfl⟩) hR.sS (fun q _ h => hFc q h) hFc (fun  S36 t9 H1 locs ht9 hvm9 hw9 hB9 hz9 hk9 hS => ?_)
                                obtain ⟨hq37, hw9, hs9⟩ := hw9
                                have hR : Rep g ad A s S36 H1 locs := hR.call ht9 hB9 hw9 hS hFc
                                have hsh := hsh.tr hs9
                                replace h := h  S36 hq37
                                clear hB9 hz9 hk9 hvm9 ht9 hw9 hs9 hS
                                generalize H1 = H at hR ⊢
                                refine lv_goto (tgt := 308) hx hb dX14_run_345 (by decide) ?_
                                exact ih_308 S36 v308_2 _ _ ls h  hsh hR (lv_sub hl [0, 1] rfl)
                              · replace h := h.1 (k_eq rfl rfl c32)
                                refine lv_aload_n hx hb dX14_run_323 rfl (lv_at hl 0 rfl) ?_
                                refine lv_iconst (v := 2) hx hb dX14_run_324 (by decide) ?_
                                refine va_put (D := rD g) (ci := 13) (v := .int 2) (ty := .int) (C := RX14) (T := TX14) (N := 143) hx hb hts in2X14 tyX14 tyX14_ok nmX14 hown hR.K hR.P hR.D hR.sS 0 (hR.at14 hR.w.1) rfl 98 (by decide) (hts _ kx_617) (fun _ h9 => h9) rfl (by decide +kernel) rfl rfl (Nat.le_of_ble_eq_true rfl) dX14_run_325 (fun H locs hP hD hS => ?_)
                                have hR : Rep g ad A s (wI U308 0 98 2) H locs := hR.pI hR.w.1 F14_s98 hP hD hS
                                obtain ⟨S38, eS38⟩ : ∃ z, z = wI U308 0 98 2 := ⟨_, rfl⟩
                                rw [← eS38] at hR
                                replace h := h S38 eS38
                                have hsh : shy S S38 := by rw [eS38]; exact hsh
                                refine lv_goto (tgt := 308) hx hb dX14_run_328 (by decide) ?_
                                exact ih_308 S38 v308_2 _ _ ls h  hsh hR (lv_sub hl [0, 1] rfl)
                        refine lv_icmp_ge (tgt := 308) hx hb dX14_run_168 (by decide) (fun c39 => ?_) (fun c39 => ?_)
                        · replace h := h.1 (k_le rfl rfl c39)
                          obtain ⟨n9, h⟩ := h
                          exact J_308 n9 U165 v165_2 _ _ ls h  hsh hR (lv_sub hl [0, 1] rfl)
                        · replace h := h.2 (k_nle rfl rfl c39)
                          refine lv_aload_n hx hb dX14_run_171 rfl (lv_at hl 0 rfl) ?_
                          refine va_get (D := rD g) (ci := 13) (v := .ref (ad 45)) (C := RX14) (T := TX14) (N := 143) hx hb hts in2X14 hown hR.K hR.P 0 (hR.at14 hR.w.1) rfl 92 (by decide) (hts _ kx_624) (fun _ h9 => h9) (congrArg (fun z => some (vf ad z)) (hR.w.2.1 _ fin_92).1) dX14_run_172 ?_
                          refine lv_iload hx hb dX14_run_175 (lv_at hl 4 rfl) ?_
                          refine lv_aload hx hb dX14_run_177 (lv_at hl 3 rfl) ?_
                          refine lv_iload hx hb dX14_run_179 (lv_at hl 5 rfl) ?_
                          obtain ⟨hv40, h⟩ := h
                          have hF : ∀ q, Ns H.size q → A q := fun q h => hA q (Nat.le_trans hR.sS.1 h)
                          refine va_calli (va_runV (As := [.int v165_6]) (rest := [.int v165_5, .ref (ad 45)]) ⟨hx, hb, hml, hown, hts⟩ (s_charAt l H.size (ad v165_4) (ad (v165_4 + 1)) (qN U165 (v165_4 + 1)) (qI U165 (v165_4 + 1)) v165_6 (hR.w.len hT_v165_4) hv40) (cwV 1 hts (gd2_V kx_249 kx_250 kx_251 kx_6 kx_252) rfl rfl rfl (by decide +kernel) ⟨Nat.le_of_ble_eq_true rfl, Nat.le_of_ble_eq_true rfl⟩) ⟨tblind (fun A u U H hv h => by exact tx1.moved hv h), (strR hts hR hE hA hT_v165_4), fun U hU hW9 => ⟨rfl, by rw [hU], str_at hts hR hE hA hT_v165_4 hU hW9, by rw [hU]; exact ((hE.1.kept hR.sS.2.1).narrow hF).moved hW9.alike⟩⟩ rfl rfl hl.1 rfl (lv_room (Nat.le_of_ble_eq_true rfl)) dX14_run_181 ⟨Nat.le_of_ble_eq_true rfl, Nat.le_of_ble_eq_true rfl⟩) hR.sS (fun q _ h => hF q h) hF (fun r41 u9 t9 H1 locs ht9 hvm9 hw9 hB9 hz9 hk9 hS => ?_)
                          obtain rfl : r41 = (cAt U165 v165_4 v165_6) := hw9
                          have hR : Rep g ad A s U165 H1 locs := hR.keep hk9 hS
                          clear hz9 hk9 hvm9 ht9 hB9 hF hS
                          generalize H1 = H at hR ⊢
                          refine lv_bipush (v := 73) hx hb dX14_run_184 (by decide) ?_
                          have J_208 : ∀ (U208 : MS) (t208_0 : Int64) (t208_1 : Int32) (v208_2 : Int32) (v208_3 : Int32) (v208_4 : Nat) (v208_5 : Int32) (v208_6 : Int32) (H : Heap) (locs : List Loc) (ls : Array Slot), w_run_J208 Q (w_run_L165 Q n165) U208 t208_0 t208_1 v208_2 v208_3 v208_4 v208_5 v208_6 → qT U208 v208_4 = 12 → shy S U208 → Rep g ad A s U208 H locs → lv_has ls 7 [(0, .ref (ad 0)), (2, .int v208_2), (3, .int v208_3), (4, .ref (ad v208_4)), (5, .int v208_5), (6, .int v208_6)] → W p l e (headSpec (wt2 yX14_run cX14_run 7 (some .int)) ({ frames := 7, cells := 0, slots := 0, locals := 162 })).room s m ([.ref (ad 0), .int x1, .int x2] : List Value).toArray below meth c H locs 0 0 (MQ below (va_Qi (fun (r : Int32) (u : MS) => Q r u ∧ wfM u ∧ shy S u) (fun (u : MS) (t : State) => qE g ad A u t) A) ([.ref (ad 0), .int x1, .int x2] : List Value).toArray s 0 0 A) (F0 m 208 ls [.long t208_0, .int t208_1, .ref (ad 45)]) := by
                            intro U208 t208_0 t208_1 v208_2 v208_3 v208_4 v208_5 v208_6 H locs ls h hT_v208_4 hsh hR hl
                            unfold w_run_J208 at h
                            obtain ⟨hv42, h⟩ := h
                            refine va_last hx hb hR.K hR.P hR.D hR.sS 45 3 (hR.atL (hR.w.2.1 _ fin_92).2.1) rfl (k_ixN (k_ix (n := 1440) (x := t208_1) (a := t208_1.toInt) rfl hv42) (hR.w.2.1 _ fin_92).2.2) dX14_run_208 (fun H locs hP hD hS => ?_)
                            have hR : Rep g ad A s (wJ U208 45 t208_1.toInt.toNat t208_0) H locs := hR.aL (hR.w.2.1 _ fin_92).2.1 hP hD hS
                            obtain ⟨S43, eS43⟩ : ∃ z, z = wJ U208 45 t208_1.toInt.toNat t208_0 := ⟨_, rfl⟩
                            rw [← eS43] at hR
                            replace h := h S43 eS43
                            have hT_v208_4 : qT S43 v208_4 = 12 := (congrArg (fun z => qT z v208_4) eS43).trans hT_v208_4
                            have hsh : shy S S43 := by rw [eS43]; exact hsh
                            refine lv_aload_n hx hb dX14_run_209 rfl (lv_at hl 0 rfl) ?_
                            refine va_get (D := rD g) (ci := 13) (v := .ref (ad 47)) (C := RX14) (T := TX14) (N := 143) hx hb hts in2X14 hown hR.K hR.P 0 (hR.at14 hR.w.1) rfl 94 (by decide) (hts _ kx_625) (fun _ h9 => h9) (congrArg (fun z => some (vf ad z)) (hR.w.2.1 _ fin_94).1) dX14_run_210 ?_
                            refine lv_iload hx hb dX14_run_213 (lv_at hl 4 rfl) ?_
                            refine lv_aload hx hb dX14_run_215 (lv_at hl 3 rfl) ?_
                            refine lv_iload hx hb dX14_run_217 (lv_at hl 5 rfl) ?_
                            obtain ⟨hv44, h⟩ := h
                            have hF : ∀ q, Ns H.size q → A q := fun q h => hA q (Nat.le_trans hR.sS.1 h)
                            refine va_calli (va_runV (As := [.int v208_6]) (rest := [.int v208_5, .ref (ad 47)]) ⟨hx, hb, hml, hown, hts⟩ (s_charAt l H.size (ad v208_4) (ad (v208_4 + 1)) (qN S43 (v208_4 + 1)) (qI S43 (v208_4 + 1)) v208_6 (hR.w.len hT_v208_4) hv44) (cwV 1 hts (gd2_V kx_249 kx_250 kx_251 kx_6 kx_252) rfl rfl rfl (by decide +kernel) ⟨Nat.le_of_ble_eq_true rfl, Nat.le_of_ble_eq_true rfl⟩) ⟨tblind (fun A u U H hv h => by exact tx1.moved hv h), (strR hts hR hE hA hT_v208_4), fun U hU hW9 => ⟨rfl, by rw [hU], str_at hts hR hE hA hT_v208_4 hU hW9, by rw [hU]; exact ((hE.1.kept hR.sS.2.1).narrow hF).moved hW9.alike⟩⟩ rfl rfl hl.1 rfl (lv_room (Nat.le_of_ble_eq_true rfl)) dX14_run_219 ⟨Nat.le_of_ble_eq_true rfl, Nat.le_of_ble_eq_true rfl⟩) hR.sS (fun q _ h => hF q h) hF (fun r45 u9 t9 H1 locs ht9 hvm9 hw9 hB9 hz9 hk9 hS => ?_)
                            obtain rfl : r45 = (cAt S43 v208_4 v208_6) := hw9
                            have hR : Rep g ad A s S43 H1 locs := hR.keep hk9 hS
                            clear hz9 hk9 hvm9 ht9 hB9 hF hS
                            generalize H1 = H at hR ⊢
                            refine lv_bipush (v := 73) hx hb dX14_run_222 (by decide) ?_
                            have J_257 : ∀ (U257 : MS) (t257_0 : Int32) (t257_1 : Int32) (v257_2 : Int32) (v257_3 : Int32) (v257_4 : Nat) (v257_5 : Int32) (v257_6 : Int32) (H : Heap) (locs : List Loc) (ls : Array Slot), w_run_J257 Q (w_run_L165 Q n165) U257 t257_0 t257_1 v257_2 v257_3 v257_4 v257_5 v257_6 → qT U257 v257_4 = 12 → shy S U257 → Rep g ad A s U257 H locs → lv_has ls 7 [(0, .ref (ad 0)), (2, .int v257_2), (3, .int v257_3), (4, .ref (ad v257_4)), (5, .int v257_5), (6, .int v257_6)] → W p l e (headSpec (wt2 yX14_run cX14_run 7 (some .int)) ({ frames := 7, cells := 0, slots := 0, locals := 162 })).room s m ([.ref (ad 0), .int x1, .int x2] : List Value).toArray below meth c H locs 0 0 (MQ below (va_Qi (fun (r : Int32) (u : MS) => Q r u ∧ wfM u ∧ shy S u) (fun (u : MS) (t : State) => qE g ad A u t) A) ([.ref (ad 0), .int x1, .int x2] : List Value).toArray s 0 0 A) (F0 m 257 ls [.int t257_0, .int t257_1, .ref (ad 47)]) := by
                              intro U257 t257_0 t257_1 v257_2 v257_3 v257_4 v257_5 v257_6 H locs ls h hT_v257_4 hsh hR hl
                              unfold w_run_J257 at h
                              obtain ⟨hv46, h⟩ := h
                              refine va_bast hx hb hR.K hR.P hR.D hR.sS 47 0 (hR.atB (hR.w.2.1 _ fin_94).2.1) rfl (k_ixN (k_ix (n := 1440) (x := t257_1) (a := t257_1.toInt) rfl hv46) (hR.w.2.1 _ fin_94).2.2) dX14_run_257 (fun H locs hP hD hS => ?_)
                              have hR : Rep g ad A s (wI U257 47 t257_1.toInt.toNat (vp_nar .byte t257_0)) H locs := hR.aB (hR.w.2.1 _ fin_94).2.1 hP hD hS
                              obtain ⟨S47, eS47⟩ : ∃ z, z = wI U257 47 t257_1.toInt.toNat (vp_nar .byte t257_0) := ⟨_, rfl⟩
                              rw [← eS47] at hR
                              replace h := h S47 eS47
                              have hT_v257_4 : qT S47 v257_4 = 12 := (congrArg (fun z => qT z v257_4) eS47).trans hT_v257_4
                              have hsh : shy S S47 := by rw [eS47]; exact hsh
                              refine lv_aload hx hb dX14_run_258 (lv_at hl 3 rfl) ?_
                              refine lv_iload hx hb dX14_run_260 (lv_at hl 5 rfl) ?_
                              obtain ⟨hv48, h⟩ := h
                              have hF : ∀ q, Ns H.size q → A q := fun q h => hA q (Nat.le_trans hR.sS.1 h)
                              refine va_calli (va_runV (As := [.int v257_6]) (rest := []) ⟨hx, hb, hml, hown, hts⟩ (s_charAt l H.size (ad v257_4) (ad (v257_4 + 1)) (qN S47 (v257_4 + 1)) (qI S47 (v257_4 + 1)) v257_6 (hR.w.len hT_v257_4) hv48) (cwV 1 hts (gd2_V kx_249 kx_250 kx_251 kx_6 kx_252) rfl rfl rfl (by decide +kernel) ⟨Nat.le_of_ble_eq_true rfl, Nat.le_of_ble_eq_true rfl⟩) ⟨tblind (fun A u U H hv h => by exact tx1.moved hv h), (strR hts hR hE hA hT_v257_4), fun U hU hW9 => ⟨rfl, by rw [hU], str_at hts hR hE hA hT_v257_4 hU hW9, by rw [hU]; exact ((hE.1.kept hR.sS.2.1).narrow hF).moved hW9.alike⟩⟩ rfl rfl hl.1 rfl (lv_room (Nat.le_of_ble_eq_true rfl)) dX14_run_262 ⟨Nat.le_of_ble_eq_true rfl, Nat.le_of_ble_eq_true rfl⟩) hR.sS (fun q _ h => hF q h) hF (fun r49 u9 t9 H1 locs ht9 hvm9 hw9 hB9 hz9 hk9 hS => ?_)
                              obtain rfl : r49 = (cAt S47 v257_4 v257_6) := hw9
                              have hR : Rep g ad A s S47 H1 locs := hR.keep hk9 hS
                              clear hz9 hk9 hvm9 ht9 hB9 hF hS
                              generalize H1 = H at hR ⊢
                              refine lv_bipush (v := 74) hx hb dX14_run_265 (by decide) ?_
                              have J_280 : ∀ (U280 : MS) (v280_2 : Int32) (v280_3 : Int32) (v280_4 : Nat) (v280_5 : Int32) (v280_6 : Int32) (H : Heap) (locs : List Loc) (ls : Array Slot), w_run_J280 Q (w_run_L165 Q n165) U280 v280_2 v280_3 v280_4 v280_5 v280_6 → qT U280 v280_4 = 12 → shy S U280 → Rep g ad A s U280 H locs → lv_has ls 7 [(0, .ref (ad 0)), (2, .int v280_2), (3, .int v280_3), (4, .ref (ad v280_4)), (5, .int v280_5), (6, .int v280_6)] → W p l e (headSpec (wt2 yX14_run cX14_run 7 (some .int)) ({ frames := 7, cells := 0, slots := 0, locals := 162 })).room s m ([.ref (ad 0), .int x1, .int x2] : List Value).toArray below meth c H locs 0 0 (MQ below (va_Qi (fun (r : Int32) (u : MS) => Q r u ∧ wfM u ∧ shy S u) (fun (u : MS) (t : State) => qE g ad A u t) A) ([.ref (ad 0), .int x1, .int x2] : List Value).toArray s 0 0 A) (F0 m 280 ls []) := by
                                intro U280 v280_2 v280_3 v280_4 v280_5 v280_6 H locs ls h hT_v280_4 hsh hR hl
                                unfold w_run_J280 at h
                                refine lv_iload hx hb dX14_run_280 (lv_at hl 4 rfl) ?_
                                refine lv_aload hx hb dX14_run_282 (lv_at hl 3 rfl) ?_
                                refine lv_iload hx hb dX14_run_284 (lv_at hl 5 rfl) ?_
                                obtain ⟨hv50, h⟩ := h
                                have hF : ∀ q, Ns H.size q → A q := fun q h => hA q (Nat.le_trans hR.sS.1 h)
                                refine va_calli (va_runV (As := [.int v280_6]) (rest := [.int v280_5]) ⟨hx, hb, hml, hown, hts⟩ (s_charAt l H.size (ad v280_4) (ad (v280_4 + 1)) (qN U280 (v280_4 + 1)) (qI U280 (v280_4 + 1)) v280_6 (hR.w.len hT_v280_4) hv50) (cwV 1 hts (gd2_V kx_249 kx_250 kx_251 kx_6 kx_252) rfl rfl rfl (by decide +kernel) ⟨Nat.le_of_ble_eq_true rfl, Nat.le_of_ble_eq_true rfl⟩) ⟨tblind (fun A u U H hv h => by exact tx1.moved hv h), (strR hts hR hE hA hT_v280_4), fun U hU hW9 => ⟨rfl, by rw [hU], str_at hts hR hE hA hT_v280_4 hU hW9, by rw [hU]; exact ((hE.1.kept hR.sS.2.1).narrow hF).moved hW9.alike⟩⟩ rfl rfl hl.1 rfl (lv_room (Nat.le_of_ble_eq_true rfl)) dX14_run_286 ⟨Nat.le_of_ble_eq_true rfl, Nat.le_of_ble_eq_true rfl⟩) hR.sS (fun q _ h => hF q h) hF (fun r51 u9 t9 H1 locs ht9 hvm9 hw9 hB9 hz9 hk9 hS => ?_)
                                obtain rfl : r51 = (cAt U280 v280_4 v280_6) := hw9
                                have hR : Rep g ad A s U280 H1 locs := hR.keep hk9 hS
                                clear hz9 hk9 hvm9 ht9 hB9 hF hS
                                generalize H1 = H at hR ⊢
                                refine lv_bipush (v := 74) hx hb dX14_run_289 (by decide) ?_
                                have J_299 : ∀ (U299 : MS) (t299_0 : Int32) (t299_1 : Int32) (v299_2 : Int32) (v299_3 : Int32) (v299_4 : Nat) (v299_6 : Int32) (H : Heap) (locs : List Loc) (ls : Array Slot), w_run_J299 Q (w_run_L165 Q n165) U299 t299_0 t299_1 v299_2 v299_3 v299_4 v299_6 → qT U299 v299_4 = 12 → shy S U299 → Rep g ad A s U299 H locs → lv_has ls 7 [(0, .ref (ad 0)), (2, .int v299_2), (3, .int v299_3), (4, .ref (ad v299_4)), (6, .int v299_6)] → W p l e (headSpec (wt2 yX14_run cX14_run 7 (some .int)) ({ frames := 7, cells := 0, slots := 0, locals := 162 })).room s m ([.ref (ad 0), .int x1, .int x2] : List Value).toArray below meth c H locs 0 0 (MQ below (va_Qi (fun (r : Int32) (u : MS) => Q r u ∧ wfM u ∧ shy S u) (fun (u : MS) (t : State) => qE g ad A u t) A) ([.ref (ad 0), .int x1, .int x2] : List Value).toArray s 0 0 A) (F0 m 299 ls [.int t299_0, .int t299_1]) := by
                                  intro U299 t299_0 t299_1 v299_2 v299_3 v299_4 v299_6 H locs ls h hT_v299_4 hsh hR hl
                                  unfold w_run_J299 at h
                                  refine lv_iadd hx hb dX14_run_299 ?_
                                  refine lv_topi (fun z52 ez52 => ?_)
                                  obtain rfl : z52 = (t299_1 + t299_0) := ez52
                                  obtain ⟨a53, ea53⟩ : ∃ z, z = (t299_1 + t299_0) := ⟨_, rfl⟩
                                  rw [← ea53]
                                  replace h := h a53 ea53
                                  refine lv_istore (lv' := [(5, .int a53), (0, .ref (ad 0)), (2, .int v299_2), (3, .int v299_3), (4, .ref (ad v299_4)), (6, .int v299_6)]) hx hb dX14_run_300 hl (by decide) rfl (fun ls hl => ?_)
                                  obtain ⟨a54, ea54⟩ : ∃ z, z = (v299_6 + Int32.ofInt 1) := ⟨_, rfl⟩
                                  replace h := h a54 ea54
                                  refine lv_iinc (v := a54) (lv' := [(6, .int a54), (5, .int a53), (0, .ref (ad 0)), (2, .int v299_2), (3, .int v299_3), (4, .ref (ad v299_4))]) hx hb dX14_run_302 hl (k := 5) rfl ea54.symm (by decide) rfl (fun ls hl => ?_)
                                  refine lv_goto (tgt := 165) hx hb dX14_run_305 (by decide) ?_
                                  exact ih_165 U299 v299_2 v299_3 v299_4 a53 a54 _ _ ls h hT_v299_4 hsh hR (lv_sub hl [2, 3, 4, 5, 1, 0] rfl)
                                refine lv_icmp_ne (tgt := 298) hx hb dX14_run_291 (by decide) (fun c55 => ?_) (fun c55 => ?_)
                                · replace h := h.2 (k_ne rfl (by decide) c55)
                                  refine lv_iconst (v := 1) hx hb dX14_run_298 (by decide) ?_
                                  exact J_299 U280 1 v280_5 v280_2 v280_3 v280_4 v280_6 _ _ ls h hT_v280_4 hsh hR (lv_sub hl [0, 1, 2, 3, 5] rfl)
                                · replace h := h.1 (k_eq rfl (by decide) c55)
                                  refine lv_iconst (v := 2) hx hb dX14_run_294 (by decide) ?_
                                  refine lv_goto (tgt := 299) hx hb dX14_run_295 (by decide) ?_
                                  exact J_299 U280 2 v280_5 v280_2 v280_3 v280_4 v280_6 _ _ ls h hT_v280_4 hsh hR (lv_sub hl [0, 1, 2, 3, 5] rfl)
                              refine lv_icmp_ne (tgt := 280) hx hb dX14_run_267 (by decide) (fun c56 => ?_) (fun c56 => ?_)
                              · replace h := h.2 (k_ne rfl (by decide) c56)
                                exact J_280 S47 v257_2 v257_3 v257_4 v257_5 v257_6 _ _ ls h hT_v257_4 hsh hR (lv_sub hl [0, 1, 2, 3, 4, 5] rfl)
                              · replace h := h.1 (k_eq rfl (by decide) c56)
                                refine lv_aload_n hx hb dX14_run_270 rfl (lv_at hl 0 rfl) ?_
                                refine va_get (D := rD g) (ci := 13) (v := .ref (ad 47)) (C := RX14) (T := TX14) (N := 143) hx hb hts in2X14 hown hR.K hR.P 0 (hR.at14 hR.w.1) rfl 94 (by decide) (hts _ kx_625) (fun _ h9 => h9) (congrArg (fun z => some (vf ad z)) (hR.w.2.1 _ fin_94).1) dX14_run_271 ?_
                                refine lv_iload hx hb dX14_run_274 (lv_at hl 4 rfl) ?_
                                refine lv_iconst (v := 1) hx hb dX14_run_276 (by decide) ?_
                                refine lv_iadd hx hb dX14_run_277 ?_
                                refine lv_topi (fun z57 ez57 => ?_)
                                obtain rfl : z57 = (v257_5 + (1 : Int32)) := ez57
                                refine lv_iconst (v := 3) hx hb dX14_run_278 (by decide) ?_
                                obtain ⟨hv58, h⟩ := h
                                refine va_bast hx hb hR.K hR.P hR.D hR.sS 47 0 (hR.atB (hR.w.2.1 _ fin_94).2.1) rfl (k_ixN (k_ix (n := 1440) (x := (v257_5 + (1 : Int32))) (a := (v257_5 + (1 : Int32)).toInt) rfl hv58) (hR.w.2.1 _ fin_94).2.2) dX14_run_279 (fun H locs hP hD hS => ?_)
                                have hR : Rep g ad A s (wI S47 47 (((v257_5 + (1 : Int32)).toInt).toNat) (vp_nar .byte (3 : Int32))) H locs := hR.aB (hR.w.2.1 _ fin_94).2.1 hP hD hS
                                obtain ⟨S59, eS59⟩ : ∃ z, z = wI S47 47 (((v257_5 + (1 : Int32)).toInt).toNat) (vp_nar .byte (3 : Int32)) := ⟨_, rfl⟩
                                rw [← eS59] at hR
                                replace h := h S59 eS59
                                have hT_v257_4 : qT S59 v257_4 = 12 := (congrArg (fun z => qT z v257_4) eS59).trans hT_v257_4
                                have hsh : shy S S59 := by rw [eS59]; exact hsh
                                exact J_280 S59 v257_2 v257_3 v257_4 v257_5 v257_6 _ _ ls h hT_v257_4 hsh hR (lv_sub hl [0, 1, 2, 3, 4, 5] rfl)
                            refine lv_icmp_ne (tgt := 231) hx hb dX14_run_224 (by decide) (fun c60 => ?_) (fun c60 => ?_)
                            · replace h := h.2 (k_ne rfl (by decide) c60)
                              refine lv_aload hx hb dX14_run_231 (lv_at hl 3 rfl) ?_
                              refine lv_iload hx hb dX14_run_233 (lv_at hl 5 rfl) ?_
                              obtain ⟨hv61, h⟩ := h
                              have hF : ∀ q, Ns H.size q → A q := fun q h => hA q (Nat.le_trans hR.sS.1 h)
                              refine va_calli (va_runV (As := [.int v208_6]) (rest := [.int v208_5, .ref (ad 47)]) ⟨hx, hb, hml, hown, hts⟩ (s_charAt l H.size (ad v208_4) (ad (v208_4 + 1)) (qN S43 (v208_4 + 1)) (qI S43 (v208_4 + 1)) v208_6 (hR.w.len hT_v208_4) hv61) (cwV 1 hts (gd2_V kx_249 kx_250 kx_251 kx_6 kx_252) rfl rfl rfl (by decide +kernel) ⟨Nat.le_of_ble_eq_true rfl, Nat.le_of_ble_eq_true rfl⟩) ⟨tblind (fun A u U H hv h => by exact tx1.moved hv h), (strR hts hR hE hA hT_v208_4), fun U hU hW9 => ⟨rfl, by rw [hU], str_at hts hR hE hA hT_v208_4 hU hW9, by rw [hU]; exact ((hE.1.kept hR.sS.2.1).narrow hF).moved hW9.alike⟩⟩ rfl rfl hl.1 rfl (lv_room (Nat.le_of_ble_eq_true rfl)) dX14_run_235 ⟨Nat.le_of_ble_eq_true rfl, Nat.le_of_ble_eq_true rfl⟩) hR.sS (fun q _ h => hF q h) hF (fun r62 u9 t9 H1 locs ht9 hvm9 hw9 hB9 hz9 hk9 hS => ?_)
                              obtain rfl : r62 = (cAt S43 v208_4 v208_6) := hw9
                              have hR : Rep g ad A s S43 H1 locs := hR.keep hk9 hS
                              clear hz9 hk9 hvm9 ht9 hB9 hF hS
                              generalize H1 = H at hR ⊢
                              refine lv_bipush (v := 74) hx hb dX14_run_238 (by decide) ?_
                              refine lv_icmp_ne (tgt := 247) hx hb dX14_run_240 (by decide) (fun c63 => ?_) (fun c63 => ?_)
                              · replace h := h.2 (k_ne rfl (by decide) c63)
                                refine lv_aload_n hx hb dX14_run_247 rfl (lv_at hl 0 rfl) ?_
                                refine va_get (D := rD g) (ci := 13) (v := .ref (ad 41)) (C := RX14) (T := TX14) (N := 143) hx hb hts in2X14 hown hR.K hR.P 0 (hR.at14 hR.w.1) rfl 87 (by decide) (hts _ kx_614) (fun _ h9 => h9) (congrArg (fun z => some (vf ad z)) (hR.w.2.1 _ fin_87).1) dX14_run_248 ?_
                                refine lv_iload hx hb dX14_run_251 (lv_at hl 5 rfl) ?_
                                obtain ⟨hv64, h⟩ := h
                                refine va_lald hx hb hR.K hR.P 41 3 (hR.atL (hR.w.2.1 _ fin_87).2.1) rfl (k_ixN (k_ix (n := 8) (x := v208_6) (a := v208_6.toInt) rfl hv64) (hR.w.2.1 _ fin_87).2.2) dX14_run_253 ?_
                                refine lv_topl (fun z65 ez65 => ?_)
                                obtain rfl : z65 = (qJ S43 41 v208_6.toInt.toNat) := ez65
                                obtain ⟨hv66, h⟩ := h
                                have hFc := rfree hR hA
                                refine va_calli (va_runS (As := [.long (qJ S43 41 v208_6.toInt.toNat)]) (rest := [.int v208_5, .ref (ad 47)]) ⟨hx, hb, hml, hown, hts⟩ (r_thingTag l g ad H.size S43 (qJ S43 41 v208_6.toInt.toNat) hR.w  hv66) (va_cwS 1 hts (gd2_S kx_626 kx_627 kx_177 kx_628) rfl rfl rfl (by decide +kernel) ⟨Nat.le_of_ble_eq_true rfl, Nat.le_of_ble_eq_true rfl⟩) ⟨rblind, fun U hU hW9 => rmk hU hW9 hR hex hE hFc⟩ rfl rfl hl.1 rfl (lv_room (Nat.le_of_ble_eq_true rfl)) dX14_run_254 ⟨Nat.le_of_ble_eq_true rfl, Nat.le_of_ble_eq_true rfl⟩) hR.sS (fun q _ h => hFc q h) hFc (fun r67 u9 t9 H1 locs ht9 hvm9 hw9 hB9 hz9 hk9 hS => ?_)
                                have hR : Rep g ad A s S43 H1 locs := hR.call ht9 hB9 hR.w hS hFc
                                obtain rfl : r67 = (f_thingTag S43 (qJ S43 41 v208_6.toInt.toNat)) := hw9
                                clear hB9 hz9 hk9 hvm9 ht9 hS
                                generalize H1 = H at hR ⊢
                                exact J_257 S43 (f_thingTag S43 (qJ S43 41 v208_6.toInt.toNat)) v208_5 v208_2 v208_3 v208_4 v208_5 v208_6 _ _ ls h hT_v208_4 hsh hR (lv_sub hl [0, 1, 2, 3, 4, 5] rfl)
                              · replace h := h.1 (k_eq rfl (by decide) c63)
                                refine lv_iconst (v := 2) hx hb dX14_run_243 (by decide) ?_
                                refine lv_goto (tgt := 257) hx hb dX14_run_244 (by decide) ?_
                                exact J_257 S43 2 v208_5 v208_2 v208_3 v208_4 v208_5 v208_6 _ _ ls h hT_v208_4 hsh hR (lv_sub hl [0, 1, 2, 3, 4, 5] rfl)
                            · replace h := h.1 (k_eq rfl (by decide) c60)
                              refine lv_iconst (v := 1) hx hb dX14_run_227 (by decide) ?_
                              refine lv_goto (tgt := 257) hx hb dX14_run_228 (by decide) ?_
                              exact J_257 S43 1 v208_5 v208_2 v208_3 v208_4 v208_5 v208_6 _ _ ls h hT_v208_4 hsh hR (lv_sub hl [0, 1, 2, 3, 4, 5] rfl)
                          refine lv_icmp_ne (tgt := 201) hx hb dX14_run_186 (by decide) (fun c69 => ?_) (fun c69 => ?_)
                          · replace h := h.2 (k_ne rfl (by decide) c69)
                            refine lv_aload_n hx hb dX14_run_201 rfl (lv_at hl 0 rfl) ?_
                            refine va_get (D := rD g) (ci := 13) (v := .ref (ad 41)) (C := RX14) (T := TX14) (N := 143) hx hb hts in2X14 hown hR.K hR.P 0 (hR.at14 hR.w.1) rfl 87 (by decide) (hts _ kx_614) (fun _ h9 => h9) (congrArg (fun z => some (vf ad z)) (hR.w.2.1 _ fin_87).1) dX14_run_202 ?_
                            refine lv_iload hx hb dX14_run_205 (lv_at hl 5 rfl) ?_
                            obtain ⟨hv70, h⟩ := h
                            refine va_lald hx hb hR.K hR.P 41 3 (hR.atL (hR.w.2.1 _ fin_87).2.1) rfl (k_ixN (k_ix (n := 8) (x := v165_6) (a := v165_6.toInt) rfl hv70) (hR.w.2.1 _ fin_87).2.2) dX14_run_207 ?_
                            refine lv_topl (fun z71 ez71 => ?_)
                            obtain rfl : z71 = (qJ U165 41 v165_6.toInt.toNat) := ez71
                            exact J_208 U165 (qJ U165 41 v165_6.toInt.toNat) v165_5 v165_2 v165_3 v165_4 v165_5 v165_6 _ _ ls h hT_v165_4 hsh hR (lv_sub hl [0, 1, 2, 3, 4, 5] rfl)
                          · replace h := h.1 (k_eq rfl (by decide) c69)
                            refine lv_aload_n hx hb dX14_run_189 rfl (lv_at hl 0 rfl) ?_
                            refine va_get (D := rD g) (ci := 13) (v := .ref (ad 41)) (C := RX14) (T := TX14) (N := 143) hx hb hts in2X14 hown hR.K hR.P 0 (hR.at14 hR.w.1) rfl 87 (by decide) (hts _ kx_614) (fun _ h9 => h9) (congrArg (fun z => some (vf ad z)) (hR.w.2.1 _ fin_87).1) dX14_run_190 ?_
                            refine lv_iload hx hb dX14_run_193 (lv_at hl 5 rfl) ?_
                            obtain ⟨hv72, h⟩ := h
                            refine va_lald hx hb hR.K hR.P 41 3 (hR.atL (hR.w.2.1 _ fin_87).2.1) rfl (k_ixN (k_ix (n := 8) (x := v165_6) (a := v165_6.toInt) rfl hv72) (hR.w.2.1 _ fin_87).2.2) dX14_run_195 ?_
                            refine lv_topl (fun z73 ez73 => ?_)
                            obtain rfl : z73 = (qJ U165 41 v165_6.toInt.toNat) := ez73
                            refine lv_l2i (v := ((qJ U165 41 v165_6.toInt.toNat).toInt32)) hx hb dX14_run_196 rfl ?_
                            refine lv_i2l (v := (((qJ U165 41 v165_6.toInt.toNat).toInt32).toInt64)) hx hb dX14_run_197 rfl ?_
                            refine lv_goto (tgt := 208) hx hb dX14_run_198 (by decide) ?_
                            exact J_208 U165 (((qJ U165 41 v165_6.toInt.toNat).toInt32).toInt64) v165_5 v165_2 v165_3 v165_4 v165_5 v165_6 _ _ ls h hT_v165_4 hsh hR (lv_sub hl [0, 1, 2, 3, 4, 5] rfl)
                    obtain ⟨n9, h⟩ := h
                    exact J_165 n9 S27 v60_2 v60_3 v60_4 0 0 _ _ ls h hT_v60_4 hsh hR (lv_sub hl [2, 4, 5, 6, 1, 0] rfl)
                  · replace h := h.2 (k_nle rfl (by decide) c20)
                    refine lv_bipush (v := (-3)) hx hb dX14_run_126 (by decide) ?_
                    exact W.iret (v := (-3)) hx hb hr (fun t9 ht9 hW9 => ⟨⟨_, U60, rfl, ⟨h, hR.w, hsh⟩, ⟨by rw [ht9]; exact hR.P, hR.D⟩⟩, hR.sS.F ht9⟩) hR.sS.2.2 dX14_run_128
              · replace h := h.2 (k_nle rfl rfl c18)
                refine lv_aload hx hb dX14_run_66 (lv_at hl 4 rfl) ?_
                refine lv_iload hx hb dX14_run_68 (lv_at hl 5 rfl) ?_
                obtain ⟨hv74, h⟩ := h
                have hF : ∀ q, Ns H.size q → A q := fun q h => hA q (Nat.le_trans hR.sS.1 h)
                refine va_calli (va_runV (As := [.int v60_5]) (rest := []) ⟨hx, hb, hml, hown, hts⟩ (s_charAt l H.size (ad v60_4) (ad (v60_4 + 1)) (qN U60 (v60_4 + 1)) (qI U60 (v60_4 + 1)) v60_5 (hR.w.len hT_v60_4) hv74) (cwV 1 hts (gd2_V kx_249 kx_250 kx_251 kx_6 kx_252) rfl rfl rfl (by decide +kernel) ⟨Nat.le_of_ble_eq_true rfl, Nat.le_of_ble_eq_true rfl⟩) ⟨tblind (fun A u U H hv h => by exact tx1.moved hv h), (strR hts hR hE hA hT_v60_4), fun U hU hW9 => ⟨rfl, by rw [hU], str_at hts hR hE hA hT_v60_4 hU hW9, by rw [hU]; exact ((hE.1.kept hR.sS.2.1).narrow hF).moved hW9.alike⟩⟩ rfl rfl hl.1 rfl (lv_room (Nat.le_of_ble_eq_true rfl)) dX14_run_70 ⟨Nat.le_of_ble_eq_true rfl, Nat.le_of_ble_eq_true rfl⟩) hR.sS (fun q _ h => hF q h) hF (fun r75 u9 t9 H1 locs ht9 hvm9 hw9 hB9 hz9 hk9 hS => ?_)
                obtain rfl : r75 = (cAt U60 v60_4 v60_5) := hw9
                have hR : Rep g ad A s U60 H1 locs := hR.keep hk9 hS
                clear hz9 hk9 hvm9 ht9 hB9 hF hS
                generalize H1 = H at hR ⊢
                refine lv_bipush (v := 65) hx hb dX14_run_73 (by decide) ?_
                have J_109 : ∀ (U109 : MS) (v109_1 : Int32) (v109_2 : Int32) (v109_3 : Int32) (v109_4 : Nat) (v109_5 : Int32) (H : Heap) (locs : List Loc) (ls : Array Slot), w_run_J109 Q (w_run_L60 Q n60) U109 v109_1 v109_2 v109_3 v109_4 v109_5 → qT U109 v109_4 = 12 → shy S U109 → Rep g ad A s U109 H locs → lv_has ls 7 [(0, .ref (ad 0)), (1, .int v109_1), (2, .int v109_2), (3, .int v109_3), (4, .ref (ad v109_4)), (5, .int v109_5)] → W p l e (headSpec (wt2 yX14_run cX14_run 7 (some .int)) ({ frames := 7, cells := 0, slots := 0, locals := 162 })).room s m ([.ref (ad 0), .int x1, .int x2] : List Value).toArray below meth c H locs 0 0 (MQ below (va_Qi (fun (r : Int32) (u : MS) => Q r u ∧ wfM u ∧ shy S u) (fun (u : MS) (t : State) => qE g ad A u t) A) ([.ref (ad 0), .int x1, .int x2] : List Value).toArray s 0 0 A) (F0 m 109 ls []) := by
                  intro U109 v109_1 v109_2 v109_3 v109_4 v109_5 H locs ls h hT_v109_4 hsh hR hl
                  unfold w_run_J109 at h
                  obtain ⟨a76, ea76⟩ : ∃ z, z = (v109_5 + Int32.ofInt 1) := ⟨_, rfl⟩
                  replace h := h a76 ea76
                  refine lv_iinc (v := a76) (lv' := [(5, .int a76), (0, .ref (ad 0)), (1, .int v109_1), (2, .int v109_2), (3, .int v109_3), (4, .ref (ad v109_4))]) hx hb dX14_run_109 hl (k := 5) rfl ea76.symm (by decide) rfl (fun ls hl => ?_)
                  refine lv_goto (tgt := 60) hx hb dX14_run_112 (by decide) ?_
                  exact ih_60 U109 v109_1 v109_2 v109_3 v109_4 a76 _ _ ls h hT_v109_4 hsh hR (lv_sub hl [1, 2, 3, 4, 5, 0] rfl)
                refine lv_icmp_ne (tgt := 109) hx hb dX14_run_75 (by decide) (fun c77 => ?_) (fun c77 => ?_)
                · replace h := h.2 (k_ne rfl (by decide) c77)
                  exact J_109 U60 v60_1 v60_2 v60_3 v60_4 v60_5 _ _ ls h hT_v60_4 hsh hR (lv_sub hl [0, 1, 2, 3, 4, 5] rfl)
                · replace h := h.1 (k_eq rfl (by decide) c77)
                  refine lv_aload_n hx hb dX14_run_78 rfl (lv_at hl 0 rfl) ?_
                  refine va_get (D := rD g) (ci := 13) (v := .ref (ad 41)) (C := RX14) (T := TX14) (N := 143) hx hb hts in2X14 hown hR.K hR.P 0 (hR.at14 hR.w.1) rfl 87 (by decide) (hts _ kx_614) (fun _ h9 => h9) (congrArg (fun z => some (vf ad z)) (hR.w.2.1 _ fin_87).1) dX14_run_79 ?_
                  refine lv_iload hx hb dX14_run_82 (lv_at hl 5 rfl) ?_
                  obtain ⟨hv78, h⟩ := h
                  refine va_lald hx hb hR.K hR.P 41 3 (hR.atL (hR.w.2.1 _ fin_87).2.1) rfl (k_ixN (k_ix (n := 8) (x := v60_5) (a := v60_5.toInt) rfl hv78) (hR.w.2.1 _ fin_87).2.2) dX14_run_84 ?_
                  refine lv_topl (fun z79 ez79 => ?_)
                  obtain rfl : z79 = (qJ U60 41 v60_5.toInt.toNat) := ez79
                  refine lv_lconst (v := 0) hx hb dX14_run_85 (by decide) ?_
                  refine W.lcmp hx hb dX14_run_86 ?_
                  refine lv_topi (fun z80 ez80 => ?_)
                  obtain rfl : z80 = (lg_cmp (qJ U60 41 v60_5.toInt.toNat) 0) := ez80
                  refine lv_if_lt (tgt := 106) hx hb dX14_run_87 (by decide) (fun c81 => ?_) (fun c81 => ?_)
                  · replace h := h.1 (k_lt rfl (by decide) c81)
                    refine lv_bipush (v := (-2)) hx hb dX14_run_106 (by decide) ?_
                    exact W.iret (v := (-2)) hx hb hr (fun t9 ht9 hW9 => ⟨⟨_, U60, rfl, ⟨h, hR.w, hsh⟩, ⟨by rw [ht9]; exact hR.P, hR.D⟩⟩, hR.sS.F ht9⟩) hR.sS.2.2 dX14_run_108
                  · replace h := h.2 (k_nlt rfl (by decide) c81)
                    refine lv_aload_n hx hb dX14_run_90 rfl (lv_at hl 0 rfl) ?_
                    refine va_get (D := rD g) (ci := 13) (v := .ref (ad 41)) (C := RX14) (T := TX14) (N := 143) hx hb hts in2X14 hown hR.K hR.P 0 (hR.at14 hR.w.1) rfl 87 (by decide) (hts _ kx_614) (fun _ h9 => h9) (congrArg (fun z => some (vf ad z)) (hR.w.2.1 _ fin_87).1) dX14_run_91 ?_
                    refine lv_iload hx hb dX14_run_94 (lv_at hl 5 rfl) ?_
                    obtain ⟨hv82, h⟩ := h
                    refine va_lald hx hb hR.K hR.P 41 3 (hR.atL (hR.w.2.1 _ fin_87).2.1) rfl (k_ixN (k_ix (n := 8) (x := v60_5) (a := v60_5.toInt) rfl hv82) (hR.w.2.1 _ fin_87).2.2) dX14_run_96 ?_
                    refine lv_topl (fun z83 ez83 => ?_)
                    obtain rfl : z83 = (qJ U60 41 v60_5.toInt.toNat) := ez83
                    refine lv_aload_n hx hb dX14_run_97 rfl (lv_at hl 0 rfl) ?_
                    refine va_get (D := rD g) (ci := 13) (v := .int (qI U60 0 85)) (C := RX14) (T := TX14) (N := 143) hx hb hts in2X14 hown hR.K hR.P 0 (hR.at14 hR.w.1) rfl 85 (by decide) (hts _ kx_609) (fun _ h9 => h9) rfl dX14_run_98 ?_
                    refine lv_i2l (v := ((qI U60 0 85).toInt64)) hx hb dX14_run_101 rfl ?_
                    refine W.lcmp hx hb dX14_run_102 ?_
                    refine lv_topi (fun z84 ez84 => ?_)
                    obtain rfl : z84 = (lg_cmp (qJ U60 41 v60_5.toInt.toNat) ((qI U60 0 85).toInt64)) := ez84
                    refine lv_if_le (tgt := 109) hx hb dX14_run_103 (by decide) (fun c85 => ?_) (fun c85 => ?_)
                    · replace h := h.1 (k_le rfl (by decide) c85)
                      exact J_109 U60 v60_1 v60_2 v60_3 v60_4 v60_5 _ _ ls h hT_v60_4 hsh hR (lv_sub hl [0, 1, 2, 3, 4, 5] rfl)
                    · replace h := h.2 (k_nle rfl (by decide) c85)
                      refine lv_bipush (v := (-2)) hx hb dX14_run_106 (by decide) ?_
                      exact W.iret (v := (-2)) hx hb hr (fun t9 ht9 hW9 => ⟨⟨_, U60, rfl, ⟨h, hR.w, hsh⟩, ⟨by rw [ht9]; exact hR.P, hR.D⟩⟩, hR.sS.F ht9⟩) hR.sS.2.2 dX14_run_108
          obtain ⟨n9, h⟩ := h
          exact J_60 n9 S2 x1 x2 a1 (qO S2 (qO S2 (qO S2 0 80) 10) x1.toInt.toNat) 0 _ _ ls h hT_b15 hsh hR (lv_sub hl [3, 4, 5, 2, 1, 0] rfl)
        · replace h := h.2 (k_ne rfl rfl c17)
          refine lv_bipush (v := (-2)) hx hb dX14_run_54 (by decide) ?_
          exact W.iret (v := (-2)) hx hb hr (fun t9 ht9 hW9 => ⟨⟨_, S2, rfl, ⟨h, hR.w, hsh⟩, ⟨by rw [ht9]; exact hR.P, hR.D⟩⟩, hR.sS.F ht9⟩) hR.sS.2.2 dX14_run_56
      · replace h := h.2 (k_nlt rfl rfl c8)
        refine lv_iconst (v := (-1)) hx hb dX14_run_32 (by decide) ?_
        exact W.iret (v := (-1)) hx hb hr (fun t9 ht9 hW9 => ⟨⟨_, S2, rfl, ⟨h, hR.w, hsh⟩, ⟨by rw [ht9]; exact hR.P, hR.D⟩⟩, hR.sS.F ht9⟩) hR.sS.2.2 dX14_run_33
