def f_switchFrom (S : MS) (x0 : Int32) : Int32 := ((x0 + (1 : Int32)) + ((3 : Int32) - (x0 - x0 / (4 : Int32) * (4 : Int32))))
def d_switchFrom (S : MS) (x0 : Int32) : Prop := True
set_option maxHeartbeats 2000000 in
set_option maxRecDepth 100000 in
theorem r_switchFrom (l : Launch) (g : Gr) (ad : Nat → Nat) (sz : Nat) (S : MS) (x0 : Int32) (hw : wfM S) (hd : d_switchFrom S x0) : Met l yX14_switchFrom (wt2 yX14_switchFrom cX14_switchFrom 1 (some .int)) ({ frames := 0, cells := 0, slots := 0, locals := 0 }) (va_Pc [.int x0] (st_R g ad sz S)) (va_Qi (fun (r : Int32) (_ : Unit) => r = f_switchFrom S x0) (fun (_ : Unit) (t : State) => qE g ad (va_A (Wd g ad S) sz) S t) (va_A (Wd g ad S) sz)) 0 0 (va_A (Wd g ad S) sz) := by
  refine Met.ofW (cc := cX14_switchFrom) (maxL := 1) (ret := (some .int)) (by decide) rfl ?_
  intro p e s m args below meth c s₁ B hml hv
  obtain ⟨rfl, hsz, hP, hK, hD0, hex, hE⟩ := hv
  have hx := B.exec
  have hb := B.bytes
  have hr := B.returns
  have hts0 := atoms_spec (ws := wt2 yX14_switchFrom cX14_switchFrom 1 (some .int)) B.pre
  have hts : ∀ w ∈ tb2, w.before _ s = true := fun w h => hts0 w (List.mem_cons_of_mem _ h)
  have hown : s.vm.findClass RX14 = some m.cls := findClass_of_methodNamed B.named
  subst hsz
  have hD := hD0.self (sz := s.heap.size)
  generalize hAe : va_A (Wd g ad S) s.heap.size = A at hD hE ⊢
  have hA : ∀ q : Nat, s.heap.size ≤ q → A q := fun q h => by rw [← hAe]; exact Or.inr h
  have hR : Rep g ad A s S s.heap [] := ⟨hK, hP, hD, va_S.rf, hw⟩
  clear hK hP hD hD0
  have hl := lv_entry ([.int x0]) (n := 1) (Nat.le_of_ble_eq_true rfl)
  rw [lg_entry_eq]
  generalize (lg_sl ([.int x0]) ++ List.replicate (1 - (lg_sl ([.int x0])).length) Slot.unset).toArray = ls at hl ⊢
  have hl : lv_has ls 1 [(0, .int x0)] := hl
  obtain ⟨r0, hf⟩ : ∃ r0, f_switchFrom S x0 = r0 := ⟨_, rfl⟩
  have hf0 := hf
  unfold f_switchFrom at hf
  unfold d_switchFrom at hd
  refine lv_iload_n hx hb dX14_switchFrom_0 rfl (lv_at hl 0 rfl) ?_
  refine lv_iconst (v := 1) hx hb dX14_switchFrom_1 (by decide) ?_
  refine lv_iadd hx hb dX14_switchFrom_2 ?_
  refine lv_topi (fun z1 ez1 => ?_)
  obtain rfl : z1 = (x0 + (1 : Int32)) := ez1
  refine lv_iconst (v := 3) hx hb dX14_switchFrom_3 (by decide) ?_
  refine lv_iload_n hx hb dX14_switchFrom_4 rfl (lv_at hl 0 rfl) ?_
  refine lv_iconst (v := 4) hx hb dX14_switchFrom_5 (by decide) ?_
  refine lv_irem hx hb dX14_switchFrom_6 (by decide) ?_
  refine lv_topi (fun z2 ez2 => ?_)
  obtain rfl : z2 = (x0 - x0 / (4 : Int32) * (4 : Int32)) := ez2
  refine lv_isub hx hb dX14_switchFrom_7 ?_
  refine lv_topi (fun z3 ez3 => ?_)
  obtain rfl : z3 = ((3 : Int32) - (x0 - x0 / (4 : Int32) * (4 : Int32))) := ez3
  refine lv_iadd hx hb dX14_switchFrom_8 ?_
  refine lv_topi (fun z4 ez4 => ?_)
  obtain rfl : z4 = ((x0 + (1 : Int32)) + ((3 : Int32) - (x0 - x0 / (4 : Int32) * (4 : Int32)))) := ez4
  exact W.iret (v := ((x0 + (1 : Int32)) + ((3 : Int32) - (x0 - x0 / (4 : Int32) * (4 : Int32))))) hx hb hr (fun t9 ht9 hW9 => ⟨⟨_, (), rfl, hf.trans hf0.symm, ⟨by rw [ht9]; exact hR.P, hR.D⟩⟩, hR.sS.F ht9⟩) hR.sS.2.2 dX14_switchFrom_9
def w_switchSpan_L136 (Q : Int32 → MS → Prop) : Nat → MS → Int32 → Int32 → Int32 → Int32 → Prop
  | 0, _, _, _, _, _ => False
  | n136 + 1, U136, v136_1, v136_3, v136_4, v136_5 => ((v136_4.toInt ≤ v136_5.toInt → Q (((v136_3 + (8 : Int32)) + ((8 : Int32) * v136_4)) - v136_1) U136) ∧ (¬ v136_4.toInt ≤ v136_5.toInt → (d_codeFour U136 ((v136_3 + (8 : Int32)) + ((8 : Int32) * v136_5)) ∧ (d_codeFour U136 (v136_3 + ((8 : Int32) * v136_5)) ∧ (((f_codeFour U136 (v136_3 + ((8 : Int32) * v136_5))).toInt < (f_codeFour U136 ((v136_3 + (8 : Int32)) + ((8 : Int32) * v136_5))).toInt → (∀ a36 : Int32, a36 = (v136_5 + Int32.ofInt 1) → (w_switchSpan_L136 Q n136) U136 v136_1 v136_3 v136_4 a36)) ∧ (¬ (f_codeFour U136 (v136_3 + ((8 : Int32) * v136_5))).toInt < (f_codeFour U136 ((v136_3 + (8 : Int32)) + ((8 : Int32) * v136_5))).toInt → Q (0 : Int32) U136))))))
def w_switchSpan_J73 (Q : Int32 → MS → Prop) (U73 : MS) : Prop := Q (0 : Int32) U73
def w_switchSpan_J20 (Q : Int32 → MS → Prop) (U20 : MS) (t20_0 : Int32) (t20_1 : Int32) (v20_1 : Int32) (v20_2 : Int32) (v20_3 : Int32) : Prop := (((t20_1 + t20_0).toInt ≤ (qI U20 0 37).toInt → ((v20_2.toInt = 170 → (d_codeFour U20 (v20_3 + (8 : Int32)) ∧ (d_codeFour U20 (v20_3 + (4 : Int32)) ∧ (∀ a46 : Int64, a46 = (((f_codeFour U20 (v20_3 + (8 : Int32))).toInt64) - ((f_codeFour U20 (v20_3 + (4 : Int32))).toInt64)) → (((lg_cmp a46 0).toInt < 0 → w_switchSpan_J73 Q U20) ∧ (¬ (lg_cmp a46 0).toInt < 0 → (((lg_cmp a46 (200 : Int64)).toInt ≤ 0 → Q (((v20_3 + (12 : Int32)) + ((4 : Int32) * ((a46.toInt32) + (1 : Int32)))) - v20_1) U20) ∧ (¬ (lg_cmp a46 (200 : Int64)).toInt ≤ 0 → w_switchSpan_J73 Q U20)))))))) ∧ (¬ v20_2.toInt = 170 → (d_codeFour U20 (v20_3 + (4 : Int32)) ∧ (∀ a12 : Int32, a12 = (f_codeFour U20 (v20_3 + (4 : Int32))) → ((a12.toInt < 0 → Q (0 : Int32) U20) ∧ (¬ a12.toInt < 0 → ((200 < a12.toInt → Q (0 : Int32) U20) ∧ (¬ 200 < a12.toInt → ((((v20_3 + (8 : Int32)) + ((8 : Int32) * a12)).toInt ≤ (qI U20 0 37).toInt → (∃ n, w_switchSpan_L136 Q n U20 v20_1 v20_3 a12 1)) ∧ (¬ ((v20_3 + (8 : Int32)) + ((8 : Int32) * a12)).toInt ≤ (qI U20 0 37).toInt → Q (0 : Int32) U20))))))))))) ∧ (¬ (t20_1 + t20_0).toInt ≤ (qI U20 0 37).toInt → Q (0 : Int32) U20))
def w_switchSpan (S : MS) (x1 : Int32) (x2 : Int32) (Q : Int32 → MS → Prop) : Prop := (d_switchFrom S x1 ∧ (∀ a4 : Int32, a4 = (f_switchFrom S x1) → ((x2.toInt = 170 → w_switchSpan_J20 Q S 12 a4 x1 x2 a4) ∧ (¬ x2.toInt = 170 → w_switchSpan_J20 Q S 8 a4 x1 x2 a4))))
set_option maxHeartbeats 2000000 in
set_option maxRecDepth 100000 in
theorem r_switchSpan (l : Launch) (g : Gr) (ad : Nat → Nat) (sz : Nat) (S : MS) (x1 : Int32) (x2 : Int32) (hw : wfM S) (Q : Int32 → MS → Prop) (h : w_switchSpan S x1 x2 Q) : Met l yX14_switchSpan (wt2 yX14_switchSpan cX14_switchSpan 6 (some .int)) ({ frames := 4, cells := 0, slots := 0, locals := 84 }) (va_Pc [.ref (ad 0), .int x1, .int x2] (st_R g ad sz S)) (va_Qi (fun (r : Int32) (u : MS) => Q r u ∧ wfM u ∧ shy S u) (fun (u : MS) (t : State) => qE g ad (va_A (Wd g ad S) sz) u t) (va_A (Wd g ad S) sz)) 0 0 (va_A (Wd g ad S) sz) := by
  refine Met.ofW (cc := cX14_switchSpan) (maxL := 6) (ret := (some .int)) (by decide) rfl ?_
  intro p e s m args below meth c s₁ B hml hv
  obtain ⟨rfl, hsz, hP, hK, hD0, hex, hE⟩ := hv
  have hx := B.exec
  have hb := B.bytes
  have hr := B.returns
  have hts0 := atoms_spec (ws := wt2 yX14_switchSpan cX14_switchSpan 6 (some .int)) B.pre
  have hts : ∀ w ∈ tb2, w.before _ s = true := fun w h => hts0 w (List.mem_cons_of_mem _ h)
  have hown : s.vm.findClass RX14 = some m.cls := findClass_of_methodNamed B.named
  subst hsz
  have hD := hD0.self (sz := s.heap.size)
  generalize hAe : va_A (Wd g ad S) s.heap.size = A at hD hE ⊢
  have hA : ∀ q : Nat, s.heap.size ≤ q → A q := fun q h => by rw [← hAe]; exact Or.inr h
  have hR : Rep g ad A s S s.heap [] := ⟨hK, hP, hD, va_S.rf, hw⟩
  clear hK hP hD hD0
  have hl := lv_entry ([.ref (ad 0), .int x1, .int x2]) (n := 6) (Nat.le_of_ble_eq_true rfl)
  rw [lg_entry_eq]
  generalize (lg_sl ([.ref (ad 0), .int x1, .int x2]) ++ List.replicate (6 - (lg_sl ([.ref (ad 0), .int x1, .int x2])).length) Slot.unset).toArray = ls at hl ⊢
  have hl : lv_has ls 6 [(0, .ref (ad 0)), (1, .int x1), (2, .int x2)] := hl
  have hsh : shy S S := shy.rf
  unfold w_switchSpan at h
  refine lv_iload_n hx hb dX14_switchSpan_0 rfl (lv_at hl 1 rfl) ?_
  obtain ⟨hv1, h⟩ := h
  have hFc := rfree hR hA
  refine va_calli (va_runS (As := [.int x1]) (rest := []) ⟨hx, hb, hml, hown, hts⟩ (r_switchFrom l g ad s.heap.size S x1 hR.w  hv1) (va_cwS 1 hts (gd2_S kx_282 kx_283 kx_177 kx_284) rfl rfl rfl (by decide +kernel) ⟨Nat.le_of_ble_eq_true rfl, Nat.le_of_ble_eq_true rfl⟩) ⟨rblind, fun U hU hW9 => rmk hU hW9 hR hex hE hFc⟩ rfl rfl hl.1 rfl (lv_room (Nat.le_of_ble_eq_true rfl)) dX14_switchSpan_1 ⟨Nat.le_of_ble_eq_true rfl, Nat.le_of_ble_eq_true rfl⟩) hR.sS (fun q _ h => hFc q h) hFc (fun r2 u9 t9 H1 locs ht9 hvm9 hw9 hB9 hz9 hk9 hS => ?_)
  have hR : Rep g ad A s S H1 locs := hR.call ht9 hB9 hR.w hS hFc
  obtain rfl : r2 = (f_switchFrom S x1) := hw9
  clear hB9 hz9 hk9 hvm9 ht9 hS
  generalize H1 = H at hR ⊢
  obtain ⟨a4, ea4⟩ : ∃ z, z = (f_switchFrom S x1) := ⟨_, rfl⟩
  rw [← ea4]
  replace h := h a4 ea4
  refine lv_istore_n (lv' := [(3, .int a4), (0, .ref (ad 0)), (1, .int x1), (2, .int x2)]) hx hb dX14_switchSpan_4 rfl hl (by decide) rfl (fun ls hl => ?_)
  refine lv_iload_n hx hb dX14_switchSpan_5 rfl (lv_at hl 0 rfl) ?_
  refine lv_iload_n hx hb dX14_switchSpan_6 rfl (lv_at hl 3 rfl) ?_
  refine lv_sipush (v := 170) hx hb dX14_switchSpan_7 (by decide) ?_
  have J_20 : ∀ (U20 : MS) (t20_0 : Int32) (t20_1 : Int32) (v20_1 : Int32) (v20_2 : Int32) (v20_3 : Int32) (H : Heap) (locs : List Loc) (ls : Array Slot), w_switchSpan_J20 Q U20 t20_0 t20_1 v20_1 v20_2 v20_3 → shy S U20 → Rep g ad A s U20 H locs → lv_has ls 6 [(0, .ref (ad 0)), (1, .int v20_1), (2, .int v20_2), (3, .int v20_3)] → W p l e (headSpec (wt2 yX14_switchSpan cX14_switchSpan 6 (some .int)) ({ frames := 4, cells := 0, slots := 0, locals := 84 })).room s m ([.ref (ad 0), .int x1, .int x2] : List Value).toArray below meth c H locs 0 0 (MQ below (va_Qi (fun (r : Int32) (u : MS) => Q r u ∧ wfM u ∧ shy S u) (fun (u : MS) (t : State) => qE g ad A u t) A) ([.ref (ad 0), .int x1, .int x2] : List Value).toArray s 0 0 A) (F0 m 20 ls [.int t20_0, .int t20_1]) := by
    intro U20 t20_0 t20_1 v20_1 v20_2 v20_3 H locs ls h hsh hR hl
    unfold w_switchSpan_J20 at h
    refine lv_iadd hx hb dX14_switchSpan_20 ?_
    refine lv_topi (fun z5 ez5 => ?_)
    obtain rfl : z5 = (t20_1 + t20_0) := ez5
    refine lv_aload_n hx hb dX14_switchSpan_21 rfl (lv_at hl 0 rfl) ?_
    refine va_get (D := rD g) (ci := 13) (v := .int (qI U20 0 37)) (C := RX14) (T := TX14) (N := 143) hx hb hts in2X14 hown hR.K hR.P 0 (hR.at14 hR.w.1) rfl 37 (by decide) (hts _ kx_281) (fun _ h9 => h9) rfl dX14_switchSpan_22 ?_
    refine lv_icmp_le (tgt := 30) hx hb dX14_switchSpan_25 (by decide) (fun c6 => ?_) (fun c6 => ?_)
    · replace h := h.1 (k_le rfl rfl c6)
      refine lv_iload_n hx hb dX14_switchSpan_30 rfl (lv_at hl 2 rfl) ?_
      refine lv_sipush (v := 170) hx hb dX14_switchSpan_31 (by decide) ?_
      refine lv_icmp_ne (tgt := 92) hx hb dX14_switchSpan_34 (by decide) (fun c7 => ?_) (fun c7 => ?_)
      · replace h := h.2 (k_ne rfl (by decide) c7)
        refine lv_aload_n hx hb dX14_switchSpan_92 rfl (lv_at hl 0 rfl) ?_
        refine lv_iload_n hx hb dX14_switchSpan_93 rfl (lv_at hl 3 rfl) ?_
        refine lv_iconst (v := 4) hx hb dX14_switchSpan_94 (by decide) ?_
        refine lv_iadd hx hb dX14_switchSpan_95 ?_
        refine lv_topi (fun z8 ez8 => ?_)
        obtain rfl : z8 = (v20_3 + (4 : Int32)) := ez8
        obtain ⟨hv9, h⟩ := h
        have hFc := rfree hR hA
        refine va_calli (va_runV (As := [.int (v20_3 + (4 : Int32))]) (rest := []) ⟨hx, hb, hml, hown, hts⟩ (r_codeFour l g ad H.size U20 (v20_3 + (4 : Int32)) hR.w  hv9) (cwV 1 hts (gd2_V kx_285 kx_286 kx_287 kx_177 kx_288) rfl rfl rfl (by decide +kernel) ⟨Nat.le_of_ble_eq_true rfl, Nat.le_of_ble_eq_true rfl⟩) ⟨rblind, va_recv hR.K hR.P (ci := 13) (q0 := 0) rfl (hR.at14 hR.w.1), fun U hU hW9 => rmk hU hW9 hR hex hE hFc⟩ rfl rfl hl.1 rfl (lv_room (Nat.le_of_ble_eq_true rfl)) dX14_switchSpan_96 ⟨Nat.le_of_ble_eq_true rfl, Nat.le_of_ble_eq_true rfl⟩) hR.sS (fun q _ h => hFc q h) hFc (fun r10 u9 t9 H1 locs ht9 hvm9 hw9 hB9 hz9 hk9 hS => ?_)
        have hR : Rep g ad A s U20 H1 locs := hR.call ht9 hB9 hR.w hS hFc
        obtain rfl : r10 = (f_codeFour U20 (v20_3 + (4 : Int32))) := hw9
        clear hB9 hz9 hk9 hvm9 ht9 hS
        generalize H1 = H at hR ⊢
        obtain ⟨a12, ea12⟩ : ∃ z, z = (f_codeFour U20 (v20_3 + (4 : Int32))) := ⟨_, rfl⟩
        rw [← ea12]
        replace h := h a12 ea12
        refine lv_istore (lv' := [(4, .int a12), (0, .ref (ad 0)), (1, .int v20_1), (2, .int v20_2), (3, .int v20_3)]) hx hb dX14_switchSpan_99 hl (by decide) rfl (fun ls hl => ?_)
        refine lv_iload hx hb dX14_switchSpan_101 (lv_at hl 0 rfl) ?_
        refine lv_if_lt (tgt := 131) hx hb dX14_switchSpan_103 (by decide) (fun c13 => ?_) (fun c13 => ?_)
        · replace h := h.1 (k_lt rfl (by decide) c13)
          refine lv_iconst (v := 0) hx hb dX14_switchSpan_131 (by decide) ?_
          exact W.iret (v := 0) hx hb hr (fun t9 ht9 hW9 => ⟨⟨_, U20, rfl, ⟨h, hR.w, hsh⟩, ⟨by rw [ht9]; exact hR.P, hR.D⟩⟩, hR.sS.F ht9⟩) hR.sS.2.2 dX14_switchSpan_132
        · replace h := h.2 (k_nlt rfl (by decide) c13)
          refine lv_iload hx hb dX14_switchSpan_106 (lv_at hl 0 rfl) ?_
          refine lv_sipush (v := 200) hx hb dX14_switchSpan_108 (by decide) ?_
          refine lv_icmp_gt (tgt := 131) hx hb dX14_switchSpan_111 (by decide) (fun c14 => ?_) (fun c14 => ?_)
          · replace h := h.1 (k_lt (by decide) rfl c14)
            refine lv_iconst (v := 0) hx hb dX14_switchSpan_131 (by decide) ?_
            exact W.iret (v := 0) hx hb hr (fun t9 ht9 hW9 => ⟨⟨_, U20, rfl, ⟨h, hR.w, hsh⟩, ⟨by rw [ht9]; exact hR.P, hR.D⟩⟩, hR.sS.F ht9⟩) hR.sS.2.2 dX14_switchSpan_132
          · replace h := h.2 (k_nlt (by decide) rfl c14)
            refine lv_iload_n hx hb dX14_switchSpan_114 rfl (lv_at hl 4 rfl) ?_
            refine lv_bipush (v := 8) hx hb dX14_switchSpan_115 (by decide) ?_
            refine lv_iadd hx hb dX14_switchSpan_117 ?_
            refine lv_topi (fun z15 ez15 => ?_)
            obtain rfl : z15 = (v20_3 + (8 : Int32)) := ez15
            refine lv_bipush (v := 8) hx hb dX14_switchSpan_118 (by decide) ?_
            refine lv_iload hx hb dX14_switchSpan_120 (lv_at hl 0 rfl) ?_
            refine lv_imul hx hb dX14_switchSpan_122 ?_
            refine lv_topi (fun z16 ez16 => ?_)
            obtain rfl : z16 = ((8 : Int32) * a12) := ez16
            refine lv_iadd hx hb dX14_switchSpan_123 ?_
            refine lv_topi (fun z17 ez17 => ?_)
            obtain rfl : z17 = ((v20_3 + (8 : Int32)) + ((8 : Int32) * a12)) := ez17
            refine lv_aload_n hx hb dX14_switchSpan_124 rfl (lv_at hl 1 rfl) ?_
            refine va_get (D := rD g) (ci := 13) (v := .int (qI U20 0 37)) (C := RX14) (T := TX14) (N := 143) hx hb hts in2X14 hown hR.K hR.P 0 (hR.at14 hR.w.1) rfl 37 (by decide) (hts _ kx_281) (fun _ h9 => h9) rfl dX14_switchSpan_125 ?_
            refine lv_icmp_le (tgt := 133) hx hb dX14_switchSpan_128 (by decide) (fun c18 => ?_) (fun c18 => ?_)
            · replace h := h.1 (k_le rfl rfl c18)
              refine lv_iconst (v := 1) hx hb dX14_switchSpan_133 (by decide) ?_
              refine lv_istore (lv' := [(5, .int 1), (4, .int a12), (0, .ref (ad 0)), (1, .int v20_1), (2, .int v20_2), (3, .int v20_3)]) hx hb dX14_switchSpan_134 hl (by decide) rfl (fun ls hl => ?_)
              have J_136 : ∀ (n136 : Nat) (U136 : MS) (v136_1 : Int32) (v136_3 : Int32) (v136_4 : Int32) (v136_5 : Int32) (H : Heap) (locs : List Loc) (ls : Array Slot), w_switchSpan_L136 Q n136 U136 v136_1 v136_3 v136_4 v136_5 → shy S U136 → Rep g ad A s U136 H locs → lv_has ls 6 [(0, .ref (ad 0)), (1, .int v136_1), (3, .int v136_3), (4, .int v136_4), (5, .int v136_5)] → W p l e (headSpec (wt2 yX14_switchSpan cX14_switchSpan 6 (some .int)) ({ frames := 4, cells := 0, slots := 0, locals := 84 })).room s m ([.ref (ad 0), .int x1, .int x2] : List Value).toArray below meth c H locs 0 0 (MQ below (va_Qi (fun (r : Int32) (u : MS) => Q r u ∧ wfM u ∧ shy S u) (fun (u : MS) (t : State) => qE g ad A u t) A) ([.ref (ad 0), .int x1, .int x2] : List Value).toArray s 0 0 A) (F0 m 136 ls []) := by
                intro n136
                induction n136 with
                | zero => intro U136 v136_1 v136_3 v136_4 v136_5 H locs ls h hsh hR hl; unfold w_switchSpan_L136 at h; exact h.elim
                | succ n136 ih_136 =>
                  intro U136 v136_1 v136_3 v136_4 v136_5 H locs ls h hsh hR hl
                  unfold w_switchSpan_L136 at h
                  refine lv_iload hx hb dX14_switchSpan_136 (lv_at hl 4 rfl) ?_
                  refine lv_iload hx hb dX14_switchSpan_138 (lv_at hl 3 rfl) ?_
                  refine lv_icmp_ge (tgt := 179) hx hb dX14_switchSpan_140 (by decide) (fun c19 => ?_) (fun c19 => ?_)
                  · replace h := h.1 (k_le rfl rfl c19)
                    refine lv_iload_n hx hb dX14_switchSpan_179 rfl (lv_at hl 2 rfl) ?_
                    refine lv_bipush (v := 8) hx hb dX14_switchSpan_180 (by decide) ?_
                    refine lv_iadd hx hb dX14_switchSpan_182 ?_
                    refine lv_topi (fun z20 ez20 => ?_)
                    obtain rfl : z20 = (v136_3 + (8 : Int32)) := ez20
                    refine lv_bipush (v := 8) hx hb dX14_switchSpan_183 (by decide) ?_
                    refine lv_iload hx hb dX14_switchSpan_185 (lv_at hl 3 rfl) ?_
                    refine lv_imul hx hb dX14_switchSpan_187 ?_
                    refine lv_topi (fun z21 ez21 => ?_)
                    obtain rfl : z21 = ((8 : Int32) * v136_4) := ez21
                    refine lv_iadd hx hb dX14_switchSpan_188 ?_
                    refine lv_topi (fun z22 ez22 => ?_)
                    obtain rfl : z22 = ((v136_3 + (8 : Int32)) + ((8 : Int32) * v136_4)) := ez22
                    refine lv_iload_n hx hb dX14_switchSpan_189 rfl (lv_at hl 1 rfl) ?_
                    refine lv_isub hx hb dX14_switchSpan_190 ?_
                    refine lv_topi (fun z23 ez23 => ?_)
                    obtain rfl : z23 = (((v136_3 + (8 : Int32)) + ((8 : Int32) * v136_4)) - v136_1) := ez23
                    exact W.iret (v := (((v136_3 + (8 : Int32)) + ((8 : Int32) * v136_4)) - v136_1)) hx hb hr (fun t9 ht9 hW9 => ⟨⟨_, U136, rfl, ⟨h, hR.w, hsh⟩, ⟨by rw [ht9]; exact hR.P, hR.D⟩⟩, hR.sS.F ht9⟩) hR.sS.2.2 dX14_switchSpan_191
                  · replace h := h.2 (k_nle rfl rfl c19)
                    refine lv_aload_n hx hb dX14_switchSpan_143 rfl (lv_at hl 0 rfl) ?_
                    refine lv_iload_n hx hb dX14_switchSpan_144 rfl (lv_at hl 2 rfl) ?_
                    refine lv_bipush (v := 8) hx hb dX14_switchSpan_145 (by decide) ?_
                    refine lv_iadd hx hb dX14_switchSpan_147 ?_
                    refine lv_topi (fun z24 ez24 => ?_)
                    obtain rfl : z24 = (v136_3 + (8 : Int32)) := ez24
                    refine lv_bipush (v := 8) hx hb dX14_switchSpan_148 (by decide) ?_
                    refine lv_iload hx hb dX14_switchSpan_150 (lv_at hl 4 rfl) ?_
                    refine lv_imul hx hb dX14_switchSpan_152 ?_
                    refine lv_topi (fun z25 ez25 => ?_)
                    obtain rfl : z25 = ((8 : Int32) * v136_5) := ez25
                    refine lv_iadd hx hb dX14_switchSpan_153 ?_
                    refine lv_topi (fun z26 ez26 => ?_)
                    obtain rfl : z26 = ((v136_3 + (8 : Int32)) + ((8 : Int32) * v136_5)) := ez26
                    obtain ⟨hv27, h⟩ := h
                    have hFc := rfree hR hA
                    refine va_calli (va_runV (As := [.int ((v136_3 + (8 : Int32)) + ((8 : Int32) * v136_5))]) (rest := []) ⟨hx, hb, hml, hown, hts⟩ (r_codeFour l g ad H.size U136 ((v136_3 + (8 : Int32)) + ((8 : Int32) * v136_5)) hR.w  hv27) (cwV 1 hts (gd2_V kx_285 kx_286 kx_287 kx_177 kx_288) rfl rfl rfl (by decide +kernel) ⟨Nat.le_of_ble_eq_true rfl, Nat.le_of_ble_eq_true rfl⟩) ⟨rblind, va_recv hR.K hR.P (ci := 13) (q0 := 0) rfl (hR.at14 hR.w.1), fun U hU hW9 => rmk hU hW9 hR hex hE hFc⟩ rfl rfl hl.1 rfl (lv_room (Nat.le_of_ble_eq_true rfl)) dX14_switchSpan_154 ⟨Nat.le_of_ble_eq_true rfl, Nat.le_of_ble_eq_true rfl⟩) hR.sS (fun q _ h => hFc q h) hFc (fun r28 u9 t9 H1 locs ht9 hvm9 hw9 hB9 hz9 hk9 hS => ?_)
                    have hR : Rep g ad A s U136 H1 locs := hR.call ht9 hB9 hR.w hS hFc
                    obtain rfl : r28 = (f_codeFour U136 ((v136_3 + (8 : Int32)) + ((8 : Int32) * v136_5))) := hw9
                    clear hB9 hz9 hk9 hvm9 ht9 hS
                    generalize H1 = H at hR ⊢
                    refine lv_aload_n hx hb dX14_switchSpan_157 rfl (lv_at hl 0 rfl) ?_
                    refine lv_iload_n hx hb dX14_switchSpan_158 rfl (lv_at hl 2 rfl) ?_
                    refine lv_bipush (v := 8) hx hb dX14_switchSpan_159 (by decide) ?_
                    refine lv_iload hx hb dX14_switchSpan_161 (lv_at hl 4 rfl) ?_
                    refine lv_imul hx hb dX14_switchSpan_163 ?_
                    refine lv_topi (fun z30 ez30 => ?_)
                    obtain rfl : z30 = ((8 : Int32) * v136_5) := ez30
                    refine lv_iadd hx hb dX14_switchSpan_164 ?_
                    refine lv_topi (fun z31 ez31 => ?_)
                    obtain rfl : z31 = (v136_3 + ((8 : Int32) * v136_5)) := ez31
                    obtain ⟨hv32, h⟩ := h
                    have hFc := rfree hR hA
                    refine va_calli (va_runV (As := [.int (v136_3 + ((8 : Int32) * v136_5))]) (rest := [.int (f_codeFour U136 ((v136_3 + (8 : Int32)) + ((8 : Int32) * v136_5)))]) ⟨hx, hb, hml, hown, hts⟩ (r_codeFour l g ad H.size U136 (v136_3 + ((8 : Int32) * v136_5)) hR.w  hv32) (cwV 1 hts (gd2_V kx_285 kx_286 kx_287 kx_177 kx_288) rfl rfl rfl (by decide +kernel) ⟨Nat.le_of_ble_eq_true rfl, Nat.le_of_ble_eq_true rfl⟩) ⟨rblind, va_recv hR.K hR.P (ci := 13) (q0 := 0) rfl (hR.at14 hR.w.1), fun U hU hW9 => rmk hU hW9 hR hex hE hFc⟩ rfl rfl hl.1 rfl (lv_room (Nat.le_of_ble_eq_true rfl)) dX14_switchSpan_165 ⟨Nat.le_of_ble_eq_true rfl, Nat.le_of_ble_eq_true rfl⟩) hR.sS (fun q _ h => hFc q h) hFc (fun r33 u9 t9 H1 locs ht9 hvm9 hw9 hB9 hz9 hk9 hS => ?_)
                    have hR : Rep g ad A s U136 H1 locs := hR.call ht9 hB9 hR.w hS hFc
                    obtain rfl : r33 = (f_codeFour U136 (v136_3 + ((8 : Int32) * v136_5))) := hw9
                    clear hB9 hz9 hk9 hvm9 ht9 hS
                    generalize H1 = H at hR ⊢
                    refine lv_icmp_gt (tgt := 173) hx hb dX14_switchSpan_168 (by decide) (fun c35 => ?_) (fun c35 => ?_)
                    · replace h := h.1 (k_lt rfl rfl c35)
                      obtain ⟨a36, ea36⟩ : ∃ z, z = (v136_5 + Int32.ofInt 1) := ⟨_, rfl⟩
                      replace h := h a36 ea36
                      refine lv_iinc (v := a36) (lv' := [(5, .int a36), (0, .ref (ad 0)), (1, .int v136_1), (3, .int v136_3), (4, .int v136_4)]) hx hb dX14_switchSpan_173 hl (k := 4) rfl ea36.symm (by decide) rfl (fun ls hl => ?_)
                      refine lv_goto (tgt := 136) hx hb dX14_switchSpan_176 (by decide) ?_
                      exact ih_136 U136 v136_1 v136_3 v136_4 a36 _ _ ls h  hsh hR (lv_sub hl [1, 2, 3, 4, 0] rfl)
                    · replace h := h.2 (k_nlt rfl rfl c35)
                      refine lv_iconst (v := 0) hx hb dX14_switchSpan_171 (by decide) ?_
                      exact W.iret (v := 0) hx hb hr (fun t9 ht9 hW9 => ⟨⟨_, U136, rfl, ⟨h, hR.w, hsh⟩, ⟨by rw [ht9]; exact hR.P, hR.D⟩⟩, hR.sS.F ht9⟩) hR.sS.2.2 dX14_switchSpan_172
              obtain ⟨n9, h⟩ := h
              exact J_136 n9 U20 v20_1 v20_3 a12 1 _ _ ls h  hsh hR (lv_sub hl [2, 3, 5, 1, 0] rfl)
            · replace h := h.2 (k_nle rfl rfl c18)
              refine lv_iconst (v := 0) hx hb dX14_switchSpan_131 (by decide) ?_
              exact W.iret (v := 0) hx hb hr (fun t9 ht9 hW9 => ⟨⟨_, U20, rfl, ⟨h, hR.w, hsh⟩, ⟨by rw [ht9]; exact hR.P, hR.D⟩⟩, hR.sS.F ht9⟩) hR.sS.2.2 dX14_switchSpan_132
      · replace h := h.1 (k_eq rfl (by decide) c7)
        refine lv_aload_n hx hb dX14_switchSpan_37 rfl (lv_at hl 0 rfl) ?_
        refine lv_iload_n hx hb dX14_switchSpan_38 rfl (lv_at hl 3 rfl) ?_
        refine lv_bipush (v := 8) hx hb dX14_switchSpan_39 (by decide) ?_
        refine lv_iadd hx hb dX14_switchSpan_41 ?_
        refine lv_topi (fun z37 ez37 => ?_)
        obtain rfl : z37 = (v20_3 + (8 : Int32)) := ez37
        obtain ⟨hv38, h⟩ := h
        have hFc := rfree hR hA
        refine va_calli (va_runV (As := [.int (v20_3 + (8 : Int32))]) (rest := []) ⟨hx, hb, hml, hown, hts⟩ (r_codeFour l g ad H.size U20 (v20_3 + (8 : Int32)) hR.w  hv38) (cwV 1 hts (gd2_V kx_285 kx_286 kx_287 kx_177 kx_288) rfl rfl rfl (by decide +kernel) ⟨Nat.le_of_ble_eq_true rfl, Nat.le_of_ble_eq_true rfl⟩) ⟨rblind, va_recv hR.K hR.P (ci := 13) (q0 := 0) rfl (hR.at14 hR.w.1), fun U hU hW9 => rmk hU hW9 hR hex hE hFc⟩ rfl rfl hl.1 rfl (lv_room (Nat.le_of_ble_eq_true rfl)) dX14_switchSpan_42 ⟨Nat.le_of_ble_eq_true rfl, Nat.le_of_ble_eq_true rfl⟩) hR.sS (fun q _ h => hFc q h) hFc (fun r39 u9 t9 H1 locs ht9 hvm9 hw9 hB9 hz9 hk9 hS => ?_)
        have hR : Rep g ad A s U20 H1 locs := hR.call ht9 hB9 hR.w hS hFc
        obtain rfl : r39 = (f_codeFour U20 (v20_3 + (8 : Int32))) := hw9
        clear hB9 hz9 hk9 hvm9 ht9 hS
        generalize H1 = H at hR ⊢
        refine lv_i2l (v := ((f_codeFour U20 (v20_3 + (8 : Int32))).toInt64)) hx hb dX14_switchSpan_45 rfl ?_
        refine lv_aload_n hx hb dX14_switchSpan_46 rfl (lv_at hl 0 rfl) ?_
        refine lv_iload_n hx hb dX14_switchSpan_47 rfl (lv_at hl 3 rfl) ?_
        refine lv_iconst (v := 4) hx hb dX14_switchSpan_48 (by decide) ?_
        refine lv_iadd hx hb dX14_switchSpan_49 ?_
        refine lv_topi (fun z41 ez41 => ?_)
        obtain rfl : z41 = (v20_3 + (4 : Int32)) := ez41
        obtain ⟨hv42, h⟩ := h
        have hFc := rfree hR hA
        refine va_calli (va_runV (As := [.int (v20_3 + (4 : Int32))]) (rest := [.long ((f_codeFour U20 (v20_3 + (8 : Int32))).toInt64)]) ⟨hx, hb, hml, hown, hts⟩ (r_codeFour l g ad H.size U20 (v20_3 + (4 : Int32)) hR.w  hv42) (cwV 1 hts (gd2_V kx_285 kx_286 kx_287 kx_177 kx_288) rfl rfl rfl (by decide +kernel) ⟨Nat.le_of_ble_eq_true rfl, Nat.le_of_ble_eq_true rfl⟩) ⟨rblind, va_recv hR.K hR.P (ci := 13) (q0 := 0) rfl (hR.at14 hR.w.1), fun U hU hW9 => rmk hU hW9 hR hex hE hFc⟩ rfl rfl hl.1 rfl (lv_room (Nat.le_of_ble_eq_true rfl)) dX14_switchSpan_50 ⟨Nat.le_of_ble_eq_true rfl, Nat.le_of_ble_eq_true rfl⟩) hR.sS (fun q _ h => hFc q h) hFc (fun r43 u9 t9 H1 locs ht9 hvm9 hw9 hB9 hz9 hk9 hS => ?_)
        have hR : Rep g ad A s U20 H1 locs := hR.call ht9 hB9 hR.w hS hFc
        obtain rfl : r43 = (f_codeFour U20 (v20_3 + (4 : Int32))) := hw9
        clear hB9 hz9 hk9 hvm9 ht9 hS
        generalize H1 = H at hR ⊢
        refine lv_i2l (v := ((f_codeFour U20 (v20_3 + (4 : Int32))).toInt64)) hx hb dX14_switchSpan_53 rfl ?_
        refine lv_lsub hx hb dX14_switchSpan_54 ?_
        refine lv_topl (fun z45 ez45 => ?_)
        obtain rfl : z45 = (((f_codeFour U20 (v20_3 + (8 : Int32))).toInt64) - ((f_codeFour U20 (v20_3 + (4 : Int32))).toInt64)) := ez45
        obtain ⟨a46, ea46⟩ : ∃ z, z = (((f_codeFour U20 (v20_3 + (8 : Int32))).toInt64) - ((f_codeFour U20 (v20_3 + (4 : Int32))).toInt64)) := ⟨_, rfl⟩
        rw [← ea46]
        replace h := h a46 ea46
        refine lv_lstore (lv' := [(4, .long a46), (0, .ref (ad 0)), (1, .int v20_1), (2, .int v20_2), (3, .int v20_3)]) hx hb dX14_switchSpan_55 hl (by decide) rfl (fun ls hl => ?_)
        refine lv_lload hx hb dX14_switchSpan_57 (lv_at hl 0 rfl) ?_
        refine lv_lconst (v := 0) hx hb dX14_switchSpan_59 (by decide) ?_
        refine W.lcmp hx hb dX14_switchSpan_60 ?_
        refine lv_topi (fun z47 ez47 => ?_)
        obtain rfl : z47 = (lg_cmp a46 0) := ez47
        have J_73 : ∀ (U73 : MS) (H : Heap) (locs : List Loc) (ls : Array Slot), w_switchSpan_J73 Q U73 → shy S U73 → Rep g ad A s U73 H locs → lv_has ls 6 [] → W p l e (headSpec (wt2 yX14_switchSpan cX14_switchSpan 6 (some .int)) ({ frames := 4, cells := 0, slots := 0, locals := 84 })).room s m ([.ref (ad 0), .int x1, .int x2] : List Value).toArray below meth c H locs 0 0 (MQ below (va_Qi (fun (r : Int32) (u : MS) => Q r u ∧ wfM u ∧ shy S u) (fun (u : MS) (t : State) => qE g ad A u t) A) ([.ref (ad 0), .int x1, .int x2] : List Value).toArray s 0 0 A) (F0 m 73 ls []) := by
          intro U73 H locs ls h hsh hR hl
          unfold w_switchSpan_J73 at h
          refine lv_iconst (v := 0) hx hb dX14_switchSpan_73 (by decide) ?_
          refine lv_goto (tgt := 91) hx hb dX14_switchSpan_74 (by decide) ?_
          exact W.iret (v := 0) hx hb hr (fun t9 ht9 hW9 => ⟨⟨_, U73, rfl, ⟨h, hR.w, hsh⟩, ⟨by rw [ht9]; exact hR.P, hR.D⟩⟩, hR.sS.F ht9⟩) hR.sS.2.2 dX14_switchSpan_91
        refine lv_if_lt (tgt := 73) hx hb dX14_switchSpan_61 (by decide) (fun c48 => ?_) (fun c48 => ?_)
        · replace h := h.1 (k_lt rfl (by decide) c48)
          exact J_73 U20 _ _ ls h  hsh hR (lv_sub hl [] rfl)
        · replace h := h.2 (k_nlt rfl (by decide) c48)
          refine lv_lload hx hb dX14_switchSpan_64 (lv_at hl 0 rfl) ?_
          refine lv_ldc2 hx hb hown (hts _ kx_289) dX14_switchSpan_66 ?_
          refine W.lcmp hx hb dX14_switchSpan_69 ?_
          refine lv_topi (fun z49 ez49 => ?_)
          obtain rfl : z49 = (lg_cmp a46 (200 : Int64)) := ez49
          refine lv_if_le (tgt := 77) hx hb dX14_switchSpan_70 (by decide) (fun c50 => ?_) (fun c50 => ?_)
          · replace h := h.1 (k_le rfl (by decide) c50)
            refine lv_iload_n hx hb dX14_switchSpan_77 rfl (lv_at hl 4 rfl) ?_
            refine lv_bipush (v := 12) hx hb dX14_switchSpan_78 (by decide) ?_
            refine lv_iadd hx hb dX14_switchSpan_80 ?_
            refine lv_topi (fun z51 ez51 => ?_)
            obtain rfl : z51 = (v20_3 + (12 : Int32)) := ez51
            refine lv_iconst (v := 4) hx hb dX14_switchSpan_81 (by decide) ?_
            refine lv_lload hx hb dX14_switchSpan_82 (lv_at hl 0 rfl) ?_
            refine lv_l2i (v := (a46.toInt32)) hx hb dX14_switchSpan_84 rfl ?_
            refine lv_iconst (v := 1) hx hb dX14_switchSpan_85 (by decide) ?_
            refine lv_iadd hx hb dX14_switchSpan_86 ?_
            refine lv_topi (fun z52 ez52 => ?_)
            obtain rfl : z52 = ((a46.toInt32) + (1 : Int32)) := ez52
            refine lv_imul hx hb dX14_switchSpan_87 ?_
            refine lv_topi (fun z53 ez53 => ?_)
            obtain rfl : z53 = ((4 : Int32) * ((a46.toInt32) + (1 : Int32))) := ez53
            refine lv_iadd hx hb dX14_switchSpan_88 ?_
            refine lv_topi (fun z54 ez54 => ?_)
            obtain rfl : z54 = ((v20_3 + (12 : Int32)) + ((4 : Int32) * ((a46.toInt32) + (1 : Int32)))) := ez54
            refine lv_iload_n hx hb dX14_switchSpan_89 rfl (lv_at hl 2 rfl) ?_
            refine lv_isub hx hb dX14_switchSpan_90 ?_
            refine lv_topi (fun z55 ez55 => ?_)
            obtain rfl : z55 = (((v20_3 + (12 : Int32)) + ((4 : Int32) * ((a46.toInt32) + (1 : Int32)))) - v20_1) := ez55
            exact W.iret (v := (((v20_3 + (12 : Int32)) + ((4 : Int32) * ((a46.toInt32) + (1 : Int32)))) - v20_1)) hx hb hr (fun t9 ht9 hW9 => ⟨⟨_, U20, rfl, ⟨h, hR.w, hsh⟩, ⟨by rw [ht9]; exact hR.P, hR.D⟩⟩, hR.sS.F ht9⟩) hR.sS.2.2 dX14_switchSpan_91
          · replace h := h.2 (k_nle rfl (by decide) c50)
            exact J_73 U20 _ _ ls h  hsh hR (lv_sub hl [] rfl)
    · replace h := h.2 (k_nle rfl rfl c6)
      refine lv_iconst (v := 0) hx hb dX14_switchSpan_28 (by decide) ?_
      exact W.iret (v := 0) hx hb hr (fun t9 ht9 hW9 => ⟨⟨_, U20, rfl, ⟨h, hR.w, hsh⟩, ⟨by rw [ht9]; exact hR.P, hR.D⟩⟩, hR.sS.F ht9⟩) hR.sS.2.2 dX14_switchSpan_29
  refine lv_icmp_ne (tgt := 18) hx hb dX14_switchSpan_10 (by decide) (fun c56 => ?_) (fun c56 => ?_)
  · replace h := h.2 (k_ne rfl (by decide) c56)
    refine lv_bipush (v := 8) hx hb dX14_switchSpan_18 (by decide) ?_
    exact J_20 S 8 a4 x1 x2 a4 _ _ ls h  hsh hR (lv_sub hl [1, 2, 3, 0] rfl)
  · replace h := h.1 (k_eq rfl (by decide) c56)
    refine lv_bipush (v := 12) hx hb dX14_switchSpan_13 (by decide) ?_
    refine lv_goto (tgt := 20) hx hb dX14_switchSpan_15 (by decide) ?_
    exact J_20 S 12 a4 x1 x2 a4 _ _ ls h  hsh hR (lv_sub hl [1, 2, 3, 0] rfl)
def w_take (S : MS) (x1 : Int32) (Q : MS → Prop) : Prop := (((0 : Int) ≤ x1.toInt ∧ x1.toInt < 24) ∧ (∀ S3, S3 = wI S 0 36 (qI S 14 x1.toInt.toNat) → (((0 : Int) ≤ x1.toInt ∧ x1.toInt < 24) ∧ (∀ S6, S6 = wI S3 0 37 (qI S3 15 x1.toInt.toNat) → Q S6))))
set_option maxHeartbeats 2000000 in
set_option maxRecDepth 100000 in
theorem r_take (l : Launch) (g : Gr) (ad : Nat → Nat) (sz : Nat) (S : MS) (x1 : Int32) (hw : wfM S) (Q : MS → Prop) (h : w_take S x1 Q) : Met l yX14_take (wt2 yX14_take cX14_take 2 none) ({ frames := 0, cells := 0, slots := 0, locals := 0 }) (va_Pc [.ref (ad 0), .int x1] (st_R g ad sz S)) (va_Qv (fun (u : MS) => Q u ∧ wfM u ∧ shy S u) (fun (u : MS) (t : State) => qE g ad (va_A (Wd g ad S) sz) u t) (va_A (Wd g ad S) sz)) 0 0 (va_A (Wd g ad S) sz) := by
  refine Met.ofW (cc := cX14_take) (maxL := 2) (ret := none) (by decide) rfl ?_
  intro p e s m args below meth c s₁ B hml hv
  obtain ⟨rfl, hsz, hP, hK, hD0, hex, hE⟩ := hv
  have hx := B.exec
  have hb := B.bytes
  have hr := B.returns
  have hts0 := atoms_spec (ws := wt2 yX14_take cX14_take 2 none) B.pre
  have hts : ∀ w ∈ tb2, w.before _ s = true := fun w h => hts0 w (List.mem_cons_of_mem _ h)
  have hown : s.vm.findClass RX14 = some m.cls := findClass_of_methodNamed B.named
  subst hsz
  have hD := hD0.self (sz := s.heap.size)
  generalize hAe : va_A (Wd g ad S) s.heap.size = A at hD hE ⊢
  have hA : ∀ q : Nat, s.heap.size ≤ q → A q := fun q h => by rw [← hAe]; exact Or.inr h
  have hR : Rep g ad A s S s.heap [] := ⟨hK, hP, hD, va_S.rf, hw⟩
  clear hK hP hD hD0
  have hl := lv_entry ([.ref (ad 0), .int x1]) (n := 2) (Nat.le_of_ble_eq_true rfl)
  rw [lg_entry_eq]
  generalize (lg_sl ([.ref (ad 0), .int x1]) ++ List.replicate (2 - (lg_sl ([.ref (ad 0), .int x1])).length) Slot.unset).toArray = ls at hl ⊢
  have hl : lv_has ls 2 [(0, .ref (ad 0)), (1, .int x1)] := hl
  have hsh : shy S S := shy.rf
  unfold w_take at h
  refine lv_aload_n hx hb dX14_take_0 rfl (lv_at hl 0 rfl) ?_
  refine lv_aload_n hx hb dX14_take_1 rfl (lv_at hl 0 rfl) ?_
  refine va_get (D := rD g) (ci := 13) (v := .ref (ad 14)) (C := RX14) (T := TX14) (N := 143) hx hb hts in2X14 hown hR.K hR.P 0 (hR.at14 hR.w.1) rfl 31 (by decide) (hts _ kx_268) (fun _ h9 => h9) (congrArg (fun z => some (vf ad z)) (hR.w.2.1 _ fin_31).1) dX14_take_2 ?_
  refine lv_iload_n hx hb dX14_take_5 rfl (lv_at hl 1 rfl) ?_
  obtain ⟨hv1, h⟩ := h
  refine va_iald hx hb hR.K hR.P 14 1 (hR.atI (hR.w.2.1 _ fin_31).2.1) rfl (k_ixN (k_ix (n := 24) (x := x1) (a := x1.toInt) rfl hv1) (hR.w.2.1 _ fin_31).2.2) dX14_take_6 ?_
  refine lv_topi (fun z2 ez2 => ?_)
  obtain rfl : z2 = (qI S 14 x1.toInt.toNat) := ez2
  refine va_put (D := rD g) (ci := 13) (v := .int (qI S 14 x1.toInt.toNat)) (ty := .int) (C := RX14) (T := TX14) (N := 143) hx hb hts in2X14 tyX14 tyX14_ok nmX14 hown hR.K hR.P hR.D hR.sS 0 (hR.at14 hR.w.1) rfl 36 (by decide) (hts _ kx_273) (fun _ h9 => h9) rfl (by decide +kernel) rfl rfl (Nat.le_of_ble_eq_true rfl) dX14_take_7 (fun H locs hP hD hS => ?_)
  have hR : Rep g ad A s (wI S 0 36 (qI S 14 x1.toInt.toNat)) H locs := hR.pI hR.w.1 F14_s36 hP hD hS
  obtain ⟨S3, eS3⟩ : ∃ z, z = wI S 0 36 (qI S 14 x1.toInt.toNat) := ⟨_, rfl⟩
  rw [← eS3] at hR
  replace h := h S3 eS3
  have hsh : shy S S3 := by rw [eS3]; exact hsh
  refine lv_aload_n hx hb dX14_take_10 rfl (lv_at hl 0 rfl) ?_
  refine lv_aload_n hx hb dX14_take_11 rfl (lv_at hl 0 rfl) ?_
  refine va_get (D := rD g) (ci := 13) (v := .ref (ad 15)) (C := RX14) (T := TX14) (N := 143) hx hb hts in2X14 hown hR.K hR.P 0 (hR.at14 hR.w.1) rfl 32 (by decide) (hts _ kx_269) (fun _ h9 => h9) (congrArg (fun z => some (vf ad z)) (hR.w.2.1 _ fin_32).1) dX14_take_12 ?_
  refine lv_iload_n hx hb dX14_take_15 rfl (lv_at hl 1 rfl) ?_
  obtain ⟨hv4, h⟩ := h
  refine va_iald hx hb hR.K hR.P 15 1 (hR.atI (hR.w.2.1 _ fin_32).2.1) rfl (k_ixN (k_ix (n := 24) (x := x1) (a := x1.toInt) rfl hv4) (hR.w.2.1 _ fin_32).2.2) dX14_take_16 ?_
  refine lv_topi (fun z5 ez5 => ?_)
  obtain rfl : z5 = (qI S3 15 x1.toInt.toNat) := ez5
  refine va_put (D := rD g) (ci := 13) (v := .int (qI S3 15 x1.toInt.toNat)) (ty := .int) (C := RX14) (T := TX14) (N := 143) hx hb hts in2X14 tyX14 tyX14_ok nmX14 hown hR.K hR.P hR.D hR.sS 0 (hR.at14 hR.w.1) rfl 37 (by decide) (hts _ kx_281) (fun _ h9 => h9) rfl (by decide +kernel) rfl rfl (Nat.le_of_ble_eq_true rfl) dX14_take_17 (fun H locs hP hD hS => ?_)
  have hR : Rep g ad A s (wI S3 0 37 (qI S3 15 x1.toInt.toNat)) H locs := hR.pI hR.w.1 F14_s37 hP hD hS
  obtain ⟨S6, eS6⟩ : ∃ z, z = wI S3 0 37 (qI S3 15 x1.toInt.toNat) := ⟨_, rfl⟩
  rw [← eS6] at hR
  replace h := h S6 eS6
  have hsh : shy S S6 := by rw [eS6]; exact hsh
  exact W.vret hx hb hr (fun t9 ht9 hW9 => ⟨⟨S6, rfl, ⟨h, hR.w, hsh⟩, ⟨by rw [ht9]; exact hR.P, hR.D⟩⟩, hR.sS.F ht9⟩) hR.sS.2.2 dX14_take_20
def w_row (S : MS) (x1 : Int32) (x2 : Int32) (x3 : Int32) (Q : MS → Prop) : Prop := (((0 : Int) ≤ ((3 : Int32) * (qI S 0 41)).toInt ∧ ((3 : Int32) * (qI S 0 41)).toInt < 86400) ∧ (∀ S3, S3 = wI S 19 ((((3 : Int32) * (qI S 0 41)).toInt).toNat) x1 → (((0 : Int) ≤ (((3 : Int32) * (qI S3 0 41)) + (1 : Int32)).toInt ∧ (((3 : Int32) * (qI S3 0 41)) + (1 : Int32)).toInt < 86400) ∧ (∀ S7, S7 = wI S3 19 (((((3 : Int32) * (qI S3 0 41)) + (1 : Int32)).toInt).toNat) x2 → (((0 : Int) ≤ (((3 : Int32) * (qI S7 0 41)) + (2 : Int32)).toInt ∧ (((3 : Int32) * (qI S7 0 41)) + (2 : Int32)).toInt < 86400) ∧ (∀ S11, S11 = wI S7 19 (((((3 : Int32) * (qI S7 0 41)) + (2 : Int32)).toInt).toNat) x3 → (∀ S13, S13 = wI S11 0 41 ((qI S11 0 41) + (1 : Int32)) → Q S13)))))))
set_option maxHeartbeats 2000000 in
set_option maxRecDepth 100000 in
theorem r_row (l : Launch) (g : Gr) (ad : Nat → Nat) (sz : Nat) (S : MS) (x1 : Int32) (x2 : Int32) (x3 : Int32) (hw : wfM S) (Q : MS → Prop) (h : w_row S x1 x2 x3 Q) : Met l yX14_row (wt2 yX14_row cX14_row 4 none) ({ frames := 0, cells := 0, slots := 0, locals := 0 }) (va_Pc [.ref (ad 0), .int x1, .int x2, .int x3] (st_R g ad sz S)) (va_Qv (fun (u : MS) => Q u ∧ wfM u ∧ shy S u) (fun (u : MS) (t : State) => qE g ad (va_A (Wd g ad S) sz) u t) (va_A (Wd g ad S) sz)) 0 0 (va_A (Wd g ad S) sz) := by
  refine Met.ofW (cc := cX14_row) (maxL := 4) (ret := none) (by decide) rfl ?_
  intro p e s m args below meth c s₁ B hml hv
  obtain ⟨rfl, hsz, hP, hK, hD0, hex, hE⟩ := hv
  have hx := B.exec
  have hb := B.bytes
  have hr := B.returns
  have hts0 := atoms_spec (ws := wt2 yX14_row cX14_row 4 none) B.pre
  have hts : ∀ w ∈ tb2, w.before _ s = true := fun w h => hts0 w (List.mem_cons_of_mem _ h)
  have hown : s.vm.findClass RX14 = some m.cls := findClass_of_methodNamed B.named
  subst hsz
  have hD := hD0.self (sz := s.heap.size)
  generalize hAe : va_A (Wd g ad S) s.heap.size = A at hD hE ⊢
  have hA : ∀ q : Nat, s.heap.size ≤ q → A q := fun q h => by rw [← hAe]; exact Or.inr h
  have hR : Rep g ad A s S s.heap [] := ⟨hK, hP, hD, va_S.rf, hw⟩
  clear hK hP hD hD0
  have hl := lv_entry ([.ref (ad 0), .int x1, .int x2, .int x3]) (n := 4) (Nat.le_of_ble_eq_true rfl)
  rw [lg_entry_eq]
  generalize (lg_sl ([.ref (ad 0), .int x1, .int x2, .int x3]) ++ List.replicate (4 - (lg_sl ([.ref (ad 0), .int x1, .int x2, .int x3])).length) Slot.unset).toArray = ls at hl ⊢
  have hl : lv_has ls 4 [(0, .ref (ad 0)), (1, .int x1), (2, .int x2), (3, .int x3)] := hl
  have hsh : shy S S := shy.rf
  unfold w_row at h
  refine lv_aload_n hx hb dX14_row_0 rfl (lv_at hl 0 rfl) ?_
  refine va_get (D := rD g) (ci := 13) (v := .ref (ad 19)) (C := RX14) (T := TX14) (N := 143) hx hb hts in2X14 hown hR.K hR.P 0 (hR.at14 hR.w.1) rfl 40 (by decide) (hts _ kx_296) (fun _ h9 => h9) (congrArg (fun z => some (vf ad z)) (hR.w.2.1 _ fin_40).1) dX14_row_1 ?_
  refine lv_iconst (v := 3) hx hb dX14_row_4 (by decide) ?_
  refine lv_aload_n hx hb dX14_row_5 rfl (lv_at hl 0 rfl) ?_
  refine va_get (D := rD g) (ci := 13) (v := .int (qI S 0 41)) (C := RX14) (T := TX14) (N := 143) hx hb hts in2X14 hown hR.K hR.P 0 (hR.at14 hR.w.1) rfl 41 (by decide) (hts _ kx_297) (fun _ h9 => h9) rfl dX14_row_6 ?_
  refine lv_imul hx hb dX14_row_9 ?_
  refine lv_topi (fun z1 ez1 => ?_)
  obtain rfl : z1 = ((3 : Int32) * (qI S 0 41)) := ez1
  refine lv_iload_n hx hb dX14_row_10 rfl (lv_at hl 1 rfl) ?_
  obtain ⟨hv2, h⟩ := h
  refine va_iast hx hb hR.K hR.P hR.D hR.sS 19 1 (hR.atI (hR.w.2.1 _ fin_40).2.1) rfl (k_ixN (k_ix (n := 86400) (x := ((3 : Int32) * (qI S 0 41))) (a := ((3 : Int32) * (qI S 0 41)).toInt) rfl hv2) (hR.w.2.1 _ fin_40).2.2) dX14_row_11 (fun H locs hP hD hS => ?_)
  have hR : Rep g ad A s (wI S 19 ((((3 : Int32) * (qI S 0 41)).toInt).toNat) x1) H locs := hR.aI (hR.w.2.1 _ fin_40).2.1 hP hD hS
  obtain ⟨S3, eS3⟩ : ∃ z, z = wI S 19 ((((3 : Int32) * (qI S 0 41)).toInt).toNat) x1 := ⟨_, rfl⟩
  rw [← eS3] at hR
  replace h := h S3 eS3
  have hsh : shy S S3 := by rw [eS3]; exact hsh
  refine lv_aload_n hx hb dX14_row_12 rfl (lv_at hl 0 rfl) ?_
  refine va_get (D := rD g) (ci := 13) (v := .ref (ad 19)) (C := RX14) (T := TX14) (N := 143) hx hb hts in2X14 hown hR.K hR.P 0 (hR.at14 hR.w.1) rfl 40 (by decide) (hts _ kx_296) (fun _ h9 => h9) (congrArg (fun z => some (vf ad z)) (hR.w.2.1 _ fin_40).1) dX14_row_13 ?_
  refine lv_iconst (v := 3) hx hb dX14_row_16 (by decide) ?_
  refine lv_aload_n hx hb dX14_row_17 rfl (lv_at hl 0 rfl) ?_
  refine va_get (D := rD g) (ci := 13) (v := .int (qI S3 0 41)) (C := RX14) (T := TX14) (N := 143) hx hb hts in2X14 hown hR.K hR.P 0 (hR.at14 hR.w.1) rfl 41 (by decide) (hts _ kx_297) (fun _ h9 => h9) rfl dX14_row_18 ?_
  refine lv_imul hx hb dX14_row_21 ?_
  refine lv_topi (fun z4 ez4 => ?_)
  obtain rfl : z4 = ((3 : Int32) * (qI S3 0 41)) := ez4
  refine lv_iconst (v := 1) hx hb dX14_row_22 (by decide) ?_
  refine lv_iadd hx hb dX14_row_23 ?_
  refine lv_topi (fun z5 ez5 => ?_)
  obtain rfl : z5 = (((3 : Int32) * (qI S3 0 41)) + (1 : Int32)) := ez5
  refine lv_iload_n hx hb dX14_row_24 rfl (lv_at hl 2 rfl) ?_
  obtain ⟨hv6, h⟩ := h
  refine va_iast hx hb hR.K hR.P hR.D hR.sS 19 1 (hR.atI (hR.w.2.1 _ fin_40).2.1) rfl (k_ixN (k_ix (n := 86400) (x := (((3 : Int32) * (qI S3 0 41)) + (1 : Int32))) (a := (((3 : Int32) * (qI S3 0 41)) + (1 : Int32)).toInt) rfl hv6) (hR.w.2.1 _ fin_40).2.2) dX14_row_25 (fun H locs hP hD hS => ?_)
  have hR : Rep g ad A s (wI S3 19 (((((3 : Int32) * (qI S3 0 41)) + (1 : Int32)).toInt).toNat) x2) H locs := hR.aI (hR.w.2.1 _ fin_40).2.1 hP hD hS
  obtain ⟨S7, eS7⟩ : ∃ z, z = wI S3 19 (((((3 : Int32) * (qI S3 0 41)) + (1 : Int32)).toInt).toNat) x2 := ⟨_, rfl⟩
  rw [← eS7] at hR
  replace h := h S7 eS7
  have hsh : shy S S7 := by rw [eS7]; exact hsh
  refine lv_aload_n hx hb dX14_row_26 rfl (lv_at hl 0 rfl) ?_
  refine va_get (D := rD g) (ci := 13) (v := .ref (ad 19)) (C := RX14) (T := TX14) (N := 143) hx hb hts in2X14 hown hR.K hR.P 0 (hR.at14 hR.w.1) rfl 40 (by decide) (hts _ kx_296) (fun _ h9 => h9) (congrArg (fun z => some (vf ad z)) (hR.w.2.1 _ fin_40).1) dX14_row_27 ?_
  refine lv_iconst (v := 3) hx hb dX14_row_30 (by decide) ?_
  refine lv_aload_n hx hb dX14_row_31 rfl (lv_at hl 0 rfl) ?_
  refine va_get (D := rD g) (ci := 13) (v := .int (qI S7 0 41)) (C := RX14) (T := TX14) (N := 143) hx hb hts in2X14 hown hR.K hR.P 0 (hR.at14 hR.w.1) rfl 41 (by decide) (hts _ kx_297) (fun _ h9 => h9) rfl dX14_row_32 ?_
  refine lv_imul hx hb dX14_row_35 ?_
  refine lv_topi (fun z8 ez8 => ?_)
  obtain rfl : z8 = ((3 : Int32) * (qI S7 0 41)) := ez8
  refine lv_iconst (v := 2) hx hb dX14_row_36 (by decide) ?_
  refine lv_iadd hx hb dX14_row_37 ?_
  refine lv_topi (fun z9 ez9 => ?_)
  obtain rfl : z9 = (((3 : Int32) * (qI S7 0 41)) + (2 : Int32)) := ez9
  refine lv_iload_n hx hb dX14_row_38 rfl (lv_at hl 3 rfl) ?_
  obtain ⟨hv10, h⟩ := h
  refine va_iast hx hb hR.K hR.P hR.D hR.sS 19 1 (hR.atI (hR.w.2.1 _ fin_40).2.1) rfl (k_ixN (k_ix (n := 86400) (x := (((3 : Int32) * (qI S7 0 41)) + (2 : Int32))) (a := (((3 : Int32) * (qI S7 0 41)) + (2 : Int32)).toInt) rfl hv10) (hR.w.2.1 _ fin_40).2.2) dX14_row_39 (fun H locs hP hD hS => ?_)
  have hR : Rep g ad A s (wI S7 19 (((((3 : Int32) * (qI S7 0 41)) + (2 : Int32)).toInt).toNat) x3) H locs := hR.aI (hR.w.2.1 _ fin_40).2.1 hP hD hS
  obtain ⟨S11, eS11⟩ : ∃ z, z = wI S7 19 (((((3 : Int32) * (qI S7 0 41)) + (2 : Int32)).toInt).toNat) x3 := ⟨_, rfl⟩
  rw [← eS11] at hR
  replace h := h S11 eS11
  have hsh : shy S S11 := by rw [eS11]; exact hsh
  refine lv_aload_n hx hb dX14_row_40 rfl (lv_at hl 0 rfl) ?_
  refine lv_dup hx hb dX14_row_41 rfl ?_
  refine va_get (D := rD g) (ci := 13) (v := .int (qI S11 0 41)) (C := RX14) (T := TX14) (N := 143) hx hb hts in2X14 hown hR.K hR.P 0 (hR.at14 hR.w.1) rfl 41 (by decide) (hts _ kx_297) (fun _ h9 => h9) rfl dX14_row_42 ?_
  refine lv_iconst (v := 1) hx hb dX14_row_45 (by decide) ?_
  refine lv_iadd hx hb dX14_row_46 ?_
  refine lv_topi (fun z12 ez12 => ?_)
  obtain rfl : z12 = ((qI S11 0 41) + (1 : Int32)) := ez12
  refine va_put (D := rD g) (ci := 13) (v := .int ((qI S11 0 41) + (1 : Int32))) (ty := .int) (C := RX14) (T := TX14) (N := 143) hx hb hts in2X14 tyX14 tyX14_ok nmX14 hown hR.K hR.P hR.D hR.sS 0 (hR.at14 hR.w.1) rfl 41 (by decide) (hts _ kx_297) (fun _ h9 => h9) rfl (by decide +kernel) rfl rfl (Nat.le_of_ble_eq_true rfl) dX14_row_47 (fun H locs hP hD hS => ?_)
  have hR : Rep g ad A s (wI S11 0 41 ((qI S11 0 41) + (1 : Int32))) H locs := hR.pI hR.w.1 F14_s41 hP hD hS
  obtain ⟨S13, eS13⟩ : ∃ z, z = wI S11 0 41 ((qI S11 0 41) + (1 : Int32)) := ⟨_, rfl⟩
  rw [← eS13] at hR
  replace h := h S13 eS13
  have hsh : shy S S13 := by rw [eS13]; exact hsh
  exact W.vret hx hb hr (fun t9 ht9 hW9 => ⟨⟨S13, rfl, ⟨h, hR.w, hsh⟩, ⟨by rw [ht9]; exact hR.P, hR.D⟩⟩, hR.sS.F ht9⟩) hR.sS.2.2 dX14_row_50
def f_isStart_J25 (S : MS) : Int32 := (0 : Int32)
def d_isStart_J25 (S : MS) : Prop := True
def f_isStart (S : MS) (x1 : Int32) : Int32 := (if x1.toInt < 0 then f_isStart_J25 S else (if (qI S 0 37).toInt ≤ x1.toInt then f_isStart_J25 S else (if (qI S 18 x1.toInt.toNat).toInt < 0 then f_isStart_J25 S else (1 : Int32))))
def d_isStart (S : MS) (x1 : Int32) : Prop := (if x1.toInt < 0 then d_isStart_J25 S else (if (qI S 0 37).toInt ≤ x1.toInt then d_isStart_J25 S else (((0 : Int) ≤ x1.toInt ∧ x1.toInt < 1201) ∧ (if (qI S 18 x1.toInt.toNat).toInt < 0 then d_isStart_J25 S else True))))
set_option maxHeartbeats 2000000 in
set_option maxRecDepth 100000 in
theorem r_isStart (l : Launch) (g : Gr) (ad : Nat → Nat) (sz : Nat) (S : MS) (x1 : Int32) (hw : wfM S) (hd : d_isStart S x1) : Met l yX14_isStart (wt2 yX14_isStart cX14_isStart 2 (some .boolean)) ({ frames := 0, cells := 0, slots := 0, locals := 0 }) (va_Pc [.ref (ad 0), .int x1] (st_R g ad sz S)) (va_Qi (fun (r : Int32) (_ : Unit) => r = f_isStart S x1 ∧ (r = 0 ∨ r = 1)) (fun (_ : Unit) (t : State) => qE g ad (va_A (Wd g ad S) sz) S t) (va_A (Wd g ad S) sz)) 0 0 (va_A (Wd g ad S) sz) := by
  refine Met.ofW (cc := cX14_isStart) (maxL := 2) (ret := (some .boolean)) (by decide) rfl ?_
  intro p e s m args below meth c s₁ B hml hv
  obtain ⟨rfl, hsz, hP, hK, hD0, hex, hE⟩ := hv
  have hx := B.exec
  have hb := B.bytes
  have hr := B.returns
  have hts0 := atoms_spec (ws := wt2 yX14_isStart cX14_isStart 2 (some .boolean)) B.pre
  have hts : ∀ w ∈ tb2, w.before _ s = true := fun w h => hts0 w (List.mem_cons_of_mem _ h)
  have hown : s.vm.findClass RX14 = some m.cls := findClass_of_methodNamed B.named
  subst hsz
  have hD := hD0.self (sz := s.heap.size)
  generalize hAe : va_A (Wd g ad S) s.heap.size = A at hD hE ⊢
  have hA : ∀ q : Nat, s.heap.size ≤ q → A q := fun q h => by rw [← hAe]; exact Or.inr h
  have hR : Rep g ad A s S s.heap [] := ⟨hK, hP, hD, va_S.rf, hw⟩
  clear hK hP hD hD0
  have hl := lv_entry ([.ref (ad 0), .int x1]) (n := 2) (Nat.le_of_ble_eq_true rfl)
  rw [lg_entry_eq]
  generalize (lg_sl ([.ref (ad 0), .int x1]) ++ List.replicate (2 - (lg_sl ([.ref (ad 0), .int x1])).length) Slot.unset).toArray = ls at hl ⊢
  have hl : lv_has ls 2 [(0, .ref (ad 0)), (1, .int x1)] := hl
  obtain ⟨r0, hf⟩ : ∃ r0, f_isStart S x1 = r0 := ⟨_, rfl⟩
  have hf0 := hf
  unfold f_isStart at hf
  unfold d_isStart at hd
  refine lv_iload_n hx hb dX14_isStart_0 rfl (lv_at hl 1 rfl) ?_
  have J_25 : ∀ (H : Heap) (locs : List Loc) (ls : Array Slot), d_isStart_J25 S → f_isStart_J25 S = r0 → Rep g ad A s S H locs → lv_has ls 2 [] → W p l e (headSpec (wt2 yX14_isStart cX14_isStart 2 (some .boolean)) ({ frames := 0, cells := 0, slots := 0, locals := 0 })).room s m ([.ref (ad 0), .int x1] : List Value).toArray below meth c H locs 0 0 (MQ below (va_Qi (fun (r : Int32) (_ : Unit) => r = f_isStart S x1 ∧ (r = 0 ∨ r = 1)) (fun (_ : Unit) (t : State) => qE g ad A S t) A) ([.ref (ad 0), .int x1] : List Value).toArray s 0 0 A) (F0 m 25 ls []) := by
    intro H locs ls hd hf hR hl
    unfold d_isStart_J25 at hd
    unfold f_isStart_J25 at hf
    refine lv_iconst (v := 0) hx hb dX14_isStart_25 (by decide) ?_
    exact W.zret (v := 0) hx hb hr (nz (Or.inl rfl)) (fun t9 ht9 hW9 => ⟨⟨_, (), rfl, ⟨hf.trans hf0.symm, (Or.inl rfl)⟩, ⟨by rw [ht9]; exact hR.P, hR.D⟩⟩, hR.sS.F ht9⟩) hR.sS.2.2 dX14_isStart_26
  refine lv_if_lt (tgt := 25) hx hb dX14_isStart_1 (by decide) (fun c1 => ?_) (fun c1 => ?_)
  · rw [if_pos (k_lt rfl (by decide) c1)] at hf
    (try rw [if_pos (k_lt rfl (by decide) c1)] at hd)
    exact J_25 _ _ ls hd hf  hR (lv_sub hl [] rfl)
  · rw [if_neg (k_nlt rfl (by decide) c1)] at hf
    (try rw [if_neg (k_nlt rfl (by decide) c1)] at hd)
    refine lv_iload_n hx hb dX14_isStart_4 rfl (lv_at hl 1 rfl) ?_
    refine lv_aload_n hx hb dX14_isStart_5 rfl (lv_at hl 0 rfl) ?_
    refine va_get (D := rD g) (ci := 13) (v := .int (qI S 0 37)) (C := RX14) (T := TX14) (N := 143) hx hb hts in2X14 hown hR.K hR.P 0 (hR.at14 hR.w.1) rfl 37 (by decide) (hts _ kx_281) (fun _ h9 => h9) rfl dX14_isStart_6 ?_
    refine lv_icmp_ge (tgt := 25) hx hb dX14_isStart_9 (by decide) (fun c2 => ?_) (fun c2 => ?_)
    · rw [if_pos (k_le rfl rfl c2)] at hf
      (try rw [if_pos (k_le rfl rfl c2)] at hd)
      exact J_25 _ _ ls hd hf  hR (lv_sub hl [] rfl)
    · rw [if_neg (k_nle rfl rfl c2)] at hf
      (try rw [if_neg (k_nle rfl rfl c2)] at hd)
      refine lv_aload_n hx hb dX14_isStart_12 rfl (lv_at hl 0 rfl) ?_
      refine va_get (D := rD g) (ci := 13) (v := .ref (ad 18)) (C := RX14) (T := TX14) (N := 143) hx hb hts in2X14 hown hR.K hR.P 0 (hR.at14 hR.w.1) rfl 38 (by decide) (hts _ kx_295) (fun _ h9 => h9) (congrArg (fun z => some (vf ad z)) (hR.w.2.1 _ fin_38).1) dX14_isStart_13 ?_
      refine lv_iload_n hx hb dX14_isStart_16 rfl (lv_at hl 1 rfl) ?_
      obtain ⟨hv3, hd⟩ := hd
      refine va_iald hx hb hR.K hR.P 18 1 (hR.atI (hR.w.2.1 _ fin_38).2.1) rfl (k_ixN (k_ix (n := 1201) (x := x1) (a := x1.toInt) rfl hv3) (hR.w.2.1 _ fin_38).2.2) dX14_isStart_17 ?_
      refine lv_topi (fun z4 ez4 => ?_)
      obtain rfl : z4 = (qI S 18 x1.toInt.toNat) := ez4
      refine lv_if_lt (tgt := 25) hx hb dX14_isStart_18 (by decide) (fun c5 => ?_) (fun c5 => ?_)
      · rw [if_pos (k_lt rfl (by decide) c5)] at hf
        (try rw [if_pos (k_lt rfl (by decide) c5)] at hd)
        exact J_25 _ _ ls hd hf  hR (lv_sub hl [] rfl)
      · rw [if_neg (k_nlt rfl (by decide) c5)] at hf
        (try rw [if_neg (k_nlt rfl (by decide) c5)] at hd)
        refine lv_iconst (v := 1) hx hb dX14_isStart_21 (by decide) ?_
        refine lv_goto (tgt := 26) hx hb dX14_isStart_22 (by decide) ?_
        exact W.zret (v := 1) hx hb hr (nz (Or.inr rfl)) (fun t9 ht9 hW9 => ⟨⟨_, (), rfl, ⟨hf.trans hf0.symm, (Or.inr rfl)⟩, ⟨by rw [ht9]; exact hR.P, hR.D⟩⟩, hR.sS.F ht9⟩) hR.sS.2.2 dX14_isStart_26
def w_point (S : MS) (x1 : Int32) (x2 : Int32) (Q : MS → Prop) (E : MS → Prop) : Prop := (∃ Q2 EQ2, w_must S x1 (16 : Int32) ((qI S 0 36) + x2) Q2 EQ2 ∧ (∀ S3, Q2 S3 → Q S3) ∧ (∀ u9, EQ2 u9 → E u9))
set_option maxHeartbeats 2000000 in
set_option maxRecDepth 100000 in
theorem r_point (l : Launch) (g : Gr) (ad : Nat → Nat) (sz : Nat) (S : MS) (x1 : Int32) (x2 : Int32) (hw : wfM S) (hz_x1 : x1 = 0 ∨ x1 = 1) (Q : MS → Prop) (E : MS → Prop) (h : w_point S x1 x2 Q E) : vx_Met l yX14_point (wt2 yX14_point cX14_point 3 none) ({ frames := 2, cells := 0, slots := 0, locals := 45 }) (va_Pc [.ref (ad 0), .int x1, .int x2] (st_R g ad sz S)) (va_Qv (fun (u : MS) => Q u ∧ wfM u ∧ shy S u) (fun (u : MS) (t : State) => qE g ad (va_A (Wd g ad S) sz) u t) (va_A (Wd g ad S) sz)) (vx_X (fun (u : MS) => E u ∧ wfM u ∧ shy S u) (fun (n9 : String) (u : MS) (t : State) => n9 = RJxb5711 ∧ qE g ad (va_A (Wd g ad S) sz) u t) (va_A (Wd g ad S) sz)) 0 0 (va_A (Wd g ad S) sz) := by
  refine vx_ofW (cc := cX14_point) (maxL := 3) (ret := none) (by decide) rfl ?_
  intro p e s m args below meth c s₁ B hml hnt hv
  obtain ⟨rfl, hsz, hP, hK, hD0, hex, hE⟩ := hv
  have hx := B.exec
  have hb := B.bytes
  have hr := B.returns
  have hlocks := B.notSynchronized
  have hts0 := atoms_spec (ws := wt2 yX14_point cX14_point 3 none) B.pre
  have hts : ∀ w ∈ tb2, w.before _ s = true := fun w h => hts0 w (List.mem_cons_of_mem _ h)
  have hown : s.vm.findClass RX14 = some m.cls := findClass_of_methodNamed B.named
  subst hsz
  have hD := hD0.self (sz := s.heap.size)
  generalize hAe : va_A (Wd g ad S) s.heap.size = A at hD hE ⊢
  have hA : ∀ q : Nat, s.heap.size ≤ q → A q := fun q h => by rw [← hAe]; exact Or.inr h
  have hR : Rep g ad A s S s.heap [] := ⟨hK, hP, hD, va_S.rf, hw⟩
  clear hK hP hD hD0
  have hl := lv_entry ([.ref (ad 0), .int x1, .int x2]) (n := 3) (Nat.le_of_ble_eq_true rfl)
  rw [lg_entry_eq]
  generalize (lg_sl ([.ref (ad 0), .int x1, .int x2]) ++ List.replicate (3 - (lg_sl ([.ref (ad 0), .int x1, .int x2])).length) Slot.unset).toArray = ls at hl ⊢
  have hl : lv_has ls 3 [(0, .ref (ad 0)), (1, .int x1), (2, .int x2)] := hl
  have hsh : shy S S := shy.rf
  unfold w_point at h
  refine lv_aload_n hx hb dX14_point_0 rfl (lv_at hl 0 rfl) ?_
  refine lv_iload_n hx hb dX14_point_1 rfl (lv_at hl 1 rfl) ?_
  refine lv_bipush (v := 16) hx hb dX14_point_2 (by decide) ?_
  refine lv_aload_n hx hb dX14_point_4 rfl (lv_at hl 0 rfl) ?_
  refine va_get (D := rD g) (ci := 13) (v := .int (qI S 0 36)) (C := RX14) (T := TX14) (N := 143) hx hb hts in2X14 hown hR.K hR.P 0 (hR.at14 hR.w.1) rfl 36 (by decide) (hts _ kx_273) (fun _ h9 => h9) rfl dX14_point_5 ?_
  refine lv_iload_n hx hb dX14_point_8 rfl (lv_at hl 2 rfl) ?_
  refine lv_iadd hx hb dX14_point_9 ?_
  refine lv_topi (fun z1 ez1 => ?_)
  obtain rfl : z1 = ((qI S 0 36) + x2) := ez1
  obtain ⟨Q2, EQ2, h0, h⟩ := h
  have hFc := rfree hR hA
  refine vx_callv (vx_runV (As := [.int x1, .int 16, .int ((qI S 0 36) + x2)]) (rest := []) ⟨hx, hb, hml, hown, hts⟩ (r_must l g ad s.heap.size S x1 (16 : Int32) ((qI S 0 36) + x2) hR.w hz_x1 Q2 EQ2 h0) (cwV 3 hts (gd2_V kx_198 kx_199 kx_200 kx_177 kx_201) rfl rfl rfl (by decide +kernel) ⟨Nat.le_of_ble_eq_true rfl, Nat.le_of_ble_eq_true rfl⟩) ⟨rblind, va_recv hR.K hR.P (ci := 13) (q0 := 0) rfl (hR.at14 hR.w.1), fun U hU hW9 => rmk hU hW9 hR hex hE hFc⟩ rfl rfl hl.1 rfl (lv_room (Nat.le_of_ble_eq_true rfl)) dX14_point_10 ⟨Nat.le_of_ble_eq_true rfl, Nat.le_of_ble_eq_true rfl⟩) hR.sS (fun q _ h => hFc q h) hFc (fun q _ h => hFc q h) (fun E9 ce9 q9 u9 t9 H1 locs ht9 hvm9 hp9 hB9 hz9 hk9 hS hce9 hcv9 hcl9 => ?_) (fun  S3 t9 H1 locs ht9 hvm9 hw9 hB9 hz9 hk9 hS => ?_)
  · obtain ⟨hp9, hwx, hsx⟩ := hp9
    obtain ⟨rfl, hBx⟩ := hB9
    replace h := h.2 u9 hp9
    have hR : Rep g ad A s u9 H1 locs := hR.call ht9 hBx hwx hS hFc
    have hsh := hsh.tr hsx
    exact vx_out (E := RJxb5711) (q := q9) (fun x h9 => (hnt x h9).elim) hlocks hce9 hcv9 hcl9 (fun t9 ht9 ha9 => ⟨u9, ⟨h, hR.w, hsh⟩, ⟨rfl, by rw [ht9]; exact hR.P, hR.D⟩, hR.sS.F ht9⟩) hR.sS.2.2 (Nat.le_of_ble_eq_true rfl) (Nat.le_of_ble_eq_true rfl)
  · obtain ⟨hq4, hw9, hs9⟩ := hw9
    have hR : Rep g ad A s S3 H1 locs := hR.call ht9 hB9 hw9 hS hFc
    have hsh := hsh.tr hs9
    replace h := h.1  S3 hq4
    clear hB9 hz9 hk9 hvm9 ht9 hw9 hs9 hS
    generalize H1 = H at hR ⊢
    exact vx_ret (W.vret hx hb hr (fun t9 ht9 hW9 => ⟨⟨S3, rfl, ⟨h, hR.w, hsh⟩, ⟨by rw [ht9]; exact hR.P, hR.D⟩⟩, hR.sS.F ht9⟩) hR.sS.2.2 dX14_point_13)
def w_target (S : MS) (x1 : Int32) (x2 : Int32) (Q : Int32 → MS → Prop) (E : MS → Prop) : Prop := (d_isStart S (x1 + x2) ∧ (∃ Q5 EQ5, w_point S (f_isStart S (x1 + x2)) x1 Q5 EQ5 ∧ (∀ S6, Q5 S6 → (((0 : Int) ≤ (x1 + x2).toInt ∧ (x1 + x2).toInt < 1201) ∧ Q (qI S6 18 (((x1 + x2).toInt).toNat)) S6)) ∧ (∀ u9, EQ5 u9 → E u9)))
set_option maxHeartbeats 2000000 in
set_option maxRecDepth 100000 in
theorem r_target (l : Launch) (g : Gr) (ad : Nat → Nat) (sz : Nat) (S : MS) (x1 : Int32) (x2 : Int32) (hw : wfM S) (Q : Int32 → MS → Prop) (E : MS → Prop) (h : w_target S x1 x2 Q E) : vx_Met l yX14_target (wt2 yX14_target cX14_target 3 (some .int)) ({ frames := 3, cells := 0, slots := 0, locals := 67 }) (va_Pc [.ref (ad 0), .int x1, .int x2] (st_R g ad sz S)) (va_Qi (fun (r : Int32) (u : MS) => Q r u ∧ wfM u ∧ shy S u) (fun (u : MS) (t : State) => qE g ad (va_A (Wd g ad S) sz) u t) (va_A (Wd g ad S) sz)) (vx_X (fun (u : MS) => E u ∧ wfM u ∧ shy S u) (fun (n9 : String) (u : MS) (t : State) => n9 = RJxb5711 ∧ qE g ad (va_A (Wd g ad S) sz) u t) (va_A (Wd g ad S) sz)) 0 0 (va_A (Wd g ad S) sz) := by
  refine vx_ofW (cc := cX14_target) (maxL := 3) (ret := (some .int)) (by decide) rfl ?_
  intro p e s m args below meth c s₁ B hml hnt hv
  obtain ⟨rfl, hsz, hP, hK, hD0, hex, hE⟩ := hv
  have hx := B.exec
  have hb := B.bytes
  have hr := B.returns
  have hlocks := B.notSynchronized
  have hts0 := atoms_spec (ws := wt2 yX14_target cX14_target 3 (some .int)) B.pre
  have hts : ∀ w ∈ tb2, w.before _ s = true := fun w h => hts0 w (List.mem_cons_of_mem _ h)
  have hown : s.vm.findClass RX14 = some m.cls := findClass_of_methodNamed B.named
  subst hsz
  have hD := hD0.self (sz := s.heap.size)
  generalize hAe : va_A (Wd g ad S) s.heap.size = A at hD hE ⊢
  have hA : ∀ q : Nat, s.heap.size ≤ q → A q := fun q h => by rw [← hAe]; exact Or.inr h
  have hR : Rep g ad A s S s.heap [] := ⟨hK, hP, hD, va_S.rf, hw⟩
  clear hK hP hD hD0
  have hl := lv_entry ([.ref (ad 0), .int x1, .int x2]) (n := 3) (Nat.le_of_ble_eq_true rfl)
  rw [lg_entry_eq]
  generalize (lg_sl ([.ref (ad 0), .int x1, .int x2]) ++ List.replicate (3 - (lg_sl ([.ref (ad 0), .int x1, .int x2])).length) Slot.unset).toArray = ls at hl ⊢
  have hl : lv_has ls 3 [(0, .ref (ad 0)), (1, .int x1), (2, .int x2)] := hl
  have hsh : shy S S := shy.rf
  unfold w_target at h
  refine lv_aload_n hx hb dX14_target_0 rfl (lv_at hl 0 rfl) ?_
  refine lv_aload_n hx hb dX14_target_1 rfl (lv_at hl 0 rfl) ?_
  refine lv_iload_n hx hb dX14_target_2 rfl (lv_at hl 1 rfl) ?_
  refine lv_iload_n hx hb dX14_target_3 rfl (lv_at hl 2 rfl) ?_
  refine lv_iadd hx hb dX14_target_4 ?_
  refine lv_topi (fun z1 ez1 => ?_)
  obtain rfl : z1 = (x1 + x2) := ez1
  obtain ⟨hv2, h⟩ := h
  have hFc := rfree hR hA
  refine va_calli (va_runV (As := [.int (x1 + x2)]) (rest := [.ref (ad 0)]) ⟨hx, hb, hml, hown, hts⟩ (r_isStart l g ad s.heap.size S (x1 + x2) hR.w  hv2) (cwV 1 hts (gd2_V kx_298 kx_299 kx_300 kx_177 kx_301) rfl rfl rfl (by decide +kernel) ⟨Nat.le_of_ble_eq_true rfl, Nat.le_of_ble_eq_true rfl⟩) ⟨rblind, va_recv hR.K hR.P (ci := 13) (q0 := 0) rfl (hR.at14 hR.w.1), fun U hU hW9 => rmk hU hW9 hR hex hE hFc⟩ rfl rfl hl.1 rfl (lv_room (Nat.le_of_ble_eq_true rfl)) dX14_target_5 ⟨Nat.le_of_ble_eq_true rfl, Nat.le_of_ble_eq_true rfl⟩) hR.sS (fun q _ h => hFc q h) hFc (fun r3 u9 t9 H1 locs ht9 hvm9 hw9 hB9 hz9 hk9 hS => ?_)
  have hR : Rep g ad A s S H1 locs := hR.call ht9 hB9 hR.w hS hFc
  obtain ⟨rfl, hz_r3⟩ := hw9
  clear hB9 hz9 hk9 hvm9 ht9 hS
  generalize H1 = H at hR ⊢
  refine lv_iload_n hx hb dX14_target_8 rfl (lv_at hl 1 rfl) ?_
  obtain ⟨Q5, EQ5, h0, h⟩ := h
  have hFc := rfree hR hA
  refine vx_callv (vx_runV (As := [.int (f_isStart S (x1 + x2)), .int x1]) (rest := []) ⟨hx, hb, hml, hown, hts⟩ (r_point l g ad H.size S (f_isStart S (x1 + x2)) x1 hR.w hz_r3 Q5 EQ5 h0) (cwV 2 hts (gd2_V kx_302 kx_303 kx_304 kx_177 kx_305) rfl rfl rfl (by decide +kernel) ⟨Nat.le_of_ble_eq_true rfl, Nat.le_of_ble_eq_true rfl⟩) ⟨rblind, va_recv hR.K hR.P (ci := 13) (q0 := 0) rfl (hR.at14 hR.w.1), fun U hU hW9 => rmk hU hW9 hR hex hE hFc⟩ rfl rfl hl.1 rfl (lv_room (Nat.le_of_ble_eq_true rfl)) dX14_target_9 ⟨Nat.le_of_ble_eq_true rfl, Nat.le_of_ble_eq_true rfl⟩) hR.sS (fun q _ h => hFc q h) hFc (fun q _ h => hFc q h) (fun E9 ce9 q9 u9 t9 H1 locs ht9 hvm9 hp9 hB9 hz9 hk9 hS hce9 hcv9 hcl9 => ?_) (fun  S6 t9 H1 locs ht9 hvm9 hw9 hB9 hz9 hk9 hS => ?_)
  · obtain ⟨hp9, hwx, hsx⟩ := hp9
    obtain ⟨rfl, hBx⟩ := hB9
    replace h := h.2 u9 hp9
    have hR : Rep g ad A s u9 H1 locs := hR.call ht9 hBx hwx hS hFc
    have hsh := hsh.tr hsx
    exact vx_out (E := RJxb5711) (q := q9) (fun x h9 => (hnt x h9).elim) hlocks hce9 hcv9 hcl9 (fun t9 ht9 ha9 => ⟨u9, ⟨h, hR.w, hsh⟩, ⟨rfl, by rw [ht9]; exact hR.P, hR.D⟩, hR.sS.F ht9⟩) hR.sS.2.2 (Nat.le_of_ble_eq_true rfl) (Nat.le_of_ble_eq_true rfl)
  · obtain ⟨hq7, hw9, hs9⟩ := hw9
    have hR : Rep g ad A s S6 H1 locs := hR.call ht9 hB9 hw9 hS hFc
    have hsh := hsh.tr hs9
    replace h := h.1  S6 hq7
    clear hB9 hz9 hk9 hvm9 ht9 hw9 hs9 hS
    generalize H1 = H at hR ⊢
    refine lv_aload_n hx hb dX14_target_12 rfl (lv_at hl 0 rfl) ?_
    refine va_get (D := rD g) (ci := 13) (v := .ref (ad 18)) (C := RX14) (T := TX14) (N := 143) hx hb hts in2X14 hown hR.K hR.P 0 (hR.at14 hR.w.1) rfl 38 (by decide) (hts _ kx_295) (fun _ h9 => h9) (congrArg (fun z => some (vf ad z)) (hR.w.2.1 _ fin_38).1) dX14_target_13 ?_
    refine lv_iload_n hx hb dX14_target_16 rfl (lv_at hl 1 rfl) ?_
    refine lv_iload_n hx hb dX14_target_17 rfl (lv_at hl 2 rfl) ?_
    refine lv_iadd hx hb dX14_target_18 ?_
    refine lv_topi (fun z8 ez8 => ?_)
    obtain rfl : z8 = (x1 + x2) := ez8
    obtain ⟨hv9, h⟩ := h
    refine va_iald hx hb hR.K hR.P 18 1 (hR.atI (hR.w.2.1 _ fin_38).2.1) rfl (k_ixN (k_ix (n := 1201) (x := (x1 + x2)) (a := (x1 + x2).toInt) rfl hv9) (hR.w.2.1 _ fin_38).2.2) dX14_target_19 ?_
    refine lv_topi (fun z10 ez10 => ?_)
    obtain rfl : z10 = (qI S6 18 (((x1 + x2).toInt).toNat)) := ez10
    exact vx_ret (W.iret (v := (qI S6 18 (((x1 + x2).toInt).toNat))) hx hb hr (fun t9 ht9 hW9 => ⟨⟨_, S6, rfl, ⟨h, hR.w, hsh⟩, ⟨by rw [ht9]; exact hR.P, hR.D⟩⟩, hR.sS.F ht9⟩) hR.sS.2.2 dX14_target_20)
def w_localRow_J36 (Q : MS → Prop) (E : MS → Prop) (U36 : MS) (t36_0 : Int32) (v36_1 : Int32) (v36_2 : Int32) (v36_3 : Int32) : Prop := (∃ Q2 EQ2, w_point U36 t36_0 v36_1 Q2 EQ2 ∧ (∀ S3, Q2 S3 → (∃ Q5, w_row S3 v36_2 v36_3 (0 : Int32) Q5 ∧ ∀ S6, Q5 S6 → Q S6)) ∧ (∀ u9, EQ2 u9 → E u9))
def w_localRow_J17 (Q : MS → Prop) (E : MS → Prop) (U17 : MS) (t17_0 : Int32) (v17_1 : Int32) (v17_2 : Int32) (v17_3 : Int32) : Prop := (((qI U17 0 46).toInt < (v17_3 + t17_0).toInt → w_localRow_J36 Q E U17 0 v17_1 v17_2 v17_3) ∧ (¬ (qI U17 0 46).toInt < (v17_3 + t17_0).toInt → w_localRow_J36 Q E U17 1 v17_1 v17_2 v17_3))
def w_localRow_J12 (Q : MS → Prop) (E : MS → Prop) (U12 : MS) (v12_1 : Int32) (v12_2 : Int32) (v12_3 : Int32) : Prop := w_localRow_J17 Q E U12 2 v12_1 v12_2 v12_3
def w_localRow (S : MS) (x1 : Int32) (x2 : Int32) (x3 : Int32) (Q : MS → Prop) (E : MS → Prop) : Prop := ((x2.toInt = 22 → w_localRow_J12 Q E S x1 x2 x3) ∧ (¬ x2.toInt = 22 → ((x2.toInt = 55 → w_localRow_J12 Q E S x1 x2 x3) ∧ (¬ x2.toInt = 55 → w_localRow_J17 Q E S 1 x1 x2 x3))))
set_option maxHeartbeats 2000000 in
set_option maxRecDepth 100000 in
theorem r_localRow (l : Launch) (g : Gr) (ad : Nat → Nat) (sz : Nat) (S : MS) (x1 : Int32) (x2 : Int32) (x3 : Int32) (hw : wfM S) (Q : MS → Prop) (E : MS → Prop) (h : w_localRow S x1 x2 x3 Q E) : vx_Met l yX14_localRow (wt2 yX14_localRow cX14_localRow 5 none) ({ frames := 3, cells := 0, slots := 0, locals := 67 }) (va_Pc [.ref (ad 0), .int x1, .int x2, .int x3] (st_R g ad sz S)) (va_Qv (fun (u : MS) => Q u ∧ wfM u ∧ shy S u) (fun (u : MS) (t : State) => qE g ad (va_A (Wd g ad S) sz) u t) (va_A (Wd g ad S) sz)) (vx_X (fun (u : MS) => E u ∧ wfM u ∧ shy S u) (fun (n9 : String) (u : MS) (t : State) => n9 = RJxb5711 ∧ qE g ad (va_A (Wd g ad S) sz) u t) (va_A (Wd g ad S) sz)) 0 0 (va_A (Wd g ad S) sz) := by
  refine vx_ofW (cc := cX14_localRow) (maxL := 5) (ret := none) (by decide) rfl ?_
  intro p e s m args below meth c s₁ B hml hnt hv
  obtain ⟨rfl, hsz, hP, hK, hD0, hex, hE⟩ := hv
  have hx := B.exec
  have hb := B.bytes
  have hr := B.returns
  have hlocks := B.notSynchronized
  have hts0 := atoms_spec (ws := wt2 yX14_localRow cX14_localRow 5 none) B.pre
  have hts : ∀ w ∈ tb2, w.before _ s = true := fun w h => hts0 w (List.mem_cons_of_mem _ h)
  have hown : s.vm.findClass RX14 = some m.cls := findClass_of_methodNamed B.named
  subst hsz
  have hD := hD0.self (sz := s.heap.size)
  generalize hAe : va_A (Wd g ad S) s.heap.size = A at hD hE ⊢
  have hA : ∀ q : Nat, s.heap.size ≤ q → A q := fun q h => by rw [← hAe]; exact Or.inr h
  have hR : Rep g ad A s S s.heap [] := ⟨hK, hP, hD, va_S.rf, hw⟩
  clear hK hP hD hD0
  have hl := lv_entry ([.ref (ad 0), .int x1, .int x2, .int x3]) (n := 5) (Nat.le_of_ble_eq_true rfl)
  rw [lg_entry_eq]
  generalize (lg_sl ([.ref (ad 0), .int x1, .int x2, .int x3]) ++ List.replicate (5 - (lg_sl ([.ref (ad 0), .int x1, .int x2, .int x3])).length) Slot.unset).toArray = ls at hl ⊢
  have hl : lv_has ls 5 [(0, .ref (ad 0)), (1, .int x1), (2, .int x2), (3, .int x3)] := hl
  have hsh : shy S S := shy.rf
  unfold w_localRow at h
  refine lv_iload_n hx hb dX14_localRow_0 rfl (lv_at hl 2 rfl) ?_
  refine lv_bipush (v := 22) hx hb dX14_localRow_1 (by decide) ?_
  have J_17 : ∀ (U17 : MS) (t17_0 : Int32) (v17_1 : Int32) (v17_2 : Int32) (v17_3 : Int32) (H : Heap) (locs : List Loc) (ls : Array Slot), w_localRow_J17 Q E U17 t17_0 v17_1 v17_2 v17_3 → shy S U17 → Rep g ad A s U17 H locs → lv_has ls 5 [(0, .ref (ad 0)), (1, .int v17_1), (2, .int v17_2), (3, .int v17_3)] → W p l e (headSpec (wt2 yX14_localRow cX14_localRow 5 none) ({ frames := 3, cells := 0, slots := 0, locals := 67 })).room s m ([.ref (ad 0), .int x1, .int x2, .int x3] : List Value).toArray below meth c H locs 0 0 (vx_MQ below (va_Qv (fun (u : MS) => Q u ∧ wfM u ∧ shy S u) (fun (u : MS) (t : State) => qE g ad A u t) A) ((vx_X (fun (u : MS) => E u ∧ wfM u ∧ shy S u) (fun (n9 : String) (u : MS) (t : State) => n9 = RJxb5711 ∧ qE g ad A u t) A)) ([.ref (ad 0), .int x1, .int x2, .int x3] : List Value).toArray s 0 0 A) (F0 m 17 ls [.int t17_0]) := by
    intro U17 t17_0 v17_1 v17_2 v17_3 H locs ls h hsh hR hl
    unfold w_localRow_J17 at h
    refine lv_istore (lv' := [(4, .int t17_0), (0, .ref (ad 0)), (1, .int v17_1), (2, .int v17_2), (3, .int v17_3)]) hx hb dX14_localRow_17 hl (by decide) rfl (fun ls hl => ?_)
    refine lv_aload_n hx hb dX14_localRow_19 rfl (lv_at hl 1 rfl) ?_
    refine lv_iload_n hx hb dX14_localRow_20 rfl (lv_at hl 4 rfl) ?_
    refine lv_iload hx hb dX14_localRow_21 (lv_at hl 0 rfl) ?_
    refine lv_iadd hx hb dX14_localRow_23 ?_
    refine lv_topi (fun z1 ez1 => ?_)
    obtain rfl : z1 = (v17_3 + t17_0) := ez1
    refine lv_aload_n hx hb dX14_localRow_24 rfl (lv_at hl 1 rfl) ?_
    refine va_get (D := rD g) (ci := 13) (v := .int (qI U17 0 46)) (C := RX14) (T := TX14) (N := 143) hx hb hts in2X14 hown hR.K hR.P 0 (hR.at14 hR.w.1) rfl 46 (by decide) (hts _ kx_306) (fun _ h9 => h9) rfl dX14_localRow_25 ?_
    have J_36 : ∀ (U36 : MS) (t36_0 : Int32) (v36_1 : Int32) (v36_2 : Int32) (v36_3 : Int32) (H : Heap) (locs : List Loc) (ls : Array Slot), w_localRow_J36 Q E U36 t36_0 v36_1 v36_2 v36_3 → (t36_0 = 0 ∨ t36_0 = 1) → shy S U36 → Rep g ad A s U36 H locs → lv_has ls 5 [(0, .ref (ad 0)), (1, .int v36_1), (2, .int v36_2), (3, .int v36_3)] → W p l e (headSpec (wt2 yX14_localRow cX14_localRow 5 none) ({ frames := 3, cells := 0, slots := 0, locals := 67 })).room s m ([.ref (ad 0), .int x1, .int x2, .int x3] : List Value).toArray below meth c H locs 0 0 (vx_MQ below (va_Qv (fun (u : MS) => Q u ∧ wfM u ∧ shy S u) (fun (u : MS) (t : State) => qE g ad A u t) A) ((vx_X (fun (u : MS) => E u ∧ wfM u ∧ shy S u) (fun (n9 : String) (u : MS) (t : State) => n9 = RJxb5711 ∧ qE g ad A u t) A)) ([.ref (ad 0), .int x1, .int x2, .int x3] : List Value).toArray s 0 0 A) (F0 m 36 ls [.int t36_0, .ref (ad 0)]) := by
      intro U36 t36_0 v36_1 v36_2 v36_3 H locs ls h hz_t36_0 hsh hR hl
      unfold w_localRow_J36 at h
      refine lv_iload_n hx hb dX14_localRow_36 rfl (lv_at hl 1 rfl) ?_
      obtain ⟨Q2, EQ2, h0, h⟩ := h
      have hFc := rfree hR hA
      refine vx_callv (vx_runV (As := [.int t36_0, .int v36_1]) (rest := []) ⟨hx, hb, hml, hown, hts⟩ (r_point l g ad H.size U36 t36_0 v36_1 hR.w hz_t36_0 Q2 EQ2 h0) (cwV 2 hts (gd2_V kx_302 kx_303 kx_304 kx_177 kx_305) rfl rfl rfl (by decide +kernel) ⟨Nat.le_of_ble_eq_true rfl, Nat.le_of_ble_eq_true rfl⟩) ⟨rblind, va_recv hR.K hR.P (ci := 13) (q0 := 0) rfl (hR.at14 hR.w.1), fun U hU hW9 => rmk hU hW9 hR hex hE hFc⟩ rfl rfl hl.1 rfl (lv_room (Nat.le_of_ble_eq_true rfl)) dX14_localRow_37 ⟨Nat.le_of_ble_eq_true rfl, Nat.le_of_ble_eq_true rfl⟩) hR.sS (fun q _ h => hFc q h) hFc (fun q _ h => hFc q h) (fun E9 ce9 q9 u9 t9 H1 locs ht9 hvm9 hp9 hB9 hz9 hk9 hS hce9 hcv9 hcl9 => ?_) (fun  S3 t9 H1 locs ht9 hvm9 hw9 hB9 hz9 hk9 hS => ?_)
      · obtain ⟨hp9, hwx, hsx⟩ := hp9
        obtain ⟨rfl, hBx⟩ := hB9
        replace h := h.2 u9 hp9
        have hR : Rep g ad A s u9 H1 locs := hR.call ht9 hBx hwx hS hFc
        have hsh := hsh.tr hsx
        exact vx_out (E := RJxb5711) (q := q9) (fun x h9 => (hnt x h9).elim) hlocks hce9 hcv9 hcl9 (fun t9 ht9 ha9 => ⟨u9, ⟨h, hR.w, hsh⟩, ⟨rfl, by rw [ht9]; exact hR.P, hR.D⟩, hR.sS.F ht9⟩) hR.sS.2.2 (Nat.le_of_ble_eq_true rfl) (Nat.le_of_ble_eq_true rfl)
      · obtain ⟨hq4, hw9, hs9⟩ := hw9
        have hR : Rep g ad A s S3 H1 locs := hR.call ht9 hB9 hw9 hS hFc
        have hsh := hsh.tr hs9
        replace h := h.1  S3 hq4
        clear hB9 hz9 hk9 hvm9 ht9 hw9 hs9 hS
        generalize H1 = H at hR ⊢
        refine lv_aload_n hx hb dX14_localRow_40 rfl (lv_at hl 0 rfl) ?_
        refine lv_iload_n hx hb dX14_localRow_41 rfl (lv_at hl 2 rfl) ?_
        refine lv_iload_n hx hb dX14_localRow_42 rfl (lv_at hl 3 rfl) ?_
        refine lv_iconst (v := 0) hx hb dX14_localRow_43 (by decide) ?_
        obtain ⟨Q5, h0, h⟩ := h
        have hFc := rfree hR hA
        refine va_callv (va_runV (As := [.int v36_2, .int v36_3, .int 0]) (rest := []) ⟨hx, hb, hml, hown, hts⟩ (r_row l g ad H.size S3 v36_2 v36_3 (0 : Int32) hR.w  Q5 h0) (cwV 3 hts (gd2_V kx_307 kx_308 kx_309 kx_177 kx_310) rfl rfl rfl (by decide +kernel) ⟨Nat.le_of_ble_eq_true rfl, Nat.le_of_ble_eq_true rfl⟩) ⟨rblind, va_recv hR.K hR.P (ci := 13) (q0 := 0) rfl (hR.at14 hR.w.1), fun U hU hW9 => rmk hU hW9 hR hex hE hFc⟩ rfl rfl hl.1 rfl (lv_room (Nat.le_of_ble_eq_true rfl)) dX14_localRow_44 ⟨Nat.le_of_ble_eq_true rfl, Nat.le_of_ble_eq_true rfl⟩) hR.sS (fun q _ h => hFc q h) hFc (fun  S6 t9 H1 locs ht9 hvm9 hw9 hB9 hz9 hk9 hS => ?_)
        obtain ⟨hq7, hw9, hs9⟩ := hw9
        have hR : Rep g ad A s S6 H1 locs := hR.call ht9 hB9 hw9 hS hFc
        have hsh := hsh.tr hs9
        replace h := h  S6 hq7
        clear hB9 hz9 hk9 hvm9 ht9 hw9 hs9 hS
        generalize H1 = H at hR ⊢
        exact vx_ret (W.vret hx hb hr (fun t9 ht9 hW9 => ⟨⟨S6, rfl, ⟨h, hR.w, hsh⟩, ⟨by rw [ht9]; exact hR.P, hR.D⟩⟩, hR.sS.F ht9⟩) hR.sS.2.2 dX14_localRow_47)
    refine lv_icmp_gt (tgt := 35) hx hb dX14_localRow_28 (by decide) (fun c8 => ?_) (fun c8 => ?_)
    · replace h := h.1 (k_lt rfl rfl c8)
      refine lv_iconst (v := 0) hx hb dX14_localRow_35 (by decide) ?_
      exact J_36 U17 0 v17_1 v17_2 v17_3 _ _ ls h (Or.inl rfl) hsh hR (lv_sub hl [1, 2, 3, 4] rfl)
    · replace h := h.2 (k_nlt rfl rfl c8)
      refine lv_iconst (v := 1) hx hb dX14_localRow_31 (by decide) ?_
      refine lv_goto (tgt := 36) hx hb dX14_localRow_32 (by decide) ?_
      exact J_36 U17 1 v17_1 v17_2 v17_3 _ _ ls h (Or.inr rfl) hsh hR (lv_sub hl [1, 2, 3, 4] rfl)
  have J_12 : ∀ (U12 : MS) (v12_1 : Int32) (v12_2 : Int32) (v12_3 : Int32) (H : Heap) (locs : List Loc) (ls : Array Slot), w_localRow_J12 Q E U12 v12_1 v12_2 v12_3 → shy S U12 → Rep g ad A s U12 H locs → lv_has ls 5 [(0, .ref (ad 0)), (1, .int v12_1), (2, .int v12_2), (3, .int v12_3)] → W p l e (headSpec (wt2 yX14_localRow cX14_localRow 5 none) ({ frames := 3, cells := 0, slots := 0, locals := 67 })).room s m ([.ref (ad 0), .int x1, .int x2, .int x3] : List Value).toArray below meth c H locs 0 0 (vx_MQ below (va_Qv (fun (u : MS) => Q u ∧ wfM u ∧ shy S u) (fun (u : MS) (t : State) => qE g ad A u t) A) ((vx_X (fun (u : MS) => E u ∧ wfM u ∧ shy S u) (fun (n9 : String) (u : MS) (t : State) => n9 = RJxb5711 ∧ qE g ad A u t) A)) ([.ref (ad 0), .int x1, .int x2, .int x3] : List Value).toArray s 0 0 A) (F0 m 12 ls []) := by
    intro U12 v12_1 v12_2 v12_3 H locs ls h hsh hR hl
    unfold w_localRow_J12 at h
    refine lv_iconst (v := 2) hx hb dX14_localRow_12 (by decide) ?_
    refine lv_goto (tgt := 17) hx hb dX14_localRow_13 (by decide) ?_
    exact J_17 U12 2 v12_1 v12_2 v12_3 _ _ ls h  hsh hR (lv_sub hl [0, 1, 2, 3] rfl)
  refine lv_icmp_eq (tgt := 12) hx hb dX14_localRow_3 (by decide) (fun c9 => ?_) (fun c9 => ?_)
  · replace h := h.1 (k_eq rfl (by decide) c9)
    exact J_12 S x1 x2 x3 _ _ ls h  hsh hR (lv_sub hl [0, 1, 2, 3] rfl)
  · replace h := h.2 (k_ne rfl (by decide) c9)
    refine lv_iload_n hx hb dX14_localRow_6 rfl (lv_at hl 2 rfl) ?_
    refine lv_bipush (v := 55) hx hb dX14_localRow_7 (by decide) ?_
    refine lv_icmp_ne (tgt := 16) hx hb dX14_localRow_9 (by decide) (fun c10 => ?_) (fun c10 => ?_)
    · replace h := h.2 (k_ne rfl (by decide) c10)
      refine lv_iconst (v := 1) hx hb dX14_localRow_16 (by decide) ?_
      exact J_17 S 1 x1 x2 x3 _ _ ls h  hsh hR (lv_sub hl [0, 1, 2, 3] rfl)
    · replace h := h.1 (k_eq rfl (by decide) c10)
      exact J_12 S x1 x2 x3 _ _ ls h  hsh hR (lv_sub hl [0, 1, 2, 3] rfl)
def w_pushed (S : MS) (x1 : Int32) (x2 : Int32) (x3 : Int32) (Q : MS → Prop) (E : MS → Prop) : Prop := (d_isEntry S x2 x3 ∧ (∃ Q4 EQ4, w_point S (f_isEntry S x2 x3) x1 Q4 EQ4 ∧ (∀ S5, Q4 S5 → ((x3.toInt = 3 → (((0 : Int) ≤ x2.toInt ∧ x2.toInt < 502) ∧ (∃ Q17, w_row S5 (18 : Int32) ((qJ S5 8 x2.toInt.toNat).toInt32) (0 : Int32) Q17 ∧ ∀ S18, Q17 S18 → Q S18))) ∧ (¬ x3.toInt = 3 → (((0 : Int) ≤ x2.toInt ∧ x2.toInt < 502) ∧ (((0 : Int) ≤ x2.toInt ∧ x2.toInt < 502) ∧ (∃ Q12, w_row S5 (20 : Int32) (((qJ S5 8 x2.toInt.toNat) >>> ((32 : Int32).toInt64 &&& 63)).toInt32) ((qJ S5 8 x2.toInt.toNat).toInt32) Q12 ∧ ∀ S13, Q12 S13 → Q S13)))))) ∧ (∀ u9, EQ4 u9 → E u9)))
set_option maxHeartbeats 2000000 in
set_option maxRecDepth 100000 in
theorem r_pushed (l : Launch) (g : Gr) (ad : Nat → Nat) (sz : Nat) (S : MS) (x1 : Int32) (x2 : Int32) (x3 : Int32) (hw : wfM S) (Q : MS → Prop) (E : MS → Prop) (h : w_pushed S x1 x2 x3 Q E) : vx_Met l yX14_pushed (wt2 yX14_pushed cX14_pushed 4 none) ({ frames := 3, cells := 0, slots := 0, locals := 67 }) (va_Pc [.ref (ad 0), .int x1, .int x2, .int x3] (st_R g ad sz S)) (va_Qv (fun (u : MS) => Q u ∧ wfM u ∧ shy S u) (fun (u : MS) (t : State) => qE g ad (va_A (Wd g ad S) sz) u t) (va_A (Wd g ad S) sz)) (vx_X (fun (u : MS) => E u ∧ wfM u ∧ shy S u) (fun (n9 : String) (u : MS) (t : State) => n9 = RJxb5711 ∧ qE g ad (va_A (Wd g ad S) sz) u t) (va_A (Wd g ad S) sz)) 0 0 (va_A (Wd g ad S) sz) := by
  refine vx_ofW (cc := cX14_pushed) (maxL := 4) (ret := none) (by decide) rfl ?_
  intro p e s m args below meth c s₁ B hml hnt hv
  obtain ⟨rfl, hsz, hP, hK, hD0, hex, hE⟩ := hv
  have hx := B.exec
  have hb := B.bytes
  have hr := B.returns
  have hlocks := B.notSynchronized
  have hts0 := atoms_spec (ws := wt2 yX14_pushed cX14_pushed 4 none) B.pre
  have hts : ∀ w ∈ tb2, w.before _ s = true := fun w h => hts0 w (List.mem_cons_of_mem _ h)
  have hown : s.vm.findClass RX14 = some m.cls := findClass_of_methodNamed B.named
  subst hsz
  have hD := hD0.self (sz := s.heap.size)
  generalize hAe : va_A (Wd g ad S) s.heap.size = A at hD hE ⊢
  have hA : ∀ q : Nat, s.heap.size ≤ q → A q := fun q h => by rw [← hAe]; exact Or.inr h
  have hR : Rep g ad A s S s.heap [] := ⟨hK, hP, hD, va_S.rf, hw⟩
  clear hK hP hD hD0
  have hl := lv_entry ([.ref (ad 0), .int x1, .int x2, .int x3]) (n := 4) (Nat.le_of_ble_eq_true rfl)
  rw [lg_entry_eq]
  generalize (lg_sl ([.ref (ad 0), .int x1, .int x2, .int x3]) ++ List.replicate (4 - (lg_sl ([.ref (ad 0), .int x1, .int x2, .int x3])).length) Slot.unset).toArray = ls at hl ⊢
  have hl : lv_has ls 4 [(0, .ref (ad 0)), (1, .int x1), (2, .int x2), (3, .int x3)] := hl
  have hsh : shy S S := shy.rf
  unfold w_pushed at h
  refine lv_aload_n hx hb dX14_pushed_0 rfl (lv_at hl 0 rfl) ?_
  refine lv_aload_n hx hb dX14_pushed_1 rfl (lv_at hl 0 rfl) ?_
  refine lv_iload_n hx hb dX14_pushed_2 rfl (lv_at hl 2 rfl) ?_
  refine lv_iload_n hx hb dX14_pushed_3 rfl (lv_at hl 3 rfl) ?_
  obtain ⟨hv1, h⟩ := h
  have hFc := rfree hR hA
  refine va_calli (va_runV (As := [.int x2, .int x3]) (rest := [.ref (ad 0)]) ⟨hx, hb, hml, hown, hts⟩ (r_isEntry l g ad s.heap.size S x2 x3 hR.w  hv1) (cwV 2 hts (gd2_V kx_219 kx_220 kx_221 kx_177 kx_222) rfl rfl rfl (by decide +kernel) ⟨Nat.le_of_ble_eq_true rfl, Nat.le_of_ble_eq_true rfl⟩) ⟨rblind, va_recv hR.K hR.P (ci := 13) (q0 := 0) rfl (hR.at14 hR.w.1), fun U hU hW9 => rmk hU hW9 hR hex hE hFc⟩ rfl rfl hl.1 rfl (lv_room (Nat.le_of_ble_eq_true rfl)) dX14_pushed_4 ⟨Nat.le_of_ble_eq_true rfl, Nat.le_of_ble_eq_true rfl⟩) hR.sS (fun q _ h => hFc q h) hFc (fun r2 u9 t9 H1 locs ht9 hvm9 hw9 hB9 hz9 hk9 hS => ?_)
  have hR : Rep g ad A s S H1 locs := hR.call ht9 hB9 hR.w hS hFc
  obtain ⟨rfl, hz_r2⟩ := hw9
  clear hB9 hz9 hk9 hvm9 ht9 hS
  generalize H1 = H at hR ⊢
  refine lv_iload_n hx hb dX14_pushed_7 rfl (lv_at hl 1 rfl) ?_
  obtain ⟨Q4, EQ4, h0, h⟩ := h
  have hFc := rfree hR hA
  refine vx_callv (vx_runV (As := [.int (f_isEntry S x2 x3), .int x1]) (rest := []) ⟨hx, hb, hml, hown, hts⟩ (r_point l g ad H.size S (f_isEntry S x2 x3) x1 hR.w hz_r2 Q4 EQ4 h0) (cwV 2 hts (gd2_V kx_302 kx_303 kx_304 kx_177 kx_305) rfl rfl rfl (by decide +kernel) ⟨Nat.le_of_ble_eq_true rfl, Nat.le_of_ble_eq_true rfl⟩) ⟨rblind, va_recv hR.K hR.P (ci := 13) (q0 := 0) rfl (hR.at14 hR.w.1), fun U hU hW9 => rmk hU hW9 hR hex hE hFc⟩ rfl rfl hl.1 rfl (lv_room (Nat.le_of_ble_eq_true rfl)) dX14_pushed_8 ⟨Nat.le_of_ble_eq_true rfl, Nat.le_of_ble_eq_true rfl⟩) hR.sS (fun q _ h => hFc q h) hFc (fun q _ h => hFc q h) (fun E9 ce9 q9 u9 t9 H1 locs ht9 hvm9 hp9 hB9 hz9 hk9 hS hce9 hcv9 hcl9 => ?_) (fun  S5 t9 H1 locs ht9 hvm9 hw9 hB9 hz9 hk9 hS => ?_)
  · obtain ⟨hp9, hwx, hsx⟩ := hp9
    obtain ⟨rfl, hBx⟩ := hB9
    replace h := h.2 u9 hp9
    have hR : Rep g ad A s u9 H1 locs := hR.call ht9 hBx hwx hS hFc
    have hsh := hsh.tr hsx
    exact vx_out (E := RJxb5711) (q := q9) (fun x h9 => (hnt x h9).elim) hlocks hce9 hcv9 hcl9 (fun t9 ht9 ha9 => ⟨u9, ⟨h, hR.w, hsh⟩, ⟨rfl, by rw [ht9]; exact hR.P, hR.D⟩, hR.sS.F ht9⟩) hR.sS.2.2 (Nat.le_of_ble_eq_true rfl) (Nat.le_of_ble_eq_true rfl)
  · obtain ⟨hq6, hw9, hs9⟩ := hw9
    have hR : Rep g ad A s S5 H1 locs := hR.call ht9 hB9 hw9 hS hFc
    have hsh := hsh.tr hs9
    replace h := h.1  S5 hq6
    clear hB9 hz9 hk9 hvm9 ht9 hw9 hs9 hS
    generalize H1 = H at hR ⊢
    refine lv_iload_n hx hb dX14_pushed_11 rfl (lv_at hl 3 rfl) ?_
    refine lv_iconst (v := 3) hx hb dX14_pushed_12 (by decide) ?_
    refine lv_icmp_ne (tgt := 33) hx hb dX14_pushed_13 (by decide) (fun c7 => ?_) (fun c7 => ?_)
    · replace h := h.2 (k_ne rfl (by decide) c7)
      refine lv_aload_n hx hb dX14_pushed_33 rfl (lv_at hl 0 rfl) ?_
      refine lv_bipush (v := 20) hx hb dX14_pushed_34 (by decide) ?_
      refine lv_aload_n hx hb dX14_pushed_36 rfl (lv_at hl 0 rfl) ?_
      refine va_get (D := rD g) (ci := 13) (v := .ref (ad 8)) (C := RX14) (T := TX14) (N := 143) hx hb hts in2X14 hown hR.K hR.P 0 (hR.at14 hR.w.1) rfl 19 (by decide) (hts _ kx_311) (fun _ h9 => h9) (congrArg (fun z => some (vf ad z)) (hR.w.2.1 _ fin_19).1) dX14_pushed_37 ?_
      refine lv_iload_n hx hb dX14_pushed_40 rfl (lv_at hl 2 rfl) ?_
      obtain ⟨hv8, h⟩ := h
      refine va_lald hx hb hR.K hR.P 8 3 (hR.atL (hR.w.2.1 _ fin_19).2.1) rfl (k_ixN (k_ix (n := 502) (x := x2) (a := x2.toInt) rfl hv8) (hR.w.2.1 _ fin_19).2.2) dX14_pushed_41 ?_
      refine lv_topl (fun z9 ez9 => ?_)
      obtain rfl : z9 = (qJ S5 8 x2.toInt.toNat) := ez9
      refine lv_bipush (v := 32) hx hb dX14_pushed_42 (by decide) ?_
      refine lv_lshr (v := ((qJ S5 8 x2.toInt.toNat) >>> ((32 : Int32).toInt64 &&& 63))) hx hb dX14_pushed_44 rfl ?_
      refine lv_l2i (v := (((qJ S5 8 x2.toInt.toNat) >>> ((32 : Int32).toInt64 &&& 63)).toInt32)) hx hb dX14_pushed_45 rfl ?_
      refine lv_aload_n hx hb dX14_pushed_46 rfl (lv_at hl 0 rfl) ?_
      refine va_get (D := rD g) (ci := 13) (v := .ref (ad 8)) (C := RX14) (T := TX14) (N := 143) hx hb hts in2X14 hown hR.K hR.P 0 (hR.at14 hR.w.1) rfl 19 (by decide) (hts _ kx_311) (fun _ h9 => h9) (congrArg (fun z => some (vf ad z)) (hR.w.2.1 _ fin_19).1) dX14_pushed_47 ?_
      refine lv_iload_n hx hb dX14_pushed_50 rfl (lv_at hl 2 rfl) ?_
      obtain ⟨hv10, h⟩ := h
      refine va_lald hx hb hR.K hR.P 8 3 (hR.atL (hR.w.2.1 _ fin_19).2.1) rfl (k_ixN (k_ix (n := 502) (x := x2) (a := x2.toInt) rfl hv10) (hR.w.2.1 _ fin_19).2.2) dX14_pushed_51 ?_
      refine lv_topl (fun z11 ez11 => ?_)
      obtain rfl : z11 = (qJ S5 8 x2.toInt.toNat) := ez11
      refine lv_l2i (v := ((qJ S5 8 x2.toInt.toNat).toInt32)) hx hb dX14_pushed_52 rfl ?_
      obtain ⟨Q12, h0, h⟩ := h
      have hFc := rfree hR hA
      refine va_callv (va_runV (As := [.int 20, .int (((qJ S5 8 x2.toInt.toNat) >>> ((32 : Int32).toInt64 &&& 63)).toInt32), .int ((qJ S5 8 x2.toInt.toNat).toInt32)]) (rest := []) ⟨hx, hb, hml, hown, hts⟩ (r_row l g ad H.size S5 (20 : Int32) (((qJ S5 8 x2.toInt.toNat) >>> ((32 : Int32).toInt64 &&& 63)).toInt32) ((qJ S5 8 x2.toInt.toNat).toInt32) hR.w  Q12 h0) (cwV 3 hts (gd2_V kx_307 kx_308 kx_309 kx_177 kx_310) rfl rfl rfl (by decide +kernel) ⟨Nat.le_of_ble_eq_true rfl, Nat.le_of_ble_eq_true rfl⟩) ⟨rblind, va_recv hR.K hR.P (ci := 13) (q0 := 0) rfl (hR.at14 hR.w.1), fun U hU hW9 => rmk hU hW9 hR hex hE hFc⟩ rfl rfl hl.1 rfl (lv_room (Nat.le_of_ble_eq_true rfl)) dX14_pushed_53 ⟨Nat.le_of_ble_eq_true rfl, Nat.le_of_ble_eq_true rfl⟩) hR.sS (fun q _ h => hFc q h) hFc (fun  S13 t9 H1 locs ht9 hvm9 hw9 hB9 hz9 hk9 hS => ?_)
      obtain ⟨hq14, hw9, hs9⟩ := hw9
      have hR : Rep g ad A s S13 H1 locs := hR.call ht9 hB9 hw9 hS hFc
      have hsh := hsh.tr hs9
      replace h := h  S13 hq14
      clear hB9 hz9 hk9 hvm9 ht9 hw9 hs9 hS
      generalize H1 = H at hR ⊢
      exact vx_ret (W.vret hx hb hr (fun t9 ht9 hW9 => ⟨⟨S13, rfl, ⟨h, hR.w, hsh⟩, ⟨by rw [ht9]; exact hR.P, hR.D⟩⟩, hR.sS.F ht9⟩) hR.sS.2.2 dX14_pushed_56)
    · replace h := h.1 (k_eq rfl (by decide) c7)
      refine lv_aload_n hx hb dX14_pushed_16 rfl (lv_at hl 0 rfl) ?_
      refine lv_bipush (v := 18) hx hb dX14_pushed_17 (by decide) ?_
      refine lv_aload_n hx hb dX14_pushed_19 rfl (lv_at hl 0 rfl) ?_
      refine va_get (D := rD g) (ci := 13) (v := .ref (ad 8)) (C := RX14) (T := TX14) (N := 143) hx hb hts in2X14 hown hR.K hR.P 0 (hR.at14 hR.w.1) rfl 19 (by decide) (hts _ kx_311) (fun _ h9 => h9) (congrArg (fun z => some (vf ad z)) (hR.w.2.1 _ fin_19).1) dX14_pushed_20 ?_
      refine lv_iload_n hx hb dX14_pushed_23 rfl (lv_at hl 2 rfl) ?_
      obtain ⟨hv15, h⟩ := h
      refine va_lald hx hb hR.K hR.P 8 3 (hR.atL (hR.w.2.1 _ fin_19).2.1) rfl (k_ixN (k_ix (n := 502) (x := x2) (a := x2.toInt) rfl hv15) (hR.w.2.1 _ fin_19).2.2) dX14_pushed_24 ?_
      refine lv_topl (fun z16 ez16 => ?_)
      obtain rfl : z16 = (qJ S5 8 x2.toInt.toNat) := ez16
      refine lv_l2i (v := ((qJ S5 8 x2.toInt.toNat).toInt32)) hx hb dX14_pushed_25 rfl ?_
      refine lv_iconst (v := 0) hx hb dX14_pushed_26 (by decide) ?_
      obtain ⟨Q17, h0, h⟩ := h
      have hFc := rfree hR hA
      refine va_callv (va_runV (As := [.int 18, .int ((qJ S5 8 x2.toInt.toNat).toInt32), .int 0]) (rest := []) ⟨hx, hb, hml, hown, hts⟩ (r_row l g ad H.size S5 (18 : Int32) ((qJ S5 8 x2.toInt.toNat).toInt32) (0 : Int32) hR.w  Q17 h0) (cwV 3 hts (gd2_V kx_307 kx_308 kx_309 kx_177 kx_310) rfl rfl rfl (by decide +kernel) ⟨Nat.le_of_ble_eq_true rfl, Nat.le_of_ble_eq_true rfl⟩) ⟨rblind, va_recv hR.K hR.P (ci := 13) (q0 := 0) rfl (hR.at14 hR.w.1), fun U hU hW9 => rmk hU hW9 hR hex hE hFc⟩ rfl rfl hl.1 rfl (lv_room (Nat.le_of_ble_eq_true rfl)) dX14_pushed_27 ⟨Nat.le_of_ble_eq_true rfl, Nat.le_of_ble_eq_true rfl⟩) hR.sS (fun q _ h => hFc q h) hFc (fun  S18 t9 H1 locs ht9 hvm9 hw9 hB9 hz9 hk9 hS => ?_)
      obtain ⟨hq19, hw9, hs9⟩ := hw9
      have hR : Rep g ad A s S18 H1 locs := hR.call ht9 hB9 hw9 hS hFc
      have hsh := hsh.tr hs9
      replace h := h  S18 hq19
      clear hB9 hz9 hk9 hvm9 ht9 hw9 hs9 hS
      generalize H1 = H at hR ⊢
      refine lv_goto (tgt := 56) hx hb dX14_pushed_30 (by decide) ?_
      exact vx_ret (W.vret hx hb hr (fun t9 ht9 hW9 => ⟨⟨S18, rfl, ⟨h, hR.w, hsh⟩, ⟨by rw [ht9]; exact hR.P, hR.D⟩⟩, hR.sS.F ht9⟩) hR.sS.2.2 dX14_pushed_56)
def w_grown_J14 (Q : MS → Prop) (E : MS → Prop) (U14 : MS) (t14_0 : Int32) (v14_1 : Int32) (v14_2 : Int32) (v14_3 : Int32) : Prop := (∃ Q1 EQ1, w_point U14 t14_0 v14_1 Q1 EQ1 ∧ (∀ S2, Q1 S2 → (∃ Q4, w_row S2 (132 : Int32) v14_2 v14_3 Q4 ∧ ∀ S5, Q4 S5 → Q S5)) ∧ (∀ u9, EQ1 u9 → E u9))
def w_grown (S : MS) (x1 : Int32) (x2 : Int32) (x3 : Int32) (Q : MS → Prop) (E : MS → Prop) : Prop := (((qI S 0 46).toInt ≤ x2.toInt → w_grown_J14 Q E S 0 x1 x2 x3) ∧ (¬ (qI S 0 46).toInt ≤ x2.toInt → w_grown_J14 Q E S 1 x1 x2 x3))
set_option maxHeartbeats 2000000 in
set_option maxRecDepth 100000 in
theorem r_grown (l : Launch) (g : Gr) (ad : Nat → Nat) (sz : Nat) (S : MS) (x1 : Int32) (x2 : Int32) (x3 : Int32) (hw : wfM S) (Q : MS → Prop) (E : MS → Prop) (h : w_grown S x1 x2 x3 Q E) : vx_Met l yX14_grown (wt2 yX14_grown cX14_grown 4 none) ({ frames := 3, cells := 0, slots := 0, locals := 67 }) (va_Pc [.ref (ad 0), .int x1, .int x2, .int x3] (st_R g ad sz S)) (va_Qv (fun (u : MS) => Q u ∧ wfM u ∧ shy S u) (fun (u : MS) (t : State) => qE g ad (va_A (Wd g ad S) sz) u t) (va_A (Wd g ad S) sz)) (vx_X (fun (u : MS) => E u ∧ wfM u ∧ shy S u) (fun (n9 : String) (u : MS) (t : State) => n9 = RJxb5711 ∧ qE g ad (va_A (Wd g ad S) sz) u t) (va_A (Wd g ad S) sz)) 0 0 (va_A (Wd g ad S) sz) := by
  refine vx_ofW (cc := cX14_grown) (maxL := 4) (ret := none) (by decide) rfl ?_
  intro p e s m args below meth c s₁ B hml hnt hv
  obtain ⟨rfl, hsz, hP, hK, hD0, hex, hE⟩ := hv
  have hx := B.exec
  have hb := B.bytes
  have hr := B.returns
  have hlocks := B.notSynchronized
  have hts0 := atoms_spec (ws := wt2 yX14_grown cX14_grown 4 none) B.pre
  have hts : ∀ w ∈ tb2, w.before _ s = true := fun w h => hts0 w (List.mem_cons_of_mem _ h)
  have hown : s.vm.findClass RX14 = some m.cls := findClass_of_methodNamed B.named
  subst hsz
  have hD := hD0.self (sz := s.heap.size)
  generalize hAe : va_A (Wd g ad S) s.heap.size = A at hD hE ⊢
  have hA : ∀ q : Nat, s.heap.size ≤ q → A q := fun q h => by rw [← hAe]; exact Or.inr h
  have hR : Rep g ad A s S s.heap [] := ⟨hK, hP, hD, va_S.rf, hw⟩
  clear hK hP hD hD0
  have hl := lv_entry ([.ref (ad 0), .int x1, .int x2, .int x3]) (n := 4) (Nat.le_of_ble_eq_true rfl)
  rw [lg_entry_eq]
  generalize (lg_sl ([.ref (ad 0), .int x1, .int x2, .int x3]) ++ List.replicate (4 - (lg_sl ([.ref (ad 0), .int x1, .int x2, .int x3])).length) Slot.unset).toArray = ls at hl ⊢
  have hl : lv_has ls 4 [(0, .ref (ad 0)), (1, .int x1), (2, .int x2), (3, .int x3)] := hl
  have hsh : shy S S := shy.rf
  unfold w_grown at h
  refine lv_aload_n hx hb dX14_grown_0 rfl (lv_at hl 0 rfl) ?_
  refine lv_iload_n hx hb dX14_grown_1 rfl (lv_at hl 2 rfl) ?_
  refine lv_aload_n hx hb dX14_grown_2 rfl (lv_at hl 0 rfl) ?_
  refine va_get (D := rD g) (ci := 13) (v := .int (qI S 0 46)) (C := RX14) (T := TX14) (N := 143) hx hb hts in2X14 hown hR.K hR.P 0 (hR.at14 hR.w.1) rfl 46 (by decide) (hts _ kx_306) (fun _ h9 => h9) rfl dX14_grown_3 ?_
  have J_14 : ∀ (U14 : MS) (t14_0 : Int32) (v14_1 : Int32) (v14_2 : Int32) (v14_3 : Int32) (H : Heap) (locs : List Loc) (ls : Array Slot), w_grown_J14 Q E U14 t14_0 v14_1 v14_2 v14_3 → (t14_0 = 0 ∨ t14_0 = 1) → shy S U14 → Rep g ad A s U14 H locs → lv_has ls 4 [(0, .ref (ad 0)), (1, .int v14_1), (2, .int v14_2), (3, .int v14_3)] → W p l e (headSpec (wt2 yX14_grown cX14_grown 4 none) ({ frames := 3, cells := 0, slots := 0, locals := 67 })).room s m ([.ref (ad 0), .int x1, .int x2, .int x3] : List Value).toArray below meth c H locs 0 0 (vx_MQ below (va_Qv (fun (u : MS) => Q u ∧ wfM u ∧ shy S u) (fun (u : MS) (t : State) => qE g ad A u t) A) ((vx_X (fun (u : MS) => E u ∧ wfM u ∧ shy S u) (fun (n9 : String) (u : MS) (t : State) => n9 = RJxb5711 ∧ qE g ad A u t) A)) ([.ref (ad 0), .int x1, .int x2, .int x3] : List Value).toArray s 0 0 A) (F0 m 14 ls [.int t14_0, .ref (ad 0)]) := by
    intro U14 t14_0 v14_1 v14_2 v14_3 H locs ls h hz_t14_0 hsh hR hl
    unfold w_grown_J14 at h
    refine lv_iload_n hx hb dX14_grown_14 rfl (lv_at hl 1 rfl) ?_
    obtain ⟨Q1, EQ1, h0, h⟩ := h
    have hFc := rfree hR hA
    refine vx_callv (vx_runV (As := [.int t14_0, .int v14_1]) (rest := []) ⟨hx, hb, hml, hown, hts⟩ (r_point l g ad H.size U14 t14_0 v14_1 hR.w hz_t14_0 Q1 EQ1 h0) (cwV 2 hts (gd2_V kx_302 kx_303 kx_304 kx_177 kx_305) rfl rfl rfl (by decide +kernel) ⟨Nat.le_of_ble_eq_true rfl, Nat.le_of_ble_eq_true rfl⟩) ⟨rblind, va_recv hR.K hR.P (ci := 13) (q0 := 0) rfl (hR.at14 hR.w.1), fun U hU hW9 => rmk hU hW9 hR hex hE hFc⟩ rfl rfl hl.1 rfl (lv_room (Nat.le_of_ble_eq_true rfl)) dX14_grown_15 ⟨Nat.le_of_ble_eq_true rfl, Nat.le_of_ble_eq_true rfl⟩) hR.sS (fun q _ h => hFc q h) hFc (fun q _ h => hFc q h) (fun E9 ce9 q9 u9 t9 H1 locs ht9 hvm9 hp9 hB9 hz9 hk9 hS hce9 hcv9 hcl9 => ?_) (fun  S2 t9 H1 locs ht9 hvm9 hw9 hB9 hz9 hk9 hS => ?_)
    · obtain ⟨hp9, hwx, hsx⟩ := hp9
      obtain ⟨rfl, hBx⟩ := hB9
      replace h := h.2 u9 hp9
      have hR : Rep g ad A s u9 H1 locs := hR.call ht9 hBx hwx hS hFc
      have hsh := hsh.tr hsx
      exact vx_out (E := RJxb5711) (q := q9) (fun x h9 => (hnt x h9).elim) hlocks hce9 hcv9 hcl9 (fun t9 ht9 ha9 => ⟨u9, ⟨h, hR.w, hsh⟩, ⟨rfl, by rw [ht9]; exact hR.P, hR.D⟩, hR.sS.F ht9⟩) hR.sS.2.2 (Nat.le_of_ble_eq_true rfl) (Nat.le_of_ble_eq_true rfl)
    · obtain ⟨hq3, hw9, hs9⟩ := hw9
      have hR : Rep g ad A s S2 H1 locs := hR.call ht9 hB9 hw9 hS hFc
      have hsh := hsh.tr hs9
      replace h := h.1  S2 hq3
      clear hB9 hz9 hk9 hvm9 ht9 hw9 hs9 hS
      generalize H1 = H at hR ⊢
      refine lv_aload_n hx hb dX14_grown_18 rfl (lv_at hl 0 rfl) ?_
      refine lv_sipush (v := 132) hx hb dX14_grown_19 (by decide) ?_
      refine lv_iload_n hx hb dX14_grown_22 rfl (lv_at hl 2 rfl) ?_
      refine lv_iload_n hx hb dX14_grown_23 rfl (lv_at hl 3 rfl) ?_
      obtain ⟨Q4, h0, h⟩ := h
      have hFc := rfree hR hA
      refine va_callv (va_runV (As := [.int 132, .int v14_2, .int v14_3]) (rest := []) ⟨hx, hb, hml, hown, hts⟩ (r_row l g ad H.size S2 (132 : Int32) v14_2 v14_3 hR.w  Q4 h0) (cwV 3 hts (gd2_V kx_307 kx_308 kx_309 kx_177 kx_310) rfl rfl rfl (by decide +kernel) ⟨Nat.le_of_ble_eq_true rfl, Nat.le_of_ble_eq_true rfl⟩) ⟨rblind, va_recv hR.K hR.P (ci := 13) (q0 := 0) rfl (hR.at14 hR.w.1), fun U hU hW9 => rmk hU hW9 hR hex hE hFc⟩ rfl rfl hl.1 rfl (lv_room (Nat.le_of_ble_eq_true rfl)) dX14_grown_24 ⟨Nat.le_of_ble_eq_true rfl, Nat.le_of_ble_eq_true rfl⟩) hR.sS (fun q _ h => hFc q h) hFc (fun  S5 t9 H1 locs ht9 hvm9 hw9 hB9 hz9 hk9 hS => ?_)
      obtain ⟨hq6, hw9, hs9⟩ := hw9
      have hR : Rep g ad A s S5 H1 locs := hR.call ht9 hB9 hw9 hS hFc
      have hsh := hsh.tr hs9
      replace h := h  S5 hq6
      clear hB9 hz9 hk9 hvm9 ht9 hw9 hs9 hS
      generalize H1 = H at hR ⊢
      exact vx_ret (W.vret hx hb hr (fun t9 ht9 hW9 => ⟨⟨S5, rfl, ⟨h, hR.w, hsh⟩, ⟨by rw [ht9]; exact hR.P, hR.D⟩⟩, hR.sS.F ht9⟩) hR.sS.2.2 dX14_grown_27)
  refine lv_icmp_ge (tgt := 13) hx hb dX14_grown_6 (by decide) (fun c7 => ?_) (fun c7 => ?_)
  · replace h := h.1 (k_le rfl rfl c7)
    refine lv_iconst (v := 0) hx hb dX14_grown_13 (by decide) ?_
    exact J_14 S 0 x1 x2 x3 _ _ ls h (Or.inl rfl) hsh hR (lv_sub hl [0, 1, 2, 3] rfl)
  · replace h := h.2 (k_nle rfl rfl c7)
    refine lv_iconst (v := 1) hx hb dX14_grown_9 (by decide) ?_
    refine lv_goto (tgt := 14) hx hb dX14_grown_10 (by decide) ?_
    exact J_14 S 1 x1 x2 x3 _ _ ls h (Or.inr rfl) hsh hR (lv_sub hl [0, 1, 2, 3] rfl)
def w_wide (S : MS) (x1 : Int32) (x2 : Int32) (Q : MS → Prop) (E : MS → Prop) : Prop := (d_codeTwo S (x1 + (2 : Int32)) ∧ (∀ a6 : Int32, a6 = ((f_codeTwo S (x1 + (2 : Int32))) &&& (65535 : Int32)) → ((x2.toInt = 132 → (d_codeTwo S (x1 + (4 : Int32)) ∧ (∃ Q15 EQ15, w_grown S x1 a6 (f_codeTwo S (x1 + (4 : Int32))) Q15 EQ15 ∧ (∀ S16, Q15 S16 → Q S16) ∧ (∀ u9, EQ15 u9 → E u9)))) ∧ (¬ x2.toInt = 132 → (∃ Q8 EQ8, w_localRow S x1 x2 a6 Q8 EQ8 ∧ (∀ S9, Q8 S9 → Q S9) ∧ (∀ u9, EQ8 u9 → E u9))))))
set_option maxHeartbeats 2000000 in
set_option maxRecDepth 100000 in
theorem r_wide (l : Launch) (g : Gr) (ad : Nat → Nat) (sz : Nat) (S : MS) (x1 : Int32) (x2 : Int32) (hw : wfM S) (Q : MS → Prop) (E : MS → Prop) (h : w_wide S x1 x2 Q E) : vx_Met l yX14_wide (wt2 yX14_wide cX14_wide 4 none) ({ frames := 4, cells := 0, slots := 0, locals := 91 }) (va_Pc [.ref (ad 0), .int x1, .int x2] (st_R g ad sz S)) (va_Qv (fun (u : MS) => Q u ∧ wfM u ∧ shy S u) (fun (u : MS) (t : State) => qE g ad (va_A (Wd g ad S) sz) u t) (va_A (Wd g ad S) sz)) (vx_X (fun (u : MS) => E u ∧ wfM u ∧ shy S u) (fun (n9 : String) (u : MS) (t : State) => n9 = RJxb5711 ∧ qE g ad (va_A (Wd g ad S) sz) u t) (va_A (Wd g ad S) sz)) 0 0 (va_A (Wd g ad S) sz) := by
  refine vx_ofW (cc := cX14_wide) (maxL := 4) (ret := none) (by decide) rfl ?_
  intro p e s m args below meth c s₁ B hml hnt hv
  obtain ⟨rfl, hsz, hP, hK, hD0, hex, hE⟩ := hv
  have hx := B.exec
  have hb := B.bytes
  have hr := B.returns
  have hlocks := B.notSynchronized
  have hts0 := atoms_spec (ws := wt2 yX14_wide cX14_wide 4 none) B.pre
  have hts : ∀ w ∈ tb2, w.before _ s = true := fun w h => hts0 w (List.mem_cons_of_mem _ h)
  have hown : s.vm.findClass RX14 = some m.cls := findClass_of_methodNamed B.named
  subst hsz
  have hD := hD0.self (sz := s.heap.size)
  generalize hAe : va_A (Wd g ad S) s.heap.size = A at hD hE ⊢
  have hA : ∀ q : Nat, s.heap.size ≤ q → A q := fun q h => by rw [← hAe]; exact Or.inr h
  have hR : Rep g ad A s S s.heap [] := ⟨hK, hP, hD, va_S.rf, hw⟩
  clear hK hP hD hD0
  have hl := lv_entry ([.ref (ad 0), .int x1, .int x2]) (n := 4) (Nat.le_of_ble_eq_true rfl)
  rw [lg_entry_eq]
  generalize (lg_sl ([.ref (ad 0), .int x1, .int x2]) ++ List.replicate (4 - (lg_sl ([.ref (ad 0), .int x1, .int x2])).length) Slot.unset).toArray = ls at hl ⊢
  have hl : lv_has ls 4 [(0, .ref (ad 0)), (1, .int x1), (2, .int x2)] := hl
  have hsh : shy S S := shy.rf
  unfold w_wide at h
  refine lv_aload_n hx hb dX14_wide_0 rfl (lv_at hl 0 rfl) ?_
  refine lv_iload_n hx hb dX14_wide_1 rfl (lv_at hl 1 rfl) ?_
  refine lv_iconst (v := 2) hx hb dX14_wide_2 (by decide) ?_
  refine lv_iadd hx hb dX14_wide_3 ?_
  refine lv_topi (fun z1 ez1 => ?_)
  obtain rfl : z1 = (x1 + (2 : Int32)) := ez1
  obtain ⟨hv2, h⟩ := h
  have hFc := rfree hR hA
  refine va_calli (va_runV (As := [.int (x1 + (2 : Int32))]) (rest := []) ⟨hx, hb, hml, hown, hts⟩ (r_codeTwo l g ad s.heap.size S (x1 + (2 : Int32)) hR.w  hv2) (cwV 1 hts (gd2_V kx_312 kx_313 kx_314 kx_177 kx_315) rfl rfl rfl (by decide +kernel) ⟨Nat.le_of_ble_eq_true rfl, Nat.le_of_ble_eq_true rfl⟩) ⟨rblind, va_recv hR.K hR.P (ci := 13) (q0 := 0) rfl (hR.at14 hR.w.1), fun U hU hW9 => rmk hU hW9 hR hex hE hFc⟩ rfl rfl hl.1 rfl (lv_room (Nat.le_of_ble_eq_true rfl)) dX14_wide_4 ⟨Nat.le_of_ble_eq_true rfl, Nat.le_of_ble_eq_true rfl⟩) hR.sS (fun q _ h => hFc q h) hFc (fun r3 u9 t9 H1 locs ht9 hvm9 hw9 hB9 hz9 hk9 hS => ?_)
  have hR : Rep g ad A s S H1 locs := hR.call ht9 hB9 hR.w hS hFc
  obtain rfl : r3 = (f_codeTwo S (x1 + (2 : Int32))) := hw9
  clear hB9 hz9 hk9 hvm9 ht9 hS
  generalize H1 = H at hR ⊢
  refine lv_ldcw hx hb hown (hts _ kx_316) dX14_wide_7 ?_
  refine lv_iand hx hb dX14_wide_10 ?_
  refine lv_topi (fun z5 ez5 => ?_)
  obtain rfl : z5 = ((f_codeTwo S (x1 + (2 : Int32))) &&& (65535 : Int32)) := ez5
  obtain ⟨a6, ea6⟩ : ∃ z, z = ((f_codeTwo S (x1 + (2 : Int32))) &&& (65535 : Int32)) := ⟨_, rfl⟩
  rw [← ea6]
  replace h := h a6 ea6
  refine lv_istore_n (lv' := [(3, .int a6), (0, .ref (ad 0)), (1, .int x1), (2, .int x2)]) hx hb dX14_wide_11 rfl hl (by decide) rfl (fun ls hl => ?_)
  refine lv_iload_n hx hb dX14_wide_12 rfl (lv_at hl 3 rfl) ?_
  refine lv_sipush (v := 132) hx hb dX14_wide_13 (by decide) ?_
  refine lv_icmp_ne (tgt := 35) hx hb dX14_wide_16 (by decide) (fun c7 => ?_) (fun c7 => ?_)
  · replace h := h.2 (k_ne rfl (by decide) c7)
    refine lv_aload_n hx hb dX14_wide_35 rfl (lv_at hl 1 rfl) ?_
    refine lv_iload_n hx hb dX14_wide_36 rfl (lv_at hl 2 rfl) ?_
    refine lv_iload_n hx hb dX14_wide_37 rfl (lv_at hl 3 rfl) ?_
    refine lv_iload_n hx hb dX14_wide_38 rfl (lv_at hl 0 rfl) ?_
    obtain ⟨Q8, EQ8, h0, h⟩ := h
    have hFc := rfree hR hA
    refine vx_callv (vx_runV (As := [.int x1, .int x2, .int a6]) (rest := []) ⟨hx, hb, hml, hown, hts⟩ (r_localRow l g ad H.size S x1 x2 a6 hR.w  Q8 EQ8 h0) (cwV 3 hts (gd2_V kx_317 kx_318 kx_319 kx_177 kx_320) rfl rfl rfl (by decide +kernel) ⟨Nat.le_of_ble_eq_true rfl, Nat.le_of_ble_eq_true rfl⟩) ⟨rblind, va_recv hR.K hR.P (ci := 13) (q0 := 0) rfl (hR.at14 hR.w.1), fun U hU hW9 => rmk hU hW9 hR hex hE hFc⟩ rfl rfl hl.1 rfl (lv_room (Nat.le_of_ble_eq_true rfl)) dX14_wide_39 ⟨Nat.le_of_ble_eq_true rfl, Nat.le_of_ble_eq_true rfl⟩) hR.sS (fun q _ h => hFc q h) hFc (fun q _ h => hFc q h) (fun E9 ce9 q9 u9 t9 H1 locs ht9 hvm9 hp9 hB9 hz9 hk9 hS hce9 hcv9 hcl9 => ?_) (fun  S9 t9 H1 locs ht9 hvm9 hw9 hB9 hz9 hk9 hS => ?_)
    · obtain ⟨hp9, hwx, hsx⟩ := hp9
      obtain ⟨rfl, hBx⟩ := hB9
      replace h := h.2 u9 hp9
      have hR : Rep g ad A s u9 H1 locs := hR.call ht9 hBx hwx hS hFc
      have hsh := hsh.tr hsx
      exact vx_out (E := RJxb5711) (q := q9) (fun x h9 => (hnt x h9).elim) hlocks hce9 hcv9 hcl9 (fun t9 ht9 ha9 => ⟨u9, ⟨h, hR.w, hsh⟩, ⟨rfl, by rw [ht9]; exact hR.P, hR.D⟩, hR.sS.F ht9⟩) hR.sS.2.2 (Nat.le_of_ble_eq_true rfl) (Nat.le_of_ble_eq_true rfl)
    · obtain ⟨hq10, hw9, hs9⟩ := hw9
      have hR : Rep g ad A s S9 H1 locs := hR.call ht9 hB9 hw9 hS hFc
      have hsh := hsh.tr hs9
      replace h := h.1  S9 hq10
      clear hB9 hz9 hk9 hvm9 ht9 hw9 hs9 hS
      generalize H1 = H at hR ⊢
      exact vx_ret (W.vret hx hb hr (fun t9 ht9 hW9 => ⟨⟨S9, rfl, ⟨h, hR.w, hsh⟩, ⟨by rw [ht9]; exact hR.P, hR.D⟩⟩, hR.sS.F ht9⟩) hR.sS.2.2 dX14_wide_42)
  · replace h := h.1 (k_eq rfl (by decide) c7)
    refine lv_aload_n hx hb dX14_wide_19 rfl (lv_at hl 1 rfl) ?_
    refine lv_iload_n hx hb dX14_wide_20 rfl (lv_at hl 2 rfl) ?_
    refine lv_iload_n hx hb dX14_wide_21 rfl (lv_at hl 0 rfl) ?_
    refine lv_aload_n hx hb dX14_wide_22 rfl (lv_at hl 1 rfl) ?_
    refine lv_iload_n hx hb dX14_wide_23 rfl (lv_at hl 2 rfl) ?_
    refine lv_iconst (v := 4) hx hb dX14_wide_24 (by decide) ?_
    refine lv_iadd hx hb dX14_wide_25 ?_
    refine lv_topi (fun z11 ez11 => ?_)
    obtain rfl : z11 = (x1 + (4 : Int32)) := ez11
    obtain ⟨hv12, h⟩ := h
    have hFc := rfree hR hA
    refine va_calli (va_runV (As := [.int (x1 + (4 : Int32))]) (rest := [.int a6, .int x1, .ref (ad 0)]) ⟨hx, hb, hml, hown, hts⟩ (r_codeTwo l g ad H.size S (x1 + (4 : Int32)) hR.w  hv12) (cwV 1 hts (gd2_V kx_312 kx_313 kx_314 kx_177 kx_315) rfl rfl rfl (by decide +kernel) ⟨Nat.le_of_ble_eq_true rfl, Nat.le_of_ble_eq_true rfl⟩) ⟨rblind, va_recv hR.K hR.P (ci := 13) (q0 := 0) rfl (hR.at14 hR.w.1), fun U hU hW9 => rmk hU hW9 hR hex hE hFc⟩ rfl rfl hl.1 rfl (lv_room (Nat.le_of_ble_eq_true rfl)) dX14_wide_26 ⟨Nat.le_of_ble_eq_true rfl, Nat.le_of_ble_eq_true rfl⟩) hR.sS (fun q _ h => hFc q h) hFc (fun r13 u9 t9 H1 locs ht9 hvm9 hw9 hB9 hz9 hk9 hS => ?_)
    have hR : Rep g ad A s S H1 locs := hR.call ht9 hB9 hR.w hS hFc
    obtain rfl : r13 = (f_codeTwo S (x1 + (4 : Int32))) := hw9
    clear hB9 hz9 hk9 hvm9 ht9 hS
    generalize H1 = H at hR ⊢
    obtain ⟨Q15, EQ15, h0, h⟩ := h
    have hFc := rfree hR hA
    refine vx_callv (vx_runV (As := [.int x1, .int a6, .int (f_codeTwo S (x1 + (4 : Int32)))]) (rest := []) ⟨hx, hb, hml, hown, hts⟩ (r_grown l g ad H.size S x1 a6 (f_codeTwo S (x1 + (4 : Int32))) hR.w  Q15 EQ15 h0) (cwV 3 hts (gd2_V kx_321 kx_322 kx_323 kx_177 kx_324) rfl rfl rfl (by decide +kernel) ⟨Nat.le_of_ble_eq_true rfl, Nat.le_of_ble_eq_true rfl⟩) ⟨rblind, va_recv hR.K hR.P (ci := 13) (q0 := 0) rfl (hR.at14 hR.w.1), fun U hU hW9 => rmk hU hW9 hR hex hE hFc⟩ rfl rfl hl.1 rfl (lv_room (Nat.le_of_ble_eq_true rfl)) dX14_wide_29 ⟨Nat.le_of_ble_eq_true rfl, Nat.le_of_ble_eq_true rfl⟩) hR.sS (fun q _ h => hFc q h) hFc (fun q _ h => hFc q h) (fun E9 ce9 q9 u9 t9 H1 locs ht9 hvm9 hp9 hB9 hz9 hk9 hS hce9 hcv9 hcl9 => ?_) (fun  S16 t9 H1 locs ht9 hvm9 hw9 hB9 hz9 hk9 hS => ?_)
    · obtain ⟨hp9, hwx, hsx⟩ := hp9
      obtain ⟨rfl, hBx⟩ := hB9
      replace h := h.2 u9 hp9
      have hR : Rep g ad A s u9 H1 locs := hR.call ht9 hBx hwx hS hFc
      have hsh := hsh.tr hsx
      exact vx_out (E := RJxb5711) (q := q9) (fun x h9 => (hnt x h9).elim) hlocks hce9 hcv9 hcl9 (fun t9 ht9 ha9 => ⟨u9, ⟨h, hR.w, hsh⟩, ⟨rfl, by rw [ht9]; exact hR.P, hR.D⟩, hR.sS.F ht9⟩) hR.sS.2.2 (Nat.le_of_ble_eq_true rfl) (Nat.le_of_ble_eq_true rfl)
    · obtain ⟨hq17, hw9, hs9⟩ := hw9
      have hR : Rep g ad A s S16 H1 locs := hR.call ht9 hB9 hw9 hS hFc
      have hsh := hsh.tr hs9
      replace h := h.1  S16 hq17
      clear hB9 hz9 hk9 hvm9 ht9 hw9 hs9 hS
      generalize H1 = H at hR ⊢
      refine lv_goto (tgt := 42) hx hb dX14_wide_32 (by decide) ?_
      exact vx_ret (W.vret hx hb hr (fun t9 ht9 hW9 => ⟨⟨S16, rfl, ⟨h, hR.w, hsh⟩, ⟨by rw [ht9]; exact hR.P, hR.D⟩⟩, hR.sS.F ht9⟩) hR.sS.2.2 dX14_wide_42)
def w_switched_J166 (Q : MS → Prop) (E : MS → Prop) (k79 : MS → Int32 → Int32 → Int32 → Int32 → Int32 → Int32 → Int32 → Prop) (U166 : MS) (t166_0 : Int32) (t166_2 : Int32) (t166_4 : Int32) (v166_1 : Int32) (v166_2 : Int32) (v166_3 : Int32) (v166_4 : Int32) (v166_5 : Int32) (v166_6 : Int32) (v166_7 : Int32) : Prop := (d_codeFour U166 t166_0 ∧ (∃ Q32 EQ32, w_target U166 t166_2 (f_codeFour U166 t166_0) Q32 EQ32 ∧ (∀ r33 S34, Q32 r33 S34 → (((0 : Int) ≤ t166_4.toInt ∧ t166_4.toInt < 40000) ∧ (∀ S37, S37 = wI S34 20 t166_4.toInt.toNat r33 → (∀ S39, S39 = wI S37 0 43 ((qI S37 0 43) + (2 : Int32)) → (∀ a40 : Int32, a40 = (v166_7 + Int32.ofInt 1) → k79 S39 v166_1 v166_2 v166_3 v166_4 v166_5 v166_6 a40))))) ∧ (∀ u9, EQ32 u9 → E u9)))
def w_switched_J123 (Q : MS → Prop) (E : MS → Prop) (k79 : MS → Int32 → Int32 → Int32 → Int32 → Int32 → Int32 → Int32 → Prop) (U123 : MS) (t123_0 : Int32) (t123_1 : Int32) (v123_1 : Int32) (v123_2 : Int32) (v123_3 : Int32) (v123_4 : Int32) (v123_5 : Int32) (v123_6 : Int32) (v123_7 : Int32) : Prop := (((0 : Int) ≤ t123_1.toInt ∧ t123_1.toInt < 40000) ∧ (∀ S27, S27 = wI U123 20 t123_1.toInt.toNat t123_0 → ((v123_2.toInt = 170 → w_switched_J166 Q E k79 S27 ((v123_3 + (12 : Int32)) + ((4 : Int32) * v123_7)) v123_1 ((qI S27 0 43) + (1 : Int32)) v123_1 v123_2 v123_3 v123_4 v123_5 v123_6 v123_7) ∧ (¬ v123_2.toInt = 170 → w_switched_J166 Q E k79 S27 ((v123_3 + (12 : Int32)) + ((8 : Int32) * v123_7)) v123_1 ((qI S27 0 43) + (1 : Int32)) v123_1 v123_2 v123_3 v123_4 v123_5 v123_6 v123_7))))
def w_switched_L79 (Q : MS → Prop) (E : MS → Prop) : Nat → MS → Int32 → Int32 → Int32 → Int32 → Int32 → Int32 → Int32 → Prop
  | 0, _, _, _, _, _, _, _, _ => False
  | n79 + 1, U79, v79_1, v79_2, v79_3, v79_4, v79_5, v79_6, v79_7 => ((v79_6.toInt ≤ v79_7.toInt → (∃ Q23, w_row U79 v79_2 v79_4 v79_6 Q23 ∧ ∀ S24, Q23 S24 → Q S24)) ∧ (¬ v79_6.toInt ≤ v79_7.toInt → ((v79_2.toInt = 170 → w_switched_J123 Q E (w_switched_L79 Q E n79) U79 (v79_5 + v79_7) (qI U79 0 43) v79_1 v79_2 v79_3 v79_4 v79_5 v79_6 v79_7) ∧ (¬ v79_2.toInt = 170 → (d_codeFour U79 ((v79_3 + (8 : Int32)) + ((8 : Int32) * v79_7)) ∧ w_switched_J123 Q E (w_switched_L79 Q E n79) U79 (f_codeFour U79 ((v79_3 + (8 : Int32)) + ((8 : Int32) * v79_7))) (qI U79 0 43) v79_1 v79_2 v79_3 v79_4 v79_5 v79_6 v79_7)))))
def w_switched_J74 (Q : MS → Prop) (E : MS → Prop) (U74 : MS) (t74_0 : Int32) (v74_1 : Int32) (v74_2 : Int32) (v74_3 : Int32) (v74_4 : Int32) (v74_5 : Int32) : Prop := (∃ n, w_switched_L79 Q E n U74 v74_1 v74_2 v74_3 v74_4 v74_5 t74_0 0)
def w_switched (S : MS) (x1 : Int32) (x2 : Int32) (Q : MS → Prop) (E : MS → Prop) : Prop := (d_switchFrom S x1 ∧ (∀ a4 : Int32, a4 = (f_switchFrom S x1) → (∀ a5 : Int32, a5 = (qI S 0 43) → (d_codeFour S a4 ∧ (∃ Q9 EQ9, w_target S x1 (f_codeFour S a4) Q9 EQ9 ∧ (∀ r10 S11, Q9 r10 S11 → (((0 : Int) ≤ (qI S 0 43).toInt ∧ (qI S 0 43).toInt < 40000) ∧ (∀ S14, S14 = wI S11 20 (((qI S 0 43).toInt).toNat) r10 → (∀ S16, S16 = wI S14 0 43 ((qI S14 0 43) + (1 : Int32)) → (d_codeFour S16 (a4 + (4 : Int32)) ∧ (∀ a21 : Int32, a21 = (f_codeFour S16 (a4 + (4 : Int32))) → ((x2.toInt = 170 → (d_codeFour S16 (a4 + (8 : Int32)) ∧ w_switched_J74 Q E S16 (((f_codeFour S16 (a4 + (8 : Int32))) - a21) + (1 : Int32)) x1 x2 a4 a5 a21)) ∧ (¬ x2.toInt = 170 → w_switched_J74 Q E S16 a21 x1 x2 a4 a5 a21)))))))) ∧ (∀ u9, EQ9 u9 → E u9))))))
set_option maxHeartbeats 2000000 in
set_option maxRecDepth 100000 in
theorem r_switched (l : Launch) (g : Gr) (ad : Nat → Nat) (sz : Nat) (S : MS) (x1 : Int32) (x2 : Int32) (hw : wfM S) (Q : MS → Prop) (E : MS → Prop) (h : w_switched S x1 x2 Q E) : vx_Met l yX14_switched (wt2 yX14_switched cX14_switched 8 none) ({ frames := 4, cells := 0, slots := 0, locals := 89 }) (va_Pc [.ref (ad 0), .int x1, .int x2] (st_R g ad sz S)) (va_Qv (fun (u : MS) => Q u ∧ wfM u ∧ shy S u) (fun (u : MS) (t : State) => qE g ad (va_A (Wd g ad S) sz) u t) (va_A (Wd g ad S) sz)) (vx_X (fun (u : MS) => E u ∧ wfM u ∧ shy S u) (fun (n9 : String) (u : MS) (t : State) => n9 = RJxb5711 ∧ qE g ad (va_A (Wd g ad S) sz) u t) (va_A (Wd g ad S) sz)) 0 0 (va_A (Wd g ad S) sz) := by
  refine vx_ofW (cc := cX14_switched) (maxL := 8) (ret := none) (by decide) rfl ?_
  intro p e s m args below meth c s₁ B hml hnt hv
  obtain ⟨rfl, hsz, hP, hK, hD0, hex, hE⟩ := hv
  have hx := B.exec
  have hb := B.bytes
  have hr := B.returns
  have hlocks := B.notSynchronized
  have hts0 := atoms_spec (ws := wt2 yX14_switched cX14_switched 8 none) B.pre
  have hts : ∀ w ∈ tb2, w.before _ s = true := fun w h => hts0 w (List.mem_cons_of_mem _ h)
  have hown : s.vm.findClass RX14 = some m.cls := findClass_of_methodNamed B.named
  subst hsz
  have hD := hD0.self (sz := s.heap.size)
  generalize hAe : va_A (Wd g ad S) s.heap.size = A at hD hE ⊢
  have hA : ∀ q : Nat, s.heap.size ≤ q → A q := fun q h => by rw [← hAe]; exact Or.inr h
  have hR : Rep g ad A s S s.heap [] := ⟨hK, hP, hD, va_S.rf, hw⟩
  clear hK hP hD hD0
  have hl := lv_entry ([.ref (ad 0), .int x1, .int x2]) (n := 8) (Nat.le_of_ble_eq_true rfl)
  rw [lg_entry_eq]
  generalize (lg_sl ([.ref (ad 0), .int x1, .int x2]) ++ List.replicate (8 - (lg_sl ([.ref (ad 0), .int x1, .int x2])).length) Slot.unset).toArray = ls at hl ⊢
  have hl : lv_has ls 8 [(0, .ref (ad 0)), (1, .int x1), (2, .int x2)] := hl
  have hsh : shy S S := shy.rf
  unfold w_switched at h
  refine lv_iload_n hx hb dX14_switched_0 rfl (lv_at hl 1 rfl) ?_
  obtain ⟨hv1, h⟩ := h
  have hFc := rfree hR hA
  refine va_calli (va_runS (As := [.int x1]) (rest := []) ⟨hx, hb, hml, hown, hts⟩ (r_switchFrom l g ad s.heap.size S x1 hR.w  hv1) (va_cwS 1 hts (gd2_S kx_282 kx_283 kx_177 kx_284) rfl rfl rfl (by decide +kernel) ⟨Nat.le_of_ble_eq_true rfl, Nat.le_of_ble_eq_true rfl⟩) ⟨rblind, fun U hU hW9 => rmk hU hW9 hR hex hE hFc⟩ rfl rfl hl.1 rfl (lv_room (Nat.le_of_ble_eq_true rfl)) dX14_switched_1 ⟨Nat.le_of_ble_eq_true rfl, Nat.le_of_ble_eq_true rfl⟩) hR.sS (fun q _ h => hFc q h) hFc (fun r2 u9 t9 H1 locs ht9 hvm9 hw9 hB9 hz9 hk9 hS => ?_)
  have hR : Rep g ad A s S H1 locs := hR.call ht9 hB9 hR.w hS hFc
  obtain rfl : r2 = (f_switchFrom S x1) := hw9
  clear hB9 hz9 hk9 hvm9 ht9 hS
  generalize H1 = H at hR ⊢
  obtain ⟨a4, ea4⟩ : ∃ z, z = (f_switchFrom S x1) := ⟨_, rfl⟩
  rw [← ea4]
  replace h := h a4 ea4
  refine lv_istore_n (lv' := [(3, .int a4), (0, .ref (ad 0)), (1, .int x1), (2, .int x2)]) hx hb dX14_switched_4 rfl hl (by decide) rfl (fun ls hl => ?_)
  refine lv_aload_n hx hb dX14_switched_5 rfl (lv_at hl 1 rfl) ?_
  refine va_get (D := rD g) (ci := 13) (v := .int (qI S 0 43)) (C := RX14) (T := TX14) (N := 143) hx hb hts in2X14 hown hR.K hR.P 0 (hR.at14 hR.w.1) rfl 43 (by decide) (hts _ kx_325) (fun _ h9 => h9) rfl dX14_switched_6 ?_
  obtain ⟨a5, ea5⟩ : ∃ z, z = (qI S 0 43) := ⟨_, rfl⟩
  rw [← ea5]
  replace h := h a5 ea5
  refine lv_istore (lv' := [(4, .int a5), (3, .int a4), (0, .ref (ad 0)), (1, .int x1), (2, .int x2)]) hx hb dX14_switched_9 hl (by decide) rfl (fun ls hl => ?_)
  refine lv_aload_n hx hb dX14_switched_11 rfl (lv_at hl 2 rfl) ?_
  refine va_get (D := rD g) (ci := 13) (v := .ref (ad 20)) (C := RX14) (T := TX14) (N := 143) hx hb hts in2X14 hown hR.K hR.P 0 (hR.at14 hR.w.1) rfl 42 (by decide) (hts _ kx_326) (fun _ h9 => h9) (congrArg (fun z => some (vf ad z)) (hR.w.2.1 _ fin_42).1) dX14_switched_12 ?_
  refine lv_aload_n hx hb dX14_switched_15 rfl (lv_at hl 2 rfl) ?_
  refine va_get (D := rD g) (ci := 13) (v := .int (qI S 0 43)) (C := RX14) (T := TX14) (N := 143) hx hb hts in2X14 hown hR.K hR.P 0 (hR.at14 hR.w.1) rfl 43 (by decide) (hts _ kx_325) (fun _ h9 => h9) rfl dX14_switched_16 ?_
  refine lv_aload_n hx hb dX14_switched_19 rfl (lv_at hl 2 rfl) ?_
  refine lv_iload_n hx hb dX14_switched_20 rfl (lv_at hl 3 rfl) ?_
  refine lv_aload_n hx hb dX14_switched_21 rfl (lv_at hl 2 rfl) ?_
  refine lv_iload_n hx hb dX14_switched_22 rfl (lv_at hl 1 rfl) ?_
  obtain ⟨hv6, h⟩ := h
  have hFc := rfree hR hA
  refine va_calli (va_runV (As := [.int a4]) (rest := [.int x1, .ref (ad 0), .int (qI S 0 43), .ref (ad 20)]) ⟨hx, hb, hml, hown, hts⟩ (r_codeFour l g ad H.size S a4 hR.w  hv6) (cwV 1 hts (gd2_V kx_285 kx_286 kx_287 kx_177 kx_288) rfl rfl rfl (by decide +kernel) ⟨Nat.le_of_ble_eq_true rfl, Nat.le_of_ble_eq_true rfl⟩) ⟨rblind, va_recv hR.K hR.P (ci := 13) (q0 := 0) rfl (hR.at14 hR.w.1), fun U hU hW9 => rmk hU hW9 hR hex hE hFc⟩ rfl rfl hl.1 rfl (lv_room (Nat.le_of_ble_eq_true rfl)) dX14_switched_23 ⟨Nat.le_of_ble_eq_true rfl, Nat.le_of_ble_eq_true rfl⟩) hR.sS (fun q _ h => hFc q h) hFc (fun r7 u9 t9 H1 locs ht9 hvm9 hw9 hB9 hz9 hk9 hS => ?_)
  have hR : Rep g ad A s S H1 locs := hR.call ht9 hB9 hR.w hS hFc
  obtain rfl : r7 = (f_codeFour S a4) := hw9
  clear hB9 hz9 hk9 hvm9 ht9 hS
  generalize H1 = H at hR ⊢
  obtain ⟨Q9, EQ9, h0, h⟩ := h
  have hFc := rfree hR hA
  refine vx_calli (vx_runV (As := [.int x1, .int (f_codeFour S a4)]) (rest := [.int (qI S 0 43), .ref (ad 20)]) ⟨hx, hb, hml, hown, hts⟩ (r_target l g ad H.size S x1 (f_codeFour S a4) hR.w  Q9 EQ9 h0) (cwV 2 hts (gd2_V kx_327 kx_328 kx_329 kx_177 kx_330) rfl rfl rfl (by decide +kernel) ⟨Nat.le_of_ble_eq_true rfl, Nat.le_of_ble_eq_true rfl⟩) ⟨rblind, va_recv hR.K hR.P (ci := 13) (q0 := 0) rfl (hR.at14 hR.w.1), fun U hU hW9 => rmk hU hW9 hR hex hE hFc⟩ rfl rfl hl.1 rfl (lv_room (Nat.le_of_ble_eq_true rfl)) dX14_switched_26 ⟨Nat.le_of_ble_eq_true rfl, Nat.le_of_ble_eq_true rfl⟩) hR.sS (fun q _ h => hFc q h) hFc (fun q _ h => hFc q h) (fun E9 ce9 q9 u9 t9 H1 locs ht9 hvm9 hp9 hB9 hz9 hk9 hS hce9 hcv9 hcl9 => ?_) (fun r10 S11 t9 H1 locs ht9 hvm9 hw9 hB9 hz9 hk9 hS => ?_)
  · obtain ⟨hp9, hwx, hsx⟩ := hp9
    obtain ⟨rfl, hBx⟩ := hB9
    replace h := h.2 u9 hp9
    have hR : Rep g ad A s u9 H1 locs := hR.call ht9 hBx hwx hS hFc
    have hsh := hsh.tr hsx
    exact vx_out (E := RJxb5711) (q := q9) (fun x h9 => (hnt x h9).elim) hlocks hce9 hcv9 hcl9 (fun t9 ht9 ha9 => ⟨u9, ⟨h, hR.w, hsh⟩, ⟨rfl, by rw [ht9]; exact hR.P, hR.D⟩, hR.sS.F ht9⟩) hR.sS.2.2 (Nat.le_of_ble_eq_true rfl) (Nat.le_of_ble_eq_true rfl)
  · obtain ⟨hq12, hw9, hs9⟩ := hw9
    have hR : Rep g ad A s S11 H1 locs := hR.call ht9 hB9 hw9 hS hFc
    have hsh := hsh.tr hs9
    replace h := h.1 r10 S11 hq12
    clear hB9 hz9 hk9 hvm9 ht9 hw9 hs9 hS
    generalize H1 = H at hR ⊢
    obtain ⟨hv13, h⟩ := h
    refine va_iast hx hb hR.K hR.P hR.D hR.sS 20 1 (hR.atI (hR.w.2.1 _ fin_42).2.1) rfl (k_ixN (k_ix (n := 40000) (x := (qI S 0 43)) (a := (qI S 0 43).toInt) rfl hv13) (hR.w.2.1 _ fin_42).2.2) dX14_switched_29 (fun H locs hP hD hS => ?_)
    have hR : Rep g ad A s (wI S11 20 (((qI S 0 43).toInt).toNat) r10) H locs := hR.aI (hR.w.2.1 _ fin_42).2.1 hP hD hS
    obtain ⟨S14, eS14⟩ : ∃ z, z = wI S11 20 (((qI S 0 43).toInt).toNat) r10 := ⟨_, rfl⟩
    rw [← eS14] at hR
    replace h := h S14 eS14
    have hsh : shy S S14 := by rw [eS14]; exact hsh
    refine lv_aload_n hx hb dX14_switched_30 rfl (lv_at hl 2 rfl) ?_
    refine lv_dup hx hb dX14_switched_31 rfl ?_
    refine va_get (D := rD g) (ci := 13) (v := .int (qI S14 0 43)) (C := RX14) (T := TX14) (N := 143) hx hb hts in2X14 hown hR.K hR.P 0 (hR.at14 hR.w.1) rfl 43 (by decide) (hts _ kx_325) (fun _ h9 => h9) rfl dX14_switched_32 ?_
    refine lv_iconst (v := 1) hx hb dX14_switched_35 (by decide) ?_
    refine lv_iadd hx hb dX14_switched_36 ?_
    refine lv_topi (fun z15 ez15 => ?_)
    obtain rfl : z15 = ((qI S14 0 43) + (1 : Int32)) := ez15
    refine va_put (D := rD g) (ci := 13) (v := .int ((qI S14 0 43) + (1 : Int32))) (ty := .int) (C := RX14) (T := TX14) (N := 143) hx hb hts in2X14 tyX14 tyX14_ok nmX14 hown hR.K hR.P hR.D hR.sS 0 (hR.at14 hR.w.1) rfl 43 (by decide) (hts _ kx_325) (fun _ h9 => h9) rfl (by decide +kernel) rfl rfl (Nat.le_of_ble_eq_true rfl) dX14_switched_37 (fun H locs hP hD hS => ?_)
    have hR : Rep g ad A s (wI S14 0 43 ((qI S14 0 43) + (1 : Int32))) H locs := hR.pI hR.w.1 F14_s43 hP hD hS
    obtain ⟨S16, eS16⟩ : ∃ z, z = wI S14 0 43 ((qI S14 0 43) + (1 : Int32)) := ⟨_, rfl⟩
    rw [← eS16] at hR
    replace h := h S16 eS16
    have hsh : shy S S16 := by rw [eS16]; exact hsh
    refine lv_aload_n hx hb dX14_switched_40 rfl (lv_at hl 2 rfl) ?_
    refine lv_iload_n hx hb dX14_switched_41 rfl (lv_at hl 1 rfl) ?_
    refine lv_iconst (v := 4) hx hb dX14_switched_42 (by decide) ?_
    refine lv_iadd hx hb dX14_switched_43 ?_
    refine lv_topi (fun z17 ez17 => ?_)
    obtain rfl : z17 = (a4 + (4 : Int32)) := ez17
    obtain ⟨hv18, h⟩ := h
    have hFc := rfree hR hA
    refine va_calli (va_runV (As := [.int (a4 + (4 : Int32))]) (rest := []) ⟨hx, hb, hml, hown, hts⟩ (r_codeFour l g ad H.size S16 (a4 + (4 : Int32)) hR.w  hv18) (cwV 1 hts (gd2_V kx_285 kx_286 kx_287 kx_177 kx_288) rfl rfl rfl (by decide +kernel) ⟨Nat.le_of_ble_eq_true rfl, Nat.le_of_ble_eq_true rfl⟩) ⟨rblind, va_recv hR.K hR.P (ci := 13) (q0 := 0) rfl (hR.at14 hR.w.1), fun U hU hW9 => rmk hU hW9 hR hex hE hFc⟩ rfl rfl hl.1 rfl (lv_room (Nat.le_of_ble_eq_true rfl)) dX14_switched_44 ⟨Nat.le_of_ble_eq_true rfl, Nat.le_of_ble_eq_true rfl⟩) hR.sS (fun q _ h => hFc q h) hFc (fun r19 u9 t9 H1 locs ht9 hvm9 hw9 hB9 hz9 hk9 hS => ?_)
    have hR : Rep g ad A s S16 H1 locs := hR.call ht9 hB9 hR.w hS hFc
    obtain rfl : r19 = (f_codeFour S16 (a4 + (4 : Int32))) := hw9
    clear hB9 hz9 hk9 hvm9 ht9 hS
    generalize H1 = H at hR ⊢
    obtain ⟨a21, ea21⟩ : ∃ z, z = (f_codeFour S16 (a4 + (4 : Int32))) := ⟨_, rfl⟩
    rw [← ea21]
    replace h := h a21 ea21
    refine lv_istore (lv' := [(5, .int a21), (4, .int a5), (3, .int a4), (0, .ref (ad 0)), (1, .int x1), (2, .int x2)]) hx hb dX14_switched_47 hl (by decide) rfl (fun ls hl => ?_)
    refine lv_iload_n hx hb dX14_switched_49 rfl (lv_at hl 5 rfl) ?_
    refine lv_sipush (v := 170) hx hb dX14_switched_50 (by decide) ?_
    have J_74 : ∀ (U74 : MS) (t74_0 : Int32) (v74_1 : Int32) (v74_2 : Int32) (v74_3 : Int32) (v74_4 : Int32) (v74_5 : Int32) (H : Heap) (locs : List Loc) (ls : Array Slot), w_switched_J74 Q E U74 t74_0 v74_1 v74_2 v74_3 v74_4 v74_5 → shy S U74 → Rep g ad A s U74 H locs → lv_has ls 8 [(0, .ref (ad 0)), (1, .int v74_1), (2, .int v74_2), (3, .int v74_3), (4, .int v74_4), (5, .int v74_5)] → W p l e (headSpec (wt2 yX14_switched cX14_switched 8 none) ({ frames := 4, cells := 0, slots := 0, locals := 89 })).room s m ([.ref (ad 0), .int x1, .int x2] : List Value).toArray below meth c H locs 0 0 (vx_MQ below (va_Qv (fun (u : MS) => Q u ∧ wfM u ∧ shy S u) (fun (u : MS) (t : State) => qE g ad A u t) A) ((vx_X (fun (u : MS) => E u ∧ wfM u ∧ shy S u) (fun (n9 : String) (u : MS) (t : State) => n9 = RJxb5711 ∧ qE g ad A u t) A)) ([.ref (ad 0), .int x1, .int x2] : List Value).toArray s 0 0 A) (F0 m 74 ls [.int t74_0]) := by
      intro U74 t74_0 v74_1 v74_2 v74_3 v74_4 v74_5 H locs ls h hsh hR hl
      unfold w_switched_J74 at h
      refine lv_istore (lv' := [(6, .int t74_0), (0, .ref (ad 0)), (1, .int v74_1), (2, .int v74_2), (3, .int v74_3), (4, .int v74_4), (5, .int v74_5)]) hx hb dX14_switched_74 hl (by decide) rfl (fun ls hl => ?_)
      refine lv_iconst (v := 0) hx hb dX14_switched_76 (by decide) ?_
      refine lv_istore (lv' := [(7, .int 0), (6, .int t74_0), (0, .ref (ad 0)), (1, .int v74_1), (2, .int v74_2), (3, .int v74_3), (4, .int v74_4), (5, .int v74_5)]) hx hb dX14_switched_77 hl (by decide) rfl (fun ls hl => ?_)
      have J_79 : ∀ (n79 : Nat) (U79 : MS) (v79_1 : Int32) (v79_2 : Int32) (v79_3 : Int32) (v79_4 : Int32) (v79_5 : Int32) (v79_6 : Int32) (v79_7 : Int32) (H : Heap) (locs : List Loc) (ls : Array Slot), w_switched_L79 Q E n79 U79 v79_1 v79_2 v79_3 v79_4 v79_5 v79_6 v79_7 → shy S U79 → Rep g ad A s U79 H locs → lv_has ls 8 [(0, .ref (ad 0)), (1, .int v79_1), (2, .int v79_2), (3, .int v79_3), (4, .int v79_4), (5, .int v79_5), (6, .int v79_6), (7, .int v79_7)] → W p l e (headSpec (wt2 yX14_switched cX14_switched 8 none) ({ frames := 4, cells := 0, slots := 0, locals := 89 })).room s m ([.ref (ad 0), .int x1, .int x2] : List Value).toArray below meth c H locs 0 0 (vx_MQ below (va_Qv (fun (u : MS) => Q u ∧ wfM u ∧ shy S u) (fun (u : MS) (t : State) => qE g ad A u t) A) ((vx_X (fun (u : MS) => E u ∧ wfM u ∧ shy S u) (fun (n9 : String) (u : MS) (t : State) => n9 = RJxb5711 ∧ qE g ad A u t) A)) ([.ref (ad 0), .int x1, .int x2] : List Value).toArray s 0 0 A) (F0 m 79 ls []) := by
        intro n79
        induction n79 with
        | zero => intro U79 v79_1 v79_2 v79_3 v79_4 v79_5 v79_6 v79_7 H locs ls h hsh hR hl; unfold w_switched_L79 at h; exact h.elim
        | succ n79 ih_79 =>
          intro U79 v79_1 v79_2 v79_3 v79_4 v79_5 v79_6 v79_7 H locs ls h hsh hR hl
          unfold w_switched_L79 at h
          refine lv_iload hx hb dX14_switched_79 (lv_at hl 7 rfl) ?_
          refine lv_iload hx hb dX14_switched_81 (lv_at hl 6 rfl) ?_
          refine lv_icmp_ge (tgt := 189) hx hb dX14_switched_83 (by decide) (fun c22 => ?_) (fun c22 => ?_)
          · replace h := h.1 (k_le rfl rfl c22)
            refine lv_aload_n hx hb dX14_switched_189 rfl (lv_at hl 0 rfl) ?_
            refine lv_iload_n hx hb dX14_switched_190 rfl (lv_at hl 2 rfl) ?_
            refine lv_iload hx hb dX14_switched_191 (lv_at hl 4 rfl) ?_
            refine lv_iload hx hb dX14_switched_193 (lv_at hl 6 rfl) ?_
            obtain ⟨Q23, h0, h⟩ := h
            have hFc := rfree hR hA
            refine va_callv (va_runV (As := [.int v79_2, .int v79_4, .int v79_6]) (rest := []) ⟨hx, hb, hml, hown, hts⟩ (r_row l g ad H.size U79 v79_2 v79_4 v79_6 hR.w  Q23 h0) (cwV 3 hts (gd2_V kx_307 kx_308 kx_309 kx_177 kx_310) rfl rfl rfl (by decide +kernel) ⟨Nat.le_of_ble_eq_true rfl, Nat.le_of_ble_eq_true rfl⟩) ⟨rblind, va_recv hR.K hR.P (ci := 13) (q0 := 0) rfl (hR.at14 hR.w.1), fun U hU hW9 => rmk hU hW9 hR hex hE hFc⟩ rfl rfl hl.1 rfl (lv_room (Nat.le_of_ble_eq_true rfl)) dX14_switched_195 ⟨Nat.le_of_ble_eq_true rfl, Nat.le_of_ble_eq_true rfl⟩) hR.sS (fun q _ h => hFc q h) hFc (fun  S24 t9 H1 locs ht9 hvm9 hw9 hB9 hz9 hk9 hS => ?_)
            obtain ⟨hq25, hw9, hs9⟩ := hw9
            have hR : Rep g ad A s S24 H1 locs := hR.call ht9 hB9 hw9 hS hFc
            have hsh := hsh.tr hs9
            replace h := h  S24 hq25
            clear hB9 hz9 hk9 hvm9 ht9 hw9 hs9 hS
            generalize H1 = H at hR ⊢
            exact vx_ret (W.vret hx hb hr (fun t9 ht9 hW9 => ⟨⟨S24, rfl, ⟨h, hR.w, hsh⟩, ⟨by rw [ht9]; exact hR.P, hR.D⟩⟩, hR.sS.F ht9⟩) hR.sS.2.2 dX14_switched_198)
          · replace h := h.2 (k_nle rfl rfl c22)
            refine lv_aload_n hx hb dX14_switched_86 rfl (lv_at hl 0 rfl) ?_
            refine va_get (D := rD g) (ci := 13) (v := .ref (ad 20)) (C := RX14) (T := TX14) (N := 143) hx hb hts in2X14 hown hR.K hR.P 0 (hR.at14 hR.w.1) rfl 42 (by decide) (hts _ kx_326) (fun _ h9 => h9) (congrArg (fun z => some (vf ad z)) (hR.w.2.1 _ fin_42).1) dX14_switched_87 ?_
            refine lv_aload_n hx hb dX14_switched_90 rfl (lv_at hl 0 rfl) ?_
            refine va_get (D := rD g) (ci := 13) (v := .int (qI U79 0 43)) (C := RX14) (T := TX14) (N := 143) hx hb hts in2X14 hown hR.K hR.P 0 (hR.at14 hR.w.1) rfl 43 (by decide) (hts _ kx_325) (fun _ h9 => h9) rfl dX14_switched_91 ?_
            refine lv_iload_n hx hb dX14_switched_94 rfl (lv_at hl 2 rfl) ?_
            refine lv_sipush (v := 170) hx hb dX14_switched_95 (by decide) ?_
            have J_123 : ∀ (U123 : MS) (t123_0 : Int32) (t123_1 : Int32) (v123_1 : Int32) (v123_2 : Int32) (v123_3 : Int32) (v123_4 : Int32) (v123_5 : Int32) (v123_6 : Int32) (v123_7 : Int32) (H : Heap) (locs : List Loc) (ls : Array Slot), w_switched_J123 Q E (w_switched_L79 Q E n79) U123 t123_0 t123_1 v123_1 v123_2 v123_3 v123_4 v123_5 v123_6 v123_7 → shy S U123 → Rep g ad A s U123 H locs → lv_has ls 8 [(0, .ref (ad 0)), (1, .int v123_1), (2, .int v123_2), (3, .int v123_3), (4, .int v123_4), (5, .int v123_5), (6, .int v123_6), (7, .int v123_7)] → W p l e (headSpec (wt2 yX14_switched cX14_switched 8 none) ({ frames := 4, cells := 0, slots := 0, locals := 89 })).room s m ([.ref (ad 0), .int x1, .int x2] : List Value).toArray below meth c H locs 0 0 (vx_MQ below (va_Qv (fun (u : MS) => Q u ∧ wfM u ∧ shy S u) (fun (u : MS) (t : State) => qE g ad A u t) A) ((vx_X (fun (u : MS) => E u ∧ wfM u ∧ shy S u) (fun (n9 : String) (u : MS) (t : State) => n9 = RJxb5711 ∧ qE g ad A u t) A)) ([.ref (ad 0), .int x1, .int x2] : List Value).toArray s 0 0 A) (F0 m 123 ls [.int t123_0, .int t123_1, .ref (ad 20)]) := by
              intro U123 t123_0 t123_1 v123_1 v123_2 v123_3 v123_4 v123_5 v123_6 v123_7 H locs ls h hsh hR hl
              unfold w_switched_J123 at h
              obtain ⟨hv26, h⟩ := h
              refine va_iast hx hb hR.K hR.P hR.D hR.sS 20 1 (hR.atI (hR.w.2.1 _ fin_42).2.1) rfl (k_ixN (k_ix (n := 40000) (x := t123_1) (a := t123_1.toInt) rfl hv26) (hR.w.2.1 _ fin_42).2.2) dX14_switched_123 (fun H locs hP hD hS => ?_)
              have hR : Rep g ad A s (wI U123 20 t123_1.toInt.toNat t123_0) H locs := hR.aI (hR.w.2.1 _ fin_42).2.1 hP hD hS
              obtain ⟨S27, eS27⟩ : ∃ z, z = wI U123 20 t123_1.toInt.toNat t123_0 := ⟨_, rfl⟩
              rw [← eS27] at hR
              replace h := h S27 eS27
              have hsh : shy S S27 := by rw [eS27]; exact hsh
              refine lv_aload_n hx hb dX14_switched_124 rfl (lv_at hl 0 rfl) ?_
              refine va_get (D := rD g) (ci := 13) (v := .ref (ad 20)) (C := RX14) (T := TX14) (N := 143) hx hb hts in2X14 hown hR.K hR.P 0 (hR.at14 hR.w.1) rfl 42 (by decide) (hts _ kx_326) (fun _ h9 => h9) (congrArg (fun z => some (vf ad z)) (hR.w.2.1 _ fin_42).1) dX14_switched_125 ?_
              refine lv_aload_n hx hb dX14_switched_128 rfl (lv_at hl 0 rfl) ?_
              refine va_get (D := rD g) (ci := 13) (v := .int (qI S27 0 43)) (C := RX14) (T := TX14) (N := 143) hx hb hts in2X14 hown hR.K hR.P 0 (hR.at14 hR.w.1) rfl 43 (by decide) (hts _ kx_325) (fun _ h9 => h9) rfl dX14_switched_129 ?_
              refine lv_iconst (v := 1) hx hb dX14_switched_132 (by decide) ?_
              refine lv_iadd hx hb dX14_switched_133 ?_
              refine lv_topi (fun z28 ez28 => ?_)
              obtain rfl : z28 = ((qI S27 0 43) + (1 : Int32)) := ez28
              refine lv_aload_n hx hb dX14_switched_134 rfl (lv_at hl 0 rfl) ?_
              refine lv_iload_n hx hb dX14_switched_135 rfl (lv_at hl 1 rfl) ?_
              refine lv_aload_n hx hb dX14_switched_136 rfl (lv_at hl 0 rfl) ?_
              refine lv_iload_n hx hb dX14_switched_137 rfl (lv_at hl 2 rfl) ?_
              refine lv_sipush (v := 170) hx hb dX14_switched_138 (by decide) ?_
              have J_166 : ∀ (U166 : MS) (t166_0 : Int32) (t166_2 : Int32) (t166_4 : Int32) (v166_1 : Int32) (v166_2 : Int32) (v166_3 : Int32) (v166_4 : Int32) (v166_5 : Int32) (v166_6 : Int32) (v166_7 : Int32) (H : Heap) (locs : List Loc) (ls : Array Slot), w_switched_J166 Q E (w_switched_L79 Q E n79) U166 t166_0 t166_2 t166_4 v166_1 v166_2 v166_3 v166_4 v166_5 v166_6 v166_7 → shy S U166 → Rep g ad A s U166 H locs → lv_has ls 8 [(0, .ref (ad 0)), (1, .int v166_1), (2, .int v166_2), (3, .int v166_3), (4, .int v166_4), (5, .int v166_5), (6, .int v166_6), (7, .int v166_7)] → W p l e (headSpec (wt2 yX14_switched cX14_switched 8 none) ({ frames := 4, cells := 0, slots := 0, locals := 89 })).room s m ([.ref (ad 0), .int x1, .int x2] : List Value).toArray below meth c H locs 0 0 (vx_MQ below (va_Qv (fun (u : MS) => Q u ∧ wfM u ∧ shy S u) (fun (u : MS) (t : State) => qE g ad A u t) A) ((vx_X (fun (u : MS) => E u ∧ wfM u ∧ shy S u) (fun (n9 : String) (u : MS) (t : State) => n9 = RJxb5711 ∧ qE g ad A u t) A)) ([.ref (ad 0), .int x1, .int x2] : List Value).toArray s 0 0 A) (F0 m 166 ls [.int t166_0, .ref (ad 0), .int t166_2, .ref (ad 0), .int t166_4, .ref (ad 20)]) := by
                intro U166 t166_0 t166_2 t166_4 v166_1 v166_2 v166_3 v166_4 v166_5 v166_6 v166_7 H locs ls h hsh hR hl
                unfold w_switched_J166 at h
                obtain ⟨hv29, h⟩ := h
                have hFc := rfree hR hA
                refine va_calli (va_runV (As := [.int t166_0]) (rest := [.int t166_2, .ref (ad 0), .int t166_4, .ref (ad 20)]) ⟨hx, hb, hml, hown, hts⟩ (r_codeFour l g ad H.size U166 t166_0 hR.w  hv29) (cwV 1 hts (gd2_V kx_285 kx_286 kx_287 kx_177 kx_288) rfl rfl rfl (by decide +kernel) ⟨Nat.le_of_ble_eq_true rfl, Nat.le_of_ble_eq_true rfl⟩) ⟨rblind, va_recv hR.K hR.P (ci := 13) (q0 := 0) rfl (hR.at14 hR.w.1), fun U hU hW9 => rmk hU hW9 hR hex hE hFc⟩ rfl rfl hl.1 rfl (lv_room (Nat.le_of_ble_eq_true rfl)) dX14_switched_166 ⟨Nat.le_of_ble_eq_true rfl, Nat.le_of_ble_eq_true rfl⟩) hR.sS (fun q _ h => hFc q h) hFc (fun r30 u9 t9 H1 locs ht9 hvm9 hw9 hB9 hz9 hk9 hS => ?_)
                have hR : Rep g ad A s U166 H1 locs := hR.call ht9 hB9 hR.w hS hFc
                obtain rfl : r30 = (f_codeFour U166 t166_0) := hw9
                clear hB9 hz9 hk9 hvm9 ht9 hS
                generalize H1 = H at hR ⊢
                obtain ⟨Q32, EQ32, h0, h⟩ := h
                have hFc := rfree hR hA
                refine vx_calli (vx_runV (As := [.int t166_2, .int (f_codeFour U166 t166_0)]) (rest := [.int t166_4, .ref (ad 20)]) ⟨hx, hb, hml, hown, hts⟩ (r_target l g ad H.size U166 t166_2 (f_codeFour U166 t166_0) hR.w  Q32 EQ32 h0) (cwV 2 hts (gd2_V kx_327 kx_328 kx_329 kx_177 kx_330) rfl rfl rfl (by decide +kernel) ⟨Nat.le_of_ble_eq_true rfl, Nat.le_of_ble_eq_true rfl⟩) ⟨rblind, va_recv hR.K hR.P (ci := 13) (q0 := 0) rfl (hR.at14 hR.w.1), fun U hU hW9 => rmk hU hW9 hR hex hE hFc⟩ rfl rfl hl.1 rfl (lv_room (Nat.le_of_ble_eq_true rfl)) dX14_switched_169 ⟨Nat.le_of_ble_eq_true rfl, Nat.le_of_ble_eq_true rfl⟩) hR.sS (fun q _ h => hFc q h) hFc (fun q _ h => hFc q h) (fun E9 ce9 q9 u9 t9 H1 locs ht9 hvm9 hp9 hB9 hz9 hk9 hS hce9 hcv9 hcl9 => ?_) (fun r33 S34 t9 H1 locs ht9 hvm9 hw9 hB9 hz9 hk9 hS => ?_)
                · obtain ⟨hp9, hwx, hsx⟩ := hp9
                  obtain ⟨rfl, hBx⟩ := hB9
                  replace h := h.2 u9 hp9
                  have hR : Rep g ad A s u9 H1 locs := hR.call ht9 hBx hwx hS hFc
                  have hsh := hsh.tr hsx
                  exact vx_out (E := RJxb5711) (q := q9) (fun x h9 => (hnt x h9).elim) hlocks hce9 hcv9 hcl9 (fun t9 ht9 ha9 => ⟨u9, ⟨h, hR.w, hsh⟩, ⟨rfl, by rw [ht9]; exact hR.P, hR.D⟩, hR.sS.F ht9⟩) hR.sS.2.2 (Nat.le_of_ble_eq_true rfl) (Nat.le_of_ble_eq_true rfl)
                · obtain ⟨hq35, hw9, hs9⟩ := hw9
                  have hR : Rep g ad A s S34 H1 locs := hR.call ht9 hB9 hw9 hS hFc
                  have hsh := hsh.tr hs9
                  replace h := h.1 r33 S34 hq35
                  clear hB9 hz9 hk9 hvm9 ht9 hw9 hs9 hS
                  generalize H1 = H at hR ⊢
                  obtain ⟨hv36, h⟩ := h
                  refine va_iast hx hb hR.K hR.P hR.D hR.sS 20 1 (hR.atI (hR.w.2.1 _ fin_42).2.1) rfl (k_ixN (k_ix (n := 40000) (x := t166_4) (a := t166_4.toInt) rfl hv36) (hR.w.2.1 _ fin_42).2.2) dX14_switched_172 (fun H locs hP hD hS => ?_)
                  have hR : Rep g ad A s (wI S34 20 t166_4.toInt.toNat r33) H locs := hR.aI (hR.w.2.1 _ fin_42).2.1 hP hD hS
                  obtain ⟨S37, eS37⟩ : ∃ z, z = wI S34 20 t166_4.toInt.toNat r33 := ⟨_, rfl⟩
                  rw [← eS37] at hR
                  replace h := h S37 eS37
                  have hsh : shy S S37 := by rw [eS37]; exact hsh
                  refine lv_aload_n hx hb dX14_switched_173 rfl (lv_at hl 0 rfl) ?_
                  refine lv_dup hx hb dX14_switched_174 rfl ?_
                  refine va_get (D := rD g) (ci := 13) (v := .int (qI S37 0 43)) (C := RX14) (T := TX14) (N := 143) hx hb hts in2X14 hown hR.K hR.P 0 (hR.at14 hR.w.1) rfl 43 (by decide) (hts _ kx_325) (fun _ h9 => h9) rfl dX14_switched_175 ?_
                  refine lv_iconst (v := 2) hx hb dX14_switched_178 (by decide) ?_
                  refine lv_iadd hx hb dX14_switched_179 ?_
                  refine lv_topi (fun z38 ez38 => ?_)
                  obtain rfl : z38 = ((qI S37 0 43) + (2 : Int32)) := ez38
                  refine va_put (D := rD g) (ci := 13) (v := .int ((qI S37 0 43) + (2 : Int32))) (ty := .int) (C := RX14) (T := TX14) (N := 143) hx hb hts in2X14 tyX14 tyX14_ok nmX14 hown hR.K hR.P hR.D hR.sS 0 (hR.at14 hR.w.1) rfl 43 (by decide) (hts _ kx_325) (fun _ h9 => h9) rfl (by decide +kernel) rfl rfl (Nat.le_of_ble_eq_true rfl) dX14_switched_180 (fun H locs hP hD hS => ?_)
                  have hR : Rep g ad A s (wI S37 0 43 ((qI S37 0 43) + (2 : Int32))) H locs := hR.pI hR.w.1 F14_s43 hP hD hS
                  obtain ⟨S39, eS39⟩ : ∃ z, z = wI S37 0 43 ((qI S37 0 43) + (2 : Int32)) := ⟨_, rfl⟩
                  rw [← eS39] at hR
                  replace h := h S39 eS39
                  have hsh : shy S S39 := by rw [eS39]; exact hsh
                  obtain ⟨a40, ea40⟩ : ∃ z, z = (v166_7 + Int32.ofInt 1) := ⟨_, rfl⟩
                  replace h := h a40 ea40
                  refine lv_iinc (v := a40) (lv' := [(7, .int a40), (0, .ref (ad 0)), (1, .int v166_1), (2, .int v166_2), (3, .int v166_3), (4, .int v166_4), (5, .int v166_5), (6, .int v166_6)]) hx hb dX14_switched_183 hl (k := 7) rfl ea40.symm (by decide) rfl (fun ls hl => ?_)
                  refine lv_goto (tgt := 79) hx hb dX14_switched_186 (by decide) ?_
                  exact ih_79 S39 v166_1 v166_2 v166_3 v166_4 v166_5 v166_6 a40 _ _ ls h  hsh hR (lv_sub hl [1, 2, 3, 4, 5, 6, 7, 0] rfl)
              refine lv_icmp_ne (tgt := 156) hx hb dX14_switched_141 (by decide) (fun c41 => ?_) (fun c41 => ?_)
              · replace h := h.2 (k_ne rfl (by decide) c41)
                refine lv_iload_n hx hb dX14_switched_156 rfl (lv_at hl 3 rfl) ?_
                refine lv_bipush (v := 12) hx hb dX14_switched_157 (by decide) ?_
                refine lv_iadd hx hb dX14_switched_159 ?_
                refine lv_topi (fun z42 ez42 => ?_)
                obtain rfl : z42 = (v123_3 + (12 : Int32)) := ez42
                refine lv_bipush (v := 8) hx hb dX14_switched_160 (by decide) ?_
                refine lv_iload hx hb dX14_switched_162 (lv_at hl 7 rfl) ?_
                refine lv_imul hx hb dX14_switched_164 ?_
                refine lv_topi (fun z43 ez43 => ?_)
                obtain rfl : z43 = ((8 : Int32) * v123_7) := ez43
                refine lv_iadd hx hb dX14_switched_165 ?_
                refine lv_topi (fun z44 ez44 => ?_)
                obtain rfl : z44 = ((v123_3 + (12 : Int32)) + ((8 : Int32) * v123_7)) := ez44
                exact J_166 S27 ((v123_3 + (12 : Int32)) + ((8 : Int32) * v123_7)) v123_1 ((qI S27 0 43) + (1 : Int32)) v123_1 v123_2 v123_3 v123_4 v123_5 v123_6 v123_7 _ _ ls h  hsh hR (lv_sub hl [0, 1, 2, 3, 4, 5, 6, 7] rfl)
              · replace h := h.1 (k_eq rfl (by decide) c41)
                refine lv_iload_n hx hb dX14_switched_144 rfl (lv_at hl 3 rfl) ?_
                refine lv_bipush (v := 12) hx hb dX14_switched_145 (by decide) ?_
                refine lv_iadd hx hb dX14_switched_147 ?_
                refine lv_topi (fun z45 ez45 => ?_)
                obtain rfl : z45 = (v123_3 + (12 : Int32)) := ez45
                refine lv_iconst (v := 4) hx hb dX14_switched_148 (by decide) ?_
                refine lv_iload hx hb dX14_switched_149 (lv_at hl 7 rfl) ?_
                refine lv_imul hx hb dX14_switched_151 ?_
                refine lv_topi (fun z46 ez46 => ?_)
                obtain rfl : z46 = ((4 : Int32) * v123_7) := ez46
                refine lv_iadd hx hb dX14_switched_152 ?_
                refine lv_topi (fun z47 ez47 => ?_)
                obtain rfl : z47 = ((v123_3 + (12 : Int32)) + ((4 : Int32) * v123_7)) := ez47
                refine lv_goto (tgt := 166) hx hb dX14_switched_153 (by decide) ?_
                exact J_166 S27 ((v123_3 + (12 : Int32)) + ((4 : Int32) * v123_7)) v123_1 ((qI S27 0 43) + (1 : Int32)) v123_1 v123_2 v123_3 v123_4 v123_5 v123_6 v123_7 _ _ ls h  hsh hR (lv_sub hl [0, 1, 2, 3, 4, 5, 6, 7] rfl)
            refine lv_icmp_ne (tgt := 109) hx hb dX14_switched_98 (by decide) (fun c48 => ?_) (fun c48 => ?_)
            · replace h := h.2 (k_ne rfl (by decide) c48)
              refine lv_aload_n hx hb dX14_switched_109 rfl (lv_at hl 0 rfl) ?_
              refine lv_iload_n hx hb dX14_switched_110 rfl (lv_at hl 3 rfl) ?_
              refine lv_bipush (v := 8) hx hb dX14_switched_111 (by decide) ?_
              refine lv_iadd hx hb dX14_switched_113 ?_
              refine lv_topi (fun z49 ez49 => ?_)
              obtain rfl : z49 = (v79_3 + (8 : Int32)) := ez49
              refine lv_bipush (v := 8) hx hb dX14_switched_114 (by decide) ?_
              refine lv_iload hx hb dX14_switched_116 (lv_at hl 7 rfl) ?_
              refine lv_imul hx hb dX14_switched_118 ?_
              refine lv_topi (fun z50 ez50 => ?_)
              obtain rfl : z50 = ((8 : Int32) * v79_7) := ez50
              refine lv_iadd hx hb dX14_switched_119 ?_
              refine lv_topi (fun z51 ez51 => ?_)
              obtain rfl : z51 = ((v79_3 + (8 : Int32)) + ((8 : Int32) * v79_7)) := ez51
              obtain ⟨hv52, h⟩ := h
              have hFc := rfree hR hA
              refine va_calli (va_runV (As := [.int ((v79_3 + (8 : Int32)) + ((8 : Int32) * v79_7))]) (rest := [.int (qI U79 0 43), .ref (ad 20)]) ⟨hx, hb, hml, hown, hts⟩ (r_codeFour l g ad H.size U79 ((v79_3 + (8 : Int32)) + ((8 : Int32) * v79_7)) hR.w  hv52) (cwV 1 hts (gd2_V kx_285 kx_286 kx_287 kx_177 kx_288) rfl rfl rfl (by decide +kernel) ⟨Nat.le_of_ble_eq_true rfl, Nat.le_of_ble_eq_true rfl⟩) ⟨rblind, va_recv hR.K hR.P (ci := 13) (q0 := 0) rfl (hR.at14 hR.w.1), fun U hU hW9 => rmk hU hW9 hR hex hE hFc⟩ rfl rfl hl.1 rfl (lv_room (Nat.le_of_ble_eq_true rfl)) dX14_switched_120 ⟨Nat.le_of_ble_eq_true rfl, Nat.le_of_ble_eq_true rfl⟩) hR.sS (fun q _ h => hFc q h) hFc (fun r53 u9 t9 H1 locs ht9 hvm9 hw9 hB9 hz9 hk9 hS => ?_)
              have hR : Rep g ad A s U79 H1 locs := hR.call ht9 hB9 hR.w hS hFc
              obtain rfl : r53 = (f_codeFour U79 ((v79_3 + (8 : Int32)) + ((8 : Int32) * v79_7))) := hw9
              clear hB9 hz9 hk9 hvm9 ht9 hS
              generalize H1 = H at hR ⊢
              exact J_123 U79 (f_codeFour U79 ((v79_3 + (8 : Int32)) + ((8 : Int32) * v79_7))) (qI U79 0 43) v79_1 v79_2 v79_3 v79_4 v79_5 v79_6 v79_7 _ _ ls h  hsh hR (lv_sub hl [0, 1, 2, 3, 4, 5, 6, 7] rfl)
            · replace h := h.1 (k_eq rfl (by decide) c48)
              refine lv_iload hx hb dX14_switched_101 (lv_at hl 5 rfl) ?_
              refine lv_iload hx hb dX14_switched_103 (lv_at hl 7 rfl) ?_
              refine lv_iadd hx hb dX14_switched_105 ?_
              refine lv_topi (fun z55 ez55 => ?_)
              obtain rfl : z55 = (v79_5 + v79_7) := ez55
              refine lv_goto (tgt := 123) hx hb dX14_switched_106 (by decide) ?_
              exact J_123 U79 (v79_5 + v79_7) (qI U79 0 43) v79_1 v79_2 v79_3 v79_4 v79_5 v79_6 v79_7 _ _ ls h  hsh hR (lv_sub hl [0, 1, 2, 3, 4, 5, 6, 7] rfl)
      obtain ⟨n9, h⟩ := h
      exact J_79 n9 U74 v74_1 v74_2 v74_3 v74_4 v74_5 t74_0 0 _ _ ls h  hsh hR (lv_sub hl [2, 3, 4, 5, 6, 7, 1, 0] rfl)
    refine lv_icmp_ne (tgt := 72) hx hb dX14_switched_53 (by decide) (fun c56 => ?_) (fun c56 => ?_)
    · replace h := h.2 (k_ne rfl (by decide) c56)
      refine lv_iload hx hb dX14_switched_72 (lv_at hl 0 rfl) ?_
      exact J_74 S16 a21 x1 x2 a4 a5 a21 _ _ ls h  hsh hR (lv_sub hl [3, 4, 5, 2, 1, 0] rfl)
    · replace h := h.1 (k_eq rfl (by decide) c56)
      refine lv_aload_n hx hb dX14_switched_56 rfl (lv_at hl 3 rfl) ?_
      refine lv_iload_n hx hb dX14_switched_57 rfl (lv_at hl 2 rfl) ?_
      refine lv_bipush (v := 8) hx hb dX14_switched_58 (by decide) ?_
      refine lv_iadd hx hb dX14_switched_60 ?_
      refine lv_topi (fun z57 ez57 => ?_)
      obtain rfl : z57 = (a4 + (8 : Int32)) := ez57
      obtain ⟨hv58, h⟩ := h
      have hFc := rfree hR hA
      refine va_calli (va_runV (As := [.int (a4 + (8 : Int32))]) (rest := []) ⟨hx, hb, hml, hown, hts⟩ (r_codeFour l g ad H.size S16 (a4 + (8 : Int32)) hR.w  hv58) (cwV 1 hts (gd2_V kx_285 kx_286 kx_287 kx_177 kx_288) rfl rfl rfl (by decide +kernel) ⟨Nat.le_of_ble_eq_true rfl, Nat.le_of_ble_eq_true rfl⟩) ⟨rblind, va_recv hR.K hR.P (ci := 13) (q0 := 0) rfl (hR.at14 hR.w.1), fun U hU hW9 => rmk hU hW9 hR hex hE hFc⟩ rfl rfl hl.1 rfl (lv_room (Nat.le_of_ble_eq_true rfl)) dX14_switched_61 ⟨Nat.le_of_ble_eq_true rfl, Nat.le_of_ble_eq_true rfl⟩) hR.sS (fun q _ h => hFc q h) hFc (fun r59 u9 t9 H1 locs ht9 hvm9 hw9 hB9 hz9 hk9 hS => ?_)
      have hR : Rep g ad A s S16 H1 locs := hR.call ht9 hB9 hR.w hS hFc
      obtain rfl : r59 = (f_codeFour S16 (a4 + (8 : Int32))) := hw9
      clear hB9 hz9 hk9 hvm9 ht9 hS
      generalize H1 = H at hR ⊢
      refine lv_iload hx hb dX14_switched_64 (lv_at hl 0 rfl) ?_
      refine lv_isub hx hb dX14_switched_66 ?_
      refine lv_topi (fun z61 ez61 => ?_)
      obtain rfl : z61 = ((f_codeFour S16 (a4 + (8 : Int32))) - a21) := ez61
      refine lv_iconst (v := 1) hx hb dX14_switched_67 (by decide) ?_
      refine lv_iadd hx hb dX14_switched_68 ?_
      refine lv_topi (fun z62 ez62 => ?_)
      obtain rfl : z62 = (((f_codeFour S16 (a4 + (8 : Int32))) - a21) + (1 : Int32)) := ez62
      refine lv_goto (tgt := 74) hx hb dX14_switched_69 (by decide) ?_
      exact J_74 S16 (((f_codeFour S16 (a4 + (8 : Int32))) - a21) + (1 : Int32)) x1 x2 a4 a5 a21 _ _ ls h  hsh hR (lv_sub hl [3, 4, 5, 2, 1, 0] rfl)
def w_member_J193 (Q : Int32 → MS → Prop) (E : MS → Prop) (U193 : MS) (t193_0 : Int32) (v193_1 : Int32) (v193_7 : Int32) : Prop := (∃ Q34 EQ34, w_point U193 t193_0 v193_1 Q34 EQ34 ∧ (∀ S35, Q34 S35 → Q v193_7 S35) ∧ (∀ u9, EQ34 u9 → E u9))
def w_member_J176 (Q : Int32 → MS → Prop) (E : MS → Prop) (k108 : MS → Int32 → Int32 → Int32 → Int32 → Int32 → Int32 → Prop) (U176 : MS) (v176_1 : Int32) (v176_4 : Int32) (v176_5 : Int32) (v176_6 : Int32) (v176_7 : Int32) (v176_8 : Int32) : Prop := (∀ a50 : Int32, a50 = (v176_8 + Int32.ofInt 1) → k108 U176 v176_1 v176_4 v176_5 v176_6 v176_7 a50)
def w_member_L108 (Q : Int32 → MS → Prop) (E : MS → Prop) : Nat → MS → Int32 → Int32 → Int32 → Int32 → Int32 → Int32 → Prop
  | 0, _, _, _, _, _, _, _ => False
  | n108 + 1, U108, v108_1, v108_4, v108_5, v108_6, v108_7, v108_8 => ((v108_6.toInt ≤ v108_8.toInt → ((v108_7.toInt < 0 → w_member_J193 Q E U108 0 v108_1 v108_7) ∧ (¬ v108_7.toInt < 0 → w_member_J193 Q E U108 1 v108_1 v108_7))) ∧ (¬ v108_6.toInt ≤ v108_8.toInt → (((0 : Int) ≤ v108_8.toInt ∧ v108_8.toInt < 48) ∧ (d_two U108 ((qI U108 9 v108_8.toInt.toNat) + (2 : Int32)) ∧ (((0 : Int) ≤ v108_4.toInt ∧ v108_4.toInt < 502) ∧ (∃ Q46, w_isSame U108 (f_two U108 ((qI U108 9 v108_8.toInt.toNat) + (2 : Int32))) (qI U108 6 v108_4.toInt.toNat) Q46 ∧ ∀ r47 S48, Q46 r47 S48 → ((r47.toInt = 0 → w_member_J176 Q E (w_member_L108 Q E n108) S48 v108_1 v108_4 v108_5 v108_6 v108_7 v108_8) ∧ (¬ r47.toInt = 0 → (((0 : Int) ≤ v108_8.toInt ∧ v108_8.toInt < 48) ∧ (d_two S48 ((qI S48 9 v108_8.toInt.toNat) + (4 : Int32)) ∧ (((0 : Int) ≤ v108_4.toInt ∧ v108_4.toInt < 502) ∧ (∃ Q60, w_isSame S48 (f_two S48 ((qI S48 9 v108_8.toInt.toNat) + (4 : Int32))) (qI S48 7 v108_4.toInt.toNat) Q60 ∧ ∀ r61 S62, Q60 r61 S62 → ((r61.toInt = 0 → w_member_J176 Q E (w_member_L108 Q E n108) S62 v108_1 v108_4 v108_5 v108_6 v108_7 v108_8) ∧ (¬ r61.toInt = 0 → (∀ a66 : Int32, a66 = (v108_8 - v108_5) → w_member_J176 Q E (w_member_L108 Q E n108) S62 v108_1 v108_4 v108_5 v108_6 a66 v108_8)))))))))))))))
def w_member_J99 (Q : Int32 → MS → Prop) (E : MS → Prop) (U99 : MS) (t99_0 : Int32) (v99_1 : Int32) (v99_4 : Int32) (v99_5 : Int32) : Prop := (∃ n, w_member_L108 Q E n U99 v99_1 v99_4 v99_5 t99_0 (-1) v99_5)
def w_member_J80 (Q : Int32 → MS → Prop) (E : MS → Prop) (U80 : MS) (t80_0 : Int32) (v80_1 : Int32) (v80_2 : Int32) (v80_4 : Int32) : Prop := ((v80_2.toInt = 9 → w_member_J99 Q E U80 (qI U80 0 22) v80_1 v80_4 t80_0) ∧ (¬ v80_2.toInt = 9 → w_member_J99 Q E U80 (qI U80 0 21) v80_1 v80_4 t80_0))
def w_member (S : MS) (x1 : Int32) (x2 : Int32) (Q : Int32 → MS → Prop) (E : MS → Prop) : Prop := (d_codeTwo S (x1 + (1 : Int32)) ∧ (∀ a6 : Int32, a6 = ((f_codeTwo S (x1 + (1 : Int32))) &&& (65535 : Int32)) → (d_isEntry S a6 x2 ∧ (∃ Q10 EQ10, w_point S (f_isEntry S a6 x2) x1 Q10 EQ10 ∧ (∀ S11, Q10 S11 → (((0 : Int) ≤ a6.toInt ∧ a6.toInt < 502) ∧ (∀ a15 : Int32, a15 = (qI S11 7 a6.toInt.toNat) → (((0 : Int) ≤ a6.toInt ∧ a6.toInt < 502) ∧ (((0 : Int) ≤ (qI S11 6 a6.toInt.toNat).toInt ∧ (qI S11 6 a6.toInt.toNat).toInt < 502) ∧ (d_two S11 ((qI S11 0 20) + (2 : Int32)) ∧ (((0 : Int) ≤ (f_two S11 ((qI S11 0 20) + (2 : Int32))).toInt ∧ (f_two S11 ((qI S11 0 20) + (2 : Int32))).toInt < 502) ∧ (∃ Q26, w_isSame S11 (qI S11 6 (((qI S11 6 a6.toInt.toNat).toInt).toNat)) (qI S11 6 (((f_two S11 ((qI S11 0 20) + (2 : Int32))).toInt).toNat)) Q26 ∧ ∀ r27 S28, Q26 r27 S28 → (∃ Q30 EQ30, w_point S28 r27 x1 Q30 EQ30 ∧ (∀ S31, Q30 S31 → ((x2.toInt = 9 → w_member_J80 Q E S31 0 x1 x2 a15) ∧ (¬ x2.toInt = 9 → w_member_J80 Q E S31 (qI S31 0 22) x1 x2 a15))) ∧ (∀ u9, EQ30 u9 → E u9)))))))))) ∧ (∀ u9, EQ10 u9 → E u9)))))
set_option maxHeartbeats 2000000 in
set_option maxRecDepth 100000 in
theorem r_member (l : Launch) (g : Gr) (ad : Nat → Nat) (sz : Nat) (S : MS) (x1 : Int32) (x2 : Int32) (hw : wfM S) (Q : Int32 → MS → Prop) (E : MS → Prop) (h : w_member S x1 x2 Q E) : vx_Met l yX14_member (wt2 yX14_member cX14_member 9 (some .int)) ({ frames := 3, cells := 0, slots := 0, locals := 67 }) (va_Pc [.ref (ad 0), .int x1, .int x2] (st_R g ad sz S)) (va_Qi (fun (r : Int32) (u : MS) => Q r u ∧ wfM u ∧ shy S u) (fun (u : MS) (t : State) => qE g ad (va_A (Wd g ad S) sz) u t) (va_A (Wd g ad S) sz)) (vx_X (fun (u : MS) => E u ∧ wfM u ∧ shy S u) (fun (n9 : String) (u : MS) (t : State) => n9 = RJxb5711 ∧ qE g ad (va_A (Wd g ad S) sz) u t) (va_A (Wd g ad S) sz)) 0 0 (va_A (Wd g ad S) sz) := by
  refine vx_ofW (cc := cX14_member) (maxL := 9) (ret := (some .int)) (by decide) rfl ?_
  intro p e s m args below meth c s₁ B hml hnt hv
  obtain ⟨rfl, hsz, hP, hK, hD0, hex, hE⟩ := hv
  have hx := B.exec
  have hb := B.bytes
  have hr := B.returns
  have hlocks := B.notSynchronized
  have hts0 := atoms_spec (ws := wt2 yX14_member cX14_member 9 (some .int)) B.pre
  have hts : ∀ w ∈ tb2, w.before _ s = true := fun w h => hts0 w (List.mem_cons_of_mem _ h)
  have hown : s.vm.findClass RX14 = some m.cls := findClass_of_methodNamed B.named
  subst hsz
  have hD := hD0.self (sz := s.heap.size)
  generalize hAe : va_A (Wd g ad S) s.heap.size = A at hD hE ⊢
  have hA : ∀ q : Nat, s.heap.size ≤ q → A q := fun q h => by rw [← hAe]; exact Or.inr h
  have hR : Rep g ad A s S s.heap [] := ⟨hK, hP, hD, va_S.rf, hw⟩
  clear hK hP hD hD0
  have hl := lv_entry ([.ref (ad 0), .int x1, .int x2]) (n := 9) (Nat.le_of_ble_eq_true rfl)
  rw [lg_entry_eq]
  generalize (lg_sl ([.ref (ad 0), .int x1, .int x2]) ++ List.replicate (9 - (lg_sl ([.ref (ad 0), .int x1, .int x2])).length) Slot.unset).toArray = ls at hl ⊢
  have hl : lv_has ls 9 [(0, .ref (ad 0)), (1, .int x1), (2, .int x2)] := hl
  have hsh : shy S S := shy.rf
  unfold w_member at h
  refine lv_aload_n hx hb dX14_member_0 rfl (lv_at hl 0 rfl) ?_
  refine lv_iload_n hx hb dX14_member_1 rfl (lv_at hl 1 rfl) ?_
  refine lv_iconst (v := 1) hx hb dX14_member_2 (by decide) ?_
  refine lv_iadd hx hb dX14_member_3 ?_
  refine lv_topi (fun z1 ez1 => ?_)
  obtain rfl : z1 = (x1 + (1 : Int32)) := ez1
  obtain ⟨hv2, h⟩ := h
  have hFc := rfree hR hA
  refine va_calli (va_runV (As := [.int (x1 + (1 : Int32))]) (rest := []) ⟨hx, hb, hml, hown, hts⟩ (r_codeTwo l g ad s.heap.size S (x1 + (1 : Int32)) hR.w  hv2) (cwV 1 hts (gd2_V kx_312 kx_313 kx_314 kx_177 kx_315) rfl rfl rfl (by decide +kernel) ⟨Nat.le_of_ble_eq_true rfl, Nat.le_of_ble_eq_true rfl⟩) ⟨rblind, va_recv hR.K hR.P (ci := 13) (q0 := 0) rfl (hR.at14 hR.w.1), fun U hU hW9 => rmk hU hW9 hR hex hE hFc⟩ rfl rfl hl.1 rfl (lv_room (Nat.le_of_ble_eq_true rfl)) dX14_member_4 ⟨Nat.le_of_ble_eq_true rfl, Nat.le_of_ble_eq_true rfl⟩) hR.sS (fun q _ h => hFc q h) hFc (fun r3 u9 t9 H1 locs ht9 hvm9 hw9 hB9 hz9 hk9 hS => ?_)
  have hR : Rep g ad A s S H1 locs := hR.call ht9 hB9 hR.w hS hFc
  obtain rfl : r3 = (f_codeTwo S (x1 + (1 : Int32))) := hw9
  clear hB9 hz9 hk9 hvm9 ht9 hS
  generalize H1 = H at hR ⊢
  refine lv_ldcw hx hb hown (hts _ kx_316) dX14_member_7 ?_
  refine lv_iand hx hb dX14_member_10 ?_
  refine lv_topi (fun z5 ez5 => ?_)
  obtain rfl : z5 = ((f_codeTwo S (x1 + (1 : Int32))) &&& (65535 : Int32)) := ez5
  obtain ⟨a6, ea6⟩ : ∃ z, z = ((f_codeTwo S (x1 + (1 : Int32))) &&& (65535 : Int32)) := ⟨_, rfl⟩
  rw [← ea6]
  replace h := h a6 ea6
  refine lv_istore_n (lv' := [(3, .int a6), (0, .ref (ad 0)), (1, .int x1), (2, .int x2)]) hx hb dX14_member_11 rfl hl (by decide) rfl (fun ls hl => ?_)
  refine lv_aload_n hx hb dX14_member_12 rfl (lv_at hl 1 rfl) ?_
  refine lv_aload_n hx hb dX14_member_13 rfl (lv_at hl 1 rfl) ?_
  refine lv_iload_n hx hb dX14_member_14 rfl (lv_at hl 0 rfl) ?_
  refine lv_iload_n hx hb dX14_member_15 rfl (lv_at hl 3 rfl) ?_
  obtain ⟨hv7, h⟩ := h
  have hFc := rfree hR hA
  refine va_calli (va_runV (As := [.int a6, .int x2]) (rest := [.ref (ad 0)]) ⟨hx, hb, hml, hown, hts⟩ (r_isEntry l g ad H.size S a6 x2 hR.w  hv7) (cwV 2 hts (gd2_V kx_219 kx_220 kx_221 kx_177 kx_222) rfl rfl rfl (by decide +kernel) ⟨Nat.le_of_ble_eq_true rfl, Nat.le_of_ble_eq_true rfl⟩) ⟨rblind, va_recv hR.K hR.P (ci := 13) (q0 := 0) rfl (hR.at14 hR.w.1), fun U hU hW9 => rmk hU hW9 hR hex hE hFc⟩ rfl rfl hl.1 rfl (lv_room (Nat.le_of_ble_eq_true rfl)) dX14_member_16 ⟨Nat.le_of_ble_eq_true rfl, Nat.le_of_ble_eq_true rfl⟩) hR.sS (fun q _ h => hFc q h) hFc (fun r8 u9 t9 H1 locs ht9 hvm9 hw9 hB9 hz9 hk9 hS => ?_)
  have hR : Rep g ad A s S H1 locs := hR.call ht9 hB9 hR.w hS hFc
  obtain ⟨rfl, hz_r8⟩ := hw9
  clear hB9 hz9 hk9 hvm9 ht9 hS
  generalize H1 = H at hR ⊢
  refine lv_iload_n hx hb dX14_member_19 rfl (lv_at hl 2 rfl) ?_
  obtain ⟨Q10, EQ10, h0, h⟩ := h
  have hFc := rfree hR hA
  refine vx_callv (vx_runV (As := [.int (f_isEntry S a6 x2), .int x1]) (rest := []) ⟨hx, hb, hml, hown, hts⟩ (r_point l g ad H.size S (f_isEntry S a6 x2) x1 hR.w hz_r8 Q10 EQ10 h0) (cwV 2 hts (gd2_V kx_302 kx_303 kx_304 kx_177 kx_305) rfl rfl rfl (by decide +kernel) ⟨Nat.le_of_ble_eq_true rfl, Nat.le_of_ble_eq_true rfl⟩) ⟨rblind, va_recv hR.K hR.P (ci := 13) (q0 := 0) rfl (hR.at14 hR.w.1), fun U hU hW9 => rmk hU hW9 hR hex hE hFc⟩ rfl rfl hl.1 rfl (lv_room (Nat.le_of_ble_eq_true rfl)) dX14_member_20 ⟨Nat.le_of_ble_eq_true rfl, Nat.le_of_ble_eq_true rfl⟩) hR.sS (fun q _ h => hFc q h) hFc (fun q _ h => hFc q h) (fun E9 ce9 q9 u9 t9 H1 locs ht9 hvm9 hp9 hB9 hz9 hk9 hS hce9 hcv9 hcl9 => ?_) (fun  S11 t9 H1 locs ht9 hvm9 hw9 hB9 hz9 hk9 hS => ?_)
  · obtain ⟨hp9, hwx, hsx⟩ := hp9
    obtain ⟨rfl, hBx⟩ := hB9
    replace h := h.2 u9 hp9
    have hR : Rep g ad A s u9 H1 locs := hR.call ht9 hBx hwx hS hFc
    have hsh := hsh.tr hsx
    exact vx_out (E := RJxb5711) (q := q9) (fun x h9 => (hnt x h9).elim) hlocks hce9 hcv9 hcl9 (fun t9 ht9 ha9 => ⟨u9, ⟨h, hR.w, hsh⟩, ⟨rfl, by rw [ht9]; exact hR.P, hR.D⟩, hR.sS.F ht9⟩) hR.sS.2.2 (Nat.le_of_ble_eq_true rfl) (Nat.le_of_ble_eq_true rfl)
  · obtain ⟨hq12, hw9, hs9⟩ := hw9
    have hR : Rep g ad A s S11 H1 locs := hR.call ht9 hB9 hw9 hS hFc
    have hsh := hsh.tr hs9
    replace h := h.1  S11 hq12
    clear hB9 hz9 hk9 hvm9 ht9 hw9 hs9 hS
    generalize H1 = H at hR ⊢
    refine lv_aload_n hx hb dX14_member_23 rfl (lv_at hl 1 rfl) ?_
    refine va_get (D := rD g) (ci := 13) (v := .ref (ad 7)) (C := RX14) (T := TX14) (N := 143) hx hb hts in2X14 hown hR.K hR.P 0 (hR.at14 hR.w.1) rfl 18 (by decide) (hts _ kx_209) (fun _ h9 => h9) (congrArg (fun z => some (vf ad z)) (hR.w.2.1 _ fin_18).1) dX14_member_24 ?_
    refine lv_iload_n hx hb dX14_member_27 rfl (lv_at hl 0 rfl) ?_
    obtain ⟨hv13, h⟩ := h
    refine va_iald hx hb hR.K hR.P 7 1 (hR.atI (hR.w.2.1 _ fin_18).2.1) rfl (k_ixN (k_ix (n := 502) (x := a6) (a := a6.toInt) rfl hv13) (hR.w.2.1 _ fin_18).2.2) dX14_member_28 ?_
    refine lv_topi (fun z14 ez14 => ?_)
    obtain rfl : z14 = (qI S11 7 a6.toInt.toNat) := ez14
    obtain ⟨a15, ea15⟩ : ∃ z, z = (qI S11 7 a6.toInt.toNat) := ⟨_, rfl⟩
    rw [← ea15]
    replace h := h a15 ea15
    refine lv_istore (lv' := [(4, .int a15), (3, .int a6), (0, .ref (ad 0)), (1, .int x1), (2, .int x2)]) hx hb dX14_member_29 hl (by decide) rfl (fun ls hl => ?_)
    refine lv_aload_n hx hb dX14_member_31 rfl (lv_at hl 2 rfl) ?_
    refine lv_aload_n hx hb dX14_member_32 rfl (lv_at hl 2 rfl) ?_
    refine lv_aload_n hx hb dX14_member_33 rfl (lv_at hl 2 rfl) ?_
    refine va_get (D := rD g) (ci := 13) (v := .ref (ad 6)) (C := RX14) (T := TX14) (N := 143) hx hb hts in2X14 hown hR.K hR.P 0 (hR.at14 hR.w.1) rfl 17 (by decide) (hts _ kx_208) (fun _ h9 => h9) (congrArg (fun z => some (vf ad z)) (hR.w.2.1 _ fin_17).1) dX14_member_34 ?_
    refine lv_aload_n hx hb dX14_member_37 rfl (lv_at hl 2 rfl) ?_
    refine va_get (D := rD g) (ci := 13) (v := .ref (ad 6)) (C := RX14) (T := TX14) (N := 143) hx hb hts in2X14 hown hR.K hR.P 0 (hR.at14 hR.w.1) rfl 17 (by decide) (hts _ kx_208) (fun _ h9 => h9) (congrArg (fun z => some (vf ad z)) (hR.w.2.1 _ fin_17).1) dX14_member_38 ?_
    refine lv_iload_n hx hb dX14_member_41 rfl (lv_at hl 1 rfl) ?_
    obtain ⟨hv16, h⟩ := h
    refine va_iald hx hb hR.K hR.P 6 1 (hR.atI (hR.w.2.1 _ fin_17).2.1) rfl (k_ixN (k_ix (n := 502) (x := a6) (a := a6.toInt) rfl hv16) (hR.w.2.1 _ fin_17).2.2) dX14_member_42 ?_
    refine lv_topi (fun z17 ez17 => ?_)
    obtain rfl : z17 = (qI S11 6 a6.toInt.toNat) := ez17
    obtain ⟨hv18, h⟩ := h
    refine va_iald hx hb hR.K hR.P 6 1 (hR.atI (hR.w.2.1 _ fin_17).2.1) rfl (k_ixN (k_ix (n := 502) (x := (qI S11 6 a6.toInt.toNat)) (a := (qI S11 6 a6.toInt.toNat).toInt) rfl hv18) (hR.w.2.1 _ fin_17).2.2) dX14_member_43 ?_
    refine lv_topi (fun z19 ez19 => ?_)
    obtain rfl : z19 = (qI S11 6 (((qI S11 6 a6.toInt.toNat).toInt).toNat)) := ez19
    refine lv_aload_n hx hb dX14_member_44 rfl (lv_at hl 2 rfl) ?_
    refine va_get (D := rD g) (ci := 13) (v := .ref (ad 6)) (C := RX14) (T := TX14) (N := 143) hx hb hts in2X14 hown hR.K hR.P 0 (hR.at14 hR.w.1) rfl 17 (by decide) (hts _ kx_208) (fun _ h9 => h9) (congrArg (fun z => some (vf ad z)) (hR.w.2.1 _ fin_17).1) dX14_member_45 ?_
    refine lv_aload_n hx hb dX14_member_48 rfl (lv_at hl 2 rfl) ?_
    refine lv_aload_n hx hb dX14_member_49 rfl (lv_at hl 2 rfl) ?_
    refine va_get (D := rD g) (ci := 13) (v := .int (qI S11 0 20)) (C := RX14) (T := TX14) (N := 143) hx hb hts in2X14 hown hR.K hR.P 0 (hR.at14 hR.w.1) rfl 20 (by decide) (hts _ kx_203) (fun _ h9 => h9) rfl dX14_member_50 ?_
    refine lv_iconst (v := 2) hx hb dX14_member_53 (by decide) ?_
    refine lv_iadd hx hb dX14_member_54 ?_
    refine lv_topi (fun z20 ez20 => ?_)
    obtain rfl : z20 = ((qI S11 0 20) + (2 : Int32)) := ez20
    obtain ⟨hv21, h⟩ := h
    have hFc := rfree hR hA
    refine va_calli (va_runV (As := [.int ((qI S11 0 20) + (2 : Int32))]) (rest := [.ref (ad 6), .int (qI S11 6 (((qI S11 6 a6.toInt.toNat).toInt).toNat)), .ref (ad 0), .ref (ad 0)]) ⟨hx, hb, hml, hown, hts⟩ (r_two l g ad H.size S11 ((qI S11 0 20) + (2 : Int32)) hR.w  hv21) (cwV 1 hts (gd2_V kx_186 kx_187 kx_188 kx_177 kx_189) rfl rfl rfl (by decide +kernel) ⟨Nat.le_of_ble_eq_true rfl, Nat.le_of_ble_eq_true rfl⟩) ⟨rblind, va_recv hR.K hR.P (ci := 13) (q0 := 0) rfl (hR.at14 hR.w.1), fun U hU hW9 => rmk hU hW9 hR hex hE hFc⟩ rfl rfl hl.1 rfl (lv_room (Nat.le_of_ble_eq_true rfl)) dX14_member_55 ⟨Nat.le_of_ble_eq_true rfl, Nat.le_of_ble_eq_true rfl⟩) hR.sS (fun q _ h => hFc q h) hFc (fun r22 u9 t9 H1 locs ht9 hvm9 hw9 hB9 hz9 hk9 hS => ?_)
    have hR : Rep g ad A s S11 H1 locs := hR.call ht9 hB9 hR.w hS hFc
    obtain rfl : r22 = (f_two S11 ((qI S11 0 20) + (2 : Int32))) := hw9
    clear hB9 hz9 hk9 hvm9 ht9 hS
    generalize H1 = H at hR ⊢
    obtain ⟨hv24, h⟩ := h
    refine va_iald hx hb hR.K hR.P 6 1 (hR.atI (hR.w.2.1 _ fin_17).2.1) rfl (k_ixN (k_ix (n := 502) (x := (f_two S11 ((qI S11 0 20) + (2 : Int32)))) (a := (f_two S11 ((qI S11 0 20) + (2 : Int32))).toInt) rfl hv24) (hR.w.2.1 _ fin_17).2.2) dX14_member_58 ?_
    refine lv_topi (fun z25 ez25 => ?_)
    obtain rfl : z25 = (qI S11 6 (((f_two S11 ((qI S11 0 20) + (2 : Int32))).toInt).toNat)) := ez25
    obtain ⟨Q26, h0, h⟩ := h
    have hFc := rfree hR hA
    refine va_calli (va_runV (As := [.int (qI S11 6 (((qI S11 6 a6.toInt.toNat).toInt).toNat)), .int (qI S11 6 (((f_two S11 ((qI S11 0 20) + (2 : Int32))).toInt).toNat))]) (rest := [.ref (ad 0)]) ⟨hx, hb, hml, hown, hts⟩ (r_isSame l g ad H.size S11 (qI S11 6 (((qI S11 6 a6.toInt.toNat).toInt).toNat)) (qI S11 6 (((f_two S11 ((qI S11 0 20) + (2 : Int32))).toInt).toNat)) hR.w  Q26 h0) (cwV 2 hts (gd2_V kx_244 kx_245 kx_246 kx_177 kx_247) rfl rfl rfl (by decide +kernel) ⟨Nat.le_of_ble_eq_true rfl, Nat.le_of_ble_eq_true rfl⟩) ⟨rblind, va_recv hR.K hR.P (ci := 13) (q0 := 0) rfl (hR.at14 hR.w.1), fun U hU hW9 => rmk hU hW9 hR hex hE hFc⟩ rfl rfl hl.1 rfl (lv_room (Nat.le_of_ble_eq_true rfl)) dX14_member_59 ⟨Nat.le_of_ble_eq_true rfl, Nat.le_of_ble_eq_true rfl⟩) hR.sS (fun q _ h => hFc q h) hFc (fun r27 S28 t9 H1 locs ht9 hvm9 hw9 hB9 hz9 hk9 hS => ?_)
    obtain ⟨hq29, hw9, hs9, hz_r27⟩ := hw9
    have hR : Rep g ad A s S28 H1 locs := hR.call ht9 hB9 hw9 hS hFc
    have hsh := hsh.tr hs9
    replace h := h r27 S28 hq29
    clear hB9 hz9 hk9 hvm9 ht9 hw9 hs9 hS
    generalize H1 = H at hR ⊢
    refine lv_iload_n hx hb dX14_member_62 rfl (lv_at hl 3 rfl) ?_
    obtain ⟨Q30, EQ30, h0, h⟩ := h
    have hFc := rfree hR hA
    refine vx_callv (vx_runV (As := [.int r27, .int x1]) (rest := []) ⟨hx, hb, hml, hown, hts⟩ (r_point l g ad H.size S28 r27 x1 hR.w hz_r27 Q30 EQ30 h0) (cwV 2 hts (gd2_V kx_302 kx_303 kx_304 kx_177 kx_305) rfl rfl rfl (by decide +kernel) ⟨Nat.le_of_ble_eq_true rfl, Nat.le_of_ble_eq_true rfl⟩) ⟨rblind, va_recv hR.K hR.P (ci := 13) (q0 := 0) rfl (hR.at14 hR.w.1), fun U hU hW9 => rmk hU hW9 hR hex hE hFc⟩ rfl rfl hl.1 rfl (lv_room (Nat.le_of_ble_eq_true rfl)) dX14_member_63 ⟨Nat.le_of_ble_eq_true rfl, Nat.le_of_ble_eq_true rfl⟩) hR.sS (fun q _ h => hFc q h) hFc (fun q _ h => hFc q h) (fun E9 ce9 q9 u9 t9 H1 locs ht9 hvm9 hp9 hB9 hz9 hk9 hS hce9 hcv9 hcl9 => ?_) (fun  S31 t9 H1 locs ht9 hvm9 hw9 hB9 hz9 hk9 hS => ?_)
    · obtain ⟨hp9, hwx, hsx⟩ := hp9
      obtain ⟨rfl, hBx⟩ := hB9
      replace h := h.2 u9 hp9
      have hR : Rep g ad A s u9 H1 locs := hR.call ht9 hBx hwx hS hFc
      have hsh := hsh.tr hsx
      exact vx_out (E := RJxb5711) (q := q9) (fun x h9 => (hnt x h9).elim) hlocks hce9 hcv9 hcl9 (fun t9 ht9 ha9 => ⟨u9, ⟨h, hR.w, hsh⟩, ⟨rfl, by rw [ht9]; exact hR.P, hR.D⟩, hR.sS.F ht9⟩) hR.sS.2.2 (Nat.le_of_ble_eq_true rfl) (Nat.le_of_ble_eq_true rfl)
    · obtain ⟨hq32, hw9, hs9⟩ := hw9
      have hR : Rep g ad A s S31 H1 locs := hR.call ht9 hB9 hw9 hS hFc
      have hsh := hsh.tr hs9
      replace h := h.1  S31 hq32
      clear hB9 hz9 hk9 hvm9 ht9 hw9 hs9 hS
      generalize H1 = H at hR ⊢
      refine lv_iload_n hx hb dX14_member_66 rfl (lv_at hl 4 rfl) ?_
      refine lv_bipush (v := 9) hx hb dX14_member_67 (by decide) ?_
      have J_80 : ∀ (U80 : MS) (t80_0 : Int32) (v80_1 : Int32) (v80_2 : Int32) (v80_4 : Int32) (H : Heap) (locs : List Loc) (ls : Array Slot), w_member_J80 Q E U80 t80_0 v80_1 v80_2 v80_4 → shy S U80 → Rep g ad A s U80 H locs → lv_has ls 9 [(0, .ref (ad 0)), (1, .int v80_1), (2, .int v80_2), (4, .int v80_4)] → W p l e (headSpec (wt2 yX14_member cX14_member 9 (some .int)) ({ frames := 3, cells := 0, slots := 0, locals := 67 })).room s m ([.ref (ad 0), .int x1, .int x2] : List Value).toArray below meth c H locs 0 0 (vx_MQ below (va_Qi (fun (r : Int32) (u : MS) => Q r u ∧ wfM u ∧ shy S u) (fun (u : MS) (t : State) => qE g ad A u t) A) ((vx_X (fun (u : MS) => E u ∧ wfM u ∧ shy S u) (fun (n9 : String) (u : MS) (t : State) => n9 = RJxb5711 ∧ qE g ad A u t) A)) ([.ref (ad 0), .int x1, .int x2] : List Value).toArray s 0 0 A) (F0 m 80 ls [.int t80_0]) := by
        intro U80 t80_0 v80_1 v80_2 v80_4 H locs ls h hsh hR hl
        unfold w_member_J80 at h
        refine lv_istore (lv' := [(5, .int t80_0), (0, .ref (ad 0)), (1, .int v80_1), (2, .int v80_2), (4, .int v80_4)]) hx hb dX14_member_80 hl (by decide) rfl (fun ls hl => ?_)
        refine lv_iload_n hx hb dX14_member_82 rfl (lv_at hl 3 rfl) ?_
        refine lv_bipush (v := 9) hx hb dX14_member_83 (by decide) ?_
        have J_99 : ∀ (U99 : MS) (t99_0 : Int32) (v99_1 : Int32) (v99_4 : Int32) (v99_5 : Int32) (H : Heap) (locs : List Loc) (ls : Array Slot), w_member_J99 Q E U99 t99_0 v99_1 v99_4 v99_5 → shy S U99 → Rep g ad A s U99 H locs → lv_has ls 9 [(0, .ref (ad 0)), (1, .int v99_1), (4, .int v99_4), (5, .int v99_5)] → W p l e (headSpec (wt2 yX14_member cX14_member 9 (some .int)) ({ frames := 3, cells := 0, slots := 0, locals := 67 })).room s m ([.ref (ad 0), .int x1, .int x2] : List Value).toArray below meth c H locs 0 0 (vx_MQ below (va_Qi (fun (r : Int32) (u : MS) => Q r u ∧ wfM u ∧ shy S u) (fun (u : MS) (t : State) => qE g ad A u t) A) ((vx_X (fun (u : MS) => E u ∧ wfM u ∧ shy S u) (fun (n9 : String) (u : MS) (t : State) => n9 = RJxb5711 ∧ qE g ad A u t) A)) ([.ref (ad 0), .int x1, .int x2] : List Value).toArray s 0 0 A) (F0 m 99 ls [.int t99_0]) := by
          intro U99 t99_0 v99_1 v99_4 v99_5 H locs ls h hsh hR hl
          unfold w_member_J99 at h
          refine lv_istore (lv' := [(6, .int t99_0), (0, .ref (ad 0)), (1, .int v99_1), (4, .int v99_4), (5, .int v99_5)]) hx hb dX14_member_99 hl (by decide) rfl (fun ls hl => ?_)
          refine lv_iconst (v := (-1)) hx hb dX14_member_101 (by decide) ?_
          refine lv_istore (lv' := [(7, .int (-1)), (6, .int t99_0), (0, .ref (ad 0)), (1, .int v99_1), (4, .int v99_4), (5, .int v99_5)]) hx hb dX14_member_102 hl (by decide) rfl (fun ls hl => ?_)
          refine lv_iload hx hb dX14_member_104 (lv_at hl 5 rfl) ?_
          refine lv_istore (lv' := [(8, .int v99_5), (7, .int (-1)), (6, .int t99_0), (0, .ref (ad 0)), (1, .int v99_1), (4, .int v99_4), (5, .int v99_5)]) hx hb dX14_member_106 hl (by decide) rfl (fun ls hl => ?_)
          have J_108 : ∀ (n108 : Nat) (U108 : MS) (v108_1 : Int32) (v108_4 : Int32) (v108_5 : Int32) (v108_6 : Int32) (v108_7 : Int32) (v108_8 : Int32) (H : Heap) (locs : List Loc) (ls : Array Slot), w_member_L108 Q E n108 U108 v108_1 v108_4 v108_5 v108_6 v108_7 v108_8 → shy S U108 → Rep g ad A s U108 H locs → lv_has ls 9 [(0, .ref (ad 0)), (1, .int v108_1), (4, .int v108_4), (5, .int v108_5), (6, .int v108_6), (7, .int v108_7), (8, .int v108_8)] → W p l e (headSpec (wt2 yX14_member cX14_member 9 (some .int)) ({ frames := 3, cells := 0, slots := 0, locals := 67 })).room s m ([.ref (ad 0), .int x1, .int x2] : List Value).toArray below meth c H locs 0 0 (vx_MQ below (va_Qi (fun (r : Int32) (u : MS) => Q r u ∧ wfM u ∧ shy S u) (fun (u : MS) (t : State) => qE g ad A u t) A) ((vx_X (fun (u : MS) => E u ∧ wfM u ∧ shy S u) (fun (n9 : String) (u : MS) (t : State) => n9 = RJxb5711 ∧ qE g ad A u t) A)) ([.ref (ad 0), .int x1, .int x2] : List Value).toArray s 0 0 A) (F0 m 108 ls []) := by
            intro n108
            induction n108 with
            | zero => intro U108 v108_1 v108_4 v108_5 v108_6 v108_7 v108_8 H locs ls h hsh hR hl; unfold w_member_L108 at h; exact h.elim
            | succ n108 ih_108 =>
              intro U108 v108_1 v108_4 v108_5 v108_6 v108_7 v108_8 H locs ls h hsh hR hl
              unfold w_member_L108 at h
              refine lv_iload hx hb dX14_member_108 (lv_at hl 6 rfl) ?_
              refine lv_iload hx hb dX14_member_110 (lv_at hl 4 rfl) ?_
              refine lv_icmp_ge (tgt := 182) hx hb dX14_member_112 (by decide) (fun c33 => ?_) (fun c33 => ?_)
              · replace h := h.1 (k_le rfl rfl c33)
                refine lv_aload_n hx hb dX14_member_182 rfl (lv_at hl 0 rfl) ?_
                refine lv_iload hx hb dX14_member_183 (lv_at hl 5 rfl) ?_
                have J_193 : ∀ (U193 : MS) (t193_0 : Int32) (v193_1 : Int32) (v193_7 : Int32) (H : Heap) (locs : List Loc) (ls : Array Slot), w_member_J193 Q E U193 t193_0 v193_1 v193_7 → (t193_0 = 0 ∨ t193_0 = 1) → shy S U193 → Rep g ad A s U193 H locs → lv_has ls 9 [(1, .int v193_1), (7, .int v193_7)] → W p l e (headSpec (wt2 yX14_member cX14_member 9 (some .int)) ({ frames := 3, cells := 0, slots := 0, locals := 67 })).room s m ([.ref (ad 0), .int x1, .int x2] : List Value).toArray below meth c H locs 0 0 (vx_MQ below (va_Qi (fun (r : Int32) (u : MS) => Q r u ∧ wfM u ∧ shy S u) (fun (u : MS) (t : State) => qE g ad A u t) A) ((vx_X (fun (u : MS) => E u ∧ wfM u ∧ shy S u) (fun (n9 : String) (u : MS) (t : State) => n9 = RJxb5711 ∧ qE g ad A u t) A)) ([.ref (ad 0), .int x1, .int x2] : List Value).toArray s 0 0 A) (F0 m 193 ls [.int t193_0, .ref (ad 0)]) := by
                  intro U193 t193_0 v193_1 v193_7 H locs ls h hz_t193_0 hsh hR hl
                  unfold w_member_J193 at h
                  refine lv_iload_n hx hb dX14_member_193 rfl (lv_at hl 0 rfl) ?_
                  obtain ⟨Q34, EQ34, h0, h⟩ := h
                  have hFc := rfree hR hA
                  refine vx_callv (vx_runV (As := [.int t193_0, .int v193_1]) (rest := []) ⟨hx, hb, hml, hown, hts⟩ (r_point l g ad H.size U193 t193_0 v193_1 hR.w hz_t193_0 Q34 EQ34 h0) (cwV 2 hts (gd2_V kx_302 kx_303 kx_304 kx_177 kx_305) rfl rfl rfl (by decide +kernel) ⟨Nat.le_of_ble_eq_true rfl, Nat.le_of_ble_eq_true rfl⟩) ⟨rblind, va_recv hR.K hR.P (ci := 13) (q0 := 0) rfl (hR.at14 hR.w.1), fun U hU hW9 => rmk hU hW9 hR hex hE hFc⟩ rfl rfl hl.1 rfl (lv_room (Nat.le_of_ble_eq_true rfl)) dX14_member_194 ⟨Nat.le_of_ble_eq_true rfl, Nat.le_of_ble_eq_true rfl⟩) hR.sS (fun q _ h => hFc q h) hFc (fun q _ h => hFc q h) (fun E9 ce9 q9 u9 t9 H1 locs ht9 hvm9 hp9 hB9 hz9 hk9 hS hce9 hcv9 hcl9 => ?_) (fun  S35 t9 H1 locs ht9 hvm9 hw9 hB9 hz9 hk9 hS => ?_)
                  · obtain ⟨hp9, hwx, hsx⟩ := hp9
                    obtain ⟨rfl, hBx⟩ := hB9
                    replace h := h.2 u9 hp9
                    have hR : Rep g ad A s u9 H1 locs := hR.call ht9 hBx hwx hS hFc
                    have hsh := hsh.tr hsx
                    exact vx_out (E := RJxb5711) (q := q9) (fun x h9 => (hnt x h9).elim) hlocks hce9 hcv9 hcl9 (fun t9 ht9 ha9 => ⟨u9, ⟨h, hR.w, hsh⟩, ⟨rfl, by rw [ht9]; exact hR.P, hR.D⟩, hR.sS.F ht9⟩) hR.sS.2.2 (Nat.le_of_ble_eq_true rfl) (Nat.le_of_ble_eq_true rfl)
                  · obtain ⟨hq36, hw9, hs9⟩ := hw9
                    have hR : Rep g ad A s S35 H1 locs := hR.call ht9 hB9 hw9 hS hFc
                    have hsh := hsh.tr hs9
                    replace h := h.1  S35 hq36
                    clear hB9 hz9 hk9 hvm9 ht9 hw9 hs9 hS
                    generalize H1 = H at hR ⊢
                    refine lv_iload hx hb dX14_member_197 (lv_at hl 1 rfl) ?_
                    exact vx_ret (W.iret (v := v193_7) hx hb hr (fun t9 ht9 hW9 => ⟨⟨_, S35, rfl, ⟨h, hR.w, hsh⟩, ⟨by rw [ht9]; exact hR.P, hR.D⟩⟩, hR.sS.F ht9⟩) hR.sS.2.2 dX14_member_199)
                refine lv_if_lt (tgt := 192) hx hb dX14_member_185 (by decide) (fun c37 => ?_) (fun c37 => ?_)
                · replace h := h.1 (k_lt rfl (by decide) c37)
                  refine lv_iconst (v := 0) hx hb dX14_member_192 (by decide) ?_
                  exact J_193 U108 0 v108_1 v108_7 _ _ ls h (Or.inl rfl) hsh hR (lv_sub hl [1, 5] rfl)
                · replace h := h.2 (k_nlt rfl (by decide) c37)
                  refine lv_iconst (v := 1) hx hb dX14_member_188 (by decide) ?_
                  refine lv_goto (tgt := 193) hx hb dX14_member_189 (by decide) ?_
                  exact J_193 U108 1 v108_1 v108_7 _ _ ls h (Or.inr rfl) hsh hR (lv_sub hl [1, 5] rfl)
              · replace h := h.2 (k_nle rfl rfl c33)
                refine lv_aload_n hx hb dX14_member_115 rfl (lv_at hl 0 rfl) ?_
                refine lv_aload_n hx hb dX14_member_116 rfl (lv_at hl 0 rfl) ?_
                refine lv_aload_n hx hb dX14_member_117 rfl (lv_at hl 0 rfl) ?_
                refine va_get (D := rD g) (ci := 13) (v := .ref (ad 9)) (C := RX14) (T := TX14) (N := 143) hx hb hts in2X14 hown hR.K hR.P 0 (hR.at14 hR.w.1) rfl 24 (by decide) (hts _ kx_210) (fun _ h9 => h9) (congrArg (fun z => some (vf ad z)) (hR.w.2.1 _ fin_24).1) dX14_member_118 ?_
                refine lv_iload hx hb dX14_member_121 (lv_at hl 6 rfl) ?_
                obtain ⟨hv38, h⟩ := h
                refine va_iald hx hb hR.K hR.P 9 1 (hR.atI (hR.w.2.1 _ fin_24).2.1) rfl (k_ixN (k_ix (n := 48) (x := v108_8) (a := v108_8.toInt) rfl hv38) (hR.w.2.1 _ fin_24).2.2) dX14_member_123 ?_
                refine lv_topi (fun z39 ez39 => ?_)
                obtain rfl : z39 = (qI U108 9 v108_8.toInt.toNat) := ez39
                refine lv_iconst (v := 2) hx hb dX14_member_124 (by decide) ?_
                refine lv_iadd hx hb dX14_member_125 ?_
                refine lv_topi (fun z40 ez40 => ?_)
                obtain rfl : z40 = ((qI U108 9 v108_8.toInt.toNat) + (2 : Int32)) := ez40
                obtain ⟨hv41, h⟩ := h
                have hFc := rfree hR hA
                refine va_calli (va_runV (As := [.int ((qI U108 9 v108_8.toInt.toNat) + (2 : Int32))]) (rest := [.ref (ad 0)]) ⟨hx, hb, hml, hown, hts⟩ (r_two l g ad H.size U108 ((qI U108 9 v108_8.toInt.toNat) + (2 : Int32)) hR.w  hv41) (cwV 1 hts (gd2_V kx_186 kx_187 kx_188 kx_177 kx_189) rfl rfl rfl (by decide +kernel) ⟨Nat.le_of_ble_eq_true rfl, Nat.le_of_ble_eq_true rfl⟩) ⟨rblind, va_recv hR.K hR.P (ci := 13) (q0 := 0) rfl (hR.at14 hR.w.1), fun U hU hW9 => rmk hU hW9 hR hex hE hFc⟩ rfl rfl hl.1 rfl (lv_room (Nat.le_of_ble_eq_true rfl)) dX14_member_126 ⟨Nat.le_of_ble_eq_true rfl, Nat.le_of_ble_eq_true rfl⟩) hR.sS (fun q _ h => hFc q h) hFc (fun r42 u9 t9 H1 locs ht9 hvm9 hw9 hB9 hz9 hk9 hS => ?_)
                have hR : Rep g ad A s U108 H1 locs := hR.call ht9 hB9 hR.w hS hFc
                obtain rfl : r42 = (f_two U108 ((qI U108 9 v108_8.toInt.toNat) + (2 : Int32))) := hw9
                clear hB9 hz9 hk9 hvm9 ht9 hS
                generalize H1 = H at hR ⊢
                refine lv_aload_n hx hb dX14_member_129 rfl (lv_at hl 0 rfl) ?_
                refine va_get (D := rD g) (ci := 13) (v := .ref (ad 6)) (C := RX14) (T := TX14) (N := 143) hx hb hts in2X14 hown hR.K hR.P 0 (hR.at14 hR.w.1) rfl 17 (by decide) (hts _ kx_208) (fun _ h9 => h9) (congrArg (fun z => some (vf ad z)) (hR.w.2.1 _ fin_17).1) dX14_member_130 ?_
                refine lv_iload hx hb dX14_member_133 (lv_at hl 2 rfl) ?_
                obtain ⟨hv44, h⟩ := h
                refine va_iald hx hb hR.K hR.P 6 1 (hR.atI (hR.w.2.1 _ fin_17).2.1) rfl (k_ixN (k_ix (n := 502) (x := v108_4) (a := v108_4.toInt) rfl hv44) (hR.w.2.1 _ fin_17).2.2) dX14_member_135 ?_
                refine lv_topi (fun z45 ez45 => ?_)
                obtain rfl : z45 = (qI U108 6 v108_4.toInt.toNat) := ez45
                obtain ⟨Q46, h0, h⟩ := h
                have hFc := rfree hR hA
                refine va_calli (va_runV (As := [.int (f_two U108 ((qI U108 9 v108_8.toInt.toNat) + (2 : Int32))), .int (qI U108 6 v108_4.toInt.toNat)]) (rest := []) ⟨hx, hb, hml, hown, hts⟩ (r_isSame l g ad H.size U108 (f_two U108 ((qI U108 9 v108_8.toInt.toNat) + (2 : Int32))) (qI U108 6 v108_4.toInt.toNat) hR.w  Q46 h0) (cwV 2 hts (gd2_V kx_244 kx_245 kx_246 kx_177 kx_247) rfl rfl rfl (by decide +kernel) ⟨Nat.le_of_ble_eq_true rfl, Nat.le_of_ble_eq_true rfl⟩) ⟨rblind, va_recv hR.K hR.P (ci := 13) (q0 := 0) rfl (hR.at14 hR.w.1), fun U hU hW9 => rmk hU hW9 hR hex hE hFc⟩ rfl rfl hl.1 rfl (lv_room (Nat.le_of_ble_eq_true rfl)) dX14_member_136 ⟨Nat.le_of_ble_eq_true rfl, Nat.le_of_ble_eq_true rfl⟩) hR.sS (fun q _ h => hFc q h) hFc (fun r47 S48 t9 H1 locs ht9 hvm9 hw9 hB9 hz9 hk9 hS => ?_)
                obtain ⟨hq49, hw9, hs9, hz_r47⟩ := hw9
                have hR : Rep g ad A s S48 H1 locs := hR.call ht9 hB9 hw9 hS hFc
                have hsh := hsh.tr hs9
                replace h := h r47 S48 hq49
                clear hB9 hz9 hk9 hvm9 ht9 hw9 hs9 hS
                generalize H1 = H at hR ⊢
                have J_176 : ∀ (U176 : MS) (v176_1 : Int32) (v176_4 : Int32) (v176_5 : Int32) (v176_6 : Int32) (v176_7 : Int32) (v176_8 : Int32) (H : Heap) (locs : List Loc) (ls : Array Slot), w_member_J176 Q E (w_member_L108 Q E n108) U176 v176_1 v176_4 v176_5 v176_6 v176_7 v176_8 → shy S U176 → Rep g ad A s U176 H locs → lv_has ls 9 [(0, .ref (ad 0)), (1, .int v176_1), (4, .int v176_4), (5, .int v176_5), (6, .int v176_6), (7, .int v176_7), (8, .int v176_8)] → W p l e (headSpec (wt2 yX14_member cX14_member 9 (some .int)) ({ frames := 3, cells := 0, slots := 0, locals := 67 })).room s m ([.ref (ad 0), .int x1, .int x2] : List Value).toArray below meth c H locs 0 0 (vx_MQ below (va_Qi (fun (r : Int32) (u : MS) => Q r u ∧ wfM u ∧ shy S u) (fun (u : MS) (t : State) => qE g ad A u t) A) ((vx_X (fun (u : MS) => E u ∧ wfM u ∧ shy S u) (fun (n9 : String) (u : MS) (t : State) => n9 = RJxb5711 ∧ qE g ad A u t) A)) ([.ref (ad 0), .int x1, .int x2] : List Value).toArray s 0 0 A) (F0 m 176 ls []) := by
                  intro U176 v176_1 v176_4 v176_5 v176_6 v176_7 v176_8 H locs ls h hsh hR hl
                  unfold w_member_J176 at h
                  obtain ⟨a50, ea50⟩ : ∃ z, z = (v176_8 + Int32.ofInt 1) := ⟨_, rfl⟩
                  replace h := h a50 ea50
                  refine lv_iinc (v := a50) (lv' := [(8, .int a50), (0, .ref (ad 0)), (1, .int v176_1), (4, .int v176_4), (5, .int v176_5), (6, .int v176_6), (7, .int v176_7)]) hx hb dX14_member_176 hl (k := 6) rfl ea50.symm (by decide) rfl (fun ls hl => ?_)
                  refine lv_goto (tgt := 108) hx hb dX14_member_179 (by decide) ?_
                  exact ih_108 U176 v176_1 v176_4 v176_5 v176_6 v176_7 a50 _ _ ls h  hsh hR (lv_sub hl [1, 2, 3, 4, 5, 6, 0] rfl)
                refine lv_if_eq (tgt := 176) hx hb dX14_member_139 (by decide) (fun c51 => ?_) (fun c51 => ?_)
                · replace h := h.1 (k_eq rfl (by decide) c51)
                  exact J_176 S48 v108_1 v108_4 v108_5 v108_6 v108_7 v108_8 _ _ ls h  hsh hR (lv_sub hl [0, 1, 2, 3, 4, 5, 6] rfl)
                · replace h := h.2 (k_ne rfl (by decide) c51)
                  refine lv_aload_n hx hb dX14_member_142 rfl (lv_at hl 0 rfl) ?_
                  refine lv_aload_n hx hb dX14_member_143 rfl (lv_at hl 0 rfl) ?_
                  refine lv_aload_n hx hb dX14_member_144 rfl (lv_at hl 0 rfl) ?_
                  refine va_get (D := rD g) (ci := 13) (v := .ref (ad 9)) (C := RX14) (T := TX14) (N := 143) hx hb hts in2X14 hown hR.K hR.P 0 (hR.at14 hR.w.1) rfl 24 (by decide) (hts _ kx_210) (fun _ h9 => h9) (congrArg (fun z => some (vf ad z)) (hR.w.2.1 _ fin_24).1) dX14_member_145 ?_
                  refine lv_iload hx hb dX14_member_148 (lv_at hl 6 rfl) ?_
                  obtain ⟨hv52, h⟩ := h
                  refine va_iald hx hb hR.K hR.P 9 1 (hR.atI (hR.w.2.1 _ fin_24).2.1) rfl (k_ixN (k_ix (n := 48) (x := v108_8) (a := v108_8.toInt) rfl hv52) (hR.w.2.1 _ fin_24).2.2) dX14_member_150 ?_
                  refine lv_topi (fun z53 ez53 => ?_)
                  obtain rfl : z53 = (qI S48 9 v108_8.toInt.toNat) := ez53
                  refine lv_iconst (v := 4) hx hb dX14_member_151 (by decide) ?_
                  refine lv_iadd hx hb dX14_member_152 ?_
                  refine lv_topi (fun z54 ez54 => ?_)
                  obtain rfl : z54 = ((qI S48 9 v108_8.toInt.toNat) + (4 : Int32)) := ez54
                  obtain ⟨hv55, h⟩ := h
                  have hFc := rfree hR hA
                  refine va_calli (va_runV (As := [.int ((qI S48 9 v108_8.toInt.toNat) + (4 : Int32))]) (rest := [.ref (ad 0)]) ⟨hx, hb, hml, hown, hts⟩ (r_two l g ad H.size S48 ((qI S48 9 v108_8.toInt.toNat) + (4 : Int32)) hR.w  hv55) (cwV 1 hts (gd2_V kx_186 kx_187 kx_188 kx_177 kx_189) rfl rfl rfl (by decide +kernel) ⟨Nat.le_of_ble_eq_true rfl, Nat.le_of_ble_eq_true rfl⟩) ⟨rblind, va_recv hR.K hR.P (ci := 13) (q0 := 0) rfl (hR.at14 hR.w.1), fun U hU hW9 => rmk hU hW9 hR hex hE hFc⟩ rfl rfl hl.1 rfl (lv_room (Nat.le_of_ble_eq_true rfl)) dX14_member_153 ⟨Nat.le_of_ble_eq_true rfl, Nat.le_of_ble_eq_true rfl⟩) hR.sS (fun q _ h => hFc q h) hFc (fun r56 u9 t9 H1 locs ht9 hvm9 hw9 hB9 hz9 hk9 hS => ?_)
                  have hR : Rep g ad A s S48 H1 locs := hR.call ht9 hB9 hR.w hS hFc
                  obtain rfl : r56 = (f_two S48 ((qI S48 9 v108_8.toInt.toNat) + (4 : Int32))) := hw9
                  clear hB9 hz9 hk9 hvm9 ht9 hS
                  generalize H1 = H at hR ⊢
                  refine lv_aload_n hx hb dX14_member_156 rfl (lv_at hl 0 rfl) ?_
                  refine va_get (D := rD g) (ci := 13) (v := .ref (ad 7)) (C := RX14) (T := TX14) (N := 143) hx hb hts in2X14 hown hR.K hR.P 0 (hR.at14 hR.w.1) rfl 18 (by decide) (hts _ kx_209) (fun _ h9 => h9) (congrArg (fun z => some (vf ad z)) (hR.w.2.1 _ fin_18).1) dX14_member_157 ?_
                  refine lv_iload hx hb dX14_member_160 (lv_at hl 2 rfl) ?_
                  obtain ⟨hv58, h⟩ := h
                  refine va_iald hx hb hR.K hR.P 7 1 (hR.atI (hR.w.2.1 _ fin_18).2.1) rfl (k_ixN (k_ix (n := 502) (x := v108_4) (a := v108_4.toInt) rfl hv58) (hR.w.2.1 _ fin_18).2.2) dX14_member_162 ?_
                  refine lv_topi (fun z59 ez59 => ?_)
                  obtain rfl : z59 = (qI S48 7 v108_4.toInt.toNat) := ez59
                  obtain ⟨Q60, h0, h⟩ := h
                  have hFc := rfree hR hA
                  refine va_calli (va_runV (As := [.int (f_two S48 ((qI S48 9 v108_8.toInt.toNat) + (4 : Int32))), .int (qI S48 7 v108_4.toInt.toNat)]) (rest := []) ⟨hx, hb, hml, hown, hts⟩ (r_isSame l g ad H.size S48 (f_two S48 ((qI S48 9 v108_8.toInt.toNat) + (4 : Int32))) (qI S48 7 v108_4.toInt.toNat) hR.w  Q60 h0) (cwV 2 hts (gd2_V kx_244 kx_245 kx_246 kx_177 kx_247) rfl rfl rfl (by decide +kernel) ⟨Nat.le_of_ble_eq_true rfl, Nat.le_of_ble_eq_true rfl⟩) ⟨rblind, va_recv hR.K hR.P (ci := 13) (q0 := 0) rfl (hR.at14 hR.w.1), fun U hU hW9 => rmk hU hW9 hR hex hE hFc⟩ rfl rfl hl.1 rfl (lv_room (Nat.le_of_ble_eq_true rfl)) dX14_member_163 ⟨Nat.le_of_ble_eq_true rfl, Nat.le_of_ble_eq_true rfl⟩) hR.sS (fun q _ h => hFc q h) hFc (fun r61 S62 t9 H1 locs ht9 hvm9 hw9 hB9 hz9 hk9 hS => ?_)
                  obtain ⟨hq63, hw9, hs9, hz_r61⟩ := hw9
                  have hR : Rep g ad A s S62 H1 locs := hR.call ht9 hB9 hw9 hS hFc
                  have hsh := hsh.tr hs9
                  replace h := h r61 S62 hq63
                  clear hB9 hz9 hk9 hvm9 ht9 hw9 hs9 hS
                  generalize H1 = H at hR ⊢
                  refine lv_if_eq (tgt := 176) hx hb dX14_member_166 (by decide) (fun c64 => ?_) (fun c64 => ?_)
                  · replace h := h.1 (k_eq rfl (by decide) c64)
                    exact J_176 S62 v108_1 v108_4 v108_5 v108_6 v108_7 v108_8 _ _ ls h  hsh hR (lv_sub hl [0, 1, 2, 3, 4, 5, 6] rfl)
                  · replace h := h.2 (k_ne rfl (by decide) c64)
                    refine lv_iload hx hb dX14_member_169 (lv_at hl 6 rfl) ?_
                    refine lv_iload hx hb dX14_member_171 (lv_at hl 3 rfl) ?_
                    refine lv_isub hx hb dX14_member_173 ?_
                    refine lv_topi (fun z65 ez65 => ?_)
                    obtain rfl : z65 = (v108_8 - v108_5) := ez65
                    obtain ⟨a66, ea66⟩ : ∃ z, z = (v108_8 - v108_5) := ⟨_, rfl⟩
                    rw [← ea66]
                    replace h := h a66 ea66
                    refine lv_istore (lv' := [(7, .int a66), (0, .ref (ad 0)), (1, .int v108_1), (4, .int v108_4), (5, .int v108_5), (6, .int v108_6), (8, .int v108_8)]) hx hb dX14_member_174 hl (by decide) rfl (fun ls hl => ?_)
                    exact J_176 S62 v108_1 v108_4 v108_5 v108_6 a66 v108_8 _ _ ls h  hsh hR (lv_sub hl [1, 2, 3, 4, 5, 0, 6] rfl)
          obtain ⟨n9, h⟩ := h
          exact J_108 n9 U99 v99_1 v99_4 v99_5 t99_0 (-1) v99_5 _ _ ls h  hsh hR (lv_sub hl [3, 4, 5, 6, 2, 1, 0] rfl)
        refine lv_icmp_ne (tgt := 95) hx hb dX14_member_85 (by decide) (fun c67 => ?_) (fun c67 => ?_)
        · replace h := h.2 (k_ne rfl (by decide) c67)
          refine lv_aload_n hx hb dX14_member_95 rfl (lv_at hl 1 rfl) ?_
          refine va_get (D := rD g) (ci := 13) (v := .int (qI U80 0 21)) (C := RX14) (T := TX14) (N := 143) hx hb hts in2X14 hown hR.K hR.P 0 (hR.at14 hR.w.1) rfl 21 (by decide) (hts _ kx_205) (fun _ h9 => h9) rfl dX14_member_96 ?_
          exact J_99 U80 (qI U80 0 21) v80_1 v80_4 t80_0 _ _ ls h  hsh hR (lv_sub hl [1, 2, 4, 0] rfl)
        · replace h := h.1 (k_eq rfl (by decide) c67)
          refine lv_aload_n hx hb dX14_member_88 rfl (lv_at hl 1 rfl) ?_
          refine va_get (D := rD g) (ci := 13) (v := .int (qI U80 0 22)) (C := RX14) (T := TX14) (N := 143) hx hb hts in2X14 hown hR.K hR.P 0 (hR.at14 hR.w.1) rfl 22 (by decide) (hts _ kx_239) (fun _ h9 => h9) rfl dX14_member_89 ?_
          refine lv_goto (tgt := 99) hx hb dX14_member_92 (by decide) ?_
          exact J_99 U80 (qI U80 0 22) v80_1 v80_4 t80_0 _ _ ls h  hsh hR (lv_sub hl [1, 2, 4, 0] rfl)
      refine lv_icmp_ne (tgt := 76) hx hb dX14_member_69 (by decide) (fun c68 => ?_) (fun c68 => ?_)
      · replace h := h.2 (k_ne rfl (by decide) c68)
        refine lv_aload_n hx hb dX14_member_76 rfl (lv_at hl 2 rfl) ?_
        refine va_get (D := rD g) (ci := 13) (v := .int (qI S31 0 22)) (C := RX14) (T := TX14) (N := 143) hx hb hts in2X14 hown hR.K hR.P 0 (hR.at14 hR.w.1) rfl 22 (by decide) (hts _ kx_239) (fun _ h9 => h9) rfl dX14_member_77 ?_
        exact J_80 S31 (qI S31 0 22) x1 x2 a15 _ _ ls h  hsh hR (lv_sub hl [2, 3, 4, 0] rfl)
      · replace h := h.1 (k_eq rfl (by decide) c68)
        refine lv_iconst (v := 0) hx hb dX14_member_72 (by decide) ?_
        refine lv_goto (tgt := 80) hx hb dX14_member_73 (by decide) ?_
        exact J_80 S31 0 x1 x2 a15 _ _ ls h  hsh hR (lv_sub hl [2, 3, 4, 0] rfl)
